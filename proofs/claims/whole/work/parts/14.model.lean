/-! the reference, its methods but for playing -/
theorem pstM {E : wE} {am : Nat → Nat} {x : Int32 × SS} {r : Int32} {S' : SS} (e : x = (r, S')) : r = x.1 ∧ wM E am S' = wM E am x.2 := by rw [e]; exact ⟨rfl, rfl⟩
theorem wM_sSizeI {E : wE} {am : Nat → Nat} {S : SS} {x : Int32} {i : Nat} (e : x.toNatClampNeg = i) (v : Int32) : (wM E am S).set 2 (am 2, .inl (E.2 0, 5, .inl (upd (S.2.2 1) x.toNatClampNeg v))) = wM E am (sV S 1 i v) := by rw [e]; rfl
theorem wM_sOnI {E : wE} {am : Nat → Nat} {S : SS} {x : Int32} {i : Nat} (e : x.toNatClampNeg = i) (v : Int32) : (wM E am S).set 3 (am 3, .inl (E.2 1, 5, .inl (upd (S.2.2 0) x.toNatClampNeg v))) = wM E am (sV S 0 i v) := by rw [e]; rfl
theorem wM_sRowsI {E : wE} {am : Nat → Nat} {S : SS} {x : Int32} {i : Nat} (e : x.toNatClampNeg = i) (v : Int32) : (wM E am S).set 5 (am 5, .inl (E.2 0, 5, .inl (upd (S.2.2 3) x.toNatClampNeg v))) = wM E am (sV S 3 i v) := by rw [e]; rfl
theorem wM_sColsI {E : wE} {am : Nat → Nat} {S : SS} {x : Int32} {i : Nat} (e : x.toNatClampNeg = i) (v : Int32) : (wM E am S).set 6 (am 6, .inl (E.2 0, 5, .inl (upd (S.2.2 4) x.toNatClampNeg v))) = wM E am (sV S 4 i v) := by rw [e]; rfl
theorem wM_sRuledI {E : wE} {am : Nat → Nat} {S : SS} {x : Int32} {i : Nat} (e : x.toNatClampNeg = i) (v : Int32) : (wM E am S).set 7 (am 7, .inl (E.2 1, 5, .inl (upd (S.2.2 2) x.toNatClampNeg v))) = wM E am (sV S 2 i v) := by rw [e]; rfl
theorem wM_sOffsI {E : wE} {am : Nat → Nat} {S : SS} {x : Int32} {i : Nat} (e : x.toNatClampNeg = i) (v : Int32) : (wM E am S).set 8 (am 8, .inl (E.2 0, 5, .inl (upd (S.2.2 5) x.toNatClampNeg v))) = wM E am (sV S 5 i v) := by rw [e]; rfl
theorem wM_sOutsI {E : wE} {am : Nat → Nat} {S : SS} {x : Int32} {i : Nat} (e : x.toNatClampNeg = i) (v : Int32) : (wM E am S).set 9 (am 9, .inl (E.2 0, 5, .inl (upd (S.2.2 6) x.toNatClampNeg v))) = wM E am (sV S 6 i v) := by rw [e]; rfl
theorem Inv.hd0 {S : SS} (h : Inv S) : ¬ S.2.2 7 0 < 0 := by
  obtain ⟨q, hq, e⟩ := h.2.1
  rw [e]
  exact nI_pos (by omega)
set_option maxHeartbeats 4000000 in
set_option maxRecDepth 100000 in
theorem mX3_isLane (l : Launch) (E : wE) (ws : va_W) (x : Int32) : MCi l E yX3_isLane wsX3_isLane { frames := 0, cells := 0, slots := 0, locals := 0 } [.int x] (ws) (fun r w => r = bI (isl x) ∧ w = ws) := by
  refine wEnterI (cc := cX3_isLane) (nL := 1) (ret := (some .boolean)) (own := RX3) (by decide) rfl rfl (Nat.le_of_ble_eq_true rfl) ?_
  intro p e s m below meth c A ls K hl hw
  have hl : lv_has ls 1 [(0, .int x)] := hl
  obtain ⟨hx, hb, -, hml, hown, hts, -, -, -⟩ := id K
  refine lv_iload_n hx hb dX3_isLane_0 rfl (lv_at hl 0 rfl) ?_
  refine lv_if_lt (tgt := 13) hx hb dX3_isLane_1 (by decide) (fun c_1 => ?_) (fun c_1 => ?_)
  · refine lv_iconst (v := 0) hx hb dX3_isLane_13 (by decide) ?_
    exact wRetZ K hw dX3_isLane_14 rfl ⟨bI_0 (fun q => q.1 c_1), rfl⟩
  · refine lv_iload_n hx hb dX3_isLane_4 rfl (lv_at hl 0 rfl) ?_
    refine lv_iconst (v := 5) hx hb dX3_isLane_5 (by decide) ?_
    refine lv_icmp_ge (tgt := 13) hx hb dX3_isLane_6 (by decide) (fun c_6 => ?_) (fun c_6 => ?_)
    · refine lv_iconst (v := 0) hx hb dX3_isLane_13 (by decide) ?_
      exact wRetZ K hw dX3_isLane_14 rfl ⟨bI_0 (fun q => q.2 c_6), rfl⟩
    · refine lv_iconst (v := 1) hx hb dX3_isLane_9 (by decide) ?_
      refine lv_goto (tgt := 14) hx hb dX3_isLane_10 (by decide) ?_
      exact wRetZ K hw dX3_isLane_14 rfl ⟨bI_1 ⟨c_1, c_6⟩, rfl⟩
set_option maxHeartbeats 4000000 in
set_option maxRecDepth 100000 in
theorem mX3_off (l : Launch) (E : wE) (am : Nat → Nat) (S : SS) (j : Nat) (hj : j < 5) : MCi l E yX3_off wsX3_off { frames := 0, cells := 0, slots := 0, locals := 0 } [.ref (am 0), .int (nI j)] (wM E am S) (fun r w => r = (xOff S j).1 ∧ w = wM E am (xOff S j).2) := by
  refine wEnterI (cc := cX3_off) (nL := 2) (ret := (some .int)) (own := RX3) (by decide) rfl rfl (Nat.le_of_ble_eq_true rfl) ?_
  intro p e s m below meth c A ls K hl hw
  have hl : lv_has ls 2 [(0, .ref (am 0)), (1, .int (nI j))] := hl
  obtain ⟨hx, hb, -, hml, hown, hts, -, -, -⟩ := id K
  have hiX3 : ∀ w ∈ wsX30, w ∈ wsX3_off := by decide +kernel
  refine lv_aload_n hx hb dX3_off_0 rfl (lv_at hl 0 rfl) ?_
  refine wGet (v := .ref (am 8)) K hw hiX3 wM_o rfl 7 (by decide) (by decide +kernel) rfl dX3_off_1 ?_
  refine lv_iload_n hx hb dX3_off_4 rfl (lv_at hl 1 rfl) ?_
  refine lv_aload_n hx hb dX3_off_5 rfl (lv_at hl 0 rfl) ?_
  refine wGet (v := .ref (am 8)) K hw hiX3 wM_o rfl 7 (by decide) (by decide +kernel) rfl dX3_off_6 ?_
  refine lv_iload_n hx hb dX3_off_9 rfl (lv_at hl 1 rfl) ?_
  refine wIald (v := S.2.2 5 j) K hw wM_offs (in5 hj) (by rw [nI_clamp (by omega)]) dX3_off_10 ?_
  refine lv_iconst (v := 1) hx hb dX3_off_11 (by decide) ?_
  refine lv_iadd hx hb dX3_off_12 ?_
  refine wIast K hw wM_offs (in5 hj) dX3_off_13 (wM_sOffsI (nI_clamp (by omega)) _) (fun H locs hw => ?_)
  refine lv_ldc (v := (-1000005)) hx hb hown (hts (.constant RX3 38 (-1000005)) (by decide +kernel)) dX3_off_14 ?_
  exact wRetI K hw dX3_off_16 ⟨rfl, rfl⟩
set_option maxHeartbeats 4000000 in
set_option maxRecDepth 100000 in
theorem mX3_out (l : Launch) (E : wE) (am : Nat → Nat) (S : SS) (j : Nat) (hj : j < 5) : MCi l E yX3_out wsX3_out { frames := 0, cells := 0, slots := 0, locals := 0 } [.ref (am 0), .int (nI j)] (wM E am S) (fun r w => r = (xOut S j).1 ∧ w = wM E am (xOut S j).2) := by
  refine wEnterI (cc := cX3_out) (nL := 2) (ret := (some .int)) (own := RX3) (by decide) rfl rfl (Nat.le_of_ble_eq_true rfl) ?_
  intro p e s m below meth c A ls K hl hw
  have hl : lv_has ls 2 [(0, .ref (am 0)), (1, .int (nI j))] := hl
  obtain ⟨hx, hb, -, hml, hown, hts, -, -, -⟩ := id K
  have hiX3 : ∀ w ∈ wsX30, w ∈ wsX3_out := by decide +kernel
  refine lv_aload_n hx hb dX3_out_0 rfl (lv_at hl 0 rfl) ?_
  refine wGet (v := .ref (am 9)) K hw hiX3 wM_o rfl 8 (by decide) (by decide +kernel) rfl dX3_out_1 ?_
  refine lv_iload_n hx hb dX3_out_4 rfl (lv_at hl 1 rfl) ?_
  refine lv_aload_n hx hb dX3_out_5 rfl (lv_at hl 0 rfl) ?_
  refine wGet (v := .ref (am 9)) K hw hiX3 wM_o rfl 8 (by decide) (by decide +kernel) rfl dX3_out_6 ?_
  refine lv_iload_n hx hb dX3_out_9 rfl (lv_at hl 1 rfl) ?_
  refine wIald (v := S.2.2 6 j) K hw wM_outs (in5 hj) (by rw [nI_clamp (by omega)]) dX3_out_10 ?_
  refine lv_iconst (v := 1) hx hb dX3_out_11 (by decide) ?_
  refine lv_iadd hx hb dX3_out_12 ?_
  refine wIast K hw wM_outs (in5 hj) dX3_out_13 (wM_sOutsI (nI_clamp (by omega)) _) (fun H locs hw => ?_)
  refine lv_ldc (v := (-1000006)) hx hb hown (hts (.constant RX3 39 (-1000006)) (by decide +kernel)) dX3_out_14 ?_
  exact wRetI K hw dX3_out_16 ⟨rfl, rfl⟩
set_option maxHeartbeats 4000000 in
set_option maxRecDepth 100000 in
theorem mX3_stored (l : Launch) (E : wE) (ws : va_W) (k : Nat) (hk : k < 5) (v : Int64) : MCi l E yX3_stored wsX3_stored { frames := 0, cells := 0, slots := 0, locals := 0 } [.int (nI k), .long v] (ws) (fun r w => r = sto k v ∧ w = ws) := by
  refine wEnterI (cc := cX3_stored) (nL := 5) (ret := (some .int)) (own := RX3) (by decide) rfl rfl (Nat.le_of_ble_eq_true rfl) ?_
  intro p e s m below meth c A ls K hl hw
  have hl : lv_has ls 5 [(0, .int (nI k)), (1, .long v)] := hl
  obtain ⟨hx, hb, -, hml, hown, hts, -, -, -⟩ := id K
  rcases (show k = 0 ∨ k = 1 ∨ k = 2 ∨ k = 3 ∨ k = 4 by omega) with rfl | rfl | rfl | rfl | rfl
  · refine lv_iload_n hx hb dX3_stored_0 rfl (lv_at hl 0 rfl) ?_
    refine lv_iconst (v := 2) hx hb dX3_stored_1 (by decide) ?_
    refine lv_icmp_ne (tgt := 36) hx hb dX3_stored_2 (by decide) (fun c_2 => ?_) (fun c_2 => ?_)
    · refine lv_lload_n hx hb dX3_stored_36 rfl (lv_at hl 1 rfl) ?_
      refine lv_ldc2 (v := 65535) hx hb hown (hts (.constantLong RX3 44 65535) (by decide +kernel)) dX3_stored_37 ?_
      refine lv_land hx hb dX3_stored_40 ?_
      refine lv_l2i (v := (v &&& 65535).toInt32) hx hb dX3_stored_41 rfl ?_
      obtain ⟨n, hn, en, em⟩ := low_of v
      rw [en]
      refine lv_istore_n (lv' := [(3, .int (nI n)), (0, .int (nI 0)), (1, .long v)]) hx hb dX3_stored_42 rfl hl (by decide) rfl (fun ls hl => ?_)
      refine lv_iload_n hx hb dX3_stored_43 rfl (lv_at hl 1 rfl) ?_
      refine lv_if_ne (tgt := 49) hx hb dX3_stored_44 (by decide) (fun c_44 => ?_) (fun c_44 => ?_)
      · exact absurd c_44 (by decide)
      · refine lv_iload_n hx hb dX3_stored_47 rfl (lv_at hl 0 rfl) ?_
        exact wRetI K hw dX3_stored_48 ⟨en.symm, rfl⟩
    · exact absurd c_2 (by decide)
  · refine lv_iload_n hx hb dX3_stored_0 rfl (lv_at hl 0 rfl) ?_
    refine lv_iconst (v := 2) hx hb dX3_stored_1 (by decide) ?_
    refine lv_icmp_ne (tgt := 36) hx hb dX3_stored_2 (by decide) (fun c_2 => ?_) (fun c_2 => ?_)
    · refine lv_lload_n hx hb dX3_stored_36 rfl (lv_at hl 1 rfl) ?_
      refine lv_ldc2 (v := 65535) hx hb hown (hts (.constantLong RX3 44 65535) (by decide +kernel)) dX3_stored_37 ?_
      refine lv_land hx hb dX3_stored_40 ?_
      refine lv_l2i (v := (v &&& 65535).toInt32) hx hb dX3_stored_41 rfl ?_
      obtain ⟨n, hn, en, em⟩ := low_of v
      rw [en]
      refine lv_istore_n (lv' := [(3, .int (nI n)), (0, .int (nI 1)), (1, .long v)]) hx hb dX3_stored_42 rfl hl (by decide) rfl (fun ls hl => ?_)
      refine lv_iload_n hx hb dX3_stored_43 rfl (lv_at hl 1 rfl) ?_
      refine lv_if_ne (tgt := 49) hx hb dX3_stored_44 (by decide) (fun c_44 => ?_) (fun c_44 => ?_)
      · refine lv_iload_n hx hb dX3_stored_49 rfl (lv_at hl 1 rfl) ?_
        refine lv_iconst (v := 1) hx hb dX3_stored_50 (by decide) ?_
        refine lv_icmp_ne (tgt := 69) hx hb dX3_stored_51 (by decide) (fun c_51 => ?_) (fun c_51 => ?_)
        · exact absurd c_51 (by decide)
        · refine lv_iload_n hx hb dX3_stored_54 rfl (lv_at hl 0 rfl) ?_
          refine lv_ldc (v := 32768) hx hb hown (hts (.constant RX3 46 32768) (by decide +kernel)) dX3_stored_55 ?_
          refine lv_icmp_lt (tgt := 67) hx hb dX3_stored_57 (by decide) (fun c_57 => ?_) (fun c_57 => ?_)
          · refine lv_iload_n hx hb dX3_stored_67 rfl (lv_at hl 0 rfl) ?_
            exact wRetI K hw dX3_stored_68 ⟨sto1_lo hn em c_57, rfl⟩
          · refine lv_iload_n hx hb dX3_stored_60 rfl (lv_at hl 0 rfl) ?_
            refine lv_ldc (v := 65536) hx hb hown (hts (.constant RX3 47 65536) (by decide +kernel)) dX3_stored_61 ?_
            refine lv_isub hx hb dX3_stored_63 ?_
            refine lv_goto (tgt := 68) hx hb dX3_stored_64 (by decide) ?_
            exact wRetI K hw dX3_stored_68 ⟨sto1_hi hn em c_57, rfl⟩
      · exact absurd c_44 (by decide)
    · exact absurd c_2 (by decide)
  · refine lv_iload_n hx hb dX3_stored_0 rfl (lv_at hl 0 rfl) ?_
    refine lv_iconst (v := 2) hx hb dX3_stored_1 (by decide) ?_
    refine lv_icmp_ne (tgt := 36) hx hb dX3_stored_2 (by decide) (fun c_2 => ?_) (fun c_2 => ?_)
    · exact absurd c_2 (by decide)
    · refine lv_lload_n hx hb dX3_stored_5 rfl (lv_at hl 1 rfl) ?_
      refine lv_ldc2 (v := (-8000)) hx hb hown (hts (.constantLong RX3 40 (-8000)) (by decide +kernel)) dX3_stored_6 ?_
      refine W.lcmp hx hb dX3_stored_9 ?_
      refine lv_if_ge (tgt := 19) hx hb dX3_stored_10 (by decide) (fun c_10 => ?_) (fun c_10 => ?_)
      · refine lv_lload_n hx hb dX3_stored_19 rfl (lv_at hl 1 rfl) ?_
        refine lv_ldc2 (v := 8000) hx hb hown (hts (.constantLong RX3 42 8000) (by decide +kernel)) dX3_stored_20 ?_
        refine W.lcmp hx hb dX3_stored_23 ?_
        refine lv_if_le (tgt := 33) hx hb dX3_stored_24 (by decide) (fun c_24 => ?_) (fun c_24 => ?_)
        · refine lv_lload_n hx hb dX3_stored_33 rfl (lv_at hl 1 rfl) ?_
          refine lv_l2i (v := v.toInt32) hx hb dX3_stored_34 rfl ?_
          exact wRetI K hw dX3_stored_35 ⟨cl8_mid ((lg_cmp_ge v (-8000)).mp c_10) ((lg_cmp_le v 8000).mp c_24), rfl⟩
        · refine lv_sipush (v := 8000) hx hb dX3_stored_27 (by decide) ?_
          refine lv_goto (tgt := 35) hx hb dX3_stored_30 (by decide) ?_
          exact wRetI K hw dX3_stored_35 ⟨cl8_hi (fun q => c_24 ((lg_cmp_le v 8000).mpr q)), rfl⟩
      · refine lv_sipush (v := (-8000)) hx hb dX3_stored_13 (by decide) ?_
        refine lv_goto (tgt := 35) hx hb dX3_stored_16 (by decide) ?_
        exact wRetI K hw dX3_stored_35 ⟨cl8_lo (fun q => c_10 ((lg_cmp_ge v (-8000)).mpr q)), rfl⟩
  · refine lv_iload_n hx hb dX3_stored_0 rfl (lv_at hl 0 rfl) ?_
    refine lv_iconst (v := 2) hx hb dX3_stored_1 (by decide) ?_
    refine lv_icmp_ne (tgt := 36) hx hb dX3_stored_2 (by decide) (fun c_2 => ?_) (fun c_2 => ?_)
    · refine lv_lload_n hx hb dX3_stored_36 rfl (lv_at hl 1 rfl) ?_
      refine lv_ldc2 (v := 65535) hx hb hown (hts (.constantLong RX3 44 65535) (by decide +kernel)) dX3_stored_37 ?_
      refine lv_land hx hb dX3_stored_40 ?_
      refine lv_l2i (v := (v &&& 65535).toInt32) hx hb dX3_stored_41 rfl ?_
      obtain ⟨n, hn, en, em⟩ := low_of v
      rw [en]
      refine lv_istore_n (lv' := [(3, .int (nI n)), (0, .int (nI 3)), (1, .long v)]) hx hb dX3_stored_42 rfl hl (by decide) rfl (fun ls hl => ?_)
      refine lv_iload_n hx hb dX3_stored_43 rfl (lv_at hl 1 rfl) ?_
      refine lv_if_ne (tgt := 49) hx hb dX3_stored_44 (by decide) (fun c_44 => ?_) (fun c_44 => ?_)
      · refine lv_iload_n hx hb dX3_stored_49 rfl (lv_at hl 1 rfl) ?_
        refine lv_iconst (v := 1) hx hb dX3_stored_50 (by decide) ?_
        refine lv_icmp_ne (tgt := 69) hx hb dX3_stored_51 (by decide) (fun c_51 => ?_) (fun c_51 => ?_)
        · refine lv_iload_n hx hb dX3_stored_69 rfl (lv_at hl 1 rfl) ?_
          refine lv_iconst (v := 3) hx hb dX3_stored_70 (by decide) ?_
          refine lv_icmp_ne (tgt := 78) hx hb dX3_stored_71 (by decide) (fun c_71 => ?_) (fun c_71 => ?_)
          · exact absurd c_71 (by decide)
          · refine lv_iload_n hx hb dX3_stored_74 rfl (lv_at hl 0 rfl) ?_
            refine lv_iconst (v := 2) hx hb dX3_stored_75 (by decide) ?_
            refine lv_irem hx hb dX3_stored_76 (by decide) ?_
            exact wRetI K hw dX3_stored_77 ⟨sto3_eq hn em, rfl⟩
        · exact absurd c_51 (by decide)
      · exact absurd c_44 (by decide)
    · exact absurd c_2 (by decide)
  · refine lv_iload_n hx hb dX3_stored_0 rfl (lv_at hl 0 rfl) ?_
    refine lv_iconst (v := 2) hx hb dX3_stored_1 (by decide) ?_
    refine lv_icmp_ne (tgt := 36) hx hb dX3_stored_2 (by decide) (fun c_2 => ?_) (fun c_2 => ?_)
    · refine lv_lload_n hx hb dX3_stored_36 rfl (lv_at hl 1 rfl) ?_
      refine lv_ldc2 (v := 65535) hx hb hown (hts (.constantLong RX3 44 65535) (by decide +kernel)) dX3_stored_37 ?_
      refine lv_land hx hb dX3_stored_40 ?_
      refine lv_l2i (v := (v &&& 65535).toInt32) hx hb dX3_stored_41 rfl ?_
      obtain ⟨n, hn, en, em⟩ := low_of v
      rw [en]
      refine lv_istore_n (lv' := [(3, .int (nI n)), (0, .int (nI 4)), (1, .long v)]) hx hb dX3_stored_42 rfl hl (by decide) rfl (fun ls hl => ?_)
      refine lv_iload_n hx hb dX3_stored_43 rfl (lv_at hl 1 rfl) ?_
      refine lv_if_ne (tgt := 49) hx hb dX3_stored_44 (by decide) (fun c_44 => ?_) (fun c_44 => ?_)
      · refine lv_iload_n hx hb dX3_stored_49 rfl (lv_at hl 1 rfl) ?_
        refine lv_iconst (v := 1) hx hb dX3_stored_50 (by decide) ?_
        refine lv_icmp_ne (tgt := 69) hx hb dX3_stored_51 (by decide) (fun c_51 => ?_) (fun c_51 => ?_)
        · refine lv_iload_n hx hb dX3_stored_69 rfl (lv_at hl 1 rfl) ?_
          refine lv_iconst (v := 3) hx hb dX3_stored_70 (by decide) ?_
          refine lv_icmp_ne (tgt := 78) hx hb dX3_stored_71 (by decide) (fun c_71 => ?_) (fun c_71 => ?_)
          · refine lv_iload_n hx hb dX3_stored_78 rfl (lv_at hl 0 rfl) ?_
            refine lv_sipush (v := 256) hx hb dX3_stored_79 (by decide) ?_
            refine lv_irem hx hb dX3_stored_82 (by decide) ?_
            rw [rem256 hn]
            refine lv_istore (lv' := [(4, .int (nI (n % 256))), (3, .int (nI n)), (0, .int (nI 4)), (1, .long v)]) hx hb dX3_stored_83 hl (by decide) rfl (fun ls hl => ?_)
            refine lv_iload hx hb dX3_stored_85 (lv_at hl 0 rfl) ?_
            refine lv_sipush (v := 128) hx hb dX3_stored_87 (by decide) ?_
            refine lv_icmp_lt (tgt := 102) hx hb dX3_stored_90 (by decide) (fun c_90 => ?_) (fun c_90 => ?_)
            · refine lv_iload hx hb dX3_stored_102 (lv_at hl 0 rfl) ?_
              exact wRetI K hw dX3_stored_104 ⟨sto4_lo hn em c_90, rfl⟩
            · refine lv_iload hx hb dX3_stored_93 (lv_at hl 0 rfl) ?_
              refine lv_sipush (v := 256) hx hb dX3_stored_95 (by decide) ?_
              refine lv_isub hx hb dX3_stored_98 ?_
              refine lv_goto (tgt := 104) hx hb dX3_stored_99 (by decide) ?_
              exact wRetI K hw dX3_stored_104 ⟨sto4_hi hn em c_90, rfl⟩
          · exact absurd c_71 (by decide)
        · exact absurd c_51 (by decide)
      · exact absurd c_44 (by decide)
    · exact absurd c_2 (by decide)
set_option maxHeartbeats 4000000 in
set_option maxRecDepth 100000 in
theorem mX3_pressed (l : Launch) (E : wE) (ws : va_W) (j : Nat) (hj : j < 4) (x v : Int32) (hc : x = 0 ∨ x = 1) : MCi l E yX3_pressed wsX3_pressed { frames := 0, cells := 0, slots := 0, locals := 0 } [.int (nI j), .int x, .int v] (ws) (fun r w => r = ped (nI j) x (v &&& 1) ∧ w = ws) := by
  refine wEnterI (cc := cX3_pressed) (nL := 5) (ret := (some .int)) (own := RX3) (by decide) rfl rfl (Nat.le_of_ble_eq_true rfl) ?_
  intro p e s m below meth c A ls K hl hw
  have hl : lv_has ls 5 [(0, .int (nI j)), (1, .int x), (2, .int v)] := hl
  obtain ⟨hx, hb, -, hml, hown, hts, -, -, -⟩ := id K
  refine lv_iload_n hx hb dX3_pressed_0 rfl (lv_at hl 1 rfl) ?_
  refine lv_iconst (v := 1) hx hb dX3_pressed_1 (by decide) ?_
  refine lv_icmp_ne (tgt := 9) hx hb dX3_pressed_2 (by decide) (fun c_2 => ?_) (fun c_2 => ?_)
  · have hcv : x = 0 := hc.resolve_right c_2
    refine lv_iconst (v := 0) hx hb dX3_pressed_9 (by decide) ?_
    refine lv_istore_n (lv' := [(3, .int 0), (0, .int (nI j)), (1, .int x), (2, .int v)]) hx hb dX3_pressed_10 rfl hl (by decide) rfl (fun ls hl => ?_)
    refine lv_iload_n hx hb dX3_pressed_11 rfl (lv_at hl 3 rfl) ?_
    refine lv_iconst (v := 2) hx hb dX3_pressed_12 (by decide) ?_
    refine lv_irem hx hb dX3_pressed_13 (by decide) ?_
    refine lv_if_eq (tgt := 21) hx hb dX3_pressed_14 (by decide) (fun c_14 => ?_) (fun c_14 => ?_)
    · have hov := rem_0 c_14
      refine lv_iconst (v := 0) hx hb dX3_pressed_21 (by decide) ?_
      refine lv_istore (lv' := [(4, .int 0), (3, .int 0), (0, .int (nI j)), (1, .int x), (2, .int v)]) hx hb dX3_pressed_22 hl (by decide) rfl (fun ls hl => ?_)
      rcases (show j = 0 ∨ j = 1 ∨ j = 2 ∨ j = 3 by omega) with rfl | rfl | rfl | rfl
      · refine lv_iload_n hx hb dX3_pressed_24 rfl (lv_at hl 2 rfl) ?_
        refine lv_if_ne (tgt := 43) hx hb dX3_pressed_25 (by decide) (fun c_25 => ?_) (fun c_25 => ?_)
        · exact absurd c_25 (by decide)
        · refine lv_iload_n hx hb dX3_pressed_28 rfl (lv_at hl 1 rfl) ?_
          refine lv_if_ne (tgt := 37) hx hb dX3_pressed_29 (by decide) (fun c_29 => ?_) (fun c_29 => ?_)
          · exact absurd c_29 (by decide)
          · refine lv_iload hx hb dX3_pressed_32 (lv_at hl 0 rfl) ?_
            refine lv_if_eq (tgt := 41) hx hb dX3_pressed_34 (by decide) (fun c_34 => ?_) (fun c_34 => ?_)
            · refine lv_iconst (v := 0) hx hb dX3_pressed_41 (by decide) ?_
              exact wRetI K hw dX3_pressed_42 ⟨by rw [hcv, hov]; decide, rfl⟩
            · exact absurd c_34 (by decide)
      · refine lv_iload_n hx hb dX3_pressed_24 rfl (lv_at hl 2 rfl) ?_
        refine lv_if_ne (tgt := 43) hx hb dX3_pressed_25 (by decide) (fun c_25 => ?_) (fun c_25 => ?_)
        · refine lv_iload_n hx hb dX3_pressed_43 rfl (lv_at hl 2 rfl) ?_
          refine lv_iconst (v := 1) hx hb dX3_pressed_44 (by decide) ?_
          refine lv_icmp_ne (tgt := 63) hx hb dX3_pressed_45 (by decide) (fun c_45 => ?_) (fun c_45 => ?_)
          · exact absurd c_45 (by decide)
          · refine lv_iload_n hx hb dX3_pressed_48 rfl (lv_at hl 1 rfl) ?_
            refine lv_if_eq (tgt := 61) hx hb dX3_pressed_49 (by decide) (fun c_49 => ?_) (fun c_49 => ?_)
            · refine lv_iconst (v := 0) hx hb dX3_pressed_61 (by decide) ?_
              exact wRetI K hw dX3_pressed_62 ⟨by rw [hcv, hov]; decide, rfl⟩
            · exact absurd c_49 (by decide)
        · exact absurd c_25 (by decide)
      · refine lv_iload_n hx hb dX3_pressed_24 rfl (lv_at hl 2 rfl) ?_
        refine lv_if_ne (tgt := 43) hx hb dX3_pressed_25 (by decide) (fun c_25 => ?_) (fun c_25 => ?_)
        · refine lv_iload_n hx hb dX3_pressed_43 rfl (lv_at hl 2 rfl) ?_
          refine lv_iconst (v := 1) hx hb dX3_pressed_44 (by decide) ?_
          refine lv_icmp_ne (tgt := 63) hx hb dX3_pressed_45 (by decide) (fun c_45 => ?_) (fun c_45 => ?_)
          · refine lv_iload_n hx hb dX3_pressed_63 rfl (lv_at hl 2 rfl) ?_
            refine lv_iconst (v := 2) hx hb dX3_pressed_64 (by decide) ?_
            refine lv_icmp_ne (tgt := 80) hx hb dX3_pressed_65 (by decide) (fun c_65 => ?_) (fun c_65 => ?_)
            · exact absurd c_65 (by decide)
            · refine lv_iload_n hx hb dX3_pressed_68 rfl (lv_at hl 1 rfl) ?_
              refine lv_iload hx hb dX3_pressed_69 (lv_at hl 0 rfl) ?_
              refine lv_icmp_eq (tgt := 78) hx hb dX3_pressed_71 (by decide) (fun c_71 => ?_) (fun c_71 => ?_)
              · refine lv_iconst (v := 0) hx hb dX3_pressed_78 (by decide) ?_
                exact wRetI K hw dX3_pressed_79 ⟨by rw [hcv, hov]; decide, rfl⟩
              · exact absurd c_71 (by decide)
          · exact absurd c_45 (by decide)
        · exact absurd c_25 (by decide)
      · refine lv_iload_n hx hb dX3_pressed_24 rfl (lv_at hl 2 rfl) ?_
        refine lv_if_ne (tgt := 43) hx hb dX3_pressed_25 (by decide) (fun c_25 => ?_) (fun c_25 => ?_)
        · refine lv_iload_n hx hb dX3_pressed_43 rfl (lv_at hl 2 rfl) ?_
          refine lv_iconst (v := 1) hx hb dX3_pressed_44 (by decide) ?_
          refine lv_icmp_ne (tgt := 63) hx hb dX3_pressed_45 (by decide) (fun c_45 => ?_) (fun c_45 => ?_)
          · refine lv_iload_n hx hb dX3_pressed_63 rfl (lv_at hl 2 rfl) ?_
            refine lv_iconst (v := 2) hx hb dX3_pressed_64 (by decide) ?_
            refine lv_icmp_ne (tgt := 80) hx hb dX3_pressed_65 (by decide) (fun c_65 => ?_) (fun c_65 => ?_)
            · refine lv_iload_n hx hb dX3_pressed_80 rfl (lv_at hl 1 rfl) ?_
              refine lv_if_eq (tgt := 88) hx hb dX3_pressed_81 (by decide) (fun c_81 => ?_) (fun c_81 => ?_)
              · refine lv_iconst (v := 1) hx hb dX3_pressed_88 (by decide) ?_
                exact wRetI K hw dX3_pressed_89 ⟨by rw [hcv, hov]; decide, rfl⟩
              · exact absurd c_81 (by decide)
            · exact absurd c_65 (by decide)
          · exact absurd c_45 (by decide)
        · exact absurd c_25 (by decide)
    · have hov := rem_1 c_14
      refine lv_iconst (v := 1) hx hb dX3_pressed_17 (by decide) ?_
      refine lv_goto (tgt := 22) hx hb dX3_pressed_18 (by decide) ?_
      refine lv_istore (lv' := [(4, .int 1), (3, .int 0), (0, .int (nI j)), (1, .int x), (2, .int v)]) hx hb dX3_pressed_22 hl (by decide) rfl (fun ls hl => ?_)
      rcases (show j = 0 ∨ j = 1 ∨ j = 2 ∨ j = 3 by omega) with rfl | rfl | rfl | rfl
      · refine lv_iload_n hx hb dX3_pressed_24 rfl (lv_at hl 2 rfl) ?_
        refine lv_if_ne (tgt := 43) hx hb dX3_pressed_25 (by decide) (fun c_25 => ?_) (fun c_25 => ?_)
        · exact absurd c_25 (by decide)
        · refine lv_iload_n hx hb dX3_pressed_28 rfl (lv_at hl 1 rfl) ?_
          refine lv_if_ne (tgt := 37) hx hb dX3_pressed_29 (by decide) (fun c_29 => ?_) (fun c_29 => ?_)
          · exact absurd c_29 (by decide)
          · refine lv_iload hx hb dX3_pressed_32 (lv_at hl 0 rfl) ?_
            refine lv_if_eq (tgt := 41) hx hb dX3_pressed_34 (by decide) (fun c_34 => ?_) (fun c_34 => ?_)
            · exact absurd c_34 (by decide)
            · refine lv_iconst (v := 1) hx hb dX3_pressed_37 (by decide) ?_
              refine lv_goto (tgt := 42) hx hb dX3_pressed_38 (by decide) ?_
              exact wRetI K hw dX3_pressed_42 ⟨by rw [hcv, hov]; decide, rfl⟩
      · refine lv_iload_n hx hb dX3_pressed_24 rfl (lv_at hl 2 rfl) ?_
        refine lv_if_ne (tgt := 43) hx hb dX3_pressed_25 (by decide) (fun c_25 => ?_) (fun c_25 => ?_)
        · refine lv_iload_n hx hb dX3_pressed_43 rfl (lv_at hl 2 rfl) ?_
          refine lv_iconst (v := 1) hx hb dX3_pressed_44 (by decide) ?_
          refine lv_icmp_ne (tgt := 63) hx hb dX3_pressed_45 (by decide) (fun c_45 => ?_) (fun c_45 => ?_)
          · exact absurd c_45 (by decide)
          · refine lv_iload_n hx hb dX3_pressed_48 rfl (lv_at hl 1 rfl) ?_
            refine lv_if_eq (tgt := 61) hx hb dX3_pressed_49 (by decide) (fun c_49 => ?_) (fun c_49 => ?_)
            · refine lv_iconst (v := 0) hx hb dX3_pressed_61 (by decide) ?_
              exact wRetI K hw dX3_pressed_62 ⟨by rw [hcv, hov]; decide, rfl⟩
            · exact absurd c_49 (by decide)
        · exact absurd c_25 (by decide)
      · refine lv_iload_n hx hb dX3_pressed_24 rfl (lv_at hl 2 rfl) ?_
        refine lv_if_ne (tgt := 43) hx hb dX3_pressed_25 (by decide) (fun c_25 => ?_) (fun c_25 => ?_)
        · refine lv_iload_n hx hb dX3_pressed_43 rfl (lv_at hl 2 rfl) ?_
          refine lv_iconst (v := 1) hx hb dX3_pressed_44 (by decide) ?_
          refine lv_icmp_ne (tgt := 63) hx hb dX3_pressed_45 (by decide) (fun c_45 => ?_) (fun c_45 => ?_)
          · refine lv_iload_n hx hb dX3_pressed_63 rfl (lv_at hl 2 rfl) ?_
            refine lv_iconst (v := 2) hx hb dX3_pressed_64 (by decide) ?_
            refine lv_icmp_ne (tgt := 80) hx hb dX3_pressed_65 (by decide) (fun c_65 => ?_) (fun c_65 => ?_)
            · exact absurd c_65 (by decide)
            · refine lv_iload_n hx hb dX3_pressed_68 rfl (lv_at hl 1 rfl) ?_
              refine lv_iload hx hb dX3_pressed_69 (lv_at hl 0 rfl) ?_
              refine lv_icmp_eq (tgt := 78) hx hb dX3_pressed_71 (by decide) (fun c_71 => ?_) (fun c_71 => ?_)
              · exact absurd c_71 (by decide)
              · refine lv_iconst (v := 1) hx hb dX3_pressed_74 (by decide) ?_
                refine lv_goto (tgt := 79) hx hb dX3_pressed_75 (by decide) ?_
                exact wRetI K hw dX3_pressed_79 ⟨by rw [hcv, hov]; decide, rfl⟩
          · exact absurd c_45 (by decide)
        · exact absurd c_25 (by decide)
      · refine lv_iload_n hx hb dX3_pressed_24 rfl (lv_at hl 2 rfl) ?_
        refine lv_if_ne (tgt := 43) hx hb dX3_pressed_25 (by decide) (fun c_25 => ?_) (fun c_25 => ?_)
        · refine lv_iload_n hx hb dX3_pressed_43 rfl (lv_at hl 2 rfl) ?_
          refine lv_iconst (v := 1) hx hb dX3_pressed_44 (by decide) ?_
          refine lv_icmp_ne (tgt := 63) hx hb dX3_pressed_45 (by decide) (fun c_45 => ?_) (fun c_45 => ?_)
          · refine lv_iload_n hx hb dX3_pressed_63 rfl (lv_at hl 2 rfl) ?_
            refine lv_iconst (v := 2) hx hb dX3_pressed_64 (by decide) ?_
            refine lv_icmp_ne (tgt := 80) hx hb dX3_pressed_65 (by decide) (fun c_65 => ?_) (fun c_65 => ?_)
            · refine lv_iload_n hx hb dX3_pressed_80 rfl (lv_at hl 1 rfl) ?_
              refine lv_if_eq (tgt := 88) hx hb dX3_pressed_81 (by decide) (fun c_81 => ?_) (fun c_81 => ?_)
              · refine lv_iconst (v := 1) hx hb dX3_pressed_88 (by decide) ?_
                exact wRetI K hw dX3_pressed_89 ⟨by rw [hcv, hov]; decide, rfl⟩
              · exact absurd c_81 (by decide)
            · exact absurd c_65 (by decide)
          · exact absurd c_45 (by decide)
        · exact absurd c_25 (by decide)
  · have hcv : x = 1 := c_2
    refine lv_iconst (v := 1) hx hb dX3_pressed_5 (by decide) ?_
    refine lv_goto (tgt := 10) hx hb dX3_pressed_6 (by decide) ?_
    refine lv_istore_n (lv' := [(3, .int 1), (0, .int (nI j)), (1, .int x), (2, .int v)]) hx hb dX3_pressed_10 rfl hl (by decide) rfl (fun ls hl => ?_)
    refine lv_iload_n hx hb dX3_pressed_11 rfl (lv_at hl 3 rfl) ?_
    refine lv_iconst (v := 2) hx hb dX3_pressed_12 (by decide) ?_
    refine lv_irem hx hb dX3_pressed_13 (by decide) ?_
    refine lv_if_eq (tgt := 21) hx hb dX3_pressed_14 (by decide) (fun c_14 => ?_) (fun c_14 => ?_)
    · have hov := rem_0 c_14
      refine lv_iconst (v := 0) hx hb dX3_pressed_21 (by decide) ?_
      refine lv_istore (lv' := [(4, .int 0), (3, .int 1), (0, .int (nI j)), (1, .int x), (2, .int v)]) hx hb dX3_pressed_22 hl (by decide) rfl (fun ls hl => ?_)
      rcases (show j = 0 ∨ j = 1 ∨ j = 2 ∨ j = 3 by omega) with rfl | rfl | rfl | rfl
      · refine lv_iload_n hx hb dX3_pressed_24 rfl (lv_at hl 2 rfl) ?_
        refine lv_if_ne (tgt := 43) hx hb dX3_pressed_25 (by decide) (fun c_25 => ?_) (fun c_25 => ?_)
        · exact absurd c_25 (by decide)
        · refine lv_iload_n hx hb dX3_pressed_28 rfl (lv_at hl 1 rfl) ?_
          refine lv_if_ne (tgt := 37) hx hb dX3_pressed_29 (by decide) (fun c_29 => ?_) (fun c_29 => ?_)
          · refine lv_iconst (v := 1) hx hb dX3_pressed_37 (by decide) ?_
            refine lv_goto (tgt := 42) hx hb dX3_pressed_38 (by decide) ?_
            exact wRetI K hw dX3_pressed_42 ⟨by rw [hcv, hov]; decide, rfl⟩
          · exact absurd c_29 (by decide)
      · refine lv_iload_n hx hb dX3_pressed_24 rfl (lv_at hl 2 rfl) ?_
        refine lv_if_ne (tgt := 43) hx hb dX3_pressed_25 (by decide) (fun c_25 => ?_) (fun c_25 => ?_)
        · refine lv_iload_n hx hb dX3_pressed_43 rfl (lv_at hl 2 rfl) ?_
          refine lv_iconst (v := 1) hx hb dX3_pressed_44 (by decide) ?_
          refine lv_icmp_ne (tgt := 63) hx hb dX3_pressed_45 (by decide) (fun c_45 => ?_) (fun c_45 => ?_)
          · exact absurd c_45 (by decide)
          · refine lv_iload_n hx hb dX3_pressed_48 rfl (lv_at hl 1 rfl) ?_
            refine lv_if_eq (tgt := 61) hx hb dX3_pressed_49 (by decide) (fun c_49 => ?_) (fun c_49 => ?_)
            · exact absurd c_49 (by decide)
            · refine lv_iload hx hb dX3_pressed_52 (lv_at hl 0 rfl) ?_
              refine lv_if_eq (tgt := 61) hx hb dX3_pressed_54 (by decide) (fun c_54 => ?_) (fun c_54 => ?_)
              · refine lv_iconst (v := 0) hx hb dX3_pressed_61 (by decide) ?_
                exact wRetI K hw dX3_pressed_62 ⟨by rw [hcv, hov]; decide, rfl⟩
              · exact absurd c_54 (by decide)
        · exact absurd c_25 (by decide)
      · refine lv_iload_n hx hb dX3_pressed_24 rfl (lv_at hl 2 rfl) ?_
        refine lv_if_ne (tgt := 43) hx hb dX3_pressed_25 (by decide) (fun c_25 => ?_) (fun c_25 => ?_)
        · refine lv_iload_n hx hb dX3_pressed_43 rfl (lv_at hl 2 rfl) ?_
          refine lv_iconst (v := 1) hx hb dX3_pressed_44 (by decide) ?_
          refine lv_icmp_ne (tgt := 63) hx hb dX3_pressed_45 (by decide) (fun c_45 => ?_) (fun c_45 => ?_)
          · refine lv_iload_n hx hb dX3_pressed_63 rfl (lv_at hl 2 rfl) ?_
            refine lv_iconst (v := 2) hx hb dX3_pressed_64 (by decide) ?_
            refine lv_icmp_ne (tgt := 80) hx hb dX3_pressed_65 (by decide) (fun c_65 => ?_) (fun c_65 => ?_)
            · exact absurd c_65 (by decide)
            · refine lv_iload_n hx hb dX3_pressed_68 rfl (lv_at hl 1 rfl) ?_
              refine lv_iload hx hb dX3_pressed_69 (lv_at hl 0 rfl) ?_
              refine lv_icmp_eq (tgt := 78) hx hb dX3_pressed_71 (by decide) (fun c_71 => ?_) (fun c_71 => ?_)
              · exact absurd c_71 (by decide)
              · refine lv_iconst (v := 1) hx hb dX3_pressed_74 (by decide) ?_
                refine lv_goto (tgt := 79) hx hb dX3_pressed_75 (by decide) ?_
                exact wRetI K hw dX3_pressed_79 ⟨by rw [hcv, hov]; decide, rfl⟩
          · exact absurd c_45 (by decide)
        · exact absurd c_25 (by decide)
      · refine lv_iload_n hx hb dX3_pressed_24 rfl (lv_at hl 2 rfl) ?_
        refine lv_if_ne (tgt := 43) hx hb dX3_pressed_25 (by decide) (fun c_25 => ?_) (fun c_25 => ?_)
        · refine lv_iload_n hx hb dX3_pressed_43 rfl (lv_at hl 2 rfl) ?_
          refine lv_iconst (v := 1) hx hb dX3_pressed_44 (by decide) ?_
          refine lv_icmp_ne (tgt := 63) hx hb dX3_pressed_45 (by decide) (fun c_45 => ?_) (fun c_45 => ?_)
          · refine lv_iload_n hx hb dX3_pressed_63 rfl (lv_at hl 2 rfl) ?_
            refine lv_iconst (v := 2) hx hb dX3_pressed_64 (by decide) ?_
            refine lv_icmp_ne (tgt := 80) hx hb dX3_pressed_65 (by decide) (fun c_65 => ?_) (fun c_65 => ?_)
            · refine lv_iload_n hx hb dX3_pressed_80 rfl (lv_at hl 1 rfl) ?_
              refine lv_if_eq (tgt := 88) hx hb dX3_pressed_81 (by decide) (fun c_81 => ?_) (fun c_81 => ?_)
              · exact absurd c_81 (by decide)
              · refine lv_iconst (v := 0) hx hb dX3_pressed_84 (by decide) ?_
                refine lv_goto (tgt := 89) hx hb dX3_pressed_85 (by decide) ?_
                exact wRetI K hw dX3_pressed_89 ⟨by rw [hcv, hov]; decide, rfl⟩
            · exact absurd c_65 (by decide)
          · exact absurd c_45 (by decide)
        · exact absurd c_25 (by decide)
    · have hov := rem_1 c_14
      refine lv_iconst (v := 1) hx hb dX3_pressed_17 (by decide) ?_
      refine lv_goto (tgt := 22) hx hb dX3_pressed_18 (by decide) ?_
      refine lv_istore (lv' := [(4, .int 1), (3, .int 1), (0, .int (nI j)), (1, .int x), (2, .int v)]) hx hb dX3_pressed_22 hl (by decide) rfl (fun ls hl => ?_)
      rcases (show j = 0 ∨ j = 1 ∨ j = 2 ∨ j = 3 by omega) with rfl | rfl | rfl | rfl
      · refine lv_iload_n hx hb dX3_pressed_24 rfl (lv_at hl 2 rfl) ?_
        refine lv_if_ne (tgt := 43) hx hb dX3_pressed_25 (by decide) (fun c_25 => ?_) (fun c_25 => ?_)
        · exact absurd c_25 (by decide)
        · refine lv_iload_n hx hb dX3_pressed_28 rfl (lv_at hl 1 rfl) ?_
          refine lv_if_ne (tgt := 37) hx hb dX3_pressed_29 (by decide) (fun c_29 => ?_) (fun c_29 => ?_)
          · refine lv_iconst (v := 1) hx hb dX3_pressed_37 (by decide) ?_
            refine lv_goto (tgt := 42) hx hb dX3_pressed_38 (by decide) ?_
            exact wRetI K hw dX3_pressed_42 ⟨by rw [hcv, hov]; decide, rfl⟩
          · exact absurd c_29 (by decide)
      · refine lv_iload_n hx hb dX3_pressed_24 rfl (lv_at hl 2 rfl) ?_
        refine lv_if_ne (tgt := 43) hx hb dX3_pressed_25 (by decide) (fun c_25 => ?_) (fun c_25 => ?_)
        · refine lv_iload_n hx hb dX3_pressed_43 rfl (lv_at hl 2 rfl) ?_
          refine lv_iconst (v := 1) hx hb dX3_pressed_44 (by decide) ?_
          refine lv_icmp_ne (tgt := 63) hx hb dX3_pressed_45 (by decide) (fun c_45 => ?_) (fun c_45 => ?_)
          · exact absurd c_45 (by decide)
          · refine lv_iload_n hx hb dX3_pressed_48 rfl (lv_at hl 1 rfl) ?_
            refine lv_if_eq (tgt := 61) hx hb dX3_pressed_49 (by decide) (fun c_49 => ?_) (fun c_49 => ?_)
            · exact absurd c_49 (by decide)
            · refine lv_iload hx hb dX3_pressed_52 (lv_at hl 0 rfl) ?_
              refine lv_if_eq (tgt := 61) hx hb dX3_pressed_54 (by decide) (fun c_54 => ?_) (fun c_54 => ?_)
              · exact absurd c_54 (by decide)
              · refine lv_iconst (v := 1) hx hb dX3_pressed_57 (by decide) ?_
                refine lv_goto (tgt := 62) hx hb dX3_pressed_58 (by decide) ?_
                exact wRetI K hw dX3_pressed_62 ⟨by rw [hcv, hov]; decide, rfl⟩
        · exact absurd c_25 (by decide)
      · refine lv_iload_n hx hb dX3_pressed_24 rfl (lv_at hl 2 rfl) ?_
        refine lv_if_ne (tgt := 43) hx hb dX3_pressed_25 (by decide) (fun c_25 => ?_) (fun c_25 => ?_)
        · refine lv_iload_n hx hb dX3_pressed_43 rfl (lv_at hl 2 rfl) ?_
          refine lv_iconst (v := 1) hx hb dX3_pressed_44 (by decide) ?_
          refine lv_icmp_ne (tgt := 63) hx hb dX3_pressed_45 (by decide) (fun c_45 => ?_) (fun c_45 => ?_)
          · refine lv_iload_n hx hb dX3_pressed_63 rfl (lv_at hl 2 rfl) ?_
            refine lv_iconst (v := 2) hx hb dX3_pressed_64 (by decide) ?_
            refine lv_icmp_ne (tgt := 80) hx hb dX3_pressed_65 (by decide) (fun c_65 => ?_) (fun c_65 => ?_)
            · exact absurd c_65 (by decide)
            · refine lv_iload_n hx hb dX3_pressed_68 rfl (lv_at hl 1 rfl) ?_
              refine lv_iload hx hb dX3_pressed_69 (lv_at hl 0 rfl) ?_
              refine lv_icmp_eq (tgt := 78) hx hb dX3_pressed_71 (by decide) (fun c_71 => ?_) (fun c_71 => ?_)
              · refine lv_iconst (v := 0) hx hb dX3_pressed_78 (by decide) ?_
                exact wRetI K hw dX3_pressed_79 ⟨by rw [hcv, hov]; decide, rfl⟩
              · exact absurd c_71 (by decide)
          · exact absurd c_45 (by decide)
        · exact absurd c_25 (by decide)
      · refine lv_iload_n hx hb dX3_pressed_24 rfl (lv_at hl 2 rfl) ?_
        refine lv_if_ne (tgt := 43) hx hb dX3_pressed_25 (by decide) (fun c_25 => ?_) (fun c_25 => ?_)
        · refine lv_iload_n hx hb dX3_pressed_43 rfl (lv_at hl 2 rfl) ?_
          refine lv_iconst (v := 1) hx hb dX3_pressed_44 (by decide) ?_
          refine lv_icmp_ne (tgt := 63) hx hb dX3_pressed_45 (by decide) (fun c_45 => ?_) (fun c_45 => ?_)
          · refine lv_iload_n hx hb dX3_pressed_63 rfl (lv_at hl 2 rfl) ?_
            refine lv_iconst (v := 2) hx hb dX3_pressed_64 (by decide) ?_
            refine lv_icmp_ne (tgt := 80) hx hb dX3_pressed_65 (by decide) (fun c_65 => ?_) (fun c_65 => ?_)
            · refine lv_iload_n hx hb dX3_pressed_80 rfl (lv_at hl 1 rfl) ?_
              refine lv_if_eq (tgt := 88) hx hb dX3_pressed_81 (by decide) (fun c_81 => ?_) (fun c_81 => ?_)
              · exact absurd c_81 (by decide)
              · refine lv_iconst (v := 0) hx hb dX3_pressed_84 (by decide) ?_
                refine lv_goto (tgt := 89) hx hb dX3_pressed_85 (by decide) ?_
                exact wRetI K hw dX3_pressed_89 ⟨by rw [hcv, hov]; decide, rfl⟩
            · exact absurd c_65 (by decide)
          · exact absurd c_45 (by decide)
        · exact absurd c_25 (by decide)
set_option maxHeartbeats 4000000 in
set_option maxRecDepth 100000 in
theorem mX3_mount (l : Launch) (E : wE) (am : Nat → Nat) (S : SS) (hI : Inv S) (lane : Int32) (n : Int32) : MCi l E yX3_mount wsX3_mount { frames := 1, cells := 0, slots := 0, locals := 20 } [.ref (am 0), .int lane, .int n] (wM E am S) (fun r w => r = (sp_mount S lane n).1 ∧ w = wM E am (sp_mount S lane n).2) := by
  refine wEnterI (cc := cX3_mount) (nL := 4) (ret := (some .int)) (own := RX3) (by decide) rfl rfl (Nat.le_of_ble_eq_true rfl) ?_
  intro p e s m below meth c A ls K hl hw
  have hl : lv_has ls 4 [(0, .ref (am 0)), (1, .int lane), (2, .int n)] := hl
  obtain ⟨hx, hb, -, hml, hown, hts, -, -, -⟩ := id K
  have hiX3 : ∀ w ∈ wsX30, w ∈ wsX3_mount := by decide +kernel
  refine lv_iload_n hx hb dX3_mount_0 rfl (lv_at hl 1 rfl) ?_
  refine wCallS (As := [.int lane]) (rest := []) K hw (mX3_isLane l E (wM E am S) lane) (va_cwS 1 hts gX3_mount_X3_isLane rfl rfl rfl (by decide +kernel) ⟨Nat.le_of_ble_eq_true rfl, Nat.le_of_ble_eq_true rfl⟩)  rfl hl.1 rfl (Nat.le_of_ble_eq_true rfl) dX3_mount_1 ⟨Nat.zero_le _, Nat.zero_le _⟩ (fun r_1 w' H locs hr hw => ?_)
  obtain ⟨hr1, rfl⟩ := hr
  refine lv_if_ne (tgt := 10) hx hb dX3_mount_4 (by decide) (fun c_4 => ?_) (fun c_4 => ?_)
  · have hl0 := bI_t hr1 c_4
    obtain ⟨j, hj, rfl⟩ := isl_of hl0
    refine lv_iload_n hx hb dX3_mount_10 rfl (lv_at hl 2 rfl) ?_
    refine lv_bipush (v := 60) hx hb dX3_mount_11 (by decide) ?_
    refine lv_icmp_le (tgt := 19) hx hb dX3_mount_13 (by decide) (fun c_13 => ?_) (fun c_13 => ?_)
    · refine lv_iload_n hx hb dX3_mount_19 rfl (lv_at hl 2 rfl) ?_
      refine lv_if_ge (tgt := 26) hx hb dX3_mount_20 (by decide) (fun c_20 => ?_) (fun c_20 => ?_)
      · obtain ⟨q, hq, rfl⟩ := rng60 c_20 c_13
        have loop : ∀ (d i : Nat), i + d = q → ∀ (H : Heap) (locs : List Loc) (ls : Array Slot), lv_has ls 4 [(3, .int (nI i)), (0, .ref (am 0)), (1, .int (nI j)), (2, .int (nI q))] → wW E A s (wM E am (zr S.1 j i, S.2.1, up2 (up2 S.2.2 0 j 1) 1 j (nI q))) H locs → W p l e ({ frames := 1, cells := 0, slots := 0, locals := 20 } : Room) s m ([.ref (am 0), .int (nI j), .int (nI q)] : List Value).toArray below meth c H locs 0 0 (MQ below (va_Qi (fun r w => r = (sp_mount S (nI j) (nI q)).1 ∧ w = wM E am (sp_mount S (nI j) (nI q)).2) (wAft E A) A) ([.ref (am 0), .int (nI j), .int (nI q)] : List Value).toArray s 0 0 A) (F0 m 42 ls []) := by
          intro d
          induction d with
          | zero =>
            intro i hid H locs ls hl hw
            obtain rfl : i = q := by omega
            refine lv_iload_n hx hb dX3_mount_42 rfl (lv_at hl 0 rfl) ?_
            refine lv_iload_n hx hb dX3_mount_43 rfl (lv_at hl 3 rfl) ?_
            refine lv_icmp_ge (tgt := 65) hx hb dX3_mount_44 (by decide) (fun c_44 => ?_) (fun c_44 => ?_)
            · refine lv_iload_n hx hb dX3_mount_65 rfl (lv_at hl 3 rfl) ?_
              exact wRetI K hw dX3_mount_66 (pstM (by rw [sp_mount, if_pos hl0, if_pos c_13, if_pos c_20, kN_nI (by omega), kN_nI (by omega)]))
            · exact absurd (nI_le (Nat.le_refl i) (by omega)) c_44
          | succ d ih =>
            intro i hid H locs ls hl hw
            refine lv_iload_n hx hb dX3_mount_42 rfl (lv_at hl 0 rfl) ?_
            refine lv_iload_n hx hb dX3_mount_43 rfl (lv_at hl 3 rfl) ?_
            refine lv_icmp_ge (tgt := 65) hx hb dX3_mount_44 (by decide) (fun c_44 => ?_) (fun c_44 => ?_)
            · exact absurd c_44 (nI_ge (by omega) (by omega))
            · refine lv_aload_n hx hb dX3_mount_47 rfl (lv_at hl 1 rfl) ?_
              refine wGet (v := .ref (am 1)) K hw hiX3 wM_o rfl 0 (by decide) (by decide +kernel) rfl dX3_mount_48 ?_
              refine lv_bipush (v := 60) hx hb dX3_mount_51 (by decide) ?_
              refine lv_iload_n hx hb dX3_mount_53 rfl (lv_at hl 2 rfl) ?_
              refine lv_imul hx hb dX3_mount_54 ?_
              refine lv_iload_n hx hb dX3_mount_55 rfl (lv_at hl 0 rfl) ?_
              refine lv_iadd hx hb dX3_mount_56 ?_
              rw [show ((60 * (nI j)) + (nI i) : Int32) = nI (60 * j + i) from ix60]
              refine lv_iconst (v := 0) hx hb dX3_mount_57 (by decide) ?_
              refine wIast K hw wM_cells (vp_in_nI (by omega) (by omega)) dX3_mount_58 (wM_sCellI (by omega) (nI_clamp (by omega)) _) (fun H locs hw => ?_)
              refine lv_iinc (v := nI (i + 1)) (lv' := [(3, .int (nI (i + 1))), (0, .ref (am 0)), (1, .int (nI j)), (2, .int (nI q))]) hx hb dX3_mount_59 hl (k := 0) rfl (nI_1 i) (by decide) rfl (fun ls hl => ?_)
              refine lv_goto (tgt := 42) hx hb dX3_mount_62 (by decide) ?_
              exact ih (i + 1) (by omega) H locs ls hl (hw.to (by rw [sC, zr_s]))
        refine lv_aload_n hx hb dX3_mount_26 rfl (lv_at hl 0 rfl) ?_
        refine wGet (v := .ref (am 3)) K hw hiX3 wM_o rfl 2 (by decide) (by decide +kernel) rfl dX3_mount_27 ?_
        refine lv_iload_n hx hb dX3_mount_30 rfl (lv_at hl 1 rfl) ?_
        refine lv_iconst (v := 1) hx hb dX3_mount_31 (by decide) ?_
        refine wZast K hw wM_on (in5 hj) dX3_mount_32 (by decide +kernel) (wM_sOnI (nI_clamp (by omega)) _) (fun H locs hw => ?_)
        refine lv_aload_n hx hb dX3_mount_33 rfl (lv_at hl 0 rfl) ?_
        refine wGet (v := .ref (am 2)) K hw hiX3 wM_o rfl 1 (by decide) (by decide +kernel) rfl dX3_mount_34 ?_
        refine lv_iload_n hx hb dX3_mount_37 rfl (lv_at hl 1 rfl) ?_
        refine lv_iload_n hx hb dX3_mount_38 rfl (lv_at hl 2 rfl) ?_
        refine wIast K hw wM_sizes (in5 hj) dX3_mount_39 (wM_sSizeI (nI_clamp (by omega)) _) (fun H locs hw => ?_)
        refine lv_iconst (v := 0) hx hb dX3_mount_40 (by decide) ?_
        refine lv_istore_n (lv' := [(3, .int 0), (0, .ref (am 0)), (1, .int (nI j)), (2, .int (nI q))]) hx hb dX3_mount_41 rfl hl (by decide) rfl (fun ls hl => ?_)
        exact loop q 0 (by omega) _ _ _ (by rw [nI_0]; exact hl) (hw.to (by rw [zr_0]; rfl))
      · refine lv_ldc (v := (-1000004)) hx hb hown (hts (.constant RX3 54 (-1000004)) (by decide +kernel)) dX3_mount_23 ?_
        exact wRetI K hw dX3_mount_25 (pstM (by rw [sp_mount, if_pos hl0, if_pos c_13, if_neg c_20]))
    · refine lv_ldc (v := (-1000003)) hx hb hown (hts (.constant RX3 53 (-1000003)) (by decide +kernel)) dX3_mount_16 ?_
      exact wRetI K hw dX3_mount_18 (pstM (by rw [sp_mount, if_pos hl0, if_neg c_13]))
  · have hl0 := bI_f hr1 c_4
    refine lv_ldc (v := (-1000001)) hx hb hown (hts (.constant RX3 52 (-1000001)) (by decide +kernel)) dX3_mount_7 ?_
    exact wRetI K hw dX3_mount_9 (pstM (by rw [sp_mount, if_neg hl0]))
set_option maxHeartbeats 4000000 in
set_option maxRecDepth 100000 in
theorem mX3_strip (l : Launch) (E : wE) (am : Nat → Nat) (S : SS) (hI : Inv S) (lane : Int32) : MCi l E yX3_strip wsX3_strip { frames := 1, cells := 0, slots := 0, locals := 21 } [.ref (am 0), .int lane] (wM E am S) (fun r w => r = (sp_strip S lane).1 ∧ w = wM E am (sp_strip S lane).2) := by
  refine wEnterI (cc := cX3_strip) (nL := 2) (ret := (some .int)) (own := RX3) (by decide) rfl rfl (Nat.le_of_ble_eq_true rfl) ?_
  intro p e s m below meth c A ls K hl hw
  have hl : lv_has ls 2 [(0, .ref (am 0)), (1, .int lane)] := hl
  obtain ⟨hx, hb, -, hml, hown, hts, -, -, -⟩ := id K
  have hiX3 : ∀ w ∈ wsX30, w ∈ wsX3_strip := by decide +kernel
  refine lv_iload_n hx hb dX3_strip_0 rfl (lv_at hl 1 rfl) ?_
  refine wCallS (As := [.int lane]) (rest := []) K hw (mX3_isLane l E (wM E am S) lane) (va_cwS 1 hts gX3_strip_X3_isLane rfl rfl rfl (by decide +kernel) ⟨Nat.le_of_ble_eq_true rfl, Nat.le_of_ble_eq_true rfl⟩)  rfl hl.1 rfl (Nat.le_of_ble_eq_true rfl) dX3_strip_1 ⟨Nat.zero_le _, Nat.zero_le _⟩ (fun r_1 w' H locs hr hw => ?_)
  obtain ⟨hr1, rfl⟩ := hr
  refine lv_if_ne (tgt := 10) hx hb dX3_strip_4 (by decide) (fun c_4 => ?_) (fun c_4 => ?_)
  · have hl0 := bI_t hr1 c_4
    obtain ⟨j, hj, rfl⟩ := isl_of hl0
    refine lv_aload_n hx hb dX3_strip_10 rfl (lv_at hl 0 rfl) ?_
    refine wGet (v := .ref (am 3)) K hw hiX3 wM_o rfl 2 (by decide) (by decide +kernel) rfl dX3_strip_11 ?_
    refine lv_iload_n hx hb dX3_strip_14 rfl (lv_at hl 1 rfl) ?_
    refine wZald (v := S.2.2 0 j) K hw wM_on (in5 hj) (by rw [nI_clamp (by omega)]) dX3_strip_15 ?_
    refine lv_if_ne (tgt := 25) hx hb dX3_strip_16 (by decide) (fun c_16 => ?_) (fun c_16 => ?_)
    · refine lv_aload_n hx hb dX3_strip_25 rfl (lv_at hl 0 rfl) ?_
      refine wGet (v := .ref (am 3)) K hw hiX3 wM_o rfl 2 (by decide) (by decide +kernel) rfl dX3_strip_26 ?_
      refine lv_iload_n hx hb dX3_strip_29 rfl (lv_at hl 1 rfl) ?_
      refine lv_iconst (v := 0) hx hb dX3_strip_30 (by decide) ?_
      refine wZast K hw wM_on (in5 hj) dX3_strip_31 (by decide +kernel) (wM_sOnI (nI_clamp (by omega)) _) (fun H locs hw => ?_)
      refine lv_aload_n hx hb dX3_strip_32 rfl (lv_at hl 0 rfl) ?_
      refine wGet (v := .ref (am 2)) K hw hiX3 wM_o rfl 1 (by decide) (by decide +kernel) rfl dX3_strip_33 ?_
      refine lv_iload_n hx hb dX3_strip_36 rfl (lv_at hl 1 rfl) ?_
      refine wIald (v := S.2.2 1 j) K hw wM_sizes (in5 hj) (by rw [nI_clamp (by omega)]; rfl) dX3_strip_37 ?_
      exact wRetI K hw dX3_strip_38 (pstM (by rw [sp_strip, if_pos hl0, kN_nI (by omega), if_neg c_16]))
    · refine lv_aload_n hx hb dX3_strip_19 rfl (lv_at hl 0 rfl) ?_
      refine lv_iload_n hx hb dX3_strip_20 rfl (lv_at hl 1 rfl) ?_
      refine wCallV (As := [.int (nI j)]) (rest := []) K hw (mX3_off l E am S j hj) (cwV 1 hts gX3_strip_X3_off rfl rfl rfl (by decide +kernel) ⟨Nat.le_of_ble_eq_true rfl, Nat.le_of_ble_eq_true rfl⟩) wM_o rfl rfl hl.1 rfl (Nat.le_of_ble_eq_true rfl) dX3_strip_21 ⟨Nat.zero_le _, Nat.zero_le _⟩ (fun r_21 w' H locs hr hw => ?_)
      obtain ⟨rfl, rfl⟩ := hr
      exact wRetI K hw dX3_strip_24 (pstM (by rw [sp_strip, if_pos hl0, kN_nI (by omega), if_pos c_16]))
  · have hl0 := bI_f hr1 c_4
    refine lv_ldc (v := (-1000001)) hx hb hown (hts (.constant RX3 52 (-1000001)) (by decide +kernel)) dX3_strip_7 ?_
    exact wRetI K hw dX3_strip_9 (pstM (by rw [sp_strip, if_neg hl0]))
set_option maxHeartbeats 4000000 in
set_option maxRecDepth 100000 in
theorem mX3_size (l : Launch) (E : wE) (am : Nat → Nat) (S : SS) (hI : Inv S) (lane : Int32) : MCi l E yX3_size wsX3_size { frames := 1, cells := 0, slots := 0, locals := 21 } [.ref (am 0), .int lane] (wM E am S) (fun r w => r = (sp_size S lane).1 ∧ w = wM E am (sp_size S lane).2) := by
  refine wEnterI (cc := cX3_size) (nL := 2) (ret := (some .int)) (own := RX3) (by decide) rfl rfl (Nat.le_of_ble_eq_true rfl) ?_
  intro p e s m below meth c A ls K hl hw
  have hl : lv_has ls 2 [(0, .ref (am 0)), (1, .int lane)] := hl
  obtain ⟨hx, hb, -, hml, hown, hts, -, -, -⟩ := id K
  have hiX3 : ∀ w ∈ wsX30, w ∈ wsX3_size := by decide +kernel
  refine lv_iload_n hx hb dX3_size_0 rfl (lv_at hl 1 rfl) ?_
  refine wCallS (As := [.int lane]) (rest := []) K hw (mX3_isLane l E (wM E am S) lane) (va_cwS 1 hts gX3_size_X3_isLane rfl rfl rfl (by decide +kernel) ⟨Nat.le_of_ble_eq_true rfl, Nat.le_of_ble_eq_true rfl⟩)  rfl hl.1 rfl (Nat.le_of_ble_eq_true rfl) dX3_size_1 ⟨Nat.zero_le _, Nat.zero_le _⟩ (fun r_1 w' H locs hr hw => ?_)
  obtain ⟨hr1, rfl⟩ := hr
  refine lv_if_ne (tgt := 10) hx hb dX3_size_4 (by decide) (fun c_4 => ?_) (fun c_4 => ?_)
  · have hl0 := bI_t hr1 c_4
    obtain ⟨j, hj, rfl⟩ := isl_of hl0
    refine lv_aload_n hx hb dX3_size_10 rfl (lv_at hl 0 rfl) ?_
    refine wGet (v := .ref (am 3)) K hw hiX3 wM_o rfl 2 (by decide) (by decide +kernel) rfl dX3_size_11 ?_
    refine lv_iload_n hx hb dX3_size_14 rfl (lv_at hl 1 rfl) ?_
    refine wZald (v := S.2.2 0 j) K hw wM_on (in5 hj) (by rw [nI_clamp (by omega)]) dX3_size_15 ?_
    refine lv_if_eq (tgt := 28) hx hb dX3_size_16 (by decide) (fun c_16 => ?_) (fun c_16 => ?_)
    · refine lv_aload_n hx hb dX3_size_28 rfl (lv_at hl 0 rfl) ?_
      refine lv_iload_n hx hb dX3_size_29 rfl (lv_at hl 1 rfl) ?_
      refine wCallV (As := [.int (nI j)]) (rest := []) K hw (mX3_off l E am S j hj) (cwV 1 hts gX3_size_X3_off rfl rfl rfl (by decide +kernel) ⟨Nat.le_of_ble_eq_true rfl, Nat.le_of_ble_eq_true rfl⟩) wM_o rfl rfl hl.1 rfl (Nat.le_of_ble_eq_true rfl) dX3_size_30 ⟨Nat.zero_le _, Nat.zero_le _⟩ (fun r_30 w' H locs hr hw => ?_)
      obtain ⟨rfl, rfl⟩ := hr
      exact wRetI K hw dX3_size_33 (pstM (by rw [sp_size, if_pos hl0, kN_nI (by omega), if_pos c_16]))
    · refine lv_aload_n hx hb dX3_size_19 rfl (lv_at hl 0 rfl) ?_
      refine wGet (v := .ref (am 2)) K hw hiX3 wM_o rfl 1 (by decide) (by decide +kernel) rfl dX3_size_20 ?_
      refine lv_iload_n hx hb dX3_size_23 rfl (lv_at hl 1 rfl) ?_
      refine wIald (v := S.2.2 1 j) K hw wM_sizes (in5 hj) (by rw [nI_clamp (by omega)]) dX3_size_24 ?_
      refine lv_goto (tgt := 33) hx hb dX3_size_25 (by decide) ?_
      exact wRetI K hw dX3_size_33 (pstM (by rw [sp_size, if_pos hl0, kN_nI (by omega), if_neg c_16]))
  · have hl0 := bI_f hr1 c_4
    refine lv_ldc (v := (-1000001)) hx hb hown (hts (.constant RX3 52 (-1000001)) (by decide +kernel)) dX3_size_7 ?_
    exact wRetI K hw dX3_size_9 (pstM (by rw [sp_size, if_neg hl0]))
set_option maxHeartbeats 4000000 in
set_option maxRecDepth 100000 in
theorem mX3_cell (l : Launch) (E : wE) (am : Nat → Nat) (S : SS) (hI : Inv S) (lane : Int32) (i : Int32) : MCi l E yX3_cell wsX3_cell { frames := 1, cells := 0, slots := 0, locals := 21 } [.ref (am 0), .int lane, .int i] (wM E am S) (fun r w => r = (sp_cell S lane i).1 ∧ w = wM E am (sp_cell S lane i).2) := by
  refine wEnterI (cc := cX3_cell) (nL := 3) (ret := (some .int)) (own := RX3) (by decide) rfl rfl (Nat.le_of_ble_eq_true rfl) ?_
  intro p e s m below meth c A ls K hl hw
  have hl : lv_has ls 3 [(0, .ref (am 0)), (1, .int lane), (2, .int i)] := hl
  obtain ⟨hx, hb, -, hml, hown, hts, -, -, -⟩ := id K
  have hiX3 : ∀ w ∈ wsX30, w ∈ wsX3_cell := by decide +kernel
  refine lv_iload_n hx hb dX3_cell_0 rfl (lv_at hl 1 rfl) ?_
  refine wCallS (As := [.int lane]) (rest := []) K hw (mX3_isLane l E (wM E am S) lane) (va_cwS 1 hts gX3_cell_X3_isLane rfl rfl rfl (by decide +kernel) ⟨Nat.le_of_ble_eq_true rfl, Nat.le_of_ble_eq_true rfl⟩)  rfl hl.1 rfl (Nat.le_of_ble_eq_true rfl) dX3_cell_1 ⟨Nat.zero_le _, Nat.zero_le _⟩ (fun r_1 w' H locs hr hw => ?_)
  obtain ⟨hr1, rfl⟩ := hr
  refine lv_if_ne (tgt := 10) hx hb dX3_cell_4 (by decide) (fun c_4 => ?_) (fun c_4 => ?_)
  · have hl0 := bI_t hr1 c_4
    obtain ⟨j, hj, rfl⟩ := isl_of hl0
    refine lv_aload_n hx hb dX3_cell_10 rfl (lv_at hl 0 rfl) ?_
    refine wGet (v := .ref (am 3)) K hw hiX3 wM_o rfl 2 (by decide) (by decide +kernel) rfl dX3_cell_11 ?_
    refine lv_iload_n hx hb dX3_cell_14 rfl (lv_at hl 1 rfl) ?_
    refine wZald (v := S.2.2 0 j) K hw wM_on (in5 hj) (by rw [nI_clamp (by omega)]) dX3_cell_15 ?_
    refine lv_if_ne (tgt := 25) hx hb dX3_cell_16 (by decide) (fun c_16 => ?_) (fun c_16 => ?_)
    · refine lv_iload_n hx hb dX3_cell_25 rfl (lv_at hl 2 rfl) ?_
      refine lv_if_lt (tgt := 39) hx hb dX3_cell_26 (by decide) (fun c_26 => ?_) (fun c_26 => ?_)
      · have g3 : ¬ hsC S j i := fun q => q.2.1 c_26
        refine lv_aload_n hx hb dX3_cell_39 rfl (lv_at hl 0 rfl) ?_
        refine lv_iload_n hx hb dX3_cell_40 rfl (lv_at hl 1 rfl) ?_
        refine wCallV (As := [.int (nI j)]) (rest := []) K hw (mX3_out l E am S j hj) (cwV 1 hts gX3_cell_X3_out rfl rfl rfl (by decide +kernel) ⟨Nat.le_of_ble_eq_true rfl, Nat.le_of_ble_eq_true rfl⟩) wM_o rfl rfl hl.1 rfl (Nat.le_of_ble_eq_true rfl) dX3_cell_41 ⟨Nat.zero_le _, Nat.zero_le _⟩ (fun r_41 w' H locs hr hw => ?_)
        obtain ⟨rfl, rfl⟩ := hr
        exact wRetI K hw dX3_cell_44 (pstM (by rw [sp_cell, if_pos hl0, kN_nI (by omega), if_neg c_16, if_neg g3]))
      · refine lv_iload_n hx hb dX3_cell_29 rfl (lv_at hl 2 rfl) ?_
        refine lv_aload_n hx hb dX3_cell_30 rfl (lv_at hl 0 rfl) ?_
        refine wGet (v := .ref (am 2)) K hw hiX3 wM_o rfl 1 (by decide) (by decide +kernel) rfl dX3_cell_31 ?_
        refine lv_iload_n hx hb dX3_cell_34 rfl (lv_at hl 1 rfl) ?_
        refine wIald (v := S.2.2 1 j) K hw wM_sizes (in5 hj) (by rw [nI_clamp (by omega)]) dX3_cell_35 ?_
        refine lv_icmp_lt (tgt := 45) hx hb dX3_cell_36 (by decide) (fun c_36 => ?_) (fun c_36 => ?_)
        · have g3 : hsC S j i := ⟨c_16, c_26, Int32.not_le.mpr c_36⟩
          obtain ⟨q, hq, rfl⟩ := hI.cell hj g3
          refine lv_aload_n hx hb dX3_cell_45 rfl (lv_at hl 0 rfl) ?_
          refine wGet (v := .ref (am 1)) K hw hiX3 wM_o rfl 0 (by decide) (by decide +kernel) rfl dX3_cell_46 ?_
          refine lv_bipush (v := 60) hx hb dX3_cell_49 (by decide) ?_
          refine lv_iload_n hx hb dX3_cell_51 rfl (lv_at hl 1 rfl) ?_
          refine lv_imul hx hb dX3_cell_52 ?_
          refine lv_iload_n hx hb dX3_cell_53 rfl (lv_at hl 2 rfl) ?_
          refine lv_iadd hx hb dX3_cell_54 ?_
          rw [show ((60 * (nI j)) + (nI q) : Int32) = nI (60 * j + q) from ix60]
          refine wIald (v := S.1 j q) K hw wM_cells (vp_in_nI (by omega) (by omega)) (by rw [nI_clamp (by omega)]; exact gC_at hq) dX3_cell_55 ?_
          exact wRetI K hw dX3_cell_56 (pstM (by rw [sp_cell, if_pos hl0, kN_nI (by omega), if_neg c_16, if_pos g3, kN_nI (by omega)]))
        · have g3 : ¬ hsC S j i := fun q => q.2.2 (Int32.not_lt.mp c_36)
          refine lv_aload_n hx hb dX3_cell_39 rfl (lv_at hl 0 rfl) ?_
          refine lv_iload_n hx hb dX3_cell_40 rfl (lv_at hl 1 rfl) ?_
          refine wCallV (As := [.int (nI j)]) (rest := []) K hw (mX3_out l E am S j hj) (cwV 1 hts gX3_cell_X3_out rfl rfl rfl (by decide +kernel) ⟨Nat.le_of_ble_eq_true rfl, Nat.le_of_ble_eq_true rfl⟩) wM_o rfl rfl hl.1 rfl (Nat.le_of_ble_eq_true rfl) dX3_cell_41 ⟨Nat.zero_le _, Nat.zero_le _⟩ (fun r_41 w' H locs hr hw => ?_)
          obtain ⟨rfl, rfl⟩ := hr
          exact wRetI K hw dX3_cell_44 (pstM (by rw [sp_cell, if_pos hl0, kN_nI (by omega), if_neg c_16, if_neg g3]))
    · refine lv_aload_n hx hb dX3_cell_19 rfl (lv_at hl 0 rfl) ?_
      refine lv_iload_n hx hb dX3_cell_20 rfl (lv_at hl 1 rfl) ?_
      refine wCallV (As := [.int (nI j)]) (rest := []) K hw (mX3_off l E am S j hj) (cwV 1 hts gX3_cell_X3_off rfl rfl rfl (by decide +kernel) ⟨Nat.le_of_ble_eq_true rfl, Nat.le_of_ble_eq_true rfl⟩) wM_o rfl rfl hl.1 rfl (Nat.le_of_ble_eq_true rfl) dX3_cell_21 ⟨Nat.zero_le _, Nat.zero_le _⟩ (fun r_21 w' H locs hr hw => ?_)
      obtain ⟨rfl, rfl⟩ := hr
      exact wRetI K hw dX3_cell_24 (pstM (by rw [sp_cell, if_pos hl0, kN_nI (by omega), if_pos c_16]))
  · have hl0 := bI_f hr1 c_4
    refine lv_ldc (v := (-1000001)) hx hb hown (hts (.constant RX3 52 (-1000001)) (by decide +kernel)) dX3_cell_7 ?_
    exact wRetI K hw dX3_cell_9 (pstM (by rw [sp_cell, if_neg hl0]))
set_option maxHeartbeats 4000000 in
set_option maxRecDepth 100000 in
theorem mX3_put (l : Launch) (E : wE) (am : Nat → Nat) (S : SS) (hI : Inv S) (lane : Int32) (i : Int32) (v : Int32) : MCi l E yX3_put wsX3_put { frames := 1, cells := 0, slots := 0, locals := 24 } [.ref (am 0), .int lane, .int i, .int v] (wM E am S) (fun r w => r = (sp_put S lane i v).1 ∧ w = wM E am (sp_put S lane i v).2) := by
  refine wEnterI (cc := cX3_put) (nL := 4) (ret := (some .int)) (own := RX3) (by decide) rfl rfl (Nat.le_of_ble_eq_true rfl) ?_
  intro p e s m below meth c A ls K hl hw
  have hl : lv_has ls 4 [(0, .ref (am 0)), (1, .int lane), (2, .int i), (3, .int v)] := hl
  obtain ⟨hx, hb, -, hml, hown, hts, -, -, -⟩ := id K
  have hiX3 : ∀ w ∈ wsX30, w ∈ wsX3_put := by decide +kernel
  refine lv_iload_n hx hb dX3_put_0 rfl (lv_at hl 1 rfl) ?_
  refine wCallS (As := [.int lane]) (rest := []) K hw (mX3_isLane l E (wM E am S) lane) (va_cwS 1 hts gX3_put_X3_isLane rfl rfl rfl (by decide +kernel) ⟨Nat.le_of_ble_eq_true rfl, Nat.le_of_ble_eq_true rfl⟩)  rfl hl.1 rfl (Nat.le_of_ble_eq_true rfl) dX3_put_1 ⟨Nat.zero_le _, Nat.zero_le _⟩ (fun r_1 w' H locs hr hw => ?_)
  obtain ⟨hr1, rfl⟩ := hr
  refine lv_if_ne (tgt := 10) hx hb dX3_put_4 (by decide) (fun c_4 => ?_) (fun c_4 => ?_)
  · have hl0 := bI_t hr1 c_4
    obtain ⟨j, hj, rfl⟩ := isl_of hl0
    refine lv_aload_n hx hb dX3_put_10 rfl (lv_at hl 0 rfl) ?_
    refine wGet (v := .ref (am 3)) K hw hiX3 wM_o rfl 2 (by decide) (by decide +kernel) rfl dX3_put_11 ?_
    refine lv_iload_n hx hb dX3_put_14 rfl (lv_at hl 1 rfl) ?_
    refine wZald (v := S.2.2 0 j) K hw wM_on (in5 hj) (by rw [nI_clamp (by omega)]) dX3_put_15 ?_
    refine lv_if_ne (tgt := 25) hx hb dX3_put_16 (by decide) (fun c_16 => ?_) (fun c_16 => ?_)
    · refine lv_iload_n hx hb dX3_put_25 rfl (lv_at hl 2 rfl) ?_
      refine lv_if_lt (tgt := 39) hx hb dX3_put_26 (by decide) (fun c_26 => ?_) (fun c_26 => ?_)
      · have g3 : ¬ hsC S j i := fun q => q.2.1 c_26
        refine lv_aload_n hx hb dX3_put_39 rfl (lv_at hl 0 rfl) ?_
        refine lv_iload_n hx hb dX3_put_40 rfl (lv_at hl 1 rfl) ?_
        refine wCallV (As := [.int (nI j)]) (rest := []) K hw (mX3_out l E am S j hj) (cwV 1 hts gX3_put_X3_out rfl rfl rfl (by decide +kernel) ⟨Nat.le_of_ble_eq_true rfl, Nat.le_of_ble_eq_true rfl⟩) wM_o rfl rfl hl.1 rfl (Nat.le_of_ble_eq_true rfl) dX3_put_41 ⟨Nat.zero_le _, Nat.zero_le _⟩ (fun r_41 w' H locs hr hw => ?_)
        obtain ⟨rfl, rfl⟩ := hr
        exact wRetI K hw dX3_put_44 (pstM (by rw [sp_put, if_pos hl0, kN_nI (by omega), if_neg c_16, if_neg g3]))
      · refine lv_iload_n hx hb dX3_put_29 rfl (lv_at hl 2 rfl) ?_
        refine lv_aload_n hx hb dX3_put_30 rfl (lv_at hl 0 rfl) ?_
        refine wGet (v := .ref (am 2)) K hw hiX3 wM_o rfl 1 (by decide) (by decide +kernel) rfl dX3_put_31 ?_
        refine lv_iload_n hx hb dX3_put_34 rfl (lv_at hl 1 rfl) ?_
        refine wIald (v := S.2.2 1 j) K hw wM_sizes (in5 hj) (by rw [nI_clamp (by omega)]) dX3_put_35 ?_
        refine lv_icmp_lt (tgt := 45) hx hb dX3_put_36 (by decide) (fun c_36 => ?_) (fun c_36 => ?_)
        · have g3 : hsC S j i := ⟨c_16, c_26, Int32.not_le.mpr c_36⟩
          obtain ⟨q, hq, rfl⟩ := hI.cell hj g3
          refine lv_aload_n hx hb dX3_put_45 rfl (lv_at hl 0 rfl) ?_
          refine wGet (v := .ref (am 1)) K hw hiX3 wM_o rfl 0 (by decide) (by decide +kernel) rfl dX3_put_46 ?_
          refine lv_bipush (v := 60) hx hb dX3_put_49 (by decide) ?_
          refine lv_iload_n hx hb dX3_put_51 rfl (lv_at hl 1 rfl) ?_
          refine lv_imul hx hb dX3_put_52 ?_
          refine lv_iload_n hx hb dX3_put_53 rfl (lv_at hl 2 rfl) ?_
          refine lv_iadd hx hb dX3_put_54 ?_
          rw [show ((60 * (nI j)) + (nI q) : Int32) = nI (60 * j + q) from ix60]
          refine lv_iload_n hx hb dX3_put_55 rfl (lv_at hl 1 rfl) ?_
          refine lv_iload_n hx hb dX3_put_56 rfl (lv_at hl 3 rfl) ?_
          refine lv_i2l (v := v.toInt64) hx hb dX3_put_57 rfl ?_
          refine wCallS (As := [.int (nI j), .long (v.toInt64)]) (rest := [.int (nI (60 * j + q)), .ref (am 1)]) K hw (mX3_stored l E (wM E am S) j hj v.toInt64) (va_cwS 2 hts gX3_put_X3_stored rfl rfl rfl (by decide +kernel) ⟨Nat.le_of_ble_eq_true rfl, Nat.le_of_ble_eq_true rfl⟩)  rfl hl.1 rfl (Nat.le_of_ble_eq_true rfl) dX3_put_58 ⟨Nat.zero_le _, Nat.zero_le _⟩ (fun r_58 w' H locs hr hw => ?_)
          obtain ⟨rfl, rfl⟩ := hr
          refine wIast K hw wM_cells (vp_in_nI (by omega) (by omega)) dX3_put_61 (wM_sCellI hq (nI_clamp (by omega)) _) (fun H locs hw => ?_)
          refine lv_aload_n hx hb dX3_put_62 rfl (lv_at hl 0 rfl) ?_
          refine wGet (v := .ref (am 1)) K hw hiX3 wM_o rfl 0 (by decide) (by decide +kernel) rfl dX3_put_63 ?_
          refine lv_bipush (v := 60) hx hb dX3_put_66 (by decide) ?_
          refine lv_iload_n hx hb dX3_put_68 rfl (lv_at hl 1 rfl) ?_
          refine lv_imul hx hb dX3_put_69 ?_
          refine lv_iload_n hx hb dX3_put_70 rfl (lv_at hl 2 rfl) ?_
          refine lv_iadd hx hb dX3_put_71 ?_
          rw [show ((60 * (nI j)) + (nI q) : Int32) = nI (60 * j + q) from ix60]
          refine wIald (v := sto j v.toInt64) K hw wM_cells (vp_in_nI (by omega) (by omega)) (by rw [nI_clamp (by omega), gC_at hq]; exact sC_self) dX3_put_72 ?_
          exact wRetI K hw dX3_put_73 (pstM (by rw [sp_put, if_pos hl0, kN_nI (by omega), if_neg c_16, if_pos g3, kN_nI (by omega)]))
        · have g3 : ¬ hsC S j i := fun q => q.2.2 (Int32.not_lt.mp c_36)
          refine lv_aload_n hx hb dX3_put_39 rfl (lv_at hl 0 rfl) ?_
          refine lv_iload_n hx hb dX3_put_40 rfl (lv_at hl 1 rfl) ?_
          refine wCallV (As := [.int (nI j)]) (rest := []) K hw (mX3_out l E am S j hj) (cwV 1 hts gX3_put_X3_out rfl rfl rfl (by decide +kernel) ⟨Nat.le_of_ble_eq_true rfl, Nat.le_of_ble_eq_true rfl⟩) wM_o rfl rfl hl.1 rfl (Nat.le_of_ble_eq_true rfl) dX3_put_41 ⟨Nat.zero_le _, Nat.zero_le _⟩ (fun r_41 w' H locs hr hw => ?_)
          obtain ⟨rfl, rfl⟩ := hr
          exact wRetI K hw dX3_put_44 (pstM (by rw [sp_put, if_pos hl0, kN_nI (by omega), if_neg c_16, if_neg g3]))
    · refine lv_aload_n hx hb dX3_put_19 rfl (lv_at hl 0 rfl) ?_
      refine lv_iload_n hx hb dX3_put_20 rfl (lv_at hl 1 rfl) ?_
      refine wCallV (As := [.int (nI j)]) (rest := []) K hw (mX3_off l E am S j hj) (cwV 1 hts gX3_put_X3_off rfl rfl rfl (by decide +kernel) ⟨Nat.le_of_ble_eq_true rfl, Nat.le_of_ble_eq_true rfl⟩) wM_o rfl rfl hl.1 rfl (Nat.le_of_ble_eq_true rfl) dX3_put_21 ⟨Nat.zero_le _, Nat.zero_le _⟩ (fun r_21 w' H locs hr hw => ?_)
      obtain ⟨rfl, rfl⟩ := hr
      exact wRetI K hw dX3_put_24 (pstM (by rw [sp_put, if_pos hl0, kN_nI (by omega), if_pos c_16]))
  · have hl0 := bI_f hr1 c_4
    refine lv_ldc (v := (-1000001)) hx hb hown (hts (.constant RX3 52 (-1000001)) (by decide +kernel)) dX3_put_7 ?_
    exact wRetI K hw dX3_put_9 (pstM (by rw [sp_put, if_neg hl0]))
set_option maxHeartbeats 4000000 in
set_option maxRecDepth 100000 in
theorem mX3_change (l : Launch) (E : wE) (am : Nat → Nat) (S : SS) (hI : Inv S) (lane : Int32) (way : Int32) (i : Int32) (v : Int32) : MCi l E yX3_change wsX3_change { frames := 1, cells := 0, slots := 0, locals := 24 } [.ref (am 0), .int lane, .int way, .int i, .int v] (wM E am S) (fun r w => r = (sp_change S lane way i v).1 ∧ w = wM E am (sp_change S lane way i v).2) := by
  refine wEnterI (cc := cX3_change) (nL := 10) (ret := (some .int)) (own := RX3) (by decide) rfl rfl (Nat.le_of_ble_eq_true rfl) ?_
  intro p e s m below meth c A ls K hl hw
  have hl : lv_has ls 10 [(0, .ref (am 0)), (1, .int lane), (2, .int way), (3, .int i), (4, .int v)] := hl
  obtain ⟨hx, hb, -, hml, hown, hts, -, -, -⟩ := id K
  have hiX3 : ∀ w ∈ wsX30, w ∈ wsX3_change := by decide +kernel
  refine lv_iload_n hx hb dX3_change_0 rfl (lv_at hl 1 rfl) ?_
  refine wCallS (As := [.int lane]) (rest := []) K hw (mX3_isLane l E (wM E am S) lane) (va_cwS 1 hts gX3_change_X3_isLane rfl rfl rfl (by decide +kernel) ⟨Nat.le_of_ble_eq_true rfl, Nat.le_of_ble_eq_true rfl⟩)  rfl hl.1 rfl (Nat.le_of_ble_eq_true rfl) dX3_change_1 ⟨Nat.zero_le _, Nat.zero_le _⟩ (fun r_1 w' H locs hr hw => ?_)
  obtain ⟨hr1, rfl⟩ := hr
  refine lv_if_ne (tgt := 10) hx hb dX3_change_4 (by decide) (fun c_4 => ?_) (fun c_4 => ?_)
  · have hl0 := bI_t hr1 c_4
    obtain ⟨j, hj, rfl⟩ := isl_of hl0
    refine lv_iload_n hx hb dX3_change_10 rfl (lv_at hl 2 rfl) ?_
    refine lv_if_lt (tgt := 19) hx hb dX3_change_11 (by decide) (fun c_11 => ?_) (fun c_11 => ?_)
    · have hg : ¬ (¬ way < 0 ∧ ¬ 4 ≤ way) := fun q => q.1 c_11
      refine lv_ldc (v := (-1000002)) hx hb hown (hts (.constant RX3 66 (-1000002)) (by decide +kernel)) dX3_change_19 ?_
      exact wRetI K hw dX3_change_21 (pstM (by rw [sp_change, if_pos hl0, if_neg hg]))
    · refine lv_iload_n hx hb dX3_change_14 rfl (lv_at hl 2 rfl) ?_
      refine lv_iconst (v := 3) hx hb dX3_change_15 (by decide) ?_
      refine lv_icmp_le (tgt := 22) hx hb dX3_change_16 (by decide) (fun c_16 => ?_) (fun c_16 => ?_)
      · have hg : ¬ way < 0 ∧ ¬ 4 ≤ way := ⟨c_11, le3 c_16⟩
        obtain ⟨y, hy, rfl⟩ := way4 hg
        refine lv_aload_n hx hb dX3_change_22 rfl (lv_at hl 0 rfl) ?_
        refine wGet (v := .ref (am 3)) K hw hiX3 wM_o rfl 2 (by decide) (by decide +kernel) rfl dX3_change_23 ?_
        refine lv_iload_n hx hb dX3_change_26 rfl (lv_at hl 1 rfl) ?_
        refine wZald (v := S.2.2 0 j) K hw wM_on (in5 hj) (by rw [nI_clamp (by omega)]) dX3_change_27 ?_
        refine lv_if_ne (tgt := 37) hx hb dX3_change_28 (by decide) (fun c_28 => ?_) (fun c_28 => ?_)
        · refine lv_iload_n hx hb dX3_change_37 rfl (lv_at hl 3 rfl) ?_
          refine lv_if_lt (tgt := 51) hx hb dX3_change_38 (by decide) (fun c_38 => ?_) (fun c_38 => ?_)
          · have g3 : ¬ hsC S j i := fun q => q.2.1 c_38
            refine lv_aload_n hx hb dX3_change_51 rfl (lv_at hl 0 rfl) ?_
            refine lv_iload_n hx hb dX3_change_52 rfl (lv_at hl 1 rfl) ?_
            refine wCallV (As := [.int (nI j)]) (rest := []) K hw (mX3_out l E am S j hj) (cwV 1 hts gX3_change_X3_out rfl rfl rfl (by decide +kernel) ⟨Nat.le_of_ble_eq_true rfl, Nat.le_of_ble_eq_true rfl⟩) wM_o rfl rfl hl.1 rfl (Nat.le_of_ble_eq_true rfl) dX3_change_53 ⟨Nat.zero_le _, Nat.zero_le _⟩ (fun r_53 w' H locs hr hw => ?_)
            obtain ⟨rfl, rfl⟩ := hr
            exact wRetI K hw dX3_change_56 (pstM (by rw [sp_change, if_pos hl0, if_pos hg, kN_nI (by omega), if_neg c_28, if_neg g3]))
          · refine lv_iload_n hx hb dX3_change_41 rfl (lv_at hl 3 rfl) ?_
            refine lv_aload_n hx hb dX3_change_42 rfl (lv_at hl 0 rfl) ?_
            refine wGet (v := .ref (am 2)) K hw hiX3 wM_o rfl 1 (by decide) (by decide +kernel) rfl dX3_change_43 ?_
            refine lv_iload_n hx hb dX3_change_46 rfl (lv_at hl 1 rfl) ?_
            refine wIald (v := S.2.2 1 j) K hw wM_sizes (in5 hj) (by rw [nI_clamp (by omega)]) dX3_change_47 ?_
            refine lv_icmp_lt (tgt := 57) hx hb dX3_change_48 (by decide) (fun c_48 => ?_) (fun c_48 => ?_)
            · have g3 : hsC S j i := ⟨c_28, c_38, Int32.not_le.mpr c_48⟩
              obtain ⟨q, hq, rfl⟩ := hI.cell hj g3
              refine lv_bipush (v := 60) hx hb dX3_change_57 (by decide) ?_
              refine lv_iload_n hx hb dX3_change_59 rfl (lv_at hl 1 rfl) ?_
              refine lv_imul hx hb dX3_change_60 ?_
              refine lv_iload_n hx hb dX3_change_61 rfl (lv_at hl 3 rfl) ?_
              refine lv_iadd hx hb dX3_change_62 ?_
              rw [show ((60 * (nI j)) + (nI q) : Int32) = nI (60 * j + q) from ix60]
              refine lv_istore (lv' := [(5, .int (nI (60 * j + q))), (0, .ref (am 0)), (1, .int (nI j)), (2, .int (nI y)), (3, .int (nI q)), (4, .int v)]) hx hb dX3_change_63 hl (by decide) rfl (fun ls hl => ?_)
              refine lv_aload_n hx hb dX3_change_65 rfl (lv_at hl 1 rfl) ?_
              refine wGet (v := .ref (am 1)) K hw hiX3 wM_o rfl 0 (by decide) (by decide +kernel) rfl dX3_change_66 ?_
              refine lv_iload hx hb dX3_change_69 (lv_at hl 0 rfl) ?_
              refine wIald (v := S.1 j q) K hw wM_cells (vp_in_nI (by omega) (by omega)) (by rw [nI_clamp (by omega)]; exact gC_at hq) dX3_change_71 ?_
              refine lv_i2l (v := (S.1 j q).toInt64) hx hb dX3_change_72 rfl ?_
              refine lv_lstore (lv' := [(6, .long ((S.1 j q).toInt64)), (5, .int (nI (60 * j + q))), (0, .ref (am 0)), (1, .int (nI j)), (2, .int (nI y)), (3, .int (nI q)), (4, .int v)]) hx hb dX3_change_73 hl (by decide) rfl (fun ls hl => ?_)
              rcases (show y = 0 ∨ y = 1 ∨ y = 2 ∨ y = 3 by omega) with rfl | rfl | rfl | rfl
              · refine lv_iload_n hx hb dX3_change_75 rfl (lv_at hl 4 rfl) ?_
                refine lv_if_ne (tgt := 88) hx hb dX3_change_76 (by decide) (fun c_76 => ?_) (fun c_76 => ?_)
                · exact absurd c_76 (by decide)
                · refine lv_lload hx hb dX3_change_79 (lv_at hl 0 rfl) ?_
                  refine lv_iload hx hb dX3_change_81 (lv_at hl 6 rfl) ?_
                  refine lv_i2l (v := v.toInt64) hx hb dX3_change_83 rfl ?_
                  refine lv_ladd hx hb dX3_change_84 ?_
                  refine lv_goto (tgt := 120) hx hb dX3_change_85 (by decide) ?_
                  refine lv_lstore (lv' := [(8, .long (((S.1 j q).toInt64) + (v.toInt64))), (6, .long ((S.1 j q).toInt64)), (5, .int (nI (60 * j + q))), (0, .ref (am 0)), (1, .int (nI j)), (2, .int (nI 0)), (3, .int (nI q)), (4, .int v)]) hx hb dX3_change_120 hl (by decide) rfl (fun ls hl => ?_)
                  refine lv_aload_n hx hb dX3_change_122 rfl (lv_at hl 3 rfl) ?_
                  refine wGet (v := .ref (am 1)) K hw hiX3 wM_o rfl 0 (by decide) (by decide +kernel) rfl dX3_change_123 ?_
                  refine lv_iload hx hb dX3_change_126 (lv_at hl 2 rfl) ?_
                  refine lv_iload_n hx hb dX3_change_128 rfl (lv_at hl 4 rfl) ?_
                  refine lv_iconst (v := 3) hx hb dX3_change_129 (by decide) ?_
                  refine lv_icmp_ne (tgt := 145) hx hb dX3_change_130 (by decide) (fun c_130 => ?_) (fun c_130 => ?_)
                  · have hj3 : ¬ j = 3 := fun q => c_130 (by rw [q]; rfl)
                    refine lv_iload_n hx hb dX3_change_145 rfl (lv_at hl 4 rfl) ?_
                    refine lv_lload hx hb dX3_change_146 (lv_at hl 0 rfl) ?_
                    refine wCallS (As := [.int (nI j), .long (((S.1 j q).toInt64) + (v.toInt64))]) (rest := [.int (nI (60 * j + q)), .ref (am 1)]) K hw (mX3_stored l E (wM E am S) j hj ((S.1 j q).toInt64 + v.toInt64)) (va_cwS 2 hts gX3_change_X3_stored rfl rfl rfl (by decide +kernel) ⟨Nat.le_of_ble_eq_true rfl, Nat.le_of_ble_eq_true rfl⟩)  rfl hl.1 rfl (Nat.le_of_ble_eq_true rfl) dX3_change_148 ⟨Nat.zero_le _, Nat.zero_le _⟩ (fun r_148 w' H locs hr hw => ?_)
                    obtain ⟨hr148, rfl⟩ := hr
                    obtain rfl : r_148 = chg j (nI 0) (S.1 j q) v := by rw [hr148, chg, if_neg hj3]; rfl
                    refine wIast K hw wM_cells (vp_in_nI (by omega) (by omega)) dX3_change_151 (wM_sCellI hq (nI_clamp (by omega)) _) (fun H locs hw => ?_)
                    refine lv_aload_n hx hb dX3_change_152 rfl (lv_at hl 3 rfl) ?_
                    refine wGet (v := .ref (am 1)) K hw hiX3 wM_o rfl 0 (by decide) (by decide +kernel) rfl dX3_change_153 ?_
                    refine lv_iload hx hb dX3_change_156 (lv_at hl 2 rfl) ?_
                    refine wIald (v := chg j (nI 0) (S.1 j q) v) K hw wM_cells (vp_in_nI (by omega) (by omega)) (by rw [nI_clamp (by omega), gC_at hq]; exact sC_self) dX3_change_158 ?_
                    exact wRetI K hw dX3_change_159 (pstM (by rw [sp_change, if_pos hl0, if_pos hg, kN_nI (by omega), if_neg c_28, if_pos g3, kN_nI (by omega)]))
                  · have hj3 : j = 3 := (nI_eq (b := 3) (by omega) (by omega)).mp c_130
                    have hp : S.1 j q = 0 ∨ S.1 j q = 1 := by rw [hj3]; exact hI.2.2.2 q hq
                    refine lv_iload_n hx hb dX3_change_133 rfl (lv_at hl 5 rfl) ?_
                    refine lv_lload hx hb dX3_change_134 (lv_at hl 1 rfl) ?_
                    refine lv_l2i (v := ((S.1 j q).toInt64).toInt32) hx hb dX3_change_136 rfl ?_
                    rw [show (((S.1 j q).toInt64).toInt32 : Int32) = S.1 j q from i32_back _]
                    refine lv_iload hx hb dX3_change_137 (lv_at hl 7 rfl) ?_
                    refine wCallS (As := [.int (nI 0), .int (S.1 j q), .int v]) (rest := [.int (nI (60 * j + q)), .ref (am 1)]) K hw (mX3_pressed l E (wM E am S) 0 (by decide) (S.1 j q) v hp) (va_cwS 3 hts gX3_change_X3_pressed rfl rfl rfl (by decide +kernel) ⟨Nat.le_of_ble_eq_true rfl, Nat.le_of_ble_eq_true rfl⟩)  rfl hl.1 rfl (Nat.le_of_ble_eq_true rfl) dX3_change_139 ⟨Nat.zero_le _, Nat.zero_le _⟩ (fun r_139 w' H locs hr hw => ?_)
                    obtain ⟨hr139, rfl⟩ := hr
                    obtain rfl : r_139 = chg j (nI 0) (S.1 j q) v := by rw [hr139, chg, if_pos hj3]
                    refine lv_goto (tgt := 151) hx hb dX3_change_142 (by decide) ?_
                    refine wIast K hw wM_cells (vp_in_nI (by omega) (by omega)) dX3_change_151 (wM_sCellI hq (nI_clamp (by omega)) _) (fun H locs hw => ?_)
                    refine lv_aload_n hx hb dX3_change_152 rfl (lv_at hl 3 rfl) ?_
                    refine wGet (v := .ref (am 1)) K hw hiX3 wM_o rfl 0 (by decide) (by decide +kernel) rfl dX3_change_153 ?_
                    refine lv_iload hx hb dX3_change_156 (lv_at hl 2 rfl) ?_
                    refine wIald (v := chg j (nI 0) (S.1 j q) v) K hw wM_cells (vp_in_nI (by omega) (by omega)) (by rw [nI_clamp (by omega), gC_at hq]; exact sC_self) dX3_change_158 ?_
                    exact wRetI K hw dX3_change_159 (pstM (by rw [sp_change, if_pos hl0, if_pos hg, kN_nI (by omega), if_neg c_28, if_pos g3, kN_nI (by omega)]))
              · refine lv_iload_n hx hb dX3_change_75 rfl (lv_at hl 4 rfl) ?_
                refine lv_if_ne (tgt := 88) hx hb dX3_change_76 (by decide) (fun c_76 => ?_) (fun c_76 => ?_)
                · refine lv_iload_n hx hb dX3_change_88 rfl (lv_at hl 4 rfl) ?_
                  refine lv_iconst (v := 1) hx hb dX3_change_89 (by decide) ?_
                  refine lv_icmp_ne (tgt := 102) hx hb dX3_change_90 (by decide) (fun c_90 => ?_) (fun c_90 => ?_)
                  · exact absurd c_90 (by decide)
                  · refine lv_lload hx hb dX3_change_93 (lv_at hl 0 rfl) ?_
                    refine lv_iload hx hb dX3_change_95 (lv_at hl 6 rfl) ?_
                    refine lv_i2l (v := v.toInt64) hx hb dX3_change_97 rfl ?_
                    refine lv_lsub hx hb dX3_change_98 ?_
                    refine lv_goto (tgt := 120) hx hb dX3_change_99 (by decide) ?_
                    refine lv_lstore (lv' := [(8, .long (((S.1 j q).toInt64) - (v.toInt64))), (6, .long ((S.1 j q).toInt64)), (5, .int (nI (60 * j + q))), (0, .ref (am 0)), (1, .int (nI j)), (2, .int (nI 1)), (3, .int (nI q)), (4, .int v)]) hx hb dX3_change_120 hl (by decide) rfl (fun ls hl => ?_)
                    refine lv_aload_n hx hb dX3_change_122 rfl (lv_at hl 3 rfl) ?_
                    refine wGet (v := .ref (am 1)) K hw hiX3 wM_o rfl 0 (by decide) (by decide +kernel) rfl dX3_change_123 ?_
                    refine lv_iload hx hb dX3_change_126 (lv_at hl 2 rfl) ?_
                    refine lv_iload_n hx hb dX3_change_128 rfl (lv_at hl 4 rfl) ?_
                    refine lv_iconst (v := 3) hx hb dX3_change_129 (by decide) ?_
                    refine lv_icmp_ne (tgt := 145) hx hb dX3_change_130 (by decide) (fun c_130 => ?_) (fun c_130 => ?_)
                    · have hj3 : ¬ j = 3 := fun q => c_130 (by rw [q]; rfl)
                      refine lv_iload_n hx hb dX3_change_145 rfl (lv_at hl 4 rfl) ?_
                      refine lv_lload hx hb dX3_change_146 (lv_at hl 0 rfl) ?_
                      refine wCallS (As := [.int (nI j), .long (((S.1 j q).toInt64) - (v.toInt64))]) (rest := [.int (nI (60 * j + q)), .ref (am 1)]) K hw (mX3_stored l E (wM E am S) j hj ((S.1 j q).toInt64 - v.toInt64)) (va_cwS 2 hts gX3_change_X3_stored rfl rfl rfl (by decide +kernel) ⟨Nat.le_of_ble_eq_true rfl, Nat.le_of_ble_eq_true rfl⟩)  rfl hl.1 rfl (Nat.le_of_ble_eq_true rfl) dX3_change_148 ⟨Nat.zero_le _, Nat.zero_le _⟩ (fun r_148 w' H locs hr hw => ?_)
                      obtain ⟨hr148, rfl⟩ := hr
                      obtain rfl : r_148 = chg j (nI 1) (S.1 j q) v := by rw [hr148, chg, if_neg hj3]; rfl
                      refine wIast K hw wM_cells (vp_in_nI (by omega) (by omega)) dX3_change_151 (wM_sCellI hq (nI_clamp (by omega)) _) (fun H locs hw => ?_)
                      refine lv_aload_n hx hb dX3_change_152 rfl (lv_at hl 3 rfl) ?_
                      refine wGet (v := .ref (am 1)) K hw hiX3 wM_o rfl 0 (by decide) (by decide +kernel) rfl dX3_change_153 ?_
                      refine lv_iload hx hb dX3_change_156 (lv_at hl 2 rfl) ?_
                      refine wIald (v := chg j (nI 1) (S.1 j q) v) K hw wM_cells (vp_in_nI (by omega) (by omega)) (by rw [nI_clamp (by omega), gC_at hq]; exact sC_self) dX3_change_158 ?_
                      exact wRetI K hw dX3_change_159 (pstM (by rw [sp_change, if_pos hl0, if_pos hg, kN_nI (by omega), if_neg c_28, if_pos g3, kN_nI (by omega)]))
                    · have hj3 : j = 3 := (nI_eq (b := 3) (by omega) (by omega)).mp c_130
                      have hp : S.1 j q = 0 ∨ S.1 j q = 1 := by rw [hj3]; exact hI.2.2.2 q hq
                      refine lv_iload_n hx hb dX3_change_133 rfl (lv_at hl 5 rfl) ?_
                      refine lv_lload hx hb dX3_change_134 (lv_at hl 1 rfl) ?_
                      refine lv_l2i (v := ((S.1 j q).toInt64).toInt32) hx hb dX3_change_136 rfl ?_
                      rw [show (((S.1 j q).toInt64).toInt32 : Int32) = S.1 j q from i32_back _]
                      refine lv_iload hx hb dX3_change_137 (lv_at hl 7 rfl) ?_
                      refine wCallS (As := [.int (nI 1), .int (S.1 j q), .int v]) (rest := [.int (nI (60 * j + q)), .ref (am 1)]) K hw (mX3_pressed l E (wM E am S) 1 (by decide) (S.1 j q) v hp) (va_cwS 3 hts gX3_change_X3_pressed rfl rfl rfl (by decide +kernel) ⟨Nat.le_of_ble_eq_true rfl, Nat.le_of_ble_eq_true rfl⟩)  rfl hl.1 rfl (Nat.le_of_ble_eq_true rfl) dX3_change_139 ⟨Nat.zero_le _, Nat.zero_le _⟩ (fun r_139 w' H locs hr hw => ?_)
                      obtain ⟨hr139, rfl⟩ := hr
                      obtain rfl : r_139 = chg j (nI 1) (S.1 j q) v := by rw [hr139, chg, if_pos hj3]
                      refine lv_goto (tgt := 151) hx hb dX3_change_142 (by decide) ?_
                      refine wIast K hw wM_cells (vp_in_nI (by omega) (by omega)) dX3_change_151 (wM_sCellI hq (nI_clamp (by omega)) _) (fun H locs hw => ?_)
                      refine lv_aload_n hx hb dX3_change_152 rfl (lv_at hl 3 rfl) ?_
                      refine wGet (v := .ref (am 1)) K hw hiX3 wM_o rfl 0 (by decide) (by decide +kernel) rfl dX3_change_153 ?_
                      refine lv_iload hx hb dX3_change_156 (lv_at hl 2 rfl) ?_
                      refine wIald (v := chg j (nI 1) (S.1 j q) v) K hw wM_cells (vp_in_nI (by omega) (by omega)) (by rw [nI_clamp (by omega), gC_at hq]; exact sC_self) dX3_change_158 ?_
                      exact wRetI K hw dX3_change_159 (pstM (by rw [sp_change, if_pos hl0, if_pos hg, kN_nI (by omega), if_neg c_28, if_pos g3, kN_nI (by omega)]))
                · exact absurd c_76 (by decide)
              · refine lv_iload_n hx hb dX3_change_75 rfl (lv_at hl 4 rfl) ?_
                refine lv_if_ne (tgt := 88) hx hb dX3_change_76 (by decide) (fun c_76 => ?_) (fun c_76 => ?_)
                · refine lv_iload_n hx hb dX3_change_88 rfl (lv_at hl 4 rfl) ?_
                  refine lv_iconst (v := 1) hx hb dX3_change_89 (by decide) ?_
                  refine lv_icmp_ne (tgt := 102) hx hb dX3_change_90 (by decide) (fun c_90 => ?_) (fun c_90 => ?_)
                  · refine lv_iload_n hx hb dX3_change_102 rfl (lv_at hl 4 rfl) ?_
                    refine lv_iconst (v := 2) hx hb dX3_change_103 (by decide) ?_
                    refine lv_icmp_ne (tgt := 116) hx hb dX3_change_104 (by decide) (fun c_104 => ?_) (fun c_104 => ?_)
                    · exact absurd c_104 (by decide)
                    · refine lv_lload hx hb dX3_change_107 (lv_at hl 0 rfl) ?_
                      refine lv_iload hx hb dX3_change_109 (lv_at hl 6 rfl) ?_
                      refine lv_i2l (v := v.toInt64) hx hb dX3_change_111 rfl ?_
                      refine lv_lmul hx hb dX3_change_112 ?_
                      refine lv_goto (tgt := 120) hx hb dX3_change_113 (by decide) ?_
                      refine lv_lstore (lv' := [(8, .long (((S.1 j q).toInt64) * (v.toInt64))), (6, .long ((S.1 j q).toInt64)), (5, .int (nI (60 * j + q))), (0, .ref (am 0)), (1, .int (nI j)), (2, .int (nI 2)), (3, .int (nI q)), (4, .int v)]) hx hb dX3_change_120 hl (by decide) rfl (fun ls hl => ?_)
                      refine lv_aload_n hx hb dX3_change_122 rfl (lv_at hl 3 rfl) ?_
                      refine wGet (v := .ref (am 1)) K hw hiX3 wM_o rfl 0 (by decide) (by decide +kernel) rfl dX3_change_123 ?_
                      refine lv_iload hx hb dX3_change_126 (lv_at hl 2 rfl) ?_
                      refine lv_iload_n hx hb dX3_change_128 rfl (lv_at hl 4 rfl) ?_
                      refine lv_iconst (v := 3) hx hb dX3_change_129 (by decide) ?_
                      refine lv_icmp_ne (tgt := 145) hx hb dX3_change_130 (by decide) (fun c_130 => ?_) (fun c_130 => ?_)
                      · have hj3 : ¬ j = 3 := fun q => c_130 (by rw [q]; rfl)
                        refine lv_iload_n hx hb dX3_change_145 rfl (lv_at hl 4 rfl) ?_
                        refine lv_lload hx hb dX3_change_146 (lv_at hl 0 rfl) ?_
                        refine wCallS (As := [.int (nI j), .long (((S.1 j q).toInt64) * (v.toInt64))]) (rest := [.int (nI (60 * j + q)), .ref (am 1)]) K hw (mX3_stored l E (wM E am S) j hj ((S.1 j q).toInt64 * v.toInt64)) (va_cwS 2 hts gX3_change_X3_stored rfl rfl rfl (by decide +kernel) ⟨Nat.le_of_ble_eq_true rfl, Nat.le_of_ble_eq_true rfl⟩)  rfl hl.1 rfl (Nat.le_of_ble_eq_true rfl) dX3_change_148 ⟨Nat.zero_le _, Nat.zero_le _⟩ (fun r_148 w' H locs hr hw => ?_)
                        obtain ⟨hr148, rfl⟩ := hr
                        obtain rfl : r_148 = chg j (nI 2) (S.1 j q) v := by rw [hr148, chg, if_neg hj3]; rfl
                        refine wIast K hw wM_cells (vp_in_nI (by omega) (by omega)) dX3_change_151 (wM_sCellI hq (nI_clamp (by omega)) _) (fun H locs hw => ?_)
                        refine lv_aload_n hx hb dX3_change_152 rfl (lv_at hl 3 rfl) ?_
                        refine wGet (v := .ref (am 1)) K hw hiX3 wM_o rfl 0 (by decide) (by decide +kernel) rfl dX3_change_153 ?_
                        refine lv_iload hx hb dX3_change_156 (lv_at hl 2 rfl) ?_
                        refine wIald (v := chg j (nI 2) (S.1 j q) v) K hw wM_cells (vp_in_nI (by omega) (by omega)) (by rw [nI_clamp (by omega), gC_at hq]; exact sC_self) dX3_change_158 ?_
                        exact wRetI K hw dX3_change_159 (pstM (by rw [sp_change, if_pos hl0, if_pos hg, kN_nI (by omega), if_neg c_28, if_pos g3, kN_nI (by omega)]))
                      · have hj3 : j = 3 := (nI_eq (b := 3) (by omega) (by omega)).mp c_130
                        have hp : S.1 j q = 0 ∨ S.1 j q = 1 := by rw [hj3]; exact hI.2.2.2 q hq
                        refine lv_iload_n hx hb dX3_change_133 rfl (lv_at hl 5 rfl) ?_
                        refine lv_lload hx hb dX3_change_134 (lv_at hl 1 rfl) ?_
                        refine lv_l2i (v := ((S.1 j q).toInt64).toInt32) hx hb dX3_change_136 rfl ?_
                        rw [show (((S.1 j q).toInt64).toInt32 : Int32) = S.1 j q from i32_back _]
                        refine lv_iload hx hb dX3_change_137 (lv_at hl 7 rfl) ?_
                        refine wCallS (As := [.int (nI 2), .int (S.1 j q), .int v]) (rest := [.int (nI (60 * j + q)), .ref (am 1)]) K hw (mX3_pressed l E (wM E am S) 2 (by decide) (S.1 j q) v hp) (va_cwS 3 hts gX3_change_X3_pressed rfl rfl rfl (by decide +kernel) ⟨Nat.le_of_ble_eq_true rfl, Nat.le_of_ble_eq_true rfl⟩)  rfl hl.1 rfl (Nat.le_of_ble_eq_true rfl) dX3_change_139 ⟨Nat.zero_le _, Nat.zero_le _⟩ (fun r_139 w' H locs hr hw => ?_)
                        obtain ⟨hr139, rfl⟩ := hr
                        obtain rfl : r_139 = chg j (nI 2) (S.1 j q) v := by rw [hr139, chg, if_pos hj3]
                        refine lv_goto (tgt := 151) hx hb dX3_change_142 (by decide) ?_
                        refine wIast K hw wM_cells (vp_in_nI (by omega) (by omega)) dX3_change_151 (wM_sCellI hq (nI_clamp (by omega)) _) (fun H locs hw => ?_)
                        refine lv_aload_n hx hb dX3_change_152 rfl (lv_at hl 3 rfl) ?_
                        refine wGet (v := .ref (am 1)) K hw hiX3 wM_o rfl 0 (by decide) (by decide +kernel) rfl dX3_change_153 ?_
                        refine lv_iload hx hb dX3_change_156 (lv_at hl 2 rfl) ?_
                        refine wIald (v := chg j (nI 2) (S.1 j q) v) K hw wM_cells (vp_in_nI (by omega) (by omega)) (by rw [nI_clamp (by omega), gC_at hq]; exact sC_self) dX3_change_158 ?_
                        exact wRetI K hw dX3_change_159 (pstM (by rw [sp_change, if_pos hl0, if_pos hg, kN_nI (by omega), if_neg c_28, if_pos g3, kN_nI (by omega)]))
                  · exact absurd c_90 (by decide)
                · exact absurd c_76 (by decide)
              · refine lv_iload_n hx hb dX3_change_75 rfl (lv_at hl 4 rfl) ?_
                refine lv_if_ne (tgt := 88) hx hb dX3_change_76 (by decide) (fun c_76 => ?_) (fun c_76 => ?_)
                · refine lv_iload_n hx hb dX3_change_88 rfl (lv_at hl 4 rfl) ?_
                  refine lv_iconst (v := 1) hx hb dX3_change_89 (by decide) ?_
                  refine lv_icmp_ne (tgt := 102) hx hb dX3_change_90 (by decide) (fun c_90 => ?_) (fun c_90 => ?_)
                  · refine lv_iload_n hx hb dX3_change_102 rfl (lv_at hl 4 rfl) ?_
                    refine lv_iconst (v := 2) hx hb dX3_change_103 (by decide) ?_
                    refine lv_icmp_ne (tgt := 116) hx hb dX3_change_104 (by decide) (fun c_104 => ?_) (fun c_104 => ?_)
                    · refine lv_lload hx hb dX3_change_116 (lv_at hl 0 rfl) ?_
                      refine lv_lconst (v := 1) hx hb dX3_change_118 (by decide) ?_
                      refine lv_ladd hx hb dX3_change_119 ?_
                      refine lv_lstore (lv' := [(8, .long (((S.1 j q).toInt64) + 1)), (6, .long ((S.1 j q).toInt64)), (5, .int (nI (60 * j + q))), (0, .ref (am 0)), (1, .int (nI j)), (2, .int (nI 3)), (3, .int (nI q)), (4, .int v)]) hx hb dX3_change_120 hl (by decide) rfl (fun ls hl => ?_)
                      refine lv_aload_n hx hb dX3_change_122 rfl (lv_at hl 3 rfl) ?_
                      refine wGet (v := .ref (am 1)) K hw hiX3 wM_o rfl 0 (by decide) (by decide +kernel) rfl dX3_change_123 ?_
                      refine lv_iload hx hb dX3_change_126 (lv_at hl 2 rfl) ?_
                      refine lv_iload_n hx hb dX3_change_128 rfl (lv_at hl 4 rfl) ?_
                      refine lv_iconst (v := 3) hx hb dX3_change_129 (by decide) ?_
                      refine lv_icmp_ne (tgt := 145) hx hb dX3_change_130 (by decide) (fun c_130 => ?_) (fun c_130 => ?_)
                      · have hj3 : ¬ j = 3 := fun q => c_130 (by rw [q]; rfl)
                        refine lv_iload_n hx hb dX3_change_145 rfl (lv_at hl 4 rfl) ?_
                        refine lv_lload hx hb dX3_change_146 (lv_at hl 0 rfl) ?_
                        refine wCallS (As := [.int (nI j), .long (((S.1 j q).toInt64) + 1)]) (rest := [.int (nI (60 * j + q)), .ref (am 1)]) K hw (mX3_stored l E (wM E am S) j hj ((S.1 j q).toInt64 + 1)) (va_cwS 2 hts gX3_change_X3_stored rfl rfl rfl (by decide +kernel) ⟨Nat.le_of_ble_eq_true rfl, Nat.le_of_ble_eq_true rfl⟩)  rfl hl.1 rfl (Nat.le_of_ble_eq_true rfl) dX3_change_148 ⟨Nat.zero_le _, Nat.zero_le _⟩ (fun r_148 w' H locs hr hw => ?_)
                        obtain ⟨hr148, rfl⟩ := hr
                        obtain rfl : r_148 = chg j (nI 3) (S.1 j q) v := by rw [hr148, chg, if_neg hj3]; rfl
                        refine wIast K hw wM_cells (vp_in_nI (by omega) (by omega)) dX3_change_151 (wM_sCellI hq (nI_clamp (by omega)) _) (fun H locs hw => ?_)
                        refine lv_aload_n hx hb dX3_change_152 rfl (lv_at hl 3 rfl) ?_
                        refine wGet (v := .ref (am 1)) K hw hiX3 wM_o rfl 0 (by decide) (by decide +kernel) rfl dX3_change_153 ?_
                        refine lv_iload hx hb dX3_change_156 (lv_at hl 2 rfl) ?_
                        refine wIald (v := chg j (nI 3) (S.1 j q) v) K hw wM_cells (vp_in_nI (by omega) (by omega)) (by rw [nI_clamp (by omega), gC_at hq]; exact sC_self) dX3_change_158 ?_
                        exact wRetI K hw dX3_change_159 (pstM (by rw [sp_change, if_pos hl0, if_pos hg, kN_nI (by omega), if_neg c_28, if_pos g3, kN_nI (by omega)]))
                      · have hj3 : j = 3 := (nI_eq (b := 3) (by omega) (by omega)).mp c_130
                        have hp : S.1 j q = 0 ∨ S.1 j q = 1 := by rw [hj3]; exact hI.2.2.2 q hq
                        refine lv_iload_n hx hb dX3_change_133 rfl (lv_at hl 5 rfl) ?_
                        refine lv_lload hx hb dX3_change_134 (lv_at hl 1 rfl) ?_
                        refine lv_l2i (v := ((S.1 j q).toInt64).toInt32) hx hb dX3_change_136 rfl ?_
                        rw [show (((S.1 j q).toInt64).toInt32 : Int32) = S.1 j q from i32_back _]
                        refine lv_iload hx hb dX3_change_137 (lv_at hl 7 rfl) ?_
                        refine wCallS (As := [.int (nI 3), .int (S.1 j q), .int v]) (rest := [.int (nI (60 * j + q)), .ref (am 1)]) K hw (mX3_pressed l E (wM E am S) 3 (by decide) (S.1 j q) v hp) (va_cwS 3 hts gX3_change_X3_pressed rfl rfl rfl (by decide +kernel) ⟨Nat.le_of_ble_eq_true rfl, Nat.le_of_ble_eq_true rfl⟩)  rfl hl.1 rfl (Nat.le_of_ble_eq_true rfl) dX3_change_139 ⟨Nat.zero_le _, Nat.zero_le _⟩ (fun r_139 w' H locs hr hw => ?_)
                        obtain ⟨hr139, rfl⟩ := hr
                        obtain rfl : r_139 = chg j (nI 3) (S.1 j q) v := by rw [hr139, chg, if_pos hj3]
                        refine lv_goto (tgt := 151) hx hb dX3_change_142 (by decide) ?_
                        refine wIast K hw wM_cells (vp_in_nI (by omega) (by omega)) dX3_change_151 (wM_sCellI hq (nI_clamp (by omega)) _) (fun H locs hw => ?_)
                        refine lv_aload_n hx hb dX3_change_152 rfl (lv_at hl 3 rfl) ?_
                        refine wGet (v := .ref (am 1)) K hw hiX3 wM_o rfl 0 (by decide) (by decide +kernel) rfl dX3_change_153 ?_
                        refine lv_iload hx hb dX3_change_156 (lv_at hl 2 rfl) ?_
                        refine wIald (v := chg j (nI 3) (S.1 j q) v) K hw wM_cells (vp_in_nI (by omega) (by omega)) (by rw [nI_clamp (by omega), gC_at hq]; exact sC_self) dX3_change_158 ?_
                        exact wRetI K hw dX3_change_159 (pstM (by rw [sp_change, if_pos hl0, if_pos hg, kN_nI (by omega), if_neg c_28, if_pos g3, kN_nI (by omega)]))
                    · exact absurd c_104 (by decide)
                  · exact absurd c_90 (by decide)
                · exact absurd c_76 (by decide)
            · have g3 : ¬ hsC S j i := fun q => q.2.2 (Int32.not_lt.mp c_48)
              refine lv_aload_n hx hb dX3_change_51 rfl (lv_at hl 0 rfl) ?_
              refine lv_iload_n hx hb dX3_change_52 rfl (lv_at hl 1 rfl) ?_
              refine wCallV (As := [.int (nI j)]) (rest := []) K hw (mX3_out l E am S j hj) (cwV 1 hts gX3_change_X3_out rfl rfl rfl (by decide +kernel) ⟨Nat.le_of_ble_eq_true rfl, Nat.le_of_ble_eq_true rfl⟩) wM_o rfl rfl hl.1 rfl (Nat.le_of_ble_eq_true rfl) dX3_change_53 ⟨Nat.zero_le _, Nat.zero_le _⟩ (fun r_53 w' H locs hr hw => ?_)
              obtain ⟨rfl, rfl⟩ := hr
              exact wRetI K hw dX3_change_56 (pstM (by rw [sp_change, if_pos hl0, if_pos hg, kN_nI (by omega), if_neg c_28, if_neg g3]))
        · refine lv_aload_n hx hb dX3_change_31 rfl (lv_at hl 0 rfl) ?_
          refine lv_iload_n hx hb dX3_change_32 rfl (lv_at hl 1 rfl) ?_
          refine wCallV (As := [.int (nI j)]) (rest := []) K hw (mX3_off l E am S j hj) (cwV 1 hts gX3_change_X3_off rfl rfl rfl (by decide +kernel) ⟨Nat.le_of_ble_eq_true rfl, Nat.le_of_ble_eq_true rfl⟩) wM_o rfl rfl hl.1 rfl (Nat.le_of_ble_eq_true rfl) dX3_change_33 ⟨Nat.zero_le _, Nat.zero_le _⟩ (fun r_33 w' H locs hr hw => ?_)
          obtain ⟨rfl, rfl⟩ := hr
          exact wRetI K hw dX3_change_36 (pstM (by rw [sp_change, if_pos hl0, if_pos hg, kN_nI (by omega), if_pos c_28]))
      · have hg : ¬ (¬ way < 0 ∧ ¬ 4 ≤ way) := fun q => q.2 (gt3 c_16)
        refine lv_ldc (v := (-1000002)) hx hb hown (hts (.constant RX3 66 (-1000002)) (by decide +kernel)) dX3_change_19 ?_
        exact wRetI K hw dX3_change_21 (pstM (by rw [sp_change, if_pos hl0, if_neg hg]))
  · have hl0 := bI_f hr1 c_4
    refine lv_ldc (v := (-1000001)) hx hb hown (hts (.constant RX3 52 (-1000001)) (by decide +kernel)) dX3_change_7 ?_
    exact wRetI K hw dX3_change_9 (pstM (by rw [sp_change, if_neg hl0]))
set_option maxHeartbeats 4000000 in
set_option maxRecDepth 100000 in
theorem mX3_rule (l : Launch) (E : wE) (am : Nat → Nat) (S : SS) (hI : Inv S) (lane : Int32) (x : Int32) (y : Int32) : MCi l E yX3_rule wsX3_rule { frames := 1, cells := 0, slots := 0, locals := 20 } [.ref (am 0), .int lane, .int x, .int y] (wM E am S) (fun r w => r = (sp_rule S lane x y).1 ∧ w = wM E am (sp_rule S lane x y).2) := by
  refine wEnterI (cc := cX3_rule) (nL := 5) (ret := (some .int)) (own := RX3) (by decide) rfl rfl (Nat.le_of_ble_eq_true rfl) ?_
  intro p e s m below meth c A ls K hl hw
  have hl : lv_has ls 5 [(0, .ref (am 0)), (1, .int lane), (2, .int x), (3, .int y)] := hl
  obtain ⟨hx, hb, -, hml, hown, hts, -, -, -⟩ := id K
  have hiX3 : ∀ w ∈ wsX30, w ∈ wsX3_rule := by decide +kernel
  refine lv_iload_n hx hb dX3_rule_0 rfl (lv_at hl 1 rfl) ?_
  refine wCallS (As := [.int lane]) (rest := []) K hw (mX3_isLane l E (wM E am S) lane) (va_cwS 1 hts gX3_rule_X3_isLane rfl rfl rfl (by decide +kernel) ⟨Nat.le_of_ble_eq_true rfl, Nat.le_of_ble_eq_true rfl⟩)  rfl hl.1 rfl (Nat.le_of_ble_eq_true rfl) dX3_rule_1 ⟨Nat.zero_le _, Nat.zero_le _⟩ (fun r_1 w' H locs hr hw => ?_)
  obtain ⟨hr1, rfl⟩ := hr
  refine lv_if_ne (tgt := 10) hx hb dX3_rule_4 (by decide) (fun c_4 => ?_) (fun c_4 => ?_)
  · have hl0 := bI_t hr1 c_4
    obtain ⟨j, hj, rfl⟩ := isl_of hl0
    refine lv_iload_n hx hb dX3_rule_10 rfl (lv_at hl 2 rfl) ?_
    refine lv_bipush (v := 16) hx hb dX3_rule_11 (by decide) ?_
    refine lv_icmp_gt (tgt := 22) hx hb dX3_rule_13 (by decide) (fun c_13 => ?_) (fun c_13 => ?_)
    · have hg : ¬ (¬ 16 < x ∧ ¬ 16 < y) := fun q => q.1 c_13
      refine lv_ldc (v := (-1000003)) hx hb hown (hts (.constant RX3 53 (-1000003)) (by decide +kernel)) dX3_rule_22 ?_
      exact wRetI K hw dX3_rule_24 (pstM (by rw [sp_rule, if_pos hl0, if_neg hg]))
    · refine lv_iload_n hx hb dX3_rule_16 rfl (lv_at hl 3 rfl) ?_
      refine lv_bipush (v := 16) hx hb dX3_rule_17 (by decide) ?_
      refine lv_icmp_le (tgt := 25) hx hb dX3_rule_19 (by decide) (fun c_19 => ?_) (fun c_19 => ?_)
      · have hg : ¬ 16 < x ∧ ¬ 16 < y := ⟨c_13, Int32.not_lt.mpr c_19⟩
        refine lv_iload_n hx hb dX3_rule_25 rfl (lv_at hl 2 rfl) ?_
        refine lv_if_lt (tgt := 33) hx hb dX3_rule_26 (by decide) (fun c_26 => ?_) (fun c_26 => ?_)
        · have hp : ¬ (¬ x < 0 ∧ ¬ y < 0) := fun q => q.1 c_26
          refine lv_ldc (v := (-1000004)) hx hb hown (hts (.constant RX3 54 (-1000004)) (by decide +kernel)) dX3_rule_33 ?_
          exact wRetI K hw dX3_rule_35 (pstM (by rw [sp_rule, if_pos hl0, if_pos hg, if_neg hp]))
        · refine lv_iload_n hx hb dX3_rule_29 rfl (lv_at hl 3 rfl) ?_
          refine lv_if_ge (tgt := 36) hx hb dX3_rule_30 (by decide) (fun c_30 => ?_) (fun c_30 => ?_)
          · have hp : ¬ x < 0 ∧ ¬ y < 0 := ⟨c_26, Int32.not_lt.mpr c_30⟩
            have loop : ∀ (d i : Nat), i + d = 256 → ∀ (H : Heap) (locs : List Loc) (ls : Array Slot), lv_has ls 5 [(4, .int (nI i)), (0, .ref (am 0)), (1, .int (nI j)), (2, .int x), (3, .int y)] → wW E A s (wM E am (S.1, zr S.2.1 j i, up2 (up2 (up2 S.2.2 2 j 1) 3 j x) 4 j y)) H locs → W p l e ({ frames := 1, cells := 0, slots := 0, locals := 20 } : Room) s m ([.ref (am 0), .int (nI j), .int x, .int y] : List Value).toArray below meth c H locs 0 0 (MQ below (va_Qi (fun r w => r = (sp_rule S (nI j) x y).1 ∧ w = wM E am (sp_rule S (nI j) x y).2) (wAft E A) A) ([.ref (am 0), .int (nI j), .int x, .int y] : List Value).toArray s 0 0 A) (F0 m 60 ls []) := by
              intro d
              induction d with
              | zero =>
                intro i hid H locs ls hl hw
                obtain rfl : i = 256 := by omega
                refine lv_iload hx hb dX3_rule_60 (lv_at hl 0 rfl) ?_
                refine lv_sipush (v := 256) hx hb dX3_rule_62 (by decide) ?_
                refine lv_icmp_ge (tgt := 88) hx hb dX3_rule_65 (by decide) (fun c_65 => ?_) (fun c_65 => ?_)
                · refine lv_iload_n hx hb dX3_rule_88 rfl (lv_at hl 3 rfl) ?_
                  refine lv_iload_n hx hb dX3_rule_89 rfl (lv_at hl 4 rfl) ?_
                  refine lv_imul hx hb dX3_rule_90 ?_
                  exact wRetI K hw dX3_rule_91 (pstM (by rw [sp_rule, if_pos hl0, if_pos hg, if_pos hp, kN_nI (by omega)]))
                · exact absurd (nI_le (a := 256) (b := 256) (by omega) (by omega)) c_65
              | succ d ih =>
                intro i hid H locs ls hl hw
                refine lv_iload hx hb dX3_rule_60 (lv_at hl 0 rfl) ?_
                refine lv_sipush (v := 256) hx hb dX3_rule_62 (by decide) ?_
                refine lv_icmp_ge (tgt := 88) hx hb dX3_rule_65 (by decide) (fun c_65 => ?_) (fun c_65 => ?_)
                · exact absurd c_65 (nI_ge (b := 256) (by omega) (by omega))
                · refine lv_aload_n hx hb dX3_rule_68 rfl (lv_at hl 1 rfl) ?_
                  refine wGet (v := .ref (am 4)) K hw hiX3 wM_o rfl 3 (by decide) (by decide +kernel) rfl dX3_rule_69 ?_
                  refine lv_sipush (v := 256) hx hb dX3_rule_72 (by decide) ?_
                  refine lv_iload_n hx hb dX3_rule_75 rfl (lv_at hl 2 rfl) ?_
                  refine lv_imul hx hb dX3_rule_76 ?_
                  refine lv_iload hx hb dX3_rule_77 (lv_at hl 0 rfl) ?_
                  refine lv_iadd hx hb dX3_rule_79 ?_
                  rw [show ((256 * (nI j)) + (nI i) : Int32) = nI (256 * j + i) from ix256]
                  refine lv_iconst (v := 0) hx hb dX3_rule_80 (by decide) ?_
                  refine wIast K hw wM_sheets (vp_in_nI (by omega) (by omega)) dX3_rule_81 (wM_sNumI (by omega) (nI_clamp (by omega)) _) (fun H locs hw => ?_)
                  refine lv_iinc (v := nI (i + 1)) (lv' := [(4, .int (nI (i + 1))), (0, .ref (am 0)), (1, .int (nI j)), (2, .int x), (3, .int y)]) hx hb dX3_rule_82 hl (k := 0) rfl (nI_1 i) (by decide) rfl (fun ls hl => ?_)
                  refine lv_goto (tgt := 60) hx hb dX3_rule_85 (by decide) ?_
                  exact ih (i + 1) (by omega) H locs ls hl (hw.to (by rw [sN, zr_s]))
            refine lv_aload_n hx hb dX3_rule_36 rfl (lv_at hl 0 rfl) ?_
            refine wGet (v := .ref (am 7)) K hw hiX3 wM_o rfl 6 (by decide) (by decide +kernel) rfl dX3_rule_37 ?_
            refine lv_iload_n hx hb dX3_rule_40 rfl (lv_at hl 1 rfl) ?_
            refine lv_iconst (v := 1) hx hb dX3_rule_41 (by decide) ?_
            refine wZast K hw wM_ruled (in5 hj) dX3_rule_42 (by decide +kernel) (wM_sRuledI (nI_clamp (by omega)) _) (fun H locs hw => ?_)
            refine lv_aload_n hx hb dX3_rule_43 rfl (lv_at hl 0 rfl) ?_
            refine wGet (v := .ref (am 5)) K hw hiX3 wM_o rfl 4 (by decide) (by decide +kernel) rfl dX3_rule_44 ?_
            refine lv_iload_n hx hb dX3_rule_47 rfl (lv_at hl 1 rfl) ?_
            refine lv_iload_n hx hb dX3_rule_48 rfl (lv_at hl 2 rfl) ?_
            refine wIast K hw wM_rows (in5 hj) dX3_rule_49 (wM_sRowsI (nI_clamp (by omega)) _) (fun H locs hw => ?_)
            refine lv_aload_n hx hb dX3_rule_50 rfl (lv_at hl 0 rfl) ?_
            refine wGet (v := .ref (am 6)) K hw hiX3 wM_o rfl 5 (by decide) (by decide +kernel) rfl dX3_rule_51 ?_
            refine lv_iload_n hx hb dX3_rule_54 rfl (lv_at hl 1 rfl) ?_
            refine lv_iload_n hx hb dX3_rule_55 rfl (lv_at hl 3 rfl) ?_
            refine wIast K hw wM_cols (in5 hj) dX3_rule_56 (wM_sColsI (nI_clamp (by omega)) _) (fun H locs hw => ?_)
            refine lv_iconst (v := 0) hx hb dX3_rule_57 (by decide) ?_
            refine lv_istore (lv' := [(4, .int 0), (0, .ref (am 0)), (1, .int (nI j)), (2, .int x), (3, .int y)]) hx hb dX3_rule_58 hl (by decide) rfl (fun ls hl => ?_)
            exact loop 256 0 (by omega) _ _ _ (by rw [nI_0]; exact hl) (hw.to (by rw [zr_0]; rfl))
          · have hp : ¬ (¬ x < 0 ∧ ¬ y < 0) := fun q => q.2 (Int32.not_le.mp c_30)
            refine lv_ldc (v := (-1000004)) hx hb hown (hts (.constant RX3 54 (-1000004)) (by decide +kernel)) dX3_rule_33 ?_
            exact wRetI K hw dX3_rule_35 (pstM (by rw [sp_rule, if_pos hl0, if_pos hg, if_neg hp]))
      · have hg : ¬ (¬ 16 < x ∧ ¬ 16 < y) := fun q => q.2 (Int32.not_le.mp c_19)
        refine lv_ldc (v := (-1000003)) hx hb hown (hts (.constant RX3 53 (-1000003)) (by decide +kernel)) dX3_rule_22 ?_
        exact wRetI K hw dX3_rule_24 (pstM (by rw [sp_rule, if_pos hl0, if_neg hg]))
  · have hl0 := bI_f hr1 c_4
    refine lv_ldc (v := (-1000001)) hx hb hown (hts (.constant RX3 52 (-1000001)) (by decide +kernel)) dX3_rule_7 ?_
    exact wRetI K hw dX3_rule_9 (pstM (by rw [sp_rule, if_neg hl0]))
set_option maxHeartbeats 4000000 in
set_option maxRecDepth 100000 in
theorem mX3_lay (l : Launch) (E : wE) (am : Nat → Nat) (S : SS) (hI : Inv S) (lane : Int32) (row : Int32) (fr : Int32) : MCi l E yX3_lay wsX3_lay { frames := 1, cells := 0, slots := 0, locals := 21 } [.ref (am 0), .int lane, .int row, .int fr] (wM E am S) (fun r w => r = (sp_lay S lane row fr).1 ∧ w = wM E am (sp_lay S lane row fr).2) := by
  refine wEnterI (cc := cX3_lay) (nL := 5) (ret := (some .int)) (own := RX3) (by decide) rfl rfl (Nat.le_of_ble_eq_true rfl) ?_
  intro p e s m below meth c A ls K hl hw
  have hl : lv_has ls 5 [(0, .ref (am 0)), (1, .int lane), (2, .int row), (3, .int fr)] := hl
  obtain ⟨hx, hb, -, hml, hown, hts, -, -, -⟩ := id K
  have hiX3 : ∀ w ∈ wsX30, w ∈ wsX3_lay := by decide +kernel
  refine lv_iload_n hx hb dX3_lay_0 rfl (lv_at hl 1 rfl) ?_
  refine wCallS (As := [.int lane]) (rest := []) K hw (mX3_isLane l E (wM E am S) lane) (va_cwS 1 hts gX3_lay_X3_isLane rfl rfl rfl (by decide +kernel) ⟨Nat.le_of_ble_eq_true rfl, Nat.le_of_ble_eq_true rfl⟩)  rfl hl.1 rfl (Nat.le_of_ble_eq_true rfl) dX3_lay_1 ⟨Nat.zero_le _, Nat.zero_le _⟩ (fun r_1 w' H locs hr hw => ?_)
  obtain ⟨hr1, rfl⟩ := hr
  refine lv_if_ne (tgt := 10) hx hb dX3_lay_4 (by decide) (fun c_4 => ?_) (fun c_4 => ?_)
  · have hl0 := bI_t hr1 c_4
    obtain ⟨j, hj, rfl⟩ := isl_of hl0
    refine lv_aload_n hx hb dX3_lay_10 rfl (lv_at hl 0 rfl) ?_
    refine wGet (v := .ref (am 7)) K hw hiX3 wM_o rfl 6 (by decide) (by decide +kernel) rfl dX3_lay_11 ?_
    refine lv_iload_n hx hb dX3_lay_14 rfl (lv_at hl 1 rfl) ?_
    refine wZald (v := S.2.2 2 j) K hw wM_ruled (in5 hj) (by rw [nI_clamp (by omega)]) dX3_lay_15 ?_
    refine lv_if_ne (tgt := 22) hx hb dX3_lay_16 (by decide) (fun c_16 => ?_) (fun c_16 => ?_)
    · refine lv_iload_n hx hb dX3_lay_22 rfl (lv_at hl 2 rfl) ?_
      refine lv_if_lt (tgt := 36) hx hb dX3_lay_23 (by decide) (fun c_23 => ?_) (fun c_23 => ?_)
      · have g4 : ¬ (¬ row < 0 ∧ ¬ S.2.2 3 j ≤ row) := fun q => q.1 c_23
        refine lv_ldc (v := (-1000008)) hx hb hown (hts (.constant RX3 72 (-1000008)) (by decide +kernel)) dX3_lay_36 ?_
        exact wRetI K hw dX3_lay_38 (pstM (by rw [sp_lay, if_pos hl0, kN_nI (by omega), if_neg c_16, if_neg g4]))
      · refine lv_iload_n hx hb dX3_lay_26 rfl (lv_at hl 2 rfl) ?_
        refine lv_aload_n hx hb dX3_lay_27 rfl (lv_at hl 0 rfl) ?_
        refine wGet (v := .ref (am 5)) K hw hiX3 wM_o rfl 4 (by decide) (by decide +kernel) rfl dX3_lay_28 ?_
        refine lv_iload_n hx hb dX3_lay_31 rfl (lv_at hl 1 rfl) ?_
        refine wIald (v := S.2.2 3 j) K hw wM_rows (in5 hj) (by rw [nI_clamp (by omega)]) dX3_lay_32 ?_
        refine lv_icmp_lt (tgt := 39) hx hb dX3_lay_33 (by decide) (fun c_33 => ?_) (fun c_33 => ?_)
        · have g4 : ¬ row < 0 ∧ ¬ S.2.2 3 j ≤ row := ⟨c_23, Int32.not_le.mpr c_33⟩
          refine lv_aload_n hx hb dX3_lay_39 rfl (lv_at hl 0 rfl) ?_
          refine wGet (v := .ref (am 3)) K hw hiX3 wM_o rfl 2 (by decide) (by decide +kernel) rfl dX3_lay_40 ?_
          refine lv_iload_n hx hb dX3_lay_43 rfl (lv_at hl 1 rfl) ?_
          refine wZald (v := S.2.2 0 j) K hw wM_on (in5 hj) (by rw [nI_clamp (by omega)]) dX3_lay_44 ?_
          refine lv_if_ne (tgt := 54) hx hb dX3_lay_45 (by decide) (fun c_45 => ?_) (fun c_45 => ?_)
          · refine lv_iload_n hx hb dX3_lay_54 rfl (lv_at hl 3 rfl) ?_
            refine lv_if_lt (tgt := 68) hx hb dX3_lay_55 (by decide) (fun c_55 => ?_) (fun c_55 => ?_)
            · have g5 : ¬ (¬ fr < 0 ∧ ¬ S.2.2 1 j < fr) := fun q => q.1 c_55
              refine lv_aload_n hx hb dX3_lay_68 rfl (lv_at hl 0 rfl) ?_
              refine lv_iload_n hx hb dX3_lay_69 rfl (lv_at hl 1 rfl) ?_
              refine wCallV (As := [.int (nI j)]) (rest := []) K hw (mX3_out l E am S j hj) (cwV 1 hts gX3_lay_X3_out rfl rfl rfl (by decide +kernel) ⟨Nat.le_of_ble_eq_true rfl, Nat.le_of_ble_eq_true rfl⟩) wM_o rfl rfl hl.1 rfl (Nat.le_of_ble_eq_true rfl) dX3_lay_70 ⟨Nat.zero_le _, Nat.zero_le _⟩ (fun r_70 w' H locs hr hw => ?_)
              obtain ⟨rfl, rfl⟩ := hr
              exact wRetI K hw dX3_lay_73 (pstM (by rw [sp_lay, if_pos hl0, kN_nI (by omega), if_neg c_16, if_pos g4, if_neg c_45, if_neg g5]))
            · refine lv_iload_n hx hb dX3_lay_58 rfl (lv_at hl 3 rfl) ?_
              refine lv_aload_n hx hb dX3_lay_59 rfl (lv_at hl 0 rfl) ?_
              refine wGet (v := .ref (am 2)) K hw hiX3 wM_o rfl 1 (by decide) (by decide +kernel) rfl dX3_lay_60 ?_
              refine lv_iload_n hx hb dX3_lay_63 rfl (lv_at hl 1 rfl) ?_
              refine wIald (v := S.2.2 1 j) K hw wM_sizes (in5 hj) (by rw [nI_clamp (by omega)]) dX3_lay_64 ?_
              refine lv_icmp_le (tgt := 74) hx hb dX3_lay_65 (by decide) (fun c_65 => ?_) (fun c_65 => ?_)
              · have g5 : ¬ fr < 0 ∧ ¬ S.2.2 1 j < fr := ⟨c_55, Int32.not_lt.mpr c_65⟩
                obtain ⟨n, hn, en⟩ := (hI.1 j hj).2.1
                obtain ⟨qc, hqc, eqc⟩ := (hI.1 j hj).2.2.2.2
                obtain ⟨rr, hrr, er⟩ := (hI.1 j hj).2.2.2.1
                obtain ⟨a, ha, rfl⟩ := lt_of_ix hrr (by omega) er g4.1 g4.2
                obtain ⟨f, hf, rfl⟩ := le_of_ix (by omega) en c_55 c_65
                have hM : lyM S j f = min (n - f) qc := by rw [lyM, en, eqc, nI_clamp (by omega), nI_clamp (by omega)]
                have hMq : lyM S j f ≤ qc := by rw [hM]; exact Nat.min_le_right _ _
                have hMn : lyM S j f ≤ n - f := by rw [hM]; exact Nat.min_le_left _ _
                have loop : ∀ (d i : Nat), i + d = lyM S j f → ∀ (H : Heap) (locs : List Loc) (ls : Array Slot), lv_has ls 5 [(4, .int (nI i)), (0, .ref (am 0)), (1, .int (nI j)), (2, .int (nI a)), (3, .int (nI f))] → wW E A s (wM E am (S.1, lyN S j a f i, S.2.2)) H locs → W p l e ({ frames := 1, cells := 0, slots := 0, locals := 21 } : Room) s m ([.ref (am 0), .int (nI j), .int (nI a), .int (nI f)] : List Value).toArray below meth c H locs 0 0 (MQ below (va_Qi (fun r w => r = (sp_lay S (nI j) (nI a) (nI f)).1 ∧ w = wM E am (sp_lay S (nI j) (nI a) (nI f)).2) (wAft E A) A) ([.ref (am 0), .int (nI j), .int (nI a), .int (nI f)] : List Value).toArray s 0 0 A) (F0 m 77 ls []) := by
                  intro d
                  induction d with
                  | zero =>
                    intro i hid H locs ls hl hw
                    refine lv_iload hx hb dX3_lay_77 (lv_at hl 0 rfl) ?_
                    refine lv_aload_n hx hb dX3_lay_79 rfl (lv_at hl 1 rfl) ?_
                    refine wGet (v := .ref (am 6)) K hw hiX3 wM_o rfl 5 (by decide) (by decide +kernel) rfl dX3_lay_80 ?_
                    refine lv_iload_n hx hb dX3_lay_83 rfl (lv_at hl 2 rfl) ?_
                    refine wIald (v := nI qc) K hw wM_cols (in5 hj) (by rw [nI_clamp (by omega)]; exact eqc) dX3_lay_84 ?_
                    refine lv_icmp_ge (tgt := 139) hx hb dX3_lay_85 (by decide) (fun c_85 => ?_) (fun c_85 => ?_)
                    · refine lv_iload hx hb dX3_lay_139 (lv_at hl 0 rfl) ?_
                      exact wRetI K hw dX3_lay_141 (pstM (by rw [sp_lay, if_pos hl0, kN_nI (by omega), if_neg c_16, if_pos g4, if_neg c_45, if_pos g5, kN_nI (by omega), kN_nI (by omega), show lyM S j f = i by omega]))
                    · refine lv_iload_n hx hb dX3_lay_88 rfl (lv_at hl 4 rfl) ?_
                      refine lv_iload hx hb dX3_lay_89 (lv_at hl 0 rfl) ?_
                      refine lv_iadd hx hb dX3_lay_91 ?_
                      rw [show ((nI f) + (nI i) : Int32) = nI (f + i) from nI_add f i]
                      refine lv_aload_n hx hb dX3_lay_92 rfl (lv_at hl 1 rfl) ?_
                      refine wGet (v := .ref (am 2)) K hw hiX3 wM_o rfl 1 (by decide) (by decide +kernel) rfl dX3_lay_93 ?_
                      refine lv_iload_n hx hb dX3_lay_96 rfl (lv_at hl 2 rfl) ?_
                      refine wIald (v := nI n) K hw wM_sizes (in5 hj) (by rw [nI_clamp (by omega)]; exact en) dX3_lay_97 ?_
                      refine lv_icmp_ge (tgt := 139) hx hb dX3_lay_98 (by decide) (fun c_98 => ?_) (fun c_98 => ?_)
                      · refine lv_iload hx hb dX3_lay_139 (lv_at hl 0 rfl) ?_
                        exact wRetI K hw dX3_lay_141 (pstM (by rw [sp_lay, if_pos hl0, kN_nI (by omega), if_neg c_16, if_pos g4, if_neg c_45, if_pos g5, kN_nI (by omega), kN_nI (by omega), show lyM S j f = i by omega]))
                      · have k1 : ¬ qc ≤ i := fun q => c_85 (nI_le q (by omega))
                        have k2 : ¬ n ≤ f + i := fun q => c_98 (nI_le q (by omega))
                        exact absurd hM (by omega)
                  | succ d ih =>
                    intro i hid H locs ls hl hw
                    refine lv_iload hx hb dX3_lay_77 (lv_at hl 0 rfl) ?_
                    refine lv_aload_n hx hb dX3_lay_79 rfl (lv_at hl 1 rfl) ?_
                    refine wGet (v := .ref (am 6)) K hw hiX3 wM_o rfl 5 (by decide) (by decide +kernel) rfl dX3_lay_80 ?_
                    refine lv_iload_n hx hb dX3_lay_83 rfl (lv_at hl 2 rfl) ?_
                    refine wIald (v := nI qc) K hw wM_cols (in5 hj) (by rw [nI_clamp (by omega)]; exact eqc) dX3_lay_84 ?_
                    refine lv_icmp_ge (tgt := 139) hx hb dX3_lay_85 (by decide) (fun c_85 => ?_) (fun c_85 => ?_)
                    · exact absurd c_85 (nI_ge (by omega) (by omega))
                    · refine lv_iload_n hx hb dX3_lay_88 rfl (lv_at hl 4 rfl) ?_
                      refine lv_iload hx hb dX3_lay_89 (lv_at hl 0 rfl) ?_
                      refine lv_iadd hx hb dX3_lay_91 ?_
                      rw [show ((nI f) + (nI i) : Int32) = nI (f + i) from nI_add f i]
                      refine lv_aload_n hx hb dX3_lay_92 rfl (lv_at hl 1 rfl) ?_
                      refine wGet (v := .ref (am 2)) K hw hiX3 wM_o rfl 1 (by decide) (by decide +kernel) rfl dX3_lay_93 ?_
                      refine lv_iload_n hx hb dX3_lay_96 rfl (lv_at hl 2 rfl) ?_
                      refine wIald (v := nI n) K hw wM_sizes (in5 hj) (by rw [nI_clamp (by omega)]; exact en) dX3_lay_97 ?_
                      refine lv_icmp_ge (tgt := 139) hx hb dX3_lay_98 (by decide) (fun c_98 => ?_) (fun c_98 => ?_)
                      · exact absurd c_98 (nI_ge (by omega) (by omega))
                      · refine lv_aload_n hx hb dX3_lay_101 rfl (lv_at hl 1 rfl) ?_
                        refine wGet (v := .ref (am 4)) K hw hiX3 wM_o rfl 3 (by decide) (by decide +kernel) rfl dX3_lay_102 ?_
                        refine lv_sipush (v := 256) hx hb dX3_lay_105 (by decide) ?_
                        refine lv_iload_n hx hb dX3_lay_108 rfl (lv_at hl 2 rfl) ?_
                        refine lv_imul hx hb dX3_lay_109 ?_
                        refine lv_bipush (v := 16) hx hb dX3_lay_110 (by decide) ?_
                        refine lv_iload_n hx hb dX3_lay_112 rfl (lv_at hl 3 rfl) ?_
                        refine lv_imul hx hb dX3_lay_113 ?_
                        refine lv_iadd hx hb dX3_lay_114 ?_
                        refine lv_iload hx hb dX3_lay_115 (lv_at hl 0 rfl) ?_
                        refine lv_iadd hx hb dX3_lay_117 ?_
                        rw [show (((256 * (nI j)) + (16 * (nI a))) + (nI i) : Int32) = nI (256 * j + (16 * a + i)) from ix256r]
                        refine lv_aload_n hx hb dX3_lay_118 rfl (lv_at hl 1 rfl) ?_
                        refine wGet (v := .ref (am 1)) K hw hiX3 wM_o rfl 0 (by decide) (by decide +kernel) rfl dX3_lay_119 ?_
                        refine lv_bipush (v := 60) hx hb dX3_lay_122 (by decide) ?_
                        refine lv_iload_n hx hb dX3_lay_124 rfl (lv_at hl 2 rfl) ?_
                        refine lv_imul hx hb dX3_lay_125 ?_
                        refine lv_iload_n hx hb dX3_lay_126 rfl (lv_at hl 4 rfl) ?_
                        refine lv_iadd hx hb dX3_lay_127 ?_
                        rw [show ((60 * (nI j)) + (nI f) : Int32) = nI (60 * j + f) from ix60]
                        refine lv_iload hx hb dX3_lay_128 (lv_at hl 0 rfl) ?_
                        refine lv_iadd hx hb dX3_lay_130 ?_
                        rw [show ((nI (60 * j + f)) + (nI i) : Int32) = nI (60 * j + (f + i)) from by rw [nI_add, Nat.add_assoc]]
                        refine wIald (v := S.1 j (f + i)) K hw wM_cells (vp_in_nI (by omega) (by omega)) (by rw [nI_clamp (by omega)]; exact gC_at (by omega)) dX3_lay_131 ?_
                        refine wIast K hw wM_sheets (vp_in_nI (by omega) (by omega)) dX3_lay_132 (wM_sNumI (by omega) (nI_clamp (by omega)) _) (fun H locs hw => ?_)
                        refine lv_iinc (v := nI (i + 1)) (lv' := [(4, .int (nI (i + 1))), (0, .ref (am 0)), (1, .int (nI j)), (2, .int (nI a)), (3, .int (nI f))]) hx hb dX3_lay_133 hl (k := 0) rfl (nI_1 i) (by decide) rfl (fun ls hl => ?_)
                        refine lv_goto (tgt := 77) hx hb dX3_lay_136 (by decide) ?_
                        exact ih (i + 1) (by omega) H locs ls hl (hw.to (by rw [sN, lyN_s]))
                refine lv_iconst (v := 0) hx hb dX3_lay_74 (by decide) ?_
                refine lv_istore (lv' := [(4, .int 0), (0, .ref (am 0)), (1, .int (nI j)), (2, .int (nI a)), (3, .int (nI f))]) hx hb dX3_lay_75 hl (by decide) rfl (fun ls hl => ?_)
                exact loop (lyM S j f) 0 (by omega) _ _ _ (by rw [nI_0]; exact hl) (hw.to (by rw [lyN_0]))
              · have g5 : ¬ (¬ fr < 0 ∧ ¬ S.2.2 1 j < fr) := fun q => q.2 (Int32.not_le.mp c_65)
                refine lv_aload_n hx hb dX3_lay_68 rfl (lv_at hl 0 rfl) ?_
                refine lv_iload_n hx hb dX3_lay_69 rfl (lv_at hl 1 rfl) ?_
                refine wCallV (As := [.int (nI j)]) (rest := []) K hw (mX3_out l E am S j hj) (cwV 1 hts gX3_lay_X3_out rfl rfl rfl (by decide +kernel) ⟨Nat.le_of_ble_eq_true rfl, Nat.le_of_ble_eq_true rfl⟩) wM_o rfl rfl hl.1 rfl (Nat.le_of_ble_eq_true rfl) dX3_lay_70 ⟨Nat.zero_le _, Nat.zero_le _⟩ (fun r_70 w' H locs hr hw => ?_)
                obtain ⟨rfl, rfl⟩ := hr
                exact wRetI K hw dX3_lay_73 (pstM (by rw [sp_lay, if_pos hl0, kN_nI (by omega), if_neg c_16, if_pos g4, if_neg c_45, if_neg g5]))
          · refine lv_aload_n hx hb dX3_lay_48 rfl (lv_at hl 0 rfl) ?_
            refine lv_iload_n hx hb dX3_lay_49 rfl (lv_at hl 1 rfl) ?_
            refine wCallV (As := [.int (nI j)]) (rest := []) K hw (mX3_off l E am S j hj) (cwV 1 hts gX3_lay_X3_off rfl rfl rfl (by decide +kernel) ⟨Nat.le_of_ble_eq_true rfl, Nat.le_of_ble_eq_true rfl⟩) wM_o rfl rfl hl.1 rfl (Nat.le_of_ble_eq_true rfl) dX3_lay_50 ⟨Nat.zero_le _, Nat.zero_le _⟩ (fun r_50 w' H locs hr hw => ?_)
            obtain ⟨rfl, rfl⟩ := hr
            exact wRetI K hw dX3_lay_53 (pstM (by rw [sp_lay, if_pos hl0, kN_nI (by omega), if_neg c_16, if_pos g4, if_pos c_45]))
        · have g4 : ¬ (¬ row < 0 ∧ ¬ S.2.2 3 j ≤ row) := fun q => q.2 (Int32.not_lt.mp c_33)
          refine lv_ldc (v := (-1000008)) hx hb hown (hts (.constant RX3 72 (-1000008)) (by decide +kernel)) dX3_lay_36 ?_
          exact wRetI K hw dX3_lay_38 (pstM (by rw [sp_lay, if_pos hl0, kN_nI (by omega), if_neg c_16, if_neg g4]))
    · refine lv_ldc (v := (-1000007)) hx hb hown (hts (.constant RX3 71 (-1000007)) (by decide +kernel)) dX3_lay_19 ?_
      exact wRetI K hw dX3_lay_21 (pstM (by rw [sp_lay, if_pos hl0, kN_nI (by omega), if_pos c_16]))
  · have hl0 := bI_f hr1 c_4
    refine lv_ldc (v := (-1000001)) hx hb hown (hts (.constant RX3 52 (-1000001)) (by decide +kernel)) dX3_lay_7 ?_
    exact wRetI K hw dX3_lay_9 (pstM (by rw [sp_lay, if_neg hl0]))
set_option maxHeartbeats 4000000 in
set_option maxRecDepth 100000 in
theorem mX3_at (l : Launch) (E : wE) (am : Nat → Nat) (S : SS) (hI : Inv S) (lane : Int32) (row : Int32) (col : Int32) : MCi l E yX3_at wsX3_at { frames := 1, cells := 0, slots := 0, locals := 20 } [.ref (am 0), .int lane, .int row, .int col] (wM E am S) (fun r w => r = (sp_at S lane row col).1 ∧ w = wM E am (sp_at S lane row col).2) := by
  refine wEnterI (cc := cX3_at) (nL := 4) (ret := (some .int)) (own := RX3) (by decide) rfl rfl (Nat.le_of_ble_eq_true rfl) ?_
  intro p e s m below meth c A ls K hl hw
  have hl : lv_has ls 4 [(0, .ref (am 0)), (1, .int lane), (2, .int row), (3, .int col)] := hl
  obtain ⟨hx, hb, -, hml, hown, hts, -, -, -⟩ := id K
  have hiX3 : ∀ w ∈ wsX30, w ∈ wsX3_at := by decide +kernel
  refine lv_iload_n hx hb dX3_at_0 rfl (lv_at hl 1 rfl) ?_
  refine wCallS (As := [.int lane]) (rest := []) K hw (mX3_isLane l E (wM E am S) lane) (va_cwS 1 hts gX3_at_X3_isLane rfl rfl rfl (by decide +kernel) ⟨Nat.le_of_ble_eq_true rfl, Nat.le_of_ble_eq_true rfl⟩)  rfl hl.1 rfl (Nat.le_of_ble_eq_true rfl) dX3_at_1 ⟨Nat.zero_le _, Nat.zero_le _⟩ (fun r_1 w' H locs hr hw => ?_)
  obtain ⟨hr1, rfl⟩ := hr
  refine lv_if_ne (tgt := 10) hx hb dX3_at_4 (by decide) (fun c_4 => ?_) (fun c_4 => ?_)
  · have hl0 := bI_t hr1 c_4
    obtain ⟨j, hj, rfl⟩ := isl_of hl0
    refine lv_aload_n hx hb dX3_at_10 rfl (lv_at hl 0 rfl) ?_
    refine wGet (v := .ref (am 7)) K hw hiX3 wM_o rfl 6 (by decide) (by decide +kernel) rfl dX3_at_11 ?_
    refine lv_iload_n hx hb dX3_at_14 rfl (lv_at hl 1 rfl) ?_
    refine wZald (v := S.2.2 2 j) K hw wM_ruled (in5 hj) (by rw [nI_clamp (by omega)]) dX3_at_15 ?_
    refine lv_if_ne (tgt := 22) hx hb dX3_at_16 (by decide) (fun c_16 => ?_) (fun c_16 => ?_)
    · refine lv_iload_n hx hb dX3_at_22 rfl (lv_at hl 2 rfl) ?_
      refine lv_if_lt (tgt := 36) hx hb dX3_at_23 (by decide) (fun c_23 => ?_) (fun c_23 => ?_)
      · have g4 : ¬ (¬ row < 0 ∧ ¬ S.2.2 3 j ≤ row) := fun q => q.1 c_23
        refine lv_ldc (v := (-1000008)) hx hb hown (hts (.constant RX3 72 (-1000008)) (by decide +kernel)) dX3_at_36 ?_
        exact wRetI K hw dX3_at_38 (pstM (by rw [sp_at, if_pos hl0, kN_nI (by omega), if_neg c_16, if_neg g4]))
      · refine lv_iload_n hx hb dX3_at_26 rfl (lv_at hl 2 rfl) ?_
        refine lv_aload_n hx hb dX3_at_27 rfl (lv_at hl 0 rfl) ?_
        refine wGet (v := .ref (am 5)) K hw hiX3 wM_o rfl 4 (by decide) (by decide +kernel) rfl dX3_at_28 ?_
        refine lv_iload_n hx hb dX3_at_31 rfl (lv_at hl 1 rfl) ?_
        refine wIald (v := S.2.2 3 j) K hw wM_rows (in5 hj) (by rw [nI_clamp (by omega)]) dX3_at_32 ?_
        refine lv_icmp_lt (tgt := 39) hx hb dX3_at_33 (by decide) (fun c_33 => ?_) (fun c_33 => ?_)
        · have g4 : ¬ row < 0 ∧ ¬ S.2.2 3 j ≤ row := ⟨c_23, Int32.not_le.mpr c_33⟩
          refine lv_iload_n hx hb dX3_at_39 rfl (lv_at hl 3 rfl) ?_
          refine lv_if_lt (tgt := 53) hx hb dX3_at_40 (by decide) (fun c_40 => ?_) (fun c_40 => ?_)
          · have g5 : ¬ (¬ col < 0 ∧ ¬ S.2.2 4 j ≤ col) := fun q => q.1 c_40
            refine lv_ldc (v := (-1000009)) hx hb hown (hts (.constant RX3 73 (-1000009)) (by decide +kernel)) dX3_at_53 ?_
            exact wRetI K hw dX3_at_55 (pstM (by rw [sp_at, if_pos hl0, kN_nI (by omega), if_neg c_16, if_pos g4, if_neg g5]))
          · refine lv_iload_n hx hb dX3_at_43 rfl (lv_at hl 3 rfl) ?_
            refine lv_aload_n hx hb dX3_at_44 rfl (lv_at hl 0 rfl) ?_
            refine wGet (v := .ref (am 6)) K hw hiX3 wM_o rfl 5 (by decide) (by decide +kernel) rfl dX3_at_45 ?_
            refine lv_iload_n hx hb dX3_at_48 rfl (lv_at hl 1 rfl) ?_
            refine wIald (v := S.2.2 4 j) K hw wM_cols (in5 hj) (by rw [nI_clamp (by omega)]) dX3_at_49 ?_
            refine lv_icmp_lt (tgt := 56) hx hb dX3_at_50 (by decide) (fun c_50 => ?_) (fun c_50 => ?_)
            · have g5 : ¬ col < 0 ∧ ¬ S.2.2 4 j ≤ col := ⟨c_40, Int32.not_le.mpr c_50⟩
              obtain ⟨qc, hqc, eqc⟩ := (hI.1 j hj).2.2.2.2
              obtain ⟨rr, hrr, er⟩ := (hI.1 j hj).2.2.2.1
              obtain ⟨a, ha, rfl⟩ := lt_of_ix hrr (by omega) er g4.1 g4.2
              obtain ⟨b, hb2, rfl⟩ := lt_of_ix hqc (by omega) eqc g5.1 g5.2
              refine lv_aload_n hx hb dX3_at_56 rfl (lv_at hl 0 rfl) ?_
              refine wGet (v := .ref (am 4)) K hw hiX3 wM_o rfl 3 (by decide) (by decide +kernel) rfl dX3_at_57 ?_
              refine lv_sipush (v := 256) hx hb dX3_at_60 (by decide) ?_
              refine lv_iload_n hx hb dX3_at_63 rfl (lv_at hl 1 rfl) ?_
              refine lv_imul hx hb dX3_at_64 ?_
              refine lv_bipush (v := 16) hx hb dX3_at_65 (by decide) ?_
              refine lv_iload_n hx hb dX3_at_67 rfl (lv_at hl 2 rfl) ?_
              refine lv_imul hx hb dX3_at_68 ?_
              refine lv_iadd hx hb dX3_at_69 ?_
              refine lv_iload_n hx hb dX3_at_70 rfl (lv_at hl 3 rfl) ?_
              refine lv_iadd hx hb dX3_at_71 ?_
              rw [show (((256 * (nI j)) + (16 * (nI a))) + (nI b) : Int32) = nI (256 * j + (16 * a + b)) from ix256r]
              refine wIald (v := S.2.1 j (16 * a + b)) K hw wM_sheets (vp_in_nI (by omega) (by omega)) (by rw [nI_clamp (by omega)]; exact gN_at (by omega)) dX3_at_72 ?_
              exact wRetI K hw dX3_at_73 (pstM (by rw [sp_at, if_pos hl0, kN_nI (by omega), if_neg c_16, if_pos g4, if_pos g5, kN_nI (by omega), kN_nI (by omega)]))
            · have g5 : ¬ (¬ col < 0 ∧ ¬ S.2.2 4 j ≤ col) := fun q => q.2 (Int32.not_lt.mp c_50)
              refine lv_ldc (v := (-1000009)) hx hb hown (hts (.constant RX3 73 (-1000009)) (by decide +kernel)) dX3_at_53 ?_
              exact wRetI K hw dX3_at_55 (pstM (by rw [sp_at, if_pos hl0, kN_nI (by omega), if_neg c_16, if_pos g4, if_neg g5]))
        · have g4 : ¬ (¬ row < 0 ∧ ¬ S.2.2 3 j ≤ row) := fun q => q.2 (Int32.not_lt.mp c_33)
          refine lv_ldc (v := (-1000008)) hx hb hown (hts (.constant RX3 72 (-1000008)) (by decide +kernel)) dX3_at_36 ?_
          exact wRetI K hw dX3_at_38 (pstM (by rw [sp_at, if_pos hl0, kN_nI (by omega), if_neg c_16, if_neg g4]))
    · refine lv_ldc (v := (-1000007)) hx hb hown (hts (.constant RX3 71 (-1000007)) (by decide +kernel)) dX3_at_19 ?_
      exact wRetI K hw dX3_at_21 (pstM (by rw [sp_at, if_pos hl0, kN_nI (by omega), if_pos c_16]))
  · have hl0 := bI_f hr1 c_4
    refine lv_ldc (v := (-1000001)) hx hb hown (hts (.constant RX3 52 (-1000001)) (by decide +kernel)) dX3_at_7 ?_
    exact wRetI K hw dX3_at_9 (pstM (by rw [sp_at, if_neg hl0]))
set_option maxHeartbeats 4000000 in
set_option maxRecDepth 100000 in
theorem mX3_head (l : Launch) (E : wE) (am : Nat → Nat) (S : SS) (hI : Inv S) (h : Int32) : MCi l E yX3_head wsX3_head { frames := 0, cells := 0, slots := 0, locals := 0 } [.ref (am 0), .int h] (wM E am S) (fun r w => r = (sp_head S h).1 ∧ w = wM E am (sp_head S h).2) := by
  refine wEnterI (cc := cX3_head) (nL := 3) (ret := (some .int)) (own := RX3) (by decide) rfl rfl (Nat.le_of_ble_eq_true rfl) ?_
  intro p e s m below meth c A ls K hl hw
  have hl : lv_has ls 3 [(0, .ref (am 0)), (1, .int h)] := hl
  obtain ⟨hx, hb, -, hml, hown, hts, -, -, -⟩ := id K
  have hiX3 : ∀ w ∈ wsX30, w ∈ wsX3_head := by decide +kernel
  refine lv_iload_n hx hb dX3_head_0 rfl (lv_at hl 1 rfl) ?_
  refine lv_bipush (v := 60) hx hb dX3_head_1 (by decide) ?_
  refine lv_icmp_le (tgt := 9) hx hb dX3_head_3 (by decide) (fun c_3 => ?_) (fun c_3 => ?_)
  · refine lv_iload_n hx hb dX3_head_9 rfl (lv_at hl 1 rfl) ?_
    refine lv_if_ge (tgt := 16) hx hb dX3_head_10 (by decide) (fun c_10 => ?_) (fun c_10 => ?_)
    · refine lv_aload_n hx hb dX3_head_16 rfl (lv_at hl 0 rfl) ?_
      refine wGet (v := .int (S.2.2 7 0)) K hw hiX3 wM_o rfl 9 (by decide) (by decide +kernel) rfl dX3_head_17 ?_
      refine lv_istore_n (lv' := [(2, .int (S.2.2 7 0)), (0, .ref (am 0)), (1, .int h)]) hx hb dX3_head_20 rfl hl (by decide) rfl (fun ls hl => ?_)
      refine lv_aload_n hx hb dX3_head_21 rfl (lv_at hl 1 rfl) ?_
      refine lv_iload_n hx hb dX3_head_22 rfl (lv_at hl 2 rfl) ?_
      refine wPut (ty := .int) K hw hiX3 tyX3 tyX3_ok nmX3 wM_o rfl 9 (by decide) (by decide +kernel) rfl (by decide +kernel) rfl rfl (Nat.le_of_ble_eq_true rfl) dX3_head_23 (wM_sG 0 (by decide) _) (fun H locs hw => ?_)
      refine lv_iload_n hx hb dX3_head_26 rfl (lv_at hl 0 rfl) ?_
      exact wRetI K hw dX3_head_27 (pstM (by rw [sp_head, if_pos c_3, if_pos c_10]))
    · refine lv_ldc (v := (-1000004)) hx hb hown (hts (.constant RX3 54 (-1000004)) (by decide +kernel)) dX3_head_13 ?_
      exact wRetI K hw dX3_head_15 (pstM (by rw [sp_head, if_pos c_3, if_neg c_10]))
  · refine lv_ldc (v := (-1000003)) hx hb hown (hts (.constant RX3 53 (-1000003)) (by decide +kernel)) dX3_head_6 ?_
    exact wRetI K hw dX3_head_8 (pstM (by rw [sp_head, if_neg c_3]))
set_option maxHeartbeats 4000000 in
set_option maxRecDepth 100000 in
theorem mX3_count (l : Launch) (E : wE) (am : Nat → Nat) (S : SS) (hI : Inv S) (x : Int32) : MCi l E yX3_count wsX3_count { frames := 0, cells := 0, slots := 0, locals := 0 } [.ref (am 0), .int x] (wM E am S) (fun r w => r = sp_count S x ∧ w = wM E am S) := by
  refine wEnterI (cc := cX3_count) (nL := 2) (ret := (some .int)) (own := RX3) (by decide) rfl rfl (Nat.le_of_ble_eq_true rfl) ?_
  intro p e s m below meth c A ls K hl hw
  have hl : lv_has ls 2 [(0, .ref (am 0)), (1, .int x)] := hl
  obtain ⟨hx, hb, -, hml, hown, hts, -, -, -⟩ := id K
  have hiX3 : ∀ w ∈ wsX30, w ∈ wsX3_count := by decide +kernel
  refine lv_iload_n hx hb dX3_count_0 rfl (lv_at hl 1 rfl) ?_
  refine lv_if_lt (tgt := 16) hx hb dX3_count_1 (by decide) (fun c_1 => ?_) (fun c_1 => ?_)
  · have hl0 : ¬ isl x := fun q => q.1 c_1
    refine lv_iload_n hx hb dX3_count_16 rfl (lv_at hl 1 rfl) ?_
    refine lv_iconst (v := 5) hx hb dX3_count_17 (by decide) ?_
    refine lv_icmp_lt (tgt := 36) hx hb dX3_count_18 (by decide) (fun c_18 => ?_) (fun c_18 => ?_)
    · have hg : ¬ (¬ x < 5 ∧ ¬ 10 ≤ x) := fun q => q.1 c_18
      refine lv_iload_n hx hb dX3_count_36 rfl (lv_at hl 1 rfl) ?_
      by_cases h10 : x = 10
      · subst h10
        refine lv_tableIn (off := 43) (tgt := 80) hx hb dX3_count_37 (by decide +kernel) (by decide +kernel) (by decide +kernel) (by decide) ?_
        refine lv_aload_n hx hb dX3_count_80 rfl (lv_at hl 0 rfl) ?_
        refine wGet (v := .int (S.2.2 7 0)) K hw hiX3 wM_o rfl 9 (by decide) (by decide +kernel) rfl dX3_count_81 ?_
        exact wRetI K hw dX3_count_84 ⟨by rw [sp_count, if_neg hl0, if_neg hg]; rfl, rfl⟩
      by_cases h11 : x = 11
      · subst h11
        refine lv_tableIn (off := 48) (tgt := 85) hx hb dX3_count_37 (by decide +kernel) (by decide +kernel) (by decide +kernel) (by decide) ?_
        refine lv_aload_n hx hb dX3_count_85 rfl (lv_at hl 0 rfl) ?_
        refine wGet (v := .int (S.2.2 7 1)) K hw hiX3 wM_o rfl 10 (by decide) (by decide +kernel) rfl dX3_count_86 ?_
        exact wRetI K hw dX3_count_89 ⟨by rw [sp_count, if_neg hl0, if_neg hg]; rfl, rfl⟩
      by_cases h12 : x = 12
      · subst h12
        refine lv_tableIn (off := 53) (tgt := 90) hx hb dX3_count_37 (by decide +kernel) (by decide +kernel) (by decide +kernel) (by decide) ?_
        refine lv_aload_n hx hb dX3_count_90 rfl (lv_at hl 0 rfl) ?_
        refine wGet (v := .int (S.2.2 7 2)) K hw hiX3 wM_o rfl 11 (by decide) (by decide +kernel) rfl dX3_count_91 ?_
        exact wRetI K hw dX3_count_94 ⟨by rw [sp_count, if_neg hl0, if_neg hg]; rfl, rfl⟩
      by_cases h13 : x = 13
      · subst h13
        refine lv_tableIn (off := 58) (tgt := 95) hx hb dX3_count_37 (by decide +kernel) (by decide +kernel) (by decide +kernel) (by decide) ?_
        refine lv_aload_n hx hb dX3_count_95 rfl (lv_at hl 0 rfl) ?_
        refine wGet (v := .int (S.2.2 7 3)) K hw hiX3 wM_o rfl 12 (by decide) (by decide +kernel) rfl dX3_count_96 ?_
        exact wRetI K hw dX3_count_99 ⟨by rw [sp_count, if_neg hl0, if_neg hg]; rfl, rfl⟩
      by_cases h14 : x = 14
      · subst h14
        refine lv_tableIn (off := 63) (tgt := 100) hx hb dX3_count_37 (by decide +kernel) (by decide +kernel) (by decide +kernel) (by decide) ?_
        refine lv_aload_n hx hb dX3_count_100 rfl (lv_at hl 0 rfl) ?_
        refine wGet (v := .int (S.2.2 7 4)) K hw hiX3 wM_o rfl 13 (by decide) (by decide +kernel) rfl dX3_count_101 ?_
        exact wRetI K hw dX3_count_104 ⟨by rw [sp_count, if_neg hl0, if_neg hg]; rfl, rfl⟩
      by_cases h15 : x = 15
      · subst h15
        refine lv_tableIn (off := 68) (tgt := 105) hx hb dX3_count_37 (by decide +kernel) (by decide +kernel) (by decide +kernel) (by decide) ?_
        refine lv_aload_n hx hb dX3_count_105 rfl (lv_at hl 0 rfl) ?_
        refine wGet (v := .int (S.2.2 7 5)) K hw hiX3 wM_o rfl 14 (by decide) (by decide +kernel) rfl dX3_count_106 ?_
        exact wRetI K hw dX3_count_109 ⟨by rw [sp_count, if_neg hl0, if_neg hg]; rfl, rfl⟩
      by_cases h16 : x = 16
      · subst h16
        refine lv_tableIn (off := 73) (tgt := 110) hx hb dX3_count_37 (by decide +kernel) (by decide +kernel) (by decide +kernel) (by decide) ?_
        refine lv_aload_n hx hb dX3_count_110 rfl (lv_at hl 0 rfl) ?_
        refine wGet (v := .int (S.2.2 7 6)) K hw hiX3 wM_o rfl 15 (by decide) (by decide +kernel) rfl dX3_count_111 ?_
        exact wRetI K hw dX3_count_114 ⟨by rw [sp_count, if_neg hl0, if_neg hg]; rfl, rfl⟩
      have hout : x.toInt < 10 ∨ 16 < x.toInt := by
        have q10 := lv_neT h10 (show (10 : Int32).toInt = 10 by decide)
        have q11 := lv_neT h11 (show (11 : Int32).toInt = 11 by decide)
        have q12 := lv_neT h12 (show (12 : Int32).toInt = 12 by decide)
        have q13 := lv_neT h13 (show (13 : Int32).toInt = 13 by decide)
        have q14 := lv_neT h14 (show (14 : Int32).toInt = 14 by decide)
        have q15 := lv_neT h15 (show (15 : Int32).toInt = 15 by decide)
        have q16 := lv_neT h16 (show (16 : Int32).toInt = 16 by decide)
        omega
      refine lv_tableOut (tgt := 115) hx hb dX3_count_37 hout (by decide) ?_
      refine lv_iconst (v := 0) hx hb dX3_count_115 (by decide) ?_
      exact wRetI K hw dX3_count_116 ⟨by rw [sp_count, if_neg hl0, if_neg hg, if_neg h10, if_neg h11, if_neg h12, if_neg h13, if_neg h14, if_neg h15, if_neg h16], rfl⟩
    · refine lv_iload_n hx hb dX3_count_21 rfl (lv_at hl 1 rfl) ?_
      refine lv_bipush (v := 10) hx hb dX3_count_22 (by decide) ?_
      refine lv_icmp_ge (tgt := 36) hx hb dX3_count_24 (by decide) (fun c_24 => ?_) (fun c_24 => ?_)
      · have hg : ¬ (¬ x < 5 ∧ ¬ 10 ≤ x) := fun q => q.2 c_24
        refine lv_iload_n hx hb dX3_count_36 rfl (lv_at hl 1 rfl) ?_
        by_cases h10 : x = 10
        · subst h10
          refine lv_tableIn (off := 43) (tgt := 80) hx hb dX3_count_37 (by decide +kernel) (by decide +kernel) (by decide +kernel) (by decide) ?_
          refine lv_aload_n hx hb dX3_count_80 rfl (lv_at hl 0 rfl) ?_
          refine wGet (v := .int (S.2.2 7 0)) K hw hiX3 wM_o rfl 9 (by decide) (by decide +kernel) rfl dX3_count_81 ?_
          exact wRetI K hw dX3_count_84 ⟨by rw [sp_count, if_neg hl0, if_neg hg]; rfl, rfl⟩
        by_cases h11 : x = 11
        · subst h11
          refine lv_tableIn (off := 48) (tgt := 85) hx hb dX3_count_37 (by decide +kernel) (by decide +kernel) (by decide +kernel) (by decide) ?_
          refine lv_aload_n hx hb dX3_count_85 rfl (lv_at hl 0 rfl) ?_
          refine wGet (v := .int (S.2.2 7 1)) K hw hiX3 wM_o rfl 10 (by decide) (by decide +kernel) rfl dX3_count_86 ?_
          exact wRetI K hw dX3_count_89 ⟨by rw [sp_count, if_neg hl0, if_neg hg]; rfl, rfl⟩
        by_cases h12 : x = 12
        · subst h12
          refine lv_tableIn (off := 53) (tgt := 90) hx hb dX3_count_37 (by decide +kernel) (by decide +kernel) (by decide +kernel) (by decide) ?_
          refine lv_aload_n hx hb dX3_count_90 rfl (lv_at hl 0 rfl) ?_
          refine wGet (v := .int (S.2.2 7 2)) K hw hiX3 wM_o rfl 11 (by decide) (by decide +kernel) rfl dX3_count_91 ?_
          exact wRetI K hw dX3_count_94 ⟨by rw [sp_count, if_neg hl0, if_neg hg]; rfl, rfl⟩
        by_cases h13 : x = 13
        · subst h13
          refine lv_tableIn (off := 58) (tgt := 95) hx hb dX3_count_37 (by decide +kernel) (by decide +kernel) (by decide +kernel) (by decide) ?_
          refine lv_aload_n hx hb dX3_count_95 rfl (lv_at hl 0 rfl) ?_
          refine wGet (v := .int (S.2.2 7 3)) K hw hiX3 wM_o rfl 12 (by decide) (by decide +kernel) rfl dX3_count_96 ?_
          exact wRetI K hw dX3_count_99 ⟨by rw [sp_count, if_neg hl0, if_neg hg]; rfl, rfl⟩
        by_cases h14 : x = 14
        · subst h14
          refine lv_tableIn (off := 63) (tgt := 100) hx hb dX3_count_37 (by decide +kernel) (by decide +kernel) (by decide +kernel) (by decide) ?_
          refine lv_aload_n hx hb dX3_count_100 rfl (lv_at hl 0 rfl) ?_
          refine wGet (v := .int (S.2.2 7 4)) K hw hiX3 wM_o rfl 13 (by decide) (by decide +kernel) rfl dX3_count_101 ?_
          exact wRetI K hw dX3_count_104 ⟨by rw [sp_count, if_neg hl0, if_neg hg]; rfl, rfl⟩
        by_cases h15 : x = 15
        · subst h15
          refine lv_tableIn (off := 68) (tgt := 105) hx hb dX3_count_37 (by decide +kernel) (by decide +kernel) (by decide +kernel) (by decide) ?_
          refine lv_aload_n hx hb dX3_count_105 rfl (lv_at hl 0 rfl) ?_
          refine wGet (v := .int (S.2.2 7 5)) K hw hiX3 wM_o rfl 14 (by decide) (by decide +kernel) rfl dX3_count_106 ?_
          exact wRetI K hw dX3_count_109 ⟨by rw [sp_count, if_neg hl0, if_neg hg]; rfl, rfl⟩
        by_cases h16 : x = 16
        · subst h16
          refine lv_tableIn (off := 73) (tgt := 110) hx hb dX3_count_37 (by decide +kernel) (by decide +kernel) (by decide +kernel) (by decide) ?_
          refine lv_aload_n hx hb dX3_count_110 rfl (lv_at hl 0 rfl) ?_
          refine wGet (v := .int (S.2.2 7 6)) K hw hiX3 wM_o rfl 15 (by decide) (by decide +kernel) rfl dX3_count_111 ?_
          exact wRetI K hw dX3_count_114 ⟨by rw [sp_count, if_neg hl0, if_neg hg]; rfl, rfl⟩
        have hout : x.toInt < 10 ∨ 16 < x.toInt := by
          have q10 := lv_neT h10 (show (10 : Int32).toInt = 10 by decide)
          have q11 := lv_neT h11 (show (11 : Int32).toInt = 11 by decide)
          have q12 := lv_neT h12 (show (12 : Int32).toInt = 12 by decide)
          have q13 := lv_neT h13 (show (13 : Int32).toInt = 13 by decide)
          have q14 := lv_neT h14 (show (14 : Int32).toInt = 14 by decide)
          have q15 := lv_neT h15 (show (15 : Int32).toInt = 15 by decide)
          have q16 := lv_neT h16 (show (16 : Int32).toInt = 16 by decide)
          omega
        refine lv_tableOut (tgt := 115) hx hb dX3_count_37 hout (by decide) ?_
        refine lv_iconst (v := 0) hx hb dX3_count_115 (by decide) ?_
        exact wRetI K hw dX3_count_116 ⟨by rw [sp_count, if_neg hl0, if_neg hg, if_neg h10, if_neg h11, if_neg h12, if_neg h13, if_neg h14, if_neg h15, if_neg h16], rfl⟩
      · have hg : ¬ x < 5 ∧ ¬ 10 ≤ x := ⟨c_18, c_24⟩
        obtain ⟨j, hj, ej⟩ := cnt5 hg
        refine lv_aload_n hx hb dX3_count_27 rfl (lv_at hl 0 rfl) ?_
        refine wGet (v := .ref (am 9)) K hw hiX3 wM_o rfl 8 (by decide) (by decide +kernel) rfl dX3_count_28 ?_
        refine lv_iload_n hx hb dX3_count_31 rfl (lv_at hl 1 rfl) ?_
        refine lv_iconst (v := 5) hx hb dX3_count_32 (by decide) ?_
        refine lv_isub hx hb dX3_count_33 ?_
        rw [show (x - 5 : Int32) = nI j from ej]
        refine wIald (v := S.2.2 6 j) K hw wM_outs (in5 hj) (by rw [nI_clamp (by omega)]) dX3_count_34 ?_
        exact wRetI K hw dX3_count_35 ⟨by rw [sp_count, if_neg hl0, if_pos hg, ej, kN_nI (by omega)], rfl⟩
  · refine lv_iload_n hx hb dX3_count_4 rfl (lv_at hl 1 rfl) ?_
    refine lv_iconst (v := 5) hx hb dX3_count_5 (by decide) ?_
    refine lv_icmp_ge (tgt := 16) hx hb dX3_count_6 (by decide) (fun c_6 => ?_) (fun c_6 => ?_)
    · have hl0 : ¬ isl x := fun q => q.2 c_6
      refine lv_iload_n hx hb dX3_count_16 rfl (lv_at hl 1 rfl) ?_
      refine lv_iconst (v := 5) hx hb dX3_count_17 (by decide) ?_
      refine lv_icmp_lt (tgt := 36) hx hb dX3_count_18 (by decide) (fun c_18 => ?_) (fun c_18 => ?_)
      · have hg : ¬ (¬ x < 5 ∧ ¬ 10 ≤ x) := fun q => q.1 c_18
        refine lv_iload_n hx hb dX3_count_36 rfl (lv_at hl 1 rfl) ?_
        by_cases h10 : x = 10
        · subst h10
          refine lv_tableIn (off := 43) (tgt := 80) hx hb dX3_count_37 (by decide +kernel) (by decide +kernel) (by decide +kernel) (by decide) ?_
          refine lv_aload_n hx hb dX3_count_80 rfl (lv_at hl 0 rfl) ?_
          refine wGet (v := .int (S.2.2 7 0)) K hw hiX3 wM_o rfl 9 (by decide) (by decide +kernel) rfl dX3_count_81 ?_
          exact wRetI K hw dX3_count_84 ⟨by rw [sp_count, if_neg hl0, if_neg hg]; rfl, rfl⟩
        by_cases h11 : x = 11
        · subst h11
          refine lv_tableIn (off := 48) (tgt := 85) hx hb dX3_count_37 (by decide +kernel) (by decide +kernel) (by decide +kernel) (by decide) ?_
          refine lv_aload_n hx hb dX3_count_85 rfl (lv_at hl 0 rfl) ?_
          refine wGet (v := .int (S.2.2 7 1)) K hw hiX3 wM_o rfl 10 (by decide) (by decide +kernel) rfl dX3_count_86 ?_
          exact wRetI K hw dX3_count_89 ⟨by rw [sp_count, if_neg hl0, if_neg hg]; rfl, rfl⟩
        by_cases h12 : x = 12
        · subst h12
          refine lv_tableIn (off := 53) (tgt := 90) hx hb dX3_count_37 (by decide +kernel) (by decide +kernel) (by decide +kernel) (by decide) ?_
          refine lv_aload_n hx hb dX3_count_90 rfl (lv_at hl 0 rfl) ?_
          refine wGet (v := .int (S.2.2 7 2)) K hw hiX3 wM_o rfl 11 (by decide) (by decide +kernel) rfl dX3_count_91 ?_
          exact wRetI K hw dX3_count_94 ⟨by rw [sp_count, if_neg hl0, if_neg hg]; rfl, rfl⟩
        by_cases h13 : x = 13
        · subst h13
          refine lv_tableIn (off := 58) (tgt := 95) hx hb dX3_count_37 (by decide +kernel) (by decide +kernel) (by decide +kernel) (by decide) ?_
          refine lv_aload_n hx hb dX3_count_95 rfl (lv_at hl 0 rfl) ?_
          refine wGet (v := .int (S.2.2 7 3)) K hw hiX3 wM_o rfl 12 (by decide) (by decide +kernel) rfl dX3_count_96 ?_
          exact wRetI K hw dX3_count_99 ⟨by rw [sp_count, if_neg hl0, if_neg hg]; rfl, rfl⟩
        by_cases h14 : x = 14
        · subst h14
          refine lv_tableIn (off := 63) (tgt := 100) hx hb dX3_count_37 (by decide +kernel) (by decide +kernel) (by decide +kernel) (by decide) ?_
          refine lv_aload_n hx hb dX3_count_100 rfl (lv_at hl 0 rfl) ?_
          refine wGet (v := .int (S.2.2 7 4)) K hw hiX3 wM_o rfl 13 (by decide) (by decide +kernel) rfl dX3_count_101 ?_
          exact wRetI K hw dX3_count_104 ⟨by rw [sp_count, if_neg hl0, if_neg hg]; rfl, rfl⟩
        by_cases h15 : x = 15
        · subst h15
          refine lv_tableIn (off := 68) (tgt := 105) hx hb dX3_count_37 (by decide +kernel) (by decide +kernel) (by decide +kernel) (by decide) ?_
          refine lv_aload_n hx hb dX3_count_105 rfl (lv_at hl 0 rfl) ?_
          refine wGet (v := .int (S.2.2 7 5)) K hw hiX3 wM_o rfl 14 (by decide) (by decide +kernel) rfl dX3_count_106 ?_
          exact wRetI K hw dX3_count_109 ⟨by rw [sp_count, if_neg hl0, if_neg hg]; rfl, rfl⟩
        by_cases h16 : x = 16
        · subst h16
          refine lv_tableIn (off := 73) (tgt := 110) hx hb dX3_count_37 (by decide +kernel) (by decide +kernel) (by decide +kernel) (by decide) ?_
          refine lv_aload_n hx hb dX3_count_110 rfl (lv_at hl 0 rfl) ?_
          refine wGet (v := .int (S.2.2 7 6)) K hw hiX3 wM_o rfl 15 (by decide) (by decide +kernel) rfl dX3_count_111 ?_
          exact wRetI K hw dX3_count_114 ⟨by rw [sp_count, if_neg hl0, if_neg hg]; rfl, rfl⟩
        have hout : x.toInt < 10 ∨ 16 < x.toInt := by
          have q10 := lv_neT h10 (show (10 : Int32).toInt = 10 by decide)
          have q11 := lv_neT h11 (show (11 : Int32).toInt = 11 by decide)
          have q12 := lv_neT h12 (show (12 : Int32).toInt = 12 by decide)
          have q13 := lv_neT h13 (show (13 : Int32).toInt = 13 by decide)
          have q14 := lv_neT h14 (show (14 : Int32).toInt = 14 by decide)
          have q15 := lv_neT h15 (show (15 : Int32).toInt = 15 by decide)
          have q16 := lv_neT h16 (show (16 : Int32).toInt = 16 by decide)
          omega
        refine lv_tableOut (tgt := 115) hx hb dX3_count_37 hout (by decide) ?_
        refine lv_iconst (v := 0) hx hb dX3_count_115 (by decide) ?_
        exact wRetI K hw dX3_count_116 ⟨by rw [sp_count, if_neg hl0, if_neg hg, if_neg h10, if_neg h11, if_neg h12, if_neg h13, if_neg h14, if_neg h15, if_neg h16], rfl⟩
      · refine lv_iload_n hx hb dX3_count_21 rfl (lv_at hl 1 rfl) ?_
        refine lv_bipush (v := 10) hx hb dX3_count_22 (by decide) ?_
        refine lv_icmp_ge (tgt := 36) hx hb dX3_count_24 (by decide) (fun c_24 => ?_) (fun c_24 => ?_)
        · have hg : ¬ (¬ x < 5 ∧ ¬ 10 ≤ x) := fun q => q.2 c_24
          refine lv_iload_n hx hb dX3_count_36 rfl (lv_at hl 1 rfl) ?_
          by_cases h10 : x = 10
          · subst h10
            refine lv_tableIn (off := 43) (tgt := 80) hx hb dX3_count_37 (by decide +kernel) (by decide +kernel) (by decide +kernel) (by decide) ?_
            refine lv_aload_n hx hb dX3_count_80 rfl (lv_at hl 0 rfl) ?_
            refine wGet (v := .int (S.2.2 7 0)) K hw hiX3 wM_o rfl 9 (by decide) (by decide +kernel) rfl dX3_count_81 ?_
            exact wRetI K hw dX3_count_84 ⟨by rw [sp_count, if_neg hl0, if_neg hg]; rfl, rfl⟩
          by_cases h11 : x = 11
          · subst h11
            refine lv_tableIn (off := 48) (tgt := 85) hx hb dX3_count_37 (by decide +kernel) (by decide +kernel) (by decide +kernel) (by decide) ?_
            refine lv_aload_n hx hb dX3_count_85 rfl (lv_at hl 0 rfl) ?_
            refine wGet (v := .int (S.2.2 7 1)) K hw hiX3 wM_o rfl 10 (by decide) (by decide +kernel) rfl dX3_count_86 ?_
            exact wRetI K hw dX3_count_89 ⟨by rw [sp_count, if_neg hl0, if_neg hg]; rfl, rfl⟩
          by_cases h12 : x = 12
          · subst h12
            refine lv_tableIn (off := 53) (tgt := 90) hx hb dX3_count_37 (by decide +kernel) (by decide +kernel) (by decide +kernel) (by decide) ?_
            refine lv_aload_n hx hb dX3_count_90 rfl (lv_at hl 0 rfl) ?_
            refine wGet (v := .int (S.2.2 7 2)) K hw hiX3 wM_o rfl 11 (by decide) (by decide +kernel) rfl dX3_count_91 ?_
            exact wRetI K hw dX3_count_94 ⟨by rw [sp_count, if_neg hl0, if_neg hg]; rfl, rfl⟩
          by_cases h13 : x = 13
          · subst h13
            refine lv_tableIn (off := 58) (tgt := 95) hx hb dX3_count_37 (by decide +kernel) (by decide +kernel) (by decide +kernel) (by decide) ?_
            refine lv_aload_n hx hb dX3_count_95 rfl (lv_at hl 0 rfl) ?_
            refine wGet (v := .int (S.2.2 7 3)) K hw hiX3 wM_o rfl 12 (by decide) (by decide +kernel) rfl dX3_count_96 ?_
            exact wRetI K hw dX3_count_99 ⟨by rw [sp_count, if_neg hl0, if_neg hg]; rfl, rfl⟩
          by_cases h14 : x = 14
          · subst h14
            refine lv_tableIn (off := 63) (tgt := 100) hx hb dX3_count_37 (by decide +kernel) (by decide +kernel) (by decide +kernel) (by decide) ?_
            refine lv_aload_n hx hb dX3_count_100 rfl (lv_at hl 0 rfl) ?_
            refine wGet (v := .int (S.2.2 7 4)) K hw hiX3 wM_o rfl 13 (by decide) (by decide +kernel) rfl dX3_count_101 ?_
            exact wRetI K hw dX3_count_104 ⟨by rw [sp_count, if_neg hl0, if_neg hg]; rfl, rfl⟩
          by_cases h15 : x = 15
          · subst h15
            refine lv_tableIn (off := 68) (tgt := 105) hx hb dX3_count_37 (by decide +kernel) (by decide +kernel) (by decide +kernel) (by decide) ?_
            refine lv_aload_n hx hb dX3_count_105 rfl (lv_at hl 0 rfl) ?_
            refine wGet (v := .int (S.2.2 7 5)) K hw hiX3 wM_o rfl 14 (by decide) (by decide +kernel) rfl dX3_count_106 ?_
            exact wRetI K hw dX3_count_109 ⟨by rw [sp_count, if_neg hl0, if_neg hg]; rfl, rfl⟩
          by_cases h16 : x = 16
          · subst h16
            refine lv_tableIn (off := 73) (tgt := 110) hx hb dX3_count_37 (by decide +kernel) (by decide +kernel) (by decide +kernel) (by decide) ?_
            refine lv_aload_n hx hb dX3_count_110 rfl (lv_at hl 0 rfl) ?_
            refine wGet (v := .int (S.2.2 7 6)) K hw hiX3 wM_o rfl 15 (by decide) (by decide +kernel) rfl dX3_count_111 ?_
            exact wRetI K hw dX3_count_114 ⟨by rw [sp_count, if_neg hl0, if_neg hg]; rfl, rfl⟩
          have hout : x.toInt < 10 ∨ 16 < x.toInt := by
            have q10 := lv_neT h10 (show (10 : Int32).toInt = 10 by decide)
            have q11 := lv_neT h11 (show (11 : Int32).toInt = 11 by decide)
            have q12 := lv_neT h12 (show (12 : Int32).toInt = 12 by decide)
            have q13 := lv_neT h13 (show (13 : Int32).toInt = 13 by decide)
            have q14 := lv_neT h14 (show (14 : Int32).toInt = 14 by decide)
            have q15 := lv_neT h15 (show (15 : Int32).toInt = 15 by decide)
            have q16 := lv_neT h16 (show (16 : Int32).toInt = 16 by decide)
            omega
          refine lv_tableOut (tgt := 115) hx hb dX3_count_37 hout (by decide) ?_
          refine lv_iconst (v := 0) hx hb dX3_count_115 (by decide) ?_
          exact wRetI K hw dX3_count_116 ⟨by rw [sp_count, if_neg hl0, if_neg hg, if_neg h10, if_neg h11, if_neg h12, if_neg h13, if_neg h14, if_neg h15, if_neg h16], rfl⟩
        · have hg : ¬ x < 5 ∧ ¬ 10 ≤ x := ⟨c_18, c_24⟩
          obtain ⟨j, hj, ej⟩ := cnt5 hg
          refine lv_aload_n hx hb dX3_count_27 rfl (lv_at hl 0 rfl) ?_
          refine wGet (v := .ref (am 9)) K hw hiX3 wM_o rfl 8 (by decide) (by decide +kernel) rfl dX3_count_28 ?_
          refine lv_iload_n hx hb dX3_count_31 rfl (lv_at hl 1 rfl) ?_
          refine lv_iconst (v := 5) hx hb dX3_count_32 (by decide) ?_
          refine lv_isub hx hb dX3_count_33 ?_
          rw [show (x - 5 : Int32) = nI j from ej]
          refine wIald (v := S.2.2 6 j) K hw wM_outs (in5 hj) (by rw [nI_clamp (by omega)]) dX3_count_34 ?_
          exact wRetI K hw dX3_count_35 ⟨by rw [sp_count, if_neg hl0, if_pos hg, ej, kN_nI (by omega)], rfl⟩
    · have hl0 : isl x := ⟨c_1, c_6⟩
      obtain ⟨j, hj, rfl⟩ := isl_of hl0
      refine lv_aload_n hx hb dX3_count_9 rfl (lv_at hl 0 rfl) ?_
      refine wGet (v := .ref (am 8)) K hw hiX3 wM_o rfl 7 (by decide) (by decide +kernel) rfl dX3_count_10 ?_
      refine lv_iload_n hx hb dX3_count_13 rfl (lv_at hl 1 rfl) ?_
      refine wIald (v := S.2.2 5 j) K hw wM_offs (in5 hj) (by rw [nI_clamp (by omega)]) dX3_count_14 ?_
      exact wRetI K hw dX3_count_15 ⟨by rw [sp_count, if_pos hl0, kN_nI (by omega)], rfl⟩
