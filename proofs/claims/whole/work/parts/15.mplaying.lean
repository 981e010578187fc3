/-! playing, in the reference -/
theorem ix0 {q : Nat} : (0 : Int32) + nI q = nI (60 * 0 + q) := by
  rw [show (0 : Int32) = nI 0 from rfl, nI_add]
set_option maxHeartbeats 4000000 in
set_option maxRecDepth 100000 in
theorem mX3_has (l : Launch) (E : wE) (am : Nat → Nat) (S : SS) (hI : Inv S) (k : Nat) (hk : k < 5) : MCi l E yX3_has wsX3_has { frames := 0, cells := 0, slots := 0, locals := 0 } [.ref (am 0), .int (nI k)] (wM E am S) (fun r w => r = bI (hsC S k (S.2.2 7 0)) ∧ w = wM E am S) := by
  refine wEnterI (cc := cX3_has) (nL := 2) (ret := (some .boolean)) (own := RX3) (by decide) rfl rfl (Nat.le_of_ble_eq_true rfl) ?_
  intro p e s m below meth c A ls K hl hw
  have hl : lv_has ls 2 [(0, .ref (am 0)), (1, .int (nI k))] := hl
  obtain ⟨hx, hb, -, hml, hown, hts, -, -, -⟩ := id K
  have hiX3 : ∀ w ∈ wsX30, w ∈ wsX3_has := by decide +kernel
  refine lv_aload_n hx hb dX3_has_0 rfl (lv_at hl 0 rfl) ?_
  refine wGet (v := .ref (am 3)) K hw hiX3 wM_o rfl 2 (by decide) (by decide +kernel) rfl dX3_has_1 ?_
  refine lv_iload_n hx hb dX3_has_4 rfl (lv_at hl 1 rfl) ?_
  refine wZald (v := S.2.2 0 k) K hw wM_on (in5 hk) (by rw [nI_clamp (by omega)]) dX3_has_5 ?_
  refine lv_if_eq (tgt := 26) hx hb dX3_has_6 (by decide) (fun c_6 => ?_) (fun c_6 => ?_)
  · refine lv_iconst (v := 0) hx hb dX3_has_26 (by decide) ?_
    exact wRetZ K hw dX3_has_27 rfl ⟨bI_0 (fun q => q.1 c_6), rfl⟩
  · refine lv_aload_n hx hb dX3_has_9 rfl (lv_at hl 0 rfl) ?_
    refine wGet (v := .int (S.2.2 7 0)) K hw hiX3 wM_o rfl 9 (by decide) (by decide +kernel) rfl dX3_has_10 ?_
    refine lv_aload_n hx hb dX3_has_13 rfl (lv_at hl 0 rfl) ?_
    refine wGet (v := .ref (am 2)) K hw hiX3 wM_o rfl 1 (by decide) (by decide +kernel) rfl dX3_has_14 ?_
    refine lv_iload_n hx hb dX3_has_17 rfl (lv_at hl 1 rfl) ?_
    refine wIald (v := S.2.2 1 k) K hw wM_sizes (in5 hk) (by rw [nI_clamp (by omega)]) dX3_has_18 ?_
    refine lv_icmp_ge (tgt := 26) hx hb dX3_has_19 (by decide) (fun c_19 => ?_) (fun c_19 => ?_)
    · refine lv_iconst (v := 0) hx hb dX3_has_26 (by decide) ?_
      exact wRetZ K hw dX3_has_27 rfl ⟨bI_0 (fun q => q.2.2 c_19), rfl⟩
    · refine lv_iconst (v := 1) hx hb dX3_has_22 (by decide) ?_
      refine lv_goto (tgt := 27) hx hb dX3_has_23 (by decide) ?_
      exact wRetZ K hw dX3_has_27 rfl ⟨bI_1 ⟨c_6, hI.hd0, c_19⟩, rfl⟩
set_option maxHeartbeats 4000000 in
set_option maxRecDepth 100000 in
theorem mX3_told (l : Launch) (E : wE) (am : Nat → Nat) (S : SS) (hI : Inv S) (k : Nat) (hk : k < 5) (d : Int32) : MCi l E yX3_told wsX3_told { frames := 1, cells := 0, slots := 0, locals := 21 } [.ref (am 0), .int (nI k), .int d] (wM E am S) (fun r w => r = tld S k d ∧ w = wM E am S) := by
  refine wEnterI (cc := cX3_told) (nL := 3) (ret := (some .int)) (own := RX3) (by decide) rfl rfl (Nat.le_of_ble_eq_true rfl) ?_
  intro p e s m below meth c A ls K hl hw
  have hl : lv_has ls 3 [(0, .ref (am 0)), (1, .int (nI k)), (2, .int d)] := hl
  obtain ⟨hx, hb, -, hml, hown, hts, -, -, -⟩ := id K
  have hiX3 : ∀ w ∈ wsX30, w ∈ wsX3_told := by decide +kernel
  refine lv_aload_n hx hb dX3_told_0 rfl (lv_at hl 0 rfl) ?_
  refine lv_iload_n hx hb dX3_told_1 rfl (lv_at hl 1 rfl) ?_
  refine wCallV (As := [.int (nI k)]) (rest := []) K hw (mX3_has l E am S hI k hk) (cwV 1 hts gX3_told_X3_has rfl rfl rfl (by decide +kernel) ⟨Nat.le_of_ble_eq_true rfl, Nat.le_of_ble_eq_true rfl⟩) wM_o rfl rfl hl.1 rfl (Nat.le_of_ble_eq_true rfl) dX3_told_2 ⟨Nat.zero_le _, Nat.zero_le _⟩ (fun r_2 w' H locs hr hw => ?_)
  obtain ⟨hr2, rfl⟩ := hr
  refine lv_if_eq (tgt := 25) hx hb dX3_told_5 (by decide) (fun c_5 => ?_) (fun c_5 => ?_)
  · have h := bI_f hr2 c_5
    refine lv_iload_n hx hb dX3_told_25 rfl (lv_at hl 2 rfl) ?_
    exact wRetI K hw dX3_told_26 ⟨by rw [tld, if_neg h], rfl⟩
  · have h := bI_t hr2 c_5
    obtain ⟨q, hq, eq⟩ := hI.cell hk h
    refine lv_aload_n hx hb dX3_told_8 rfl (lv_at hl 0 rfl) ?_
    refine wGet (v := .ref (am 1)) K hw hiX3 wM_o rfl 0 (by decide) (by decide +kernel) rfl dX3_told_9 ?_
    refine lv_bipush (v := 60) hx hb dX3_told_12 (by decide) ?_
    refine lv_iload_n hx hb dX3_told_14 rfl (lv_at hl 1 rfl) ?_
    refine lv_imul hx hb dX3_told_15 ?_
    refine lv_aload_n hx hb dX3_told_16 rfl (lv_at hl 0 rfl) ?_
    refine wGet (v := .int (S.2.2 7 0)) K hw hiX3 wM_o rfl 9 (by decide) (by decide +kernel) rfl dX3_told_17 ?_
    refine lv_iadd hx hb dX3_told_20 ?_
    rw [show ((60 * (nI k)) + (S.2.2 7 0) : Int32) = nI (60 * k + q) from by rw [eq]; exact ix60]
    refine wIald (v := S.1 k (kN (S.2.2 7 0))) K hw wM_cells (vp_in_nI (by omega) (by omega)) (by rw [nI_clamp (by omega), gC_at hq, eq, kN_nI (by omega)]) dX3_told_21 ?_
    refine lv_goto (tgt := 26) hx hb dX3_told_22 (by decide) ?_
    exact wRetI K hw dX3_told_26 ⟨by rw [tld, if_pos h], rfl⟩
set_option maxHeartbeats 4000000 in
set_option maxRecDepth 100000 in
theorem mX3_less (l : Launch) (E : wE) (am : Nat → Nat) (S : SS) (k : Nat) (hk : k < 5) (q : Nat) (hq : q < 60) (eq : S.2.2 7 0 = nI q) : MCv l E yX3_less wsX3_less { frames := 0, cells := 0, slots := 0, locals := 0 } [.ref (am 0), .int (nI k)] (wM E am S) (fun w => w = wM E am (lws S k)) := by
  refine wEnterV (cc := cX3_less) (nL := 2) (ret := none) (own := RX3) (by decide) rfl rfl (Nat.le_of_ble_eq_true rfl) ?_
  intro p e s m below meth c A ls K hl hw hin
  have hl : lv_has ls 2 [(0, .ref (am 0)), (1, .int (nI k))] := hl
  obtain ⟨hx, hb, -, hml, hown, hts, -, -, -⟩ := id K
  have hiX3 : ∀ w ∈ wsX30, w ∈ wsX3_less := by decide +kernel
  refine lv_aload_n hx hb dX3_less_0 rfl (lv_at hl 0 rfl) ?_
  refine wGet (v := .ref (am 1)) K hw hiX3 wM_o rfl 0 (by decide) (by decide +kernel) rfl dX3_less_1 ?_
  refine lv_bipush (v := 60) hx hb dX3_less_4 (by decide) ?_
  refine lv_iload_n hx hb dX3_less_6 rfl (lv_at hl 1 rfl) ?_
  refine lv_imul hx hb dX3_less_7 ?_
  refine lv_aload_n hx hb dX3_less_8 rfl (lv_at hl 0 rfl) ?_
  refine wGet (v := .int (S.2.2 7 0)) K hw hiX3 wM_o rfl 9 (by decide) (by decide +kernel) rfl dX3_less_9 ?_
  refine lv_iadd hx hb dX3_less_12 ?_
  rw [show ((60 * (nI k)) + (S.2.2 7 0) : Int32) = nI (60 * k + q) from by rw [eq]; exact ix60]
  refine lv_aload_n hx hb dX3_less_13 rfl (lv_at hl 0 rfl) ?_
  refine wGet (v := .ref (am 1)) K hw hiX3 wM_o rfl 0 (by decide) (by decide +kernel) rfl dX3_less_14 ?_
  refine lv_bipush (v := 60) hx hb dX3_less_17 (by decide) ?_
  refine lv_iload_n hx hb dX3_less_19 rfl (lv_at hl 1 rfl) ?_
  refine lv_imul hx hb dX3_less_20 ?_
  refine lv_aload_n hx hb dX3_less_21 rfl (lv_at hl 0 rfl) ?_
  refine wGet (v := .int (S.2.2 7 0)) K hw hiX3 wM_o rfl 9 (by decide) (by decide +kernel) rfl dX3_less_22 ?_
  refine lv_iadd hx hb dX3_less_25 ?_
  rw [show ((60 * (nI k)) + (S.2.2 7 0) : Int32) = nI (60 * k + q) from by rw [eq]; exact ix60]
  refine wIald (v := S.1 k q) K hw wM_cells (vp_in_nI (by omega) (by omega)) (by rw [nI_clamp (by omega)]; exact gC_at hq) dX3_less_26 ?_
  refine lv_iconst (v := 1) hx hb dX3_less_27 (by decide) ?_
  refine lv_isub hx hb dX3_less_28 ?_
  refine wIast K hw wM_cells (vp_in_nI (by omega) (by omega)) dX3_less_29 (wM_sCellI hq (nI_clamp (by omega)) _) (fun H locs hw => ?_)
  exact wRetV K hw dX3_less_30 (by rw [lws, eq, kN_nI (by omega)])
set_option maxHeartbeats 4000000 in
set_option maxRecDepth 100000 in
theorem mX3_note (l : Launch) (E : wE) (am : Nat → Nat) (S : SS) (hI : Inv S) : MCv l E yX3_note wsX3_note { frames := 2, cells := 0, slots := 0, locals := 43 } [.ref (am 0)] (wM E am S) (fun w => w = wM E am (nte S)) := by
  refine wEnterV (cc := cX3_note) (nL := 2) (ret := none) (own := RX3) (by decide) rfl rfl (Nat.le_of_ble_eq_true rfl) ?_
  intro p e s m below meth c A ls K hl hw hin
  have hl : lv_has ls 2 [(0, .ref (am 0))] := hl
  obtain ⟨hx, hb, -, hml, hown, hts, -, -, -⟩ := id K
  have hiX3 : ∀ w ∈ wsX30, w ∈ wsX3_note := by decide +kernel
  refine lv_aload_n hx hb dX3_note_0 rfl (lv_at hl 0 rfl) ?_
  refine lv_iconst (v := 1) hx hb dX3_note_1 (by decide) ?_
  refine lv_iconst (v := 1) hx hb dX3_note_2 (by decide) ?_
  refine wCallV (As := [.int 1, .int 1]) (rest := []) K hw (mX3_told l E am S hI 1 (by decide) 1) (cwV 2 hts gX3_note_X3_told rfl rfl rfl (by decide +kernel) ⟨Nat.le_of_ble_eq_true rfl, Nat.le_of_ble_eq_true rfl⟩) wM_o rfl rfl hl.1 rfl (Nat.le_of_ble_eq_true rfl) dX3_note_3 ⟨Nat.zero_le _, Nat.zero_le _⟩ (fun r_3 w' H locs hr hw => ?_)
  obtain ⟨hq, rfl⟩ := hr
  obtain rfl := hq
  refine lv_istore_n (lv' := [(1, .int (tld S 1 1)), (0, .ref (am 0))]) hx hb dX3_note_6 rfl hl (by decide) rfl (fun ls hl => ?_)
  refine lv_aload_n hx hb dX3_note_7 rfl (lv_at hl 1 rfl) ?_
  refine lv_iconst (v := 3) hx hb dX3_note_8 (by decide) ?_
  refine lv_iconst (v := 0) hx hb dX3_note_9 (by decide) ?_
  refine wCallV (As := [.int 3, .int 0]) (rest := []) K hw (mX3_told l E am S hI 3 (by decide) 0) (cwV 2 hts gX3_note_X3_told rfl rfl rfl (by decide +kernel) ⟨Nat.le_of_ble_eq_true rfl, Nat.le_of_ble_eq_true rfl⟩) wM_o rfl rfl hl.1 rfl (Nat.le_of_ble_eq_true rfl) dX3_note_10 ⟨Nat.zero_le _, Nat.zero_le _⟩ (fun r_10 w' H locs hr hw => ?_)
  obtain ⟨hq, rfl⟩ := hr
  obtain rfl := hq
  refine lv_iconst (v := 1) hx hb dX3_note_13 (by decide) ?_
  refine lv_icmp_ne (tgt := 23) hx hb dX3_note_14 (by decide) (fun c_14 => ?_) (fun c_14 => ?_)
  · refine lv_iload_n hx hb dX3_note_23 rfl (lv_at hl 0 rfl) ?_
    refine lv_istore_n (lv' := [(1, .int (tld S 1 1)), (0, .ref (am 0))]) hx hb dX3_note_24 rfl hl (by decide) rfl (fun ls hl => ?_)
    rw [show tld S 1 1 = tt S from (if_neg c_14).symm] at hl
    refine lv_aload_n hx hb dX3_note_25 rfl (lv_at hl 1 rfl) ?_
    refine lv_aload_n hx hb dX3_note_26 rfl (lv_at hl 1 rfl) ?_
    refine wGet (v := .int (S.2.2 7 1)) K hw hiX3 wM_o rfl 10 (by decide) (by decide +kernel) rfl dX3_note_27 ?_
    refine lv_iload_n hx hb dX3_note_30 rfl (lv_at hl 0 rfl) ?_
    refine lv_iadd hx hb dX3_note_31 ?_
    refine wPut (ty := .int) K hw hiX3 tyX3 tyX3_ok nmX3 wM_o rfl 10 (by decide) (by decide +kernel) rfl (by decide +kernel) rfl rfl (Nat.le_of_ble_eq_true rfl) dX3_note_32 (wM_sG 1 (by decide) _) (fun H locs hw => ?_)
    refine lv_aload_n hx hb dX3_note_35 rfl (lv_at hl 1 rfl) ?_
    refine lv_aload_n hx hb dX3_note_36 rfl (lv_at hl 1 rfl) ?_
    refine wGet (v := .int (S.2.2 7 4)) K hw hiX3 wM_o rfl 13 (by decide) (by decide +kernel) rfl dX3_note_37 ?_
    refine lv_iconst (v := 1) hx hb dX3_note_40 (by decide) ?_
    refine lv_iadd hx hb dX3_note_41 ?_
    refine wPut (ty := .int) K hw hiX3 tyX3 tyX3_ok nmX3 wM_o rfl 13 (by decide) (by decide +kernel) rfl (by decide +kernel) rfl rfl (Nat.le_of_ble_eq_true rfl) dX3_note_42 (wM_sG 4 (by decide) _) (fun H locs hw => ?_)
    refine lv_aload_n hx hb dX3_note_45 rfl (lv_at hl 1 rfl) ?_
    refine lv_aload_n hx hb dX3_note_46 rfl (lv_at hl 1 rfl) ?_
    refine wGet (v := .int (S.2.2 7 5)) K hw hiX3 wM_o rfl 14 (by decide) (by decide +kernel) rfl dX3_note_47 ?_
    refine lv_iload_n hx hb dX3_note_50 rfl (lv_at hl 0 rfl) ?_
    refine lv_aload_n hx hb dX3_note_51 rfl (lv_at hl 1 rfl) ?_
    refine lv_iconst (v := 4) hx hb dX3_note_52 (by decide) ?_
    refine lv_iconst (v := 0) hx hb dX3_note_53 (by decide) ?_
    refine wCallV (As := [.int 4, .int 0]) (rest := [.int (tt S), .int (S.2.2 7 5), .ref (am 0)]) K hw (mX3_told l E am (sV (sV S 7 1 (S.2.2 7 1 + tt S)) 7 4 (S.2.2 7 4 + 1)) ((hI.setg (by decide) (by decide) _).setg (by decide) (by decide) _) 4 (by decide) 0) (cwV 2 hts gX3_note_X3_told rfl rfl rfl (by decide +kernel) ⟨Nat.le_of_ble_eq_true rfl, Nat.le_of_ble_eq_true rfl⟩) wM_o rfl rfl hl.1 rfl (Nat.le_of_ble_eq_true rfl) dX3_note_54 ⟨Nat.zero_le _, Nat.zero_le _⟩ (fun r_54 w' H locs hr hw => ?_)
    obtain ⟨hq, rfl⟩ := hr
    obtain rfl := hq
    refine lv_aload_n hx hb dX3_note_57 rfl (lv_at hl 1 rfl) ?_
    refine wGet (v := .int (S.2.2 7 2)) K hw hiX3 wM_o rfl 11 (by decide) (by decide +kernel) rfl dX3_note_58 ?_
    refine lv_iadd hx hb dX3_note_61 ?_
    refine lv_imul hx hb dX3_note_62 ?_
    refine lv_iadd hx hb dX3_note_63 ?_
    refine wPut (ty := .int) K hw hiX3 tyX3 tyX3_ok nmX3 wM_o rfl 14 (by decide) (by decide +kernel) rfl (by decide +kernel) rfl rfl (Nat.le_of_ble_eq_true rfl) dX3_note_64 (wM_sG 5 (by decide) _) (fun H locs hw => ?_)
    refine lv_aload_n hx hb dX3_note_67 rfl (lv_at hl 1 rfl) ?_
    refine lv_aload_n hx hb dX3_note_68 rfl (lv_at hl 1 rfl) ?_
    refine wGet (v := .int (S.2.2 7 5 + tt S * (tld S 4 0 + S.2.2 7 2))) K hw hiX3 wM_o rfl 14 (by decide) (by decide +kernel) rfl dX3_note_69 ?_
    refine lv_aload_n hx hb dX3_note_72 rfl (lv_at hl 1 rfl) ?_
    refine lv_iconst (v := 2) hx hb dX3_note_73 (by decide) ?_
    refine lv_bipush (v := 8) hx hb dX3_note_74 (by decide) ?_
    refine wCallV (As := [.int 2, .int 8]) (rest := [.int (S.2.2 7 5 + tt S * (tld S 4 0 + S.2.2 7 2)), .ref (am 0)]) K hw (mX3_told l E am (sV (sV (sV S 7 1 (S.2.2 7 1 + tt S)) 7 4 (S.2.2 7 4 + 1)) 7 5 (S.2.2 7 5 + tt S * (tld S 4 0 + S.2.2 7 2))) (((hI.setg (by decide) (by decide) _).setg (by decide) (by decide) _).setg (by decide) (by decide) _) 2 (by decide) 8) (cwV 2 hts gX3_note_X3_told rfl rfl rfl (by decide +kernel) ⟨Nat.le_of_ble_eq_true rfl, Nat.le_of_ble_eq_true rfl⟩) wM_o rfl rfl hl.1 rfl (Nat.le_of_ble_eq_true rfl) dX3_note_76 ⟨Nat.zero_le _, Nat.zero_le _⟩ (fun r_76 w' H locs hr hw => ?_)
    obtain ⟨hq, rfl⟩ := hr
    obtain rfl := hq
    refine lv_iadd hx hb dX3_note_79 ?_
    refine wPut (ty := .int) K hw hiX3 tyX3 tyX3_ok nmX3 wM_o rfl 14 (by decide) (by decide +kernel) rfl (by decide +kernel) rfl rfl (Nat.le_of_ble_eq_true rfl) dX3_note_80 (wM_sG 5 (by decide) _) (fun H locs hw => ?_)
    exact wRetV K hw dX3_note_83 rfl
  · refine lv_iconst (v := 2) hx hb dX3_note_17 (by decide) ?_
    refine lv_iload_n hx hb dX3_note_18 rfl (lv_at hl 0 rfl) ?_
    refine lv_imul hx hb dX3_note_19 ?_
    refine lv_goto (tgt := 24) hx hb dX3_note_20 (by decide) ?_
    refine lv_istore_n (lv' := [(1, .int (2 * (tld S 1 1))), (0, .ref (am 0))]) hx hb dX3_note_24 rfl hl (by decide) rfl (fun ls hl => ?_)
    rw [show (2 * tld S 1 1 : Int32) = tt S from (if_pos c_14).symm] at hl
    refine lv_aload_n hx hb dX3_note_25 rfl (lv_at hl 1 rfl) ?_
    refine lv_aload_n hx hb dX3_note_26 rfl (lv_at hl 1 rfl) ?_
    refine wGet (v := .int (S.2.2 7 1)) K hw hiX3 wM_o rfl 10 (by decide) (by decide +kernel) rfl dX3_note_27 ?_
    refine lv_iload_n hx hb dX3_note_30 rfl (lv_at hl 0 rfl) ?_
    refine lv_iadd hx hb dX3_note_31 ?_
    refine wPut (ty := .int) K hw hiX3 tyX3 tyX3_ok nmX3 wM_o rfl 10 (by decide) (by decide +kernel) rfl (by decide +kernel) rfl rfl (Nat.le_of_ble_eq_true rfl) dX3_note_32 (wM_sG 1 (by decide) _) (fun H locs hw => ?_)
    refine lv_aload_n hx hb dX3_note_35 rfl (lv_at hl 1 rfl) ?_
    refine lv_aload_n hx hb dX3_note_36 rfl (lv_at hl 1 rfl) ?_
    refine wGet (v := .int (S.2.2 7 4)) K hw hiX3 wM_o rfl 13 (by decide) (by decide +kernel) rfl dX3_note_37 ?_
    refine lv_iconst (v := 1) hx hb dX3_note_40 (by decide) ?_
    refine lv_iadd hx hb dX3_note_41 ?_
    refine wPut (ty := .int) K hw hiX3 tyX3 tyX3_ok nmX3 wM_o rfl 13 (by decide) (by decide +kernel) rfl (by decide +kernel) rfl rfl (Nat.le_of_ble_eq_true rfl) dX3_note_42 (wM_sG 4 (by decide) _) (fun H locs hw => ?_)
    refine lv_aload_n hx hb dX3_note_45 rfl (lv_at hl 1 rfl) ?_
    refine lv_aload_n hx hb dX3_note_46 rfl (lv_at hl 1 rfl) ?_
    refine wGet (v := .int (S.2.2 7 5)) K hw hiX3 wM_o rfl 14 (by decide) (by decide +kernel) rfl dX3_note_47 ?_
    refine lv_iload_n hx hb dX3_note_50 rfl (lv_at hl 0 rfl) ?_
    refine lv_aload_n hx hb dX3_note_51 rfl (lv_at hl 1 rfl) ?_
    refine lv_iconst (v := 4) hx hb dX3_note_52 (by decide) ?_
    refine lv_iconst (v := 0) hx hb dX3_note_53 (by decide) ?_
    refine wCallV (As := [.int 4, .int 0]) (rest := [.int (tt S), .int (S.2.2 7 5), .ref (am 0)]) K hw (mX3_told l E am (sV (sV S 7 1 (S.2.2 7 1 + tt S)) 7 4 (S.2.2 7 4 + 1)) ((hI.setg (by decide) (by decide) _).setg (by decide) (by decide) _) 4 (by decide) 0) (cwV 2 hts gX3_note_X3_told rfl rfl rfl (by decide +kernel) ⟨Nat.le_of_ble_eq_true rfl, Nat.le_of_ble_eq_true rfl⟩) wM_o rfl rfl hl.1 rfl (Nat.le_of_ble_eq_true rfl) dX3_note_54 ⟨Nat.zero_le _, Nat.zero_le _⟩ (fun r_54 w' H locs hr hw => ?_)
    obtain ⟨hq, rfl⟩ := hr
    obtain rfl := hq
    refine lv_aload_n hx hb dX3_note_57 rfl (lv_at hl 1 rfl) ?_
    refine wGet (v := .int (S.2.2 7 2)) K hw hiX3 wM_o rfl 11 (by decide) (by decide +kernel) rfl dX3_note_58 ?_
    refine lv_iadd hx hb dX3_note_61 ?_
    refine lv_imul hx hb dX3_note_62 ?_
    refine lv_iadd hx hb dX3_note_63 ?_
    refine wPut (ty := .int) K hw hiX3 tyX3 tyX3_ok nmX3 wM_o rfl 14 (by decide) (by decide +kernel) rfl (by decide +kernel) rfl rfl (Nat.le_of_ble_eq_true rfl) dX3_note_64 (wM_sG 5 (by decide) _) (fun H locs hw => ?_)
    refine lv_aload_n hx hb dX3_note_67 rfl (lv_at hl 1 rfl) ?_
    refine lv_aload_n hx hb dX3_note_68 rfl (lv_at hl 1 rfl) ?_
    refine wGet (v := .int (S.2.2 7 5 + tt S * (tld S 4 0 + S.2.2 7 2))) K hw hiX3 wM_o rfl 14 (by decide) (by decide +kernel) rfl dX3_note_69 ?_
    refine lv_aload_n hx hb dX3_note_72 rfl (lv_at hl 1 rfl) ?_
    refine lv_iconst (v := 2) hx hb dX3_note_73 (by decide) ?_
    refine lv_bipush (v := 8) hx hb dX3_note_74 (by decide) ?_
    refine wCallV (As := [.int 2, .int 8]) (rest := [.int (S.2.2 7 5 + tt S * (tld S 4 0 + S.2.2 7 2)), .ref (am 0)]) K hw (mX3_told l E am (sV (sV (sV S 7 1 (S.2.2 7 1 + tt S)) 7 4 (S.2.2 7 4 + 1)) 7 5 (S.2.2 7 5 + tt S * (tld S 4 0 + S.2.2 7 2))) (((hI.setg (by decide) (by decide) _).setg (by decide) (by decide) _).setg (by decide) (by decide) _) 2 (by decide) 8) (cwV 2 hts gX3_note_X3_told rfl rfl rfl (by decide +kernel) ⟨Nat.le_of_ble_eq_true rfl, Nat.le_of_ble_eq_true rfl⟩) wM_o rfl rfl hl.1 rfl (Nat.le_of_ble_eq_true rfl) dX3_note_76 ⟨Nat.zero_le _, Nat.zero_le _⟩ (fun r_76 w' H locs hr hw => ?_)
    obtain ⟨hq, rfl⟩ := hr
    obtain rfl := hq
    refine lv_iadd hx hb dX3_note_79 ?_
    refine wPut (ty := .int) K hw hiX3 tyX3 tyX3_ok nmX3 wM_o rfl 14 (by decide) (by decide +kernel) rfl (by decide +kernel) rfl rfl (Nat.le_of_ble_eq_true rfl) dX3_note_80 (wM_sG 5 (by decide) _) (fun H locs hw => ?_)
    exact wRetV K hw dX3_note_83 rfl
set_option maxHeartbeats 4000000 in
set_option maxRecDepth 100000 in
theorem mX3_step (l : Launch) (E : wE) (am : Nat → Nat) (S : SS) (hI : Inv S) (hc : hsC S 0 (S.2.2 7 0)) : MCv l E yX3_step wsX3_step { frames := 3, cells := 0, slots := 0, locals := 64 } [.ref (am 0)] (wM E am S) (fun w => w = wM E am (stp S (S.1 0 (kN (S.2.2 7 0))))) := by
  refine wEnterV (cc := cX3_step) (nL := 2) (ret := none) (own := RX3) (by decide) rfl rfl (Nat.le_of_ble_eq_true rfl) ?_
  intro p e s m below meth c A ls K hl hw hin
  have hl : lv_has ls 2 [(0, .ref (am 0))] := hl
  obtain ⟨hx, hb, -, hml, hown, hts, -, -, -⟩ := id K
  have hiX3 : ∀ w ∈ wsX30, w ∈ wsX3_step := by decide +kernel
  obtain ⟨q, hq, eq⟩ := hI.cell (by decide) hc
  refine lv_aload_n hx hb dX3_step_0 rfl (lv_at hl 0 rfl) ?_
  refine wGet (v := .ref (am 1)) K hw hiX3 wM_o rfl 0 (by decide) (by decide +kernel) rfl dX3_step_1 ?_
  refine lv_iconst (v := 0) hx hb dX3_step_4 (by decide) ?_
  refine lv_aload_n hx hb dX3_step_5 rfl (lv_at hl 0 rfl) ?_
  refine wGet (v := .int (S.2.2 7 0)) K hw hiX3 wM_o rfl 9 (by decide) (by decide +kernel) rfl dX3_step_6 ?_
  refine lv_iadd hx hb dX3_step_9 ?_
  rw [show (0 + (S.2.2 7 0) : Int32) = nI (60 * 0 + q) from by rw [eq]; exact ix0]
  refine wIald (v := S.1 0 (kN (S.2.2 7 0))) K hw wM_cells (vp_in_nI (by omega) (by omega)) (by rw [nI_clamp (by omega), gC_at hq, eq, kN_nI (by omega)]) dX3_step_10 ?_
  refine lv_topi (fun g eg => ?_)
  refine lv_istore_n (lv' := [(1, .int g), (0, .ref (am 0))]) hx hb dX3_step_11 rfl hl (by decide) rfl (fun ls hl => ?_)
  refine lv_iload_n hx hb dX3_step_12 rfl (lv_at hl 0 rfl) ?_
  refine lv_bipush (v := 114) hx hb dX3_step_13 (by decide) ?_
  refine lv_icmp_ne (tgt := 41) hx hb dX3_step_15 (by decide) (fun c_15 => ?_) (fun c_15 => ?_)
  · refine lv_iload_n hx hb dX3_step_41 rfl (lv_at hl 0 rfl) ?_
    refine lv_bipush (v := 46) hx hb dX3_step_42 (by decide) ?_
    refine lv_icmp_ne (tgt := 65) hx hb dX3_step_44 (by decide) (fun c_44 => ?_) (fun c_44 => ?_)
    · refine lv_iload_n hx hb dX3_step_65 rfl (lv_at hl 0 rfl) ?_
      refine lv_bipush (v := 110) hx hb dX3_step_66 (by decide) ?_
      refine lv_icmp_ne (tgt := 78) hx hb dX3_step_68 (by decide) (fun c_68 => ?_) (fun c_68 => ?_)
      · refine lv_iload_n hx hb dX3_step_78 rfl (lv_at hl 0 rfl) ?_
        refine lv_bipush (v := 116) hx hb dX3_step_79 (by decide) ?_
        refine lv_icmp_ne (tgt := 97) hx hb dX3_step_81 (by decide) (fun c_81 => ?_) (fun c_81 => ?_)
        · refine lv_iload_n hx hb dX3_step_97 rfl (lv_at hl 0 rfl) ?_
          refine lv_bipush (v := 124) hx hb dX3_step_98 (by decide) ?_
          refine lv_icmp_ne (tgt := 114) hx hb dX3_step_100 (by decide) (fun c_100 => ?_) (fun c_100 => ?_)
          · refine lv_iload_n hx hb dX3_step_114 rfl (lv_at hl 0 rfl) ?_
            refine lv_bipush (v := 119) hx hb dX3_step_115 (by decide) ?_
            refine lv_icmp_ne (tgt := 137) hx hb dX3_step_117 (by decide) (fun c_117 => ?_) (fun c_117 => ?_)
            · refine lv_iload_n hx hb dX3_step_137 rfl (lv_at hl 0 rfl) ?_
              refine lv_bipush (v := 114) hx hb dX3_step_138 (by decide) ?_
              refine lv_icmp_eq (tgt := 159) hx hb dX3_step_140 (by decide) (fun c_140 => ?_) (fun c_140 => ?_)
              · exact absurd c_140 c_15
              · refine lv_iload_n hx hb dX3_step_143 rfl (lv_at hl 0 rfl) ?_
                refine lv_bipush (v := 119) hx hb dX3_step_144 (by decide) ?_
                refine lv_icmp_eq (tgt := 159) hx hb dX3_step_146 (by decide) (fun c_146 => ?_) (fun c_146 => ?_)
                · exact absurd c_146 c_117
                · refine lv_aload_n hx hb dX3_step_149 rfl (lv_at hl 1 rfl) ?_
                  refine lv_aload_n hx hb dX3_step_150 rfl (lv_at hl 1 rfl) ?_
                  refine wGet (v := .int (S.2.2 7 6)) K hw hiX3 wM_o rfl 15 (by decide) (by decide +kernel) rfl dX3_step_151 ?_
                  refine lv_iconst (v := 1) hx hb dX3_step_154 (by decide) ?_
                  refine lv_iadd hx hb dX3_step_155 ?_
                  refine wPut (ty := .int) K hw hiX3 tyX3 tyX3_ok nmX3 wM_o rfl 15 (by decide) (by decide +kernel) rfl (by decide +kernel) rfl rfl (Nat.le_of_ble_eq_true rfl) dX3_step_156 (wM_sG 6 (by decide) _) (fun H locs hw => ?_)
                  refine lv_aload_n hx hb dX3_step_159 rfl (lv_at hl 1 rfl) ?_
                  refine lv_aload_n hx hb dX3_step_160 rfl (lv_at hl 1 rfl) ?_
                  refine wGet (v := .int ((sV S 7 6 ((S.2.2 7 6) + 1)).2.2 7 0)) K hw hiX3 wM_o rfl 9 (by decide) (by decide +kernel) rfl dX3_step_161 ?_
                  refine lv_iconst (v := 1) hx hb dX3_step_164 (by decide) ?_
                  refine lv_iadd hx hb dX3_step_165 ?_
                  refine wPut (ty := .int) K hw hiX3 tyX3 tyX3_ok nmX3 wM_o rfl 9 (by decide) (by decide +kernel) rfl (by decide +kernel) rfl rfl (Nat.le_of_ble_eq_true rfl) dX3_step_166 (wM_sG 0 (by decide) _) (fun H locs hw => ?_)
                  exact wRetV K hw dX3_step_169 (by rw [← eg, stp, if_neg c_44, if_neg c_68, if_neg c_15, if_neg c_81, if_neg c_117, if_neg c_100]; rfl)
            · subst c_117
              refine lv_aload_n hx hb dX3_step_120 rfl (lv_at hl 1 rfl) ?_
              refine lv_iconst (v := 2) hx hb dX3_step_121 (by decide) ?_
              refine lv_iconst (v := 0) hx hb dX3_step_122 (by decide) ?_
              refine wCallV (As := [.int 2, .int 0]) (rest := []) K hw (mX3_told l E am S hI 2 (by decide) 0) (cwV 2 hts gX3_step_X3_told rfl rfl rfl (by decide +kernel) ⟨Nat.le_of_ble_eq_true rfl, Nat.le_of_ble_eq_true rfl⟩) wM_o rfl rfl hl.1 rfl (Nat.le_of_ble_eq_true rfl) dX3_step_123 ⟨Nat.zero_le _, Nat.zero_le _⟩ (fun r_123 w' H locs hr hw => ?_)
              obtain ⟨hq, rfl⟩ := hr
              obtain rfl := hq
              refine lv_if_le (tgt := 137) hx hb dX3_step_126 (by decide) (fun c_126 => ?_) (fun c_126 => ?_)
              · refine lv_iload_n hx hb dX3_step_137 rfl (lv_at hl 0 rfl) ?_
                refine lv_bipush (v := 114) hx hb dX3_step_138 (by decide) ?_
                refine lv_icmp_eq (tgt := 159) hx hb dX3_step_140 (by decide) (fun c_140 => ?_) (fun c_140 => ?_)
                · exact absurd c_140 (by decide)
                · refine lv_iload_n hx hb dX3_step_143 rfl (lv_at hl 0 rfl) ?_
                  refine lv_bipush (v := 119) hx hb dX3_step_144 (by decide) ?_
                  refine lv_icmp_eq (tgt := 159) hx hb dX3_step_146 (by decide) (fun c_146 => ?_) (fun c_146 => ?_)
                  · refine lv_aload_n hx hb dX3_step_159 rfl (lv_at hl 1 rfl) ?_
                    refine lv_aload_n hx hb dX3_step_160 rfl (lv_at hl 1 rfl) ?_
                    refine wGet (v := .int (S.2.2 7 0)) K hw hiX3 wM_o rfl 9 (by decide) (by decide +kernel) rfl dX3_step_161 ?_
                    refine lv_iconst (v := 1) hx hb dX3_step_164 (by decide) ?_
                    refine lv_iadd hx hb dX3_step_165 ?_
                    refine wPut (ty := .int) K hw hiX3 tyX3 tyX3_ok nmX3 wM_o rfl 9 (by decide) (by decide +kernel) rfl (by decide +kernel) rfl rfl (Nat.le_of_ble_eq_true rfl) dX3_step_166 (wM_sG 0 (by decide) _) (fun H locs hw => ?_)
                    exact wRetV K hw dX3_step_169 (by rw [← eg]; show _ = wM E am (if 0 < tld S 2 0 then _ else _); rw [if_neg (Int32.not_lt.mpr c_126)]; rfl)
                  · exact absurd c_146 (by decide)
              · obtain ⟨q2, hq2, eq2⟩ := hI.cell (by decide) (tld_pos (Int32.not_le.mp c_126))
                refine lv_aload_n hx hb dX3_step_129 rfl (lv_at hl 1 rfl) ?_
                refine lv_iconst (v := 2) hx hb dX3_step_130 (by decide) ?_
                refine wCallVv (As := [.int 2]) (rest := []) K hw (mX3_less l E am S 2 (by decide) q2 hq2 eq2) (cwV 1 hts gX3_step_X3_less rfl rfl rfl (by decide +kernel) ⟨Nat.le_of_ble_eq_true rfl, Nat.le_of_ble_eq_true rfl⟩) wM_o rfl rfl hl.1 rfl (Nat.le_of_ble_eq_true rfl) dX3_step_131 ⟨Nat.zero_le _, Nat.zero_le _⟩ (fun w' H locs hr hw => ?_)
                subst hr
                refine lv_goto (tgt := 159) hx hb dX3_step_134 (by decide) ?_
                refine lv_aload_n hx hb dX3_step_159 rfl (lv_at hl 1 rfl) ?_
                refine lv_aload_n hx hb dX3_step_160 rfl (lv_at hl 1 rfl) ?_
                refine wGet (v := .int ((lws S 2).2.2 7 0)) K hw hiX3 wM_o rfl 9 (by decide) (by decide +kernel) rfl dX3_step_161 ?_
                refine lv_iconst (v := 1) hx hb dX3_step_164 (by decide) ?_
                refine lv_iadd hx hb dX3_step_165 ?_
                refine wPut (ty := .int) K hw hiX3 tyX3 tyX3_ok nmX3 wM_o rfl 9 (by decide) (by decide +kernel) rfl (by decide +kernel) rfl rfl (Nat.le_of_ble_eq_true rfl) dX3_step_166 (wM_sG 0 (by decide) _) (fun H locs hw => ?_)
                exact wRetV K hw dX3_step_169 (by rw [← eg]; show _ = wM E am (if 0 < tld S 2 0 then _ else _); rw [if_pos (Int32.not_le.mp c_126)]; rfl)
          · subst c_100
            refine lv_aload_n hx hb dX3_step_103 rfl (lv_at hl 1 rfl) ?_
            refine lv_aload_n hx hb dX3_step_104 rfl (lv_at hl 1 rfl) ?_
            refine wGet (v := .int (S.2.2 7 0)) K hw hiX3 wM_o rfl 9 (by decide) (by decide +kernel) rfl dX3_step_105 ?_
            refine wPut (ty := .int) K hw hiX3 tyX3 tyX3_ok nmX3 wM_o rfl 12 (by decide) (by decide +kernel) rfl (by decide +kernel) rfl rfl (Nat.le_of_ble_eq_true rfl) dX3_step_108 (wM_sG 3 (by decide) _) (fun H locs hw => ?_)
            refine lv_goto (tgt := 159) hx hb dX3_step_111 (by decide) ?_
            refine lv_aload_n hx hb dX3_step_159 rfl (lv_at hl 1 rfl) ?_
            refine lv_aload_n hx hb dX3_step_160 rfl (lv_at hl 1 rfl) ?_
            refine wGet (v := .int ((sV S 7 3 (S.2.2 7 0)).2.2 7 0)) K hw hiX3 wM_o rfl 9 (by decide) (by decide +kernel) rfl dX3_step_161 ?_
            refine lv_iconst (v := 1) hx hb dX3_step_164 (by decide) ?_
            refine lv_iadd hx hb dX3_step_165 ?_
            refine wPut (ty := .int) K hw hiX3 tyX3 tyX3_ok nmX3 wM_o rfl 9 (by decide) (by decide +kernel) rfl (by decide +kernel) rfl rfl (Nat.le_of_ble_eq_true rfl) dX3_step_166 (wM_sG 0 (by decide) _) (fun H locs hw => ?_)
            exact wRetV K hw dX3_step_169 (by rw [← eg]; rfl)
        · subst c_81
          refine lv_aload_n hx hb dX3_step_84 rfl (lv_at hl 1 rfl) ?_
          refine lv_aload_n hx hb dX3_step_85 rfl (lv_at hl 1 rfl) ?_
          refine lv_iconst (v := 4) hx hb dX3_step_86 (by decide) ?_
          refine lv_iconst (v := 0) hx hb dX3_step_87 (by decide) ?_
          refine wCallV (As := [.int 4, .int 0]) (rest := [.ref (am 0)]) K hw (mX3_told l E am S hI 4 (by decide) 0) (cwV 2 hts gX3_step_X3_told rfl rfl rfl (by decide +kernel) ⟨Nat.le_of_ble_eq_true rfl, Nat.le_of_ble_eq_true rfl⟩) wM_o rfl rfl hl.1 rfl (Nat.le_of_ble_eq_true rfl) dX3_step_88 ⟨Nat.zero_le _, Nat.zero_le _⟩ (fun r_88 w' H locs hr hw => ?_)
          obtain ⟨hq, rfl⟩ := hr
          obtain rfl := hq
          refine wPut (ty := .int) K hw hiX3 tyX3 tyX3_ok nmX3 wM_o rfl 11 (by decide) (by decide +kernel) rfl (by decide +kernel) rfl rfl (Nat.le_of_ble_eq_true rfl) dX3_step_91 (wM_sG 2 (by decide) _) (fun H locs hw => ?_)
          refine lv_goto (tgt := 159) hx hb dX3_step_94 (by decide) ?_
          refine lv_aload_n hx hb dX3_step_159 rfl (lv_at hl 1 rfl) ?_
          refine lv_aload_n hx hb dX3_step_160 rfl (lv_at hl 1 rfl) ?_
          refine wGet (v := .int ((sV S 7 2 (tld S 4 0)).2.2 7 0)) K hw hiX3 wM_o rfl 9 (by decide) (by decide +kernel) rfl dX3_step_161 ?_
          refine lv_iconst (v := 1) hx hb dX3_step_164 (by decide) ?_
          refine lv_iadd hx hb dX3_step_165 ?_
          refine wPut (ty := .int) K hw hiX3 tyX3 tyX3_ok nmX3 wM_o rfl 9 (by decide) (by decide +kernel) rfl (by decide +kernel) rfl rfl (Nat.le_of_ble_eq_true rfl) dX3_step_166 (wM_sG 0 (by decide) _) (fun H locs hw => ?_)
          exact wRetV K hw dX3_step_169 (by rw [← eg]; rfl)
      · subst c_68
        refine lv_aload_n hx hb dX3_step_71 rfl (lv_at hl 1 rfl) ?_
        refine wCallVv (As := []) (rest := []) K hw (mX3_note l E am S hI) (cwV 0 hts gX3_step_X3_note rfl rfl rfl (by decide +kernel) ⟨Nat.le_of_ble_eq_true rfl, Nat.le_of_ble_eq_true rfl⟩) wM_o rfl rfl hl.1 rfl (Nat.le_of_ble_eq_true rfl) dX3_step_72 ⟨Nat.zero_le _, Nat.zero_le _⟩ (fun w' H locs hr hw => ?_)
        subst hr
        refine lv_goto (tgt := 159) hx hb dX3_step_75 (by decide) ?_
        refine lv_aload_n hx hb dX3_step_159 rfl (lv_at hl 1 rfl) ?_
        refine lv_aload_n hx hb dX3_step_160 rfl (lv_at hl 1 rfl) ?_
        refine wGet (v := .int ((nte S).2.2 7 0)) K hw hiX3 wM_o rfl 9 (by decide) (by decide +kernel) rfl dX3_step_161 ?_
        refine lv_iconst (v := 1) hx hb dX3_step_164 (by decide) ?_
        refine lv_iadd hx hb dX3_step_165 ?_
        refine wPut (ty := .int) K hw hiX3 tyX3 tyX3_ok nmX3 wM_o rfl 9 (by decide) (by decide +kernel) rfl (by decide +kernel) rfl rfl (Nat.le_of_ble_eq_true rfl) dX3_step_166 (wM_sG 0 (by decide) _) (fun H locs hw => ?_)
        exact wRetV K hw dX3_step_169 (by rw [← eg]; rfl)
    · subst c_44
      refine lv_aload_n hx hb dX3_step_47 rfl (lv_at hl 1 rfl) ?_
      refine lv_aload_n hx hb dX3_step_48 rfl (lv_at hl 1 rfl) ?_
      refine wGet (v := .int (S.2.2 7 1)) K hw hiX3 wM_o rfl 10 (by decide) (by decide +kernel) rfl dX3_step_49 ?_
      refine lv_aload_n hx hb dX3_step_52 rfl (lv_at hl 1 rfl) ?_
      refine lv_iconst (v := 1) hx hb dX3_step_53 (by decide) ?_
      refine lv_iconst (v := 1) hx hb dX3_step_54 (by decide) ?_
      refine wCallV (As := [.int 1, .int 1]) (rest := [.int (S.2.2 7 1), .ref (am 0)]) K hw (mX3_told l E am S hI 1 (by decide) 1) (cwV 2 hts gX3_step_X3_told rfl rfl rfl (by decide +kernel) ⟨Nat.le_of_ble_eq_true rfl, Nat.le_of_ble_eq_true rfl⟩) wM_o rfl rfl hl.1 rfl (Nat.le_of_ble_eq_true rfl) dX3_step_55 ⟨Nat.zero_le _, Nat.zero_le _⟩ (fun r_55 w' H locs hr hw => ?_)
      obtain ⟨hq, rfl⟩ := hr
      obtain rfl := hq
      refine lv_iadd hx hb dX3_step_58 ?_
      refine wPut (ty := .int) K hw hiX3 tyX3 tyX3_ok nmX3 wM_o rfl 10 (by decide) (by decide +kernel) rfl (by decide +kernel) rfl rfl (Nat.le_of_ble_eq_true rfl) dX3_step_59 (wM_sG 1 (by decide) _) (fun H locs hw => ?_)
      refine lv_goto (tgt := 159) hx hb dX3_step_62 (by decide) ?_
      refine lv_aload_n hx hb dX3_step_159 rfl (lv_at hl 1 rfl) ?_
      refine lv_aload_n hx hb dX3_step_160 rfl (lv_at hl 1 rfl) ?_
      refine wGet (v := .int ((sV S 7 1 ((S.2.2 7 1) + (tld S 1 1))).2.2 7 0)) K hw hiX3 wM_o rfl 9 (by decide) (by decide +kernel) rfl dX3_step_161 ?_
      refine lv_iconst (v := 1) hx hb dX3_step_164 (by decide) ?_
      refine lv_iadd hx hb dX3_step_165 ?_
      refine wPut (ty := .int) K hw hiX3 tyX3 tyX3_ok nmX3 wM_o rfl 9 (by decide) (by decide +kernel) rfl (by decide +kernel) rfl rfl (Nat.le_of_ble_eq_true rfl) dX3_step_166 (wM_sG 0 (by decide) _) (fun H locs hw => ?_)
      exact wRetV K hw dX3_step_169 (by rw [← eg]; rfl)
  · subst c_15
    refine lv_aload_n hx hb dX3_step_18 rfl (lv_at hl 1 rfl) ?_
    refine lv_iconst (v := 1) hx hb dX3_step_19 (by decide) ?_
    refine lv_iconst (v := 0) hx hb dX3_step_20 (by decide) ?_
    refine wCallV (As := [.int 1, .int 0]) (rest := []) K hw (mX3_told l E am S hI 1 (by decide) 0) (cwV 2 hts gX3_step_X3_told rfl rfl rfl (by decide +kernel) ⟨Nat.le_of_ble_eq_true rfl, Nat.le_of_ble_eq_true rfl⟩) wM_o rfl rfl hl.1 rfl (Nat.le_of_ble_eq_true rfl) dX3_step_21 ⟨Nat.zero_le _, Nat.zero_le _⟩ (fun r_21 w' H locs hr hw => ?_)
    obtain ⟨hq, rfl⟩ := hr
    obtain rfl := hq
    refine lv_if_le (tgt := 41) hx hb dX3_step_24 (by decide) (fun c_24 => ?_) (fun c_24 => ?_)
    · refine lv_iload_n hx hb dX3_step_41 rfl (lv_at hl 0 rfl) ?_
      refine lv_bipush (v := 46) hx hb dX3_step_42 (by decide) ?_
      refine lv_icmp_ne (tgt := 65) hx hb dX3_step_44 (by decide) (fun c_44 => ?_) (fun c_44 => ?_)
      · refine lv_iload_n hx hb dX3_step_65 rfl (lv_at hl 0 rfl) ?_
        refine lv_bipush (v := 110) hx hb dX3_step_66 (by decide) ?_
        refine lv_icmp_ne (tgt := 78) hx hb dX3_step_68 (by decide) (fun c_68 => ?_) (fun c_68 => ?_)
        · refine lv_iload_n hx hb dX3_step_78 rfl (lv_at hl 0 rfl) ?_
          refine lv_bipush (v := 116) hx hb dX3_step_79 (by decide) ?_
          refine lv_icmp_ne (tgt := 97) hx hb dX3_step_81 (by decide) (fun c_81 => ?_) (fun c_81 => ?_)
          · refine lv_iload_n hx hb dX3_step_97 rfl (lv_at hl 0 rfl) ?_
            refine lv_bipush (v := 124) hx hb dX3_step_98 (by decide) ?_
            refine lv_icmp_ne (tgt := 114) hx hb dX3_step_100 (by decide) (fun c_100 => ?_) (fun c_100 => ?_)
            · refine lv_iload_n hx hb dX3_step_114 rfl (lv_at hl 0 rfl) ?_
              refine lv_bipush (v := 119) hx hb dX3_step_115 (by decide) ?_
              refine lv_icmp_ne (tgt := 137) hx hb dX3_step_117 (by decide) (fun c_117 => ?_) (fun c_117 => ?_)
              · refine lv_iload_n hx hb dX3_step_137 rfl (lv_at hl 0 rfl) ?_
                refine lv_bipush (v := 114) hx hb dX3_step_138 (by decide) ?_
                refine lv_icmp_eq (tgt := 159) hx hb dX3_step_140 (by decide) (fun c_140 => ?_) (fun c_140 => ?_)
                · refine lv_aload_n hx hb dX3_step_159 rfl (lv_at hl 1 rfl) ?_
                  refine lv_aload_n hx hb dX3_step_160 rfl (lv_at hl 1 rfl) ?_
                  refine wGet (v := .int (S.2.2 7 0)) K hw hiX3 wM_o rfl 9 (by decide) (by decide +kernel) rfl dX3_step_161 ?_
                  refine lv_iconst (v := 1) hx hb dX3_step_164 (by decide) ?_
                  refine lv_iadd hx hb dX3_step_165 ?_
                  refine wPut (ty := .int) K hw hiX3 tyX3 tyX3_ok nmX3 wM_o rfl 9 (by decide) (by decide +kernel) rfl (by decide +kernel) rfl rfl (Nat.le_of_ble_eq_true rfl) dX3_step_166 (wM_sG 0 (by decide) _) (fun H locs hw => ?_)
                  exact wRetV K hw dX3_step_169 (by rw [← eg]; show _ = wM E am (if 0 < tld S 1 0 then _ else _); rw [if_neg (Int32.not_lt.mpr c_24)]; rfl)
                · exact absurd c_140 (by decide)
              · exact absurd c_117 (by decide)
            · exact absurd c_100 (by decide)
          · exact absurd c_81 (by decide)
        · exact absurd c_68 (by decide)
      · exact absurd c_44 (by decide)
    · obtain ⟨q1, hq1, eq1⟩ := hI.cell (by decide) (tld_pos (Int32.not_le.mp c_24))
      refine lv_aload_n hx hb dX3_step_27 rfl (lv_at hl 1 rfl) ?_
      refine lv_iconst (v := 1) hx hb dX3_step_28 (by decide) ?_
      refine wCallVv (As := [.int 1]) (rest := []) K hw (mX3_less l E am S 1 (by decide) q1 hq1 eq1) (cwV 1 hts gX3_step_X3_less rfl rfl rfl (by decide +kernel) ⟨Nat.le_of_ble_eq_true rfl, Nat.le_of_ble_eq_true rfl⟩) wM_o rfl rfl hl.1 rfl (Nat.le_of_ble_eq_true rfl) dX3_step_29 ⟨Nat.zero_le _, Nat.zero_le _⟩ (fun w' H locs hr hw => ?_)
      subst hr
      refine lv_aload_n hx hb dX3_step_32 rfl (lv_at hl 1 rfl) ?_
      refine lv_aload_n hx hb dX3_step_33 rfl (lv_at hl 1 rfl) ?_
      refine wGet (v := .int (S.2.2 7 3)) K hw hiX3 wM_o rfl 12 (by decide) (by decide +kernel) rfl dX3_step_34 ?_
      refine wPut (ty := .int) K hw hiX3 tyX3 tyX3_ok nmX3 wM_o rfl 9 (by decide) (by decide +kernel) rfl (by decide +kernel) rfl rfl (Nat.le_of_ble_eq_true rfl) dX3_step_37 (wM_sG 0 (by decide) _) (fun H locs hw => ?_)
      exact wRetV K hw dX3_step_40 (by rw [← eg]; show _ = wM E am (if 0 < tld S 1 0 then _ else _); rw [if_pos (Int32.not_le.mp c_24)])
set_option maxHeartbeats 4000000 in
set_option maxRecDepth 100000 in
theorem mX3_play (l : Launch) (E : wE) (am : Nat → Nat) (S : SS) (hI : Inv S) (x : Int32) : MCi l E yX3_play wsX3_play { frames := 4, cells := 0, slots := 0, locals := 85 } [.ref (am 0), .int x] (wM E am S) (fun r w => r = (sp_play S x).1 ∧ w = wM E am (sp_play S x).2) := by
  refine wEnterI (cc := cX3_play) (nL := 3) (ret := (some .int)) (own := RX3) (by decide) rfl rfl (Nat.le_of_ble_eq_true rfl) ?_
  intro p e s m below meth c A ls K hl hw
  have hl : lv_has ls 3 [(0, .ref (am 0)), (1, .int x)] := hl
  obtain ⟨hx, hb, -, hml, hown, hts, -, -, -⟩ := id K
  have hiX3 : ∀ w ∈ wsX30, w ∈ wsX3_play := by decide +kernel
  refine lv_iload_n hx hb dX3_play_0 rfl (lv_at hl 1 rfl) ?_
  refine lv_if_ge (tgt := 7) hx hb dX3_play_1 (by decide) (fun c_1 => ?_) (fun c_1 => ?_)
  · refine lv_iload_n hx hb dX3_play_7 rfl (lv_at hl 1 rfl) ?_
    refine lv_sipush (v := 200) hx hb dX3_play_8 (by decide) ?_
    refine lv_icmp_le (tgt := 17) hx hb dX3_play_11 (by decide) (fun c_11 => ?_) (fun c_11 => ?_)
    · obtain ⟨n, hn, rfl⟩ := le_of_ix (y := 200) (n := 200) (by omega) rfl (Int32.not_lt.mpr c_1) c_11
      have hsp : sp_play S (nI n) = (nI (ply n S).1, (ply n S).2) := by rw [sp_play, if_pos c_1, if_pos c_11, kN_nI (by omega)]
      have loop : ∀ (d i : Nat) (S1 : SS), i + d = n → Inv S1 → i + (ply d S1).1 = (ply n S).1 → (ply d S1).2 = (ply n S).2 → ∀ (H : Heap) (locs : List Loc) (ls : Array Slot), lv_has ls 3 [(2, .int (nI i)), (0, .ref (am 0)), (1, .int (nI n))] → wW E A s (wM E am S1) H locs → W p l e ({ frames := 4, cells := 0, slots := 0, locals := 85 } : Room) s m ([.ref (am 0), .int (nI n)] : List Value).toArray below meth c H locs 0 0 (MQ below (va_Qi (fun r w => r = (sp_play S (nI n)).1 ∧ w = wM E am (sp_play S (nI n)).2) (wAft E A) A) ([.ref (am 0), .int (nI n)] : List Value).toArray s 0 0 A) (F0 m 19 ls []) := by
        intro d
        induction d with
        | zero =>
          intro i S1 hid hI1 hr1 hr2 H locs ls hl hw
          obtain rfl : i = n := by omega
          refine lv_iload_n hx hb dX3_play_19 rfl (lv_at hl 0 rfl) ?_
          refine lv_iload_n hx hb dX3_play_20 rfl (lv_at hl 2 rfl) ?_
          refine lv_icmp_ge (tgt := 42) hx hb dX3_play_21 (by decide) (fun c_21 => ?_) (fun c_21 => ?_)
          · refine lv_iload_n hx hb dX3_play_42 rfl (lv_at hl 0 rfl) ?_
            exact wRetI K hw dX3_play_43 (pstM (by rw [hsp, ← hr1, ← hr2]; rfl))
          · exact absurd (nI_le (Nat.le_refl i) (by omega)) c_21
        | succ d ih =>
          intro i S1 hid hI1 hr1 hr2 H locs ls hl hw
          rw [ply] at hr1 hr2
          refine lv_iload_n hx hb dX3_play_19 rfl (lv_at hl 0 rfl) ?_
          refine lv_iload_n hx hb dX3_play_20 rfl (lv_at hl 2 rfl) ?_
          refine lv_icmp_ge (tgt := 42) hx hb dX3_play_21 (by decide) (fun c_21 => ?_) (fun c_21 => ?_)
          · exact absurd c_21 (nI_ge (by omega) (by omega))
          · refine lv_aload_n hx hb dX3_play_24 rfl (lv_at hl 1 rfl) ?_
            refine lv_iconst (v := 0) hx hb dX3_play_25 (by decide) ?_
            refine wCallV (As := [.int 0]) (rest := []) K hw (mX3_has l E am S1 hI1 0 (by decide)) (cwV 1 hts gX3_play_X3_has rfl rfl rfl (by decide +kernel) ⟨Nat.le_of_ble_eq_true rfl, Nat.le_of_ble_eq_true rfl⟩) wM_o rfl rfl hl.1 rfl (Nat.le_of_ble_eq_true rfl) dX3_play_26 ⟨Nat.zero_le _, Nat.zero_le _⟩ (fun r_26 w' H locs hr hw => ?_)
            obtain ⟨hr26, rfl⟩ := hr
            refine lv_if_eq (tgt := 42) hx hb dX3_play_29 (by decide) (fun c_29 => ?_) (fun c_29 => ?_)
            · have hc := bI_f hr26 c_29
              rw [if_neg hc] at hr1 hr2
              refine lv_iload_n hx hb dX3_play_42 rfl (lv_at hl 0 rfl) ?_
              exact wRetI K hw dX3_play_43 (pstM (by rw [hsp, ← hr1, ← hr2]; rfl))
            · have hc := bI_t hr26 c_29
              refine lv_aload_n hx hb dX3_play_32 rfl (lv_at hl 1 rfl) ?_
              refine wCallVv (As := []) (rest := []) K hw (mX3_step l E am S1 hI1 hc) (cwV 0 hts gX3_play_X3_step rfl rfl rfl (by decide +kernel) ⟨Nat.le_of_ble_eq_true rfl, Nat.le_of_ble_eq_true rfl⟩) wM_o rfl rfl hl.1 rfl (Nat.le_of_ble_eq_true rfl) dX3_play_33 ⟨Nat.zero_le _, Nat.zero_le _⟩ (fun w' H locs hr hw => ?_)
              subst hr
              refine lv_iinc (v := nI (i + 1)) (lv' := [(2, .int (nI (i + 1))), (0, .ref (am 0)), (1, .int (nI n))]) hx hb dX3_play_36 hl (k := 0) rfl (nI_1 i) (by decide) rfl (fun ls hl => ?_)
              refine lv_goto (tgt := 19) hx hb dX3_play_39 (by decide) ?_
              exact ih (i + 1) _ (by omega) (hI1.onstep hc _) (by rw [if_pos hc] at hr1; rw [← hr1]; omega) (by rw [if_pos hc] at hr2; exact hr2) H locs ls hl hw
      refine lv_iconst (v := 0) hx hb dX3_play_17 (by decide) ?_
      refine lv_istore_n (lv' := [(2, .int 0), (0, .ref (am 0)), (1, .int (nI n))]) hx hb dX3_play_18 rfl hl (by decide) rfl (fun ls hl => ?_)
      exact loop n 0 S (by omega) hI (by omega) rfl _ _ _ (by rw [nI_0]; exact hl) hw
    · refine lv_ldc (v := (-1000003)) hx hb hown (hts (.constant RX3 53 (-1000003)) (by decide +kernel)) dX3_play_14 ?_
      exact wRetI K hw dX3_play_16 (pstM (by rw [sp_play, if_pos c_1, if_neg c_11]))
  · refine lv_ldc (v := (-1000004)) hx hb hown (hts (.constant RX3 54 (-1000004)) (by decide +kernel)) dX3_play_4 ?_
    exact wRetI K hw dX3_play_6 (pstM (by rw [sp_play, if_neg c_1]))
