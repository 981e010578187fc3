/-! loops of the class: a lane's renew, a sheet's renew, layInto -/
theorem lyN_0 {S : SS} {k a f : Nat} : lyN S k a f 0 = S.2.1 := by
  funext x y
  unfold lyN
  by_cases h : x = k
  · subst h
    rw [if_pos rfl]
    exact if_neg (by omega)
  · rw [if_neg h]
theorem lyN_s {S : SS} {k a f i : Nat} : up2 (lyN S k a f i) k (16 * a + i) (S.1 k (f + i)) = lyN S k a f (i + 1) := by
  funext x y
  unfold lyN up2
  by_cases h : x = k
  · subst h
    simp only [if_true, upd]
    by_cases h2 : y = 16 * a + i
    · subst h2
      rw [if_pos rfl, if_pos ⟨by omega, by omega⟩, show 16 * a + i - 16 * a = i by omega]
    · rw [if_neg h2]
      by_cases h3 : 16 * a ≤ y ∧ y < 16 * a + i
      · rw [if_pos h3, if_pos ⟨h3.1, by omega⟩]
      · rw [if_neg h3, if_neg (by omega)]
  · simp only [if_neg h]
theorem min_nI {a b : Nat} (ha : a < 2 ^ 31) (hb : b < 2 ^ 31) : (if nI b < nI a then nI b else nI a) = nI (min a b) := by
  by_cases h : b < a
  · rw [if_pos (nI_lt h ha), Nat.min_eq_right (by omega)]
  · rw [if_neg (nI_nlt (by omega) hb), Nat.min_eq_left (by omega)]
set_option maxHeartbeats 4000000 in
set_option maxRecDepth 100000 in
theorem mX0_renew (l : Launch) (E : wE) (ad : Nat → Nat) (S : SS) (k : Nat) (hk : k < 5) (n : Nat) (hn : n ≤ 60) : MCv l E yX0_renew wsX0_renew { frames := 0, cells := 0, slots := 0, locals := 0 } [.ref (ad (2 + 4 * k)), .int (nI n)] (wB E ad S) (fun w => w = wB E ad (zr S.1 k n, S.2.1, up2 (up2 S.2.2 0 k 1) 1 k (nI n))) := by
  refine wEnterV (cc := cX0_renew) (nL := 3) (ret := none) (own := RX0) (by decide) rfl rfl (Nat.le_of_ble_eq_true rfl) ?_
  intro p e s m below meth c A ls K hl hw hin
  have hl : lv_has ls 3 [(0, .ref (ad (2 + 4 * k))), (1, .int (nI n))] := hl
  obtain ⟨hx, hb, -, hml, hown, hts, -, -, -⟩ := id K
  have hiX0 : ∀ w ∈ wsX00, w ∈ wsX0_renew := by decide +kernel
  have loop : ∀ (d i : Nat), i + d = n → ∀ (H : Heap) (locs : List Loc) (ls : Array Slot), lv_has ls 3 [(2, .int (nI i)), (0, .ref (ad (2 + 4 * k))), (1, .int (nI n))] → wW E A s (wB E ad (zr S.1 k i, S.2.1, S.2.2)) H locs → W p l e ({ frames := 0, cells := 0, slots := 0, locals := 0 } : Room) s m ([.ref (ad (2 + 4 * k)), .int (nI n)] : List Value).toArray below meth c H locs 0 0 (MQ below (va_Qv (fun w => w = wB E ad (zr S.1 k n, S.2.1, up2 (up2 S.2.2 0 k 1) 1 k (nI n))) (wAft E A) A) ([.ref (ad (2 + 4 * k)), .int (nI n)] : List Value).toArray s 0 0 A) (F0 m 2 ls []) := by
    intro d
    induction d with
    | zero =>
      intro i hid H locs ls hl hw
      obtain rfl : i = n := by omega
      refine lv_iload_n hx hb dX0_renew_2 rfl (lv_at hl 0 rfl) ?_
      refine lv_iload_n hx hb dX0_renew_3 rfl (lv_at hl 2 rfl) ?_
      refine lv_icmp_ge (tgt := 20) hx hb dX0_renew_4 (by decide) (fun c_4 => ?_) (fun c_4 => ?_)
      · refine lv_aload_n hx hb dX0_renew_20 rfl (lv_at hl 1 rfl) ?_
        refine lv_iload_n hx hb dX0_renew_21 rfl (lv_at hl 2 rfl) ?_
        refine wPut (ty := .int) K hw hiX0 tyX0 tyX0_ok nmX0 (wB_lane hk) rfl 2 (by decide) (by decide +kernel) rfl (by decide +kernel) rfl rfl (Nat.le_of_ble_eq_true rfl) dX0_renew_22 (wB_sLen hk _) (fun H locs hw => ?_)
        exact wRetV K hw dX0_renew_25 rfl
      · exact absurd (nI_le (Nat.le_refl i) (by omega)) c_4
    | succ d ih =>
      intro i hid H locs ls hl hw
      refine lv_iload_n hx hb dX0_renew_2 rfl (lv_at hl 0 rfl) ?_
      refine lv_iload_n hx hb dX0_renew_3 rfl (lv_at hl 2 rfl) ?_
      refine lv_icmp_ge (tgt := 20) hx hb dX0_renew_4 (by decide) (fun c_4 => ?_) (fun c_4 => ?_)
      · exact absurd c_4 (nI_ge (by omega) (by omega))
      · refine lv_aload_n hx hb dX0_renew_7 rfl (lv_at hl 1 rfl) ?_
        refine wGet (v := .ref (ad (3 + 4 * k))) K hw hiX0 (wB_lane hk) rfl 0 (by decide) (by decide +kernel) rfl dX0_renew_8 ?_
        refine lv_iload_n hx hb dX0_renew_11 rfl (lv_at hl 0 rfl) ?_
        refine lv_iconst (v := 0) hx hb dX0_renew_12 (by decide) ?_
        refine wIast K hw (wB_cells hk) (vp_in_nI (by omega) (by omega)) dX0_renew_13 (wB_sCellI hk (nI_clamp (by omega)) _) (fun H locs hw => ?_)
        refine lv_iinc (v := nI (i + 1)) (lv' := [(2, .int (nI (i + 1))), (0, .ref (ad (2 + 4 * k))), (1, .int (nI n))]) hx hb dX0_renew_14 hl (k := 0) rfl (nI_1 i) (by decide) rfl (fun ls hl => ?_)
        refine lv_goto (tgt := 2) hx hb dX0_renew_17 (by decide) ?_
        exact ih (i + 1) (by omega) H locs ls hl (hw.to (by rw [sC, zr_s]))
  refine lv_iconst (v := 0) hx hb dX0_renew_0 (by decide) ?_
  refine lv_istore_n (lv' := [(2, .int 0), (0, .ref (ad (2 + 4 * k))), (1, .int (nI n))]) hx hb dX0_renew_1 rfl hl (by decide) rfl (fun ls hl => ?_)
  exact loop n 0 (by omega) _ _ _ (by rw [nI_0]; exact hl) (hw.to (by rw [zr_0]))
set_option maxHeartbeats 4000000 in
set_option maxRecDepth 100000 in
theorem mX1_renew (l : Launch) (E : wE) (ad : Nat → Nat) (S : SS) (k : Nat) (hk : k < 5) (r q : Int32) : MCv l E yX1_renew wsX1_renew { frames := 0, cells := 0, slots := 0, locals := 0 } [.ref (ad (4 + 4 * k)), .int r, .int q] (wB E ad S) (fun w => w = wB E ad (S.1, zr S.2.1 k 256, up2 (up2 (up2 S.2.2 2 k 1) 3 k r) 4 k q)) := by
  refine wEnterV (cc := cX1_renew) (nL := 4) (ret := none) (own := RX1) (by decide) rfl rfl (Nat.le_of_ble_eq_true rfl) ?_
  intro p e s m below meth c A ls K hl hw hin
  have hl : lv_has ls 4 [(0, .ref (ad (4 + 4 * k))), (1, .int r), (2, .int q)] := hl
  obtain ⟨hx, hb, -, hml, hown, hts, -, -, -⟩ := id K
  have hiX1 : ∀ w ∈ wsX10, w ∈ wsX1_renew := by decide +kernel
  have loop : ∀ (d i : Nat), i + d = 256 → ∀ (H : Heap) (locs : List Loc) (ls : Array Slot), lv_has ls 4 [(3, .int (nI i)), (0, .ref (ad (4 + 4 * k))), (1, .int r), (2, .int q)] → wW E A s (wB E ad (S.1, zr S.2.1 k i, S.2.2)) H locs → W p l e ({ frames := 0, cells := 0, slots := 0, locals := 0 } : Room) s m ([.ref (ad (4 + 4 * k)), .int r, .int q] : List Value).toArray below meth c H locs 0 0 (MQ below (va_Qv (fun w => w = wB E ad (S.1, zr S.2.1 k 256, up2 (up2 (up2 S.2.2 2 k 1) 3 k r) 4 k q)) (wAft E A) A) ([.ref (ad (4 + 4 * k)), .int r, .int q] : List Value).toArray s 0 0 A) (F0 m 2 ls []) := by
    intro d
    induction d with
    | zero =>
      intro i hid H locs ls hl hw
      obtain rfl : i = 256 := by omega
      refine lv_iload_n hx hb dX1_renew_2 rfl (lv_at hl 0 rfl) ?_
      refine lv_aload_n hx hb dX1_renew_3 rfl (lv_at hl 1 rfl) ?_
      refine wGet (v := .ref (ad (5 + 4 * k))) K hw hiX1 (wB_sheet hk) rfl 0 (by decide) (by decide +kernel) rfl dX1_renew_4 ?_
      refine wAlen (v := nI 256) K hw (wB_nums hk) (by decide) dX1_renew_7 ?_
      refine lv_icmp_ge (tgt := 24) hx hb dX1_renew_8 (by decide) (fun c_8 => ?_) (fun c_8 => ?_)
      · refine lv_aload_n hx hb dX1_renew_24 rfl (lv_at hl 1 rfl) ?_
        refine lv_iload_n hx hb dX1_renew_25 rfl (lv_at hl 2 rfl) ?_
        refine wPut (ty := .int) K hw hiX1 tyX1 tyX1_ok nmX1 (wB_sheet hk) rfl 1 (by decide) (by decide +kernel) rfl (by decide +kernel) rfl rfl (Nat.le_of_ble_eq_true rfl) dX1_renew_26 (wB_sRows hk _) (fun H locs hw => ?_)
        refine lv_aload_n hx hb dX1_renew_29 rfl (lv_at hl 1 rfl) ?_
        refine lv_iload_n hx hb dX1_renew_30 rfl (lv_at hl 3 rfl) ?_
        refine wPut (ty := .int) K hw hiX1 tyX1 tyX1_ok nmX1 (wB_sheet hk) rfl 2 (by decide) (by decide +kernel) rfl (by decide +kernel) rfl rfl (Nat.le_of_ble_eq_true rfl) dX1_renew_31 (wB_sCols hk _) (fun H locs hw => ?_)
        exact wRetV K hw dX1_renew_34 rfl
      · exact absurd (nI_le (Nat.le_refl 256) (by omega)) c_8
    | succ d ih =>
      intro i hid H locs ls hl hw
      refine lv_iload_n hx hb dX1_renew_2 rfl (lv_at hl 0 rfl) ?_
      refine lv_aload_n hx hb dX1_renew_3 rfl (lv_at hl 1 rfl) ?_
      refine wGet (v := .ref (ad (5 + 4 * k))) K hw hiX1 (wB_sheet hk) rfl 0 (by decide) (by decide +kernel) rfl dX1_renew_4 ?_
      refine wAlen (v := nI 256) K hw (wB_nums hk) (by decide) dX1_renew_7 ?_
      refine lv_icmp_ge (tgt := 24) hx hb dX1_renew_8 (by decide) (fun c_8 => ?_) (fun c_8 => ?_)
      · exact absurd c_8 (nI_ge (by omega) (by omega))
      · refine lv_aload_n hx hb dX1_renew_11 rfl (lv_at hl 1 rfl) ?_
        refine wGet (v := .ref (ad (5 + 4 * k))) K hw hiX1 (wB_sheet hk) rfl 0 (by decide) (by decide +kernel) rfl dX1_renew_12 ?_
        refine lv_iload_n hx hb dX1_renew_15 rfl (lv_at hl 0 rfl) ?_
        refine lv_iconst (v := 0) hx hb dX1_renew_16 (by decide) ?_
        refine wIast K hw (wB_nums hk) (vp_in_nI (by omega) (by omega)) dX1_renew_17 (wB_sNumI hk (nI_clamp (by omega)) _) (fun H locs hw => ?_)
        refine lv_iinc (v := nI (i + 1)) (lv' := [(3, .int (nI (i + 1))), (0, .ref (ad (4 + 4 * k))), (1, .int r), (2, .int q)]) hx hb dX1_renew_18 hl (k := 0) rfl (nI_1 i) (by decide) rfl (fun ls hl => ?_)
        refine lv_goto (tgt := 2) hx hb dX1_renew_21 (by decide) ?_
        exact ih (i + 1) (by omega) H locs ls hl (hw.to (by rw [sN, zr_s]))
  refine lv_iconst (v := 0) hx hb dX1_renew_0 (by decide) ?_
  refine lv_istore_n (lv' := [(3, .int 0), (0, .ref (ad (4 + 4 * k))), (1, .int r), (2, .int q)]) hx hb dX1_renew_1 rfl hl (by decide) rfl (fun ls hl => ?_)
  exact loop 256 0 (by omega) _ _ _ (by rw [nI_0]; exact hl) (hw.to (by rw [zr_0]))
set_option maxHeartbeats 4000000 in
set_option maxRecDepth 100000 in
theorem mX0_layInto (l : Launch) (E : wE) (ad : Nat → Nat) (S : SS) (k : Nat) (hk : k < 5) (hI : Inv S) (hon : ¬ S.2.2 0 k = 0) (a f n : Nat) (ha : a < 16) (hn : n ≤ 60) (en : S.2.2 1 k = nI n) (hf : f ≤ n) : MCi l E yX0_layInto wsX0_layInto { frames := 2, cells := 0, slots := 0, locals := 44 } [.ref (ad (2 + 4 * k)), .int (nI a), .int (nI f)] (wB E ad S) (fun r w => r = nI (lyM S k f) ∧ w = wB E ad (S.1, lyN S k a f (lyM S k f), S.2.2)) := by
  refine wEnterI (cc := cX0_layInto) (nL := 5) (ret := (some .int)) (own := RX0) (by decide) rfl rfl (Nat.le_of_ble_eq_true rfl) ?_
  intro p e s m below meth c A ls K hl hw
  have hl : lv_has ls 5 [(0, .ref (ad (2 + 4 * k))), (1, .int (nI a)), (2, .int (nI f))] := hl
  obtain ⟨hx, hb, -, hml, hown, hts, -, -, -⟩ := id K
  have hiX0 : ∀ w ∈ wsX00, w ∈ wsX0_layInto := by decide +kernel
  have hiX1 : ∀ w ∈ wsX10, w ∈ wsX0_layInto := by decide +kernel
  obtain ⟨q, hq, eq⟩ := (hI.1 k hk).2.2.2.2
  have hM : lyM S k f = min (n - f) q := by rw [lyM, en, eq, nI_clamp (by omega), nI_clamp (by omega)]
  have hMq : lyM S k f ≤ q := by rw [hM]; exact Nat.min_le_right _ _
  have hMn : lyM S k f ≤ n - f := by rw [hM]; exact Nat.min_le_left _ _
  have hln : ln S k = nI n := by rw [ln_on hon, en]
  have loop : ∀ (d i : Nat), i + d = lyM S k f → ∀ (H : Heap) (locs : List Loc) (ls : Array Slot), lv_has ls 5 [(4, .int (nI i)), (3, .int (nI (lyM S k f))), (0, .ref (ad (2 + 4 * k))), (1, .int (nI a)), (2, .int (nI f))] → wW E A s (wB E ad (S.1, lyN S k a f i, S.2.2)) H locs → W p l e ({ frames := 2, cells := 0, slots := 0, locals := 44 } : Room) s m ([.ref (ad (2 + 4 * k)), .int (nI a), .int (nI f)] : List Value).toArray below meth c H locs 0 0 (MQ below (va_Qi (fun r w => r = nI (lyM S k f) ∧ w = wB E ad (S.1, lyN S k a f (lyM S k f), S.2.2)) (wAft E A) A) ([.ref (ad (2 + 4 * k)), .int (nI a), .int (nI f)] : List Value).toArray s 0 0 A) (F0 m 20 ls []) := by
    intro d
    induction d with
    | zero =>
      intro i hid H locs ls hl hw
      refine lv_iload hx hb dX0_layInto_20 (lv_at hl 0 rfl) ?_
      refine lv_iload_n hx hb dX0_layInto_22 rfl (lv_at hl 1 rfl) ?_
      refine lv_icmp_ge (tgt := 51) hx hb dX0_layInto_23 (by decide) (fun c_23 => ?_) (fun c_23 => ?_)
      · refine lv_iload_n hx hb dX0_layInto_51 rfl (lv_at hl 1 rfl) ?_
        exact wRetI K hw dX0_layInto_52 ⟨rfl, by rw [show lyM S k f = i by omega]⟩
      · exact absurd (nI_le (Nat.le_of_eq (by omega)) (by omega)) c_23
    | succ d ih =>
      intro i hid H locs ls hl hw
      refine lv_iload hx hb dX0_layInto_20 (lv_at hl 0 rfl) ?_
      refine lv_iload_n hx hb dX0_layInto_22 rfl (lv_at hl 1 rfl) ?_
      refine lv_icmp_ge (tgt := 51) hx hb dX0_layInto_23 (by decide) (fun c_23 => ?_) (fun c_23 => ?_)
      · exact absurd c_23 (nI_ge (by omega) (by omega))
      · refine lv_aload_n hx hb dX0_layInto_26 rfl (lv_at hl 2 rfl) ?_
        refine wGet (v := .ref (ad (4 + 4 * k))) K hw hiX0 (wB_lane hk) rfl 1 (by decide) (by decide +kernel) rfl dX0_layInto_27 ?_
        refine lv_iload_n hx hb dX0_layInto_30 rfl (lv_at hl 3 rfl) ?_
        refine lv_iload hx hb dX0_layInto_31 (lv_at hl 0 rfl) ?_
        refine lv_aload_n hx hb dX0_layInto_33 rfl (lv_at hl 2 rfl) ?_
        refine wGet (v := .ref (ad (3 + 4 * k))) K hw hiX0 (wB_lane hk) rfl 0 (by decide) (by decide +kernel) rfl dX0_layInto_34 ?_
        refine lv_iload_n hx hb dX0_layInto_37 rfl (lv_at hl 4 rfl) ?_
        refine lv_iload hx hb dX0_layInto_38 (lv_at hl 0 rfl) ?_
        refine lv_iadd hx hb dX0_layInto_40 ?_
        rw [show ((nI f) + (nI i) : Int32) = nI (f + i) from nI_add f i]
        refine wIald (v := S.1 k (f + i)) K hw (wB_cells hk) (vp_in_nI (by omega) (by omega)) (by rw [nI_clamp (by omega)]) dX0_layInto_41 ?_
        refine wCallVv (As := [.int (nI a), .int (nI i), .int (S.1 k (f + i))]) (rest := []) K hw (mX1_write l E ad (S.1, lyN S k a f i, S.2.2) k hk a i ha (by omega) (S.1 k (f + i))) (cwV 3 hts gX0_layInto_X1_write rfl rfl rfl (by decide +kernel) ⟨Nat.le_of_ble_eq_true rfl, Nat.le_of_ble_eq_true rfl⟩) (wB_sheet hk) rfl rfl hl.1 rfl (Nat.le_of_ble_eq_true rfl) dX0_layInto_42 ⟨Nat.zero_le _, Nat.zero_le _⟩ (fun w' H locs hr hw => ?_)
        subst hr
        refine lv_iinc (v := nI (i + 1)) (lv' := [(4, .int (nI (i + 1))), (3, .int (nI (lyM S k f))), (0, .ref (ad (2 + 4 * k))), (1, .int (nI a)), (2, .int (nI f))]) hx hb dX0_layInto_45 hl (k := 0) rfl (nI_1 i) (by decide) rfl (fun ls hl => ?_)
        refine lv_goto (tgt := 20) hx hb dX0_layInto_48 (by decide) ?_
        exact ih (i + 1) (by omega) H locs ls hl (hw.to (by rw [sN, lyN_s]))
  refine lv_aload_n hx hb dX0_layInto_0 rfl (lv_at hl 0 rfl) ?_
  refine wGet (v := .int (ln S k)) K hw hiX0 (wB_lane hk) rfl 2 (by decide) (by decide +kernel) rfl dX0_layInto_1 ?_
  refine lv_iload_n hx hb dX0_layInto_4 rfl (lv_at hl 2 rfl) ?_
  refine lv_isub hx hb dX0_layInto_5 ?_
  rw [show ((ln S k) - (nI f) : Int32) = nI (n - f) from by rw [hln]; exact pk_sub hf]
  refine lv_aload_n hx hb dX0_layInto_6 rfl (lv_at hl 0 rfl) ?_
  refine wGet (v := .ref (ad (4 + 4 * k))) K hw hiX0 (wB_lane hk) rfl 1 (by decide) (by decide +kernel) rfl dX0_layInto_7 ?_
  refine wGet (v := .int (S.2.2 4 k)) K hw hiX1 (wB_sheet hk) rfl 2 (by decide) (by decide +kernel) rfl dX0_layInto_10 ?_
  refine va_mmin hx hb (hml.trans hl.1.symm) hown (hts (.methodLink RX0 37 Lib.Math.min.name) (by decide +kernel)) (hts (.static Lib.Math.min.name) (by decide +kernel)) (hts (.initialized "java/lang/Math") (by decide +kernel)) (hts (.code Lib.Math.min.name Lib.Math.min.code 2 (some .int)) (by decide +kernel)) (Nat.le_of_ble_eq_true rfl) (Nat.le_of_ble_eq_true rfl) (Nat.le_of_ble_eq_true rfl) (Nat.le_of_ble_eq_true rfl) dX0_layInto_13 ?_
  refine lv_topi (fun ld eld => ?_)
  have eld2 : ld = nI (lyM S k f) := by rw [eld, eq, min_nI (by omega) (by omega), hM]
  subst eld2
  refine lv_istore_n (lv' := [(3, .int (nI (lyM S k f))), (0, .ref (ad (2 + 4 * k))), (1, .int (nI a)), (2, .int (nI f))]) hx hb dX0_layInto_16 rfl hl (by decide) rfl (fun ls hl => ?_)
  refine lv_iconst (v := 0) hx hb dX0_layInto_17 (by decide) ?_
  refine lv_istore (lv' := [(4, .int 0), (3, .int (nI (lyM S k f))), (0, .ref (ad (2 + 4 * k))), (1, .int (nI a)), (2, .int (nI f))]) hx hb dX0_layInto_18 hl (by decide) rfl (fun ls hl => ?_)
  exact loop (lyM S k f) 0 (by omega) _ _ _ (by rw [nI_0]; exact hl) (hw.to (by rw [lyN_0]))
