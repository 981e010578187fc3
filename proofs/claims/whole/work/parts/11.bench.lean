/-! the class's own methods but for playing -/
theorem pst {E : wE} {ad : Nat → Nat} {x : Int32 × SS} {r : Int32} {S' : SS} (e : x = (r, S')) : r = x.1 ∧ wB E ad S' = wB E ad x.2 := by rw [e]; exact ⟨rfl, rfl⟩
theorem sC_self {S : SS} {k i : Nat} {v : Int32} : (sC S k i v).1 k i = v := by simp [sC, up2, upd]
theorem le_of_ix {x y : Int32} {n : Nat} (hn : n < 2 ^ 31) (e : y = nI n) (h0 : ¬ x < 0) (h1 : x ≤ y) : ∃ j : Nat, j ≤ n ∧ x = nI j := by
  obtain ⟨j, hj, ej⟩ := nI_of h0
  refine ⟨j, ?_, ej⟩
  rw [e, ej] at h1
  exact (nI_leI hj hn).mp h1
theorem rng60 {x : Int32} (h0 : 0 ≤ x) (h1 : x ≤ 60) : ∃ j : Nat, j ≤ 60 ∧ x = nI j := le_of_ix (y := 60) (by omega) rfl (Int32.not_lt.mpr h0) h1
theorem way4 {w : Int32} (h : ¬ w < 0 ∧ ¬ 4 ≤ w) : ∃ j : Nat, j < 4 ∧ w = nI j := lt_of_ix (y := 4) (N := 4) (n := 4) (by omega) (by omega) rfl h.1 h.2
set_option maxHeartbeats 4000000 in
set_option maxRecDepth 100000 in
theorem mX2_stored (l : Launch) (E : wE) (ws : va_W) (k : Nat) (hk : k < 5) (v : Int64) : MCi l E yX2_stored wsX2_stored { frames := 1, cells := 0, slots := 0, locals := 23 } [.int (nI k), .long v] (ws) (fun r w => r = sto k v ∧ w = ws) := by
  refine wEnterI (cc := cX2_stored) (nL := 3) (ret := (some .int)) (own := RX2) (by decide) rfl rfl (Nat.le_of_ble_eq_true rfl) ?_
  intro p e s m below meth c A ls K hl hw
  have hl : lv_has ls 3 [(0, .int (nI k)), (1, .long v)] := hl
  obtain ⟨hx, hb, -, hml, hown, hts, -, -, -⟩ := id K
  refine lv_iload_n hx hb dX2_stored_0 rfl (lv_at hl 0 rfl) ?_
  rcases (show k = 0 ∨ k = 1 ∨ k = 2 ∨ k = 3 ∨ k = 4 by omega) with rfl | rfl | rfl | rfl | rfl
  · refine lv_tableIn (off := 35) (tgt := 36) hx hb dX2_stored_1 (by decide +kernel) (by decide +kernel) (by decide +kernel) (by decide) ?_
    refine lv_lload_n hx hb dX2_stored_36 rfl (lv_at hl 1 rfl) ?_
    refine lv_ldc2 (v := 65535) hx hb hown (hts (.constantLong RX2 119 65535) (by decide +kernel)) dX2_stored_37 ?_
    refine lv_land hx hb dX2_stored_40 ?_
    refine lv_l2i (v := (v &&& 65535).toInt32) hx hb dX2_stored_41 rfl ?_
    exact wRetI K hw dX2_stored_42 ⟨rfl, rfl⟩
  · refine lv_tableIn (off := 42) (tgt := 43) hx hb dX2_stored_1 (by decide +kernel) (by decide +kernel) (by decide +kernel) (by decide) ?_
    refine lv_lload_n hx hb dX2_stored_43 rfl (lv_at hl 1 rfl) ?_
    refine lv_l2i (v := v.toInt32) hx hb dX2_stored_44 rfl ?_
    refine lv_i2s (v := (v.toInt32).toInt16.toInt32) hx hb dX2_stored_45 rfl ?_
    exact wRetI K hw dX2_stored_46 ⟨rfl, rfl⟩
  · refine lv_tableIn (off := 55) (tgt := 56) hx hb dX2_stored_1 (by decide +kernel) (by decide +kernel) (by decide +kernel) (by decide) ?_
    refine lv_ldc2 (v := (-8000)) hx hb hown (hts (.constantLong RX2 121 (-8000)) (by decide +kernel)) dX2_stored_56 ?_
    refine lv_ldc2 (v := 8000) hx hb hown (hts (.constantLong RX2 123 8000) (by decide +kernel)) dX2_stored_59 ?_
    refine lv_lload_n hx hb dX2_stored_62 rfl (lv_at hl 1 rfl) ?_
    refine va_mmin_long hx hb (hml.trans hl.1.symm) hown (hts (.methodLink RX2 125 Lib.MathLoose.min_long.x) (by decide +kernel)) (hts (.static Lib.MathLoose.min_long.x) (by decide +kernel)) (hts (.initialized "java/lang/Math") (by decide +kernel)) (hts (.code Lib.MathLoose.min_long.x Lib.MathLoose.min_long.code 4 (some .long)) (by decide +kernel)) (Nat.le_of_ble_eq_true rfl) (Nat.le_of_ble_eq_true rfl) (Nat.le_of_ble_eq_true rfl) (Nat.le_of_ble_eq_true rfl) dX2_stored_63 ?_
    refine va_mmax_long hx hb (hml.trans hl.1.symm) hown (hts (.methodLink RX2 131 Lib.MathLoose.max_long.x) (by decide +kernel)) (hts (.static Lib.MathLoose.max_long.x) (by decide +kernel)) (hts (.initialized "java/lang/Math") (by decide +kernel)) (hts (.code Lib.MathLoose.max_long.x Lib.MathLoose.max_long.code 4 (some .long)) (by decide +kernel)) (Nat.le_of_ble_eq_true rfl) (Nat.le_of_ble_eq_true rfl) (Nat.le_of_ble_eq_true rfl) (Nat.le_of_ble_eq_true rfl) dX2_stored_66 ?_
    refine lv_l2i (v := (if (if v < 8000 then v else 8000) < (-8000) then (-8000) else (if v < 8000 then v else 8000)).toInt32) hx hb dX2_stored_69 rfl ?_
    exact wRetI K hw dX2_stored_70 ⟨rfl, rfl⟩
  · refine lv_tableIn (off := 50) (tgt := 51) hx hb dX2_stored_1 (by decide +kernel) (by decide +kernel) (by decide +kernel) (by decide) ?_
    refine lv_lload_n hx hb dX2_stored_51 rfl (lv_at hl 1 rfl) ?_
    refine lv_lconst (v := 1) hx hb dX2_stored_52 (by decide) ?_
    refine lv_land hx hb dX2_stored_53 ?_
    refine lv_l2i (v := (v &&& 1).toInt32) hx hb dX2_stored_54 rfl ?_
    exact wRetI K hw dX2_stored_55 ⟨rfl, rfl⟩
  · refine lv_tableIn (off := 46) (tgt := 47) hx hb dX2_stored_1 (by decide +kernel) (by decide +kernel) (by decide +kernel) (by decide) ?_
    refine lv_lload_n hx hb dX2_stored_47 rfl (lv_at hl 1 rfl) ?_
    refine lv_l2i (v := v.toInt32) hx hb dX2_stored_48 rfl ?_
    refine lv_i2b (v := (v.toInt32).toInt8.toInt32) hx hb dX2_stored_49 rfl ?_
    exact wRetI K hw dX2_stored_50 ⟨rfl, rfl⟩
set_option maxHeartbeats 4000000 in
set_option maxRecDepth 100000 in
theorem mX2_changedPedal (l : Launch) (E : wE) (ws : va_W) (j : Nat) (hj : j < 4) (x o : Int32) : MCi l E yX2_changedPedal wsX2_changedPedal { frames := 0, cells := 0, slots := 0, locals := 0 } [.int (nI j), .int x, .int o] (ws) (fun r w => r = ped (nI j) x o ∧ w = ws) := by
  refine wEnterI (cc := cX2_changedPedal) (nL := 3) (ret := (some .int)) (own := RX2) (by decide) rfl rfl (Nat.le_of_ble_eq_true rfl) ?_
  intro p e s m below meth c A ls K hl hw
  have hl : lv_has ls 3 [(0, .int (nI j)), (1, .int x), (2, .int o)] := hl
  obtain ⟨hx, hb, -, hml, hown, hts, -, -, -⟩ := id K
  refine lv_iload_n hx hb dX2_changedPedal_0 rfl (lv_at hl 0 rfl) ?_
  rcases (show j = 0 ∨ j = 1 ∨ j = 2 ∨ j = 3 by omega) with rfl | rfl | rfl | rfl
  · refine lv_tableIn (off := 27) (tgt := 28) hx hb dX2_changedPedal_1 (by decide +kernel) (by decide +kernel) (by decide +kernel) (by decide) ?_
    refine lv_iload_n hx hb dX2_changedPedal_28 rfl (lv_at hl 1 rfl) ?_
    refine lv_iload_n hx hb dX2_changedPedal_29 rfl (lv_at hl 2 rfl) ?_
    refine lv_ior hx hb dX2_changedPedal_30 ?_
    exact wRetI K hw dX2_changedPedal_31 ⟨by rw [ped, if_pos (by decide)], rfl⟩
  · refine lv_tableIn (off := 31) (tgt := 32) hx hb dX2_changedPedal_1 (by decide +kernel) (by decide +kernel) (by decide +kernel) (by decide) ?_
    refine lv_iload_n hx hb dX2_changedPedal_32 rfl (lv_at hl 1 rfl) ?_
    refine lv_iload_n hx hb dX2_changedPedal_33 rfl (lv_at hl 2 rfl) ?_
    refine lv_iand hx hb dX2_changedPedal_34 ?_
    exact wRetI K hw dX2_changedPedal_35 ⟨by rw [ped, if_neg (by decide), if_pos (by decide)], rfl⟩
  · refine lv_tableIn (off := 35) (tgt := 36) hx hb dX2_changedPedal_1 (by decide +kernel) (by decide +kernel) (by decide +kernel) (by decide) ?_
    refine lv_iload_n hx hb dX2_changedPedal_36 rfl (lv_at hl 1 rfl) ?_
    refine lv_iload_n hx hb dX2_changedPedal_37 rfl (lv_at hl 2 rfl) ?_
    refine lv_ixor hx hb dX2_changedPedal_38 ?_
    exact wRetI K hw dX2_changedPedal_39 ⟨by rw [ped, if_neg (by decide), if_neg (by decide), if_pos (by decide)], rfl⟩
  · refine lv_tableOut (tgt := 40) hx hb dX2_changedPedal_1 (by decide +kernel) (by decide) ?_
    refine lv_iconst (v := 1) hx hb dX2_changedPedal_40 (by decide) ?_
    refine lv_iload_n hx hb dX2_changedPedal_41 rfl (lv_at hl 1 rfl) ?_
    refine lv_isub hx hb dX2_changedPedal_42 ?_
    exact wRetI K hw dX2_changedPedal_43 ⟨by rw [ped, if_neg (by decide), if_neg (by decide), if_neg (by decide)], rfl⟩
set_option maxHeartbeats 4000000 in
set_option maxRecDepth 100000 in
theorem mX2_reckoned (l : Launch) (E : wE) (ws : va_W) (j : Nat) (hj : j < 4) (x o : Int64) : MCl l E yX2_reckoned wsX2_reckoned { frames := 0, cells := 0, slots := 0, locals := 0 } [.int (nI j), .long x, .long o] (ws) (fun r w => r = rck (nI j) x o ∧ w = ws) := by
  refine wEnterL (cc := cX2_reckoned) (nL := 5) (ret := (some .long)) (own := RX2) (by decide) rfl rfl (Nat.le_of_ble_eq_true rfl) ?_
  intro p e s m below meth c A ls K hl hw
  have hl : lv_has ls 5 [(0, .int (nI j)), (1, .long x), (3, .long o)] := hl
  obtain ⟨hx, hb, -, hml, hown, hts, -, -, -⟩ := id K
  refine lv_iload_n hx hb dX2_reckoned_0 rfl (lv_at hl 0 rfl) ?_
  rcases (show j = 0 ∨ j = 1 ∨ j = 2 ∨ j = 3 by omega) with rfl | rfl | rfl | rfl
  · refine lv_tableIn (off := 27) (tgt := 28) hx hb dX2_reckoned_1 (by decide +kernel) (by decide +kernel) (by decide +kernel) (by decide) ?_
    refine lv_lload_n hx hb dX2_reckoned_28 rfl (lv_at hl 1 rfl) ?_
    refine lv_lload_n hx hb dX2_reckoned_29 rfl (lv_at hl 2 rfl) ?_
    refine lv_ladd hx hb dX2_reckoned_30 ?_
    exact wRetL K hw dX2_reckoned_31 ⟨by rw [rck, if_pos (by decide)], rfl⟩
  · refine lv_tableIn (off := 31) (tgt := 32) hx hb dX2_reckoned_1 (by decide +kernel) (by decide +kernel) (by decide +kernel) (by decide) ?_
    refine lv_lload_n hx hb dX2_reckoned_32 rfl (lv_at hl 1 rfl) ?_
    refine lv_lload_n hx hb dX2_reckoned_33 rfl (lv_at hl 2 rfl) ?_
    refine lv_lsub hx hb dX2_reckoned_34 ?_
    exact wRetL K hw dX2_reckoned_35 ⟨by rw [rck, if_neg (by decide), if_pos (by decide)], rfl⟩
  · refine lv_tableIn (off := 35) (tgt := 36) hx hb dX2_reckoned_1 (by decide +kernel) (by decide +kernel) (by decide +kernel) (by decide) ?_
    refine lv_lload_n hx hb dX2_reckoned_36 rfl (lv_at hl 1 rfl) ?_
    refine lv_lload_n hx hb dX2_reckoned_37 rfl (lv_at hl 2 rfl) ?_
    refine lv_lmul hx hb dX2_reckoned_38 ?_
    exact wRetL K hw dX2_reckoned_39 ⟨by rw [rck, if_neg (by decide), if_neg (by decide), if_pos (by decide)], rfl⟩
  · refine lv_tableOut (tgt := 40) hx hb dX2_reckoned_1 (by decide +kernel) (by decide) ?_
    refine lv_lload_n hx hb dX2_reckoned_40 rfl (lv_at hl 1 rfl) ?_
    refine lv_lconst (v := 1) hx hb dX2_reckoned_41 (by decide) ?_
    refine lv_ladd hx hb dX2_reckoned_42 ?_
    exact wRetL K hw dX2_reckoned_43 ⟨by rw [rck, if_neg (by decide), if_neg (by decide), if_neg (by decide)], rfl⟩
set_option maxHeartbeats 4000000 in
set_option maxRecDepth 100000 in
theorem mX2_changed (l : Launch) (E : wE) (ws : va_W) (k : Nat) (hk : k < 5) (j : Nat) (hj : j < 4) (x v : Int32) : MCi l E yX2_changed wsX2_changed { frames := 2, cells := 0, slots := 0, locals := 45 } [.int (nI k), .int (nI j), .int x, .int v] (ws) (fun r w => r = chg k (nI j) x v ∧ w = ws) := by
  refine wEnterI (cc := cX2_changed) (nL := 4) (ret := (some .int)) (own := RX2) (by decide) rfl rfl (Nat.le_of_ble_eq_true rfl) ?_
  intro p e s m below meth c A ls K hl hw
  have hl : lv_has ls 4 [(0, .int (nI k)), (1, .int (nI j)), (2, .int x), (3, .int v)] := hl
  obtain ⟨hx, hb, -, hml, hown, hts, -, -, -⟩ := id K
  refine lv_iload_n hx hb dX2_changed_0 rfl (lv_at hl 0 rfl) ?_
  refine lv_iconst (v := 3) hx hb dX2_changed_1 (by decide) ?_
  refine lv_icmp_ne (tgt := 14) hx hb dX2_changed_2 (by decide) (fun c_2 => ?_) (fun c_2 => ?_)
  · have hk3 : ¬ k = 3 := fun q => c_2 (by rw [q]; rfl)
    refine lv_iload_n hx hb dX2_changed_14 rfl (lv_at hl 0 rfl) ?_
    refine lv_iload_n hx hb dX2_changed_15 rfl (lv_at hl 1 rfl) ?_
    refine lv_iload_n hx hb dX2_changed_16 rfl (lv_at hl 2 rfl) ?_
    refine lv_i2l (v := x.toInt64) hx hb dX2_changed_17 rfl ?_
    refine lv_iload_n hx hb dX2_changed_18 rfl (lv_at hl 3 rfl) ?_
    refine lv_i2l (v := v.toInt64) hx hb dX2_changed_19 rfl ?_
    refine wCallSl (As := [.int (nI j), .long (x.toInt64), .long (v.toInt64)]) (rest := [.int (nI k)]) K hw (mX2_reckoned l E ws j hj x.toInt64 v.toInt64) (va_cwS 3 hts gX2_changed_X2_reckoned rfl rfl rfl (by decide +kernel) ⟨Nat.le_of_ble_eq_true rfl, Nat.le_of_ble_eq_true rfl⟩)  rfl hl.1 rfl (Nat.le_of_ble_eq_true rfl) dX2_changed_20 ⟨Nat.zero_le _, Nat.zero_le _⟩ (fun r_20 w' H locs hr hw => ?_)
    obtain ⟨rfl, e20⟩ := hr
    rw [e20] at hw
    refine wCallS (As := [.int (nI k), .long (rck (nI j) x.toInt64 v.toInt64)]) (rest := []) K hw (mX2_stored l E ws k hk (rck (nI j) x.toInt64 v.toInt64)) (va_cwS 2 hts gX2_changed_X2_stored rfl rfl rfl (by decide +kernel) ⟨Nat.le_of_ble_eq_true rfl, Nat.le_of_ble_eq_true rfl⟩)  rfl hl.1 rfl (Nat.le_of_ble_eq_true rfl) dX2_changed_23 ⟨Nat.zero_le _, Nat.zero_le _⟩ (fun r_23 w' H locs hr hw => ?_)
    obtain ⟨hr23, e23⟩ := hr
    rw [e23] at hw
    exact wRetI K hw dX2_changed_26 ⟨by rw [hr23, chg, if_neg hk3], rfl⟩
  · have hk3 : k = 3 := (nI_eq (b := 3) (by omega) (by omega)).mp c_2
    refine lv_iload_n hx hb dX2_changed_5 rfl (lv_at hl 1 rfl) ?_
    refine lv_iload_n hx hb dX2_changed_6 rfl (lv_at hl 2 rfl) ?_
    refine lv_iload_n hx hb dX2_changed_7 rfl (lv_at hl 3 rfl) ?_
    refine lv_iconst (v := 1) hx hb dX2_changed_8 (by decide) ?_
    refine lv_iand hx hb dX2_changed_9 ?_
    refine wCallS (As := [.int (nI j), .int x, .int (v &&& 1)]) (rest := []) K hw (mX2_changedPedal l E ws j hj x (v &&& 1)) (va_cwS 3 hts gX2_changed_X2_changedPedal rfl rfl rfl (by decide +kernel) ⟨Nat.le_of_ble_eq_true rfl, Nat.le_of_ble_eq_true rfl⟩)  rfl hl.1 rfl (Nat.le_of_ble_eq_true rfl) dX2_changed_10 ⟨Nat.zero_le _, Nat.zero_le _⟩ (fun r_10 w' H locs hr hw => ?_)
    obtain ⟨hr10, e10⟩ := hr
    rw [e10] at hw
    exact wRetI K hw dX2_changed_13 ⟨by rw [hr10, chg, if_pos hk3], rfl⟩
set_option maxHeartbeats 4000000 in
set_option maxRecDepth 100000 in
theorem mX2_mount (l : Launch) (E : wE) (ad : Nat → Nat) (S : SS) (hI : Inv S) (lane : Int32) (n : Int32) : MCi l E yX2_mount wsX2_mount { frames := 1, cells := 0, slots := 0, locals := 22 } [.ref (ad 0), .int lane, .int n] (wB E ad S) (fun r w => r = (sp_mount S lane n).1 ∧ w = wB E ad (sp_mount S lane n).2) := by
  refine wEnterI (cc := cX2_mount) (nL := 3) (ret := (some .int)) (own := RX2) (by decide) rfl rfl (Nat.le_of_ble_eq_true rfl) ?_
  intro p e s m below meth c A ls K hl hw
  have hl : lv_has ls 3 [(0, .ref (ad 0)), (1, .int lane), (2, .int n)] := hl
  obtain ⟨hx, hb, -, hml, hown, hts, -, -, -⟩ := id K
  have hiX2 : ∀ w ∈ wsX20, w ∈ wsX2_mount := by decide +kernel
  have hiX0 : ∀ w ∈ wsX00, w ∈ wsX2_mount := by decide +kernel
  refine lv_iload_n hx hb dX2_mount_0 rfl (lv_at hl 1 rfl) ?_
  refine wCallS (As := [.int lane]) (rest := []) K hw (mX2_isLane l E (wB E ad S) lane) (va_cwS 1 hts gX2_mount_X2_isLane rfl rfl rfl (by decide +kernel) ⟨Nat.le_of_ble_eq_true rfl, Nat.le_of_ble_eq_true rfl⟩)  rfl hl.1 rfl (Nat.le_of_ble_eq_true rfl) dX2_mount_1 ⟨Nat.zero_le _, Nat.zero_le _⟩ (fun r_1 w' H locs hr hw => ?_)
  obtain ⟨hr1, rfl⟩ := hr
  refine lv_if_ne (tgt := 10) hx hb dX2_mount_4 (by decide) (fun c_4 => ?_) (fun c_4 => ?_)
  · have hl0 := bI_t hr1 c_4
    obtain ⟨j, hj, rfl⟩ := isl_of hl0
    refine lv_iload_n hx hb dX2_mount_10 rfl (lv_at hl 2 rfl) ?_
    refine lv_bipush (v := 60) hx hb dX2_mount_11 (by decide) ?_
    refine lv_icmp_le (tgt := 19) hx hb dX2_mount_13 (by decide) (fun c_13 => ?_) (fun c_13 => ?_)
    · refine lv_iload_n hx hb dX2_mount_19 rfl (lv_at hl 2 rfl) ?_
      refine lv_if_ge (tgt := 26) hx hb dX2_mount_20 (by decide) (fun c_20 => ?_) (fun c_20 => ?_)
      · obtain ⟨q, hq, rfl⟩ := rng60 c_20 c_13
        refine lv_aload_n hx hb dX2_mount_26 rfl (lv_at hl 0 rfl) ?_
        refine wGet (v := .ref (ad 1)) K hw hiX2 wB_b rfl 0 (by decide) (by decide +kernel) rfl dX2_mount_27 ?_
        refine lv_iload_n hx hb dX2_mount_30 rfl (lv_at hl 1 rfl) ?_
        refine wAald K hw wB_l (in5 hj) (gLanes_at hj) dX2_mount_31 ?_
        refine lv_iload_n hx hb dX2_mount_32 rfl (lv_at hl 2 rfl) ?_
        refine wCallVv (As := [.int (nI q)]) (rest := []) K hw (mX0_renew l E ad S j hj q hq) (cwV 1 hts gX2_mount_X0_renew rfl rfl rfl (by decide +kernel) ⟨Nat.le_of_ble_eq_true rfl, Nat.le_of_ble_eq_true rfl⟩) (wB_lane hj) rfl rfl hl.1 rfl (Nat.le_of_ble_eq_true rfl) dX2_mount_33 ⟨Nat.zero_le _, Nat.zero_le _⟩ (fun w' H locs hr hw => ?_)
        subst hr
        refine lv_iload_n hx hb dX2_mount_36 rfl (lv_at hl 2 rfl) ?_
        exact wRetI K hw dX2_mount_37 (pst (by rw [sp_mount, if_pos hl0, if_pos c_13, if_pos c_20, kN_nI (by omega), kN_nI (by omega)]))
      · refine lv_ldc (v := (-1000004)) hx hb hown (hts (.constant RX2 22 (-1000004)) (by decide +kernel)) dX2_mount_23 ?_
        exact wRetI K hw dX2_mount_25 (pst (by rw [sp_mount, if_pos hl0, if_pos c_13, if_neg c_20]))
    · refine lv_ldc (v := (-1000003)) hx hb hown (hts (.constant RX2 21 (-1000003)) (by decide +kernel)) dX2_mount_16 ?_
      exact wRetI K hw dX2_mount_18 (pst (by rw [sp_mount, if_pos hl0, if_neg c_13]))
  · have hl0 := bI_f hr1 c_4
    refine lv_ldc (v := (-1000001)) hx hb hown (hts (.constant RX2 20 (-1000001)) (by decide +kernel)) dX2_mount_7 ?_
    exact wRetI K hw dX2_mount_9 (pst (by rw [sp_mount, if_neg hl0]))
set_option maxHeartbeats 4000000 in
set_option maxRecDepth 100000 in
theorem mX2_strip (l : Launch) (E : wE) (ad : Nat → Nat) (S : SS) (hI : Inv S) (lane : Int32) : MCi l E yX2_strip wsX2_strip { frames := 1, cells := 0, slots := 0, locals := 20 } [.ref (ad 0), .int lane] (wB E ad S) (fun r w => r = (sp_strip S lane).1 ∧ w = wB E ad (sp_strip S lane).2) := by
  refine wEnterI (cc := cX2_strip) (nL := 4) (ret := (some .int)) (own := RX2) (by decide) rfl rfl (Nat.le_of_ble_eq_true rfl) ?_
  intro p e s m below meth c A ls K hl hw
  have hl : lv_has ls 4 [(0, .ref (ad 0)), (1, .int lane)] := hl
  obtain ⟨hx, hb, -, hml, hown, hts, -, -, -⟩ := id K
  have hiX2 : ∀ w ∈ wsX20, w ∈ wsX2_strip := by decide +kernel
  have hiX0 : ∀ w ∈ wsX00, w ∈ wsX2_strip := by decide +kernel
  refine lv_iload_n hx hb dX2_strip_0 rfl (lv_at hl 1 rfl) ?_
  refine wCallS (As := [.int lane]) (rest := []) K hw (mX2_isLane l E (wB E ad S) lane) (va_cwS 1 hts gX2_strip_X2_isLane rfl rfl rfl (by decide +kernel) ⟨Nat.le_of_ble_eq_true rfl, Nat.le_of_ble_eq_true rfl⟩)  rfl hl.1 rfl (Nat.le_of_ble_eq_true rfl) dX2_strip_1 ⟨Nat.zero_le _, Nat.zero_le _⟩ (fun r_1 w' H locs hr hw => ?_)
  obtain ⟨hr1, rfl⟩ := hr
  refine lv_if_ne (tgt := 10) hx hb dX2_strip_4 (by decide) (fun c_4 => ?_) (fun c_4 => ?_)
  · have hl0 := bI_t hr1 c_4
    obtain ⟨j, hj, rfl⟩ := isl_of hl0
    refine lv_aload_n hx hb dX2_strip_10 rfl (lv_at hl 0 rfl) ?_
    refine wGet (v := .ref (ad 1)) K hw hiX2 wB_b rfl 0 (by decide) (by decide +kernel) rfl dX2_strip_11 ?_
    refine lv_iload_n hx hb dX2_strip_14 rfl (lv_at hl 1 rfl) ?_
    refine wAald K hw wB_l (in5 hj) (gLanes_at hj) dX2_strip_15 ?_
    refine lv_astore_n (lv' := [(2, .ref (ad (2 + 4 * j))), (0, .ref (ad 0)), (1, .int (nI j))]) hx hb dX2_strip_16 rfl hl (by decide) rfl (fun ls hl => ?_)
    refine lv_aload_n hx hb dX2_strip_17 rfl (lv_at hl 0 rfl) ?_
    refine wCallV (As := []) (rest := []) K hw (mX0_isOff l E ad S hI j hj) (cwV 0 hts gX2_strip_X0_isOff rfl rfl rfl (by decide +kernel) ⟨Nat.le_of_ble_eq_true rfl, Nat.le_of_ble_eq_true rfl⟩) (wB_lane hj) rfl rfl hl.1 rfl (Nat.le_of_ble_eq_true rfl) dX2_strip_18 ⟨Nat.zero_le _, Nat.zero_le _⟩ (fun r_18 w' H locs hr hw => ?_)
    obtain ⟨hr18, rfl⟩ := hr
    refine lv_if_eq (tgt := 29) hx hb dX2_strip_21 (by decide) (fun c_21 => ?_) (fun c_21 => ?_)
    · have h2 := bI_f hr18 c_21
      refine lv_aload_n hx hb dX2_strip_29 rfl (lv_at hl 0 rfl) ?_
      refine wGet (v := .int (ln S j)) K hw hiX0 (wB_lane hj) rfl 2 (by decide) (by decide +kernel) rfl dX2_strip_30 ?_
      refine lv_istore_n (lv' := [(3, .int (ln S j)), (2, .ref (ad (2 + 4 * j))), (0, .ref (ad 0)), (1, .int (nI j))]) hx hb dX2_strip_33 rfl hl (by decide) rfl (fun ls hl => ?_)
      refine lv_aload_n hx hb dX2_strip_34 rfl (lv_at hl 1 rfl) ?_
      refine wCallVv (As := []) (rest := []) K hw (mX0_turnOff l E ad S j hj) (cwV 0 hts gX2_strip_X0_turnOff rfl rfl rfl (by decide +kernel) ⟨Nat.le_of_ble_eq_true rfl, Nat.le_of_ble_eq_true rfl⟩) (wB_lane hj) rfl rfl hl.1 rfl (Nat.le_of_ble_eq_true rfl) dX2_strip_35 ⟨Nat.zero_le _, Nat.zero_le _⟩ (fun w' H locs hr hw => ?_)
      subst hr
      refine lv_iload_n hx hb dX2_strip_38 rfl (lv_at hl 0 rfl) ?_
      exact wRetI K hw dX2_strip_39 (pst (by rw [sp_strip, if_pos hl0, kN_nI (by omega), if_neg h2, ln_on h2]))
    · have h2 := bI_t hr18 c_21
      refine lv_aload_n hx hb dX2_strip_24 rfl (lv_at hl 0 rfl) ?_
      refine wCallV (As := []) (rest := []) K hw (mX0_refuseOff l E ad S j hj) (cwV 0 hts gX2_strip_X0_refuseOff rfl rfl rfl (by decide +kernel) ⟨Nat.le_of_ble_eq_true rfl, Nat.le_of_ble_eq_true rfl⟩) (wB_lane hj) rfl rfl hl.1 rfl (Nat.le_of_ble_eq_true rfl) dX2_strip_25 ⟨Nat.zero_le _, Nat.zero_le _⟩ (fun r_25 w' H locs hr hw => ?_)
      obtain ⟨rfl, rfl⟩ := hr
      exact wRetI K hw dX2_strip_28 (pst (by rw [sp_strip, if_pos hl0, kN_nI (by omega), if_pos h2]))
  · have hl0 := bI_f hr1 c_4
    refine lv_ldc (v := (-1000001)) hx hb hown (hts (.constant RX2 20 (-1000001)) (by decide +kernel)) dX2_strip_7 ?_
    exact wRetI K hw dX2_strip_9 (pst (by rw [sp_strip, if_neg hl0]))
set_option maxHeartbeats 4000000 in
set_option maxRecDepth 100000 in
theorem mX2_size (l : Launch) (E : wE) (ad : Nat → Nat) (S : SS) (hI : Inv S) (lane : Int32) : MCi l E yX2_size wsX2_size { frames := 1, cells := 0, slots := 0, locals := 20 } [.ref (ad 0), .int lane] (wB E ad S) (fun r w => r = (sp_size S lane).1 ∧ w = wB E ad (sp_size S lane).2) := by
  refine wEnterI (cc := cX2_size) (nL := 3) (ret := (some .int)) (own := RX2) (by decide) rfl rfl (Nat.le_of_ble_eq_true rfl) ?_
  intro p e s m below meth c A ls K hl hw
  have hl : lv_has ls 3 [(0, .ref (ad 0)), (1, .int lane)] := hl
  obtain ⟨hx, hb, -, hml, hown, hts, -, -, -⟩ := id K
  have hiX2 : ∀ w ∈ wsX20, w ∈ wsX2_size := by decide +kernel
  have hiX0 : ∀ w ∈ wsX00, w ∈ wsX2_size := by decide +kernel
  refine lv_iload_n hx hb dX2_size_0 rfl (lv_at hl 1 rfl) ?_
  refine wCallS (As := [.int lane]) (rest := []) K hw (mX2_isLane l E (wB E ad S) lane) (va_cwS 1 hts gX2_size_X2_isLane rfl rfl rfl (by decide +kernel) ⟨Nat.le_of_ble_eq_true rfl, Nat.le_of_ble_eq_true rfl⟩)  rfl hl.1 rfl (Nat.le_of_ble_eq_true rfl) dX2_size_1 ⟨Nat.zero_le _, Nat.zero_le _⟩ (fun r_1 w' H locs hr hw => ?_)
  obtain ⟨hr1, rfl⟩ := hr
  refine lv_if_ne (tgt := 10) hx hb dX2_size_4 (by decide) (fun c_4 => ?_) (fun c_4 => ?_)
  · have hl0 := bI_t hr1 c_4
    obtain ⟨j, hj, rfl⟩ := isl_of hl0
    refine lv_aload_n hx hb dX2_size_10 rfl (lv_at hl 0 rfl) ?_
    refine wGet (v := .ref (ad 1)) K hw hiX2 wB_b rfl 0 (by decide) (by decide +kernel) rfl dX2_size_11 ?_
    refine lv_iload_n hx hb dX2_size_14 rfl (lv_at hl 1 rfl) ?_
    refine wAald K hw wB_l (in5 hj) (gLanes_at hj) dX2_size_15 ?_
    refine lv_astore_n (lv' := [(2, .ref (ad (2 + 4 * j))), (0, .ref (ad 0)), (1, .int (nI j))]) hx hb dX2_size_16 rfl hl (by decide) rfl (fun ls hl => ?_)
    refine lv_aload_n hx hb dX2_size_17 rfl (lv_at hl 0 rfl) ?_
    refine wCallV (As := []) (rest := []) K hw (mX0_isOff l E ad S hI j hj) (cwV 0 hts gX2_size_X0_isOff rfl rfl rfl (by decide +kernel) ⟨Nat.le_of_ble_eq_true rfl, Nat.le_of_ble_eq_true rfl⟩) (wB_lane hj) rfl rfl hl.1 rfl (Nat.le_of_ble_eq_true rfl) dX2_size_18 ⟨Nat.zero_le _, Nat.zero_le _⟩ (fun r_18 w' H locs hr hw => ?_)
    obtain ⟨hr18, rfl⟩ := hr
    refine lv_if_eq (tgt := 29) hx hb dX2_size_21 (by decide) (fun c_21 => ?_) (fun c_21 => ?_)
    · have h2 := bI_f hr18 c_21
      refine lv_aload_n hx hb dX2_size_29 rfl (lv_at hl 0 rfl) ?_
      refine wGet (v := .int (ln S j)) K hw hiX0 (wB_lane hj) rfl 2 (by decide) (by decide +kernel) rfl dX2_size_30 ?_
      exact wRetI K hw dX2_size_33 (pst (by rw [sp_size, if_pos hl0, kN_nI (by omega), if_neg h2, ln_on h2]))
    · have h2 := bI_t hr18 c_21
      refine lv_aload_n hx hb dX2_size_24 rfl (lv_at hl 0 rfl) ?_
      refine wCallV (As := []) (rest := []) K hw (mX0_refuseOff l E ad S j hj) (cwV 0 hts gX2_size_X0_refuseOff rfl rfl rfl (by decide +kernel) ⟨Nat.le_of_ble_eq_true rfl, Nat.le_of_ble_eq_true rfl⟩) (wB_lane hj) rfl rfl hl.1 rfl (Nat.le_of_ble_eq_true rfl) dX2_size_25 ⟨Nat.zero_le _, Nat.zero_le _⟩ (fun r_25 w' H locs hr hw => ?_)
      obtain ⟨rfl, rfl⟩ := hr
      exact wRetI K hw dX2_size_28 (pst (by rw [sp_size, if_pos hl0, kN_nI (by omega), if_pos h2]))
  · have hl0 := bI_f hr1 c_4
    refine lv_ldc (v := (-1000001)) hx hb hown (hts (.constant RX2 20 (-1000001)) (by decide +kernel)) dX2_size_7 ?_
    exact wRetI K hw dX2_size_9 (pst (by rw [sp_size, if_neg hl0]))
set_option maxHeartbeats 4000000 in
set_option maxRecDepth 100000 in
theorem mX2_cell (l : Launch) (E : wE) (ad : Nat → Nat) (S : SS) (hI : Inv S) (lane : Int32) (i : Int32) : MCi l E yX2_cell wsX2_cell { frames := 1, cells := 0, slots := 0, locals := 21 } [.ref (ad 0), .int lane, .int i] (wB E ad S) (fun r w => r = (sp_cell S lane i).1 ∧ w = wB E ad (sp_cell S lane i).2) := by
  refine wEnterI (cc := cX2_cell) (nL := 4) (ret := (some .int)) (own := RX2) (by decide) rfl rfl (Nat.le_of_ble_eq_true rfl) ?_
  intro p e s m below meth c A ls K hl hw
  have hl : lv_has ls 4 [(0, .ref (ad 0)), (1, .int lane), (2, .int i)] := hl
  obtain ⟨hx, hb, -, hml, hown, hts, -, -, -⟩ := id K
  have hiX2 : ∀ w ∈ wsX20, w ∈ wsX2_cell := by decide +kernel
  have hiX0 : ∀ w ∈ wsX00, w ∈ wsX2_cell := by decide +kernel
  refine lv_iload_n hx hb dX2_cell_0 rfl (lv_at hl 1 rfl) ?_
  refine wCallS (As := [.int lane]) (rest := []) K hw (mX2_isLane l E (wB E ad S) lane) (va_cwS 1 hts gX2_cell_X2_isLane rfl rfl rfl (by decide +kernel) ⟨Nat.le_of_ble_eq_true rfl, Nat.le_of_ble_eq_true rfl⟩)  rfl hl.1 rfl (Nat.le_of_ble_eq_true rfl) dX2_cell_1 ⟨Nat.zero_le _, Nat.zero_le _⟩ (fun r_1 w' H locs hr hw => ?_)
  obtain ⟨hr1, rfl⟩ := hr
  refine lv_if_ne (tgt := 10) hx hb dX2_cell_4 (by decide) (fun c_4 => ?_) (fun c_4 => ?_)
  · have hl0 := bI_t hr1 c_4
    obtain ⟨j, hj, rfl⟩ := isl_of hl0
    refine lv_aload_n hx hb dX2_cell_10 rfl (lv_at hl 0 rfl) ?_
    refine wGet (v := .ref (ad 1)) K hw hiX2 wB_b rfl 0 (by decide) (by decide +kernel) rfl dX2_cell_11 ?_
    refine lv_iload_n hx hb dX2_cell_14 rfl (lv_at hl 1 rfl) ?_
    refine wAald K hw wB_l (in5 hj) (gLanes_at hj) dX2_cell_15 ?_
    refine lv_astore_n (lv' := [(3, .ref (ad (2 + 4 * j))), (0, .ref (ad 0)), (1, .int (nI j)), (2, .int i)]) hx hb dX2_cell_16 rfl hl (by decide) rfl (fun ls hl => ?_)
    refine lv_aload_n hx hb dX2_cell_17 rfl (lv_at hl 0 rfl) ?_
    refine wCallV (As := []) (rest := []) K hw (mX0_isOff l E ad S hI j hj) (cwV 0 hts gX2_cell_X0_isOff rfl rfl rfl (by decide +kernel) ⟨Nat.le_of_ble_eq_true rfl, Nat.le_of_ble_eq_true rfl⟩) (wB_lane hj) rfl rfl hl.1 rfl (Nat.le_of_ble_eq_true rfl) dX2_cell_18 ⟨Nat.zero_le _, Nat.zero_le _⟩ (fun r_18 w' H locs hr hw => ?_)
    obtain ⟨hr18, rfl⟩ := hr
    refine lv_if_eq (tgt := 29) hx hb dX2_cell_21 (by decide) (fun c_21 => ?_) (fun c_21 => ?_)
    · have h2 := bI_f hr18 c_21
      refine lv_aload_n hx hb dX2_cell_29 rfl (lv_at hl 0 rfl) ?_
      refine lv_iload_n hx hb dX2_cell_30 rfl (lv_at hl 3 rfl) ?_
      refine wCallV (As := [.int i]) (rest := []) K hw (mX0_hasCell l E ad S hI j hj i) (cwV 1 hts gX2_cell_X0_hasCell rfl rfl rfl (by decide +kernel) ⟨Nat.le_of_ble_eq_true rfl, Nat.le_of_ble_eq_true rfl⟩) (wB_lane hj) rfl rfl hl.1 rfl (Nat.le_of_ble_eq_true rfl) dX2_cell_31 ⟨Nat.zero_le _, Nat.zero_le _⟩ (fun r_31 w' H locs hr hw => ?_)
      obtain ⟨hr31, rfl⟩ := hr
      refine lv_if_ne (tgt := 42) hx hb dX2_cell_34 (by decide) (fun c_34 => ?_) (fun c_34 => ?_)
      · have h3 := bI_t hr31 c_34
        obtain ⟨q, hq, rfl⟩ := hI.cell hj h3
        refine lv_aload_n hx hb dX2_cell_42 rfl (lv_at hl 0 rfl) ?_
        refine wGet (v := .ref (ad (3 + 4 * j))) K hw hiX0 (wB_lane hj) rfl 0 (by decide) (by decide +kernel) rfl dX2_cell_43 ?_
        refine lv_iload_n hx hb dX2_cell_46 rfl (lv_at hl 3 rfl) ?_
        refine wIald (v := S.1 j q) K hw (wB_cells hj) (vp_in_nI hq (by omega)) (by rw [nI_clamp (by omega)]) dX2_cell_47 ?_
        exact wRetI K hw dX2_cell_48 (pst (by rw [sp_cell, if_pos hl0, kN_nI (by omega), if_neg h2, if_pos h3, kN_nI (by omega)]))
      · have h3 := bI_f hr31 c_34
        refine lv_aload_n hx hb dX2_cell_37 rfl (lv_at hl 0 rfl) ?_
        refine wCallV (As := []) (rest := []) K hw (mX0_refuseOut l E ad S j hj) (cwV 0 hts gX2_cell_X0_refuseOut rfl rfl rfl (by decide +kernel) ⟨Nat.le_of_ble_eq_true rfl, Nat.le_of_ble_eq_true rfl⟩) (wB_lane hj) rfl rfl hl.1 rfl (Nat.le_of_ble_eq_true rfl) dX2_cell_38 ⟨Nat.zero_le _, Nat.zero_le _⟩ (fun r_38 w' H locs hr hw => ?_)
        obtain ⟨rfl, rfl⟩ := hr
        exact wRetI K hw dX2_cell_41 (pst (by rw [sp_cell, if_pos hl0, kN_nI (by omega), if_neg h2, if_neg h3]))
    · have h2 := bI_t hr18 c_21
      refine lv_aload_n hx hb dX2_cell_24 rfl (lv_at hl 0 rfl) ?_
      refine wCallV (As := []) (rest := []) K hw (mX0_refuseOff l E ad S j hj) (cwV 0 hts gX2_cell_X0_refuseOff rfl rfl rfl (by decide +kernel) ⟨Nat.le_of_ble_eq_true rfl, Nat.le_of_ble_eq_true rfl⟩) (wB_lane hj) rfl rfl hl.1 rfl (Nat.le_of_ble_eq_true rfl) dX2_cell_25 ⟨Nat.zero_le _, Nat.zero_le _⟩ (fun r_25 w' H locs hr hw => ?_)
      obtain ⟨rfl, rfl⟩ := hr
      exact wRetI K hw dX2_cell_28 (pst (by rw [sp_cell, if_pos hl0, kN_nI (by omega), if_pos h2]))
  · have hl0 := bI_f hr1 c_4
    refine lv_ldc (v := (-1000001)) hx hb hown (hts (.constant RX2 20 (-1000001)) (by decide +kernel)) dX2_cell_7 ?_
    exact wRetI K hw dX2_cell_9 (pst (by rw [sp_cell, if_neg hl0]))
set_option maxHeartbeats 4000000 in
set_option maxRecDepth 100000 in
theorem mX2_put (l : Launch) (E : wE) (ad : Nat → Nat) (S : SS) (hI : Inv S) (lane : Int32) (i : Int32) (v : Int32) : MCi l E yX2_put wsX2_put { frames := 2, cells := 0, slots := 0, locals := 45 } [.ref (ad 0), .int lane, .int i, .int v] (wB E ad S) (fun r w => r = (sp_put S lane i v).1 ∧ w = wB E ad (sp_put S lane i v).2) := by
  refine wEnterI (cc := cX2_put) (nL := 5) (ret := (some .int)) (own := RX2) (by decide) rfl rfl (Nat.le_of_ble_eq_true rfl) ?_
  intro p e s m below meth c A ls K hl hw
  have hl : lv_has ls 5 [(0, .ref (ad 0)), (1, .int lane), (2, .int i), (3, .int v)] := hl
  obtain ⟨hx, hb, -, hml, hown, hts, -, -, -⟩ := id K
  have hiX2 : ∀ w ∈ wsX20, w ∈ wsX2_put := by decide +kernel
  have hiX0 : ∀ w ∈ wsX00, w ∈ wsX2_put := by decide +kernel
  refine lv_iload_n hx hb dX2_put_0 rfl (lv_at hl 1 rfl) ?_
  refine wCallS (As := [.int lane]) (rest := []) K hw (mX2_isLane l E (wB E ad S) lane) (va_cwS 1 hts gX2_put_X2_isLane rfl rfl rfl (by decide +kernel) ⟨Nat.le_of_ble_eq_true rfl, Nat.le_of_ble_eq_true rfl⟩)  rfl hl.1 rfl (Nat.le_of_ble_eq_true rfl) dX2_put_1 ⟨Nat.zero_le _, Nat.zero_le _⟩ (fun r_1 w' H locs hr hw => ?_)
  obtain ⟨hr1, rfl⟩ := hr
  refine lv_if_ne (tgt := 10) hx hb dX2_put_4 (by decide) (fun c_4 => ?_) (fun c_4 => ?_)
  · have hl0 := bI_t hr1 c_4
    obtain ⟨j, hj, rfl⟩ := isl_of hl0
    refine lv_aload_n hx hb dX2_put_10 rfl (lv_at hl 0 rfl) ?_
    refine wGet (v := .ref (ad 1)) K hw hiX2 wB_b rfl 0 (by decide) (by decide +kernel) rfl dX2_put_11 ?_
    refine lv_iload_n hx hb dX2_put_14 rfl (lv_at hl 1 rfl) ?_
    refine wAald K hw wB_l (in5 hj) (gLanes_at hj) dX2_put_15 ?_
    refine lv_astore (lv' := [(4, .ref (ad (2 + 4 * j))), (0, .ref (ad 0)), (1, .int (nI j)), (2, .int i), (3, .int v)]) hx hb dX2_put_16 hl (by decide) rfl (fun ls hl => ?_)
    refine lv_aload hx hb dX2_put_18 (lv_at hl 0 rfl) ?_
    refine wCallV (As := []) (rest := []) K hw (mX0_isOff l E ad S hI j hj) (cwV 0 hts gX2_put_X0_isOff rfl rfl rfl (by decide +kernel) ⟨Nat.le_of_ble_eq_true rfl, Nat.le_of_ble_eq_true rfl⟩) (wB_lane hj) rfl rfl hl.1 rfl (Nat.le_of_ble_eq_true rfl) dX2_put_20 ⟨Nat.zero_le _, Nat.zero_le _⟩ (fun r_20 w' H locs hr hw => ?_)
    obtain ⟨hr20, rfl⟩ := hr
    refine lv_if_eq (tgt := 32) hx hb dX2_put_23 (by decide) (fun c_23 => ?_) (fun c_23 => ?_)
    · have h2 := bI_f hr20 c_23
      refine lv_aload hx hb dX2_put_32 (lv_at hl 0 rfl) ?_
      refine lv_iload_n hx hb dX2_put_34 rfl (lv_at hl 3 rfl) ?_
      refine wCallV (As := [.int i]) (rest := []) K hw (mX0_hasCell l E ad S hI j hj i) (cwV 1 hts gX2_put_X0_hasCell rfl rfl rfl (by decide +kernel) ⟨Nat.le_of_ble_eq_true rfl, Nat.le_of_ble_eq_true rfl⟩) (wB_lane hj) rfl rfl hl.1 rfl (Nat.le_of_ble_eq_true rfl) dX2_put_35 ⟨Nat.zero_le _, Nat.zero_le _⟩ (fun r_35 w' H locs hr hw => ?_)
      obtain ⟨hr35, rfl⟩ := hr
      refine lv_if_ne (tgt := 47) hx hb dX2_put_38 (by decide) (fun c_38 => ?_) (fun c_38 => ?_)
      · have h3 := bI_t hr35 c_38
        obtain ⟨q, hq, rfl⟩ := hI.cell hj h3
        refine lv_aload hx hb dX2_put_47 (lv_at hl 0 rfl) ?_
        refine wGet (v := .ref (ad (3 + 4 * j))) K hw hiX0 (wB_lane hj) rfl 0 (by decide) (by decide +kernel) rfl dX2_put_49 ?_
        refine lv_iload_n hx hb dX2_put_52 rfl (lv_at hl 3 rfl) ?_
        refine lv_iload_n hx hb dX2_put_53 rfl (lv_at hl 2 rfl) ?_
        refine lv_iload_n hx hb dX2_put_54 rfl (lv_at hl 4 rfl) ?_
        refine lv_i2l (v := v.toInt64) hx hb dX2_put_55 rfl ?_
        refine wCallS (As := [.int (nI j), .long (v.toInt64)]) (rest := [.int (nI q), .ref (ad (3 + 4 * j))]) K hw (mX2_stored l E (wB E ad S) j hj v.toInt64) (va_cwS 2 hts gX2_put_X2_stored rfl rfl rfl (by decide +kernel) ⟨Nat.le_of_ble_eq_true rfl, Nat.le_of_ble_eq_true rfl⟩)  rfl hl.1 rfl (Nat.le_of_ble_eq_true rfl) dX2_put_56 ⟨Nat.zero_le _, Nat.zero_le _⟩ (fun r_56 w' H locs hr hw => ?_)
        obtain ⟨rfl, rfl⟩ := hr
        refine wIast K hw (wB_cells hj) (vp_in_nI hq (by omega)) dX2_put_59 (wB_sCellI hj (nI_clamp (by omega)) _) (fun H locs hw => ?_)
        refine lv_aload hx hb dX2_put_60 (lv_at hl 0 rfl) ?_
        refine wGet (v := .ref (ad (3 + 4 * j))) K hw hiX0 (wB_lane hj) rfl 0 (by decide) (by decide +kernel) rfl dX2_put_62 ?_
        refine lv_iload_n hx hb dX2_put_65 rfl (lv_at hl 3 rfl) ?_
        refine wIald (v := sto j v.toInt64) K hw (wB_cells hj) (vp_in_nI hq (by omega)) (by rw [nI_clamp (by omega)]; exact sC_self) dX2_put_66 ?_
        exact wRetI K hw dX2_put_67 (pst (by rw [sp_put, if_pos hl0, kN_nI (by omega), if_neg h2, if_pos h3, kN_nI (by omega)]))
      · have h3 := bI_f hr35 c_38
        refine lv_aload hx hb dX2_put_41 (lv_at hl 0 rfl) ?_
        refine wCallV (As := []) (rest := []) K hw (mX0_refuseOut l E ad S j hj) (cwV 0 hts gX2_put_X0_refuseOut rfl rfl rfl (by decide +kernel) ⟨Nat.le_of_ble_eq_true rfl, Nat.le_of_ble_eq_true rfl⟩) (wB_lane hj) rfl rfl hl.1 rfl (Nat.le_of_ble_eq_true rfl) dX2_put_43 ⟨Nat.zero_le _, Nat.zero_le _⟩ (fun r_43 w' H locs hr hw => ?_)
        obtain ⟨rfl, rfl⟩ := hr
        exact wRetI K hw dX2_put_46 (pst (by rw [sp_put, if_pos hl0, kN_nI (by omega), if_neg h2, if_neg h3]))
    · have h2 := bI_t hr20 c_23
      refine lv_aload hx hb dX2_put_26 (lv_at hl 0 rfl) ?_
      refine wCallV (As := []) (rest := []) K hw (mX0_refuseOff l E ad S j hj) (cwV 0 hts gX2_put_X0_refuseOff rfl rfl rfl (by decide +kernel) ⟨Nat.le_of_ble_eq_true rfl, Nat.le_of_ble_eq_true rfl⟩) (wB_lane hj) rfl rfl hl.1 rfl (Nat.le_of_ble_eq_true rfl) dX2_put_28 ⟨Nat.zero_le _, Nat.zero_le _⟩ (fun r_28 w' H locs hr hw => ?_)
      obtain ⟨rfl, rfl⟩ := hr
      exact wRetI K hw dX2_put_31 (pst (by rw [sp_put, if_pos hl0, kN_nI (by omega), if_pos h2]))
  · have hl0 := bI_f hr1 c_4
    refine lv_ldc (v := (-1000001)) hx hb hown (hts (.constant RX2 20 (-1000001)) (by decide +kernel)) dX2_put_7 ?_
    exact wRetI K hw dX2_put_9 (pst (by rw [sp_put, if_neg hl0]))
set_option maxHeartbeats 4000000 in
set_option maxRecDepth 100000 in
theorem mX2_change (l : Launch) (E : wE) (ad : Nat → Nat) (S : SS) (hI : Inv S) (lane : Int32) (way : Int32) (i : Int32) (v : Int32) : MCi l E yX2_change wsX2_change { frames := 3, cells := 0, slots := 0, locals := 68 } [.ref (ad 0), .int lane, .int way, .int i, .int v] (wB E ad S) (fun r w => r = (sp_change S lane way i v).1 ∧ w = wB E ad (sp_change S lane way i v).2) := by
  refine wEnterI (cc := cX2_change) (nL := 6) (ret := (some .int)) (own := RX2) (by decide) rfl rfl (Nat.le_of_ble_eq_true rfl) ?_
  intro p e s m below meth c A ls K hl hw
  have hl : lv_has ls 6 [(0, .ref (ad 0)), (1, .int lane), (2, .int way), (3, .int i), (4, .int v)] := hl
  obtain ⟨hx, hb, -, hml, hown, hts, -, -, -⟩ := id K
  have hiX2 : ∀ w ∈ wsX20, w ∈ wsX2_change := by decide +kernel
  have hiX0 : ∀ w ∈ wsX00, w ∈ wsX2_change := by decide +kernel
  refine lv_iload_n hx hb dX2_change_0 rfl (lv_at hl 1 rfl) ?_
  refine wCallS (As := [.int lane]) (rest := []) K hw (mX2_isLane l E (wB E ad S) lane) (va_cwS 1 hts gX2_change_X2_isLane rfl rfl rfl (by decide +kernel) ⟨Nat.le_of_ble_eq_true rfl, Nat.le_of_ble_eq_true rfl⟩)  rfl hl.1 rfl (Nat.le_of_ble_eq_true rfl) dX2_change_1 ⟨Nat.zero_le _, Nat.zero_le _⟩ (fun r_1 w' H locs hr hw => ?_)
  obtain ⟨hr1, rfl⟩ := hr
  refine lv_if_ne (tgt := 10) hx hb dX2_change_4 (by decide) (fun c_4 => ?_) (fun c_4 => ?_)
  · have hl0 := bI_t hr1 c_4
    obtain ⟨j, hj, rfl⟩ := isl_of hl0
    refine lv_iload_n hx hb dX2_change_10 rfl (lv_at hl 2 rfl) ?_
    refine lv_if_lt (tgt := 19) hx hb dX2_change_11 (by decide) (fun c_11 => ?_) (fun c_11 => ?_)
    · have hg : ¬ (¬ way < 0 ∧ ¬ 4 ≤ way) := fun q => q.1 c_11
      refine lv_ldc (v := (-1000002)) hx hb hown (hts (.constant RX2 56 (-1000002)) (by decide +kernel)) dX2_change_19 ?_
      exact wRetI K hw dX2_change_21 (pst (by rw [sp_change, if_pos hl0, if_neg hg]))
    · refine lv_iload_n hx hb dX2_change_14 rfl (lv_at hl 2 rfl) ?_
      refine lv_iconst (v := 4) hx hb dX2_change_15 (by decide) ?_
      refine lv_icmp_lt (tgt := 22) hx hb dX2_change_16 (by decide) (fun c_16 => ?_) (fun c_16 => ?_)
      · have hg : ¬ way < 0 ∧ ¬ 4 ≤ way := ⟨c_11, Int32.not_le.mpr c_16⟩
        obtain ⟨y, hy, rfl⟩ := way4 hg
        refine lv_aload_n hx hb dX2_change_22 rfl (lv_at hl 0 rfl) ?_
        refine wGet (v := .ref (ad 1)) K hw hiX2 wB_b rfl 0 (by decide) (by decide +kernel) rfl dX2_change_23 ?_
        refine lv_iload_n hx hb dX2_change_26 rfl (lv_at hl 1 rfl) ?_
        refine wAald K hw wB_l (in5 hj) (gLanes_at hj) dX2_change_27 ?_
        refine lv_astore (lv' := [(5, .ref (ad (2 + 4 * j))), (0, .ref (ad 0)), (1, .int (nI j)), (2, .int (nI y)), (3, .int i), (4, .int v)]) hx hb dX2_change_28 hl (by decide) rfl (fun ls hl => ?_)
        refine lv_aload hx hb dX2_change_30 (lv_at hl 0 rfl) ?_
        refine wCallV (As := []) (rest := []) K hw (mX0_isOff l E ad S hI j hj) (cwV 0 hts gX2_change_X0_isOff rfl rfl rfl (by decide +kernel) ⟨Nat.le_of_ble_eq_true rfl, Nat.le_of_ble_eq_true rfl⟩) (wB_lane hj) rfl rfl hl.1 rfl (Nat.le_of_ble_eq_true rfl) dX2_change_32 ⟨Nat.zero_le _, Nat.zero_le _⟩ (fun r_32 w' H locs hr hw => ?_)
        obtain ⟨hr32, rfl⟩ := hr
        refine lv_if_eq (tgt := 44) hx hb dX2_change_35 (by decide) (fun c_35 => ?_) (fun c_35 => ?_)
        · have h2 := bI_f hr32 c_35
          refine lv_aload hx hb dX2_change_44 (lv_at hl 0 rfl) ?_
          refine lv_iload_n hx hb dX2_change_46 rfl (lv_at hl 4 rfl) ?_
          refine wCallV (As := [.int i]) (rest := []) K hw (mX0_hasCell l E ad S hI j hj i) (cwV 1 hts gX2_change_X0_hasCell rfl rfl rfl (by decide +kernel) ⟨Nat.le_of_ble_eq_true rfl, Nat.le_of_ble_eq_true rfl⟩) (wB_lane hj) rfl rfl hl.1 rfl (Nat.le_of_ble_eq_true rfl) dX2_change_47 ⟨Nat.zero_le _, Nat.zero_le _⟩ (fun r_47 w' H locs hr hw => ?_)
          obtain ⟨hr47, rfl⟩ := hr
          refine lv_if_ne (tgt := 59) hx hb dX2_change_50 (by decide) (fun c_50 => ?_) (fun c_50 => ?_)
          · have h3 := bI_t hr47 c_50
            obtain ⟨q, hq, rfl⟩ := hI.cell hj h3
            refine lv_aload hx hb dX2_change_59 (lv_at hl 0 rfl) ?_
            refine wGet (v := .ref (ad (3 + 4 * j))) K hw hiX0 (wB_lane hj) rfl 0 (by decide) (by decide +kernel) rfl dX2_change_61 ?_
            refine lv_iload_n hx hb dX2_change_64 rfl (lv_at hl 4 rfl) ?_
            refine lv_iload_n hx hb dX2_change_65 rfl (lv_at hl 2 rfl) ?_
            refine lv_iload_n hx hb dX2_change_66 rfl (lv_at hl 3 rfl) ?_
            refine lv_aload hx hb dX2_change_67 (lv_at hl 0 rfl) ?_
            refine wGet (v := .ref (ad (3 + 4 * j))) K hw hiX0 (wB_lane hj) rfl 0 (by decide) (by decide +kernel) rfl dX2_change_69 ?_
            refine lv_iload_n hx hb dX2_change_72 rfl (lv_at hl 4 rfl) ?_
            refine wIald (v := S.1 j q) K hw (wB_cells hj) (vp_in_nI hq (by omega)) (by rw [nI_clamp (by omega)]) dX2_change_73 ?_
            refine lv_iload hx hb dX2_change_74 (lv_at hl 5 rfl) ?_
            refine wCallS (As := [.int (nI j), .int (nI y), .int (S.1 j q), .int v]) (rest := [.int (nI q), .ref (ad (3 + 4 * j))]) K hw (mX2_changed l E (wB E ad S) j hj y hy (S.1 j q) v) (va_cwS 4 hts gX2_change_X2_changed rfl rfl rfl (by decide +kernel) ⟨Nat.le_of_ble_eq_true rfl, Nat.le_of_ble_eq_true rfl⟩)  rfl hl.1 rfl (Nat.le_of_ble_eq_true rfl) dX2_change_76 ⟨Nat.zero_le _, Nat.zero_le _⟩ (fun r_76 w' H locs hr hw => ?_)
            obtain ⟨rfl, rfl⟩ := hr
            refine wIast K hw (wB_cells hj) (vp_in_nI hq (by omega)) dX2_change_79 (wB_sCellI hj (nI_clamp (by omega)) _) (fun H locs hw => ?_)
            refine lv_aload hx hb dX2_change_80 (lv_at hl 0 rfl) ?_
            refine wGet (v := .ref (ad (3 + 4 * j))) K hw hiX0 (wB_lane hj) rfl 0 (by decide) (by decide +kernel) rfl dX2_change_82 ?_
            refine lv_iload_n hx hb dX2_change_85 rfl (lv_at hl 4 rfl) ?_
            refine wIald (v := chg j (nI y) (S.1 j q) v) K hw (wB_cells hj) (vp_in_nI hq (by omega)) (by rw [nI_clamp (by omega)]; exact sC_self) dX2_change_86 ?_
            exact wRetI K hw dX2_change_87 (pst (by rw [sp_change, if_pos hl0, if_pos hg, kN_nI (by omega), if_neg h2, if_pos h3, kN_nI (by omega)]))
          · have h3 := bI_f hr47 c_50
            refine lv_aload hx hb dX2_change_53 (lv_at hl 0 rfl) ?_
            refine wCallV (As := []) (rest := []) K hw (mX0_refuseOut l E ad S j hj) (cwV 0 hts gX2_change_X0_refuseOut rfl rfl rfl (by decide +kernel) ⟨Nat.le_of_ble_eq_true rfl, Nat.le_of_ble_eq_true rfl⟩) (wB_lane hj) rfl rfl hl.1 rfl (Nat.le_of_ble_eq_true rfl) dX2_change_55 ⟨Nat.zero_le _, Nat.zero_le _⟩ (fun r_55 w' H locs hr hw => ?_)
            obtain ⟨rfl, rfl⟩ := hr
            exact wRetI K hw dX2_change_58 (pst (by rw [sp_change, if_pos hl0, if_pos hg, kN_nI (by omega), if_neg h2, if_neg h3]))
        · have h2 := bI_t hr32 c_35
          refine lv_aload hx hb dX2_change_38 (lv_at hl 0 rfl) ?_
          refine wCallV (As := []) (rest := []) K hw (mX0_refuseOff l E ad S j hj) (cwV 0 hts gX2_change_X0_refuseOff rfl rfl rfl (by decide +kernel) ⟨Nat.le_of_ble_eq_true rfl, Nat.le_of_ble_eq_true rfl⟩) (wB_lane hj) rfl rfl hl.1 rfl (Nat.le_of_ble_eq_true rfl) dX2_change_40 ⟨Nat.zero_le _, Nat.zero_le _⟩ (fun r_40 w' H locs hr hw => ?_)
          obtain ⟨rfl, rfl⟩ := hr
          exact wRetI K hw dX2_change_43 (pst (by rw [sp_change, if_pos hl0, if_pos hg, kN_nI (by omega), if_pos h2]))
      · have hg : ¬ (¬ way < 0 ∧ ¬ 4 ≤ way) := fun q => q.2 (Int32.not_lt.mp c_16)
        refine lv_ldc (v := (-1000002)) hx hb hown (hts (.constant RX2 56 (-1000002)) (by decide +kernel)) dX2_change_19 ?_
        exact wRetI K hw dX2_change_21 (pst (by rw [sp_change, if_pos hl0, if_neg hg]))
  · have hl0 := bI_f hr1 c_4
    refine lv_ldc (v := (-1000001)) hx hb hown (hts (.constant RX2 20 (-1000001)) (by decide +kernel)) dX2_change_7 ?_
    exact wRetI K hw dX2_change_9 (pst (by rw [sp_change, if_neg hl0]))
set_option maxHeartbeats 4000000 in
set_option maxRecDepth 100000 in
theorem mX2_rule (l : Launch) (E : wE) (ad : Nat → Nat) (S : SS) (hI : Inv S) (lane : Int32) (x : Int32) (y : Int32) : MCi l E yX2_rule wsX2_rule { frames := 1, cells := 0, slots := 0, locals := 23 } [.ref (ad 0), .int lane, .int x, .int y] (wB E ad S) (fun r w => r = (sp_rule S lane x y).1 ∧ w = wB E ad (sp_rule S lane x y).2) := by
  refine wEnterI (cc := cX2_rule) (nL := 4) (ret := (some .int)) (own := RX2) (by decide) rfl rfl (Nat.le_of_ble_eq_true rfl) ?_
  intro p e s m below meth c A ls K hl hw
  have hl : lv_has ls 4 [(0, .ref (ad 0)), (1, .int lane), (2, .int x), (3, .int y)] := hl
  obtain ⟨hx, hb, -, hml, hown, hts, -, -, -⟩ := id K
  have hiX2 : ∀ w ∈ wsX20, w ∈ wsX2_rule := by decide +kernel
  have hiX0 : ∀ w ∈ wsX00, w ∈ wsX2_rule := by decide +kernel
  refine lv_iload_n hx hb dX2_rule_0 rfl (lv_at hl 1 rfl) ?_
  refine wCallS (As := [.int lane]) (rest := []) K hw (mX2_isLane l E (wB E ad S) lane) (va_cwS 1 hts gX2_rule_X2_isLane rfl rfl rfl (by decide +kernel) ⟨Nat.le_of_ble_eq_true rfl, Nat.le_of_ble_eq_true rfl⟩)  rfl hl.1 rfl (Nat.le_of_ble_eq_true rfl) dX2_rule_1 ⟨Nat.zero_le _, Nat.zero_le _⟩ (fun r_1 w' H locs hr hw => ?_)
  obtain ⟨hr1, rfl⟩ := hr
  refine lv_if_ne (tgt := 10) hx hb dX2_rule_4 (by decide) (fun c_4 => ?_) (fun c_4 => ?_)
  · have hl0 := bI_t hr1 c_4
    obtain ⟨j, hj, rfl⟩ := isl_of hl0
    refine lv_iload_n hx hb dX2_rule_10 rfl (lv_at hl 2 rfl) ?_
    refine lv_bipush (v := 16) hx hb dX2_rule_11 (by decide) ?_
    refine lv_icmp_gt (tgt := 22) hx hb dX2_rule_13 (by decide) (fun c_13 => ?_) (fun c_13 => ?_)
    · have hg : ¬ (¬ 16 < x ∧ ¬ 16 < y) := fun q => q.1 c_13
      refine lv_ldc (v := (-1000003)) hx hb hown (hts (.constant RX2 21 (-1000003)) (by decide +kernel)) dX2_rule_22 ?_
      exact wRetI K hw dX2_rule_24 (pst (by rw [sp_rule, if_pos hl0, if_neg hg]))
    · refine lv_iload_n hx hb dX2_rule_16 rfl (lv_at hl 3 rfl) ?_
      refine lv_bipush (v := 16) hx hb dX2_rule_17 (by decide) ?_
      refine lv_icmp_le (tgt := 25) hx hb dX2_rule_19 (by decide) (fun c_19 => ?_) (fun c_19 => ?_)
      · have hg : ¬ 16 < x ∧ ¬ 16 < y := ⟨c_13, Int32.not_lt.mpr c_19⟩
        refine lv_iload_n hx hb dX2_rule_25 rfl (lv_at hl 2 rfl) ?_
        refine lv_if_lt (tgt := 33) hx hb dX2_rule_26 (by decide) (fun c_26 => ?_) (fun c_26 => ?_)
        · have hp : ¬ (¬ x < 0 ∧ ¬ y < 0) := fun q => q.1 c_26
          refine lv_ldc (v := (-1000004)) hx hb hown (hts (.constant RX2 22 (-1000004)) (by decide +kernel)) dX2_rule_33 ?_
          exact wRetI K hw dX2_rule_35 (pst (by rw [sp_rule, if_pos hl0, if_pos hg, if_neg hp]))
        · refine lv_iload_n hx hb dX2_rule_29 rfl (lv_at hl 3 rfl) ?_
          refine lv_if_ge (tgt := 36) hx hb dX2_rule_30 (by decide) (fun c_30 => ?_) (fun c_30 => ?_)
          · have hp : ¬ x < 0 ∧ ¬ y < 0 := ⟨c_26, Int32.not_lt.mpr c_30⟩
            refine lv_aload_n hx hb dX2_rule_36 rfl (lv_at hl 0 rfl) ?_
            refine wGet (v := .ref (ad 1)) K hw hiX2 wB_b rfl 0 (by decide) (by decide +kernel) rfl dX2_rule_37 ?_
            refine lv_iload_n hx hb dX2_rule_40 rfl (lv_at hl 1 rfl) ?_
            refine wAald K hw wB_l (in5 hj) (gLanes_at hj) dX2_rule_41 ?_
            refine wGet (v := .ref (ad (4 + 4 * j))) K hw hiX0 (wB_lane hj) rfl 1 (by decide) (by decide +kernel) rfl dX2_rule_42 ?_
            refine lv_iload_n hx hb dX2_rule_45 rfl (lv_at hl 2 rfl) ?_
            refine lv_iload_n hx hb dX2_rule_46 rfl (lv_at hl 3 rfl) ?_
            refine wCallVv (As := [.int x, .int y]) (rest := []) K hw (mX1_renew l E ad S j hj x y) (cwV 2 hts gX2_rule_X1_renew rfl rfl rfl (by decide +kernel) ⟨Nat.le_of_ble_eq_true rfl, Nat.le_of_ble_eq_true rfl⟩) (wB_sheet hj) rfl rfl hl.1 rfl (Nat.le_of_ble_eq_true rfl) dX2_rule_47 ⟨Nat.zero_le _, Nat.zero_le _⟩ (fun w' H locs hr hw => ?_)
            subst hr
            refine lv_iload_n hx hb dX2_rule_50 rfl (lv_at hl 2 rfl) ?_
            refine lv_iload_n hx hb dX2_rule_51 rfl (lv_at hl 3 rfl) ?_
            refine lv_imul hx hb dX2_rule_52 ?_
            exact wRetI K hw dX2_rule_53 (pst (by rw [sp_rule, if_pos hl0, if_pos hg, if_pos hp, kN_nI (by omega)]))
          · have hp : ¬ (¬ x < 0 ∧ ¬ y < 0) := fun q => q.2 (Int32.not_le.mp c_30)
            refine lv_ldc (v := (-1000004)) hx hb hown (hts (.constant RX2 22 (-1000004)) (by decide +kernel)) dX2_rule_33 ?_
            exact wRetI K hw dX2_rule_35 (pst (by rw [sp_rule, if_pos hl0, if_pos hg, if_neg hp]))
      · have hg : ¬ (¬ 16 < x ∧ ¬ 16 < y) := fun q => q.2 (Int32.not_le.mp c_19)
        refine lv_ldc (v := (-1000003)) hx hb hown (hts (.constant RX2 21 (-1000003)) (by decide +kernel)) dX2_rule_22 ?_
        exact wRetI K hw dX2_rule_24 (pst (by rw [sp_rule, if_pos hl0, if_neg hg]))
  · have hl0 := bI_f hr1 c_4
    refine lv_ldc (v := (-1000001)) hx hb hown (hts (.constant RX2 20 (-1000001)) (by decide +kernel)) dX2_rule_7 ?_
    exact wRetI K hw dX2_rule_9 (pst (by rw [sp_rule, if_neg hl0]))
set_option maxHeartbeats 4000000 in
set_option maxRecDepth 100000 in
theorem mX2_lay (l : Launch) (E : wE) (ad : Nat → Nat) (S : SS) (hI : Inv S) (lane : Int32) (row : Int32) (fr : Int32) : MCi l E yX2_lay wsX2_lay { frames := 3, cells := 0, slots := 0, locals := 68 } [.ref (ad 0), .int lane, .int row, .int fr] (wB E ad S) (fun r w => r = (sp_lay S lane row fr).1 ∧ w = wB E ad (sp_lay S lane row fr).2) := by
  refine wEnterI (cc := cX2_lay) (nL := 5) (ret := (some .int)) (own := RX2) (by decide) rfl rfl (Nat.le_of_ble_eq_true rfl) ?_
  intro p e s m below meth c A ls K hl hw
  have hl : lv_has ls 5 [(0, .ref (ad 0)), (1, .int lane), (2, .int row), (3, .int fr)] := hl
  obtain ⟨hx, hb, -, hml, hown, hts, -, -, -⟩ := id K
  have hiX2 : ∀ w ∈ wsX20, w ∈ wsX2_lay := by decide +kernel
  have hiX0 : ∀ w ∈ wsX00, w ∈ wsX2_lay := by decide +kernel
  refine lv_iload_n hx hb dX2_lay_0 rfl (lv_at hl 1 rfl) ?_
  refine wCallS (As := [.int lane]) (rest := []) K hw (mX2_isLane l E (wB E ad S) lane) (va_cwS 1 hts gX2_lay_X2_isLane rfl rfl rfl (by decide +kernel) ⟨Nat.le_of_ble_eq_true rfl, Nat.le_of_ble_eq_true rfl⟩)  rfl hl.1 rfl (Nat.le_of_ble_eq_true rfl) dX2_lay_1 ⟨Nat.zero_le _, Nat.zero_le _⟩ (fun r_1 w' H locs hr hw => ?_)
  obtain ⟨hr1, rfl⟩ := hr
  refine lv_if_ne (tgt := 10) hx hb dX2_lay_4 (by decide) (fun c_4 => ?_) (fun c_4 => ?_)
  · have hl0 := bI_t hr1 c_4
    obtain ⟨j, hj, rfl⟩ := isl_of hl0
    refine lv_aload_n hx hb dX2_lay_10 rfl (lv_at hl 0 rfl) ?_
    refine wGet (v := .ref (ad 1)) K hw hiX2 wB_b rfl 0 (by decide) (by decide +kernel) rfl dX2_lay_11 ?_
    refine lv_iload_n hx hb dX2_lay_14 rfl (lv_at hl 1 rfl) ?_
    refine wAald K hw wB_l (in5 hj) (gLanes_at hj) dX2_lay_15 ?_
    refine lv_astore (lv' := [(4, .ref (ad (2 + 4 * j))), (0, .ref (ad 0)), (1, .int (nI j)), (2, .int row), (3, .int fr)]) hx hb dX2_lay_16 hl (by decide) rfl (fun ls hl => ?_)
    refine lv_aload hx hb dX2_lay_18 (lv_at hl 0 rfl) ?_
    refine wGet (v := .ref (ad (4 + 4 * j))) K hw hiX0 (wB_lane hj) rfl 1 (by decide) (by decide +kernel) rfl dX2_lay_20 ?_
    refine wCallV (As := []) (rest := []) K hw (mX1_isNone l E ad S hI j hj) (cwV 0 hts gX2_lay_X1_isNone rfl rfl rfl (by decide +kernel) ⟨Nat.le_of_ble_eq_true rfl, Nat.le_of_ble_eq_true rfl⟩) (wB_sheet hj) rfl rfl hl.1 rfl (Nat.le_of_ble_eq_true rfl) dX2_lay_23 ⟨Nat.zero_le _, Nat.zero_le _⟩ (fun r_23 w' H locs hr hw => ?_)
    obtain ⟨hr23, rfl⟩ := hr
    refine lv_if_eq (tgt := 32) hx hb dX2_lay_26 (by decide) (fun c_26 => ?_) (fun c_26 => ?_)
    · have h1 := bI_f hr23 c_26
      refine lv_aload hx hb dX2_lay_32 (lv_at hl 0 rfl) ?_
      refine wGet (v := .ref (ad (4 + 4 * j))) K hw hiX0 (wB_lane hj) rfl 1 (by decide) (by decide +kernel) rfl dX2_lay_34 ?_
      refine lv_iload_n hx hb dX2_lay_37 rfl (lv_at hl 3 rfl) ?_
      refine wCallV (As := [.int row]) (rest := []) K hw (mX1_hasRow l E ad S hI j hj row) (cwV 1 hts gX2_lay_X1_hasRow rfl rfl rfl (by decide +kernel) ⟨Nat.le_of_ble_eq_true rfl, Nat.le_of_ble_eq_true rfl⟩) (wB_sheet hj) rfl rfl hl.1 rfl (Nat.le_of_ble_eq_true rfl) dX2_lay_38 ⟨Nat.zero_le _, Nat.zero_le _⟩ (fun r_38 w' H locs hr hw => ?_)
      obtain ⟨hr38, rfl⟩ := hr
      refine lv_if_ne (tgt := 47) hx hb dX2_lay_41 (by decide) (fun c_41 => ?_) (fun c_41 => ?_)
      · have h4 := bI_t hr38 c_41
        have g4 : ¬ row < 0 ∧ ¬ S.2.2 3 j ≤ row := ⟨h4.1, h4.2.2⟩
        refine lv_aload hx hb dX2_lay_47 (lv_at hl 0 rfl) ?_
        refine wCallV (As := []) (rest := []) K hw (mX0_isOff l E ad S hI j hj) (cwV 0 hts gX2_lay_X0_isOff rfl rfl rfl (by decide +kernel) ⟨Nat.le_of_ble_eq_true rfl, Nat.le_of_ble_eq_true rfl⟩) (wB_lane hj) rfl rfl hl.1 rfl (Nat.le_of_ble_eq_true rfl) dX2_lay_49 ⟨Nat.zero_le _, Nat.zero_le _⟩ (fun r_49 w' H locs hr hw => ?_)
        obtain ⟨hr49, rfl⟩ := hr
        refine lv_if_eq (tgt := 61) hx hb dX2_lay_52 (by decide) (fun c_52 => ?_) (fun c_52 => ?_)
        · have h2 := bI_f hr49 c_52
          refine lv_iload_n hx hb dX2_lay_61 rfl (lv_at hl 4 rfl) ?_
          refine lv_if_lt (tgt := 74) hx hb dX2_lay_62 (by decide) (fun c_62 => ?_) (fun c_62 => ?_)
          · have g5 : ¬ (¬ fr < 0 ∧ ¬ S.2.2 1 j < fr) := fun q => q.1 c_62
            refine lv_aload hx hb dX2_lay_74 (lv_at hl 0 rfl) ?_
            refine wCallV (As := []) (rest := []) K hw (mX0_refuseOut l E ad S j hj) (cwV 0 hts gX2_lay_X0_refuseOut rfl rfl rfl (by decide +kernel) ⟨Nat.le_of_ble_eq_true rfl, Nat.le_of_ble_eq_true rfl⟩) (wB_lane hj) rfl rfl hl.1 rfl (Nat.le_of_ble_eq_true rfl) dX2_lay_76 ⟨Nat.zero_le _, Nat.zero_le _⟩ (fun r_76 w' H locs hr hw => ?_)
            obtain ⟨rfl, rfl⟩ := hr
            exact wRetI K hw dX2_lay_79 (pst (by rw [sp_lay, if_pos hl0, kN_nI (by omega), if_neg h1, if_pos g4, if_neg h2, if_neg g5]))
          · refine lv_iload_n hx hb dX2_lay_65 rfl (lv_at hl 4 rfl) ?_
            refine lv_aload hx hb dX2_lay_66 (lv_at hl 0 rfl) ?_
            refine wGet (v := .int (ln S j)) K hw hiX0 (wB_lane hj) rfl 2 (by decide) (by decide +kernel) rfl dX2_lay_68 ?_
            refine lv_icmp_le (tgt := 80) hx hb dX2_lay_71 (by decide) (fun c_71 => ?_) (fun c_71 => ?_)
            · have g5 : ¬ fr < 0 ∧ ¬ S.2.2 1 j < fr := ⟨c_62, by rw [← ln_on h2]; exact Int32.not_lt.mpr c_71⟩
              obtain ⟨n, hn, en⟩ := (hI.1 j hj).2.1
              obtain ⟨rr, hrr, er⟩ := (hI.1 j hj).2.2.2.1
              obtain ⟨a, ha, rfl⟩ := lt_of_ix hrr (by omega) er g4.1 g4.2
              obtain ⟨f, hf, rfl⟩ := le_of_ix (by omega) en c_62 (Int32.not_lt.mp g5.2)
              refine lv_aload hx hb dX2_lay_80 (lv_at hl 0 rfl) ?_
              refine lv_iload_n hx hb dX2_lay_82 rfl (lv_at hl 3 rfl) ?_
              refine lv_iload_n hx hb dX2_lay_83 rfl (lv_at hl 4 rfl) ?_
              refine wCallV (As := [.int (nI a), .int (nI f)]) (rest := []) K hw (mX0_layInto l E ad S j hj hI h2 a f n (by omega) hn en hf) (cwV 2 hts gX2_lay_X0_layInto rfl rfl rfl (by decide +kernel) ⟨Nat.le_of_ble_eq_true rfl, Nat.le_of_ble_eq_true rfl⟩) (wB_lane hj) rfl rfl hl.1 rfl (Nat.le_of_ble_eq_true rfl) dX2_lay_84 ⟨Nat.zero_le _, Nat.zero_le _⟩ (fun r_84 w' H locs hr hw => ?_)
              obtain ⟨rfl, rfl⟩ := hr
              exact wRetI K hw dX2_lay_87 (pst (by rw [sp_lay, if_pos hl0, kN_nI (by omega), if_neg h1, if_pos g4, if_neg h2, if_pos g5, kN_nI (by omega), kN_nI (by omega)]))
            · have g5 : ¬ (¬ fr < 0 ∧ ¬ S.2.2 1 j < fr) := fun q => q.2 (by rw [← ln_on h2]; exact Int32.not_le.mp c_71)
              refine lv_aload hx hb dX2_lay_74 (lv_at hl 0 rfl) ?_
              refine wCallV (As := []) (rest := []) K hw (mX0_refuseOut l E ad S j hj) (cwV 0 hts gX2_lay_X0_refuseOut rfl rfl rfl (by decide +kernel) ⟨Nat.le_of_ble_eq_true rfl, Nat.le_of_ble_eq_true rfl⟩) (wB_lane hj) rfl rfl hl.1 rfl (Nat.le_of_ble_eq_true rfl) dX2_lay_76 ⟨Nat.zero_le _, Nat.zero_le _⟩ (fun r_76 w' H locs hr hw => ?_)
              obtain ⟨rfl, rfl⟩ := hr
              exact wRetI K hw dX2_lay_79 (pst (by rw [sp_lay, if_pos hl0, kN_nI (by omega), if_neg h1, if_pos g4, if_neg h2, if_neg g5]))
        · have h2 := bI_t hr49 c_52
          refine lv_aload hx hb dX2_lay_55 (lv_at hl 0 rfl) ?_
          refine wCallV (As := []) (rest := []) K hw (mX0_refuseOff l E ad S j hj) (cwV 0 hts gX2_lay_X0_refuseOff rfl rfl rfl (by decide +kernel) ⟨Nat.le_of_ble_eq_true rfl, Nat.le_of_ble_eq_true rfl⟩) (wB_lane hj) rfl rfl hl.1 rfl (Nat.le_of_ble_eq_true rfl) dX2_lay_57 ⟨Nat.zero_le _, Nat.zero_le _⟩ (fun r_57 w' H locs hr hw => ?_)
          obtain ⟨rfl, rfl⟩ := hr
          exact wRetI K hw dX2_lay_60 (pst (by rw [sp_lay, if_pos hl0, kN_nI (by omega), if_neg h1, if_pos g4, if_pos h2]))
      · have h4 := bI_f hr38 c_41
        have g4 : ¬ (¬ row < 0 ∧ ¬ S.2.2 3 j ≤ row) := fun q => h4 ⟨q.1, h1, q.2⟩
        refine lv_ldc (v := (-1000008)) hx hb hown (hts (.constant RX2 77 (-1000008)) (by decide +kernel)) dX2_lay_44 ?_
        exact wRetI K hw dX2_lay_46 (pst (by rw [sp_lay, if_pos hl0, kN_nI (by omega), if_neg h1, if_neg g4]))
    · have h1 := bI_t hr23 c_26
      refine lv_ldc (v := (-1000007)) hx hb hown (hts (.constant RX2 73 (-1000007)) (by decide +kernel)) dX2_lay_29 ?_
      exact wRetI K hw dX2_lay_31 (pst (by rw [sp_lay, if_pos hl0, kN_nI (by omega), if_pos h1]))
  · have hl0 := bI_f hr1 c_4
    refine lv_ldc (v := (-1000001)) hx hb hown (hts (.constant RX2 20 (-1000001)) (by decide +kernel)) dX2_lay_7 ?_
    exact wRetI K hw dX2_lay_9 (pst (by rw [sp_lay, if_neg hl0]))
set_option maxHeartbeats 4000000 in
set_option maxRecDepth 100000 in
theorem mX2_at (l : Launch) (E : wE) (ad : Nat → Nat) (S : SS) (hI : Inv S) (lane : Int32) (row : Int32) (col : Int32) : MCi l E yX2_at wsX2_at { frames := 2, cells := 0, slots := 0, locals := 43 } [.ref (ad 0), .int lane, .int row, .int col] (wB E ad S) (fun r w => r = (sp_at S lane row col).1 ∧ w = wB E ad (sp_at S lane row col).2) := by
  refine wEnterI (cc := cX2_at) (nL := 5) (ret := (some .int)) (own := RX2) (by decide) rfl rfl (Nat.le_of_ble_eq_true rfl) ?_
  intro p e s m below meth c A ls K hl hw
  have hl : lv_has ls 5 [(0, .ref (ad 0)), (1, .int lane), (2, .int row), (3, .int col)] := hl
  obtain ⟨hx, hb, -, hml, hown, hts, -, -, -⟩ := id K
  have hiX2 : ∀ w ∈ wsX20, w ∈ wsX2_at := by decide +kernel
  have hiX0 : ∀ w ∈ wsX00, w ∈ wsX2_at := by decide +kernel
  refine lv_iload_n hx hb dX2_at_0 rfl (lv_at hl 1 rfl) ?_
  refine wCallS (As := [.int lane]) (rest := []) K hw (mX2_isLane l E (wB E ad S) lane) (va_cwS 1 hts gX2_at_X2_isLane rfl rfl rfl (by decide +kernel) ⟨Nat.le_of_ble_eq_true rfl, Nat.le_of_ble_eq_true rfl⟩)  rfl hl.1 rfl (Nat.le_of_ble_eq_true rfl) dX2_at_1 ⟨Nat.zero_le _, Nat.zero_le _⟩ (fun r_1 w' H locs hr hw => ?_)
  obtain ⟨hr1, rfl⟩ := hr
  refine lv_if_ne (tgt := 10) hx hb dX2_at_4 (by decide) (fun c_4 => ?_) (fun c_4 => ?_)
  · have hl0 := bI_t hr1 c_4
    obtain ⟨j, hj, rfl⟩ := isl_of hl0
    refine lv_aload_n hx hb dX2_at_10 rfl (lv_at hl 0 rfl) ?_
    refine wGet (v := .ref (ad 1)) K hw hiX2 wB_b rfl 0 (by decide) (by decide +kernel) rfl dX2_at_11 ?_
    refine lv_iload_n hx hb dX2_at_14 rfl (lv_at hl 1 rfl) ?_
    refine wAald K hw wB_l (in5 hj) (gLanes_at hj) dX2_at_15 ?_
    refine wGet (v := .ref (ad (4 + 4 * j))) K hw hiX0 (wB_lane hj) rfl 1 (by decide) (by decide +kernel) rfl dX2_at_16 ?_
    refine lv_astore (lv' := [(4, .ref (ad (4 + 4 * j))), (0, .ref (ad 0)), (1, .int (nI j)), (2, .int row), (3, .int col)]) hx hb dX2_at_19 hl (by decide) rfl (fun ls hl => ?_)
    refine lv_aload hx hb dX2_at_21 (lv_at hl 0 rfl) ?_
    refine wCallV (As := []) (rest := []) K hw (mX1_isNone l E ad S hI j hj) (cwV 0 hts gX2_at_X1_isNone rfl rfl rfl (by decide +kernel) ⟨Nat.le_of_ble_eq_true rfl, Nat.le_of_ble_eq_true rfl⟩) (wB_sheet hj) rfl rfl hl.1 rfl (Nat.le_of_ble_eq_true rfl) dX2_at_23 ⟨Nat.zero_le _, Nat.zero_le _⟩ (fun r_23 w' H locs hr hw => ?_)
    obtain ⟨hr23, rfl⟩ := hr
    refine lv_if_eq (tgt := 32) hx hb dX2_at_26 (by decide) (fun c_26 => ?_) (fun c_26 => ?_)
    · have h1 := bI_f hr23 c_26
      refine lv_aload hx hb dX2_at_32 (lv_at hl 0 rfl) ?_
      refine lv_iload_n hx hb dX2_at_34 rfl (lv_at hl 3 rfl) ?_
      refine wCallV (As := [.int row]) (rest := []) K hw (mX1_hasRow l E ad S hI j hj row) (cwV 1 hts gX2_at_X1_hasRow rfl rfl rfl (by decide +kernel) ⟨Nat.le_of_ble_eq_true rfl, Nat.le_of_ble_eq_true rfl⟩) (wB_sheet hj) rfl rfl hl.1 rfl (Nat.le_of_ble_eq_true rfl) dX2_at_35 ⟨Nat.zero_le _, Nat.zero_le _⟩ (fun r_35 w' H locs hr hw => ?_)
      obtain ⟨hr35, rfl⟩ := hr
      refine lv_if_ne (tgt := 44) hx hb dX2_at_38 (by decide) (fun c_38 => ?_) (fun c_38 => ?_)
      · have h4 := bI_t hr35 c_38
        have g4 : ¬ row < 0 ∧ ¬ S.2.2 3 j ≤ row := ⟨h4.1, h4.2.2⟩
        refine lv_aload hx hb dX2_at_44 (lv_at hl 0 rfl) ?_
        refine lv_iload_n hx hb dX2_at_46 rfl (lv_at hl 4 rfl) ?_
        refine wCallV (As := [.int col]) (rest := []) K hw (mX1_hasColumn l E ad S j hj col) (cwV 1 hts gX2_at_X1_hasColumn rfl rfl rfl (by decide +kernel) ⟨Nat.le_of_ble_eq_true rfl, Nat.le_of_ble_eq_true rfl⟩) (wB_sheet hj) rfl rfl hl.1 rfl (Nat.le_of_ble_eq_true rfl) dX2_at_47 ⟨Nat.zero_le _, Nat.zero_le _⟩ (fun r_47 w' H locs hr hw => ?_)
        obtain ⟨hr47, rfl⟩ := hr
        refine lv_if_ne (tgt := 56) hx hb dX2_at_50 (by decide) (fun c_50 => ?_) (fun c_50 => ?_)
        · have h5 := bI_t hr47 c_50
          obtain ⟨cc2, hcc, ec⟩ := (hI.1 j hj).2.2.2.2
          obtain ⟨rr, hrr, er⟩ := (hI.1 j hj).2.2.2.1
          obtain ⟨a, ha, rfl⟩ := lt_of_ix hrr (by omega) er g4.1 g4.2
          obtain ⟨b, hb2, rfl⟩ := lt_of_ix hcc (by omega) ec h5.1 h5.2
          refine lv_aload hx hb dX2_at_56 (lv_at hl 0 rfl) ?_
          refine lv_iload_n hx hb dX2_at_58 rfl (lv_at hl 3 rfl) ?_
          refine lv_iload_n hx hb dX2_at_59 rfl (lv_at hl 4 rfl) ?_
          refine wCallV (As := [.int (nI a), .int (nI b)]) (rest := []) K hw (mX1_numberIn l E ad S j hj a b (by omega) (by omega)) (cwV 2 hts gX2_at_X1_numberIn rfl rfl rfl (by decide +kernel) ⟨Nat.le_of_ble_eq_true rfl, Nat.le_of_ble_eq_true rfl⟩) (wB_sheet hj) rfl rfl hl.1 rfl (Nat.le_of_ble_eq_true rfl) dX2_at_60 ⟨Nat.zero_le _, Nat.zero_le _⟩ (fun r_60 w' H locs hr hw => ?_)
          obtain ⟨rfl, rfl⟩ := hr
          exact wRetI K hw dX2_at_63 (pst (by rw [sp_at, if_pos hl0, kN_nI (by omega), if_neg h1, if_pos g4, if_pos h5, kN_nI (by omega), kN_nI (by omega)]))
        · have h5 := bI_f hr47 c_50
          refine lv_ldc (v := (-1000009)) hx hb hown (hts (.constant RX2 85 (-1000009)) (by decide +kernel)) dX2_at_53 ?_
          exact wRetI K hw dX2_at_55 (pst (by rw [sp_at, if_pos hl0, kN_nI (by omega), if_neg h1, if_pos g4, if_neg h5]))
      · have h4 := bI_f hr35 c_38
        have g4 : ¬ (¬ row < 0 ∧ ¬ S.2.2 3 j ≤ row) := fun q => h4 ⟨q.1, h1, q.2⟩
        refine lv_ldc (v := (-1000008)) hx hb hown (hts (.constant RX2 77 (-1000008)) (by decide +kernel)) dX2_at_41 ?_
        exact wRetI K hw dX2_at_43 (pst (by rw [sp_at, if_pos hl0, kN_nI (by omega), if_neg h1, if_neg g4]))
    · have h1 := bI_t hr23 c_26
      refine lv_ldc (v := (-1000007)) hx hb hown (hts (.constant RX2 73 (-1000007)) (by decide +kernel)) dX2_at_29 ?_
      exact wRetI K hw dX2_at_31 (pst (by rw [sp_at, if_pos hl0, kN_nI (by omega), if_pos h1]))
  · have hl0 := bI_f hr1 c_4
    refine lv_ldc (v := (-1000001)) hx hb hown (hts (.constant RX2 20 (-1000001)) (by decide +kernel)) dX2_at_7 ?_
    exact wRetI K hw dX2_at_9 (pst (by rw [sp_at, if_neg hl0]))
set_option maxHeartbeats 4000000 in
set_option maxRecDepth 100000 in
theorem mX2_head (l : Launch) (E : wE) (ad : Nat → Nat) (S : SS) (hI : Inv S) (h : Int32) : MCi l E yX2_head wsX2_head { frames := 0, cells := 0, slots := 0, locals := 0 } [.ref (ad 0), .int h] (wB E ad S) (fun r w => r = (sp_head S h).1 ∧ w = wB E ad (sp_head S h).2) := by
  refine wEnterI (cc := cX2_head) (nL := 3) (ret := (some .int)) (own := RX2) (by decide) rfl rfl (Nat.le_of_ble_eq_true rfl) ?_
  intro p e s m below meth c A ls K hl hw
  have hl : lv_has ls 3 [(0, .ref (ad 0)), (1, .int h)] := hl
  obtain ⟨hx, hb, -, hml, hown, hts, -, -, -⟩ := id K
  have hiX2 : ∀ w ∈ wsX20, w ∈ wsX2_head := by decide +kernel
  refine lv_iload_n hx hb dX2_head_0 rfl (lv_at hl 1 rfl) ?_
  refine lv_bipush (v := 60) hx hb dX2_head_1 (by decide) ?_
  refine lv_icmp_le (tgt := 9) hx hb dX2_head_3 (by decide) (fun c_3 => ?_) (fun c_3 => ?_)
  · refine lv_iload_n hx hb dX2_head_9 rfl (lv_at hl 1 rfl) ?_
    refine lv_if_ge (tgt := 16) hx hb dX2_head_10 (by decide) (fun c_10 => ?_) (fun c_10 => ?_)
    · refine lv_aload_n hx hb dX2_head_16 rfl (lv_at hl 0 rfl) ?_
      refine wGet (v := .int (S.2.2 7 0)) K hw hiX2 wB_b rfl 1 (by decide) (by decide +kernel) rfl dX2_head_17 ?_
      refine lv_istore_n (lv' := [(2, .int (S.2.2 7 0)), (0, .ref (ad 0)), (1, .int h)]) hx hb dX2_head_20 rfl hl (by decide) rfl (fun ls hl => ?_)
      refine lv_aload_n hx hb dX2_head_21 rfl (lv_at hl 1 rfl) ?_
      refine lv_iload_n hx hb dX2_head_22 rfl (lv_at hl 2 rfl) ?_
      refine wPut (ty := .int) K hw hiX2 tyX2 tyX2_ok nmX2 wB_b rfl 1 (by decide) (by decide +kernel) rfl (by decide +kernel) rfl rfl (Nat.le_of_ble_eq_true rfl) dX2_head_23 (wB_sG 0 (by decide) _) (fun H locs hw => ?_)
      refine lv_iload_n hx hb dX2_head_26 rfl (lv_at hl 0 rfl) ?_
      exact wRetI K hw dX2_head_27 (pst (by rw [sp_head, if_pos c_3, if_pos c_10]))
    · refine lv_ldc (v := (-1000004)) hx hb hown (hts (.constant RX2 22 (-1000004)) (by decide +kernel)) dX2_head_13 ?_
      exact wRetI K hw dX2_head_15 (pst (by rw [sp_head, if_pos c_3, if_neg c_10]))
  · refine lv_ldc (v := (-1000003)) hx hb hown (hts (.constant RX2 21 (-1000003)) (by decide +kernel)) dX2_head_6 ?_
    exact wRetI K hw dX2_head_8 (pst (by rw [sp_head, if_neg c_3]))
theorem cnt5 {x : Int32} (h : ¬ x < 5 ∧ ¬ 10 ≤ x) : ∃ j : Nat, j < 5 ∧ x - 5 = nI j := by
  have h5 : (5 : Int32).toInt = 5 := by decide
  have h10 : (10 : Int32).toInt = 10 := by decide
  have a1 : ¬ x.toInt < 5 := fun q => h.1 (by rw [Int32.lt_iff_toInt_lt, h5]; exact q)
  have a2 : ¬ 10 ≤ x.toInt := fun q => h.2 (by rw [Int32.le_iff_toInt_le, h10]; exact q)
  obtain ⟨j, hj, rfl⟩ := nI_of (x := x) (fun q => by rw [Int32.lt_iff_toInt_lt, Int32.toInt_zero] at q; omega)
  rw [nI_toInt hj] at a1 a2
  exact ⟨j - 5, by omega, pk_sub (b := 5) (by omega)⟩
set_option maxHeartbeats 4000000 in
set_option maxRecDepth 100000 in
theorem mX2_count (l : Launch) (E : wE) (ad : Nat → Nat) (S : SS) (hI : Inv S) (x : Int32) : MCi l E yX2_count wsX2_count { frames := 1, cells := 0, slots := 0, locals := 20 } [.ref (ad 0), .int x] (wB E ad S) (fun r w => r = sp_count S x ∧ w = wB E ad S) := by
  refine wEnterI (cc := cX2_count) (nL := 2) (ret := (some .int)) (own := RX2) (by decide) rfl rfl (Nat.le_of_ble_eq_true rfl) ?_
  intro p e s m below meth c A ls K hl hw
  have hl : lv_has ls 2 [(0, .ref (ad 0)), (1, .int x)] := hl
  obtain ⟨hx, hb, -, hml, hown, hts, -, -, -⟩ := id K
  have hiX2 : ∀ w ∈ wsX20, w ∈ wsX2_count := by decide +kernel
  have hiX0 : ∀ w ∈ wsX00, w ∈ wsX2_count := by decide +kernel
  refine lv_iload_n hx hb dX2_count_0 rfl (lv_at hl 1 rfl) ?_
  refine wCallS (As := [.int x]) (rest := []) K hw (mX2_isLane l E (wB E ad S) x) (va_cwS 1 hts gX2_count_X2_isLane rfl rfl rfl (by decide +kernel) ⟨Nat.le_of_ble_eq_true rfl, Nat.le_of_ble_eq_true rfl⟩)  rfl hl.1 rfl (Nat.le_of_ble_eq_true rfl) dX2_count_1 ⟨Nat.zero_le _, Nat.zero_le _⟩ (fun r_1 w' H locs hr hw => ?_)
  obtain ⟨hr1, rfl⟩ := hr
  refine lv_if_eq (tgt := 17) hx hb dX2_count_4 (by decide) (fun c_4 => ?_) (fun c_4 => ?_)
  · have hl0 := bI_f hr1 c_4
    refine lv_iload_n hx hb dX2_count_17 rfl (lv_at hl 1 rfl) ?_
    refine lv_iconst (v := 5) hx hb dX2_count_18 (by decide) ?_
    refine lv_icmp_lt (tgt := 40) hx hb dX2_count_19 (by decide) (fun c_19 => ?_) (fun c_19 => ?_)
    · have hg : ¬ (¬ x < 5 ∧ ¬ 10 ≤ x) := fun q => q.1 c_19
      refine lv_iload_n hx hb dX2_count_40 rfl (lv_at hl 1 rfl) ?_
      by_cases h10 : x = 10
      · subst h10
        refine lv_tableIn (off := 43) (tgt := 84) hx hb dX2_count_41 (by decide +kernel) (by decide +kernel) (by decide +kernel) (by decide) ?_
        refine lv_aload_n hx hb dX2_count_84 rfl (lv_at hl 0 rfl) ?_
        refine wGet (v := .int (S.2.2 7 0)) K hw hiX2 wB_b rfl 1 (by decide) (by decide +kernel) rfl dX2_count_85 ?_
        exact wRetI K hw dX2_count_88 ⟨by rw [sp_count, if_neg hl0, if_neg hg]; rfl, rfl⟩
      by_cases h11 : x = 11
      · subst h11
        refine lv_tableIn (off := 48) (tgt := 89) hx hb dX2_count_41 (by decide +kernel) (by decide +kernel) (by decide +kernel) (by decide) ?_
        refine lv_aload_n hx hb dX2_count_89 rfl (lv_at hl 0 rfl) ?_
        refine wGet (v := .int (S.2.2 7 1)) K hw hiX2 wB_b rfl 2 (by decide) (by decide +kernel) rfl dX2_count_90 ?_
        exact wRetI K hw dX2_count_93 ⟨by rw [sp_count, if_neg hl0, if_neg hg]; rfl, rfl⟩
      by_cases h12 : x = 12
      · subst h12
        refine lv_tableIn (off := 53) (tgt := 94) hx hb dX2_count_41 (by decide +kernel) (by decide +kernel) (by decide +kernel) (by decide) ?_
        refine lv_aload_n hx hb dX2_count_94 rfl (lv_at hl 0 rfl) ?_
        refine wGet (v := .int (S.2.2 7 2)) K hw hiX2 wB_b rfl 3 (by decide) (by decide +kernel) rfl dX2_count_95 ?_
        exact wRetI K hw dX2_count_98 ⟨by rw [sp_count, if_neg hl0, if_neg hg]; rfl, rfl⟩
      by_cases h13 : x = 13
      · subst h13
        refine lv_tableIn (off := 58) (tgt := 99) hx hb dX2_count_41 (by decide +kernel) (by decide +kernel) (by decide +kernel) (by decide) ?_
        refine lv_aload_n hx hb dX2_count_99 rfl (lv_at hl 0 rfl) ?_
        refine wGet (v := .int (S.2.2 7 3)) K hw hiX2 wB_b rfl 4 (by decide) (by decide +kernel) rfl dX2_count_100 ?_
        exact wRetI K hw dX2_count_103 ⟨by rw [sp_count, if_neg hl0, if_neg hg]; rfl, rfl⟩
      by_cases h14 : x = 14
      · subst h14
        refine lv_tableIn (off := 63) (tgt := 104) hx hb dX2_count_41 (by decide +kernel) (by decide +kernel) (by decide +kernel) (by decide) ?_
        refine lv_aload_n hx hb dX2_count_104 rfl (lv_at hl 0 rfl) ?_
        refine wGet (v := .int (S.2.2 7 4)) K hw hiX2 wB_b rfl 5 (by decide) (by decide +kernel) rfl dX2_count_105 ?_
        exact wRetI K hw dX2_count_108 ⟨by rw [sp_count, if_neg hl0, if_neg hg]; rfl, rfl⟩
      by_cases h15 : x = 15
      · subst h15
        refine lv_tableIn (off := 68) (tgt := 109) hx hb dX2_count_41 (by decide +kernel) (by decide +kernel) (by decide +kernel) (by decide) ?_
        refine lv_aload_n hx hb dX2_count_109 rfl (lv_at hl 0 rfl) ?_
        refine wGet (v := .int (S.2.2 7 5)) K hw hiX2 wB_b rfl 6 (by decide) (by decide +kernel) rfl dX2_count_110 ?_
        exact wRetI K hw dX2_count_113 ⟨by rw [sp_count, if_neg hl0, if_neg hg]; rfl, rfl⟩
      by_cases h16 : x = 16
      · subst h16
        refine lv_tableIn (off := 73) (tgt := 114) hx hb dX2_count_41 (by decide +kernel) (by decide +kernel) (by decide +kernel) (by decide) ?_
        refine lv_aload_n hx hb dX2_count_114 rfl (lv_at hl 0 rfl) ?_
        refine wGet (v := .int (S.2.2 7 6)) K hw hiX2 wB_b rfl 7 (by decide) (by decide +kernel) rfl dX2_count_115 ?_
        exact wRetI K hw dX2_count_118 ⟨by rw [sp_count, if_neg hl0, if_neg hg]; rfl, rfl⟩
      have hout : x.toInt < 10 ∨ 16 < x.toInt := by
        have q10 := lv_neT h10 (show (10 : Int32).toInt = 10 by decide)
        have q11 := lv_neT h11 (show (11 : Int32).toInt = 11 by decide)
        have q12 := lv_neT h12 (show (12 : Int32).toInt = 12 by decide)
        have q13 := lv_neT h13 (show (13 : Int32).toInt = 13 by decide)
        have q14 := lv_neT h14 (show (14 : Int32).toInt = 14 by decide)
        have q15 := lv_neT h15 (show (15 : Int32).toInt = 15 by decide)
        have q16 := lv_neT h16 (show (16 : Int32).toInt = 16 by decide)
        omega
      refine lv_tableOut (tgt := 119) hx hb dX2_count_41 hout (by decide) ?_
      refine lv_iconst (v := 0) hx hb dX2_count_119 (by decide) ?_
      exact wRetI K hw dX2_count_120 ⟨by rw [sp_count, if_neg hl0, if_neg hg, if_neg h10, if_neg h11, if_neg h12, if_neg h13, if_neg h14, if_neg h15, if_neg h16], rfl⟩
    · refine lv_iload_n hx hb dX2_count_22 rfl (lv_at hl 1 rfl) ?_
      refine lv_bipush (v := 10) hx hb dX2_count_23 (by decide) ?_
      refine lv_icmp_ge (tgt := 40) hx hb dX2_count_25 (by decide) (fun c_25 => ?_) (fun c_25 => ?_)
      · have hg : ¬ (¬ x < 5 ∧ ¬ 10 ≤ x) := fun q => q.2 c_25
        refine lv_iload_n hx hb dX2_count_40 rfl (lv_at hl 1 rfl) ?_
        by_cases h10 : x = 10
        · subst h10
          refine lv_tableIn (off := 43) (tgt := 84) hx hb dX2_count_41 (by decide +kernel) (by decide +kernel) (by decide +kernel) (by decide) ?_
          refine lv_aload_n hx hb dX2_count_84 rfl (lv_at hl 0 rfl) ?_
          refine wGet (v := .int (S.2.2 7 0)) K hw hiX2 wB_b rfl 1 (by decide) (by decide +kernel) rfl dX2_count_85 ?_
          exact wRetI K hw dX2_count_88 ⟨by rw [sp_count, if_neg hl0, if_neg hg]; rfl, rfl⟩
        by_cases h11 : x = 11
        · subst h11
          refine lv_tableIn (off := 48) (tgt := 89) hx hb dX2_count_41 (by decide +kernel) (by decide +kernel) (by decide +kernel) (by decide) ?_
          refine lv_aload_n hx hb dX2_count_89 rfl (lv_at hl 0 rfl) ?_
          refine wGet (v := .int (S.2.2 7 1)) K hw hiX2 wB_b rfl 2 (by decide) (by decide +kernel) rfl dX2_count_90 ?_
          exact wRetI K hw dX2_count_93 ⟨by rw [sp_count, if_neg hl0, if_neg hg]; rfl, rfl⟩
        by_cases h12 : x = 12
        · subst h12
          refine lv_tableIn (off := 53) (tgt := 94) hx hb dX2_count_41 (by decide +kernel) (by decide +kernel) (by decide +kernel) (by decide) ?_
          refine lv_aload_n hx hb dX2_count_94 rfl (lv_at hl 0 rfl) ?_
          refine wGet (v := .int (S.2.2 7 2)) K hw hiX2 wB_b rfl 3 (by decide) (by decide +kernel) rfl dX2_count_95 ?_
          exact wRetI K hw dX2_count_98 ⟨by rw [sp_count, if_neg hl0, if_neg hg]; rfl, rfl⟩
        by_cases h13 : x = 13
        · subst h13
          refine lv_tableIn (off := 58) (tgt := 99) hx hb dX2_count_41 (by decide +kernel) (by decide +kernel) (by decide +kernel) (by decide) ?_
          refine lv_aload_n hx hb dX2_count_99 rfl (lv_at hl 0 rfl) ?_
          refine wGet (v := .int (S.2.2 7 3)) K hw hiX2 wB_b rfl 4 (by decide) (by decide +kernel) rfl dX2_count_100 ?_
          exact wRetI K hw dX2_count_103 ⟨by rw [sp_count, if_neg hl0, if_neg hg]; rfl, rfl⟩
        by_cases h14 : x = 14
        · subst h14
          refine lv_tableIn (off := 63) (tgt := 104) hx hb dX2_count_41 (by decide +kernel) (by decide +kernel) (by decide +kernel) (by decide) ?_
          refine lv_aload_n hx hb dX2_count_104 rfl (lv_at hl 0 rfl) ?_
          refine wGet (v := .int (S.2.2 7 4)) K hw hiX2 wB_b rfl 5 (by decide) (by decide +kernel) rfl dX2_count_105 ?_
          exact wRetI K hw dX2_count_108 ⟨by rw [sp_count, if_neg hl0, if_neg hg]; rfl, rfl⟩
        by_cases h15 : x = 15
        · subst h15
          refine lv_tableIn (off := 68) (tgt := 109) hx hb dX2_count_41 (by decide +kernel) (by decide +kernel) (by decide +kernel) (by decide) ?_
          refine lv_aload_n hx hb dX2_count_109 rfl (lv_at hl 0 rfl) ?_
          refine wGet (v := .int (S.2.2 7 5)) K hw hiX2 wB_b rfl 6 (by decide) (by decide +kernel) rfl dX2_count_110 ?_
          exact wRetI K hw dX2_count_113 ⟨by rw [sp_count, if_neg hl0, if_neg hg]; rfl, rfl⟩
        by_cases h16 : x = 16
        · subst h16
          refine lv_tableIn (off := 73) (tgt := 114) hx hb dX2_count_41 (by decide +kernel) (by decide +kernel) (by decide +kernel) (by decide) ?_
          refine lv_aload_n hx hb dX2_count_114 rfl (lv_at hl 0 rfl) ?_
          refine wGet (v := .int (S.2.2 7 6)) K hw hiX2 wB_b rfl 7 (by decide) (by decide +kernel) rfl dX2_count_115 ?_
          exact wRetI K hw dX2_count_118 ⟨by rw [sp_count, if_neg hl0, if_neg hg]; rfl, rfl⟩
        have hout : x.toInt < 10 ∨ 16 < x.toInt := by
          have q10 := lv_neT h10 (show (10 : Int32).toInt = 10 by decide)
          have q11 := lv_neT h11 (show (11 : Int32).toInt = 11 by decide)
          have q12 := lv_neT h12 (show (12 : Int32).toInt = 12 by decide)
          have q13 := lv_neT h13 (show (13 : Int32).toInt = 13 by decide)
          have q14 := lv_neT h14 (show (14 : Int32).toInt = 14 by decide)
          have q15 := lv_neT h15 (show (15 : Int32).toInt = 15 by decide)
          have q16 := lv_neT h16 (show (16 : Int32).toInt = 16 by decide)
          omega
        refine lv_tableOut (tgt := 119) hx hb dX2_count_41 hout (by decide) ?_
        refine lv_iconst (v := 0) hx hb dX2_count_119 (by decide) ?_
        exact wRetI K hw dX2_count_120 ⟨by rw [sp_count, if_neg hl0, if_neg hg, if_neg h10, if_neg h11, if_neg h12, if_neg h13, if_neg h14, if_neg h15, if_neg h16], rfl⟩
      · have hg : ¬ x < 5 ∧ ¬ 10 ≤ x := ⟨c_19, c_25⟩
        obtain ⟨j, hj, ej⟩ := cnt5 hg
        refine lv_aload_n hx hb dX2_count_28 rfl (lv_at hl 0 rfl) ?_
        refine wGet (v := .ref (ad 1)) K hw hiX2 wB_b rfl 0 (by decide) (by decide +kernel) rfl dX2_count_29 ?_
        refine lv_iload_n hx hb dX2_count_32 rfl (lv_at hl 1 rfl) ?_
        refine lv_iconst (v := 5) hx hb dX2_count_33 (by decide) ?_
        refine lv_isub hx hb dX2_count_34 ?_
        rw [show (x - 5 : Int32) = nI j from ej]
        refine wAald K hw wB_l (in5 hj) (gLanes_at hj) dX2_count_35 ?_
        refine wGet (v := .int (S.2.2 6 j)) K hw hiX0 (wB_lane hj) rfl 4 (by decide) (by decide +kernel) rfl dX2_count_36 ?_
        exact wRetI K hw dX2_count_39 ⟨by rw [sp_count, if_neg hl0, if_pos hg, ej, kN_nI (by omega)], rfl⟩
  · have hl0 := bI_t hr1 c_4
    obtain ⟨j, hj, rfl⟩ := isl_of hl0
    refine lv_aload_n hx hb dX2_count_7 rfl (lv_at hl 0 rfl) ?_
    refine wGet (v := .ref (ad 1)) K hw hiX2 wB_b rfl 0 (by decide) (by decide +kernel) rfl dX2_count_8 ?_
    refine lv_iload_n hx hb dX2_count_11 rfl (lv_at hl 1 rfl) ?_
    refine wAald K hw wB_l (in5 hj) (gLanes_at hj) dX2_count_12 ?_
    refine wGet (v := .int (S.2.2 5 j)) K hw hiX0 (wB_lane hj) rfl 3 (by decide) (by decide +kernel) rfl dX2_count_13 ?_
    exact wRetI K hw dX2_count_16 ⟨by rw [sp_count, if_pos hl0, kN_nI (by omega)], rfl⟩
