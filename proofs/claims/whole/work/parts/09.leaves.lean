/-! leaves of the class: the methods of a lane and of a sheet, isLane -/
theorem bI_1 {P : Prop} [Decidable P] (h : P) : (1 : Int32) = bI P := (if_pos h).symm
theorem bI_0 {P : Prop} [Decidable P] (h : ¬ P) : (0 : Int32) = bI P := (if_neg h).symm
theorem wB_sNumI {E : wE} {ad : Nat → Nat} {S : SS} {k : Nat} (hk : k < 5) {x : Int32} {i : Nat} (e : x.toNatClampNeg = i) (v : Int32) : (wB E ad S).set (5 + 4 * k) (ad (5 + 4 * k), .inl (E.2 0, 256, .inl (upd (S.2.1 k) x.toNatClampNeg v))) = wB E ad (sN S k i v) := by rw [e]; exact wB_sNum hk i v
theorem wB_sCellI {E : wE} {ad : Nat → Nat} {S : SS} {k : Nat} (hk : k < 5) {x : Int32} {i : Nat} (e : x.toNatClampNeg = i) (v : Int32) : (wB E ad S).set (3 + 4 * k) (ad (3 + 4 * k), .inl (E.2 0, 60, .inl (upd (S.1 k) x.toNatClampNeg v))) = wB E ad (sC S k i v) := by rw [e]; exact wB_sCell hk i v
theorem wM_sCellI {E : wE} {am : Nat → Nat} {S : SS} {x : Int32} {k i : Nat} (hi : i < 60) (e : x.toNatClampNeg = 60 * k + i) (v : Int32) : (wM E am S).set 1 (am 1, .inl (E.2 0, 300, .inl (upd (gC S) x.toNatClampNeg v))) = wM E am (sC S k i v) := by rw [e]; exact wM_sCell hi v
theorem wM_sNumI {E : wE} {am : Nat → Nat} {S : SS} {x : Int32} {k i : Nat} (hi : i < 256) (e : x.toNatClampNeg = 256 * k + i) (v : Int32) : (wM E am S).set 4 (am 4, .inl (E.2 0, 1280, .inl (upd (gN S) x.toNatClampNeg v))) = wM E am (sN S k i v) := by rw [e]; exact wM_sNum hi v
set_option maxHeartbeats 4000000 in
set_option maxRecDepth 100000 in
theorem mX2_isLane (l : Launch) (E : wE) (ws : va_W) (x : Int32) : MCi l E yX2_isLane wsX2_isLane { frames := 0, cells := 0, slots := 0, locals := 0 } [.int x] (ws) (fun r w => r = bI (isl x) ∧ w = ws) := by
  refine wEnterI (cc := cX2_isLane) (nL := 1) (ret := (some .boolean)) (own := RX2) (by decide) rfl rfl (Nat.le_of_ble_eq_true rfl) ?_
  intro p e s m below meth c A ls K hl hw
  have hl : lv_has ls 1 [(0, .int x)] := hl
  obtain ⟨hx, hb, -, hml, hown, hts, -, -, -⟩ := id K
  refine lv_iload_n hx hb dX2_isLane_0 rfl (lv_at hl 0 rfl) ?_
  refine lv_if_lt (tgt := 13) hx hb dX2_isLane_1 (by decide) (fun c_1 => ?_) (fun c_1 => ?_)
  · refine lv_iconst (v := 0) hx hb dX2_isLane_13 (by decide) ?_
    exact wRetZ K hw dX2_isLane_14 rfl ⟨bI_0 (fun q => q.1 c_1), rfl⟩
  · refine lv_iload_n hx hb dX2_isLane_4 rfl (lv_at hl 0 rfl) ?_
    refine lv_iconst (v := 5) hx hb dX2_isLane_5 (by decide) ?_
    refine lv_icmp_ge (tgt := 13) hx hb dX2_isLane_6 (by decide) (fun c_6 => ?_) (fun c_6 => ?_)
    · refine lv_iconst (v := 0) hx hb dX2_isLane_13 (by decide) ?_
      exact wRetZ K hw dX2_isLane_14 rfl ⟨bI_0 (fun q => q.2 c_6), rfl⟩
    · refine lv_iconst (v := 1) hx hb dX2_isLane_9 (by decide) ?_
      refine lv_goto (tgt := 14) hx hb dX2_isLane_10 (by decide) ?_
      exact wRetZ K hw dX2_isLane_14 rfl ⟨bI_1 ⟨c_1, c_6⟩, rfl⟩
set_option maxHeartbeats 4000000 in
set_option maxRecDepth 100000 in
theorem mX0_isOff (l : Launch) (E : wE) (ad : Nat → Nat) (S : SS) (hI : Inv S) (k : Nat) (hk : k < 5) : MCi l E yX0_isOff wsX0_isOff { frames := 0, cells := 0, slots := 0, locals := 0 } [.ref (ad (2 + 4 * k))] (wB E ad S) (fun r w => r = bI (S.2.2 0 k = 0) ∧ w = wB E ad S) := by
  refine wEnterI (cc := cX0_isOff) (nL := 1) (ret := (some .boolean)) (own := RX0) (by decide) rfl rfl (Nat.le_of_ble_eq_true rfl) ?_
  intro p e s m below meth c A ls K hl hw
  have hl : lv_has ls 1 [(0, .ref (ad (2 + 4 * k)))] := hl
  obtain ⟨hx, hb, -, hml, hown, hts, -, -, -⟩ := id K
  have hiX0 : ∀ w ∈ wsX00, w ∈ wsX0_isOff := by decide +kernel
  refine lv_aload_n hx hb dX0_isOff_0 rfl (lv_at hl 0 rfl) ?_
  refine wGet (v := .int (ln S k)) K hw hiX0 (wB_lane hk) rfl 2 (by decide) (by decide +kernel) rfl dX0_isOff_1 ?_
  refine lv_iconst (v := (-1)) hx hb dX0_isOff_4 (by decide) ?_
  refine lv_icmp_ne (tgt := 12) hx hb dX0_isOff_5 (by decide) (fun c_5 => ?_) (fun c_5 => ?_)
  · refine lv_iconst (v := 0) hx hb dX0_isOff_12 (by decide) ?_
    exact wRetZ K hw dX0_isOff_13 rfl ⟨bI_0 (fun q => c_5 ((hI.off hk).mpr q)), rfl⟩
  · refine lv_iconst (v := 1) hx hb dX0_isOff_8 (by decide) ?_
    refine lv_goto (tgt := 13) hx hb dX0_isOff_9 (by decide) ?_
    exact wRetZ K hw dX0_isOff_13 rfl ⟨bI_1 ((hI.off hk).mp c_5), rfl⟩
set_option maxHeartbeats 4000000 in
set_option maxRecDepth 100000 in
theorem mX0_hasCell (l : Launch) (E : wE) (ad : Nat → Nat) (S : SS) (hI : Inv S) (k : Nat) (hk : k < 5) (i : Int32) : MCi l E yX0_hasCell wsX0_hasCell { frames := 0, cells := 0, slots := 0, locals := 0 } [.ref (ad (2 + 4 * k)), .int i] (wB E ad S) (fun r w => r = bI (hsC S k i) ∧ w = wB E ad S) := by
  refine wEnterI (cc := cX0_hasCell) (nL := 2) (ret := (some .boolean)) (own := RX0) (by decide) rfl rfl (Nat.le_of_ble_eq_true rfl) ?_
  intro p e s m below meth c A ls K hl hw
  have hl : lv_has ls 2 [(0, .ref (ad (2 + 4 * k))), (1, .int i)] := hl
  obtain ⟨hx, hb, -, hml, hown, hts, -, -, -⟩ := id K
  have hiX0 : ∀ w ∈ wsX00, w ∈ wsX0_hasCell := by decide +kernel
  refine lv_iload_n hx hb dX0_hasCell_0 rfl (lv_at hl 1 rfl) ?_
  refine lv_if_lt (tgt := 16) hx hb dX0_hasCell_1 (by decide) (fun c_1 => ?_) (fun c_1 => ?_)
  · refine lv_iconst (v := 0) hx hb dX0_hasCell_16 (by decide) ?_
    exact wRetZ K hw dX0_hasCell_17 rfl ⟨bI_0 (fun q => q.2.1 c_1), rfl⟩
  · refine lv_iload_n hx hb dX0_hasCell_4 rfl (lv_at hl 1 rfl) ?_
    refine lv_aload_n hx hb dX0_hasCell_5 rfl (lv_at hl 0 rfl) ?_
    refine wGet (v := .int (ln S k)) K hw hiX0 (wB_lane hk) rfl 2 (by decide) (by decide +kernel) rfl dX0_hasCell_6 ?_
    refine lv_icmp_ge (tgt := 16) hx hb dX0_hasCell_9 (by decide) (fun c_9 => ?_) (fun c_9 => ?_)
    · refine lv_iconst (v := 0) hx hb dX0_hasCell_16 (by decide) ?_
      exact wRetZ K hw dX0_hasCell_17 rfl ⟨bI_0 (fun q => ((hI.hc hk c_1).mpr q) c_9), rfl⟩
    · refine lv_iconst (v := 1) hx hb dX0_hasCell_12 (by decide) ?_
      refine lv_goto (tgt := 17) hx hb dX0_hasCell_13 (by decide) ?_
      exact wRetZ K hw dX0_hasCell_17 rfl ⟨bI_1 ((hI.hc hk c_1).mp c_9), rfl⟩
set_option maxHeartbeats 4000000 in
set_option maxRecDepth 100000 in
theorem mX0_turnOff (l : Launch) (E : wE) (ad : Nat → Nat) (S : SS) (k : Nat) (hk : k < 5) : MCv l E yX0_turnOff wsX0_turnOff { frames := 0, cells := 0, slots := 0, locals := 0 } [.ref (ad (2 + 4 * k))] (wB E ad S) (fun w => w = wB E ad (sV S 0 k 0)) := by
  refine wEnterV (cc := cX0_turnOff) (nL := 1) (ret := none) (own := RX0) (by decide) rfl rfl (Nat.le_of_ble_eq_true rfl) ?_
  intro p e s m below meth c A ls K hl hw hin
  have hl : lv_has ls 1 [(0, .ref (ad (2 + 4 * k)))] := hl
  obtain ⟨hx, hb, -, hml, hown, hts, -, -, -⟩ := id K
  have hiX0 : ∀ w ∈ wsX00, w ∈ wsX0_turnOff := by decide +kernel
  refine lv_aload_n hx hb dX0_turnOff_0 rfl (lv_at hl 0 rfl) ?_
  refine lv_iconst (v := (-1)) hx hb dX0_turnOff_1 (by decide) ?_
  refine wPut (ty := .int) K hw hiX0 tyX0 tyX0_ok nmX0 (wB_lane hk) rfl 2 (by decide) (by decide +kernel) rfl (by decide +kernel) rfl rfl (Nat.le_of_ble_eq_true rfl) dX0_turnOff_2 (wB_sOff hk) (fun H locs hw => ?_)
  exact wRetV K hw dX0_turnOff_5 rfl
set_option maxHeartbeats 4000000 in
set_option maxRecDepth 100000 in
theorem mX0_refuseOff (l : Launch) (E : wE) (ad : Nat → Nat) (S : SS) (k : Nat) (hk : k < 5) : MCi l E yX0_refuseOff wsX0_refuseOff { frames := 0, cells := 0, slots := 0, locals := 0 } [.ref (ad (2 + 4 * k))] (wB E ad S) (fun r w => r = (xOff S k).1 ∧ w = wB E ad (xOff S k).2) := by
  refine wEnterI (cc := cX0_refuseOff) (nL := 1) (ret := (some .int)) (own := RX0) (by decide) rfl rfl (Nat.le_of_ble_eq_true rfl) ?_
  intro p e s m below meth c A ls K hl hw
  have hl : lv_has ls 1 [(0, .ref (ad (2 + 4 * k)))] := hl
  obtain ⟨hx, hb, -, hml, hown, hts, -, -, -⟩ := id K
  have hiX0 : ∀ w ∈ wsX00, w ∈ wsX0_refuseOff := by decide +kernel
  refine lv_aload_n hx hb dX0_refuseOff_0 rfl (lv_at hl 0 rfl) ?_
  refine lv_dup hx hb dX0_refuseOff_1 rfl ?_
  refine wGet (v := .int (S.2.2 5 k)) K hw hiX0 (wB_lane hk) rfl 3 (by decide) (by decide +kernel) rfl dX0_refuseOff_2 ?_
  refine lv_iconst (v := 1) hx hb dX0_refuseOff_5 (by decide) ?_
  refine lv_iadd hx hb dX0_refuseOff_6 ?_
  refine wPut (ty := .int) K hw hiX0 tyX0 tyX0_ok nmX0 (wB_lane hk) rfl 3 (by decide) (by decide +kernel) rfl (by decide +kernel) rfl rfl (Nat.le_of_ble_eq_true rfl) dX0_refuseOff_7 (wB_sOffs hk _) (fun H locs hw => ?_)
  refine lv_ldc (v := (-1000005)) hx hb hown (hts (.constant RX0 29 (-1000005)) (by decide +kernel)) dX0_refuseOff_10 ?_
  exact wRetI K hw dX0_refuseOff_12 ⟨rfl, rfl⟩
set_option maxHeartbeats 4000000 in
set_option maxRecDepth 100000 in
theorem mX0_refuseOut (l : Launch) (E : wE) (ad : Nat → Nat) (S : SS) (k : Nat) (hk : k < 5) : MCi l E yX0_refuseOut wsX0_refuseOut { frames := 0, cells := 0, slots := 0, locals := 0 } [.ref (ad (2 + 4 * k))] (wB E ad S) (fun r w => r = (xOut S k).1 ∧ w = wB E ad (xOut S k).2) := by
  refine wEnterI (cc := cX0_refuseOut) (nL := 1) (ret := (some .int)) (own := RX0) (by decide) rfl rfl (Nat.le_of_ble_eq_true rfl) ?_
  intro p e s m below meth c A ls K hl hw
  have hl : lv_has ls 1 [(0, .ref (ad (2 + 4 * k)))] := hl
  obtain ⟨hx, hb, -, hml, hown, hts, -, -, -⟩ := id K
  have hiX0 : ∀ w ∈ wsX00, w ∈ wsX0_refuseOut := by decide +kernel
  refine lv_aload_n hx hb dX0_refuseOut_0 rfl (lv_at hl 0 rfl) ?_
  refine lv_dup hx hb dX0_refuseOut_1 rfl ?_
  refine wGet (v := .int (S.2.2 6 k)) K hw hiX0 (wB_lane hk) rfl 4 (by decide) (by decide +kernel) rfl dX0_refuseOut_2 ?_
  refine lv_iconst (v := 1) hx hb dX0_refuseOut_5 (by decide) ?_
  refine lv_iadd hx hb dX0_refuseOut_6 ?_
  refine wPut (ty := .int) K hw hiX0 tyX0 tyX0_ok nmX0 (wB_lane hk) rfl 4 (by decide) (by decide +kernel) rfl (by decide +kernel) rfl rfl (Nat.le_of_ble_eq_true rfl) dX0_refuseOut_7 (wB_sOuts hk _) (fun H locs hw => ?_)
  refine lv_ldc (v := (-1000006)) hx hb hown (hts (.constant RX0 33 (-1000006)) (by decide +kernel)) dX0_refuseOut_10 ?_
  exact wRetI K hw dX0_refuseOut_12 ⟨rfl, rfl⟩
set_option maxHeartbeats 4000000 in
set_option maxRecDepth 100000 in
theorem mX1_isNone (l : Launch) (E : wE) (ad : Nat → Nat) (S : SS) (hI : Inv S) (k : Nat) (hk : k < 5) : MCi l E yX1_isNone wsX1_isNone { frames := 0, cells := 0, slots := 0, locals := 0 } [.ref (ad (4 + 4 * k))] (wB E ad S) (fun r w => r = bI (S.2.2 2 k = 0) ∧ w = wB E ad S) := by
  refine wEnterI (cc := cX1_isNone) (nL := 1) (ret := (some .boolean)) (own := RX1) (by decide) rfl rfl (Nat.le_of_ble_eq_true rfl) ?_
  intro p e s m below meth c A ls K hl hw
  have hl : lv_has ls 1 [(0, .ref (ad (4 + 4 * k)))] := hl
  obtain ⟨hx, hb, -, hml, hown, hts, -, -, -⟩ := id K
  have hiX1 : ∀ w ∈ wsX10, w ∈ wsX1_isNone := by decide +kernel
  refine lv_aload_n hx hb dX1_isNone_0 rfl (lv_at hl 0 rfl) ?_
  refine wGet (v := .int (rn S k)) K hw hiX1 (wB_sheet hk) rfl 1 (by decide) (by decide +kernel) rfl dX1_isNone_1 ?_
  refine lv_iconst (v := (-1)) hx hb dX1_isNone_4 (by decide) ?_
  refine lv_icmp_ne (tgt := 12) hx hb dX1_isNone_5 (by decide) (fun c_5 => ?_) (fun c_5 => ?_)
  · refine lv_iconst (v := 0) hx hb dX1_isNone_12 (by decide) ?_
    exact wRetZ K hw dX1_isNone_13 rfl ⟨bI_0 (fun q => c_5 ((hI.none hk).mpr q)), rfl⟩
  · refine lv_iconst (v := 1) hx hb dX1_isNone_8 (by decide) ?_
    refine lv_goto (tgt := 13) hx hb dX1_isNone_9 (by decide) ?_
    exact wRetZ K hw dX1_isNone_13 rfl ⟨bI_1 ((hI.none hk).mp c_5), rfl⟩
set_option maxHeartbeats 4000000 in
set_option maxRecDepth 100000 in
theorem mX1_hasRow (l : Launch) (E : wE) (ad : Nat → Nat) (S : SS) (hI : Inv S) (k : Nat) (hk : k < 5) (i : Int32) : MCi l E yX1_hasRow wsX1_hasRow { frames := 0, cells := 0, slots := 0, locals := 0 } [.ref (ad (4 + 4 * k)), .int i] (wB E ad S) (fun r w => r = bI (¬ i < 0 ∧ ¬ S.2.2 2 k = 0 ∧ ¬ S.2.2 3 k ≤ i) ∧ w = wB E ad S) := by
  refine wEnterI (cc := cX1_hasRow) (nL := 2) (ret := (some .boolean)) (own := RX1) (by decide) rfl rfl (Nat.le_of_ble_eq_true rfl) ?_
  intro p e s m below meth c A ls K hl hw
  have hl : lv_has ls 2 [(0, .ref (ad (4 + 4 * k))), (1, .int i)] := hl
  obtain ⟨hx, hb, -, hml, hown, hts, -, -, -⟩ := id K
  have hiX1 : ∀ w ∈ wsX10, w ∈ wsX1_hasRow := by decide +kernel
  refine lv_iload_n hx hb dX1_hasRow_0 rfl (lv_at hl 1 rfl) ?_
  refine lv_if_lt (tgt := 16) hx hb dX1_hasRow_1 (by decide) (fun c_1 => ?_) (fun c_1 => ?_)
  · refine lv_iconst (v := 0) hx hb dX1_hasRow_16 (by decide) ?_
    exact wRetZ K hw dX1_hasRow_17 rfl ⟨bI_0 (fun q => q.1 c_1), rfl⟩
  · refine lv_iload_n hx hb dX1_hasRow_4 rfl (lv_at hl 1 rfl) ?_
    refine lv_aload_n hx hb dX1_hasRow_5 rfl (lv_at hl 0 rfl) ?_
    refine wGet (v := .int (rn S k)) K hw hiX1 (wB_sheet hk) rfl 1 (by decide) (by decide +kernel) rfl dX1_hasRow_6 ?_
    refine lv_icmp_ge (tgt := 16) hx hb dX1_hasRow_9 (by decide) (fun c_9 => ?_) (fun c_9 => ?_)
    · refine lv_iconst (v := 0) hx hb dX1_hasRow_16 (by decide) ?_
      exact wRetZ K hw dX1_hasRow_17 rfl ⟨bI_0 (fun q => ((hI.hr hk c_1).mpr q.2) c_9), rfl⟩
    · refine lv_iconst (v := 1) hx hb dX1_hasRow_12 (by decide) ?_
      refine lv_goto (tgt := 17) hx hb dX1_hasRow_13 (by decide) ?_
      exact wRetZ K hw dX1_hasRow_17 rfl ⟨bI_1 ⟨c_1, (hI.hr hk c_1).mp c_9⟩, rfl⟩
set_option maxHeartbeats 4000000 in
set_option maxRecDepth 100000 in
theorem mX1_hasColumn (l : Launch) (E : wE) (ad : Nat → Nat) (S : SS) (k : Nat) (hk : k < 5) (i : Int32) : MCi l E yX1_hasColumn wsX1_hasColumn { frames := 0, cells := 0, slots := 0, locals := 0 } [.ref (ad (4 + 4 * k)), .int i] (wB E ad S) (fun r w => r = bI (¬ i < 0 ∧ ¬ S.2.2 4 k ≤ i) ∧ w = wB E ad S) := by
  refine wEnterI (cc := cX1_hasColumn) (nL := 2) (ret := (some .boolean)) (own := RX1) (by decide) rfl rfl (Nat.le_of_ble_eq_true rfl) ?_
  intro p e s m below meth c A ls K hl hw
  have hl : lv_has ls 2 [(0, .ref (ad (4 + 4 * k))), (1, .int i)] := hl
  obtain ⟨hx, hb, -, hml, hown, hts, -, -, -⟩ := id K
  have hiX1 : ∀ w ∈ wsX10, w ∈ wsX1_hasColumn := by decide +kernel
  refine lv_iload_n hx hb dX1_hasColumn_0 rfl (lv_at hl 1 rfl) ?_
  refine lv_if_lt (tgt := 16) hx hb dX1_hasColumn_1 (by decide) (fun c_1 => ?_) (fun c_1 => ?_)
  · refine lv_iconst (v := 0) hx hb dX1_hasColumn_16 (by decide) ?_
    exact wRetZ K hw dX1_hasColumn_17 rfl ⟨bI_0 (fun q => q.1 c_1), rfl⟩
  · refine lv_iload_n hx hb dX1_hasColumn_4 rfl (lv_at hl 1 rfl) ?_
    refine lv_aload_n hx hb dX1_hasColumn_5 rfl (lv_at hl 0 rfl) ?_
    refine wGet (v := .int (S.2.2 4 k)) K hw hiX1 (wB_sheet hk) rfl 2 (by decide) (by decide +kernel) rfl dX1_hasColumn_6 ?_
    refine lv_icmp_ge (tgt := 16) hx hb dX1_hasColumn_9 (by decide) (fun c_9 => ?_) (fun c_9 => ?_)
    · refine lv_iconst (v := 0) hx hb dX1_hasColumn_16 (by decide) ?_
      exact wRetZ K hw dX1_hasColumn_17 rfl ⟨bI_0 (fun q => q.2 c_9), rfl⟩
    · refine lv_iconst (v := 1) hx hb dX1_hasColumn_12 (by decide) ?_
      refine lv_goto (tgt := 17) hx hb dX1_hasColumn_13 (by decide) ?_
      exact wRetZ K hw dX1_hasColumn_17 rfl ⟨bI_1 ⟨c_1, c_9⟩, rfl⟩
set_option maxHeartbeats 4000000 in
set_option maxRecDepth 100000 in
theorem mX1_placeOf (l : Launch) (E : wE) (ws : va_W) (x y : Int32) : MCi l E yX1_placeOf wsX1_placeOf { frames := 0, cells := 0, slots := 0, locals := 0 } [.int x, .int y] (ws) (fun r w => r = x * 16 + y ∧ w = ws) := by
  refine wEnterI (cc := cX1_placeOf) (nL := 2) (ret := (some .int)) (own := RX1) (by decide) rfl rfl (Nat.le_of_ble_eq_true rfl) ?_
  intro p e s m below meth c A ls K hl hw
  have hl : lv_has ls 2 [(0, .int x), (1, .int y)] := hl
  obtain ⟨hx, hb, -, hml, hown, hts, -, -, -⟩ := id K
  refine lv_iload_n hx hb dX1_placeOf_0 rfl (lv_at hl 0 rfl) ?_
  refine lv_bipush (v := 16) hx hb dX1_placeOf_1 (by decide) ?_
  refine lv_imul hx hb dX1_placeOf_3 ?_
  refine lv_iload_n hx hb dX1_placeOf_4 rfl (lv_at hl 1 rfl) ?_
  refine lv_iadd hx hb dX1_placeOf_5 ?_
  exact wRetI K hw dX1_placeOf_6 ⟨rfl, rfl⟩
theorem plc {a b : Nat} : nI a * 16 + nI b = nI (16 * a + b) := by
  rw [show (16 : Int32) = nI 16 from rfl, pk_mul, nI_add, Nat.mul_comm]
set_option maxHeartbeats 4000000 in
set_option maxRecDepth 100000 in
theorem mX1_numberIn (l : Launch) (E : wE) (ad : Nat → Nat) (S : SS) (k : Nat) (hk : k < 5) (a b : Nat) (ha : a < 16) (hb2 : b < 16) : MCi l E yX1_numberIn wsX1_numberIn { frames := 1, cells := 0, slots := 0, locals := 21 } [.ref (ad (4 + 4 * k)), .int (nI a), .int (nI b)] (wB E ad S) (fun r w => r = S.2.1 k (16 * a + b) ∧ w = wB E ad S) := by
  refine wEnterI (cc := cX1_numberIn) (nL := 3) (ret := (some .int)) (own := RX1) (by decide) rfl rfl (Nat.le_of_ble_eq_true rfl) ?_
  intro p e s m below meth c A ls K hl hw
  have hl : lv_has ls 3 [(0, .ref (ad (4 + 4 * k))), (1, .int (nI a)), (2, .int (nI b))] := hl
  obtain ⟨hx, hb, -, hml, hown, hts, -, -, -⟩ := id K
  have hiX1 : ∀ w ∈ wsX10, w ∈ wsX1_numberIn := by decide +kernel
  refine lv_aload_n hx hb dX1_numberIn_0 rfl (lv_at hl 0 rfl) ?_
  refine wGet (v := .ref (ad (5 + 4 * k))) K hw hiX1 (wB_sheet hk) rfl 0 (by decide) (by decide +kernel) rfl dX1_numberIn_1 ?_
  refine lv_iload_n hx hb dX1_numberIn_4 rfl (lv_at hl 1 rfl) ?_
  refine lv_iload_n hx hb dX1_numberIn_5 rfl (lv_at hl 2 rfl) ?_
  refine wCallS (As := [.int (nI a), .int (nI b)]) (rest := [.ref (ad (5 + 4 * k))]) K hw (mX1_placeOf l E (wB E ad S) (nI a) (nI b)) (va_cwS 2 hts gX1_numberIn_X1_placeOf rfl rfl rfl (by decide +kernel) ⟨Nat.le_of_ble_eq_true rfl, Nat.le_of_ble_eq_true rfl⟩)  rfl hl.1 rfl (Nat.le_of_ble_eq_true rfl) dX1_numberIn_6 ⟨Nat.zero_le _, Nat.zero_le _⟩ (fun r_6 w' H locs hr hw => ?_)
  obtain ⟨hr6, rfl⟩ := hr
  rw [plc] at hr6
  subst hr6
  refine wIald (v := S.2.1 k (16 * a + b)) K hw (wB_nums hk) (vp_in_nI (by omega) (by omega)) (by rw [nI_clamp (by omega)]) dX1_numberIn_9 ?_
  exact wRetI K hw dX1_numberIn_10 ⟨rfl, rfl⟩
set_option maxHeartbeats 4000000 in
set_option maxRecDepth 100000 in
theorem mX1_write (l : Launch) (E : wE) (ad : Nat → Nat) (S : SS) (k : Nat) (hk : k < 5) (a b : Nat) (ha : a < 16) (hb2 : b < 16) (v : Int32) : MCv l E yX1_write wsX1_write { frames := 1, cells := 0, slots := 0, locals := 21 } [.ref (ad (4 + 4 * k)), .int (nI a), .int (nI b), .int v] (wB E ad S) (fun w => w = wB E ad (sN S k (16 * a + b) v)) := by
  refine wEnterV (cc := cX1_write) (nL := 4) (ret := none) (own := RX1) (by decide) rfl rfl (Nat.le_of_ble_eq_true rfl) ?_
  intro p e s m below meth c A ls K hl hw hin
  have hl : lv_has ls 4 [(0, .ref (ad (4 + 4 * k))), (1, .int (nI a)), (2, .int (nI b)), (3, .int v)] := hl
  obtain ⟨hx, hb, -, hml, hown, hts, -, -, -⟩ := id K
  have hiX1 : ∀ w ∈ wsX10, w ∈ wsX1_write := by decide +kernel
  refine lv_aload_n hx hb dX1_write_0 rfl (lv_at hl 0 rfl) ?_
  refine wGet (v := .ref (ad (5 + 4 * k))) K hw hiX1 (wB_sheet hk) rfl 0 (by decide) (by decide +kernel) rfl dX1_write_1 ?_
  refine lv_iload_n hx hb dX1_write_4 rfl (lv_at hl 1 rfl) ?_
  refine lv_iload_n hx hb dX1_write_5 rfl (lv_at hl 2 rfl) ?_
  refine wCallS (As := [.int (nI a), .int (nI b)]) (rest := [.ref (ad (5 + 4 * k))]) K hw (mX1_placeOf l E (wB E ad S) (nI a) (nI b)) (va_cwS 2 hts gX1_write_X1_placeOf rfl rfl rfl (by decide +kernel) ⟨Nat.le_of_ble_eq_true rfl, Nat.le_of_ble_eq_true rfl⟩)  rfl hl.1 rfl (Nat.le_of_ble_eq_true rfl) dX1_write_6 ⟨Nat.zero_le _, Nat.zero_le _⟩ (fun r_6 w' H locs hr hw => ?_)
  obtain ⟨hr6, rfl⟩ := hr
  rw [plc] at hr6
  subst hr6
  refine lv_iload_n hx hb dX1_write_9 rfl (lv_at hl 3 rfl) ?_
  refine wIast K hw (wB_nums hk) (vp_in_nI (by omega) (by omega)) dX1_write_10 (wB_sNumI hk (nI_clamp (by omega)) _) (fun H locs hw => ?_)
  exact wRetV K hw dX1_write_11 rfl
