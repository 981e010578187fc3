/-! playing, in the class -/
theorem Inv.setg {S : SS} (h : Inv S) {g : Nat} (h0 : g ≠ 0) (h3 : g ≠ 3) (v : Int32) : Inv (sV S 7 g v) := by
  refine ⟨h.1, ?_, ?_, h.2.2.2⟩
  · obtain ⟨q, hq, e⟩ := h.2.1
    exact ⟨q, hq, (pk_un (f := S.2.2 7) (k := g) (x := v) (Ne.symm h0)).trans e⟩
  · obtain ⟨q, hq, e⟩ := h.2.2.1
    exact ⟨q, hq, (pk_un (f := S.2.2 7) (k := g) (x := v) (Ne.symm h3)).trans e⟩
theorem Inv.sethd {S : SS} (h : Inv S) {q : Nat} {v : Int32} (hq : q ≤ 60) (e : v = nI q) : Inv (sV S 7 0 v) := ⟨h.1, ⟨q, hq, e⟩, h.2.2.1, h.2.2.2⟩
theorem Inv.setmk {S : SS} (h : Inv S) {q : Nat} {v : Int32} (hq : q ≤ 60) (e : v = nI q) : Inv (sV S 7 3 v) := ⟨h.1, h.2.1, ⟨q, hq, e⟩, h.2.2.2⟩
theorem Inv.setc {S : SS} (h : Inv S) {k i : Nat} {v : Int32} (hv : k = 3 → v = 0 ∨ v = 1) : Inv (sC S k i v) := by
  refine ⟨h.1, h.2.1, h.2.2.1, fun a ha => ?_⟩
  show up2 S.1 k i v 3 a = 0 ∨ up2 S.1 k i v 3 a = 1
  by_cases h3 : 3 = k
  · subst h3
    show upd (S.1 3) i v a = 0 ∨ upd (S.1 3) i v a = 1
    by_cases hi : a = i
    · subst hi
      rw [pk_us]
      exact hv rfl
    · rw [pk_un hi]
      exact h.2.2.2 a ha
  · have e : up2 S.1 k i v 3 = S.1 3 := if_neg h3
    rw [e]
    exact h.2.2.2 a ha
theorem Inv.inch {X : SS} (h : Inv X) (hq : ∃ q, q < 60 ∧ X.2.2 7 0 = nI q) : Inv (ihd X) := by
  obtain ⟨q, hq, e⟩ := hq
  exact h.sethd (q := q + 1) (by omega) (by rw [e]; exact nI_1 q)
theorem Inv.onstep {S : SS} (h : Inv S) (hc : hsC S 0 (S.2.2 7 0)) (g : Int32) : Inv (stp S g) := by
  have hq : ∃ q, q < 60 ∧ S.2.2 7 0 = nI q := h.cell (by decide) hc
  unfold stp
  by_cases h1 : g = 46
  · rw [if_pos h1]
    exact (h.setg (by decide) (by decide) _).inch hq
  rw [if_neg h1]
  by_cases h2 : g = 110
  · rw [if_pos h2]
    exact ((((h.setg (by decide) (by decide) _).setg (by decide) (by decide) _).setg (by decide) (by decide) _).setg (by decide) (by decide) _).inch hq
  rw [if_neg h2]
  by_cases h3 : g = 114
  · rw [if_pos h3]
    by_cases ht : 0 < tld S 1 0
    · rw [if_pos ht]
      obtain ⟨q, hq, e⟩ := h.2.2.1
      exact (h.setc (fun q => absurd q (by decide))).sethd hq e
    · rw [if_neg ht]
      exact h.inch hq
  rw [if_neg h3]
  by_cases h4 : g = 116
  · rw [if_pos h4]
    exact (h.setg (by decide) (by decide) _).inch hq
  rw [if_neg h4]
  by_cases h5 : g = 119
  · rw [if_pos h5]
    by_cases ht : 0 < tld S 2 0
    · rw [if_pos ht]
      exact (Inv.setc h (fun q => absurd q (by decide))).inch hq
    · rw [if_neg ht]
      exact h.inch hq
  rw [if_neg h5]
  by_cases h6 : g = 124
  · rw [if_pos h6]
    obtain ⟨q, hq2, e⟩ := h.2.1
    exact (h.setmk hq2 e).inch hq
  · rw [if_neg h6]
    exact (h.setg (by decide) (by decide) _).inch hq
def lwq (S : SS) (k : Nat) : SS := (if 0 < tld S k 0 then up2 S.1 k (kN (S.2.2 7 0)) (S.1 k (kN (S.2.2 7 0)) - 1) else S.1, S.2.1, S.2.2)
theorem tld_pos {S : SS} {k : Nat} (h : 0 < tld S k 0) : hsC S k (S.2.2 7 0) := by
  by_cases q : hsC S k (S.2.2 7 0)
  · exact q
  · rw [tld, if_neg q] at h
    exact absurd h (by decide)
theorem lwq_t {S : SS} {k : Nat} (h : 0 < tld S k 0) : lwq S k = lws S k := by rw [lwq, if_pos h]; rfl
theorem stp_119 {S : SS} : ihd (lwq S 2) = stp S 119 := by
  show _ = if 0 < tld S 2 0 then ihd (lws S 2) else ihd S
  by_cases h : 0 < tld S 2 0
  · rw [if_pos h, lwq, if_pos h]; rfl
  · rw [if_neg h, lwq, if_neg h]
theorem lwq_f {S : SS} {k : Nat} (h : ¬ 0 < tld S k 0) : lwq S k = S := by rw [lwq, if_neg h]
set_option maxHeartbeats 4000000 in
set_option maxRecDepth 100000 in
theorem mX2_told (l : Launch) (E : wE) (ad : Nat → Nat) (S : SS) (hI : Inv S) (k : Nat) (hk : k < 5) (d : Int32) : MCi l E yX2_told wsX2_told { frames := 1, cells := 0, slots := 0, locals := 21 } [.ref (ad 0), .int (nI k), .int d] (wB E ad S) (fun r w => r = tld S k d ∧ w = wB E ad S) := by
  refine wEnterI (cc := cX2_told) (nL := 4) (ret := (some .int)) (own := RX2) (by decide) rfl rfl (Nat.le_of_ble_eq_true rfl) ?_
  intro p e s m below meth c A ls K hl hw
  have hl : lv_has ls 4 [(0, .ref (ad 0)), (1, .int (nI k)), (2, .int d)] := hl
  obtain ⟨hx, hb, -, hml, hown, hts, -, -, -⟩ := id K
  have hiX2 : ∀ w ∈ wsX20, w ∈ wsX2_told := by decide +kernel
  have hiX0 : ∀ w ∈ wsX00, w ∈ wsX2_told := by decide +kernel
  refine lv_aload_n hx hb dX2_told_0 rfl (lv_at hl 0 rfl) ?_
  refine wGet (v := .ref (ad 1)) K hw hiX2 wB_b rfl 0 (by decide) (by decide +kernel) rfl dX2_told_1 ?_
  refine lv_iload_n hx hb dX2_told_4 rfl (lv_at hl 1 rfl) ?_
  refine wAald K hw wB_l (in5 hk) (gLanes_at hk) dX2_told_5 ?_
  refine lv_astore_n (lv' := [(3, .ref (ad (2 + 4 * k))), (0, .ref (ad 0)), (1, .int (nI k)), (2, .int d)]) hx hb dX2_told_6 rfl hl (by decide) rfl (fun ls hl => ?_)
  refine lv_aload_n hx hb dX2_told_7 rfl (lv_at hl 0 rfl) ?_
  refine lv_aload_n hx hb dX2_told_8 rfl (lv_at hl 1 rfl) ?_
  refine wGet (v := .int (S.2.2 7 0)) K hw hiX2 wB_b rfl 1 (by decide) (by decide +kernel) rfl dX2_told_9 ?_
  refine wCallV (As := [.int (S.2.2 7 0)]) (rest := []) K hw (mX0_hasCell l E ad S hI k hk (S.2.2 7 0)) (cwV 1 hts gX2_told_X0_hasCell rfl rfl rfl (by decide +kernel) ⟨Nat.le_of_ble_eq_true rfl, Nat.le_of_ble_eq_true rfl⟩) (wB_lane hk) rfl rfl hl.1 rfl (Nat.le_of_ble_eq_true rfl) dX2_told_12 ⟨Nat.zero_le _, Nat.zero_le _⟩ (fun r_12 w' H locs hr hw => ?_)
  obtain ⟨hr12, rfl⟩ := hr
  refine lv_if_eq (tgt := 30) hx hb dX2_told_15 (by decide) (fun c_15 => ?_) (fun c_15 => ?_)
  · have h := bI_f hr12 c_15
    refine lv_iload_n hx hb dX2_told_30 rfl (lv_at hl 3 rfl) ?_
    exact wRetI K hw dX2_told_31 ⟨by rw [tld, if_neg h], rfl⟩
  · have h := bI_t hr12 c_15
    obtain ⟨q, hq, eq⟩ := hI.cell hk h
    refine lv_aload_n hx hb dX2_told_18 rfl (lv_at hl 0 rfl) ?_
    refine wGet (v := .ref (ad (3 + 4 * k))) K hw hiX0 (wB_lane hk) rfl 0 (by decide) (by decide +kernel) rfl dX2_told_19 ?_
    refine lv_aload_n hx hb dX2_told_22 rfl (lv_at hl 1 rfl) ?_
    refine wGet (v := .int (S.2.2 7 0)) K hw hiX2 wB_b rfl 1 (by decide) (by decide +kernel) rfl dX2_told_23 ?_
    refine wIald (v := S.1 k (kN (S.2.2 7 0))) K hw (wB_cells hk) (by rw [eq]; exact vp_in_nI hq (by omega)) rfl dX2_told_26 ?_
    refine lv_goto (tgt := 31) hx hb dX2_told_27 (by decide) ?_
    exact wRetI K hw dX2_told_31 ⟨by rw [tld, if_pos h], rfl⟩
set_option maxHeartbeats 4000000 in
set_option maxRecDepth 100000 in
theorem mX2_lowered (l : Launch) (E : wE) (ad : Nat → Nat) (S : SS) (hI : Inv S) (k : Nat) (hk : k < 5) : MCi l E yX2_lowered wsX2_lowered { frames := 1, cells := 0, slots := 0, locals := 21 } [.ref (ad 0), .int (nI k)] (wB E ad S) (fun r w => r = bI (0 < tld S k 0) ∧ w = wB E ad (lwq S k)) := by
  refine wEnterI (cc := cX2_lowered) (nL := 3) (ret := (some .boolean)) (own := RX2) (by decide) rfl rfl (Nat.le_of_ble_eq_true rfl) ?_
  intro p e s m below meth c A ls K hl hw
  have hl : lv_has ls 3 [(0, .ref (ad 0)), (1, .int (nI k))] := hl
  obtain ⟨hx, hb, -, hml, hown, hts, -, -, -⟩ := id K
  have hiX2 : ∀ w ∈ wsX20, w ∈ wsX2_lowered := by decide +kernel
  have hiX0 : ∀ w ∈ wsX00, w ∈ wsX2_lowered := by decide +kernel
  refine lv_aload_n hx hb dX2_lowered_0 rfl (lv_at hl 0 rfl) ?_
  refine wGet (v := .ref (ad 1)) K hw hiX2 wB_b rfl 0 (by decide) (by decide +kernel) rfl dX2_lowered_1 ?_
  refine lv_iload_n hx hb dX2_lowered_4 rfl (lv_at hl 1 rfl) ?_
  refine wAald K hw wB_l (in5 hk) (gLanes_at hk) dX2_lowered_5 ?_
  refine lv_astore_n (lv' := [(2, .ref (ad (2 + 4 * k))), (0, .ref (ad 0)), (1, .int (nI k))]) hx hb dX2_lowered_6 rfl hl (by decide) rfl (fun ls hl => ?_)
  refine lv_aload_n hx hb dX2_lowered_7 rfl (lv_at hl 0 rfl) ?_
  refine lv_aload_n hx hb dX2_lowered_8 rfl (lv_at hl 1 rfl) ?_
  refine wGet (v := .int (S.2.2 7 0)) K hw hiX2 wB_b rfl 1 (by decide) (by decide +kernel) rfl dX2_lowered_9 ?_
  refine wCallV (As := [.int (S.2.2 7 0)]) (rest := []) K hw (mX0_hasCell l E ad S hI k hk (S.2.2 7 0)) (cwV 1 hts gX2_lowered_X0_hasCell rfl rfl rfl (by decide +kernel) ⟨Nat.le_of_ble_eq_true rfl, Nat.le_of_ble_eq_true rfl⟩) (wB_lane hk) rfl rfl hl.1 rfl (Nat.le_of_ble_eq_true rfl) dX2_lowered_12 ⟨Nat.zero_le _, Nat.zero_le _⟩ (fun r_12 w' H locs hr hw => ?_)
  obtain ⟨hr12, rfl⟩ := hr
  refine lv_if_eq (tgt := 30) hx hb dX2_lowered_15 (by decide) (fun c_15 => ?_) (fun c_15 => ?_)
  · have h := bI_f hr12 c_15
    have h0 : ¬ 0 < tld S k 0 := fun z => h (tld_pos z)
    refine lv_iconst (v := 0) hx hb dX2_lowered_30 (by decide) ?_
    exact wRetZ K hw dX2_lowered_31 rfl ⟨bI_0 h0, by rw [lwq_f h0]⟩
  · have h := bI_t hr12 c_15
    obtain ⟨q, hq, eq⟩ := hI.cell hk h
    refine lv_aload_n hx hb dX2_lowered_18 rfl (lv_at hl 0 rfl) ?_
    refine wGet (v := .ref (ad (3 + 4 * k))) K hw hiX0 (wB_lane hk) rfl 0 (by decide) (by decide +kernel) rfl dX2_lowered_19 ?_
    refine lv_aload_n hx hb dX2_lowered_22 rfl (lv_at hl 1 rfl) ?_
    refine wGet (v := .int (S.2.2 7 0)) K hw hiX2 wB_b rfl 1 (by decide) (by decide +kernel) rfl dX2_lowered_23 ?_
    refine wIald (v := S.1 k (kN (S.2.2 7 0))) K hw (wB_cells hk) (by rw [eq]; exact vp_in_nI hq (by omega)) rfl dX2_lowered_26 ?_
    refine lv_if_gt (tgt := 32) hx hb dX2_lowered_27 (by decide) (fun c_27 => ?_) (fun c_27 => ?_)
    · have h0 : 0 < tld S k 0 := by rw [tld, if_pos h]; exact c_27
      refine lv_aload_n hx hb dX2_lowered_32 rfl (lv_at hl 0 rfl) ?_
      refine wGet (v := .ref (ad (3 + 4 * k))) K hw hiX0 (wB_lane hk) rfl 0 (by decide) (by decide +kernel) rfl dX2_lowered_33 ?_
      refine lv_aload_n hx hb dX2_lowered_36 rfl (lv_at hl 1 rfl) ?_
      refine wGet (v := .int (S.2.2 7 0)) K hw hiX2 wB_b rfl 1 (by decide) (by decide +kernel) rfl dX2_lowered_37 ?_
      refine lv_dup2_11 hx hb dX2_lowered_40 rfl rfl ?_
      refine wIald (v := S.1 k (kN (S.2.2 7 0))) K hw (wB_cells hk) (by rw [eq]; exact vp_in_nI hq (by omega)) rfl dX2_lowered_41 ?_
      refine lv_iconst (v := 1) hx hb dX2_lowered_42 (by decide) ?_
      refine lv_isub hx hb dX2_lowered_43 ?_
      refine wIast K hw (wB_cells hk) (by rw [eq]; exact vp_in_nI hq (by omega)) dX2_lowered_44 (wB_sCellI hk rfl _) (fun H locs hw => ?_)
      refine lv_iconst (v := 1) hx hb dX2_lowered_45 (by decide) ?_
      exact wRetZ K hw dX2_lowered_46 rfl ⟨bI_1 h0, by rw [lwq_t h0]; rfl⟩
    · have h0 : ¬ 0 < tld S k 0 := by rw [tld, if_pos h]; exact c_27
      refine lv_iconst (v := 0) hx hb dX2_lowered_30 (by decide) ?_
      exact wRetZ K hw dX2_lowered_31 rfl ⟨bI_0 h0, by rw [lwq_f h0]⟩
set_option maxHeartbeats 4000000 in
set_option maxRecDepth 100000 in
theorem mX2_playNote (l : Launch) (E : wE) (ad : Nat → Nat) (S : SS) (hI : Inv S) : MCv l E yX2_playNote wsX2_playNote { frames := 2, cells := 0, slots := 0, locals := 44 } [.ref (ad 0)] (wB E ad S) (fun w => w = wB E ad (nte S)) := by
  refine wEnterV (cc := cX2_playNote) (nL := 2) (ret := none) (own := RX2) (by decide) rfl rfl (Nat.le_of_ble_eq_true rfl) ?_
  intro p e s m below meth c A ls K hl hw hin
  have hl : lv_has ls 2 [(0, .ref (ad 0))] := hl
  obtain ⟨hx, hb, -, hml, hown, hts, -, -, -⟩ := id K
  have hiX2 : ∀ w ∈ wsX20, w ∈ wsX2_playNote := by decide +kernel
  refine lv_aload_n hx hb dX2_playNote_0 rfl (lv_at hl 0 rfl) ?_
  refine lv_iconst (v := 1) hx hb dX2_playNote_1 (by decide) ?_
  refine lv_iconst (v := 1) hx hb dX2_playNote_2 (by decide) ?_
  refine wCallV (As := [.int 1, .int 1]) (rest := []) K hw (mX2_told l E ad S hI 1 (by decide) 1) (cwV 2 hts gX2_playNote_X2_told rfl rfl rfl (by decide +kernel) ⟨Nat.le_of_ble_eq_true rfl, Nat.le_of_ble_eq_true rfl⟩) wB_b rfl rfl hl.1 rfl (Nat.le_of_ble_eq_true rfl) dX2_playNote_3 ⟨Nat.zero_le _, Nat.zero_le _⟩ (fun r_3 w' H locs hr hw => ?_)
  obtain ⟨hq, rfl⟩ := hr
  obtain rfl := hq
  refine lv_istore_n (lv' := [(1, .int (tld S 1 1)), (0, .ref (ad 0))]) hx hb dX2_playNote_6 rfl hl (by decide) rfl (fun ls hl => ?_)
  refine lv_aload_n hx hb dX2_playNote_7 rfl (lv_at hl 1 rfl) ?_
  refine lv_iconst (v := 3) hx hb dX2_playNote_8 (by decide) ?_
  refine lv_iconst (v := 0) hx hb dX2_playNote_9 (by decide) ?_
  refine wCallV (As := [.int 3, .int 0]) (rest := []) K hw (mX2_told l E ad S hI 3 (by decide) 0) (cwV 2 hts gX2_playNote_X2_told rfl rfl rfl (by decide +kernel) ⟨Nat.le_of_ble_eq_true rfl, Nat.le_of_ble_eq_true rfl⟩) wB_b rfl rfl hl.1 rfl (Nat.le_of_ble_eq_true rfl) dX2_playNote_10 ⟨Nat.zero_le _, Nat.zero_le _⟩ (fun r_10 w' H locs hr hw => ?_)
  obtain ⟨hq, rfl⟩ := hr
  obtain rfl := hq
  refine lv_iconst (v := 1) hx hb dX2_playNote_13 (by decide) ?_
  refine lv_icmp_ne (tgt := 21) hx hb dX2_playNote_14 (by decide) (fun c_14 => ?_) (fun c_14 => ?_)
  · rw [show tld S 1 1 = tt S from (if_neg c_14).symm] at hl
    refine lv_aload_n hx hb dX2_playNote_21 rfl (lv_at hl 1 rfl) ?_
    refine lv_dup hx hb dX2_playNote_22 rfl ?_
    refine wGet (v := .int (S.2.2 7 1)) K hw hiX2 wB_b rfl 2 (by decide) (by decide +kernel) rfl dX2_playNote_23 ?_
    refine lv_iload_n hx hb dX2_playNote_26 rfl (lv_at hl 0 rfl) ?_
    refine lv_iadd hx hb dX2_playNote_27 ?_
    refine wPut (ty := .int) K hw hiX2 tyX2 tyX2_ok nmX2 wB_b rfl 2 (by decide) (by decide +kernel) rfl (by decide +kernel) rfl rfl (Nat.le_of_ble_eq_true rfl) dX2_playNote_28 (wB_sG 1 (by decide) _) (fun H locs hw => ?_)
    refine lv_aload_n hx hb dX2_playNote_31 rfl (lv_at hl 1 rfl) ?_
    refine lv_dup hx hb dX2_playNote_32 rfl ?_
    refine wGet (v := .int (S.2.2 7 4)) K hw hiX2 wB_b rfl 5 (by decide) (by decide +kernel) rfl dX2_playNote_33 ?_
    refine lv_iconst (v := 1) hx hb dX2_playNote_36 (by decide) ?_
    refine lv_iadd hx hb dX2_playNote_37 ?_
    refine wPut (ty := .int) K hw hiX2 tyX2 tyX2_ok nmX2 wB_b rfl 5 (by decide) (by decide +kernel) rfl (by decide +kernel) rfl rfl (Nat.le_of_ble_eq_true rfl) dX2_playNote_38 (wB_sG 4 (by decide) _) (fun H locs hw => ?_)
    refine lv_aload_n hx hb dX2_playNote_41 rfl (lv_at hl 1 rfl) ?_
    refine lv_dup hx hb dX2_playNote_42 rfl ?_
    refine wGet (v := .int (S.2.2 7 5)) K hw hiX2 wB_b rfl 6 (by decide) (by decide +kernel) rfl dX2_playNote_43 ?_
    refine lv_iload_n hx hb dX2_playNote_46 rfl (lv_at hl 0 rfl) ?_
    refine lv_aload_n hx hb dX2_playNote_47 rfl (lv_at hl 1 rfl) ?_
    refine lv_iconst (v := 4) hx hb dX2_playNote_48 (by decide) ?_
    refine lv_iconst (v := 0) hx hb dX2_playNote_49 (by decide) ?_
    refine wCallV (As := [.int 4, .int 0]) (rest := [.int (tt S), .int (S.2.2 7 5), .ref (ad 0)]) K hw (mX2_told l E ad (sV (sV S 7 1 (S.2.2 7 1 + tt S)) 7 4 (S.2.2 7 4 + 1)) ((hI.setg (by decide) (by decide) _).setg (by decide) (by decide) _) 4 (by decide) 0) (cwV 2 hts gX2_playNote_X2_told rfl rfl rfl (by decide +kernel) ⟨Nat.le_of_ble_eq_true rfl, Nat.le_of_ble_eq_true rfl⟩) wB_b rfl rfl hl.1 rfl (Nat.le_of_ble_eq_true rfl) dX2_playNote_50 ⟨Nat.zero_le _, Nat.zero_le _⟩ (fun r_50 w' H locs hr hw => ?_)
    obtain ⟨hq, rfl⟩ := hr
    obtain rfl := hq
    refine lv_aload_n hx hb dX2_playNote_53 rfl (lv_at hl 1 rfl) ?_
    refine wGet (v := .int (S.2.2 7 2)) K hw hiX2 wB_b rfl 3 (by decide) (by decide +kernel) rfl dX2_playNote_54 ?_
    refine lv_iadd hx hb dX2_playNote_57 ?_
    refine lv_imul hx hb dX2_playNote_58 ?_
    refine lv_iadd hx hb dX2_playNote_59 ?_
    refine wPut (ty := .int) K hw hiX2 tyX2 tyX2_ok nmX2 wB_b rfl 6 (by decide) (by decide +kernel) rfl (by decide +kernel) rfl rfl (Nat.le_of_ble_eq_true rfl) dX2_playNote_60 (wB_sG 5 (by decide) _) (fun H locs hw => ?_)
    refine lv_aload_n hx hb dX2_playNote_63 rfl (lv_at hl 1 rfl) ?_
    refine lv_dup hx hb dX2_playNote_64 rfl ?_
    refine wGet (v := .int (S.2.2 7 5 + tt S * (tld S 4 0 + S.2.2 7 2))) K hw hiX2 wB_b rfl 6 (by decide) (by decide +kernel) rfl dX2_playNote_65 ?_
    refine lv_aload_n hx hb dX2_playNote_68 rfl (lv_at hl 1 rfl) ?_
    refine lv_iconst (v := 2) hx hb dX2_playNote_69 (by decide) ?_
    refine lv_bipush (v := 8) hx hb dX2_playNote_70 (by decide) ?_
    refine wCallV (As := [.int 2, .int 8]) (rest := [.int (S.2.2 7 5 + tt S * (tld S 4 0 + S.2.2 7 2)), .ref (ad 0)]) K hw (mX2_told l E ad (sV (sV (sV S 7 1 (S.2.2 7 1 + tt S)) 7 4 (S.2.2 7 4 + 1)) 7 5 (S.2.2 7 5 + tt S * (tld S 4 0 + S.2.2 7 2))) (((hI.setg (by decide) (by decide) _).setg (by decide) (by decide) _).setg (by decide) (by decide) _) 2 (by decide) 8) (cwV 2 hts gX2_playNote_X2_told rfl rfl rfl (by decide +kernel) ⟨Nat.le_of_ble_eq_true rfl, Nat.le_of_ble_eq_true rfl⟩) wB_b rfl rfl hl.1 rfl (Nat.le_of_ble_eq_true rfl) dX2_playNote_72 ⟨Nat.zero_le _, Nat.zero_le _⟩ (fun r_72 w' H locs hr hw => ?_)
    obtain ⟨hq, rfl⟩ := hr
    obtain rfl := hq
    refine lv_iadd hx hb dX2_playNote_75 ?_
    refine wPut (ty := .int) K hw hiX2 tyX2 tyX2_ok nmX2 wB_b rfl 6 (by decide) (by decide +kernel) rfl (by decide +kernel) rfl rfl (Nat.le_of_ble_eq_true rfl) dX2_playNote_76 (wB_sG 5 (by decide) _) (fun H locs hw => ?_)
    exact wRetV K hw dX2_playNote_79 rfl
  · refine lv_iconst (v := 2) hx hb dX2_playNote_17 (by decide) ?_
    refine lv_iload_n hx hb dX2_playNote_18 rfl (lv_at hl 0 rfl) ?_
    refine lv_imul hx hb dX2_playNote_19 ?_
    refine lv_istore_n (lv' := [(1, .int (2 * (tld S 1 1))), (0, .ref (ad 0))]) hx hb dX2_playNote_20 rfl hl (by decide) rfl (fun ls hl => ?_)
    rw [show (2 * tld S 1 1 : Int32) = tt S from (if_pos c_14).symm] at hl
    refine lv_aload_n hx hb dX2_playNote_21 rfl (lv_at hl 1 rfl) ?_
    refine lv_dup hx hb dX2_playNote_22 rfl ?_
    refine wGet (v := .int (S.2.2 7 1)) K hw hiX2 wB_b rfl 2 (by decide) (by decide +kernel) rfl dX2_playNote_23 ?_
    refine lv_iload_n hx hb dX2_playNote_26 rfl (lv_at hl 0 rfl) ?_
    refine lv_iadd hx hb dX2_playNote_27 ?_
    refine wPut (ty := .int) K hw hiX2 tyX2 tyX2_ok nmX2 wB_b rfl 2 (by decide) (by decide +kernel) rfl (by decide +kernel) rfl rfl (Nat.le_of_ble_eq_true rfl) dX2_playNote_28 (wB_sG 1 (by decide) _) (fun H locs hw => ?_)
    refine lv_aload_n hx hb dX2_playNote_31 rfl (lv_at hl 1 rfl) ?_
    refine lv_dup hx hb dX2_playNote_32 rfl ?_
    refine wGet (v := .int (S.2.2 7 4)) K hw hiX2 wB_b rfl 5 (by decide) (by decide +kernel) rfl dX2_playNote_33 ?_
    refine lv_iconst (v := 1) hx hb dX2_playNote_36 (by decide) ?_
    refine lv_iadd hx hb dX2_playNote_37 ?_
    refine wPut (ty := .int) K hw hiX2 tyX2 tyX2_ok nmX2 wB_b rfl 5 (by decide) (by decide +kernel) rfl (by decide +kernel) rfl rfl (Nat.le_of_ble_eq_true rfl) dX2_playNote_38 (wB_sG 4 (by decide) _) (fun H locs hw => ?_)
    refine lv_aload_n hx hb dX2_playNote_41 rfl (lv_at hl 1 rfl) ?_
    refine lv_dup hx hb dX2_playNote_42 rfl ?_
    refine wGet (v := .int (S.2.2 7 5)) K hw hiX2 wB_b rfl 6 (by decide) (by decide +kernel) rfl dX2_playNote_43 ?_
    refine lv_iload_n hx hb dX2_playNote_46 rfl (lv_at hl 0 rfl) ?_
    refine lv_aload_n hx hb dX2_playNote_47 rfl (lv_at hl 1 rfl) ?_
    refine lv_iconst (v := 4) hx hb dX2_playNote_48 (by decide) ?_
    refine lv_iconst (v := 0) hx hb dX2_playNote_49 (by decide) ?_
    refine wCallV (As := [.int 4, .int 0]) (rest := [.int (tt S), .int (S.2.2 7 5), .ref (ad 0)]) K hw (mX2_told l E ad (sV (sV S 7 1 (S.2.2 7 1 + tt S)) 7 4 (S.2.2 7 4 + 1)) ((hI.setg (by decide) (by decide) _).setg (by decide) (by decide) _) 4 (by decide) 0) (cwV 2 hts gX2_playNote_X2_told rfl rfl rfl (by decide +kernel) ⟨Nat.le_of_ble_eq_true rfl, Nat.le_of_ble_eq_true rfl⟩) wB_b rfl rfl hl.1 rfl (Nat.le_of_ble_eq_true rfl) dX2_playNote_50 ⟨Nat.zero_le _, Nat.zero_le _⟩ (fun r_50 w' H locs hr hw => ?_)
    obtain ⟨hq, rfl⟩ := hr
    obtain rfl := hq
    refine lv_aload_n hx hb dX2_playNote_53 rfl (lv_at hl 1 rfl) ?_
    refine wGet (v := .int (S.2.2 7 2)) K hw hiX2 wB_b rfl 3 (by decide) (by decide +kernel) rfl dX2_playNote_54 ?_
    refine lv_iadd hx hb dX2_playNote_57 ?_
    refine lv_imul hx hb dX2_playNote_58 ?_
    refine lv_iadd hx hb dX2_playNote_59 ?_
    refine wPut (ty := .int) K hw hiX2 tyX2 tyX2_ok nmX2 wB_b rfl 6 (by decide) (by decide +kernel) rfl (by decide +kernel) rfl rfl (Nat.le_of_ble_eq_true rfl) dX2_playNote_60 (wB_sG 5 (by decide) _) (fun H locs hw => ?_)
    refine lv_aload_n hx hb dX2_playNote_63 rfl (lv_at hl 1 rfl) ?_
    refine lv_dup hx hb dX2_playNote_64 rfl ?_
    refine wGet (v := .int (S.2.2 7 5 + tt S * (tld S 4 0 + S.2.2 7 2))) K hw hiX2 wB_b rfl 6 (by decide) (by decide +kernel) rfl dX2_playNote_65 ?_
    refine lv_aload_n hx hb dX2_playNote_68 rfl (lv_at hl 1 rfl) ?_
    refine lv_iconst (v := 2) hx hb dX2_playNote_69 (by decide) ?_
    refine lv_bipush (v := 8) hx hb dX2_playNote_70 (by decide) ?_
    refine wCallV (As := [.int 2, .int 8]) (rest := [.int (S.2.2 7 5 + tt S * (tld S 4 0 + S.2.2 7 2)), .ref (ad 0)]) K hw (mX2_told l E ad (sV (sV (sV S 7 1 (S.2.2 7 1 + tt S)) 7 4 (S.2.2 7 4 + 1)) 7 5 (S.2.2 7 5 + tt S * (tld S 4 0 + S.2.2 7 2))) (((hI.setg (by decide) (by decide) _).setg (by decide) (by decide) _).setg (by decide) (by decide) _) 2 (by decide) 8) (cwV 2 hts gX2_playNote_X2_told rfl rfl rfl (by decide +kernel) ⟨Nat.le_of_ble_eq_true rfl, Nat.le_of_ble_eq_true rfl⟩) wB_b rfl rfl hl.1 rfl (Nat.le_of_ble_eq_true rfl) dX2_playNote_72 ⟨Nat.zero_le _, Nat.zero_le _⟩ (fun r_72 w' H locs hr hw => ?_)
    obtain ⟨hq, rfl⟩ := hr
    obtain rfl := hq
    refine lv_iadd hx hb dX2_playNote_75 ?_
    refine wPut (ty := .int) K hw hiX2 tyX2 tyX2_ok nmX2 wB_b rfl 6 (by decide) (by decide +kernel) rfl (by decide +kernel) rfl rfl (Nat.le_of_ble_eq_true rfl) dX2_playNote_76 (wB_sG 5 (by decide) _) (fun H locs hw => ?_)
    exact wRetV K hw dX2_playNote_79 rfl
set_option maxHeartbeats 4000000 in
set_option maxRecDepth 100000 in
theorem mX2_step (l : Launch) (E : wE) (ad : Nat → Nat) (S : SS) (hI : Inv S) (g : Int32) : MCv l E yX2_step wsX2_step { frames := 3, cells := 0, slots := 0, locals := 65 } [.ref (ad 0), .int g] (wB E ad S) (fun w => w = wB E ad (stp S g)) := by
  refine wEnterV (cc := cX2_step) (nL := 2) (ret := none) (own := RX2) (by decide) rfl rfl (Nat.le_of_ble_eq_true rfl) ?_
  intro p e s m below meth c A ls K hl hw hin
  have hl : lv_has ls 2 [(0, .ref (ad 0)), (1, .int g)] := hl
  obtain ⟨hx, hb, -, hml, hown, hts, -, -, -⟩ := id K
  have hiX2 : ∀ w ∈ wsX20, w ∈ wsX2_step := by decide +kernel
  refine lv_iload_n hx hb dX2_step_0 rfl (lv_at hl 1 rfl) ?_
  by_cases h46 : g = 46
  · subst h46
    refine lv_lookup (off := 59) (tgt := 60) hx hb dX2_step_1 (by decide +kernel) (by decide +kernel) (by decide) ?_
    refine lv_aload_n hx hb dX2_step_60 rfl (lv_at hl 0 rfl) ?_
    refine lv_dup hx hb dX2_step_61 rfl ?_
    refine wGet (v := .int (S.2.2 7 1)) K hw hiX2 wB_b rfl 2 (by decide) (by decide +kernel) rfl dX2_step_62 ?_
    refine lv_aload_n hx hb dX2_step_65 rfl (lv_at hl 0 rfl) ?_
    refine lv_iconst (v := 1) hx hb dX2_step_66 (by decide) ?_
    refine lv_iconst (v := 1) hx hb dX2_step_67 (by decide) ?_
    refine wCallV (As := [.int 1, .int 1]) (rest := [.int (S.2.2 7 1), .ref (ad 0)]) K hw (mX2_told l E ad S hI 1 (by decide) 1) (cwV 2 hts gX2_step_X2_told rfl rfl rfl (by decide +kernel) ⟨Nat.le_of_ble_eq_true rfl, Nat.le_of_ble_eq_true rfl⟩) wB_b rfl rfl hl.1 rfl (Nat.le_of_ble_eq_true rfl) dX2_step_68 ⟨Nat.zero_le _, Nat.zero_le _⟩ (fun r_68 w' H locs hr hw => ?_)
    obtain ⟨hq, rfl⟩ := hr
    obtain rfl := hq
    refine lv_iadd hx hb dX2_step_71 ?_
    refine wPut (ty := .int) K hw hiX2 tyX2 tyX2_ok nmX2 wB_b rfl 2 (by decide) (by decide +kernel) rfl (by decide +kernel) rfl rfl (Nat.le_of_ble_eq_true rfl) dX2_step_72 (wB_sG 1 (by decide) _) (fun H locs hw => ?_)
    refine lv_goto (tgt := 145) hx hb dX2_step_75 (by decide) ?_
    refine lv_aload_n hx hb dX2_step_145 rfl (lv_at hl 0 rfl) ?_
    refine lv_dup hx hb dX2_step_146 rfl ?_
    refine wGet (v := .int (S.2.2 7 0)) K hw hiX2 wB_b rfl 1 (by decide) (by decide +kernel) rfl dX2_step_147 ?_
    refine lv_iconst (v := 1) hx hb dX2_step_150 (by decide) ?_
    refine lv_iadd hx hb dX2_step_151 ?_
    refine wPut (ty := .int) K hw hiX2 tyX2 tyX2_ok nmX2 wB_b rfl 1 (by decide) (by decide +kernel) rfl (by decide +kernel) rfl rfl (Nat.le_of_ble_eq_true rfl) dX2_step_152 (wB_sG 0 (by decide) _) (fun H locs hw => ?_)
    exact wRetV K hw dX2_step_155 rfl
  by_cases h110 : g = 110
  · subst h110
    refine lv_lookup (off := 77) (tgt := 78) hx hb dX2_step_1 (by decide +kernel) (by decide +kernel) (by decide) ?_
    refine lv_aload_n hx hb dX2_step_78 rfl (lv_at hl 0 rfl) ?_
    refine wCallVv (As := []) (rest := []) K hw (mX2_playNote l E ad S hI) (cwV 0 hts gX2_step_X2_playNote rfl rfl rfl (by decide +kernel) ⟨Nat.le_of_ble_eq_true rfl, Nat.le_of_ble_eq_true rfl⟩) wB_b rfl rfl hl.1 rfl (Nat.le_of_ble_eq_true rfl) dX2_step_79 ⟨Nat.zero_le _, Nat.zero_le _⟩ (fun w' H locs hr hw => ?_)
    subst hr
    refine lv_goto (tgt := 145) hx hb dX2_step_82 (by decide) ?_
    refine lv_aload_n hx hb dX2_step_145 rfl (lv_at hl 0 rfl) ?_
    refine lv_dup hx hb dX2_step_146 rfl ?_
    refine wGet (v := .int ((nte S).2.2 7 0)) K hw hiX2 wB_b rfl 1 (by decide) (by decide +kernel) rfl dX2_step_147 ?_
    refine lv_iconst (v := 1) hx hb dX2_step_150 (by decide) ?_
    refine lv_iadd hx hb dX2_step_151 ?_
    refine wPut (ty := .int) K hw hiX2 tyX2 tyX2_ok nmX2 wB_b rfl 1 (by decide) (by decide +kernel) rfl (by decide +kernel) rfl rfl (Nat.le_of_ble_eq_true rfl) dX2_step_152 (wB_sG 0 (by decide) _) (fun H locs hw => ?_)
    exact wRetV K hw dX2_step_155 rfl
  by_cases h114 : g = 114
  · subst h114
    refine lv_lookup (off := 108) (tgt := 109) hx hb dX2_step_1 (by decide +kernel) (by decide +kernel) (by decide) ?_
    refine lv_aload_n hx hb dX2_step_109 rfl (lv_at hl 0 rfl) ?_
    refine lv_iconst (v := 1) hx hb dX2_step_110 (by decide) ?_
    refine wCallV (As := [.int 1]) (rest := []) K hw (mX2_lowered l E ad S hI 1 (by decide)) (cwV 1 hts gX2_step_X2_lowered rfl rfl rfl (by decide +kernel) ⟨Nat.le_of_ble_eq_true rfl, Nat.le_of_ble_eq_true rfl⟩) wB_b rfl rfl hl.1 rfl (Nat.le_of_ble_eq_true rfl) dX2_step_111 ⟨Nat.zero_le _, Nat.zero_le _⟩ (fun r_111 w' H locs hr hw => ?_)
    obtain ⟨hr111, rfl⟩ := hr
    refine lv_if_eq (tgt := 145) hx hb dX2_step_114 (by decide) (fun c_114 => ?_) (fun c_114 => ?_)
    · refine lv_aload_n hx hb dX2_step_145 rfl (lv_at hl 0 rfl) ?_
      refine lv_dup hx hb dX2_step_146 rfl ?_
      refine wGet (v := .int ((lwq S 1).2.2 7 0)) K hw hiX2 wB_b rfl 1 (by decide) (by decide +kernel) rfl dX2_step_147 ?_
      refine lv_iconst (v := 1) hx hb dX2_step_150 (by decide) ?_
      refine lv_iadd hx hb dX2_step_151 ?_
      refine wPut (ty := .int) K hw hiX2 tyX2 tyX2_ok nmX2 wB_b rfl 1 (by decide) (by decide +kernel) rfl (by decide +kernel) rfl rfl (Nat.le_of_ble_eq_true rfl) dX2_step_152 (wB_sG 0 (by decide) _) (fun H locs hw => ?_)
      exact wRetV K hw dX2_step_155 (by show wB E ad (ihd (lwq S 1)) = wB E ad (if 0 < tld S 1 0 then _ else _); rw [if_neg (bI_f hr111 c_114), lwq_f (bI_f hr111 c_114)])
    · refine lv_aload_n hx hb dX2_step_117 rfl (lv_at hl 0 rfl) ?_
      refine lv_aload_n hx hb dX2_step_118 rfl (lv_at hl 0 rfl) ?_
      refine wGet (v := .int (S.2.2 7 3)) K hw hiX2 wB_b rfl 4 (by decide) (by decide +kernel) rfl dX2_step_119 ?_
      refine wPut (ty := .int) K hw hiX2 tyX2 tyX2_ok nmX2 wB_b rfl 1 (by decide) (by decide +kernel) rfl (by decide +kernel) rfl rfl (Nat.le_of_ble_eq_true rfl) dX2_step_122 (wB_sG 0 (by decide) _) (fun H locs hw => ?_)
      exact wRetV K hw dX2_step_125 (by show wB E ad (sV (lwq S 1) 7 0 (S.2.2 7 3)) = wB E ad (if 0 < tld S 1 0 then _ else _); rw [if_pos (bI_t hr111 c_114), lwq_t (bI_t hr111 c_114)])
  by_cases h116 : g = 116
  · subst h116
    refine lv_lookup (off := 84) (tgt := 85) hx hb dX2_step_1 (by decide +kernel) (by decide +kernel) (by decide) ?_
    refine lv_aload_n hx hb dX2_step_85 rfl (lv_at hl 0 rfl) ?_
    refine lv_aload_n hx hb dX2_step_86 rfl (lv_at hl 0 rfl) ?_
    refine lv_iconst (v := 4) hx hb dX2_step_87 (by decide) ?_
    refine lv_iconst (v := 0) hx hb dX2_step_88 (by decide) ?_
    refine wCallV (As := [.int 4, .int 0]) (rest := [.ref (ad 0)]) K hw (mX2_told l E ad S hI 4 (by decide) 0) (cwV 2 hts gX2_step_X2_told rfl rfl rfl (by decide +kernel) ⟨Nat.le_of_ble_eq_true rfl, Nat.le_of_ble_eq_true rfl⟩) wB_b rfl rfl hl.1 rfl (Nat.le_of_ble_eq_true rfl) dX2_step_89 ⟨Nat.zero_le _, Nat.zero_le _⟩ (fun r_89 w' H locs hr hw => ?_)
    obtain ⟨hq, rfl⟩ := hr
    obtain rfl := hq
    refine wPut (ty := .int) K hw hiX2 tyX2 tyX2_ok nmX2 wB_b rfl 3 (by decide) (by decide +kernel) rfl (by decide +kernel) rfl rfl (Nat.le_of_ble_eq_true rfl) dX2_step_92 (wB_sG 2 (by decide) _) (fun H locs hw => ?_)
    refine lv_goto (tgt := 145) hx hb dX2_step_95 (by decide) ?_
    refine lv_aload_n hx hb dX2_step_145 rfl (lv_at hl 0 rfl) ?_
    refine lv_dup hx hb dX2_step_146 rfl ?_
    refine wGet (v := .int ((sV S 7 2 (tld S 4 0)).2.2 7 0)) K hw hiX2 wB_b rfl 1 (by decide) (by decide +kernel) rfl dX2_step_147 ?_
    refine lv_iconst (v := 1) hx hb dX2_step_150 (by decide) ?_
    refine lv_iadd hx hb dX2_step_151 ?_
    refine wPut (ty := .int) K hw hiX2 tyX2 tyX2_ok nmX2 wB_b rfl 1 (by decide) (by decide +kernel) rfl (by decide +kernel) rfl rfl (Nat.le_of_ble_eq_true rfl) dX2_step_152 (wB_sG 0 (by decide) _) (fun H locs hw => ?_)
    exact wRetV K hw dX2_step_155 rfl
  by_cases h119 : g = 119
  · subst h119
    refine lv_lookup (off := 125) (tgt := 126) hx hb dX2_step_1 (by decide +kernel) (by decide +kernel) (by decide) ?_
    refine lv_aload_n hx hb dX2_step_126 rfl (lv_at hl 0 rfl) ?_
    refine lv_iconst (v := 2) hx hb dX2_step_127 (by decide) ?_
    refine wCallV (As := [.int 2]) (rest := []) K hw (mX2_lowered l E ad S hI 2 (by decide)) (cwV 1 hts gX2_step_X2_lowered rfl rfl rfl (by decide +kernel) ⟨Nat.le_of_ble_eq_true rfl, Nat.le_of_ble_eq_true rfl⟩) wB_b rfl rfl hl.1 rfl (Nat.le_of_ble_eq_true rfl) dX2_step_128 ⟨Nat.zero_le _, Nat.zero_le _⟩ (fun r_128 w' H locs hr hw => ?_)
    obtain ⟨hr128, rfl⟩ := hr
    refine lv_pop hx hb dX2_step_131 rfl ?_
    refine lv_goto (tgt := 145) hx hb dX2_step_132 (by decide) ?_
    refine lv_aload_n hx hb dX2_step_145 rfl (lv_at hl 0 rfl) ?_
    refine lv_dup hx hb dX2_step_146 rfl ?_
    refine wGet (v := .int ((lwq S 2).2.2 7 0)) K hw hiX2 wB_b rfl 1 (by decide) (by decide +kernel) rfl dX2_step_147 ?_
    refine lv_iconst (v := 1) hx hb dX2_step_150 (by decide) ?_
    refine lv_iadd hx hb dX2_step_151 ?_
    refine wPut (ty := .int) K hw hiX2 tyX2 tyX2_ok nmX2 wB_b rfl 1 (by decide) (by decide +kernel) rfl (by decide +kernel) rfl rfl (Nat.le_of_ble_eq_true rfl) dX2_step_152 (wB_sG 0 (by decide) _) (fun H locs hw => ?_)
    exact wRetV K hw dX2_step_155 (by rw [← stp_119]; rfl)
  by_cases h124 : g = 124
  · subst h124
    refine lv_lookup (off := 97) (tgt := 98) hx hb dX2_step_1 (by decide +kernel) (by decide +kernel) (by decide) ?_
    refine lv_aload_n hx hb dX2_step_98 rfl (lv_at hl 0 rfl) ?_
    refine lv_aload_n hx hb dX2_step_99 rfl (lv_at hl 0 rfl) ?_
    refine wGet (v := .int (S.2.2 7 0)) K hw hiX2 wB_b rfl 1 (by decide) (by decide +kernel) rfl dX2_step_100 ?_
    refine wPut (ty := .int) K hw hiX2 tyX2 tyX2_ok nmX2 wB_b rfl 4 (by decide) (by decide +kernel) rfl (by decide +kernel) rfl rfl (Nat.le_of_ble_eq_true rfl) dX2_step_103 (wB_sG 3 (by decide) _) (fun H locs hw => ?_)
    refine lv_goto (tgt := 145) hx hb dX2_step_106 (by decide) ?_
    refine lv_aload_n hx hb dX2_step_145 rfl (lv_at hl 0 rfl) ?_
    refine lv_dup hx hb dX2_step_146 rfl ?_
    refine wGet (v := .int ((sV S 7 3 (S.2.2 7 0)).2.2 7 0)) K hw hiX2 wB_b rfl 1 (by decide) (by decide +kernel) rfl dX2_step_147 ?_
    refine lv_iconst (v := 1) hx hb dX2_step_150 (by decide) ?_
    refine lv_iadd hx hb dX2_step_151 ?_
    refine wPut (ty := .int) K hw hiX2 tyX2 tyX2_ok nmX2 wB_b rfl 1 (by decide) (by decide +kernel) rfl (by decide +kernel) rfl rfl (Nat.le_of_ble_eq_true rfl) dX2_step_152 (wB_sG 0 (by decide) _) (fun H locs hw => ?_)
    exact wRetV K hw dX2_step_155 rfl
  have hout : Op.lookupswitch.offset [(46, 59), (110, 77), (114, 108), (116, 84), (119, 125), (124, 97)] 134 g.toInt = 134 := by
    rw [lv_osw h46 (by decide), lv_osw h110 (by decide), lv_osw h114 (by decide), lv_osw h116 (by decide), lv_osw h119 (by decide), lv_osw h124 (by decide)]
    rfl
  refine lv_lookup (off := 134) (tgt := 135) hx hb dX2_step_1 (by decide +kernel) hout (by decide) ?_
  refine lv_aload_n hx hb dX2_step_135 rfl (lv_at hl 0 rfl) ?_
  refine lv_dup hx hb dX2_step_136 rfl ?_
  refine wGet (v := .int (S.2.2 7 6)) K hw hiX2 wB_b rfl 7 (by decide) (by decide +kernel) rfl dX2_step_137 ?_
  refine lv_iconst (v := 1) hx hb dX2_step_140 (by decide) ?_
  refine lv_iadd hx hb dX2_step_141 ?_
  refine wPut (ty := .int) K hw hiX2 tyX2 tyX2_ok nmX2 wB_b rfl 7 (by decide) (by decide +kernel) rfl (by decide +kernel) rfl rfl (Nat.le_of_ble_eq_true rfl) dX2_step_142 (wB_sG 6 (by decide) _) (fun H locs hw => ?_)
  refine lv_aload_n hx hb dX2_step_145 rfl (lv_at hl 0 rfl) ?_
  refine lv_dup hx hb dX2_step_146 rfl ?_
  refine wGet (v := .int ((sV S 7 6 ((S.2.2 7 6) + 1)).2.2 7 0)) K hw hiX2 wB_b rfl 1 (by decide) (by decide +kernel) rfl dX2_step_147 ?_
  refine lv_iconst (v := 1) hx hb dX2_step_150 (by decide) ?_
  refine lv_iadd hx hb dX2_step_151 ?_
  refine wPut (ty := .int) K hw hiX2 tyX2 tyX2_ok nmX2 wB_b rfl 1 (by decide) (by decide +kernel) rfl (by decide +kernel) rfl rfl (Nat.le_of_ble_eq_true rfl) dX2_step_152 (wB_sG 0 (by decide) _) (fun H locs hw => ?_)
  exact wRetV K hw dX2_step_155 (by rw [stp, if_neg h46, if_neg h110, if_neg h114, if_neg h116, if_neg h119, if_neg h124]; rfl)
set_option maxHeartbeats 4000000 in
set_option maxRecDepth 100000 in
theorem mX2_play (l : Launch) (E : wE) (ad : Nat → Nat) (S : SS) (hI : Inv S) (x : Int32) : MCi l E yX2_play wsX2_play { frames := 4, cells := 0, slots := 0, locals := 86 } [.ref (ad 0), .int x] (wB E ad S) (fun r w => r = (sp_play S x).1 ∧ w = wB E ad (sp_play S x).2) := by
  refine wEnterI (cc := cX2_play) (nL := 4) (ret := (some .int)) (own := RX2) (by decide) rfl rfl (Nat.le_of_ble_eq_true rfl) ?_
  intro p e s m below meth c A ls K hl hw
  have hl : lv_has ls 4 [(0, .ref (ad 0)), (1, .int x)] := hl
  obtain ⟨hx, hb, -, hml, hown, hts, -, -, -⟩ := id K
  have hiX2 : ∀ w ∈ wsX20, w ∈ wsX2_play := by decide +kernel
  have hiX0 : ∀ w ∈ wsX00, w ∈ wsX2_play := by decide +kernel
  refine lv_iload_n hx hb dX2_play_0 rfl (lv_at hl 1 rfl) ?_
  refine lv_if_ge (tgt := 7) hx hb dX2_play_1 (by decide) (fun c_1 => ?_) (fun c_1 => ?_)
  · refine lv_iload_n hx hb dX2_play_7 rfl (lv_at hl 1 rfl) ?_
    refine lv_sipush (v := 200) hx hb dX2_play_8 (by decide) ?_
    refine lv_icmp_le (tgt := 17) hx hb dX2_play_11 (by decide) (fun c_11 => ?_) (fun c_11 => ?_)
    · obtain ⟨n, hn, rfl⟩ := le_of_ix (y := 200) (n := 200) (by omega) rfl (Int32.not_lt.mpr c_1) c_11
      have hsp : sp_play S (nI n) = (nI (ply n S).1, (ply n S).2) := by rw [sp_play, if_pos c_1, if_pos c_11, kN_nI (by omega)]
      have loop : ∀ (d i : Nat) (S1 : SS), i + d = n → Inv S1 → i + (ply d S1).1 = (ply n S).1 → (ply d S1).2 = (ply n S).2 → ∀ (H : Heap) (locs : List Loc) (ls : Array Slot), lv_has ls 4 [(3, .int (nI i)), (2, .ref (ad (2 + 4 * 0))), (0, .ref (ad 0)), (1, .int (nI n))] → wW E A s (wB E ad S1) H locs → W p l e ({ frames := 4, cells := 0, slots := 0, locals := 86 } : Room) s m ([.ref (ad 0), .int (nI n)] : List Value).toArray below meth c H locs 0 0 (MQ below (va_Qi (fun r w => r = (sp_play S (nI n)).1 ∧ w = wB E ad (sp_play S (nI n)).2) (wAft E A) A) ([.ref (ad 0), .int (nI n)] : List Value).toArray s 0 0 A) (F0 m 26 ls []) := by
        intro d
        induction d with
        | zero =>
          intro i S1 hid hI1 hr1 hr2 H locs ls hl hw
          obtain rfl : i = n := by omega
          refine lv_iload_n hx hb dX2_play_26 rfl (lv_at hl 0 rfl) ?_
          refine lv_iload_n hx hb dX2_play_27 rfl (lv_at hl 3 rfl) ?_
          refine lv_icmp_ge (tgt := 61) hx hb dX2_play_28 (by decide) (fun c_28 => ?_) (fun c_28 => ?_)
          · refine lv_iload_n hx hb dX2_play_61 rfl (lv_at hl 0 rfl) ?_
            exact wRetI K hw dX2_play_62 (pst (by rw [hsp, ← hr1, ← hr2]; rfl))
          · exact absurd (nI_le (Nat.le_refl i) (by omega)) c_28
        | succ d ih =>
          intro i S1 hid hI1 hr1 hr2 H locs ls hl hw
          rw [ply] at hr1 hr2
          refine lv_iload_n hx hb dX2_play_26 rfl (lv_at hl 0 rfl) ?_
          refine lv_iload_n hx hb dX2_play_27 rfl (lv_at hl 3 rfl) ?_
          refine lv_icmp_ge (tgt := 61) hx hb dX2_play_28 (by decide) (fun c_28 => ?_) (fun c_28 => ?_)
          · exact absurd c_28 (nI_ge (by omega) (by omega))
          · refine lv_aload_n hx hb dX2_play_31 rfl (lv_at hl 1 rfl) ?_
            refine lv_aload_n hx hb dX2_play_32 rfl (lv_at hl 2 rfl) ?_
            refine wGet (v := .int (S1.2.2 7 0)) K hw hiX2 wB_b rfl 1 (by decide) (by decide +kernel) rfl dX2_play_33 ?_
            refine wCallV (As := [.int (S1.2.2 7 0)]) (rest := []) K hw (mX0_hasCell l E ad S1 hI1 0 (by decide) (S1.2.2 7 0)) (cwV 1 hts gX2_play_X0_hasCell rfl rfl rfl (by decide +kernel) ⟨Nat.le_of_ble_eq_true rfl, Nat.le_of_ble_eq_true rfl⟩) (wB_lane (show 0 < 5 by decide)) rfl rfl hl.1 rfl (Nat.le_of_ble_eq_true rfl) dX2_play_36 ⟨Nat.zero_le _, Nat.zero_le _⟩ (fun r_36 w' H locs hr hw => ?_)
            obtain ⟨hr36, rfl⟩ := hr
            refine lv_if_eq (tgt := 61) hx hb dX2_play_39 (by decide) (fun c_39 => ?_) (fun c_39 => ?_)
            · have hc := bI_f hr36 c_39
              rw [if_neg hc] at hr1 hr2
              refine lv_iload_n hx hb dX2_play_61 rfl (lv_at hl 0 rfl) ?_
              exact wRetI K hw dX2_play_62 (pst (by rw [hsp, ← hr1, ← hr2]; rfl))
            · have hc := bI_t hr36 c_39
              obtain ⟨q, hq, eq⟩ := hI1.cell (by decide) hc
              refine lv_aload_n hx hb dX2_play_42 rfl (lv_at hl 2 rfl) ?_
              refine lv_aload_n hx hb dX2_play_43 rfl (lv_at hl 1 rfl) ?_
              refine wGet (v := .ref (ad (3 + 4 * 0))) K hw hiX0 (wB_lane (show 0 < 5 by decide)) rfl 0 (by decide) (by decide +kernel) rfl dX2_play_44 ?_
              refine lv_aload_n hx hb dX2_play_47 rfl (lv_at hl 2 rfl) ?_
              refine wGet (v := .int (S1.2.2 7 0)) K hw hiX2 wB_b rfl 1 (by decide) (by decide +kernel) rfl dX2_play_48 ?_
              refine wIald (v := S1.1 0 (kN (S1.2.2 7 0))) K hw (wB_cells (show 0 < 5 by decide)) (by rw [eq]; exact vp_in_nI hq (by omega)) rfl dX2_play_51 ?_
              refine wCallVv (As := [.int (S1.1 0 (kN (S1.2.2 7 0)))]) (rest := []) K hw (mX2_step l E ad S1 hI1 (S1.1 0 (kN (S1.2.2 7 0)))) (cwV 1 hts gX2_play_X2_step rfl rfl rfl (by decide +kernel) ⟨Nat.le_of_ble_eq_true rfl, Nat.le_of_ble_eq_true rfl⟩) wB_b rfl rfl hl.1 rfl (Nat.le_of_ble_eq_true rfl) dX2_play_52 ⟨Nat.zero_le _, Nat.zero_le _⟩ (fun w' H locs hr hw => ?_)
              subst hr
              refine lv_iinc (v := nI (i + 1)) (lv' := [(3, .int (nI (i + 1))), (2, .ref (ad (2 + 4 * 0))), (0, .ref (ad 0)), (1, .int (nI n))]) hx hb dX2_play_55 hl (k := 0) rfl (nI_1 i) (by decide) rfl (fun ls hl => ?_)
              refine lv_goto (tgt := 26) hx hb dX2_play_58 (by decide) ?_
              exact ih (i + 1) _ (by omega) (hI1.onstep hc _) (by rw [if_pos hc] at hr1; rw [← hr1]; omega) (by rw [if_pos hc] at hr2; exact hr2) H locs ls hl hw
      refine lv_aload_n hx hb dX2_play_17 rfl (lv_at hl 0 rfl) ?_
      refine wGet (v := .ref (ad 1)) K hw hiX2 wB_b rfl 0 (by decide) (by decide +kernel) rfl dX2_play_18 ?_
      refine lv_iconst (v := 0) hx hb dX2_play_21 (by decide) ?_
      refine wAald K hw wB_l (in5 (j := 0) (by decide)) gLanes_0 dX2_play_22 ?_
      refine lv_astore_n (lv' := [(2, .ref (ad (2 + 4 * 0))), (0, .ref (ad 0)), (1, .int (nI n))]) hx hb dX2_play_23 rfl hl (by decide) rfl (fun ls hl => ?_)
      refine lv_iconst (v := 0) hx hb dX2_play_24 (by decide) ?_
      refine lv_istore_n (lv' := [(3, .int 0), (2, .ref (ad (2 + 4 * 0))), (0, .ref (ad 0)), (1, .int (nI n))]) hx hb dX2_play_25 rfl hl (by decide) rfl (fun ls hl => ?_)
      exact loop n 0 S (by omega) hI (by omega) rfl _ _ _ (by rw [nI_0]; exact hl) hw
    · refine lv_ldc (v := (-1000003)) hx hb hown (hts (.constant RX2 21 (-1000003)) (by decide +kernel)) dX2_play_14 ?_
      exact wRetI K hw dX2_play_16 (pst (by rw [sp_play, if_pos c_1, if_neg c_11]))
  · refine lv_ldc (v := (-1000004)) hx hb hown (hts (.constant RX2 22 (-1000004)) (by decide +kernel)) dX2_play_4 ?_
    exact wRetI K hw dX2_play_6 (pst (by rw [sp_play, if_neg c_1]))
