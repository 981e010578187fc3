/-! what holds between the calls stays so -/
theorem Inv_S0 : Inv S0 := ⟨fun k hk => ⟨Or.inl rfl, ⟨0, by omega, rfl⟩, Or.inl rfl, ⟨0, by omega, rfl⟩, ⟨0, by omega, rfl⟩⟩, ⟨0, by omega, rfl⟩, ⟨0, by omega, rfl⟩, fun i hi => Or.inl rfl⟩
theorem Inv.v0 {S : SS} (h : Inv S) {k : Nat} {v : Int32} (hv : v = 0 ∨ v = 1) : Inv (sV S 0 k v) := by
  refine ⟨fun a ha => ⟨?_, (h.1 a ha).2⟩, h.2.1, h.2.2.1, h.2.2.2⟩
  show upd (S.2.2 0) k v a = 0 ∨ upd (S.2.2 0) k v a = 1
  by_cases e : a = k
  · subst e; rw [pk_us]; exact hv
  · rw [pk_un e]; exact (h.1 a ha).1
theorem Inv.v1 {S : SS} (h : Inv S) {k n : Nat} {v : Int32} (hn : n ≤ 60) (hv : v = nI n) : Inv (sV S 1 k v) := by
  refine ⟨fun a ha => ⟨(h.1 a ha).1, ?_, (h.1 a ha).2.2⟩, h.2.1, h.2.2.1, h.2.2.2⟩
  show ∃ n, n ≤ 60 ∧ upd (S.2.2 1) k v a = nI n
  by_cases e : a = k
  · subst e; rw [pk_us]; exact ⟨n, hn, hv⟩
  · rw [pk_un e]; exact (h.1 a ha).2.1
theorem Inv.v2 {S : SS} (h : Inv S) {k : Nat} {v : Int32} (hv : v = 0 ∨ v = 1) : Inv (sV S 2 k v) := by
  refine ⟨fun a ha => ⟨(h.1 a ha).1, (h.1 a ha).2.1, ?_, (h.1 a ha).2.2.2⟩, h.2.1, h.2.2.1, h.2.2.2⟩
  show upd (S.2.2 2) k v a = 0 ∨ upd (S.2.2 2) k v a = 1
  by_cases e : a = k
  · subst e; rw [pk_us]; exact hv
  · rw [pk_un e]; exact (h.1 a ha).2.2.1
theorem Inv.v3 {S : SS} (h : Inv S) {k n : Nat} {v : Int32} (hn : n ≤ 16) (hv : v = nI n) : Inv (sV S 3 k v) := by
  refine ⟨fun a ha => ⟨(h.1 a ha).1, (h.1 a ha).2.1, (h.1 a ha).2.2.1, ?_, (h.1 a ha).2.2.2.2⟩, h.2.1, h.2.2.1, h.2.2.2⟩
  show ∃ n, n ≤ 16 ∧ upd (S.2.2 3) k v a = nI n
  by_cases e : a = k
  · subst e; rw [pk_us]; exact ⟨n, hn, hv⟩
  · rw [pk_un e]; exact (h.1 a ha).2.2.2.1
theorem Inv.v4 {S : SS} (h : Inv S) {k n : Nat} {v : Int32} (hn : n ≤ 16) (hv : v = nI n) : Inv (sV S 4 k v) := by
  refine ⟨fun a ha => ⟨(h.1 a ha).1, (h.1 a ha).2.1, (h.1 a ha).2.2.1, (h.1 a ha).2.2.2.1, ?_⟩, h.2.1, h.2.2.1, h.2.2.2⟩
  show ∃ n, n ≤ 16 ∧ upd (S.2.2 4) k v a = nI n
  by_cases e : a = k
  · subst e; rw [pk_us]; exact ⟨n, hn, hv⟩
  · rw [pk_un e]; exact (h.1 a ha).2.2.2.2
theorem Inv.offs {S : SS} (h : Inv S) {k : Nat} : Inv (xOff S k).2 := ⟨h.1, h.2.1, h.2.2.1, h.2.2.2⟩
theorem Inv.outs {S : SS} (h : Inv S) {k : Nat} : Inv (xOut S k).2 := ⟨h.1, h.2.1, h.2.2.1, h.2.2.2⟩
theorem Inv.zrc {S : SS} (h : Inv S) {k n : Nat} : Inv (zr S.1 k n, S.2.1, S.2.2) := by
  refine ⟨h.1, h.2.1, h.2.2.1, fun i hi => ?_⟩
  show zr S.1 k n 3 i = 0 ∨ zr S.1 k n 3 i = 1
  unfold zr
  by_cases e : 3 = k
  · subst e
    rw [if_pos rfl]
    show (if i < n then (0 : Int32) else S.1 3 i) = 0 ∨ (if i < n then (0 : Int32) else S.1 3 i) = 1
    by_cases q : i < n
    · rw [if_pos q]; exact Or.inl rfl
    · rw [if_neg q]; exact h.2.2.2 i hi
  · rw [if_neg e]; exact h.2.2.2 i hi
theorem Inv.numb {S : SS} (h : Inv S) (N : Nat → Nat → Int32) : Inv (S.1, N, S.2.2) := ⟨h.1, h.2.1, h.2.2.1, h.2.2.2⟩
theorem sto3_01 (v : Int64) : sto 3 v = 0 ∨ sto 3 v = 1 := by
  obtain ⟨n, hn, -, em⟩ := low_of v
  rw [← sto3_eq hn em, show (2 : Int32) = nI 2 from rfl, pk_rem (by omega) (by omega) (by omega)]
  rcases (show n % 2 = 0 ∨ n % 2 = 1 by omega) with e | e <;> rw [e]
  · exact Or.inl rfl
  · exact Or.inr rfl
theorem ped_01 {way x o : Int32} (hx : x = 0 ∨ x = 1) (ho : o = 0 ∨ o = 1) : ped way x o = 0 ∨ ped way x o = 1 := by
  unfold ped
  rcases hx with rfl | rfl <;> rcases ho with rfl | rfl <;> (repeat' split) <;> decide
theorem Inv.onply : ∀ (n : Nat) {S : SS}, Inv S → Inv (ply n S).2
  | 0, _, h => h
  | n + 1, S, h => by
    rw [ply]
    by_cases hc : hsC S 0 (S.2.2 7 0)
    · rw [if_pos hc]; exact Inv.onply n (h.onstep hc _)
    · rw [if_neg hc]; exact h
theorem iv_mount {S : SS} (h : Inv S) (lane n : Int32) : Inv (sp_mount S lane n).2 := by
  unfold sp_mount
  by_cases h1 : isl lane
  · rw [if_pos h1]
    by_cases h2 : n ≤ 60
    · rw [if_pos h2]
      by_cases h3 : 0 ≤ n
      · rw [if_pos h3]
        obtain ⟨q, hq, e⟩ := rng60 h3 h2
        exact Inv.zrc ((h.v0 (k := kN lane) (v := 1) (Or.inr rfl)).v1 (k := kN lane) hq e)
      · rw [if_neg h3]; exact h
    · rw [if_neg h2]; exact h
  · rw [if_neg h1]; exact h
theorem iv_strip {S : SS} (h : Inv S) (lane : Int32) : Inv (sp_strip S lane).2 := by
  unfold sp_strip
  by_cases h1 : isl lane
  · rw [if_pos h1]
    by_cases h2 : S.2.2 0 (kN lane) = 0
    · rw [if_pos h2]; exact h.offs
    · rw [if_neg h2]; exact h.v0 (Or.inl rfl)
  · rw [if_neg h1]; exact h
theorem iv_size {S : SS} (h : Inv S) (lane : Int32) : Inv (sp_size S lane).2 := by
  unfold sp_size
  by_cases h1 : isl lane
  · rw [if_pos h1]
    by_cases h2 : S.2.2 0 (kN lane) = 0
    · rw [if_pos h2]; exact h.offs
    · rw [if_neg h2]; exact h
  · rw [if_neg h1]; exact h
theorem iv_cell {S : SS} (h : Inv S) (lane i : Int32) : Inv (sp_cell S lane i).2 := by
  unfold sp_cell
  by_cases h1 : isl lane
  · rw [if_pos h1]
    by_cases h2 : S.2.2 0 (kN lane) = 0
    · rw [if_pos h2]; exact h.offs
    · rw [if_neg h2]
      by_cases h3 : hsC S (kN lane) i
      · rw [if_pos h3]; exact h
      · rw [if_neg h3]; exact h.outs
  · rw [if_neg h1]; exact h
theorem iv_put {S : SS} (h : Inv S) (lane i v : Int32) : Inv (sp_put S lane i v).2 := by
  unfold sp_put
  by_cases h1 : isl lane
  · rw [if_pos h1]
    by_cases h2 : S.2.2 0 (kN lane) = 0
    · rw [if_pos h2]; exact h.offs
    · rw [if_neg h2]
      by_cases h3 : hsC S (kN lane) i
      · rw [if_pos h3]
        exact h.setc (fun e => by rw [e]; exact sto3_01 _)
      · rw [if_neg h3]; exact h.outs
  · rw [if_neg h1]; exact h
theorem iv_change {S : SS} (h : Inv S) (lane way i v : Int32) : Inv (sp_change S lane way i v).2 := by
  unfold sp_change
  by_cases h1 : isl lane
  · rw [if_pos h1]
    by_cases hy : ¬ way < 0 ∧ ¬ 4 ≤ way
    · rw [if_pos hy]
      by_cases h2 : S.2.2 0 (kN lane) = 0
      · rw [if_pos h2]; exact h.offs
      · rw [if_neg h2]
        by_cases h3 : hsC S (kN lane) i
        · rw [if_pos h3]
          obtain ⟨j, hj, ej⟩ := isl_of h1
          obtain ⟨q, hq, eq⟩ := h.cell (k := kN lane) (by rw [ej, kN_nI (by omega)]; exact hj) h3
          refine h.setc (fun e => ?_)
          rw [e, chg, if_pos rfl]
          exact ped_01 (h.2.2.2 (kN i) (by rw [eq, kN_nI (by omega)]; exact hq)) (and1_01 v)
        · rw [if_neg h3]; exact h.outs
    · rw [if_neg hy]; exact h
  · rw [if_neg h1]; exact h
theorem rng16 {x : Int32} (h0 : ¬ x < 0) (h1 : ¬ 16 < x) : ∃ j : Nat, j ≤ 16 ∧ x = nI j := le_of_ix (y := 16) (by omega) rfl h0 (Int32.not_lt.mp h1)
theorem iv_rule {S : SS} (h : Inv S) (lane r c : Int32) : Inv (sp_rule S lane r c).2 := by
  unfold sp_rule
  by_cases h1 : isl lane
  · rw [if_pos h1]
    by_cases h2 : ¬ 16 < r ∧ ¬ 16 < c
    · rw [if_pos h2]
      by_cases h3 : ¬ r < 0 ∧ ¬ c < 0
      · rw [if_pos h3]
        obtain ⟨q, hq, e⟩ := rng16 h3.1 h2.1
        obtain ⟨q2, hq2, e2⟩ := rng16 h3.2 h2.2
        exact Inv.numb (((h.v2 (k := kN lane) (v := 1) (Or.inr rfl)).v3 (k := kN lane) hq e).v4 (k := kN lane) hq2 e2) _
      · rw [if_neg h3]; exact h
    · rw [if_neg h2]; exact h
  · rw [if_neg h1]; exact h
theorem iv_lay {S : SS} (h : Inv S) (lane row f : Int32) : Inv (sp_lay S lane row f).2 := by
  unfold sp_lay
  by_cases h1 : isl lane
  · rw [if_pos h1]
    by_cases h2 : S.2.2 2 (kN lane) = 0
    · rw [if_pos h2]; exact h
    · rw [if_neg h2]
      by_cases h3 : ¬ row < 0 ∧ ¬ S.2.2 3 (kN lane) ≤ row
      · rw [if_pos h3]
        by_cases h4 : S.2.2 0 (kN lane) = 0
        · rw [if_pos h4]; exact h.offs
        · rw [if_neg h4]
          by_cases h5 : ¬ f < 0 ∧ ¬ S.2.2 1 (kN lane) < f
          · rw [if_pos h5]; exact h.numb _
          · rw [if_neg h5]; exact h.outs
      · rw [if_neg h3]; exact h
  · rw [if_neg h1]; exact h
theorem iv_at {S : SS} (h : Inv S) (lane row c : Int32) : Inv (sp_at S lane row c).2 := by
  unfold sp_at
  by_cases h1 : isl lane
  · rw [if_pos h1]
    by_cases h2 : S.2.2 2 (kN lane) = 0
    · rw [if_pos h2]; exact h
    · rw [if_neg h2]
      by_cases h3 : ¬ row < 0 ∧ ¬ S.2.2 3 (kN lane) ≤ row
      · rw [if_pos h3]
        by_cases h4 : ¬ c < 0 ∧ ¬ S.2.2 4 (kN lane) ≤ c
        · rw [if_pos h4]; exact h
        · rw [if_neg h4]; exact h
      · rw [if_neg h3]; exact h
  · rw [if_neg h1]; exact h
theorem iv_head {S : SS} (h : Inv S) (x : Int32) : Inv (sp_head S x).2 := by
  unfold sp_head
  by_cases h1 : x ≤ 60
  · rw [if_pos h1]
    by_cases h2 : 0 ≤ x
    · rw [if_pos h2]
      obtain ⟨q, hq, e⟩ := rng60 h2 h1
      exact h.sethd hq e
    · rw [if_neg h2]; exact h
  · rw [if_neg h1]; exact h
theorem iv_play {S : SS} (h : Inv S) (x : Int32) : Inv (sp_play S x).2 := by
  unfold sp_play
  by_cases h1 : 0 ≤ x
  · rw [if_pos h1]
    by_cases h2 : x ≤ 200
    · rw [if_pos h2]; exact Inv.onply _ h
    · rw [if_neg h2]; exact h
  · rw [if_neg h1]; exact h
