/-! what the calls do, over the state -/
abbrev isl (x : Int32) : Prop := ¬ x < 0 ∧ ¬ 5 ≤ x
abbrev kN (x : Int32) : Nat := x.toNatClampNeg
abbrev hsC (S : SS) (k : Nat) (i : Int32) : Prop := ¬ S.2.2 0 k = 0 ∧ ¬ i < 0 ∧ ¬ S.2.2 1 k ≤ i
def bI (P : Prop) [Decidable P] : Int32 := if P then 1 else 0
def Inv (S : SS) : Prop :=
  (∀ k, k < 5 → (S.2.2 0 k = 0 ∨ S.2.2 0 k = 1) ∧ (∃ n, n ≤ 60 ∧ S.2.2 1 k = nI n) ∧ (S.2.2 2 k = 0 ∨ S.2.2 2 k = 1) ∧ (∃ n, n ≤ 16 ∧ S.2.2 3 k = nI n) ∧ (∃ n, n ≤ 16 ∧ S.2.2 4 k = nI n)) ∧
  (∃ h, h ≤ 60 ∧ S.2.2 7 0 = nI h) ∧ (∃ h, h ≤ 60 ∧ S.2.2 7 3 = nI h) ∧ (∀ i, i < 60 → S.1 3 i = 0 ∨ S.1 3 i = 1)
def zr (C : Nat → Nat → Int32) (k n : Nat) : Nat → Nat → Int32 := fun a => if a = k then (fun b => if b < n then 0 else C k b) else C a
def xOff (S : SS) (k : Nat) : Int32 × SS := (-1000005, sV S 5 k (S.2.2 5 k + 1))
def xOut (S : SS) (k : Nat) : Int32 × SS := (-1000006, sV S 6 k (S.2.2 6 k + 1))
def cl8 (v : Int64) : Int64 := if (if v < 8000 then v else 8000) < -8000 then -8000 else (if v < 8000 then v else 8000)
def sto (k : Nat) (v : Int64) : Int32 := if k = 0 then (v &&& 65535).toInt32 else if k = 1 then v.toInt32.toInt16.toInt32 else if k = 3 then (v &&& 1).toInt32 else if k = 4 then v.toInt32.toInt8.toInt32 else (cl8 v).toInt32
def rck (way : Int32) (c v : Int64) : Int64 := if way = 0 then c + v else if way = 1 then c - v else if way = 2 then c * v else c + 1
def ped (way c o : Int32) : Int32 := if way = 0 then c ||| o else if way = 1 then c &&& o else if way = 2 then c ^^^ o else 1 - c
def chg (k : Nat) (way c v : Int32) : Int32 := if k = 3 then ped way c (v &&& 1) else sto k (rck way c.toInt64 v.toInt64)
def sp_mount (S : SS) (lane n : Int32) : Int32 × SS :=
  if isl lane then (if n ≤ 60 then (if 0 ≤ n then (n, (zr S.1 (kN lane) (kN n), S.2.1, up2 (up2 S.2.2 0 (kN lane) 1) 1 (kN lane) n)) else (-1000004, S)) else (-1000003, S)) else (-1000001, S)
def sp_strip (S : SS) (lane : Int32) : Int32 × SS :=
  if isl lane then (if S.2.2 0 (kN lane) = 0 then xOff S (kN lane) else (S.2.2 1 (kN lane), sV S 0 (kN lane) 0)) else (-1000001, S)
def sp_size (S : SS) (lane : Int32) : Int32 × SS :=
  if isl lane then (if S.2.2 0 (kN lane) = 0 then xOff S (kN lane) else (S.2.2 1 (kN lane), S)) else (-1000001, S)
def sp_cell (S : SS) (lane i : Int32) : Int32 × SS :=
  if isl lane then (if S.2.2 0 (kN lane) = 0 then xOff S (kN lane) else if hsC S (kN lane) i then (S.1 (kN lane) (kN i), S) else xOut S (kN lane)) else (-1000001, S)
def sp_put (S : SS) (lane i v : Int32) : Int32 × SS :=
  if isl lane then (if S.2.2 0 (kN lane) = 0 then xOff S (kN lane) else if hsC S (kN lane) i then (sto (kN lane) v.toInt64, sC S (kN lane) (kN i) (sto (kN lane) v.toInt64)) else xOut S (kN lane)) else (-1000001, S)
def sp_change (S : SS) (lane way i v : Int32) : Int32 × SS :=
  if isl lane then (if ¬ way < 0 ∧ ¬ 4 ≤ way then (if S.2.2 0 (kN lane) = 0 then xOff S (kN lane) else if hsC S (kN lane) i then (chg (kN lane) way (S.1 (kN lane) (kN i)) v, sC S (kN lane) (kN i) (chg (kN lane) way (S.1 (kN lane) (kN i)) v)) else xOut S (kN lane)) else (-1000002, S)) else (-1000001, S)
def sp_rule (S : SS) (lane r c : Int32) : Int32 × SS :=
  if isl lane then (if ¬ 16 < r ∧ ¬ 16 < c then (if ¬ r < 0 ∧ ¬ c < 0 then (r * c, (S.1, zr S.2.1 (kN lane) 256, up2 (up2 (up2 S.2.2 2 (kN lane) 1) 3 (kN lane) r) 4 (kN lane) c)) else (-1000004, S)) else (-1000003, S)) else (-1000001, S)
def lyM (S : SS) (k from_ : Nat) : Nat := min ((S.2.2 1 k).toNatClampNeg - from_) (S.2.2 4 k).toNatClampNeg
def lyN (S : SS) (k row from_ n : Nat) : Nat → Nat → Int32 := fun a => if a = k then (fun b => if 16 * row ≤ b ∧ b < 16 * row + n then S.1 k (from_ + (b - 16 * row)) else S.2.1 k b) else S.2.1 a
def sp_lay (S : SS) (lane row from_ : Int32) : Int32 × SS :=
  if isl lane then (if S.2.2 2 (kN lane) = 0 then (-1000007, S) else if ¬ row < 0 ∧ ¬ S.2.2 3 (kN lane) ≤ row then (if S.2.2 0 (kN lane) = 0 then xOff S (kN lane) else if ¬ from_ < 0 ∧ ¬ S.2.2 1 (kN lane) < from_ then (nI (lyM S (kN lane) (kN from_)), (S.1, lyN S (kN lane) (kN row) (kN from_) (lyM S (kN lane) (kN from_)), S.2.2)) else xOut S (kN lane)) else (-1000008, S)) else (-1000001, S)
def sp_at (S : SS) (lane row col : Int32) : Int32 × SS :=
  if isl lane then (if S.2.2 2 (kN lane) = 0 then (-1000007, S) else if ¬ row < 0 ∧ ¬ S.2.2 3 (kN lane) ≤ row then (if ¬ col < 0 ∧ ¬ S.2.2 4 (kN lane) ≤ col then (S.2.1 (kN lane) (16 * kN row + kN col), S) else (-1000009, S)) else (-1000008, S)) else (-1000001, S)
def sp_head (S : SS) (h : Int32) : Int32 × SS :=
  if h ≤ 60 then (if 0 ≤ h then (S.2.2 7 0, sV S 7 0 h) else (-1000004, S)) else (-1000003, S)
def tld (S : SS) (k : Nat) (d : Int32) : Int32 := if hsC S k (S.2.2 7 0) then S.1 k (kN (S.2.2 7 0)) else d
def lws (S : SS) (k : Nat) : SS := sC S k (kN (S.2.2 7 0)) (S.1 k (kN (S.2.2 7 0)) - 1)
def ihd (S : SS) : SS := sV S 7 0 (S.2.2 7 0 + 1)
def tt (S : SS) : Int32 := if tld S 3 0 = 1 then 2 * tld S 1 1 else tld S 1 1
def nte (S : SS) : SS := sV (sV (sV (sV S 7 1 (S.2.2 7 1 + tt S)) 7 4 (S.2.2 7 4 + 1)) 7 5 (S.2.2 7 5 + tt S * (tld S 4 0 + S.2.2 7 2))) 7 5 (S.2.2 7 5 + tt S * (tld S 4 0 + S.2.2 7 2) + tld S 2 8)
def stp (S : SS) (g : Int32) : SS :=
  if g = 46 then ihd (sV S 7 1 (S.2.2 7 1 + tld S 1 1)) else if g = 110 then ihd (nte S)
  else if g = 114 then (if 0 < tld S 1 0 then sV (lws S 1) 7 0 (S.2.2 7 3) else ihd S)
  else if g = 116 then ihd (sV S 7 2 (tld S 4 0))
  else if g = 119 then (if 0 < tld S 2 0 then ihd (lws S 2) else ihd S)
  else if g = 124 then ihd (sV S 7 3 (S.2.2 7 0)) else ihd (sV S 7 6 (S.2.2 7 6 + 1))
def ply : Nat → SS → Nat × SS
  | 0, S => (0, S)
  | n + 1, S => if hsC S 0 (S.2.2 7 0) then ((ply n (stp S (S.1 0 (kN (S.2.2 7 0))))).1 + 1, (ply n (stp S (S.1 0 (kN (S.2.2 7 0))))).2) else (0, S)
def sp_play (S : SS) (n : Int32) : Int32 × SS :=
  if 0 ≤ n then (if n ≤ 200 then (nI (ply (kN n) S).1, (ply (kN n) S).2) else (-1000003, S)) else (-1000004, S)
def sp_count (S : SS) (w : Int32) : Int32 :=
  if isl w then S.2.2 5 (kN w) else if ¬ w < 5 ∧ ¬ 10 ≤ w then S.2.2 6 (kN (w - 5)) else if w = 10 then S.2.2 7 0 else if w = 11 then S.2.2 7 1 else if w = 12 then S.2.2 7 2 else if w = 13 then S.2.2 7 3 else if w = 14 then S.2.2 7 4 else if w = 15 then S.2.2 7 5 else if w = 16 then S.2.2 7 6 else 0
/-! small facts -/
theorem bI_t {P : Prop} [Decidable P] {r : Int32} (h : r = bI P) (c : ¬ r = 0) : P := by
  by_cases hp : P
  · exact hp
  · exact absurd (by rw [h]; exact if_neg hp) c
theorem bI_f {P : Prop} [Decidable P] {r : Int32} (h : r = bI P) (c : r = 0) : ¬ P := by
  intro hp
  rw [h, bI, if_pos hp] at c
  exact absurd c (by decide)
theorem isl_of {x : Int32} (h : isl x) : ∃ j : Nat, j < 5 ∧ x = nI j := by
  obtain ⟨j, hj, e⟩ := nI_of h.1
  refine ⟨j, ?_, e⟩
  rcases Nat.lt_or_ge j 5 with q | q
  · exact q
  · exact absurd (by rw [e]; exact nI_le (a := 5) q hj) h.2
theorem isl_nI {j : Nat} (h : j < 5) : isl (nI j) := ⟨nI_pos (by omega), nI_ge (b := 5) h (by omega)⟩
theorem kN_nI {j : Nat} (h : j < 2 ^ 31) : kN (nI j) = j := nI_clamp h
theorem in5 {j : Nat} (h : j < 5) : vp_in (nI j) 5 := vp_in_nI h (by omega)
theorem Inv.off {S : SS} (h : Inv S) {k : Nat} (hk : k < 5) : ln S k = -1 ↔ S.2.2 0 k = 0 := by
  obtain ⟨n, hn, e⟩ := (h.1 k hk).2.1
  unfold ln
  by_cases h0 : S.2.2 0 k = 0
  · rw [if_pos h0]; exact ⟨fun _ => h0, fun _ => rfl⟩
  · rw [if_neg h0]
    refine ⟨fun q => ?_, fun q => absurd q h0⟩
    rw [e] at q
    exact absurd (show nI n < 0 by rw [q]; decide) (nI_pos (by omega))
theorem Inv.none {S : SS} (h : Inv S) {k : Nat} (hk : k < 5) : rn S k = -1 ↔ S.2.2 2 k = 0 := by
  obtain ⟨n, hn, e⟩ := (h.1 k hk).2.2.2.1
  unfold rn
  by_cases h0 : S.2.2 2 k = 0
  · rw [if_pos h0]; exact ⟨fun _ => h0, fun _ => rfl⟩
  · rw [if_neg h0]
    refine ⟨fun q => ?_, fun q => absurd q h0⟩
    rw [e] at q
    exact absurd (show nI n < 0 by rw [q]; decide) (nI_pos (by omega))
theorem ln_on {S : SS} {k : Nat} (h : ¬ S.2.2 0 k = 0) : ln S k = S.2.2 1 k := if_neg h
theorem rn_on {S : SS} {k : Nat} (h : ¬ S.2.2 2 k = 0) : rn S k = S.2.2 3 k := if_neg h
/-- an index below a size that is at most N -/
theorem lt_of_ix {x y : Int32} {n N : Nat} (hn : n ≤ N) (hN : N < 2 ^ 31) (e : y = nI n) (h0 : ¬ x < 0) (h1 : ¬ y ≤ x) : ∃ j : Nat, j < n ∧ x = nI j := by
  obtain ⟨j, hj, ej⟩ := nI_of h0
  refine ⟨j, ?_, ej⟩
  rcases Nat.lt_or_ge j n with q | q
  · exact q
  · exact absurd (by rw [e, ej]; exact nI_le q hj) h1
theorem Inv.cell {S : SS} (h : Inv S) {k : Nat} (hk : k < 5) {i : Int32} (hi : hsC S k i) : ∃ j : Nat, j < 60 ∧ i = nI j := by
  obtain ⟨n, hn, e⟩ := (h.1 k hk).2.1
  obtain ⟨j, hj, ej⟩ := lt_of_ix hn (by omega) e hi.2.1 hi.2.2
  exact ⟨j, by omega, ej⟩
theorem Inv.hc {S : SS} (h : Inv S) {k : Nat} (hk : k < 5) {i : Int32} (h0 : ¬ i < 0) : (¬ ln S k ≤ i) ↔ hsC S k i := by
  by_cases hz : S.2.2 0 k = 0
  · rw [ln, if_pos hz]
    refine ⟨fun q => absurd ?_ q, fun q => absurd hz q.1⟩
    obtain ⟨j, hj, ej⟩ := nI_of h0
    rw [ej, Int32.le_iff_toInt_le, nI_toInt hj]
    have : (-1 : Int32).toInt = -1 := by decide
    omega
  · rw [ln_on hz]
    exact ⟨fun q => ⟨hz, h0, q⟩, fun q => q.2.2⟩
theorem Inv.hr {S : SS} (h : Inv S) {k : Nat} (hk : k < 5) {i : Int32} (h0 : ¬ i < 0) : (¬ rn S k ≤ i) ↔ (¬ S.2.2 2 k = 0 ∧ ¬ S.2.2 3 k ≤ i) := by
  by_cases hz : S.2.2 2 k = 0
  · rw [rn, if_pos hz]
    refine ⟨fun q => absurd ?_ q, fun q => absurd hz q.1⟩
    obtain ⟨j, hj, ej⟩ := nI_of h0
    rw [ej, Int32.le_iff_toInt_le, nI_toInt hj]
    have : (-1 : Int32).toInt = -1 := by decide
    omega
  · rw [rn_on hz]
    exact ⟨fun q => ⟨hz, q⟩, fun q => q.2⟩
theorem zr_0 (C : Nat → Nat → Int32) (k : Nat) : zr C k 0 = C := by
  funext a b
  unfold zr
  by_cases h : a = k
  · subst h; simp
  · rw [if_neg h]
theorem zr_s (C : Nat → Nat → Int32) (k n : Nat) : up2 (zr C k n) k n 0 = zr C k (n + 1) := by
  funext a b
  unfold zr up2
  by_cases h : a = k
  · subst h
    simp only [if_true, upd]
    by_cases h2 : b = n
    · subst h2; rw [if_pos rfl, if_pos (by omega)]
    · rw [if_neg h2]
      by_cases h3 : b < n
      · rw [if_pos h3, if_pos (by omega)]
      · rw [if_neg h3, if_neg (by omega)]
  · simp only [if_neg h]
