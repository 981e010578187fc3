/-! the state: cells of the lanes, numbers of the sheets, variables: V 0 on, 1 sizes, 2 ruled, 3 rows, 4 columns, 5 offs, 6 outs, 7: head, clock, shift, mark, notes, sound, blanks -/
abbrev SS : Type := (Nat → Nat → Int32) × (Nat → Nat → Int32) × (Nat → Nat → Int32)
def up2 (f : Nat → Nat → Int32) (k i : Nat) (v : Int32) : Nat → Nat → Int32 := fun a => if a = k then upd (f k) i v else f a
def sV (S : SS) (a k : Nat) (v : Int32) : SS := (S.1, S.2.1, up2 S.2.2 a k v)
def sC (S : SS) (k i : Nat) (v : Int32) : SS := (up2 S.1 k i v, S.2.1, S.2.2)
def sN (S : SS) (k i : Nat) (v : Int32) : SS := (S.1, up2 S.2.1 k i v, S.2.2)
def ln (S : SS) (k : Nat) : Int32 := if S.2.2 0 k = 0 then -1 else S.2.2 1 k
def rn (S : SS) (k : Nat) : Int32 := if S.2.2 2 k = 0 then -1 else S.2.2 3 k
abbrev fBench (ad : Nat → Nat) (S : SS) : List Value := [.ref (ad 1), .int (S.2.2 7 0), .int (S.2.2 7 1), .int (S.2.2 7 2), .int (S.2.2 7 3), .int (S.2.2 7 4), .int (S.2.2 7 5), .int (S.2.2 7 6)]
abbrev fLane (ad : Nat → Nat) (S : SS) (k : Nat) : List Value := [.ref (ad (3 + 4 * k)), .ref (ad (4 + 4 * k)), .int (ln S k), .int (S.2.2 5 k), .int (S.2.2 6 k)]
abbrev fSheet (ad : Nat → Nat) (S : SS) (k : Nat) : List Value := [.ref (ad (5 + 4 * k)), .int (rn S k), .int (S.2.2 4 k)]
abbrev gLanes (ad : Nat → Nat) : Nat → Option Nat := fun j => if j < 5 then some (ad (2 + 4 * j)) else none
def wB (E : wE) (ad : Nat → Nat) (S : SS) : va_W :=
  [(ad 0, .inr (2, fBench ad S)), (ad 1, .inl (E.2 2, 5, .inr (.inr (.inr (.inr (gLanes ad)))))),
   (ad 2, .inr (0, fLane ad S 0)), (ad 3, .inl (E.2 0, 60, .inl (S.1 0))), (ad 4, .inr (1, fSheet ad S 0)), (ad 5, .inl (E.2 0, 256, .inl (S.2.1 0))),
   (ad 6, .inr (0, fLane ad S 1)), (ad 7, .inl (E.2 0, 60, .inl (S.1 1))), (ad 8, .inr (1, fSheet ad S 1)), (ad 9, .inl (E.2 0, 256, .inl (S.2.1 1))),
   (ad 10, .inr (0, fLane ad S 2)), (ad 11, .inl (E.2 0, 60, .inl (S.1 2))), (ad 12, .inr (1, fSheet ad S 2)), (ad 13, .inl (E.2 0, 256, .inl (S.2.1 2))),
   (ad 14, .inr (0, fLane ad S 3)), (ad 15, .inl (E.2 0, 60, .inl (S.1 3))), (ad 16, .inr (1, fSheet ad S 3)), (ad 17, .inl (E.2 0, 256, .inl (S.2.1 3))),
   (ad 18, .inr (0, fLane ad S 4)), (ad 19, .inl (E.2 0, 60, .inl (S.1 4))), (ad 20, .inr (1, fSheet ad S 4)), (ad 21, .inl (E.2 0, 256, .inl (S.2.1 4)))]
section Places
variable {E : wE} {ad : Nat → Nat} {S : SS} {k : Nat}
theorem wB_b : (wB E ad S)[0]? = some (ad 0, .inr (2, fBench ad S)) := rfl
theorem wB_l : (wB E ad S)[1]? = some (ad 1, .inl (E.2 2, 5, .inr (.inr (.inr (.inr (gLanes ad)))))) := rfl
theorem wB_lane (hk : k < 5) : (wB E ad S)[2 + 4 * k]? = some (ad (2 + 4 * k), .inr (0, fLane ad S k)) := by
  rcases (show k = 0 ∨ k = 1 ∨ k = 2 ∨ k = 3 ∨ k = 4 by omega) with rfl | rfl | rfl | rfl | rfl <;> rfl
theorem wB_cells (hk : k < 5) : (wB E ad S)[3 + 4 * k]? = some (ad (3 + 4 * k), .inl (E.2 0, 60, .inl (S.1 k))) := by
  rcases (show k = 0 ∨ k = 1 ∨ k = 2 ∨ k = 3 ∨ k = 4 by omega) with rfl | rfl | rfl | rfl | rfl <;> rfl
theorem wB_sheet (hk : k < 5) : (wB E ad S)[4 + 4 * k]? = some (ad (4 + 4 * k), .inr (1, fSheet ad S k)) := by
  rcases (show k = 0 ∨ k = 1 ∨ k = 2 ∨ k = 3 ∨ k = 4 by omega) with rfl | rfl | rfl | rfl | rfl <;> rfl
theorem wB_nums (hk : k < 5) : (wB E ad S)[5 + 4 * k]? = some (ad (5 + 4 * k), .inl (E.2 0, 256, .inl (S.2.1 k))) := by
  rcases (show k = 0 ∨ k = 1 ∨ k = 2 ∨ k = 3 ∨ k = 4 by omega) with rfl | rfl | rfl | rfl | rfl <;> rfl
theorem gLanes_at (hk : k < 5) : gLanes ad (nI k).toNatClampNeg = some (ad (2 + 4 * k)) := by
  rw [nI_clamp (by omega)]
  exact if_pos hk
theorem gLanes_0 : gLanes ad (0 : Int32).toNatClampNeg = some (ad (2 + 4 * 0)) := rfl
/-- what a store makes of the world -/
theorem wB_sG (g : Nat) (hg : g < 7) (v : Int32) : (wB E ad S).set 0 (ad 0, .inr (2, (fBench ad S).set (1 + g) (.int v))) = wB E ad (sV S 7 g v) := by
  rcases (show g = 0 ∨ g = 1 ∨ g = 2 ∨ g = 3 ∨ g = 4 ∨ g = 5 ∨ g = 6 by omega) with rfl | rfl | rfl | rfl | rfl | rfl | rfl <;> rfl
theorem wB_sLen (hk : k < 5) (v : Int32) : (wB E ad S).set (2 + 4 * k) (ad (2 + 4 * k), .inr (0, (fLane ad S k).set 2 (.int v))) = wB E ad (sV (sV S 0 k 1) 1 k v) := by
  rcases (show k = 0 ∨ k = 1 ∨ k = 2 ∨ k = 3 ∨ k = 4 by omega) with rfl | rfl | rfl | rfl | rfl <;> rfl
theorem wB_sOff (hk : k < 5) : (wB E ad S).set (2 + 4 * k) (ad (2 + 4 * k), .inr (0, (fLane ad S k).set 2 (.int (-1)))) = wB E ad (sV S 0 k 0) := by
  rcases (show k = 0 ∨ k = 1 ∨ k = 2 ∨ k = 3 ∨ k = 4 by omega) with rfl | rfl | rfl | rfl | rfl <;> rfl
theorem wB_sOffs (hk : k < 5) (v : Int32) : (wB E ad S).set (2 + 4 * k) (ad (2 + 4 * k), .inr (0, (fLane ad S k).set 3 (.int v))) = wB E ad (sV S 5 k v) := by
  rcases (show k = 0 ∨ k = 1 ∨ k = 2 ∨ k = 3 ∨ k = 4 by omega) with rfl | rfl | rfl | rfl | rfl <;> rfl
theorem wB_sOuts (hk : k < 5) (v : Int32) : (wB E ad S).set (2 + 4 * k) (ad (2 + 4 * k), .inr (0, (fLane ad S k).set 4 (.int v))) = wB E ad (sV S 6 k v) := by
  rcases (show k = 0 ∨ k = 1 ∨ k = 2 ∨ k = 3 ∨ k = 4 by omega) with rfl | rfl | rfl | rfl | rfl <;> rfl
theorem wB_sCell (hk : k < 5) (i : Nat) (v : Int32) : (wB E ad S).set (3 + 4 * k) (ad (3 + 4 * k), .inl (E.2 0, 60, .inl (upd (S.1 k) i v))) = wB E ad (sC S k i v) := by
  rcases (show k = 0 ∨ k = 1 ∨ k = 2 ∨ k = 3 ∨ k = 4 by omega) with rfl | rfl | rfl | rfl | rfl <;> rfl
theorem wB_sRows (hk : k < 5) (v : Int32) : (wB E ad S).set (4 + 4 * k) (ad (4 + 4 * k), .inr (1, (fSheet ad S k).set 1 (.int v))) = wB E ad (sV (sV S 2 k 1) 3 k v) := by
  rcases (show k = 0 ∨ k = 1 ∨ k = 2 ∨ k = 3 ∨ k = 4 by omega) with rfl | rfl | rfl | rfl | rfl <;> rfl
theorem wB_sCols (hk : k < 5) (v : Int32) : (wB E ad S).set (4 + 4 * k) (ad (4 + 4 * k), .inr (1, (fSheet ad S k).set 2 (.int v))) = wB E ad (sV S 4 k v) := by
  rcases (show k = 0 ∨ k = 1 ∨ k = 2 ∨ k = 3 ∨ k = 4 by omega) with rfl | rfl | rfl | rfl | rfl <;> rfl
theorem wB_sNum (hk : k < 5) (i : Nat) (v : Int32) : (wB E ad S).set (5 + 4 * k) (ad (5 + 4 * k), .inl (E.2 0, 256, .inl (upd (S.2.1 k) i v))) = wB E ad (sN S k i v) := by
  rcases (show k = 0 ∨ k = 1 ∨ k = 2 ∨ k = 3 ∨ k = 4 by omega) with rfl | rfl | rfl | rfl | rfl <;> rfl
end Places
/-- the reference's world -/
abbrev fM (am : Nat → Nat) (S : SS) : List Value := [.ref (am 1), .ref (am 2), .ref (am 3), .ref (am 4), .ref (am 5), .ref (am 6), .ref (am 7), .ref (am 8), .ref (am 9), .int (S.2.2 7 0), .int (S.2.2 7 1), .int (S.2.2 7 2), .int (S.2.2 7 3), .int (S.2.2 7 4), .int (S.2.2 7 5), .int (S.2.2 7 6)]
def gC (S : SS) : Nat → Int32 := fun q => S.1 (q / 60) (q % 60)
def gN (S : SS) : Nat → Int32 := fun q => S.2.1 (q / 256) (q % 256)
def wM (E : wE) (am : Nat → Nat) (S : SS) : va_W :=
  [(am 0, .inr (3, fM am S)), (am 1, .inl (E.2 0, 300, .inl (gC S))), (am 2, .inl (E.2 0, 5, .inl (S.2.2 1))), (am 3, .inl (E.2 1, 5, .inl (S.2.2 0))), (am 4, .inl (E.2 0, 1280, .inl (gN S))),
   (am 5, .inl (E.2 0, 5, .inl (S.2.2 3))), (am 6, .inl (E.2 0, 5, .inl (S.2.2 4))), (am 7, .inl (E.2 1, 5, .inl (S.2.2 2))), (am 8, .inl (E.2 0, 5, .inl (S.2.2 5))), (am 9, .inl (E.2 0, 5, .inl (S.2.2 6)))]
section PlacesM
variable {E : wE} {am : Nat → Nat} {S : SS} {k : Nat}
theorem wM_o : (wM E am S)[0]? = some (am 0, .inr (3, fM am S)) := rfl
theorem wM_cells : (wM E am S)[1]? = some (am 1, .inl (E.2 0, 300, .inl (gC S))) := rfl
theorem wM_sizes : (wM E am S)[2]? = some (am 2, .inl (E.2 0, 5, .inl (S.2.2 1))) := rfl
theorem wM_on : (wM E am S)[3]? = some (am 3, .inl (E.2 1, 5, .inl (S.2.2 0))) := rfl
theorem wM_sheets : (wM E am S)[4]? = some (am 4, .inl (E.2 0, 1280, .inl (gN S))) := rfl
theorem wM_rows : (wM E am S)[5]? = some (am 5, .inl (E.2 0, 5, .inl (S.2.2 3))) := rfl
theorem wM_cols : (wM E am S)[6]? = some (am 6, .inl (E.2 0, 5, .inl (S.2.2 4))) := rfl
theorem wM_ruled : (wM E am S)[7]? = some (am 7, .inl (E.2 1, 5, .inl (S.2.2 2))) := rfl
theorem wM_offs : (wM E am S)[8]? = some (am 8, .inl (E.2 0, 5, .inl (S.2.2 5))) := rfl
theorem wM_outs : (wM E am S)[9]? = some (am 9, .inl (E.2 0, 5, .inl (S.2.2 6))) := rfl
theorem wM_sG (g : Nat) (hg : g < 7) (v : Int32) : (wM E am S).set 0 (am 0, .inr (3, (fM am S).set (9 + g) (.int v))) = wM E am (sV S 7 g v) := by
  rcases (show g = 0 ∨ g = 1 ∨ g = 2 ∨ g = 3 ∨ g = 4 ∨ g = 5 ∨ g = 6 by omega) with rfl | rfl | rfl | rfl | rfl | rfl | rfl <;> rfl
theorem wM_sSize (i : Nat) (v : Int32) : (wM E am S).set 2 (am 2, .inl (E.2 0, 5, .inl (upd (S.2.2 1) i v))) = wM E am (sV S 1 i v) := rfl
theorem wM_sOn (i : Nat) (v : Int32) : (wM E am S).set 3 (am 3, .inl (E.2 1, 5, .inl (upd (S.2.2 0) i v))) = wM E am (sV S 0 i v) := rfl
theorem wM_sRows (i : Nat) (v : Int32) : (wM E am S).set 5 (am 5, .inl (E.2 0, 5, .inl (upd (S.2.2 3) i v))) = wM E am (sV S 3 i v) := rfl
theorem wM_sCols (i : Nat) (v : Int32) : (wM E am S).set 6 (am 6, .inl (E.2 0, 5, .inl (upd (S.2.2 4) i v))) = wM E am (sV S 4 i v) := rfl
theorem wM_sRuled (i : Nat) (v : Int32) : (wM E am S).set 7 (am 7, .inl (E.2 1, 5, .inl (upd (S.2.2 2) i v))) = wM E am (sV S 2 i v) := rfl
theorem wM_sOffs (i : Nat) (v : Int32) : (wM E am S).set 8 (am 8, .inl (E.2 0, 5, .inl (upd (S.2.2 5) i v))) = wM E am (sV S 5 i v) := rfl
theorem wM_sOuts (i : Nat) (v : Int32) : (wM E am S).set 9 (am 9, .inl (E.2 0, 5, .inl (upd (S.2.2 6) i v))) = wM E am (sV S 6 i v) := rfl
theorem gC_at {i : Nat} (hi : i < 60) : gC S (60 * k + i) = S.1 k i := by
  show S.1 ((60 * k + i) / 60) ((60 * k + i) % 60) = _
  rw [show (60 * k + i) / 60 = k by omega, show (60 * k + i) % 60 = i by omega]
theorem gN_at {i : Nat} (hi : i < 256) : gN S (256 * k + i) = S.2.1 k i := by
  show S.2.1 ((256 * k + i) / 256) ((256 * k + i) % 256) = _
  rw [show (256 * k + i) / 256 = k by omega, show (256 * k + i) % 256 = i by omega]
theorem gC_up {i : Nat} (hi : i < 60) (v : Int32) : upd (gC S) (60 * k + i) v = gC (sC S k i v) := by
  funext q
  show (if q = 60 * k + i then v else S.1 (q / 60) (q % 60)) = (if q / 60 = k then upd (S.1 k) i v else S.1 (q / 60)) (q % 60)
  by_cases h : q / 60 = k
  · rw [if_pos h]
    show _ = if q % 60 = i then v else S.1 k (q % 60)
    by_cases h2 : q % 60 = i
    · rw [if_pos h2, if_pos (by omega)]
    · rw [if_neg h2, if_neg (by omega), h]
  · rw [if_neg h, if_neg (by omega)]
theorem gN_up {i : Nat} (hi : i < 256) (v : Int32) : upd (gN S) (256 * k + i) v = gN (sN S k i v) := by
  funext q
  show (if q = 256 * k + i then v else S.2.1 (q / 256) (q % 256)) = (if q / 256 = k then upd (S.2.1 k) i v else S.2.1 (q / 256)) (q % 256)
  by_cases h : q / 256 = k
  · rw [if_pos h]
    show _ = if q % 256 = i then v else S.2.1 k (q % 256)
    by_cases h2 : q % 256 = i
    · rw [if_pos h2, if_pos (by omega)]
    · rw [if_neg h2, if_neg (by omega), h]
  · rw [if_neg h, if_neg (by omega)]
theorem wM_sCell {i : Nat} (hi : i < 60) (v : Int32) : (wM E am S).set 1 (am 1, .inl (E.2 0, 300, .inl (upd (gC S) (60 * k + i) v))) = wM E am (sC S k i v) := by
  rw [gC_up hi]; rfl
theorem wM_sNum {i : Nat} (hi : i < 256) (v : Int32) : (wM E am S).set 4 (am 4, .inl (E.2 0, 1280, .inl (upd (gN S) (256 * k + i) v))) = wM E am (sN S k i v) := by
  rw [gN_up hi]; rfl
end PlacesM
