/-! THE CLAIM OUT OF ONE WALK OF THE LAW'S BODY. Your part is whole_start (and what it stands on); all else here is the same for every law, but numbers. -/
def R_law : String := "RollBenchLaw"
def lw_P (b : Addr) (xs : List Int32) (args : Array Value) (s : State) : Prop := args = #[.ref b] ∧ s.IntsAt b xs ∧ xs.length ≤ 2560 ∧ (Jvm.Cond.and given_1 narrow_1).before args s = true
def lw_Q (_ : Array Value) (s : State) (o : Outcome) (t : State) : Prop := o = .returned (some (.int 1)) ∧ Framed s o t [] 600000 7302250
def lw_Z (below : List Frame) (a : Array Value) (s : State) : State → Prop := fun t => ∃ o, t.status = .running ∧ Ended t below o ∧ lw_Q a s o t
/-- the law's own end, with 1 on the stack, nothing written that was there before, its room as the claim has it -/
theorem lw_ret {p : Program} {l : Launch} {e : Env} {s : State} {m : MethodId} {below : List Frame} {meth : Method} {c : Code} {b : Nat} (hx : p.tables.exec = Jvm.exec) (hb : c.code = code) (hr : meth.sig.returnType = ret) (hlocks : meth.locks = false) {pc : Nat} {H : Heap} {ls : Array Slot} (hdg : decode code pc = .ok (.ireturn, 1)) : W p l e room_1 s m #[Value.ref b] below meth c H [] 600000 7302250 (lw_Z below #[Value.ref b] s) (F0 m pc ls [.int 1]) := by
  intro T hT X
  obtain ⟨fs, hret, hrun, hended, hW, hframe⟩ := X.leave (v := some (.int 1)) (hlocks := hlocks) (fun h => by rw [hr] at h; cases h)
  have hmeth' : T.vm.method? m = some meth := X.method'
  refine ⟨T.setFrames fs, ?_, .returned (some (.int 1)), hrun, hended, rfl, ⟨_, rfl⟩, hW, hframe⟩
  jvm_step X.here [X.here.top, hx, hb, hdg, hmeth', hr, ret, narrow_b1]
  (try refine ⟨rfl, ?_⟩); (try refine ⟨rfl, ?_⟩)
  first | (intro acts; rw [hret _ acts rfl rfl rfl]) | rw [hret _ _ rfl rfl rfl]
  exact Steps.refl _
/-- what holds at the law's entry: the machine, the code, the tables' words (any of lw_tbl by 'hts w (by decide +kernel)'), the script of L ints xs at the cell b, what the Statement gives of the start (any of its parts by flat_of_before) -/
def lw_At (p : Program) (s : State) (m : MethodId) (meth : Method) (c : Code) (b L : Nat) (xs : Nat → Int32) : Prop :=
  p.tables.exec = Jvm.exec ∧ c.code = code ∧ meth.sig.returnType = ret ∧ c.maxLocals = 4 ∧ s.vm.findClass R_law = some m.cls ∧ (∀ w ∈ lw_tbl, w.before #[Value.ref b] s = true) ∧ va_X b L xs s s.heap ∧ b < s.heap.size ∧ meth.locks = false ∧ (Jvm.Cond.and given_1 narrow_1).before #[Value.ref b] s = true

theorem lawc {L k : Nat} (hL : L ≤ 2560) (hk : k ≤ L) : (Int32.ofNat L - 5 < nI k) ↔ L < k + 5 := by
  rw [Int32.lt_iff_toInt_lt, show (Int32.ofNat L - 5 : Int32) = nI L - nI 5 from rfl, pk_sub_toInt (by omega) (by omega), nI_toInt (by omega)]
  omega
set_option maxHeartbeats 4000000 in
set_option maxRecDepth 100000 in
/-- the law's loop: at its head both hold one state -/
theorem law_loop {p : Program} {l : Launch} {e : Env} {s : State} {m : MethodId} {below : List Frame} {meth : Method} {c : Code} {b L : Nat} {xs : Nat → Int32} (hL : L ≤ 2560) (hX : va_X b L xs s s.heap) (hbl : b < s.heap.size) (E : wE) (ad am : Nat → Nat) (hlocks : meth.locks = false) (hr0 : meth.sig.returnType = ret)
    (K : wC p s m #[Value.ref b] meth c cL_law 4 ret RL wsL_law E (fun q => s.heap.size ≤ q)) :
    ∀ (n k : Nat), L + 1 ≤ k + n → k ≤ L → ∀ (S : SS), Inv S → ∀ (H : Heap) (locs : List Loc) (ls : Array Slot), lv_has ls 4 [(3, .int (nI k)), (2, .ref (am 0)), (1, .ref (ad 0)), (0, .ref b)] → wW E (fun q => s.heap.size ≤ q) s (wB E ad S ++ wM E am S) H locs →
      W p l e room_1 s m #[Value.ref b] below meth c H locs 32 3264 (lw_Z below #[Value.ref b] s) (F0 m 18 ls []) := by
  obtain ⟨hx, hb, -, hml, hown, hts, -, -, -⟩ := id K
  have hbA : ¬ (fun q : Nat => s.heap.size ≤ q) b := Nat.not_le.mpr hbl
  intro n
  induction n with
  | zero =>
    intro k h1 h2
    exact absurd h1 (by omega)
  | succ n ih =>
    intro k hn hk S hI H locs ls hl hw
    refine lv_iload_n hx hb dL_law_18 rfl (lv_at hl 0 rfl) ?_
    refine lv_aload_n hx hb dL_law_19 rfl (lv_at hl 3 rfl) ?_
    refine va_slen hx hb hX hbl hbA hw.2.2 dL_law_20 ?_
    refine lv_iconst (v := 5) hx hb dL_law_21 (by decide) ?_
    refine lv_isub hx hb dL_law_22 ?_
    refine lv_icmp_gt (tgt := 508) hx hb dL_law_23 (by decide) (fun c_23 => ?_) (fun c_23 => ?_)
    · refine lv_iconst (v := 1) hx hb dL_law_508 (by decide) ?_
      refine va_forget (fun q hq => hw.2.2.2.2 q hq) ?_
      refine W.widen (k := 600000) (n := 7302250) (Nat.le_of_ble_eq_true rfl) (Nat.le_of_ble_eq_true rfl) ?_
      exact lw_ret hx hb hr0 hlocks dL_law_509
    have hk5 : k + 5 ≤ L := by
      rcases Nat.lt_or_ge L (k + 5) with q | q
      · exact absurd ((lawc hL hk).mpr q) c_23
      · exact q
    refine lv_aload_n hx hb dL_law_26 rfl (lv_at hl 3 rfl) ?_
    refine lv_iload_n hx hb dL_law_27 rfl (lv_at hl 0 rfl) ?_
    refine va_sld hx hb hX hbl hbA hw.2.2 (vp_in_nI (by omega) (by omega)) dL_law_28 ?_
    refine lv_bipush (v := 15) hx hb dL_law_29 (by decide) ?_
    refine lv_iand hx hb dL_law_31 ?_
    obtain ⟨j, hj, ej⟩ := pk_andE (xs (nI k).toNatClampNeg) (m := 15) 4 (by decide)
    rw [ej]
    rcases (show j = 0 ∨ j = 1 ∨ j = 2 ∨ j = 3 ∨ j = 4 ∨ j = 5 ∨ j = 6 ∨ j = 7 ∨ j = 8 ∨ j = 9 ∨ j = 10 ∨ j = 11 ∨ j = 12 ∨ j = 13 ∨ j = 14 ∨ j = 15 by omega) with rfl | rfl | rfl | rfl | rfl | rfl | rfl | rfl | rfl | rfl | rfl | rfl | rfl | rfl | rfl | rfl
    · refine lv_tableIn (off := 64) (tgt := 96) hx hb dL_law_32 (by decide +kernel) (by decide +kernel) (by decide +kernel) (by decide) ?_
      refine lv_aload_n hx hb dL_law_96 rfl (lv_at hl 2 rfl) ?_
      refine lv_aload_n hx hb dL_law_97 rfl (lv_at hl 3 rfl) ?_
      refine lv_iload_n hx hb dL_law_98 rfl (lv_at hl 0 rfl) ?_
      refine lv_iconst (v := 1) hx hb dL_law_99 (by decide) ?_
      refine lv_iadd hx hb dL_law_100 ?_
      rw [show ((nI k) + 1 : Int32) = nI (k + 1) from nI_add k 1]
      refine va_sld hx hb hX hbl hbA hw.2.2 (vp_in_nI (by omega) (by omega)) dL_law_101 ?_
      refine lv_aload_n hx hb dL_law_102 rfl (lv_at hl 3 rfl) ?_
      refine lv_iload_n hx hb dL_law_103 rfl (lv_at hl 0 rfl) ?_
      refine lv_iconst (v := 2) hx hb dL_law_104 (by decide) ?_
      refine lv_iadd hx hb dL_law_105 ?_
      rw [show ((nI k) + 2 : Int32) = nI (k + 2) from nI_add k 2]
      refine va_sld hx hb hX hbl hbA hw.2.2 (vp_in_nI (by omega) (by omega)) dL_law_106 ?_
      refine wCallL (a := wB E ad S) (b := wM E am S) (As := [.int (xs (nI (k + 1)).toNatClampNeg), .int (xs (nI (k + 2)).toNatClampNeg)]) (rest := []) K hw (mX2_mount l E ad S hI (xs (nI (k + 1)).toNatClampNeg) (xs (nI (k + 2)).toNatClampNeg)) (cwV 2 hts gL_law_X2_mount rfl rfl rfl (by decide +kernel) ⟨(Nat.le_of_ble_eq_true rfl), (Nat.le_of_ble_eq_true rfl)⟩) wB_b rfl rfl hl.1 rfl (Nat.le_of_ble_eq_true rfl) dL_law_107 ⟨(Nat.le_of_ble_eq_true rfl), (Nat.le_of_ble_eq_true rfl)⟩ (fun r1 w' H locs hr hw => ?_)
      obtain ⟨hr1, rfl⟩ := hr
      refine lv_aload_n hx hb dL_law_110 rfl (lv_at hl 1 rfl) ?_
      refine lv_aload_n hx hb dL_law_111 rfl (lv_at hl 3 rfl) ?_
      refine lv_iload_n hx hb dL_law_112 rfl (lv_at hl 0 rfl) ?_
      refine lv_iconst (v := 1) hx hb dL_law_113 (by decide) ?_
      refine lv_iadd hx hb dL_law_114 ?_
      rw [show ((nI k) + 1 : Int32) = nI (k + 1) from nI_add k 1]
      refine va_sld hx hb hX hbl hbA hw.2.2 (vp_in_nI (by omega) (by omega)) dL_law_115 ?_
      refine lv_aload_n hx hb dL_law_116 rfl (lv_at hl 3 rfl) ?_
      refine lv_iload_n hx hb dL_law_117 rfl (lv_at hl 0 rfl) ?_
      refine lv_iconst (v := 2) hx hb dL_law_118 (by decide) ?_
      refine lv_iadd hx hb dL_law_119 ?_
      rw [show ((nI k) + 2 : Int32) = nI (k + 2) from nI_add k 2]
      refine va_sld hx hb hX hbl hbA hw.2.2 (vp_in_nI (by omega) (by omega)) dL_law_120 ?_
      refine wCallR (a := wB E ad (sp_mount S (xs (nI (k + 1)).toNatClampNeg) (xs (nI (k + 2)).toNatClampNeg)).2) (b := wM E am S) (As := [.int (xs (nI (k + 1)).toNatClampNeg), .int (xs (nI (k + 2)).toNatClampNeg)]) (rest := [.int r1]) K hw (mX3_mount l E am S hI (xs (nI (k + 1)).toNatClampNeg) (xs (nI (k + 2)).toNatClampNeg)) (cwV 2 hts gL_law_X3_mount rfl rfl rfl (by decide +kernel) ⟨(Nat.le_of_ble_eq_true rfl), (Nat.le_of_ble_eq_true rfl)⟩) wM_o rfl rfl hl.1 rfl (Nat.le_of_ble_eq_true rfl) dL_law_121 ⟨(Nat.le_of_ble_eq_true rfl), (Nat.le_of_ble_eq_true rfl)⟩ (fun r2 w' H locs hr hw => ?_)
      obtain ⟨hr2, rfl⟩ := hr
      refine lv_icmp_eq (tgt := 502) hx hb dL_law_124 (by decide) (fun c_124 => ?_) (fun c_124 => ?_)
      rotate_left
      · exact absurd (hr1.trans hr2.symm) c_124
      refine lv_iinc (v := nI (k + 5)) (lv' := [(3, .int (nI (k + 5))), (2, .ref (am 0)), (1, .ref (ad 0)), (0, .ref b)]) hx hb dL_law_502 hl (k := 0) rfl (nI_add k 5) (by decide) rfl (fun ls hl => ?_)
      refine lv_goto (tgt := 18) hx hb dL_law_505 (by decide) ?_
      exact ih (k + 5) (by omega) (by omega) _ (iv_mount hI _ _) H locs ls hl hw
    · refine lv_tableIn (off := 97) (tgt := 129) hx hb dL_law_32 (by decide +kernel) (by decide +kernel) (by decide +kernel) (by decide) ?_
      refine lv_aload_n hx hb dL_law_129 rfl (lv_at hl 2 rfl) ?_
      refine lv_aload_n hx hb dL_law_130 rfl (lv_at hl 3 rfl) ?_
      refine lv_iload_n hx hb dL_law_131 rfl (lv_at hl 0 rfl) ?_
      refine lv_iconst (v := 1) hx hb dL_law_132 (by decide) ?_
      refine lv_iadd hx hb dL_law_133 ?_
      rw [show ((nI k) + 1 : Int32) = nI (k + 1) from nI_add k 1]
      refine va_sld hx hb hX hbl hbA hw.2.2 (vp_in_nI (by omega) (by omega)) dL_law_134 ?_
      refine wCallL (a := wB E ad S) (b := wM E am S) (As := [.int (xs (nI (k + 1)).toNatClampNeg)]) (rest := []) K hw (mX2_strip l E ad S hI (xs (nI (k + 1)).toNatClampNeg)) (cwV 1 hts gL_law_X2_strip rfl rfl rfl (by decide +kernel) ⟨(Nat.le_of_ble_eq_true rfl), (Nat.le_of_ble_eq_true rfl)⟩) wB_b rfl rfl hl.1 rfl (Nat.le_of_ble_eq_true rfl) dL_law_135 ⟨(Nat.le_of_ble_eq_true rfl), (Nat.le_of_ble_eq_true rfl)⟩ (fun r1 w' H locs hr hw => ?_)
      obtain ⟨hr1, rfl⟩ := hr
      refine lv_aload_n hx hb dL_law_138 rfl (lv_at hl 1 rfl) ?_
      refine lv_aload_n hx hb dL_law_139 rfl (lv_at hl 3 rfl) ?_
      refine lv_iload_n hx hb dL_law_140 rfl (lv_at hl 0 rfl) ?_
      refine lv_iconst (v := 1) hx hb dL_law_141 (by decide) ?_
      refine lv_iadd hx hb dL_law_142 ?_
      rw [show ((nI k) + 1 : Int32) = nI (k + 1) from nI_add k 1]
      refine va_sld hx hb hX hbl hbA hw.2.2 (vp_in_nI (by omega) (by omega)) dL_law_143 ?_
      refine wCallR (a := wB E ad (sp_strip S (xs (nI (k + 1)).toNatClampNeg)).2) (b := wM E am S) (As := [.int (xs (nI (k + 1)).toNatClampNeg)]) (rest := [.int r1]) K hw (mX3_strip l E am S hI (xs (nI (k + 1)).toNatClampNeg)) (cwV 1 hts gL_law_X3_strip rfl rfl rfl (by decide +kernel) ⟨(Nat.le_of_ble_eq_true rfl), (Nat.le_of_ble_eq_true rfl)⟩) wM_o rfl rfl hl.1 rfl (Nat.le_of_ble_eq_true rfl) dL_law_144 ⟨(Nat.le_of_ble_eq_true rfl), (Nat.le_of_ble_eq_true rfl)⟩ (fun r2 w' H locs hr hw => ?_)
      obtain ⟨hr2, rfl⟩ := hr
      refine lv_icmp_eq (tgt := 502) hx hb dL_law_147 (by decide) (fun c_147 => ?_) (fun c_147 => ?_)
      rotate_left
      · exact absurd (hr1.trans hr2.symm) c_147
      refine lv_iinc (v := nI (k + 5)) (lv' := [(3, .int (nI (k + 5))), (2, .ref (am 0)), (1, .ref (ad 0)), (0, .ref b)]) hx hb dL_law_502 hl (k := 0) rfl (nI_add k 5) (by decide) rfl (fun ls hl => ?_)
      refine lv_goto (tgt := 18) hx hb dL_law_505 (by decide) ?_
      exact ih (k + 5) (by omega) (by omega) _ (iv_strip hI _) H locs ls hl hw
    · refine lv_tableIn (off := 120) (tgt := 152) hx hb dL_law_32 (by decide +kernel) (by decide +kernel) (by decide +kernel) (by decide) ?_
      refine lv_aload_n hx hb dL_law_152 rfl (lv_at hl 2 rfl) ?_
      refine lv_aload_n hx hb dL_law_153 rfl (lv_at hl 3 rfl) ?_
      refine lv_iload_n hx hb dL_law_154 rfl (lv_at hl 0 rfl) ?_
      refine lv_iconst (v := 1) hx hb dL_law_155 (by decide) ?_
      refine lv_iadd hx hb dL_law_156 ?_
      rw [show ((nI k) + 1 : Int32) = nI (k + 1) from nI_add k 1]
      refine va_sld hx hb hX hbl hbA hw.2.2 (vp_in_nI (by omega) (by omega)) dL_law_157 ?_
      refine wCallL (a := wB E ad S) (b := wM E am S) (As := [.int (xs (nI (k + 1)).toNatClampNeg)]) (rest := []) K hw (mX2_size l E ad S hI (xs (nI (k + 1)).toNatClampNeg)) (cwV 1 hts gL_law_X2_size rfl rfl rfl (by decide +kernel) ⟨(Nat.le_of_ble_eq_true rfl), (Nat.le_of_ble_eq_true rfl)⟩) wB_b rfl rfl hl.1 rfl (Nat.le_of_ble_eq_true rfl) dL_law_158 ⟨(Nat.le_of_ble_eq_true rfl), (Nat.le_of_ble_eq_true rfl)⟩ (fun r1 w' H locs hr hw => ?_)
      obtain ⟨hr1, rfl⟩ := hr
      refine lv_aload_n hx hb dL_law_161 rfl (lv_at hl 1 rfl) ?_
      refine lv_aload_n hx hb dL_law_162 rfl (lv_at hl 3 rfl) ?_
      refine lv_iload_n hx hb dL_law_163 rfl (lv_at hl 0 rfl) ?_
      refine lv_iconst (v := 1) hx hb dL_law_164 (by decide) ?_
      refine lv_iadd hx hb dL_law_165 ?_
      rw [show ((nI k) + 1 : Int32) = nI (k + 1) from nI_add k 1]
      refine va_sld hx hb hX hbl hbA hw.2.2 (vp_in_nI (by omega) (by omega)) dL_law_166 ?_
      refine wCallR (a := wB E ad (sp_size S (xs (nI (k + 1)).toNatClampNeg)).2) (b := wM E am S) (As := [.int (xs (nI (k + 1)).toNatClampNeg)]) (rest := [.int r1]) K hw (mX3_size l E am S hI (xs (nI (k + 1)).toNatClampNeg)) (cwV 1 hts gL_law_X3_size rfl rfl rfl (by decide +kernel) ⟨(Nat.le_of_ble_eq_true rfl), (Nat.le_of_ble_eq_true rfl)⟩) wM_o rfl rfl hl.1 rfl (Nat.le_of_ble_eq_true rfl) dL_law_167 ⟨(Nat.le_of_ble_eq_true rfl), (Nat.le_of_ble_eq_true rfl)⟩ (fun r2 w' H locs hr hw => ?_)
      obtain ⟨hr2, rfl⟩ := hr
      refine lv_icmp_eq (tgt := 502) hx hb dL_law_170 (by decide) (fun c_170 => ?_) (fun c_170 => ?_)
      rotate_left
      · exact absurd (hr1.trans hr2.symm) c_170
      refine lv_iinc (v := nI (k + 5)) (lv' := [(3, .int (nI (k + 5))), (2, .ref (am 0)), (1, .ref (ad 0)), (0, .ref b)]) hx hb dL_law_502 hl (k := 0) rfl (nI_add k 5) (by decide) rfl (fun ls hl => ?_)
      refine lv_goto (tgt := 18) hx hb dL_law_505 (by decide) ?_
      exact ih (k + 5) (by omega) (by omega) _ (iv_size hI _) H locs ls hl hw
    · refine lv_tableIn (off := 143) (tgt := 175) hx hb dL_law_32 (by decide +kernel) (by decide +kernel) (by decide +kernel) (by decide) ?_
      refine lv_aload_n hx hb dL_law_175 rfl (lv_at hl 2 rfl) ?_
      refine lv_aload_n hx hb dL_law_176 rfl (lv_at hl 3 rfl) ?_
      refine lv_iload_n hx hb dL_law_177 rfl (lv_at hl 0 rfl) ?_
      refine lv_iconst (v := 1) hx hb dL_law_178 (by decide) ?_
      refine lv_iadd hx hb dL_law_179 ?_
      rw [show ((nI k) + 1 : Int32) = nI (k + 1) from nI_add k 1]
      refine va_sld hx hb hX hbl hbA hw.2.2 (vp_in_nI (by omega) (by omega)) dL_law_180 ?_
      refine lv_aload_n hx hb dL_law_181 rfl (lv_at hl 3 rfl) ?_
      refine lv_iload_n hx hb dL_law_182 rfl (lv_at hl 0 rfl) ?_
      refine lv_iconst (v := 2) hx hb dL_law_183 (by decide) ?_
      refine lv_iadd hx hb dL_law_184 ?_
      rw [show ((nI k) + 2 : Int32) = nI (k + 2) from nI_add k 2]
      refine va_sld hx hb hX hbl hbA hw.2.2 (vp_in_nI (by omega) (by omega)) dL_law_185 ?_
      refine wCallL (a := wB E ad S) (b := wM E am S) (As := [.int (xs (nI (k + 1)).toNatClampNeg), .int (xs (nI (k + 2)).toNatClampNeg)]) (rest := []) K hw (mX2_cell l E ad S hI (xs (nI (k + 1)).toNatClampNeg) (xs (nI (k + 2)).toNatClampNeg)) (cwV 2 hts gL_law_X2_cell rfl rfl rfl (by decide +kernel) ⟨(Nat.le_of_ble_eq_true rfl), (Nat.le_of_ble_eq_true rfl)⟩) wB_b rfl rfl hl.1 rfl (Nat.le_of_ble_eq_true rfl) dL_law_186 ⟨(Nat.le_of_ble_eq_true rfl), (Nat.le_of_ble_eq_true rfl)⟩ (fun r1 w' H locs hr hw => ?_)
      obtain ⟨hr1, rfl⟩ := hr
      refine lv_aload_n hx hb dL_law_189 rfl (lv_at hl 1 rfl) ?_
      refine lv_aload_n hx hb dL_law_190 rfl (lv_at hl 3 rfl) ?_
      refine lv_iload_n hx hb dL_law_191 rfl (lv_at hl 0 rfl) ?_
      refine lv_iconst (v := 1) hx hb dL_law_192 (by decide) ?_
      refine lv_iadd hx hb dL_law_193 ?_
      rw [show ((nI k) + 1 : Int32) = nI (k + 1) from nI_add k 1]
      refine va_sld hx hb hX hbl hbA hw.2.2 (vp_in_nI (by omega) (by omega)) dL_law_194 ?_
      refine lv_aload_n hx hb dL_law_195 rfl (lv_at hl 3 rfl) ?_
      refine lv_iload_n hx hb dL_law_196 rfl (lv_at hl 0 rfl) ?_
      refine lv_iconst (v := 2) hx hb dL_law_197 (by decide) ?_
      refine lv_iadd hx hb dL_law_198 ?_
      rw [show ((nI k) + 2 : Int32) = nI (k + 2) from nI_add k 2]
      refine va_sld hx hb hX hbl hbA hw.2.2 (vp_in_nI (by omega) (by omega)) dL_law_199 ?_
      refine wCallR (a := wB E ad (sp_cell S (xs (nI (k + 1)).toNatClampNeg) (xs (nI (k + 2)).toNatClampNeg)).2) (b := wM E am S) (As := [.int (xs (nI (k + 1)).toNatClampNeg), .int (xs (nI (k + 2)).toNatClampNeg)]) (rest := [.int r1]) K hw (mX3_cell l E am S hI (xs (nI (k + 1)).toNatClampNeg) (xs (nI (k + 2)).toNatClampNeg)) (cwV 2 hts gL_law_X3_cell rfl rfl rfl (by decide +kernel) ⟨(Nat.le_of_ble_eq_true rfl), (Nat.le_of_ble_eq_true rfl)⟩) wM_o rfl rfl hl.1 rfl (Nat.le_of_ble_eq_true rfl) dL_law_200 ⟨(Nat.le_of_ble_eq_true rfl), (Nat.le_of_ble_eq_true rfl)⟩ (fun r2 w' H locs hr hw => ?_)
      obtain ⟨hr2, rfl⟩ := hr
      refine lv_icmp_eq (tgt := 502) hx hb dL_law_203 (by decide) (fun c_203 => ?_) (fun c_203 => ?_)
      rotate_left
      · exact absurd (hr1.trans hr2.symm) c_203
      refine lv_iinc (v := nI (k + 5)) (lv' := [(3, .int (nI (k + 5))), (2, .ref (am 0)), (1, .ref (ad 0)), (0, .ref b)]) hx hb dL_law_502 hl (k := 0) rfl (nI_add k 5) (by decide) rfl (fun ls hl => ?_)
      refine lv_goto (tgt := 18) hx hb dL_law_505 (by decide) ?_
      exact ih (k + 5) (by omega) (by omega) _ (iv_cell hI _ _) H locs ls hl hw
    · refine lv_tableIn (off := 176) (tgt := 208) hx hb dL_law_32 (by decide +kernel) (by decide +kernel) (by decide +kernel) (by decide) ?_
      refine lv_aload_n hx hb dL_law_208 rfl (lv_at hl 2 rfl) ?_
      refine lv_aload_n hx hb dL_law_209 rfl (lv_at hl 3 rfl) ?_
      refine lv_iload_n hx hb dL_law_210 rfl (lv_at hl 0 rfl) ?_
      refine lv_iconst (v := 1) hx hb dL_law_211 (by decide) ?_
      refine lv_iadd hx hb dL_law_212 ?_
      rw [show ((nI k) + 1 : Int32) = nI (k + 1) from nI_add k 1]
      refine va_sld hx hb hX hbl hbA hw.2.2 (vp_in_nI (by omega) (by omega)) dL_law_213 ?_
      refine lv_aload_n hx hb dL_law_214 rfl (lv_at hl 3 rfl) ?_
      refine lv_iload_n hx hb dL_law_215 rfl (lv_at hl 0 rfl) ?_
      refine lv_iconst (v := 2) hx hb dL_law_216 (by decide) ?_
      refine lv_iadd hx hb dL_law_217 ?_
      rw [show ((nI k) + 2 : Int32) = nI (k + 2) from nI_add k 2]
      refine va_sld hx hb hX hbl hbA hw.2.2 (vp_in_nI (by omega) (by omega)) dL_law_218 ?_
      refine lv_aload_n hx hb dL_law_219 rfl (lv_at hl 3 rfl) ?_
      refine lv_iload_n hx hb dL_law_220 rfl (lv_at hl 0 rfl) ?_
      refine lv_iconst (v := 3) hx hb dL_law_221 (by decide) ?_
      refine lv_iadd hx hb dL_law_222 ?_
      rw [show ((nI k) + 3 : Int32) = nI (k + 3) from nI_add k 3]
      refine va_sld hx hb hX hbl hbA hw.2.2 (vp_in_nI (by omega) (by omega)) dL_law_223 ?_
      refine wCallL (a := wB E ad S) (b := wM E am S) (As := [.int (xs (nI (k + 1)).toNatClampNeg), .int (xs (nI (k + 2)).toNatClampNeg), .int (xs (nI (k + 3)).toNatClampNeg)]) (rest := []) K hw (mX2_put l E ad S hI (xs (nI (k + 1)).toNatClampNeg) (xs (nI (k + 2)).toNatClampNeg) (xs (nI (k + 3)).toNatClampNeg)) (cwV 3 hts gL_law_X2_put rfl rfl rfl (by decide +kernel) ⟨(Nat.le_of_ble_eq_true rfl), (Nat.le_of_ble_eq_true rfl)⟩) wB_b rfl rfl hl.1 rfl (Nat.le_of_ble_eq_true rfl) dL_law_224 ⟨(Nat.le_of_ble_eq_true rfl), (Nat.le_of_ble_eq_true rfl)⟩ (fun r1 w' H locs hr hw => ?_)
      obtain ⟨hr1, rfl⟩ := hr
      refine lv_aload_n hx hb dL_law_227 rfl (lv_at hl 1 rfl) ?_
      refine lv_aload_n hx hb dL_law_228 rfl (lv_at hl 3 rfl) ?_
      refine lv_iload_n hx hb dL_law_229 rfl (lv_at hl 0 rfl) ?_
      refine lv_iconst (v := 1) hx hb dL_law_230 (by decide) ?_
      refine lv_iadd hx hb dL_law_231 ?_
      rw [show ((nI k) + 1 : Int32) = nI (k + 1) from nI_add k 1]
      refine va_sld hx hb hX hbl hbA hw.2.2 (vp_in_nI (by omega) (by omega)) dL_law_232 ?_
      refine lv_aload_n hx hb dL_law_233 rfl (lv_at hl 3 rfl) ?_
      refine lv_iload_n hx hb dL_law_234 rfl (lv_at hl 0 rfl) ?_
      refine lv_iconst (v := 2) hx hb dL_law_235 (by decide) ?_
      refine lv_iadd hx hb dL_law_236 ?_
      rw [show ((nI k) + 2 : Int32) = nI (k + 2) from nI_add k 2]
      refine va_sld hx hb hX hbl hbA hw.2.2 (vp_in_nI (by omega) (by omega)) dL_law_237 ?_
      refine lv_aload_n hx hb dL_law_238 rfl (lv_at hl 3 rfl) ?_
      refine lv_iload_n hx hb dL_law_239 rfl (lv_at hl 0 rfl) ?_
      refine lv_iconst (v := 3) hx hb dL_law_240 (by decide) ?_
      refine lv_iadd hx hb dL_law_241 ?_
      rw [show ((nI k) + 3 : Int32) = nI (k + 3) from nI_add k 3]
      refine va_sld hx hb hX hbl hbA hw.2.2 (vp_in_nI (by omega) (by omega)) dL_law_242 ?_
      refine wCallR (a := wB E ad (sp_put S (xs (nI (k + 1)).toNatClampNeg) (xs (nI (k + 2)).toNatClampNeg) (xs (nI (k + 3)).toNatClampNeg)).2) (b := wM E am S) (As := [.int (xs (nI (k + 1)).toNatClampNeg), .int (xs (nI (k + 2)).toNatClampNeg), .int (xs (nI (k + 3)).toNatClampNeg)]) (rest := [.int r1]) K hw (mX3_put l E am S hI (xs (nI (k + 1)).toNatClampNeg) (xs (nI (k + 2)).toNatClampNeg) (xs (nI (k + 3)).toNatClampNeg)) (cwV 3 hts gL_law_X3_put rfl rfl rfl (by decide +kernel) ⟨(Nat.le_of_ble_eq_true rfl), (Nat.le_of_ble_eq_true rfl)⟩) wM_o rfl rfl hl.1 rfl (Nat.le_of_ble_eq_true rfl) dL_law_243 ⟨(Nat.le_of_ble_eq_true rfl), (Nat.le_of_ble_eq_true rfl)⟩ (fun r2 w' H locs hr hw => ?_)
      obtain ⟨hr2, rfl⟩ := hr
      refine lv_icmp_eq (tgt := 502) hx hb dL_law_246 (by decide) (fun c_246 => ?_) (fun c_246 => ?_)
      rotate_left
      · exact absurd (hr1.trans hr2.symm) c_246
      refine lv_iinc (v := nI (k + 5)) (lv' := [(3, .int (nI (k + 5))), (2, .ref (am 0)), (1, .ref (ad 0)), (0, .ref b)]) hx hb dL_law_502 hl (k := 0) rfl (nI_add k 5) (by decide) rfl (fun ls hl => ?_)
      refine lv_goto (tgt := 18) hx hb dL_law_505 (by decide) ?_
      exact ih (k + 5) (by omega) (by omega) _ (iv_put hI _ _ _) H locs ls hl hw
    · refine lv_tableIn (off := 219) (tgt := 251) hx hb dL_law_32 (by decide +kernel) (by decide +kernel) (by decide +kernel) (by decide) ?_
      refine lv_aload_n hx hb dL_law_251 rfl (lv_at hl 2 rfl) ?_
      refine lv_aload_n hx hb dL_law_252 rfl (lv_at hl 3 rfl) ?_
      refine lv_iload_n hx hb dL_law_253 rfl (lv_at hl 0 rfl) ?_
      refine lv_iconst (v := 1) hx hb dL_law_254 (by decide) ?_
      refine lv_iadd hx hb dL_law_255 ?_
      rw [show ((nI k) + 1 : Int32) = nI (k + 1) from nI_add k 1]
      refine va_sld hx hb hX hbl hbA hw.2.2 (vp_in_nI (by omega) (by omega)) dL_law_256 ?_
      refine lv_aload_n hx hb dL_law_257 rfl (lv_at hl 3 rfl) ?_
      refine lv_iload_n hx hb dL_law_258 rfl (lv_at hl 0 rfl) ?_
      refine lv_iconst (v := 2) hx hb dL_law_259 (by decide) ?_
      refine lv_iadd hx hb dL_law_260 ?_
      rw [show ((nI k) + 2 : Int32) = nI (k + 2) from nI_add k 2]
      refine va_sld hx hb hX hbl hbA hw.2.2 (vp_in_nI (by omega) (by omega)) dL_law_261 ?_
      refine lv_aload_n hx hb dL_law_262 rfl (lv_at hl 3 rfl) ?_
      refine lv_iload_n hx hb dL_law_263 rfl (lv_at hl 0 rfl) ?_
      refine lv_iconst (v := 3) hx hb dL_law_264 (by decide) ?_
      refine lv_iadd hx hb dL_law_265 ?_
      rw [show ((nI k) + 3 : Int32) = nI (k + 3) from nI_add k 3]
      refine va_sld hx hb hX hbl hbA hw.2.2 (vp_in_nI (by omega) (by omega)) dL_law_266 ?_
      refine lv_aload_n hx hb dL_law_267 rfl (lv_at hl 3 rfl) ?_
      refine lv_iload_n hx hb dL_law_268 rfl (lv_at hl 0 rfl) ?_
      refine lv_iconst (v := 4) hx hb dL_law_269 (by decide) ?_
      refine lv_iadd hx hb dL_law_270 ?_
      rw [show ((nI k) + 4 : Int32) = nI (k + 4) from nI_add k 4]
      refine va_sld hx hb hX hbl hbA hw.2.2 (vp_in_nI (by omega) (by omega)) dL_law_271 ?_
      refine wCallL (a := wB E ad S) (b := wM E am S) (As := [.int (xs (nI (k + 1)).toNatClampNeg), .int (xs (nI (k + 2)).toNatClampNeg), .int (xs (nI (k + 3)).toNatClampNeg), .int (xs (nI (k + 4)).toNatClampNeg)]) (rest := []) K hw (mX2_change l E ad S hI (xs (nI (k + 1)).toNatClampNeg) (xs (nI (k + 2)).toNatClampNeg) (xs (nI (k + 3)).toNatClampNeg) (xs (nI (k + 4)).toNatClampNeg)) (cwV 4 hts gL_law_X2_change rfl rfl rfl (by decide +kernel) ⟨(Nat.le_of_ble_eq_true rfl), (Nat.le_of_ble_eq_true rfl)⟩) wB_b rfl rfl hl.1 rfl (Nat.le_of_ble_eq_true rfl) dL_law_272 ⟨(Nat.le_of_ble_eq_true rfl), (Nat.le_of_ble_eq_true rfl)⟩ (fun r1 w' H locs hr hw => ?_)
      obtain ⟨hr1, rfl⟩ := hr
      refine lv_aload_n hx hb dL_law_275 rfl (lv_at hl 1 rfl) ?_
      refine lv_aload_n hx hb dL_law_276 rfl (lv_at hl 3 rfl) ?_
      refine lv_iload_n hx hb dL_law_277 rfl (lv_at hl 0 rfl) ?_
      refine lv_iconst (v := 1) hx hb dL_law_278 (by decide) ?_
      refine lv_iadd hx hb dL_law_279 ?_
      rw [show ((nI k) + 1 : Int32) = nI (k + 1) from nI_add k 1]
      refine va_sld hx hb hX hbl hbA hw.2.2 (vp_in_nI (by omega) (by omega)) dL_law_280 ?_
      refine lv_aload_n hx hb dL_law_281 rfl (lv_at hl 3 rfl) ?_
      refine lv_iload_n hx hb dL_law_282 rfl (lv_at hl 0 rfl) ?_
      refine lv_iconst (v := 2) hx hb dL_law_283 (by decide) ?_
      refine lv_iadd hx hb dL_law_284 ?_
      rw [show ((nI k) + 2 : Int32) = nI (k + 2) from nI_add k 2]
      refine va_sld hx hb hX hbl hbA hw.2.2 (vp_in_nI (by omega) (by omega)) dL_law_285 ?_
      refine lv_aload_n hx hb dL_law_286 rfl (lv_at hl 3 rfl) ?_
      refine lv_iload_n hx hb dL_law_287 rfl (lv_at hl 0 rfl) ?_
      refine lv_iconst (v := 3) hx hb dL_law_288 (by decide) ?_
      refine lv_iadd hx hb dL_law_289 ?_
      rw [show ((nI k) + 3 : Int32) = nI (k + 3) from nI_add k 3]
      refine va_sld hx hb hX hbl hbA hw.2.2 (vp_in_nI (by omega) (by omega)) dL_law_290 ?_
      refine lv_aload_n hx hb dL_law_291 rfl (lv_at hl 3 rfl) ?_
      refine lv_iload_n hx hb dL_law_292 rfl (lv_at hl 0 rfl) ?_
      refine lv_iconst (v := 4) hx hb dL_law_293 (by decide) ?_
      refine lv_iadd hx hb dL_law_294 ?_
      rw [show ((nI k) + 4 : Int32) = nI (k + 4) from nI_add k 4]
      refine va_sld hx hb hX hbl hbA hw.2.2 (vp_in_nI (by omega) (by omega)) dL_law_295 ?_
      refine wCallR (a := wB E ad (sp_change S (xs (nI (k + 1)).toNatClampNeg) (xs (nI (k + 2)).toNatClampNeg) (xs (nI (k + 3)).toNatClampNeg) (xs (nI (k + 4)).toNatClampNeg)).2) (b := wM E am S) (As := [.int (xs (nI (k + 1)).toNatClampNeg), .int (xs (nI (k + 2)).toNatClampNeg), .int (xs (nI (k + 3)).toNatClampNeg), .int (xs (nI (k + 4)).toNatClampNeg)]) (rest := [.int r1]) K hw (mX3_change l E am S hI (xs (nI (k + 1)).toNatClampNeg) (xs (nI (k + 2)).toNatClampNeg) (xs (nI (k + 3)).toNatClampNeg) (xs (nI (k + 4)).toNatClampNeg)) (cwV 4 hts gL_law_X3_change rfl rfl rfl (by decide +kernel) ⟨(Nat.le_of_ble_eq_true rfl), (Nat.le_of_ble_eq_true rfl)⟩) wM_o rfl rfl hl.1 rfl (Nat.le_of_ble_eq_true rfl) dL_law_296 ⟨(Nat.le_of_ble_eq_true rfl), (Nat.le_of_ble_eq_true rfl)⟩ (fun r2 w' H locs hr hw => ?_)
      obtain ⟨hr2, rfl⟩ := hr
      refine lv_icmp_eq (tgt := 502) hx hb dL_law_299 (by decide) (fun c_299 => ?_) (fun c_299 => ?_)
      rotate_left
      · exact absurd (hr1.trans hr2.symm) c_299
      refine lv_iinc (v := nI (k + 5)) (lv' := [(3, .int (nI (k + 5))), (2, .ref (am 0)), (1, .ref (ad 0)), (0, .ref b)]) hx hb dL_law_502 hl (k := 0) rfl (nI_add k 5) (by decide) rfl (fun ls hl => ?_)
      refine lv_goto (tgt := 18) hx hb dL_law_505 (by decide) ?_
      exact ih (k + 5) (by omega) (by omega) _ (iv_change hI _ _ _ _) H locs ls hl hw
    · refine lv_tableIn (off := 272) (tgt := 304) hx hb dL_law_32 (by decide +kernel) (by decide +kernel) (by decide +kernel) (by decide) ?_
      refine lv_aload_n hx hb dL_law_304 rfl (lv_at hl 2 rfl) ?_
      refine lv_aload_n hx hb dL_law_305 rfl (lv_at hl 3 rfl) ?_
      refine lv_iload_n hx hb dL_law_306 rfl (lv_at hl 0 rfl) ?_
      refine lv_iconst (v := 1) hx hb dL_law_307 (by decide) ?_
      refine lv_iadd hx hb dL_law_308 ?_
      rw [show ((nI k) + 1 : Int32) = nI (k + 1) from nI_add k 1]
      refine va_sld hx hb hX hbl hbA hw.2.2 (vp_in_nI (by omega) (by omega)) dL_law_309 ?_
      refine lv_aload_n hx hb dL_law_310 rfl (lv_at hl 3 rfl) ?_
      refine lv_iload_n hx hb dL_law_311 rfl (lv_at hl 0 rfl) ?_
      refine lv_iconst (v := 2) hx hb dL_law_312 (by decide) ?_
      refine lv_iadd hx hb dL_law_313 ?_
      rw [show ((nI k) + 2 : Int32) = nI (k + 2) from nI_add k 2]
      refine va_sld hx hb hX hbl hbA hw.2.2 (vp_in_nI (by omega) (by omega)) dL_law_314 ?_
      refine lv_aload_n hx hb dL_law_315 rfl (lv_at hl 3 rfl) ?_
      refine lv_iload_n hx hb dL_law_316 rfl (lv_at hl 0 rfl) ?_
      refine lv_iconst (v := 3) hx hb dL_law_317 (by decide) ?_
      refine lv_iadd hx hb dL_law_318 ?_
      rw [show ((nI k) + 3 : Int32) = nI (k + 3) from nI_add k 3]
      refine va_sld hx hb hX hbl hbA hw.2.2 (vp_in_nI (by omega) (by omega)) dL_law_319 ?_
      refine wCallL (a := wB E ad S) (b := wM E am S) (As := [.int (xs (nI (k + 1)).toNatClampNeg), .int (xs (nI (k + 2)).toNatClampNeg), .int (xs (nI (k + 3)).toNatClampNeg)]) (rest := []) K hw (mX2_rule l E ad S hI (xs (nI (k + 1)).toNatClampNeg) (xs (nI (k + 2)).toNatClampNeg) (xs (nI (k + 3)).toNatClampNeg)) (cwV 3 hts gL_law_X2_rule rfl rfl rfl (by decide +kernel) ⟨(Nat.le_of_ble_eq_true rfl), (Nat.le_of_ble_eq_true rfl)⟩) wB_b rfl rfl hl.1 rfl (Nat.le_of_ble_eq_true rfl) dL_law_320 ⟨(Nat.le_of_ble_eq_true rfl), (Nat.le_of_ble_eq_true rfl)⟩ (fun r1 w' H locs hr hw => ?_)
      obtain ⟨hr1, rfl⟩ := hr
      refine lv_aload_n hx hb dL_law_323 rfl (lv_at hl 1 rfl) ?_
      refine lv_aload_n hx hb dL_law_324 rfl (lv_at hl 3 rfl) ?_
      refine lv_iload_n hx hb dL_law_325 rfl (lv_at hl 0 rfl) ?_
      refine lv_iconst (v := 1) hx hb dL_law_326 (by decide) ?_
      refine lv_iadd hx hb dL_law_327 ?_
      rw [show ((nI k) + 1 : Int32) = nI (k + 1) from nI_add k 1]
      refine va_sld hx hb hX hbl hbA hw.2.2 (vp_in_nI (by omega) (by omega)) dL_law_328 ?_
      refine lv_aload_n hx hb dL_law_329 rfl (lv_at hl 3 rfl) ?_
      refine lv_iload_n hx hb dL_law_330 rfl (lv_at hl 0 rfl) ?_
      refine lv_iconst (v := 2) hx hb dL_law_331 (by decide) ?_
      refine lv_iadd hx hb dL_law_332 ?_
      rw [show ((nI k) + 2 : Int32) = nI (k + 2) from nI_add k 2]
      refine va_sld hx hb hX hbl hbA hw.2.2 (vp_in_nI (by omega) (by omega)) dL_law_333 ?_
      refine lv_aload_n hx hb dL_law_334 rfl (lv_at hl 3 rfl) ?_
      refine lv_iload_n hx hb dL_law_335 rfl (lv_at hl 0 rfl) ?_
      refine lv_iconst (v := 3) hx hb dL_law_336 (by decide) ?_
      refine lv_iadd hx hb dL_law_337 ?_
      rw [show ((nI k) + 3 : Int32) = nI (k + 3) from nI_add k 3]
      refine va_sld hx hb hX hbl hbA hw.2.2 (vp_in_nI (by omega) (by omega)) dL_law_338 ?_
      refine wCallR (a := wB E ad (sp_rule S (xs (nI (k + 1)).toNatClampNeg) (xs (nI (k + 2)).toNatClampNeg) (xs (nI (k + 3)).toNatClampNeg)).2) (b := wM E am S) (As := [.int (xs (nI (k + 1)).toNatClampNeg), .int (xs (nI (k + 2)).toNatClampNeg), .int (xs (nI (k + 3)).toNatClampNeg)]) (rest := [.int r1]) K hw (mX3_rule l E am S hI (xs (nI (k + 1)).toNatClampNeg) (xs (nI (k + 2)).toNatClampNeg) (xs (nI (k + 3)).toNatClampNeg)) (cwV 3 hts gL_law_X3_rule rfl rfl rfl (by decide +kernel) ⟨(Nat.le_of_ble_eq_true rfl), (Nat.le_of_ble_eq_true rfl)⟩) wM_o rfl rfl hl.1 rfl (Nat.le_of_ble_eq_true rfl) dL_law_339 ⟨(Nat.le_of_ble_eq_true rfl), (Nat.le_of_ble_eq_true rfl)⟩ (fun r2 w' H locs hr hw => ?_)
      obtain ⟨hr2, rfl⟩ := hr
      refine lv_icmp_eq (tgt := 502) hx hb dL_law_342 (by decide) (fun c_342 => ?_) (fun c_342 => ?_)
      rotate_left
      · exact absurd (hr1.trans hr2.symm) c_342
      refine lv_iinc (v := nI (k + 5)) (lv' := [(3, .int (nI (k + 5))), (2, .ref (am 0)), (1, .ref (ad 0)), (0, .ref b)]) hx hb dL_law_502 hl (k := 0) rfl (nI_add k 5) (by decide) rfl (fun ls hl => ?_)
      refine lv_goto (tgt := 18) hx hb dL_law_505 (by decide) ?_
      exact ih (k + 5) (by omega) (by omega) _ (iv_rule hI _ _ _) H locs ls hl hw
    · refine lv_tableIn (off := 315) (tgt := 347) hx hb dL_law_32 (by decide +kernel) (by decide +kernel) (by decide +kernel) (by decide) ?_
      refine lv_aload_n hx hb dL_law_347 rfl (lv_at hl 2 rfl) ?_
      refine lv_aload_n hx hb dL_law_348 rfl (lv_at hl 3 rfl) ?_
      refine lv_iload_n hx hb dL_law_349 rfl (lv_at hl 0 rfl) ?_
      refine lv_iconst (v := 1) hx hb dL_law_350 (by decide) ?_
      refine lv_iadd hx hb dL_law_351 ?_
      rw [show ((nI k) + 1 : Int32) = nI (k + 1) from nI_add k 1]
      refine va_sld hx hb hX hbl hbA hw.2.2 (vp_in_nI (by omega) (by omega)) dL_law_352 ?_
      refine lv_aload_n hx hb dL_law_353 rfl (lv_at hl 3 rfl) ?_
      refine lv_iload_n hx hb dL_law_354 rfl (lv_at hl 0 rfl) ?_
      refine lv_iconst (v := 2) hx hb dL_law_355 (by decide) ?_
      refine lv_iadd hx hb dL_law_356 ?_
      rw [show ((nI k) + 2 : Int32) = nI (k + 2) from nI_add k 2]
      refine va_sld hx hb hX hbl hbA hw.2.2 (vp_in_nI (by omega) (by omega)) dL_law_357 ?_
      refine lv_aload_n hx hb dL_law_358 rfl (lv_at hl 3 rfl) ?_
      refine lv_iload_n hx hb dL_law_359 rfl (lv_at hl 0 rfl) ?_
      refine lv_iconst (v := 3) hx hb dL_law_360 (by decide) ?_
      refine lv_iadd hx hb dL_law_361 ?_
      rw [show ((nI k) + 3 : Int32) = nI (k + 3) from nI_add k 3]
      refine va_sld hx hb hX hbl hbA hw.2.2 (vp_in_nI (by omega) (by omega)) dL_law_362 ?_
      refine wCallL (a := wB E ad S) (b := wM E am S) (As := [.int (xs (nI (k + 1)).toNatClampNeg), .int (xs (nI (k + 2)).toNatClampNeg), .int (xs (nI (k + 3)).toNatClampNeg)]) (rest := []) K hw (mX2_lay l E ad S hI (xs (nI (k + 1)).toNatClampNeg) (xs (nI (k + 2)).toNatClampNeg) (xs (nI (k + 3)).toNatClampNeg)) (cwV 3 hts gL_law_X2_lay rfl rfl rfl (by decide +kernel) ⟨(Nat.le_of_ble_eq_true rfl), (Nat.le_of_ble_eq_true rfl)⟩) wB_b rfl rfl hl.1 rfl (Nat.le_of_ble_eq_true rfl) dL_law_363 ⟨(Nat.le_of_ble_eq_true rfl), (Nat.le_of_ble_eq_true rfl)⟩ (fun r1 w' H locs hr hw => ?_)
      obtain ⟨hr1, rfl⟩ := hr
      refine lv_aload_n hx hb dL_law_366 rfl (lv_at hl 1 rfl) ?_
      refine lv_aload_n hx hb dL_law_367 rfl (lv_at hl 3 rfl) ?_
      refine lv_iload_n hx hb dL_law_368 rfl (lv_at hl 0 rfl) ?_
      refine lv_iconst (v := 1) hx hb dL_law_369 (by decide) ?_
      refine lv_iadd hx hb dL_law_370 ?_
      rw [show ((nI k) + 1 : Int32) = nI (k + 1) from nI_add k 1]
      refine va_sld hx hb hX hbl hbA hw.2.2 (vp_in_nI (by omega) (by omega)) dL_law_371 ?_
      refine lv_aload_n hx hb dL_law_372 rfl (lv_at hl 3 rfl) ?_
      refine lv_iload_n hx hb dL_law_373 rfl (lv_at hl 0 rfl) ?_
      refine lv_iconst (v := 2) hx hb dL_law_374 (by decide) ?_
      refine lv_iadd hx hb dL_law_375 ?_
      rw [show ((nI k) + 2 : Int32) = nI (k + 2) from nI_add k 2]
      refine va_sld hx hb hX hbl hbA hw.2.2 (vp_in_nI (by omega) (by omega)) dL_law_376 ?_
      refine lv_aload_n hx hb dL_law_377 rfl (lv_at hl 3 rfl) ?_
      refine lv_iload_n hx hb dL_law_378 rfl (lv_at hl 0 rfl) ?_
      refine lv_iconst (v := 3) hx hb dL_law_379 (by decide) ?_
      refine lv_iadd hx hb dL_law_380 ?_
      rw [show ((nI k) + 3 : Int32) = nI (k + 3) from nI_add k 3]
      refine va_sld hx hb hX hbl hbA hw.2.2 (vp_in_nI (by omega) (by omega)) dL_law_381 ?_
      refine wCallR (a := wB E ad (sp_lay S (xs (nI (k + 1)).toNatClampNeg) (xs (nI (k + 2)).toNatClampNeg) (xs (nI (k + 3)).toNatClampNeg)).2) (b := wM E am S) (As := [.int (xs (nI (k + 1)).toNatClampNeg), .int (xs (nI (k + 2)).toNatClampNeg), .int (xs (nI (k + 3)).toNatClampNeg)]) (rest := [.int r1]) K hw (mX3_lay l E am S hI (xs (nI (k + 1)).toNatClampNeg) (xs (nI (k + 2)).toNatClampNeg) (xs (nI (k + 3)).toNatClampNeg)) (cwV 3 hts gL_law_X3_lay rfl rfl rfl (by decide +kernel) ⟨(Nat.le_of_ble_eq_true rfl), (Nat.le_of_ble_eq_true rfl)⟩) wM_o rfl rfl hl.1 rfl (Nat.le_of_ble_eq_true rfl) dL_law_382 ⟨(Nat.le_of_ble_eq_true rfl), (Nat.le_of_ble_eq_true rfl)⟩ (fun r2 w' H locs hr hw => ?_)
      obtain ⟨hr2, rfl⟩ := hr
      refine lv_icmp_eq (tgt := 502) hx hb dL_law_385 (by decide) (fun c_385 => ?_) (fun c_385 => ?_)
      rotate_left
      · exact absurd (hr1.trans hr2.symm) c_385
      refine lv_iinc (v := nI (k + 5)) (lv' := [(3, .int (nI (k + 5))), (2, .ref (am 0)), (1, .ref (ad 0)), (0, .ref b)]) hx hb dL_law_502 hl (k := 0) rfl (nI_add k 5) (by decide) rfl (fun ls hl => ?_)
      refine lv_goto (tgt := 18) hx hb dL_law_505 (by decide) ?_
      exact ih (k + 5) (by omega) (by omega) _ (iv_lay hI _ _ _) H locs ls hl hw
    · refine lv_tableIn (off := 358) (tgt := 390) hx hb dL_law_32 (by decide +kernel) (by decide +kernel) (by decide +kernel) (by decide) ?_
      refine lv_aload_n hx hb dL_law_390 rfl (lv_at hl 2 rfl) ?_
      refine lv_aload_n hx hb dL_law_391 rfl (lv_at hl 3 rfl) ?_
      refine lv_iload_n hx hb dL_law_392 rfl (lv_at hl 0 rfl) ?_
      refine lv_iconst (v := 1) hx hb dL_law_393 (by decide) ?_
      refine lv_iadd hx hb dL_law_394 ?_
      rw [show ((nI k) + 1 : Int32) = nI (k + 1) from nI_add k 1]
      refine va_sld hx hb hX hbl hbA hw.2.2 (vp_in_nI (by omega) (by omega)) dL_law_395 ?_
      refine lv_aload_n hx hb dL_law_396 rfl (lv_at hl 3 rfl) ?_
      refine lv_iload_n hx hb dL_law_397 rfl (lv_at hl 0 rfl) ?_
      refine lv_iconst (v := 2) hx hb dL_law_398 (by decide) ?_
      refine lv_iadd hx hb dL_law_399 ?_
      rw [show ((nI k) + 2 : Int32) = nI (k + 2) from nI_add k 2]
      refine va_sld hx hb hX hbl hbA hw.2.2 (vp_in_nI (by omega) (by omega)) dL_law_400 ?_
      refine lv_aload_n hx hb dL_law_401 rfl (lv_at hl 3 rfl) ?_
      refine lv_iload_n hx hb dL_law_402 rfl (lv_at hl 0 rfl) ?_
      refine lv_iconst (v := 3) hx hb dL_law_403 (by decide) ?_
      refine lv_iadd hx hb dL_law_404 ?_
      rw [show ((nI k) + 3 : Int32) = nI (k + 3) from nI_add k 3]
      refine va_sld hx hb hX hbl hbA hw.2.2 (vp_in_nI (by omega) (by omega)) dL_law_405 ?_
      refine wCallL (a := wB E ad S) (b := wM E am S) (As := [.int (xs (nI (k + 1)).toNatClampNeg), .int (xs (nI (k + 2)).toNatClampNeg), .int (xs (nI (k + 3)).toNatClampNeg)]) (rest := []) K hw (mX2_at l E ad S hI (xs (nI (k + 1)).toNatClampNeg) (xs (nI (k + 2)).toNatClampNeg) (xs (nI (k + 3)).toNatClampNeg)) (cwV 3 hts gL_law_X2_at rfl rfl rfl (by decide +kernel) ⟨(Nat.le_of_ble_eq_true rfl), (Nat.le_of_ble_eq_true rfl)⟩) wB_b rfl rfl hl.1 rfl (Nat.le_of_ble_eq_true rfl) dL_law_406 ⟨(Nat.le_of_ble_eq_true rfl), (Nat.le_of_ble_eq_true rfl)⟩ (fun r1 w' H locs hr hw => ?_)
      obtain ⟨hr1, rfl⟩ := hr
      refine lv_aload_n hx hb dL_law_409 rfl (lv_at hl 1 rfl) ?_
      refine lv_aload_n hx hb dL_law_410 rfl (lv_at hl 3 rfl) ?_
      refine lv_iload_n hx hb dL_law_411 rfl (lv_at hl 0 rfl) ?_
      refine lv_iconst (v := 1) hx hb dL_law_412 (by decide) ?_
      refine lv_iadd hx hb dL_law_413 ?_
      rw [show ((nI k) + 1 : Int32) = nI (k + 1) from nI_add k 1]
      refine va_sld hx hb hX hbl hbA hw.2.2 (vp_in_nI (by omega) (by omega)) dL_law_414 ?_
      refine lv_aload_n hx hb dL_law_415 rfl (lv_at hl 3 rfl) ?_
      refine lv_iload_n hx hb dL_law_416 rfl (lv_at hl 0 rfl) ?_
      refine lv_iconst (v := 2) hx hb dL_law_417 (by decide) ?_
      refine lv_iadd hx hb dL_law_418 ?_
      rw [show ((nI k) + 2 : Int32) = nI (k + 2) from nI_add k 2]
      refine va_sld hx hb hX hbl hbA hw.2.2 (vp_in_nI (by omega) (by omega)) dL_law_419 ?_
      refine lv_aload_n hx hb dL_law_420 rfl (lv_at hl 3 rfl) ?_
      refine lv_iload_n hx hb dL_law_421 rfl (lv_at hl 0 rfl) ?_
      refine lv_iconst (v := 3) hx hb dL_law_422 (by decide) ?_
      refine lv_iadd hx hb dL_law_423 ?_
      rw [show ((nI k) + 3 : Int32) = nI (k + 3) from nI_add k 3]
      refine va_sld hx hb hX hbl hbA hw.2.2 (vp_in_nI (by omega) (by omega)) dL_law_424 ?_
      refine wCallR (a := wB E ad (sp_at S (xs (nI (k + 1)).toNatClampNeg) (xs (nI (k + 2)).toNatClampNeg) (xs (nI (k + 3)).toNatClampNeg)).2) (b := wM E am S) (As := [.int (xs (nI (k + 1)).toNatClampNeg), .int (xs (nI (k + 2)).toNatClampNeg), .int (xs (nI (k + 3)).toNatClampNeg)]) (rest := [.int r1]) K hw (mX3_at l E am S hI (xs (nI (k + 1)).toNatClampNeg) (xs (nI (k + 2)).toNatClampNeg) (xs (nI (k + 3)).toNatClampNeg)) (cwV 3 hts gL_law_X3_at rfl rfl rfl (by decide +kernel) ⟨(Nat.le_of_ble_eq_true rfl), (Nat.le_of_ble_eq_true rfl)⟩) wM_o rfl rfl hl.1 rfl (Nat.le_of_ble_eq_true rfl) dL_law_425 ⟨(Nat.le_of_ble_eq_true rfl), (Nat.le_of_ble_eq_true rfl)⟩ (fun r2 w' H locs hr hw => ?_)
      obtain ⟨hr2, rfl⟩ := hr
      refine lv_icmp_eq (tgt := 502) hx hb dL_law_428 (by decide) (fun c_428 => ?_) (fun c_428 => ?_)
      rotate_left
      · exact absurd (hr1.trans hr2.symm) c_428
      refine lv_iinc (v := nI (k + 5)) (lv' := [(3, .int (nI (k + 5))), (2, .ref (am 0)), (1, .ref (ad 0)), (0, .ref b)]) hx hb dL_law_502 hl (k := 0) rfl (nI_add k 5) (by decide) rfl (fun ls hl => ?_)
      refine lv_goto (tgt := 18) hx hb dL_law_505 (by decide) ?_
      exact ih (k + 5) (by omega) (by omega) _ (iv_at hI _ _ _) H locs ls hl hw
    · refine lv_tableIn (off := 401) (tgt := 433) hx hb dL_law_32 (by decide +kernel) (by decide +kernel) (by decide +kernel) (by decide) ?_
      refine lv_aload_n hx hb dL_law_433 rfl (lv_at hl 2 rfl) ?_
      refine lv_aload_n hx hb dL_law_434 rfl (lv_at hl 3 rfl) ?_
      refine lv_iload_n hx hb dL_law_435 rfl (lv_at hl 0 rfl) ?_
      refine lv_iconst (v := 1) hx hb dL_law_436 (by decide) ?_
      refine lv_iadd hx hb dL_law_437 ?_
      rw [show ((nI k) + 1 : Int32) = nI (k + 1) from nI_add k 1]
      refine va_sld hx hb hX hbl hbA hw.2.2 (vp_in_nI (by omega) (by omega)) dL_law_438 ?_
      refine wCallL (a := wB E ad S) (b := wM E am S) (As := [.int (xs (nI (k + 1)).toNatClampNeg)]) (rest := []) K hw (mX2_head l E ad S hI (xs (nI (k + 1)).toNatClampNeg)) (cwV 1 hts gL_law_X2_head rfl rfl rfl (by decide +kernel) ⟨(Nat.le_of_ble_eq_true rfl), (Nat.le_of_ble_eq_true rfl)⟩) wB_b rfl rfl hl.1 rfl (Nat.le_of_ble_eq_true rfl) dL_law_439 ⟨(Nat.le_of_ble_eq_true rfl), (Nat.le_of_ble_eq_true rfl)⟩ (fun r1 w' H locs hr hw => ?_)
      obtain ⟨hr1, rfl⟩ := hr
      refine lv_aload_n hx hb dL_law_442 rfl (lv_at hl 1 rfl) ?_
      refine lv_aload_n hx hb dL_law_443 rfl (lv_at hl 3 rfl) ?_
      refine lv_iload_n hx hb dL_law_444 rfl (lv_at hl 0 rfl) ?_
      refine lv_iconst (v := 1) hx hb dL_law_445 (by decide) ?_
      refine lv_iadd hx hb dL_law_446 ?_
      rw [show ((nI k) + 1 : Int32) = nI (k + 1) from nI_add k 1]
      refine va_sld hx hb hX hbl hbA hw.2.2 (vp_in_nI (by omega) (by omega)) dL_law_447 ?_
      refine wCallR (a := wB E ad (sp_head S (xs (nI (k + 1)).toNatClampNeg)).2) (b := wM E am S) (As := [.int (xs (nI (k + 1)).toNatClampNeg)]) (rest := [.int r1]) K hw (mX3_head l E am S hI (xs (nI (k + 1)).toNatClampNeg)) (cwV 1 hts gL_law_X3_head rfl rfl rfl (by decide +kernel) ⟨(Nat.le_of_ble_eq_true rfl), (Nat.le_of_ble_eq_true rfl)⟩) wM_o rfl rfl hl.1 rfl (Nat.le_of_ble_eq_true rfl) dL_law_448 ⟨(Nat.le_of_ble_eq_true rfl), (Nat.le_of_ble_eq_true rfl)⟩ (fun r2 w' H locs hr hw => ?_)
      obtain ⟨hr2, rfl⟩ := hr
      refine lv_icmp_eq (tgt := 502) hx hb dL_law_451 (by decide) (fun c_451 => ?_) (fun c_451 => ?_)
      rotate_left
      · exact absurd (hr1.trans hr2.symm) c_451
      refine lv_iinc (v := nI (k + 5)) (lv' := [(3, .int (nI (k + 5))), (2, .ref (am 0)), (1, .ref (ad 0)), (0, .ref b)]) hx hb dL_law_502 hl (k := 0) rfl (nI_add k 5) (by decide) rfl (fun ls hl => ?_)
      refine lv_goto (tgt := 18) hx hb dL_law_505 (by decide) ?_
      exact ih (k + 5) (by omega) (by omega) _ (iv_head hI _) H locs ls hl hw
    · refine lv_tableIn (off := 424) (tgt := 456) hx hb dL_law_32 (by decide +kernel) (by decide +kernel) (by decide +kernel) (by decide) ?_
      refine lv_aload_n hx hb dL_law_456 rfl (lv_at hl 2 rfl) ?_
      refine lv_aload_n hx hb dL_law_457 rfl (lv_at hl 3 rfl) ?_
      refine lv_iload_n hx hb dL_law_458 rfl (lv_at hl 0 rfl) ?_
      refine lv_iconst (v := 1) hx hb dL_law_459 (by decide) ?_
      refine lv_iadd hx hb dL_law_460 ?_
      rw [show ((nI k) + 1 : Int32) = nI (k + 1) from nI_add k 1]
      refine va_sld hx hb hX hbl hbA hw.2.2 (vp_in_nI (by omega) (by omega)) dL_law_461 ?_
      refine wCallL (a := wB E ad S) (b := wM E am S) (As := [.int (xs (nI (k + 1)).toNatClampNeg)]) (rest := []) K hw (mX2_play l E ad S hI (xs (nI (k + 1)).toNatClampNeg)) (cwV 1 hts gL_law_X2_play rfl rfl rfl (by decide +kernel) ⟨(Nat.le_of_ble_eq_true rfl), (Nat.le_of_ble_eq_true rfl)⟩) wB_b rfl rfl hl.1 rfl (Nat.le_of_ble_eq_true rfl) dL_law_462 ⟨(Nat.le_of_ble_eq_true rfl), (Nat.le_of_ble_eq_true rfl)⟩ (fun r1 w' H locs hr hw => ?_)
      obtain ⟨hr1, rfl⟩ := hr
      refine lv_aload_n hx hb dL_law_465 rfl (lv_at hl 1 rfl) ?_
      refine lv_aload_n hx hb dL_law_466 rfl (lv_at hl 3 rfl) ?_
      refine lv_iload_n hx hb dL_law_467 rfl (lv_at hl 0 rfl) ?_
      refine lv_iconst (v := 1) hx hb dL_law_468 (by decide) ?_
      refine lv_iadd hx hb dL_law_469 ?_
      rw [show ((nI k) + 1 : Int32) = nI (k + 1) from nI_add k 1]
      refine va_sld hx hb hX hbl hbA hw.2.2 (vp_in_nI (by omega) (by omega)) dL_law_470 ?_
      refine wCallR (a := wB E ad (sp_play S (xs (nI (k + 1)).toNatClampNeg)).2) (b := wM E am S) (As := [.int (xs (nI (k + 1)).toNatClampNeg)]) (rest := [.int r1]) K hw (mX3_play l E am S hI (xs (nI (k + 1)).toNatClampNeg)) (cwV 1 hts gL_law_X3_play rfl rfl rfl (by decide +kernel) ⟨(Nat.le_of_ble_eq_true rfl), (Nat.le_of_ble_eq_true rfl)⟩) wM_o rfl rfl hl.1 rfl (Nat.le_of_ble_eq_true rfl) dL_law_471 ⟨(Nat.le_of_ble_eq_true rfl), (Nat.le_of_ble_eq_true rfl)⟩ (fun r2 w' H locs hr hw => ?_)
      obtain ⟨hr2, rfl⟩ := hr
      refine lv_icmp_eq (tgt := 502) hx hb dL_law_474 (by decide) (fun c_474 => ?_) (fun c_474 => ?_)
      rotate_left
      · exact absurd (hr1.trans hr2.symm) c_474
      refine lv_iinc (v := nI (k + 5)) (lv' := [(3, .int (nI (k + 5))), (2, .ref (am 0)), (1, .ref (ad 0)), (0, .ref b)]) hx hb dL_law_502 hl (k := 0) rfl (nI_add k 5) (by decide) rfl (fun ls hl => ?_)
      refine lv_goto (tgt := 18) hx hb dL_law_505 (by decide) ?_
      exact ih (k + 5) (by omega) (by omega) _ (iv_play hI _) H locs ls hl hw
    · refine lv_tableIn (off := 447) (tgt := 479) hx hb dL_law_32 (by decide +kernel) (by decide +kernel) (by decide +kernel) (by decide) ?_
      refine lv_aload_n hx hb dL_law_479 rfl (lv_at hl 2 rfl) ?_
      refine lv_aload_n hx hb dL_law_480 rfl (lv_at hl 3 rfl) ?_
      refine lv_iload_n hx hb dL_law_481 rfl (lv_at hl 0 rfl) ?_
      refine lv_iconst (v := 1) hx hb dL_law_482 (by decide) ?_
      refine lv_iadd hx hb dL_law_483 ?_
      rw [show ((nI k) + 1 : Int32) = nI (k + 1) from nI_add k 1]
      refine va_sld hx hb hX hbl hbA hw.2.2 (vp_in_nI (by omega) (by omega)) dL_law_484 ?_
      refine wCallL (a := wB E ad S) (b := wM E am S) (As := [.int (xs (nI (k + 1)).toNatClampNeg)]) (rest := []) K hw (mX2_count l E ad S hI (xs (nI (k + 1)).toNatClampNeg)) (cwV 1 hts gL_law_X2_count rfl rfl rfl (by decide +kernel) ⟨(Nat.le_of_ble_eq_true rfl), (Nat.le_of_ble_eq_true rfl)⟩) wB_b rfl rfl hl.1 rfl (Nat.le_of_ble_eq_true rfl) dL_law_485 ⟨(Nat.le_of_ble_eq_true rfl), (Nat.le_of_ble_eq_true rfl)⟩ (fun r1 w' H locs hr hw => ?_)
      obtain ⟨hr1, rfl⟩ := hr
      refine lv_aload_n hx hb dL_law_488 rfl (lv_at hl 1 rfl) ?_
      refine lv_aload_n hx hb dL_law_489 rfl (lv_at hl 3 rfl) ?_
      refine lv_iload_n hx hb dL_law_490 rfl (lv_at hl 0 rfl) ?_
      refine lv_iconst (v := 1) hx hb dL_law_491 (by decide) ?_
      refine lv_iadd hx hb dL_law_492 ?_
      rw [show ((nI k) + 1 : Int32) = nI (k + 1) from nI_add k 1]
      refine va_sld hx hb hX hbl hbA hw.2.2 (vp_in_nI (by omega) (by omega)) dL_law_493 ?_
      refine wCallR (a := wB E ad S) (b := wM E am S) (As := [.int (xs (nI (k + 1)).toNatClampNeg)]) (rest := [.int r1]) K hw (mX3_count l E am S hI (xs (nI (k + 1)).toNatClampNeg)) (cwV 1 hts gL_law_X3_count rfl rfl rfl (by decide +kernel) ⟨(Nat.le_of_ble_eq_true rfl), (Nat.le_of_ble_eq_true rfl)⟩) wM_o rfl rfl hl.1 rfl (Nat.le_of_ble_eq_true rfl) dL_law_494 ⟨(Nat.le_of_ble_eq_true rfl), (Nat.le_of_ble_eq_true rfl)⟩ (fun r2 w' H locs hr hw => ?_)
      obtain ⟨hr2, rfl⟩ := hr
      refine lv_icmp_eq (tgt := 502) hx hb dL_law_497 (by decide) (fun c_497 => ?_) (fun c_497 => ?_)
      rotate_left
      · exact absurd (hr1.trans hr2.symm) c_497
      refine lv_iinc (v := nI (k + 5)) (lv' := [(3, .int (nI (k + 5))), (2, .ref (am 0)), (1, .ref (ad 0)), (0, .ref b)]) hx hb dL_law_502 hl (k := 0) rfl (nI_add k 5) (by decide) rfl (fun ls hl => ?_)
      refine lv_goto (tgt := 18) hx hb dL_law_505 (by decide) ?_
      exact ih (k + 5) (by omega) (by omega) _ hI H locs ls hl hw
    · refine lv_tableOut (tgt := 502) hx hb dL_law_32 (by decide +kernel) (by decide) ?_
      refine lv_iinc (v := nI (k + 5)) (lv' := [(3, .int (nI (k + 5))), (2, .ref (am 0)), (1, .ref (ad 0)), (0, .ref b)]) hx hb dL_law_502 hl (k := 0) rfl (nI_add k 5) (by decide) rfl (fun ls hl => ?_)
      refine lv_goto (tgt := 18) hx hb dL_law_505 (by decide) ?_
      exact ih (k + 5) (by omega) (by omega) _ hI H locs ls hl hw
    · refine lv_tableOut (tgt := 502) hx hb dL_law_32 (by decide +kernel) (by decide) ?_
      refine lv_iinc (v := nI (k + 5)) (lv' := [(3, .int (nI (k + 5))), (2, .ref (am 0)), (1, .ref (ad 0)), (0, .ref b)]) hx hb dL_law_502 hl (k := 0) rfl (nI_add k 5) (by decide) rfl (fun ls hl => ?_)
      refine lv_goto (tgt := 18) hx hb dL_law_505 (by decide) ?_
      exact ih (k + 5) (by omega) (by omega) _ hI H locs ls hl hw
    · refine lv_tableOut (tgt := 502) hx hb dL_law_32 (by decide +kernel) (by decide) ?_
      refine lv_iinc (v := nI (k + 5)) (lv' := [(3, .int (nI (k + 5))), (2, .ref (am 0)), (1, .ref (ad 0)), (0, .ref b)]) hx hb dL_law_502 hl (k := 0) rfl (nI_add k 5) (by decide) rfl (fun ls hl => ?_)
      refine lv_goto (tgt := 18) hx hb dL_law_505 (by decide) ?_
      exact ih (k + 5) (by omega) (by omega) _ hI H locs ls hl hw
    · refine lv_tableOut (tgt := 502) hx hb dL_law_32 (by decide +kernel) (by decide) ?_
      refine lv_iinc (v := nI (k + 5)) (lv' := [(3, .int (nI (k + 5))), (2, .ref (am 0)), (1, .ref (ad 0)), (0, .ref b)]) hx hb dL_law_502 hl (k := 0) rfl (nI_add k 5) (by decide) rfl (fun ls hl => ?_)
      refine lv_goto (tgt := 18) hx hb dL_law_505 (by decide) ?_
      exact ih (k + 5) (by omega) (by omega) _ hI H locs ls hl hw
set_option maxHeartbeats 4000000 in
set_option maxRecDepth 100000 in
theorem whole_start {p : Program} {e : Env} {s : State} {m : MethodId} {below : List Frame} {meth : Method} {c : Code} (l : Launch) {b L : Nat} {xs : Nat → Int32} (hL : L ≤ 2560) (C0 : lw_At p s m meth c b L xs) : W p l e room_1 s m #[Value.ref b] below meth c s.heap [] 0 0 (lw_Z below #[Value.ref b] s) (entryFrame m ([Value.ref b] : List Value).toArray 4) := by
  obtain ⟨hx, hb, hr, hml, hown, hts0, hX, hbl, hlocks, hgv⟩ := id C0
  have hts : ∀ w ∈ wsL_law, w.before #[Value.ref b] s = true := fun w h => hts0 w (wsL_law_in w h)
  obtain ⟨c0, iS0, hKn0⟩ := u_known (C := RX0) (T := TX0) (N := 5) (n := 5) hts0 inX0 (hts (.instantiable RX0 5) (by decide +kernel))
  obtain ⟨c1, iS1, hKn1⟩ := u_known (C := RX1) (T := TX1) (N := 3) (n := 3) hts0 inX1 (hts (.instantiable RX1 3) (by decide +kernel))
  obtain ⟨c2, iS2, hKn2⟩ := u_known (C := RX2) (T := TX2) (N := 8) (n := 8) hts0 inX2 (hts (.instantiable RX2 8) (by decide +kernel))
  obtain ⟨c3, iS3, hKn3⟩ := u_known (C := RX3) (T := TX3) (N := 16) (n := 16) hts0 inX3 (hts (.instantiable RX3 16) (by decide +kernel))
  obtain ⟨cI, kI, mI, i1, i2, i3⟩ := Cond.arrayClass_spec (hts (.arrayClass .int) (by decide +kernel))
  obtain ⟨cZ, kZ, mZ, z1, z2, z3⟩ := Cond.arrayClass_spec (hts (.arrayClass .boolean) (by decide +kernel))
  have hAO : (Cond.arrayOver (.object RX0)).before #[Value.ref b] s = true := hts0 (.arrayOver (.object RX0)) (by decide +kernel)
  obtain ⟨mL, cL, kL, l1, l2, l3, l4, l5⟩ := Cond.arrayOver_spec hAO
  obtain ⟨E, hKK⟩ : ∃ E : wE, wKK E s := by
    refine ⟨((fun k => if k = 0 then c0 else if k = 1 then c1 else if k = 2 then c2 else c3, fun k => if k = 0 then iS0 else if k = 1 then iS1 else if k = 2 then iS2 else iS3), fun k => if k = 0 then cI else if k = 1 then cZ else cL), ⟨?_, ?_⟩, va_AO.of hAO⟩
    · intro k q hq
      match k, hq with
      | 0, hq => cases hq; exact hKn0
      | 1, hq => cases hq; exact hKn1
      | 2, hq => cases hq; exact hKn2
      | 3, hq => cases hq; exact hKn3
      | k + 4, hq => simp [vwCl] at hq
    · intro k q hq
      match k, hq with
      | 0, hq => cases hq; exact ⟨fun N z => ⟨(fun k h => by cases h), kI, i2, mI, i3⟩, i1⟩
      | 1, hq => cases hq; exact ⟨fun N z => ⟨(fun k h => by cases h), kZ, z2, mZ, z3⟩, z1⟩
      | 2, hq => cases hq; exact ⟨fun N z => ⟨(fun k h => by cases h), kL, l3, mL, l4⟩, kL, mL, l3, l4, l1, l5⟩
      | k + 3, hq => simp [wTy] at hq
  have K : wC p s m #[Value.ref b] meth c cL_law 4 ret RL wsL_law E (fun q => s.heap.size ≤ q) := ⟨hx, hb, hr, hml, hown, hts, hlocks, hKK, fun _ h => h⟩
  have hw : wW E (fun q => s.heap.size ≤ q) s ([] : va_W) s.heap [] := ⟨fun k q h => by simp at h, ⟨fun i j p q h => by simp at h, fun k q h => by simp at h⟩, va_S.rf⟩
  have hl := lv_entry ([.ref b]) (n := 4) (Nat.le_of_ble_eq_true rfl)
  rw [lg_entry_eq]
  generalize (lg_sl ([.ref b]) ++ List.replicate (4 - (lg_sl ([.ref b])).length) Slot.unset).toArray = ls at hl ⊢
  have hl : lv_has ls 4 [(0, .ref b)] := hl
  refine wNew (ci := 2) (fs := [.null, .int 0, .int 0, .int 0, .int 0, .int 0, .int 0, .int 0]) (C := RX2) (T := TX2) (N := 8) (cells1 := 1) (slots1 := 8) K hw inlX2 tyX2 tyX2_ok (by decide +kernel) (by decide +kernel) (by decide +kernel) rfl (fun j hj => by rcases (show j = 0 ∨ j = 1 ∨ j = 2 ∨ j = 3 ∨ j = 4 ∨ j = 5 ∨ j = 6 ∨ j = 7 by omega) with rfl | rfl | rfl | rfl | rfl | rfl | rfl | rfl <;> rfl) rfl rfl (Nat.le_of_ble_eq_true rfl) (Nat.le_of_ble_eq_true rfl) dL_law_0 (fun q1 H hw => ?_)
  refine lv_dup hx hb dL_law_3 rfl ?_
  refine wCallI (a := []) (b := [(q1, .inr (2, [.null, .int 0, .int 0, .int 0, .int 0, .int 0, .int 0, .int 0]))]) (o := q1) (As := []) (rest := [.ref q1]) (cells1 := 22) (slots1 := 1633) K hw (mX2_init l E q1) (cwI 0 hts gL_law_X2_init rfl rfl rfl (hts (.initialized RX2) (by decide +kernel)) (hts (.methodLink RL 9 yX2_init) (by decide +kernel)) (hts (.instanceMethod yX2_init) (by decide +kernel)) rfl (by decide +kernel) ⟨(Nat.le_of_ble_eq_true rfl), (Nat.le_of_ble_eq_true rfl)⟩) rfl hl.1 rfl (Nat.le_of_ble_eq_true rfl) dL_law_4 rfl rfl ⟨(Nat.le_of_ble_eq_true rfl), (Nat.le_of_ble_eq_true rfl)⟩ (fun w' H locs hr hw => ?_)
  obtain ⟨ad, rfl, rfl⟩ := hr
  have hw : wW E (fun q => s.heap.size ≤ q) s (wB E ad S0) _ _ := hw
  refine lv_astore_n (lv' := [(1, .ref (ad 0)), (0, .ref b)]) hx hb dL_law_7 rfl hl (by decide) rfl (fun ls hl => ?_)
  refine wNew (ci := 3) (fs := [.null, .null, .null, .null, .null, .null, .null, .null, .null, .int 0, .int 0, .int 0, .int 0, .int 0, .int 0, .int 0]) (C := RX3) (T := TX3) (N := 16) (cells1 := 23) (slots1 := 1649) K hw inlX3 tyX3 tyX3_ok (by decide +kernel) (by decide +kernel) (by decide +kernel) rfl (fun j hj => by rcases (show j = 0 ∨ j = 1 ∨ j = 2 ∨ j = 3 ∨ j = 4 ∨ j = 5 ∨ j = 6 ∨ j = 7 ∨ j = 8 ∨ j = 9 ∨ j = 10 ∨ j = 11 ∨ j = 12 ∨ j = 13 ∨ j = 14 ∨ j = 15 by omega) with rfl | rfl | rfl | rfl | rfl | rfl | rfl | rfl | rfl | rfl | rfl | rfl | rfl | rfl | rfl | rfl <;> rfl) rfl rfl (Nat.le_of_ble_eq_true rfl) (Nat.le_of_ble_eq_true rfl) dL_law_8 (fun q2 H hw => ?_)
  refine lv_dup hx hb dL_law_11 rfl ?_
  refine wCallI (a := wB E ad S0) (b := [(q2, .inr (3, [.null, .null, .null, .null, .null, .null, .null, .null, .null, .int 0, .int 0, .int 0, .int 0, .int 0, .int 0, .int 0]))]) (o := q2) (As := []) (rest := [.ref q2]) (cells1 := 32) (slots1 := 3264) K hw (mX3_init l E q2) (cwI 0 hts gL_law_X3_init rfl rfl rfl (hts (.initialized RX3) (by decide +kernel)) (hts (.methodLink RL 12 yX3_init) (by decide +kernel)) (hts (.instanceMethod yX3_init) (by decide +kernel)) rfl (by decide +kernel) ⟨(Nat.le_of_ble_eq_true rfl), (Nat.le_of_ble_eq_true rfl)⟩) rfl hl.1 rfl (Nat.le_of_ble_eq_true rfl) dL_law_12 rfl rfl ⟨(Nat.le_of_ble_eq_true rfl), (Nat.le_of_ble_eq_true rfl)⟩ (fun w' H locs hr hw => ?_)
  obtain ⟨am, rfl, rfl⟩ := hr
  refine lv_astore_n (lv' := [(2, .ref (am 0)), (1, .ref (ad 0)), (0, .ref b)]) hx hb dL_law_15 rfl hl (by decide) rfl (fun ls hl => ?_)
  refine lv_iconst (v := 0) hx hb dL_law_16 (by decide) ?_
  refine lv_istore_n (lv' := [(3, .int 0), (2, .ref (am 0)), (1, .ref (ad 0)), (0, .ref b)]) hx hb dL_law_17 rfl hl (by decide) rfl (fun ls hl => ?_)
  exact law_loop hL hX hbl E ad am hlocks hr K (L + 1) 0 (by omega) (by omega) S0 Inv_S0 _ _ ls (by rw [nI_0]; exact hl) hw
