/-! rows of our own over the kit: a method's contract over ONE world, its entry, its end, calls, fields, arrays -/
abbrev wE : Type := va_G × (Nat → ClassId)
abbrev wTy (E : wE) : List (ClassId × FieldType) := [(E.2 0, .int), (E.2 1, .boolean), (E.2 2, .object RX0)]
def wKK (E : wE) (U : State) : Prop := va_K E.1 vwCl (wTy E) U ∧ va_AO RX0 U
theorem wKK.moved {E : wE} {u U : State} (hvm : u.vm.Alike U.vm) (h : wKK E u) : wKK E U := ⟨va_K.moved hvm h.1, va_AO.moved hvm h.2⟩
def wAft (E : wE) (A : Nat → Prop) : va_W → State → Prop := fun w t => va_P E.1 vwCl w t.heap ∧ va_D A w
def wPre (E : wE) (av : List Value) (ws : va_W) (sz : Nat) : Array Value → State → Prop := va_Pc av (fun U => U.heap.size = sz ∧ va_P E.1 vwCl ws U.heap ∧ wKK E U ∧ va_D (fun _ => True) ws)
theorem wPre.blind {E : wE} {av : List Value} {ws : va_W} {sz : Nat} : FrameBlind (wPre E av ws sz) := fun a U g mk q => by
  obtain ⟨q0, q1, qP, qK, qD⟩ := q
  exact ⟨q0, q1, qP, wKK.moved (u := U) (U := U.calling g mk a) (Vm.Alike.refl U.vm) qK, qD⟩
/-- contracts: an int (or boolean) answer, a long one, none -/
def MCi (l : Launch) (E : wE) (y : MethodName) (wy : List Cond) (rm : Room) (av : List Value) (ws : va_W) (post : Int32 → va_W → Prop) : Prop :=
  ∀ sz : Nat, Met l y wy rm (wPre E av ws sz) (va_Qi post (wAft E (va_A ws sz)) (va_A ws sz)) rm.cells rm.slots (va_A ws sz)
def MCl (l : Launch) (E : wE) (y : MethodName) (wy : List Cond) (rm : Room) (av : List Value) (ws : va_W) (post : Int64 → va_W → Prop) : Prop :=
  ∀ sz : Nat, Met l y wy rm (wPre E av ws sz) (va_Ql post (wAft E (va_A ws sz)) (va_A ws sz)) rm.cells rm.slots (va_A ws sz)
def MCv (l : Launch) (E : wE) (y : MethodName) (wy : List Cond) (rm : Room) (av : List Value) (ws : va_W) (post : va_W → Prop) : Prop :=
  ∀ sz : Nat, Met l y wy rm (wPre E av ws sz) (va_Qv post (wAft E (va_A ws sz)) (va_A ws sz)) rm.cells rm.slots (va_A ws sz)
/-- what a walk stands on -/
def wC (p : Program) (s : State) (m : MethodId) (args : Array Value) (meth : Method) (c : Code) (cc : ByteArray) (nL : Nat) (ret : Option FieldType) (own : String) (Ts : List Cond) (E : wE) (A : Nat → Prop) : Prop :=
  p.tables.exec = Jvm.exec ∧ c.code = cc ∧ meth.sig.returnType = ret ∧ c.maxLocals = nL ∧ s.vm.findClass own = some m.cls ∧ (∀ w ∈ Ts, w.before args s = true) ∧ meth.locks = false ∧ wKK E s ∧ (∀ q : Nat, s.heap.size ≤ q → A q)
/-- the world at a heap -/
def wW (E : wE) (A : Nat → Prop) (s : State) (ws : va_W) (H : Heap) (locs : List Loc) : Prop := va_P E.1 vwCl ws H ∧ va_D A ws ∧ va_S A s.heap H locs
theorem wW.to {E : wE} {A : Nat → Prop} {s : State} {ws ws' : va_W} {H : Heap} {locs : List Loc} (h : wW E A s ws H locs) (e : ws = ws') : wW E A s ws' H locs := e ▸ h
section WEnter
variable {l : Launch} {E : wE} {y : MethodName} {wy wy' : List Cond} {rm : Room} {av : List Value} {ws : va_W} {cc : ByteArray} {nL : Nat} {ret : Option FieldType} {own : String}
theorem wEnterI {post : Int32 → va_W → Prop} (hy : plainName y.cls = true) (hw : wy = Cond.code y cc nL ret :: wy') (ho : y.cls = own) (hav : (lg_sl av).length ≤ nL)
    (body : ∀ (p : Program) (e : Env) (s : State) (m : MethodId) (below : List Frame) (meth : Method) (c : Code) (A : Nat → Prop) (ls : Array Slot), wC p s m av.toArray meth c cc nL ret own wy E A → lv_has ls nL (lv_args 0 av) → wW E A s ws s.heap [] →
      W p l e rm s m av.toArray below meth c s.heap [] 0 0 (MQ below (va_Qi post (wAft E A) A) av.toArray s rm.cells rm.slots A) (F0 m 0 ls [])) : MCi l E y wy rm av ws post := by
  intro sz
  refine Met.ofW (cc := cc) (maxL := nL) (ret := ret) hy hw ?_
  intro p e s m args below meth c s₁ B hml hv
  obtain ⟨rfl, hsz, hP, hK, hD0⟩ := hv
  subst hsz
  have hown : s.vm.findClass own = some m.cls := ho ▸ findClass_of_methodNamed B.named
  have hts := atoms_spec (ws := wy) B.pre
  rw [lg_entry_eq]
  exact body p e s m below meth c _ _ ⟨B.exec, B.bytes, B.returns, hml, hown, hts, B.notSynchronized, hK, fun q h => Or.inr h⟩ (lv_entry av hav) ⟨hP, hD0.self, va_S.rf⟩
theorem wEnterL {post : Int64 → va_W → Prop} (hy : plainName y.cls = true) (hw : wy = Cond.code y cc nL ret :: wy') (ho : y.cls = own) (hav : (lg_sl av).length ≤ nL)
    (body : ∀ (p : Program) (e : Env) (s : State) (m : MethodId) (below : List Frame) (meth : Method) (c : Code) (A : Nat → Prop) (ls : Array Slot), wC p s m av.toArray meth c cc nL ret own wy E A → lv_has ls nL (lv_args 0 av) → wW E A s ws s.heap [] →
      W p l e rm s m av.toArray below meth c s.heap [] 0 0 (MQ below (va_Ql post (wAft E A) A) av.toArray s rm.cells rm.slots A) (F0 m 0 ls [])) : MCl l E y wy rm av ws post := by
  intro sz
  refine Met.ofW (cc := cc) (maxL := nL) (ret := ret) hy hw ?_
  intro p e s m args below meth c s₁ B hml hv
  obtain ⟨rfl, hsz, hP, hK, hD0⟩ := hv
  subst hsz
  have hown : s.vm.findClass own = some m.cls := ho ▸ findClass_of_methodNamed B.named
  have hts := atoms_spec (ws := wy) B.pre
  rw [lg_entry_eq]
  exact body p e s m below meth c _ _ ⟨B.exec, B.bytes, B.returns, hml, hown, hts, B.notSynchronized, hK, fun q h => Or.inr h⟩ (lv_entry av hav) ⟨hP, hD0.self, va_S.rf⟩
theorem wEnterV {post : va_W → Prop} (hy : plainName y.cls = true) (hw : wy = Cond.code y cc nL ret :: wy') (ho : y.cls = own) (hav : (lg_sl av).length ≤ nL)
    (body : ∀ (p : Program) (e : Env) (s : State) (m : MethodId) (below : List Frame) (meth : Method) (c : Code) (A : Nat → Prop) (ls : Array Slot), wC p s m av.toArray meth c cc nL ret own wy E A → lv_has ls nL (lv_args 0 av) → wW E A s ws s.heap [] → meth.name = y.name →
      W p l e rm s m av.toArray below meth c s.heap [] 0 0 (MQ below (va_Qv post (wAft E A) A) av.toArray s rm.cells rm.slots A) (F0 m 0 ls [])) : MCv l E y wy rm av ws post := by
  intro sz
  refine Met.ofW (cc := cc) (maxL := nL) (ret := ret) hy hw ?_
  intro p e s m args below meth c s₁ B hml hv
  obtain ⟨rfl, hsz, hP, hK, hD0⟩ := hv
  subst hsz
  have hown : s.vm.findClass own = some m.cls := ho ▸ findClass_of_methodNamed B.named
  have hts := atoms_spec (ws := wy) B.pre
  have hin : meth.name = y.name := (name_of_methodNamed B.named B.method).1
  rw [lg_entry_eq]
  exact body p e s m below meth c _ _ ⟨B.exec, B.bytes, B.returns, hml, hown, hts, B.notSynchronized, hK, fun q h => Or.inr h⟩ (lv_entry av hav) ⟨hP, hD0.self, va_S.rf⟩ hin
end WEnter
section WRet
variable {p : Program} {l : Launch} {e : Env} {R : Room} {s : State} {m : MethodId} {args : Array Value} {below : List Frame} {meth : Method} {c : Code} {H : Heap} {locs : List Loc} {cells slots : Nat}
variable {cc : ByteArray} {nL : Nat} {own : String} {Ts : List Cond} {E : wE} {A : Nat → Prop} {ws : va_W} {pc : Nat} {ls : Array Slot}
theorem wRetI {post : Int32 → va_W → Prop} {v : Int32} (K : wC p s m args meth c cc nL (some .int) own Ts E A) (w : wW E A s ws H locs) (hdg : decode cc pc = .ok (.ireturn, 1)) (hp : post v ws) :
    W p l e R s m args below meth c H locs cells slots (MQ below (va_Qi post (wAft E A) A) args s cells slots A) (F0 m pc ls [.int v]) :=
  W.iret (v := v) K.1 K.2.1 K.2.2.1 (fun t ht _ => ⟨⟨v, ws, rfl, hp, by rw [ht]; exact w.1, w.2.1⟩, w.2.2.F ht⟩) w.2.2.2.2 hdg K.2.2.2.2.2.2.1
theorem wRetZ {post : Int32 → va_W → Prop} {v : Int32} (K : wC p s m args meth c cc nL (some .boolean) own Ts E A) (w : wW E A s ws H locs) (hdg : decode cc pc = .ok (.ireturn, 1)) (hn : narrow .boolean (.int v) = .int v) (hp : post v ws) :
    W p l e R s m args below meth c H locs cells slots (MQ below (va_Qi post (wAft E A) A) args s cells slots A) (F0 m pc ls [.int v]) :=
  W.zret (v := v) K.1 K.2.1 K.2.2.1 hn (fun t ht _ => ⟨⟨v, ws, rfl, hp, by rw [ht]; exact w.1, w.2.1⟩, w.2.2.F ht⟩) w.2.2.2.2 hdg K.2.2.2.2.2.2.1
theorem wRetL {post : Int64 → va_W → Prop} {v : Int64} (K : wC p s m args meth c cc nL (some .long) own Ts E A) (w : wW E A s ws H locs) (hdg : decode cc pc = .ok (.lreturn, 1)) (hp : post v ws) :
    W p l e R s m args below meth c H locs cells slots (MQ below (va_Ql post (wAft E A) A) args s cells slots A) (F0 m pc ls [.long v]) :=
  W.lret (v := v) K.1 K.2.1 K.2.2.1 (fun t ht _ => ⟨⟨v, ws, rfl, hp, by rw [ht]; exact w.1, w.2.1⟩, w.2.2.F ht⟩) w.2.2.2.2 hdg K.2.2.2.2.2.2.1
theorem wRetV {post : va_W → Prop} (K : wC p s m args meth c cc nL none own Ts E A) (w : wW E A s ws H locs) (hdg : decode cc pc = .ok (.return_, 1)) (hp : post ws) :
    W p l e R s m args below meth c H locs cells slots (MQ below (va_Qv post (wAft E A) A) args s cells slots A) (F0 m pc ls []) :=
  W.vret K.1 K.2.1 K.2.2.1 (fun t ht _ => ⟨⟨ws, rfl, hp, by rw [ht]; exact w.1, w.2.1⟩, w.2.2.F ht⟩) w.2.2.2.2 hdg K.2.2.2.2.2.2.1
end WRet
section WRow
variable {p : Program} {l : Launch} {e : Env} {R : Room} {s : State} {m : MethodId} {args : Array Value} {below : List Frame} {meth : Method} {c : Code} {H : Heap} {locs : List Loc} {cells slots : Nat} {Q : State → Prop}
variable {cc : ByteArray} {nL : Nat} {ret : Option FieldType} {own : String} {Ts : List Cond} {E : wE} {A : Nat → Prop} {ws ws' : va_W} {pc : Nat} {ls : Array Slot} {rest : List Value} {a : Nat}
theorem wGet (K : wC p s m args meth c cc nL ret own Ts E A) (w : wW E A s ws H locs) {C : String} {T : u_T} {N ci index q0 : Nat} (hin : ∀ x ∈ u_ws C T N, x ∈ Ts) {fs : List Value} (he : ws[q0]? = some (a, .inr (ci, fs))) (hc : vwCl[ci]? = some (C, T, N)) (k : Nat) (hk : k < N) (hlink : Cond.fieldLink own index (T k).1 (T k).2.1 (T k).2.2.1 ∈ Ts) {v : Value} (hv : fs[k]? = some v) (hdg : decode cc pc = .ok (.getfield index, 3))
    (kk : W p l e R s m args below meth c H locs cells slots Q (F0 m (pc + 3) ls (v :: rest))) : W p l e R s m args below meth c H locs cells slots Q (F0 m pc ls (.ref a :: rest)) :=
  va_get (D := E.1) K.1 K.2.1 K.2.2.2.2.2.1 hin K.2.2.2.2.1 K.2.2.2.2.2.2.2.1.1 w.1 q0 he hc k hk (K.2.2.2.2.2.1 _ hlink) (fun _ h => h) hv hdg kk
theorem wPut (K : wC p s m args meth c cc nL ret own Ts E A) (w : wW E A s ws H locs) {C : String} {T : u_T} {N ci index q0 : Nat} (hin : ∀ x ∈ u_ws C T N, x ∈ Ts) (ty0 : Nat → FieldType) (hty : ∀ k, k < N → parseFieldDescriptor (T k).2.2.1 = some (ty0 k)) (hnm : ∀ a, a < N → ∀ b, b < N → a ≠ b → (T a).2.1 ≠ (T b).2.1) {fs : List Value} (he : ws[q0]? = some (a, .inr (ci, fs))) (hc : vwCl[ci]? = some (C, T, N)) (k : Nat) (hk : k < N) (hlink : Cond.fieldLink own index (T k).1 (T k).2.1 (T k).2.2.1 ∈ Ts) (hfin : (T k).2.2.2 = false) {ty : FieldType} {v : Value} (hd : parseFieldDescriptor (T k).2.2.1 = some ty) (hn : narrow ty v = v) (hfit : fits ty v = true) (hl : k < fs.length) (hdg : decode cc pc = .ok (.putfield index, 3)) (hnew : ws.set q0 (a, .inr (ci, fs.set k v)) = ws')
    (kk : ∀ (H1 : Heap) (locs1 : List Loc), wW E A s ws' H1 locs1 → W p l e R s m args below meth c H1 locs1 cells slots Q (F0 m (pc + 3) ls rest)) : W p l e R s m args below meth c H locs cells slots Q (F0 m pc ls (v :: .ref a :: rest)) :=
  va_put (D := E.1) K.1 K.2.1 K.2.2.2.2.2.1 hin ty0 hty hnm K.2.2.2.2.1 K.2.2.2.2.2.2.2.1.1 w.1 w.2.1 w.2.2 q0 he hc k hk (K.2.2.2.2.2.1 _ hlink) (fun _ h => h) hfin hd hn hfit hl hdg (fun H1 locs1 hP hD hS => kk H1 locs1 (hnew ▸ ⟨hP, hD, hS⟩))
theorem wPutF (K : wC p s m args meth c cc nL ret own Ts E A) (w : wW E A s ws H locs) {C : String} {T : u_T} {N ci index q0 : Nat} (hin : ∀ x ∈ u_ws C T N, x ∈ Ts) (ty0 : Nat → FieldType) (hty : ∀ k, k < N → parseFieldDescriptor (T k).2.2.1 = some (ty0 k)) (hnm : ∀ a, a < N → ∀ b, b < N → a ≠ b → (T a).2.1 ≠ (T b).2.1) {fs : List Value} (he : ws[q0]? = some (a, .inr (ci, fs))) (hc : vwCl[ci]? = some (C, T, N)) (k : Nat) (hk : k < N) (hlink : Cond.fieldLink own index (T k).1 (T k).2.1 (T k).2.2.1 ∈ Ts) (hfin : (T k).2.2.2 = true) (hin2 : meth.name = "<init>") (hdecl : (T k).1 = own) {ty : FieldType} {v : Value} (hd : parseFieldDescriptor (T k).2.2.1 = some ty) (hn : narrow ty v = v) (hfit : fits ty v = true) (hl : k < fs.length) (hdg : decode cc pc = .ok (.putfield index, 3)) (hnew : ws.set q0 (a, .inr (ci, fs.set k v)) = ws')
    (kk : ∀ (H1 : Heap) (locs1 : List Loc), wW E A s ws' H1 locs1 → W p l e R s m args below meth c H1 locs1 cells slots Q (F0 m (pc + 3) ls rest)) : W p l e R s m args below meth c H locs cells slots Q (F0 m pc ls (v :: .ref a :: rest)) :=
  va_putF (D := E.1) K.1 K.2.1 K.2.2.2.2.2.1 hin ty0 hty hnm K.2.2.2.2.1 K.2.2.2.2.2.2.2.1.1 w.1 w.2.1 w.2.2 q0 he hc k hk (K.2.2.2.2.2.1 _ hlink) (fun _ h => h) hfin hin2 hdecl hd hn hfit hl hdg (fun H1 locs1 hP hD hS => kk H1 locs1 (hnew ▸ ⟨hP, hD, hS⟩))
theorem wIald (K : wC p s m args meth c cc nL ret own Ts E A) (w : wW E A s ws H locs) {q0 n : Nat} {f : Nat → Int32} (he : ws[q0]? = some (a, .inl (E.2 0, n, .inl f))) {i : Int32} (hin : vp_in i n) {v : Int32} (hv : f i.toNatClampNeg = v) (hdg : decode cc pc = .ok (.iaload, 1))
    (kk : W p l e R s m args below meth c H locs cells slots Q (F0 m (pc + 1) ls (.int v :: rest))) : W p l e R s m args below meth c H locs cells slots Q (F0 m pc ls (.int i :: .ref a :: rest)) := by
  subst hv
  exact va_iald K.1 K.2.1 K.2.2.2.2.2.2.2.1.1 w.1 q0 0 he rfl hin hdg kk
theorem wZald (K : wC p s m args meth c cc nL ret own Ts E A) (w : wW E A s ws H locs) {q0 n : Nat} {f : Nat → Int32} (he : ws[q0]? = some (a, .inl (E.2 1, n, .inl f))) {i : Int32} (hin : vp_in i n) {v : Int32} (hv : f i.toNatClampNeg = v) (hdg : decode cc pc = .ok (.baload, 1))
    (kk : W p l e R s m args below meth c H locs cells slots Q (F0 m (pc + 1) ls (.int v :: rest))) : W p l e R s m args below meth c H locs cells slots Q (F0 m pc ls (.int i :: .ref a :: rest)) := by
  subst hv
  exact va_zald K.1 K.2.1 K.2.2.2.2.2.2.2.1.1 w.1 q0 1 he rfl hin hdg kk
theorem wAald (K : wC p s m args meth c cc nL ret own Ts E A) (w : wW E A s ws H locs) {q0 n r : Nat} {f : Nat → Option Nat} (he : ws[q0]? = some (a, .inl (E.2 2, n, .inr (.inr (.inr (.inr f)))))) {i : Int32} (hin : vp_in i n) (hv : f i.toNatClampNeg = some r) (hdg : decode cc pc = .ok (.aaload, 1))
    (kk : W p l e R s m args below meth c H locs cells slots Q (F0 m (pc + 1) ls (.ref r :: rest))) : W p l e R s m args below meth c H locs cells slots Q (F0 m pc ls (.int i :: .ref a :: rest)) :=
  va_aldq K.1 K.2.1 K.2.2.2.2.2.2.2.1.1 w.1 q0 2 he rfl hin hdg (by rw [hv]; exact kk)
theorem wIast (K : wC p s m args meth c cc nL ret own Ts E A) (w : wW E A s ws H locs) {q0 n : Nat} {f : Nat → Int32} (he : ws[q0]? = some (a, .inl (E.2 0, n, .inl f))) {i x : Int32} (hin : vp_in i n) (hdg : decode cc pc = .ok (.iastore, 1)) (hnew : ws.set q0 (a, .inl (E.2 0, n, .inl (upd f i.toNatClampNeg x))) = ws')
    (kk : ∀ (H1 : Heap) (locs1 : List Loc), wW E A s ws' H1 locs1 → W p l e R s m args below meth c H1 locs1 cells slots Q (F0 m (pc + 1) ls rest)) : W p l e R s m args below meth c H locs cells slots Q (F0 m pc ls (.int x :: .int i :: .ref a :: rest)) :=
  va_iast K.1 K.2.1 K.2.2.2.2.2.2.2.1.1 w.1 w.2.1 w.2.2 q0 0 he rfl hin hdg (fun H1 locs1 hP hD hS => kk H1 locs1 (hnew ▸ ⟨hP, hD, hS⟩))
theorem wZast (K : wC p s m args meth c cc nL ret own Ts E A) (w : wW E A s ws H locs) {q0 n : Nat} {f : Nat → Int32} (he : ws[q0]? = some (a, .inl (E.2 1, n, .inl f))) {i x : Int32} (hin : vp_in i n) (hdg : decode cc pc = .ok (.bastore, 1)) (hx : vp_nar .boolean x = x) (hnew : ws.set q0 (a, .inl (E.2 1, n, .inl (upd f i.toNatClampNeg x))) = ws')
    (kk : ∀ (H1 : Heap) (locs1 : List Loc), wW E A s ws' H1 locs1 → W p l e R s m args below meth c H1 locs1 cells slots Q (F0 m (pc + 1) ls rest)) : W p l e R s m args below meth c H locs cells slots Q (F0 m pc ls (.int x :: .int i :: .ref a :: rest)) :=
  va_zast K.1 K.2.1 K.2.2.2.2.2.2.2.1.1 w.1 w.2.1 w.2.2 q0 1 he rfl hin hdg (fun H1 locs1 hP hD hS => kk H1 locs1 (by rw [hx, hnew] at hP hD; exact ⟨hP, hD, hS⟩))
theorem wAast (K : wC p s m args meth c cc nL ret own Ts E A) (w : wW E A s ws H locs) {q0 qk n v : Nat} {vs : List Value} {f : Nat → Option Nat} (he : ws[q0]? = some (a, .inl (E.2 2, n, .inr (.inr (.inr (.inr f)))))) (hv : ws[qk]? = some (v, .inr (0, vs))) {i : Int32} (hin : vp_in i n) (hdg : decode cc pc = .ok (.aastore, 1)) (hnew : ws.set q0 (a, .inl (E.2 2, n, .inr (.inr (.inr (.inr (va_up f i.toNatClampNeg (some v))))))) = ws')
    (kk : ∀ (H1 : Heap) (locs1 : List Loc), wW E A s ws' H1 locs1 → W p l e R s m args below meth c H1 locs1 cells slots Q (F0 m (pc + 1) ls rest)) : W p l e R s m args below meth c H locs cells slots Q (F0 m pc ls (.ref v :: .int i :: .ref a :: rest)) :=
  va_astq (r := (RX0, TX0, 5)) K.1 K.2.1 K.2.2.2.2.2.2.2.1.1 w.1 w.2.1 w.2.2 q0 2 qk 0 he rfl hv rfl hin hdg (fun H1 locs1 hP hD hS => kk H1 locs1 (hnew ▸ ⟨hP, hD, hS⟩))
theorem wAlen (K : wC p s m args meth c cc nL ret own Ts E A) (w : wW E A s ws H locs) {q0 n : Nat} {f : Nat → Int32} (he : ws[q0]? = some (a, .inl (E.2 0, n, .inl f))) {v : Int32} (hv : Int32.ofNat n = v) (hdg : decode cc pc = .ok (.arraylength, 1))
    (kk : W p l e R s m args below meth c H locs cells slots Q (F0 m (pc + 1) ls (.int v :: rest))) : W p l e R s m args below meth c H locs cells slots Q (F0 m pc ls (.ref a :: rest)) :=
  va_alen (x := (n, .inl f)) (ty := .int) K.1 K.2.1 K.2.2.2.2.2.2.2.1.1 w.1 q0 0 he rfl hv hdg kk
theorem wNew {N ci index : Nat} {C : String} {T : u_T} (K : wC p s m args meth c cc nL ret own Ts E A) (w : wW E A s ws H locs) (hin : ∀ x ∈ u_ws C T N, x ∈ Ts) (ty : Nat → FieldType) (hty : ∀ k, k < N → parseFieldDescriptor (T k).2.2.1 = some (ty k)) (hcl : Cond.classLink own index C ∈ Ts) (hinst : Cond.instantiable C N ∈ Ts) (hini : Cond.initialized C ∈ Ts) (hc : vwCl[ci]? = some (C, T, N)) {fs : List Value} (hfs : ∀ j, j < N → defaultValue (ty j) = vp_V fs j) {cells1 slots1 : Nat} (e1 : cells + 1 = cells1) (e2 : slots + N = slots1) (hcells : cells1 ≤ R.cells) (hslots : slots1 ≤ R.slots) (hdg : decode cc pc = .ok (.new index, 3))
    (kk : ∀ (q : Nat) (H1 : Heap), wW E A s (ws ++ [(q, .inr (ci, fs))]) H1 locs → W p l e R s m args below meth c H1 locs cells1 slots1 Q (F0 m (pc + 3) ls (.ref q :: rest))) : W p l e R s m args below meth c H locs cells slots Q (F0 m pc ls rest) := by
  subst e1; subst e2
  exact va_new (D := E.1) (cl := vwCl) K.1 K.2.1 K.2.2.2.2.2.1 hin ty hty K.2.2.2.2.1 (K.2.2.2.2.2.1 _ hcl) (K.2.2.2.2.2.1 _ hinst) (K.2.2.2.2.2.1 _ hini) K.2.2.2.2.2.2.2.1.1 w.1 w.2.1 w.2.2 K.2.2.2.2.2.2.2.2 hc hfs hcells hslots hdg (fun q H1 hP hD hS => kk q H1 ⟨hP, hD, hS⟩)
theorem wNewI {n : Int32} {N' : Nat} (K : wC p s m args meth c cc nL ret own Ts E A) (w : wW E A s ws H locs) (harr : Cond.arrayClass .int ∈ Ts) (hn : ¬ n < 0) (hN : n.toNatClampNeg = N') (hbytes : N' * 4 ≤ 536870912) {cells1 slots1 : Nat} (e1 : cells + 1 = cells1) (e2 : slots + N' = slots1) (hcells : cells1 ≤ R.cells) (hslots : slots1 ≤ R.slots) (hdg : decode cc pc = .ok (.newarray .int, 2))
    (kk : ∀ (q : Nat) (H1 : Heap), wW E A s (ws ++ [(q, .inl (E.2 0, N', .inl (fun _ => 0)))]) H1 locs → W p l e R s m args below meth c H1 locs cells1 slots1 Q (F0 m (pc + 2) ls (.ref q :: rest))) : W p l e R s m args below meth c H locs cells slots Q (F0 m pc ls (.int n :: rest)) := by
  subst e1; subst e2
  have hK := K.2.2.2.2.2.2.2.1.1
  refine va_newa (D := E.1) (cl := vwCl) (atype := .int) (ty := .int) (a0 := (N', .inl (fun _ => 0))) K.1 K.2.1 (K.2.2.2.2.2.1 _ harr) rfl hK w.1 w.2.1 w.2.2 K.2.2.2.2.2.2.2.2 (fun cA => by rw [vp_cell_i]; rfl) hn hN hbytes hcells hslots hdg (fun q cA H1 hK1 hP hD hS => ?_)
  have h1 : s.vm.findClass ("[" ++ FieldType.int.toString) = some cA := (hK1.2 3 (cA, .int) rfl).2
  have h2 : s.vm.findClass ("[" ++ FieldType.int.toString) = some (E.2 0) := (hK.2 0 (E.2 0, .int) rfl).2
  obtain rfl : cA = E.2 0 := Option.some.inj (h1.symm.trans h2)
  exact kk q H1 ⟨hP, hD, hS⟩
theorem wNewZ {n : Int32} {N' : Nat} (K : wC p s m args meth c cc nL ret own Ts E A) (w : wW E A s ws H locs) (harr : Cond.arrayClass .boolean ∈ Ts) (hn : ¬ n < 0) (hN : n.toNatClampNeg = N') (hbytes : N' * 1 ≤ 536870912) {cells1 slots1 : Nat} (e1 : cells + 1 = cells1) (e2 : slots + N' = slots1) (hcells : cells1 ≤ R.cells) (hslots : slots1 ≤ R.slots) (hdg : decode cc pc = .ok (.newarray .boolean, 2))
    (kk : ∀ (q : Nat) (H1 : Heap), wW E A s (ws ++ [(q, .inl (E.2 1, N', .inl (fun _ => 0)))]) H1 locs → W p l e R s m args below meth c H1 locs cells1 slots1 Q (F0 m (pc + 2) ls (.ref q :: rest))) : W p l e R s m args below meth c H locs cells slots Q (F0 m pc ls (.int n :: rest)) := by
  subst e1; subst e2
  have hK := K.2.2.2.2.2.2.2.1.1
  refine va_newa (D := E.1) (cl := vwCl) (atype := .boolean) (ty := .boolean) (a0 := (N', .inl (fun _ => 0))) K.1 K.2.1 (K.2.2.2.2.2.1 _ harr) rfl hK w.1 w.2.1 w.2.2 K.2.2.2.2.2.2.2.2 (fun cA => by rw [vp_cell_i]; rfl) hn hN hbytes hcells hslots hdg (fun q cA H1 hK1 hP hD hS => ?_)
  have h1 : s.vm.findClass ("[" ++ FieldType.boolean.toString) = some cA := (hK1.2 3 (cA, .boolean) rfl).2
  have h2 : s.vm.findClass ("[" ++ FieldType.boolean.toString) = some (E.2 1) := (hK.2 1 (E.2 1, .boolean) rfl).2
  obtain rfl : cA = E.2 1 := Option.some.inj (h1.symm.trans h2)
  exact kk q H1 ⟨hP, hD, hS⟩
theorem wNewA {n : Int32} {N' index : Nat} (K : wC p s m args meth c cc nL ret own Ts E A) (w : wW E A s ws H locs) (hcl : Cond.classLink own index RX0 ∈ Ts) (hn : ¬ n < 0) (hN : n.toNatClampNeg = N') (hbytes : N' * 4 ≤ 536870912) {cells1 slots1 : Nat} (e1 : cells + 1 = cells1) (e2 : slots + N' = slots1) (hcells : cells1 ≤ R.cells) (hslots : slots1 ≤ R.slots) (hdg : decode cc pc = .ok (.anewarray index, 3))
    (kk : ∀ (q : Nat) (H1 : Heap), wW E A s (ws ++ [(q, .inl (E.2 2, N', .inr (.inr (.inr (.inr (fun _ => none))))))]) H1 locs → W p l e R s m args below meth c H1 locs cells1 slots1 Q (F0 m (pc + 3) ls (.ref q :: rest))) : W p l e R s m args below meth c H locs cells slots Q (F0 m pc ls (.int n :: rest)) := by
  subst e1; subst e2
  have hK := K.2.2.2.2.2.2.2.1.1
  refine va_newq (D := E.1) (cl := vwCl) K.1 K.2.1 K.2.2.2.2.1 (K.2.2.2.2.2.1 _ hcl) K.2.2.2.2.2.2.2.1.2 hK w.1 w.2.1 w.2.2 K.2.2.2.2.2.2.2.2 hn hN hbytes hcells hslots hdg (fun q cA H1 hK1 hP hD hS => ?_)
  obtain ⟨_, _, -, -, -, h1⟩ := (hK1.2 3 (cA, .object RX0) rfl).2
  obtain ⟨_, _, -, -, -, h2⟩ := (hK.2 2 (E.2 2, .object RX0) rfl).2
  obtain rfl : cA = E.2 2 := Option.some.inj (h1.symm.trans h2)
  exact kk q H1 ⟨hP, hD, hS⟩
end WRow
