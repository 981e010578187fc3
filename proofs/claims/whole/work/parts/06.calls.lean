/-! calls: over the whole world, and with a frame kept (the callee's world on the left, or on the right) -/
theorem fr_apL {D : va_G} {cl : List vw_C} {A : Nat → Prop} {a b : va_W} {H : Heap} (hP : va_P D cl (a ++ b) H) (hD : va_D A (a ++ b)) : ∀ (k : Nat) (q : Nat × va_E), b[k]? = some q → q.1 < H.size ∧ ¬ va_A a H.size q.1 := by
  intro k q hq
  have hb : (a ++ b)[a.length + k]? = some q := by rw [List.getElem?_append_right (by omega)]; rw [show a.length + k - a.length = k by omega]; exact hq
  have hl := (hP _ q hb).lt
  refine ⟨hl, fun h => ?_⟩
  rcases h with ⟨k2, e, h⟩ | h
  · have hk2 : k2 < a.length := (List.getElem?_eq_some_iff.mp h).1
    have ha : (a ++ b)[k2]? = some (q.1, e) := by rw [List.getElem?_append_left hk2]; exact h
    have := hD.1 _ _ _ _ ha hb rfl
    omega
  · omega
theorem fr_apR {D : va_G} {cl : List vw_C} {A : Nat → Prop} {a b : va_W} {H : Heap} (hP : va_P D cl (a ++ b) H) (hD : va_D A (a ++ b)) : ∀ (k : Nat) (q : Nat × va_E), a[k]? = some q → q.1 < H.size ∧ ¬ va_A b H.size q.1 := by
  intro k q hq
  have hk : k < a.length := (List.getElem?_eq_some_iff.mp hq).1
  have ha : (a ++ b)[k]? = some q := by rw [List.getElem?_append_left hk]; exact hq
  have hl := (hP _ q ha).lt
  refine ⟨hl, fun h => ?_⟩
  rcases h with ⟨k2, e, h⟩ | h
  · have hb : (a ++ b)[a.length + k2]? = some (q.1, e) := by rw [List.getElem?_append_right (by omega)]; rw [show a.length + k2 - a.length = k2 by omega]; exact h
    have := hD.1 _ _ _ _ ha hb rfl
    omega
  · omega
theorem fr_P {D : va_G} {cl : List vw_C} {a b : va_W} {H : Heap} (hP : va_P D cl (a ++ b) H) : va_P D cl a H ∧ va_P D cl b H := by
  refine ⟨fun k q hq => ?_, fun k q hq => ?_⟩
  · obtain ⟨i, hi⟩ := List.getElem?_of_mem (List.mem_append_left b (List.mem_of_getElem? hq))
    exact hP i q hi
  · obtain ⟨i, hi⟩ := List.getElem?_of_mem (List.mem_append_right a (List.mem_of_getElem? hq))
    exact hP i q hi
theorem fr_D {A : Nat → Prop} {a b : va_W} (hD : va_D A (a ++ b)) : va_D A a ∧ va_D A b := by
  have hl : ∀ (k : Nat) (q : Nat × va_E), a[k]? = some q → (a ++ b)[k]? = some q := fun k q hq => by rw [List.getElem?_append_left (List.getElem?_eq_some_iff.mp hq).1]; exact hq
  have hr : ∀ (k : Nat) (q : Nat × va_E), b[k]? = some q → (a ++ b)[a.length + k]? = some q := fun k q hq => by rw [List.getElem?_append_right (by omega), show a.length + k - a.length = k by omega]; exact hq
  refine ⟨⟨fun i j p q hp hq e => hD.1 i j p q (hl i p hp) (hl j q hq) e, fun k q hq => hD.2 _ q (hl k q hq)⟩, ⟨fun i j p q hp hq e => ?_, fun k q hq => hD.2 _ q (hr k q hq)⟩⟩
  have := hD.1 _ _ p q (hr i p hp) (hr j q hq) e
  omega
theorem fr_free {A : Nat → Prop} {s : State} {ws : va_W} {H : Heap} {locs : List Loc} (hD : va_D A ws) (hS : va_S A s.heap H locs) (hA : ∀ q : Nat, s.heap.size ≤ q → A q) : ∀ q, va_A ws H.size q → A q := by
  intro q h
  rcases h with ⟨k, e, h⟩ | h
  · exact hD.2 k (q, e) h
  · exact hA q (Nat.le_trans hS.1 h)
theorem fr_L {D : va_G} {cl : List vw_C} {A : Nat → Prop} {a b w1 : va_W} {H H1 : Heap} (hP : va_P D cl (a ++ b) H) (hD : va_D A (a ++ b)) (hk : ∀ q : Nat, q < H.size → ¬ va_A a H.size q → H1[q]? = H[q]?) (hF : ∀ q, va_A a H.size q → A q) (hP1 : va_P D cl w1 H1) (hD1 : va_D (va_A a H.size) w1) : va_P D cl (w1 ++ b) H1 ∧ va_D A (w1 ++ b) := by
  have ap := fr_apL hP hD
  refine ⟨va_P.app hP1 ((fr_P hP).2.kept (fun k q hq => hk q.1 (ap k q hq).1 (ap k q hq).2)), va_D.app (hD1.weaken (fun _ q _ h => hF q.1 h)) (fr_D hD).2 (fun i j x y hx hy hxy => ?_)⟩
  exact (ap j y hy).2 (by rw [← hxy]; exact hD1.2 i x hx)
theorem fr_R {D : va_G} {cl : List vw_C} {A : Nat → Prop} {a b w1 : va_W} {H H1 : Heap} (hP : va_P D cl (a ++ b) H) (hD : va_D A (a ++ b)) (hk : ∀ q : Nat, q < H.size → ¬ va_A b H.size q → H1[q]? = H[q]?) (hF : ∀ q, va_A b H.size q → A q) (hP1 : va_P D cl w1 H1) (hD1 : va_D (va_A b H.size) w1) : va_P D cl (a ++ w1) H1 ∧ va_D A (a ++ w1) := by
  have ap := fr_apR hP hD
  refine ⟨va_P.app ((fr_P hP).1.kept (fun k q hq => hk q.1 (ap k q hq).1 (ap k q hq).2)) hP1, va_D.app (fr_D hD).1 (hD1.weaken (fun _ q _ h => hF q.1 h)) (fun i j x y hx hy hxy => ?_)⟩
  exact (ap i x hx).2 (by rw [hxy]; exact hD1.2 j y hy)
section WCall
variable {p : Program} {l : Launch} {e : Env} {R : Room} {s : State} {m : MethodId} {args : Array Value} {below : List Frame} {meth : Method} {c : Code} {H : Heap} {locs : List Loc} {cells slots : Nat} {Q : State → Prop}
variable {cc : ByteArray} {nL : Nat} {ret : Option FieldType} {own : String} {Ts : List Cond} {E : wE} {A : Nat → Prop} {ws a b : va_W} {pc : Nat} {ls : Array Slot} {rest st0 : List Value}
variable {y : MethodName} {wy : List Cond} {rm : Room} {bytes : ByteArray} {maxL n index o : Nat} {ret' : Option FieldType} {As : List Value} {C : String} {T : u_T} {N ci q0 : Nat} {fs : List Value}
/-- an instance method's call, an int answer -/
theorem wCallV {post : Int32 → va_W → Prop} (K : wC p s m args meth c cc nL ret own Ts E A) (w : wW E A s ws H locs) (hM : MCi l E y wy rm (.ref o :: As) ws post) (cw : CallW R s args own C index y bytes maxL ret' wy rm 0 0 n) (he : ws[q0]? = some (o, .inr (ci, fs))) (hc : vwCl[ci]? = some (C, T, N)) (hn : As.length = n) (hls : ls.size = nL) (hst : st0 = As.reverse ++ .ref o :: rest) (hroom : (rest.map fun v => v.category).sum ≤ 8) (hdg : decode cc pc = .ok (.invokevirtual index, 3)) (hf : cells ≤ R.cells ∧ slots ≤ R.slots)
    (kk : ∀ (r : Int32) (w' : va_W) (H1 : Heap) (locs1 : List Loc), post r w' → wW E A s w' H1 locs1 → W p l e R s m args below meth c H1 locs1 cells slots Q (F0 m (pc + 3) ls (.int r :: rest))) : W p l e R s m args below meth c H locs cells slots Q (F0 m pc ls st0) := by
  obtain ⟨hP, hD, hS⟩ := w
  obtain ⟨hx, hb, hr, hml, hown, hts, hlk, hK, hA⟩ := K
  have hFc := fr_free hD hS hA
  have hM := hM H.size
  have e1 : rm.cells = 0 := cw.1.1
  have e2 : rm.slots = 0 := cw.1.2.1
  rw [e1, e2] at hM
  refine va_calli (va_runV (As := As) (rest := rest) ⟨hx, hb, hml, hown, hts⟩ hM cw ⟨wPre.blind, va_recv hK.1 hP hc he, fun U hU hW => ⟨rfl, by rw [hU], by rw [hU]; exact hP, wKK.moved hW.alike hK, hD.weaken (fun _ _ _ _ => trivial)⟩⟩ rfl hn hls hst (lv_room hroom) hdg hf) hS (fun q _ h => hFc q h) hFc (fun r u t H1 locs1 ht hvm hw hB hz1 hk1 hS1 => ?_)
  obtain ⟨hP1, hD1⟩ := hB
  rw [ht] at hP1
  exact kk r u H1 locs1 hw ⟨hP1, hD1.weaken (fun _ q _ h => hFc q.1 h), hS1⟩
theorem wCallVv {post : va_W → Prop} (K : wC p s m args meth c cc nL ret own Ts E A) (w : wW E A s ws H locs) (hM : MCv l E y wy rm (.ref o :: As) ws post) (cw : CallW R s args own C index y bytes maxL ret' wy rm 0 0 n) (he : ws[q0]? = some (o, .inr (ci, fs))) (hc : vwCl[ci]? = some (C, T, N)) (hn : As.length = n) (hls : ls.size = nL) (hst : st0 = As.reverse ++ .ref o :: rest) (hroom : (rest.map fun v => v.category).sum ≤ 8) (hdg : decode cc pc = .ok (.invokevirtual index, 3)) (hf : cells ≤ R.cells ∧ slots ≤ R.slots)
    (kk : ∀ (w' : va_W) (H1 : Heap) (locs1 : List Loc), post w' → wW E A s w' H1 locs1 → W p l e R s m args below meth c H1 locs1 cells slots Q (F0 m (pc + 3) ls rest)) : W p l e R s m args below meth c H locs cells slots Q (F0 m pc ls st0) := by
  obtain ⟨hP, hD, hS⟩ := w
  obtain ⟨hx, hb, hr, hml, hown, hts, hlk, hK, hA⟩ := K
  have hFc := fr_free hD hS hA
  have hM := hM H.size
  have e1 : rm.cells = 0 := cw.1.1
  have e2 : rm.slots = 0 := cw.1.2.1
  rw [e1, e2] at hM
  refine va_callv (va_runV (As := As) (rest := rest) ⟨hx, hb, hml, hown, hts⟩ hM cw ⟨wPre.blind, va_recv hK.1 hP hc he, fun U hU hW => ⟨rfl, by rw [hU], by rw [hU]; exact hP, wKK.moved hW.alike hK, hD.weaken (fun _ _ _ _ => trivial)⟩⟩ rfl hn hls hst (lv_room hroom) hdg hf) hS (fun q _ h => hFc q h) hFc (fun u t H1 locs1 ht hvm hw hB hz1 hk1 hS1 => ?_)
  obtain ⟨hP1, hD1⟩ := hB
  rw [ht] at hP1
  exact kk u H1 locs1 hw ⟨hP1, hD1.weaken (fun _ q _ h => hFc q.1 h), hS1⟩
/-- a static method's call -/
theorem wCallS {post : Int32 → va_W → Prop} (K : wC p s m args meth c cc nL ret own Ts E A) (w : wW E A s ws H locs) (hM : MCi l E y wy rm As ws post) (cw : CallB R s args own index y bytes maxL ret' wy rm 0 0 n ∧ (Cond.static y).before args s = true) (hn : As.length = n) (hls : ls.size = nL) (hst : st0 = As.reverse ++ rest) (hroom : (rest.map fun v => v.category).sum ≤ 8) (hdg : decode cc pc = .ok (.invokestatic index, 3)) (hf : cells ≤ R.cells ∧ slots ≤ R.slots)
    (kk : ∀ (r : Int32) (w' : va_W) (H1 : Heap) (locs1 : List Loc), post r w' → wW E A s w' H1 locs1 → W p l e R s m args below meth c H1 locs1 cells slots Q (F0 m (pc + 3) ls (.int r :: rest))) : W p l e R s m args below meth c H locs cells slots Q (F0 m pc ls st0) := by
  obtain ⟨hP, hD, hS⟩ := w
  obtain ⟨hx, hb, hr, hml, hown, hts, hlk, hK, hA⟩ := K
  have hFc := fr_free hD hS hA
  have hM := hM H.size
  have e1 : rm.cells = 0 := cw.1.1
  have e2 : rm.slots = 0 := cw.1.2.1
  rw [e1, e2] at hM
  refine va_calli (va_runS (As := As) (rest := rest) ⟨hx, hb, hml, hown, hts⟩ hM cw ⟨wPre.blind, fun U hU hW => ⟨rfl, by rw [hU], by rw [hU]; exact hP, wKK.moved hW.alike hK, hD.weaken (fun _ _ _ _ => trivial)⟩⟩ rfl hn hls hst (lv_room hroom) hdg hf) hS (fun q _ h => hFc q h) hFc (fun r u t H1 locs1 ht hvm hw hB hz1 hk1 hS1 => ?_)
  obtain ⟨hP1, hD1⟩ := hB
  rw [ht] at hP1
  exact kk r u H1 locs1 hw ⟨hP1, hD1.weaken (fun _ q _ h => hFc q.1 h), hS1⟩
theorem wCallSl {post : Int64 → va_W → Prop} (K : wC p s m args meth c cc nL ret own Ts E A) (w : wW E A s ws H locs) (hM : MCl l E y wy rm As ws post) (cw : CallB R s args own index y bytes maxL ret' wy rm 0 0 n ∧ (Cond.static y).before args s = true) (hn : As.length = n) (hls : ls.size = nL) (hst : st0 = As.reverse ++ rest) (hroom : (rest.map fun v => v.category).sum ≤ 8) (hdg : decode cc pc = .ok (.invokestatic index, 3)) (hf : cells ≤ R.cells ∧ slots ≤ R.slots)
    (kk : ∀ (r : Int64) (w' : va_W) (H1 : Heap) (locs1 : List Loc), post r w' → wW E A s w' H1 locs1 → W p l e R s m args below meth c H1 locs1 cells slots Q (F0 m (pc + 3) ls (.long r :: rest))) : W p l e R s m args below meth c H locs cells slots Q (F0 m pc ls st0) := by
  obtain ⟨hP, hD, hS⟩ := w
  obtain ⟨hx, hb, hr, hml, hown, hts, hlk, hK, hA⟩ := K
  have hFc := fr_free hD hS hA
  have hM := hM H.size
  have e1 : rm.cells = 0 := cw.1.1
  have e2 : rm.slots = 0 := cw.1.2.1
  rw [e1, e2] at hM
  refine va_calll (va_runS (As := As) (rest := rest) ⟨hx, hb, hml, hown, hts⟩ hM cw ⟨wPre.blind, fun U hU hW => ⟨rfl, by rw [hU], by rw [hU]; exact hP, wKK.moved hW.alike hK, hD.weaken (fun _ _ _ _ => trivial)⟩⟩ rfl hn hls hst (lv_room hroom) hdg hf) hS (fun q _ h => hFc q h) hFc (fun r u t H1 locs1 ht hvm hw hB hz1 hk1 hS1 => ?_)
  obtain ⟨hP1, hD1⟩ := hB
  rw [ht] at hP1
  exact kk r u H1 locs1 hw ⟨hP1, hD1.weaken (fun _ q _ h => hFc q.1 h), hS1⟩
/-- an instance method's call with a frame: the callee's world is the left part -/
theorem wCallL {post : Int32 → va_W → Prop} (K : wC p s m args meth c cc nL ret own Ts E A) (w : wW E A s (a ++ b) H locs) (hM : MCi l E y wy rm (.ref o :: As) a post) (cw : CallW R s args own C index y bytes maxL ret' wy rm 0 0 n) (he : a[q0]? = some (o, .inr (ci, fs))) (hc : vwCl[ci]? = some (C, T, N)) (hn : As.length = n) (hls : ls.size = nL) (hst : st0 = As.reverse ++ .ref o :: rest) (hroom : (rest.map fun v => v.category).sum ≤ 8) (hdg : decode cc pc = .ok (.invokevirtual index, 3)) (hf : cells ≤ R.cells ∧ slots ≤ R.slots)
    (kk : ∀ (r : Int32) (w' : va_W) (H1 : Heap) (locs1 : List Loc), post r w' → wW E A s (w' ++ b) H1 locs1 → W p l e R s m args below meth c H1 locs1 cells slots Q (F0 m (pc + 3) ls (.int r :: rest))) : W p l e R s m args below meth c H locs cells slots Q (F0 m pc ls st0) := by
  obtain ⟨hP, hD, hS⟩ := w
  obtain ⟨hx, hb, hr, hml, hown, hts, hlk, hK, hA⟩ := K
  have hFc := fr_free (fr_D hD).1 hS hA
  have hM := hM H.size
  have e1 : rm.cells = 0 := cw.1.1
  have e2 : rm.slots = 0 := cw.1.2.1
  rw [e1, e2] at hM
  refine va_calli (va_runV (As := As) (rest := rest) ⟨hx, hb, hml, hown, hts⟩ hM cw ⟨wPre.blind, va_recv hK.1 (fr_P hP).1 hc he, fun U hU hW => ⟨rfl, by rw [hU], by rw [hU]; exact (fr_P hP).1, wKK.moved hW.alike hK, (fr_D hD).1.weaken (fun _ _ _ _ => trivial)⟩⟩ rfl hn hls hst (lv_room hroom) hdg hf) hS (fun q _ h => hFc q h) hFc (fun r u t H1 locs1 ht hvm hw hB hz1 hk1 hS1 => ?_)
  obtain ⟨hP1, hD1⟩ := hB
  rw [ht] at hP1
  obtain ⟨hP2, hD2⟩ := fr_L hP hD hk1 hFc hP1 hD1
  exact kk r u H1 locs1 hw ⟨hP2, hD2, hS1⟩
theorem wCallR {post : Int32 → va_W → Prop} (K : wC p s m args meth c cc nL ret own Ts E A) (w : wW E A s (a ++ b) H locs) (hM : MCi l E y wy rm (.ref o :: As) b post) (cw : CallW R s args own C index y bytes maxL ret' wy rm 0 0 n) (he : b[q0]? = some (o, .inr (ci, fs))) (hc : vwCl[ci]? = some (C, T, N)) (hn : As.length = n) (hls : ls.size = nL) (hst : st0 = As.reverse ++ .ref o :: rest) (hroom : (rest.map fun v => v.category).sum ≤ 8) (hdg : decode cc pc = .ok (.invokevirtual index, 3)) (hf : cells ≤ R.cells ∧ slots ≤ R.slots)
    (kk : ∀ (r : Int32) (w' : va_W) (H1 : Heap) (locs1 : List Loc), post r w' → wW E A s (a ++ w') H1 locs1 → W p l e R s m args below meth c H1 locs1 cells slots Q (F0 m (pc + 3) ls (.int r :: rest))) : W p l e R s m args below meth c H locs cells slots Q (F0 m pc ls st0) := by
  obtain ⟨hP, hD, hS⟩ := w
  obtain ⟨hx, hb, hr, hml, hown, hts, hlk, hK, hA⟩ := K
  have hFc := fr_free (fr_D hD).2 hS hA
  have hM := hM H.size
  have e1 : rm.cells = 0 := cw.1.1
  have e2 : rm.slots = 0 := cw.1.2.1
  rw [e1, e2] at hM
  refine va_calli (va_runV (As := As) (rest := rest) ⟨hx, hb, hml, hown, hts⟩ hM cw ⟨wPre.blind, va_recv hK.1 (fr_P hP).2 hc he, fun U hU hW => ⟨rfl, by rw [hU], by rw [hU]; exact (fr_P hP).2, wKK.moved hW.alike hK, (fr_D hD).2.weaken (fun _ _ _ _ => trivial)⟩⟩ rfl hn hls hst (lv_room hroom) hdg hf) hS (fun q _ h => hFc q h) hFc (fun r u t H1 locs1 ht hvm hw hB hz1 hk1 hS1 => ?_)
  obtain ⟨hP1, hD1⟩ := hB
  rw [ht] at hP1
  obtain ⟨hP2, hD2⟩ := fr_R hP hD hk1 hFc hP1 hD1
  exact kk r u H1 locs1 hw ⟨hP2, hD2, hS1⟩
/-- a constructor's call: the new object's world is the right part; cells come -/
theorem wCallI {post : va_W → Prop} {cells1 slots1 : Nat} (K : wC p s m args meth c cc nL ret own Ts E A) (w : wW E A s (a ++ b) H locs) (hM : MCv l E y wy rm (.ref o :: As) b post) (cw : CallB R s args own index y bytes maxL none wy rm rm.cells rm.slots n ∧ y.name = "<init>" ∧ (Cond.instanceMethod y).before args s = true) (hn : As.length = n) (hls : ls.size = nL) (hst : st0 = As.reverse ++ .ref o :: rest) (hroom : (rest.map fun v => v.category).sum ≤ 8) (hdg : decode cc pc = .ok (.invokespecial index, 3)) (e1 : cells + rm.cells = cells1) (e2 : slots + rm.slots = slots1) (hf : cells1 ≤ R.cells ∧ slots1 ≤ R.slots)
    (kk : ∀ (w' : va_W) (H1 : Heap) (locs1 : List Loc), post w' → wW E A s (a ++ w') H1 locs1 → W p l e R s m args below meth c H1 locs1 cells1 slots1 Q (F0 m (pc + 3) ls rest)) : W p l e R s m args below meth c H locs cells slots Q (F0 m pc ls st0) := by
  subst e1; subst e2
  obtain ⟨hP, hD, hS⟩ := w
  obtain ⟨hx, hb, hr, hml, hown, hts, hlk, hK, hA⟩ := K
  have hFc := fr_free (fr_D hD).2 hS hA
  refine va_callv (va_runI (As := As) (rest := rest) ⟨hx, hb, hml, hown, hts⟩ (hM H.size) cw ⟨wPre.blind, fun U hU hW => ⟨rfl, by rw [hU], by rw [hU]; exact (fr_P hP).2, wKK.moved hW.alike hK, (fr_D hD).2.weaken (fun _ _ _ _ => trivial)⟩⟩ rfl hn hls hst (lv_room hroom) hdg hf) hS (fun q _ h => hFc q h) hFc (fun u t H1 locs1 ht hvm hw hB hz1 hk1 hS1 => ?_)
  obtain ⟨hP1, hD1⟩ := hB
  rw [ht] at hP1
  obtain ⟨hP2, hD2⟩ := fr_R hP hD hk1 hFc hP1 hD1
  exact kk u H1 locs1 hw ⟨hP2, hD2, hS1⟩
end WCall
