/-! BASE: contracts over a world that is a function of a state; how a method is entered, left, called. -/
abbrev bs_p {S : Type} (D : va_G) (cl : List vw_C) (tys : List (ClassId × FieldType)) (w : S → va_W) (sz : Nat) (s : S) (U : State) : Prop := U.heap.size = sz ∧ va_P D cl (w s) U.heap ∧ va_K D cl tys U ∧ va_D (fun _ => True) (w s)
abbrev bs_a {S : Type} (D : va_G) (cl : List vw_C) (tys : List (ClassId × FieldType)) (w : S → va_W) (A : Nat → Prop) (s : S) (t : State) : Prop := va_P D cl (w s) t.heap ∧ va_K D cl tys t ∧ va_D A (w s)
def MetV {S : Type} (l : Launch) (y : MethodName) (ws : List Cond) (rm : Room) (D : va_G) (cl : List vw_C) (tys : List (ClassId × FieldType)) (w : S → va_W) (As : List Value) (s s' : S) : Prop :=
  ∀ sz : Nat, Met l y ws rm (va_Pc As (bs_p D cl tys w sz s)) (va_Qv (fun u : S => u = s') (bs_a D cl tys w (va_A (w s) sz)) (va_A (w s) sz)) 0 0 (va_A (w s) sz)
def MetI {S : Type} (l : Launch) (y : MethodName) (ws : List Cond) (rm : Room) (D : va_G) (cl : List vw_C) (tys : List (ClassId × FieldType)) (w : S → va_W) (As : List Value) (s : S) (r : Int32) (s' : S) : Prop :=
  ∀ sz : Nat, Met l y ws rm (va_Pc As (bs_p D cl tys w sz s)) (va_Qi (fun (x : Int32) (u : S) => x = r ∧ u = s') (bs_a D cl tys w (va_A (w s) sz)) (va_A (w s) sz)) 0 0 (va_A (w s) sz)
def MetL {S : Type} (l : Launch) (y : MethodName) (ws : List Cond) (rm : Room) (D : va_G) (cl : List vw_C) (tys : List (ClassId × FieldType)) (w : S → va_W) (As : List Value) (s : S) (r : Int64) (s' : S) : Prop :=
  ∀ sz : Nat, Met l y ws rm (va_Pc As (bs_p D cl tys w sz s)) (va_Ql (fun (x : Int64) (u : S) => x = r ∧ u = s') (bs_a D cl tys w (va_A (w s) sz)) (va_A (w s) sz)) 0 0 (va_A (w s) sz)
def MetPi (l : Launch) (y : MethodName) (ws : List Cond) (rm : Room) (As : List Value) (r : Int32) : Prop := Met l y ws rm (va_Pc As (fun _ => True)) (vp_Si (fun x => x = r)) 0 0 (fun _ => False)
def MetPl (l : Launch) (y : MethodName) (ws : List Cond) (rm : Room) (As : List Value) (r : Int64) : Prop := Met l y ws rm (va_Pc As (fun _ => True)) (vp_Sl (fun x => x = r)) 0 0 (fun _ => False)
section BSE
variable {l : Launch} {y : MethodName} {ws ws' : List Cond} {rm : Room} {cc : ByteArray} {maxL : Nat} {ret : Option FieldType} {As : List Value}
theorem en_Pi {r : Int32} (hy : plainName y.cls = true) (hw : ws = Cond.code y cc maxL ret :: ws') (hlen : (lg_sl As).length ≤ maxL)
    (body : ∀ (p : Program) (e : Env) (st : State) (m : MethodId) (below : List Frame) (meth : Method) (c : Code) (ls : Array Slot), p.tables.exec = Jvm.exec → c.code = cc → meth.sig.returnType = ret → c.maxLocals = maxL → (∀ w ∈ ws, w.before As.toArray st = true) → st.vm.findClass y.cls = some m.cls → meth.locks = false → lv_has ls maxL (lv_args 0 As) →
      W p l e rm st m As.toArray below meth c st.heap [] 0 0 (MQ below (vp_Si (fun x => x = r)) As.toArray st 0 0 (fun _ => False)) (F0 m 0 ls [])) : MetPi l y ws rm As r := by
  refine Met.ofW (cc := cc) (maxL := maxL) (ret := ret) hy hw ?_
  intro p e s m args below meth c s₁ B hml hv
  obtain ⟨rfl, -⟩ := hv
  rw [lg_entry_eq]
  exact body p e s m below meth c _ B.exec B.bytes B.returns hml (atoms_spec (ws := ws) B.pre) (findClass_of_methodNamed B.named) B.notSynchronized (lv_entry As hlen)
theorem en_Pl {r : Int64} (hy : plainName y.cls = true) (hw : ws = Cond.code y cc maxL ret :: ws') (hlen : (lg_sl As).length ≤ maxL)
    (body : ∀ (p : Program) (e : Env) (st : State) (m : MethodId) (below : List Frame) (meth : Method) (c : Code) (ls : Array Slot), p.tables.exec = Jvm.exec → c.code = cc → meth.sig.returnType = ret → c.maxLocals = maxL → (∀ w ∈ ws, w.before As.toArray st = true) → st.vm.findClass y.cls = some m.cls → meth.locks = false → lv_has ls maxL (lv_args 0 As) →
      W p l e rm st m As.toArray below meth c st.heap [] 0 0 (MQ below (vp_Sl (fun x => x = r)) As.toArray st 0 0 (fun _ => False)) (F0 m 0 ls [])) : MetPl l y ws rm As r := by
  refine Met.ofW (cc := cc) (maxL := maxL) (ret := ret) hy hw ?_
  intro p e s m args below meth c s₁ B hml hv
  obtain ⟨rfl, -⟩ := hv
  rw [lg_entry_eq]
  exact body p e s m below meth c _ B.exec B.bytes B.returns hml (atoms_spec (ws := ws) B.pre) (findClass_of_methodNamed B.named) B.notSynchronized (lv_entry As hlen)
variable {S : Type} {D : va_G} {cl : List vw_C} {tys : List (ClassId × FieldType)} {w : S → va_W} {s s' : S}
theorem en_W {Qc : (Nat → Prop) → Array Value → State → Outcome → State → Prop} (hy : plainName y.cls = true) (hw : ws = Cond.code y cc maxL ret :: ws') (hlen : (lg_sl As).length ≤ maxL)
    (body : ∀ (p : Program) (e : Env) (st : State) (m : MethodId) (below : List Frame) (meth : Method) (c : Code) (ls : Array Slot) (A : Nat → Prop), p.tables.exec = Jvm.exec → c.code = cc → meth.sig.returnType = ret → c.maxLocals = maxL → (∀ w ∈ ws, w.before As.toArray st = true) → st.vm.findClass y.cls = some m.cls → meth.locks = false →
      (∀ q : Nat, st.heap.size ≤ q → A q) → va_K D cl tys st → va_P D cl (w s) st.heap → va_D A (w s) → va_S A st.heap st.heap [] → lv_has ls maxL (lv_args 0 As) →
      W p l e rm st m As.toArray below meth c st.heap [] 0 0 (MQ below (Qc A) As.toArray st 0 0 A) (F0 m 0 ls [])) (sz : Nat) : Met l y ws rm (va_Pc As (bs_p D cl tys w sz s)) (Qc (va_A (w s) sz)) 0 0 (va_A (w s) sz) := by
  refine Met.ofW (cc := cc) (maxL := maxL) (ret := ret) hy hw ?_
  intro p e st m args below meth c s₁ B hml hv
  obtain ⟨rfl, hsz, hP, hK, hD⟩ := hv
  subst hsz
  rw [lg_entry_eq]
  exact body p e st m below meth c _ _ B.exec B.bytes B.returns hml (atoms_spec (ws := ws) B.pre) (findClass_of_methodNamed B.named) B.notSynchronized (fun q h => Or.inr h) hK hP hD.self va_S.rf (lv_entry As hlen)
end BSE
section BSR
variable {p : Program} {l : Launch} {e : Env} {R : Room} {s : State} {m : MethodId} {args : Array Value} {below : List Frame} {meth : Method} {c : Code} {cc : ByteArray} {pc : Nat} {ls : Array Slot} {H : Heap} {locs : List Loc}
theorem rt_Pi {v r : Int32} (hexec : p.tables.exec = Jvm.exec) (hb : c.code = cc) (hr : meth.sig.returnType = some .int) (hlk : meth.locks = false) (hv : v = r) (hdg : decode cc pc = .ok (.ireturn, 1)) :
    W p l e R s m args below meth c s.heap [] 0 0 (MQ below (vp_Si (fun x => x = r)) args s 0 0 (fun _ => False)) (F0 m pc ls [.int v]) :=
  W.iret (v := v) hexec hb hr (fun t ht _ => ⟨v, rfl, hv, ht⟩) (fun q h => by cases h) hdg hlk
theorem rt_Pz {v r : Int32} (hexec : p.tables.exec = Jvm.exec) (hb : c.code = cc) (hr : meth.sig.returnType = some .boolean) (hlk : meth.locks = false) (hn : narrow .boolean (.int v) = .int v) (hv : v = r) (hdg : decode cc pc = .ok (.ireturn, 1)) :
    W p l e R s m args below meth c s.heap [] 0 0 (MQ below (vp_Si (fun x => x = r)) args s 0 0 (fun _ => False)) (F0 m pc ls [.int v]) :=
  W.zret (v := v) hexec hb hr hn (fun t ht _ => ⟨v, rfl, hv, ht⟩) (fun q h => by cases h) hdg hlk
theorem rt_Pl {v r : Int64} (hexec : p.tables.exec = Jvm.exec) (hb : c.code = cc) (hr : meth.sig.returnType = some .long) (hlk : meth.locks = false) (hv : v = r) (hdg : decode cc pc = .ok (.lreturn, 1)) :
    W p l e R s m args below meth c s.heap [] 0 0 (MQ below (vp_Sl (fun x => x = r)) args s 0 0 (fun _ => False)) (F0 m pc ls [.long v]) :=
  W.lret (v := v) hexec hb hr (fun t ht _ => ⟨v, rfl, hv, ht⟩) (fun q h => by cases h) hdg hlk
variable {S : Type} {D : va_G} {cl : List vw_C} {tys : List (ClassId × FieldType)} {w : S → va_W} {s1 s2 : S} {A : Nat → Prop}
theorem rt_V (hexec : p.tables.exec = Jvm.exec) (hb : c.code = cc) (hr : meth.sig.returnType = none) (hlk : meth.locks = false) (hK : va_K D cl tys s) (hP : va_P D cl (w s1) H) (hD : va_D A (w s1)) (hS : va_S A s.heap H locs) (hv : s1 = s2) (hdg : decode cc pc = .ok (.return_, 1)) :
    W p l e R s m args below meth c H locs 0 0 (MQ below (va_Qv (fun u : S => u = s2) (bs_a D cl tys w A) A) args s 0 0 A) (F0 m pc ls []) :=
  W.vret hexec hb hr (fun t ht hW => ⟨⟨s1, rfl, hv, by rw [ht]; exact hP, va_K.moved hW.alike hK, hD⟩, hS.F ht⟩) hS.2.2 hdg hlk
theorem rt_I {v r : Int32} (hexec : p.tables.exec = Jvm.exec) (hb : c.code = cc) (hr : meth.sig.returnType = some .int) (hlk : meth.locks = false) (hK : va_K D cl tys s) (hP : va_P D cl (w s1) H) (hD : va_D A (w s1)) (hS : va_S A s.heap H locs) (hv : v = r ∧ s1 = s2) (hdg : decode cc pc = .ok (.ireturn, 1)) :
    W p l e R s m args below meth c H locs 0 0 (MQ below (va_Qi (fun (x : Int32) (u : S) => x = r ∧ u = s2) (bs_a D cl tys w A) A) args s 0 0 A) (F0 m pc ls [.int v]) :=
  W.iret (v := v) hexec hb hr (fun t ht hW => ⟨⟨v, s1, rfl, hv, by rw [ht]; exact hP, va_K.moved hW.alike hK, hD⟩, hS.F ht⟩) hS.2.2 hdg hlk
theorem rt_Z {v r : Int32} (hexec : p.tables.exec = Jvm.exec) (hb : c.code = cc) (hr : meth.sig.returnType = some .boolean) (hlk : meth.locks = false) (hK : va_K D cl tys s) (hP : va_P D cl (w s1) H) (hD : va_D A (w s1)) (hS : va_S A s.heap H locs) (hn : narrow .boolean (.int v) = .int v) (hv : v = r ∧ s1 = s2) (hdg : decode cc pc = .ok (.ireturn, 1)) :
    W p l e R s m args below meth c H locs 0 0 (MQ below (va_Qi (fun (x : Int32) (u : S) => x = r ∧ u = s2) (bs_a D cl tys w A) A) args s 0 0 A) (F0 m pc ls [.int v]) :=
  W.zret (v := v) hexec hb hr hn (fun t ht hW => ⟨⟨v, s1, rfl, hv, by rw [ht]; exact hP, va_K.moved hW.alike hK, hD⟩, hS.F ht⟩) hS.2.2 hdg hlk
theorem rt_L {v r : Int64} (hexec : p.tables.exec = Jvm.exec) (hb : c.code = cc) (hr : meth.sig.returnType = some .long) (hlk : meth.locks = false) (hK : va_K D cl tys s) (hP : va_P D cl (w s1) H) (hD : va_D A (w s1)) (hS : va_S A s.heap H locs) (hv : v = r ∧ s1 = s2) (hdg : decode cc pc = .ok (.lreturn, 1)) :
    W p l e R s m args below meth c H locs 0 0 (MQ below (va_Ql (fun (x : Int64) (u : S) => x = r ∧ u = s2) (bs_a D cl tys w A) A) args s 0 0 A) (F0 m pc ls [.long v]) :=
  W.lret (v := v) hexec hb hr (fun t ht hW => ⟨⟨v, s1, rfl, hv, by rw [ht]; exact hP, va_K.moved hW.alike hK, hD⟩, hS.F ht⟩) hS.2.2 hdg hlk
end BSR
section BSC
variable {p : Program} {l : Launch} {e : Env} {R : Room} {s : State} {m : MethodId} {args : Array Value} {below : List Frame} {meth : Method} {c : Code} {H : Heap} {locs : List Loc} {cells slots : Nat} {Q : State → Prop}
variable {y : MethodName} {bytes cc : ByteArray} {maxL nL n index pc : Nat} {ret : Option FieldType} {ws : List Cond} {rm : Room} {Ts : List Cond} {own C : String} {As rest st0 : List Value} {ls : Array Slot}
theorem cl_Pi {r : Int32} (hM : MetPi l y ws rm As r) (F : CallFix p m c cc nL s args Ts own) (cw : CallB R s args own index y bytes maxL ret ws rm 0 0 n ∧ (Cond.static y).before args s = true) (hn : As.length = n) (hls : ls.size = nL) (hst : st0 = As.reverse ++ rest) (hroom : (rest.map fun v => v.category).sum ≤ 8) (hc : cells ≤ R.cells) (hsl : slots ≤ R.slots) (hdg : decode cc pc = .ok (.invokestatic index, 3))
    (kk : W p l e R s m args below meth c H locs cells slots Q (F0 m (pc + 3) ls (.int r :: rest))) : W p l e R s m args below meth c H locs cells slots Q (F0 m pc ls st0) := by
  subst hst
  refine vp_callSi (va_Run.run (va_runS (As := As) (rest := rest) F hM cw ⟨fun a U g mk q => q, fun U _ _ => ⟨rfl, trivial⟩⟩ rfl hn hls rfl (lv_room hroom) hdg ⟨hc, hsl⟩)) (fun x ex => ?_)
  subst ex
  exact kk
theorem cl_Pl {r : Int64} (hM : MetPl l y ws rm As r) (F : CallFix p m c cc nL s args Ts own) (cw : CallB R s args own index y bytes maxL ret ws rm 0 0 n ∧ (Cond.static y).before args s = true) (hn : As.length = n) (hls : ls.size = nL) (hst : st0 = As.reverse ++ rest) (hroom : (rest.map fun v => v.category).sum ≤ 8) (hc : cells ≤ R.cells) (hsl : slots ≤ R.slots) (hdg : decode cc pc = .ok (.invokestatic index, 3))
    (kk : W p l e R s m args below meth c H locs cells slots Q (F0 m (pc + 3) ls (.long r :: rest))) : W p l e R s m args below meth c H locs cells slots Q (F0 m pc ls st0) := by
  subst hst
  refine vp_callSl (va_Run.run (va_runS (As := As) (rest := rest) F hM cw ⟨fun a U g mk q => q, fun U _ _ => ⟨rfl, trivial⟩⟩ rfl hn hls rfl (lv_room hroom) hdg ⟨hc, hsl⟩)) (fun x ex => ?_)
  subst ex
  exact kk
variable {S : Type} {D : va_G} {cl : List vw_C} {tys : List (ClassId × FieldType)} {w : S → va_W} {s1 s2 : S} {A : Nat → Prop}
theorem bs_blind {sz : Nat} : FrameBlind (va_Pc As (bs_p D cl tys w sz s1)) := fun a U g mk q => by
  obtain ⟨q0, q1, qP, qK, qD⟩ := q
  exact ⟨q0, q1, qP, va_K.moved (u := U) (U := U.calling g mk a) (Vm.Alike.refl U.vm) qK, qD⟩
theorem bs_free {H0 : Heap} (hD : va_D A (w s1)) (hS : va_S A H0 H locs) (hA : ∀ q : Nat, H0.size ≤ q → A q) : ∀ q, va_A (w s1) H.size q → A q := by
  intro q h
  rcases h with ⟨k, e, h⟩ | h
  · exact hD.2 k (q, e) h
  · exact hA q (Nat.le_trans hS.1 h)
/-- a virtual call whose callee's world is the caller's whole world -/
theorem cl_V {a0 ci : Nat} {fs : List Value} {q : vw_C} (hM : MetV l y ws rm D cl tys w (.ref a0 :: As) s1 s2) (F : CallFix p m c cc nL s args Ts own) (cw : CallW R s args own C index y bytes maxL ret ws rm 0 0 n) (hK : va_K D cl tys s) (hP : va_P D cl (w s1) H) (hD : va_D A (w s1)) (hS : va_S A s.heap H locs) (hA : ∀ q : Nat, s.heap.size ≤ q → A q) (he : (w s1)[0]? = some (a0, .inr (ci, fs))) (hc0 : cl[ci]? = some q) (hC : q.1 = C)
    (hn : As.length = n) (hls : ls.size = nL) (hst : st0 = As.reverse ++ .ref a0 :: rest) (hroom : (rest.map fun v => v.category).sum ≤ 8) (hc : cells ≤ R.cells) (hsl : slots ≤ R.slots) (hdg : decode cc pc = .ok (.invokevirtual index, 3))
    (kk : ∀ (H1 : Heap) (locs1 : List Loc), va_P D cl (w s2) H1 → va_D A (w s2) → va_S A s.heap H1 locs1 → W p l e R s m args below meth c H1 locs1 cells slots Q (F0 m (pc + 3) ls rest)) : W p l e R s m args below meth c H locs cells slots Q (F0 m pc ls st0) := by
  subst hst
  subst hC
  have hF := bs_free hD hS hA
  refine va_callv (va_runV (As := As) (rest := rest) F (hM H.size) cw ⟨bs_blind, va_recv hK hP hc0 he, fun U hU hW => ⟨rfl, by rw [hU], by rw [hU]; exact hP, va_K.moved hW.alike hK, hD.weaken (fun _ _ _ _ => trivial)⟩⟩ rfl hn hls rfl (lv_room hroom) hdg ⟨hc, hsl⟩) hS (fun q _ h => hF q h) hF (fun u t H1 locs1 ht hvm hu hB hz hk hS1 => ?_)
  obtain ⟨hP1, -, hD1⟩ := hB
  subst hu
  rw [ht] at hP1
  exact kk H1 locs1 hP1 (hD1.weaken (fun _ q _ h => hF q.1 h)) hS1
theorem cl_I {a0 ci : Nat} {fs : List Value} {q : vw_C} {r : Int32} (hM : MetI l y ws rm D cl tys w (.ref a0 :: As) s1 r s2) (F : CallFix p m c cc nL s args Ts own) (cw : CallW R s args own C index y bytes maxL ret ws rm 0 0 n) (hK : va_K D cl tys s) (hP : va_P D cl (w s1) H) (hD : va_D A (w s1)) (hS : va_S A s.heap H locs) (hA : ∀ q : Nat, s.heap.size ≤ q → A q) (he : (w s1)[0]? = some (a0, .inr (ci, fs))) (hc0 : cl[ci]? = some q) (hC : q.1 = C)
    (hn : As.length = n) (hls : ls.size = nL) (hst : st0 = As.reverse ++ .ref a0 :: rest) (hroom : (rest.map fun v => v.category).sum ≤ 8) (hc : cells ≤ R.cells) (hsl : slots ≤ R.slots) (hdg : decode cc pc = .ok (.invokevirtual index, 3))
    (kk : ∀ (H1 : Heap) (locs1 : List Loc), va_P D cl (w s2) H1 → va_D A (w s2) → va_S A s.heap H1 locs1 → W p l e R s m args below meth c H1 locs1 cells slots Q (F0 m (pc + 3) ls (.int r :: rest))) : W p l e R s m args below meth c H locs cells slots Q (F0 m pc ls st0) := by
  subst hst
  subst hC
  have hF := bs_free hD hS hA
  refine va_calli (va_runV (As := As) (rest := rest) F (hM H.size) cw ⟨bs_blind, va_recv hK hP hc0 he, fun U hU hW => ⟨rfl, by rw [hU], by rw [hU]; exact hP, va_K.moved hW.alike hK, hD.weaken (fun _ _ _ _ => trivial)⟩⟩ rfl hn hls rfl (lv_room hroom) hdg ⟨hc, hsl⟩) hS (fun q _ h => hF q h) hF (fun x u t H1 locs1 ht hvm hu hB hz hk hS1 => ?_)
  obtain ⟨hP1, -, hD1⟩ := hB
  obtain ⟨hx, hu⟩ := hu
  subst hx
  subst hu
  rw [ht] at hP1
  exact kk H1 locs1 hP1 (hD1.weaken (fun _ q _ h => hF q.1 h)) hS1
theorem cl_L {a0 ci : Nat} {fs : List Value} {q : vw_C} {r : Int64} (hM : MetL l y ws rm D cl tys w (.ref a0 :: As) s1 r s2) (F : CallFix p m c cc nL s args Ts own) (cw : CallW R s args own C index y bytes maxL ret ws rm 0 0 n) (hK : va_K D cl tys s) (hP : va_P D cl (w s1) H) (hD : va_D A (w s1)) (hS : va_S A s.heap H locs) (hA : ∀ q : Nat, s.heap.size ≤ q → A q) (he : (w s1)[0]? = some (a0, .inr (ci, fs))) (hc0 : cl[ci]? = some q) (hC : q.1 = C)
    (hn : As.length = n) (hls : ls.size = nL) (hst : st0 = As.reverse ++ .ref a0 :: rest) (hroom : (rest.map fun v => v.category).sum ≤ 8) (hc : cells ≤ R.cells) (hsl : slots ≤ R.slots) (hdg : decode cc pc = .ok (.invokevirtual index, 3))
    (kk : ∀ (H1 : Heap) (locs1 : List Loc), va_P D cl (w s2) H1 → va_D A (w s2) → va_S A s.heap H1 locs1 → W p l e R s m args below meth c H1 locs1 cells slots Q (F0 m (pc + 3) ls (.long r :: rest))) : W p l e R s m args below meth c H locs cells slots Q (F0 m pc ls st0) := by
  subst hst
  subst hC
  have hF := bs_free hD hS hA
  refine va_calll (va_runV (As := As) (rest := rest) F (hM H.size) cw ⟨bs_blind, va_recv hK hP hc0 he, fun U hU hW => ⟨rfl, by rw [hU], by rw [hU]; exact hP, va_K.moved hW.alike hK, hD.weaken (fun _ _ _ _ => trivial)⟩⟩ rfl hn hls rfl (lv_room hroom) hdg ⟨hc, hsl⟩) hS (fun q _ h => hF q h) hF (fun x u t H1 locs1 ht hvm hu hB hz hk hS1 => ?_)
  obtain ⟨hP1, -, hD1⟩ := hB
  obtain ⟨hx, hu⟩ := hu
  subst hx
  subst hu
  rw [ht] at hP1
  exact kk H1 locs1 hP1 (hD1.weaken (fun _ q _ h => hF q.1 h)) hS1
/-- a static call over the caller's world -/
theorem cl_SV (hM : MetV l y ws rm D cl tys w As s1 s2) (F : CallFix p m c cc nL s args Ts own) (cw : CallB R s args own index y bytes maxL ret ws rm 0 0 n ∧ (Cond.static y).before args s = true) (hK : va_K D cl tys s) (hP : va_P D cl (w s1) H) (hD : va_D A (w s1)) (hS : va_S A s.heap H locs) (hA : ∀ q : Nat, s.heap.size ≤ q → A q)
    (hn : As.length = n) (hls : ls.size = nL) (hst : st0 = As.reverse ++ rest) (hroom : (rest.map fun v => v.category).sum ≤ 8) (hc : cells ≤ R.cells) (hsl : slots ≤ R.slots) (hdg : decode cc pc = .ok (.invokestatic index, 3))
    (kk : ∀ (H1 : Heap) (locs1 : List Loc), va_P D cl (w s2) H1 → va_D A (w s2) → va_S A s.heap H1 locs1 → W p l e R s m args below meth c H1 locs1 cells slots Q (F0 m (pc + 3) ls rest)) : W p l e R s m args below meth c H locs cells slots Q (F0 m pc ls st0) := by
  subst hst
  have hF := bs_free hD hS hA
  refine va_callv (va_runS (As := As) (rest := rest) F (hM H.size) cw ⟨bs_blind, fun U hU hW => ⟨rfl, by rw [hU], by rw [hU]; exact hP, va_K.moved hW.alike hK, hD.weaken (fun _ _ _ _ => trivial)⟩⟩ rfl hn hls rfl (lv_room hroom) hdg ⟨hc, hsl⟩) hS (fun q _ h => hF q h) hF (fun u t H1 locs1 ht hvm hu hB hz hk hS1 => ?_)
  obtain ⟨hP1, -, hD1⟩ := hB
  subst hu
  rw [ht] at hP1
  exact kk H1 locs1 hP1 (hD1.weaken (fun _ q _ h => hF q.1 h)) hS1
end BSC
theorem pr_of {α β : Type} {F : α × β} {r : α} {s : β} (h : F = (r, s)) : r = F.1 ∧ s = F.2 := by
  subst h
  exact ⟨rfl, rfl⟩
theorem in_of {t M : Int32} {n : Nat} (h0 : ¬ t < 0) (h1 : ¬ M ≤ t) (hM : M = nI n) (hn : n < 2 ^ 31) : vp_in t n := by
  obtain ⟨j, hj, rfl⟩ := nI_of h0
  subst hM
  intro h
  rcases h with h | h
  · exact h0 h
  · rw [nI_clamp hj] at h
    exact h1 (nI_le h hj)
theorem sw_i {x c : Int32} {k : Int} (h : ¬ x = c) (hc : c.toInt = k) : x.toInt ≠ k := fun e => h (Int32.toInt_inj.mp (e.trans hc.symm))
theorem ge0 {t : Int32} (h : 0 ≤ t) : ¬ t < 0 := Int32.not_lt.mpr h
theorem lt0n {t : Int32} (h : t < 0) : ¬ 0 ≤ t := Int32.not_le.mpr h
theorem nlt0 {t : Int32} (h : ¬ t < 0) : 0 ≤ t := Int32.not_lt.mp h
theorem ltn {t M : Int32} (h : t < M) : ¬ M ≤ t := Int32.not_le.mpr h
