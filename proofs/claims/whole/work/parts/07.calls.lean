/-! worlds side by side; a method's entry, its returns; calls: the callee's cells w stand among the caller's (wa ++ (w ++ wb)), the rest stays -/
def zP (D : va_G) (tys : List (ClassId × FieldType)) (sz : Nat) (w : va_W) (U : State) : Prop := U.heap.size = sz ∧ va_P D vwCl w U.heap ∧ va_K D vwCl tys U ∧ va_D (fun _ => True) w
def zB (D : va_G) (tys : List (ClassId × FieldType)) (A : Nat → Prop) (w : va_W) (t : State) : Prop := va_P D vwCl w t.heap ∧ va_K D vwCl tys t ∧ va_D A w
theorem zBlind {argl : List Value} {D : va_G} {tys : List (ClassId × FieldType)} {sz : Nat} {w : va_W} : FrameBlind (va_Pc argl (zP D tys sz w)) := fun a U g mk q => by
  obtain ⟨q0, q1, qP, qK, qD⟩ := q
  exact ⟨q0, q1, qP, va_K.moved (u := U) (U := U.calling g mk a) (Vm.Alike.refl U.vm) qK, qD⟩
theorem zg_l {x y : va_W} {k : Nat} {q : Nat × va_E} (h : x[k]? = some q) : (x ++ y)[k]? = some q := by
  rw [List.getElem?_append_left (List.getElem?_eq_some_iff.mp h).1]; exact h
theorem zg_r {x y : va_W} {k : Nat} {q : Nat × va_E} (h : y[k]? = some q) : (x ++ y)[x.length + k]? = some q := by
  rw [List.getElem?_append_right (Nat.le_add_right _ _), Nat.add_sub_cancel_left]; exact h
section ZW
variable {D : va_G} {cl : List vw_C} {A : Nat → Prop} {x y w wa wb w1 : va_W} {H H1 : Heap}
theorem zP_l (hP : va_P D cl (x ++ y) H) : va_P D cl x H := fun k q h => hP k q (zg_l h)
theorem zP_r (hP : va_P D cl (x ++ y) H) : va_P D cl y H := fun _ q h => hP _ q (zg_r h)
theorem zD_l (hD : va_D A (x ++ y)) : va_D A x := ⟨fun i j p q hi hj e => hD.1 i j p q (zg_l hi) (zg_l hj) e, fun k q h => hD.2 k q (zg_l h)⟩
theorem zD_r (hD : va_D A (x ++ y)) : va_D A y := ⟨fun i j p q hi hj e => by
  have h9 := hD.1 _ _ p q (zg_r (x := x) hi) (zg_r hj) e
  omega, fun _ q h => hD.2 _ q (zg_r h)⟩
theorem zD_x (hD : va_D A (x ++ y)) {i j : Nat} {p q : Nat × va_E} (hi : x[i]? = some p) (hj : y[j]? = some q) : p.1 ≠ q.1 := fun e => by
  have h9 := hD.1 _ _ p q (zg_l hi) (zg_r hj) e
  have h8 := (List.getElem?_eq_some_iff.mp hi).1
  omega
theorem zFree {H0 : Heap} {locs : List Loc} (hD : va_D A (wa ++ (w ++ wb))) (hS : va_S A H0 H locs) (hA : ∀ q, H0.size ≤ q → A q) : ∀ q, va_A w H.size q → A q := by
  intro q h
  rcases h with ⟨k, e, h⟩ | h
  · exact (zD_l (zD_r hD)).2 k (q, e) h
  · exact hA q (Nat.le_trans hS.1 h)
theorem zFrame (hP : va_P D cl (wa ++ (w ++ wb)) H) (hD : va_D A (wa ++ (w ++ wb))) (hk : ∀ q : Nat, q < H.size → ¬ va_A w H.size q → H1[q]? = H[q]?) (hF : ∀ q, va_A w H.size q → A q) (hP1 : va_P D cl w1 H1) (hD1 : va_D (va_A w H.size) w1) : va_P D cl (wa ++ (w1 ++ wb)) H1 ∧ va_D A (wa ++ (w1 ++ wb)) := by
  have hPa := zP_l hP
  have hPb := zP_r (zP_r hP)
  have nA : ∀ (k : Nat) (q : Nat × va_E), wa[k]? = some q → ¬ va_A w H.size q.1 := by
    intro k q h hq
    rcases hq with ⟨j, e, hj⟩ | hj
    · exact zD_x hD h (zg_l hj) rfl
    · have := (hPa k q h).lt
      omega
  have nB : ∀ (k : Nat) (q : Nat × va_E), wb[k]? = some q → ¬ va_A w H.size q.1 := by
    intro k q h hq
    rcases hq with ⟨j, e, hj⟩ | hj
    · exact zD_x (zD_r hD) hj h rfl
    · have := (hPb k q h).lt
      omega
  refine ⟨(hPa.kept (fun k q h => hk q.1 (hPa k q h).lt (nA k q h))).app (hP1.app (hPb.kept (fun k q h => hk q.1 (hPb k q h).lt (nB k q h)))), va_D.app (zD_l hD) (va_D.app (hD1.weaken (fun _ q _ h => hF q.1 h)) (zD_r (zD_r hD)) (fun i j p q hi hj e => nB j q hj (by rw [← e]; exact hD1.2 i p hi))) (fun i j p q hi hj e => ?_)⟩
  by_cases hl : j < w1.length
  · rw [List.getElem?_append_left hl] at hj
    exact nA i p hi (by rw [e]; exact hD1.2 j q hj)
  · rw [List.getElem?_append_right (by omega)] at hj
    exact zD_x hD hi (zg_r (x := w) hj) e
end ZW
theorem zEnt {l : Launch} {y : MethodName} {cc : ByteArray} {maxL : Nat} {ret : Option FieldType} {rm : Room} {argl : List Value} {D : va_G} {tys : List (ClassId × FieldType)} {sz : Nat} {w : va_W} {Qc : (Nat → Prop) → Array Value → State → Outcome → State → Prop} {mc ms : Nat} (hy : plainName y.cls = true) (hlen : (lg_sl argl).length ≤ maxL)
    (body : ∀ (p : Program) (e : Env) (s : State) (m : MethodId) (below : List Frame) (meth : Method) (c : Code) (ls : Array Slot) (A : Nat → Prop), p.tables.exec = Jvm.exec → c.code = cc → meth.sig.returnType = ret → meth.locks = false → c.maxLocals = maxL → meth.name = y.name → (∀ w ∈ WS, w.before argl.toArray s = true) → s.vm.findClass y.cls = some m.cls → s.heap.size = sz → va_P D vwCl w s.heap → va_K D vwCl tys s → va_D A w → (∀ q, s.heap.size ≤ q → A q) → lv_has ls maxL (lv_args 0 argl) →
      W p l e rm s m argl.toArray below meth c s.heap [] 0 0 (MQ below (Qc A) argl.toArray s mc ms A) (F0 m 0 ls [])) :
    Met l y (.code y cc maxL ret :: WS) rm (va_Pc argl (zP D tys sz w)) (Qc (va_A w sz)) mc ms (va_A w sz) := by
  refine Met.ofW (cc := cc) (maxL := maxL) (ret := ret) hy rfl ?_
  intro p e s m args below meth c s₁ B hml hv
  obtain ⟨rfl, hsz, hP, hK, hD0⟩ := hv
  have hts := atoms_spec (ws := .code y cc maxL ret :: WS) B.pre
  have hl := lv_entry argl (n := maxL) hlen
  rw [lg_entry_eq]
  exact body p e s m below meth c _ (va_A w sz) B.exec B.bytes B.returns B.notSynchronized hml (name_of_methodNamed B.named B.method).1 (fun w h => hts w (List.mem_cons_of_mem _ h)) (findClass_of_methodNamed B.named) hsz hP hK hD0.self (fun q h => Or.inr (hsz ▸ h)) hl
section ZR
variable {p : Program} {l : Launch} {e : Env} {R : Room} {s : State} {m : MethodId} {args : Array Value} {below : List Frame} {meth : Method} {c : Code} {H : Heap} {locs : List Loc} {cells slots : Nat} {Q : State → Prop}
variable {cc : ByteArray} {pc : Nat} {ls : Array Slot} {D : va_G} {A : Nat → Prop} {tys : List (ClassId × FieldType)}
theorem zVret {S : Type} {post : S → Prop} {w' : S → va_W} (u : S) (hx : p.tables.exec = Jvm.exec) (hb : c.code = cc) (hr : meth.sig.returnType = none) (hlk : meth.locks = false) (hS : va_S A s.heap H locs) (hK : va_K D vwCl tys s) (hp : post u) (hP : va_P D vwCl (w' u) H) (hD : va_D A (w' u)) (hdg : decode cc pc = .ok (.return_, 1)) :
    W p l e R s m args below meth c H locs cells slots (MQ below (va_Qv post (fun u t => zB D tys A (w' u) t) A) args s cells slots A) (F0 m pc ls []) :=
  W.vret hx hb hr (fun t ht hW => ⟨⟨u, rfl, hp, by rw [ht]; exact hP, va_K.moved hW.alike hK, hD⟩, hS.F ht⟩) hS.2.2 hdg hlk
theorem zIret {S : Type} {post : Int32 → S → Prop} {w' : S → va_W} {v : Int32} (u : S) (hx : p.tables.exec = Jvm.exec) (hb : c.code = cc) (hr : meth.sig.returnType = some .int) (hlk : meth.locks = false) (hS : va_S A s.heap H locs) (hK : va_K D vwCl tys s) (hp : post v u) (hP : va_P D vwCl (w' u) H) (hD : va_D A (w' u)) (hdg : decode cc pc = .ok (.ireturn, 1)) :
    W p l e R s m args below meth c H locs cells slots (MQ below (va_Qi post (fun u t => zB D tys A (w' u) t) A) args s cells slots A) (F0 m pc ls [.int v]) :=
  W.iret hx hb hr (fun t ht hW => ⟨⟨v, u, rfl, hp, by rw [ht]; exact hP, va_K.moved hW.alike hK, hD⟩, hS.F ht⟩) hS.2.2 hdg hlk
theorem zZret {S : Type} {post : Int32 → S → Prop} {w' : S → va_W} {v : Int32} (u : S) (hx : p.tables.exec = Jvm.exec) (hb : c.code = cc) (hr : meth.sig.returnType = some .boolean) (hn : narrow .boolean (.int v) = .int v) (hlk : meth.locks = false) (hS : va_S A s.heap H locs) (hK : va_K D vwCl tys s) (hp : post v u) (hP : va_P D vwCl (w' u) H) (hD : va_D A (w' u)) (hdg : decode cc pc = .ok (.ireturn, 1)) :
    W p l e R s m args below meth c H locs cells slots (MQ below (va_Qi post (fun u t => zB D tys A (w' u) t) A) args s cells slots A) (F0 m pc ls [.int v]) :=
  W.zret hx hb hr hn (fun t ht hW => ⟨⟨v, u, rfl, hp, by rw [ht]; exact hP, va_K.moved hW.alike hK, hD⟩, hS.F ht⟩) hS.2.2 hdg hlk
theorem zLret {S : Type} {post : Int64 → S → Prop} {w' : S → va_W} {v : Int64} (u : S) (hx : p.tables.exec = Jvm.exec) (hb : c.code = cc) (hr : meth.sig.returnType = some .long) (hlk : meth.locks = false) (hS : va_S A s.heap H locs) (hK : va_K D vwCl tys s) (hp : post v u) (hP : va_P D vwCl (w' u) H) (hD : va_D A (w' u)) (hdg : decode cc pc = .ok (.lreturn, 1)) :
    W p l e R s m args below meth c H locs cells slots (MQ below (va_Ql post (fun u t => zB D tys A (w' u) t) A) args s cells slots A) (F0 m pc ls [.long v]) :=
  W.lret hx hb hr (fun t ht hW => ⟨⟨v, u, rfl, hp, by rw [ht]; exact hP, va_K.moved hW.alike hK, hD⟩, hS.F ht⟩) hS.2.2 hdg hlk
end ZR
section ZC
variable {p : Program} {l : Launch} {e : Env} {R : Room} {s : State} {m : MethodId} {args : Array Value} {below : List Frame} {meth : Method} {c : Code} {H : Heap} {locs : List Loc} {cells slots : Nat} {Q : State → Prop}
variable {cc : ByteArray} {pc : Nat} {ls : Array Slot} {rest st0 : List Value} {D : va_G} {A : Nat → Prop} {tys : List (ClassId × FieldType)} {H0 : Heap} {w wa wb : va_W} {a : Array Value} {mc ms : Nat}
theorem zAftv {S : Type} {post : S → Prop} {w' : S → va_W} (hr : va_Run p l e R s m args below meth c H locs cells slots mc ms (F0 m pc ls st0) rest (va_Qv post (fun u t => zB D tys (va_A w H.size) (w' u) t) (va_A w H.size) a) (va_A w H.size)) (hP : va_P D vwCl (wa ++ (w ++ wb)) H) (hD : va_D A (wa ++ (w ++ wb))) (hS : va_S A H0 H locs) (hA : ∀ q, H0.size ≤ q → A q)
    (kk : ∀ (u : S) (H1 : Heap) (locs1 : List Loc), post u → va_P D vwCl (wa ++ (w' u ++ wb)) H1 → va_D A (wa ++ (w' u ++ wb)) → va_S A H0 H1 locs1 → W p l e R s m args below meth c H1 locs1 (cells + mc) (slots + ms) Q (F0 m (pc + 3) ls rest)) : W p l e R s m args below meth c H locs cells slots Q (F0 m pc ls st0) := by
  have hF := zFree hD hS hA
  refine va_callv hr hS (fun q _ h => hF q h) hF (fun u t H1 locs1 ht hvm hpo hB hz1 hk1 hS1 => ?_)
  obtain ⟨hP1, -, hD1⟩ := hB
  rw [ht] at hP1
  obtain ⟨q1, q2⟩ := zFrame hP hD hk1 hF hP1 hD1
  exact kk u H1 locs1 hpo q1 q2 hS1
theorem zAfti {S : Type} {post : Int32 → S → Prop} {w' : S → va_W} (hr : va_Run p l e R s m args below meth c H locs cells slots mc ms (F0 m pc ls st0) rest (va_Qi post (fun u t => zB D tys (va_A w H.size) (w' u) t) (va_A w H.size) a) (va_A w H.size)) (hP : va_P D vwCl (wa ++ (w ++ wb)) H) (hD : va_D A (wa ++ (w ++ wb))) (hS : va_S A H0 H locs) (hA : ∀ q, H0.size ≤ q → A q)
    (kk : ∀ (r : Int32) (u : S) (H1 : Heap) (locs1 : List Loc), post r u → va_P D vwCl (wa ++ (w' u ++ wb)) H1 → va_D A (wa ++ (w' u ++ wb)) → va_S A H0 H1 locs1 → W p l e R s m args below meth c H1 locs1 (cells + mc) (slots + ms) Q (F0 m (pc + 3) ls (.int r :: rest))) : W p l e R s m args below meth c H locs cells slots Q (F0 m pc ls st0) := by
  have hF := zFree hD hS hA
  refine va_calli hr hS (fun q _ h => hF q h) hF (fun r u t H1 locs1 ht hvm hpo hB hz1 hk1 hS1 => ?_)
  obtain ⟨hP1, -, hD1⟩ := hB
  rw [ht] at hP1
  obtain ⟨q1, q2⟩ := zFrame hP hD hk1 hF hP1 hD1
  exact kk r u H1 locs1 hpo q1 q2 hS1
theorem zAftl {S : Type} {post : Int64 → S → Prop} {w' : S → va_W} (hr : va_Run p l e R s m args below meth c H locs cells slots mc ms (F0 m pc ls st0) rest (va_Ql post (fun u t => zB D tys (va_A w H.size) (w' u) t) (va_A w H.size) a) (va_A w H.size)) (hP : va_P D vwCl (wa ++ (w ++ wb)) H) (hD : va_D A (wa ++ (w ++ wb))) (hS : va_S A H0 H locs) (hA : ∀ q, H0.size ≤ q → A q)
    (kk : ∀ (r : Int64) (u : S) (H1 : Heap) (locs1 : List Loc), post r u → va_P D vwCl (wa ++ (w' u ++ wb)) H1 → va_D A (wa ++ (w' u ++ wb)) → va_S A H0 H1 locs1 → W p l e R s m args below meth c H1 locs1 (cells + mc) (slots + ms) Q (F0 m (pc + 3) ls (.long r :: rest))) : W p l e R s m args below meth c H locs cells slots Q (F0 m pc ls st0) := by
  have hF := zFree hD hS hA
  refine va_calll hr hS (fun q _ h => hF q h) hF (fun r u t H1 locs1 ht hvm hpo hB hz1 hk1 hS1 => ?_)
  obtain ⟨hP1, -, hD1⟩ := hB
  rw [ht] at hP1
  obtain ⟨q1, q2⟩ := zFrame hP hD hk1 hF hP1 hD1
  exact kk r u H1 locs1 hpo q1 q2 hS1
variable {y : MethodName} {bytes : ByteArray} {maxL nL n index : Nat} {ret : Option FieldType} {rm : Room} {Qc : Array Value → State → Outcome → State → Prop} {own C : String} {b : Addr} {As : List Value} {free : Addr → Prop}
theorem zPreS (hKc : va_K D vwCl tys s) (hP : va_P D vwCl (wa ++ (w ++ wb)) H) (hD : va_D A (wa ++ (w ++ wb))) : PreS s H (va_Pc As (zP D tys H.size w)) As :=
  ⟨zBlind, fun U hU hW => ⟨rfl, by rw [hU], by rw [hU]; exact zP_l (zP_r hP), va_K.moved hW.alike hKc, (zD_l (zD_r hD)).weaken (fun _ _ _ _ => trivial)⟩⟩
/-- an instance method's call by its contract -/
theorem zRunV (S0 : CallFix p m c cc nL s args WS own) (hM : Met l y (.code y bytes maxL ret :: WS) rm (va_Pc (.ref b :: As) (zP D tys H.size w)) Qc mc ms free) (h1 : Cond.methodLink own index y ∈ WS) (h2 : Cond.instanceMethod y ∈ WS) (h3 : Cond.selects y.cls y y ∈ WS) (h4 : Cond.initialized y.cls ∈ WS) (h5 : Cond.code y bytes maxL ret ∈ WS)
    (hrc : rm.cells = mc ∧ rm.slots = ms) (hd : y.cls ≠ "java/lang/invoke/MethodHandle" ∧ y.cls ≠ "java/lang/invoke/VarHandle" ∧ (parseMethodDescriptor y.desc).map (fun d => d.parameters.length) = some As.length) (hR : rm.frames + 1 ≤ R.frames ∧ 8 + (maxL + 11) + rm.locals ≤ R.locals)
    (hKc : va_K D vwCl tys s) (hP : va_P D vwCl (wa ++ (w ++ wb)) H) (hD : va_D A (wa ++ (w ++ wb))) (ci : Nat) {q : vw_C} (hc : vwCl[ci]? = some q) (hq : q.1 = y.cls) {fs : List Value} (he : w[0]? = some (b, .inr (ci, fs))) (hsize : ls.size = nL) (hst : st0 = As.reverse ++ .ref b :: rest) (hWt : (rest.map fun v => v.category).sum ≤ 8) (hdg : decode cc pc = .ok (.invokevirtual index, 3)) (hf : cells + mc ≤ R.cells ∧ slots + ms ≤ R.slots) :
    va_Run p l e R s m args below meth c H locs cells slots mc ms (F0 m pc ls st0) rest (Qc (Value.ref b :: As).toArray) free := by
  have hp := zPreS (As := .ref b :: As) hKc hP hD
  have hrv := va_recv hKc (zP_l (zP_r hP)) hc he
  rw [hq] at hrv
  have ht : ∀ w ∈ WS, w.before args s = true := S0.2.2.2.2
  have cb : CallB R s args own index y bytes maxL ret (.code y bytes maxL ret :: WS) rm mc ms As.length := callB_of As.length ht (WSg h5) rfl hrc.1 hrc.2 (ht _ h4) (ht _ h1) hd hR
  exact va_runV (C := y.cls) S0 hM ⟨cb, ht _ h2, ht _ h3⟩ ⟨hp.1, hrv, hp.2⟩ rfl rfl hsize hst (lv_room hWt) hdg hf
/-- a static method's call by its contract -/
theorem zRunS (S0 : CallFix p m c cc nL s args WS own) (hM : Met l y (.code y bytes maxL ret :: WS) rm (va_Pc As (zP D tys H.size w)) Qc mc ms free) (h1 : Cond.methodLink own index y ∈ WS) (h2 : Cond.static y ∈ WS) (h4 : Cond.initialized y.cls ∈ WS) (h5 : Cond.code y bytes maxL ret ∈ WS)
    (hrc : rm.cells = mc ∧ rm.slots = ms) (hd : y.cls ≠ "java/lang/invoke/MethodHandle" ∧ y.cls ≠ "java/lang/invoke/VarHandle" ∧ (parseMethodDescriptor y.desc).map (fun d => d.parameters.length) = some As.length) (hR : rm.frames + 1 ≤ R.frames ∧ 8 + (maxL + 11) + rm.locals ≤ R.locals)
    (hKc : va_K D vwCl tys s) (hP : va_P D vwCl (wa ++ (w ++ wb)) H) (hD : va_D A (wa ++ (w ++ wb))) (hsize : ls.size = nL) (hst : st0 = As.reverse ++ rest) (hWt : (rest.map fun v => v.category).sum ≤ 8) (hdg : decode cc pc = .ok (.invokestatic index, 3)) (hf : cells + mc ≤ R.cells ∧ slots + ms ≤ R.slots) :
    va_Run p l e R s m args below meth c H locs cells slots mc ms (F0 m pc ls st0) rest (Qc As.toArray) free := by
  have hp := zPreS (As := As) hKc hP hD
  have ht : ∀ w ∈ WS, w.before args s = true := S0.2.2.2.2
  have cb : CallB R s args own index y bytes maxL ret (.code y bytes maxL ret :: WS) rm mc ms As.length := callB_of As.length ht (WSg h5) rfl hrc.1 hrc.2 (ht _ h4) (ht _ h1) hd hR
  exact va_runS S0 hM ⟨cb, ht _ h2⟩ hp rfl rfl hsize hst (lv_room hWt) hdg hf
/-- a constructor's call by its contract -/
theorem zRunI (S0 : CallFix p m c cc nL s args WS own) (hM : Met l y (.code y bytes maxL none :: WS) rm (va_Pc (.ref b :: As) (zP D tys H.size w)) Qc mc ms free) (h1 : Cond.methodLink own index y ∈ WS) (h2 : Cond.instanceMethod y ∈ WS) (h4 : Cond.initialized y.cls ∈ WS) (h5 : Cond.code y bytes maxL none ∈ WS) (hy1 : y.name = "<init>")
    (hrc : rm.cells = mc ∧ rm.slots = ms) (hd : y.cls ≠ "java/lang/invoke/MethodHandle" ∧ y.cls ≠ "java/lang/invoke/VarHandle" ∧ (parseMethodDescriptor y.desc).map (fun d => d.parameters.length) = some As.length) (hR : rm.frames + 1 ≤ R.frames ∧ 8 + (maxL + 11) + rm.locals ≤ R.locals)
    (hKc : va_K D vwCl tys s) (hP : va_P D vwCl (wa ++ (w ++ wb)) H) (hD : va_D A (wa ++ (w ++ wb))) (hsize : ls.size = nL) (hst : st0 = As.reverse ++ .ref b :: rest) (hWt : (rest.map fun v => v.category).sum ≤ 8) (hdg : decode cc pc = .ok (.invokespecial index, 3)) (hf : cells + mc ≤ R.cells ∧ slots + ms ≤ R.slots) :
    va_Run p l e R s m args below meth c H locs cells slots mc ms (F0 m pc ls st0) rest (Qc (Value.ref b :: As).toArray) free := by
  have hp := zPreS (As := .ref b :: As) hKc hP hD
  have ht : ∀ w ∈ WS, w.before args s = true := S0.2.2.2.2
  have cb : CallB R s args own index y bytes maxL none (.code y bytes maxL none :: WS) rm mc ms As.length := callB_of As.length ht (WSg h5) rfl hrc.1 hrc.2 (ht _ h4) (ht _ h1) hd hR
  exact va_runI S0 hM ⟨cb, hy1, ht _ h2⟩ hp rfl rfl hsize hst (lv_room hWt) hdg hf
end ZC
