/-! the law's helpers: a call of EmitDesk's, its answer laid into out, its exception caught -/
def zL (A : Nat → Prop) (U : State) : Prop := zX A U ∧ va_Nc "java/lang/IllegalStateException" "java/lang/IllegalArgumentException" U ∧ va_Nc "java/lang/UnsupportedOperationException" "java/lang/IllegalArgumentException" U
theorem zL.call {F B : Nat → Prop} {s U : State} {H : Heap} {locs : List Loc} (h : zL F s) (hS : va_S F s.heap H locs) (hB : ∀ q, B q → F q) (hU : U.heap = H) (hW : s.WarmedH U.vm) : zL B U := ⟨h.1.call hS hB hU hW, h.2.1.moved hW.alike, h.2.2.moved hW.alike⟩
theorem zBlindL {argl : List Value} {D : va_G} {tys : List (ClassId × FieldType)} {sz : Nat} {w : va_W} {A : Nat → Prop} : FrameBlind (va_Pc argl (fun U => zP D tys sz w U ∧ zL A U)) := fun a U g mk q => by
  obtain ⟨q0, q1, ⟨q2, q3, q4⟩⟩ := q
  obtain ⟨r0, r1, r2⟩ := zBlindX (argl := argl) (D := D) (tys := tys) (sz := sz) (w := w) (A := A) a U g mk ⟨q0, q1, q2⟩
  exact ⟨r0, r1, r2, va_Nc.moved (u := U) (U := U.calling g mk a) (Vm.Alike.refl U.vm) q3, va_Nc.moved (u := U) (U := U.calling g mk a) (Vm.Alike.refl U.vm) q4⟩
theorem zEntW {l : Launch} {y : MethodName} {cc : ByteArray} {maxL : Nat} {ret : Option FieldType} {hh : List (Nat × Nat × Nat × Nat)} {rm : Room} {argl : List Value} {D : va_G} {tys : List (ClassId × FieldType)} {sz : Nat} {w : va_W} {Qc : (Nat → Prop) → Array Value → State → Outcome → State → Prop} {mc ms : Nat} (hy : plainName y.cls = true) (hlen : (lg_sl argl).length ≤ maxL)
    (body : ∀ (p : Program) (e : Env) (s : State) (m : MethodId) (below : List Frame) (meth : Method) (c : Code) (ls : Array Slot) (F : Nat → Prop), p.tables.exec = Jvm.exec → c.code = cc → meth.sig.returnType = ret → meth.locks = false → c.maxLocals = maxL → c.exceptionTable.toList = tableOf hh → (∀ w ∈ WS, w.before argl.toArray s = true) → s.vm.findClass y.cls = some m.cls → s.heap.size = sz → va_P D vwCl w s.heap → va_K D vwCl tys s → va_D F w → (∀ q, s.heap.size ≤ q → F q) → zL F s → lv_has ls maxL (lv_args 0 argl) →
      W p l e rm s m argl.toArray below meth c s.heap [] 0 0 (MQ below (Qc F) argl.toArray s mc ms F) (F0 m 0 ls [])) :
    Met l y (.codeWith y cc maxL ret hh :: WS) rm (va_Pc argl (fun U => zP D tys sz w U ∧ zL (va_A w sz) U)) (Qc (va_A w sz)) mc ms (va_A w sz) := by
  refine va_MetW (cc := cc) (maxL := maxL) (ret := ret) (hh := hh) hy rfl ?_
  intro p e s m args below meth c s₁ B hml hv
  obtain ⟨rfl, ⟨hsz, hP, hK, hD0⟩, hX⟩ := hv
  have hts := atoms_spec (ws := .codeWith y cc maxL ret hh :: WS) B.pre
  have hT := vx_table (x := y) B (hts _ List.mem_cons_self)
  have hl := lv_entry argl (n := maxL) hlen
  rw [lg_entry_eq]
  exact body p e s m below meth c _ (va_A w sz) B.exec B.bytes B.returns B.notSynchronized hml hT (fun w h => hts w (List.mem_cons_of_mem _ h)) (findClass_of_methodNamed B.named) hsz hP hK hD0.self (fun q h => Or.inr (hsz ▸ h)) hX hl
section ZCX
variable {p : Program} {l : Launch} {e : Env} {R : Room} {s : State} {m : MethodId} {args : Array Value} {below : List Frame} {meth : Method} {c : Code} {H : Heap} {locs : List Loc} {cells slots : Nat} {Q : State → Prop}
variable {cc : ByteArray} {pc : Nat} {ls : Array Slot} {rest st0 : List Value} {D : va_G} {F : Nat → Prop} {tys : List (ClassId × FieldType)} {w wa wb : va_W}
variable {y : MethodName} {bytes : ByteArray} {maxL nL index : Nat} {ret : Option FieldType} {rm : Room} {Qc : Array Value → State → Outcome → State → Prop} {XC : String → State → State → Prop} {own : String} {b : Addr} {As : List Value} {free : Addr → Prop}
theorem zRunX (S0 : CallFix p m c cc nL s args WS own) (hM : vx_Met l y (.code y bytes maxL ret :: WS) rm (va_Pc (.ref b :: As) (fun U => zP D tys H.size w U ∧ zX (va_A w H.size) U)) Qc XC 1 6 free) (h1 : Cond.methodLink own index y ∈ WS) (h2 : Cond.instanceMethod y ∈ WS) (h3 : Cond.selects y.cls y y ∈ WS) (h4 : Cond.initialized y.cls ∈ WS) (h5 : Cond.code y bytes maxL ret ∈ WS)
    (hrc : rm.cells = 1 ∧ rm.slots = 6) (hd : y.cls ≠ "java/lang/invoke/MethodHandle" ∧ y.cls ≠ "java/lang/invoke/VarHandle" ∧ (parseMethodDescriptor y.desc).map (fun d => d.parameters.length) = some As.length) (hR : rm.frames + 1 ≤ R.frames ∧ 8 + (maxL + 11) + rm.locals ≤ R.locals)
    (hX : zX F s) (hKc : va_K D vwCl tys s) (hP : va_P D vwCl (wa ++ (w ++ wb)) H) (hD : va_D F (wa ++ (w ++ wb))) (hS : va_S F s.heap H locs) (hA : ∀ q, s.heap.size ≤ q → F q) (ci : Nat) {q : vw_C} (hc : vwCl[ci]? = some q) (hq : q.1 = y.cls) {fs : List Value} (he : w[0]? = some (b, .inr (ci, fs))) (hsize : ls.size = nL) (hst : st0 = As.reverse ++ .ref b :: rest) (hWt : (rest.map fun v => v.category).sum ≤ 8) (hdg : decode cc pc = .ok (.invokevirtual index, 3)) (hf : cells + 1 ≤ R.cells ∧ slots + 6 ≤ R.slots) :
    vx_Run p l e R s m args below meth c H locs cells slots 1 6 (F0 m pc ls st0) rest (Qc (Value.ref b :: As).toArray) XC free := by
  have hp := zPreS (As := .ref b :: As) hKc hP hD
  have hrv := va_recv hKc (zP_l (zP_r hP)) hc he
  rw [hq] at hrv
  have ht : ∀ w ∈ WS, w.before args s = true := S0.2.2.2.2
  have hF := zFree hD hS hA
  have cb : CallB R s args own index y bytes maxL ret (.code y bytes maxL ret :: WS) rm 1 6 As.length := callB_of As.length ht (WSg h5) rfl hrc.1 hrc.2 (ht _ h4) (ht _ h1) hd hR
  exact vx_runV (C := y.cls) S0 hM ⟨cb, ht _ h2, ht _ h3⟩ ⟨zBlindX, hrv, fun U hU hW => ⟨rfl, (hp.2 U hU hW).2, hX.call hS hF hU hW⟩⟩ rfl rfl hsize hst (lv_room hWt) hdg hf
theorem zAftXi {S : Type} {X : String} {w' : S → va_W} {a : Array Value} (hr : vx_Run p l e R s m args below meth c H locs cells slots 1 6 (F0 m pc ls st0) rest (va_Qi (fun (_ : Int32) (_ : Unit) => False) (fun (_ : Unit) (_ : State) => True) (va_A w H.size) a) (vx_X (fun _ : S => True) (fun E (u : S) t => E = X ∧ zB D tys (va_A w H.size) (w' u) t) (va_A w H.size)) (va_A w H.size)) (hP : va_P D vwCl (wa ++ (w ++ wb)) H) (hD : va_D F (wa ++ (w ++ wb))) (hS : va_S F s.heap H locs) (hA : ∀ q, s.heap.size ≤ q → F q)
    (kx : ∀ (u : S) (q9 : Nat) (ce : Cell) (H1 : Heap) (locs1 : List Loc), va_P D vwCl (wa ++ (w' u ++ wb)) H1 → va_D F (wa ++ (w' u ++ wb)) → va_S F s.heap H1 locs1 → H1[q9]? = some ce → ce.vm = .none → s.vm.findClass X = some ce.cls → vx_W p l e R s m args below meth c H1 locs1 (cells + 1) (slots + 6) Q (F0 m pc ls rest) q9) : W p l e R s m args below meth c H locs cells slots Q (F0 m pc ls st0) := by
  have hF := zFree hD hS hA
  refine vx_calli hr hS (fun q _ h => hF q h) hF (fun q _ h => hF q h) (fun E ce q9 u t H1 locs1 ht hvm _ hB hz1 hk1 hS1 hce hcv hcl => ?_) (fun r u t H1 locs1 ht hvm hpo hB hz1 hk1 hS1 => hpo.elim)
  obtain ⟨rfl, hP1, -, hD1⟩ := hB
  rw [ht] at hP1
  obtain ⟨q1, q2⟩ := zFrame hP hD hk1 hF hP1 hD1
  exact kx u q9 ce H1 locs1 q1 q2 hS1 hce hcv hcl
theorem zAftXl {S : Type} {X : String} {w' : S → va_W} {a : Array Value} (hr : vx_Run p l e R s m args below meth c H locs cells slots 1 6 (F0 m pc ls st0) rest (va_Ql (fun (_ : Int64) (_ : Unit) => False) (fun (_ : Unit) (_ : State) => True) (va_A w H.size) a) (vx_X (fun _ : S => True) (fun E (u : S) t => E = X ∧ zB D tys (va_A w H.size) (w' u) t) (va_A w H.size)) (va_A w H.size)) (hP : va_P D vwCl (wa ++ (w ++ wb)) H) (hD : va_D F (wa ++ (w ++ wb))) (hS : va_S F s.heap H locs) (hA : ∀ q, s.heap.size ≤ q → F q)
    (kx : ∀ (u : S) (q9 : Nat) (ce : Cell) (H1 : Heap) (locs1 : List Loc), va_P D vwCl (wa ++ (w' u ++ wb)) H1 → va_D F (wa ++ (w' u ++ wb)) → va_S F s.heap H1 locs1 → H1[q9]? = some ce → ce.vm = .none → s.vm.findClass X = some ce.cls → vx_W p l e R s m args below meth c H1 locs1 (cells + 1) (slots + 6) Q (F0 m pc ls rest) q9) : W p l e R s m args below meth c H locs cells slots Q (F0 m pc ls st0) := by
  have hF := zFree hD hS hA
  refine vx_calll hr hS (fun q _ h => hF q h) hF (fun q _ h => hF q h) (fun E ce q9 u t H1 locs1 ht hvm _ hB hz1 hk1 hS1 hce hcv hcl => ?_) (fun r u t H1 locs1 ht hvm hpo hB hz1 hk1 hS1 => hpo.elim)
  obtain ⟨rfl, hP1, -, hD1⟩ := hB
  rw [ht] at hP1
  obtain ⟨q1, q2⟩ := zFrame hP hD hk1 hF hP1 hD1
  exact kx u q9 ce H1 locs1 q1 q2 hS1 hce hcv hcl
end ZCX
abbrev oW (ob : Nat) (oc : ClassId) (ou : Nat → Int64) : va_W := [(ob, .inl (oc, 1, .inr (.inl ou)))]
abbrev hT9 (C : Nat → ClassId) (oc : ClassId) : List (ClassId × FieldType) := eT C ++ [(oc, .long)]

set_option maxRecDepth 20000 in
set_option maxHeartbeats 4000000 in
theorem c_L_code_ok (l : Launch) (hl9 : l.stackTraces = false) (D : va_G) (A : Nat → Nat) (C : Nat → ClassId) (ob : Nat) (oc : ClassId) (ou : Nat → Int64) (sz : Nat) (n : Nat) (ops : Nat → Int32) (nums : Nat → Int64) (vc : Nat) (vals : Nat → Int64) (d : Nat) (st : Nat → Int64) (ce : Nat → Int64) (pk : Nat → Int64) (pv : Nat → Int64) (pr : Nat) (w : Nat) (key : Int64) (pl : Nat) (dn : Nat) (tk : Nat) (tr : Nat) (o : Int32) (x : Int64) (hok : okC o x) (hn : n < 40) : Met l yL_code (.codeWith yL_code cL_code 6 (some .int) [(0, 11, 14, 13), (0, 11, 18, 15)] :: WS) ({ frames := 7, cells := 0, slots := 0, locals := 141 } : Room) (va_Pc [.ref (A 0), .int o, .long x, .ref ob] (fun U => zP D (hT9 C oc) sz ((eW A C n ops nums vc vals d st ce pk pv pr w key pl dn tk tr) ++ oW ob oc ou) U ∧ zL (va_A ((eW A C n ops nums vc vals d st ce pk pv pr w key pl dn tk tr) ++ oW ob oc ou) sz) U)) (va_Qi (fun (r : Int32) (_ : Unit) => r = nI 0) (fun (_ : Unit) t => zB D (hT9 C oc) (va_A ((eW A C n ops nums vc vals d st ce pk pv pr w key pl dn tk tr) ++ oW ob oc ou) sz) ((eW A C (n + 1) (upd ops n o) (vp_updL nums n x) vc vals d st ce pk pv pr w key pl dn tk tr) ++ oW ob oc (vp_updL ou 0 (lN (n + 1)))) t) (va_A ((eW A C n ops nums vc vals d st ce pk pv pr w key pl dn tk tr) ++ oW ob oc ou) sz)) 0 0 (va_A ((eW A C n ops nums vc vals d st ce pk pv pr w key pl dn tk tr) ++ oW ob oc ou) sz) := by
  refine zEntW (Qc := fun F => (va_Qi (fun (r : Int32) (_ : Unit) => r = nI 0) (fun (_ : Unit) t => zB D (hT9 C oc) F ((eW A C (n + 1) (upd ops n o) (vp_updL nums n x) vc vals d st ce pk pv pr w key pl dn tk tr) ++ oW ob oc (vp_updL ou 0 (lN (n + 1)))) t) F)) (by decide) (Nat.le_of_ble_eq_true rfl) (fun p e s m below meth c ls F hx hb hr hlk hml hT hw hown hsz hP hK hD hA hX hl => ?_)
  have hS : va_S F s.heap s.heap [] := va_S.rf
  have hown : s.vm.findClass "EmitDeskLaw" = some m.cls := hown
  have hl : lv_has ls 6 [(0, .ref (A 0)), (1, .int o), (2, .long x), (4, .ref ob)] := hl
  refine lv_aload hx hb dL_code_0 (lv_at hl 3 rfl) ?_
  refine lv_iconst (v := nI 0) hx hb dL_code_2 (by decide) ?_
  refine lv_aload_n hx hb dL_code_3 rfl (lv_at hl 0 rfl) ?_
  refine lv_iload_n hx hb dL_code_4 rfl (lv_at hl 1 rfl) ?_
  refine lv_lload_n hx hb dL_code_5 rfl (lv_at hl 2 rfl) ?_
  refine zAfti (wa := []) (w := (eW A C n ops nums vc vals d st ce pk pv pr w key pl dn tk tr)) (wb := oW ob oc ou) (zRunV (wa := []) (w := (eW A C n ops nums vc vals d st ce pk pv pr w key pl dn tk tr)) (wb := oW ob oc ou) ⟨hx, hb, hml, hown, hw⟩ (c_code_ok l D A C _ n ops nums vc vals d st ce pk pv pr w key pl dn tk tr o x hok hn) wm_L_7 wi_E_code ws_E_code wn_E wc_E_code ⟨rfl, rfl⟩ wd_E_code ⟨by decide, by decide⟩ (hK.sub [0, 1, 2, 3, 4, 5, 6] rfl) hP hD 0 rfl rfl rfl hl.1 rfl (Nat.le_of_ble_eq_true rfl) dL_code_6 ⟨by decide, by decide⟩) hP hD hS hA (fun r u H locs hp hP hD hS => ?_)
  replace hP : va_P D vwCl ((eW A C (n + 1) (upd ops n o) (vp_updL nums n x) vc vals d st ce pk pv pr w key pl dn tk tr) ++ oW ob oc ou) H := hP
  replace hD : va_D F ((eW A C (n + 1) (upd ops n o) (vp_updL nums n x) vc vals d st ce pk pv pr w key pl dn tk tr) ++ oW ob oc ou) := hD
  subst hp
  refine lv_i2l hx hb dL_code_9 (nI_l (by omega)) ?_
  refine zLast hx hb hK hP hD hS 8 7 rfl rfl (by omega) (by decide) dL_code_10 (fun H locs hP hD hS => ?_)
  replace hP : va_P D vwCl ((eW A C (n + 1) (upd ops n o) (vp_updL nums n x) vc vals d st ce pk pv pr w key pl dn tk tr) ++ oW ob oc (vp_updL ou 0 (lN (n + 1)))) H := hP
  replace hD : va_D F ((eW A C (n + 1) (upd ops n o) (vp_updL nums n x) vc vals d st ce pk pv pr w key pl dn tk tr) ++ oW ob oc (vp_updL ou 0 (lN (n + 1)))) := hD
  refine lv_goto (tgt := 22) hx hb dL_code_11 rfl ?_
  refine lv_iconst (v := nI 0) hx hb dL_code_22 (by decide) ?_
  exact zIret (w' := fun (_ : Unit) => ((eW A C (n + 1) (upd ops n o) (vp_updL nums n x) vc vals d st ce pk pv pr w key pl dn tk tr) ++ oW ob oc (vp_updL ou 0 (lN (n + 1))))) () hx hb hr hlk hS hK rfl hP hD dL_code_23
set_option maxRecDepth 20000 in
set_option maxHeartbeats 4000000 in
theorem c_L_code_iae (l : Launch) (hl9 : l.stackTraces = false) (D : va_G) (A : Nat → Nat) (C : Nat → ClassId) (ob : Nat) (oc : ClassId) (ou : Nat → Int64) (sz : Nat) (n : Nat) (ops : Nat → Int32) (nums : Nat → Int64) (vc : Nat) (vals : Nat → Int64) (d : Nat) (st : Nat → Int64) (ce : Nat → Int64) (pk : Nat → Int64) (pv : Nat → Int64) (pr : Nat) (w : Nat) (key : Int64) (pl : Nat) (dn : Nat) (tk : Nat) (tr : Nat) (o : Int32) (x : Int64) (hok : ¬ okC o x) : Met l yL_code (.codeWith yL_code cL_code 6 (some .int) [(0, 11, 14, 13), (0, 11, 18, 15)] :: WS) ({ frames := 7, cells := 1, slots := 6, locals := 141 } : Room) (va_Pc [.ref (A 0), .int o, .long x, .ref ob] (fun U => zP D (hT9 C oc) sz ((eW A C n ops nums vc vals d st ce pk pv pr w key pl dn tk tr) ++ oW ob oc ou) U ∧ zL (va_A ((eW A C n ops nums vc vals d st ce pk pv pr w key pl dn tk tr) ++ oW ob oc ou) sz) U)) (va_Qi (fun (r : Int32) (_ : Unit) => r = nI 1) (fun (_ : Unit) t => zB D (hT9 C oc) (va_A ((eW A C n ops nums vc vals d st ce pk pv pr w key pl dn tk tr) ++ oW ob oc ou) sz) ((eW A C n ops nums vc vals d st ce pk pv pr w key pl dn tk tr) ++ oW ob oc ou) t) (va_A ((eW A C n ops nums vc vals d st ce pk pv pr w key pl dn tk tr) ++ oW ob oc ou) sz)) 1 6 (va_A ((eW A C n ops nums vc vals d st ce pk pv pr w key pl dn tk tr) ++ oW ob oc ou) sz) := by
  refine zEntW (Qc := fun F => (va_Qi (fun (r : Int32) (_ : Unit) => r = nI 1) (fun (_ : Unit) t => zB D (hT9 C oc) F ((eW A C n ops nums vc vals d st ce pk pv pr w key pl dn tk tr) ++ oW ob oc ou) t) F)) (by decide) (Nat.le_of_ble_eq_true rfl) (fun p e s m below meth c ls F hx hb hr hlk hml hT hw hown hsz hP hK hD hA hX hl => ?_)
  have hS : va_S F s.heap s.heap [] := va_S.rf
  have hown : s.vm.findClass "EmitDeskLaw" = some m.cls := hown
  have hl : lv_has ls 6 [(0, .ref (A 0)), (1, .int o), (2, .long x), (4, .ref ob)] := hl
  refine lv_aload hx hb dL_code_0 (lv_at hl 3 rfl) ?_
  refine lv_iconst (v := nI 0) hx hb dL_code_2 (by decide) ?_
  refine lv_aload_n hx hb dL_code_3 rfl (lv_at hl 0 rfl) ?_
  refine lv_iload_n hx hb dL_code_4 rfl (lv_at hl 1 rfl) ?_
  refine lv_lload_n hx hb dL_code_5 rfl (lv_at hl 2 rfl) ?_
  refine zAftXi (wa := []) (w := (eW A C n ops nums vc vals d st ce pk pv pr w key pl dn tk tr)) (wb := oW ob oc ou) (zRunX (wa := []) (w := (eW A C n ops nums vc vals d st ce pk pv pr w key pl dn tk tr)) (wb := oW ob oc ou) ⟨hx, hb, hml, hown, hw⟩ (c_code_iae l hl9 D A C _ n ops nums vc vals d st ce pk pv pr w key pl dn tk tr o x hok) wm_L_7 wi_E_code ws_E_code wn_E wc_E_code ⟨rfl, rfl⟩ wd_E_code ⟨by decide, by decide⟩ hX.1 (hK.sub [0, 1, 2, 3, 4, 5, 6] rfl) hP hD hS hA 0 rfl rfl rfl hl.1 rfl (Nat.le_of_ble_eq_true rfl) dL_code_6 ⟨by decide, by decide⟩) hP hD hS hA (fun u q9 ce9 H locs hP hD hS hce hcv hcl => ?_)
  replace hP : va_P D vwCl ((eW A C n ops nums vc vals d st ce pk pv pr w key pl dn tk tr) ++ oW ob oc ou) H := hP
  replace hD : va_D F ((eW A C n ops nums vc vals d st ce pk pv pr w key pl dn tk tr) ++ oW ob oc ou) := hD
  refine vx_catch (own := "EmitDeskLaw") (name := "java/lang/IllegalArgumentException") (E := "java/lang/IllegalArgumentException") hown [] ⟨0, 11, 14, 13⟩ [⟨0, 11, 18, 15⟩] (hT.trans rfl) (fun z hz => nomatch hz) (by decide) (by decide) (hw _ wk_L_13) (va_Nw.use rfl hX.1.1.1) hce hcv hcl ?_
  refine lv_astore hx hb dL_code_14 hl (by decide) rfl (fun ls hl => ?_)
  refine lv_iconst (v := nI 1) hx hb dL_code_16 (by decide) ?_
  refine W.widen (k := 1) (n := 6) (by decide) (by decide) ?_
  exact zIret (w' := fun (_ : Unit) => ((eW A C n ops nums vc vals d st ce pk pv pr w key pl dn tk tr) ++ oW ob oc ou)) () hx hb hr hlk hS hK rfl hP hD dL_code_17
set_option maxRecDepth 20000 in
set_option maxHeartbeats 4000000 in
theorem c_L_code_ise (l : Launch) (hl9 : l.stackTraces = false) (D : va_G) (A : Nat → Nat) (C : Nat → ClassId) (ob : Nat) (oc : ClassId) (ou : Nat → Int64) (sz : Nat) (n : Nat) (ops : Nat → Int32) (nums : Nat → Int64) (vc : Nat) (vals : Nat → Int64) (d : Nat) (st : Nat → Int64) (ce : Nat → Int64) (pk : Nat → Int64) (pv : Nat → Int64) (pr : Nat) (w : Nat) (key : Int64) (pl : Nat) (dn : Nat) (tk : Nat) (tr : Nat) (o : Int32) (x : Int64) (hok : okC o x) (hn : n = 40) : Met l yL_code (.codeWith yL_code cL_code 6 (some .int) [(0, 11, 14, 13), (0, 11, 18, 15)] :: WS) ({ frames := 7, cells := 1, slots := 6, locals := 141 } : Room) (va_Pc [.ref (A 0), .int o, .long x, .ref ob] (fun U => zP D (hT9 C oc) sz ((eW A C n ops nums vc vals d st ce pk pv pr w key pl dn tk tr) ++ oW ob oc ou) U ∧ zL (va_A ((eW A C n ops nums vc vals d st ce pk pv pr w key pl dn tk tr) ++ oW ob oc ou) sz) U)) (va_Qi (fun (r : Int32) (_ : Unit) => r = nI 2) (fun (_ : Unit) t => zB D (hT9 C oc) (va_A ((eW A C n ops nums vc vals d st ce pk pv pr w key pl dn tk tr) ++ oW ob oc ou) sz) ((eW A C n ops nums vc vals d st ce pk pv pr w key pl dn tk tr) ++ oW ob oc ou) t) (va_A ((eW A C n ops nums vc vals d st ce pk pv pr w key pl dn tk tr) ++ oW ob oc ou) sz)) 1 6 (va_A ((eW A C n ops nums vc vals d st ce pk pv pr w key pl dn tk tr) ++ oW ob oc ou) sz) := by
  refine zEntW (Qc := fun F => (va_Qi (fun (r : Int32) (_ : Unit) => r = nI 2) (fun (_ : Unit) t => zB D (hT9 C oc) F ((eW A C n ops nums vc vals d st ce pk pv pr w key pl dn tk tr) ++ oW ob oc ou) t) F)) (by decide) (Nat.le_of_ble_eq_true rfl) (fun p e s m below meth c ls F hx hb hr hlk hml hT hw hown hsz hP hK hD hA hX hl => ?_)
  have hS : va_S F s.heap s.heap [] := va_S.rf
  have hown : s.vm.findClass "EmitDeskLaw" = some m.cls := hown
  have hl : lv_has ls 6 [(0, .ref (A 0)), (1, .int o), (2, .long x), (4, .ref ob)] := hl
  refine lv_aload hx hb dL_code_0 (lv_at hl 3 rfl) ?_
  refine lv_iconst (v := nI 0) hx hb dL_code_2 (by decide) ?_
  refine lv_aload_n hx hb dL_code_3 rfl (lv_at hl 0 rfl) ?_
  refine lv_iload_n hx hb dL_code_4 rfl (lv_at hl 1 rfl) ?_
  refine lv_lload_n hx hb dL_code_5 rfl (lv_at hl 2 rfl) ?_
  refine zAftXi (wa := []) (w := (eW A C n ops nums vc vals d st ce pk pv pr w key pl dn tk tr)) (wb := oW ob oc ou) (zRunX (wa := []) (w := (eW A C n ops nums vc vals d st ce pk pv pr w key pl dn tk tr)) (wb := oW ob oc ou) ⟨hx, hb, hml, hown, hw⟩ (c_code_ise l hl9 D A C _ n ops nums vc vals d st ce pk pv pr w key pl dn tk tr o x hok hn) wm_L_7 wi_E_code ws_E_code wn_E wc_E_code ⟨rfl, rfl⟩ wd_E_code ⟨by decide, by decide⟩ hX.1 (hK.sub [0, 1, 2, 3, 4, 5, 6] rfl) hP hD hS hA 0 rfl rfl rfl hl.1 rfl (Nat.le_of_ble_eq_true rfl) dL_code_6 ⟨by decide, by decide⟩) hP hD hS hA (fun u q9 ce9 H locs hP hD hS hce hcv hcl => ?_)
  replace hP : va_P D vwCl ((eW A C n ops nums vc vals d st ce pk pv pr w key pl dn tk tr) ++ oW ob oc ou) H := hP
  replace hD : va_D F ((eW A C n ops nums vc vals d st ce pk pv pr w key pl dn tk tr) ++ oW ob oc ou) := hD
  refine vx_catch (own := "EmitDeskLaw") (name := "java/lang/IllegalStateException") (E := "java/lang/IllegalStateException") hown [⟨0, 11, 14, 13⟩] ⟨0, 11, 18, 15⟩ [] (hT.trans rfl) (fun z hz => by rw [List.mem_singleton.mp hz]; exact Or.inr ⟨by decide, "java/lang/IllegalArgumentException", hw _ wk_L_13, hX.2.1⟩) (by decide) (by decide) (hw _ wk_L_15) (va_Nw.use rfl hX.1.1.2.1) hce hcv hcl ?_
  refine lv_astore hx hb dL_code_18 hl (by decide) rfl (fun ls hl => ?_)
  refine lv_iconst (v := nI 2) hx hb dL_code_20 (by decide) ?_
  refine W.widen (k := 1) (n := 6) (by decide) (by decide) ?_
  exact zIret (w' := fun (_ : Unit) => ((eW A C n ops nums vc vals d st ce pk pv pr w key pl dn tk tr) ++ oW ob oc ou)) () hx hb hr hlk hS hK rfl hP hD dL_code_21
set_option maxRecDepth 20000 in
set_option maxHeartbeats 4000000 in
theorem c_L_value_ok (l : Launch) (hl9 : l.stackTraces = false) (D : va_G) (A : Nat → Nat) (C : Nat → ClassId) (ob : Nat) (oc : ClassId) (ou : Nat → Int64) (sz : Nat) (n : Nat) (ops : Nat → Int32) (nums : Nat → Int64) (vc : Nat) (vals : Nat → Int64) (d : Nat) (st : Nat → Int64) (ce : Nat → Int64) (pk : Nat → Int64) (pv : Nat → Int64) (pr : Nat) (w : Nat) (key : Int64) (pl : Nat) (dn : Nat) (tk : Nat) (tr : Nat) (x : Int64) (hv : vc < 40) : Met l yL_value (.codeWith yL_value cL_value 5 (some .int) [(0, 9, 12, 15)] :: WS) ({ frames := 7, cells := 0, slots := 0, locals := 141 } : Room) (va_Pc [.ref (A 0), .long x, .ref ob] (fun U => zP D (hT9 C oc) sz ((eW A C n ops nums vc vals d st ce pk pv pr w key pl dn tk tr) ++ oW ob oc ou) U ∧ zL (va_A ((eW A C n ops nums vc vals d st ce pk pv pr w key pl dn tk tr) ++ oW ob oc ou) sz) U)) (va_Qi (fun (r : Int32) (_ : Unit) => r = nI 0) (fun (_ : Unit) t => zB D (hT9 C oc) (va_A ((eW A C n ops nums vc vals d st ce pk pv pr w key pl dn tk tr) ++ oW ob oc ou) sz) ((eW A C n ops nums (vc + 1) (vp_updL vals vc x) d st ce pk pv pr w key pl dn tk tr) ++ oW ob oc (vp_updL ou 0 (lN (vc + 1)))) t) (va_A ((eW A C n ops nums vc vals d st ce pk pv pr w key pl dn tk tr) ++ oW ob oc ou) sz)) 0 0 (va_A ((eW A C n ops nums vc vals d st ce pk pv pr w key pl dn tk tr) ++ oW ob oc ou) sz) := by
  refine zEntW (Qc := fun F => (va_Qi (fun (r : Int32) (_ : Unit) => r = nI 0) (fun (_ : Unit) t => zB D (hT9 C oc) F ((eW A C n ops nums (vc + 1) (vp_updL vals vc x) d st ce pk pv pr w key pl dn tk tr) ++ oW ob oc (vp_updL ou 0 (lN (vc + 1)))) t) F)) (by decide) (Nat.le_of_ble_eq_true rfl) (fun p e s m below meth c ls F hx hb hr hlk hml hT hw hown hsz hP hK hD hA hX hl => ?_)
  have hS : va_S F s.heap s.heap [] := va_S.rf
  have hown : s.vm.findClass "EmitDeskLaw" = some m.cls := hown
  have hl : lv_has ls 5 [(0, .ref (A 0)), (1, .long x), (3, .ref ob)] := hl
  refine lv_aload_n hx hb dL_value_0 rfl (lv_at hl 2 rfl) ?_
  refine lv_iconst (v := nI 0) hx hb dL_value_1 (by decide) ?_
  refine lv_aload_n hx hb dL_value_2 rfl (lv_at hl 0 rfl) ?_
  refine lv_lload_n hx hb dL_value_3 rfl (lv_at hl 1 rfl) ?_
  refine zAfti (wa := []) (w := (eW A C n ops nums vc vals d st ce pk pv pr w key pl dn tk tr)) (wb := oW ob oc ou) (zRunV (wa := []) (w := (eW A C n ops nums vc vals d st ce pk pv pr w key pl dn tk tr)) (wb := oW ob oc ou) ⟨hx, hb, hml, hown, hw⟩ (c_value_ok l D A C _ n ops nums vc vals d st ce pk pv pr w key pl dn tk tr x hv) wm_L_17 wi_E_value ws_E_value wn_E wc_E_value ⟨rfl, rfl⟩ wd_E_value ⟨by decide, by decide⟩ (hK.sub [0, 1, 2, 3, 4, 5, 6] rfl) hP hD 0 rfl rfl rfl hl.1 rfl (Nat.le_of_ble_eq_true rfl) dL_value_4 ⟨by decide, by decide⟩) hP hD hS hA (fun r u H locs hp hP hD hS => ?_)
  replace hP : va_P D vwCl ((eW A C n ops nums (vc + 1) (vp_updL vals vc x) d st ce pk pv pr w key pl dn tk tr) ++ oW ob oc ou) H := hP
  replace hD : va_D F ((eW A C n ops nums (vc + 1) (vp_updL vals vc x) d st ce pk pv pr w key pl dn tk tr) ++ oW ob oc ou) := hD
  subst hp
  refine lv_i2l hx hb dL_value_7 (nI_l (by omega)) ?_
  refine zLast hx hb hK hP hD hS 8 7 rfl rfl (by omega) (by decide) dL_value_8 (fun H locs hP hD hS => ?_)
  replace hP : va_P D vwCl ((eW A C n ops nums (vc + 1) (vp_updL vals vc x) d st ce pk pv pr w key pl dn tk tr) ++ oW ob oc (vp_updL ou 0 (lN (vc + 1)))) H := hP
  replace hD : va_D F ((eW A C n ops nums (vc + 1) (vp_updL vals vc x) d st ce pk pv pr w key pl dn tk tr) ++ oW ob oc (vp_updL ou 0 (lN (vc + 1)))) := hD
  refine lv_goto (tgt := 16) hx hb dL_value_9 rfl ?_
  refine lv_iconst (v := nI 0) hx hb dL_value_16 (by decide) ?_
  exact zIret (w' := fun (_ : Unit) => ((eW A C n ops nums (vc + 1) (vp_updL vals vc x) d st ce pk pv pr w key pl dn tk tr) ++ oW ob oc (vp_updL ou 0 (lN (vc + 1))))) () hx hb hr hlk hS hK rfl hP hD dL_value_17
set_option maxRecDepth 20000 in
set_option maxHeartbeats 4000000 in
theorem c_L_value_ise (l : Launch) (hl9 : l.stackTraces = false) (D : va_G) (A : Nat → Nat) (C : Nat → ClassId) (ob : Nat) (oc : ClassId) (ou : Nat → Int64) (sz : Nat) (n : Nat) (ops : Nat → Int32) (nums : Nat → Int64) (vc : Nat) (vals : Nat → Int64) (d : Nat) (st : Nat → Int64) (ce : Nat → Int64) (pk : Nat → Int64) (pv : Nat → Int64) (pr : Nat) (w : Nat) (key : Int64) (pl : Nat) (dn : Nat) (tk : Nat) (tr : Nat) (x : Int64) (hv : vc = 40) : Met l yL_value (.codeWith yL_value cL_value 5 (some .int) [(0, 9, 12, 15)] :: WS) ({ frames := 7, cells := 1, slots := 6, locals := 141 } : Room) (va_Pc [.ref (A 0), .long x, .ref ob] (fun U => zP D (hT9 C oc) sz ((eW A C n ops nums vc vals d st ce pk pv pr w key pl dn tk tr) ++ oW ob oc ou) U ∧ zL (va_A ((eW A C n ops nums vc vals d st ce pk pv pr w key pl dn tk tr) ++ oW ob oc ou) sz) U)) (va_Qi (fun (r : Int32) (_ : Unit) => r = nI 1) (fun (_ : Unit) t => zB D (hT9 C oc) (va_A ((eW A C n ops nums vc vals d st ce pk pv pr w key pl dn tk tr) ++ oW ob oc ou) sz) ((eW A C n ops nums vc vals d st ce pk pv pr w key pl dn tk tr) ++ oW ob oc ou) t) (va_A ((eW A C n ops nums vc vals d st ce pk pv pr w key pl dn tk tr) ++ oW ob oc ou) sz)) 1 6 (va_A ((eW A C n ops nums vc vals d st ce pk pv pr w key pl dn tk tr) ++ oW ob oc ou) sz) := by
  refine zEntW (Qc := fun F => (va_Qi (fun (r : Int32) (_ : Unit) => r = nI 1) (fun (_ : Unit) t => zB D (hT9 C oc) F ((eW A C n ops nums vc vals d st ce pk pv pr w key pl dn tk tr) ++ oW ob oc ou) t) F)) (by decide) (Nat.le_of_ble_eq_true rfl) (fun p e s m below meth c ls F hx hb hr hlk hml hT hw hown hsz hP hK hD hA hX hl => ?_)
  have hS : va_S F s.heap s.heap [] := va_S.rf
  have hown : s.vm.findClass "EmitDeskLaw" = some m.cls := hown
  have hl : lv_has ls 5 [(0, .ref (A 0)), (1, .long x), (3, .ref ob)] := hl
  refine lv_aload_n hx hb dL_value_0 rfl (lv_at hl 2 rfl) ?_
  refine lv_iconst (v := nI 0) hx hb dL_value_1 (by decide) ?_
  refine lv_aload_n hx hb dL_value_2 rfl (lv_at hl 0 rfl) ?_
  refine lv_lload_n hx hb dL_value_3 rfl (lv_at hl 1 rfl) ?_
  refine zAftXi (wa := []) (w := (eW A C n ops nums vc vals d st ce pk pv pr w key pl dn tk tr)) (wb := oW ob oc ou) (zRunX (wa := []) (w := (eW A C n ops nums vc vals d st ce pk pv pr w key pl dn tk tr)) (wb := oW ob oc ou) ⟨hx, hb, hml, hown, hw⟩ (c_value_ise l hl9 D A C _ n ops nums vc vals d st ce pk pv pr w key pl dn tk tr x hv) wm_L_17 wi_E_value ws_E_value wn_E wc_E_value ⟨rfl, rfl⟩ wd_E_value ⟨by decide, by decide⟩ hX.1 (hK.sub [0, 1, 2, 3, 4, 5, 6] rfl) hP hD hS hA 0 rfl rfl rfl hl.1 rfl (Nat.le_of_ble_eq_true rfl) dL_value_4 ⟨by decide, by decide⟩) hP hD hS hA (fun u q9 ce9 H locs hP hD hS hce hcv hcl => ?_)
  replace hP : va_P D vwCl ((eW A C n ops nums vc vals d st ce pk pv pr w key pl dn tk tr) ++ oW ob oc ou) H := hP
  replace hD : va_D F ((eW A C n ops nums vc vals d st ce pk pv pr w key pl dn tk tr) ++ oW ob oc ou) := hD
  refine vx_catch (own := "EmitDeskLaw") (name := "java/lang/IllegalStateException") (E := "java/lang/IllegalStateException") hown [] ⟨0, 9, 12, 15⟩ [] (hT.trans rfl) (fun z hz => nomatch hz) (by decide) (by decide) (hw _ wk_L_15) (va_Nw.use rfl hX.1.1.2.1) hce hcv hcl ?_
  refine lv_astore hx hb dL_value_12 hl (by decide) rfl (fun ls hl => ?_)
  refine lv_iconst (v := nI 1) hx hb dL_value_14 (by decide) ?_
  refine W.widen (k := 1) (n := 6) (by decide) (by decide) ?_
  exact zIret (w' := fun (_ : Unit) => ((eW A C n ops nums vc vals d st ce pk pv pr w key pl dn tk tr) ++ oW ob oc ou)) () hx hb hr hlk hS hK rfl hP hD dL_value_15
set_option maxRecDepth 20000 in
set_option maxHeartbeats 4000000 in
theorem c_L_cell_ok (l : Launch) (hl9 : l.stackTraces = false) (D : va_G) (A : Nat → Nat) (C : Nat → ClassId) (ob : Nat) (oc : ClassId) (ou : Nat → Int64) (sz : Nat) (n : Nat) (ops : Nat → Int32) (nums : Nat → Int64) (vc : Nat) (vals : Nat → Int64) (d : Nat) (st : Nat → Int64) (ce : Nat → Int64) (pk : Nat → Int64) (pv : Nat → Int64) (pr : Nat) (w : Nat) (key : Int64) (pl : Nat) (dn : Nat) (tk : Nat) (tr : Nat) (j : Nat) (hj : j < 4) : Met l yL_cell (.codeWith yL_cell cL_cell 4 (some .int) [(0, 8, 11, 30)] :: WS) ({ frames := 7, cells := 0, slots := 0, locals := 141 } : Room) (va_Pc [.ref (A 0), .int (nI j), .ref ob] (fun U => zP D (hT9 C oc) sz ((eW A C n ops nums vc vals d st ce pk pv pr w key pl dn tk tr) ++ oW ob oc ou) U ∧ zL (va_A ((eW A C n ops nums vc vals d st ce pk pv pr w key pl dn tk tr) ++ oW ob oc ou) sz) U)) (va_Qi (fun (r : Int32) (_ : Unit) => r = nI 0) (fun (_ : Unit) t => zB D (hT9 C oc) (va_A ((eW A C n ops nums vc vals d st ce pk pv pr w key pl dn tk tr) ++ oW ob oc ou) sz) ((eW A C n ops nums vc vals d st ce pk pv pr w key pl dn tk tr) ++ oW ob oc (vp_updL ou 0 (ce j))) t) (va_A ((eW A C n ops nums vc vals d st ce pk pv pr w key pl dn tk tr) ++ oW ob oc ou) sz)) 0 0 (va_A ((eW A C n ops nums vc vals d st ce pk pv pr w key pl dn tk tr) ++ oW ob oc ou) sz) := by
  refine zEntW (Qc := fun F => (va_Qi (fun (r : Int32) (_ : Unit) => r = nI 0) (fun (_ : Unit) t => zB D (hT9 C oc) F ((eW A C n ops nums vc vals d st ce pk pv pr w key pl dn tk tr) ++ oW ob oc (vp_updL ou 0 (ce j))) t) F)) (by decide) (Nat.le_of_ble_eq_true rfl) (fun p e s m below meth c ls F hx hb hr hlk hml hT hw hown hsz hP hK hD hA hX hl => ?_)
  have hS : va_S F s.heap s.heap [] := va_S.rf
  have hown : s.vm.findClass "EmitDeskLaw" = some m.cls := hown
  have hl : lv_has ls 4 [(0, .ref (A 0)), (1, .int (nI j)), (2, .ref ob)] := hl
  refine lv_aload_n hx hb dL_cell_0 rfl (lv_at hl 2 rfl) ?_
  refine lv_iconst (v := nI 0) hx hb dL_cell_1 (by decide) ?_
  refine lv_aload_n hx hb dL_cell_2 rfl (lv_at hl 0 rfl) ?_
  refine lv_iload_n hx hb dL_cell_3 rfl (lv_at hl 1 rfl) ?_
  refine zAftl (wa := []) (w := (eW A C n ops nums vc vals d st ce pk pv pr w key pl dn tk tr)) (wb := oW ob oc ou) (zRunV (wa := []) (w := (eW A C n ops nums vc vals d st ce pk pv pr w key pl dn tk tr)) (wb := oW ob oc ou) ⟨hx, hb, hml, hown, hw⟩ (c_cell_ok l D A C _ n ops nums vc vals d st ce pk pv pr w key pl dn tk tr j hj) wm_L_36 wi_E_cell ws_E_cell wn_E wc_E_cell ⟨rfl, rfl⟩ wd_E_cell ⟨by decide, by decide⟩ (hK.sub [0, 1, 2, 3, 4, 5, 6] rfl) hP hD 0 rfl rfl rfl hl.1 rfl (Nat.le_of_ble_eq_true rfl) dL_cell_4 ⟨by decide, by decide⟩) hP hD hS hA (fun r u H locs hp hP hD hS => ?_)
  replace hP : va_P D vwCl ((eW A C n ops nums vc vals d st ce pk pv pr w key pl dn tk tr) ++ oW ob oc ou) H := hP
  replace hD : va_D F ((eW A C n ops nums vc vals d st ce pk pv pr w key pl dn tk tr) ++ oW ob oc ou) := hD
  subst hp
  refine zLast hx hb hK hP hD hS 8 7 rfl rfl (by omega) (by decide) dL_cell_7 (fun H locs hP hD hS => ?_)
  replace hP : va_P D vwCl ((eW A C n ops nums vc vals d st ce pk pv pr w key pl dn tk tr) ++ oW ob oc (vp_updL ou 0 (ce j))) H := hP
  replace hD : va_D F ((eW A C n ops nums vc vals d st ce pk pv pr w key pl dn tk tr) ++ oW ob oc (vp_updL ou 0 (ce j))) := hD
  refine lv_goto (tgt := 14) hx hb dL_cell_8 rfl ?_
  refine lv_iconst (v := nI 0) hx hb dL_cell_14 (by decide) ?_
  exact zIret (w' := fun (_ : Unit) => ((eW A C n ops nums vc vals d st ce pk pv pr w key pl dn tk tr) ++ oW ob oc (vp_updL ou 0 (ce j)))) () hx hb hr hlk hS hK rfl hP hD dL_cell_15
set_option maxRecDepth 20000 in
set_option maxHeartbeats 4000000 in
theorem c_L_cell_bad (l : Launch) (hl9 : l.stackTraces = false) (D : va_G) (A : Nat → Nat) (C : Nat → ClassId) (ob : Nat) (oc : ClassId) (ou : Nat → Int64) (sz : Nat) (n : Nat) (ops : Nat → Int32) (nums : Nat → Int64) (vc : Nat) (vals : Nat → Int64) (d : Nat) (st : Nat → Int64) (ce : Nat → Int64) (pk : Nat → Int64) (pv : Nat → Int64) (pr : Nat) (w : Nat) (key : Int64) (pl : Nat) (dn : Nat) (tk : Nat) (tr : Nat) (o : Int32) (hbad : o < 0 ∨ nI 4 ≤ o) : Met l yL_cell (.codeWith yL_cell cL_cell 4 (some .int) [(0, 8, 11, 30)] :: WS) ({ frames := 7, cells := 1, slots := 6, locals := 141 } : Room) (va_Pc [.ref (A 0), .int o, .ref ob] (fun U => zP D (hT9 C oc) sz ((eW A C n ops nums vc vals d st ce pk pv pr w key pl dn tk tr) ++ oW ob oc ou) U ∧ zL (va_A ((eW A C n ops nums vc vals d st ce pk pv pr w key pl dn tk tr) ++ oW ob oc ou) sz) U)) (va_Qi (fun (r : Int32) (_ : Unit) => r = nI 1) (fun (_ : Unit) t => zB D (hT9 C oc) (va_A ((eW A C n ops nums vc vals d st ce pk pv pr w key pl dn tk tr) ++ oW ob oc ou) sz) ((eW A C n ops nums vc vals d st ce pk pv pr w key pl dn tk tr) ++ oW ob oc ou) t) (va_A ((eW A C n ops nums vc vals d st ce pk pv pr w key pl dn tk tr) ++ oW ob oc ou) sz)) 1 6 (va_A ((eW A C n ops nums vc vals d st ce pk pv pr w key pl dn tk tr) ++ oW ob oc ou) sz) := by
  refine zEntW (Qc := fun F => (va_Qi (fun (r : Int32) (_ : Unit) => r = nI 1) (fun (_ : Unit) t => zB D (hT9 C oc) F ((eW A C n ops nums vc vals d st ce pk pv pr w key pl dn tk tr) ++ oW ob oc ou) t) F)) (by decide) (Nat.le_of_ble_eq_true rfl) (fun p e s m below meth c ls F hx hb hr hlk hml hT hw hown hsz hP hK hD hA hX hl => ?_)
  have hS : va_S F s.heap s.heap [] := va_S.rf
  have hown : s.vm.findClass "EmitDeskLaw" = some m.cls := hown
  have hl : lv_has ls 4 [(0, .ref (A 0)), (1, .int o), (2, .ref ob)] := hl
  refine lv_aload_n hx hb dL_cell_0 rfl (lv_at hl 2 rfl) ?_
  refine lv_iconst (v := nI 0) hx hb dL_cell_1 (by decide) ?_
  refine lv_aload_n hx hb dL_cell_2 rfl (lv_at hl 0 rfl) ?_
  refine lv_iload_n hx hb dL_cell_3 rfl (lv_at hl 1 rfl) ?_
  refine zAftXl (wa := []) (w := (eW A C n ops nums vc vals d st ce pk pv pr w key pl dn tk tr)) (wb := oW ob oc ou) (zRunX (wa := []) (w := (eW A C n ops nums vc vals d st ce pk pv pr w key pl dn tk tr)) (wb := oW ob oc ou) ⟨hx, hb, hml, hown, hw⟩ (c_cell_bad l hl9 D A C _ n ops nums vc vals d st ce pk pv pr w key pl dn tk tr o hbad) wm_L_36 wi_E_cell ws_E_cell wn_E wc_E_cell ⟨rfl, rfl⟩ wd_E_cell ⟨by decide, by decide⟩ hX.1 (hK.sub [0, 1, 2, 3, 4, 5, 6] rfl) hP hD hS hA 0 rfl rfl rfl hl.1 rfl (Nat.le_of_ble_eq_true rfl) dL_cell_4 ⟨by decide, by decide⟩) hP hD hS hA (fun u q9 ce9 H locs hP hD hS hce hcv hcl => ?_)
  replace hP : va_P D vwCl ((eW A C n ops nums vc vals d st ce pk pv pr w key pl dn tk tr) ++ oW ob oc ou) H := hP
  replace hD : va_D F ((eW A C n ops nums vc vals d st ce pk pv pr w key pl dn tk tr) ++ oW ob oc ou) := hD
  refine vx_catch (own := "EmitDeskLaw") (name := "java/lang/IndexOutOfBoundsException") (E := "java/lang/IndexOutOfBoundsException") hown [] ⟨0, 8, 11, 30⟩ [] (hT.trans rfl) (fun z hz => nomatch hz) (by decide) (by decide) (hw _ wk_L_30) (va_Nw.use rfl hX.1.1.2.2.2.1) hce hcv hcl ?_
  refine lv_astore_n hx hb dL_cell_11 rfl hl (by decide) rfl (fun ls hl => ?_)
  refine lv_iconst (v := nI 1) hx hb dL_cell_12 (by decide) ?_
  refine W.widen (k := 1) (n := 6) (by decide) (by decide) ?_
  exact zIret (w' := fun (_ : Unit) => ((eW A C n ops nums vc vals d st ce pk pv pr w key pl dn tk tr) ++ oW ob oc ou)) () hx hb hr hlk hS hK rfl hP hD dL_cell_13
set_option maxRecDepth 20000 in
set_option maxHeartbeats 4000000 in
theorem c_L_emitted_val (l : Launch) (hl9 : l.stackTraces = false) (D : va_G) (A : Nat → Nat) (C : Nat → ClassId) (ob : Nat) (oc : ClassId) (ou : Nat → Int64) (sz : Nat) (n : Nat) (ops : Nat → Int32) (nums : Nat → Int64) (vc : Nat) (vals : Nat → Int64) (d : Nat) (st : Nat → Int64) (ce : Nat → Int64) (pk : Nat → Int64) (pv : Nat → Int64) (pr : Nat) (w : Nat) (key : Int64) (pl : Nat) (dn : Nat) (tk : Nat) (tr : Nat) (j : Nat) (hj : j < pr) (hp : pr ≤ 4) : Met l yL_emitted (.codeWith yL_emitted cL_emitted 5 (some .int) [(0, 9, 12, 30)] :: WS) ({ frames := 7, cells := 0, slots := 0, locals := 141 } : Room) (va_Pc [.ref (A 0), .int (nI j), .int (nI 1), .ref ob] (fun U => zP D (hT9 C oc) sz ((eW A C n ops nums vc vals d st ce pk pv pr w key pl dn tk tr) ++ oW ob oc ou) U ∧ zL (va_A ((eW A C n ops nums vc vals d st ce pk pv pr w key pl dn tk tr) ++ oW ob oc ou) sz) U)) (va_Qi (fun (r : Int32) (_ : Unit) => r = nI 0) (fun (_ : Unit) t => zB D (hT9 C oc) (va_A ((eW A C n ops nums vc vals d st ce pk pv pr w key pl dn tk tr) ++ oW ob oc ou) sz) ((eW A C n ops nums vc vals d st ce pk pv pr w key pl dn tk tr) ++ oW ob oc (vp_updL ou 0 (pv j))) t) (va_A ((eW A C n ops nums vc vals d st ce pk pv pr w key pl dn tk tr) ++ oW ob oc ou) sz)) 0 0 (va_A ((eW A C n ops nums vc vals d st ce pk pv pr w key pl dn tk tr) ++ oW ob oc ou) sz) := by
  refine zEntW (Qc := fun F => (va_Qi (fun (r : Int32) (_ : Unit) => r = nI 0) (fun (_ : Unit) t => zB D (hT9 C oc) F ((eW A C n ops nums vc vals d st ce pk pv pr w key pl dn tk tr) ++ oW ob oc (vp_updL ou 0 (pv j))) t) F)) (by decide) (Nat.le_of_ble_eq_true rfl) (fun p e s m below meth c ls F hx hb hr hlk hml hT hw hown hsz hP hK hD hA hX hl => ?_)
  have hS : va_S F s.heap s.heap [] := va_S.rf
  have hown : s.vm.findClass "EmitDeskLaw" = some m.cls := hown
  have hl : lv_has ls 5 [(0, .ref (A 0)), (1, .int (nI j)), (2, .int (nI 1)), (3, .ref ob)] := hl
  refine lv_aload_n hx hb dL_emitted_0 rfl (lv_at hl 3 rfl) ?_
  refine lv_iconst (v := nI 0) hx hb dL_emitted_1 (by decide) ?_
  refine lv_aload_n hx hb dL_emitted_2 rfl (lv_at hl 0 rfl) ?_
  refine lv_iload_n hx hb dL_emitted_3 rfl (lv_at hl 1 rfl) ?_
  refine lv_iload_n hx hb dL_emitted_4 rfl (lv_at hl 2 rfl) ?_
  refine zAftl (wa := []) (w := (eW A C n ops nums vc vals d st ce pk pv pr w key pl dn tk tr)) (wb := oW ob oc ou) (zRunV (wa := []) (w := (eW A C n ops nums vc vals d st ce pk pv pr w key pl dn tk tr)) (wb := oW ob oc ou) ⟨hx, hb, hml, hown, hw⟩ (c_emitted_val l D A C _ n ops nums vc vals d st ce pk pv pr w key pl dn tk tr j hj hp) wm_L_26 wi_E_emitted ws_E_emitted wn_E wc_E_emitted ⟨rfl, rfl⟩ wd_E_emitted ⟨by decide, by decide⟩ (hK.sub [0, 1, 2, 3, 4, 5, 6] rfl) hP hD 0 rfl rfl rfl hl.1 rfl (Nat.le_of_ble_eq_true rfl) dL_emitted_5 ⟨by decide, by decide⟩) hP hD hS hA (fun r u H locs hp hP hD hS => ?_)
  replace hP : va_P D vwCl ((eW A C n ops nums vc vals d st ce pk pv pr w key pl dn tk tr) ++ oW ob oc ou) H := hP
  replace hD : va_D F ((eW A C n ops nums vc vals d st ce pk pv pr w key pl dn tk tr) ++ oW ob oc ou) := hD
  subst hp
  refine zLast hx hb hK hP hD hS 8 7 rfl rfl (by omega) (by decide) dL_emitted_8 (fun H locs hP hD hS => ?_)
  replace hP : va_P D vwCl ((eW A C n ops nums vc vals d st ce pk pv pr w key pl dn tk tr) ++ oW ob oc (vp_updL ou 0 (pv j))) H := hP
  replace hD : va_D F ((eW A C n ops nums vc vals d st ce pk pv pr w key pl dn tk tr) ++ oW ob oc (vp_updL ou 0 (pv j))) := hD
  refine lv_goto (tgt := 16) hx hb dL_emitted_9 rfl ?_
  refine lv_iconst (v := nI 0) hx hb dL_emitted_16 (by decide) ?_
  exact zIret (w' := fun (_ : Unit) => ((eW A C n ops nums vc vals d st ce pk pv pr w key pl dn tk tr) ++ oW ob oc (vp_updL ou 0 (pv j)))) () hx hb hr hlk hS hK rfl hP hD dL_emitted_17
set_option maxRecDepth 20000 in
set_option maxHeartbeats 4000000 in
theorem c_L_emitted_key (l : Launch) (hl9 : l.stackTraces = false) (D : va_G) (A : Nat → Nat) (C : Nat → ClassId) (ob : Nat) (oc : ClassId) (ou : Nat → Int64) (sz : Nat) (n : Nat) (ops : Nat → Int32) (nums : Nat → Int64) (vc : Nat) (vals : Nat → Int64) (d : Nat) (st : Nat → Int64) (ce : Nat → Int64) (pk : Nat → Int64) (pv : Nat → Int64) (pr : Nat) (w : Nat) (key : Int64) (pl : Nat) (dn : Nat) (tk : Nat) (tr : Nat) (j : Nat) (hj : j < pr) (hp : pr ≤ 4) : Met l yL_emitted (.codeWith yL_emitted cL_emitted 5 (some .int) [(0, 9, 12, 30)] :: WS) ({ frames := 7, cells := 0, slots := 0, locals := 141 } : Room) (va_Pc [.ref (A 0), .int (nI j), .int (nI 0), .ref ob] (fun U => zP D (hT9 C oc) sz ((eW A C n ops nums vc vals d st ce pk pv pr w key pl dn tk tr) ++ oW ob oc ou) U ∧ zL (va_A ((eW A C n ops nums vc vals d st ce pk pv pr w key pl dn tk tr) ++ oW ob oc ou) sz) U)) (va_Qi (fun (r : Int32) (_ : Unit) => r = nI 0) (fun (_ : Unit) t => zB D (hT9 C oc) (va_A ((eW A C n ops nums vc vals d st ce pk pv pr w key pl dn tk tr) ++ oW ob oc ou) sz) ((eW A C n ops nums vc vals d st ce pk pv pr w key pl dn tk tr) ++ oW ob oc (vp_updL ou 0 (pk j))) t) (va_A ((eW A C n ops nums vc vals d st ce pk pv pr w key pl dn tk tr) ++ oW ob oc ou) sz)) 0 0 (va_A ((eW A C n ops nums vc vals d st ce pk pv pr w key pl dn tk tr) ++ oW ob oc ou) sz) := by
  refine zEntW (Qc := fun F => (va_Qi (fun (r : Int32) (_ : Unit) => r = nI 0) (fun (_ : Unit) t => zB D (hT9 C oc) F ((eW A C n ops nums vc vals d st ce pk pv pr w key pl dn tk tr) ++ oW ob oc (vp_updL ou 0 (pk j))) t) F)) (by decide) (Nat.le_of_ble_eq_true rfl) (fun p e s m below meth c ls F hx hb hr hlk hml hT hw hown hsz hP hK hD hA hX hl => ?_)
  have hS : va_S F s.heap s.heap [] := va_S.rf
  have hown : s.vm.findClass "EmitDeskLaw" = some m.cls := hown
  have hl : lv_has ls 5 [(0, .ref (A 0)), (1, .int (nI j)), (2, .int (nI 0)), (3, .ref ob)] := hl
  refine lv_aload_n hx hb dL_emitted_0 rfl (lv_at hl 3 rfl) ?_
  refine lv_iconst (v := nI 0) hx hb dL_emitted_1 (by decide) ?_
  refine lv_aload_n hx hb dL_emitted_2 rfl (lv_at hl 0 rfl) ?_
  refine lv_iload_n hx hb dL_emitted_3 rfl (lv_at hl 1 rfl) ?_
  refine lv_iload_n hx hb dL_emitted_4 rfl (lv_at hl 2 rfl) ?_
  refine zAftl (wa := []) (w := (eW A C n ops nums vc vals d st ce pk pv pr w key pl dn tk tr)) (wb := oW ob oc ou) (zRunV (wa := []) (w := (eW A C n ops nums vc vals d st ce pk pv pr w key pl dn tk tr)) (wb := oW ob oc ou) ⟨hx, hb, hml, hown, hw⟩ (c_emitted_key l D A C _ n ops nums vc vals d st ce pk pv pr w key pl dn tk tr j hj hp) wm_L_26 wi_E_emitted ws_E_emitted wn_E wc_E_emitted ⟨rfl, rfl⟩ wd_E_emitted ⟨by decide, by decide⟩ (hK.sub [0, 1, 2, 3, 4, 5, 6] rfl) hP hD 0 rfl rfl rfl hl.1 rfl (Nat.le_of_ble_eq_true rfl) dL_emitted_5 ⟨by decide, by decide⟩) hP hD hS hA (fun r u H locs hp hP hD hS => ?_)
  replace hP : va_P D vwCl ((eW A C n ops nums vc vals d st ce pk pv pr w key pl dn tk tr) ++ oW ob oc ou) H := hP
  replace hD : va_D F ((eW A C n ops nums vc vals d st ce pk pv pr w key pl dn tk tr) ++ oW ob oc ou) := hD
  subst hp
  refine zLast hx hb hK hP hD hS 8 7 rfl rfl (by omega) (by decide) dL_emitted_8 (fun H locs hP hD hS => ?_)
  replace hP : va_P D vwCl ((eW A C n ops nums vc vals d st ce pk pv pr w key pl dn tk tr) ++ oW ob oc (vp_updL ou 0 (pk j))) H := hP
  replace hD : va_D F ((eW A C n ops nums vc vals d st ce pk pv pr w key pl dn tk tr) ++ oW ob oc (vp_updL ou 0 (pk j))) := hD
  refine lv_goto (tgt := 16) hx hb dL_emitted_9 rfl ?_
  refine lv_iconst (v := nI 0) hx hb dL_emitted_16 (by decide) ?_
  exact zIret (w' := fun (_ : Unit) => ((eW A C n ops nums vc vals d st ce pk pv pr w key pl dn tk tr) ++ oW ob oc (vp_updL ou 0 (pk j)))) () hx hb hr hlk hS hK rfl hP hD dL_emitted_17
set_option maxRecDepth 20000 in
set_option maxHeartbeats 4000000 in
theorem c_L_emitted_bad (l : Launch) (hl9 : l.stackTraces = false) (D : va_G) (A : Nat → Nat) (C : Nat → ClassId) (ob : Nat) (oc : ClassId) (ou : Nat → Int64) (sz : Nat) (n : Nat) (ops : Nat → Int32) (nums : Nat → Int64) (vc : Nat) (vals : Nat → Int64) (d : Nat) (st : Nat → Int64) (ce : Nat → Int64) (pk : Nat → Int64) (pv : Nat → Int64) (pr : Nat) (w : Nat) (key : Int64) (pl : Nat) (dn : Nat) (tk : Nat) (tr : Nat) (o : Int32) (o2 : Int32) (hbad : o < 0 ∨ nI pr ≤ o) : Met l yL_emitted (.codeWith yL_emitted cL_emitted 5 (some .int) [(0, 9, 12, 30)] :: WS) ({ frames := 7, cells := 1, slots := 6, locals := 141 } : Room) (va_Pc [.ref (A 0), .int o, .int o2, .ref ob] (fun U => zP D (hT9 C oc) sz ((eW A C n ops nums vc vals d st ce pk pv pr w key pl dn tk tr) ++ oW ob oc ou) U ∧ zL (va_A ((eW A C n ops nums vc vals d st ce pk pv pr w key pl dn tk tr) ++ oW ob oc ou) sz) U)) (va_Qi (fun (r : Int32) (_ : Unit) => r = nI 1) (fun (_ : Unit) t => zB D (hT9 C oc) (va_A ((eW A C n ops nums vc vals d st ce pk pv pr w key pl dn tk tr) ++ oW ob oc ou) sz) ((eW A C n ops nums vc vals d st ce pk pv pr w key pl dn tk tr) ++ oW ob oc ou) t) (va_A ((eW A C n ops nums vc vals d st ce pk pv pr w key pl dn tk tr) ++ oW ob oc ou) sz)) 1 6 (va_A ((eW A C n ops nums vc vals d st ce pk pv pr w key pl dn tk tr) ++ oW ob oc ou) sz) := by
  refine zEntW (Qc := fun F => (va_Qi (fun (r : Int32) (_ : Unit) => r = nI 1) (fun (_ : Unit) t => zB D (hT9 C oc) F ((eW A C n ops nums vc vals d st ce pk pv pr w key pl dn tk tr) ++ oW ob oc ou) t) F)) (by decide) (Nat.le_of_ble_eq_true rfl) (fun p e s m below meth c ls F hx hb hr hlk hml hT hw hown hsz hP hK hD hA hX hl => ?_)
  have hS : va_S F s.heap s.heap [] := va_S.rf
  have hown : s.vm.findClass "EmitDeskLaw" = some m.cls := hown
  have hl : lv_has ls 5 [(0, .ref (A 0)), (1, .int o), (2, .int o2), (3, .ref ob)] := hl
  refine lv_aload_n hx hb dL_emitted_0 rfl (lv_at hl 3 rfl) ?_
  refine lv_iconst (v := nI 0) hx hb dL_emitted_1 (by decide) ?_
  refine lv_aload_n hx hb dL_emitted_2 rfl (lv_at hl 0 rfl) ?_
  refine lv_iload_n hx hb dL_emitted_3 rfl (lv_at hl 1 rfl) ?_
  refine lv_iload_n hx hb dL_emitted_4 rfl (lv_at hl 2 rfl) ?_
  refine zAftXl (wa := []) (w := (eW A C n ops nums vc vals d st ce pk pv pr w key pl dn tk tr)) (wb := oW ob oc ou) (zRunX (wa := []) (w := (eW A C n ops nums vc vals d st ce pk pv pr w key pl dn tk tr)) (wb := oW ob oc ou) ⟨hx, hb, hml, hown, hw⟩ (c_emitted_bad l hl9 D A C _ n ops nums vc vals d st ce pk pv pr w key pl dn tk tr o o2 hbad) wm_L_26 wi_E_emitted ws_E_emitted wn_E wc_E_emitted ⟨rfl, rfl⟩ wd_E_emitted ⟨by decide, by decide⟩ hX.1 (hK.sub [0, 1, 2, 3, 4, 5, 6] rfl) hP hD hS hA 0 rfl rfl rfl hl.1 rfl (Nat.le_of_ble_eq_true rfl) dL_emitted_5 ⟨by decide, by decide⟩) hP hD hS hA (fun u q9 ce9 H locs hP hD hS hce hcv hcl => ?_)
  replace hP : va_P D vwCl ((eW A C n ops nums vc vals d st ce pk pv pr w key pl dn tk tr) ++ oW ob oc ou) H := hP
  replace hD : va_D F ((eW A C n ops nums vc vals d st ce pk pv pr w key pl dn tk tr) ++ oW ob oc ou) := hD
  refine vx_catch (own := "EmitDeskLaw") (name := "java/lang/IndexOutOfBoundsException") (E := "java/lang/IndexOutOfBoundsException") hown [] ⟨0, 9, 12, 30⟩ [] (hT.trans rfl) (fun z hz => nomatch hz) (by decide) (by decide) (hw _ wk_L_30) (va_Nw.use rfl hX.1.1.2.2.2.1) hce hcv hcl ?_
  refine lv_astore hx hb dL_emitted_12 hl (by decide) rfl (fun ls hl => ?_)
  refine lv_iconst (v := nI 1) hx hb dL_emitted_14 (by decide) ?_
  refine W.widen (k := 1) (n := 6) (by decide) (by decide) ?_
  exact zIret (w' := fun (_ : Unit) => ((eW A C n ops nums vc vals d st ce pk pv pr w key pl dn tk tr) ++ oW ob oc ou)) () hx hb hr hlk hS hK rfl hP hD dL_emitted_15
set_option maxRecDepth 20000 in
set_option maxHeartbeats 4000000 in
theorem c_L_told0 (l : Launch) (hl9 : l.stackTraces = false) (D : va_G) (A : Nat → Nat) (C : Nat → ClassId) (ob : Nat) (oc : ClassId) (ou : Nat → Int64) (sz : Nat) (n : Nat) (ops : Nat → Int32) (nums : Nat → Int64) (vc : Nat) (vals : Nat → Int64) (d : Nat) (st : Nat → Int64) (ce : Nat → Int64) (pk : Nat → Int64) (pv : Nat → Int64) (pr : Nat) (w : Nat) (key : Int64) (pl : Nat) (dn : Nat) (tk : Nat) (tr : Nat) (hb31 : dn < 2 ^ 31) : Met l yL_told (.codeWith yL_told cL_told 4 (some .int) [(0, 9, 12, 13)] :: WS) ({ frames := 7, cells := 0, slots := 0, locals := 141 } : Room) (va_Pc [.ref (A 0), .int (nI 0), .ref ob] (fun U => zP D (hT9 C oc) sz ((eW A C n ops nums vc vals d st ce pk pv pr w key pl dn tk tr) ++ oW ob oc ou) U ∧ zL (va_A ((eW A C n ops nums vc vals d st ce pk pv pr w key pl dn tk tr) ++ oW ob oc ou) sz) U)) (va_Qi (fun (r : Int32) (_ : Unit) => r = nI 0) (fun (_ : Unit) t => zB D (hT9 C oc) (va_A ((eW A C n ops nums vc vals d st ce pk pv pr w key pl dn tk tr) ++ oW ob oc ou) sz) ((eW A C n ops nums vc vals d st ce pk pv pr w key pl dn tk tr) ++ oW ob oc (vp_updL ou 0 (lN dn))) t) (va_A ((eW A C n ops nums vc vals d st ce pk pv pr w key pl dn tk tr) ++ oW ob oc ou) sz)) 0 0 (va_A ((eW A C n ops nums vc vals d st ce pk pv pr w key pl dn tk tr) ++ oW ob oc ou) sz) := by
  refine zEntW (Qc := fun F => (va_Qi (fun (r : Int32) (_ : Unit) => r = nI 0) (fun (_ : Unit) t => zB D (hT9 C oc) F ((eW A C n ops nums vc vals d st ce pk pv pr w key pl dn tk tr) ++ oW ob oc (vp_updL ou 0 (lN dn))) t) F)) (by decide) (Nat.le_of_ble_eq_true rfl) (fun p e s m below meth c ls F hx hb hr hlk hml hT hw hown hsz hP hK hD hA hX hl => ?_)
  have hS : va_S F s.heap s.heap [] := va_S.rf
  have hown : s.vm.findClass "EmitDeskLaw" = some m.cls := hown
  have hl : lv_has ls 4 [(0, .ref (A 0)), (1, .int (nI 0)), (2, .ref ob)] := hl
  refine lv_aload_n hx hb dL_told_0 rfl (lv_at hl 2 rfl) ?_
  refine lv_iconst (v := nI 0) hx hb dL_told_1 (by decide) ?_
  refine lv_aload_n hx hb dL_told_2 rfl (lv_at hl 0 rfl) ?_
  refine lv_iload_n hx hb dL_told_3 rfl (lv_at hl 1 rfl) ?_
  refine zAfti (wa := []) (w := (eW A C n ops nums vc vals d st ce pk pv pr w key pl dn tk tr)) (wb := oW ob oc ou) (zRunV (wa := []) (w := (eW A C n ops nums vc vals d st ce pk pv pr w key pl dn tk tr)) (wb := oW ob oc ou) ⟨hx, hb, hml, hown, hw⟩ (c_told0 l D A C _ n ops nums vc vals d st ce pk pv pr w key pl dn tk tr) wm_L_32 wi_E_told ws_E_told wn_E wc_E_told ⟨rfl, rfl⟩ wd_E_told ⟨by decide, by decide⟩ (hK.sub [0, 1, 2, 3, 4, 5, 6] rfl) hP hD 0 rfl rfl rfl hl.1 rfl (Nat.le_of_ble_eq_true rfl) dL_told_4 ⟨by decide, by decide⟩) hP hD hS hA (fun r u H locs hp hP hD hS => ?_)
  replace hP : va_P D vwCl ((eW A C n ops nums vc vals d st ce pk pv pr w key pl dn tk tr) ++ oW ob oc ou) H := hP
  replace hD : va_D F ((eW A C n ops nums vc vals d st ce pk pv pr w key pl dn tk tr) ++ oW ob oc ou) := hD
  subst hp
  refine lv_i2l hx hb dL_told_7 (nI_l (by omega)) ?_
  refine zLast hx hb hK hP hD hS 8 7 rfl rfl (by omega) (by decide) dL_told_8 (fun H locs hP hD hS => ?_)
  replace hP : va_P D vwCl ((eW A C n ops nums vc vals d st ce pk pv pr w key pl dn tk tr) ++ oW ob oc (vp_updL ou 0 (lN dn))) H := hP
  replace hD : va_D F ((eW A C n ops nums vc vals d st ce pk pv pr w key pl dn tk tr) ++ oW ob oc (vp_updL ou 0 (lN dn))) := hD
  refine lv_goto (tgt := 15) hx hb dL_told_9 rfl ?_
  refine lv_iconst (v := nI 0) hx hb dL_told_15 (by decide) ?_
  exact zIret (w' := fun (_ : Unit) => ((eW A C n ops nums vc vals d st ce pk pv pr w key pl dn tk tr) ++ oW ob oc (vp_updL ou 0 (lN dn)))) () hx hb hr hlk hS hK rfl hP hD dL_told_16
set_option maxRecDepth 20000 in
set_option maxHeartbeats 4000000 in
theorem c_L_told1 (l : Launch) (hl9 : l.stackTraces = false) (D : va_G) (A : Nat → Nat) (C : Nat → ClassId) (ob : Nat) (oc : ClassId) (ou : Nat → Int64) (sz : Nat) (n : Nat) (ops : Nat → Int32) (nums : Nat → Int64) (vc : Nat) (vals : Nat → Int64) (d : Nat) (st : Nat → Int64) (ce : Nat → Int64) (pk : Nat → Int64) (pv : Nat → Int64) (pr : Nat) (w : Nat) (key : Int64) (pl : Nat) (dn : Nat) (tk : Nat) (tr : Nat) (hb31 : d < 2 ^ 31) : Met l yL_told (.codeWith yL_told cL_told 4 (some .int) [(0, 9, 12, 13)] :: WS) ({ frames := 7, cells := 0, slots := 0, locals := 141 } : Room) (va_Pc [.ref (A 0), .int (nI 1), .ref ob] (fun U => zP D (hT9 C oc) sz ((eW A C n ops nums vc vals d st ce pk pv pr w key pl dn tk tr) ++ oW ob oc ou) U ∧ zL (va_A ((eW A C n ops nums vc vals d st ce pk pv pr w key pl dn tk tr) ++ oW ob oc ou) sz) U)) (va_Qi (fun (r : Int32) (_ : Unit) => r = nI 0) (fun (_ : Unit) t => zB D (hT9 C oc) (va_A ((eW A C n ops nums vc vals d st ce pk pv pr w key pl dn tk tr) ++ oW ob oc ou) sz) ((eW A C n ops nums vc vals d st ce pk pv pr w key pl dn tk tr) ++ oW ob oc (vp_updL ou 0 (lN d))) t) (va_A ((eW A C n ops nums vc vals d st ce pk pv pr w key pl dn tk tr) ++ oW ob oc ou) sz)) 0 0 (va_A ((eW A C n ops nums vc vals d st ce pk pv pr w key pl dn tk tr) ++ oW ob oc ou) sz) := by
  refine zEntW (Qc := fun F => (va_Qi (fun (r : Int32) (_ : Unit) => r = nI 0) (fun (_ : Unit) t => zB D (hT9 C oc) F ((eW A C n ops nums vc vals d st ce pk pv pr w key pl dn tk tr) ++ oW ob oc (vp_updL ou 0 (lN d))) t) F)) (by decide) (Nat.le_of_ble_eq_true rfl) (fun p e s m below meth c ls F hx hb hr hlk hml hT hw hown hsz hP hK hD hA hX hl => ?_)
  have hS : va_S F s.heap s.heap [] := va_S.rf
  have hown : s.vm.findClass "EmitDeskLaw" = some m.cls := hown
  have hl : lv_has ls 4 [(0, .ref (A 0)), (1, .int (nI 1)), (2, .ref ob)] := hl
  refine lv_aload_n hx hb dL_told_0 rfl (lv_at hl 2 rfl) ?_
  refine lv_iconst (v := nI 0) hx hb dL_told_1 (by decide) ?_
  refine lv_aload_n hx hb dL_told_2 rfl (lv_at hl 0 rfl) ?_
  refine lv_iload_n hx hb dL_told_3 rfl (lv_at hl 1 rfl) ?_
  refine zAfti (wa := []) (w := (eW A C n ops nums vc vals d st ce pk pv pr w key pl dn tk tr)) (wb := oW ob oc ou) (zRunV (wa := []) (w := (eW A C n ops nums vc vals d st ce pk pv pr w key pl dn tk tr)) (wb := oW ob oc ou) ⟨hx, hb, hml, hown, hw⟩ (c_told1 l D A C _ n ops nums vc vals d st ce pk pv pr w key pl dn tk tr) wm_L_32 wi_E_told ws_E_told wn_E wc_E_told ⟨rfl, rfl⟩ wd_E_told ⟨by decide, by decide⟩ (hK.sub [0, 1, 2, 3, 4, 5, 6] rfl) hP hD 0 rfl rfl rfl hl.1 rfl (Nat.le_of_ble_eq_true rfl) dL_told_4 ⟨by decide, by decide⟩) hP hD hS hA (fun r u H locs hp hP hD hS => ?_)
  replace hP : va_P D vwCl ((eW A C n ops nums vc vals d st ce pk pv pr w key pl dn tk tr) ++ oW ob oc ou) H := hP
  replace hD : va_D F ((eW A C n ops nums vc vals d st ce pk pv pr w key pl dn tk tr) ++ oW ob oc ou) := hD
  subst hp
  refine lv_i2l hx hb dL_told_7 (nI_l (by omega)) ?_
  refine zLast hx hb hK hP hD hS 8 7 rfl rfl (by omega) (by decide) dL_told_8 (fun H locs hP hD hS => ?_)
  replace hP : va_P D vwCl ((eW A C n ops nums vc vals d st ce pk pv pr w key pl dn tk tr) ++ oW ob oc (vp_updL ou 0 (lN d))) H := hP
  replace hD : va_D F ((eW A C n ops nums vc vals d st ce pk pv pr w key pl dn tk tr) ++ oW ob oc (vp_updL ou 0 (lN d))) := hD
  refine lv_goto (tgt := 15) hx hb dL_told_9 rfl ?_
  refine lv_iconst (v := nI 0) hx hb dL_told_15 (by decide) ?_
  exact zIret (w' := fun (_ : Unit) => ((eW A C n ops nums vc vals d st ce pk pv pr w key pl dn tk tr) ++ oW ob oc (vp_updL ou 0 (lN d)))) () hx hb hr hlk hS hK rfl hP hD dL_told_16
set_option maxRecDepth 20000 in
set_option maxHeartbeats 4000000 in
theorem c_L_told2 (l : Launch) (hl9 : l.stackTraces = false) (D : va_G) (A : Nat → Nat) (C : Nat → ClassId) (ob : Nat) (oc : ClassId) (ou : Nat → Int64) (sz : Nat) (n : Nat) (ops : Nat → Int32) (nums : Nat → Int64) (vc : Nat) (vals : Nat → Int64) (d : Nat) (st : Nat → Int64) (ce : Nat → Int64) (pk : Nat → Int64) (pv : Nat → Int64) (pr : Nat) (w : Nat) (key : Int64) (pl : Nat) (dn : Nat) (tk : Nat) (tr : Nat) (hb31 : pr < 2 ^ 31) : Met l yL_told (.codeWith yL_told cL_told 4 (some .int) [(0, 9, 12, 13)] :: WS) ({ frames := 7, cells := 0, slots := 0, locals := 141 } : Room) (va_Pc [.ref (A 0), .int (nI 2), .ref ob] (fun U => zP D (hT9 C oc) sz ((eW A C n ops nums vc vals d st ce pk pv pr w key pl dn tk tr) ++ oW ob oc ou) U ∧ zL (va_A ((eW A C n ops nums vc vals d st ce pk pv pr w key pl dn tk tr) ++ oW ob oc ou) sz) U)) (va_Qi (fun (r : Int32) (_ : Unit) => r = nI 0) (fun (_ : Unit) t => zB D (hT9 C oc) (va_A ((eW A C n ops nums vc vals d st ce pk pv pr w key pl dn tk tr) ++ oW ob oc ou) sz) ((eW A C n ops nums vc vals d st ce pk pv pr w key pl dn tk tr) ++ oW ob oc (vp_updL ou 0 (lN pr))) t) (va_A ((eW A C n ops nums vc vals d st ce pk pv pr w key pl dn tk tr) ++ oW ob oc ou) sz)) 0 0 (va_A ((eW A C n ops nums vc vals d st ce pk pv pr w key pl dn tk tr) ++ oW ob oc ou) sz) := by
  refine zEntW (Qc := fun F => (va_Qi (fun (r : Int32) (_ : Unit) => r = nI 0) (fun (_ : Unit) t => zB D (hT9 C oc) F ((eW A C n ops nums vc vals d st ce pk pv pr w key pl dn tk tr) ++ oW ob oc (vp_updL ou 0 (lN pr))) t) F)) (by decide) (Nat.le_of_ble_eq_true rfl) (fun p e s m below meth c ls F hx hb hr hlk hml hT hw hown hsz hP hK hD hA hX hl => ?_)
  have hS : va_S F s.heap s.heap [] := va_S.rf
  have hown : s.vm.findClass "EmitDeskLaw" = some m.cls := hown
  have hl : lv_has ls 4 [(0, .ref (A 0)), (1, .int (nI 2)), (2, .ref ob)] := hl
  refine lv_aload_n hx hb dL_told_0 rfl (lv_at hl 2 rfl) ?_
  refine lv_iconst (v := nI 0) hx hb dL_told_1 (by decide) ?_
  refine lv_aload_n hx hb dL_told_2 rfl (lv_at hl 0 rfl) ?_
  refine lv_iload_n hx hb dL_told_3 rfl (lv_at hl 1 rfl) ?_
  refine zAfti (wa := []) (w := (eW A C n ops nums vc vals d st ce pk pv pr w key pl dn tk tr)) (wb := oW ob oc ou) (zRunV (wa := []) (w := (eW A C n ops nums vc vals d st ce pk pv pr w key pl dn tk tr)) (wb := oW ob oc ou) ⟨hx, hb, hml, hown, hw⟩ (c_told2 l D A C _ n ops nums vc vals d st ce pk pv pr w key pl dn tk tr) wm_L_32 wi_E_told ws_E_told wn_E wc_E_told ⟨rfl, rfl⟩ wd_E_told ⟨by decide, by decide⟩ (hK.sub [0, 1, 2, 3, 4, 5, 6] rfl) hP hD 0 rfl rfl rfl hl.1 rfl (Nat.le_of_ble_eq_true rfl) dL_told_4 ⟨by decide, by decide⟩) hP hD hS hA (fun r u H locs hp hP hD hS => ?_)
  replace hP : va_P D vwCl ((eW A C n ops nums vc vals d st ce pk pv pr w key pl dn tk tr) ++ oW ob oc ou) H := hP
  replace hD : va_D F ((eW A C n ops nums vc vals d st ce pk pv pr w key pl dn tk tr) ++ oW ob oc ou) := hD
  subst hp
  refine lv_i2l hx hb dL_told_7 (nI_l (by omega)) ?_
  refine zLast hx hb hK hP hD hS 8 7 rfl rfl (by omega) (by decide) dL_told_8 (fun H locs hP hD hS => ?_)
  replace hP : va_P D vwCl ((eW A C n ops nums vc vals d st ce pk pv pr w key pl dn tk tr) ++ oW ob oc (vp_updL ou 0 (lN pr))) H := hP
  replace hD : va_D F ((eW A C n ops nums vc vals d st ce pk pv pr w key pl dn tk tr) ++ oW ob oc (vp_updL ou 0 (lN pr))) := hD
  refine lv_goto (tgt := 15) hx hb dL_told_9 rfl ?_
  refine lv_iconst (v := nI 0) hx hb dL_told_15 (by decide) ?_
  exact zIret (w' := fun (_ : Unit) => ((eW A C n ops nums vc vals d st ce pk pv pr w key pl dn tk tr) ++ oW ob oc (vp_updL ou 0 (lN pr)))) () hx hb hr hlk hS hK rfl hP hD dL_told_16
set_option maxRecDepth 20000 in
set_option maxHeartbeats 4000000 in
theorem c_L_told3 (l : Launch) (hl9 : l.stackTraces = false) (D : va_G) (A : Nat → Nat) (C : Nat → ClassId) (ob : Nat) (oc : ClassId) (ou : Nat → Int64) (sz : Nat) (n : Nat) (ops : Nat → Int32) (nums : Nat → Int64) (vc : Nat) (vals : Nat → Int64) (d : Nat) (st : Nat → Int64) (ce : Nat → Int64) (pk : Nat → Int64) (pv : Nat → Int64) (pr : Nat) (w : Nat) (key : Int64) (pl : Nat) (dn : Nat) (tk : Nat) (tr : Nat) (hb31 : tk < 2 ^ 31) : Met l yL_told (.codeWith yL_told cL_told 4 (some .int) [(0, 9, 12, 13)] :: WS) ({ frames := 7, cells := 0, slots := 0, locals := 141 } : Room) (va_Pc [.ref (A 0), .int (nI 3), .ref ob] (fun U => zP D (hT9 C oc) sz ((eW A C n ops nums vc vals d st ce pk pv pr w key pl dn tk tr) ++ oW ob oc ou) U ∧ zL (va_A ((eW A C n ops nums vc vals d st ce pk pv pr w key pl dn tk tr) ++ oW ob oc ou) sz) U)) (va_Qi (fun (r : Int32) (_ : Unit) => r = nI 0) (fun (_ : Unit) t => zB D (hT9 C oc) (va_A ((eW A C n ops nums vc vals d st ce pk pv pr w key pl dn tk tr) ++ oW ob oc ou) sz) ((eW A C n ops nums vc vals d st ce pk pv pr w key pl dn tk tr) ++ oW ob oc (vp_updL ou 0 (lN tk))) t) (va_A ((eW A C n ops nums vc vals d st ce pk pv pr w key pl dn tk tr) ++ oW ob oc ou) sz)) 0 0 (va_A ((eW A C n ops nums vc vals d st ce pk pv pr w key pl dn tk tr) ++ oW ob oc ou) sz) := by
  refine zEntW (Qc := fun F => (va_Qi (fun (r : Int32) (_ : Unit) => r = nI 0) (fun (_ : Unit) t => zB D (hT9 C oc) F ((eW A C n ops nums vc vals d st ce pk pv pr w key pl dn tk tr) ++ oW ob oc (vp_updL ou 0 (lN tk))) t) F)) (by decide) (Nat.le_of_ble_eq_true rfl) (fun p e s m below meth c ls F hx hb hr hlk hml hT hw hown hsz hP hK hD hA hX hl => ?_)
  have hS : va_S F s.heap s.heap [] := va_S.rf
  have hown : s.vm.findClass "EmitDeskLaw" = some m.cls := hown
  have hl : lv_has ls 4 [(0, .ref (A 0)), (1, .int (nI 3)), (2, .ref ob)] := hl
  refine lv_aload_n hx hb dL_told_0 rfl (lv_at hl 2 rfl) ?_
  refine lv_iconst (v := nI 0) hx hb dL_told_1 (by decide) ?_
  refine lv_aload_n hx hb dL_told_2 rfl (lv_at hl 0 rfl) ?_
  refine lv_iload_n hx hb dL_told_3 rfl (lv_at hl 1 rfl) ?_
  refine zAfti (wa := []) (w := (eW A C n ops nums vc vals d st ce pk pv pr w key pl dn tk tr)) (wb := oW ob oc ou) (zRunV (wa := []) (w := (eW A C n ops nums vc vals d st ce pk pv pr w key pl dn tk tr)) (wb := oW ob oc ou) ⟨hx, hb, hml, hown, hw⟩ (c_told3 l D A C _ n ops nums vc vals d st ce pk pv pr w key pl dn tk tr) wm_L_32 wi_E_told ws_E_told wn_E wc_E_told ⟨rfl, rfl⟩ wd_E_told ⟨by decide, by decide⟩ (hK.sub [0, 1, 2, 3, 4, 5, 6] rfl) hP hD 0 rfl rfl rfl hl.1 rfl (Nat.le_of_ble_eq_true rfl) dL_told_4 ⟨by decide, by decide⟩) hP hD hS hA (fun r u H locs hp hP hD hS => ?_)
  replace hP : va_P D vwCl ((eW A C n ops nums vc vals d st ce pk pv pr w key pl dn tk tr) ++ oW ob oc ou) H := hP
  replace hD : va_D F ((eW A C n ops nums vc vals d st ce pk pv pr w key pl dn tk tr) ++ oW ob oc ou) := hD
  subst hp
  refine lv_i2l hx hb dL_told_7 (nI_l (by omega)) ?_
  refine zLast hx hb hK hP hD hS 8 7 rfl rfl (by omega) (by decide) dL_told_8 (fun H locs hP hD hS => ?_)
  replace hP : va_P D vwCl ((eW A C n ops nums vc vals d st ce pk pv pr w key pl dn tk tr) ++ oW ob oc (vp_updL ou 0 (lN tk))) H := hP
  replace hD : va_D F ((eW A C n ops nums vc vals d st ce pk pv pr w key pl dn tk tr) ++ oW ob oc (vp_updL ou 0 (lN tk))) := hD
  refine lv_goto (tgt := 15) hx hb dL_told_9 rfl ?_
  refine lv_iconst (v := nI 0) hx hb dL_told_15 (by decide) ?_
  exact zIret (w' := fun (_ : Unit) => ((eW A C n ops nums vc vals d st ce pk pv pr w key pl dn tk tr) ++ oW ob oc (vp_updL ou 0 (lN tk)))) () hx hb hr hlk hS hK rfl hP hD dL_told_16
set_option maxRecDepth 20000 in
set_option maxHeartbeats 4000000 in
theorem c_L_told4 (l : Launch) (hl9 : l.stackTraces = false) (D : va_G) (A : Nat → Nat) (C : Nat → ClassId) (ob : Nat) (oc : ClassId) (ou : Nat → Int64) (sz : Nat) (n : Nat) (ops : Nat → Int32) (nums : Nat → Int64) (vc : Nat) (vals : Nat → Int64) (d : Nat) (st : Nat → Int64) (ce : Nat → Int64) (pk : Nat → Int64) (pv : Nat → Int64) (pr : Nat) (w : Nat) (key : Int64) (pl : Nat) (dn : Nat) (tk : Nat) (tr : Nat) (ht : tr ≤ 1) : Met l yL_told (.codeWith yL_told cL_told 4 (some .int) [(0, 9, 12, 13)] :: WS) ({ frames := 7, cells := 0, slots := 0, locals := 141 } : Room) (va_Pc [.ref (A 0), .int (nI 4), .ref ob] (fun U => zP D (hT9 C oc) sz ((eW A C n ops nums vc vals d st ce pk pv pr w key pl dn tk tr) ++ oW ob oc ou) U ∧ zL (va_A ((eW A C n ops nums vc vals d st ce pk pv pr w key pl dn tk tr) ++ oW ob oc ou) sz) U)) (va_Qi (fun (r : Int32) (_ : Unit) => r = nI 0) (fun (_ : Unit) t => zB D (hT9 C oc) (va_A ((eW A C n ops nums vc vals d st ce pk pv pr w key pl dn tk tr) ++ oW ob oc ou) sz) ((eW A C n ops nums vc vals d st ce pk pv pr w key pl dn tk tr) ++ oW ob oc (vp_updL ou 0 (lN tr))) t) (va_A ((eW A C n ops nums vc vals d st ce pk pv pr w key pl dn tk tr) ++ oW ob oc ou) sz)) 0 0 (va_A ((eW A C n ops nums vc vals d st ce pk pv pr w key pl dn tk tr) ++ oW ob oc ou) sz) := by
  refine zEntW (Qc := fun F => (va_Qi (fun (r : Int32) (_ : Unit) => r = nI 0) (fun (_ : Unit) t => zB D (hT9 C oc) F ((eW A C n ops nums vc vals d st ce pk pv pr w key pl dn tk tr) ++ oW ob oc (vp_updL ou 0 (lN tr))) t) F)) (by decide) (Nat.le_of_ble_eq_true rfl) (fun p e s m below meth c ls F hx hb hr hlk hml hT hw hown hsz hP hK hD hA hX hl => ?_)
  have hS : va_S F s.heap s.heap [] := va_S.rf
  have hown : s.vm.findClass "EmitDeskLaw" = some m.cls := hown
  have hl : lv_has ls 4 [(0, .ref (A 0)), (1, .int (nI 4)), (2, .ref ob)] := hl
  refine lv_aload_n hx hb dL_told_0 rfl (lv_at hl 2 rfl) ?_
  refine lv_iconst (v := nI 0) hx hb dL_told_1 (by decide) ?_
  refine lv_aload_n hx hb dL_told_2 rfl (lv_at hl 0 rfl) ?_
  refine lv_iload_n hx hb dL_told_3 rfl (lv_at hl 1 rfl) ?_
  refine zAfti (wa := []) (w := (eW A C n ops nums vc vals d st ce pk pv pr w key pl dn tk tr)) (wb := oW ob oc ou) (zRunV (wa := []) (w := (eW A C n ops nums vc vals d st ce pk pv pr w key pl dn tk tr)) (wb := oW ob oc ou) ⟨hx, hb, hml, hown, hw⟩ (c_told4 l D A C _ n ops nums vc vals d st ce pk pv pr w key pl dn tk tr ht) wm_L_32 wi_E_told ws_E_told wn_E wc_E_told ⟨rfl, rfl⟩ wd_E_told ⟨by decide, by decide⟩ (hK.sub [0, 1, 2, 3, 4, 5, 6] rfl) hP hD 0 rfl rfl rfl hl.1 rfl (Nat.le_of_ble_eq_true rfl) dL_told_4 ⟨by decide, by decide⟩) hP hD hS hA (fun r u H locs hp hP hD hS => ?_)
  replace hP : va_P D vwCl ((eW A C n ops nums vc vals d st ce pk pv pr w key pl dn tk tr) ++ oW ob oc ou) H := hP
  replace hD : va_D F ((eW A C n ops nums vc vals d st ce pk pv pr w key pl dn tk tr) ++ oW ob oc ou) := hD
  subst hp
  refine lv_i2l hx hb dL_told_7 (nI_l (by omega)) ?_
  refine zLast hx hb hK hP hD hS 8 7 rfl rfl (by omega) (by decide) dL_told_8 (fun H locs hP hD hS => ?_)
  replace hP : va_P D vwCl ((eW A C n ops nums vc vals d st ce pk pv pr w key pl dn tk tr) ++ oW ob oc (vp_updL ou 0 (lN tr))) H := hP
  replace hD : va_D F ((eW A C n ops nums vc vals d st ce pk pv pr w key pl dn tk tr) ++ oW ob oc (vp_updL ou 0 (lN tr))) := hD
  refine lv_goto (tgt := 15) hx hb dL_told_9 rfl ?_
  refine lv_iconst (v := nI 0) hx hb dL_told_15 (by decide) ?_
  exact zIret (w' := fun (_ : Unit) => ((eW A C n ops nums vc vals d st ce pk pv pr w key pl dn tk tr) ++ oW ob oc (vp_updL ou 0 (lN tr)))) () hx hb hr hlk hS hK rfl hP hD dL_told_16
set_option maxRecDepth 20000 in
set_option maxHeartbeats 4000000 in
theorem c_L_told_bad (l : Launch) (hl9 : l.stackTraces = false) (D : va_G) (A : Nat → Nat) (C : Nat → ClassId) (ob : Nat) (oc : ClassId) (ou : Nat → Int64) (sz : Nat) (n : Nat) (ops : Nat → Int32) (nums : Nat → Int64) (vc : Nat) (vals : Nat → Int64) (d : Nat) (st : Nat → Int64) (ce : Nat → Int64) (pk : Nat → Int64) (pv : Nat → Int64) (pr : Nat) (w : Nat) (key : Int64) (pl : Nat) (dn : Nat) (tk : Nat) (tr : Nat) (o : Int32) (hbad : o.toInt < 0 ∨ 4 < o.toInt) : Met l yL_told (.codeWith yL_told cL_told 4 (some .int) [(0, 9, 12, 13)] :: WS) ({ frames := 7, cells := 1, slots := 6, locals := 141 } : Room) (va_Pc [.ref (A 0), .int o, .ref ob] (fun U => zP D (hT9 C oc) sz ((eW A C n ops nums vc vals d st ce pk pv pr w key pl dn tk tr) ++ oW ob oc ou) U ∧ zL (va_A ((eW A C n ops nums vc vals d st ce pk pv pr w key pl dn tk tr) ++ oW ob oc ou) sz) U)) (va_Qi (fun (r : Int32) (_ : Unit) => r = nI 1) (fun (_ : Unit) t => zB D (hT9 C oc) (va_A ((eW A C n ops nums vc vals d st ce pk pv pr w key pl dn tk tr) ++ oW ob oc ou) sz) ((eW A C n ops nums vc vals d st ce pk pv pr w key pl dn tk tr) ++ oW ob oc ou) t) (va_A ((eW A C n ops nums vc vals d st ce pk pv pr w key pl dn tk tr) ++ oW ob oc ou) sz)) 1 6 (va_A ((eW A C n ops nums vc vals d st ce pk pv pr w key pl dn tk tr) ++ oW ob oc ou) sz) := by
  refine zEntW (Qc := fun F => (va_Qi (fun (r : Int32) (_ : Unit) => r = nI 1) (fun (_ : Unit) t => zB D (hT9 C oc) F ((eW A C n ops nums vc vals d st ce pk pv pr w key pl dn tk tr) ++ oW ob oc ou) t) F)) (by decide) (Nat.le_of_ble_eq_true rfl) (fun p e s m below meth c ls F hx hb hr hlk hml hT hw hown hsz hP hK hD hA hX hl => ?_)
  have hS : va_S F s.heap s.heap [] := va_S.rf
  have hown : s.vm.findClass "EmitDeskLaw" = some m.cls := hown
  have hl : lv_has ls 4 [(0, .ref (A 0)), (1, .int o), (2, .ref ob)] := hl
  refine lv_aload_n hx hb dL_told_0 rfl (lv_at hl 2 rfl) ?_
  refine lv_iconst (v := nI 0) hx hb dL_told_1 (by decide) ?_
  refine lv_aload_n hx hb dL_told_2 rfl (lv_at hl 0 rfl) ?_
  refine lv_iload_n hx hb dL_told_3 rfl (lv_at hl 1 rfl) ?_
  refine zAftXi (wa := []) (w := (eW A C n ops nums vc vals d st ce pk pv pr w key pl dn tk tr)) (wb := oW ob oc ou) (zRunX (wa := []) (w := (eW A C n ops nums vc vals d st ce pk pv pr w key pl dn tk tr)) (wb := oW ob oc ou) ⟨hx, hb, hml, hown, hw⟩ (c_told_bad l hl9 D A C _ n ops nums vc vals d st ce pk pv pr w key pl dn tk tr o hbad) wm_L_32 wi_E_told ws_E_told wn_E wc_E_told ⟨rfl, rfl⟩ wd_E_told ⟨by decide, by decide⟩ hX.1 (hK.sub [0, 1, 2, 3, 4, 5, 6] rfl) hP hD hS hA 0 rfl rfl rfl hl.1 rfl (Nat.le_of_ble_eq_true rfl) dL_told_4 ⟨by decide, by decide⟩) hP hD hS hA (fun u q9 ce9 H locs hP hD hS hce hcv hcl => ?_)
  replace hP : va_P D vwCl ((eW A C n ops nums vc vals d st ce pk pv pr w key pl dn tk tr) ++ oW ob oc ou) H := hP
  replace hD : va_D F ((eW A C n ops nums vc vals d st ce pk pv pr w key pl dn tk tr) ++ oW ob oc ou) := hD
  refine vx_catch (own := "EmitDeskLaw") (name := "java/lang/IllegalArgumentException") (E := "java/lang/IllegalArgumentException") hown [] ⟨0, 9, 12, 13⟩ [] (hT.trans rfl) (fun z hz => nomatch hz) (by decide) (by decide) (hw _ wk_L_13) (va_Nw.use rfl hX.1.1.1) hce hcv hcl ?_
  refine lv_astore_n hx hb dL_told_12 rfl hl (by decide) rfl (fun ls hl => ?_)
  refine lv_iconst (v := nI 1) hx hb dL_told_13 (by decide) ?_
  refine W.widen (k := 1) (n := 6) (by decide) (by decide) ?_
  exact zIret (w' := fun (_ : Unit) => ((eW A C n ops nums vc vals d st ce pk pv pr w key pl dn tk tr) ++ oW ob oc ou)) () hx hb hr hlk hS hK rfl hP hD dL_told_14
set_option maxRecDepth 20000 in
set_option maxHeartbeats 4000000 in
theorem c_L_call_way (l : Launch) (hl9 : l.stackTraces = false) (D : va_G) (A : Nat → Nat) (C : Nat → ClassId) (ob : Nat) (oc : ClassId) (ou : Nat → Int64) (sz : Nat) (n : Nat) (ops : Nat → Int32) (nums : Nat → Int64) (vc : Nat) (vals : Nat → Int64) (d : Nat) (st : Nat → Int64) (ce : Nat → Int64) (pk : Nat → Int64) (pv : Nat → Int64) (pr : Nat) (w : Nat) (key : Int64) (pl : Nat) (dn : Nat) (tk : Nat) (tr : Nat) (o : Int32) (k2 : Int64) (hbad : o < 0 ∨ nI 2 < o) : Met l yL_call (.codeWith yL_call cL_call 6 (some .int) [(0, 11, 14, 13), (0, 11, 18, 24)] :: WS) ({ frames := 7, cells := 1, slots := 6, locals := 141 } : Room) (va_Pc [.ref (A 0), .int o, .long k2, .ref ob] (fun U => zP D (hT9 C oc) sz ((eW A C n ops nums vc vals d st ce pk pv pr w key pl dn tk tr) ++ oW ob oc ou) U ∧ zL (va_A ((eW A C n ops nums vc vals d st ce pk pv pr w key pl dn tk tr) ++ oW ob oc ou) sz) U)) (va_Qi (fun (r : Int32) (_ : Unit) => r = nI 1) (fun (_ : Unit) t => zB D (hT9 C oc) (va_A ((eW A C n ops nums vc vals d st ce pk pv pr w key pl dn tk tr) ++ oW ob oc ou) sz) ((eW A C n ops nums vc vals d st ce pk pv pr w key pl dn tk tr) ++ oW ob oc ou) t) (va_A ((eW A C n ops nums vc vals d st ce pk pv pr w key pl dn tk tr) ++ oW ob oc ou) sz)) 1 6 (va_A ((eW A C n ops nums vc vals d st ce pk pv pr w key pl dn tk tr) ++ oW ob oc ou) sz) := by
  refine zEntW (Qc := fun F => (va_Qi (fun (r : Int32) (_ : Unit) => r = nI 1) (fun (_ : Unit) t => zB D (hT9 C oc) F ((eW A C n ops nums vc vals d st ce pk pv pr w key pl dn tk tr) ++ oW ob oc ou) t) F)) (by decide) (Nat.le_of_ble_eq_true rfl) (fun p e s m below meth c ls F hx hb hr hlk hml hT hw hown hsz hP hK hD hA hX hl => ?_)
  have hS : va_S F s.heap s.heap [] := va_S.rf
  have hown : s.vm.findClass "EmitDeskLaw" = some m.cls := hown
  have hl : lv_has ls 6 [(0, .ref (A 0)), (1, .int o), (2, .long k2), (4, .ref ob)] := hl
  refine lv_aload hx hb dL_call_0 (lv_at hl 3 rfl) ?_
  refine lv_iconst (v := nI 0) hx hb dL_call_2 (by decide) ?_
  refine lv_aload_n hx hb dL_call_3 rfl (lv_at hl 0 rfl) ?_
  refine lv_iload_n hx hb dL_call_4 rfl (lv_at hl 1 rfl) ?_
  refine lv_lload_n hx hb dL_call_5 rfl (lv_at hl 2 rfl) ?_
  refine zAftXi (wa := []) (w := (eW A C n ops nums vc vals d st ce pk pv pr w key pl dn tk tr)) (wb := oW ob oc ou) (zRunX (wa := []) (w := (eW A C n ops nums vc vals d st ce pk pv pr w key pl dn tk tr)) (wb := oW ob oc ou) ⟨hx, hb, hml, hown, hw⟩ (c_call_way l hl9 D A C _ n ops nums vc vals d st ce pk pv pr w key pl dn tk tr o k2 hbad) wm_L_21 wi_E_call ws_E_call wn_E wc_E_call ⟨rfl, rfl⟩ wd_E_call ⟨by decide, by decide⟩ hX.1 (hK.sub [0, 1, 2, 3, 4, 5, 6] rfl) hP hD hS hA 0 rfl rfl rfl hl.1 rfl (Nat.le_of_ble_eq_true rfl) dL_call_6 ⟨by decide, by decide⟩) hP hD hS hA (fun u q9 ce9 H locs hP hD hS hce hcv hcl => ?_)
  replace hP : va_P D vwCl ((eW A C n ops nums vc vals d st ce pk pv pr w key pl dn tk tr) ++ oW ob oc ou) H := hP
  replace hD : va_D F ((eW A C n ops nums vc vals d st ce pk pv pr w key pl dn tk tr) ++ oW ob oc ou) := hD
  refine vx_catch (own := "EmitDeskLaw") (name := "java/lang/IllegalArgumentException") (E := "java/lang/IllegalArgumentException") hown [] ⟨0, 11, 14, 13⟩ [⟨0, 11, 18, 24⟩] (hT.trans rfl) (fun z hz => nomatch hz) (by decide) (by decide) (hw _ wk_L_13) (va_Nw.use rfl hX.1.1.1) hce hcv hcl ?_
  refine lv_astore hx hb dL_call_14 hl (by decide) rfl (fun ls hl => ?_)
  refine lv_iconst (v := nI 1) hx hb dL_call_16 (by decide) ?_
  refine W.widen (k := 1) (n := 6) (by decide) (by decide) ?_
  exact zIret (w' := fun (_ : Unit) => ((eW A C n ops nums vc vals d st ce pk pv pr w key pl dn tk tr) ++ oW ob oc ou)) () hx hb hr hlk hS hK rfl hP hD dL_call_17
set_option maxRecDepth 20000 in
set_option maxHeartbeats 4000000 in
theorem c_L_call_end (l : Launch) (hl9 : l.stackTraces = false) (D : va_G) (A : Nat → Nat) (C : Nat → ClassId) (ob : Nat) (oc : ClassId) (ou : Nat → Int64) (sz : Nat) (n : Nat) (ops : Nat → Int32) (nums : Nat → Int64) (vc : Nat) (vals : Nat → Int64) (d : Nat) (st : Nat → Int64) (ce : Nat → Int64) (pk : Nat → Int64) (pv : Nat → Int64) (pr : Nat) (w : Nat) (key : Int64) (pl : Nat) (dn : Nat) (tk : Nat) (tr : Nat) (w2 : Nat) (k2 : Int64) (hw2 : w2 ≤ 2) (hn : n ≤ 40) (hg : gBP n ops nums) : Met l yL_call (.codeWith yL_call cL_call 6 (some .int) [(0, 11, 14, 13), (0, 11, 18, 24)] :: WS) ({ frames := 7, cells := 1, slots := 6, locals := 141 } : Room) (va_Pc [.ref (A 0), .int (nI w2), .long k2, .ref ob] (fun U => zP D (hT9 C oc) sz ((eW A C n ops nums vc vals d st ce pk pv pr w key pl dn tk tr) ++ oW ob oc ou) U ∧ zL (va_A ((eW A C n ops nums vc vals d st ce pk pv pr w key pl dn tk tr) ++ oW ob oc ou) sz) U)) (va_Qi (fun (r : Int32) (_ : Unit) => r = nI 1) (fun (_ : Unit) t => zB D (hT9 C oc) (va_A ((eW A C n ops nums vc vals d st ce pk pv pr w key pl dn tk tr) ++ oW ob oc ou) sz) ((eW A C n ops nums vc vals d st ce pk pv pr w key pl dn tk tr) ++ oW ob oc ou) t) (va_A ((eW A C n ops nums vc vals d st ce pk pv pr w key pl dn tk tr) ++ oW ob oc ou) sz)) 1 6 (va_A ((eW A C n ops nums vc vals d st ce pk pv pr w key pl dn tk tr) ++ oW ob oc ou) sz) := by
  refine zEntW (Qc := fun F => (va_Qi (fun (r : Int32) (_ : Unit) => r = nI 1) (fun (_ : Unit) t => zB D (hT9 C oc) F ((eW A C n ops nums vc vals d st ce pk pv pr w key pl dn tk tr) ++ oW ob oc ou) t) F)) (by decide) (Nat.le_of_ble_eq_true rfl) (fun p e s m below meth c ls F hx hb hr hlk hml hT hw hown hsz hP hK hD hA hX hl => ?_)
  have hS : va_S F s.heap s.heap [] := va_S.rf
  have hown : s.vm.findClass "EmitDeskLaw" = some m.cls := hown
  have hl : lv_has ls 6 [(0, .ref (A 0)), (1, .int (nI w2)), (2, .long k2), (4, .ref ob)] := hl
  refine lv_aload hx hb dL_call_0 (lv_at hl 3 rfl) ?_
  refine lv_iconst (v := nI 0) hx hb dL_call_2 (by decide) ?_
  refine lv_aload_n hx hb dL_call_3 rfl (lv_at hl 0 rfl) ?_
  refine lv_iload_n hx hb dL_call_4 rfl (lv_at hl 1 rfl) ?_
  refine lv_lload_n hx hb dL_call_5 rfl (lv_at hl 2 rfl) ?_
  refine zAftXi (wa := []) (w := (eW A C n ops nums vc vals d st ce pk pv pr w key pl dn tk tr)) (wb := oW ob oc ou) (zRunX (wa := []) (w := (eW A C n ops nums vc vals d st ce pk pv pr w key pl dn tk tr)) (wb := oW ob oc ou) ⟨hx, hb, hml, hown, hw⟩ (c_call_end l hl9 D A C _ n ops nums vc vals d st ce pk pv pr w key pl dn tk tr w2 k2 hw2 hn hg) wm_L_21 wi_E_call ws_E_call wn_E wc_E_call ⟨rfl, rfl⟩ wd_E_call ⟨by decide, by decide⟩ hX.1 (hK.sub [0, 1, 2, 3, 4, 5, 6] rfl) hP hD hS hA 0 rfl rfl rfl hl.1 rfl (Nat.le_of_ble_eq_true rfl) dL_call_6 ⟨by decide, by decide⟩) hP hD hS hA (fun u q9 ce9 H locs hP hD hS hce hcv hcl => ?_)
  replace hP : va_P D vwCl ((eW A C n ops nums vc vals d st ce pk pv pr w key pl dn tk tr) ++ oW ob oc ou) H := hP
  replace hD : va_D F ((eW A C n ops nums vc vals d st ce pk pv pr w key pl dn tk tr) ++ oW ob oc ou) := hD
  refine vx_catch (own := "EmitDeskLaw") (name := "java/lang/IllegalArgumentException") (E := "java/lang/IllegalArgumentException") hown [] ⟨0, 11, 14, 13⟩ [⟨0, 11, 18, 24⟩] (hT.trans rfl) (fun z hz => nomatch hz) (by decide) (by decide) (hw _ wk_L_13) (va_Nw.use rfl hX.1.1.1) hce hcv hcl ?_
  refine lv_astore hx hb dL_call_14 hl (by decide) rfl (fun ls hl => ?_)
  refine lv_iconst (v := nI 1) hx hb dL_call_16 (by decide) ?_
  refine W.widen (k := 1) (n := 6) (by decide) (by decide) ?_
  exact zIret (w' := fun (_ : Unit) => ((eW A C n ops nums vc vals d st ce pk pv pr w key pl dn tk tr) ++ oW ob oc ou)) () hx hb hr hlk hS hK rfl hP hD dL_call_17
set_option maxRecDepth 20000 in
set_option maxHeartbeats 4000000 in
theorem c_L_call_trap (l : Launch) (hl9 : l.stackTraces = false) (D : va_G) (A : Nat → Nat) (C : Nat → ClassId) (ob : Nat) (oc : ClassId) (ou : Nat → Int64) (sz : Nat) (n : Nat) (ops : Nat → Int32) (nums : Nat → Int64) (vc : Nat) (vals : Nat → Int64) (d : Nat) (st : Nat → Int64) (ce : Nat → Int64) (pk : Nat → Int64) (pv : Nat → Int64) (pr : Nat) (w : Nat) (key : Int64) (pl : Nat) (dn : Nat) (tk : Nat) (tr : Nat) (w2 : Nat) (k2 : Int64) (q : Nat × Nat × RS) (hw2 : w2 ≤ 2) (hvc : vc ≤ 40) (hPI : PI n ops nums) (hg : ¬ gBP n ops nums) (hq : runR n vc vals w2 k2 ops nums 400 (0, 0, st, z4 ce, pk, pv, 0, 0) = q) (ht : q.2.1 = 1) : Met l yL_call (.codeWith yL_call cL_call 6 (some .int) [(0, 11, 14, 13), (0, 11, 18, 24)] :: WS) ({ frames := 7, cells := 1, slots := 6, locals := 141 } : Room) (va_Pc [.ref (A 0), .int (nI w2), .long k2, .ref ob] (fun U => zP D (hT9 C oc) sz ((eW A C n ops nums vc vals d st ce pk pv pr w key pl dn tk tr) ++ oW ob oc ou) U ∧ zL (va_A ((eW A C n ops nums vc vals d st ce pk pv pr w key pl dn tk tr) ++ oW ob oc ou) sz) U)) (va_Qi (fun (r : Int32) (_ : RP) => r = nI 2) (fun (u : RP) t => zB D (hT9 C oc) (va_A ((eW A C n ops nums vc vals d st ce pk pv pr w key pl dn tk tr) ++ oW ob oc ou) sz) ((fW A C n ops nums vc vals w2 k2 0 q u) ++ oW ob oc ou) t) (va_A ((eW A C n ops nums vc vals d st ce pk pv pr w key pl dn tk tr) ++ oW ob oc ou) sz)) 1 6 (va_A ((eW A C n ops nums vc vals d st ce pk pv pr w key pl dn tk tr) ++ oW ob oc ou) sz) := by
  refine zEntW (Qc := fun F => (va_Qi (fun (r : Int32) (_ : RP) => r = nI 2) (fun (u : RP) t => zB D (hT9 C oc) F ((fW A C n ops nums vc vals w2 k2 0 q u) ++ oW ob oc ou) t) F)) (by decide) (Nat.le_of_ble_eq_true rfl) (fun p e s m below meth c ls F hx hb hr hlk hml hT hw hown hsz hP hK hD hA hX hl => ?_)
  have hS : va_S F s.heap s.heap [] := va_S.rf
  have hown : s.vm.findClass "EmitDeskLaw" = some m.cls := hown
  have hl : lv_has ls 6 [(0, .ref (A 0)), (1, .int (nI w2)), (2, .long k2), (4, .ref ob)] := hl
  refine lv_aload hx hb dL_call_0 (lv_at hl 3 rfl) ?_
  refine lv_iconst (v := nI 0) hx hb dL_call_2 (by decide) ?_
  refine lv_aload_n hx hb dL_call_3 rfl (lv_at hl 0 rfl) ?_
  refine lv_iload_n hx hb dL_call_4 rfl (lv_at hl 1 rfl) ?_
  refine lv_lload_n hx hb dL_call_5 rfl (lv_at hl 2 rfl) ?_
  refine zAftXi (wa := []) (w := (eW A C n ops nums vc vals d st ce pk pv pr w key pl dn tk tr)) (wb := oW ob oc ou) (zRunX (wa := []) (w := (eW A C n ops nums vc vals d st ce pk pv pr w key pl dn tk tr)) (wb := oW ob oc ou) ⟨hx, hb, hml, hown, hw⟩ (c_call_trap l hl9 D A C _ n ops nums vc vals d st ce pk pv pr w key pl dn tk tr w2 k2 q hw2 hvc hPI hg hq ht) wm_L_21 wi_E_call ws_E_call wn_E wc_E_call ⟨rfl, rfl⟩ wd_E_call ⟨by decide, by decide⟩ hX.1 (hK.sub [0, 1, 2, 3, 4, 5, 6] rfl) hP hD hS hA 0 rfl rfl rfl hl.1 rfl (Nat.le_of_ble_eq_true rfl) dL_call_6 ⟨by decide, by decide⟩) hP hD hS hA (fun u q9 ce9 H locs hP hD hS hce hcv hcl => ?_)
  replace hP : va_P D vwCl ((fW A C n ops nums vc vals w2 k2 0 q u) ++ oW ob oc ou) H := hP
  replace hD : va_D F ((fW A C n ops nums vc vals w2 k2 0 q u) ++ oW ob oc ou) := hD
  refine vx_catch (own := "EmitDeskLaw") (name := "java/lang/UnsupportedOperationException") (E := "java/lang/UnsupportedOperationException") hown [⟨0, 11, 14, 13⟩] ⟨0, 11, 18, 24⟩ [] (hT.trans rfl) (fun z hz => by rw [List.mem_singleton.mp hz]; exact Or.inr ⟨by decide, "java/lang/IllegalArgumentException", hw _ wk_L_13, hX.2.2⟩) (by decide) (by decide) (hw _ wk_L_24) (va_Nw.use rfl hX.1.1.2.2.1) hce hcv hcl ?_
  refine lv_astore hx hb dL_call_18 hl (by decide) rfl (fun ls hl => ?_)
  refine lv_iconst (v := nI 2) hx hb dL_call_20 (by decide) ?_
  refine W.widen (k := 1) (n := 6) (by decide) (by decide) ?_
  exact zIret (w' := fun (u : RP) => ((fW A C n ops nums vc vals w2 k2 0 q u) ++ oW ob oc ou)) u hx hb hr hlk hS hK rfl hP hD dL_call_21
set_option maxRecDepth 20000 in
set_option maxHeartbeats 4000000 in
theorem c_L_call_ok (l : Launch) (hl9 : l.stackTraces = false) (D : va_G) (A : Nat → Nat) (C : Nat → ClassId) (ob : Nat) (oc : ClassId) (ou : Nat → Int64) (sz : Nat) (n : Nat) (ops : Nat → Int32) (nums : Nat → Int64) (vc : Nat) (vals : Nat → Int64) (d : Nat) (st : Nat → Int64) (ce : Nat → Int64) (pk : Nat → Int64) (pv : Nat → Int64) (pr : Nat) (w : Nat) (key : Int64) (pl : Nat) (dn : Nat) (tk : Nat) (tr : Nat) (w2 : Nat) (k2 : Int64) (q : Nat × Nat × RS) (hw2 : w2 ≤ 2) (hvc : vc ≤ 40) (hPI : PI n ops nums) (hg : ¬ gBP n ops nums) (hq : runR n vc vals w2 k2 ops nums 400 (0, 0, st, z4 ce, pk, pv, 0, 0) = q) (ht : q.2.1 = 0) (hb31 : q.2.2.2.2.2.2.2.2.1 < 2 ^ 31) : Met l yL_call (.codeWith yL_call cL_call 6 (some .int) [(0, 11, 14, 13), (0, 11, 18, 24)] :: WS) ({ frames := 7, cells := 0, slots := 0, locals := 141 } : Room) (va_Pc [.ref (A 0), .int (nI w2), .long k2, .ref ob] (fun U => zP D (hT9 C oc) sz ((eW A C n ops nums vc vals d st ce pk pv pr w key pl dn tk tr) ++ oW ob oc ou) U ∧ zL (va_A ((eW A C n ops nums vc vals d st ce pk pv pr w key pl dn tk tr) ++ oW ob oc ou) sz) U)) (va_Qi (fun (r : Int32) (_ : RP) => r = nI 0) (fun (u : RP) t => zB D (hT9 C oc) (va_A ((eW A C n ops nums vc vals d st ce pk pv pr w key pl dn tk tr) ++ oW ob oc ou) sz) ((fW A C n ops nums vc vals w2 k2 0 q u) ++ oW ob oc (vp_updL ou 0 (lN q.2.2.2.2.2.2.2.2.1))) t) (va_A ((eW A C n ops nums vc vals d st ce pk pv pr w key pl dn tk tr) ++ oW ob oc ou) sz)) 0 0 (va_A ((eW A C n ops nums vc vals d st ce pk pv pr w key pl dn tk tr) ++ oW ob oc ou) sz) := by
  refine zEntW (Qc := fun F => (va_Qi (fun (r : Int32) (_ : RP) => r = nI 0) (fun (u : RP) t => zB D (hT9 C oc) F ((fW A C n ops nums vc vals w2 k2 0 q u) ++ oW ob oc (vp_updL ou 0 (lN q.2.2.2.2.2.2.2.2.1))) t) F)) (by decide) (Nat.le_of_ble_eq_true rfl) (fun p e s m below meth c ls F hx hb hr hlk hml hT hw hown hsz hP hK hD hA hX hl => ?_)
  have hS : va_S F s.heap s.heap [] := va_S.rf
  have hown : s.vm.findClass "EmitDeskLaw" = some m.cls := hown
  have hl : lv_has ls 6 [(0, .ref (A 0)), (1, .int (nI w2)), (2, .long k2), (4, .ref ob)] := hl
  refine lv_aload hx hb dL_call_0 (lv_at hl 3 rfl) ?_
  refine lv_iconst (v := nI 0) hx hb dL_call_2 (by decide) ?_
  refine lv_aload_n hx hb dL_call_3 rfl (lv_at hl 0 rfl) ?_
  refine lv_iload_n hx hb dL_call_4 rfl (lv_at hl 1 rfl) ?_
  refine lv_lload_n hx hb dL_call_5 rfl (lv_at hl 2 rfl) ?_
  refine zAfti (wa := []) (w := (eW A C n ops nums vc vals d st ce pk pv pr w key pl dn tk tr)) (wb := oW ob oc ou) (zRunV (wa := []) (w := (eW A C n ops nums vc vals d st ce pk pv pr w key pl dn tk tr)) (wb := oW ob oc ou) ⟨hx, hb, hml, hown, hw⟩ (c_call_ok l D A C _ n ops nums vc vals d st ce pk pv pr w key pl dn tk tr w2 k2 q hw2 hvc hPI hg hq ht) wm_L_21 wi_E_call ws_E_call wn_E wc_E_call ⟨rfl, rfl⟩ wd_E_call ⟨by decide, by decide⟩ (hK.sub [0, 1, 2, 3, 4, 5, 6] rfl) hP hD 0 rfl rfl rfl hl.1 rfl (Nat.le_of_ble_eq_true rfl) dL_call_6 ⟨by decide, by decide⟩) hP hD hS hA (fun r u H locs hp hP hD hS => ?_)
  replace hP : va_P D vwCl ((fW A C n ops nums vc vals w2 k2 0 q u) ++ oW ob oc ou) H := hP
  replace hD : va_D F ((fW A C n ops nums vc vals w2 k2 0 q u) ++ oW ob oc ou) := hD
  subst hp
  refine lv_i2l hx hb dL_call_9 (nI_l (by omega)) ?_
  refine zLast hx hb hK hP hD hS 8 7 rfl rfl (by omega) (by decide) dL_call_10 (fun H locs hP hD hS => ?_)
  replace hP : va_P D vwCl ((fW A C n ops nums vc vals w2 k2 0 q u) ++ oW ob oc (vp_updL ou 0 (lN q.2.2.2.2.2.2.2.2.1))) H := hP
  replace hD : va_D F ((fW A C n ops nums vc vals w2 k2 0 q u) ++ oW ob oc (vp_updL ou 0 (lN q.2.2.2.2.2.2.2.2.1))) := hD
  refine lv_goto (tgt := 22) hx hb dL_call_11 rfl ?_
  refine lv_iconst (v := nI 0) hx hb dL_call_22 (by decide) ?_
  exact zIret (w' := fun (u : RP) => ((fW A C n ops nums vc vals w2 k2 0 q u) ++ oW ob oc (vp_updL ou 0 (lN q.2.2.2.2.2.2.2.2.1)))) u hx hb hr hlk hS hK rfl hP hD dL_call_23
