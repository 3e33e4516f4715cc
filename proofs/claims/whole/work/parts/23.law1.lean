/-! the law: its world, its loop's turns -/
abbrev rL : Room := { frames := 10, cells := 1050, slots := 8567, locals := 346 }
abbrev tL (C C2 : Nat → ClassId) (oc : ClassId) : List (ClassId × FieldType) := mT C2 ++ hT9 C oc
abbrev LI (n : Nat) (ops : Nat → Int32) (nums : Nat → Int64) (vc d pr tk dn tr : Nat) : Prop := PI n ops nums ∧ vc ≤ 40 ∧ d ≤ 12 ∧ pr ≤ 4 ∧ tk ≤ 40 ∧ dn ≤ 400 ∧ tr ≤ 1
theorem z_lt4 {o : Int32} (h : o < 0 ∨ nI 3 < o) : o < 0 ∨ nI 4 ≤ o := h.imp id (fun z => by
  rw [Int32.lt_iff_toInt_lt, nI_toInt (by decide)] at z
  rw [Int32.le_iff_toInt_le, nI_toInt (by decide)]
  omega)
theorem z_gt {L i : Nat} (hL : L < 2 ^ 30) (hi : i < 2 ^ 30) : nI L - nI 4 < nI i ↔ L < i + 4 := by
  rw [Int32.lt_iff_toInt_lt, pk_sub_toInt hL (by decide), nI_toInt (by omega)]
  omega
section ZLW
variable {p : Program} {l : Launch} {e : Env} {R : Room} {s : State} {m : MethodId} {args : Array Value} {below : List Frame} {meth : Method} {c : Code} {H : Heap} {locs : List Loc} {cells slots : Nat} {Q : State → Prop}
variable {cc : ByteArray} {pc : Nat} {ls : Array Slot} {rest st0 : List Value} {D : va_G} {F : Nat → Prop} {tys : List (ClassId × FieldType)} {w wa : va_W} {H0 : Heap}
theorem zSld (hx : p.tables.exec = Jvm.exec) (hb : c.code = cc) {b L : Nat} {xs : Nat → Int32} (hX : va_X b L xs s H0) (hbl : b < H0.size) (hbA : ¬ F b) (hS : va_S F H0 H locs) {j : Nat} (hj : j < L) (hL : L < 2 ^ 31) (hdg : decode cc pc = .ok (.iaload, 1))
    (kk : W p l e R s m args below meth c H locs cells slots Q (F0 m (pc + 1) ls (.int (xs j) :: rest))) : W p l e R s m args below meth c H locs cells slots Q (F0 m pc ls (.int (nI j) :: .ref b :: rest)) :=
  va_sld hx hb hX hbl hbA hS (vp_in_nI hj hL) hdg (by rw [nI_clamp (by omega)]; exact kk)
variable {y : MethodName} {bytes : ByteArray} {maxL nL index : Nat} {ret : Option FieldType} {hh : List (Nat × Nat × Nat × Nat)} {rm : Room} {Qc : Array Value → State → Outcome → State → Prop} {own : String} {As : List Value} {free : Addr → Prop} {mc ms : Nat}
theorem zRunSL (S0 : CallFix p m c cc nL s args WS own) (hM : Met l y (.codeWith y bytes maxL ret hh :: WS) rm (va_Pc As (fun U => zP D tys H.size w U ∧ zL (va_A w H.size) U)) Qc mc ms free) (h1 : Cond.methodLink own index y ∈ WS) (h2 : Cond.static y ∈ WS) (h4 : Cond.initialized y.cls ∈ WS) (h5 : Cond.codeWith y bytes maxL ret hh ∈ WS)
    (hrc : rm.cells = mc ∧ rm.slots = ms) (hd : y.cls ≠ "java/lang/invoke/MethodHandle" ∧ y.cls ≠ "java/lang/invoke/VarHandle" ∧ (parseMethodDescriptor y.desc).map (fun d => d.parameters.length) = some As.length) (hR : rm.frames + 1 ≤ R.frames ∧ 8 + (maxL + 11) + rm.locals ≤ R.locals)
    (hX : zL F s) (hKc : va_K D vwCl tys s) (hP : va_P D vwCl (wa ++ w) H) (hD : va_D F (wa ++ w)) (hS : va_S F s.heap H locs) (hA : ∀ q, s.heap.size ≤ q → F q) (hsize : ls.size = nL) (hst : st0 = As.reverse ++ rest) (hWt : (rest.map fun v => v.category).sum ≤ 8) (hdg : decode cc pc = .ok (.invokestatic index, 3)) (hf : cells + mc ≤ R.cells ∧ slots + ms ≤ R.slots) :
    va_Run p l e R s m args below meth c H locs cells slots mc ms (F0 m pc ls st0) rest (Qc As.toArray) free := by
  have hP' : va_P D vwCl (wa ++ (w ++ [])) H := by rw [List.append_nil]; exact hP
  have hD' : va_D F (wa ++ (w ++ [])) := by rw [List.append_nil]; exact hD
  have hp := zPreS (As := As) hKc hP' hD'
  have ht : ∀ w ∈ WS, w.before args s = true := S0.2.2.2.2
  have hF := zFree hD' hS hA
  have hG : GoodIn WS (.codeWith y bytes maxL ret hh :: WS) := WSg h5
  have cw : vx_CSW R s args own index y bytes maxL ret hh (.codeWith y bytes maxL ret hh :: WS) rm mc ms As.length := by
    refine ⟨⟨hrc.1, hrc.2, hR.1, hR.2, pay_in ht hG, List.mem_cons_self⟩, ht _ h5, ht _ h4, ⟨hd.1, hd.2.1⟩, fun sig h => ?_, ht _ h1, ht _ h2⟩
    have h9 := hd.2.2
    rw [h] at h9
    exact (Option.some.inj h9).symm
  exact vx_runSW S0 hM cw ⟨zBlindL, fun U hU hW => ⟨rfl, (hp.2 U hU hW).2, hX.call hS hF hU hW⟩⟩ rfl rfl hsize hst (lv_room hWt) hdg hf
theorem zAftiR {S : Type} {post : Int32 → S → Prop} {w' : S → va_W} {a : Array Value} (hr : va_Run p l e R s m args below meth c H locs cells slots mc ms (F0 m pc ls st0) rest (va_Qi post (fun u t => zB D tys (va_A w H.size) (w' u) t) (va_A w H.size) a) (va_A w H.size)) (hP : va_P D vwCl (wa ++ w) H) (hD : va_D F (wa ++ w)) (hS : va_S F H0 H locs) (hA : ∀ q, H0.size ≤ q → F q)
    (kk : ∀ (r : Int32) (u : S) (H1 : Heap) (locs1 : List Loc), post r u → va_P D vwCl (wa ++ w' u) H1 → va_D F (wa ++ w' u) → va_S F H0 H1 locs1 → W p l e R s m args below meth c H1 locs1 (cells + mc) (slots + ms) Q (F0 m (pc + 3) ls (.int r :: rest))) : W p l e R s m args below meth c H locs cells slots Q (F0 m pc ls st0) :=
  zAfti (wb := []) hr (by rw [List.append_nil]; exact hP) (by rw [List.append_nil]; exact hD) hS hA (fun r u H1 locs1 hp h1 h2 h3 => kk r u H1 locs1 hp (by rw [List.append_nil] at h1; exact h1) (by rw [List.append_nil] at h2; exact h2) h3)
end ZLW

set_option maxRecDepth 20000 in
set_option maxHeartbeats 4000000 in
theorem lwClear {p : Program} {l : Launch} {e : Env} {s : State} {m : MethodId} {below : List Frame} {meth : Method} {c : Code} {b L : Nat} {xs : Nat → Int32} {D : va_G} {A A2 : Nat → Nat} {C C2 : Nat → ClassId} {ob : Nat} {oc : ClassId} {F : Nat → Prop} {Q : State → Prop} (hl9 : l.stackTraces = false) (hx : p.tables.exec = Jvm.exec) (hb : c.code = cL_law) (hml : c.maxLocals = 8) (hw : ∀ w ∈ WS, w.before #[Value.ref b] s = true) (hown : s.vm.findClass "EmitDeskLaw" = some m.cls) (hX : zL F s) (hK : va_K D vwCl (tL C C2 oc) s) (hA : ∀ q, s.heap.size ≤ q → F q) (hsc : va_X b L xs s s.heap) (hbl : b < s.heap.size) (hbA : ¬ F b) (hL : L ≤ 2048) {j : Nat} {n : Nat} {ops : Nat → Int32} {nums : Nat → Int64} {vc : Nat} {vals : Nat → Int64} {d : Nat} {st st2 ce pk pv : Nat → Int64} {pr w : Nat} {key : Int64} {pl dn tk th tr : Nat} {ou : Nat → Int64} {ls : Array Slot} {H : Heap} {locs : List Loc} (hj : ¬ L < 4 * j + 4) (hi : LI n ops nums vc d pr tk dn tr) (hP : va_P D vwCl ((mW A2 C2 ops nums vals st2 ce pk pv n vc dn d pr tk th tr) ++ ((eW A C n ops nums vc vals d st ce pk pv pr w key pl dn tk tr) ++ oW ob oc ou)) H) (hD : va_D F ((mW A2 C2 ops nums vals st2 ce pk pv n vc dn d pr tk th tr) ++ ((eW A C n ops nums vc vals d st ce pk pv pr w key pl dn tk tr) ++ oW ob oc ou))) (hS : va_S F s.heap H locs) (hl : lv_has ls 8 [(4, .int (nI (4 * j))), (3, .ref ob), (2, .ref (A2 0)), (1, .ref (A 0)), (0, .ref b)]) (kk : ∀ (n : Nat) (ops : Nat → Int32) (nums : Nat → Int64) (vc : Nat) (vals : Nat → Int64) (d : Nat) (st st2 ce pk pv : Nat → Int64) (pr w : Nat) (key : Int64) (pl dn tk th tr : Nat) (ou : Nat → Int64) (ls : Array Slot) (H : Heap) (locs : List Loc), LI n ops nums vc d pr tk dn tr → va_P D vwCl ((mW A2 C2 ops nums vals st2 ce pk pv n vc dn d pr tk th tr) ++ ((eW A C n ops nums vc vals d st ce pk pv pr w key pl dn tk tr) ++ oW ob oc ou)) H → va_D F ((mW A2 C2 ops nums vals st2 ce pk pv n vc dn d pr tk th tr) ++ ((eW A C n ops nums vc vals d st ce pk pv pr w key pl dn tk tr) ++ oW ob oc ou)) → va_S F s.heap H locs → lv_has ls 8 [(4, .int (nI (4 * (j + 1)))), (3, .ref ob), (2, .ref (A2 0)), (1, .ref (A 0)), (0, .ref b)] → W p l e rL s m #[Value.ref b] below meth c H locs (17 + (j + 1)) (321 + 6 * (j + 1)) Q (F0 m 23 ls [])) : W p l e rL s m #[Value.ref b] below meth c H locs (17 + j) (321 + 6 * j) Q (F0 m 184 ls []) := by
  obtain ⟨i1, i2, i3, i4, i5, i6, i7⟩ := hi
  have hn40 := i1.1
  refine lv_aload_n hx hb dL_law_184 rfl (lv_at hl 3 rfl) ?_
  refine zAfti (wa := (mW A2 C2 ops nums vals st2 ce pk pv n vc dn d pr tk th tr)) (w := (eW A C n ops nums vc vals d st ce pk pv pr w key pl dn tk tr)) (wb := oW ob oc ou) (zRunV (wa := (mW A2 C2 ops nums vals st2 ce pk pv n vc dn d pr tk th tr)) (w := (eW A C n ops nums vc vals d st ce pk pv pr w key pl dn tk tr)) (wb := oW ob oc ou) ⟨hx, hb, hml, hown, hw⟩ (c_clear l D A C _ n ops nums vc vals d st ce pk pv pr w key pl dn tk tr) wm_L_56 wi_E_clear ws_E_clear wn_E wc_E_clear ⟨rfl, rfl⟩ wd_E_clear ⟨by decide, by decide⟩ (hK.sub [7, 8, 9, 10, 11, 12, 13] rfl) hP hD 0 rfl rfl rfl hl.1 rfl (Nat.le_of_ble_eq_true rfl) dL_law_185 ⟨(show _ ≤ 1050 by omega), (show _ ≤ 8567 by omega)⟩) hP hD hS hA (fun r u H locs hp hP hD hS => ?_)
  replace hP : va_P D vwCl ((mW A2 C2 ops nums vals st2 ce pk pv n vc dn d pr tk th tr) ++ ((eW A C 0 ops nums vc vals d st ce pk pv pr w key pl dn tk tr) ++ oW ob oc ou)) H := hP
  replace hD : va_D F ((mW A2 C2 ops nums vals st2 ce pk pv n vc dn d pr tk th tr) ++ ((eW A C 0 ops nums vc vals d st ce pk pv pr w key pl dn tk tr) ++ oW ob oc ou)) := hD
  subst hp
  refine lv_aload_n hx hb dL_law_188 rfl (lv_at hl 2 rfl) ?_
  refine zAfti (wa := []) (w := (mW A2 C2 ops nums vals st2 ce pk pv n vc dn d pr tk th tr)) (wb := (eW A C 0 ops nums vc vals d st ce pk pv pr w key pl dn tk tr) ++ oW ob oc ou) (zRunV (wa := []) (w := (mW A2 C2 ops nums vals st2 ce pk pv n vc dn d pr tk th tr)) (wb := (eW A C 0 ops nums vc vals d st ce pk pv pr w key pl dn tk tr) ++ oW ob oc ou) ⟨hx, hb, hml, hown, hw⟩ (c_M_clear l D A2 C2 _ ops nums vals st2 ce pk pv n vc dn d pr tk th tr) wm_L_59 wi_M_clear ws_M_clear wn_M wc_M_clear ⟨rfl, rfl⟩ wd_M_clear ⟨by decide, by decide⟩ (hK.sub [0, 1, 2, 3, 4, 5, 6] rfl) hP hD 1 rfl rfl rfl hl.1 rfl (Nat.le_of_ble_eq_true rfl) dL_law_189 ⟨(show _ ≤ 1050 by omega), (show _ ≤ 8567 by omega)⟩) hP hD hS hA (fun r u H locs hp hP hD hS => ?_)
  replace hP : va_P D vwCl ((mW A2 C2 ops nums vals st2 ce pk pv 0 vc dn d pr tk 0 tr) ++ ((eW A C 0 ops nums vc vals d st ce pk pv pr w key pl dn tk tr) ++ oW ob oc ou)) H := hP
  replace hD : va_D F ((mW A2 C2 ops nums vals st2 ce pk pv 0 vc dn d pr tk 0 tr) ++ ((eW A C 0 ops nums vc vals d st ce pk pv pr w key pl dn tk tr) ++ oW ob oc ou)) := hD
  subst hp
  refine zc_eq (tgt := 592) hx hb dL_law_192 rfl (by omega) (by omega) (fun _ => ?_) (fun q => absurd q (by omega))
  refine lv_iinc (k := 0) (v := nI ((4 * j) + 4)) hx hb dL_law_592 hl rfl (nI_add _ _) (by decide) rfl (fun ls hl => ?_)
  have hl : lv_has ls 8 [(4, .int (nI ((4 * j) + 4))), (3, .ref ob), (2, .ref (A2 0)), (1, .ref (A 0)), (0, .ref b)] := hl
  refine lv_goto (tgt := 23) hx hb dL_law_595 rfl ?_
  refine W.widen (k := 17 + (j + 1)) (n := 321 + 6 * (j + 1)) (by omega) (by omega) ?_
  exact kk 0 ops nums vc vals d st st2 ce pk pv pr w key pl dn tk 0 tr ou _ _ _ ⟨PI_0, i2, i3, i4, i5, i6, i7⟩ hP hD hS (lv_sub hl [0, 1, 2, 3, 4] rfl)
set_option maxRecDepth 20000 in
set_option maxHeartbeats 4000000 in
theorem lwEmpty {p : Program} {l : Launch} {e : Env} {s : State} {m : MethodId} {below : List Frame} {meth : Method} {c : Code} {b L : Nat} {xs : Nat → Int32} {D : va_G} {A A2 : Nat → Nat} {C C2 : Nat → ClassId} {ob : Nat} {oc : ClassId} {F : Nat → Prop} {Q : State → Prop} (hl9 : l.stackTraces = false) (hx : p.tables.exec = Jvm.exec) (hb : c.code = cL_law) (hml : c.maxLocals = 8) (hw : ∀ w ∈ WS, w.before #[Value.ref b] s = true) (hown : s.vm.findClass "EmitDeskLaw" = some m.cls) (hX : zL F s) (hK : va_K D vwCl (tL C C2 oc) s) (hA : ∀ q, s.heap.size ≤ q → F q) (hsc : va_X b L xs s s.heap) (hbl : b < s.heap.size) (hbA : ¬ F b) (hL : L ≤ 2048) {j : Nat} {n : Nat} {ops : Nat → Int32} {nums : Nat → Int64} {vc : Nat} {vals : Nat → Int64} {d : Nat} {st st2 ce pk pv : Nat → Int64} {pr w : Nat} {key : Int64} {pl dn tk th tr : Nat} {ou : Nat → Int64} {ls : Array Slot} {H : Heap} {locs : List Loc} (hj : ¬ L < 4 * j + 4) (hi : LI n ops nums vc d pr tk dn tr) (hP : va_P D vwCl ((mW A2 C2 ops nums vals st2 ce pk pv n vc dn d pr tk th tr) ++ ((eW A C n ops nums vc vals d st ce pk pv pr w key pl dn tk tr) ++ oW ob oc ou)) H) (hD : va_D F ((mW A2 C2 ops nums vals st2 ce pk pv n vc dn d pr tk th tr) ++ ((eW A C n ops nums vc vals d st ce pk pv pr w key pl dn tk tr) ++ oW ob oc ou))) (hS : va_S F s.heap H locs) (hl : lv_has ls 8 [(4, .int (nI (4 * j))), (3, .ref ob), (2, .ref (A2 0)), (1, .ref (A 0)), (0, .ref b)]) (kk : ∀ (n : Nat) (ops : Nat → Int32) (nums : Nat → Int64) (vc : Nat) (vals : Nat → Int64) (d : Nat) (st st2 ce pk pv : Nat → Int64) (pr w : Nat) (key : Int64) (pl dn tk th tr : Nat) (ou : Nat → Int64) (ls : Array Slot) (H : Heap) (locs : List Loc), LI n ops nums vc d pr tk dn tr → va_P D vwCl ((mW A2 C2 ops nums vals st2 ce pk pv n vc dn d pr tk th tr) ++ ((eW A C n ops nums vc vals d st ce pk pv pr w key pl dn tk tr) ++ oW ob oc ou)) H → va_D F ((mW A2 C2 ops nums vals st2 ce pk pv n vc dn d pr tk th tr) ++ ((eW A C n ops nums vc vals d st ce pk pv pr w key pl dn tk tr) ++ oW ob oc ou)) → va_S F s.heap H locs → lv_has ls 8 [(4, .int (nI (4 * (j + 1)))), (3, .ref ob), (2, .ref (A2 0)), (1, .ref (A 0)), (0, .ref b)] → W p l e rL s m #[Value.ref b] below meth c H locs (17 + (j + 1)) (321 + 6 * (j + 1)) Q (F0 m 23 ls [])) : W p l e rL s m #[Value.ref b] below meth c H locs (17 + j) (321 + 6 * j) Q (F0 m 285 ls []) := by
  obtain ⟨i1, i2, i3, i4, i5, i6, i7⟩ := hi
  have hn40 := i1.1
  refine lv_aload_n hx hb dL_law_285 rfl (lv_at hl 3 rfl) ?_
  refine zAfti (wa := (mW A2 C2 ops nums vals st2 ce pk pv n vc dn d pr tk th tr)) (w := (eW A C n ops nums vc vals d st ce pk pv pr w key pl dn tk tr)) (wb := oW ob oc ou) (zRunV (wa := (mW A2 C2 ops nums vals st2 ce pk pv n vc dn d pr tk th tr)) (w := (eW A C n ops nums vc vals d st ce pk pv pr w key pl dn tk tr)) (wb := oW ob oc ou) ⟨hx, hb, hml, hown, hw⟩ (c_empty l D A C _ n ops nums vc vals d st ce pk pv pr w key pl dn tk tr) wm_L_64 wi_E_empty ws_E_empty wn_E wc_E_empty ⟨rfl, rfl⟩ wd_E_empty ⟨by decide, by decide⟩ (hK.sub [7, 8, 9, 10, 11, 12, 13] rfl) hP hD 0 rfl rfl rfl hl.1 rfl (Nat.le_of_ble_eq_true rfl) dL_law_286 ⟨(show _ ≤ 1050 by omega), (show _ ≤ 8567 by omega)⟩) hP hD hS hA (fun r u H locs hp hP hD hS => ?_)
  replace hP : va_P D vwCl ((mW A2 C2 ops nums vals st2 ce pk pv n vc dn d pr tk th tr) ++ ((eW A C n ops nums 0 vals d st ce pk pv pr w key pl dn tk tr) ++ oW ob oc ou)) H := hP
  replace hD : va_D F ((mW A2 C2 ops nums vals st2 ce pk pv n vc dn d pr tk th tr) ++ ((eW A C n ops nums 0 vals d st ce pk pv pr w key pl dn tk tr) ++ oW ob oc ou)) := hD
  subst hp
  refine lv_aload_n hx hb dL_law_289 rfl (lv_at hl 2 rfl) ?_
  refine zAfti (wa := []) (w := (mW A2 C2 ops nums vals st2 ce pk pv n vc dn d pr tk th tr)) (wb := (eW A C n ops nums 0 vals d st ce pk pv pr w key pl dn tk tr) ++ oW ob oc ou) (zRunV (wa := []) (w := (mW A2 C2 ops nums vals st2 ce pk pv n vc dn d pr tk th tr)) (wb := (eW A C n ops nums 0 vals d st ce pk pv pr w key pl dn tk tr) ++ oW ob oc ou) ⟨hx, hb, hml, hown, hw⟩ (c_M_empty l D A2 C2 _ ops nums vals st2 ce pk pv n vc dn d pr tk th tr) wm_L_67 wi_M_empty ws_M_empty wn_M wc_M_empty ⟨rfl, rfl⟩ wd_M_empty ⟨by decide, by decide⟩ (hK.sub [0, 1, 2, 3, 4, 5, 6] rfl) hP hD 1 rfl rfl rfl hl.1 rfl (Nat.le_of_ble_eq_true rfl) dL_law_290 ⟨(show _ ≤ 1050 by omega), (show _ ≤ 8567 by omega)⟩) hP hD hS hA (fun r u H locs hp hP hD hS => ?_)
  replace hP : va_P D vwCl ((mW A2 C2 ops nums vals st2 ce pk pv n 0 dn d pr tk 0 tr) ++ ((eW A C n ops nums 0 vals d st ce pk pv pr w key pl dn tk tr) ++ oW ob oc ou)) H := hP
  replace hD : va_D F ((mW A2 C2 ops nums vals st2 ce pk pv n 0 dn d pr tk 0 tr) ++ ((eW A C n ops nums 0 vals d st ce pk pv pr w key pl dn tk tr) ++ oW ob oc ou)) := hD
  subst hp
  refine zc_eq (tgt := 592) hx hb dL_law_293 rfl (by omega) (by omega) (fun _ => ?_) (fun q => absurd q (by omega))
  refine lv_iinc (k := 0) (v := nI ((4 * j) + 4)) hx hb dL_law_592 hl rfl (nI_add _ _) (by decide) rfl (fun ls hl => ?_)
  have hl : lv_has ls 8 [(4, .int (nI ((4 * j) + 4))), (3, .ref ob), (2, .ref (A2 0)), (1, .ref (A 0)), (0, .ref b)] := hl
  refine lv_goto (tgt := 23) hx hb dL_law_595 rfl ?_
  refine W.widen (k := 17 + (j + 1)) (n := 321 + 6 * (j + 1)) (by omega) (by omega) ?_
  exact kk n ops nums 0 vals d st st2 ce pk pv pr w key pl dn tk 0 tr ou _ _ _ ⟨i1, by omega, i3, i4, i5, i6, i7⟩ hP hD hS (lv_sub hl [0, 1, 2, 3, 4] rfl)
set_option maxRecDepth 20000 in
set_option maxHeartbeats 4000000 in
theorem lwCode {p : Program} {l : Launch} {e : Env} {s : State} {m : MethodId} {below : List Frame} {meth : Method} {c : Code} {b L : Nat} {xs : Nat → Int32} {D : va_G} {A A2 : Nat → Nat} {C C2 : Nat → ClassId} {ob : Nat} {oc : ClassId} {F : Nat → Prop} {Q : State → Prop} (hl9 : l.stackTraces = false) (hx : p.tables.exec = Jvm.exec) (hb : c.code = cL_law) (hml : c.maxLocals = 8) (hw : ∀ w ∈ WS, w.before #[Value.ref b] s = true) (hown : s.vm.findClass "EmitDeskLaw" = some m.cls) (hX : zL F s) (hK : va_K D vwCl (tL C C2 oc) s) (hA : ∀ q, s.heap.size ≤ q → F q) (hsc : va_X b L xs s s.heap) (hbl : b < s.heap.size) (hbA : ¬ F b) (hL : L ≤ 2048) {j : Nat} {n : Nat} {ops : Nat → Int32} {nums : Nat → Int64} {vc : Nat} {vals : Nat → Int64} {d : Nat} {st st2 ce pk pv : Nat → Int64} {pr w : Nat} {key : Int64} {pl dn tk th tr : Nat} {ou : Nat → Int64} {ls : Array Slot} {H : Heap} {locs : List Loc} (hj : ¬ L < 4 * j + 4) (hi : LI n ops nums vc d pr tk dn tr) (hP : va_P D vwCl ((mW A2 C2 ops nums vals st2 ce pk pv n vc dn d pr tk th tr) ++ ((eW A C n ops nums vc vals d st ce pk pv pr w key pl dn tk tr) ++ oW ob oc ou)) H) (hD : va_D F ((mW A2 C2 ops nums vals st2 ce pk pv n vc dn d pr tk th tr) ++ ((eW A C n ops nums vc vals d st ce pk pv pr w key pl dn tk tr) ++ oW ob oc ou))) (hS : va_S F s.heap H locs) (hl : lv_has ls 8 [(4, .int (nI (4 * j))), (3, .ref ob), (2, .ref (A2 0)), (1, .ref (A 0)), (0, .ref b)]) (kk : ∀ (n : Nat) (ops : Nat → Int32) (nums : Nat → Int64) (vc : Nat) (vals : Nat → Int64) (d : Nat) (st st2 ce pk pv : Nat → Int64) (pr w : Nat) (key : Int64) (pl dn tk th tr : Nat) (ou : Nat → Int64) (ls : Array Slot) (H : Heap) (locs : List Loc), LI n ops nums vc d pr tk dn tr → va_P D vwCl ((mW A2 C2 ops nums vals st2 ce pk pv n vc dn d pr tk th tr) ++ ((eW A C n ops nums vc vals d st ce pk pv pr w key pl dn tk tr) ++ oW ob oc ou)) H → va_D F ((mW A2 C2 ops nums vals st2 ce pk pv n vc dn d pr tk th tr) ++ ((eW A C n ops nums vc vals d st ce pk pv pr w key pl dn tk tr) ++ oW ob oc ou)) → va_S F s.heap H locs → lv_has ls 8 [(4, .int (nI (4 * (j + 1)))), (3, .ref ob), (2, .ref (A2 0)), (1, .ref (A 0)), (0, .ref b)] → W p l e rL s m #[Value.ref b] below meth c H locs (17 + (j + 1)) (321 + 6 * (j + 1)) Q (F0 m 23 ls [])) : W p l e rL s m #[Value.ref b] below meth c H locs (17 + j) (321 + 6 * j) Q (F0 m 84 ls []) := by
  obtain ⟨i1, i2, i3, i4, i5, i6, i7⟩ := hi
  have hn40 := i1.1
  refine lv_aload_n hx hb dL_law_84 rfl (lv_at hl 3 rfl) ?_
  refine lv_aload_n hx hb dL_law_85 rfl (lv_at hl 4 rfl) ?_
  refine lv_iload hx hb dL_law_86 (lv_at hl 0 rfl) ?_
  refine lv_iconst (v := nI 1) hx hb dL_law_88 (by decide) ?_
  refine lv_iadd hx hb dL_law_89 ?_
  refine zti (nI_add _ _) ?_
  refine zSld hx hb hsc hbl hbA hS (by omega) (by omega) dL_law_90 ?_
  refine lv_aload_n hx hb dL_law_91 rfl (lv_at hl 4 rfl) ?_
  refine lv_iload hx hb dL_law_92 (lv_at hl 0 rfl) ?_
  refine lv_iconst (v := nI 2) hx hb dL_law_94 (by decide) ?_
  refine lv_iadd hx hb dL_law_95 ?_
  refine zti (nI_add _ _) ?_
  refine zSld hx hb hsc hbl hbA hS (by omega) (by omega) dL_law_96 ?_
  refine lv_i2l hx hb dL_law_97 rfl ?_
  refine lv_bipush (v := nI 32) hx hb dL_law_98 (by decide) ?_
  refine lv_lshl hx hb dL_law_100 rfl ?_
  refine lv_aload_n hx hb dL_law_101 rfl (lv_at hl 4 rfl) ?_
  refine lv_iload hx hb dL_law_102 (lv_at hl 0 rfl) ?_
  refine lv_iconst (v := nI 3) hx hb dL_law_104 (by decide) ?_
  refine lv_iadd hx hb dL_law_105 ?_
  refine zti (nI_add _ _) ?_
  refine zSld hx hb hsc hbl hbA hS (by omega) (by omega) dL_law_106 ?_
  refine lv_i2l hx hb dL_law_107 rfl ?_
  refine lv_ldc2 (v := 4294967295) hx hb hown (hw _ wl_L_44) dL_law_108 ?_
  refine lv_land hx hb dL_law_111 ?_
  refine lv_lor hx hb dL_law_112 ?_
  refine lv_topl (fun x1 ex1 => ?_)
  refine lv_aload_n hx hb dL_law_113 rfl (lv_at hl 1 rfl) ?_
  by_cases hok : okC (xs ((4 * j) + 1)) x1
  · by_cases hn4 : n < 40
    · refine zAftiR (wa := (mW A2 C2 ops nums vals st2 ce pk pv n vc dn d pr tk th tr)) (w := (eW A C n ops nums vc vals d st ce pk pv pr w key pl dn tk tr) ++ oW ob oc ou) (zRunSL (wa := (mW A2 C2 ops nums vals st2 ce pk pv n vc dn d pr tk th tr)) (w := (eW A C n ops nums vc vals d st ce pk pv pr w key pl dn tk tr) ++ oW ob oc ou) ⟨hx, hb, hml, hown, hw⟩ (c_L_code_ok l hl9 D A C ob oc ou _ n ops nums vc vals d st ce pk pv pr w key pl dn tk tr (xs ((4 * j) + 1)) x1 hok hn4) wm_L_46 wt_L_code wn_L wc_L_code ⟨rfl, rfl⟩ wd_L_code ⟨by decide, by decide⟩ hX (hK.sub [7, 8, 9, 10, 11, 12, 13, 14] rfl) hP hD hS hA hl.1 rfl (Nat.le_of_ble_eq_true rfl) dL_law_114 ⟨(show _ ≤ 1050 by omega), (show _ ≤ 8567 by omega)⟩) hP hD hS hA (fun r u H locs hp hP hD hS => ?_)
      replace hP : va_P D vwCl ((mW A2 C2 ops nums vals st2 ce pk pv n vc dn d pr tk th tr) ++ ((eW A C (n + 1) (upd ops n (xs ((4 * j) + 1))) (vp_updL nums n x1) vc vals d st ce pk pv pr w key pl dn tk tr) ++ oW ob oc (vp_updL ou 0 (lN (n + 1))))) H := hP
      replace hD : va_D F ((mW A2 C2 ops nums vals st2 ce pk pv n vc dn d pr tk th tr) ++ ((eW A C (n + 1) (upd ops n (xs ((4 * j) + 1))) (vp_updL nums n x1) vc vals d st ce pk pv pr w key pl dn tk tr) ++ oW ob oc (vp_updL ou 0 (lN (n + 1))))) := hD
      subst hp
      refine lv_istore hx hb dL_law_117 hl (by decide) rfl (fun ls hl => ?_)
      have hl : lv_has ls 8 [(5, .int (nI 0)), (4, .int (nI (4 * j))), (3, .ref ob), (2, .ref (A2 0)), (1, .ref (A 0)), (0, .ref b)] := hl
      refine lv_aload_n hx hb dL_law_119 rfl (lv_at hl 3 rfl) ?_
      refine lv_aload_n hx hb dL_law_120 rfl (lv_at hl 5 rfl) ?_
      refine lv_iload hx hb dL_law_121 (lv_at hl 1 rfl) ?_
      refine lv_iconst (v := nI 1) hx hb dL_law_123 (by decide) ?_
      refine lv_iadd hx hb dL_law_124 ?_
      refine zti (nI_add _ _) ?_
      refine zSld hx hb hsc hbl hbA hS (by omega) (by omega) dL_law_125 ?_
      refine lv_aload_n hx hb dL_law_126 rfl (lv_at hl 5 rfl) ?_
      refine lv_iload hx hb dL_law_127 (lv_at hl 1 rfl) ?_
      refine lv_iconst (v := nI 2) hx hb dL_law_129 (by decide) ?_
      refine lv_iadd hx hb dL_law_130 ?_
      refine zti (nI_add _ _) ?_
      refine zSld hx hb hsc hbl hbA hS (by omega) (by omega) dL_law_131 ?_
      refine lv_i2l hx hb dL_law_132 rfl ?_
      refine lv_bipush (v := nI 32) hx hb dL_law_133 (by decide) ?_
      refine lv_lshl hx hb dL_law_135 rfl ?_
      refine lv_aload_n hx hb dL_law_136 rfl (lv_at hl 5 rfl) ?_
      refine lv_iload hx hb dL_law_137 (lv_at hl 1 rfl) ?_
      refine lv_iconst (v := nI 3) hx hb dL_law_139 (by decide) ?_
      refine lv_iadd hx hb dL_law_140 ?_
      refine zti (nI_add _ _) ?_
      refine zSld hx hb hsc hbl hbA hS (by omega) (by omega) dL_law_141 ?_
      refine lv_i2l hx hb dL_law_142 rfl ?_
      refine lv_ldc2 (v := 4294967295) hx hb hown (hw _ wl_L_44) dL_law_143 ?_
      refine lv_land hx hb dL_law_146 ?_
      refine lv_lor hx hb dL_law_147 ?_
      refine ztl ex1.symm ?_
      refine zAfti (wa := []) (w := (mW A2 C2 ops nums vals st2 ce pk pv n vc dn d pr tk th tr)) (wb := (eW A C (n + 1) (upd ops n (xs ((4 * j) + 1))) (vp_updL nums n x1) vc vals d st ce pk pv pr w key pl dn tk tr) ++ oW ob oc (vp_updL ou 0 (lN (n + 1)))) (zRunV (wa := []) (w := (mW A2 C2 ops nums vals st2 ce pk pv n vc dn d pr tk th tr)) (wb := (eW A C (n + 1) (upd ops n (xs ((4 * j) + 1))) (vp_updL nums n x1) vc vals d st ce pk pv pr w key pl dn tk tr) ++ oW ob oc (vp_updL ou 0 (lN (n + 1)))) ⟨hx, hb, hml, hown, hw⟩ (c_M_code_ok l D A2 C2 _ ops nums vals st2 ce pk pv n vc dn d pr tk th tr (xs ((4 * j) + 1)) x1 ((z_okCM _ _).mp hok) hn4) wm_L_51 wi_M_code ws_M_code wn_M wc_M_code ⟨rfl, rfl⟩ wd_M_code ⟨by decide, by decide⟩ (hK.sub [0, 1, 2, 3, 4, 5, 6] rfl) hP hD 1 rfl rfl rfl hl.1 rfl (Nat.le_of_ble_eq_true rfl) dL_law_148 ⟨(show _ ≤ 1050 by omega), (show _ ≤ 8567 by omega)⟩) hP hD hS hA (fun r u H locs hp hP hD hS => ?_)
      replace hP : va_P D vwCl ((mW A2 C2 (upd ops n (xs ((4 * j) + 1))) (vp_updL nums n x1) vals st2 ce pk pv (n + 1) vc dn d pr tk 0 tr) ++ ((eW A C (n + 1) (upd ops n (xs ((4 * j) + 1))) (vp_updL nums n x1) vc vals d st ce pk pv pr w key pl dn tk tr) ++ oW ob oc (vp_updL ou 0 (lN (n + 1))))) H := hP
      replace hD : va_D F ((mW A2 C2 (upd ops n (xs ((4 * j) + 1))) (vp_updL nums n x1) vals st2 ce pk pv (n + 1) vc dn d pr tk 0 tr) ++ ((eW A C (n + 1) (upd ops n (xs ((4 * j) + 1))) (vp_updL nums n x1) vc vals d st ce pk pv pr w key pl dn tk tr) ++ oW ob oc (vp_updL ou 0 (lN (n + 1))))) := hD
      subst hp
      refine lv_istore hx hb dL_law_151 hl (by decide) rfl (fun ls hl => ?_)
      have hl : lv_has ls 8 [(6, .int (nI (n + 1))), (5, .int (nI 0)), (4, .int (nI (4 * j))), (3, .ref ob), (2, .ref (A2 0)), (1, .ref (A 0)), (0, .ref b)] := hl
      refine lv_aload_n hx hb dL_law_153 rfl (lv_at hl 4 rfl) ?_
      refine zAfti (wa := []) (w := (mW A2 C2 (upd ops n (xs ((4 * j) + 1))) (vp_updL nums n x1) vals st2 ce pk pv (n + 1) vc dn d pr tk 0 tr)) (wb := (eW A C (n + 1) (upd ops n (xs ((4 * j) + 1))) (vp_updL nums n x1) vc vals d st ce pk pv pr w key pl dn tk tr) ++ oW ob oc (vp_updL ou 0 (lN (n + 1)))) (zRunV (wa := []) (w := (mW A2 C2 (upd ops n (xs ((4 * j) + 1))) (vp_updL nums n x1) vals st2 ce pk pv (n + 1) vc dn d pr tk 0 tr)) (wb := (eW A C (n + 1) (upd ops n (xs ((4 * j) + 1))) (vp_updL nums n x1) vc vals d st ce pk pv pr w key pl dn tk tr) ++ oW ob oc (vp_updL ou 0 (lN (n + 1)))) ⟨hx, hb, hml, hown, hw⟩ (c_M_thrown l D A2 C2 _ (upd ops n (xs ((4 * j) + 1))) (vp_updL nums n x1) vals st2 ce pk pv (n + 1) vc dn d pr tk 0 tr) wm_L_52 wi_M_thrown ws_M_thrown wn_M wc_M_thrown ⟨rfl, rfl⟩ wd_M_thrown ⟨by decide, by decide⟩ (hK.sub [0, 1, 2, 3, 4, 5, 6] rfl) hP hD 1 rfl rfl rfl hl.1 rfl (Nat.le_of_ble_eq_true rfl) dL_law_154 ⟨(show _ ≤ 1050 by omega), (show _ ≤ 8567 by omega)⟩) hP hD hS hA (fun r u H locs hp hP hD hS => ?_)
      replace hP : va_P D vwCl ((mW A2 C2 (upd ops n (xs ((4 * j) + 1))) (vp_updL nums n x1) vals st2 ce pk pv (n + 1) vc dn d pr tk 0 tr) ++ ((eW A C (n + 1) (upd ops n (xs ((4 * j) + 1))) (vp_updL nums n x1) vc vals d st ce pk pv pr w key pl dn tk tr) ++ oW ob oc (vp_updL ou 0 (lN (n + 1))))) H := hP
      replace hD : va_D F ((mW A2 C2 (upd ops n (xs ((4 * j) + 1))) (vp_updL nums n x1) vals st2 ce pk pv (n + 1) vc dn d pr tk 0 tr) ++ ((eW A C (n + 1) (upd ops n (xs ((4 * j) + 1))) (vp_updL nums n x1) vc vals d st ce pk pv pr w key pl dn tk tr) ++ oW ob oc (vp_updL ou 0 (lN (n + 1))))) := hD
      subst hp
      refine lv_iload hx hb dL_law_157 (lv_at hl 1 rfl) ?_
      refine zc_eq (tgt := 164) hx hb dL_law_159 rfl (by omega) (by omega) (fun _ => ?_) (fun q => absurd q (by omega))
      refine lv_iload hx hb dL_law_164 (lv_at hl 1 rfl) ?_
      refine zi_ne (tgt := 181) hx hb dL_law_166 rfl (by omega) (fun q => absurd q (by omega)) (fun _ => ?_)
      refine lv_aload_n hx hb dL_law_169 rfl (lv_at hl 3 rfl) ?_
      refine lv_iconst (v := nI 0) hx hb dL_law_170 (by decide) ?_
      refine zLald hx hb hK hP 16 14 rfl rfl (by omega) (by decide) dL_law_171 ?_
      refine ztl pk_uLs ?_
      refine lv_iload hx hb dL_law_172 (lv_at hl 0 rfl) ?_
      refine lv_i2l hx hb dL_law_174 (nI_l (by omega)) ?_
      refine W.lcmp hx hb dL_law_175 ?_
      refine zl_eq (tgt := 181) hx hb dL_law_176 rfl (fun _ => ?_) (fun q => absurd q (by exact fun z => z rfl))
      refine lv_goto (tgt := 592) hx hb dL_law_181 rfl ?_
      refine lv_iinc (k := 2) (v := nI ((4 * j) + 4)) hx hb dL_law_592 hl rfl (nI_add _ _) (by decide) rfl (fun ls hl => ?_)
      have hl : lv_has ls 8 [(4, .int (nI ((4 * j) + 4))), (6, .int (nI (n + 1))), (5, .int (nI 0)), (3, .ref ob), (2, .ref (A2 0)), (1, .ref (A 0)), (0, .ref b)] := hl
      refine lv_goto (tgt := 23) hx hb dL_law_595 rfl ?_
      refine W.widen (k := 17 + (j + 1)) (n := 321 + 6 * (j + 1)) (by omega) (by omega) ?_
      exact kk (n + 1) (upd ops n (xs ((4 * j) + 1))) (vp_updL nums n x1) vc vals d st st2 ce pk pv pr w key pl dn tk 0 tr (vp_updL ou 0 (lN (n + 1))) _ _ _ ⟨PI_add i1 hn4 hok, i2, i3, i4, i5, i6, i7⟩ hP hD hS (lv_sub hl [0, 3, 4, 5, 6] rfl)
    · refine zAftiR (wa := (mW A2 C2 ops nums vals st2 ce pk pv n vc dn d pr tk th tr)) (w := (eW A C n ops nums vc vals d st ce pk pv pr w key pl dn tk tr) ++ oW ob oc ou) (zRunSL (wa := (mW A2 C2 ops nums vals st2 ce pk pv n vc dn d pr tk th tr)) (w := (eW A C n ops nums vc vals d st ce pk pv pr w key pl dn tk tr) ++ oW ob oc ou) ⟨hx, hb, hml, hown, hw⟩ (c_L_code_ise l hl9 D A C ob oc ou _ n ops nums vc vals d st ce pk pv pr w key pl dn tk tr (xs ((4 * j) + 1)) x1 hok (by omega)) wm_L_46 wt_L_code wn_L wc_L_code ⟨rfl, rfl⟩ wd_L_code ⟨by decide, by decide⟩ hX (hK.sub [7, 8, 9, 10, 11, 12, 13, 14] rfl) hP hD hS hA hl.1 rfl (Nat.le_of_ble_eq_true rfl) dL_law_114 ⟨(show _ ≤ 1050 by omega), (show _ ≤ 8567 by omega)⟩) hP hD hS hA (fun r u H locs hp hP hD hS => ?_)
      replace hP : va_P D vwCl ((mW A2 C2 ops nums vals st2 ce pk pv n vc dn d pr tk th tr) ++ ((eW A C n ops nums vc vals d st ce pk pv pr w key pl dn tk tr) ++ oW ob oc ou)) H := hP
      replace hD : va_D F ((mW A2 C2 ops nums vals st2 ce pk pv n vc dn d pr tk th tr) ++ ((eW A C n ops nums vc vals d st ce pk pv pr w key pl dn tk tr) ++ oW ob oc ou)) := hD
      subst hp
      refine lv_istore hx hb dL_law_117 hl (by decide) rfl (fun ls hl => ?_)
      have hl : lv_has ls 8 [(5, .int (nI 2)), (4, .int (nI (4 * j))), (3, .ref ob), (2, .ref (A2 0)), (1, .ref (A 0)), (0, .ref b)] := hl
      refine lv_aload_n hx hb dL_law_119 rfl (lv_at hl 3 rfl) ?_
      refine lv_aload_n hx hb dL_law_120 rfl (lv_at hl 5 rfl) ?_
      refine lv_iload hx hb dL_law_121 (lv_at hl 1 rfl) ?_
      refine lv_iconst (v := nI 1) hx hb dL_law_123 (by decide) ?_
      refine lv_iadd hx hb dL_law_124 ?_
      refine zti (nI_add _ _) ?_
      refine zSld hx hb hsc hbl hbA hS (by omega) (by omega) dL_law_125 ?_
      refine lv_aload_n hx hb dL_law_126 rfl (lv_at hl 5 rfl) ?_
      refine lv_iload hx hb dL_law_127 (lv_at hl 1 rfl) ?_
      refine lv_iconst (v := nI 2) hx hb dL_law_129 (by decide) ?_
      refine lv_iadd hx hb dL_law_130 ?_
      refine zti (nI_add _ _) ?_
      refine zSld hx hb hsc hbl hbA hS (by omega) (by omega) dL_law_131 ?_
      refine lv_i2l hx hb dL_law_132 rfl ?_
      refine lv_bipush (v := nI 32) hx hb dL_law_133 (by decide) ?_
      refine lv_lshl hx hb dL_law_135 rfl ?_
      refine lv_aload_n hx hb dL_law_136 rfl (lv_at hl 5 rfl) ?_
      refine lv_iload hx hb dL_law_137 (lv_at hl 1 rfl) ?_
      refine lv_iconst (v := nI 3) hx hb dL_law_139 (by decide) ?_
      refine lv_iadd hx hb dL_law_140 ?_
      refine zti (nI_add _ _) ?_
      refine zSld hx hb hsc hbl hbA hS (by omega) (by omega) dL_law_141 ?_
      refine lv_i2l hx hb dL_law_142 rfl ?_
      refine lv_ldc2 (v := 4294967295) hx hb hown (hw _ wl_L_44) dL_law_143 ?_
      refine lv_land hx hb dL_law_146 ?_
      refine lv_lor hx hb dL_law_147 ?_
      refine ztl ex1.symm ?_
      refine zAfti (wa := []) (w := (mW A2 C2 ops nums vals st2 ce pk pv n vc dn d pr tk th tr)) (wb := (eW A C n ops nums vc vals d st ce pk pv pr w key pl dn tk tr) ++ oW ob oc ou) (zRunV (wa := []) (w := (mW A2 C2 ops nums vals st2 ce pk pv n vc dn d pr tk th tr)) (wb := (eW A C n ops nums vc vals d st ce pk pv pr w key pl dn tk tr) ++ oW ob oc ou) ⟨hx, hb, hml, hown, hw⟩ (c_M_code_full l D A2 C2 _ ops nums vals st2 ce pk pv n vc dn d pr tk th tr (xs ((4 * j) + 1)) x1 ((z_okCM _ _).mp hok) (by omega)) wm_L_51 wi_M_code ws_M_code wn_M wc_M_code ⟨rfl, rfl⟩ wd_M_code ⟨by decide, by decide⟩ (hK.sub [0, 1, 2, 3, 4, 5, 6] rfl) hP hD 1 rfl rfl rfl hl.1 rfl (Nat.le_of_ble_eq_true rfl) dL_law_148 ⟨(show _ ≤ 1050 by omega), (show _ ≤ 8567 by omega)⟩) hP hD hS hA (fun r u H locs hp hP hD hS => ?_)
      replace hP : va_P D vwCl ((mW A2 C2 ops nums vals st2 ce pk pv n vc dn d pr tk 2 tr) ++ ((eW A C n ops nums vc vals d st ce pk pv pr w key pl dn tk tr) ++ oW ob oc ou)) H := hP
      replace hD : va_D F ((mW A2 C2 ops nums vals st2 ce pk pv n vc dn d pr tk 2 tr) ++ ((eW A C n ops nums vc vals d st ce pk pv pr w key pl dn tk tr) ++ oW ob oc ou)) := hD
      subst hp
      refine lv_istore hx hb dL_law_151 hl (by decide) rfl (fun ls hl => ?_)
      have hl : lv_has ls 8 [(6, .int (nI 0)), (5, .int (nI 2)), (4, .int (nI (4 * j))), (3, .ref ob), (2, .ref (A2 0)), (1, .ref (A 0)), (0, .ref b)] := hl
      refine lv_aload_n hx hb dL_law_153 rfl (lv_at hl 4 rfl) ?_
      refine zAfti (wa := []) (w := (mW A2 C2 ops nums vals st2 ce pk pv n vc dn d pr tk 2 tr)) (wb := (eW A C n ops nums vc vals d st ce pk pv pr w key pl dn tk tr) ++ oW ob oc ou) (zRunV (wa := []) (w := (mW A2 C2 ops nums vals st2 ce pk pv n vc dn d pr tk 2 tr)) (wb := (eW A C n ops nums vc vals d st ce pk pv pr w key pl dn tk tr) ++ oW ob oc ou) ⟨hx, hb, hml, hown, hw⟩ (c_M_thrown l D A2 C2 _ ops nums vals st2 ce pk pv n vc dn d pr tk 2 tr) wm_L_52 wi_M_thrown ws_M_thrown wn_M wc_M_thrown ⟨rfl, rfl⟩ wd_M_thrown ⟨by decide, by decide⟩ (hK.sub [0, 1, 2, 3, 4, 5, 6] rfl) hP hD 1 rfl rfl rfl hl.1 rfl (Nat.le_of_ble_eq_true rfl) dL_law_154 ⟨(show _ ≤ 1050 by omega), (show _ ≤ 8567 by omega)⟩) hP hD hS hA (fun r u H locs hp hP hD hS => ?_)
      replace hP : va_P D vwCl ((mW A2 C2 ops nums vals st2 ce pk pv n vc dn d pr tk 2 tr) ++ ((eW A C n ops nums vc vals d st ce pk pv pr w key pl dn tk tr) ++ oW ob oc ou)) H := hP
      replace hD : va_D F ((mW A2 C2 ops nums vals st2 ce pk pv n vc dn d pr tk 2 tr) ++ ((eW A C n ops nums vc vals d st ce pk pv pr w key pl dn tk tr) ++ oW ob oc ou)) := hD
      subst hp
      refine lv_iload hx hb dL_law_157 (lv_at hl 1 rfl) ?_
      refine zc_eq (tgt := 164) hx hb dL_law_159 rfl (by omega) (by omega) (fun _ => ?_) (fun q => absurd q (by omega))
      refine lv_iload hx hb dL_law_164 (lv_at hl 1 rfl) ?_
      refine zi_ne (tgt := 181) hx hb dL_law_166 rfl (by omega) (fun _ => ?_) (fun q => absurd q (by omega))
      refine lv_goto (tgt := 592) hx hb dL_law_181 rfl ?_
      refine lv_iinc (k := 2) (v := nI ((4 * j) + 4)) hx hb dL_law_592 hl rfl (nI_add _ _) (by decide) rfl (fun ls hl => ?_)
      have hl : lv_has ls 8 [(4, .int (nI ((4 * j) + 4))), (6, .int (nI 0)), (5, .int (nI 2)), (3, .ref ob), (2, .ref (A2 0)), (1, .ref (A 0)), (0, .ref b)] := hl
      refine lv_goto (tgt := 23) hx hb dL_law_595 rfl ?_
      refine W.widen (k := 17 + (j + 1)) (n := 321 + 6 * (j + 1)) (by omega) (by omega) ?_
      exact kk n ops nums vc vals d st st2 ce pk pv pr w key pl dn tk 2 tr ou _ _ _ ⟨i1, i2, i3, i4, i5, i6, i7⟩ hP hD hS (lv_sub hl [0, 3, 4, 5, 6] rfl)
  · refine zAftiR (wa := (mW A2 C2 ops nums vals st2 ce pk pv n vc dn d pr tk th tr)) (w := (eW A C n ops nums vc vals d st ce pk pv pr w key pl dn tk tr) ++ oW ob oc ou) (zRunSL (wa := (mW A2 C2 ops nums vals st2 ce pk pv n vc dn d pr tk th tr)) (w := (eW A C n ops nums vc vals d st ce pk pv pr w key pl dn tk tr) ++ oW ob oc ou) ⟨hx, hb, hml, hown, hw⟩ (c_L_code_iae l hl9 D A C ob oc ou _ n ops nums vc vals d st ce pk pv pr w key pl dn tk tr (xs ((4 * j) + 1)) x1 hok) wm_L_46 wt_L_code wn_L wc_L_code ⟨rfl, rfl⟩ wd_L_code ⟨by decide, by decide⟩ hX (hK.sub [7, 8, 9, 10, 11, 12, 13, 14] rfl) hP hD hS hA hl.1 rfl (Nat.le_of_ble_eq_true rfl) dL_law_114 ⟨(show _ ≤ 1050 by omega), (show _ ≤ 8567 by omega)⟩) hP hD hS hA (fun r u H locs hp hP hD hS => ?_)
    replace hP : va_P D vwCl ((mW A2 C2 ops nums vals st2 ce pk pv n vc dn d pr tk th tr) ++ ((eW A C n ops nums vc vals d st ce pk pv pr w key pl dn tk tr) ++ oW ob oc ou)) H := hP
    replace hD : va_D F ((mW A2 C2 ops nums vals st2 ce pk pv n vc dn d pr tk th tr) ++ ((eW A C n ops nums vc vals d st ce pk pv pr w key pl dn tk tr) ++ oW ob oc ou)) := hD
    subst hp
    refine lv_istore hx hb dL_law_117 hl (by decide) rfl (fun ls hl => ?_)
    have hl : lv_has ls 8 [(5, .int (nI 1)), (4, .int (nI (4 * j))), (3, .ref ob), (2, .ref (A2 0)), (1, .ref (A 0)), (0, .ref b)] := hl
    refine lv_aload_n hx hb dL_law_119 rfl (lv_at hl 3 rfl) ?_
    refine lv_aload_n hx hb dL_law_120 rfl (lv_at hl 5 rfl) ?_
    refine lv_iload hx hb dL_law_121 (lv_at hl 1 rfl) ?_
    refine lv_iconst (v := nI 1) hx hb dL_law_123 (by decide) ?_
    refine lv_iadd hx hb dL_law_124 ?_
    refine zti (nI_add _ _) ?_
    refine zSld hx hb hsc hbl hbA hS (by omega) (by omega) dL_law_125 ?_
    refine lv_aload_n hx hb dL_law_126 rfl (lv_at hl 5 rfl) ?_
    refine lv_iload hx hb dL_law_127 (lv_at hl 1 rfl) ?_
    refine lv_iconst (v := nI 2) hx hb dL_law_129 (by decide) ?_
    refine lv_iadd hx hb dL_law_130 ?_
    refine zti (nI_add _ _) ?_
    refine zSld hx hb hsc hbl hbA hS (by omega) (by omega) dL_law_131 ?_
    refine lv_i2l hx hb dL_law_132 rfl ?_
    refine lv_bipush (v := nI 32) hx hb dL_law_133 (by decide) ?_
    refine lv_lshl hx hb dL_law_135 rfl ?_
    refine lv_aload_n hx hb dL_law_136 rfl (lv_at hl 5 rfl) ?_
    refine lv_iload hx hb dL_law_137 (lv_at hl 1 rfl) ?_
    refine lv_iconst (v := nI 3) hx hb dL_law_139 (by decide) ?_
    refine lv_iadd hx hb dL_law_140 ?_
    refine zti (nI_add _ _) ?_
    refine zSld hx hb hsc hbl hbA hS (by omega) (by omega) dL_law_141 ?_
    refine lv_i2l hx hb dL_law_142 rfl ?_
    refine lv_ldc2 (v := 4294967295) hx hb hown (hw _ wl_L_44) dL_law_143 ?_
    refine lv_land hx hb dL_law_146 ?_
    refine lv_lor hx hb dL_law_147 ?_
    refine ztl ex1.symm ?_
    refine zAfti (wa := []) (w := (mW A2 C2 ops nums vals st2 ce pk pv n vc dn d pr tk th tr)) (wb := (eW A C n ops nums vc vals d st ce pk pv pr w key pl dn tk tr) ++ oW ob oc ou) (zRunV (wa := []) (w := (mW A2 C2 ops nums vals st2 ce pk pv n vc dn d pr tk th tr)) (wb := (eW A C n ops nums vc vals d st ce pk pv pr w key pl dn tk tr) ++ oW ob oc ou) ⟨hx, hb, hml, hown, hw⟩ (c_M_code_bad l D A2 C2 _ ops nums vals st2 ce pk pv n vc dn d pr tk th tr (xs ((4 * j) + 1)) x1 (fun z => hok ((z_okCM _ _).mpr z))) wm_L_51 wi_M_code ws_M_code wn_M wc_M_code ⟨rfl, rfl⟩ wd_M_code ⟨by decide, by decide⟩ (hK.sub [0, 1, 2, 3, 4, 5, 6] rfl) hP hD 1 rfl rfl rfl hl.1 rfl (Nat.le_of_ble_eq_true rfl) dL_law_148 ⟨(show _ ≤ 1050 by omega), (show _ ≤ 8567 by omega)⟩) hP hD hS hA (fun r u H locs hp hP hD hS => ?_)
    replace hP : va_P D vwCl ((mW A2 C2 ops nums vals st2 ce pk pv n vc dn d pr tk 1 tr) ++ ((eW A C n ops nums vc vals d st ce pk pv pr w key pl dn tk tr) ++ oW ob oc ou)) H := hP
    replace hD : va_D F ((mW A2 C2 ops nums vals st2 ce pk pv n vc dn d pr tk 1 tr) ++ ((eW A C n ops nums vc vals d st ce pk pv pr w key pl dn tk tr) ++ oW ob oc ou)) := hD
    subst hp
    refine lv_istore hx hb dL_law_151 hl (by decide) rfl (fun ls hl => ?_)
    have hl : lv_has ls 8 [(6, .int (nI 0)), (5, .int (nI 1)), (4, .int (nI (4 * j))), (3, .ref ob), (2, .ref (A2 0)), (1, .ref (A 0)), (0, .ref b)] := hl
    refine lv_aload_n hx hb dL_law_153 rfl (lv_at hl 4 rfl) ?_
    refine zAfti (wa := []) (w := (mW A2 C2 ops nums vals st2 ce pk pv n vc dn d pr tk 1 tr)) (wb := (eW A C n ops nums vc vals d st ce pk pv pr w key pl dn tk tr) ++ oW ob oc ou) (zRunV (wa := []) (w := (mW A2 C2 ops nums vals st2 ce pk pv n vc dn d pr tk 1 tr)) (wb := (eW A C n ops nums vc vals d st ce pk pv pr w key pl dn tk tr) ++ oW ob oc ou) ⟨hx, hb, hml, hown, hw⟩ (c_M_thrown l D A2 C2 _ ops nums vals st2 ce pk pv n vc dn d pr tk 1 tr) wm_L_52 wi_M_thrown ws_M_thrown wn_M wc_M_thrown ⟨rfl, rfl⟩ wd_M_thrown ⟨by decide, by decide⟩ (hK.sub [0, 1, 2, 3, 4, 5, 6] rfl) hP hD 1 rfl rfl rfl hl.1 rfl (Nat.le_of_ble_eq_true rfl) dL_law_154 ⟨(show _ ≤ 1050 by omega), (show _ ≤ 8567 by omega)⟩) hP hD hS hA (fun r u H locs hp hP hD hS => ?_)
    replace hP : va_P D vwCl ((mW A2 C2 ops nums vals st2 ce pk pv n vc dn d pr tk 1 tr) ++ ((eW A C n ops nums vc vals d st ce pk pv pr w key pl dn tk tr) ++ oW ob oc ou)) H := hP
    replace hD : va_D F ((mW A2 C2 ops nums vals st2 ce pk pv n vc dn d pr tk 1 tr) ++ ((eW A C n ops nums vc vals d st ce pk pv pr w key pl dn tk tr) ++ oW ob oc ou)) := hD
    subst hp
    refine lv_iload hx hb dL_law_157 (lv_at hl 1 rfl) ?_
    refine zc_eq (tgt := 164) hx hb dL_law_159 rfl (by omega) (by omega) (fun _ => ?_) (fun q => absurd q (by omega))
    refine lv_iload hx hb dL_law_164 (lv_at hl 1 rfl) ?_
    refine zi_ne (tgt := 181) hx hb dL_law_166 rfl (by omega) (fun _ => ?_) (fun q => absurd q (by omega))
    refine lv_goto (tgt := 592) hx hb dL_law_181 rfl ?_
    refine lv_iinc (k := 2) (v := nI ((4 * j) + 4)) hx hb dL_law_592 hl rfl (nI_add _ _) (by decide) rfl (fun ls hl => ?_)
    have hl : lv_has ls 8 [(4, .int (nI ((4 * j) + 4))), (6, .int (nI 0)), (5, .int (nI 1)), (3, .ref ob), (2, .ref (A2 0)), (1, .ref (A 0)), (0, .ref b)] := hl
    refine lv_goto (tgt := 23) hx hb dL_law_595 rfl ?_
    refine W.widen (k := 17 + (j + 1)) (n := 321 + 6 * (j + 1)) (by omega) (by omega) ?_
    exact kk n ops nums vc vals d st st2 ce pk pv pr w key pl dn tk 1 tr ou _ _ _ ⟨i1, i2, i3, i4, i5, i6, i7⟩ hP hD hS (lv_sub hl [0, 3, 4, 5, 6] rfl)
set_option maxRecDepth 20000 in
set_option maxHeartbeats 4000000 in
theorem lwValue {p : Program} {l : Launch} {e : Env} {s : State} {m : MethodId} {below : List Frame} {meth : Method} {c : Code} {b L : Nat} {xs : Nat → Int32} {D : va_G} {A A2 : Nat → Nat} {C C2 : Nat → ClassId} {ob : Nat} {oc : ClassId} {F : Nat → Prop} {Q : State → Prop} (hl9 : l.stackTraces = false) (hx : p.tables.exec = Jvm.exec) (hb : c.code = cL_law) (hml : c.maxLocals = 8) (hw : ∀ w ∈ WS, w.before #[Value.ref b] s = true) (hown : s.vm.findClass "EmitDeskLaw" = some m.cls) (hX : zL F s) (hK : va_K D vwCl (tL C C2 oc) s) (hA : ∀ q, s.heap.size ≤ q → F q) (hsc : va_X b L xs s s.heap) (hbl : b < s.heap.size) (hbA : ¬ F b) (hL : L ≤ 2048) {j : Nat} {n : Nat} {ops : Nat → Int32} {nums : Nat → Int64} {vc : Nat} {vals : Nat → Int64} {d : Nat} {st st2 ce pk pv : Nat → Int64} {pr w : Nat} {key : Int64} {pl dn tk th tr : Nat} {ou : Nat → Int64} {ls : Array Slot} {H : Heap} {locs : List Loc} (hj : ¬ L < 4 * j + 4) (hi : LI n ops nums vc d pr tk dn tr) (hP : va_P D vwCl ((mW A2 C2 ops nums vals st2 ce pk pv n vc dn d pr tk th tr) ++ ((eW A C n ops nums vc vals d st ce pk pv pr w key pl dn tk tr) ++ oW ob oc ou)) H) (hD : va_D F ((mW A2 C2 ops nums vals st2 ce pk pv n vc dn d pr tk th tr) ++ ((eW A C n ops nums vc vals d st ce pk pv pr w key pl dn tk tr) ++ oW ob oc ou))) (hS : va_S F s.heap H locs) (hl : lv_has ls 8 [(4, .int (nI (4 * j))), (3, .ref ob), (2, .ref (A2 0)), (1, .ref (A 0)), (0, .ref b)]) (kk : ∀ (n : Nat) (ops : Nat → Int32) (nums : Nat → Int64) (vc : Nat) (vals : Nat → Int64) (d : Nat) (st st2 ce pk pv : Nat → Int64) (pr w : Nat) (key : Int64) (pl dn tk th tr : Nat) (ou : Nat → Int64) (ls : Array Slot) (H : Heap) (locs : List Loc), LI n ops nums vc d pr tk dn tr → va_P D vwCl ((mW A2 C2 ops nums vals st2 ce pk pv n vc dn d pr tk th tr) ++ ((eW A C n ops nums vc vals d st ce pk pv pr w key pl dn tk tr) ++ oW ob oc ou)) H → va_D F ((mW A2 C2 ops nums vals st2 ce pk pv n vc dn d pr tk th tr) ++ ((eW A C n ops nums vc vals d st ce pk pv pr w key pl dn tk tr) ++ oW ob oc ou)) → va_S F s.heap H locs → lv_has ls 8 [(4, .int (nI (4 * (j + 1)))), (3, .ref ob), (2, .ref (A2 0)), (1, .ref (A 0)), (0, .ref b)] → W p l e rL s m #[Value.ref b] below meth c H locs (17 + (j + 1)) (321 + 6 * (j + 1)) Q (F0 m 23 ls [])) : W p l e rL s m #[Value.ref b] below meth c H locs (17 + j) (321 + 6 * j) Q (F0 m 197 ls []) := by
  obtain ⟨i1, i2, i3, i4, i5, i6, i7⟩ := hi
  have hn40 := i1.1
  refine lv_aload_n hx hb dL_law_197 rfl (lv_at hl 3 rfl) ?_
  refine lv_aload_n hx hb dL_law_198 rfl (lv_at hl 4 rfl) ?_
  refine lv_iload hx hb dL_law_199 (lv_at hl 0 rfl) ?_
  refine lv_iconst (v := nI 1) hx hb dL_law_201 (by decide) ?_
  refine lv_iadd hx hb dL_law_202 ?_
  refine zti (nI_add _ _) ?_
  refine zSld hx hb hsc hbl hbA hS (by omega) (by omega) dL_law_203 ?_
  refine lv_i2l hx hb dL_law_204 rfl ?_
  refine lv_bipush (v := nI 32) hx hb dL_law_205 (by decide) ?_
  refine lv_lshl hx hb dL_law_207 rfl ?_
  refine lv_aload_n hx hb dL_law_208 rfl (lv_at hl 4 rfl) ?_
  refine lv_iload hx hb dL_law_209 (lv_at hl 0 rfl) ?_
  refine lv_iconst (v := nI 2) hx hb dL_law_211 (by decide) ?_
  refine lv_iadd hx hb dL_law_212 ?_
  refine zti (nI_add _ _) ?_
  refine zSld hx hb hsc hbl hbA hS (by omega) (by omega) dL_law_213 ?_
  refine lv_i2l hx hb dL_law_214 rfl ?_
  refine lv_ldc2 (v := 4294967295) hx hb hown (hw _ wl_L_44) dL_law_215 ?_
  refine lv_land hx hb dL_law_218 ?_
  refine lv_lor hx hb dL_law_219 ?_
  refine lv_topl (fun x1 ex1 => ?_)
  refine lv_aload_n hx hb dL_law_220 rfl (lv_at hl 1 rfl) ?_
  by_cases hv : vc < 40
  · refine zAftiR (wa := (mW A2 C2 ops nums vals st2 ce pk pv n vc dn d pr tk th tr)) (w := (eW A C n ops nums vc vals d st ce pk pv pr w key pl dn tk tr) ++ oW ob oc ou) (zRunSL (wa := (mW A2 C2 ops nums vals st2 ce pk pv n vc dn d pr tk th tr)) (w := (eW A C n ops nums vc vals d st ce pk pv pr w key pl dn tk tr) ++ oW ob oc ou) ⟨hx, hb, hml, hown, hw⟩ (c_L_value_ok l hl9 D A C ob oc ou _ n ops nums vc vals d st ce pk pv pr w key pl dn tk tr x1 hv) wm_L_60 wt_L_value wn_L wc_L_value ⟨rfl, rfl⟩ wd_L_value ⟨by decide, by decide⟩ hX (hK.sub [7, 8, 9, 10, 11, 12, 13, 14] rfl) hP hD hS hA hl.1 rfl (Nat.le_of_ble_eq_true rfl) dL_law_221 ⟨(show _ ≤ 1050 by omega), (show _ ≤ 8567 by omega)⟩) hP hD hS hA (fun r u H locs hp hP hD hS => ?_)
    replace hP : va_P D vwCl ((mW A2 C2 ops nums vals st2 ce pk pv n vc dn d pr tk th tr) ++ ((eW A C n ops nums (vc + 1) (vp_updL vals vc x1) d st ce pk pv pr w key pl dn tk tr) ++ oW ob oc (vp_updL ou 0 (lN (vc + 1))))) H := hP
    replace hD : va_D F ((mW A2 C2 ops nums vals st2 ce pk pv n vc dn d pr tk th tr) ++ ((eW A C n ops nums (vc + 1) (vp_updL vals vc x1) d st ce pk pv pr w key pl dn tk tr) ++ oW ob oc (vp_updL ou 0 (lN (vc + 1))))) := hD
    subst hp
    refine lv_istore hx hb dL_law_224 hl (by decide) rfl (fun ls hl => ?_)
    have hl : lv_has ls 8 [(5, .int (nI 0)), (4, .int (nI (4 * j))), (3, .ref ob), (2, .ref (A2 0)), (1, .ref (A 0)), (0, .ref b)] := hl
    refine lv_aload_n hx hb dL_law_226 rfl (lv_at hl 3 rfl) ?_
    refine lv_aload_n hx hb dL_law_227 rfl (lv_at hl 5 rfl) ?_
    refine lv_iload hx hb dL_law_228 (lv_at hl 1 rfl) ?_
    refine lv_iconst (v := nI 1) hx hb dL_law_230 (by decide) ?_
    refine lv_iadd hx hb dL_law_231 ?_
    refine zti (nI_add _ _) ?_
    refine zSld hx hb hsc hbl hbA hS (by omega) (by omega) dL_law_232 ?_
    refine lv_i2l hx hb dL_law_233 rfl ?_
    refine lv_bipush (v := nI 32) hx hb dL_law_234 (by decide) ?_
    refine lv_lshl hx hb dL_law_236 rfl ?_
    refine lv_aload_n hx hb dL_law_237 rfl (lv_at hl 5 rfl) ?_
    refine lv_iload hx hb dL_law_238 (lv_at hl 1 rfl) ?_
    refine lv_iconst (v := nI 2) hx hb dL_law_240 (by decide) ?_
    refine lv_iadd hx hb dL_law_241 ?_
    refine zti (nI_add _ _) ?_
    refine zSld hx hb hsc hbl hbA hS (by omega) (by omega) dL_law_242 ?_
    refine lv_i2l hx hb dL_law_243 rfl ?_
    refine lv_ldc2 (v := 4294967295) hx hb hown (hw _ wl_L_44) dL_law_244 ?_
    refine lv_land hx hb dL_law_247 ?_
    refine lv_lor hx hb dL_law_248 ?_
    refine ztl ex1.symm ?_
    refine zAfti (wa := []) (w := (mW A2 C2 ops nums vals st2 ce pk pv n vc dn d pr tk th tr)) (wb := (eW A C n ops nums (vc + 1) (vp_updL vals vc x1) d st ce pk pv pr w key pl dn tk tr) ++ oW ob oc (vp_updL ou 0 (lN (vc + 1)))) (zRunV (wa := []) (w := (mW A2 C2 ops nums vals st2 ce pk pv n vc dn d pr tk th tr)) (wb := (eW A C n ops nums (vc + 1) (vp_updL vals vc x1) d st ce pk pv pr w key pl dn tk tr) ++ oW ob oc (vp_updL ou 0 (lN (vc + 1)))) ⟨hx, hb, hml, hown, hw⟩ (c_M_value_ok l D A2 C2 _ ops nums vals st2 ce pk pv n vc dn d pr tk th tr x1 hv) wm_L_63 wi_M_value ws_M_value wn_M wc_M_value ⟨rfl, rfl⟩ wd_M_value ⟨by decide, by decide⟩ (hK.sub [0, 1, 2, 3, 4, 5, 6] rfl) hP hD 1 rfl rfl rfl hl.1 rfl (Nat.le_of_ble_eq_true rfl) dL_law_249 ⟨(show _ ≤ 1050 by omega), (show _ ≤ 8567 by omega)⟩) hP hD hS hA (fun r u H locs hp hP hD hS => ?_)
    replace hP : va_P D vwCl ((mW A2 C2 ops nums (vp_updL vals vc x1) st2 ce pk pv n (vc + 1) dn d pr tk 0 tr) ++ ((eW A C n ops nums (vc + 1) (vp_updL vals vc x1) d st ce pk pv pr w key pl dn tk tr) ++ oW ob oc (vp_updL ou 0 (lN (vc + 1))))) H := hP
    replace hD : va_D F ((mW A2 C2 ops nums (vp_updL vals vc x1) st2 ce pk pv n (vc + 1) dn d pr tk 0 tr) ++ ((eW A C n ops nums (vc + 1) (vp_updL vals vc x1) d st ce pk pv pr w key pl dn tk tr) ++ oW ob oc (vp_updL ou 0 (lN (vc + 1))))) := hD
    subst hp
    refine lv_istore hx hb dL_law_252 hl (by decide) rfl (fun ls hl => ?_)
    have hl : lv_has ls 8 [(6, .int (nI (vc + 1))), (5, .int (nI 0)), (4, .int (nI (4 * j))), (3, .ref ob), (2, .ref (A2 0)), (1, .ref (A 0)), (0, .ref b)] := hl
    refine lv_aload_n hx hb dL_law_254 rfl (lv_at hl 4 rfl) ?_
    refine zAfti (wa := []) (w := (mW A2 C2 ops nums (vp_updL vals vc x1) st2 ce pk pv n (vc + 1) dn d pr tk 0 tr)) (wb := (eW A C n ops nums (vc + 1) (vp_updL vals vc x1) d st ce pk pv pr w key pl dn tk tr) ++ oW ob oc (vp_updL ou 0 (lN (vc + 1)))) (zRunV (wa := []) (w := (mW A2 C2 ops nums (vp_updL vals vc x1) st2 ce pk pv n (vc + 1) dn d pr tk 0 tr)) (wb := (eW A C n ops nums (vc + 1) (vp_updL vals vc x1) d st ce pk pv pr w key pl dn tk tr) ++ oW ob oc (vp_updL ou 0 (lN (vc + 1)))) ⟨hx, hb, hml, hown, hw⟩ (c_M_thrown l D A2 C2 _ ops nums (vp_updL vals vc x1) st2 ce pk pv n (vc + 1) dn d pr tk 0 tr) wm_L_52 wi_M_thrown ws_M_thrown wn_M wc_M_thrown ⟨rfl, rfl⟩ wd_M_thrown ⟨by decide, by decide⟩ (hK.sub [0, 1, 2, 3, 4, 5, 6] rfl) hP hD 1 rfl rfl rfl hl.1 rfl (Nat.le_of_ble_eq_true rfl) dL_law_255 ⟨(show _ ≤ 1050 by omega), (show _ ≤ 8567 by omega)⟩) hP hD hS hA (fun r u H locs hp hP hD hS => ?_)
    replace hP : va_P D vwCl ((mW A2 C2 ops nums (vp_updL vals vc x1) st2 ce pk pv n (vc + 1) dn d pr tk 0 tr) ++ ((eW A C n ops nums (vc + 1) (vp_updL vals vc x1) d st ce pk pv pr w key pl dn tk tr) ++ oW ob oc (vp_updL ou 0 (lN (vc + 1))))) H := hP
    replace hD : va_D F ((mW A2 C2 ops nums (vp_updL vals vc x1) st2 ce pk pv n (vc + 1) dn d pr tk 0 tr) ++ ((eW A C n ops nums (vc + 1) (vp_updL vals vc x1) d st ce pk pv pr w key pl dn tk tr) ++ oW ob oc (vp_updL ou 0 (lN (vc + 1))))) := hD
    subst hp
    refine lv_iload hx hb dL_law_258 (lv_at hl 1 rfl) ?_
    refine zc_eq (tgt := 265) hx hb dL_law_260 rfl (by omega) (by omega) (fun _ => ?_) (fun q => absurd q (by omega))
    refine lv_iload hx hb dL_law_265 (lv_at hl 1 rfl) ?_
    refine zi_ne (tgt := 282) hx hb dL_law_267 rfl (by omega) (fun q => absurd q (by omega)) (fun _ => ?_)
    refine lv_aload_n hx hb dL_law_270 rfl (lv_at hl 3 rfl) ?_
    refine lv_iconst (v := nI 0) hx hb dL_law_271 (by decide) ?_
    refine zLald hx hb hK hP 16 14 rfl rfl (by omega) (by decide) dL_law_272 ?_
    refine ztl pk_uLs ?_
    refine lv_iload hx hb dL_law_273 (lv_at hl 0 rfl) ?_
    refine lv_i2l hx hb dL_law_275 (nI_l (by omega)) ?_
    refine W.lcmp hx hb dL_law_276 ?_
    refine zl_eq (tgt := 282) hx hb dL_law_277 rfl (fun _ => ?_) (fun q => absurd q (by exact fun z => z rfl))
    refine lv_goto (tgt := 592) hx hb dL_law_282 rfl ?_
    refine lv_iinc (k := 2) (v := nI ((4 * j) + 4)) hx hb dL_law_592 hl rfl (nI_add _ _) (by decide) rfl (fun ls hl => ?_)
    have hl : lv_has ls 8 [(4, .int (nI ((4 * j) + 4))), (6, .int (nI (vc + 1))), (5, .int (nI 0)), (3, .ref ob), (2, .ref (A2 0)), (1, .ref (A 0)), (0, .ref b)] := hl
    refine lv_goto (tgt := 23) hx hb dL_law_595 rfl ?_
    refine W.widen (k := 17 + (j + 1)) (n := 321 + 6 * (j + 1)) (by omega) (by omega) ?_
    exact kk n ops nums (vc + 1) (vp_updL vals vc x1) d st st2 ce pk pv pr w key pl dn tk 0 tr (vp_updL ou 0 (lN (vc + 1))) _ _ _ ⟨i1, by omega, i3, i4, i5, i6, i7⟩ hP hD hS (lv_sub hl [0, 3, 4, 5, 6] rfl)
  · refine zAftiR (wa := (mW A2 C2 ops nums vals st2 ce pk pv n vc dn d pr tk th tr)) (w := (eW A C n ops nums vc vals d st ce pk pv pr w key pl dn tk tr) ++ oW ob oc ou) (zRunSL (wa := (mW A2 C2 ops nums vals st2 ce pk pv n vc dn d pr tk th tr)) (w := (eW A C n ops nums vc vals d st ce pk pv pr w key pl dn tk tr) ++ oW ob oc ou) ⟨hx, hb, hml, hown, hw⟩ (c_L_value_ise l hl9 D A C ob oc ou _ n ops nums vc vals d st ce pk pv pr w key pl dn tk tr x1 (by omega)) wm_L_60 wt_L_value wn_L wc_L_value ⟨rfl, rfl⟩ wd_L_value ⟨by decide, by decide⟩ hX (hK.sub [7, 8, 9, 10, 11, 12, 13, 14] rfl) hP hD hS hA hl.1 rfl (Nat.le_of_ble_eq_true rfl) dL_law_221 ⟨(show _ ≤ 1050 by omega), (show _ ≤ 8567 by omega)⟩) hP hD hS hA (fun r u H locs hp hP hD hS => ?_)
    replace hP : va_P D vwCl ((mW A2 C2 ops nums vals st2 ce pk pv n vc dn d pr tk th tr) ++ ((eW A C n ops nums vc vals d st ce pk pv pr w key pl dn tk tr) ++ oW ob oc ou)) H := hP
    replace hD : va_D F ((mW A2 C2 ops nums vals st2 ce pk pv n vc dn d pr tk th tr) ++ ((eW A C n ops nums vc vals d st ce pk pv pr w key pl dn tk tr) ++ oW ob oc ou)) := hD
    subst hp
    refine lv_istore hx hb dL_law_224 hl (by decide) rfl (fun ls hl => ?_)
    have hl : lv_has ls 8 [(5, .int (nI 1)), (4, .int (nI (4 * j))), (3, .ref ob), (2, .ref (A2 0)), (1, .ref (A 0)), (0, .ref b)] := hl
    refine lv_aload_n hx hb dL_law_226 rfl (lv_at hl 3 rfl) ?_
    refine lv_aload_n hx hb dL_law_227 rfl (lv_at hl 5 rfl) ?_
    refine lv_iload hx hb dL_law_228 (lv_at hl 1 rfl) ?_
    refine lv_iconst (v := nI 1) hx hb dL_law_230 (by decide) ?_
    refine lv_iadd hx hb dL_law_231 ?_
    refine zti (nI_add _ _) ?_
    refine zSld hx hb hsc hbl hbA hS (by omega) (by omega) dL_law_232 ?_
    refine lv_i2l hx hb dL_law_233 rfl ?_
    refine lv_bipush (v := nI 32) hx hb dL_law_234 (by decide) ?_
    refine lv_lshl hx hb dL_law_236 rfl ?_
    refine lv_aload_n hx hb dL_law_237 rfl (lv_at hl 5 rfl) ?_
    refine lv_iload hx hb dL_law_238 (lv_at hl 1 rfl) ?_
    refine lv_iconst (v := nI 2) hx hb dL_law_240 (by decide) ?_
    refine lv_iadd hx hb dL_law_241 ?_
    refine zti (nI_add _ _) ?_
    refine zSld hx hb hsc hbl hbA hS (by omega) (by omega) dL_law_242 ?_
    refine lv_i2l hx hb dL_law_243 rfl ?_
    refine lv_ldc2 (v := 4294967295) hx hb hown (hw _ wl_L_44) dL_law_244 ?_
    refine lv_land hx hb dL_law_247 ?_
    refine lv_lor hx hb dL_law_248 ?_
    refine ztl ex1.symm ?_
    refine zAfti (wa := []) (w := (mW A2 C2 ops nums vals st2 ce pk pv n vc dn d pr tk th tr)) (wb := (eW A C n ops nums vc vals d st ce pk pv pr w key pl dn tk tr) ++ oW ob oc ou) (zRunV (wa := []) (w := (mW A2 C2 ops nums vals st2 ce pk pv n vc dn d pr tk th tr)) (wb := (eW A C n ops nums vc vals d st ce pk pv pr w key pl dn tk tr) ++ oW ob oc ou) ⟨hx, hb, hml, hown, hw⟩ (c_M_value_full l D A2 C2 _ ops nums vals st2 ce pk pv n vc dn d pr tk th tr x1 (by omega)) wm_L_63 wi_M_value ws_M_value wn_M wc_M_value ⟨rfl, rfl⟩ wd_M_value ⟨by decide, by decide⟩ (hK.sub [0, 1, 2, 3, 4, 5, 6] rfl) hP hD 1 rfl rfl rfl hl.1 rfl (Nat.le_of_ble_eq_true rfl) dL_law_249 ⟨(show _ ≤ 1050 by omega), (show _ ≤ 8567 by omega)⟩) hP hD hS hA (fun r u H locs hp hP hD hS => ?_)
    replace hP : va_P D vwCl ((mW A2 C2 ops nums vals st2 ce pk pv n vc dn d pr tk 1 tr) ++ ((eW A C n ops nums vc vals d st ce pk pv pr w key pl dn tk tr) ++ oW ob oc ou)) H := hP
    replace hD : va_D F ((mW A2 C2 ops nums vals st2 ce pk pv n vc dn d pr tk 1 tr) ++ ((eW A C n ops nums vc vals d st ce pk pv pr w key pl dn tk tr) ++ oW ob oc ou)) := hD
    subst hp
    refine lv_istore hx hb dL_law_252 hl (by decide) rfl (fun ls hl => ?_)
    have hl : lv_has ls 8 [(6, .int (nI 0)), (5, .int (nI 1)), (4, .int (nI (4 * j))), (3, .ref ob), (2, .ref (A2 0)), (1, .ref (A 0)), (0, .ref b)] := hl
    refine lv_aload_n hx hb dL_law_254 rfl (lv_at hl 4 rfl) ?_
    refine zAfti (wa := []) (w := (mW A2 C2 ops nums vals st2 ce pk pv n vc dn d pr tk 1 tr)) (wb := (eW A C n ops nums vc vals d st ce pk pv pr w key pl dn tk tr) ++ oW ob oc ou) (zRunV (wa := []) (w := (mW A2 C2 ops nums vals st2 ce pk pv n vc dn d pr tk 1 tr)) (wb := (eW A C n ops nums vc vals d st ce pk pv pr w key pl dn tk tr) ++ oW ob oc ou) ⟨hx, hb, hml, hown, hw⟩ (c_M_thrown l D A2 C2 _ ops nums vals st2 ce pk pv n vc dn d pr tk 1 tr) wm_L_52 wi_M_thrown ws_M_thrown wn_M wc_M_thrown ⟨rfl, rfl⟩ wd_M_thrown ⟨by decide, by decide⟩ (hK.sub [0, 1, 2, 3, 4, 5, 6] rfl) hP hD 1 rfl rfl rfl hl.1 rfl (Nat.le_of_ble_eq_true rfl) dL_law_255 ⟨(show _ ≤ 1050 by omega), (show _ ≤ 8567 by omega)⟩) hP hD hS hA (fun r u H locs hp hP hD hS => ?_)
    replace hP : va_P D vwCl ((mW A2 C2 ops nums vals st2 ce pk pv n vc dn d pr tk 1 tr) ++ ((eW A C n ops nums vc vals d st ce pk pv pr w key pl dn tk tr) ++ oW ob oc ou)) H := hP
    replace hD : va_D F ((mW A2 C2 ops nums vals st2 ce pk pv n vc dn d pr tk 1 tr) ++ ((eW A C n ops nums vc vals d st ce pk pv pr w key pl dn tk tr) ++ oW ob oc ou)) := hD
    subst hp
    refine lv_iload hx hb dL_law_258 (lv_at hl 1 rfl) ?_
    refine zc_eq (tgt := 265) hx hb dL_law_260 rfl (by omega) (by omega) (fun _ => ?_) (fun q => absurd q (by omega))
    refine lv_iload hx hb dL_law_265 (lv_at hl 1 rfl) ?_
    refine zi_ne (tgt := 282) hx hb dL_law_267 rfl (by omega) (fun _ => ?_) (fun q => absurd q (by omega))
    refine lv_goto (tgt := 592) hx hb dL_law_282 rfl ?_
    refine lv_iinc (k := 2) (v := nI ((4 * j) + 4)) hx hb dL_law_592 hl rfl (nI_add _ _) (by decide) rfl (fun ls hl => ?_)
    have hl : lv_has ls 8 [(4, .int (nI ((4 * j) + 4))), (6, .int (nI 0)), (5, .int (nI 1)), (3, .ref ob), (2, .ref (A2 0)), (1, .ref (A 0)), (0, .ref b)] := hl
    refine lv_goto (tgt := 23) hx hb dL_law_595 rfl ?_
    refine W.widen (k := 17 + (j + 1)) (n := 321 + 6 * (j + 1)) (by omega) (by omega) ?_
    exact kk n ops nums vc vals d st st2 ce pk pv pr w key pl dn tk 1 tr ou _ _ _ ⟨i1, i2, i3, i4, i5, i6, i7⟩ hP hD hS (lv_sub hl [0, 3, 4, 5, 6] rfl)
set_option maxRecDepth 20000 in
set_option maxHeartbeats 4000000 in
theorem lwCallW {p : Program} {l : Launch} {e : Env} {s : State} {m : MethodId} {below : List Frame} {meth : Method} {c : Code} {b L : Nat} {xs : Nat → Int32} {D : va_G} {A A2 : Nat → Nat} {C C2 : Nat → ClassId} {ob : Nat} {oc : ClassId} {F : Nat → Prop} {Q : State → Prop} (hl9 : l.stackTraces = false) (hx : p.tables.exec = Jvm.exec) (hb : c.code = cL_law) (hml : c.maxLocals = 8) (hw : ∀ w ∈ WS, w.before #[Value.ref b] s = true) (hown : s.vm.findClass "EmitDeskLaw" = some m.cls) (hX : zL F s) (hK : va_K D vwCl (tL C C2 oc) s) (hA : ∀ q, s.heap.size ≤ q → F q) (hsc : va_X b L xs s s.heap) (hbl : b < s.heap.size) (hbA : ¬ F b) (hL : L ≤ 2048) {j : Nat} {n : Nat} {ops : Nat → Int32} {nums : Nat → Int64} {vc : Nat} {vals : Nat → Int64} {d : Nat} {st st2 ce pk pv : Nat → Int64} {pr w : Nat} {key : Int64} {pl dn tk th tr : Nat} {ou : Nat → Int64} {ls : Array Slot} {H : Heap} {locs : List Loc} (hj : ¬ L < 4 * j + 4) (hi : LI n ops nums vc d pr tk dn tr) (hbad : (xs ((4 * j) + 1)) < 0 ∨ nI 2 < xs ((4 * j) + 1)) (hbad2 : ¬ (lN 0 ≤ (xs ((4 * j) + 1)).toInt64 ∧ (xs ((4 * j) + 1)).toInt64 ≤ lN 2)) (hP : va_P D vwCl ((mW A2 C2 ops nums vals st2 ce pk pv n vc dn d pr tk th tr) ++ ((eW A C n ops nums vc vals d st ce pk pv pr w key pl dn tk tr) ++ oW ob oc ou)) H) (hD : va_D F ((mW A2 C2 ops nums vals st2 ce pk pv n vc dn d pr tk th tr) ++ ((eW A C n ops nums vc vals d st ce pk pv pr w key pl dn tk tr) ++ oW ob oc ou))) (hS : va_S F s.heap H locs) (hl : lv_has ls 8 [(4, .int (nI (4 * j))), (3, .ref ob), (2, .ref (A2 0)), (1, .ref (A 0)), (0, .ref b)]) (kk : ∀ (n : Nat) (ops : Nat → Int32) (nums : Nat → Int64) (vc : Nat) (vals : Nat → Int64) (d : Nat) (st st2 ce pk pv : Nat → Int64) (pr w : Nat) (key : Int64) (pl dn tk th tr : Nat) (ou : Nat → Int64) (ls : Array Slot) (H : Heap) (locs : List Loc), LI n ops nums vc d pr tk dn tr → va_P D vwCl ((mW A2 C2 ops nums vals st2 ce pk pv n vc dn d pr tk th tr) ++ ((eW A C n ops nums vc vals d st ce pk pv pr w key pl dn tk tr) ++ oW ob oc ou)) H → va_D F ((mW A2 C2 ops nums vals st2 ce pk pv n vc dn d pr tk th tr) ++ ((eW A C n ops nums vc vals d st ce pk pv pr w key pl dn tk tr) ++ oW ob oc ou)) → va_S F s.heap H locs → lv_has ls 8 [(4, .int (nI (4 * (j + 1)))), (3, .ref ob), (2, .ref (A2 0)), (1, .ref (A 0)), (0, .ref b)] → W p l e rL s m #[Value.ref b] below meth c H locs (17 + (j + 1)) (321 + 6 * (j + 1)) Q (F0 m 23 ls [])) : W p l e rL s m #[Value.ref b] below meth c H locs (17 + j) (321 + 6 * j) Q (F0 m 298 ls []) := by
  obtain ⟨i1, i2, i3, i4, i5, i6, i7⟩ := hi
  have hn40 := i1.1
  refine lv_aload_n hx hb dL_law_298 rfl (lv_at hl 3 rfl) ?_
  refine lv_aload_n hx hb dL_law_299 rfl (lv_at hl 4 rfl) ?_
  refine lv_iload hx hb dL_law_300 (lv_at hl 0 rfl) ?_
  refine lv_iconst (v := nI 1) hx hb dL_law_302 (by decide) ?_
  refine lv_iadd hx hb dL_law_303 ?_
  refine zti (nI_add _ _) ?_
  refine zSld hx hb hsc hbl hbA hS (by omega) (by omega) dL_law_304 ?_
  refine lv_aload_n hx hb dL_law_305 rfl (lv_at hl 4 rfl) ?_
  refine lv_iload hx hb dL_law_306 (lv_at hl 0 rfl) ?_
  refine lv_iconst (v := nI 2) hx hb dL_law_308 (by decide) ?_
  refine lv_iadd hx hb dL_law_309 ?_
  refine zti (nI_add _ _) ?_
  refine zSld hx hb hsc hbl hbA hS (by omega) (by omega) dL_law_310 ?_
  refine lv_i2l hx hb dL_law_311 rfl ?_
  refine lv_bipush (v := nI 32) hx hb dL_law_312 (by decide) ?_
  refine lv_lshl hx hb dL_law_314 rfl ?_
  refine lv_aload_n hx hb dL_law_315 rfl (lv_at hl 4 rfl) ?_
  refine lv_iload hx hb dL_law_316 (lv_at hl 0 rfl) ?_
  refine lv_iconst (v := nI 3) hx hb dL_law_318 (by decide) ?_
  refine lv_iadd hx hb dL_law_319 ?_
  refine zti (nI_add _ _) ?_
  refine zSld hx hb hsc hbl hbA hS (by omega) (by omega) dL_law_320 ?_
  refine lv_i2l hx hb dL_law_321 rfl ?_
  refine lv_ldc2 (v := 4294967295) hx hb hown (hw _ wl_L_44) dL_law_322 ?_
  refine lv_land hx hb dL_law_325 ?_
  refine lv_lor hx hb dL_law_326 ?_
  refine lv_topl (fun x1 ex1 => ?_)
  refine lv_aload_n hx hb dL_law_327 rfl (lv_at hl 1 rfl) ?_
  refine zAftiR (wa := (mW A2 C2 ops nums vals st2 ce pk pv n vc dn d pr tk th tr)) (w := (eW A C n ops nums vc vals d st ce pk pv pr w key pl dn tk tr) ++ oW ob oc ou) (zRunSL (wa := (mW A2 C2 ops nums vals st2 ce pk pv n vc dn d pr tk th tr)) (w := (eW A C n ops nums vc vals d st ce pk pv pr w key pl dn tk tr) ++ oW ob oc ou) ⟨hx, hb, hml, hown, hw⟩ (c_L_call_way l hl9 D A C ob oc ou _ n ops nums vc vals d st ce pk pv pr w key pl dn tk tr (xs ((4 * j) + 1)) x1 hbad) wm_L_68 wt_L_call wn_L wc_L_call ⟨rfl, rfl⟩ wd_L_call ⟨by decide, by decide⟩ hX (hK.sub [7, 8, 9, 10, 11, 12, 13, 14] rfl) hP hD hS hA hl.1 rfl (Nat.le_of_ble_eq_true rfl) dL_law_328 ⟨(show _ ≤ 1050 by omega), (show _ ≤ 8567 by omega)⟩) hP hD hS hA (fun r u H locs hp hP hD hS => ?_)
  replace hP : va_P D vwCl ((mW A2 C2 ops nums vals st2 ce pk pv n vc dn d pr tk th tr) ++ ((eW A C n ops nums vc vals d st ce pk pv pr w key pl dn tk tr) ++ oW ob oc ou)) H := hP
  replace hD : va_D F ((mW A2 C2 ops nums vals st2 ce pk pv n vc dn d pr tk th tr) ++ ((eW A C n ops nums vc vals d st ce pk pv pr w key pl dn tk tr) ++ oW ob oc ou)) := hD
  subst hp
  refine lv_istore hx hb dL_law_331 hl (by decide) rfl (fun ls hl => ?_)
  have hl : lv_has ls 8 [(5, .int (nI 1)), (4, .int (nI (4 * j))), (3, .ref ob), (2, .ref (A2 0)), (1, .ref (A 0)), (0, .ref b)] := hl
  refine lv_aload_n hx hb dL_law_333 rfl (lv_at hl 3 rfl) ?_
  refine lv_aload_n hx hb dL_law_334 rfl (lv_at hl 5 rfl) ?_
  refine lv_iload hx hb dL_law_335 (lv_at hl 1 rfl) ?_
  refine lv_iconst (v := nI 1) hx hb dL_law_337 (by decide) ?_
  refine lv_iadd hx hb dL_law_338 ?_
  refine zti (nI_add _ _) ?_
  refine zSld hx hb hsc hbl hbA hS (by omega) (by omega) dL_law_339 ?_
  refine lv_aload_n hx hb dL_law_340 rfl (lv_at hl 5 rfl) ?_
  refine lv_iload hx hb dL_law_341 (lv_at hl 1 rfl) ?_
  refine lv_iconst (v := nI 2) hx hb dL_law_343 (by decide) ?_
  refine lv_iadd hx hb dL_law_344 ?_
  refine zti (nI_add _ _) ?_
  refine zSld hx hb hsc hbl hbA hS (by omega) (by omega) dL_law_345 ?_
  refine lv_i2l hx hb dL_law_346 rfl ?_
  refine lv_bipush (v := nI 32) hx hb dL_law_347 (by decide) ?_
  refine lv_lshl hx hb dL_law_349 rfl ?_
  refine lv_aload_n hx hb dL_law_350 rfl (lv_at hl 5 rfl) ?_
  refine lv_iload hx hb dL_law_351 (lv_at hl 1 rfl) ?_
  refine lv_iconst (v := nI 3) hx hb dL_law_353 (by decide) ?_
  refine lv_iadd hx hb dL_law_354 ?_
  refine zti (nI_add _ _) ?_
  refine zSld hx hb hsc hbl hbA hS (by omega) (by omega) dL_law_355 ?_
  refine lv_i2l hx hb dL_law_356 rfl ?_
  refine lv_ldc2 (v := 4294967295) hx hb hown (hw _ wl_L_44) dL_law_357 ?_
  refine lv_land hx hb dL_law_360 ?_
  refine lv_lor hx hb dL_law_361 ?_
  refine ztl ex1.symm ?_
  refine zAfti (wa := []) (w := (mW A2 C2 ops nums vals st2 ce pk pv n vc dn d pr tk th tr)) (wb := (eW A C n ops nums vc vals d st ce pk pv pr w key pl dn tk tr) ++ oW ob oc ou) (zRunV (wa := []) (w := (mW A2 C2 ops nums vals st2 ce pk pv n vc dn d pr tk th tr)) (wb := (eW A C n ops nums vc vals d st ce pk pv pr w key pl dn tk tr) ++ oW ob oc ou) ⟨hx, hb, hml, hown, hw⟩ (c_M_call_bad l D A2 C2 _ ops nums vals st2 ce pk pv n vc dn d pr tk th tr (xs ((4 * j) + 1)) x1 i1.1 (Or.inl hbad2)) wm_L_70 wi_M_call ws_M_call wn_M wc_M_call ⟨rfl, rfl⟩ wd_M_call ⟨by decide, by decide⟩ (hK.sub [0, 1, 2, 3, 4, 5, 6] rfl) hP hD 1 rfl rfl rfl hl.1 rfl (Nat.le_of_ble_eq_true rfl) dL_law_362 ⟨(show _ ≤ 1050 by omega), (show _ ≤ 8567 by omega)⟩) hP hD hS hA (fun r u H locs hp hP hD hS => ?_)
  replace hP : va_P D vwCl ((mW A2 C2 ops nums vals st2 ce pk pv n vc dn d pr tk 1 tr) ++ ((eW A C n ops nums vc vals d st ce pk pv pr w key pl dn tk tr) ++ oW ob oc ou)) H := hP
  replace hD : va_D F ((mW A2 C2 ops nums vals st2 ce pk pv n vc dn d pr tk 1 tr) ++ ((eW A C n ops nums vc vals d st ce pk pv pr w key pl dn tk tr) ++ oW ob oc ou)) := hD
  subst hp
  refine lv_istore hx hb dL_law_365 hl (by decide) rfl (fun ls hl => ?_)
  have hl : lv_has ls 8 [(6, .int (nI 0)), (5, .int (nI 1)), (4, .int (nI (4 * j))), (3, .ref ob), (2, .ref (A2 0)), (1, .ref (A 0)), (0, .ref b)] := hl
  refine lv_aload_n hx hb dL_law_367 rfl (lv_at hl 4 rfl) ?_
  refine zAfti (wa := []) (w := (mW A2 C2 ops nums vals st2 ce pk pv n vc dn d pr tk 1 tr)) (wb := (eW A C n ops nums vc vals d st ce pk pv pr w key pl dn tk tr) ++ oW ob oc ou) (zRunV (wa := []) (w := (mW A2 C2 ops nums vals st2 ce pk pv n vc dn d pr tk 1 tr)) (wb := (eW A C n ops nums vc vals d st ce pk pv pr w key pl dn tk tr) ++ oW ob oc ou) ⟨hx, hb, hml, hown, hw⟩ (c_M_thrown l D A2 C2 _ ops nums vals st2 ce pk pv n vc dn d pr tk 1 tr) wm_L_52 wi_M_thrown ws_M_thrown wn_M wc_M_thrown ⟨rfl, rfl⟩ wd_M_thrown ⟨by decide, by decide⟩ (hK.sub [0, 1, 2, 3, 4, 5, 6] rfl) hP hD 1 rfl rfl rfl hl.1 rfl (Nat.le_of_ble_eq_true rfl) dL_law_368 ⟨(show _ ≤ 1050 by omega), (show _ ≤ 8567 by omega)⟩) hP hD hS hA (fun r u H locs hp hP hD hS => ?_)
  replace hP : va_P D vwCl ((mW A2 C2 ops nums vals st2 ce pk pv n vc dn d pr tk 1 tr) ++ ((eW A C n ops nums vc vals d st ce pk pv pr w key pl dn tk tr) ++ oW ob oc ou)) H := hP
  replace hD : va_D F ((mW A2 C2 ops nums vals st2 ce pk pv n vc dn d pr tk 1 tr) ++ ((eW A C n ops nums vc vals d st ce pk pv pr w key pl dn tk tr) ++ oW ob oc ou)) := hD
  subst hp
  refine lv_iload hx hb dL_law_371 (lv_at hl 1 rfl) ?_
  refine zc_eq (tgt := 378) hx hb dL_law_373 rfl (by omega) (by omega) (fun _ => ?_) (fun q => absurd q (by omega))
  refine lv_iload hx hb dL_law_378 (lv_at hl 1 rfl) ?_
  refine zi_ne (tgt := 395) hx hb dL_law_380 rfl (by omega) (fun _ => ?_) (fun q => absurd q (by omega))
  refine lv_goto (tgt := 592) hx hb dL_law_395 rfl ?_
  refine lv_iinc (k := 2) (v := nI ((4 * j) + 4)) hx hb dL_law_592 hl rfl (nI_add _ _) (by decide) rfl (fun ls hl => ?_)
  have hl : lv_has ls 8 [(4, .int (nI ((4 * j) + 4))), (6, .int (nI 0)), (5, .int (nI 1)), (3, .ref ob), (2, .ref (A2 0)), (1, .ref (A 0)), (0, .ref b)] := hl
  refine lv_goto (tgt := 23) hx hb dL_law_595 rfl ?_
  refine W.widen (k := 17 + (j + 1)) (n := 321 + 6 * (j + 1)) (by omega) (by omega) ?_
  exact kk n ops nums vc vals d st st2 ce pk pv pr w key pl dn tk 1 tr ou _ _ _ ⟨i1, i2, i3, i4, i5, i6, i7⟩ hP hD hS (lv_sub hl [0, 3, 4, 5, 6] rfl)
set_option maxRecDepth 20000 in
set_option maxHeartbeats 4000000 in
theorem lwCall {p : Program} {l : Launch} {e : Env} {s : State} {m : MethodId} {below : List Frame} {meth : Method} {c : Code} {b L : Nat} {xs : Nat → Int32} {D : va_G} {A A2 : Nat → Nat} {C C2 : Nat → ClassId} {ob : Nat} {oc : ClassId} {F : Nat → Prop} {Q : State → Prop} (hl9 : l.stackTraces = false) (hx : p.tables.exec = Jvm.exec) (hb : c.code = cL_law) (hml : c.maxLocals = 8) (hw : ∀ w ∈ WS, w.before #[Value.ref b] s = true) (hown : s.vm.findClass "EmitDeskLaw" = some m.cls) (hX : zL F s) (hK : va_K D vwCl (tL C C2 oc) s) (hA : ∀ q, s.heap.size ≤ q → F q) (hsc : va_X b L xs s s.heap) (hbl : b < s.heap.size) (hbA : ¬ F b) (hL : L ≤ 2048) {j : Nat} {n : Nat} {ops : Nat → Int32} {nums : Nat → Int64} {vc : Nat} {vals : Nat → Int64} {d : Nat} {st st2 ce pk pv : Nat → Int64} {pr w : Nat} {key : Int64} {pl dn tk th tr : Nat} {ou : Nat → Int64} {ls : Array Slot} {H : Heap} {locs : List Loc} {w2 : Nat} (hj : ¬ L < 4 * j + 4) (hi : LI n ops nums vc d pr tk dn tr) (hw2 : w2 ≤ 2) (e9 : xs ((4 * j) + 1) = nI w2) (hP : va_P D vwCl ((mW A2 C2 ops nums vals st2 ce pk pv n vc dn d pr tk th tr) ++ ((eW A C n ops nums vc vals d st ce pk pv pr w key pl dn tk tr) ++ oW ob oc ou)) H) (hD : va_D F ((mW A2 C2 ops nums vals st2 ce pk pv n vc dn d pr tk th tr) ++ ((eW A C n ops nums vc vals d st ce pk pv pr w key pl dn tk tr) ++ oW ob oc ou))) (hS : va_S F s.heap H locs) (hl : lv_has ls 8 [(4, .int (nI (4 * j))), (3, .ref ob), (2, .ref (A2 0)), (1, .ref (A 0)), (0, .ref b)]) (kk : ∀ (n : Nat) (ops : Nat → Int32) (nums : Nat → Int64) (vc : Nat) (vals : Nat → Int64) (d : Nat) (st st2 ce pk pv : Nat → Int64) (pr w : Nat) (key : Int64) (pl dn tk th tr : Nat) (ou : Nat → Int64) (ls : Array Slot) (H : Heap) (locs : List Loc), LI n ops nums vc d pr tk dn tr → va_P D vwCl ((mW A2 C2 ops nums vals st2 ce pk pv n vc dn d pr tk th tr) ++ ((eW A C n ops nums vc vals d st ce pk pv pr w key pl dn tk tr) ++ oW ob oc ou)) H → va_D F ((mW A2 C2 ops nums vals st2 ce pk pv n vc dn d pr tk th tr) ++ ((eW A C n ops nums vc vals d st ce pk pv pr w key pl dn tk tr) ++ oW ob oc ou)) → va_S F s.heap H locs → lv_has ls 8 [(4, .int (nI (4 * (j + 1)))), (3, .ref ob), (2, .ref (A2 0)), (1, .ref (A 0)), (0, .ref b)] → W p l e rL s m #[Value.ref b] below meth c H locs (17 + (j + 1)) (321 + 6 * (j + 1)) Q (F0 m 23 ls [])) : W p l e rL s m #[Value.ref b] below meth c H locs (17 + j) (321 + 6 * j) Q (F0 m 298 ls []) := by
  obtain ⟨i1, i2, i3, i4, i5, i6, i7⟩ := hi
  have hn40 := i1.1
  refine lv_aload_n hx hb dL_law_298 rfl (lv_at hl 3 rfl) ?_
  refine lv_aload_n hx hb dL_law_299 rfl (lv_at hl 4 rfl) ?_
  refine lv_iload hx hb dL_law_300 (lv_at hl 0 rfl) ?_
  refine lv_iconst (v := nI 1) hx hb dL_law_302 (by decide) ?_
  refine lv_iadd hx hb dL_law_303 ?_
  refine zti (nI_add _ _) ?_
  refine zSld hx hb hsc hbl hbA hS (by omega) (by omega) dL_law_304 ?_
  refine zti e9 ?_
  refine lv_aload_n hx hb dL_law_305 rfl (lv_at hl 4 rfl) ?_
  refine lv_iload hx hb dL_law_306 (lv_at hl 0 rfl) ?_
  refine lv_iconst (v := nI 2) hx hb dL_law_308 (by decide) ?_
  refine lv_iadd hx hb dL_law_309 ?_
  refine zti (nI_add _ _) ?_
  refine zSld hx hb hsc hbl hbA hS (by omega) (by omega) dL_law_310 ?_
  refine lv_i2l hx hb dL_law_311 rfl ?_
  refine lv_bipush (v := nI 32) hx hb dL_law_312 (by decide) ?_
  refine lv_lshl hx hb dL_law_314 rfl ?_
  refine lv_aload_n hx hb dL_law_315 rfl (lv_at hl 4 rfl) ?_
  refine lv_iload hx hb dL_law_316 (lv_at hl 0 rfl) ?_
  refine lv_iconst (v := nI 3) hx hb dL_law_318 (by decide) ?_
  refine lv_iadd hx hb dL_law_319 ?_
  refine zti (nI_add _ _) ?_
  refine zSld hx hb hsc hbl hbA hS (by omega) (by omega) dL_law_320 ?_
  refine lv_i2l hx hb dL_law_321 rfl ?_
  refine lv_ldc2 (v := 4294967295) hx hb hown (hw _ wl_L_44) dL_law_322 ?_
  refine lv_land hx hb dL_law_325 ?_
  refine lv_lor hx hb dL_law_326 ?_
  refine lv_topl (fun x1 ex1 => ?_)
  refine lv_aload_n hx hb dL_law_327 rfl (lv_at hl 1 rfl) ?_
  by_cases hg : gBP n ops nums
  · refine zAftiR (wa := (mW A2 C2 ops nums vals st2 ce pk pv n vc dn d pr tk th tr)) (w := (eW A C n ops nums vc vals d st ce pk pv pr w key pl dn tk tr) ++ oW ob oc ou) (zRunSL (wa := (mW A2 C2 ops nums vals st2 ce pk pv n vc dn d pr tk th tr)) (w := (eW A C n ops nums vc vals d st ce pk pv pr w key pl dn tk tr) ++ oW ob oc ou) ⟨hx, hb, hml, hown, hw⟩ (c_L_call_end l hl9 D A C ob oc ou _ n ops nums vc vals d st ce pk pv pr w key pl dn tk tr w2 x1 hw2 i1.1 hg) wm_L_68 wt_L_call wn_L wc_L_call ⟨rfl, rfl⟩ wd_L_call ⟨by decide, by decide⟩ hX (hK.sub [7, 8, 9, 10, 11, 12, 13, 14] rfl) hP hD hS hA hl.1 rfl (Nat.le_of_ble_eq_true rfl) dL_law_328 ⟨(show _ ≤ 1050 by omega), (show _ ≤ 8567 by omega)⟩) hP hD hS hA (fun r u H locs hp hP hD hS => ?_)
    replace hP : va_P D vwCl ((mW A2 C2 ops nums vals st2 ce pk pv n vc dn d pr tk th tr) ++ ((eW A C n ops nums vc vals d st ce pk pv pr w key pl dn tk tr) ++ oW ob oc ou)) H := hP
    replace hD : va_D F ((mW A2 C2 ops nums vals st2 ce pk pv n vc dn d pr tk th tr) ++ ((eW A C n ops nums vc vals d st ce pk pv pr w key pl dn tk tr) ++ oW ob oc ou)) := hD
    subst hp
    refine lv_istore hx hb dL_law_331 hl (by decide) rfl (fun ls hl => ?_)
    have hl : lv_has ls 8 [(5, .int (nI 1)), (4, .int (nI (4 * j))), (3, .ref ob), (2, .ref (A2 0)), (1, .ref (A 0)), (0, .ref b)] := hl
    refine lv_aload_n hx hb dL_law_333 rfl (lv_at hl 3 rfl) ?_
    refine lv_aload_n hx hb dL_law_334 rfl (lv_at hl 5 rfl) ?_
    refine lv_iload hx hb dL_law_335 (lv_at hl 1 rfl) ?_
    refine lv_iconst (v := nI 1) hx hb dL_law_337 (by decide) ?_
    refine lv_iadd hx hb dL_law_338 ?_
    refine zti (nI_add _ _) ?_
    refine zSld hx hb hsc hbl hbA hS (by omega) (by omega) dL_law_339 ?_
    refine zti e9 ?_
    refine lv_aload_n hx hb dL_law_340 rfl (lv_at hl 5 rfl) ?_
    refine lv_iload hx hb dL_law_341 (lv_at hl 1 rfl) ?_
    refine lv_iconst (v := nI 2) hx hb dL_law_343 (by decide) ?_
    refine lv_iadd hx hb dL_law_344 ?_
    refine zti (nI_add _ _) ?_
    refine zSld hx hb hsc hbl hbA hS (by omega) (by omega) dL_law_345 ?_
    refine lv_i2l hx hb dL_law_346 rfl ?_
    refine lv_bipush (v := nI 32) hx hb dL_law_347 (by decide) ?_
    refine lv_lshl hx hb dL_law_349 rfl ?_
    refine lv_aload_n hx hb dL_law_350 rfl (lv_at hl 5 rfl) ?_
    refine lv_iload hx hb dL_law_351 (lv_at hl 1 rfl) ?_
    refine lv_iconst (v := nI 3) hx hb dL_law_353 (by decide) ?_
    refine lv_iadd hx hb dL_law_354 ?_
    refine zti (nI_add _ _) ?_
    refine zSld hx hb hsc hbl hbA hS (by omega) (by omega) dL_law_355 ?_
    refine lv_i2l hx hb dL_law_356 rfl ?_
    refine lv_ldc2 (v := 4294967295) hx hb hown (hw _ wl_L_44) dL_law_357 ?_
    refine lv_land hx hb dL_law_360 ?_
    refine lv_lor hx hb dL_law_361 ?_
    refine ztl ex1.symm ?_
    refine zAfti (wa := []) (w := (mW A2 C2 ops nums vals st2 ce pk pv n vc dn d pr tk th tr)) (wb := (eW A C n ops nums vc vals d st ce pk pv pr w key pl dn tk tr) ++ oW ob oc ou) (zRunV (wa := []) (w := (mW A2 C2 ops nums vals st2 ce pk pv n vc dn d pr tk th tr)) (wb := (eW A C n ops nums vc vals d st ce pk pv pr w key pl dn tk tr) ++ oW ob oc ou) ⟨hx, hb, hml, hown, hw⟩ (c_M_call_bad l D A2 C2 _ ops nums vals st2 ce pk pv n vc dn d pr tk th tr (nI w2) x1 i1.1 (Or.inr hg)) wm_L_70 wi_M_call ws_M_call wn_M wc_M_call ⟨rfl, rfl⟩ wd_M_call ⟨by decide, by decide⟩ (hK.sub [0, 1, 2, 3, 4, 5, 6] rfl) hP hD 1 rfl rfl rfl hl.1 rfl (Nat.le_of_ble_eq_true rfl) dL_law_362 ⟨(show _ ≤ 1050 by omega), (show _ ≤ 8567 by omega)⟩) hP hD hS hA (fun r u H locs hp hP hD hS => ?_)
    replace hP : va_P D vwCl ((mW A2 C2 ops nums vals st2 ce pk pv n vc dn d pr tk 1 tr) ++ ((eW A C n ops nums vc vals d st ce pk pv pr w key pl dn tk tr) ++ oW ob oc ou)) H := hP
    replace hD : va_D F ((mW A2 C2 ops nums vals st2 ce pk pv n vc dn d pr tk 1 tr) ++ ((eW A C n ops nums vc vals d st ce pk pv pr w key pl dn tk tr) ++ oW ob oc ou)) := hD
    subst hp
    refine lv_istore hx hb dL_law_365 hl (by decide) rfl (fun ls hl => ?_)
    have hl : lv_has ls 8 [(6, .int (nI 0)), (5, .int (nI 1)), (4, .int (nI (4 * j))), (3, .ref ob), (2, .ref (A2 0)), (1, .ref (A 0)), (0, .ref b)] := hl
    refine lv_aload_n hx hb dL_law_367 rfl (lv_at hl 4 rfl) ?_
    refine zAfti (wa := []) (w := (mW A2 C2 ops nums vals st2 ce pk pv n vc dn d pr tk 1 tr)) (wb := (eW A C n ops nums vc vals d st ce pk pv pr w key pl dn tk tr) ++ oW ob oc ou) (zRunV (wa := []) (w := (mW A2 C2 ops nums vals st2 ce pk pv n vc dn d pr tk 1 tr)) (wb := (eW A C n ops nums vc vals d st ce pk pv pr w key pl dn tk tr) ++ oW ob oc ou) ⟨hx, hb, hml, hown, hw⟩ (c_M_thrown l D A2 C2 _ ops nums vals st2 ce pk pv n vc dn d pr tk 1 tr) wm_L_52 wi_M_thrown ws_M_thrown wn_M wc_M_thrown ⟨rfl, rfl⟩ wd_M_thrown ⟨by decide, by decide⟩ (hK.sub [0, 1, 2, 3, 4, 5, 6] rfl) hP hD 1 rfl rfl rfl hl.1 rfl (Nat.le_of_ble_eq_true rfl) dL_law_368 ⟨(show _ ≤ 1050 by omega), (show _ ≤ 8567 by omega)⟩) hP hD hS hA (fun r u H locs hp hP hD hS => ?_)
    replace hP : va_P D vwCl ((mW A2 C2 ops nums vals st2 ce pk pv n vc dn d pr tk 1 tr) ++ ((eW A C n ops nums vc vals d st ce pk pv pr w key pl dn tk tr) ++ oW ob oc ou)) H := hP
    replace hD : va_D F ((mW A2 C2 ops nums vals st2 ce pk pv n vc dn d pr tk 1 tr) ++ ((eW A C n ops nums vc vals d st ce pk pv pr w key pl dn tk tr) ++ oW ob oc ou)) := hD
    subst hp
    refine lv_iload hx hb dL_law_371 (lv_at hl 1 rfl) ?_
    refine zc_eq (tgt := 378) hx hb dL_law_373 rfl (by omega) (by omega) (fun _ => ?_) (fun q => absurd q (by omega))
    refine lv_iload hx hb dL_law_378 (lv_at hl 1 rfl) ?_
    refine zi_ne (tgt := 395) hx hb dL_law_380 rfl (by omega) (fun _ => ?_) (fun q => absurd q (by omega))
    refine lv_goto (tgt := 592) hx hb dL_law_395 rfl ?_
    refine lv_iinc (k := 2) (v := nI ((4 * j) + 4)) hx hb dL_law_592 hl rfl (nI_add _ _) (by decide) rfl (fun ls hl => ?_)
    have hl : lv_has ls 8 [(4, .int (nI ((4 * j) + 4))), (6, .int (nI 0)), (5, .int (nI 1)), (3, .ref ob), (2, .ref (A2 0)), (1, .ref (A 0)), (0, .ref b)] := hl
    refine lv_goto (tgt := 23) hx hb dL_law_595 rfl ?_
    refine W.widen (k := 17 + (j + 1)) (n := 321 + 6 * (j + 1)) (by omega) (by omega) ?_
    exact kk n ops nums vc vals d st st2 ce pk pv pr w key pl dn tk 1 tr ou _ _ _ ⟨i1, i2, i3, i4, i5, i6, i7⟩ hP hD hS (lv_sub hl [0, 3, 4, 5, 6] rfl)
  · obtain ⟨q, hq⟩ : ∃ q, runR n vc vals w2 x1 ops nums 400 (0, 0, st, z4 ce, pk, pv, 0, 0) = q := ⟨_, rfl⟩
    obtain ⟨q2, hq2⟩ : ∃ q2, runR n vc vals w2 x1 ops nums 400 (0, 0, st2, z4 ce, pk, pv, 0, 0) = q2 := ⟨_, rfl⟩
    have hsm := runR_congr (vc := vc) (vals := vals) (w := w2) (key := x1) i1 400 0 0 st st2 (z4 ce) pk pv 0 0 (fun i h => absurd h (by omega))
    rw [hq, hq2] at hsm
    obtain ⟨s1, s2, s3, s4, s5, s6, s7, s8⟩ := hsm
    obtain ⟨b1, b2, b3, b4, b5⟩ := runR_inv (vc := vc) i1 400 0 0 st (z4 ce) pk pv 0 0 ⟨by omega, by omega, by omega, by omega, fun _ => rfl⟩ q hq
    by_cases ht : q.2.1 = 0
    · refine zAftiR (wa := (mW A2 C2 ops nums vals st2 ce pk pv n vc dn d pr tk th tr)) (w := (eW A C n ops nums vc vals d st ce pk pv pr w key pl dn tk tr) ++ oW ob oc ou) (zRunSL (wa := (mW A2 C2 ops nums vals st2 ce pk pv n vc dn d pr tk th tr)) (w := (eW A C n ops nums vc vals d st ce pk pv pr w key pl dn tk tr) ++ oW ob oc ou) ⟨hx, hb, hml, hown, hw⟩ (c_L_call_ok l hl9 D A C ob oc ou _ n ops nums vc vals d st ce pk pv pr w key pl dn tk tr w2 x1 q hw2 i2 i1 hg hq ht (by omega)) wm_L_68 wt_L_call wn_L wc_L_call ⟨rfl, rfl⟩ wd_L_call ⟨by decide, by decide⟩ hX (hK.sub [7, 8, 9, 10, 11, 12, 13, 14] rfl) hP hD hS hA hl.1 rfl (Nat.le_of_ble_eq_true rfl) dL_law_328 ⟨(show _ ≤ 1050 by omega), (show _ ≤ 8567 by omega)⟩) hP hD hS hA (fun r u H locs hp hP hD hS => ?_)
      obtain ⟨ust, upl⟩ := u
      simp only [fW, ht] at hP hD
      replace hP : va_P D vwCl ((mW A2 C2 ops nums vals st2 ce pk pv n vc dn d pr tk th tr) ++ ((eW A C n ops nums vc vals q.2.2.2.1 ust q.2.2.2.2.2.1 q.2.2.2.2.2.2.1 q.2.2.2.2.2.2.2.1 q.2.2.2.2.2.2.2.2.1 w2 x1 upl (0 + q.1) q.2.2.2.2.2.2.2.2.2 0) ++ oW ob oc (vp_updL ou 0 (lN q.2.2.2.2.2.2.2.2.1)))) H := hP
      replace hD : va_D F ((mW A2 C2 ops nums vals st2 ce pk pv n vc dn d pr tk th tr) ++ ((eW A C n ops nums vc vals q.2.2.2.1 ust q.2.2.2.2.2.1 q.2.2.2.2.2.2.1 q.2.2.2.2.2.2.2.1 q.2.2.2.2.2.2.2.2.1 w2 x1 upl (0 + q.1) q.2.2.2.2.2.2.2.2.2 0) ++ oW ob oc (vp_updL ou 0 (lN q.2.2.2.2.2.2.2.2.1)))) := hD
      subst hp
      refine lv_istore hx hb dL_law_331 hl (by decide) rfl (fun ls hl => ?_)
      have hl : lv_has ls 8 [(5, .int (nI 0)), (4, .int (nI (4 * j))), (3, .ref ob), (2, .ref (A2 0)), (1, .ref (A 0)), (0, .ref b)] := hl
      refine lv_aload_n hx hb dL_law_333 rfl (lv_at hl 3 rfl) ?_
      refine lv_aload_n hx hb dL_law_334 rfl (lv_at hl 5 rfl) ?_
      refine lv_iload hx hb dL_law_335 (lv_at hl 1 rfl) ?_
      refine lv_iconst (v := nI 1) hx hb dL_law_337 (by decide) ?_
      refine lv_iadd hx hb dL_law_338 ?_
      refine zti (nI_add _ _) ?_
      refine zSld hx hb hsc hbl hbA hS (by omega) (by omega) dL_law_339 ?_
      refine zti e9 ?_
      refine lv_aload_n hx hb dL_law_340 rfl (lv_at hl 5 rfl) ?_
      refine lv_iload hx hb dL_law_341 (lv_at hl 1 rfl) ?_
      refine lv_iconst (v := nI 2) hx hb dL_law_343 (by decide) ?_
      refine lv_iadd hx hb dL_law_344 ?_
      refine zti (nI_add _ _) ?_
      refine zSld hx hb hsc hbl hbA hS (by omega) (by omega) dL_law_345 ?_
      refine lv_i2l hx hb dL_law_346 rfl ?_
      refine lv_bipush (v := nI 32) hx hb dL_law_347 (by decide) ?_
      refine lv_lshl hx hb dL_law_349 rfl ?_
      refine lv_aload_n hx hb dL_law_350 rfl (lv_at hl 5 rfl) ?_
      refine lv_iload hx hb dL_law_351 (lv_at hl 1 rfl) ?_
      refine lv_iconst (v := nI 3) hx hb dL_law_353 (by decide) ?_
      refine lv_iadd hx hb dL_law_354 ?_
      refine zti (nI_add _ _) ?_
      refine zSld hx hb hsc hbl hbA hS (by omega) (by omega) dL_law_355 ?_
      refine lv_i2l hx hb dL_law_356 rfl ?_
      refine lv_ldc2 (v := 4294967295) hx hb hown (hw _ wl_L_44) dL_law_357 ?_
      refine lv_land hx hb dL_law_360 ?_
      refine lv_lor hx hb dL_law_361 ?_
      refine ztl ex1.symm ?_
      refine zAfti (wa := []) (w := (mW A2 C2 ops nums vals st2 ce pk pv n vc dn d pr tk th tr)) (wb := (eW A C n ops nums vc vals q.2.2.2.1 ust q.2.2.2.2.2.1 q.2.2.2.2.2.2.1 q.2.2.2.2.2.2.2.1 q.2.2.2.2.2.2.2.2.1 w2 x1 upl (0 + q.1) q.2.2.2.2.2.2.2.2.2 0) ++ oW ob oc (vp_updL ou 0 (lN q.2.2.2.2.2.2.2.2.1))) (zRunV (wa := []) (w := (mW A2 C2 ops nums vals st2 ce pk pv n vc dn d pr tk th tr)) (wb := (eW A C n ops nums vc vals q.2.2.2.1 ust q.2.2.2.2.2.1 q.2.2.2.2.2.2.1 q.2.2.2.2.2.2.2.1 q.2.2.2.2.2.2.2.2.1 w2 x1 upl (0 + q.1) q.2.2.2.2.2.2.2.2.2 0) ++ oW ob oc (vp_updL ou 0 (lN q.2.2.2.2.2.2.2.2.1))) ⟨hx, hb, hml, hown, hw⟩ (c_M_call_ok l D A2 C2 _ ops nums vals st2 ce pk pv n vc dn d pr tk th tr w2 x1 q2 hw2 i2 i1 i1.1 hg hq2 (s2.trans ht)) wm_L_70 wi_M_call ws_M_call wn_M wc_M_call ⟨rfl, rfl⟩ wd_M_call ⟨by decide, by decide⟩ (hK.sub [0, 1, 2, 3, 4, 5, 6] rfl) hP hD 1 rfl rfl rfl hl.1 rfl (Nat.le_of_ble_eq_true rfl) dL_law_362 ⟨(show _ ≤ 1050 by omega), (show _ ≤ 8567 by omega)⟩) hP hD hS hA (fun r u H locs hp hP hD hS => ?_)
      simp only [s1, s3, s4, s5, s6, s7, s8] at hP hD hp
      replace hP : va_P D vwCl ((mW A2 C2 ops nums vals q2.2.2.2.2.1 q.2.2.2.2.2.1 q.2.2.2.2.2.2.1 q.2.2.2.2.2.2.2.1 n vc (0 + q.1) q.2.2.2.1 q.2.2.2.2.2.2.2.2.1 q.2.2.2.2.2.2.2.2.2 0 0) ++ ((eW A C n ops nums vc vals q.2.2.2.1 ust q.2.2.2.2.2.1 q.2.2.2.2.2.2.1 q.2.2.2.2.2.2.2.1 q.2.2.2.2.2.2.2.2.1 w2 x1 upl (0 + q.1) q.2.2.2.2.2.2.2.2.2 0) ++ oW ob oc (vp_updL ou 0 (lN q.2.2.2.2.2.2.2.2.1)))) H := hP
      replace hD : va_D F ((mW A2 C2 ops nums vals q2.2.2.2.2.1 q.2.2.2.2.2.1 q.2.2.2.2.2.2.1 q.2.2.2.2.2.2.2.1 n vc (0 + q.1) q.2.2.2.1 q.2.2.2.2.2.2.2.2.1 q.2.2.2.2.2.2.2.2.2 0 0) ++ ((eW A C n ops nums vc vals q.2.2.2.1 ust q.2.2.2.2.2.1 q.2.2.2.2.2.2.1 q.2.2.2.2.2.2.2.1 q.2.2.2.2.2.2.2.2.1 w2 x1 upl (0 + q.1) q.2.2.2.2.2.2.2.2.2 0) ++ oW ob oc (vp_updL ou 0 (lN q.2.2.2.2.2.2.2.2.1)))) := hD
      subst hp
      refine lv_istore hx hb dL_law_365 hl (by decide) rfl (fun ls hl => ?_)
      have hl : lv_has ls 8 [(6, .int (nI q.2.2.2.2.2.2.2.2.1)), (5, .int (nI 0)), (4, .int (nI (4 * j))), (3, .ref ob), (2, .ref (A2 0)), (1, .ref (A 0)), (0, .ref b)] := hl
      refine lv_aload_n hx hb dL_law_367 rfl (lv_at hl 4 rfl) ?_
      refine zAfti (wa := []) (w := (mW A2 C2 ops nums vals q2.2.2.2.2.1 q.2.2.2.2.2.1 q.2.2.2.2.2.2.1 q.2.2.2.2.2.2.2.1 n vc (0 + q.1) q.2.2.2.1 q.2.2.2.2.2.2.2.2.1 q.2.2.2.2.2.2.2.2.2 0 0)) (wb := (eW A C n ops nums vc vals q.2.2.2.1 ust q.2.2.2.2.2.1 q.2.2.2.2.2.2.1 q.2.2.2.2.2.2.2.1 q.2.2.2.2.2.2.2.2.1 w2 x1 upl (0 + q.1) q.2.2.2.2.2.2.2.2.2 0) ++ oW ob oc (vp_updL ou 0 (lN q.2.2.2.2.2.2.2.2.1))) (zRunV (wa := []) (w := (mW A2 C2 ops nums vals q2.2.2.2.2.1 q.2.2.2.2.2.1 q.2.2.2.2.2.2.1 q.2.2.2.2.2.2.2.1 n vc (0 + q.1) q.2.2.2.1 q.2.2.2.2.2.2.2.2.1 q.2.2.2.2.2.2.2.2.2 0 0)) (wb := (eW A C n ops nums vc vals q.2.2.2.1 ust q.2.2.2.2.2.1 q.2.2.2.2.2.2.1 q.2.2.2.2.2.2.2.1 q.2.2.2.2.2.2.2.2.1 w2 x1 upl (0 + q.1) q.2.2.2.2.2.2.2.2.2 0) ++ oW ob oc (vp_updL ou 0 (lN q.2.2.2.2.2.2.2.2.1))) ⟨hx, hb, hml, hown, hw⟩ (c_M_thrown l D A2 C2 _ ops nums vals q2.2.2.2.2.1 q.2.2.2.2.2.1 q.2.2.2.2.2.2.1 q.2.2.2.2.2.2.2.1 n vc (0 + q.1) q.2.2.2.1 q.2.2.2.2.2.2.2.2.1 q.2.2.2.2.2.2.2.2.2 0 0) wm_L_52 wi_M_thrown ws_M_thrown wn_M wc_M_thrown ⟨rfl, rfl⟩ wd_M_thrown ⟨by decide, by decide⟩ (hK.sub [0, 1, 2, 3, 4, 5, 6] rfl) hP hD 1 rfl rfl rfl hl.1 rfl (Nat.le_of_ble_eq_true rfl) dL_law_368 ⟨(show _ ≤ 1050 by omega), (show _ ≤ 8567 by omega)⟩) hP hD hS hA (fun r u H locs hp hP hD hS => ?_)
      replace hP : va_P D vwCl ((mW A2 C2 ops nums vals q2.2.2.2.2.1 q.2.2.2.2.2.1 q.2.2.2.2.2.2.1 q.2.2.2.2.2.2.2.1 n vc (0 + q.1) q.2.2.2.1 q.2.2.2.2.2.2.2.2.1 q.2.2.2.2.2.2.2.2.2 0 0) ++ ((eW A C n ops nums vc vals q.2.2.2.1 ust q.2.2.2.2.2.1 q.2.2.2.2.2.2.1 q.2.2.2.2.2.2.2.1 q.2.2.2.2.2.2.2.2.1 w2 x1 upl (0 + q.1) q.2.2.2.2.2.2.2.2.2 0) ++ oW ob oc (vp_updL ou 0 (lN q.2.2.2.2.2.2.2.2.1)))) H := hP
      replace hD : va_D F ((mW A2 C2 ops nums vals q2.2.2.2.2.1 q.2.2.2.2.2.1 q.2.2.2.2.2.2.1 q.2.2.2.2.2.2.2.1 n vc (0 + q.1) q.2.2.2.1 q.2.2.2.2.2.2.2.2.1 q.2.2.2.2.2.2.2.2.2 0 0) ++ ((eW A C n ops nums vc vals q.2.2.2.1 ust q.2.2.2.2.2.1 q.2.2.2.2.2.2.1 q.2.2.2.2.2.2.2.1 q.2.2.2.2.2.2.2.2.1 w2 x1 upl (0 + q.1) q.2.2.2.2.2.2.2.2.2 0) ++ oW ob oc (vp_updL ou 0 (lN q.2.2.2.2.2.2.2.2.1)))) := hD
      subst hp
      refine lv_iload hx hb dL_law_371 (lv_at hl 1 rfl) ?_
      refine zc_eq (tgt := 378) hx hb dL_law_373 rfl (by omega) (by omega) (fun _ => ?_) (fun q => absurd q (by omega))
      refine lv_iload hx hb dL_law_378 (lv_at hl 1 rfl) ?_
      refine zi_ne (tgt := 395) hx hb dL_law_380 rfl (by omega) (fun q => absurd q (by omega)) (fun _ => ?_)
      refine lv_aload_n hx hb dL_law_383 rfl (lv_at hl 3 rfl) ?_
      refine lv_iconst (v := nI 0) hx hb dL_law_384 (by decide) ?_
      refine zLald hx hb hK hP 16 14 rfl rfl (by omega) (by decide) dL_law_385 ?_
      refine ztl pk_uLs ?_
      refine lv_iload hx hb dL_law_386 (lv_at hl 0 rfl) ?_
      refine lv_i2l hx hb dL_law_388 (nI_l (by omega)) ?_
      refine W.lcmp hx hb dL_law_389 ?_
      refine zl_eq (tgt := 395) hx hb dL_law_390 rfl (fun _ => ?_) (fun q => absurd q (by exact fun z => z rfl))
      refine lv_goto (tgt := 592) hx hb dL_law_395 rfl ?_
      refine lv_iinc (k := 2) (v := nI ((4 * j) + 4)) hx hb dL_law_592 hl rfl (nI_add _ _) (by decide) rfl (fun ls hl => ?_)
      have hl : lv_has ls 8 [(4, .int (nI ((4 * j) + 4))), (6, .int (nI q.2.2.2.2.2.2.2.2.1)), (5, .int (nI 0)), (3, .ref ob), (2, .ref (A2 0)), (1, .ref (A 0)), (0, .ref b)] := hl
      refine lv_goto (tgt := 23) hx hb dL_law_595 rfl ?_
      refine W.widen (k := 17 + (j + 1)) (n := 321 + 6 * (j + 1)) (by omega) (by omega) ?_
      exact kk n ops nums vc vals q.2.2.2.1 ust q2.2.2.2.2.1 q.2.2.2.2.2.1 q.2.2.2.2.2.2.1 q.2.2.2.2.2.2.2.1 q.2.2.2.2.2.2.2.2.1 w2 x1 upl (0 + q.1) q.2.2.2.2.2.2.2.2.2 0 0 (vp_updL ou 0 (lN q.2.2.2.2.2.2.2.2.1)) _ _ _ ⟨i1, i2, b3, b4, by omega, by omega, by omega⟩ hP hD hS (lv_sub hl [0, 3, 4, 5, 6] rfl)
    · have ht1 : q.2.1 = 1 := by omega
      refine zAftiR (wa := (mW A2 C2 ops nums vals st2 ce pk pv n vc dn d pr tk th tr)) (w := (eW A C n ops nums vc vals d st ce pk pv pr w key pl dn tk tr) ++ oW ob oc ou) (zRunSL (wa := (mW A2 C2 ops nums vals st2 ce pk pv n vc dn d pr tk th tr)) (w := (eW A C n ops nums vc vals d st ce pk pv pr w key pl dn tk tr) ++ oW ob oc ou) ⟨hx, hb, hml, hown, hw⟩ (c_L_call_trap l hl9 D A C ob oc ou _ n ops nums vc vals d st ce pk pv pr w key pl dn tk tr w2 x1 q hw2 i2 i1 hg hq ht1) wm_L_68 wt_L_call wn_L wc_L_call ⟨rfl, rfl⟩ wd_L_call ⟨by decide, by decide⟩ hX (hK.sub [7, 8, 9, 10, 11, 12, 13, 14] rfl) hP hD hS hA hl.1 rfl (Nat.le_of_ble_eq_true rfl) dL_law_328 ⟨(show _ ≤ 1050 by omega), (show _ ≤ 8567 by omega)⟩) hP hD hS hA (fun r u H locs hp hP hD hS => ?_)
      obtain ⟨ust, upl⟩ := u
      simp only [fW, ht1] at hP hD
      replace hP : va_P D vwCl ((mW A2 C2 ops nums vals st2 ce pk pv n vc dn d pr tk th tr) ++ ((eW A C n ops nums vc vals 0 ust q.2.2.2.2.2.1 q.2.2.2.2.2.2.1 q.2.2.2.2.2.2.2.1 q.2.2.2.2.2.2.2.2.1 w2 x1 upl (0 + q.1) q.2.2.2.2.2.2.2.2.2 1) ++ oW ob oc ou)) H := hP
      replace hD : va_D F ((mW A2 C2 ops nums vals st2 ce pk pv n vc dn d pr tk th tr) ++ ((eW A C n ops nums vc vals 0 ust q.2.2.2.2.2.1 q.2.2.2.2.2.2.1 q.2.2.2.2.2.2.2.1 q.2.2.2.2.2.2.2.2.1 w2 x1 upl (0 + q.1) q.2.2.2.2.2.2.2.2.2 1) ++ oW ob oc ou)) := hD
      subst hp
      refine lv_istore hx hb dL_law_331 hl (by decide) rfl (fun ls hl => ?_)
      have hl : lv_has ls 8 [(5, .int (nI 2)), (4, .int (nI (4 * j))), (3, .ref ob), (2, .ref (A2 0)), (1, .ref (A 0)), (0, .ref b)] := hl
      refine lv_aload_n hx hb dL_law_333 rfl (lv_at hl 3 rfl) ?_
      refine lv_aload_n hx hb dL_law_334 rfl (lv_at hl 5 rfl) ?_
      refine lv_iload hx hb dL_law_335 (lv_at hl 1 rfl) ?_
      refine lv_iconst (v := nI 1) hx hb dL_law_337 (by decide) ?_
      refine lv_iadd hx hb dL_law_338 ?_
      refine zti (nI_add _ _) ?_
      refine zSld hx hb hsc hbl hbA hS (by omega) (by omega) dL_law_339 ?_
      refine zti e9 ?_
      refine lv_aload_n hx hb dL_law_340 rfl (lv_at hl 5 rfl) ?_
      refine lv_iload hx hb dL_law_341 (lv_at hl 1 rfl) ?_
      refine lv_iconst (v := nI 2) hx hb dL_law_343 (by decide) ?_
      refine lv_iadd hx hb dL_law_344 ?_
      refine zti (nI_add _ _) ?_
      refine zSld hx hb hsc hbl hbA hS (by omega) (by omega) dL_law_345 ?_
      refine lv_i2l hx hb dL_law_346 rfl ?_
      refine lv_bipush (v := nI 32) hx hb dL_law_347 (by decide) ?_
      refine lv_lshl hx hb dL_law_349 rfl ?_
      refine lv_aload_n hx hb dL_law_350 rfl (lv_at hl 5 rfl) ?_
      refine lv_iload hx hb dL_law_351 (lv_at hl 1 rfl) ?_
      refine lv_iconst (v := nI 3) hx hb dL_law_353 (by decide) ?_
      refine lv_iadd hx hb dL_law_354 ?_
      refine zti (nI_add _ _) ?_
      refine zSld hx hb hsc hbl hbA hS (by omega) (by omega) dL_law_355 ?_
      refine lv_i2l hx hb dL_law_356 rfl ?_
      refine lv_ldc2 (v := 4294967295) hx hb hown (hw _ wl_L_44) dL_law_357 ?_
      refine lv_land hx hb dL_law_360 ?_
      refine lv_lor hx hb dL_law_361 ?_
      refine ztl ex1.symm ?_
      refine zAfti (wa := []) (w := (mW A2 C2 ops nums vals st2 ce pk pv n vc dn d pr tk th tr)) (wb := (eW A C n ops nums vc vals 0 ust q.2.2.2.2.2.1 q.2.2.2.2.2.2.1 q.2.2.2.2.2.2.2.1 q.2.2.2.2.2.2.2.2.1 w2 x1 upl (0 + q.1) q.2.2.2.2.2.2.2.2.2 1) ++ oW ob oc ou) (zRunV (wa := []) (w := (mW A2 C2 ops nums vals st2 ce pk pv n vc dn d pr tk th tr)) (wb := (eW A C n ops nums vc vals 0 ust q.2.2.2.2.2.1 q.2.2.2.2.2.2.1 q.2.2.2.2.2.2.2.1 q.2.2.2.2.2.2.2.2.1 w2 x1 upl (0 + q.1) q.2.2.2.2.2.2.2.2.2 1) ++ oW ob oc ou) ⟨hx, hb, hml, hown, hw⟩ (c_M_call_trap l D A2 C2 _ ops nums vals st2 ce pk pv n vc dn d pr tk th tr w2 x1 q2 hw2 i2 i1 i1.1 hg hq2 (s2.trans ht1)) wm_L_70 wi_M_call ws_M_call wn_M wc_M_call ⟨rfl, rfl⟩ wd_M_call ⟨by decide, by decide⟩ (hK.sub [0, 1, 2, 3, 4, 5, 6] rfl) hP hD 1 rfl rfl rfl hl.1 rfl (Nat.le_of_ble_eq_true rfl) dL_law_362 ⟨(show _ ≤ 1050 by omega), (show _ ≤ 8567 by omega)⟩) hP hD hS hA (fun r u H locs hp hP hD hS => ?_)
      simp only [s1, s4, s5, s6, s7, s8] at hP hD
      replace hP : va_P D vwCl ((mW A2 C2 ops nums vals q2.2.2.2.2.1 q.2.2.2.2.2.1 q.2.2.2.2.2.2.1 q.2.2.2.2.2.2.2.1 n vc (0 + q.1) 0 q.2.2.2.2.2.2.2.2.1 q.2.2.2.2.2.2.2.2.2 2 1) ++ ((eW A C n ops nums vc vals 0 ust q.2.2.2.2.2.1 q.2.2.2.2.2.2.1 q.2.2.2.2.2.2.2.1 q.2.2.2.2.2.2.2.2.1 w2 x1 upl (0 + q.1) q.2.2.2.2.2.2.2.2.2 1) ++ oW ob oc ou)) H := hP
      replace hD : va_D F ((mW A2 C2 ops nums vals q2.2.2.2.2.1 q.2.2.2.2.2.1 q.2.2.2.2.2.2.1 q.2.2.2.2.2.2.2.1 n vc (0 + q.1) 0 q.2.2.2.2.2.2.2.2.1 q.2.2.2.2.2.2.2.2.2 2 1) ++ ((eW A C n ops nums vc vals 0 ust q.2.2.2.2.2.1 q.2.2.2.2.2.2.1 q.2.2.2.2.2.2.2.1 q.2.2.2.2.2.2.2.2.1 w2 x1 upl (0 + q.1) q.2.2.2.2.2.2.2.2.2 1) ++ oW ob oc ou)) := hD
      subst hp
      refine lv_istore hx hb dL_law_365 hl (by decide) rfl (fun ls hl => ?_)
      have hl : lv_has ls 8 [(6, .int (nI 0)), (5, .int (nI 2)), (4, .int (nI (4 * j))), (3, .ref ob), (2, .ref (A2 0)), (1, .ref (A 0)), (0, .ref b)] := hl
      refine lv_aload_n hx hb dL_law_367 rfl (lv_at hl 4 rfl) ?_
      refine zAfti (wa := []) (w := (mW A2 C2 ops nums vals q2.2.2.2.2.1 q.2.2.2.2.2.1 q.2.2.2.2.2.2.1 q.2.2.2.2.2.2.2.1 n vc (0 + q.1) 0 q.2.2.2.2.2.2.2.2.1 q.2.2.2.2.2.2.2.2.2 2 1)) (wb := (eW A C n ops nums vc vals 0 ust q.2.2.2.2.2.1 q.2.2.2.2.2.2.1 q.2.2.2.2.2.2.2.1 q.2.2.2.2.2.2.2.2.1 w2 x1 upl (0 + q.1) q.2.2.2.2.2.2.2.2.2 1) ++ oW ob oc ou) (zRunV (wa := []) (w := (mW A2 C2 ops nums vals q2.2.2.2.2.1 q.2.2.2.2.2.1 q.2.2.2.2.2.2.1 q.2.2.2.2.2.2.2.1 n vc (0 + q.1) 0 q.2.2.2.2.2.2.2.2.1 q.2.2.2.2.2.2.2.2.2 2 1)) (wb := (eW A C n ops nums vc vals 0 ust q.2.2.2.2.2.1 q.2.2.2.2.2.2.1 q.2.2.2.2.2.2.2.1 q.2.2.2.2.2.2.2.2.1 w2 x1 upl (0 + q.1) q.2.2.2.2.2.2.2.2.2 1) ++ oW ob oc ou) ⟨hx, hb, hml, hown, hw⟩ (c_M_thrown l D A2 C2 _ ops nums vals q2.2.2.2.2.1 q.2.2.2.2.2.1 q.2.2.2.2.2.2.1 q.2.2.2.2.2.2.2.1 n vc (0 + q.1) 0 q.2.2.2.2.2.2.2.2.1 q.2.2.2.2.2.2.2.2.2 2 1) wm_L_52 wi_M_thrown ws_M_thrown wn_M wc_M_thrown ⟨rfl, rfl⟩ wd_M_thrown ⟨by decide, by decide⟩ (hK.sub [0, 1, 2, 3, 4, 5, 6] rfl) hP hD 1 rfl rfl rfl hl.1 rfl (Nat.le_of_ble_eq_true rfl) dL_law_368 ⟨(show _ ≤ 1050 by omega), (show _ ≤ 8567 by omega)⟩) hP hD hS hA (fun r u H locs hp hP hD hS => ?_)
      replace hP : va_P D vwCl ((mW A2 C2 ops nums vals q2.2.2.2.2.1 q.2.2.2.2.2.1 q.2.2.2.2.2.2.1 q.2.2.2.2.2.2.2.1 n vc (0 + q.1) 0 q.2.2.2.2.2.2.2.2.1 q.2.2.2.2.2.2.2.2.2 2 1) ++ ((eW A C n ops nums vc vals 0 ust q.2.2.2.2.2.1 q.2.2.2.2.2.2.1 q.2.2.2.2.2.2.2.1 q.2.2.2.2.2.2.2.2.1 w2 x1 upl (0 + q.1) q.2.2.2.2.2.2.2.2.2 1) ++ oW ob oc ou)) H := hP
      replace hD : va_D F ((mW A2 C2 ops nums vals q2.2.2.2.2.1 q.2.2.2.2.2.1 q.2.2.2.2.2.2.1 q.2.2.2.2.2.2.2.1 n vc (0 + q.1) 0 q.2.2.2.2.2.2.2.2.1 q.2.2.2.2.2.2.2.2.2 2 1) ++ ((eW A C n ops nums vc vals 0 ust q.2.2.2.2.2.1 q.2.2.2.2.2.2.1 q.2.2.2.2.2.2.2.1 q.2.2.2.2.2.2.2.2.1 w2 x1 upl (0 + q.1) q.2.2.2.2.2.2.2.2.2 1) ++ oW ob oc ou)) := hD
      subst hp
      refine lv_iload hx hb dL_law_371 (lv_at hl 1 rfl) ?_
      refine zc_eq (tgt := 378) hx hb dL_law_373 rfl (by omega) (by omega) (fun _ => ?_) (fun q => absurd q (by omega))
      refine lv_iload hx hb dL_law_378 (lv_at hl 1 rfl) ?_
      refine zi_ne (tgt := 395) hx hb dL_law_380 rfl (by omega) (fun _ => ?_) (fun q => absurd q (by omega))
      refine lv_goto (tgt := 592) hx hb dL_law_395 rfl ?_
      refine lv_iinc (k := 2) (v := nI ((4 * j) + 4)) hx hb dL_law_592 hl rfl (nI_add _ _) (by decide) rfl (fun ls hl => ?_)
      have hl : lv_has ls 8 [(4, .int (nI ((4 * j) + 4))), (6, .int (nI 0)), (5, .int (nI 2)), (3, .ref ob), (2, .ref (A2 0)), (1, .ref (A 0)), (0, .ref b)] := hl
      refine lv_goto (tgt := 23) hx hb dL_law_595 rfl ?_
      refine W.widen (k := 17 + (j + 1)) (n := 321 + 6 * (j + 1)) (by omega) (by omega) ?_
      exact kk n ops nums vc vals 0 ust q2.2.2.2.2.1 q.2.2.2.2.2.1 q.2.2.2.2.2.2.1 q.2.2.2.2.2.2.2.1 q.2.2.2.2.2.2.2.2.1 w2 x1 upl (0 + q.1) q.2.2.2.2.2.2.2.2.2 2 1 ou _ _ _ ⟨i1, i2, by omega, b4, by omega, by omega, by omega⟩ hP hD hS (lv_sub hl [0, 3, 4, 5, 6] rfl)
set_option maxRecDepth 20000 in
set_option maxHeartbeats 4000000 in
theorem lwEm_val {p : Program} {l : Launch} {e : Env} {s : State} {m : MethodId} {below : List Frame} {meth : Method} {c : Code} {b L : Nat} {xs : Nat → Int32} {D : va_G} {A A2 : Nat → Nat} {C C2 : Nat → ClassId} {ob : Nat} {oc : ClassId} {F : Nat → Prop} {Q : State → Prop} (hl9 : l.stackTraces = false) (hx : p.tables.exec = Jvm.exec) (hb : c.code = cL_law) (hml : c.maxLocals = 8) (hw : ∀ w ∈ WS, w.before #[Value.ref b] s = true) (hown : s.vm.findClass "EmitDeskLaw" = some m.cls) (hX : zL F s) (hK : va_K D vwCl (tL C C2 oc) s) (hA : ∀ q, s.heap.size ≤ q → F q) (hsc : va_X b L xs s s.heap) (hbl : b < s.heap.size) (hbA : ¬ F b) (hL : L ≤ 2048) {j : Nat} {n : Nat} {ops : Nat → Int32} {nums : Nat → Int64} {vc : Nat} {vals : Nat → Int64} {d : Nat} {st st2 ce pk pv : Nat → Int64} {pr w : Nat} {key : Int64} {pl dn tk th tr : Nat} {ou : Nat → Int64} {ls : Array Slot} {H : Heap} {locs : List Loc} {j2 : Nat} (hj : ¬ L < 4 * j + 4) (hi : LI n ops nums vc d pr tk dn tr) (hfl : ¬ xs ((4 * j) + 2) = 0) (hj2 : j2 < pr) (e9 : xs ((4 * j) + 1) = nI j2) (hP : va_P D vwCl ((mW A2 C2 ops nums vals st2 ce pk pv n vc dn d pr tk th tr) ++ ((eW A C n ops nums vc vals d st ce pk pv pr w key pl dn tk tr) ++ oW ob oc ou)) H) (hD : va_D F ((mW A2 C2 ops nums vals st2 ce pk pv n vc dn d pr tk th tr) ++ ((eW A C n ops nums vc vals d st ce pk pv pr w key pl dn tk tr) ++ oW ob oc ou))) (hS : va_S F s.heap H locs) (hl : lv_has ls 8 [(4, .int (nI (4 * j))), (3, .ref ob), (2, .ref (A2 0)), (1, .ref (A 0)), (0, .ref b)]) (kk : ∀ (n : Nat) (ops : Nat → Int32) (nums : Nat → Int64) (vc : Nat) (vals : Nat → Int64) (d : Nat) (st st2 ce pk pv : Nat → Int64) (pr w : Nat) (key : Int64) (pl dn tk th tr : Nat) (ou : Nat → Int64) (ls : Array Slot) (H : Heap) (locs : List Loc), LI n ops nums vc d pr tk dn tr → va_P D vwCl ((mW A2 C2 ops nums vals st2 ce pk pv n vc dn d pr tk th tr) ++ ((eW A C n ops nums vc vals d st ce pk pv pr w key pl dn tk tr) ++ oW ob oc ou)) H → va_D F ((mW A2 C2 ops nums vals st2 ce pk pv n vc dn d pr tk th tr) ++ ((eW A C n ops nums vc vals d st ce pk pv pr w key pl dn tk tr) ++ oW ob oc ou)) → va_S F s.heap H locs → lv_has ls 8 [(4, .int (nI (4 * (j + 1)))), (3, .ref ob), (2, .ref (A2 0)), (1, .ref (A 0)), (0, .ref b)] → W p l e rL s m #[Value.ref b] below meth c H locs (17 + (j + 1)) (321 + 6 * (j + 1)) Q (F0 m 23 ls [])) : W p l e rL s m #[Value.ref b] below meth c H locs (17 + j) (321 + 6 * j) Q (F0 m 398 ls []) := by
  obtain ⟨i1, i2, i3, i4, i5, i6, i7⟩ := hi
  have hn40 := i1.1
  refine lv_aload_n hx hb dL_law_398 rfl (lv_at hl 3 rfl) ?_
  refine lv_aload_n hx hb dL_law_399 rfl (lv_at hl 4 rfl) ?_
  refine lv_iload hx hb dL_law_400 (lv_at hl 0 rfl) ?_
  refine lv_iconst (v := nI 1) hx hb dL_law_402 (by decide) ?_
  refine lv_iadd hx hb dL_law_403 ?_
  refine zti (nI_add _ _) ?_
  refine zSld hx hb hsc hbl hbA hS (by omega) (by omega) dL_law_404 ?_
  refine zti e9 ?_
  refine lv_aload_n hx hb dL_law_405 rfl (lv_at hl 4 rfl) ?_
  refine lv_iload hx hb dL_law_406 (lv_at hl 0 rfl) ?_
  refine lv_iconst (v := nI 2) hx hb dL_law_408 (by decide) ?_
  refine lv_iadd hx hb dL_law_409 ?_
  refine zti (nI_add _ _) ?_
  refine zSld hx hb hsc hbl hbA hS (by omega) (by omega) dL_law_410 ?_
  refine lv_if_eq (tgt := 418) hx hb dL_law_411 rfl (fun q => absurd q (by exact hfl)) (fun _ => ?_)
  refine lv_iconst (v := nI 1) hx hb dL_law_414 (by decide) ?_
  refine lv_goto (tgt := 419) hx hb dL_law_415 rfl ?_
  refine lv_aload_n hx hb dL_law_419 rfl (lv_at hl 1 rfl) ?_
  refine zAftiR (wa := (mW A2 C2 ops nums vals st2 ce pk pv n vc dn d pr tk th tr)) (w := (eW A C n ops nums vc vals d st ce pk pv pr w key pl dn tk tr) ++ oW ob oc ou) (zRunSL (wa := (mW A2 C2 ops nums vals st2 ce pk pv n vc dn d pr tk th tr)) (w := (eW A C n ops nums vc vals d st ce pk pv pr w key pl dn tk tr) ++ oW ob oc ou) ⟨hx, hb, hml, hown, hw⟩ (c_L_emitted_val l hl9 D A C ob oc ou _ n ops nums vc vals d st ce pk pv pr w key pl dn tk tr j2 hj2 i4) wm_L_71 wt_L_emitted wn_L wc_L_emitted ⟨rfl, rfl⟩ wd_L_emitted ⟨by decide, by decide⟩ hX (hK.sub [7, 8, 9, 10, 11, 12, 13, 14] rfl) hP hD hS hA hl.1 rfl (Nat.le_of_ble_eq_true rfl) dL_law_420 ⟨(show _ ≤ 1050 by omega), (show _ ≤ 8567 by omega)⟩) hP hD hS hA (fun r u H locs hp hP hD hS => ?_)
  replace hP : va_P D vwCl ((mW A2 C2 ops nums vals st2 ce pk pv n vc dn d pr tk th tr) ++ ((eW A C n ops nums vc vals d st ce pk pv pr w key pl dn tk tr) ++ oW ob oc (vp_updL ou 0 (pv j2)))) H := hP
  replace hD : va_D F ((mW A2 C2 ops nums vals st2 ce pk pv n vc dn d pr tk th tr) ++ ((eW A C n ops nums vc vals d st ce pk pv pr w key pl dn tk tr) ++ oW ob oc (vp_updL ou 0 (pv j2)))) := hD
  subst hp
  refine lv_istore hx hb dL_law_423 hl (by decide) rfl (fun ls hl => ?_)
  have hl : lv_has ls 8 [(5, .int (nI 0)), (4, .int (nI (4 * j))), (3, .ref ob), (2, .ref (A2 0)), (1, .ref (A 0)), (0, .ref b)] := hl
  refine lv_aload_n hx hb dL_law_425 rfl (lv_at hl 3 rfl) ?_
  refine lv_aload_n hx hb dL_law_426 rfl (lv_at hl 5 rfl) ?_
  refine lv_iload hx hb dL_law_427 (lv_at hl 1 rfl) ?_
  refine lv_iconst (v := nI 1) hx hb dL_law_429 (by decide) ?_
  refine lv_iadd hx hb dL_law_430 ?_
  refine zti (nI_add _ _) ?_
  refine zSld hx hb hsc hbl hbA hS (by omega) (by omega) dL_law_431 ?_
  refine zti e9 ?_
  refine lv_aload_n hx hb dL_law_432 rfl (lv_at hl 5 rfl) ?_
  refine lv_iload hx hb dL_law_433 (lv_at hl 1 rfl) ?_
  refine lv_iconst (v := nI 2) hx hb dL_law_435 (by decide) ?_
  refine lv_iadd hx hb dL_law_436 ?_
  refine zti (nI_add _ _) ?_
  refine zSld hx hb hsc hbl hbA hS (by omega) (by omega) dL_law_437 ?_
  refine lv_if_eq (tgt := 445) hx hb dL_law_438 rfl (fun q => absurd q (by exact hfl)) (fun _ => ?_)
  refine lv_iconst (v := nI 1) hx hb dL_law_441 (by decide) ?_
  refine lv_goto (tgt := 446) hx hb dL_law_442 rfl ?_
  refine zAftl (wa := []) (w := (mW A2 C2 ops nums vals st2 ce pk pv n vc dn d pr tk th tr)) (wb := (eW A C n ops nums vc vals d st ce pk pv pr w key pl dn tk tr) ++ oW ob oc (vp_updL ou 0 (pv j2))) (zRunV (wa := []) (w := (mW A2 C2 ops nums vals st2 ce pk pv n vc dn d pr tk th tr)) (wb := (eW A C n ops nums vc vals d st ce pk pv pr w key pl dn tk tr) ++ oW ob oc (vp_updL ou 0 (pv j2))) ⟨hx, hb, hml, hown, hw⟩ (c_M_emitted_val l D A2 C2 _ ops nums vals st2 ce pk pv n vc dn d pr tk th tr j2 hj2 i4) wm_L_74 wi_M_emitted ws_M_emitted wn_M wc_M_emitted ⟨rfl, rfl⟩ wd_M_emitted ⟨by decide, by decide⟩ (hK.sub [0, 1, 2, 3, 4, 5, 6] rfl) hP hD 1 rfl rfl rfl hl.1 rfl (Nat.le_of_ble_eq_true rfl) dL_law_446 ⟨(show _ ≤ 1050 by omega), (show _ ≤ 8567 by omega)⟩) hP hD hS hA (fun r u H locs hp hP hD hS => ?_)
  replace hP : va_P D vwCl ((mW A2 C2 ops nums vals st2 ce pk pv n vc dn d pr tk 0 tr) ++ ((eW A C n ops nums vc vals d st ce pk pv pr w key pl dn tk tr) ++ oW ob oc (vp_updL ou 0 (pv j2)))) H := hP
  replace hD : va_D F ((mW A2 C2 ops nums vals st2 ce pk pv n vc dn d pr tk 0 tr) ++ ((eW A C n ops nums vc vals d st ce pk pv pr w key pl dn tk tr) ++ oW ob oc (vp_updL ou 0 (pv j2)))) := hD
  subst hp
  refine lv_lstore hx hb dL_law_449 hl (by decide) rfl (fun ls hl => ?_)
  have hl : lv_has ls 8 [(6, .long (pv j2)), (5, .int (nI 0)), (4, .int (nI (4 * j))), (3, .ref ob), (2, .ref (A2 0)), (1, .ref (A 0)), (0, .ref b)] := hl
  refine lv_aload_n hx hb dL_law_451 rfl (lv_at hl 4 rfl) ?_
  refine zAfti (wa := []) (w := (mW A2 C2 ops nums vals st2 ce pk pv n vc dn d pr tk 0 tr)) (wb := (eW A C n ops nums vc vals d st ce pk pv pr w key pl dn tk tr) ++ oW ob oc (vp_updL ou 0 (pv j2))) (zRunV (wa := []) (w := (mW A2 C2 ops nums vals st2 ce pk pv n vc dn d pr tk 0 tr)) (wb := (eW A C n ops nums vc vals d st ce pk pv pr w key pl dn tk tr) ++ oW ob oc (vp_updL ou 0 (pv j2))) ⟨hx, hb, hml, hown, hw⟩ (c_M_thrown l D A2 C2 _ ops nums vals st2 ce pk pv n vc dn d pr tk 0 tr) wm_L_52 wi_M_thrown ws_M_thrown wn_M wc_M_thrown ⟨rfl, rfl⟩ wd_M_thrown ⟨by decide, by decide⟩ (hK.sub [0, 1, 2, 3, 4, 5, 6] rfl) hP hD 1 rfl rfl rfl hl.1 rfl (Nat.le_of_ble_eq_true rfl) dL_law_452 ⟨(show _ ≤ 1050 by omega), (show _ ≤ 8567 by omega)⟩) hP hD hS hA (fun r u H locs hp hP hD hS => ?_)
  replace hP : va_P D vwCl ((mW A2 C2 ops nums vals st2 ce pk pv n vc dn d pr tk 0 tr) ++ ((eW A C n ops nums vc vals d st ce pk pv pr w key pl dn tk tr) ++ oW ob oc (vp_updL ou 0 (pv j2)))) H := hP
  replace hD : va_D F ((mW A2 C2 ops nums vals st2 ce pk pv n vc dn d pr tk 0 tr) ++ ((eW A C n ops nums vc vals d st ce pk pv pr w key pl dn tk tr) ++ oW ob oc (vp_updL ou 0 (pv j2)))) := hD
  subst hp
  refine lv_iload hx hb dL_law_455 (lv_at hl 1 rfl) ?_
  refine zc_eq (tgt := 462) hx hb dL_law_457 rfl (by omega) (by omega) (fun _ => ?_) (fun q => absurd q (by omega))
  refine lv_iload hx hb dL_law_462 (lv_at hl 1 rfl) ?_
  refine zi_ne (tgt := 478) hx hb dL_law_464 rfl (by omega) (fun q => absurd q (by omega)) (fun _ => ?_)
  refine lv_aload_n hx hb dL_law_467 rfl (lv_at hl 3 rfl) ?_
  refine lv_iconst (v := nI 0) hx hb dL_law_468 (by decide) ?_
  refine zLald hx hb hK hP 16 14 rfl rfl (by omega) (by decide) dL_law_469 ?_
  refine ztl pk_uLs ?_
  refine lv_lload hx hb dL_law_470 (lv_at hl 0 rfl) ?_
  refine W.lcmp hx hb dL_law_472 ?_
  refine zl_eq (tgt := 478) hx hb dL_law_473 rfl (fun _ => ?_) (fun q => absurd q (by exact fun z => z rfl))
  refine lv_goto (tgt := 592) hx hb dL_law_478 rfl ?_
  refine lv_iinc (k := 2) (v := nI ((4 * j) + 4)) hx hb dL_law_592 hl rfl (nI_add _ _) (by decide) rfl (fun ls hl => ?_)
  have hl : lv_has ls 8 [(4, .int (nI ((4 * j) + 4))), (6, .long (pv j2)), (5, .int (nI 0)), (3, .ref ob), (2, .ref (A2 0)), (1, .ref (A 0)), (0, .ref b)] := hl
  refine lv_goto (tgt := 23) hx hb dL_law_595 rfl ?_
  refine W.widen (k := 17 + (j + 1)) (n := 321 + 6 * (j + 1)) (by omega) (by omega) ?_
  exact kk n ops nums vc vals d st st2 ce pk pv pr w key pl dn tk 0 tr (vp_updL ou 0 (pv j2)) _ _ _ ⟨i1, i2, i3, i4, i5, i6, i7⟩ hP hD hS (lv_sub hl [0, 3, 4, 5, 6] rfl)
set_option maxRecDepth 20000 in
set_option maxHeartbeats 4000000 in
theorem lwEmB_val {p : Program} {l : Launch} {e : Env} {s : State} {m : MethodId} {below : List Frame} {meth : Method} {c : Code} {b L : Nat} {xs : Nat → Int32} {D : va_G} {A A2 : Nat → Nat} {C C2 : Nat → ClassId} {ob : Nat} {oc : ClassId} {F : Nat → Prop} {Q : State → Prop} (hl9 : l.stackTraces = false) (hx : p.tables.exec = Jvm.exec) (hb : c.code = cL_law) (hml : c.maxLocals = 8) (hw : ∀ w ∈ WS, w.before #[Value.ref b] s = true) (hown : s.vm.findClass "EmitDeskLaw" = some m.cls) (hX : zL F s) (hK : va_K D vwCl (tL C C2 oc) s) (hA : ∀ q, s.heap.size ≤ q → F q) (hsc : va_X b L xs s s.heap) (hbl : b < s.heap.size) (hbA : ¬ F b) (hL : L ≤ 2048) {j : Nat} {n : Nat} {ops : Nat → Int32} {nums : Nat → Int64} {vc : Nat} {vals : Nat → Int64} {d : Nat} {st st2 ce pk pv : Nat → Int64} {pr w : Nat} {key : Int64} {pl dn tk th tr : Nat} {ou : Nat → Int64} {ls : Array Slot} {H : Heap} {locs : List Loc} (hj : ¬ L < 4 * j + 4) (hi : LI n ops nums vc d pr tk dn tr) (hfl : ¬ xs ((4 * j) + 2) = 0) (hbad : (xs ((4 * j) + 1)) < 0 ∨ nI pr ≤ xs ((4 * j) + 1)) (hP : va_P D vwCl ((mW A2 C2 ops nums vals st2 ce pk pv n vc dn d pr tk th tr) ++ ((eW A C n ops nums vc vals d st ce pk pv pr w key pl dn tk tr) ++ oW ob oc ou)) H) (hD : va_D F ((mW A2 C2 ops nums vals st2 ce pk pv n vc dn d pr tk th tr) ++ ((eW A C n ops nums vc vals d st ce pk pv pr w key pl dn tk tr) ++ oW ob oc ou))) (hS : va_S F s.heap H locs) (hl : lv_has ls 8 [(4, .int (nI (4 * j))), (3, .ref ob), (2, .ref (A2 0)), (1, .ref (A 0)), (0, .ref b)]) (kk : ∀ (n : Nat) (ops : Nat → Int32) (nums : Nat → Int64) (vc : Nat) (vals : Nat → Int64) (d : Nat) (st st2 ce pk pv : Nat → Int64) (pr w : Nat) (key : Int64) (pl dn tk th tr : Nat) (ou : Nat → Int64) (ls : Array Slot) (H : Heap) (locs : List Loc), LI n ops nums vc d pr tk dn tr → va_P D vwCl ((mW A2 C2 ops nums vals st2 ce pk pv n vc dn d pr tk th tr) ++ ((eW A C n ops nums vc vals d st ce pk pv pr w key pl dn tk tr) ++ oW ob oc ou)) H → va_D F ((mW A2 C2 ops nums vals st2 ce pk pv n vc dn d pr tk th tr) ++ ((eW A C n ops nums vc vals d st ce pk pv pr w key pl dn tk tr) ++ oW ob oc ou)) → va_S F s.heap H locs → lv_has ls 8 [(4, .int (nI (4 * (j + 1)))), (3, .ref ob), (2, .ref (A2 0)), (1, .ref (A 0)), (0, .ref b)] → W p l e rL s m #[Value.ref b] below meth c H locs (17 + (j + 1)) (321 + 6 * (j + 1)) Q (F0 m 23 ls [])) : W p l e rL s m #[Value.ref b] below meth c H locs (17 + j) (321 + 6 * j) Q (F0 m 398 ls []) := by
  obtain ⟨i1, i2, i3, i4, i5, i6, i7⟩ := hi
  have hn40 := i1.1
  refine lv_aload_n hx hb dL_law_398 rfl (lv_at hl 3 rfl) ?_
  refine lv_aload_n hx hb dL_law_399 rfl (lv_at hl 4 rfl) ?_
  refine lv_iload hx hb dL_law_400 (lv_at hl 0 rfl) ?_
  refine lv_iconst (v := nI 1) hx hb dL_law_402 (by decide) ?_
  refine lv_iadd hx hb dL_law_403 ?_
  refine zti (nI_add _ _) ?_
  refine zSld hx hb hsc hbl hbA hS (by omega) (by omega) dL_law_404 ?_
  refine lv_aload_n hx hb dL_law_405 rfl (lv_at hl 4 rfl) ?_
  refine lv_iload hx hb dL_law_406 (lv_at hl 0 rfl) ?_
  refine lv_iconst (v := nI 2) hx hb dL_law_408 (by decide) ?_
  refine lv_iadd hx hb dL_law_409 ?_
  refine zti (nI_add _ _) ?_
  refine zSld hx hb hsc hbl hbA hS (by omega) (by omega) dL_law_410 ?_
  refine lv_if_eq (tgt := 418) hx hb dL_law_411 rfl (fun q => absurd q (by exact hfl)) (fun _ => ?_)
  refine lv_iconst (v := nI 1) hx hb dL_law_414 (by decide) ?_
  refine lv_goto (tgt := 419) hx hb dL_law_415 rfl ?_
  refine lv_aload_n hx hb dL_law_419 rfl (lv_at hl 1 rfl) ?_
  refine zAftiR (wa := (mW A2 C2 ops nums vals st2 ce pk pv n vc dn d pr tk th tr)) (w := (eW A C n ops nums vc vals d st ce pk pv pr w key pl dn tk tr) ++ oW ob oc ou) (zRunSL (wa := (mW A2 C2 ops nums vals st2 ce pk pv n vc dn d pr tk th tr)) (w := (eW A C n ops nums vc vals d st ce pk pv pr w key pl dn tk tr) ++ oW ob oc ou) ⟨hx, hb, hml, hown, hw⟩ (c_L_emitted_bad l hl9 D A C ob oc ou _ n ops nums vc vals d st ce pk pv pr w key pl dn tk tr (xs ((4 * j) + 1)) (nI 1) hbad) wm_L_71 wt_L_emitted wn_L wc_L_emitted ⟨rfl, rfl⟩ wd_L_emitted ⟨by decide, by decide⟩ hX (hK.sub [7, 8, 9, 10, 11, 12, 13, 14] rfl) hP hD hS hA hl.1 rfl (Nat.le_of_ble_eq_true rfl) dL_law_420 ⟨(show _ ≤ 1050 by omega), (show _ ≤ 8567 by omega)⟩) hP hD hS hA (fun r u H locs hp hP hD hS => ?_)
  replace hP : va_P D vwCl ((mW A2 C2 ops nums vals st2 ce pk pv n vc dn d pr tk th tr) ++ ((eW A C n ops nums vc vals d st ce pk pv pr w key pl dn tk tr) ++ oW ob oc ou)) H := hP
  replace hD : va_D F ((mW A2 C2 ops nums vals st2 ce pk pv n vc dn d pr tk th tr) ++ ((eW A C n ops nums vc vals d st ce pk pv pr w key pl dn tk tr) ++ oW ob oc ou)) := hD
  subst hp
  refine lv_istore hx hb dL_law_423 hl (by decide) rfl (fun ls hl => ?_)
  have hl : lv_has ls 8 [(5, .int (nI 1)), (4, .int (nI (4 * j))), (3, .ref ob), (2, .ref (A2 0)), (1, .ref (A 0)), (0, .ref b)] := hl
  refine lv_aload_n hx hb dL_law_425 rfl (lv_at hl 3 rfl) ?_
  refine lv_aload_n hx hb dL_law_426 rfl (lv_at hl 5 rfl) ?_
  refine lv_iload hx hb dL_law_427 (lv_at hl 1 rfl) ?_
  refine lv_iconst (v := nI 1) hx hb dL_law_429 (by decide) ?_
  refine lv_iadd hx hb dL_law_430 ?_
  refine zti (nI_add _ _) ?_
  refine zSld hx hb hsc hbl hbA hS (by omega) (by omega) dL_law_431 ?_
  refine lv_aload_n hx hb dL_law_432 rfl (lv_at hl 5 rfl) ?_
  refine lv_iload hx hb dL_law_433 (lv_at hl 1 rfl) ?_
  refine lv_iconst (v := nI 2) hx hb dL_law_435 (by decide) ?_
  refine lv_iadd hx hb dL_law_436 ?_
  refine zti (nI_add _ _) ?_
  refine zSld hx hb hsc hbl hbA hS (by omega) (by omega) dL_law_437 ?_
  refine lv_if_eq (tgt := 445) hx hb dL_law_438 rfl (fun q => absurd q (by exact hfl)) (fun _ => ?_)
  refine lv_iconst (v := nI 1) hx hb dL_law_441 (by decide) ?_
  refine lv_goto (tgt := 446) hx hb dL_law_442 rfl ?_
  refine zAftl (wa := []) (w := (mW A2 C2 ops nums vals st2 ce pk pv n vc dn d pr tk th tr)) (wb := (eW A C n ops nums vc vals d st ce pk pv pr w key pl dn tk tr) ++ oW ob oc ou) (zRunV (wa := []) (w := (mW A2 C2 ops nums vals st2 ce pk pv n vc dn d pr tk th tr)) (wb := (eW A C n ops nums vc vals d st ce pk pv pr w key pl dn tk tr) ++ oW ob oc ou) ⟨hx, hb, hml, hown, hw⟩ (c_M_emitted_bad l D A2 C2 _ ops nums vals st2 ce pk pv n vc dn d pr tk th tr (xs ((4 * j) + 1)) (nI 1) hbad) wm_L_74 wi_M_emitted ws_M_emitted wn_M wc_M_emitted ⟨rfl, rfl⟩ wd_M_emitted ⟨by decide, by decide⟩ (hK.sub [0, 1, 2, 3, 4, 5, 6] rfl) hP hD 1 rfl rfl rfl hl.1 rfl (Nat.le_of_ble_eq_true rfl) dL_law_446 ⟨(show _ ≤ 1050 by omega), (show _ ≤ 8567 by omega)⟩) hP hD hS hA (fun r u H locs hp hP hD hS => ?_)
  replace hP : va_P D vwCl ((mW A2 C2 ops nums vals st2 ce pk pv n vc dn d pr tk 1 tr) ++ ((eW A C n ops nums vc vals d st ce pk pv pr w key pl dn tk tr) ++ oW ob oc ou)) H := hP
  replace hD : va_D F ((mW A2 C2 ops nums vals st2 ce pk pv n vc dn d pr tk 1 tr) ++ ((eW A C n ops nums vc vals d st ce pk pv pr w key pl dn tk tr) ++ oW ob oc ou)) := hD
  subst hp
  refine lv_lstore hx hb dL_law_449 hl (by decide) rfl (fun ls hl => ?_)
  have hl : lv_has ls 8 [(6, .long (0 : Int64)), (5, .int (nI 1)), (4, .int (nI (4 * j))), (3, .ref ob), (2, .ref (A2 0)), (1, .ref (A 0)), (0, .ref b)] := hl
  refine lv_aload_n hx hb dL_law_451 rfl (lv_at hl 4 rfl) ?_
  refine zAfti (wa := []) (w := (mW A2 C2 ops nums vals st2 ce pk pv n vc dn d pr tk 1 tr)) (wb := (eW A C n ops nums vc vals d st ce pk pv pr w key pl dn tk tr) ++ oW ob oc ou) (zRunV (wa := []) (w := (mW A2 C2 ops nums vals st2 ce pk pv n vc dn d pr tk 1 tr)) (wb := (eW A C n ops nums vc vals d st ce pk pv pr w key pl dn tk tr) ++ oW ob oc ou) ⟨hx, hb, hml, hown, hw⟩ (c_M_thrown l D A2 C2 _ ops nums vals st2 ce pk pv n vc dn d pr tk 1 tr) wm_L_52 wi_M_thrown ws_M_thrown wn_M wc_M_thrown ⟨rfl, rfl⟩ wd_M_thrown ⟨by decide, by decide⟩ (hK.sub [0, 1, 2, 3, 4, 5, 6] rfl) hP hD 1 rfl rfl rfl hl.1 rfl (Nat.le_of_ble_eq_true rfl) dL_law_452 ⟨(show _ ≤ 1050 by omega), (show _ ≤ 8567 by omega)⟩) hP hD hS hA (fun r u H locs hp hP hD hS => ?_)
  replace hP : va_P D vwCl ((mW A2 C2 ops nums vals st2 ce pk pv n vc dn d pr tk 1 tr) ++ ((eW A C n ops nums vc vals d st ce pk pv pr w key pl dn tk tr) ++ oW ob oc ou)) H := hP
  replace hD : va_D F ((mW A2 C2 ops nums vals st2 ce pk pv n vc dn d pr tk 1 tr) ++ ((eW A C n ops nums vc vals d st ce pk pv pr w key pl dn tk tr) ++ oW ob oc ou)) := hD
  subst hp
  refine lv_iload hx hb dL_law_455 (lv_at hl 1 rfl) ?_
  refine zc_eq (tgt := 462) hx hb dL_law_457 rfl (by omega) (by omega) (fun _ => ?_) (fun q => absurd q (by omega))
  refine lv_iload hx hb dL_law_462 (lv_at hl 1 rfl) ?_
  refine zi_ne (tgt := 478) hx hb dL_law_464 rfl (by omega) (fun _ => ?_) (fun q => absurd q (by omega))
  refine lv_goto (tgt := 592) hx hb dL_law_478 rfl ?_
  refine lv_iinc (k := 2) (v := nI ((4 * j) + 4)) hx hb dL_law_592 hl rfl (nI_add _ _) (by decide) rfl (fun ls hl => ?_)
  have hl : lv_has ls 8 [(4, .int (nI ((4 * j) + 4))), (6, .long (0 : Int64)), (5, .int (nI 1)), (3, .ref ob), (2, .ref (A2 0)), (1, .ref (A 0)), (0, .ref b)] := hl
  refine lv_goto (tgt := 23) hx hb dL_law_595 rfl ?_
  refine W.widen (k := 17 + (j + 1)) (n := 321 + 6 * (j + 1)) (by omega) (by omega) ?_
  exact kk n ops nums vc vals d st st2 ce pk pv pr w key pl dn tk 1 tr ou _ _ _ ⟨i1, i2, i3, i4, i5, i6, i7⟩ hP hD hS (lv_sub hl [0, 3, 4, 5, 6] rfl)
set_option maxRecDepth 20000 in
set_option maxHeartbeats 4000000 in
theorem lwEm_key {p : Program} {l : Launch} {e : Env} {s : State} {m : MethodId} {below : List Frame} {meth : Method} {c : Code} {b L : Nat} {xs : Nat → Int32} {D : va_G} {A A2 : Nat → Nat} {C C2 : Nat → ClassId} {ob : Nat} {oc : ClassId} {F : Nat → Prop} {Q : State → Prop} (hl9 : l.stackTraces = false) (hx : p.tables.exec = Jvm.exec) (hb : c.code = cL_law) (hml : c.maxLocals = 8) (hw : ∀ w ∈ WS, w.before #[Value.ref b] s = true) (hown : s.vm.findClass "EmitDeskLaw" = some m.cls) (hX : zL F s) (hK : va_K D vwCl (tL C C2 oc) s) (hA : ∀ q, s.heap.size ≤ q → F q) (hsc : va_X b L xs s s.heap) (hbl : b < s.heap.size) (hbA : ¬ F b) (hL : L ≤ 2048) {j : Nat} {n : Nat} {ops : Nat → Int32} {nums : Nat → Int64} {vc : Nat} {vals : Nat → Int64} {d : Nat} {st st2 ce pk pv : Nat → Int64} {pr w : Nat} {key : Int64} {pl dn tk th tr : Nat} {ou : Nat → Int64} {ls : Array Slot} {H : Heap} {locs : List Loc} {j2 : Nat} (hj : ¬ L < 4 * j + 4) (hi : LI n ops nums vc d pr tk dn tr) (hfl : xs ((4 * j) + 2) = 0) (hj2 : j2 < pr) (e9 : xs ((4 * j) + 1) = nI j2) (hP : va_P D vwCl ((mW A2 C2 ops nums vals st2 ce pk pv n vc dn d pr tk th tr) ++ ((eW A C n ops nums vc vals d st ce pk pv pr w key pl dn tk tr) ++ oW ob oc ou)) H) (hD : va_D F ((mW A2 C2 ops nums vals st2 ce pk pv n vc dn d pr tk th tr) ++ ((eW A C n ops nums vc vals d st ce pk pv pr w key pl dn tk tr) ++ oW ob oc ou))) (hS : va_S F s.heap H locs) (hl : lv_has ls 8 [(4, .int (nI (4 * j))), (3, .ref ob), (2, .ref (A2 0)), (1, .ref (A 0)), (0, .ref b)]) (kk : ∀ (n : Nat) (ops : Nat → Int32) (nums : Nat → Int64) (vc : Nat) (vals : Nat → Int64) (d : Nat) (st st2 ce pk pv : Nat → Int64) (pr w : Nat) (key : Int64) (pl dn tk th tr : Nat) (ou : Nat → Int64) (ls : Array Slot) (H : Heap) (locs : List Loc), LI n ops nums vc d pr tk dn tr → va_P D vwCl ((mW A2 C2 ops nums vals st2 ce pk pv n vc dn d pr tk th tr) ++ ((eW A C n ops nums vc vals d st ce pk pv pr w key pl dn tk tr) ++ oW ob oc ou)) H → va_D F ((mW A2 C2 ops nums vals st2 ce pk pv n vc dn d pr tk th tr) ++ ((eW A C n ops nums vc vals d st ce pk pv pr w key pl dn tk tr) ++ oW ob oc ou)) → va_S F s.heap H locs → lv_has ls 8 [(4, .int (nI (4 * (j + 1)))), (3, .ref ob), (2, .ref (A2 0)), (1, .ref (A 0)), (0, .ref b)] → W p l e rL s m #[Value.ref b] below meth c H locs (17 + (j + 1)) (321 + 6 * (j + 1)) Q (F0 m 23 ls [])) : W p l e rL s m #[Value.ref b] below meth c H locs (17 + j) (321 + 6 * j) Q (F0 m 398 ls []) := by
  obtain ⟨i1, i2, i3, i4, i5, i6, i7⟩ := hi
  have hn40 := i1.1
  refine lv_aload_n hx hb dL_law_398 rfl (lv_at hl 3 rfl) ?_
  refine lv_aload_n hx hb dL_law_399 rfl (lv_at hl 4 rfl) ?_
  refine lv_iload hx hb dL_law_400 (lv_at hl 0 rfl) ?_
  refine lv_iconst (v := nI 1) hx hb dL_law_402 (by decide) ?_
  refine lv_iadd hx hb dL_law_403 ?_
  refine zti (nI_add _ _) ?_
  refine zSld hx hb hsc hbl hbA hS (by omega) (by omega) dL_law_404 ?_
  refine zti e9 ?_
  refine lv_aload_n hx hb dL_law_405 rfl (lv_at hl 4 rfl) ?_
  refine lv_iload hx hb dL_law_406 (lv_at hl 0 rfl) ?_
  refine lv_iconst (v := nI 2) hx hb dL_law_408 (by decide) ?_
  refine lv_iadd hx hb dL_law_409 ?_
  refine zti (nI_add _ _) ?_
  refine zSld hx hb hsc hbl hbA hS (by omega) (by omega) dL_law_410 ?_
  refine lv_if_eq (tgt := 418) hx hb dL_law_411 rfl (fun _ => ?_) (fun q => absurd q (by exact fun q => q hfl))
  refine lv_iconst (v := nI 0) hx hb dL_law_418 (by decide) ?_
  refine lv_aload_n hx hb dL_law_419 rfl (lv_at hl 1 rfl) ?_
  refine zAftiR (wa := (mW A2 C2 ops nums vals st2 ce pk pv n vc dn d pr tk th tr)) (w := (eW A C n ops nums vc vals d st ce pk pv pr w key pl dn tk tr) ++ oW ob oc ou) (zRunSL (wa := (mW A2 C2 ops nums vals st2 ce pk pv n vc dn d pr tk th tr)) (w := (eW A C n ops nums vc vals d st ce pk pv pr w key pl dn tk tr) ++ oW ob oc ou) ⟨hx, hb, hml, hown, hw⟩ (c_L_emitted_key l hl9 D A C ob oc ou _ n ops nums vc vals d st ce pk pv pr w key pl dn tk tr j2 hj2 i4) wm_L_71 wt_L_emitted wn_L wc_L_emitted ⟨rfl, rfl⟩ wd_L_emitted ⟨by decide, by decide⟩ hX (hK.sub [7, 8, 9, 10, 11, 12, 13, 14] rfl) hP hD hS hA hl.1 rfl (Nat.le_of_ble_eq_true rfl) dL_law_420 ⟨(show _ ≤ 1050 by omega), (show _ ≤ 8567 by omega)⟩) hP hD hS hA (fun r u H locs hp hP hD hS => ?_)
  replace hP : va_P D vwCl ((mW A2 C2 ops nums vals st2 ce pk pv n vc dn d pr tk th tr) ++ ((eW A C n ops nums vc vals d st ce pk pv pr w key pl dn tk tr) ++ oW ob oc (vp_updL ou 0 (pk j2)))) H := hP
  replace hD : va_D F ((mW A2 C2 ops nums vals st2 ce pk pv n vc dn d pr tk th tr) ++ ((eW A C n ops nums vc vals d st ce pk pv pr w key pl dn tk tr) ++ oW ob oc (vp_updL ou 0 (pk j2)))) := hD
  subst hp
  refine lv_istore hx hb dL_law_423 hl (by decide) rfl (fun ls hl => ?_)
  have hl : lv_has ls 8 [(5, .int (nI 0)), (4, .int (nI (4 * j))), (3, .ref ob), (2, .ref (A2 0)), (1, .ref (A 0)), (0, .ref b)] := hl
  refine lv_aload_n hx hb dL_law_425 rfl (lv_at hl 3 rfl) ?_
  refine lv_aload_n hx hb dL_law_426 rfl (lv_at hl 5 rfl) ?_
  refine lv_iload hx hb dL_law_427 (lv_at hl 1 rfl) ?_
  refine lv_iconst (v := nI 1) hx hb dL_law_429 (by decide) ?_
  refine lv_iadd hx hb dL_law_430 ?_
  refine zti (nI_add _ _) ?_
  refine zSld hx hb hsc hbl hbA hS (by omega) (by omega) dL_law_431 ?_
  refine zti e9 ?_
  refine lv_aload_n hx hb dL_law_432 rfl (lv_at hl 5 rfl) ?_
  refine lv_iload hx hb dL_law_433 (lv_at hl 1 rfl) ?_
  refine lv_iconst (v := nI 2) hx hb dL_law_435 (by decide) ?_
  refine lv_iadd hx hb dL_law_436 ?_
  refine zti (nI_add _ _) ?_
  refine zSld hx hb hsc hbl hbA hS (by omega) (by omega) dL_law_437 ?_
  refine lv_if_eq (tgt := 445) hx hb dL_law_438 rfl (fun _ => ?_) (fun q => absurd q (by exact fun q => q hfl))
  refine lv_iconst (v := nI 0) hx hb dL_law_445 (by decide) ?_
  refine zAftl (wa := []) (w := (mW A2 C2 ops nums vals st2 ce pk pv n vc dn d pr tk th tr)) (wb := (eW A C n ops nums vc vals d st ce pk pv pr w key pl dn tk tr) ++ oW ob oc (vp_updL ou 0 (pk j2))) (zRunV (wa := []) (w := (mW A2 C2 ops nums vals st2 ce pk pv n vc dn d pr tk th tr)) (wb := (eW A C n ops nums vc vals d st ce pk pv pr w key pl dn tk tr) ++ oW ob oc (vp_updL ou 0 (pk j2))) ⟨hx, hb, hml, hown, hw⟩ (c_M_emitted_key l D A2 C2 _ ops nums vals st2 ce pk pv n vc dn d pr tk th tr j2 hj2 i4) wm_L_74 wi_M_emitted ws_M_emitted wn_M wc_M_emitted ⟨rfl, rfl⟩ wd_M_emitted ⟨by decide, by decide⟩ (hK.sub [0, 1, 2, 3, 4, 5, 6] rfl) hP hD 1 rfl rfl rfl hl.1 rfl (Nat.le_of_ble_eq_true rfl) dL_law_446 ⟨(show _ ≤ 1050 by omega), (show _ ≤ 8567 by omega)⟩) hP hD hS hA (fun r u H locs hp hP hD hS => ?_)
  replace hP : va_P D vwCl ((mW A2 C2 ops nums vals st2 ce pk pv n vc dn d pr tk 0 tr) ++ ((eW A C n ops nums vc vals d st ce pk pv pr w key pl dn tk tr) ++ oW ob oc (vp_updL ou 0 (pk j2)))) H := hP
  replace hD : va_D F ((mW A2 C2 ops nums vals st2 ce pk pv n vc dn d pr tk 0 tr) ++ ((eW A C n ops nums vc vals d st ce pk pv pr w key pl dn tk tr) ++ oW ob oc (vp_updL ou 0 (pk j2)))) := hD
  subst hp
  refine lv_lstore hx hb dL_law_449 hl (by decide) rfl (fun ls hl => ?_)
  have hl : lv_has ls 8 [(6, .long (pk j2)), (5, .int (nI 0)), (4, .int (nI (4 * j))), (3, .ref ob), (2, .ref (A2 0)), (1, .ref (A 0)), (0, .ref b)] := hl
  refine lv_aload_n hx hb dL_law_451 rfl (lv_at hl 4 rfl) ?_
  refine zAfti (wa := []) (w := (mW A2 C2 ops nums vals st2 ce pk pv n vc dn d pr tk 0 tr)) (wb := (eW A C n ops nums vc vals d st ce pk pv pr w key pl dn tk tr) ++ oW ob oc (vp_updL ou 0 (pk j2))) (zRunV (wa := []) (w := (mW A2 C2 ops nums vals st2 ce pk pv n vc dn d pr tk 0 tr)) (wb := (eW A C n ops nums vc vals d st ce pk pv pr w key pl dn tk tr) ++ oW ob oc (vp_updL ou 0 (pk j2))) ⟨hx, hb, hml, hown, hw⟩ (c_M_thrown l D A2 C2 _ ops nums vals st2 ce pk pv n vc dn d pr tk 0 tr) wm_L_52 wi_M_thrown ws_M_thrown wn_M wc_M_thrown ⟨rfl, rfl⟩ wd_M_thrown ⟨by decide, by decide⟩ (hK.sub [0, 1, 2, 3, 4, 5, 6] rfl) hP hD 1 rfl rfl rfl hl.1 rfl (Nat.le_of_ble_eq_true rfl) dL_law_452 ⟨(show _ ≤ 1050 by omega), (show _ ≤ 8567 by omega)⟩) hP hD hS hA (fun r u H locs hp hP hD hS => ?_)
  replace hP : va_P D vwCl ((mW A2 C2 ops nums vals st2 ce pk pv n vc dn d pr tk 0 tr) ++ ((eW A C n ops nums vc vals d st ce pk pv pr w key pl dn tk tr) ++ oW ob oc (vp_updL ou 0 (pk j2)))) H := hP
  replace hD : va_D F ((mW A2 C2 ops nums vals st2 ce pk pv n vc dn d pr tk 0 tr) ++ ((eW A C n ops nums vc vals d st ce pk pv pr w key pl dn tk tr) ++ oW ob oc (vp_updL ou 0 (pk j2)))) := hD
  subst hp
  refine lv_iload hx hb dL_law_455 (lv_at hl 1 rfl) ?_
  refine zc_eq (tgt := 462) hx hb dL_law_457 rfl (by omega) (by omega) (fun _ => ?_) (fun q => absurd q (by omega))
  refine lv_iload hx hb dL_law_462 (lv_at hl 1 rfl) ?_
  refine zi_ne (tgt := 478) hx hb dL_law_464 rfl (by omega) (fun q => absurd q (by omega)) (fun _ => ?_)
  refine lv_aload_n hx hb dL_law_467 rfl (lv_at hl 3 rfl) ?_
  refine lv_iconst (v := nI 0) hx hb dL_law_468 (by decide) ?_
  refine zLald hx hb hK hP 16 14 rfl rfl (by omega) (by decide) dL_law_469 ?_
  refine ztl pk_uLs ?_
  refine lv_lload hx hb dL_law_470 (lv_at hl 0 rfl) ?_
  refine W.lcmp hx hb dL_law_472 ?_
  refine zl_eq (tgt := 478) hx hb dL_law_473 rfl (fun _ => ?_) (fun q => absurd q (by exact fun z => z rfl))
  refine lv_goto (tgt := 592) hx hb dL_law_478 rfl ?_
  refine lv_iinc (k := 2) (v := nI ((4 * j) + 4)) hx hb dL_law_592 hl rfl (nI_add _ _) (by decide) rfl (fun ls hl => ?_)
  have hl : lv_has ls 8 [(4, .int (nI ((4 * j) + 4))), (6, .long (pk j2)), (5, .int (nI 0)), (3, .ref ob), (2, .ref (A2 0)), (1, .ref (A 0)), (0, .ref b)] := hl
  refine lv_goto (tgt := 23) hx hb dL_law_595 rfl ?_
  refine W.widen (k := 17 + (j + 1)) (n := 321 + 6 * (j + 1)) (by omega) (by omega) ?_
  exact kk n ops nums vc vals d st st2 ce pk pv pr w key pl dn tk 0 tr (vp_updL ou 0 (pk j2)) _ _ _ ⟨i1, i2, i3, i4, i5, i6, i7⟩ hP hD hS (lv_sub hl [0, 3, 4, 5, 6] rfl)
set_option maxRecDepth 20000 in
set_option maxHeartbeats 4000000 in
theorem lwEmB_key {p : Program} {l : Launch} {e : Env} {s : State} {m : MethodId} {below : List Frame} {meth : Method} {c : Code} {b L : Nat} {xs : Nat → Int32} {D : va_G} {A A2 : Nat → Nat} {C C2 : Nat → ClassId} {ob : Nat} {oc : ClassId} {F : Nat → Prop} {Q : State → Prop} (hl9 : l.stackTraces = false) (hx : p.tables.exec = Jvm.exec) (hb : c.code = cL_law) (hml : c.maxLocals = 8) (hw : ∀ w ∈ WS, w.before #[Value.ref b] s = true) (hown : s.vm.findClass "EmitDeskLaw" = some m.cls) (hX : zL F s) (hK : va_K D vwCl (tL C C2 oc) s) (hA : ∀ q, s.heap.size ≤ q → F q) (hsc : va_X b L xs s s.heap) (hbl : b < s.heap.size) (hbA : ¬ F b) (hL : L ≤ 2048) {j : Nat} {n : Nat} {ops : Nat → Int32} {nums : Nat → Int64} {vc : Nat} {vals : Nat → Int64} {d : Nat} {st st2 ce pk pv : Nat → Int64} {pr w : Nat} {key : Int64} {pl dn tk th tr : Nat} {ou : Nat → Int64} {ls : Array Slot} {H : Heap} {locs : List Loc} (hj : ¬ L < 4 * j + 4) (hi : LI n ops nums vc d pr tk dn tr) (hfl : xs ((4 * j) + 2) = 0) (hbad : (xs ((4 * j) + 1)) < 0 ∨ nI pr ≤ xs ((4 * j) + 1)) (hP : va_P D vwCl ((mW A2 C2 ops nums vals st2 ce pk pv n vc dn d pr tk th tr) ++ ((eW A C n ops nums vc vals d st ce pk pv pr w key pl dn tk tr) ++ oW ob oc ou)) H) (hD : va_D F ((mW A2 C2 ops nums vals st2 ce pk pv n vc dn d pr tk th tr) ++ ((eW A C n ops nums vc vals d st ce pk pv pr w key pl dn tk tr) ++ oW ob oc ou))) (hS : va_S F s.heap H locs) (hl : lv_has ls 8 [(4, .int (nI (4 * j))), (3, .ref ob), (2, .ref (A2 0)), (1, .ref (A 0)), (0, .ref b)]) (kk : ∀ (n : Nat) (ops : Nat → Int32) (nums : Nat → Int64) (vc : Nat) (vals : Nat → Int64) (d : Nat) (st st2 ce pk pv : Nat → Int64) (pr w : Nat) (key : Int64) (pl dn tk th tr : Nat) (ou : Nat → Int64) (ls : Array Slot) (H : Heap) (locs : List Loc), LI n ops nums vc d pr tk dn tr → va_P D vwCl ((mW A2 C2 ops nums vals st2 ce pk pv n vc dn d pr tk th tr) ++ ((eW A C n ops nums vc vals d st ce pk pv pr w key pl dn tk tr) ++ oW ob oc ou)) H → va_D F ((mW A2 C2 ops nums vals st2 ce pk pv n vc dn d pr tk th tr) ++ ((eW A C n ops nums vc vals d st ce pk pv pr w key pl dn tk tr) ++ oW ob oc ou)) → va_S F s.heap H locs → lv_has ls 8 [(4, .int (nI (4 * (j + 1)))), (3, .ref ob), (2, .ref (A2 0)), (1, .ref (A 0)), (0, .ref b)] → W p l e rL s m #[Value.ref b] below meth c H locs (17 + (j + 1)) (321 + 6 * (j + 1)) Q (F0 m 23 ls [])) : W p l e rL s m #[Value.ref b] below meth c H locs (17 + j) (321 + 6 * j) Q (F0 m 398 ls []) := by
  obtain ⟨i1, i2, i3, i4, i5, i6, i7⟩ := hi
  have hn40 := i1.1
  refine lv_aload_n hx hb dL_law_398 rfl (lv_at hl 3 rfl) ?_
  refine lv_aload_n hx hb dL_law_399 rfl (lv_at hl 4 rfl) ?_
  refine lv_iload hx hb dL_law_400 (lv_at hl 0 rfl) ?_
  refine lv_iconst (v := nI 1) hx hb dL_law_402 (by decide) ?_
  refine lv_iadd hx hb dL_law_403 ?_
  refine zti (nI_add _ _) ?_
  refine zSld hx hb hsc hbl hbA hS (by omega) (by omega) dL_law_404 ?_
  refine lv_aload_n hx hb dL_law_405 rfl (lv_at hl 4 rfl) ?_
  refine lv_iload hx hb dL_law_406 (lv_at hl 0 rfl) ?_
  refine lv_iconst (v := nI 2) hx hb dL_law_408 (by decide) ?_
  refine lv_iadd hx hb dL_law_409 ?_
  refine zti (nI_add _ _) ?_
  refine zSld hx hb hsc hbl hbA hS (by omega) (by omega) dL_law_410 ?_
  refine lv_if_eq (tgt := 418) hx hb dL_law_411 rfl (fun _ => ?_) (fun q => absurd q (by exact fun q => q hfl))
  refine lv_iconst (v := nI 0) hx hb dL_law_418 (by decide) ?_
  refine lv_aload_n hx hb dL_law_419 rfl (lv_at hl 1 rfl) ?_
  refine zAftiR (wa := (mW A2 C2 ops nums vals st2 ce pk pv n vc dn d pr tk th tr)) (w := (eW A C n ops nums vc vals d st ce pk pv pr w key pl dn tk tr) ++ oW ob oc ou) (zRunSL (wa := (mW A2 C2 ops nums vals st2 ce pk pv n vc dn d pr tk th tr)) (w := (eW A C n ops nums vc vals d st ce pk pv pr w key pl dn tk tr) ++ oW ob oc ou) ⟨hx, hb, hml, hown, hw⟩ (c_L_emitted_bad l hl9 D A C ob oc ou _ n ops nums vc vals d st ce pk pv pr w key pl dn tk tr (xs ((4 * j) + 1)) (nI 0) hbad) wm_L_71 wt_L_emitted wn_L wc_L_emitted ⟨rfl, rfl⟩ wd_L_emitted ⟨by decide, by decide⟩ hX (hK.sub [7, 8, 9, 10, 11, 12, 13, 14] rfl) hP hD hS hA hl.1 rfl (Nat.le_of_ble_eq_true rfl) dL_law_420 ⟨(show _ ≤ 1050 by omega), (show _ ≤ 8567 by omega)⟩) hP hD hS hA (fun r u H locs hp hP hD hS => ?_)
  replace hP : va_P D vwCl ((mW A2 C2 ops nums vals st2 ce pk pv n vc dn d pr tk th tr) ++ ((eW A C n ops nums vc vals d st ce pk pv pr w key pl dn tk tr) ++ oW ob oc ou)) H := hP
  replace hD : va_D F ((mW A2 C2 ops nums vals st2 ce pk pv n vc dn d pr tk th tr) ++ ((eW A C n ops nums vc vals d st ce pk pv pr w key pl dn tk tr) ++ oW ob oc ou)) := hD
  subst hp
  refine lv_istore hx hb dL_law_423 hl (by decide) rfl (fun ls hl => ?_)
  have hl : lv_has ls 8 [(5, .int (nI 1)), (4, .int (nI (4 * j))), (3, .ref ob), (2, .ref (A2 0)), (1, .ref (A 0)), (0, .ref b)] := hl
  refine lv_aload_n hx hb dL_law_425 rfl (lv_at hl 3 rfl) ?_
  refine lv_aload_n hx hb dL_law_426 rfl (lv_at hl 5 rfl) ?_
  refine lv_iload hx hb dL_law_427 (lv_at hl 1 rfl) ?_
  refine lv_iconst (v := nI 1) hx hb dL_law_429 (by decide) ?_
  refine lv_iadd hx hb dL_law_430 ?_
  refine zti (nI_add _ _) ?_
  refine zSld hx hb hsc hbl hbA hS (by omega) (by omega) dL_law_431 ?_
  refine lv_aload_n hx hb dL_law_432 rfl (lv_at hl 5 rfl) ?_
  refine lv_iload hx hb dL_law_433 (lv_at hl 1 rfl) ?_
  refine lv_iconst (v := nI 2) hx hb dL_law_435 (by decide) ?_
  refine lv_iadd hx hb dL_law_436 ?_
  refine zti (nI_add _ _) ?_
  refine zSld hx hb hsc hbl hbA hS (by omega) (by omega) dL_law_437 ?_
  refine lv_if_eq (tgt := 445) hx hb dL_law_438 rfl (fun _ => ?_) (fun q => absurd q (by exact fun q => q hfl))
  refine lv_iconst (v := nI 0) hx hb dL_law_445 (by decide) ?_
  refine zAftl (wa := []) (w := (mW A2 C2 ops nums vals st2 ce pk pv n vc dn d pr tk th tr)) (wb := (eW A C n ops nums vc vals d st ce pk pv pr w key pl dn tk tr) ++ oW ob oc ou) (zRunV (wa := []) (w := (mW A2 C2 ops nums vals st2 ce pk pv n vc dn d pr tk th tr)) (wb := (eW A C n ops nums vc vals d st ce pk pv pr w key pl dn tk tr) ++ oW ob oc ou) ⟨hx, hb, hml, hown, hw⟩ (c_M_emitted_bad l D A2 C2 _ ops nums vals st2 ce pk pv n vc dn d pr tk th tr (xs ((4 * j) + 1)) (nI 0) hbad) wm_L_74 wi_M_emitted ws_M_emitted wn_M wc_M_emitted ⟨rfl, rfl⟩ wd_M_emitted ⟨by decide, by decide⟩ (hK.sub [0, 1, 2, 3, 4, 5, 6] rfl) hP hD 1 rfl rfl rfl hl.1 rfl (Nat.le_of_ble_eq_true rfl) dL_law_446 ⟨(show _ ≤ 1050 by omega), (show _ ≤ 8567 by omega)⟩) hP hD hS hA (fun r u H locs hp hP hD hS => ?_)
  replace hP : va_P D vwCl ((mW A2 C2 ops nums vals st2 ce pk pv n vc dn d pr tk 1 tr) ++ ((eW A C n ops nums vc vals d st ce pk pv pr w key pl dn tk tr) ++ oW ob oc ou)) H := hP
  replace hD : va_D F ((mW A2 C2 ops nums vals st2 ce pk pv n vc dn d pr tk 1 tr) ++ ((eW A C n ops nums vc vals d st ce pk pv pr w key pl dn tk tr) ++ oW ob oc ou)) := hD
  subst hp
  refine lv_lstore hx hb dL_law_449 hl (by decide) rfl (fun ls hl => ?_)
  have hl : lv_has ls 8 [(6, .long (0 : Int64)), (5, .int (nI 1)), (4, .int (nI (4 * j))), (3, .ref ob), (2, .ref (A2 0)), (1, .ref (A 0)), (0, .ref b)] := hl
  refine lv_aload_n hx hb dL_law_451 rfl (lv_at hl 4 rfl) ?_
  refine zAfti (wa := []) (w := (mW A2 C2 ops nums vals st2 ce pk pv n vc dn d pr tk 1 tr)) (wb := (eW A C n ops nums vc vals d st ce pk pv pr w key pl dn tk tr) ++ oW ob oc ou) (zRunV (wa := []) (w := (mW A2 C2 ops nums vals st2 ce pk pv n vc dn d pr tk 1 tr)) (wb := (eW A C n ops nums vc vals d st ce pk pv pr w key pl dn tk tr) ++ oW ob oc ou) ⟨hx, hb, hml, hown, hw⟩ (c_M_thrown l D A2 C2 _ ops nums vals st2 ce pk pv n vc dn d pr tk 1 tr) wm_L_52 wi_M_thrown ws_M_thrown wn_M wc_M_thrown ⟨rfl, rfl⟩ wd_M_thrown ⟨by decide, by decide⟩ (hK.sub [0, 1, 2, 3, 4, 5, 6] rfl) hP hD 1 rfl rfl rfl hl.1 rfl (Nat.le_of_ble_eq_true rfl) dL_law_452 ⟨(show _ ≤ 1050 by omega), (show _ ≤ 8567 by omega)⟩) hP hD hS hA (fun r u H locs hp hP hD hS => ?_)
  replace hP : va_P D vwCl ((mW A2 C2 ops nums vals st2 ce pk pv n vc dn d pr tk 1 tr) ++ ((eW A C n ops nums vc vals d st ce pk pv pr w key pl dn tk tr) ++ oW ob oc ou)) H := hP
  replace hD : va_D F ((mW A2 C2 ops nums vals st2 ce pk pv n vc dn d pr tk 1 tr) ++ ((eW A C n ops nums vc vals d st ce pk pv pr w key pl dn tk tr) ++ oW ob oc ou)) := hD
  subst hp
  refine lv_iload hx hb dL_law_455 (lv_at hl 1 rfl) ?_
  refine zc_eq (tgt := 462) hx hb dL_law_457 rfl (by omega) (by omega) (fun _ => ?_) (fun q => absurd q (by omega))
  refine lv_iload hx hb dL_law_462 (lv_at hl 1 rfl) ?_
  refine zi_ne (tgt := 478) hx hb dL_law_464 rfl (by omega) (fun _ => ?_) (fun q => absurd q (by omega))
  refine lv_goto (tgt := 592) hx hb dL_law_478 rfl ?_
  refine lv_iinc (k := 2) (v := nI ((4 * j) + 4)) hx hb dL_law_592 hl rfl (nI_add _ _) (by decide) rfl (fun ls hl => ?_)
  have hl : lv_has ls 8 [(4, .int (nI ((4 * j) + 4))), (6, .long (0 : Int64)), (5, .int (nI 1)), (3, .ref ob), (2, .ref (A2 0)), (1, .ref (A 0)), (0, .ref b)] := hl
  refine lv_goto (tgt := 23) hx hb dL_law_595 rfl ?_
  refine W.widen (k := 17 + (j + 1)) (n := 321 + 6 * (j + 1)) (by omega) (by omega) ?_
  exact kk n ops nums vc vals d st st2 ce pk pv pr w key pl dn tk 1 tr ou _ _ _ ⟨i1, i2, i3, i4, i5, i6, i7⟩ hP hD hS (lv_sub hl [0, 3, 4, 5, 6] rfl)
set_option maxRecDepth 20000 in
set_option maxHeartbeats 4000000 in
theorem lwTold0 {p : Program} {l : Launch} {e : Env} {s : State} {m : MethodId} {below : List Frame} {meth : Method} {c : Code} {b L : Nat} {xs : Nat → Int32} {D : va_G} {A A2 : Nat → Nat} {C C2 : Nat → ClassId} {ob : Nat} {oc : ClassId} {F : Nat → Prop} {Q : State → Prop} (hl9 : l.stackTraces = false) (hx : p.tables.exec = Jvm.exec) (hb : c.code = cL_law) (hml : c.maxLocals = 8) (hw : ∀ w ∈ WS, w.before #[Value.ref b] s = true) (hown : s.vm.findClass "EmitDeskLaw" = some m.cls) (hX : zL F s) (hK : va_K D vwCl (tL C C2 oc) s) (hA : ∀ q, s.heap.size ≤ q → F q) (hsc : va_X b L xs s s.heap) (hbl : b < s.heap.size) (hbA : ¬ F b) (hL : L ≤ 2048) {j : Nat} {n : Nat} {ops : Nat → Int32} {nums : Nat → Int64} {vc : Nat} {vals : Nat → Int64} {d : Nat} {st st2 ce pk pv : Nat → Int64} {pr w : Nat} {key : Int64} {pl dn tk th tr : Nat} {ou : Nat → Int64} {ls : Array Slot} {H : Heap} {locs : List Loc} (hj : ¬ L < 4 * j + 4) (hi : LI n ops nums vc d pr tk dn tr) (e9 : xs ((4 * j) + 1) = nI 0) (hP : va_P D vwCl ((mW A2 C2 ops nums vals st2 ce pk pv n vc dn d pr tk th tr) ++ ((eW A C n ops nums vc vals d st ce pk pv pr w key pl dn tk tr) ++ oW ob oc ou)) H) (hD : va_D F ((mW A2 C2 ops nums vals st2 ce pk pv n vc dn d pr tk th tr) ++ ((eW A C n ops nums vc vals d st ce pk pv pr w key pl dn tk tr) ++ oW ob oc ou))) (hS : va_S F s.heap H locs) (hl : lv_has ls 8 [(4, .int (nI (4 * j))), (3, .ref ob), (2, .ref (A2 0)), (1, .ref (A 0)), (0, .ref b)]) (kk : ∀ (n : Nat) (ops : Nat → Int32) (nums : Nat → Int64) (vc : Nat) (vals : Nat → Int64) (d : Nat) (st st2 ce pk pv : Nat → Int64) (pr w : Nat) (key : Int64) (pl dn tk th tr : Nat) (ou : Nat → Int64) (ls : Array Slot) (H : Heap) (locs : List Loc), LI n ops nums vc d pr tk dn tr → va_P D vwCl ((mW A2 C2 ops nums vals st2 ce pk pv n vc dn d pr tk th tr) ++ ((eW A C n ops nums vc vals d st ce pk pv pr w key pl dn tk tr) ++ oW ob oc ou)) H → va_D F ((mW A2 C2 ops nums vals st2 ce pk pv n vc dn d pr tk th tr) ++ ((eW A C n ops nums vc vals d st ce pk pv pr w key pl dn tk tr) ++ oW ob oc ou)) → va_S F s.heap H locs → lv_has ls 8 [(4, .int (nI (4 * (j + 1)))), (3, .ref ob), (2, .ref (A2 0)), (1, .ref (A 0)), (0, .ref b)] → W p l e rL s m #[Value.ref b] below meth c H locs (17 + (j + 1)) (321 + 6 * (j + 1)) Q (F0 m 23 ls [])) : W p l e rL s m #[Value.ref b] below meth c H locs (17 + j) (321 + 6 * j) Q (F0 m 481 ls []) := by
  obtain ⟨i1, i2, i3, i4, i5, i6, i7⟩ := hi
  have hn40 := i1.1
  refine lv_aload_n hx hb dL_law_481 rfl (lv_at hl 3 rfl) ?_
  refine lv_aload_n hx hb dL_law_482 rfl (lv_at hl 4 rfl) ?_
  refine lv_iload hx hb dL_law_483 (lv_at hl 0 rfl) ?_
  refine lv_iconst (v := nI 1) hx hb dL_law_485 (by decide) ?_
  refine lv_iadd hx hb dL_law_486 ?_
  refine zti (nI_add _ _) ?_
  refine zSld hx hb hsc hbl hbA hS (by omega) (by omega) dL_law_487 ?_
  refine zti e9 ?_
  refine lv_aload_n hx hb dL_law_488 rfl (lv_at hl 1 rfl) ?_
  refine zAftiR (wa := (mW A2 C2 ops nums vals st2 ce pk pv n vc dn d pr tk th tr)) (w := (eW A C n ops nums vc vals d st ce pk pv pr w key pl dn tk tr) ++ oW ob oc ou) (zRunSL (wa := (mW A2 C2 ops nums vals st2 ce pk pv n vc dn d pr tk th tr)) (w := (eW A C n ops nums vc vals d st ce pk pv pr w key pl dn tk tr) ++ oW ob oc ou) ⟨hx, hb, hml, hown, hw⟩ (c_L_told0 l hl9 D A C ob oc ou _ n ops nums vc vals d st ce pk pv pr w key pl dn tk tr (by omega)) wm_L_75 wt_L_told wn_L wc_L_told ⟨rfl, rfl⟩ wd_L_told ⟨by decide, by decide⟩ hX (hK.sub [7, 8, 9, 10, 11, 12, 13, 14] rfl) hP hD hS hA hl.1 rfl (Nat.le_of_ble_eq_true rfl) dL_law_489 ⟨(show _ ≤ 1050 by omega), (show _ ≤ 8567 by omega)⟩) hP hD hS hA (fun r u H locs hp hP hD hS => ?_)
  replace hP : va_P D vwCl ((mW A2 C2 ops nums vals st2 ce pk pv n vc dn d pr tk th tr) ++ ((eW A C n ops nums vc vals d st ce pk pv pr w key pl dn tk tr) ++ oW ob oc (vp_updL ou 0 (lN dn)))) H := hP
  replace hD : va_D F ((mW A2 C2 ops nums vals st2 ce pk pv n vc dn d pr tk th tr) ++ ((eW A C n ops nums vc vals d st ce pk pv pr w key pl dn tk tr) ++ oW ob oc (vp_updL ou 0 (lN dn)))) := hD
  subst hp
  refine lv_istore hx hb dL_law_492 hl (by decide) rfl (fun ls hl => ?_)
  have hl : lv_has ls 8 [(5, .int (nI 0)), (4, .int (nI (4 * j))), (3, .ref ob), (2, .ref (A2 0)), (1, .ref (A 0)), (0, .ref b)] := hl
  refine lv_aload_n hx hb dL_law_494 rfl (lv_at hl 3 rfl) ?_
  refine lv_aload_n hx hb dL_law_495 rfl (lv_at hl 5 rfl) ?_
  refine lv_iload hx hb dL_law_496 (lv_at hl 1 rfl) ?_
  refine lv_iconst (v := nI 1) hx hb dL_law_498 (by decide) ?_
  refine lv_iadd hx hb dL_law_499 ?_
  refine zti (nI_add _ _) ?_
  refine zSld hx hb hsc hbl hbA hS (by omega) (by omega) dL_law_500 ?_
  refine zti e9 ?_
  refine zAfti (wa := []) (w := (mW A2 C2 ops nums vals st2 ce pk pv n vc dn d pr tk th tr)) (wb := (eW A C n ops nums vc vals d st ce pk pv pr w key pl dn tk tr) ++ oW ob oc (vp_updL ou 0 (lN dn))) (zRunV (wa := []) (w := (mW A2 C2 ops nums vals st2 ce pk pv n vc dn d pr tk th tr)) (wb := (eW A C n ops nums vc vals d st ce pk pv pr w key pl dn tk tr) ++ oW ob oc (vp_updL ou 0 (lN dn))) ⟨hx, hb, hml, hown, hw⟩ (c_M_told0 l D A2 C2 _ ops nums vals st2 ce pk pv n vc dn d pr tk th tr) wm_L_78 wi_M_told ws_M_told wn_M wc_M_told ⟨rfl, rfl⟩ wd_M_told ⟨by decide, by decide⟩ (hK.sub [0, 1, 2, 3, 4, 5, 6] rfl) hP hD 1 rfl rfl rfl hl.1 rfl (Nat.le_of_ble_eq_true rfl) dL_law_501 ⟨(show _ ≤ 1050 by omega), (show _ ≤ 8567 by omega)⟩) hP hD hS hA (fun r u H locs hp hP hD hS => ?_)
  replace hP : va_P D vwCl ((mW A2 C2 ops nums vals st2 ce pk pv n vc dn d pr tk 0 tr) ++ ((eW A C n ops nums vc vals d st ce pk pv pr w key pl dn tk tr) ++ oW ob oc (vp_updL ou 0 (lN dn)))) H := hP
  replace hD : va_D F ((mW A2 C2 ops nums vals st2 ce pk pv n vc dn d pr tk 0 tr) ++ ((eW A C n ops nums vc vals d st ce pk pv pr w key pl dn tk tr) ++ oW ob oc (vp_updL ou 0 (lN dn)))) := hD
  subst hp
  refine lv_istore hx hb dL_law_504 hl (by decide) rfl (fun ls hl => ?_)
  have hl : lv_has ls 8 [(6, .int (nI dn)), (5, .int (nI 0)), (4, .int (nI (4 * j))), (3, .ref ob), (2, .ref (A2 0)), (1, .ref (A 0)), (0, .ref b)] := hl
  refine lv_aload_n hx hb dL_law_506 rfl (lv_at hl 4 rfl) ?_
  refine zAfti (wa := []) (w := (mW A2 C2 ops nums vals st2 ce pk pv n vc dn d pr tk 0 tr)) (wb := (eW A C n ops nums vc vals d st ce pk pv pr w key pl dn tk tr) ++ oW ob oc (vp_updL ou 0 (lN dn))) (zRunV (wa := []) (w := (mW A2 C2 ops nums vals st2 ce pk pv n vc dn d pr tk 0 tr)) (wb := (eW A C n ops nums vc vals d st ce pk pv pr w key pl dn tk tr) ++ oW ob oc (vp_updL ou 0 (lN dn))) ⟨hx, hb, hml, hown, hw⟩ (c_M_thrown l D A2 C2 _ ops nums vals st2 ce pk pv n vc dn d pr tk 0 tr) wm_L_52 wi_M_thrown ws_M_thrown wn_M wc_M_thrown ⟨rfl, rfl⟩ wd_M_thrown ⟨by decide, by decide⟩ (hK.sub [0, 1, 2, 3, 4, 5, 6] rfl) hP hD 1 rfl rfl rfl hl.1 rfl (Nat.le_of_ble_eq_true rfl) dL_law_507 ⟨(show _ ≤ 1050 by omega), (show _ ≤ 8567 by omega)⟩) hP hD hS hA (fun r u H locs hp hP hD hS => ?_)
  replace hP : va_P D vwCl ((mW A2 C2 ops nums vals st2 ce pk pv n vc dn d pr tk 0 tr) ++ ((eW A C n ops nums vc vals d st ce pk pv pr w key pl dn tk tr) ++ oW ob oc (vp_updL ou 0 (lN dn)))) H := hP
  replace hD : va_D F ((mW A2 C2 ops nums vals st2 ce pk pv n vc dn d pr tk 0 tr) ++ ((eW A C n ops nums vc vals d st ce pk pv pr w key pl dn tk tr) ++ oW ob oc (vp_updL ou 0 (lN dn)))) := hD
  subst hp
  refine lv_iload hx hb dL_law_510 (lv_at hl 1 rfl) ?_
  refine zc_eq (tgt := 517) hx hb dL_law_512 rfl (by omega) (by omega) (fun _ => ?_) (fun q => absurd q (by omega))
  refine lv_iload hx hb dL_law_517 (lv_at hl 1 rfl) ?_
  refine zi_ne (tgt := 534) hx hb dL_law_519 rfl (by omega) (fun q => absurd q (by omega)) (fun _ => ?_)
  refine lv_aload_n hx hb dL_law_522 rfl (lv_at hl 3 rfl) ?_
  refine lv_iconst (v := nI 0) hx hb dL_law_523 (by decide) ?_
  refine zLald hx hb hK hP 16 14 rfl rfl (by omega) (by decide) dL_law_524 ?_
  refine ztl pk_uLs ?_
  refine lv_iload hx hb dL_law_525 (lv_at hl 0 rfl) ?_
  refine lv_i2l hx hb dL_law_527 (nI_l (by omega)) ?_
  refine W.lcmp hx hb dL_law_528 ?_
  refine zl_eq (tgt := 534) hx hb dL_law_529 rfl (fun _ => ?_) (fun q => absurd q (by exact fun z => z rfl))
  refine lv_goto (tgt := 592) hx hb dL_law_534 rfl ?_
  refine lv_iinc (k := 2) (v := nI ((4 * j) + 4)) hx hb dL_law_592 hl rfl (nI_add _ _) (by decide) rfl (fun ls hl => ?_)
  have hl : lv_has ls 8 [(4, .int (nI ((4 * j) + 4))), (6, .int (nI dn)), (5, .int (nI 0)), (3, .ref ob), (2, .ref (A2 0)), (1, .ref (A 0)), (0, .ref b)] := hl
  refine lv_goto (tgt := 23) hx hb dL_law_595 rfl ?_
  refine W.widen (k := 17 + (j + 1)) (n := 321 + 6 * (j + 1)) (by omega) (by omega) ?_
  exact kk n ops nums vc vals d st st2 ce pk pv pr w key pl dn tk 0 tr (vp_updL ou 0 (lN dn)) _ _ _ ⟨i1, i2, i3, i4, i5, i6, i7⟩ hP hD hS (lv_sub hl [0, 3, 4, 5, 6] rfl)
set_option maxRecDepth 20000 in
set_option maxHeartbeats 4000000 in
theorem lwTold1 {p : Program} {l : Launch} {e : Env} {s : State} {m : MethodId} {below : List Frame} {meth : Method} {c : Code} {b L : Nat} {xs : Nat → Int32} {D : va_G} {A A2 : Nat → Nat} {C C2 : Nat → ClassId} {ob : Nat} {oc : ClassId} {F : Nat → Prop} {Q : State → Prop} (hl9 : l.stackTraces = false) (hx : p.tables.exec = Jvm.exec) (hb : c.code = cL_law) (hml : c.maxLocals = 8) (hw : ∀ w ∈ WS, w.before #[Value.ref b] s = true) (hown : s.vm.findClass "EmitDeskLaw" = some m.cls) (hX : zL F s) (hK : va_K D vwCl (tL C C2 oc) s) (hA : ∀ q, s.heap.size ≤ q → F q) (hsc : va_X b L xs s s.heap) (hbl : b < s.heap.size) (hbA : ¬ F b) (hL : L ≤ 2048) {j : Nat} {n : Nat} {ops : Nat → Int32} {nums : Nat → Int64} {vc : Nat} {vals : Nat → Int64} {d : Nat} {st st2 ce pk pv : Nat → Int64} {pr w : Nat} {key : Int64} {pl dn tk th tr : Nat} {ou : Nat → Int64} {ls : Array Slot} {H : Heap} {locs : List Loc} (hj : ¬ L < 4 * j + 4) (hi : LI n ops nums vc d pr tk dn tr) (e9 : xs ((4 * j) + 1) = nI 1) (hP : va_P D vwCl ((mW A2 C2 ops nums vals st2 ce pk pv n vc dn d pr tk th tr) ++ ((eW A C n ops nums vc vals d st ce pk pv pr w key pl dn tk tr) ++ oW ob oc ou)) H) (hD : va_D F ((mW A2 C2 ops nums vals st2 ce pk pv n vc dn d pr tk th tr) ++ ((eW A C n ops nums vc vals d st ce pk pv pr w key pl dn tk tr) ++ oW ob oc ou))) (hS : va_S F s.heap H locs) (hl : lv_has ls 8 [(4, .int (nI (4 * j))), (3, .ref ob), (2, .ref (A2 0)), (1, .ref (A 0)), (0, .ref b)]) (kk : ∀ (n : Nat) (ops : Nat → Int32) (nums : Nat → Int64) (vc : Nat) (vals : Nat → Int64) (d : Nat) (st st2 ce pk pv : Nat → Int64) (pr w : Nat) (key : Int64) (pl dn tk th tr : Nat) (ou : Nat → Int64) (ls : Array Slot) (H : Heap) (locs : List Loc), LI n ops nums vc d pr tk dn tr → va_P D vwCl ((mW A2 C2 ops nums vals st2 ce pk pv n vc dn d pr tk th tr) ++ ((eW A C n ops nums vc vals d st ce pk pv pr w key pl dn tk tr) ++ oW ob oc ou)) H → va_D F ((mW A2 C2 ops nums vals st2 ce pk pv n vc dn d pr tk th tr) ++ ((eW A C n ops nums vc vals d st ce pk pv pr w key pl dn tk tr) ++ oW ob oc ou)) → va_S F s.heap H locs → lv_has ls 8 [(4, .int (nI (4 * (j + 1)))), (3, .ref ob), (2, .ref (A2 0)), (1, .ref (A 0)), (0, .ref b)] → W p l e rL s m #[Value.ref b] below meth c H locs (17 + (j + 1)) (321 + 6 * (j + 1)) Q (F0 m 23 ls [])) : W p l e rL s m #[Value.ref b] below meth c H locs (17 + j) (321 + 6 * j) Q (F0 m 481 ls []) := by
  obtain ⟨i1, i2, i3, i4, i5, i6, i7⟩ := hi
  have hn40 := i1.1
  refine lv_aload_n hx hb dL_law_481 rfl (lv_at hl 3 rfl) ?_
  refine lv_aload_n hx hb dL_law_482 rfl (lv_at hl 4 rfl) ?_
  refine lv_iload hx hb dL_law_483 (lv_at hl 0 rfl) ?_
  refine lv_iconst (v := nI 1) hx hb dL_law_485 (by decide) ?_
  refine lv_iadd hx hb dL_law_486 ?_
  refine zti (nI_add _ _) ?_
  refine zSld hx hb hsc hbl hbA hS (by omega) (by omega) dL_law_487 ?_
  refine zti e9 ?_
  refine lv_aload_n hx hb dL_law_488 rfl (lv_at hl 1 rfl) ?_
  refine zAftiR (wa := (mW A2 C2 ops nums vals st2 ce pk pv n vc dn d pr tk th tr)) (w := (eW A C n ops nums vc vals d st ce pk pv pr w key pl dn tk tr) ++ oW ob oc ou) (zRunSL (wa := (mW A2 C2 ops nums vals st2 ce pk pv n vc dn d pr tk th tr)) (w := (eW A C n ops nums vc vals d st ce pk pv pr w key pl dn tk tr) ++ oW ob oc ou) ⟨hx, hb, hml, hown, hw⟩ (c_L_told1 l hl9 D A C ob oc ou _ n ops nums vc vals d st ce pk pv pr w key pl dn tk tr (by omega)) wm_L_75 wt_L_told wn_L wc_L_told ⟨rfl, rfl⟩ wd_L_told ⟨by decide, by decide⟩ hX (hK.sub [7, 8, 9, 10, 11, 12, 13, 14] rfl) hP hD hS hA hl.1 rfl (Nat.le_of_ble_eq_true rfl) dL_law_489 ⟨(show _ ≤ 1050 by omega), (show _ ≤ 8567 by omega)⟩) hP hD hS hA (fun r u H locs hp hP hD hS => ?_)
  replace hP : va_P D vwCl ((mW A2 C2 ops nums vals st2 ce pk pv n vc dn d pr tk th tr) ++ ((eW A C n ops nums vc vals d st ce pk pv pr w key pl dn tk tr) ++ oW ob oc (vp_updL ou 0 (lN d)))) H := hP
  replace hD : va_D F ((mW A2 C2 ops nums vals st2 ce pk pv n vc dn d pr tk th tr) ++ ((eW A C n ops nums vc vals d st ce pk pv pr w key pl dn tk tr) ++ oW ob oc (vp_updL ou 0 (lN d)))) := hD
  subst hp
  refine lv_istore hx hb dL_law_492 hl (by decide) rfl (fun ls hl => ?_)
  have hl : lv_has ls 8 [(5, .int (nI 0)), (4, .int (nI (4 * j))), (3, .ref ob), (2, .ref (A2 0)), (1, .ref (A 0)), (0, .ref b)] := hl
  refine lv_aload_n hx hb dL_law_494 rfl (lv_at hl 3 rfl) ?_
  refine lv_aload_n hx hb dL_law_495 rfl (lv_at hl 5 rfl) ?_
  refine lv_iload hx hb dL_law_496 (lv_at hl 1 rfl) ?_
  refine lv_iconst (v := nI 1) hx hb dL_law_498 (by decide) ?_
  refine lv_iadd hx hb dL_law_499 ?_
  refine zti (nI_add _ _) ?_
  refine zSld hx hb hsc hbl hbA hS (by omega) (by omega) dL_law_500 ?_
  refine zti e9 ?_
  refine zAfti (wa := []) (w := (mW A2 C2 ops nums vals st2 ce pk pv n vc dn d pr tk th tr)) (wb := (eW A C n ops nums vc vals d st ce pk pv pr w key pl dn tk tr) ++ oW ob oc (vp_updL ou 0 (lN d))) (zRunV (wa := []) (w := (mW A2 C2 ops nums vals st2 ce pk pv n vc dn d pr tk th tr)) (wb := (eW A C n ops nums vc vals d st ce pk pv pr w key pl dn tk tr) ++ oW ob oc (vp_updL ou 0 (lN d))) ⟨hx, hb, hml, hown, hw⟩ (c_M_told1 l D A2 C2 _ ops nums vals st2 ce pk pv n vc dn d pr tk th tr) wm_L_78 wi_M_told ws_M_told wn_M wc_M_told ⟨rfl, rfl⟩ wd_M_told ⟨by decide, by decide⟩ (hK.sub [0, 1, 2, 3, 4, 5, 6] rfl) hP hD 1 rfl rfl rfl hl.1 rfl (Nat.le_of_ble_eq_true rfl) dL_law_501 ⟨(show _ ≤ 1050 by omega), (show _ ≤ 8567 by omega)⟩) hP hD hS hA (fun r u H locs hp hP hD hS => ?_)
  replace hP : va_P D vwCl ((mW A2 C2 ops nums vals st2 ce pk pv n vc dn d pr tk 0 tr) ++ ((eW A C n ops nums vc vals d st ce pk pv pr w key pl dn tk tr) ++ oW ob oc (vp_updL ou 0 (lN d)))) H := hP
  replace hD : va_D F ((mW A2 C2 ops nums vals st2 ce pk pv n vc dn d pr tk 0 tr) ++ ((eW A C n ops nums vc vals d st ce pk pv pr w key pl dn tk tr) ++ oW ob oc (vp_updL ou 0 (lN d)))) := hD
  subst hp
  refine lv_istore hx hb dL_law_504 hl (by decide) rfl (fun ls hl => ?_)
  have hl : lv_has ls 8 [(6, .int (nI d)), (5, .int (nI 0)), (4, .int (nI (4 * j))), (3, .ref ob), (2, .ref (A2 0)), (1, .ref (A 0)), (0, .ref b)] := hl
  refine lv_aload_n hx hb dL_law_506 rfl (lv_at hl 4 rfl) ?_
  refine zAfti (wa := []) (w := (mW A2 C2 ops nums vals st2 ce pk pv n vc dn d pr tk 0 tr)) (wb := (eW A C n ops nums vc vals d st ce pk pv pr w key pl dn tk tr) ++ oW ob oc (vp_updL ou 0 (lN d))) (zRunV (wa := []) (w := (mW A2 C2 ops nums vals st2 ce pk pv n vc dn d pr tk 0 tr)) (wb := (eW A C n ops nums vc vals d st ce pk pv pr w key pl dn tk tr) ++ oW ob oc (vp_updL ou 0 (lN d))) ⟨hx, hb, hml, hown, hw⟩ (c_M_thrown l D A2 C2 _ ops nums vals st2 ce pk pv n vc dn d pr tk 0 tr) wm_L_52 wi_M_thrown ws_M_thrown wn_M wc_M_thrown ⟨rfl, rfl⟩ wd_M_thrown ⟨by decide, by decide⟩ (hK.sub [0, 1, 2, 3, 4, 5, 6] rfl) hP hD 1 rfl rfl rfl hl.1 rfl (Nat.le_of_ble_eq_true rfl) dL_law_507 ⟨(show _ ≤ 1050 by omega), (show _ ≤ 8567 by omega)⟩) hP hD hS hA (fun r u H locs hp hP hD hS => ?_)
  replace hP : va_P D vwCl ((mW A2 C2 ops nums vals st2 ce pk pv n vc dn d pr tk 0 tr) ++ ((eW A C n ops nums vc vals d st ce pk pv pr w key pl dn tk tr) ++ oW ob oc (vp_updL ou 0 (lN d)))) H := hP
  replace hD : va_D F ((mW A2 C2 ops nums vals st2 ce pk pv n vc dn d pr tk 0 tr) ++ ((eW A C n ops nums vc vals d st ce pk pv pr w key pl dn tk tr) ++ oW ob oc (vp_updL ou 0 (lN d)))) := hD
  subst hp
  refine lv_iload hx hb dL_law_510 (lv_at hl 1 rfl) ?_
  refine zc_eq (tgt := 517) hx hb dL_law_512 rfl (by omega) (by omega) (fun _ => ?_) (fun q => absurd q (by omega))
  refine lv_iload hx hb dL_law_517 (lv_at hl 1 rfl) ?_
  refine zi_ne (tgt := 534) hx hb dL_law_519 rfl (by omega) (fun q => absurd q (by omega)) (fun _ => ?_)
  refine lv_aload_n hx hb dL_law_522 rfl (lv_at hl 3 rfl) ?_
  refine lv_iconst (v := nI 0) hx hb dL_law_523 (by decide) ?_
  refine zLald hx hb hK hP 16 14 rfl rfl (by omega) (by decide) dL_law_524 ?_
  refine ztl pk_uLs ?_
  refine lv_iload hx hb dL_law_525 (lv_at hl 0 rfl) ?_
  refine lv_i2l hx hb dL_law_527 (nI_l (by omega)) ?_
  refine W.lcmp hx hb dL_law_528 ?_
  refine zl_eq (tgt := 534) hx hb dL_law_529 rfl (fun _ => ?_) (fun q => absurd q (by exact fun z => z rfl))
  refine lv_goto (tgt := 592) hx hb dL_law_534 rfl ?_
  refine lv_iinc (k := 2) (v := nI ((4 * j) + 4)) hx hb dL_law_592 hl rfl (nI_add _ _) (by decide) rfl (fun ls hl => ?_)
  have hl : lv_has ls 8 [(4, .int (nI ((4 * j) + 4))), (6, .int (nI d)), (5, .int (nI 0)), (3, .ref ob), (2, .ref (A2 0)), (1, .ref (A 0)), (0, .ref b)] := hl
  refine lv_goto (tgt := 23) hx hb dL_law_595 rfl ?_
  refine W.widen (k := 17 + (j + 1)) (n := 321 + 6 * (j + 1)) (by omega) (by omega) ?_
  exact kk n ops nums vc vals d st st2 ce pk pv pr w key pl dn tk 0 tr (vp_updL ou 0 (lN d)) _ _ _ ⟨i1, i2, i3, i4, i5, i6, i7⟩ hP hD hS (lv_sub hl [0, 3, 4, 5, 6] rfl)
set_option maxRecDepth 20000 in
set_option maxHeartbeats 4000000 in
theorem lwTold2 {p : Program} {l : Launch} {e : Env} {s : State} {m : MethodId} {below : List Frame} {meth : Method} {c : Code} {b L : Nat} {xs : Nat → Int32} {D : va_G} {A A2 : Nat → Nat} {C C2 : Nat → ClassId} {ob : Nat} {oc : ClassId} {F : Nat → Prop} {Q : State → Prop} (hl9 : l.stackTraces = false) (hx : p.tables.exec = Jvm.exec) (hb : c.code = cL_law) (hml : c.maxLocals = 8) (hw : ∀ w ∈ WS, w.before #[Value.ref b] s = true) (hown : s.vm.findClass "EmitDeskLaw" = some m.cls) (hX : zL F s) (hK : va_K D vwCl (tL C C2 oc) s) (hA : ∀ q, s.heap.size ≤ q → F q) (hsc : va_X b L xs s s.heap) (hbl : b < s.heap.size) (hbA : ¬ F b) (hL : L ≤ 2048) {j : Nat} {n : Nat} {ops : Nat → Int32} {nums : Nat → Int64} {vc : Nat} {vals : Nat → Int64} {d : Nat} {st st2 ce pk pv : Nat → Int64} {pr w : Nat} {key : Int64} {pl dn tk th tr : Nat} {ou : Nat → Int64} {ls : Array Slot} {H : Heap} {locs : List Loc} (hj : ¬ L < 4 * j + 4) (hi : LI n ops nums vc d pr tk dn tr) (e9 : xs ((4 * j) + 1) = nI 2) (hP : va_P D vwCl ((mW A2 C2 ops nums vals st2 ce pk pv n vc dn d pr tk th tr) ++ ((eW A C n ops nums vc vals d st ce pk pv pr w key pl dn tk tr) ++ oW ob oc ou)) H) (hD : va_D F ((mW A2 C2 ops nums vals st2 ce pk pv n vc dn d pr tk th tr) ++ ((eW A C n ops nums vc vals d st ce pk pv pr w key pl dn tk tr) ++ oW ob oc ou))) (hS : va_S F s.heap H locs) (hl : lv_has ls 8 [(4, .int (nI (4 * j))), (3, .ref ob), (2, .ref (A2 0)), (1, .ref (A 0)), (0, .ref b)]) (kk : ∀ (n : Nat) (ops : Nat → Int32) (nums : Nat → Int64) (vc : Nat) (vals : Nat → Int64) (d : Nat) (st st2 ce pk pv : Nat → Int64) (pr w : Nat) (key : Int64) (pl dn tk th tr : Nat) (ou : Nat → Int64) (ls : Array Slot) (H : Heap) (locs : List Loc), LI n ops nums vc d pr tk dn tr → va_P D vwCl ((mW A2 C2 ops nums vals st2 ce pk pv n vc dn d pr tk th tr) ++ ((eW A C n ops nums vc vals d st ce pk pv pr w key pl dn tk tr) ++ oW ob oc ou)) H → va_D F ((mW A2 C2 ops nums vals st2 ce pk pv n vc dn d pr tk th tr) ++ ((eW A C n ops nums vc vals d st ce pk pv pr w key pl dn tk tr) ++ oW ob oc ou)) → va_S F s.heap H locs → lv_has ls 8 [(4, .int (nI (4 * (j + 1)))), (3, .ref ob), (2, .ref (A2 0)), (1, .ref (A 0)), (0, .ref b)] → W p l e rL s m #[Value.ref b] below meth c H locs (17 + (j + 1)) (321 + 6 * (j + 1)) Q (F0 m 23 ls [])) : W p l e rL s m #[Value.ref b] below meth c H locs (17 + j) (321 + 6 * j) Q (F0 m 481 ls []) := by
  obtain ⟨i1, i2, i3, i4, i5, i6, i7⟩ := hi
  have hn40 := i1.1
  refine lv_aload_n hx hb dL_law_481 rfl (lv_at hl 3 rfl) ?_
  refine lv_aload_n hx hb dL_law_482 rfl (lv_at hl 4 rfl) ?_
  refine lv_iload hx hb dL_law_483 (lv_at hl 0 rfl) ?_
  refine lv_iconst (v := nI 1) hx hb dL_law_485 (by decide) ?_
  refine lv_iadd hx hb dL_law_486 ?_
  refine zti (nI_add _ _) ?_
  refine zSld hx hb hsc hbl hbA hS (by omega) (by omega) dL_law_487 ?_
  refine zti e9 ?_
  refine lv_aload_n hx hb dL_law_488 rfl (lv_at hl 1 rfl) ?_
  refine zAftiR (wa := (mW A2 C2 ops nums vals st2 ce pk pv n vc dn d pr tk th tr)) (w := (eW A C n ops nums vc vals d st ce pk pv pr w key pl dn tk tr) ++ oW ob oc ou) (zRunSL (wa := (mW A2 C2 ops nums vals st2 ce pk pv n vc dn d pr tk th tr)) (w := (eW A C n ops nums vc vals d st ce pk pv pr w key pl dn tk tr) ++ oW ob oc ou) ⟨hx, hb, hml, hown, hw⟩ (c_L_told2 l hl9 D A C ob oc ou _ n ops nums vc vals d st ce pk pv pr w key pl dn tk tr (by omega)) wm_L_75 wt_L_told wn_L wc_L_told ⟨rfl, rfl⟩ wd_L_told ⟨by decide, by decide⟩ hX (hK.sub [7, 8, 9, 10, 11, 12, 13, 14] rfl) hP hD hS hA hl.1 rfl (Nat.le_of_ble_eq_true rfl) dL_law_489 ⟨(show _ ≤ 1050 by omega), (show _ ≤ 8567 by omega)⟩) hP hD hS hA (fun r u H locs hp hP hD hS => ?_)
  replace hP : va_P D vwCl ((mW A2 C2 ops nums vals st2 ce pk pv n vc dn d pr tk th tr) ++ ((eW A C n ops nums vc vals d st ce pk pv pr w key pl dn tk tr) ++ oW ob oc (vp_updL ou 0 (lN pr)))) H := hP
  replace hD : va_D F ((mW A2 C2 ops nums vals st2 ce pk pv n vc dn d pr tk th tr) ++ ((eW A C n ops nums vc vals d st ce pk pv pr w key pl dn tk tr) ++ oW ob oc (vp_updL ou 0 (lN pr)))) := hD
  subst hp
  refine lv_istore hx hb dL_law_492 hl (by decide) rfl (fun ls hl => ?_)
  have hl : lv_has ls 8 [(5, .int (nI 0)), (4, .int (nI (4 * j))), (3, .ref ob), (2, .ref (A2 0)), (1, .ref (A 0)), (0, .ref b)] := hl
  refine lv_aload_n hx hb dL_law_494 rfl (lv_at hl 3 rfl) ?_
  refine lv_aload_n hx hb dL_law_495 rfl (lv_at hl 5 rfl) ?_
  refine lv_iload hx hb dL_law_496 (lv_at hl 1 rfl) ?_
  refine lv_iconst (v := nI 1) hx hb dL_law_498 (by decide) ?_
  refine lv_iadd hx hb dL_law_499 ?_
  refine zti (nI_add _ _) ?_
  refine zSld hx hb hsc hbl hbA hS (by omega) (by omega) dL_law_500 ?_
  refine zti e9 ?_
  refine zAfti (wa := []) (w := (mW A2 C2 ops nums vals st2 ce pk pv n vc dn d pr tk th tr)) (wb := (eW A C n ops nums vc vals d st ce pk pv pr w key pl dn tk tr) ++ oW ob oc (vp_updL ou 0 (lN pr))) (zRunV (wa := []) (w := (mW A2 C2 ops nums vals st2 ce pk pv n vc dn d pr tk th tr)) (wb := (eW A C n ops nums vc vals d st ce pk pv pr w key pl dn tk tr) ++ oW ob oc (vp_updL ou 0 (lN pr))) ⟨hx, hb, hml, hown, hw⟩ (c_M_told2 l D A2 C2 _ ops nums vals st2 ce pk pv n vc dn d pr tk th tr) wm_L_78 wi_M_told ws_M_told wn_M wc_M_told ⟨rfl, rfl⟩ wd_M_told ⟨by decide, by decide⟩ (hK.sub [0, 1, 2, 3, 4, 5, 6] rfl) hP hD 1 rfl rfl rfl hl.1 rfl (Nat.le_of_ble_eq_true rfl) dL_law_501 ⟨(show _ ≤ 1050 by omega), (show _ ≤ 8567 by omega)⟩) hP hD hS hA (fun r u H locs hp hP hD hS => ?_)
  replace hP : va_P D vwCl ((mW A2 C2 ops nums vals st2 ce pk pv n vc dn d pr tk 0 tr) ++ ((eW A C n ops nums vc vals d st ce pk pv pr w key pl dn tk tr) ++ oW ob oc (vp_updL ou 0 (lN pr)))) H := hP
  replace hD : va_D F ((mW A2 C2 ops nums vals st2 ce pk pv n vc dn d pr tk 0 tr) ++ ((eW A C n ops nums vc vals d st ce pk pv pr w key pl dn tk tr) ++ oW ob oc (vp_updL ou 0 (lN pr)))) := hD
  subst hp
  refine lv_istore hx hb dL_law_504 hl (by decide) rfl (fun ls hl => ?_)
  have hl : lv_has ls 8 [(6, .int (nI pr)), (5, .int (nI 0)), (4, .int (nI (4 * j))), (3, .ref ob), (2, .ref (A2 0)), (1, .ref (A 0)), (0, .ref b)] := hl
  refine lv_aload_n hx hb dL_law_506 rfl (lv_at hl 4 rfl) ?_
  refine zAfti (wa := []) (w := (mW A2 C2 ops nums vals st2 ce pk pv n vc dn d pr tk 0 tr)) (wb := (eW A C n ops nums vc vals d st ce pk pv pr w key pl dn tk tr) ++ oW ob oc (vp_updL ou 0 (lN pr))) (zRunV (wa := []) (w := (mW A2 C2 ops nums vals st2 ce pk pv n vc dn d pr tk 0 tr)) (wb := (eW A C n ops nums vc vals d st ce pk pv pr w key pl dn tk tr) ++ oW ob oc (vp_updL ou 0 (lN pr))) ⟨hx, hb, hml, hown, hw⟩ (c_M_thrown l D A2 C2 _ ops nums vals st2 ce pk pv n vc dn d pr tk 0 tr) wm_L_52 wi_M_thrown ws_M_thrown wn_M wc_M_thrown ⟨rfl, rfl⟩ wd_M_thrown ⟨by decide, by decide⟩ (hK.sub [0, 1, 2, 3, 4, 5, 6] rfl) hP hD 1 rfl rfl rfl hl.1 rfl (Nat.le_of_ble_eq_true rfl) dL_law_507 ⟨(show _ ≤ 1050 by omega), (show _ ≤ 8567 by omega)⟩) hP hD hS hA (fun r u H locs hp hP hD hS => ?_)
  replace hP : va_P D vwCl ((mW A2 C2 ops nums vals st2 ce pk pv n vc dn d pr tk 0 tr) ++ ((eW A C n ops nums vc vals d st ce pk pv pr w key pl dn tk tr) ++ oW ob oc (vp_updL ou 0 (lN pr)))) H := hP
  replace hD : va_D F ((mW A2 C2 ops nums vals st2 ce pk pv n vc dn d pr tk 0 tr) ++ ((eW A C n ops nums vc vals d st ce pk pv pr w key pl dn tk tr) ++ oW ob oc (vp_updL ou 0 (lN pr)))) := hD
  subst hp
  refine lv_iload hx hb dL_law_510 (lv_at hl 1 rfl) ?_
  refine zc_eq (tgt := 517) hx hb dL_law_512 rfl (by omega) (by omega) (fun _ => ?_) (fun q => absurd q (by omega))
  refine lv_iload hx hb dL_law_517 (lv_at hl 1 rfl) ?_
  refine zi_ne (tgt := 534) hx hb dL_law_519 rfl (by omega) (fun q => absurd q (by omega)) (fun _ => ?_)
  refine lv_aload_n hx hb dL_law_522 rfl (lv_at hl 3 rfl) ?_
  refine lv_iconst (v := nI 0) hx hb dL_law_523 (by decide) ?_
  refine zLald hx hb hK hP 16 14 rfl rfl (by omega) (by decide) dL_law_524 ?_
  refine ztl pk_uLs ?_
  refine lv_iload hx hb dL_law_525 (lv_at hl 0 rfl) ?_
  refine lv_i2l hx hb dL_law_527 (nI_l (by omega)) ?_
  refine W.lcmp hx hb dL_law_528 ?_
  refine zl_eq (tgt := 534) hx hb dL_law_529 rfl (fun _ => ?_) (fun q => absurd q (by exact fun z => z rfl))
  refine lv_goto (tgt := 592) hx hb dL_law_534 rfl ?_
  refine lv_iinc (k := 2) (v := nI ((4 * j) + 4)) hx hb dL_law_592 hl rfl (nI_add _ _) (by decide) rfl (fun ls hl => ?_)
  have hl : lv_has ls 8 [(4, .int (nI ((4 * j) + 4))), (6, .int (nI pr)), (5, .int (nI 0)), (3, .ref ob), (2, .ref (A2 0)), (1, .ref (A 0)), (0, .ref b)] := hl
  refine lv_goto (tgt := 23) hx hb dL_law_595 rfl ?_
  refine W.widen (k := 17 + (j + 1)) (n := 321 + 6 * (j + 1)) (by omega) (by omega) ?_
  exact kk n ops nums vc vals d st st2 ce pk pv pr w key pl dn tk 0 tr (vp_updL ou 0 (lN pr)) _ _ _ ⟨i1, i2, i3, i4, i5, i6, i7⟩ hP hD hS (lv_sub hl [0, 3, 4, 5, 6] rfl)
set_option maxRecDepth 20000 in
set_option maxHeartbeats 4000000 in
theorem lwTold3 {p : Program} {l : Launch} {e : Env} {s : State} {m : MethodId} {below : List Frame} {meth : Method} {c : Code} {b L : Nat} {xs : Nat → Int32} {D : va_G} {A A2 : Nat → Nat} {C C2 : Nat → ClassId} {ob : Nat} {oc : ClassId} {F : Nat → Prop} {Q : State → Prop} (hl9 : l.stackTraces = false) (hx : p.tables.exec = Jvm.exec) (hb : c.code = cL_law) (hml : c.maxLocals = 8) (hw : ∀ w ∈ WS, w.before #[Value.ref b] s = true) (hown : s.vm.findClass "EmitDeskLaw" = some m.cls) (hX : zL F s) (hK : va_K D vwCl (tL C C2 oc) s) (hA : ∀ q, s.heap.size ≤ q → F q) (hsc : va_X b L xs s s.heap) (hbl : b < s.heap.size) (hbA : ¬ F b) (hL : L ≤ 2048) {j : Nat} {n : Nat} {ops : Nat → Int32} {nums : Nat → Int64} {vc : Nat} {vals : Nat → Int64} {d : Nat} {st st2 ce pk pv : Nat → Int64} {pr w : Nat} {key : Int64} {pl dn tk th tr : Nat} {ou : Nat → Int64} {ls : Array Slot} {H : Heap} {locs : List Loc} (hj : ¬ L < 4 * j + 4) (hi : LI n ops nums vc d pr tk dn tr) (e9 : xs ((4 * j) + 1) = nI 3) (hP : va_P D vwCl ((mW A2 C2 ops nums vals st2 ce pk pv n vc dn d pr tk th tr) ++ ((eW A C n ops nums vc vals d st ce pk pv pr w key pl dn tk tr) ++ oW ob oc ou)) H) (hD : va_D F ((mW A2 C2 ops nums vals st2 ce pk pv n vc dn d pr tk th tr) ++ ((eW A C n ops nums vc vals d st ce pk pv pr w key pl dn tk tr) ++ oW ob oc ou))) (hS : va_S F s.heap H locs) (hl : lv_has ls 8 [(4, .int (nI (4 * j))), (3, .ref ob), (2, .ref (A2 0)), (1, .ref (A 0)), (0, .ref b)]) (kk : ∀ (n : Nat) (ops : Nat → Int32) (nums : Nat → Int64) (vc : Nat) (vals : Nat → Int64) (d : Nat) (st st2 ce pk pv : Nat → Int64) (pr w : Nat) (key : Int64) (pl dn tk th tr : Nat) (ou : Nat → Int64) (ls : Array Slot) (H : Heap) (locs : List Loc), LI n ops nums vc d pr tk dn tr → va_P D vwCl ((mW A2 C2 ops nums vals st2 ce pk pv n vc dn d pr tk th tr) ++ ((eW A C n ops nums vc vals d st ce pk pv pr w key pl dn tk tr) ++ oW ob oc ou)) H → va_D F ((mW A2 C2 ops nums vals st2 ce pk pv n vc dn d pr tk th tr) ++ ((eW A C n ops nums vc vals d st ce pk pv pr w key pl dn tk tr) ++ oW ob oc ou)) → va_S F s.heap H locs → lv_has ls 8 [(4, .int (nI (4 * (j + 1)))), (3, .ref ob), (2, .ref (A2 0)), (1, .ref (A 0)), (0, .ref b)] → W p l e rL s m #[Value.ref b] below meth c H locs (17 + (j + 1)) (321 + 6 * (j + 1)) Q (F0 m 23 ls [])) : W p l e rL s m #[Value.ref b] below meth c H locs (17 + j) (321 + 6 * j) Q (F0 m 481 ls []) := by
  obtain ⟨i1, i2, i3, i4, i5, i6, i7⟩ := hi
  have hn40 := i1.1
  refine lv_aload_n hx hb dL_law_481 rfl (lv_at hl 3 rfl) ?_
  refine lv_aload_n hx hb dL_law_482 rfl (lv_at hl 4 rfl) ?_
  refine lv_iload hx hb dL_law_483 (lv_at hl 0 rfl) ?_
  refine lv_iconst (v := nI 1) hx hb dL_law_485 (by decide) ?_
  refine lv_iadd hx hb dL_law_486 ?_
  refine zti (nI_add _ _) ?_
  refine zSld hx hb hsc hbl hbA hS (by omega) (by omega) dL_law_487 ?_
  refine zti e9 ?_
  refine lv_aload_n hx hb dL_law_488 rfl (lv_at hl 1 rfl) ?_
  refine zAftiR (wa := (mW A2 C2 ops nums vals st2 ce pk pv n vc dn d pr tk th tr)) (w := (eW A C n ops nums vc vals d st ce pk pv pr w key pl dn tk tr) ++ oW ob oc ou) (zRunSL (wa := (mW A2 C2 ops nums vals st2 ce pk pv n vc dn d pr tk th tr)) (w := (eW A C n ops nums vc vals d st ce pk pv pr w key pl dn tk tr) ++ oW ob oc ou) ⟨hx, hb, hml, hown, hw⟩ (c_L_told3 l hl9 D A C ob oc ou _ n ops nums vc vals d st ce pk pv pr w key pl dn tk tr (by omega)) wm_L_75 wt_L_told wn_L wc_L_told ⟨rfl, rfl⟩ wd_L_told ⟨by decide, by decide⟩ hX (hK.sub [7, 8, 9, 10, 11, 12, 13, 14] rfl) hP hD hS hA hl.1 rfl (Nat.le_of_ble_eq_true rfl) dL_law_489 ⟨(show _ ≤ 1050 by omega), (show _ ≤ 8567 by omega)⟩) hP hD hS hA (fun r u H locs hp hP hD hS => ?_)
  replace hP : va_P D vwCl ((mW A2 C2 ops nums vals st2 ce pk pv n vc dn d pr tk th tr) ++ ((eW A C n ops nums vc vals d st ce pk pv pr w key pl dn tk tr) ++ oW ob oc (vp_updL ou 0 (lN tk)))) H := hP
  replace hD : va_D F ((mW A2 C2 ops nums vals st2 ce pk pv n vc dn d pr tk th tr) ++ ((eW A C n ops nums vc vals d st ce pk pv pr w key pl dn tk tr) ++ oW ob oc (vp_updL ou 0 (lN tk)))) := hD
  subst hp
  refine lv_istore hx hb dL_law_492 hl (by decide) rfl (fun ls hl => ?_)
  have hl : lv_has ls 8 [(5, .int (nI 0)), (4, .int (nI (4 * j))), (3, .ref ob), (2, .ref (A2 0)), (1, .ref (A 0)), (0, .ref b)] := hl
  refine lv_aload_n hx hb dL_law_494 rfl (lv_at hl 3 rfl) ?_
  refine lv_aload_n hx hb dL_law_495 rfl (lv_at hl 5 rfl) ?_
  refine lv_iload hx hb dL_law_496 (lv_at hl 1 rfl) ?_
  refine lv_iconst (v := nI 1) hx hb dL_law_498 (by decide) ?_
  refine lv_iadd hx hb dL_law_499 ?_
  refine zti (nI_add _ _) ?_
  refine zSld hx hb hsc hbl hbA hS (by omega) (by omega) dL_law_500 ?_
  refine zti e9 ?_
  refine zAfti (wa := []) (w := (mW A2 C2 ops nums vals st2 ce pk pv n vc dn d pr tk th tr)) (wb := (eW A C n ops nums vc vals d st ce pk pv pr w key pl dn tk tr) ++ oW ob oc (vp_updL ou 0 (lN tk))) (zRunV (wa := []) (w := (mW A2 C2 ops nums vals st2 ce pk pv n vc dn d pr tk th tr)) (wb := (eW A C n ops nums vc vals d st ce pk pv pr w key pl dn tk tr) ++ oW ob oc (vp_updL ou 0 (lN tk))) ⟨hx, hb, hml, hown, hw⟩ (c_M_told3 l D A2 C2 _ ops nums vals st2 ce pk pv n vc dn d pr tk th tr) wm_L_78 wi_M_told ws_M_told wn_M wc_M_told ⟨rfl, rfl⟩ wd_M_told ⟨by decide, by decide⟩ (hK.sub [0, 1, 2, 3, 4, 5, 6] rfl) hP hD 1 rfl rfl rfl hl.1 rfl (Nat.le_of_ble_eq_true rfl) dL_law_501 ⟨(show _ ≤ 1050 by omega), (show _ ≤ 8567 by omega)⟩) hP hD hS hA (fun r u H locs hp hP hD hS => ?_)
  replace hP : va_P D vwCl ((mW A2 C2 ops nums vals st2 ce pk pv n vc dn d pr tk 0 tr) ++ ((eW A C n ops nums vc vals d st ce pk pv pr w key pl dn tk tr) ++ oW ob oc (vp_updL ou 0 (lN tk)))) H := hP
  replace hD : va_D F ((mW A2 C2 ops nums vals st2 ce pk pv n vc dn d pr tk 0 tr) ++ ((eW A C n ops nums vc vals d st ce pk pv pr w key pl dn tk tr) ++ oW ob oc (vp_updL ou 0 (lN tk)))) := hD
  subst hp
  refine lv_istore hx hb dL_law_504 hl (by decide) rfl (fun ls hl => ?_)
  have hl : lv_has ls 8 [(6, .int (nI tk)), (5, .int (nI 0)), (4, .int (nI (4 * j))), (3, .ref ob), (2, .ref (A2 0)), (1, .ref (A 0)), (0, .ref b)] := hl
  refine lv_aload_n hx hb dL_law_506 rfl (lv_at hl 4 rfl) ?_
  refine zAfti (wa := []) (w := (mW A2 C2 ops nums vals st2 ce pk pv n vc dn d pr tk 0 tr)) (wb := (eW A C n ops nums vc vals d st ce pk pv pr w key pl dn tk tr) ++ oW ob oc (vp_updL ou 0 (lN tk))) (zRunV (wa := []) (w := (mW A2 C2 ops nums vals st2 ce pk pv n vc dn d pr tk 0 tr)) (wb := (eW A C n ops nums vc vals d st ce pk pv pr w key pl dn tk tr) ++ oW ob oc (vp_updL ou 0 (lN tk))) ⟨hx, hb, hml, hown, hw⟩ (c_M_thrown l D A2 C2 _ ops nums vals st2 ce pk pv n vc dn d pr tk 0 tr) wm_L_52 wi_M_thrown ws_M_thrown wn_M wc_M_thrown ⟨rfl, rfl⟩ wd_M_thrown ⟨by decide, by decide⟩ (hK.sub [0, 1, 2, 3, 4, 5, 6] rfl) hP hD 1 rfl rfl rfl hl.1 rfl (Nat.le_of_ble_eq_true rfl) dL_law_507 ⟨(show _ ≤ 1050 by omega), (show _ ≤ 8567 by omega)⟩) hP hD hS hA (fun r u H locs hp hP hD hS => ?_)
  replace hP : va_P D vwCl ((mW A2 C2 ops nums vals st2 ce pk pv n vc dn d pr tk 0 tr) ++ ((eW A C n ops nums vc vals d st ce pk pv pr w key pl dn tk tr) ++ oW ob oc (vp_updL ou 0 (lN tk)))) H := hP
  replace hD : va_D F ((mW A2 C2 ops nums vals st2 ce pk pv n vc dn d pr tk 0 tr) ++ ((eW A C n ops nums vc vals d st ce pk pv pr w key pl dn tk tr) ++ oW ob oc (vp_updL ou 0 (lN tk)))) := hD
  subst hp
  refine lv_iload hx hb dL_law_510 (lv_at hl 1 rfl) ?_
  refine zc_eq (tgt := 517) hx hb dL_law_512 rfl (by omega) (by omega) (fun _ => ?_) (fun q => absurd q (by omega))
  refine lv_iload hx hb dL_law_517 (lv_at hl 1 rfl) ?_
  refine zi_ne (tgt := 534) hx hb dL_law_519 rfl (by omega) (fun q => absurd q (by omega)) (fun _ => ?_)
  refine lv_aload_n hx hb dL_law_522 rfl (lv_at hl 3 rfl) ?_
  refine lv_iconst (v := nI 0) hx hb dL_law_523 (by decide) ?_
  refine zLald hx hb hK hP 16 14 rfl rfl (by omega) (by decide) dL_law_524 ?_
  refine ztl pk_uLs ?_
  refine lv_iload hx hb dL_law_525 (lv_at hl 0 rfl) ?_
  refine lv_i2l hx hb dL_law_527 (nI_l (by omega)) ?_
  refine W.lcmp hx hb dL_law_528 ?_
  refine zl_eq (tgt := 534) hx hb dL_law_529 rfl (fun _ => ?_) (fun q => absurd q (by exact fun z => z rfl))
  refine lv_goto (tgt := 592) hx hb dL_law_534 rfl ?_
  refine lv_iinc (k := 2) (v := nI ((4 * j) + 4)) hx hb dL_law_592 hl rfl (nI_add _ _) (by decide) rfl (fun ls hl => ?_)
  have hl : lv_has ls 8 [(4, .int (nI ((4 * j) + 4))), (6, .int (nI tk)), (5, .int (nI 0)), (3, .ref ob), (2, .ref (A2 0)), (1, .ref (A 0)), (0, .ref b)] := hl
  refine lv_goto (tgt := 23) hx hb dL_law_595 rfl ?_
  refine W.widen (k := 17 + (j + 1)) (n := 321 + 6 * (j + 1)) (by omega) (by omega) ?_
  exact kk n ops nums vc vals d st st2 ce pk pv pr w key pl dn tk 0 tr (vp_updL ou 0 (lN tk)) _ _ _ ⟨i1, i2, i3, i4, i5, i6, i7⟩ hP hD hS (lv_sub hl [0, 3, 4, 5, 6] rfl)
set_option maxRecDepth 20000 in
set_option maxHeartbeats 4000000 in
theorem lwTold4 {p : Program} {l : Launch} {e : Env} {s : State} {m : MethodId} {below : List Frame} {meth : Method} {c : Code} {b L : Nat} {xs : Nat → Int32} {D : va_G} {A A2 : Nat → Nat} {C C2 : Nat → ClassId} {ob : Nat} {oc : ClassId} {F : Nat → Prop} {Q : State → Prop} (hl9 : l.stackTraces = false) (hx : p.tables.exec = Jvm.exec) (hb : c.code = cL_law) (hml : c.maxLocals = 8) (hw : ∀ w ∈ WS, w.before #[Value.ref b] s = true) (hown : s.vm.findClass "EmitDeskLaw" = some m.cls) (hX : zL F s) (hK : va_K D vwCl (tL C C2 oc) s) (hA : ∀ q, s.heap.size ≤ q → F q) (hsc : va_X b L xs s s.heap) (hbl : b < s.heap.size) (hbA : ¬ F b) (hL : L ≤ 2048) {j : Nat} {n : Nat} {ops : Nat → Int32} {nums : Nat → Int64} {vc : Nat} {vals : Nat → Int64} {d : Nat} {st st2 ce pk pv : Nat → Int64} {pr w : Nat} {key : Int64} {pl dn tk th tr : Nat} {ou : Nat → Int64} {ls : Array Slot} {H : Heap} {locs : List Loc} (hj : ¬ L < 4 * j + 4) (hi : LI n ops nums vc d pr tk dn tr) (e9 : xs ((4 * j) + 1) = nI 4) (hP : va_P D vwCl ((mW A2 C2 ops nums vals st2 ce pk pv n vc dn d pr tk th tr) ++ ((eW A C n ops nums vc vals d st ce pk pv pr w key pl dn tk tr) ++ oW ob oc ou)) H) (hD : va_D F ((mW A2 C2 ops nums vals st2 ce pk pv n vc dn d pr tk th tr) ++ ((eW A C n ops nums vc vals d st ce pk pv pr w key pl dn tk tr) ++ oW ob oc ou))) (hS : va_S F s.heap H locs) (hl : lv_has ls 8 [(4, .int (nI (4 * j))), (3, .ref ob), (2, .ref (A2 0)), (1, .ref (A 0)), (0, .ref b)]) (kk : ∀ (n : Nat) (ops : Nat → Int32) (nums : Nat → Int64) (vc : Nat) (vals : Nat → Int64) (d : Nat) (st st2 ce pk pv : Nat → Int64) (pr w : Nat) (key : Int64) (pl dn tk th tr : Nat) (ou : Nat → Int64) (ls : Array Slot) (H : Heap) (locs : List Loc), LI n ops nums vc d pr tk dn tr → va_P D vwCl ((mW A2 C2 ops nums vals st2 ce pk pv n vc dn d pr tk th tr) ++ ((eW A C n ops nums vc vals d st ce pk pv pr w key pl dn tk tr) ++ oW ob oc ou)) H → va_D F ((mW A2 C2 ops nums vals st2 ce pk pv n vc dn d pr tk th tr) ++ ((eW A C n ops nums vc vals d st ce pk pv pr w key pl dn tk tr) ++ oW ob oc ou)) → va_S F s.heap H locs → lv_has ls 8 [(4, .int (nI (4 * (j + 1)))), (3, .ref ob), (2, .ref (A2 0)), (1, .ref (A 0)), (0, .ref b)] → W p l e rL s m #[Value.ref b] below meth c H locs (17 + (j + 1)) (321 + 6 * (j + 1)) Q (F0 m 23 ls [])) : W p l e rL s m #[Value.ref b] below meth c H locs (17 + j) (321 + 6 * j) Q (F0 m 481 ls []) := by
  obtain ⟨i1, i2, i3, i4, i5, i6, i7⟩ := hi
  have hn40 := i1.1
  refine lv_aload_n hx hb dL_law_481 rfl (lv_at hl 3 rfl) ?_
  refine lv_aload_n hx hb dL_law_482 rfl (lv_at hl 4 rfl) ?_
  refine lv_iload hx hb dL_law_483 (lv_at hl 0 rfl) ?_
  refine lv_iconst (v := nI 1) hx hb dL_law_485 (by decide) ?_
  refine lv_iadd hx hb dL_law_486 ?_
  refine zti (nI_add _ _) ?_
  refine zSld hx hb hsc hbl hbA hS (by omega) (by omega) dL_law_487 ?_
  refine zti e9 ?_
  refine lv_aload_n hx hb dL_law_488 rfl (lv_at hl 1 rfl) ?_
  refine zAftiR (wa := (mW A2 C2 ops nums vals st2 ce pk pv n vc dn d pr tk th tr)) (w := (eW A C n ops nums vc vals d st ce pk pv pr w key pl dn tk tr) ++ oW ob oc ou) (zRunSL (wa := (mW A2 C2 ops nums vals st2 ce pk pv n vc dn d pr tk th tr)) (w := (eW A C n ops nums vc vals d st ce pk pv pr w key pl dn tk tr) ++ oW ob oc ou) ⟨hx, hb, hml, hown, hw⟩ (c_L_told4 l hl9 D A C ob oc ou _ n ops nums vc vals d st ce pk pv pr w key pl dn tk tr i7) wm_L_75 wt_L_told wn_L wc_L_told ⟨rfl, rfl⟩ wd_L_told ⟨by decide, by decide⟩ hX (hK.sub [7, 8, 9, 10, 11, 12, 13, 14] rfl) hP hD hS hA hl.1 rfl (Nat.le_of_ble_eq_true rfl) dL_law_489 ⟨(show _ ≤ 1050 by omega), (show _ ≤ 8567 by omega)⟩) hP hD hS hA (fun r u H locs hp hP hD hS => ?_)
  replace hP : va_P D vwCl ((mW A2 C2 ops nums vals st2 ce pk pv n vc dn d pr tk th tr) ++ ((eW A C n ops nums vc vals d st ce pk pv pr w key pl dn tk tr) ++ oW ob oc (vp_updL ou 0 (lN tr)))) H := hP
  replace hD : va_D F ((mW A2 C2 ops nums vals st2 ce pk pv n vc dn d pr tk th tr) ++ ((eW A C n ops nums vc vals d st ce pk pv pr w key pl dn tk tr) ++ oW ob oc (vp_updL ou 0 (lN tr)))) := hD
  subst hp
  refine lv_istore hx hb dL_law_492 hl (by decide) rfl (fun ls hl => ?_)
  have hl : lv_has ls 8 [(5, .int (nI 0)), (4, .int (nI (4 * j))), (3, .ref ob), (2, .ref (A2 0)), (1, .ref (A 0)), (0, .ref b)] := hl
  refine lv_aload_n hx hb dL_law_494 rfl (lv_at hl 3 rfl) ?_
  refine lv_aload_n hx hb dL_law_495 rfl (lv_at hl 5 rfl) ?_
  refine lv_iload hx hb dL_law_496 (lv_at hl 1 rfl) ?_
  refine lv_iconst (v := nI 1) hx hb dL_law_498 (by decide) ?_
  refine lv_iadd hx hb dL_law_499 ?_
  refine zti (nI_add _ _) ?_
  refine zSld hx hb hsc hbl hbA hS (by omega) (by omega) dL_law_500 ?_
  refine zti e9 ?_
  refine zAfti (wa := []) (w := (mW A2 C2 ops nums vals st2 ce pk pv n vc dn d pr tk th tr)) (wb := (eW A C n ops nums vc vals d st ce pk pv pr w key pl dn tk tr) ++ oW ob oc (vp_updL ou 0 (lN tr))) (zRunV (wa := []) (w := (mW A2 C2 ops nums vals st2 ce pk pv n vc dn d pr tk th tr)) (wb := (eW A C n ops nums vc vals d st ce pk pv pr w key pl dn tk tr) ++ oW ob oc (vp_updL ou 0 (lN tr))) ⟨hx, hb, hml, hown, hw⟩ (c_M_told4 l D A2 C2 _ ops nums vals st2 ce pk pv n vc dn d pr tk th tr i7) wm_L_78 wi_M_told ws_M_told wn_M wc_M_told ⟨rfl, rfl⟩ wd_M_told ⟨by decide, by decide⟩ (hK.sub [0, 1, 2, 3, 4, 5, 6] rfl) hP hD 1 rfl rfl rfl hl.1 rfl (Nat.le_of_ble_eq_true rfl) dL_law_501 ⟨(show _ ≤ 1050 by omega), (show _ ≤ 8567 by omega)⟩) hP hD hS hA (fun r u H locs hp hP hD hS => ?_)
  replace hP : va_P D vwCl ((mW A2 C2 ops nums vals st2 ce pk pv n vc dn d pr tk 0 tr) ++ ((eW A C n ops nums vc vals d st ce pk pv pr w key pl dn tk tr) ++ oW ob oc (vp_updL ou 0 (lN tr)))) H := hP
  replace hD : va_D F ((mW A2 C2 ops nums vals st2 ce pk pv n vc dn d pr tk 0 tr) ++ ((eW A C n ops nums vc vals d st ce pk pv pr w key pl dn tk tr) ++ oW ob oc (vp_updL ou 0 (lN tr)))) := hD
  subst hp
  refine lv_istore hx hb dL_law_504 hl (by decide) rfl (fun ls hl => ?_)
  have hl : lv_has ls 8 [(6, .int (nI tr)), (5, .int (nI 0)), (4, .int (nI (4 * j))), (3, .ref ob), (2, .ref (A2 0)), (1, .ref (A 0)), (0, .ref b)] := hl
  refine lv_aload_n hx hb dL_law_506 rfl (lv_at hl 4 rfl) ?_
  refine zAfti (wa := []) (w := (mW A2 C2 ops nums vals st2 ce pk pv n vc dn d pr tk 0 tr)) (wb := (eW A C n ops nums vc vals d st ce pk pv pr w key pl dn tk tr) ++ oW ob oc (vp_updL ou 0 (lN tr))) (zRunV (wa := []) (w := (mW A2 C2 ops nums vals st2 ce pk pv n vc dn d pr tk 0 tr)) (wb := (eW A C n ops nums vc vals d st ce pk pv pr w key pl dn tk tr) ++ oW ob oc (vp_updL ou 0 (lN tr))) ⟨hx, hb, hml, hown, hw⟩ (c_M_thrown l D A2 C2 _ ops nums vals st2 ce pk pv n vc dn d pr tk 0 tr) wm_L_52 wi_M_thrown ws_M_thrown wn_M wc_M_thrown ⟨rfl, rfl⟩ wd_M_thrown ⟨by decide, by decide⟩ (hK.sub [0, 1, 2, 3, 4, 5, 6] rfl) hP hD 1 rfl rfl rfl hl.1 rfl (Nat.le_of_ble_eq_true rfl) dL_law_507 ⟨(show _ ≤ 1050 by omega), (show _ ≤ 8567 by omega)⟩) hP hD hS hA (fun r u H locs hp hP hD hS => ?_)
  replace hP : va_P D vwCl ((mW A2 C2 ops nums vals st2 ce pk pv n vc dn d pr tk 0 tr) ++ ((eW A C n ops nums vc vals d st ce pk pv pr w key pl dn tk tr) ++ oW ob oc (vp_updL ou 0 (lN tr)))) H := hP
  replace hD : va_D F ((mW A2 C2 ops nums vals st2 ce pk pv n vc dn d pr tk 0 tr) ++ ((eW A C n ops nums vc vals d st ce pk pv pr w key pl dn tk tr) ++ oW ob oc (vp_updL ou 0 (lN tr)))) := hD
  subst hp
  refine lv_iload hx hb dL_law_510 (lv_at hl 1 rfl) ?_
  refine zc_eq (tgt := 517) hx hb dL_law_512 rfl (by omega) (by omega) (fun _ => ?_) (fun q => absurd q (by omega))
  refine lv_iload hx hb dL_law_517 (lv_at hl 1 rfl) ?_
  refine zi_ne (tgt := 534) hx hb dL_law_519 rfl (by omega) (fun q => absurd q (by omega)) (fun _ => ?_)
  refine lv_aload_n hx hb dL_law_522 rfl (lv_at hl 3 rfl) ?_
  refine lv_iconst (v := nI 0) hx hb dL_law_523 (by decide) ?_
  refine zLald hx hb hK hP 16 14 rfl rfl (by omega) (by decide) dL_law_524 ?_
  refine ztl pk_uLs ?_
  refine lv_iload hx hb dL_law_525 (lv_at hl 0 rfl) ?_
  refine lv_i2l hx hb dL_law_527 (nI_l (by omega)) ?_
  refine W.lcmp hx hb dL_law_528 ?_
  refine zl_eq (tgt := 534) hx hb dL_law_529 rfl (fun _ => ?_) (fun q => absurd q (by exact fun z => z rfl))
  refine lv_goto (tgt := 592) hx hb dL_law_534 rfl ?_
  refine lv_iinc (k := 2) (v := nI ((4 * j) + 4)) hx hb dL_law_592 hl rfl (nI_add _ _) (by decide) rfl (fun ls hl => ?_)
  have hl : lv_has ls 8 [(4, .int (nI ((4 * j) + 4))), (6, .int (nI tr)), (5, .int (nI 0)), (3, .ref ob), (2, .ref (A2 0)), (1, .ref (A 0)), (0, .ref b)] := hl
  refine lv_goto (tgt := 23) hx hb dL_law_595 rfl ?_
  refine W.widen (k := 17 + (j + 1)) (n := 321 + 6 * (j + 1)) (by omega) (by omega) ?_
  exact kk n ops nums vc vals d st st2 ce pk pv pr w key pl dn tk 0 tr (vp_updL ou 0 (lN tr)) _ _ _ ⟨i1, i2, i3, i4, i5, i6, i7⟩ hP hD hS (lv_sub hl [0, 3, 4, 5, 6] rfl)
set_option maxRecDepth 20000 in
set_option maxHeartbeats 4000000 in
theorem lwToldB {p : Program} {l : Launch} {e : Env} {s : State} {m : MethodId} {below : List Frame} {meth : Method} {c : Code} {b L : Nat} {xs : Nat → Int32} {D : va_G} {A A2 : Nat → Nat} {C C2 : Nat → ClassId} {ob : Nat} {oc : ClassId} {F : Nat → Prop} {Q : State → Prop} (hl9 : l.stackTraces = false) (hx : p.tables.exec = Jvm.exec) (hb : c.code = cL_law) (hml : c.maxLocals = 8) (hw : ∀ w ∈ WS, w.before #[Value.ref b] s = true) (hown : s.vm.findClass "EmitDeskLaw" = some m.cls) (hX : zL F s) (hK : va_K D vwCl (tL C C2 oc) s) (hA : ∀ q, s.heap.size ≤ q → F q) (hsc : va_X b L xs s s.heap) (hbl : b < s.heap.size) (hbA : ¬ F b) (hL : L ≤ 2048) {j : Nat} {n : Nat} {ops : Nat → Int32} {nums : Nat → Int64} {vc : Nat} {vals : Nat → Int64} {d : Nat} {st st2 ce pk pv : Nat → Int64} {pr w : Nat} {key : Int64} {pl dn tk th tr : Nat} {ou : Nat → Int64} {ls : Array Slot} {H : Heap} {locs : List Loc} (hj : ¬ L < 4 * j + 4) (hi : LI n ops nums vc d pr tk dn tr) (hbad : (xs ((4 * j) + 1)).toInt < 0 ∨ 4 < (xs ((4 * j) + 1)).toInt) (hbad2 : ¬ (lN 0 ≤ (xs ((4 * j) + 1)).toInt64 ∧ (xs ((4 * j) + 1)).toInt64 ≤ lN 4)) (hP : va_P D vwCl ((mW A2 C2 ops nums vals st2 ce pk pv n vc dn d pr tk th tr) ++ ((eW A C n ops nums vc vals d st ce pk pv pr w key pl dn tk tr) ++ oW ob oc ou)) H) (hD : va_D F ((mW A2 C2 ops nums vals st2 ce pk pv n vc dn d pr tk th tr) ++ ((eW A C n ops nums vc vals d st ce pk pv pr w key pl dn tk tr) ++ oW ob oc ou))) (hS : va_S F s.heap H locs) (hl : lv_has ls 8 [(4, .int (nI (4 * j))), (3, .ref ob), (2, .ref (A2 0)), (1, .ref (A 0)), (0, .ref b)]) (kk : ∀ (n : Nat) (ops : Nat → Int32) (nums : Nat → Int64) (vc : Nat) (vals : Nat → Int64) (d : Nat) (st st2 ce pk pv : Nat → Int64) (pr w : Nat) (key : Int64) (pl dn tk th tr : Nat) (ou : Nat → Int64) (ls : Array Slot) (H : Heap) (locs : List Loc), LI n ops nums vc d pr tk dn tr → va_P D vwCl ((mW A2 C2 ops nums vals st2 ce pk pv n vc dn d pr tk th tr) ++ ((eW A C n ops nums vc vals d st ce pk pv pr w key pl dn tk tr) ++ oW ob oc ou)) H → va_D F ((mW A2 C2 ops nums vals st2 ce pk pv n vc dn d pr tk th tr) ++ ((eW A C n ops nums vc vals d st ce pk pv pr w key pl dn tk tr) ++ oW ob oc ou)) → va_S F s.heap H locs → lv_has ls 8 [(4, .int (nI (4 * (j + 1)))), (3, .ref ob), (2, .ref (A2 0)), (1, .ref (A 0)), (0, .ref b)] → W p l e rL s m #[Value.ref b] below meth c H locs (17 + (j + 1)) (321 + 6 * (j + 1)) Q (F0 m 23 ls [])) : W p l e rL s m #[Value.ref b] below meth c H locs (17 + j) (321 + 6 * j) Q (F0 m 481 ls []) := by
  obtain ⟨i1, i2, i3, i4, i5, i6, i7⟩ := hi
  have hn40 := i1.1
  refine lv_aload_n hx hb dL_law_481 rfl (lv_at hl 3 rfl) ?_
  refine lv_aload_n hx hb dL_law_482 rfl (lv_at hl 4 rfl) ?_
  refine lv_iload hx hb dL_law_483 (lv_at hl 0 rfl) ?_
  refine lv_iconst (v := nI 1) hx hb dL_law_485 (by decide) ?_
  refine lv_iadd hx hb dL_law_486 ?_
  refine zti (nI_add _ _) ?_
  refine zSld hx hb hsc hbl hbA hS (by omega) (by omega) dL_law_487 ?_
  refine lv_aload_n hx hb dL_law_488 rfl (lv_at hl 1 rfl) ?_
  refine zAftiR (wa := (mW A2 C2 ops nums vals st2 ce pk pv n vc dn d pr tk th tr)) (w := (eW A C n ops nums vc vals d st ce pk pv pr w key pl dn tk tr) ++ oW ob oc ou) (zRunSL (wa := (mW A2 C2 ops nums vals st2 ce pk pv n vc dn d pr tk th tr)) (w := (eW A C n ops nums vc vals d st ce pk pv pr w key pl dn tk tr) ++ oW ob oc ou) ⟨hx, hb, hml, hown, hw⟩ (c_L_told_bad l hl9 D A C ob oc ou _ n ops nums vc vals d st ce pk pv pr w key pl dn tk tr (xs ((4 * j) + 1)) hbad) wm_L_75 wt_L_told wn_L wc_L_told ⟨rfl, rfl⟩ wd_L_told ⟨by decide, by decide⟩ hX (hK.sub [7, 8, 9, 10, 11, 12, 13, 14] rfl) hP hD hS hA hl.1 rfl (Nat.le_of_ble_eq_true rfl) dL_law_489 ⟨(show _ ≤ 1050 by omega), (show _ ≤ 8567 by omega)⟩) hP hD hS hA (fun r u H locs hp hP hD hS => ?_)
  replace hP : va_P D vwCl ((mW A2 C2 ops nums vals st2 ce pk pv n vc dn d pr tk th tr) ++ ((eW A C n ops nums vc vals d st ce pk pv pr w key pl dn tk tr) ++ oW ob oc ou)) H := hP
  replace hD : va_D F ((mW A2 C2 ops nums vals st2 ce pk pv n vc dn d pr tk th tr) ++ ((eW A C n ops nums vc vals d st ce pk pv pr w key pl dn tk tr) ++ oW ob oc ou)) := hD
  subst hp
  refine lv_istore hx hb dL_law_492 hl (by decide) rfl (fun ls hl => ?_)
  have hl : lv_has ls 8 [(5, .int (nI 1)), (4, .int (nI (4 * j))), (3, .ref ob), (2, .ref (A2 0)), (1, .ref (A 0)), (0, .ref b)] := hl
  refine lv_aload_n hx hb dL_law_494 rfl (lv_at hl 3 rfl) ?_
  refine lv_aload_n hx hb dL_law_495 rfl (lv_at hl 5 rfl) ?_
  refine lv_iload hx hb dL_law_496 (lv_at hl 1 rfl) ?_
  refine lv_iconst (v := nI 1) hx hb dL_law_498 (by decide) ?_
  refine lv_iadd hx hb dL_law_499 ?_
  refine zti (nI_add _ _) ?_
  refine zSld hx hb hsc hbl hbA hS (by omega) (by omega) dL_law_500 ?_
  refine zAfti (wa := []) (w := (mW A2 C2 ops nums vals st2 ce pk pv n vc dn d pr tk th tr)) (wb := (eW A C n ops nums vc vals d st ce pk pv pr w key pl dn tk tr) ++ oW ob oc ou) (zRunV (wa := []) (w := (mW A2 C2 ops nums vals st2 ce pk pv n vc dn d pr tk th tr)) (wb := (eW A C n ops nums vc vals d st ce pk pv pr w key pl dn tk tr) ++ oW ob oc ou) ⟨hx, hb, hml, hown, hw⟩ (c_M_told_bad l D A2 C2 _ ops nums vals st2 ce pk pv n vc dn d pr tk th tr (xs ((4 * j) + 1)) hbad2) wm_L_78 wi_M_told ws_M_told wn_M wc_M_told ⟨rfl, rfl⟩ wd_M_told ⟨by decide, by decide⟩ (hK.sub [0, 1, 2, 3, 4, 5, 6] rfl) hP hD 1 rfl rfl rfl hl.1 rfl (Nat.le_of_ble_eq_true rfl) dL_law_501 ⟨(show _ ≤ 1050 by omega), (show _ ≤ 8567 by omega)⟩) hP hD hS hA (fun r u H locs hp hP hD hS => ?_)
  replace hP : va_P D vwCl ((mW A2 C2 ops nums vals st2 ce pk pv n vc dn d pr tk 1 tr) ++ ((eW A C n ops nums vc vals d st ce pk pv pr w key pl dn tk tr) ++ oW ob oc ou)) H := hP
  replace hD : va_D F ((mW A2 C2 ops nums vals st2 ce pk pv n vc dn d pr tk 1 tr) ++ ((eW A C n ops nums vc vals d st ce pk pv pr w key pl dn tk tr) ++ oW ob oc ou)) := hD
  subst hp
  refine lv_istore hx hb dL_law_504 hl (by decide) rfl (fun ls hl => ?_)
  have hl : lv_has ls 8 [(6, .int (nI 0)), (5, .int (nI 1)), (4, .int (nI (4 * j))), (3, .ref ob), (2, .ref (A2 0)), (1, .ref (A 0)), (0, .ref b)] := hl
  refine lv_aload_n hx hb dL_law_506 rfl (lv_at hl 4 rfl) ?_
  refine zAfti (wa := []) (w := (mW A2 C2 ops nums vals st2 ce pk pv n vc dn d pr tk 1 tr)) (wb := (eW A C n ops nums vc vals d st ce pk pv pr w key pl dn tk tr) ++ oW ob oc ou) (zRunV (wa := []) (w := (mW A2 C2 ops nums vals st2 ce pk pv n vc dn d pr tk 1 tr)) (wb := (eW A C n ops nums vc vals d st ce pk pv pr w key pl dn tk tr) ++ oW ob oc ou) ⟨hx, hb, hml, hown, hw⟩ (c_M_thrown l D A2 C2 _ ops nums vals st2 ce pk pv n vc dn d pr tk 1 tr) wm_L_52 wi_M_thrown ws_M_thrown wn_M wc_M_thrown ⟨rfl, rfl⟩ wd_M_thrown ⟨by decide, by decide⟩ (hK.sub [0, 1, 2, 3, 4, 5, 6] rfl) hP hD 1 rfl rfl rfl hl.1 rfl (Nat.le_of_ble_eq_true rfl) dL_law_507 ⟨(show _ ≤ 1050 by omega), (show _ ≤ 8567 by omega)⟩) hP hD hS hA (fun r u H locs hp hP hD hS => ?_)
  replace hP : va_P D vwCl ((mW A2 C2 ops nums vals st2 ce pk pv n vc dn d pr tk 1 tr) ++ ((eW A C n ops nums vc vals d st ce pk pv pr w key pl dn tk tr) ++ oW ob oc ou)) H := hP
  replace hD : va_D F ((mW A2 C2 ops nums vals st2 ce pk pv n vc dn d pr tk 1 tr) ++ ((eW A C n ops nums vc vals d st ce pk pv pr w key pl dn tk tr) ++ oW ob oc ou)) := hD
  subst hp
  refine lv_iload hx hb dL_law_510 (lv_at hl 1 rfl) ?_
  refine zc_eq (tgt := 517) hx hb dL_law_512 rfl (by omega) (by omega) (fun _ => ?_) (fun q => absurd q (by omega))
  refine lv_iload hx hb dL_law_517 (lv_at hl 1 rfl) ?_
  refine zi_ne (tgt := 534) hx hb dL_law_519 rfl (by omega) (fun _ => ?_) (fun q => absurd q (by omega))
  refine lv_goto (tgt := 592) hx hb dL_law_534 rfl ?_
  refine lv_iinc (k := 2) (v := nI ((4 * j) + 4)) hx hb dL_law_592 hl rfl (nI_add _ _) (by decide) rfl (fun ls hl => ?_)
  have hl : lv_has ls 8 [(4, .int (nI ((4 * j) + 4))), (6, .int (nI 0)), (5, .int (nI 1)), (3, .ref ob), (2, .ref (A2 0)), (1, .ref (A 0)), (0, .ref b)] := hl
  refine lv_goto (tgt := 23) hx hb dL_law_595 rfl ?_
  refine W.widen (k := 17 + (j + 1)) (n := 321 + 6 * (j + 1)) (by omega) (by omega) ?_
  exact kk n ops nums vc vals d st st2 ce pk pv pr w key pl dn tk 1 tr ou _ _ _ ⟨i1, i2, i3, i4, i5, i6, i7⟩ hP hD hS (lv_sub hl [0, 3, 4, 5, 6] rfl)
set_option maxRecDepth 20000 in
set_option maxHeartbeats 4000000 in
theorem lwCell {p : Program} {l : Launch} {e : Env} {s : State} {m : MethodId} {below : List Frame} {meth : Method} {c : Code} {b L : Nat} {xs : Nat → Int32} {D : va_G} {A A2 : Nat → Nat} {C C2 : Nat → ClassId} {ob : Nat} {oc : ClassId} {F : Nat → Prop} {Q : State → Prop} (hl9 : l.stackTraces = false) (hx : p.tables.exec = Jvm.exec) (hb : c.code = cL_law) (hml : c.maxLocals = 8) (hw : ∀ w ∈ WS, w.before #[Value.ref b] s = true) (hown : s.vm.findClass "EmitDeskLaw" = some m.cls) (hX : zL F s) (hK : va_K D vwCl (tL C C2 oc) s) (hA : ∀ q, s.heap.size ≤ q → F q) (hsc : va_X b L xs s s.heap) (hbl : b < s.heap.size) (hbA : ¬ F b) (hL : L ≤ 2048) {j : Nat} {n : Nat} {ops : Nat → Int32} {nums : Nat → Int64} {vc : Nat} {vals : Nat → Int64} {d : Nat} {st st2 ce pk pv : Nat → Int64} {pr w : Nat} {key : Int64} {pl dn tk th tr : Nat} {ou : Nat → Int64} {ls : Array Slot} {H : Heap} {locs : List Loc} {j2 : Nat} (hj : ¬ L < 4 * j + 4) (hi : LI n ops nums vc d pr tk dn tr) (hj2 : j2 < 4) (e9 : xs ((4 * j) + 1) = nI j2) (hP : va_P D vwCl ((mW A2 C2 ops nums vals st2 ce pk pv n vc dn d pr tk th tr) ++ ((eW A C n ops nums vc vals d st ce pk pv pr w key pl dn tk tr) ++ oW ob oc ou)) H) (hD : va_D F ((mW A2 C2 ops nums vals st2 ce pk pv n vc dn d pr tk th tr) ++ ((eW A C n ops nums vc vals d st ce pk pv pr w key pl dn tk tr) ++ oW ob oc ou))) (hS : va_S F s.heap H locs) (hl : lv_has ls 8 [(4, .int (nI (4 * j))), (3, .ref ob), (2, .ref (A2 0)), (1, .ref (A 0)), (0, .ref b)]) (kk : ∀ (n : Nat) (ops : Nat → Int32) (nums : Nat → Int64) (vc : Nat) (vals : Nat → Int64) (d : Nat) (st st2 ce pk pv : Nat → Int64) (pr w : Nat) (key : Int64) (pl dn tk th tr : Nat) (ou : Nat → Int64) (ls : Array Slot) (H : Heap) (locs : List Loc), LI n ops nums vc d pr tk dn tr → va_P D vwCl ((mW A2 C2 ops nums vals st2 ce pk pv n vc dn d pr tk th tr) ++ ((eW A C n ops nums vc vals d st ce pk pv pr w key pl dn tk tr) ++ oW ob oc ou)) H → va_D F ((mW A2 C2 ops nums vals st2 ce pk pv n vc dn d pr tk th tr) ++ ((eW A C n ops nums vc vals d st ce pk pv pr w key pl dn tk tr) ++ oW ob oc ou)) → va_S F s.heap H locs → lv_has ls 8 [(4, .int (nI (4 * (j + 1)))), (3, .ref ob), (2, .ref (A2 0)), (1, .ref (A 0)), (0, .ref b)] → W p l e rL s m #[Value.ref b] below meth c H locs (17 + (j + 1)) (321 + 6 * (j + 1)) Q (F0 m 23 ls [])) : W p l e rL s m #[Value.ref b] below meth c H locs (17 + j) (321 + 6 * j) Q (F0 m 537 ls []) := by
  obtain ⟨i1, i2, i3, i4, i5, i6, i7⟩ := hi
  have hn40 := i1.1
  refine lv_aload_n hx hb dL_law_537 rfl (lv_at hl 3 rfl) ?_
  refine lv_aload_n hx hb dL_law_538 rfl (lv_at hl 4 rfl) ?_
  refine lv_iload hx hb dL_law_539 (lv_at hl 0 rfl) ?_
  refine lv_iconst (v := nI 1) hx hb dL_law_541 (by decide) ?_
  refine lv_iadd hx hb dL_law_542 ?_
  refine zti (nI_add _ _) ?_
  refine zSld hx hb hsc hbl hbA hS (by omega) (by omega) dL_law_543 ?_
  refine zti e9 ?_
  refine lv_aload_n hx hb dL_law_544 rfl (lv_at hl 1 rfl) ?_
  refine zAftiR (wa := (mW A2 C2 ops nums vals st2 ce pk pv n vc dn d pr tk th tr)) (w := (eW A C n ops nums vc vals d st ce pk pv pr w key pl dn tk tr) ++ oW ob oc ou) (zRunSL (wa := (mW A2 C2 ops nums vals st2 ce pk pv n vc dn d pr tk th tr)) (w := (eW A C n ops nums vc vals d st ce pk pv pr w key pl dn tk tr) ++ oW ob oc ou) ⟨hx, hb, hml, hown, hw⟩ (c_L_cell_ok l hl9 D A C ob oc ou _ n ops nums vc vals d st ce pk pv pr w key pl dn tk tr j2 hj2) wm_L_79 wt_L_cell wn_L wc_L_cell ⟨rfl, rfl⟩ wd_L_cell ⟨by decide, by decide⟩ hX (hK.sub [7, 8, 9, 10, 11, 12, 13, 14] rfl) hP hD hS hA hl.1 rfl (Nat.le_of_ble_eq_true rfl) dL_law_545 ⟨(show _ ≤ 1050 by omega), (show _ ≤ 8567 by omega)⟩) hP hD hS hA (fun r u H locs hp hP hD hS => ?_)
  replace hP : va_P D vwCl ((mW A2 C2 ops nums vals st2 ce pk pv n vc dn d pr tk th tr) ++ ((eW A C n ops nums vc vals d st ce pk pv pr w key pl dn tk tr) ++ oW ob oc (vp_updL ou 0 (ce j2)))) H := hP
  replace hD : va_D F ((mW A2 C2 ops nums vals st2 ce pk pv n vc dn d pr tk th tr) ++ ((eW A C n ops nums vc vals d st ce pk pv pr w key pl dn tk tr) ++ oW ob oc (vp_updL ou 0 (ce j2)))) := hD
  subst hp
  refine lv_istore hx hb dL_law_548 hl (by decide) rfl (fun ls hl => ?_)
  have hl : lv_has ls 8 [(5, .int (nI 0)), (4, .int (nI (4 * j))), (3, .ref ob), (2, .ref (A2 0)), (1, .ref (A 0)), (0, .ref b)] := hl
  refine lv_aload_n hx hb dL_law_550 rfl (lv_at hl 3 rfl) ?_
  refine lv_aload_n hx hb dL_law_551 rfl (lv_at hl 5 rfl) ?_
  refine lv_iload hx hb dL_law_552 (lv_at hl 1 rfl) ?_
  refine lv_iconst (v := nI 1) hx hb dL_law_554 (by decide) ?_
  refine lv_iadd hx hb dL_law_555 ?_
  refine zti (nI_add _ _) ?_
  refine zSld hx hb hsc hbl hbA hS (by omega) (by omega) dL_law_556 ?_
  refine zti e9 ?_
  refine zAftl (wa := []) (w := (mW A2 C2 ops nums vals st2 ce pk pv n vc dn d pr tk th tr)) (wb := (eW A C n ops nums vc vals d st ce pk pv pr w key pl dn tk tr) ++ oW ob oc (vp_updL ou 0 (ce j2))) (zRunV (wa := []) (w := (mW A2 C2 ops nums vals st2 ce pk pv n vc dn d pr tk th tr)) (wb := (eW A C n ops nums vc vals d st ce pk pv pr w key pl dn tk tr) ++ oW ob oc (vp_updL ou 0 (ce j2))) ⟨hx, hb, hml, hown, hw⟩ (c_M_cell_ok l D A2 C2 _ ops nums vals st2 ce pk pv n vc dn d pr tk th tr j2 hj2) wm_L_81 wi_M_cell ws_M_cell wn_M wc_M_cell ⟨rfl, rfl⟩ wd_M_cell ⟨by decide, by decide⟩ (hK.sub [0, 1, 2, 3, 4, 5, 6] rfl) hP hD 1 rfl rfl rfl hl.1 rfl (Nat.le_of_ble_eq_true rfl) dL_law_557 ⟨(show _ ≤ 1050 by omega), (show _ ≤ 8567 by omega)⟩) hP hD hS hA (fun r u H locs hp hP hD hS => ?_)
  replace hP : va_P D vwCl ((mW A2 C2 ops nums vals st2 ce pk pv n vc dn d pr tk 0 tr) ++ ((eW A C n ops nums vc vals d st ce pk pv pr w key pl dn tk tr) ++ oW ob oc (vp_updL ou 0 (ce j2)))) H := hP
  replace hD : va_D F ((mW A2 C2 ops nums vals st2 ce pk pv n vc dn d pr tk 0 tr) ++ ((eW A C n ops nums vc vals d st ce pk pv pr w key pl dn tk tr) ++ oW ob oc (vp_updL ou 0 (ce j2)))) := hD
  subst hp
  refine lv_lstore hx hb dL_law_560 hl (by decide) rfl (fun ls hl => ?_)
  have hl : lv_has ls 8 [(6, .long (ce j2)), (5, .int (nI 0)), (4, .int (nI (4 * j))), (3, .ref ob), (2, .ref (A2 0)), (1, .ref (A 0)), (0, .ref b)] := hl
  refine lv_aload_n hx hb dL_law_562 rfl (lv_at hl 4 rfl) ?_
  refine zAfti (wa := []) (w := (mW A2 C2 ops nums vals st2 ce pk pv n vc dn d pr tk 0 tr)) (wb := (eW A C n ops nums vc vals d st ce pk pv pr w key pl dn tk tr) ++ oW ob oc (vp_updL ou 0 (ce j2))) (zRunV (wa := []) (w := (mW A2 C2 ops nums vals st2 ce pk pv n vc dn d pr tk 0 tr)) (wb := (eW A C n ops nums vc vals d st ce pk pv pr w key pl dn tk tr) ++ oW ob oc (vp_updL ou 0 (ce j2))) ⟨hx, hb, hml, hown, hw⟩ (c_M_thrown l D A2 C2 _ ops nums vals st2 ce pk pv n vc dn d pr tk 0 tr) wm_L_52 wi_M_thrown ws_M_thrown wn_M wc_M_thrown ⟨rfl, rfl⟩ wd_M_thrown ⟨by decide, by decide⟩ (hK.sub [0, 1, 2, 3, 4, 5, 6] rfl) hP hD 1 rfl rfl rfl hl.1 rfl (Nat.le_of_ble_eq_true rfl) dL_law_563 ⟨(show _ ≤ 1050 by omega), (show _ ≤ 8567 by omega)⟩) hP hD hS hA (fun r u H locs hp hP hD hS => ?_)
  replace hP : va_P D vwCl ((mW A2 C2 ops nums vals st2 ce pk pv n vc dn d pr tk 0 tr) ++ ((eW A C n ops nums vc vals d st ce pk pv pr w key pl dn tk tr) ++ oW ob oc (vp_updL ou 0 (ce j2)))) H := hP
  replace hD : va_D F ((mW A2 C2 ops nums vals st2 ce pk pv n vc dn d pr tk 0 tr) ++ ((eW A C n ops nums vc vals d st ce pk pv pr w key pl dn tk tr) ++ oW ob oc (vp_updL ou 0 (ce j2)))) := hD
  subst hp
  refine lv_iload hx hb dL_law_566 (lv_at hl 1 rfl) ?_
  refine zc_eq (tgt := 573) hx hb dL_law_568 rfl (by omega) (by omega) (fun _ => ?_) (fun q => absurd q (by omega))
  refine lv_iload hx hb dL_law_573 (lv_at hl 1 rfl) ?_
  refine zi_ne (tgt := 589) hx hb dL_law_575 rfl (by omega) (fun q => absurd q (by omega)) (fun _ => ?_)
  refine lv_aload_n hx hb dL_law_578 rfl (lv_at hl 3 rfl) ?_
  refine lv_iconst (v := nI 0) hx hb dL_law_579 (by decide) ?_
  refine zLald hx hb hK hP 16 14 rfl rfl (by omega) (by decide) dL_law_580 ?_
  refine ztl pk_uLs ?_
  refine lv_lload hx hb dL_law_581 (lv_at hl 0 rfl) ?_
  refine W.lcmp hx hb dL_law_583 ?_
  refine zl_eq (tgt := 589) hx hb dL_law_584 rfl (fun _ => ?_) (fun q => absurd q (by exact fun z => z rfl))
  refine lv_goto (tgt := 592) hx hb dL_law_589 rfl ?_
  refine lv_iinc (k := 2) (v := nI ((4 * j) + 4)) hx hb dL_law_592 hl rfl (nI_add _ _) (by decide) rfl (fun ls hl => ?_)
  have hl : lv_has ls 8 [(4, .int (nI ((4 * j) + 4))), (6, .long (ce j2)), (5, .int (nI 0)), (3, .ref ob), (2, .ref (A2 0)), (1, .ref (A 0)), (0, .ref b)] := hl
  refine lv_goto (tgt := 23) hx hb dL_law_595 rfl ?_
  refine W.widen (k := 17 + (j + 1)) (n := 321 + 6 * (j + 1)) (by omega) (by omega) ?_
  exact kk n ops nums vc vals d st st2 ce pk pv pr w key pl dn tk 0 tr (vp_updL ou 0 (ce j2)) _ _ _ ⟨i1, i2, i3, i4, i5, i6, i7⟩ hP hD hS (lv_sub hl [0, 3, 4, 5, 6] rfl)
set_option maxRecDepth 20000 in
set_option maxHeartbeats 4000000 in
theorem lwCellB {p : Program} {l : Launch} {e : Env} {s : State} {m : MethodId} {below : List Frame} {meth : Method} {c : Code} {b L : Nat} {xs : Nat → Int32} {D : va_G} {A A2 : Nat → Nat} {C C2 : Nat → ClassId} {ob : Nat} {oc : ClassId} {F : Nat → Prop} {Q : State → Prop} (hl9 : l.stackTraces = false) (hx : p.tables.exec = Jvm.exec) (hb : c.code = cL_law) (hml : c.maxLocals = 8) (hw : ∀ w ∈ WS, w.before #[Value.ref b] s = true) (hown : s.vm.findClass "EmitDeskLaw" = some m.cls) (hX : zL F s) (hK : va_K D vwCl (tL C C2 oc) s) (hA : ∀ q, s.heap.size ≤ q → F q) (hsc : va_X b L xs s s.heap) (hbl : b < s.heap.size) (hbA : ¬ F b) (hL : L ≤ 2048) {j : Nat} {n : Nat} {ops : Nat → Int32} {nums : Nat → Int64} {vc : Nat} {vals : Nat → Int64} {d : Nat} {st st2 ce pk pv : Nat → Int64} {pr w : Nat} {key : Int64} {pl dn tk th tr : Nat} {ou : Nat → Int64} {ls : Array Slot} {H : Heap} {locs : List Loc} (hj : ¬ L < 4 * j + 4) (hi : LI n ops nums vc d pr tk dn tr) (hbad : (xs ((4 * j) + 1)) < 0 ∨ nI 4 ≤ xs ((4 * j) + 1)) (hbad2 : ¬ (lN 0 ≤ (xs ((4 * j) + 1)).toInt64 ∧ (xs ((4 * j) + 1)).toInt64 ≤ lN 3)) (hP : va_P D vwCl ((mW A2 C2 ops nums vals st2 ce pk pv n vc dn d pr tk th tr) ++ ((eW A C n ops nums vc vals d st ce pk pv pr w key pl dn tk tr) ++ oW ob oc ou)) H) (hD : va_D F ((mW A2 C2 ops nums vals st2 ce pk pv n vc dn d pr tk th tr) ++ ((eW A C n ops nums vc vals d st ce pk pv pr w key pl dn tk tr) ++ oW ob oc ou))) (hS : va_S F s.heap H locs) (hl : lv_has ls 8 [(4, .int (nI (4 * j))), (3, .ref ob), (2, .ref (A2 0)), (1, .ref (A 0)), (0, .ref b)]) (kk : ∀ (n : Nat) (ops : Nat → Int32) (nums : Nat → Int64) (vc : Nat) (vals : Nat → Int64) (d : Nat) (st st2 ce pk pv : Nat → Int64) (pr w : Nat) (key : Int64) (pl dn tk th tr : Nat) (ou : Nat → Int64) (ls : Array Slot) (H : Heap) (locs : List Loc), LI n ops nums vc d pr tk dn tr → va_P D vwCl ((mW A2 C2 ops nums vals st2 ce pk pv n vc dn d pr tk th tr) ++ ((eW A C n ops nums vc vals d st ce pk pv pr w key pl dn tk tr) ++ oW ob oc ou)) H → va_D F ((mW A2 C2 ops nums vals st2 ce pk pv n vc dn d pr tk th tr) ++ ((eW A C n ops nums vc vals d st ce pk pv pr w key pl dn tk tr) ++ oW ob oc ou)) → va_S F s.heap H locs → lv_has ls 8 [(4, .int (nI (4 * (j + 1)))), (3, .ref ob), (2, .ref (A2 0)), (1, .ref (A 0)), (0, .ref b)] → W p l e rL s m #[Value.ref b] below meth c H locs (17 + (j + 1)) (321 + 6 * (j + 1)) Q (F0 m 23 ls [])) : W p l e rL s m #[Value.ref b] below meth c H locs (17 + j) (321 + 6 * j) Q (F0 m 537 ls []) := by
  obtain ⟨i1, i2, i3, i4, i5, i6, i7⟩ := hi
  have hn40 := i1.1
  refine lv_aload_n hx hb dL_law_537 rfl (lv_at hl 3 rfl) ?_
  refine lv_aload_n hx hb dL_law_538 rfl (lv_at hl 4 rfl) ?_
  refine lv_iload hx hb dL_law_539 (lv_at hl 0 rfl) ?_
  refine lv_iconst (v := nI 1) hx hb dL_law_541 (by decide) ?_
  refine lv_iadd hx hb dL_law_542 ?_
  refine zti (nI_add _ _) ?_
  refine zSld hx hb hsc hbl hbA hS (by omega) (by omega) dL_law_543 ?_
  refine lv_aload_n hx hb dL_law_544 rfl (lv_at hl 1 rfl) ?_
  refine zAftiR (wa := (mW A2 C2 ops nums vals st2 ce pk pv n vc dn d pr tk th tr)) (w := (eW A C n ops nums vc vals d st ce pk pv pr w key pl dn tk tr) ++ oW ob oc ou) (zRunSL (wa := (mW A2 C2 ops nums vals st2 ce pk pv n vc dn d pr tk th tr)) (w := (eW A C n ops nums vc vals d st ce pk pv pr w key pl dn tk tr) ++ oW ob oc ou) ⟨hx, hb, hml, hown, hw⟩ (c_L_cell_bad l hl9 D A C ob oc ou _ n ops nums vc vals d st ce pk pv pr w key pl dn tk tr (xs ((4 * j) + 1)) hbad) wm_L_79 wt_L_cell wn_L wc_L_cell ⟨rfl, rfl⟩ wd_L_cell ⟨by decide, by decide⟩ hX (hK.sub [7, 8, 9, 10, 11, 12, 13, 14] rfl) hP hD hS hA hl.1 rfl (Nat.le_of_ble_eq_true rfl) dL_law_545 ⟨(show _ ≤ 1050 by omega), (show _ ≤ 8567 by omega)⟩) hP hD hS hA (fun r u H locs hp hP hD hS => ?_)
  replace hP : va_P D vwCl ((mW A2 C2 ops nums vals st2 ce pk pv n vc dn d pr tk th tr) ++ ((eW A C n ops nums vc vals d st ce pk pv pr w key pl dn tk tr) ++ oW ob oc ou)) H := hP
  replace hD : va_D F ((mW A2 C2 ops nums vals st2 ce pk pv n vc dn d pr tk th tr) ++ ((eW A C n ops nums vc vals d st ce pk pv pr w key pl dn tk tr) ++ oW ob oc ou)) := hD
  subst hp
  refine lv_istore hx hb dL_law_548 hl (by decide) rfl (fun ls hl => ?_)
  have hl : lv_has ls 8 [(5, .int (nI 1)), (4, .int (nI (4 * j))), (3, .ref ob), (2, .ref (A2 0)), (1, .ref (A 0)), (0, .ref b)] := hl
  refine lv_aload_n hx hb dL_law_550 rfl (lv_at hl 3 rfl) ?_
  refine lv_aload_n hx hb dL_law_551 rfl (lv_at hl 5 rfl) ?_
  refine lv_iload hx hb dL_law_552 (lv_at hl 1 rfl) ?_
  refine lv_iconst (v := nI 1) hx hb dL_law_554 (by decide) ?_
  refine lv_iadd hx hb dL_law_555 ?_
  refine zti (nI_add _ _) ?_
  refine zSld hx hb hsc hbl hbA hS (by omega) (by omega) dL_law_556 ?_
  refine zAftl (wa := []) (w := (mW A2 C2 ops nums vals st2 ce pk pv n vc dn d pr tk th tr)) (wb := (eW A C n ops nums vc vals d st ce pk pv pr w key pl dn tk tr) ++ oW ob oc ou) (zRunV (wa := []) (w := (mW A2 C2 ops nums vals st2 ce pk pv n vc dn d pr tk th tr)) (wb := (eW A C n ops nums vc vals d st ce pk pv pr w key pl dn tk tr) ++ oW ob oc ou) ⟨hx, hb, hml, hown, hw⟩ (c_M_cell_bad l D A2 C2 _ ops nums vals st2 ce pk pv n vc dn d pr tk th tr (xs ((4 * j) + 1)) hbad2) wm_L_81 wi_M_cell ws_M_cell wn_M wc_M_cell ⟨rfl, rfl⟩ wd_M_cell ⟨by decide, by decide⟩ (hK.sub [0, 1, 2, 3, 4, 5, 6] rfl) hP hD 1 rfl rfl rfl hl.1 rfl (Nat.le_of_ble_eq_true rfl) dL_law_557 ⟨(show _ ≤ 1050 by omega), (show _ ≤ 8567 by omega)⟩) hP hD hS hA (fun r u H locs hp hP hD hS => ?_)
  replace hP : va_P D vwCl ((mW A2 C2 ops nums vals st2 ce pk pv n vc dn d pr tk 1 tr) ++ ((eW A C n ops nums vc vals d st ce pk pv pr w key pl dn tk tr) ++ oW ob oc ou)) H := hP
  replace hD : va_D F ((mW A2 C2 ops nums vals st2 ce pk pv n vc dn d pr tk 1 tr) ++ ((eW A C n ops nums vc vals d st ce pk pv pr w key pl dn tk tr) ++ oW ob oc ou)) := hD
  subst hp
  refine lv_lstore hx hb dL_law_560 hl (by decide) rfl (fun ls hl => ?_)
  have hl : lv_has ls 8 [(6, .long (0 : Int64)), (5, .int (nI 1)), (4, .int (nI (4 * j))), (3, .ref ob), (2, .ref (A2 0)), (1, .ref (A 0)), (0, .ref b)] := hl
  refine lv_aload_n hx hb dL_law_562 rfl (lv_at hl 4 rfl) ?_
  refine zAfti (wa := []) (w := (mW A2 C2 ops nums vals st2 ce pk pv n vc dn d pr tk 1 tr)) (wb := (eW A C n ops nums vc vals d st ce pk pv pr w key pl dn tk tr) ++ oW ob oc ou) (zRunV (wa := []) (w := (mW A2 C2 ops nums vals st2 ce pk pv n vc dn d pr tk 1 tr)) (wb := (eW A C n ops nums vc vals d st ce pk pv pr w key pl dn tk tr) ++ oW ob oc ou) ⟨hx, hb, hml, hown, hw⟩ (c_M_thrown l D A2 C2 _ ops nums vals st2 ce pk pv n vc dn d pr tk 1 tr) wm_L_52 wi_M_thrown ws_M_thrown wn_M wc_M_thrown ⟨rfl, rfl⟩ wd_M_thrown ⟨by decide, by decide⟩ (hK.sub [0, 1, 2, 3, 4, 5, 6] rfl) hP hD 1 rfl rfl rfl hl.1 rfl (Nat.le_of_ble_eq_true rfl) dL_law_563 ⟨(show _ ≤ 1050 by omega), (show _ ≤ 8567 by omega)⟩) hP hD hS hA (fun r u H locs hp hP hD hS => ?_)
  replace hP : va_P D vwCl ((mW A2 C2 ops nums vals st2 ce pk pv n vc dn d pr tk 1 tr) ++ ((eW A C n ops nums vc vals d st ce pk pv pr w key pl dn tk tr) ++ oW ob oc ou)) H := hP
  replace hD : va_D F ((mW A2 C2 ops nums vals st2 ce pk pv n vc dn d pr tk 1 tr) ++ ((eW A C n ops nums vc vals d st ce pk pv pr w key pl dn tk tr) ++ oW ob oc ou)) := hD
  subst hp
  refine lv_iload hx hb dL_law_566 (lv_at hl 1 rfl) ?_
  refine zc_eq (tgt := 573) hx hb dL_law_568 rfl (by omega) (by omega) (fun _ => ?_) (fun q => absurd q (by omega))
  refine lv_iload hx hb dL_law_573 (lv_at hl 1 rfl) ?_
  refine zi_ne (tgt := 589) hx hb dL_law_575 rfl (by omega) (fun _ => ?_) (fun q => absurd q (by omega))
  refine lv_goto (tgt := 592) hx hb dL_law_589 rfl ?_
  refine lv_iinc (k := 2) (v := nI ((4 * j) + 4)) hx hb dL_law_592 hl rfl (nI_add _ _) (by decide) rfl (fun ls hl => ?_)
  have hl : lv_has ls 8 [(4, .int (nI ((4 * j) + 4))), (6, .long (0 : Int64)), (5, .int (nI 1)), (3, .ref ob), (2, .ref (A2 0)), (1, .ref (A 0)), (0, .ref b)] := hl
  refine lv_goto (tgt := 23) hx hb dL_law_595 rfl ?_
  refine W.widen (k := 17 + (j + 1)) (n := 321 + 6 * (j + 1)) (by omega) (by omega) ?_
  exact kk n ops nums vc vals d st st2 ce pk pv pr w key pl dn tk 1 tr ou _ _ _ ⟨i1, i2, i3, i4, i5, i6, i7⟩ hP hD hS (lv_sub hl [0, 3, 4, 5, 6] rfl)
