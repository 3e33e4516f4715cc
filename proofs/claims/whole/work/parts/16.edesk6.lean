/-! EmitDesk: the public methods, each where it answers and where it throws -/
section ZI
variable {p : Program} {l : Launch} {e : Env} {R : Room} {s : State} {m : MethodId} {args : Array Value} {below : List Frame} {meth : Method} {c : Code} {H : Heap} {locs : List Loc} {cells slots : Nat} {Q : State → Prop}
variable {cc : ByteArray} {pc : Nat} {ls : Array Slot} {rest : List Value}
theorem zi_lt (hx : p.tables.exec = Jvm.exec) (hb : c.code = cc) {x : Nat} {off : Int} {tgt : Nat} (hdg : decode cc pc = .ok (.ifCond .lt off, 3)) (ht : (pc : Int) + off = (tgt : Int)) (bx : x < 2 ^ 31)
    (kt : x < 0 → W p l e R s m args below meth c H locs cells slots Q (F0 m tgt ls rest)) (kf : 0 ≤ x → W p l e R s m args below meth c H locs cells slots Q (F0 m (pc + 3) ls rest)) : W p l e R s m args below meth c H locs cells slots Q (F0 m pc ls (.int (nI x) :: rest)) :=
  lv_if_lt hx hb hdg ht (fun h => absurd h (nI_pos bx)) (fun _ => kf (Nat.zero_le _))
theorem zi_ge (hx : p.tables.exec = Jvm.exec) (hb : c.code = cc) {x : Nat} {off : Int} {tgt : Nat} (hdg : decode cc pc = .ok (.ifCond .ge off, 3)) (ht : (pc : Int) + off = (tgt : Int)) (bx : x < 2 ^ 31)
    (kt : 0 ≤ x → W p l e R s m args below meth c H locs cells slots Q (F0 m tgt ls rest)) (kf : x < 0 → W p l e R s m args below meth c H locs cells slots Q (F0 m (pc + 3) ls rest)) : W p l e R s m args below meth c H locs cells slots Q (F0 m pc ls (.int (nI x) :: rest)) :=
  lv_if_ge hx hb hdg ht (fun _ => kt (Nat.zero_le _)) (fun h => absurd (nI_pos' bx) h)
end ZI

set_option maxRecDepth 20000 in
set_option maxHeartbeats 4000000 in
theorem c_code_ok (l : Launch) (D : va_G) (A : Nat → Nat) (C : Nat → ClassId) (sz : Nat) (n : Nat) (ops : Nat → Int32) (nums : Nat → Int64) (vc : Nat) (vals : Nat → Int64) (d : Nat) (st : Nat → Int64) (ce : Nat → Int64) (pk : Nat → Int64) (pv : Nat → Int64) (pr : Nat) (w : Nat) (key : Int64) (pl : Nat) (dn : Nat) (tk : Nat) (tr : Nat) (o : Int32) (x : Int64) (hok : okC o x) (hn : n < 40) : Met l yE_code (.code yE_code cE_code 4 (some .int) :: WS) (rmk 1 22) (va_Pc [.ref (A 0), .int o, .long x] (zP D (eT C) sz (eW A C n ops nums vc vals d st ce pk pv pr w key pl dn tk tr))) (va_Qi (fun (r : Int32) (_ : Unit) => r = nI (n + 1)) (fun (_ : Unit) t => zB D (eT C) (va_A (eW A C n ops nums vc vals d st ce pk pv pr w key pl dn tk tr) sz) (eW A C (n + 1) (upd ops n o) (vp_updL nums n x) vc vals d st ce pk pv pr w key pl dn tk tr) t) (va_A (eW A C n ops nums vc vals d st ce pk pv pr w key pl dn tk tr) sz)) 0 0 (va_A (eW A C n ops nums vc vals d st ce pk pv pr w key pl dn tk tr) sz) := by
  refine zEnt (Qc := fun F => (va_Qi (fun (r : Int32) (_ : Unit) => r = nI (n + 1)) (fun (_ : Unit) t => zB D (eT C) F (eW A C (n + 1) (upd ops n o) (vp_updL nums n x) vc vals d st ce pk pv pr w key pl dn tk tr) t) F)) (by decide) (Nat.le_of_ble_eq_true rfl) (fun p e s m below meth c ls F hx hb hr hlk hml hnm hw hown hsz hP hK hD hA hl => ?_)
  have hS : va_S F s.heap s.heap [] := va_S.rf
  have hown : s.vm.findClass RE = some m.cls := hown
  have hl : lv_has ls 4 [(0, .ref (A 0)), (1, .int o), (2, .long x)] := hl
  refine lv_iload_n hx hb dE_code_0 rfl (lv_at hl 1 rfl) ?_
  refine lv_lload_n hx hb dE_code_1 rfl (lv_at hl 2 rfl) ?_
  refine zAfti (wa := []) (w := []) (wb := (eW A C n ops nums vc vals d st ce pk pv pr w key pl dn tk tr)) (zRunS (wa := []) (w := []) (wb := (eW A C n ops nums vc vals d st ce pk pv pr w key pl dn tk tr)) ⟨hx, hb, hml, hown, hw⟩ (c_isInstruction l D _ o x) wm_E_32 wt_E_isInstruction wn_E wc_E_isInstruction ⟨rfl, rfl⟩ wd_E_isInstruction ⟨by decide, by decide⟩ (hK.sub [] rfl) hP hD hl.1 rfl (Nat.le_of_ble_eq_true rfl) dE_code_2 ⟨by decide, by decide⟩) hP hD hS hA (fun r u H locs hp hP hD hS => ?_)
  replace hP : va_P D vwCl (eW A C n ops nums vc vals d st ce pk pv pr w key pl dn tk tr) H := hP
  replace hD : va_D F (eW A C n ops nums vc vals d st ce pk pv pr w key pl dn tk tr) := hD
  obtain ⟨rfl, -⟩ : r = nI 1 ∧ True := ⟨hp.elim (fun z => z.1) (fun z => absurd hok z.2), trivial⟩
  refine zi_ne (tgt := 18) hx hb dE_code_5 rfl (by omega) (fun _ => ?_) (fun q => absurd q (by omega))
  refine lv_aload_n hx hb dE_code_18 rfl (lv_at hl 0 rfl) ?_
  refine zGetE hx hb hw hown hK hP 0 rfl 2 (by decide) wf_E_43 rfl dE_code_19 ?_
  refine lv_bipush (v := nI 40) hx hb dE_code_22 (by decide) ?_
  refine zc_lt (tgt := 37) hx hb dE_code_24 rfl (by omega) (by omega) (fun _ => ?_) (fun q => absurd q (by omega))
  refine lv_aload_n hx hb dE_code_37 rfl (lv_at hl 0 rfl) ?_
  refine zGetE hx hb hw hown hK hP 0 rfl 0 (by decide) wf_E_9 rfl dE_code_38 ?_
  refine lv_aload_n hx hb dE_code_41 rfl (lv_at hl 0 rfl) ?_
  refine zGetE hx hb hw hown hK hP 0 rfl 2 (by decide) wf_E_43 rfl dE_code_42 ?_
  refine lv_iload_n hx hb dE_code_45 rfl (lv_at hl 1 rfl) ?_
  refine zIast hx hb hK hP hD hS 1 0 rfl rfl (by omega) (by decide) dE_code_46 (fun H locs hP hD hS => ?_)
  replace hP : va_P D vwCl (eW A C n (upd ops n o) nums vc vals d st ce pk pv pr w key pl dn tk tr) H := hP
  replace hD : va_D F (eW A C n (upd ops n o) nums vc vals d st ce pk pv pr w key pl dn tk tr) := hD
  refine lv_aload_n hx hb dE_code_47 rfl (lv_at hl 0 rfl) ?_
  refine zGetE hx hb hw hown hK hP 0 rfl 1 (by decide) wf_E_13 rfl dE_code_48 ?_
  refine lv_aload_n hx hb dE_code_51 rfl (lv_at hl 0 rfl) ?_
  refine zGetE hx hb hw hown hK hP 0 rfl 2 (by decide) wf_E_43 rfl dE_code_52 ?_
  refine lv_lload_n hx hb dE_code_55 rfl (lv_at hl 2 rfl) ?_
  refine zLast hx hb hK hP hD hS 2 1 rfl rfl (by omega) (by decide) dE_code_56 (fun H locs hP hD hS => ?_)
  replace hP : va_P D vwCl (eW A C n (upd ops n o) (vp_updL nums n x) vc vals d st ce pk pv pr w key pl dn tk tr) H := hP
  replace hD : va_D F (eW A C n (upd ops n o) (vp_updL nums n x) vc vals d st ce pk pv pr w key pl dn tk tr) := hD
  refine lv_aload_n hx hb dE_code_57 rfl (lv_at hl 0 rfl) ?_
  refine lv_dup hx hb dE_code_58 rfl ?_
  refine zGetE hx hb hw hown hK hP 0 rfl 2 (by decide) wf_E_43 rfl dE_code_59 ?_
  refine lv_iconst (v := nI 1) hx hb dE_code_62 (by decide) ?_
  refine lv_iadd hx hb dE_code_63 ?_
  refine zti (nI_add _ _) ?_
  refine zPutE hx hb hw hown hK hP hD hS 0 rfl 2 (by decide) wf_E_43 rfl rfl rfl (Nat.le_of_ble_eq_true rfl) dE_code_64 (fun H locs hP hD hS => ?_)
  replace hP : va_P D vwCl (eW A C (n + 1) (upd ops n o) (vp_updL nums n x) vc vals d st ce pk pv pr w key pl dn tk tr) H := hP
  replace hD : va_D F (eW A C (n + 1) (upd ops n o) (vp_updL nums n x) vc vals d st ce pk pv pr w key pl dn tk tr) := hD
  refine lv_aload_n hx hb dE_code_67 rfl (lv_at hl 0 rfl) ?_
  refine zGetE hx hb hw hown hK hP 0 rfl 2 (by decide) wf_E_43 rfl dE_code_68 ?_
  exact zIret (w' := fun (_ : Unit) => (eW A C (n + 1) (upd ops n o) (vp_updL nums n x) vc vals d st ce pk pv pr w key pl dn tk tr)) () hx hb hr hlk hS hK rfl hP hD dE_code_71

set_option maxRecDepth 20000 in
set_option maxHeartbeats 4000000 in
theorem c_code_iae (l : Launch) (hl9 : l.stackTraces = false) (D : va_G) (A : Nat → Nat) (C : Nat → ClassId) (sz : Nat) (n : Nat) (ops : Nat → Int32) (nums : Nat → Int64) (vc : Nat) (vals : Nat → Int64) (d : Nat) (st : Nat → Int64) (ce : Nat → Int64) (pk : Nat → Int64) (pv : Nat → Int64) (pr : Nat) (w : Nat) (key : Int64) (pl : Nat) (dn : Nat) (tk : Nat) (tr : Nat) (o : Int32) (x : Int64) (hok : ¬ okC o x) : vx_Met l yE_code (.code yE_code cE_code 4 (some .int) :: WS) (rmx 6 82) (va_Pc [.ref (A 0), .int o, .long x] (fun U => zP D (eT C) sz (eW A C n ops nums vc vals d st ce pk pv pr w key pl dn tk tr) U ∧ zX (va_A (eW A C n ops nums vc vals d st ce pk pv pr w key pl dn tk tr) sz) U)) (va_Qi (fun (_ : Int32) (_ : Unit) => False) (fun (_ : Unit) (_ : State) => True) (va_A (eW A C n ops nums vc vals d st ce pk pv pr w key pl dn tk tr) sz)) (vx_X (fun _ : Unit => True) (fun E (_ : Unit) t => E = "java/lang/IllegalArgumentException" ∧ zB D (eT C) (va_A (eW A C n ops nums vc vals d st ce pk pv pr w key pl dn tk tr) sz) (eW A C n ops nums vc vals d st ce pk pv pr w key pl dn tk tr) t) (va_A (eW A C n ops nums vc vals d st ce pk pv pr w key pl dn tk tr) sz)) 1 6 (va_A (eW A C n ops nums vc vals d st ce pk pv pr w key pl dn tk tr) sz) := by
  refine zEntX (Qc := fun F => (va_Qi (fun (_ : Int32) (_ : Unit) => False) (fun (_ : Unit) (_ : State) => True) F)) (XC := fun F => (vx_X (fun _ : Unit => True) (fun E (_ : Unit) t => E = "java/lang/IllegalArgumentException" ∧ zB D (eT C) F (eW A C n ops nums vc vals d st ce pk pv pr w key pl dn tk tr) t) F)) (by decide) (Nat.le_of_ble_eq_true rfl) (fun p e s m below meth c ls F hx hb hr hlk hml hout hw hown hsz hP hK hD hA hX hl => ?_)
  have hS : va_S F s.heap s.heap [] := va_S.rf
  have hown : s.vm.findClass RE = some m.cls := hown
  have hl : lv_has ls 4 [(0, .ref (A 0)), (1, .int o), (2, .long x)] := hl
  refine lv_iload_n hx hb dE_code_0 rfl (lv_at hl 1 rfl) ?_
  refine lv_lload_n hx hb dE_code_1 rfl (lv_at hl 2 rfl) ?_
  refine zAfti (wa := []) (w := []) (wb := (eW A C n ops nums vc vals d st ce pk pv pr w key pl dn tk tr)) (zRunS (wa := []) (w := []) (wb := (eW A C n ops nums vc vals d st ce pk pv pr w key pl dn tk tr)) ⟨hx, hb, hml, hown, hw⟩ (c_isInstruction l D _ o x) wm_E_32 wt_E_isInstruction wn_E wc_E_isInstruction ⟨rfl, rfl⟩ wd_E_isInstruction ⟨by decide, by decide⟩ (hK.sub [] rfl) hP hD hl.1 rfl (Nat.le_of_ble_eq_true rfl) dE_code_2 ⟨by decide, by decide⟩) hP hD hS hA (fun r u H locs hp hP hD hS => ?_)
  replace hP : va_P D vwCl (eW A C n ops nums vc vals d st ce pk pv pr w key pl dn tk tr) H := hP
  replace hD : va_D F (eW A C n ops nums vc vals d st ce pk pv pr w key pl dn tk tr) := hD
  obtain ⟨rfl, -⟩ : r = nI 0 ∧ True := ⟨hp.elim (fun z => absurd z.2 hok) (fun z => z.1), trivial⟩
  refine zi_ne (tgt := 18) hx hb dE_code_5 rfl (by omega) (fun q => absurd q (by omega)) (fun _ => ?_)
  exact zThrow (w' := fun (_ : Unit) => (eW A C n ops nums vc vals d st ce pk pv pr w key pl dn tk tr)) () "java/lang/IllegalArgumentException" (is := 38) (text := "no such instruction") hl9 hx hb hlk hout hw hown hX hK hP hD hS (hl.1.trans hml.symm) (by decide +kernel) wk_E_36 wn_IAE wx_IAE_in wx_IAE_no wx_IAE_ot hX.1.1 (by decide) dE_code_8 dE_code_11 dE_code_12 dE_code_14 dE_code_17 (by decide) (by decide) (by decide) (by decide)
set_option maxRecDepth 20000 in
set_option maxHeartbeats 4000000 in
theorem c_code_ise (l : Launch) (hl9 : l.stackTraces = false) (D : va_G) (A : Nat → Nat) (C : Nat → ClassId) (sz : Nat) (n : Nat) (ops : Nat → Int32) (nums : Nat → Int64) (vc : Nat) (vals : Nat → Int64) (d : Nat) (st : Nat → Int64) (ce : Nat → Int64) (pk : Nat → Int64) (pv : Nat → Int64) (pr : Nat) (w : Nat) (key : Int64) (pl : Nat) (dn : Nat) (tk : Nat) (tr : Nat) (o : Int32) (x : Int64) (hok : okC o x) (hn : n = 40) : vx_Met l yE_code (.code yE_code cE_code 4 (some .int) :: WS) (rmx 6 82) (va_Pc [.ref (A 0), .int o, .long x] (fun U => zP D (eT C) sz (eW A C n ops nums vc vals d st ce pk pv pr w key pl dn tk tr) U ∧ zX (va_A (eW A C n ops nums vc vals d st ce pk pv pr w key pl dn tk tr) sz) U)) (va_Qi (fun (_ : Int32) (_ : Unit) => False) (fun (_ : Unit) (_ : State) => True) (va_A (eW A C n ops nums vc vals d st ce pk pv pr w key pl dn tk tr) sz)) (vx_X (fun _ : Unit => True) (fun E (_ : Unit) t => E = "java/lang/IllegalStateException" ∧ zB D (eT C) (va_A (eW A C n ops nums vc vals d st ce pk pv pr w key pl dn tk tr) sz) (eW A C n ops nums vc vals d st ce pk pv pr w key pl dn tk tr) t) (va_A (eW A C n ops nums vc vals d st ce pk pv pr w key pl dn tk tr) sz)) 1 6 (va_A (eW A C n ops nums vc vals d st ce pk pv pr w key pl dn tk tr) sz) := by
  refine zEntX (Qc := fun F => (va_Qi (fun (_ : Int32) (_ : Unit) => False) (fun (_ : Unit) (_ : State) => True) F)) (XC := fun F => (vx_X (fun _ : Unit => True) (fun E (_ : Unit) t => E = "java/lang/IllegalStateException" ∧ zB D (eT C) F (eW A C n ops nums vc vals d st ce pk pv pr w key pl dn tk tr) t) F)) (by decide) (Nat.le_of_ble_eq_true rfl) (fun p e s m below meth c ls F hx hb hr hlk hml hout hw hown hsz hP hK hD hA hX hl => ?_)
  have hS : va_S F s.heap s.heap [] := va_S.rf
  have hown : s.vm.findClass RE = some m.cls := hown
  have hl : lv_has ls 4 [(0, .ref (A 0)), (1, .int o), (2, .long x)] := hl
  refine lv_iload_n hx hb dE_code_0 rfl (lv_at hl 1 rfl) ?_
  refine lv_lload_n hx hb dE_code_1 rfl (lv_at hl 2 rfl) ?_
  refine zAfti (wa := []) (w := []) (wb := (eW A C n ops nums vc vals d st ce pk pv pr w key pl dn tk tr)) (zRunS (wa := []) (w := []) (wb := (eW A C n ops nums vc vals d st ce pk pv pr w key pl dn tk tr)) ⟨hx, hb, hml, hown, hw⟩ (c_isInstruction l D _ o x) wm_E_32 wt_E_isInstruction wn_E wc_E_isInstruction ⟨rfl, rfl⟩ wd_E_isInstruction ⟨by decide, by decide⟩ (hK.sub [] rfl) hP hD hl.1 rfl (Nat.le_of_ble_eq_true rfl) dE_code_2 ⟨by decide, by decide⟩) hP hD hS hA (fun r u H locs hp hP hD hS => ?_)
  replace hP : va_P D vwCl (eW A C n ops nums vc vals d st ce pk pv pr w key pl dn tk tr) H := hP
  replace hD : va_D F (eW A C n ops nums vc vals d st ce pk pv pr w key pl dn tk tr) := hD
  obtain ⟨rfl, -⟩ : r = nI 1 ∧ True := ⟨hp.elim (fun z => z.1) (fun z => absurd hok z.2), trivial⟩
  refine zi_ne (tgt := 18) hx hb dE_code_5 rfl (by omega) (fun _ => ?_) (fun q => absurd q (by omega))
  refine lv_aload_n hx hb dE_code_18 rfl (lv_at hl 0 rfl) ?_
  refine zGetE hx hb hw hown hK hP 0 rfl 2 (by decide) wf_E_43 rfl dE_code_19 ?_
  refine lv_bipush (v := nI 40) hx hb dE_code_22 (by decide) ?_
  refine zc_lt (tgt := 37) hx hb dE_code_24 rfl (by omega) (by omega) (fun q => absurd q (by omega)) (fun _ => ?_)
  exact zThrow (w' := fun (_ : Unit) => (eW A C n ops nums vc vals d st ce pk pv pr w key pl dn tk tr)) () "java/lang/IllegalStateException" (is := 49) (text := "the program is full") hl9 hx hb hlk hout hw hown hX hK hP hD hS (hl.1.trans hml.symm) (by decide +kernel) wk_E_47 wn_ISE wx_ISE_in wx_ISE_no wx_ISE_ot hX.1.2.1 (by decide) dE_code_27 dE_code_30 dE_code_31 dE_code_33 dE_code_36 (by decide) (by decide) (by decide) (by decide)
set_option maxRecDepth 20000 in
set_option maxHeartbeats 4000000 in
theorem c_clear (l : Launch) (D : va_G) (A : Nat → Nat) (C : Nat → ClassId) (sz : Nat) (n : Nat) (ops : Nat → Int32) (nums : Nat → Int64) (vc : Nat) (vals : Nat → Int64) (d : Nat) (st : Nat → Int64) (ce : Nat → Int64) (pk : Nat → Int64) (pv : Nat → Int64) (pr : Nat) (w : Nat) (key : Int64) (pl : Nat) (dn : Nat) (tk : Nat) (tr : Nat) : Met l yE_clear (.code yE_clear cE_clear 2 (some .int) :: WS) (rmk 0 0) (va_Pc [.ref (A 0)] (zP D (eT C) sz (eW A C n ops nums vc vals d st ce pk pv pr w key pl dn tk tr))) (va_Qi (fun (r : Int32) (_ : Unit) => r = nI n) (fun (_ : Unit) t => zB D (eT C) (va_A (eW A C n ops nums vc vals d st ce pk pv pr w key pl dn tk tr) sz) (eW A C 0 ops nums vc vals d st ce pk pv pr w key pl dn tk tr) t) (va_A (eW A C n ops nums vc vals d st ce pk pv pr w key pl dn tk tr) sz)) 0 0 (va_A (eW A C n ops nums vc vals d st ce pk pv pr w key pl dn tk tr) sz) := by
  refine zEnt (Qc := fun F => (va_Qi (fun (r : Int32) (_ : Unit) => r = nI n) (fun (_ : Unit) t => zB D (eT C) F (eW A C 0 ops nums vc vals d st ce pk pv pr w key pl dn tk tr) t) F)) (by decide) (Nat.le_of_ble_eq_true rfl) (fun p e s m below meth c ls F hx hb hr hlk hml hnm hw hown hsz hP hK hD hA hl => ?_)
  have hS : va_S F s.heap s.heap [] := va_S.rf
  have hown : s.vm.findClass RE = some m.cls := hown
  have hl : lv_has ls 2 [(0, .ref (A 0))] := hl
  refine lv_aload_n hx hb dE_clear_0 rfl (lv_at hl 0 rfl) ?_
  refine zGetE hx hb hw hown hK hP 0 rfl 2 (by decide) wf_E_43 rfl dE_clear_1 ?_
  refine lv_istore_n hx hb dE_clear_4 rfl hl (by decide) rfl (fun ls hl => ?_)
  have hl : lv_has ls 2 [(1, .int (nI n)), (0, .ref (A 0))] := hl
  refine lv_aload_n hx hb dE_clear_5 rfl (lv_at hl 1 rfl) ?_
  refine lv_iconst (v := nI 0) hx hb dE_clear_6 (by decide) ?_
  refine zPutE hx hb hw hown hK hP hD hS 0 rfl 2 (by decide) wf_E_43 rfl rfl rfl (Nat.le_of_ble_eq_true rfl) dE_clear_7 (fun H locs hP hD hS => ?_)
  replace hP : va_P D vwCl (eW A C 0 ops nums vc vals d st ce pk pv pr w key pl dn tk tr) H := hP
  replace hD : va_D F (eW A C 0 ops nums vc vals d st ce pk pv pr w key pl dn tk tr) := hD
  refine lv_iload_n hx hb dE_clear_10 rfl (lv_at hl 0 rfl) ?_
  exact zIret (w' := fun (_ : Unit) => (eW A C 0 ops nums vc vals d st ce pk pv pr w key pl dn tk tr)) () hx hb hr hlk hS hK rfl hP hD dE_clear_11

set_option maxRecDepth 20000 in
set_option maxHeartbeats 4000000 in
theorem c_empty (l : Launch) (D : va_G) (A : Nat → Nat) (C : Nat → ClassId) (sz : Nat) (n : Nat) (ops : Nat → Int32) (nums : Nat → Int64) (vc : Nat) (vals : Nat → Int64) (d : Nat) (st : Nat → Int64) (ce : Nat → Int64) (pk : Nat → Int64) (pv : Nat → Int64) (pr : Nat) (w : Nat) (key : Int64) (pl : Nat) (dn : Nat) (tk : Nat) (tr : Nat) : Met l yE_empty (.code yE_empty cE_empty 2 (some .int) :: WS) (rmk 0 0) (va_Pc [.ref (A 0)] (zP D (eT C) sz (eW A C n ops nums vc vals d st ce pk pv pr w key pl dn tk tr))) (va_Qi (fun (r : Int32) (_ : Unit) => r = nI vc) (fun (_ : Unit) t => zB D (eT C) (va_A (eW A C n ops nums vc vals d st ce pk pv pr w key pl dn tk tr) sz) (eW A C n ops nums 0 vals d st ce pk pv pr w key pl dn tk tr) t) (va_A (eW A C n ops nums vc vals d st ce pk pv pr w key pl dn tk tr) sz)) 0 0 (va_A (eW A C n ops nums vc vals d st ce pk pv pr w key pl dn tk tr) sz) := by
  refine zEnt (Qc := fun F => (va_Qi (fun (r : Int32) (_ : Unit) => r = nI vc) (fun (_ : Unit) t => zB D (eT C) F (eW A C n ops nums 0 vals d st ce pk pv pr w key pl dn tk tr) t) F)) (by decide) (Nat.le_of_ble_eq_true rfl) (fun p e s m below meth c ls F hx hb hr hlk hml hnm hw hown hsz hP hK hD hA hl => ?_)
  have hS : va_S F s.heap s.heap [] := va_S.rf
  have hown : s.vm.findClass RE = some m.cls := hown
  have hl : lv_has ls 2 [(0, .ref (A 0))] := hl
  refine lv_aload_n hx hb dE_empty_0 rfl (lv_at hl 0 rfl) ?_
  refine zGetE hx hb hw hown hK hP 0 rfl 4 (by decide) wf_E_52 rfl dE_empty_1 ?_
  refine lv_istore_n hx hb dE_empty_4 rfl hl (by decide) rfl (fun ls hl => ?_)
  have hl : lv_has ls 2 [(1, .int (nI vc)), (0, .ref (A 0))] := hl
  refine lv_aload_n hx hb dE_empty_5 rfl (lv_at hl 1 rfl) ?_
  refine lv_iconst (v := nI 0) hx hb dE_empty_6 (by decide) ?_
  refine zPutE hx hb hw hown hK hP hD hS 0 rfl 4 (by decide) wf_E_52 rfl rfl rfl (Nat.le_of_ble_eq_true rfl) dE_empty_7 (fun H locs hP hD hS => ?_)
  replace hP : va_P D vwCl (eW A C n ops nums 0 vals d st ce pk pv pr w key pl dn tk tr) H := hP
  replace hD : va_D F (eW A C n ops nums 0 vals d st ce pk pv pr w key pl dn tk tr) := hD
  refine lv_iload_n hx hb dE_empty_10 rfl (lv_at hl 0 rfl) ?_
  exact zIret (w' := fun (_ : Unit) => (eW A C n ops nums 0 vals d st ce pk pv pr w key pl dn tk tr)) () hx hb hr hlk hS hK rfl hP hD dE_empty_11

set_option maxRecDepth 20000 in
set_option maxHeartbeats 4000000 in
theorem c_value_ok (l : Launch) (D : va_G) (A : Nat → Nat) (C : Nat → ClassId) (sz : Nat) (n : Nat) (ops : Nat → Int32) (nums : Nat → Int64) (vc : Nat) (vals : Nat → Int64) (d : Nat) (st : Nat → Int64) (ce : Nat → Int64) (pk : Nat → Int64) (pv : Nat → Int64) (pr : Nat) (w : Nat) (key : Int64) (pl : Nat) (dn : Nat) (tk : Nat) (tr : Nat) (x : Int64) (hv : vc < 40) : Met l yE_value (.code yE_value cE_value 3 (some .int) :: WS) (rmk 0 0) (va_Pc [.ref (A 0), .long x] (zP D (eT C) sz (eW A C n ops nums vc vals d st ce pk pv pr w key pl dn tk tr))) (va_Qi (fun (r : Int32) (_ : Unit) => r = nI (vc + 1)) (fun (_ : Unit) t => zB D (eT C) (va_A (eW A C n ops nums vc vals d st ce pk pv pr w key pl dn tk tr) sz) (eW A C n ops nums (vc + 1) (vp_updL vals vc x) d st ce pk pv pr w key pl dn tk tr) t) (va_A (eW A C n ops nums vc vals d st ce pk pv pr w key pl dn tk tr) sz)) 0 0 (va_A (eW A C n ops nums vc vals d st ce pk pv pr w key pl dn tk tr) sz) := by
  refine zEnt (Qc := fun F => (va_Qi (fun (r : Int32) (_ : Unit) => r = nI (vc + 1)) (fun (_ : Unit) t => zB D (eT C) F (eW A C n ops nums (vc + 1) (vp_updL vals vc x) d st ce pk pv pr w key pl dn tk tr) t) F)) (by decide) (Nat.le_of_ble_eq_true rfl) (fun p e s m below meth c ls F hx hb hr hlk hml hnm hw hown hsz hP hK hD hA hl => ?_)
  have hS : va_S F s.heap s.heap [] := va_S.rf
  have hown : s.vm.findClass RE = some m.cls := hown
  have hl : lv_has ls 3 [(0, .ref (A 0)), (1, .long x)] := hl
  refine lv_aload_n hx hb dE_value_0 rfl (lv_at hl 0 rfl) ?_
  refine zGetE hx hb hw hown hK hP 0 rfl 4 (by decide) wf_E_52 rfl dE_value_1 ?_
  refine lv_bipush (v := nI 40) hx hb dE_value_4 (by decide) ?_
  refine zc_lt (tgt := 19) hx hb dE_value_6 rfl (by omega) (by omega) (fun _ => ?_) (fun q => absurd q (by omega))
  refine lv_aload_n hx hb dE_value_19 rfl (lv_at hl 0 rfl) ?_
  refine zGetE hx hb hw hown hK hP 0 rfl 3 (by decide) wf_E_17 rfl dE_value_20 ?_
  refine lv_aload_n hx hb dE_value_23 rfl (lv_at hl 0 rfl) ?_
  refine zGetE hx hb hw hown hK hP 0 rfl 4 (by decide) wf_E_52 rfl dE_value_24 ?_
  refine lv_lload_n hx hb dE_value_27 rfl (lv_at hl 1 rfl) ?_
  refine zLast hx hb hK hP hD hS 3 2 rfl rfl (by omega) (by decide) dE_value_28 (fun H locs hP hD hS => ?_)
  replace hP : va_P D vwCl (eW A C n ops nums vc (vp_updL vals vc x) d st ce pk pv pr w key pl dn tk tr) H := hP
  replace hD : va_D F (eW A C n ops nums vc (vp_updL vals vc x) d st ce pk pv pr w key pl dn tk tr) := hD
  refine lv_aload_n hx hb dE_value_29 rfl (lv_at hl 0 rfl) ?_
  refine lv_dup hx hb dE_value_30 rfl ?_
  refine zGetE hx hb hw hown hK hP 0 rfl 4 (by decide) wf_E_52 rfl dE_value_31 ?_
  refine lv_iconst (v := nI 1) hx hb dE_value_34 (by decide) ?_
  refine lv_iadd hx hb dE_value_35 ?_
  refine zti (nI_add _ _) ?_
  refine zPutE hx hb hw hown hK hP hD hS 0 rfl 4 (by decide) wf_E_52 rfl rfl rfl (Nat.le_of_ble_eq_true rfl) dE_value_36 (fun H locs hP hD hS => ?_)
  replace hP : va_P D vwCl (eW A C n ops nums (vc + 1) (vp_updL vals vc x) d st ce pk pv pr w key pl dn tk tr) H := hP
  replace hD : va_D F (eW A C n ops nums (vc + 1) (vp_updL vals vc x) d st ce pk pv pr w key pl dn tk tr) := hD
  refine lv_aload_n hx hb dE_value_39 rfl (lv_at hl 0 rfl) ?_
  refine zGetE hx hb hw hown hK hP 0 rfl 4 (by decide) wf_E_52 rfl dE_value_40 ?_
  exact zIret (w' := fun (_ : Unit) => (eW A C n ops nums (vc + 1) (vp_updL vals vc x) d st ce pk pv pr w key pl dn tk tr)) () hx hb hr hlk hS hK rfl hP hD dE_value_43

set_option maxRecDepth 20000 in
set_option maxHeartbeats 4000000 in
theorem c_value_ise (l : Launch) (hl9 : l.stackTraces = false) (D : va_G) (A : Nat → Nat) (C : Nat → ClassId) (sz : Nat) (n : Nat) (ops : Nat → Int32) (nums : Nat → Int64) (vc : Nat) (vals : Nat → Int64) (d : Nat) (st : Nat → Int64) (ce : Nat → Int64) (pk : Nat → Int64) (pv : Nat → Int64) (pr : Nat) (w : Nat) (key : Int64) (pl : Nat) (dn : Nat) (tk : Nat) (tr : Nat) (x : Int64) (hv : vc = 40) : vx_Met l yE_value (.code yE_value cE_value 3 (some .int) :: WS) (rmx 6 82) (va_Pc [.ref (A 0), .long x] (fun U => zP D (eT C) sz (eW A C n ops nums vc vals d st ce pk pv pr w key pl dn tk tr) U ∧ zX (va_A (eW A C n ops nums vc vals d st ce pk pv pr w key pl dn tk tr) sz) U)) (va_Qi (fun (_ : Int32) (_ : Unit) => False) (fun (_ : Unit) (_ : State) => True) (va_A (eW A C n ops nums vc vals d st ce pk pv pr w key pl dn tk tr) sz)) (vx_X (fun _ : Unit => True) (fun E (_ : Unit) t => E = "java/lang/IllegalStateException" ∧ zB D (eT C) (va_A (eW A C n ops nums vc vals d st ce pk pv pr w key pl dn tk tr) sz) (eW A C n ops nums vc vals d st ce pk pv pr w key pl dn tk tr) t) (va_A (eW A C n ops nums vc vals d st ce pk pv pr w key pl dn tk tr) sz)) 1 6 (va_A (eW A C n ops nums vc vals d st ce pk pv pr w key pl dn tk tr) sz) := by
  refine zEntX (Qc := fun F => (va_Qi (fun (_ : Int32) (_ : Unit) => False) (fun (_ : Unit) (_ : State) => True) F)) (XC := fun F => (vx_X (fun _ : Unit => True) (fun E (_ : Unit) t => E = "java/lang/IllegalStateException" ∧ zB D (eT C) F (eW A C n ops nums vc vals d st ce pk pv pr w key pl dn tk tr) t) F)) (by decide) (Nat.le_of_ble_eq_true rfl) (fun p e s m below meth c ls F hx hb hr hlk hml hout hw hown hsz hP hK hD hA hX hl => ?_)
  have hS : va_S F s.heap s.heap [] := va_S.rf
  have hown : s.vm.findClass RE = some m.cls := hown
  have hl : lv_has ls 3 [(0, .ref (A 0)), (1, .long x)] := hl
  refine lv_aload_n hx hb dE_value_0 rfl (lv_at hl 0 rfl) ?_
  refine zGetE hx hb hw hown hK hP 0 rfl 4 (by decide) wf_E_52 rfl dE_value_1 ?_
  refine lv_bipush (v := nI 40) hx hb dE_value_4 (by decide) ?_
  refine zc_lt (tgt := 19) hx hb dE_value_6 rfl (by omega) (by omega) (fun q => absurd q (by omega)) (fun _ => ?_)
  exact zThrow (w' := fun (_ : Unit) => (eW A C n ops nums vc vals d st ce pk pv pr w key pl dn tk tr)) () "java/lang/IllegalStateException" (is := 55) (text := "no room for a value") hl9 hx hb hlk hout hw hown hX hK hP hD hS (hl.1.trans hml.symm) (by decide +kernel) wk_E_47 wn_ISE wx_ISE_in wx_ISE_no wx_ISE_ot hX.1.2.1 (by decide) dE_value_9 dE_value_12 dE_value_13 dE_value_15 dE_value_18 (by decide) (by decide) (by decide) (by decide)
set_option maxRecDepth 20000 in
set_option maxHeartbeats 4000000 in
theorem c_cell_ok (l : Launch) (D : va_G) (A : Nat → Nat) (C : Nat → ClassId) (sz : Nat) (n : Nat) (ops : Nat → Int32) (nums : Nat → Int64) (vc : Nat) (vals : Nat → Int64) (d : Nat) (st : Nat → Int64) (ce : Nat → Int64) (pk : Nat → Int64) (pv : Nat → Int64) (pr : Nat) (w : Nat) (key : Int64) (pl : Nat) (dn : Nat) (tk : Nat) (tr : Nat) (j : Nat) (hj : j < 4) : Met l yE_cell (.code yE_cell cE_cell 2 (some .long) :: WS) (rmk 0 0) (va_Pc [.ref (A 0), .int (nI j)] (zP D (eT C) sz (eW A C n ops nums vc vals d st ce pk pv pr w key pl dn tk tr))) (va_Ql (fun (r : Int64) (_ : Unit) => r = ce j) (fun (_ : Unit) t => zB D (eT C) (va_A (eW A C n ops nums vc vals d st ce pk pv pr w key pl dn tk tr) sz) (eW A C n ops nums vc vals d st ce pk pv pr w key pl dn tk tr) t) (va_A (eW A C n ops nums vc vals d st ce pk pv pr w key pl dn tk tr) sz)) 0 0 (va_A (eW A C n ops nums vc vals d st ce pk pv pr w key pl dn tk tr) sz) := by
  refine zEnt (Qc := fun F => (va_Ql (fun (r : Int64) (_ : Unit) => r = ce j) (fun (_ : Unit) t => zB D (eT C) F (eW A C n ops nums vc vals d st ce pk pv pr w key pl dn tk tr) t) F)) (by decide) (Nat.le_of_ble_eq_true rfl) (fun p e s m below meth c ls F hx hb hr hlk hml hnm hw hown hsz hP hK hD hA hl => ?_)
  have hS : va_S F s.heap s.heap [] := va_S.rf
  have hown : s.vm.findClass RE = some m.cls := hown
  have hl : lv_has ls 2 [(0, .ref (A 0)), (1, .int (nI j))] := hl
  refine lv_iload_n hx hb dE_cell_0 rfl (lv_at hl 1 rfl) ?_
  refine zi_lt (tgt := 9) hx hb dE_cell_1 rfl (by omega) (fun q => absurd q (by omega)) (fun _ => ?_)
  refine lv_iload_n hx hb dE_cell_4 rfl (lv_at hl 1 rfl) ?_
  refine lv_iconst (v := nI 4) hx hb dE_cell_5 (by decide) ?_
  refine zc_lt (tgt := 19) hx hb dE_cell_6 rfl (by omega) (by omega) (fun _ => ?_) (fun q => absurd q (by omega))
  refine lv_aload_n hx hb dE_cell_19 rfl (lv_at hl 0 rfl) ?_
  refine zGetE hx hb hw hown hK hP 0 rfl 7 (by decide) wf_E_23 rfl dE_cell_20 ?_
  refine lv_iload_n hx hb dE_cell_23 rfl (lv_at hl 1 rfl) ?_
  refine zLald hx hb hK hP 5 4 rfl rfl (by omega) (by decide) dE_cell_24 ?_
  exact zLret (w' := fun (_ : Unit) => (eW A C n ops nums vc vals d st ce pk pv pr w key pl dn tk tr)) () hx hb hr hlk hS hK rfl hP hD dE_cell_25

set_option maxRecDepth 20000 in
set_option maxHeartbeats 4000000 in
theorem c_cell_bad (l : Launch) (hl9 : l.stackTraces = false) (D : va_G) (A : Nat → Nat) (C : Nat → ClassId) (sz : Nat) (n : Nat) (ops : Nat → Int32) (nums : Nat → Int64) (vc : Nat) (vals : Nat → Int64) (d : Nat) (st : Nat → Int64) (ce : Nat → Int64) (pk : Nat → Int64) (pv : Nat → Int64) (pr : Nat) (w : Nat) (key : Int64) (pl : Nat) (dn : Nat) (tk : Nat) (tr : Nat) (o : Int32) (hbad : o < 0 ∨ nI 4 ≤ o) : vx_Met l yE_cell (.code yE_cell cE_cell 2 (some .long) :: WS) (rmx 6 82) (va_Pc [.ref (A 0), .int o] (fun U => zP D (eT C) sz (eW A C n ops nums vc vals d st ce pk pv pr w key pl dn tk tr) U ∧ zX (va_A (eW A C n ops nums vc vals d st ce pk pv pr w key pl dn tk tr) sz) U)) (va_Ql (fun (_ : Int64) (_ : Unit) => False) (fun (_ : Unit) (_ : State) => True) (va_A (eW A C n ops nums vc vals d st ce pk pv pr w key pl dn tk tr) sz)) (vx_X (fun _ : Unit => True) (fun E (_ : Unit) t => E = "java/lang/IndexOutOfBoundsException" ∧ zB D (eT C) (va_A (eW A C n ops nums vc vals d st ce pk pv pr w key pl dn tk tr) sz) (eW A C n ops nums vc vals d st ce pk pv pr w key pl dn tk tr) t) (va_A (eW A C n ops nums vc vals d st ce pk pv pr w key pl dn tk tr) sz)) 1 6 (va_A (eW A C n ops nums vc vals d st ce pk pv pr w key pl dn tk tr) sz) := by
  refine zEntX (Qc := fun F => (va_Ql (fun (_ : Int64) (_ : Unit) => False) (fun (_ : Unit) (_ : State) => True) F)) (XC := fun F => (vx_X (fun _ : Unit => True) (fun E (_ : Unit) t => E = "java/lang/IndexOutOfBoundsException" ∧ zB D (eT C) F (eW A C n ops nums vc vals d st ce pk pv pr w key pl dn tk tr) t) F)) (by decide) (Nat.le_of_ble_eq_true rfl) (fun p e s m below meth c ls F hx hb hr hlk hml hout hw hown hsz hP hK hD hA hX hl => ?_)
  have hS : va_S F s.heap s.heap [] := va_S.rf
  have hown : s.vm.findClass RE = some m.cls := hown
  have hl : lv_has ls 2 [(0, .ref (A 0)), (1, .int o)] := hl
  refine lv_iload_n hx hb dE_cell_0 rfl (lv_at hl 1 rfl) ?_
  refine lv_if_lt (tgt := 9) hx hb dE_cell_1 rfl (fun h1 => ?_) (fun h1 => ?_)
  · exact zThrow (w' := fun (_ : Unit) => (eW A C n ops nums vc vals d st ce pk pv pr w key pl dn tk tr)) () "java/lang/IndexOutOfBoundsException" (is := 100) (text := "no such cell") hl9 hx hb hlk hout hw hown hX hK hP hD hS (hl.1.trans hml.symm) (by decide +kernel) wk_E_84 wn_IOOBE wx_IOOBE_in wx_IOOBE_no wx_IOOBE_ot hX.1.2.2.2.1 (by decide) dE_cell_9 dE_cell_12 dE_cell_13 dE_cell_15 dE_cell_18 (by decide) (by decide) (by decide) (by decide)
  · refine lv_iload_n hx hb dE_cell_4 rfl (lv_at hl 1 rfl) ?_
    refine lv_iconst (v := nI 4) hx hb dE_cell_5 (by decide) ?_
    refine lv_icmp_lt (tgt := 19) hx hb dE_cell_6 rfl (fun q => absurd q (by exact hbad.elim (fun z => absurd z h1) (fun z => Int32.not_lt.mpr z))) (fun _ => ?_)
    exact zThrow (w' := fun (_ : Unit) => (eW A C n ops nums vc vals d st ce pk pv pr w key pl dn tk tr)) () "java/lang/IndexOutOfBoundsException" (is := 100) (text := "no such cell") hl9 hx hb hlk hout hw hown hX hK hP hD hS (hl.1.trans hml.symm) (by decide +kernel) wk_E_84 wn_IOOBE wx_IOOBE_in wx_IOOBE_no wx_IOOBE_ot hX.1.2.2.2.1 (by decide) dE_cell_9 dE_cell_12 dE_cell_13 dE_cell_15 dE_cell_18 (by decide) (by decide) (by decide) (by decide)
set_option maxRecDepth 20000 in
set_option maxHeartbeats 4000000 in
theorem c_emitted_val (l : Launch) (D : va_G) (A : Nat → Nat) (C : Nat → ClassId) (sz : Nat) (n : Nat) (ops : Nat → Int32) (nums : Nat → Int64) (vc : Nat) (vals : Nat → Int64) (d : Nat) (st : Nat → Int64) (ce : Nat → Int64) (pk : Nat → Int64) (pv : Nat → Int64) (pr : Nat) (w : Nat) (key : Int64) (pl : Nat) (dn : Nat) (tk : Nat) (tr : Nat) (j : Nat) (hj : j < pr) (hp : pr ≤ 4) : Met l yE_emitted (.code yE_emitted cE_emitted 3 (some .long) :: WS) (rmk 0 0) (va_Pc [.ref (A 0), .int (nI j), .int (nI 1)] (zP D (eT C) sz (eW A C n ops nums vc vals d st ce pk pv pr w key pl dn tk tr))) (va_Ql (fun (r : Int64) (_ : Unit) => r = pv j) (fun (_ : Unit) t => zB D (eT C) (va_A (eW A C n ops nums vc vals d st ce pk pv pr w key pl dn tk tr) sz) (eW A C n ops nums vc vals d st ce pk pv pr w key pl dn tk tr) t) (va_A (eW A C n ops nums vc vals d st ce pk pv pr w key pl dn tk tr) sz)) 0 0 (va_A (eW A C n ops nums vc vals d st ce pk pv pr w key pl dn tk tr) sz) := by
  refine zEnt (Qc := fun F => (va_Ql (fun (r : Int64) (_ : Unit) => r = pv j) (fun (_ : Unit) t => zB D (eT C) F (eW A C n ops nums vc vals d st ce pk pv pr w key pl dn tk tr) t) F)) (by decide) (Nat.le_of_ble_eq_true rfl) (fun p e s m below meth c ls F hx hb hr hlk hml hnm hw hown hsz hP hK hD hA hl => ?_)
  have hS : va_S F s.heap s.heap [] := va_S.rf
  have hown : s.vm.findClass RE = some m.cls := hown
  have hl : lv_has ls 3 [(0, .ref (A 0)), (1, .int (nI j)), (2, .int (nI 1))] := hl
  refine lv_iload_n hx hb dE_emitted_0 rfl (lv_at hl 1 rfl) ?_
  refine zi_lt (tgt := 12) hx hb dE_emitted_1 rfl (by omega) (fun q => absurd q (by omega)) (fun _ => ?_)
  refine lv_iload_n hx hb dE_emitted_4 rfl (lv_at hl 1 rfl) ?_
  refine lv_aload_n hx hb dE_emitted_5 rfl (lv_at hl 0 rfl) ?_
  refine zGetE hx hb hw hown hK hP 0 rfl 10 (by decide) wf_E_81 rfl dE_emitted_6 ?_
  refine zc_lt (tgt := 22) hx hb dE_emitted_9 rfl (by omega) (by omega) (fun _ => ?_) (fun q => absurd q (by omega))
  refine lv_iload_n hx hb dE_emitted_22 rfl (lv_at hl 2 rfl) ?_
  refine zi_eq (tgt := 35) hx hb dE_emitted_23 rfl (by omega) (fun q => absurd q (by omega)) (fun _ => ?_)
  refine lv_aload_n hx hb dE_emitted_26 rfl (lv_at hl 0 rfl) ?_
  refine zGetE hx hb hw hown hK hP 0 rfl 9 (by decide) wf_E_29 rfl dE_emitted_27 ?_
  refine lv_iload_n hx hb dE_emitted_30 rfl (lv_at hl 1 rfl) ?_
  refine zLald hx hb hK hP 7 6 rfl rfl (by omega) (by decide) dE_emitted_31 ?_
  refine lv_goto (tgt := 41) hx hb dE_emitted_32 rfl ?_
  exact zLret (w' := fun (_ : Unit) => (eW A C n ops nums vc vals d st ce pk pv pr w key pl dn tk tr)) () hx hb hr hlk hS hK rfl hP hD dE_emitted_41

set_option maxRecDepth 20000 in
set_option maxHeartbeats 4000000 in
theorem c_emitted_key (l : Launch) (D : va_G) (A : Nat → Nat) (C : Nat → ClassId) (sz : Nat) (n : Nat) (ops : Nat → Int32) (nums : Nat → Int64) (vc : Nat) (vals : Nat → Int64) (d : Nat) (st : Nat → Int64) (ce : Nat → Int64) (pk : Nat → Int64) (pv : Nat → Int64) (pr : Nat) (w : Nat) (key : Int64) (pl : Nat) (dn : Nat) (tk : Nat) (tr : Nat) (j : Nat) (hj : j < pr) (hp : pr ≤ 4) : Met l yE_emitted (.code yE_emitted cE_emitted 3 (some .long) :: WS) (rmk 0 0) (va_Pc [.ref (A 0), .int (nI j), .int (nI 0)] (zP D (eT C) sz (eW A C n ops nums vc vals d st ce pk pv pr w key pl dn tk tr))) (va_Ql (fun (r : Int64) (_ : Unit) => r = pk j) (fun (_ : Unit) t => zB D (eT C) (va_A (eW A C n ops nums vc vals d st ce pk pv pr w key pl dn tk tr) sz) (eW A C n ops nums vc vals d st ce pk pv pr w key pl dn tk tr) t) (va_A (eW A C n ops nums vc vals d st ce pk pv pr w key pl dn tk tr) sz)) 0 0 (va_A (eW A C n ops nums vc vals d st ce pk pv pr w key pl dn tk tr) sz) := by
  refine zEnt (Qc := fun F => (va_Ql (fun (r : Int64) (_ : Unit) => r = pk j) (fun (_ : Unit) t => zB D (eT C) F (eW A C n ops nums vc vals d st ce pk pv pr w key pl dn tk tr) t) F)) (by decide) (Nat.le_of_ble_eq_true rfl) (fun p e s m below meth c ls F hx hb hr hlk hml hnm hw hown hsz hP hK hD hA hl => ?_)
  have hS : va_S F s.heap s.heap [] := va_S.rf
  have hown : s.vm.findClass RE = some m.cls := hown
  have hl : lv_has ls 3 [(0, .ref (A 0)), (1, .int (nI j)), (2, .int (nI 0))] := hl
  refine lv_iload_n hx hb dE_emitted_0 rfl (lv_at hl 1 rfl) ?_
  refine zi_lt (tgt := 12) hx hb dE_emitted_1 rfl (by omega) (fun q => absurd q (by omega)) (fun _ => ?_)
  refine lv_iload_n hx hb dE_emitted_4 rfl (lv_at hl 1 rfl) ?_
  refine lv_aload_n hx hb dE_emitted_5 rfl (lv_at hl 0 rfl) ?_
  refine zGetE hx hb hw hown hK hP 0 rfl 10 (by decide) wf_E_81 rfl dE_emitted_6 ?_
  refine zc_lt (tgt := 22) hx hb dE_emitted_9 rfl (by omega) (by omega) (fun _ => ?_) (fun q => absurd q (by omega))
  refine lv_iload_n hx hb dE_emitted_22 rfl (lv_at hl 2 rfl) ?_
  refine zi_eq (tgt := 35) hx hb dE_emitted_23 rfl (by omega) (fun _ => ?_) (fun q => absurd q (by omega))
  refine lv_aload_n hx hb dE_emitted_35 rfl (lv_at hl 0 rfl) ?_
  refine zGetE hx hb hw hown hK hP 0 rfl 8 (by decide) wf_E_26 rfl dE_emitted_36 ?_
  refine lv_iload_n hx hb dE_emitted_39 rfl (lv_at hl 1 rfl) ?_
  refine zLald hx hb hK hP 6 5 rfl rfl (by omega) (by decide) dE_emitted_40 ?_
  exact zLret (w' := fun (_ : Unit) => (eW A C n ops nums vc vals d st ce pk pv pr w key pl dn tk tr)) () hx hb hr hlk hS hK rfl hP hD dE_emitted_41

set_option maxRecDepth 20000 in
set_option maxHeartbeats 4000000 in
theorem c_emitted_bad (l : Launch) (hl9 : l.stackTraces = false) (D : va_G) (A : Nat → Nat) (C : Nat → ClassId) (sz : Nat) (n : Nat) (ops : Nat → Int32) (nums : Nat → Int64) (vc : Nat) (vals : Nat → Int64) (d : Nat) (st : Nat → Int64) (ce : Nat → Int64) (pk : Nat → Int64) (pv : Nat → Int64) (pr : Nat) (w : Nat) (key : Int64) (pl : Nat) (dn : Nat) (tk : Nat) (tr : Nat) (o : Int32) (o2 : Int32) (hbad : o < 0 ∨ nI pr ≤ o) : vx_Met l yE_emitted (.code yE_emitted cE_emitted 3 (some .long) :: WS) (rmx 6 82) (va_Pc [.ref (A 0), .int o, .int o2] (fun U => zP D (eT C) sz (eW A C n ops nums vc vals d st ce pk pv pr w key pl dn tk tr) U ∧ zX (va_A (eW A C n ops nums vc vals d st ce pk pv pr w key pl dn tk tr) sz) U)) (va_Ql (fun (_ : Int64) (_ : Unit) => False) (fun (_ : Unit) (_ : State) => True) (va_A (eW A C n ops nums vc vals d st ce pk pv pr w key pl dn tk tr) sz)) (vx_X (fun _ : Unit => True) (fun E (_ : Unit) t => E = "java/lang/IndexOutOfBoundsException" ∧ zB D (eT C) (va_A (eW A C n ops nums vc vals d st ce pk pv pr w key pl dn tk tr) sz) (eW A C n ops nums vc vals d st ce pk pv pr w key pl dn tk tr) t) (va_A (eW A C n ops nums vc vals d st ce pk pv pr w key pl dn tk tr) sz)) 1 6 (va_A (eW A C n ops nums vc vals d st ce pk pv pr w key pl dn tk tr) sz) := by
  refine zEntX (Qc := fun F => (va_Ql (fun (_ : Int64) (_ : Unit) => False) (fun (_ : Unit) (_ : State) => True) F)) (XC := fun F => (vx_X (fun _ : Unit => True) (fun E (_ : Unit) t => E = "java/lang/IndexOutOfBoundsException" ∧ zB D (eT C) F (eW A C n ops nums vc vals d st ce pk pv pr w key pl dn tk tr) t) F)) (by decide) (Nat.le_of_ble_eq_true rfl) (fun p e s m below meth c ls F hx hb hr hlk hml hout hw hown hsz hP hK hD hA hX hl => ?_)
  have hS : va_S F s.heap s.heap [] := va_S.rf
  have hown : s.vm.findClass RE = some m.cls := hown
  have hl : lv_has ls 3 [(0, .ref (A 0)), (1, .int o), (2, .int o2)] := hl
  refine lv_iload_n hx hb dE_emitted_0 rfl (lv_at hl 1 rfl) ?_
  refine lv_if_lt (tgt := 12) hx hb dE_emitted_1 rfl (fun h1 => ?_) (fun h1 => ?_)
  · exact zThrow (w' := fun (_ : Unit) => (eW A C n ops nums vc vals d st ce pk pv pr w key pl dn tk tr)) () "java/lang/IndexOutOfBoundsException" (is := 86) (text := "no such pair") hl9 hx hb hlk hout hw hown hX hK hP hD hS (hl.1.trans hml.symm) (by decide +kernel) wk_E_84 wn_IOOBE wx_IOOBE_in wx_IOOBE_no wx_IOOBE_ot hX.1.2.2.2.1 (by decide) dE_emitted_12 dE_emitted_15 dE_emitted_16 dE_emitted_18 dE_emitted_21 (by decide) (by decide) (by decide) (by decide)
  · refine lv_iload_n hx hb dE_emitted_4 rfl (lv_at hl 1 rfl) ?_
    refine lv_aload_n hx hb dE_emitted_5 rfl (lv_at hl 0 rfl) ?_
    refine zGetE hx hb hw hown hK hP 0 rfl 10 (by decide) wf_E_81 rfl dE_emitted_6 ?_
    refine lv_icmp_lt (tgt := 22) hx hb dE_emitted_9 rfl (fun q => absurd q (by exact hbad.elim (fun z => absurd z h1) (fun z => Int32.not_lt.mpr z))) (fun _ => ?_)
    exact zThrow (w' := fun (_ : Unit) => (eW A C n ops nums vc vals d st ce pk pv pr w key pl dn tk tr)) () "java/lang/IndexOutOfBoundsException" (is := 86) (text := "no such pair") hl9 hx hb hlk hout hw hown hX hK hP hD hS (hl.1.trans hml.symm) (by decide +kernel) wk_E_84 wn_IOOBE wx_IOOBE_in wx_IOOBE_no wx_IOOBE_ot hX.1.2.2.2.1 (by decide) dE_emitted_12 dE_emitted_15 dE_emitted_16 dE_emitted_18 dE_emitted_21 (by decide) (by decide) (by decide) (by decide)
set_option maxRecDepth 20000 in
set_option maxHeartbeats 4000000 in
theorem c_told0 (l : Launch) (D : va_G) (A : Nat → Nat) (C : Nat → ClassId) (sz : Nat) (n : Nat) (ops : Nat → Int32) (nums : Nat → Int64) (vc : Nat) (vals : Nat → Int64) (d : Nat) (st : Nat → Int64) (ce : Nat → Int64) (pk : Nat → Int64) (pv : Nat → Int64) (pr : Nat) (w : Nat) (key : Int64) (pl : Nat) (dn : Nat) (tk : Nat) (tr : Nat) : Met l yE_told (.code yE_told cE_told 2 (some .int) :: WS) (rmk 0 0) (va_Pc [.ref (A 0), .int (nI 0)] (zP D (eT C) sz (eW A C n ops nums vc vals d st ce pk pv pr w key pl dn tk tr))) (va_Qi (fun (r : Int32) (_ : Unit) => r = nI dn) (fun (_ : Unit) t => zB D (eT C) (va_A (eW A C n ops nums vc vals d st ce pk pv pr w key pl dn tk tr) sz) (eW A C n ops nums vc vals d st ce pk pv pr w key pl dn tk tr) t) (va_A (eW A C n ops nums vc vals d st ce pk pv pr w key pl dn tk tr) sz)) 0 0 (va_A (eW A C n ops nums vc vals d st ce pk pv pr w key pl dn tk tr) sz) := by
  refine zEnt (Qc := fun F => (va_Qi (fun (r : Int32) (_ : Unit) => r = nI dn) (fun (_ : Unit) t => zB D (eT C) F (eW A C n ops nums vc vals d st ce pk pv pr w key pl dn tk tr) t) F)) (by decide) (Nat.le_of_ble_eq_true rfl) (fun p e s m below meth c ls F hx hb hr hlk hml hnm hw hown hsz hP hK hD hA hl => ?_)
  have hS : va_S F s.heap s.heap [] := va_S.rf
  have hown : s.vm.findClass RE = some m.cls := hown
  have hl : lv_has ls 2 [(0, .ref (A 0)), (1, .int (nI 0))] := hl
  refine lv_iload_n hx hb dE_told_0 rfl (lv_at hl 1 rfl) ?_
  refine lv_tableIn (off := 35) (tgt := 36) hx hb dE_told_1 (by decide) (by decide) (by decide) rfl ?_
  refine lv_aload_n hx hb dE_told_36 rfl (lv_at hl 0 rfl) ?_
  refine zGetE hx hb hw hown hK hP 0 rfl 14 (by decide) wf_E_89 rfl dE_told_37 ?_
  exact zIret (w' := fun (_ : Unit) => (eW A C n ops nums vc vals d st ce pk pv pr w key pl dn tk tr)) () hx hb hr hlk hS hK rfl hP hD dE_told_40

set_option maxRecDepth 20000 in
set_option maxHeartbeats 4000000 in
theorem c_told1 (l : Launch) (D : va_G) (A : Nat → Nat) (C : Nat → ClassId) (sz : Nat) (n : Nat) (ops : Nat → Int32) (nums : Nat → Int64) (vc : Nat) (vals : Nat → Int64) (d : Nat) (st : Nat → Int64) (ce : Nat → Int64) (pk : Nat → Int64) (pv : Nat → Int64) (pr : Nat) (w : Nat) (key : Int64) (pl : Nat) (dn : Nat) (tk : Nat) (tr : Nat) : Met l yE_told (.code yE_told cE_told 2 (some .int) :: WS) (rmk 0 0) (va_Pc [.ref (A 0), .int (nI 1)] (zP D (eT C) sz (eW A C n ops nums vc vals d st ce pk pv pr w key pl dn tk tr))) (va_Qi (fun (r : Int32) (_ : Unit) => r = nI d) (fun (_ : Unit) t => zB D (eT C) (va_A (eW A C n ops nums vc vals d st ce pk pv pr w key pl dn tk tr) sz) (eW A C n ops nums vc vals d st ce pk pv pr w key pl dn tk tr) t) (va_A (eW A C n ops nums vc vals d st ce pk pv pr w key pl dn tk tr) sz)) 0 0 (va_A (eW A C n ops nums vc vals d st ce pk pv pr w key pl dn tk tr) sz) := by
  refine zEnt (Qc := fun F => (va_Qi (fun (r : Int32) (_ : Unit) => r = nI d) (fun (_ : Unit) t => zB D (eT C) F (eW A C n ops nums vc vals d st ce pk pv pr w key pl dn tk tr) t) F)) (by decide) (Nat.le_of_ble_eq_true rfl) (fun p e s m below meth c ls F hx hb hr hlk hml hnm hw hown hsz hP hK hD hA hl => ?_)
  have hS : va_S F s.heap s.heap [] := va_S.rf
  have hown : s.vm.findClass RE = some m.cls := hown
  have hl : lv_has ls 2 [(0, .ref (A 0)), (1, .int (nI 1))] := hl
  refine lv_iload_n hx hb dE_told_0 rfl (lv_at hl 1 rfl) ?_
  refine lv_tableIn (off := 40) (tgt := 41) hx hb dE_told_1 (by decide) (by decide) (by decide) rfl ?_
  refine lv_aload_n hx hb dE_told_41 rfl (lv_at hl 0 rfl) ?_
  refine zGetE hx hb hw hown hK hP 0 rfl 6 (by decide) wf_E_92 rfl dE_told_42 ?_
  exact zIret (w' := fun (_ : Unit) => (eW A C n ops nums vc vals d st ce pk pv pr w key pl dn tk tr)) () hx hb hr hlk hS hK rfl hP hD dE_told_45

set_option maxRecDepth 20000 in
set_option maxHeartbeats 4000000 in
theorem c_told2 (l : Launch) (D : va_G) (A : Nat → Nat) (C : Nat → ClassId) (sz : Nat) (n : Nat) (ops : Nat → Int32) (nums : Nat → Int64) (vc : Nat) (vals : Nat → Int64) (d : Nat) (st : Nat → Int64) (ce : Nat → Int64) (pk : Nat → Int64) (pv : Nat → Int64) (pr : Nat) (w : Nat) (key : Int64) (pl : Nat) (dn : Nat) (tk : Nat) (tr : Nat) : Met l yE_told (.code yE_told cE_told 2 (some .int) :: WS) (rmk 0 0) (va_Pc [.ref (A 0), .int (nI 2)] (zP D (eT C) sz (eW A C n ops nums vc vals d st ce pk pv pr w key pl dn tk tr))) (va_Qi (fun (r : Int32) (_ : Unit) => r = nI pr) (fun (_ : Unit) t => zB D (eT C) (va_A (eW A C n ops nums vc vals d st ce pk pv pr w key pl dn tk tr) sz) (eW A C n ops nums vc vals d st ce pk pv pr w key pl dn tk tr) t) (va_A (eW A C n ops nums vc vals d st ce pk pv pr w key pl dn tk tr) sz)) 0 0 (va_A (eW A C n ops nums vc vals d st ce pk pv pr w key pl dn tk tr) sz) := by
  refine zEnt (Qc := fun F => (va_Qi (fun (r : Int32) (_ : Unit) => r = nI pr) (fun (_ : Unit) t => zB D (eT C) F (eW A C n ops nums vc vals d st ce pk pv pr w key pl dn tk tr) t) F)) (by decide) (Nat.le_of_ble_eq_true rfl) (fun p e s m below meth c ls F hx hb hr hlk hml hnm hw hown hsz hP hK hD hA hl => ?_)
  have hS : va_S F s.heap s.heap [] := va_S.rf
  have hown : s.vm.findClass RE = some m.cls := hown
  have hl : lv_has ls 2 [(0, .ref (A 0)), (1, .int (nI 2))] := hl
  refine lv_iload_n hx hb dE_told_0 rfl (lv_at hl 1 rfl) ?_
  refine lv_tableIn (off := 45) (tgt := 46) hx hb dE_told_1 (by decide) (by decide) (by decide) rfl ?_
  refine lv_aload_n hx hb dE_told_46 rfl (lv_at hl 0 rfl) ?_
  refine zGetE hx hb hw hown hK hP 0 rfl 10 (by decide) wf_E_81 rfl dE_told_47 ?_
  exact zIret (w' := fun (_ : Unit) => (eW A C n ops nums vc vals d st ce pk pv pr w key pl dn tk tr)) () hx hb hr hlk hS hK rfl hP hD dE_told_50

set_option maxRecDepth 20000 in
set_option maxHeartbeats 4000000 in
theorem c_told3 (l : Launch) (D : va_G) (A : Nat → Nat) (C : Nat → ClassId) (sz : Nat) (n : Nat) (ops : Nat → Int32) (nums : Nat → Int64) (vc : Nat) (vals : Nat → Int64) (d : Nat) (st : Nat → Int64) (ce : Nat → Int64) (pk : Nat → Int64) (pv : Nat → Int64) (pr : Nat) (w : Nat) (key : Int64) (pl : Nat) (dn : Nat) (tk : Nat) (tr : Nat) : Met l yE_told (.code yE_told cE_told 2 (some .int) :: WS) (rmk 0 0) (va_Pc [.ref (A 0), .int (nI 3)] (zP D (eT C) sz (eW A C n ops nums vc vals d st ce pk pv pr w key pl dn tk tr))) (va_Qi (fun (r : Int32) (_ : Unit) => r = nI tk) (fun (_ : Unit) t => zB D (eT C) (va_A (eW A C n ops nums vc vals d st ce pk pv pr w key pl dn tk tr) sz) (eW A C n ops nums vc vals d st ce pk pv pr w key pl dn tk tr) t) (va_A (eW A C n ops nums vc vals d st ce pk pv pr w key pl dn tk tr) sz)) 0 0 (va_A (eW A C n ops nums vc vals d st ce pk pv pr w key pl dn tk tr) sz) := by
  refine zEnt (Qc := fun F => (va_Qi (fun (r : Int32) (_ : Unit) => r = nI tk) (fun (_ : Unit) t => zB D (eT C) F (eW A C n ops nums vc vals d st ce pk pv pr w key pl dn tk tr) t) F)) (by decide) (Nat.le_of_ble_eq_true rfl) (fun p e s m below meth c ls F hx hb hr hlk hml hnm hw hown hsz hP hK hD hA hl => ?_)
  have hS : va_S F s.heap s.heap [] := va_S.rf
  have hown : s.vm.findClass RE = some m.cls := hown
  have hl : lv_has ls 2 [(0, .ref (A 0)), (1, .int (nI 3))] := hl
  refine lv_iload_n hx hb dE_told_0 rfl (lv_at hl 1 rfl) ?_
  refine lv_tableIn (off := 50) (tgt := 51) hx hb dE_told_1 (by decide) (by decide) (by decide) rfl ?_
  refine lv_aload_n hx hb dE_told_51 rfl (lv_at hl 0 rfl) ?_
  refine zGetE hx hb hw hown hK hP 0 rfl 15 (by decide) wf_E_95 rfl dE_told_52 ?_
  exact zIret (w' := fun (_ : Unit) => (eW A C n ops nums vc vals d st ce pk pv pr w key pl dn tk tr)) () hx hb hr hlk hS hK rfl hP hD dE_told_55

set_option maxRecDepth 20000 in
set_option maxHeartbeats 4000000 in
theorem c_told4 (l : Launch) (D : va_G) (A : Nat → Nat) (C : Nat → ClassId) (sz : Nat) (n : Nat) (ops : Nat → Int32) (nums : Nat → Int64) (vc : Nat) (vals : Nat → Int64) (d : Nat) (st : Nat → Int64) (ce : Nat → Int64) (pk : Nat → Int64) (pv : Nat → Int64) (pr : Nat) (w : Nat) (key : Int64) (pl : Nat) (dn : Nat) (tk : Nat) (tr : Nat) (ht : tr ≤ 1) : Met l yE_told (.code yE_told cE_told 2 (some .int) :: WS) (rmk 0 0) (va_Pc [.ref (A 0), .int (nI 4)] (zP D (eT C) sz (eW A C n ops nums vc vals d st ce pk pv pr w key pl dn tk tr))) (va_Qi (fun (r : Int32) (_ : Unit) => r = nI tr) (fun (_ : Unit) t => zB D (eT C) (va_A (eW A C n ops nums vc vals d st ce pk pv pr w key pl dn tk tr) sz) (eW A C n ops nums vc vals d st ce pk pv pr w key pl dn tk tr) t) (va_A (eW A C n ops nums vc vals d st ce pk pv pr w key pl dn tk tr) sz)) 0 0 (va_A (eW A C n ops nums vc vals d st ce pk pv pr w key pl dn tk tr) sz) := by
  refine zEnt (Qc := fun F => (va_Qi (fun (r : Int32) (_ : Unit) => r = nI tr) (fun (_ : Unit) t => zB D (eT C) F (eW A C n ops nums vc vals d st ce pk pv pr w key pl dn tk tr) t) F)) (by decide) (Nat.le_of_ble_eq_true rfl) (fun p e s m below meth c ls F hx hb hr hlk hml hnm hw hown hsz hP hK hD hA hl => ?_)
  have hS : va_S F s.heap s.heap [] := va_S.rf
  have hown : s.vm.findClass RE = some m.cls := hown
  have hl : lv_has ls 2 [(0, .ref (A 0)), (1, .int (nI 4))] := hl
  refine lv_iload_n hx hb dE_told_0 rfl (lv_at hl 1 rfl) ?_
  refine lv_tableIn (off := 55) (tgt := 56) hx hb dE_told_1 (by decide) (by decide) (by decide) rfl ?_
  refine lv_aload_n hx hb dE_told_56 rfl (lv_at hl 0 rfl) ?_
  refine zGetE hx hb hw hown hK hP 0 rfl 16 (by decide) wf_E_72 rfl dE_told_57 ?_
  refine zi_eq (tgt := 67) hx hb dE_told_60 rfl (by omega) (fun h60 => ?_) (fun h60 => ?_)
  · refine lv_iconst (v := nI 0) hx hb dE_told_67 (by decide) ?_
    exact zIret (w' := fun (_ : Unit) => (eW A C n ops nums vc vals d st ce pk pv pr w key pl dn tk tr)) () hx hb hr hlk hS hK (congrArg nI (by omega)) hP hD dE_told_68
  · refine lv_iconst (v := nI 1) hx hb dE_told_63 (by decide) ?_
    refine lv_goto (tgt := 68) hx hb dE_told_64 rfl ?_
    exact zIret (w' := fun (_ : Unit) => (eW A C n ops nums vc vals d st ce pk pv pr w key pl dn tk tr)) () hx hb hr hlk hS hK (congrArg nI (by omega)) hP hD dE_told_68

set_option maxRecDepth 20000 in
set_option maxHeartbeats 4000000 in
theorem c_told_bad (l : Launch) (hl9 : l.stackTraces = false) (D : va_G) (A : Nat → Nat) (C : Nat → ClassId) (sz : Nat) (n : Nat) (ops : Nat → Int32) (nums : Nat → Int64) (vc : Nat) (vals : Nat → Int64) (d : Nat) (st : Nat → Int64) (ce : Nat → Int64) (pk : Nat → Int64) (pv : Nat → Int64) (pr : Nat) (w : Nat) (key : Int64) (pl : Nat) (dn : Nat) (tk : Nat) (tr : Nat) (o : Int32) (hbad : o.toInt < 0 ∨ 4 < o.toInt) : vx_Met l yE_told (.code yE_told cE_told 2 (some .int) :: WS) (rmx 6 82) (va_Pc [.ref (A 0), .int o] (fun U => zP D (eT C) sz (eW A C n ops nums vc vals d st ce pk pv pr w key pl dn tk tr) U ∧ zX (va_A (eW A C n ops nums vc vals d st ce pk pv pr w key pl dn tk tr) sz) U)) (va_Qi (fun (_ : Int32) (_ : Unit) => False) (fun (_ : Unit) (_ : State) => True) (va_A (eW A C n ops nums vc vals d st ce pk pv pr w key pl dn tk tr) sz)) (vx_X (fun _ : Unit => True) (fun E (_ : Unit) t => E = "java/lang/IllegalArgumentException" ∧ zB D (eT C) (va_A (eW A C n ops nums vc vals d st ce pk pv pr w key pl dn tk tr) sz) (eW A C n ops nums vc vals d st ce pk pv pr w key pl dn tk tr) t) (va_A (eW A C n ops nums vc vals d st ce pk pv pr w key pl dn tk tr) sz)) 1 6 (va_A (eW A C n ops nums vc vals d st ce pk pv pr w key pl dn tk tr) sz) := by
  refine zEntX (Qc := fun F => (va_Qi (fun (_ : Int32) (_ : Unit) => False) (fun (_ : Unit) (_ : State) => True) F)) (XC := fun F => (vx_X (fun _ : Unit => True) (fun E (_ : Unit) t => E = "java/lang/IllegalArgumentException" ∧ zB D (eT C) F (eW A C n ops nums vc vals d st ce pk pv pr w key pl dn tk tr) t) F)) (by decide) (Nat.le_of_ble_eq_true rfl) (fun p e s m below meth c ls F hx hb hr hlk hml hout hw hown hsz hP hK hD hA hX hl => ?_)
  have hS : va_S F s.heap s.heap [] := va_S.rf
  have hown : s.vm.findClass RE = some m.cls := hown
  have hl : lv_has ls 2 [(0, .ref (A 0)), (1, .int o)] := hl
  refine lv_iload_n hx hb dE_told_0 rfl (lv_at hl 1 rfl) ?_
  refine lv_tableOut (tgt := 69) hx hb dE_told_1 hbad rfl ?_
  exact zThrow (w' := fun (_ : Unit) => (eW A C n ops nums vc vals d st ce pk pv pr w key pl dn tk tr)) () "java/lang/IllegalArgumentException" (is := 98) (text := "nothing of that number is told") hl9 hx hb hlk hout hw hown hX hK hP hD hS (hl.1.trans hml.symm) (by decide +kernel) wk_E_36 wn_IAE wx_IAE_in wx_IAE_no wx_IAE_ot hX.1.1 (by decide) dE_told_69 dE_told_72 dE_told_73 dE_told_75 dE_told_78 (by decide) (by decide) (by decide) (by decide)
set_option maxRecDepth 20000 in
set_option maxHeartbeats 4000000 in
theorem c_call_way (l : Launch) (hl9 : l.stackTraces = false) (D : va_G) (A : Nat → Nat) (C : Nat → ClassId) (sz : Nat) (n : Nat) (ops : Nat → Int32) (nums : Nat → Int64) (vc : Nat) (vals : Nat → Int64) (d : Nat) (st : Nat → Int64) (ce : Nat → Int64) (pk : Nat → Int64) (pv : Nat → Int64) (pr : Nat) (w : Nat) (key : Int64) (pl : Nat) (dn : Nat) (tk : Nat) (tr : Nat) (o : Int32) (k2 : Int64) (hbad : o < 0 ∨ nI 2 < o) : vx_Met l yE_call (.code yE_call cE_call 4 (some .int) :: WS) (rmx 6 118) (va_Pc [.ref (A 0), .int o, .long k2] (fun U => zP D (eT C) sz (eW A C n ops nums vc vals d st ce pk pv pr w key pl dn tk tr) U ∧ zX (va_A (eW A C n ops nums vc vals d st ce pk pv pr w key pl dn tk tr) sz) U)) (va_Qi (fun (_ : Int32) (_ : Unit) => False) (fun (_ : Unit) (_ : State) => True) (va_A (eW A C n ops nums vc vals d st ce pk pv pr w key pl dn tk tr) sz)) (vx_X (fun _ : Unit => True) (fun E (_ : Unit) t => E = "java/lang/IllegalArgumentException" ∧ zB D (eT C) (va_A (eW A C n ops nums vc vals d st ce pk pv pr w key pl dn tk tr) sz) (eW A C n ops nums vc vals d st ce pk pv pr w key pl dn tk tr) t) (va_A (eW A C n ops nums vc vals d st ce pk pv pr w key pl dn tk tr) sz)) 1 6 (va_A (eW A C n ops nums vc vals d st ce pk pv pr w key pl dn tk tr) sz) := by
  refine zEntX (Qc := fun F => (va_Qi (fun (_ : Int32) (_ : Unit) => False) (fun (_ : Unit) (_ : State) => True) F)) (XC := fun F => (vx_X (fun _ : Unit => True) (fun E (_ : Unit) t => E = "java/lang/IllegalArgumentException" ∧ zB D (eT C) F (eW A C n ops nums vc vals d st ce pk pv pr w key pl dn tk tr) t) F)) (by decide) (Nat.le_of_ble_eq_true rfl) (fun p e s m below meth c ls F hx hb hr hlk hml hout hw hown hsz hP hK hD hA hX hl => ?_)
  have hS : va_S F s.heap s.heap [] := va_S.rf
  have hown : s.vm.findClass RE = some m.cls := hown
  have hl : lv_has ls 4 [(0, .ref (A 0)), (1, .int o), (2, .long k2)] := hl
  refine lv_iload_n hx hb dE_call_0 rfl (lv_at hl 1 rfl) ?_
  refine lv_if_lt (tgt := 9) hx hb dE_call_1 rfl (fun h1 => ?_) (fun h1 => ?_)
  · exact zThrow (w' := fun (_ : Unit) => (eW A C n ops nums vc vals d st ce pk pv pr w key pl dn tk tr)) () "java/lang/IllegalArgumentException" (is := 57) (text := "no such way") hl9 hx hb hlk hout hw hown hX hK hP hD hS (hl.1.trans hml.symm) (by decide +kernel) wk_E_36 wn_IAE wx_IAE_in wx_IAE_no wx_IAE_ot hX.1.1 (by decide) dE_call_9 dE_call_12 dE_call_13 dE_call_15 dE_call_18 (by decide) (by decide) (by decide) (by decide)
  · refine lv_iload_n hx hb dE_call_4 rfl (lv_at hl 1 rfl) ?_
    refine lv_iconst (v := nI 2) hx hb dE_call_5 (by decide) ?_
    refine lv_icmp_le (tgt := 19) hx hb dE_call_6 rfl (fun q => absurd q (by exact hbad.elim (fun z => absurd z h1) (fun z => Int32.not_le.mpr z))) (fun _ => ?_)
    exact zThrow (w' := fun (_ : Unit) => (eW A C n ops nums vc vals d st ce pk pv pr w key pl dn tk tr)) () "java/lang/IllegalArgumentException" (is := 57) (text := "no such way") hl9 hx hb hlk hout hw hown hX hK hP hD hS (hl.1.trans hml.symm) (by decide +kernel) wk_E_36 wn_IAE wx_IAE_in wx_IAE_no wx_IAE_ot hX.1.1 (by decide) dE_call_9 dE_call_12 dE_call_13 dE_call_15 dE_call_18 (by decide) (by decide) (by decide) (by decide)
set_option maxRecDepth 20000 in
set_option maxHeartbeats 4000000 in
theorem c_call_end (l : Launch) (hl9 : l.stackTraces = false) (D : va_G) (A : Nat → Nat) (C : Nat → ClassId) (sz : Nat) (n : Nat) (ops : Nat → Int32) (nums : Nat → Int64) (vc : Nat) (vals : Nat → Int64) (d : Nat) (st : Nat → Int64) (ce : Nat → Int64) (pk : Nat → Int64) (pv : Nat → Int64) (pr : Nat) (w : Nat) (key : Int64) (pl : Nat) (dn : Nat) (tk : Nat) (tr : Nat) (w2 : Nat) (k2 : Int64) (hw2 : w2 ≤ 2) (hn : n ≤ 40) (hg : gBP n ops nums) : vx_Met l yE_call (.code yE_call cE_call 4 (some .int) :: WS) (rmx 6 118) (va_Pc [.ref (A 0), .int (nI w2), .long k2] (fun U => zP D (eT C) sz (eW A C n ops nums vc vals d st ce pk pv pr w key pl dn tk tr) U ∧ zX (va_A (eW A C n ops nums vc vals d st ce pk pv pr w key pl dn tk tr) sz) U)) (va_Qi (fun (_ : Int32) (_ : Unit) => False) (fun (_ : Unit) (_ : State) => True) (va_A (eW A C n ops nums vc vals d st ce pk pv pr w key pl dn tk tr) sz)) (vx_X (fun _ : Unit => True) (fun E (_ : Unit) t => E = "java/lang/IllegalArgumentException" ∧ zB D (eT C) (va_A (eW A C n ops nums vc vals d st ce pk pv pr w key pl dn tk tr) sz) (eW A C n ops nums vc vals d st ce pk pv pr w key pl dn tk tr) t) (va_A (eW A C n ops nums vc vals d st ce pk pv pr w key pl dn tk tr) sz)) 1 6 (va_A (eW A C n ops nums vc vals d st ce pk pv pr w key pl dn tk tr) sz) := by
  refine zEntX (Qc := fun F => (va_Qi (fun (_ : Int32) (_ : Unit) => False) (fun (_ : Unit) (_ : State) => True) F)) (XC := fun F => (vx_X (fun _ : Unit => True) (fun E (_ : Unit) t => E = "java/lang/IllegalArgumentException" ∧ zB D (eT C) F (eW A C n ops nums vc vals d st ce pk pv pr w key pl dn tk tr) t) F)) (by decide) (Nat.le_of_ble_eq_true rfl) (fun p e s m below meth c ls F hx hb hr hlk hml hout hw hown hsz hP hK hD hA hX hl => ?_)
  have hS : va_S F s.heap s.heap [] := va_S.rf
  have hown : s.vm.findClass RE = some m.cls := hown
  have hl : lv_has ls 4 [(0, .ref (A 0)), (1, .int (nI w2)), (2, .long k2)] := hl
  refine lv_iload_n hx hb dE_call_0 rfl (lv_at hl 1 rfl) ?_
  refine zi_lt (tgt := 9) hx hb dE_call_1 rfl (by omega) (fun q => absurd q (by omega)) (fun _ => ?_)
  refine lv_iload_n hx hb dE_call_4 rfl (lv_at hl 1 rfl) ?_
  refine lv_iconst (v := nI 2) hx hb dE_call_5 (by decide) ?_
  refine zc_le (tgt := 19) hx hb dE_call_6 rfl (by omega) (by omega) (fun _ => ?_) (fun q => absurd q (by omega))
  refine lv_aload_n hx hb dE_call_19 rfl (lv_at hl 0 rfl) ?_
  refine zAfti0 (zRunV0 ⟨hx, hb, hml, hown, hw⟩ (c_goesBehindEnd l D A C _ n ops nums vc vals d st ce pk pv pr w key pl dn tk tr hn) wm_E_59 wi_E_goesBehindEnd ws_E_goesBehindEnd wn_E wc_E_goesBehindEnd ⟨rfl, rfl⟩ wd_E_goesBehindEnd ⟨by decide, by decide⟩ hK hP hD 0 rfl rfl rfl hl.1 rfl (Nat.le_of_ble_eq_true rfl) dE_call_20 ⟨by decide, by decide⟩) hP hD hS hA (fun r u H locs hp hP hD hS => ?_)
  replace hP : va_P D vwCl (eW A C n ops nums vc vals d st ce pk pv pr w key pl dn tk tr) H := hP
  replace hD : va_D F (eW A C n ops nums vc vals d st ce pk pv pr w key pl dn tk tr) := hD
  obtain ⟨rfl, -⟩ : r = nI 1 ∧ True := ⟨hp.elim (fun z => z.1) (fun z => absurd hg z.2), trivial⟩
  refine zi_eq (tgt := 36) hx hb dE_call_23 rfl (by omega) (fun q => absurd q (by omega)) (fun _ => ?_)
  exact zThrow (w' := fun (_ : Unit) => (eW A C n ops nums vc vals d st ce pk pv pr w key pl dn tk tr)) () "java/lang/IllegalArgumentException" (is := 63) (text := "the program goes behind its end") hl9 hx hb hlk hout hw hown hX hK hP hD hS (hl.1.trans hml.symm) (by decide +kernel) wk_E_36 wn_IAE wx_IAE_in wx_IAE_no wx_IAE_ot hX.1.1 (by decide) dE_call_26 dE_call_29 dE_call_30 dE_call_32 dE_call_35 (by decide) (by decide) (by decide) (by decide)
set_option maxRecDepth 20000 in
set_option maxHeartbeats 4000000 in
theorem c_call_trap (l : Launch) (hl9 : l.stackTraces = false) (D : va_G) (A : Nat → Nat) (C : Nat → ClassId) (sz : Nat) (n : Nat) (ops : Nat → Int32) (nums : Nat → Int64) (vc : Nat) (vals : Nat → Int64) (d : Nat) (st : Nat → Int64) (ce : Nat → Int64) (pk : Nat → Int64) (pv : Nat → Int64) (pr : Nat) (w : Nat) (key : Int64) (pl : Nat) (dn : Nat) (tk : Nat) (tr : Nat) (w2 : Nat) (k2 : Int64) (q : Nat × Nat × RS) (hw2 : w2 ≤ 2) (hvc : vc ≤ 40) (hPI : PI n ops nums) (hg : ¬ gBP n ops nums) (hq : runR n vc vals w2 k2 ops nums 400 (0, 0, st, z4 ce, pk, pv, 0, 0) = q) (ht : q.2.1 = 1) : vx_Met l yE_call (.code yE_call cE_call 4 (some .int) :: WS) (rmx 6 118) (va_Pc [.ref (A 0), .int (nI w2), .long k2] (fun U => zP D (eT C) sz (eW A C n ops nums vc vals d st ce pk pv pr w key pl dn tk tr) U ∧ zX (va_A (eW A C n ops nums vc vals d st ce pk pv pr w key pl dn tk tr) sz) U)) (va_Qi (fun (_ : Int32) (_ : Unit) => False) (fun (_ : Unit) (_ : State) => True) (va_A (eW A C n ops nums vc vals d st ce pk pv pr w key pl dn tk tr) sz)) (vx_X (fun _ : RP => True) (fun E (u : RP) t => E = "java/lang/UnsupportedOperationException" ∧ zB D (eT C) (va_A (eW A C n ops nums vc vals d st ce pk pv pr w key pl dn tk tr) sz) (fW A C n ops nums vc vals w2 k2 0 q u) t) (va_A (eW A C n ops nums vc vals d st ce pk pv pr w key pl dn tk tr) sz)) 1 6 (va_A (eW A C n ops nums vc vals d st ce pk pv pr w key pl dn tk tr) sz) := by
  refine zEntX (Qc := fun F => (va_Qi (fun (_ : Int32) (_ : Unit) => False) (fun (_ : Unit) (_ : State) => True) F)) (XC := fun F => (vx_X (fun _ : RP => True) (fun E (u : RP) t => E = "java/lang/UnsupportedOperationException" ∧ zB D (eT C) F (fW A C n ops nums vc vals w2 k2 0 q u) t) F)) (by decide) (Nat.le_of_ble_eq_true rfl) (fun p e s m below meth c ls F hx hb hr hlk hml hout hw hown hsz hP hK hD hA hX hl => ?_)
  have hS : va_S F s.heap s.heap [] := va_S.rf
  have hown : s.vm.findClass RE = some m.cls := hown
  have hn := hPI.1
  have hl : lv_has ls 4 [(0, .ref (A 0)), (1, .int (nI w2)), (2, .long k2)] := hl
  refine lv_iload_n hx hb dE_call_0 rfl (lv_at hl 1 rfl) ?_
  refine zi_lt (tgt := 9) hx hb dE_call_1 rfl (by omega) (fun q => absurd q (by omega)) (fun _ => ?_)
  refine lv_iload_n hx hb dE_call_4 rfl (lv_at hl 1 rfl) ?_
  refine lv_iconst (v := nI 2) hx hb dE_call_5 (by decide) ?_
  refine zc_le (tgt := 19) hx hb dE_call_6 rfl (by omega) (by omega) (fun _ => ?_) (fun q => absurd q (by omega))
  refine lv_aload_n hx hb dE_call_19 rfl (lv_at hl 0 rfl) ?_
  refine zAfti0 (zRunV0 ⟨hx, hb, hml, hown, hw⟩ (c_goesBehindEnd l D A C _ n ops nums vc vals d st ce pk pv pr w key pl dn tk tr hn) wm_E_59 wi_E_goesBehindEnd ws_E_goesBehindEnd wn_E wc_E_goesBehindEnd ⟨rfl, rfl⟩ wd_E_goesBehindEnd ⟨by decide, by decide⟩ hK hP hD 0 rfl rfl rfl hl.1 rfl (Nat.le_of_ble_eq_true rfl) dE_call_20 ⟨by decide, by decide⟩) hP hD hS hA (fun r u H locs hp hP hD hS => ?_)
  replace hP : va_P D vwCl (eW A C n ops nums vc vals d st ce pk pv pr w key pl dn tk tr) H := hP
  replace hD : va_D F (eW A C n ops nums vc vals d st ce pk pv pr w key pl dn tk tr) := hD
  obtain ⟨rfl, -⟩ : r = nI 0 ∧ True := ⟨hp.elim (fun z => absurd z.2 hg) (fun z => z.1), trivial⟩
  refine zi_eq (tgt := 36) hx hb dE_call_23 rfl (by omega) (fun _ => ?_) (fun q => absurd q (by omega))
  refine lv_aload_n hx hb dE_call_36 rfl (lv_at hl 0 rfl) ?_
  refine lv_iload_n hx hb dE_call_37 rfl (lv_at hl 1 rfl) ?_
  refine lv_lload_n hx hb dE_call_38 rfl (lv_at hl 2 rfl) ?_
  refine zAftv0 (zRunV0 ⟨hx, hb, hml, hown, hw⟩ (c_begin l D A C _ n ops nums vc vals d st ce pk pv pr w key pl dn tk tr w2 k2) wm_E_65 wi_E_begin ws_E_begin wn_E wc_E_begin ⟨rfl, rfl⟩ wd_E_begin ⟨by decide, by decide⟩ hK hP hD 0 rfl rfl rfl hl.1 rfl (Nat.le_of_ble_eq_true rfl) dE_call_39 ⟨by decide, by decide⟩) hP hD hS hA (fun u H locs hp hP hD hS => ?_)
  replace hP : va_P D vwCl (eW A C n ops nums vc vals 0 st (z4 ce) pk pv 0 w2 k2 0 0 0 0) H := hP
  replace hD : va_D F (eW A C n ops nums vc vals 0 st (z4 ce) pk pv 0 w2 k2 0 0 0 0) := hD
  refine lv_aload_n hx hb dE_call_42 rfl (lv_at hl 0 rfl) ?_
  refine zAftv0 (zRunV0 ⟨hx, hb, hml, hown, hw⟩ (c_runProgram l D A C _ n ops nums vc vals 0 st (z4 ce) pk pv 0 w2 k2 0 0 0 hPI hvc hw2 ⟨by omega, by omega, by omega, by omega, fun _ => rfl⟩) wm_E_69 wi_E_runProgram ws_E_runProgram wn_E wc_E_runProgram ⟨rfl, rfl⟩ wd_E_runProgram ⟨by decide, by decide⟩ hK hP hD 0 rfl rfl rfl hl.1 rfl (Nat.le_of_ble_eq_true rfl) dE_call_43 ⟨by decide, by decide⟩) hP hD hS hA (fun u H locs hp hP hD hS => ?_)
  rw [hq] at hP hD
  replace hP : va_P D vwCl (eW A C n ops nums vc vals (dF q.2.1 q.2.2.2.1) u.1 q.2.2.2.2.2.1 q.2.2.2.2.2.2.1 q.2.2.2.2.2.2.2.1 q.2.2.2.2.2.2.2.2.1 w2 k2 u.2 (0 + q.1) q.2.2.2.2.2.2.2.2.2 q.2.1) H := hP
  replace hD : va_D F (eW A C n ops nums vc vals (dF q.2.1 q.2.2.2.1) u.1 q.2.2.2.2.2.1 q.2.2.2.2.2.2.1 q.2.2.2.2.2.2.2.1 q.2.2.2.2.2.2.2.2.1 w2 k2 u.2 (0 + q.1) q.2.2.2.2.2.2.2.2.2 q.2.1) := hD
  refine lv_aload_n hx hb dE_call_46 rfl (lv_at hl 0 rfl) ?_
  refine zGetE hx hb hw hown hK hP 0 rfl 16 (by decide) wf_E_72 rfl dE_call_47 ?_
  refine zi_eq (tgt := 63) hx hb dE_call_50 rfl (by omega) (fun q => absurd q (by omega)) (fun _ => ?_)
  exact zThrow (w' := fun (u : RP) => (fW A C n ops nums vc vals w2 k2 0 q u)) (u.1, u.2) "java/lang/UnsupportedOperationException" (is := 78) (text := "a trap") hl9 hx hb hlk hout hw hown hX hK hP hD hS (hl.1.trans hml.symm) (by decide +kernel) wk_E_76 wn_UOE wx_UOE_in wx_UOE_no wx_UOE_ot hX.1.2.2.1 (by decide) dE_call_53 dE_call_56 dE_call_57 dE_call_59 dE_call_62 (by decide) (by decide) (by decide) (by decide)
set_option maxRecDepth 20000 in
set_option maxHeartbeats 4000000 in
theorem c_call_ok (l : Launch) (D : va_G) (A : Nat → Nat) (C : Nat → ClassId) (sz : Nat) (n : Nat) (ops : Nat → Int32) (nums : Nat → Int64) (vc : Nat) (vals : Nat → Int64) (d : Nat) (st : Nat → Int64) (ce : Nat → Int64) (pk : Nat → Int64) (pv : Nat → Int64) (pr : Nat) (w : Nat) (key : Int64) (pl : Nat) (dn : Nat) (tk : Nat) (tr : Nat) (w2 : Nat) (k2 : Int64) (q : Nat × Nat × RS) (hw2 : w2 ≤ 2) (hvc : vc ≤ 40) (hPI : PI n ops nums) (hg : ¬ gBP n ops nums) (hq : runR n vc vals w2 k2 ops nums 400 (0, 0, st, z4 ce, pk, pv, 0, 0) = q) (ht : q.2.1 = 0) : Met l yE_call (.code yE_call cE_call 4 (some .int) :: WS) (rmk 6 118) (va_Pc [.ref (A 0), .int (nI w2), .long k2] (zP D (eT C) sz (eW A C n ops nums vc vals d st ce pk pv pr w key pl dn tk tr))) (va_Qi (fun (r : Int32) (_ : RP) => r = nI q.2.2.2.2.2.2.2.2.1) (fun (u : RP) t => zB D (eT C) (va_A (eW A C n ops nums vc vals d st ce pk pv pr w key pl dn tk tr) sz) (fW A C n ops nums vc vals w2 k2 0 q u) t) (va_A (eW A C n ops nums vc vals d st ce pk pv pr w key pl dn tk tr) sz)) 0 0 (va_A (eW A C n ops nums vc vals d st ce pk pv pr w key pl dn tk tr) sz) := by
  refine zEnt (Qc := fun F => (va_Qi (fun (r : Int32) (_ : RP) => r = nI q.2.2.2.2.2.2.2.2.1) (fun (u : RP) t => zB D (eT C) F (fW A C n ops nums vc vals w2 k2 0 q u) t) F)) (by decide) (Nat.le_of_ble_eq_true rfl) (fun p e s m below meth c ls F hx hb hr hlk hml hnm hw hown hsz hP hK hD hA hl => ?_)
  have hS : va_S F s.heap s.heap [] := va_S.rf
  have hown : s.vm.findClass RE = some m.cls := hown
  have hn := hPI.1
  have hl : lv_has ls 4 [(0, .ref (A 0)), (1, .int (nI w2)), (2, .long k2)] := hl
  refine lv_iload_n hx hb dE_call_0 rfl (lv_at hl 1 rfl) ?_
  refine zi_lt (tgt := 9) hx hb dE_call_1 rfl (by omega) (fun q => absurd q (by omega)) (fun _ => ?_)
  refine lv_iload_n hx hb dE_call_4 rfl (lv_at hl 1 rfl) ?_
  refine lv_iconst (v := nI 2) hx hb dE_call_5 (by decide) ?_
  refine zc_le (tgt := 19) hx hb dE_call_6 rfl (by omega) (by omega) (fun _ => ?_) (fun q => absurd q (by omega))
  refine lv_aload_n hx hb dE_call_19 rfl (lv_at hl 0 rfl) ?_
  refine zAfti0 (zRunV0 ⟨hx, hb, hml, hown, hw⟩ (c_goesBehindEnd l D A C _ n ops nums vc vals d st ce pk pv pr w key pl dn tk tr hn) wm_E_59 wi_E_goesBehindEnd ws_E_goesBehindEnd wn_E wc_E_goesBehindEnd ⟨rfl, rfl⟩ wd_E_goesBehindEnd ⟨by decide, by decide⟩ hK hP hD 0 rfl rfl rfl hl.1 rfl (Nat.le_of_ble_eq_true rfl) dE_call_20 ⟨by decide, by decide⟩) hP hD hS hA (fun r u H locs hp hP hD hS => ?_)
  replace hP : va_P D vwCl (eW A C n ops nums vc vals d st ce pk pv pr w key pl dn tk tr) H := hP
  replace hD : va_D F (eW A C n ops nums vc vals d st ce pk pv pr w key pl dn tk tr) := hD
  obtain ⟨rfl, -⟩ : r = nI 0 ∧ True := ⟨hp.elim (fun z => absurd z.2 hg) (fun z => z.1), trivial⟩
  refine zi_eq (tgt := 36) hx hb dE_call_23 rfl (by omega) (fun _ => ?_) (fun q => absurd q (by omega))
  refine lv_aload_n hx hb dE_call_36 rfl (lv_at hl 0 rfl) ?_
  refine lv_iload_n hx hb dE_call_37 rfl (lv_at hl 1 rfl) ?_
  refine lv_lload_n hx hb dE_call_38 rfl (lv_at hl 2 rfl) ?_
  refine zAftv0 (zRunV0 ⟨hx, hb, hml, hown, hw⟩ (c_begin l D A C _ n ops nums vc vals d st ce pk pv pr w key pl dn tk tr w2 k2) wm_E_65 wi_E_begin ws_E_begin wn_E wc_E_begin ⟨rfl, rfl⟩ wd_E_begin ⟨by decide, by decide⟩ hK hP hD 0 rfl rfl rfl hl.1 rfl (Nat.le_of_ble_eq_true rfl) dE_call_39 ⟨by decide, by decide⟩) hP hD hS hA (fun u H locs hp hP hD hS => ?_)
  replace hP : va_P D vwCl (eW A C n ops nums vc vals 0 st (z4 ce) pk pv 0 w2 k2 0 0 0 0) H := hP
  replace hD : va_D F (eW A C n ops nums vc vals 0 st (z4 ce) pk pv 0 w2 k2 0 0 0 0) := hD
  refine lv_aload_n hx hb dE_call_42 rfl (lv_at hl 0 rfl) ?_
  refine zAftv0 (zRunV0 ⟨hx, hb, hml, hown, hw⟩ (c_runProgram l D A C _ n ops nums vc vals 0 st (z4 ce) pk pv 0 w2 k2 0 0 0 hPI hvc hw2 ⟨by omega, by omega, by omega, by omega, fun _ => rfl⟩) wm_E_69 wi_E_runProgram ws_E_runProgram wn_E wc_E_runProgram ⟨rfl, rfl⟩ wd_E_runProgram ⟨by decide, by decide⟩ hK hP hD 0 rfl rfl rfl hl.1 rfl (Nat.le_of_ble_eq_true rfl) dE_call_43 ⟨by decide, by decide⟩) hP hD hS hA (fun u H locs hp hP hD hS => ?_)
  rw [hq] at hP hD
  replace hP : va_P D vwCl (eW A C n ops nums vc vals (dF q.2.1 q.2.2.2.1) u.1 q.2.2.2.2.2.1 q.2.2.2.2.2.2.1 q.2.2.2.2.2.2.2.1 q.2.2.2.2.2.2.2.2.1 w2 k2 u.2 (0 + q.1) q.2.2.2.2.2.2.2.2.2 q.2.1) H := hP
  replace hD : va_D F (eW A C n ops nums vc vals (dF q.2.1 q.2.2.2.1) u.1 q.2.2.2.2.2.1 q.2.2.2.2.2.2.1 q.2.2.2.2.2.2.2.1 q.2.2.2.2.2.2.2.2.1 w2 k2 u.2 (0 + q.1) q.2.2.2.2.2.2.2.2.2 q.2.1) := hD
  refine lv_aload_n hx hb dE_call_46 rfl (lv_at hl 0 rfl) ?_
  refine zGetE hx hb hw hown hK hP 0 rfl 16 (by decide) wf_E_72 rfl dE_call_47 ?_
  refine zi_eq (tgt := 63) hx hb dE_call_50 rfl (by omega) (fun _ => ?_) (fun q => absurd q (by omega))
  refine lv_aload_n hx hb dE_call_63 rfl (lv_at hl 0 rfl) ?_
  refine zGetE hx hb hw hown hK hP 0 rfl 10 (by decide) wf_E_81 rfl dE_call_64 ?_
  exact zIret (w' := fun (u : RP) => (fW A C n ops nums vc vals w2 k2 0 q u)) (u.1, u.2) hx hb hr hlk hS hK rfl hP hD dE_call_67
