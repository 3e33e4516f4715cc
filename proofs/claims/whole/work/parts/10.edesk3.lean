/-! EmitDesk: combine and perform, an INSTRUCTION a contract, where it goes and where it traps -/
set_option maxRecDepth 20000 in
set_option maxHeartbeats 4000000 in
theorem c_combine6_ok (l : Launch) (D : va_G) (A : Nat → Nat) (C : Nat → ClassId) (sz : Nat) (n : Nat) (ops : Nat → Int32) (nums : Nat → Int64) (vc : Nat) (vals : Nat → Int64) (d : Nat) (st : Nat → Int64) (ce : Nat → Int64) (pk : Nat → Int64) (pv : Nat → Int64) (pr : Nat) (w : Nat) (key : Int64) (pl : Nat) (dn : Nat) (tk : Nat) (tr : Nat) (hd : d < 11) : Met l yE_combine (.code yE_combine cE_combine 6 none :: WS) (rmk 2 46) (va_Pc [.ref (A 0), .int (nI 6)] (zP D (eT C) sz (eW A C n ops nums vc vals (d + 1 + 1) st ce pk pv pr w key pl dn tk 0))) (va_Qv (fun _ : Unit => True) (fun (_ : Unit) t => zB D (eT C) (va_A (eW A C n ops nums vc vals (d + 1 + 1) st ce pk pv pr w key pl dn tk 0) sz) (eW A C n ops nums vc vals (d + 1) (vp_updL st d (st d + st (d + 1))) ce pk pv pr w key pl dn tk 0) t) (va_A (eW A C n ops nums vc vals (d + 1 + 1) st ce pk pv pr w key pl dn tk 0) sz)) 0 0 (va_A (eW A C n ops nums vc vals (d + 1 + 1) st ce pk pv pr w key pl dn tk 0) sz) := by
  refine zEnt (Qc := fun F => (va_Qv (fun _ : Unit => True) (fun (_ : Unit) t => zB D (eT C) F (eW A C n ops nums vc vals (d + 1) (vp_updL st d (st d + st (d + 1))) ce pk pv pr w key pl dn tk 0) t) F)) (by decide) (Nat.le_of_ble_eq_true rfl) (fun p e s m below meth c ls F hx hb hr hlk hml hnm hw hown hsz hP hK hD hA hl => ?_)
  have hS : va_S F s.heap s.heap [] := va_S.rf
  have hown : s.vm.findClass RE = some m.cls := hown
  have hl : lv_has ls 6 [(0, .ref (A 0)), (1, .int (nI 6))] := hl
  refine lv_aload_n hx hb dE_combine_0 rfl (lv_at hl 0 rfl) ?_
  refine zAftl0 (zRunV0 ⟨hx, hb, hml, hown, hw⟩ (c_pop_ok l D A C _ n ops nums vc vals (d + 1) st ce pk pv pr w key pl dn tk 0 (by omega)) wm_E_136 wi_E_pop ws_E_pop wn_E wc_E_pop ⟨rfl, rfl⟩ wd_E_pop ⟨by decide, by decide⟩ hK hP hD 0 rfl rfl rfl hl.1 rfl (Nat.le_of_ble_eq_true rfl) dE_combine_1 ⟨by decide, by decide⟩) hP hD hS hA (fun r u H locs hp hP hD hS => ?_)
  replace hP : va_P D vwCl (eW A C n ops nums vc vals (d + 1) st ce pk pv pr w key pl dn tk 0) H := hP
  replace hD : va_D F (eW A C n ops nums vc vals (d + 1) st ce pk pv pr w key pl dn tk 0) := hD
  subst hp
  refine lv_lstore_n hx hb dE_combine_4 rfl hl (by decide) rfl (fun ls hl => ?_)
  have hl : lv_has ls 6 [(2, .long (st (d + 1))), (0, .ref (A 0)), (1, .int (nI 6))] := hl
  refine lv_aload_n hx hb dE_combine_5 rfl (lv_at hl 1 rfl) ?_
  refine zAftl0 (zRunV0 ⟨hx, hb, hml, hown, hw⟩ (c_pop_ok l D A C _ n ops nums vc vals d st ce pk pv pr w key pl dn tk 0 (by omega)) wm_E_136 wi_E_pop ws_E_pop wn_E wc_E_pop ⟨rfl, rfl⟩ wd_E_pop ⟨by decide, by decide⟩ hK hP hD 0 rfl rfl rfl hl.1 rfl (Nat.le_of_ble_eq_true rfl) dE_combine_6 ⟨by decide, by decide⟩) hP hD hS hA (fun r u H locs hp hP hD hS => ?_)
  replace hP : va_P D vwCl (eW A C n ops nums vc vals d st ce pk pv pr w key pl dn tk 0) H := hP
  replace hD : va_D F (eW A C n ops nums vc vals d st ce pk pv pr w key pl dn tk 0) := hD
  subst hp
  refine lv_lstore hx hb dE_combine_9 hl (by decide) rfl (fun ls hl => ?_)
  have hl : lv_has ls 6 [(4, .long (st d)), (2, .long (st (d + 1))), (0, .ref (A 0)), (1, .int (nI 6))] := hl
  refine lv_iload_n hx hb dE_combine_11 rfl (lv_at hl 3 rfl) ?_
  refine lv_tableIn (off := 40) (tgt := 52) hx hb dE_combine_12 (by decide) (by decide) (by decide) rfl ?_
  refine lv_aload_n hx hb dE_combine_52 rfl (lv_at hl 2 rfl) ?_
  refine lv_lload hx hb dE_combine_53 (lv_at hl 0 rfl) ?_
  refine lv_lload_n hx hb dE_combine_55 rfl (lv_at hl 1 rfl) ?_
  refine lv_ladd hx hb dE_combine_56 ?_
  refine zAftv0 (zRunV0 ⟨hx, hb, hml, hown, hw⟩ (c_push_ok l D A C _ n ops nums vc vals d st ce pk pv pr w key pl dn tk 0 ((st d) + (st (d + 1))) (by omega)) wm_E_119 wi_E_push ws_E_push wn_E wc_E_push ⟨rfl, rfl⟩ wd_E_push ⟨by decide, by decide⟩ hK hP hD 0 rfl rfl rfl hl.1 rfl (Nat.le_of_ble_eq_true rfl) dE_combine_57 ⟨by decide, by decide⟩) hP hD hS hA (fun u H locs hp hP hD hS => ?_)
  replace hP : va_P D vwCl (eW A C n ops nums vc vals (d + 1) (vp_updL st d ((st d) + (st (d + 1)))) ce pk pv pr w key pl dn tk 0) H := hP
  replace hD : va_D F (eW A C n ops nums vc vals (d + 1) (vp_updL st d ((st d) + (st (d + 1)))) ce pk pv pr w key pl dn tk 0) := hD
  refine lv_goto (tgt := 133) hx hb dE_combine_60 rfl ?_
  exact zVret (w' := fun (_ : Unit) => (eW A C n ops nums vc vals (d + 1) (vp_updL st d (st d + st (d + 1))) ce pk pv pr w key pl dn tk 0)) () hx hb hr hlk hS hK trivial hP hD dE_combine_133

set_option maxRecDepth 20000 in
set_option maxHeartbeats 4000000 in
theorem c_combine7_ok (l : Launch) (D : va_G) (A : Nat → Nat) (C : Nat → ClassId) (sz : Nat) (n : Nat) (ops : Nat → Int32) (nums : Nat → Int64) (vc : Nat) (vals : Nat → Int64) (d : Nat) (st : Nat → Int64) (ce : Nat → Int64) (pk : Nat → Int64) (pv : Nat → Int64) (pr : Nat) (w : Nat) (key : Int64) (pl : Nat) (dn : Nat) (tk : Nat) (tr : Nat) (hd : d < 11) : Met l yE_combine (.code yE_combine cE_combine 6 none :: WS) (rmk 2 46) (va_Pc [.ref (A 0), .int (nI 7)] (zP D (eT C) sz (eW A C n ops nums vc vals (d + 1 + 1) st ce pk pv pr w key pl dn tk 0))) (va_Qv (fun _ : Unit => True) (fun (_ : Unit) t => zB D (eT C) (va_A (eW A C n ops nums vc vals (d + 1 + 1) st ce pk pv pr w key pl dn tk 0) sz) (eW A C n ops nums vc vals (d + 1) (vp_updL st d (st d - st (d + 1))) ce pk pv pr w key pl dn tk 0) t) (va_A (eW A C n ops nums vc vals (d + 1 + 1) st ce pk pv pr w key pl dn tk 0) sz)) 0 0 (va_A (eW A C n ops nums vc vals (d + 1 + 1) st ce pk pv pr w key pl dn tk 0) sz) := by
  refine zEnt (Qc := fun F => (va_Qv (fun _ : Unit => True) (fun (_ : Unit) t => zB D (eT C) F (eW A C n ops nums vc vals (d + 1) (vp_updL st d (st d - st (d + 1))) ce pk pv pr w key pl dn tk 0) t) F)) (by decide) (Nat.le_of_ble_eq_true rfl) (fun p e s m below meth c ls F hx hb hr hlk hml hnm hw hown hsz hP hK hD hA hl => ?_)
  have hS : va_S F s.heap s.heap [] := va_S.rf
  have hown : s.vm.findClass RE = some m.cls := hown
  have hl : lv_has ls 6 [(0, .ref (A 0)), (1, .int (nI 7))] := hl
  refine lv_aload_n hx hb dE_combine_0 rfl (lv_at hl 0 rfl) ?_
  refine zAftl0 (zRunV0 ⟨hx, hb, hml, hown, hw⟩ (c_pop_ok l D A C _ n ops nums vc vals (d + 1) st ce pk pv pr w key pl dn tk 0 (by omega)) wm_E_136 wi_E_pop ws_E_pop wn_E wc_E_pop ⟨rfl, rfl⟩ wd_E_pop ⟨by decide, by decide⟩ hK hP hD 0 rfl rfl rfl hl.1 rfl (Nat.le_of_ble_eq_true rfl) dE_combine_1 ⟨by decide, by decide⟩) hP hD hS hA (fun r u H locs hp hP hD hS => ?_)
  replace hP : va_P D vwCl (eW A C n ops nums vc vals (d + 1) st ce pk pv pr w key pl dn tk 0) H := hP
  replace hD : va_D F (eW A C n ops nums vc vals (d + 1) st ce pk pv pr w key pl dn tk 0) := hD
  subst hp
  refine lv_lstore_n hx hb dE_combine_4 rfl hl (by decide) rfl (fun ls hl => ?_)
  have hl : lv_has ls 6 [(2, .long (st (d + 1))), (0, .ref (A 0)), (1, .int (nI 7))] := hl
  refine lv_aload_n hx hb dE_combine_5 rfl (lv_at hl 1 rfl) ?_
  refine zAftl0 (zRunV0 ⟨hx, hb, hml, hown, hw⟩ (c_pop_ok l D A C _ n ops nums vc vals d st ce pk pv pr w key pl dn tk 0 (by omega)) wm_E_136 wi_E_pop ws_E_pop wn_E wc_E_pop ⟨rfl, rfl⟩ wd_E_pop ⟨by decide, by decide⟩ hK hP hD 0 rfl rfl rfl hl.1 rfl (Nat.le_of_ble_eq_true rfl) dE_combine_6 ⟨by decide, by decide⟩) hP hD hS hA (fun r u H locs hp hP hD hS => ?_)
  replace hP : va_P D vwCl (eW A C n ops nums vc vals d st ce pk pv pr w key pl dn tk 0) H := hP
  replace hD : va_D F (eW A C n ops nums vc vals d st ce pk pv pr w key pl dn tk 0) := hD
  subst hp
  refine lv_lstore hx hb dE_combine_9 hl (by decide) rfl (fun ls hl => ?_)
  have hl : lv_has ls 6 [(4, .long (st d)), (2, .long (st (d + 1))), (0, .ref (A 0)), (1, .int (nI 7))] := hl
  refine lv_iload_n hx hb dE_combine_11 rfl (lv_at hl 3 rfl) ?_
  refine lv_tableIn (off := 51) (tgt := 63) hx hb dE_combine_12 (by decide) (by decide) (by decide) rfl ?_
  refine lv_aload_n hx hb dE_combine_63 rfl (lv_at hl 2 rfl) ?_
  refine lv_lload hx hb dE_combine_64 (lv_at hl 0 rfl) ?_
  refine lv_lload_n hx hb dE_combine_66 rfl (lv_at hl 1 rfl) ?_
  refine lv_lsub hx hb dE_combine_67 ?_
  refine zAftv0 (zRunV0 ⟨hx, hb, hml, hown, hw⟩ (c_push_ok l D A C _ n ops nums vc vals d st ce pk pv pr w key pl dn tk 0 ((st d) - (st (d + 1))) (by omega)) wm_E_119 wi_E_push ws_E_push wn_E wc_E_push ⟨rfl, rfl⟩ wd_E_push ⟨by decide, by decide⟩ hK hP hD 0 rfl rfl rfl hl.1 rfl (Nat.le_of_ble_eq_true rfl) dE_combine_68 ⟨by decide, by decide⟩) hP hD hS hA (fun u H locs hp hP hD hS => ?_)
  replace hP : va_P D vwCl (eW A C n ops nums vc vals (d + 1) (vp_updL st d ((st d) - (st (d + 1)))) ce pk pv pr w key pl dn tk 0) H := hP
  replace hD : va_D F (eW A C n ops nums vc vals (d + 1) (vp_updL st d ((st d) - (st (d + 1)))) ce pk pv pr w key pl dn tk 0) := hD
  refine lv_goto (tgt := 133) hx hb dE_combine_71 rfl ?_
  exact zVret (w' := fun (_ : Unit) => (eW A C n ops nums vc vals (d + 1) (vp_updL st d (st d - st (d + 1))) ce pk pv pr w key pl dn tk 0)) () hx hb hr hlk hS hK trivial hP hD dE_combine_133

set_option maxRecDepth 20000 in
set_option maxHeartbeats 4000000 in
theorem c_combine8_ok (l : Launch) (D : va_G) (A : Nat → Nat) (C : Nat → ClassId) (sz : Nat) (n : Nat) (ops : Nat → Int32) (nums : Nat → Int64) (vc : Nat) (vals : Nat → Int64) (d : Nat) (st : Nat → Int64) (ce : Nat → Int64) (pk : Nat → Int64) (pv : Nat → Int64) (pr : Nat) (w : Nat) (key : Int64) (pl : Nat) (dn : Nat) (tk : Nat) (tr : Nat) (hd : d < 11) : Met l yE_combine (.code yE_combine cE_combine 6 none :: WS) (rmk 2 46) (va_Pc [.ref (A 0), .int (nI 8)] (zP D (eT C) sz (eW A C n ops nums vc vals (d + 1 + 1) st ce pk pv pr w key pl dn tk 0))) (va_Qv (fun _ : Unit => True) (fun (_ : Unit) t => zB D (eT C) (va_A (eW A C n ops nums vc vals (d + 1 + 1) st ce pk pv pr w key pl dn tk 0) sz) (eW A C n ops nums vc vals (d + 1) (vp_updL st d (st d * st (d + 1))) ce pk pv pr w key pl dn tk 0) t) (va_A (eW A C n ops nums vc vals (d + 1 + 1) st ce pk pv pr w key pl dn tk 0) sz)) 0 0 (va_A (eW A C n ops nums vc vals (d + 1 + 1) st ce pk pv pr w key pl dn tk 0) sz) := by
  refine zEnt (Qc := fun F => (va_Qv (fun _ : Unit => True) (fun (_ : Unit) t => zB D (eT C) F (eW A C n ops nums vc vals (d + 1) (vp_updL st d (st d * st (d + 1))) ce pk pv pr w key pl dn tk 0) t) F)) (by decide) (Nat.le_of_ble_eq_true rfl) (fun p e s m below meth c ls F hx hb hr hlk hml hnm hw hown hsz hP hK hD hA hl => ?_)
  have hS : va_S F s.heap s.heap [] := va_S.rf
  have hown : s.vm.findClass RE = some m.cls := hown
  have hl : lv_has ls 6 [(0, .ref (A 0)), (1, .int (nI 8))] := hl
  refine lv_aload_n hx hb dE_combine_0 rfl (lv_at hl 0 rfl) ?_
  refine zAftl0 (zRunV0 ⟨hx, hb, hml, hown, hw⟩ (c_pop_ok l D A C _ n ops nums vc vals (d + 1) st ce pk pv pr w key pl dn tk 0 (by omega)) wm_E_136 wi_E_pop ws_E_pop wn_E wc_E_pop ⟨rfl, rfl⟩ wd_E_pop ⟨by decide, by decide⟩ hK hP hD 0 rfl rfl rfl hl.1 rfl (Nat.le_of_ble_eq_true rfl) dE_combine_1 ⟨by decide, by decide⟩) hP hD hS hA (fun r u H locs hp hP hD hS => ?_)
  replace hP : va_P D vwCl (eW A C n ops nums vc vals (d + 1) st ce pk pv pr w key pl dn tk 0) H := hP
  replace hD : va_D F (eW A C n ops nums vc vals (d + 1) st ce pk pv pr w key pl dn tk 0) := hD
  subst hp
  refine lv_lstore_n hx hb dE_combine_4 rfl hl (by decide) rfl (fun ls hl => ?_)
  have hl : lv_has ls 6 [(2, .long (st (d + 1))), (0, .ref (A 0)), (1, .int (nI 8))] := hl
  refine lv_aload_n hx hb dE_combine_5 rfl (lv_at hl 1 rfl) ?_
  refine zAftl0 (zRunV0 ⟨hx, hb, hml, hown, hw⟩ (c_pop_ok l D A C _ n ops nums vc vals d st ce pk pv pr w key pl dn tk 0 (by omega)) wm_E_136 wi_E_pop ws_E_pop wn_E wc_E_pop ⟨rfl, rfl⟩ wd_E_pop ⟨by decide, by decide⟩ hK hP hD 0 rfl rfl rfl hl.1 rfl (Nat.le_of_ble_eq_true rfl) dE_combine_6 ⟨by decide, by decide⟩) hP hD hS hA (fun r u H locs hp hP hD hS => ?_)
  replace hP : va_P D vwCl (eW A C n ops nums vc vals d st ce pk pv pr w key pl dn tk 0) H := hP
  replace hD : va_D F (eW A C n ops nums vc vals d st ce pk pv pr w key pl dn tk 0) := hD
  subst hp
  refine lv_lstore hx hb dE_combine_9 hl (by decide) rfl (fun ls hl => ?_)
  have hl : lv_has ls 6 [(4, .long (st d)), (2, .long (st (d + 1))), (0, .ref (A 0)), (1, .int (nI 8))] := hl
  refine lv_iload_n hx hb dE_combine_11 rfl (lv_at hl 3 rfl) ?_
  refine lv_tableIn (off := 62) (tgt := 74) hx hb dE_combine_12 (by decide) (by decide) (by decide) rfl ?_
  refine lv_aload_n hx hb dE_combine_74 rfl (lv_at hl 2 rfl) ?_
  refine lv_lload hx hb dE_combine_75 (lv_at hl 0 rfl) ?_
  refine lv_lload_n hx hb dE_combine_77 rfl (lv_at hl 1 rfl) ?_
  refine lv_lmul hx hb dE_combine_78 ?_
  refine zAftv0 (zRunV0 ⟨hx, hb, hml, hown, hw⟩ (c_push_ok l D A C _ n ops nums vc vals d st ce pk pv pr w key pl dn tk 0 ((st d) * (st (d + 1))) (by omega)) wm_E_119 wi_E_push ws_E_push wn_E wc_E_push ⟨rfl, rfl⟩ wd_E_push ⟨by decide, by decide⟩ hK hP hD 0 rfl rfl rfl hl.1 rfl (Nat.le_of_ble_eq_true rfl) dE_combine_79 ⟨by decide, by decide⟩) hP hD hS hA (fun u H locs hp hP hD hS => ?_)
  replace hP : va_P D vwCl (eW A C n ops nums vc vals (d + 1) (vp_updL st d ((st d) * (st (d + 1)))) ce pk pv pr w key pl dn tk 0) H := hP
  replace hD : va_D F (eW A C n ops nums vc vals (d + 1) (vp_updL st d ((st d) * (st (d + 1)))) ce pk pv pr w key pl dn tk 0) := hD
  refine lv_goto (tgt := 133) hx hb dE_combine_82 rfl ?_
  exact zVret (w' := fun (_ : Unit) => (eW A C n ops nums vc vals (d + 1) (vp_updL st d (st d * st (d + 1))) ce pk pv pr w key pl dn tk 0)) () hx hb hr hlk hS hK trivial hP hD dE_combine_133

set_option maxRecDepth 20000 in
set_option maxHeartbeats 4000000 in
theorem c_combine9_ok (l : Launch) (D : va_G) (A : Nat → Nat) (C : Nat → ClassId) (sz : Nat) (n : Nat) (ops : Nat → Int32) (nums : Nat → Int64) (vc : Nat) (vals : Nat → Int64) (d : Nat) (st : Nat → Int64) (ce : Nat → Int64) (pk : Nat → Int64) (pv : Nat → Int64) (pr : Nat) (w : Nat) (key : Int64) (pl : Nat) (dn : Nat) (tk : Nat) (tr : Nat) (hd : d < 11) (hy : ¬ st (d + 1) = 0) : Met l yE_combine (.code yE_combine cE_combine 6 none :: WS) (rmk 2 46) (va_Pc [.ref (A 0), .int (nI 9)] (zP D (eT C) sz (eW A C n ops nums vc vals (d + 1 + 1) st ce pk pv pr w key pl dn tk 0))) (va_Qv (fun _ : Unit => True) (fun (_ : Unit) t => zB D (eT C) (va_A (eW A C n ops nums vc vals (d + 1 + 1) st ce pk pv pr w key pl dn tk 0) sz) (eW A C n ops nums vc vals (d + 1) (vp_updL st d (st d / st (d + 1))) ce pk pv pr w key pl dn tk 0) t) (va_A (eW A C n ops nums vc vals (d + 1 + 1) st ce pk pv pr w key pl dn tk 0) sz)) 0 0 (va_A (eW A C n ops nums vc vals (d + 1 + 1) st ce pk pv pr w key pl dn tk 0) sz) := by
  refine zEnt (Qc := fun F => (va_Qv (fun _ : Unit => True) (fun (_ : Unit) t => zB D (eT C) F (eW A C n ops nums vc vals (d + 1) (vp_updL st d (st d / st (d + 1))) ce pk pv pr w key pl dn tk 0) t) F)) (by decide) (Nat.le_of_ble_eq_true rfl) (fun p e s m below meth c ls F hx hb hr hlk hml hnm hw hown hsz hP hK hD hA hl => ?_)
  have hS : va_S F s.heap s.heap [] := va_S.rf
  have hown : s.vm.findClass RE = some m.cls := hown
  have hl : lv_has ls 6 [(0, .ref (A 0)), (1, .int (nI 9))] := hl
  refine lv_aload_n hx hb dE_combine_0 rfl (lv_at hl 0 rfl) ?_
  refine zAftl0 (zRunV0 ⟨hx, hb, hml, hown, hw⟩ (c_pop_ok l D A C _ n ops nums vc vals (d + 1) st ce pk pv pr w key pl dn tk 0 (by omega)) wm_E_136 wi_E_pop ws_E_pop wn_E wc_E_pop ⟨rfl, rfl⟩ wd_E_pop ⟨by decide, by decide⟩ hK hP hD 0 rfl rfl rfl hl.1 rfl (Nat.le_of_ble_eq_true rfl) dE_combine_1 ⟨by decide, by decide⟩) hP hD hS hA (fun r u H locs hp hP hD hS => ?_)
  replace hP : va_P D vwCl (eW A C n ops nums vc vals (d + 1) st ce pk pv pr w key pl dn tk 0) H := hP
  replace hD : va_D F (eW A C n ops nums vc vals (d + 1) st ce pk pv pr w key pl dn tk 0) := hD
  subst hp
  refine lv_lstore_n hx hb dE_combine_4 rfl hl (by decide) rfl (fun ls hl => ?_)
  have hl : lv_has ls 6 [(2, .long (st (d + 1))), (0, .ref (A 0)), (1, .int (nI 9))] := hl
  refine lv_aload_n hx hb dE_combine_5 rfl (lv_at hl 1 rfl) ?_
  refine zAftl0 (zRunV0 ⟨hx, hb, hml, hown, hw⟩ (c_pop_ok l D A C _ n ops nums vc vals d st ce pk pv pr w key pl dn tk 0 (by omega)) wm_E_136 wi_E_pop ws_E_pop wn_E wc_E_pop ⟨rfl, rfl⟩ wd_E_pop ⟨by decide, by decide⟩ hK hP hD 0 rfl rfl rfl hl.1 rfl (Nat.le_of_ble_eq_true rfl) dE_combine_6 ⟨by decide, by decide⟩) hP hD hS hA (fun r u H locs hp hP hD hS => ?_)
  replace hP : va_P D vwCl (eW A C n ops nums vc vals d st ce pk pv pr w key pl dn tk 0) H := hP
  replace hD : va_D F (eW A C n ops nums vc vals d st ce pk pv pr w key pl dn tk 0) := hD
  subst hp
  refine lv_lstore hx hb dE_combine_9 hl (by decide) rfl (fun ls hl => ?_)
  have hl : lv_has ls 6 [(4, .long (st d)), (2, .long (st (d + 1))), (0, .ref (A 0)), (1, .int (nI 9))] := hl
  refine lv_iload_n hx hb dE_combine_11 rfl (lv_at hl 3 rfl) ?_
  refine lv_tableIn (off := 73) (tgt := 85) hx hb dE_combine_12 (by decide) (by decide) (by decide) rfl ?_
  refine lv_aload_n hx hb dE_combine_85 rfl (lv_at hl 2 rfl) ?_
  refine lv_lload hx hb dE_combine_86 (lv_at hl 0 rfl) ?_
  refine lv_lload_n hx hb dE_combine_88 rfl (lv_at hl 1 rfl) ?_
  refine zAftv0 (zRunV0 ⟨hx, hb, hml, hown, hw⟩ (c_divide_ok l D A C _ n ops nums vc vals d st ce pk pv pr w key pl dn tk 0 (st d) (st (d + 1)) (by omega) hy) wm_E_152 wi_E_divide ws_E_divide wn_E wc_E_divide ⟨rfl, rfl⟩ wd_E_divide ⟨by decide, by decide⟩ hK hP hD 0 rfl rfl rfl hl.1 rfl (Nat.le_of_ble_eq_true rfl) dE_combine_89 ⟨by decide, by decide⟩) hP hD hS hA (fun u H locs hp hP hD hS => ?_)
  replace hP : va_P D vwCl (eW A C n ops nums vc vals (d + 1) (vp_updL st d ((st d) / (st (d + 1)))) ce pk pv pr w key pl dn tk 0) H := hP
  replace hD : va_D F (eW A C n ops nums vc vals (d + 1) (vp_updL st d ((st d) / (st (d + 1)))) ce pk pv pr w key pl dn tk 0) := hD
  refine lv_goto (tgt := 133) hx hb dE_combine_92 rfl ?_
  exact zVret (w' := fun (_ : Unit) => (eW A C n ops nums vc vals (d + 1) (vp_updL st d (st d / st (d + 1))) ce pk pv pr w key pl dn tk 0)) () hx hb hr hlk hS hK trivial hP hD dE_combine_133

set_option maxRecDepth 20000 in
set_option maxHeartbeats 4000000 in
theorem c_combine10_ok (l : Launch) (D : va_G) (A : Nat → Nat) (C : Nat → ClassId) (sz : Nat) (n : Nat) (ops : Nat → Int32) (nums : Nat → Int64) (vc : Nat) (vals : Nat → Int64) (d : Nat) (st : Nat → Int64) (ce : Nat → Int64) (pk : Nat → Int64) (pv : Nat → Int64) (pr : Nat) (w : Nat) (key : Int64) (pl : Nat) (dn : Nat) (tk : Nat) (tr : Nat) (hd : d < 11) : Met l yE_combine (.code yE_combine cE_combine 6 none :: WS) (rmk 2 46) (va_Pc [.ref (A 0), .int (nI 10)] (zP D (eT C) sz (eW A C n ops nums vc vals (d + 1 + 1) st ce pk pv pr w key pl dn tk 0))) (va_Qv (fun _ : Unit => True) (fun (_ : Unit) t => zB D (eT C) (va_A (eW A C n ops nums vc vals (d + 1 + 1) st ce pk pv pr w key pl dn tk 0) sz) (eW A C n ops nums vc vals (d + 1) (vp_updL st d (if st (d + 1) ≤ st d then 0 else 1)) ce pk pv pr w key pl dn tk 0) t) (va_A (eW A C n ops nums vc vals (d + 1 + 1) st ce pk pv pr w key pl dn tk 0) sz)) 0 0 (va_A (eW A C n ops nums vc vals (d + 1 + 1) st ce pk pv pr w key pl dn tk 0) sz) := by
  refine zEnt (Qc := fun F => (va_Qv (fun _ : Unit => True) (fun (_ : Unit) t => zB D (eT C) F (eW A C n ops nums vc vals (d + 1) (vp_updL st d (if st (d + 1) ≤ st d then 0 else 1)) ce pk pv pr w key pl dn tk 0) t) F)) (by decide) (Nat.le_of_ble_eq_true rfl) (fun p e s m below meth c ls F hx hb hr hlk hml hnm hw hown hsz hP hK hD hA hl => ?_)
  have hS : va_S F s.heap s.heap [] := va_S.rf
  have hown : s.vm.findClass RE = some m.cls := hown
  have hl : lv_has ls 6 [(0, .ref (A 0)), (1, .int (nI 10))] := hl
  refine lv_aload_n hx hb dE_combine_0 rfl (lv_at hl 0 rfl) ?_
  refine zAftl0 (zRunV0 ⟨hx, hb, hml, hown, hw⟩ (c_pop_ok l D A C _ n ops nums vc vals (d + 1) st ce pk pv pr w key pl dn tk 0 (by omega)) wm_E_136 wi_E_pop ws_E_pop wn_E wc_E_pop ⟨rfl, rfl⟩ wd_E_pop ⟨by decide, by decide⟩ hK hP hD 0 rfl rfl rfl hl.1 rfl (Nat.le_of_ble_eq_true rfl) dE_combine_1 ⟨by decide, by decide⟩) hP hD hS hA (fun r u H locs hp hP hD hS => ?_)
  replace hP : va_P D vwCl (eW A C n ops nums vc vals (d + 1) st ce pk pv pr w key pl dn tk 0) H := hP
  replace hD : va_D F (eW A C n ops nums vc vals (d + 1) st ce pk pv pr w key pl dn tk 0) := hD
  subst hp
  refine lv_lstore_n hx hb dE_combine_4 rfl hl (by decide) rfl (fun ls hl => ?_)
  have hl : lv_has ls 6 [(2, .long (st (d + 1))), (0, .ref (A 0)), (1, .int (nI 10))] := hl
  refine lv_aload_n hx hb dE_combine_5 rfl (lv_at hl 1 rfl) ?_
  refine zAftl0 (zRunV0 ⟨hx, hb, hml, hown, hw⟩ (c_pop_ok l D A C _ n ops nums vc vals d st ce pk pv pr w key pl dn tk 0 (by omega)) wm_E_136 wi_E_pop ws_E_pop wn_E wc_E_pop ⟨rfl, rfl⟩ wd_E_pop ⟨by decide, by decide⟩ hK hP hD 0 rfl rfl rfl hl.1 rfl (Nat.le_of_ble_eq_true rfl) dE_combine_6 ⟨by decide, by decide⟩) hP hD hS hA (fun r u H locs hp hP hD hS => ?_)
  replace hP : va_P D vwCl (eW A C n ops nums vc vals d st ce pk pv pr w key pl dn tk 0) H := hP
  replace hD : va_D F (eW A C n ops nums vc vals d st ce pk pv pr w key pl dn tk 0) := hD
  subst hp
  refine lv_lstore hx hb dE_combine_9 hl (by decide) rfl (fun ls hl => ?_)
  have hl : lv_has ls 6 [(4, .long (st d)), (2, .long (st (d + 1))), (0, .ref (A 0)), (1, .int (nI 10))] := hl
  refine lv_iload_n hx hb dE_combine_11 rfl (lv_at hl 3 rfl) ?_
  refine lv_tableIn (off := 83) (tgt := 95) hx hb dE_combine_12 (by decide) (by decide) (by decide) rfl ?_
  refine lv_aload_n hx hb dE_combine_95 rfl (lv_at hl 2 rfl) ?_
  refine lv_lload hx hb dE_combine_96 (lv_at hl 0 rfl) ?_
  refine lv_lload_n hx hb dE_combine_98 rfl (lv_at hl 1 rfl) ?_
  refine W.lcmp hx hb dE_combine_99 ?_
  refine zl_ge (tgt := 107) hx hb dE_combine_100 rfl (fun h100 => ?_) (fun h100 => ?_)
  · refine lv_lconst (v := 0) hx hb dE_combine_107 (by decide) ?_
    refine zAftv0 (zRunV0 ⟨hx, hb, hml, hown, hw⟩ (c_push_ok l D A C _ n ops nums vc vals d st ce pk pv pr w key pl dn tk 0 (0 : Int64) (by omega)) wm_E_119 wi_E_push ws_E_push wn_E wc_E_push ⟨rfl, rfl⟩ wd_E_push ⟨by decide, by decide⟩ hK hP hD 0 rfl rfl rfl hl.1 rfl (Nat.le_of_ble_eq_true rfl) dE_combine_108 ⟨by decide, by decide⟩) hP hD hS hA (fun u H locs hp hP hD hS => ?_)
    replace hP : va_P D vwCl (eW A C n ops nums vc vals (d + 1) (vp_updL st d (0 : Int64)) ce pk pv pr w key pl dn tk 0) H := hP
    replace hD : va_D F (eW A C n ops nums vc vals (d + 1) (vp_updL st d (0 : Int64)) ce pk pv pr w key pl dn tk 0) := hD
    refine lv_goto (tgt := 133) hx hb dE_combine_111 rfl ?_
    replace hP : va_P D vwCl (eW A C n ops nums vc vals (d + 1) (vp_updL st d (if st (d + 1) ≤ st d then 0 else 1)) ce pk pv pr w key pl dn tk 0) H := by (first | rw [if_pos h100] | rw [if_neg h100]); exact hP
    replace hD : va_D F (eW A C n ops nums vc vals (d + 1) (vp_updL st d (if st (d + 1) ≤ st d then 0 else 1)) ce pk pv pr w key pl dn tk 0) := by (first | rw [if_pos h100] | rw [if_neg h100]); exact hD
    exact zVret (w' := fun (_ : Unit) => (eW A C n ops nums vc vals (d + 1) (vp_updL st d (if st (d + 1) ≤ st d then 0 else 1)) ce pk pv pr w key pl dn tk 0)) () hx hb hr hlk hS hK trivial hP hD dE_combine_133
  · refine lv_lconst (v := 1) hx hb dE_combine_103 (by decide) ?_
    refine lv_goto (tgt := 108) hx hb dE_combine_104 rfl ?_
    refine zAftv0 (zRunV0 ⟨hx, hb, hml, hown, hw⟩ (c_push_ok l D A C _ n ops nums vc vals d st ce pk pv pr w key pl dn tk 0 (1 : Int64) (by omega)) wm_E_119 wi_E_push ws_E_push wn_E wc_E_push ⟨rfl, rfl⟩ wd_E_push ⟨by decide, by decide⟩ hK hP hD 0 rfl rfl rfl hl.1 rfl (Nat.le_of_ble_eq_true rfl) dE_combine_108 ⟨by decide, by decide⟩) hP hD hS hA (fun u H locs hp hP hD hS => ?_)
    replace hP : va_P D vwCl (eW A C n ops nums vc vals (d + 1) (vp_updL st d (1 : Int64)) ce pk pv pr w key pl dn tk 0) H := hP
    replace hD : va_D F (eW A C n ops nums vc vals (d + 1) (vp_updL st d (1 : Int64)) ce pk pv pr w key pl dn tk 0) := hD
    refine lv_goto (tgt := 133) hx hb dE_combine_111 rfl ?_
    replace hP : va_P D vwCl (eW A C n ops nums vc vals (d + 1) (vp_updL st d (if st (d + 1) ≤ st d then 0 else 1)) ce pk pv pr w key pl dn tk 0) H := by (first | rw [if_pos h100] | rw [if_neg h100]); exact hP
    replace hD : va_D F (eW A C n ops nums vc vals (d + 1) (vp_updL st d (if st (d + 1) ≤ st d then 0 else 1)) ce pk pv pr w key pl dn tk 0) := by (first | rw [if_pos h100] | rw [if_neg h100]); exact hD
    exact zVret (w' := fun (_ : Unit) => (eW A C n ops nums vc vals (d + 1) (vp_updL st d (if st (d + 1) ≤ st d then 0 else 1)) ce pk pv pr w key pl dn tk 0)) () hx hb hr hlk hS hK trivial hP hD dE_combine_133

set_option maxRecDepth 20000 in
set_option maxHeartbeats 4000000 in
theorem c_combine11_ok (l : Launch) (D : va_G) (A : Nat → Nat) (C : Nat → ClassId) (sz : Nat) (n : Nat) (ops : Nat → Int32) (nums : Nat → Int64) (vc : Nat) (vals : Nat → Int64) (d : Nat) (st : Nat → Int64) (ce : Nat → Int64) (pk : Nat → Int64) (pv : Nat → Int64) (pr : Nat) (w : Nat) (key : Int64) (pl : Nat) (dn : Nat) (tk : Nat) (tr : Nat) (hd : d < 11) : Met l yE_combine (.code yE_combine cE_combine 6 none :: WS) (rmk 2 46) (va_Pc [.ref (A 0), .int (nI 11)] (zP D (eT C) sz (eW A C n ops nums vc vals (d + 1 + 1) st ce pk pv pr w key pl dn tk 0))) (va_Qv (fun _ : Unit => True) (fun (_ : Unit) t => zB D (eT C) (va_A (eW A C n ops nums vc vals (d + 1 + 1) st ce pk pv pr w key pl dn tk 0) sz) (eW A C n ops nums vc vals (d + 1) (vp_updL st d (if st d = st (d + 1) then 1 else 0)) ce pk pv pr w key pl dn tk 0) t) (va_A (eW A C n ops nums vc vals (d + 1 + 1) st ce pk pv pr w key pl dn tk 0) sz)) 0 0 (va_A (eW A C n ops nums vc vals (d + 1 + 1) st ce pk pv pr w key pl dn tk 0) sz) := by
  refine zEnt (Qc := fun F => (va_Qv (fun _ : Unit => True) (fun (_ : Unit) t => zB D (eT C) F (eW A C n ops nums vc vals (d + 1) (vp_updL st d (if st d = st (d + 1) then 1 else 0)) ce pk pv pr w key pl dn tk 0) t) F)) (by decide) (Nat.le_of_ble_eq_true rfl) (fun p e s m below meth c ls F hx hb hr hlk hml hnm hw hown hsz hP hK hD hA hl => ?_)
  have hS : va_S F s.heap s.heap [] := va_S.rf
  have hown : s.vm.findClass RE = some m.cls := hown
  have hl : lv_has ls 6 [(0, .ref (A 0)), (1, .int (nI 11))] := hl
  refine lv_aload_n hx hb dE_combine_0 rfl (lv_at hl 0 rfl) ?_
  refine zAftl0 (zRunV0 ⟨hx, hb, hml, hown, hw⟩ (c_pop_ok l D A C _ n ops nums vc vals (d + 1) st ce pk pv pr w key pl dn tk 0 (by omega)) wm_E_136 wi_E_pop ws_E_pop wn_E wc_E_pop ⟨rfl, rfl⟩ wd_E_pop ⟨by decide, by decide⟩ hK hP hD 0 rfl rfl rfl hl.1 rfl (Nat.le_of_ble_eq_true rfl) dE_combine_1 ⟨by decide, by decide⟩) hP hD hS hA (fun r u H locs hp hP hD hS => ?_)
  replace hP : va_P D vwCl (eW A C n ops nums vc vals (d + 1) st ce pk pv pr w key pl dn tk 0) H := hP
  replace hD : va_D F (eW A C n ops nums vc vals (d + 1) st ce pk pv pr w key pl dn tk 0) := hD
  subst hp
  refine lv_lstore_n hx hb dE_combine_4 rfl hl (by decide) rfl (fun ls hl => ?_)
  have hl : lv_has ls 6 [(2, .long (st (d + 1))), (0, .ref (A 0)), (1, .int (nI 11))] := hl
  refine lv_aload_n hx hb dE_combine_5 rfl (lv_at hl 1 rfl) ?_
  refine zAftl0 (zRunV0 ⟨hx, hb, hml, hown, hw⟩ (c_pop_ok l D A C _ n ops nums vc vals d st ce pk pv pr w key pl dn tk 0 (by omega)) wm_E_136 wi_E_pop ws_E_pop wn_E wc_E_pop ⟨rfl, rfl⟩ wd_E_pop ⟨by decide, by decide⟩ hK hP hD 0 rfl rfl rfl hl.1 rfl (Nat.le_of_ble_eq_true rfl) dE_combine_6 ⟨by decide, by decide⟩) hP hD hS hA (fun r u H locs hp hP hD hS => ?_)
  replace hP : va_P D vwCl (eW A C n ops nums vc vals d st ce pk pv pr w key pl dn tk 0) H := hP
  replace hD : va_D F (eW A C n ops nums vc vals d st ce pk pv pr w key pl dn tk 0) := hD
  subst hp
  refine lv_lstore hx hb dE_combine_9 hl (by decide) rfl (fun ls hl => ?_)
  have hl : lv_has ls 6 [(4, .long (st d)), (2, .long (st (d + 1))), (0, .ref (A 0)), (1, .int (nI 11))] := hl
  refine lv_iload_n hx hb dE_combine_11 rfl (lv_at hl 3 rfl) ?_
  refine lv_tableIn (off := 102) (tgt := 114) hx hb dE_combine_12 (by decide) (by decide) (by decide) rfl ?_
  refine lv_aload_n hx hb dE_combine_114 rfl (lv_at hl 2 rfl) ?_
  refine lv_lload hx hb dE_combine_115 (lv_at hl 0 rfl) ?_
  refine lv_lload_n hx hb dE_combine_117 rfl (lv_at hl 1 rfl) ?_
  refine W.lcmp hx hb dE_combine_118 ?_
  refine zl_ne (tgt := 126) hx hb dE_combine_119 rfl (fun h119 => ?_) (fun h119 => ?_)
  · refine lv_lconst (v := 0) hx hb dE_combine_126 (by decide) ?_
    refine zAftv0 (zRunV0 ⟨hx, hb, hml, hown, hw⟩ (c_push_ok l D A C _ n ops nums vc vals d st ce pk pv pr w key pl dn tk 0 (0 : Int64) (by omega)) wm_E_119 wi_E_push ws_E_push wn_E wc_E_push ⟨rfl, rfl⟩ wd_E_push ⟨by decide, by decide⟩ hK hP hD 0 rfl rfl rfl hl.1 rfl (Nat.le_of_ble_eq_true rfl) dE_combine_127 ⟨by decide, by decide⟩) hP hD hS hA (fun u H locs hp hP hD hS => ?_)
    replace hP : va_P D vwCl (eW A C n ops nums vc vals (d + 1) (vp_updL st d (0 : Int64)) ce pk pv pr w key pl dn tk 0) H := hP
    replace hD : va_D F (eW A C n ops nums vc vals (d + 1) (vp_updL st d (0 : Int64)) ce pk pv pr w key pl dn tk 0) := hD
    refine lv_goto (tgt := 133) hx hb dE_combine_130 rfl ?_
    replace hP : va_P D vwCl (eW A C n ops nums vc vals (d + 1) (vp_updL st d (if st d = st (d + 1) then 1 else 0)) ce pk pv pr w key pl dn tk 0) H := by (first | rw [if_neg h119] | rw [if_pos h119]); exact hP
    replace hD : va_D F (eW A C n ops nums vc vals (d + 1) (vp_updL st d (if st d = st (d + 1) then 1 else 0)) ce pk pv pr w key pl dn tk 0) := by (first | rw [if_neg h119] | rw [if_pos h119]); exact hD
    exact zVret (w' := fun (_ : Unit) => (eW A C n ops nums vc vals (d + 1) (vp_updL st d (if st d = st (d + 1) then 1 else 0)) ce pk pv pr w key pl dn tk 0)) () hx hb hr hlk hS hK trivial hP hD dE_combine_133
  · refine lv_lconst (v := 1) hx hb dE_combine_122 (by decide) ?_
    refine lv_goto (tgt := 127) hx hb dE_combine_123 rfl ?_
    refine zAftv0 (zRunV0 ⟨hx, hb, hml, hown, hw⟩ (c_push_ok l D A C _ n ops nums vc vals d st ce pk pv pr w key pl dn tk 0 (1 : Int64) (by omega)) wm_E_119 wi_E_push ws_E_push wn_E wc_E_push ⟨rfl, rfl⟩ wd_E_push ⟨by decide, by decide⟩ hK hP hD 0 rfl rfl rfl hl.1 rfl (Nat.le_of_ble_eq_true rfl) dE_combine_127 ⟨by decide, by decide⟩) hP hD hS hA (fun u H locs hp hP hD hS => ?_)
    replace hP : va_P D vwCl (eW A C n ops nums vc vals (d + 1) (vp_updL st d (1 : Int64)) ce pk pv pr w key pl dn tk 0) H := hP
    replace hD : va_D F (eW A C n ops nums vc vals (d + 1) (vp_updL st d (1 : Int64)) ce pk pv pr w key pl dn tk 0) := hD
    refine lv_goto (tgt := 133) hx hb dE_combine_130 rfl ?_
    replace hP : va_P D vwCl (eW A C n ops nums vc vals (d + 1) (vp_updL st d (if st d = st (d + 1) then 1 else 0)) ce pk pv pr w key pl dn tk 0) H := by (first | rw [if_neg h119] | rw [if_pos h119]); exact hP
    replace hD : va_D F (eW A C n ops nums vc vals (d + 1) (vp_updL st d (if st d = st (d + 1) then 1 else 0)) ce pk pv pr w key pl dn tk 0) := by (first | rw [if_neg h119] | rw [if_pos h119]); exact hD
    exact zVret (w' := fun (_ : Unit) => (eW A C n ops nums vc vals (d + 1) (vp_updL st d (if st d = st (d + 1) then 1 else 0)) ce pk pv pr w key pl dn tk 0)) () hx hb hr hlk hS hK trivial hP hD dE_combine_133

set_option maxRecDepth 20000 in
set_option maxHeartbeats 4000000 in
theorem c_combine6_low (l : Launch) (D : va_G) (A : Nat → Nat) (C : Nat → ClassId) (sz : Nat) (n : Nat) (ops : Nat → Int32) (nums : Nat → Int64) (vc : Nat) (vals : Nat → Int64) (d : Nat) (st : Nat → Int64) (ce : Nat → Int64) (pk : Nat → Int64) (pv : Nat → Int64) (pr : Nat) (w : Nat) (key : Int64) (pl : Nat) (dn : Nat) (tk : Nat) (tr : Nat) (hd : d ≤ 12) (hpl : pl ≤ 40) (h0 : d < 2) : Met l yE_combine (.code yE_combine cE_combine 6 none :: WS) (rmk 2 46) (va_Pc [.ref (A 0), .int (nI 6)] (zP D (eT C) sz (eW A C n ops nums vc vals d st ce pk pv pr w key pl dn tk 0))) (va_Qv (fun u : Nat × (Nat → Int64) × Nat => u.1 ≤ 12 ∧ u.2.2 ≤ 40) (fun (u : Nat × (Nat → Int64) × Nat) t => zB D (eT C) (va_A (eW A C n ops nums vc vals d st ce pk pv pr w key pl dn tk 0) sz) (eW A C n ops nums vc vals u.1 u.2.1 ce pk pv pr w key u.2.2 dn tk 1) t) (va_A (eW A C n ops nums vc vals d st ce pk pv pr w key pl dn tk 0) sz)) 0 0 (va_A (eW A C n ops nums vc vals d st ce pk pv pr w key pl dn tk 0) sz) := by
  refine zEnt (Qc := fun F => (va_Qv (fun u : Nat × (Nat → Int64) × Nat => u.1 ≤ 12 ∧ u.2.2 ≤ 40) (fun (u : Nat × (Nat → Int64) × Nat) t => zB D (eT C) F (eW A C n ops nums vc vals u.1 u.2.1 ce pk pv pr w key u.2.2 dn tk 1) t) F)) (by decide) (Nat.le_of_ble_eq_true rfl) (fun p e s m below meth c ls F hx hb hr hlk hml hnm hw hown hsz hP hK hD hA hl => ?_)
  have hS : va_S F s.heap s.heap [] := va_S.rf
  have hown : s.vm.findClass RE = some m.cls := hown
  have hl : lv_has ls 6 [(0, .ref (A 0)), (1, .int (nI 6))] := hl
  refine lv_aload_n hx hb dE_combine_0 rfl (lv_at hl 0 rfl) ?_
  refine zAftl0 (zRunV0 ⟨hx, hb, hml, hown, hw⟩ (c_pop l D A C _ n ops nums vc vals d st ce pk pv pr w key pl dn tk 0 (by omega)) wm_E_136 wi_E_pop ws_E_pop wn_E wc_E_pop ⟨rfl, rfl⟩ wd_E_pop ⟨by decide, by decide⟩ hK hP hD 0 rfl rfl rfl hl.1 rfl (Nat.le_of_ble_eq_true rfl) dE_combine_1 ⟨by decide, by decide⟩) hP hD hS hA (fun r u H locs hp hP hD hS => ?_)
  replace hP : va_P D vwCl (eW A C n ops nums vc vals (d - 1) st ce pk pv pr w key pl dn tk (qT d 0)) H := hP
  replace hD : va_D F (eW A C n ops nums vc vals (d - 1) st ce pk pv pr w key pl dn tk (qT d 0)) := hD
  subst hp
  refine lv_lstore_n hx hb dE_combine_4 rfl hl (by decide) rfl (fun ls hl => ?_)
  have hl : lv_has ls 6 [(2, .long (qV d st)), (0, .ref (A 0)), (1, .int (nI 6))] := hl
  refine lv_aload_n hx hb dE_combine_5 rfl (lv_at hl 1 rfl) ?_
  refine zAftl0 (zRunV0 ⟨hx, hb, hml, hown, hw⟩ (c_pop l D A C _ n ops nums vc vals (d - 1) st ce pk pv pr w key pl dn tk (qT d 0) (by omega)) wm_E_136 wi_E_pop ws_E_pop wn_E wc_E_pop ⟨rfl, rfl⟩ wd_E_pop ⟨by decide, by decide⟩ hK hP hD 0 rfl rfl rfl hl.1 rfl (Nat.le_of_ble_eq_true rfl) dE_combine_6 ⟨by decide, by decide⟩) hP hD hS hA (fun r u H locs hp hP hD hS => ?_)
  replace hP : va_P D vwCl (eW A C n ops nums vc vals (d - 1 - 1) st ce pk pv pr w key pl dn tk (qT (d - 1) (qT d 0))) H := hP
  replace hD : va_D F (eW A C n ops nums vc vals (d - 1 - 1) st ce pk pv pr w key pl dn tk (qT (d - 1) (qT d 0))) := hD
  subst hp
  refine lv_lstore hx hb dE_combine_9 hl (by decide) rfl (fun ls hl => ?_)
  have hl : lv_has ls 6 [(4, .long (qV (d - 1) st)), (2, .long (qV d st)), (0, .ref (A 0)), (1, .int (nI 6))] := hl
  refine lv_iload_n hx hb dE_combine_11 rfl (lv_at hl 3 rfl) ?_
  refine lv_tableIn (off := 40) (tgt := 52) hx hb dE_combine_12 (by decide) (by decide) (by decide) rfl ?_
  refine lv_aload_n hx hb dE_combine_52 rfl (lv_at hl 2 rfl) ?_
  refine lv_lload hx hb dE_combine_53 (lv_at hl 0 rfl) ?_
  refine lv_lload_n hx hb dE_combine_55 rfl (lv_at hl 1 rfl) ?_
  refine lv_ladd hx hb dE_combine_56 ?_
  refine zAftv0 (zRunV0 ⟨hx, hb, hml, hown, hw⟩ (c_push l D A C _ n ops nums vc vals (d - 1 - 1) st ce pk pv pr w key pl dn tk (qT (d - 1) (qT d 0)) ((qV (d - 1) st) + (qV d st)) (by omega)) wm_E_119 wi_E_push ws_E_push wn_E wc_E_push ⟨rfl, rfl⟩ wd_E_push ⟨by decide, by decide⟩ hK hP hD 0 rfl rfl rfl hl.1 rfl (Nat.le_of_ble_eq_true rfl) dE_combine_57 ⟨by decide, by decide⟩) hP hD hS hA (fun u H locs hp hP hD hS => ?_)
  replace hP : va_P D vwCl (eW A C n ops nums vc vals (pD (d - 1 - 1)) (pS ((qV (d - 1) st) + (qV d st)) (d - 1 - 1) st) ce pk pv pr w key pl dn tk (pT (d - 1 - 1) (qT (d - 1) (qT d 0)))) H := hP
  replace hD : va_D F (eW A C n ops nums vc vals (pD (d - 1 - 1)) (pS ((qV (d - 1) st) + (qV d st)) (d - 1 - 1) st) ce pk pv pr w key pl dn tk (pT (d - 1 - 1) (qT (d - 1) (qT d 0)))) := hD
  refine lv_goto (tgt := 133) hx hb dE_combine_60 rfl ?_
  have e9 : (pT (d - 1 - 1) (qT (d - 1) (qT d 0))) = 1 := by simp only [pT, qT, pD]; (repeat' split) <;> omega
  rw [e9] at hP hD
  exact zVret (w' := fun (u : Nat × (Nat → Int64) × Nat) => (eW A C n ops nums vc vals u.1 u.2.1 ce pk pv pr w key u.2.2 dn tk 1)) (pD (d - 1 - 1), pS ((qV (d - 1) st) + (qV d st)) (d - 1 - 1) st, pl) hx hb hr hlk hS hK ⟨by simp only [pD]; (repeat' split) <;> omega, by omega⟩ hP hD dE_combine_133

set_option maxRecDepth 20000 in
set_option maxHeartbeats 4000000 in
theorem c_combine7_low (l : Launch) (D : va_G) (A : Nat → Nat) (C : Nat → ClassId) (sz : Nat) (n : Nat) (ops : Nat → Int32) (nums : Nat → Int64) (vc : Nat) (vals : Nat → Int64) (d : Nat) (st : Nat → Int64) (ce : Nat → Int64) (pk : Nat → Int64) (pv : Nat → Int64) (pr : Nat) (w : Nat) (key : Int64) (pl : Nat) (dn : Nat) (tk : Nat) (tr : Nat) (hd : d ≤ 12) (hpl : pl ≤ 40) (h0 : d < 2) : Met l yE_combine (.code yE_combine cE_combine 6 none :: WS) (rmk 2 46) (va_Pc [.ref (A 0), .int (nI 7)] (zP D (eT C) sz (eW A C n ops nums vc vals d st ce pk pv pr w key pl dn tk 0))) (va_Qv (fun u : Nat × (Nat → Int64) × Nat => u.1 ≤ 12 ∧ u.2.2 ≤ 40) (fun (u : Nat × (Nat → Int64) × Nat) t => zB D (eT C) (va_A (eW A C n ops nums vc vals d st ce pk pv pr w key pl dn tk 0) sz) (eW A C n ops nums vc vals u.1 u.2.1 ce pk pv pr w key u.2.2 dn tk 1) t) (va_A (eW A C n ops nums vc vals d st ce pk pv pr w key pl dn tk 0) sz)) 0 0 (va_A (eW A C n ops nums vc vals d st ce pk pv pr w key pl dn tk 0) sz) := by
  refine zEnt (Qc := fun F => (va_Qv (fun u : Nat × (Nat → Int64) × Nat => u.1 ≤ 12 ∧ u.2.2 ≤ 40) (fun (u : Nat × (Nat → Int64) × Nat) t => zB D (eT C) F (eW A C n ops nums vc vals u.1 u.2.1 ce pk pv pr w key u.2.2 dn tk 1) t) F)) (by decide) (Nat.le_of_ble_eq_true rfl) (fun p e s m below meth c ls F hx hb hr hlk hml hnm hw hown hsz hP hK hD hA hl => ?_)
  have hS : va_S F s.heap s.heap [] := va_S.rf
  have hown : s.vm.findClass RE = some m.cls := hown
  have hl : lv_has ls 6 [(0, .ref (A 0)), (1, .int (nI 7))] := hl
  refine lv_aload_n hx hb dE_combine_0 rfl (lv_at hl 0 rfl) ?_
  refine zAftl0 (zRunV0 ⟨hx, hb, hml, hown, hw⟩ (c_pop l D A C _ n ops nums vc vals d st ce pk pv pr w key pl dn tk 0 (by omega)) wm_E_136 wi_E_pop ws_E_pop wn_E wc_E_pop ⟨rfl, rfl⟩ wd_E_pop ⟨by decide, by decide⟩ hK hP hD 0 rfl rfl rfl hl.1 rfl (Nat.le_of_ble_eq_true rfl) dE_combine_1 ⟨by decide, by decide⟩) hP hD hS hA (fun r u H locs hp hP hD hS => ?_)
  replace hP : va_P D vwCl (eW A C n ops nums vc vals (d - 1) st ce pk pv pr w key pl dn tk (qT d 0)) H := hP
  replace hD : va_D F (eW A C n ops nums vc vals (d - 1) st ce pk pv pr w key pl dn tk (qT d 0)) := hD
  subst hp
  refine lv_lstore_n hx hb dE_combine_4 rfl hl (by decide) rfl (fun ls hl => ?_)
  have hl : lv_has ls 6 [(2, .long (qV d st)), (0, .ref (A 0)), (1, .int (nI 7))] := hl
  refine lv_aload_n hx hb dE_combine_5 rfl (lv_at hl 1 rfl) ?_
  refine zAftl0 (zRunV0 ⟨hx, hb, hml, hown, hw⟩ (c_pop l D A C _ n ops nums vc vals (d - 1) st ce pk pv pr w key pl dn tk (qT d 0) (by omega)) wm_E_136 wi_E_pop ws_E_pop wn_E wc_E_pop ⟨rfl, rfl⟩ wd_E_pop ⟨by decide, by decide⟩ hK hP hD 0 rfl rfl rfl hl.1 rfl (Nat.le_of_ble_eq_true rfl) dE_combine_6 ⟨by decide, by decide⟩) hP hD hS hA (fun r u H locs hp hP hD hS => ?_)
  replace hP : va_P D vwCl (eW A C n ops nums vc vals (d - 1 - 1) st ce pk pv pr w key pl dn tk (qT (d - 1) (qT d 0))) H := hP
  replace hD : va_D F (eW A C n ops nums vc vals (d - 1 - 1) st ce pk pv pr w key pl dn tk (qT (d - 1) (qT d 0))) := hD
  subst hp
  refine lv_lstore hx hb dE_combine_9 hl (by decide) rfl (fun ls hl => ?_)
  have hl : lv_has ls 6 [(4, .long (qV (d - 1) st)), (2, .long (qV d st)), (0, .ref (A 0)), (1, .int (nI 7))] := hl
  refine lv_iload_n hx hb dE_combine_11 rfl (lv_at hl 3 rfl) ?_
  refine lv_tableIn (off := 51) (tgt := 63) hx hb dE_combine_12 (by decide) (by decide) (by decide) rfl ?_
  refine lv_aload_n hx hb dE_combine_63 rfl (lv_at hl 2 rfl) ?_
  refine lv_lload hx hb dE_combine_64 (lv_at hl 0 rfl) ?_
  refine lv_lload_n hx hb dE_combine_66 rfl (lv_at hl 1 rfl) ?_
  refine lv_lsub hx hb dE_combine_67 ?_
  refine zAftv0 (zRunV0 ⟨hx, hb, hml, hown, hw⟩ (c_push l D A C _ n ops nums vc vals (d - 1 - 1) st ce pk pv pr w key pl dn tk (qT (d - 1) (qT d 0)) ((qV (d - 1) st) - (qV d st)) (by omega)) wm_E_119 wi_E_push ws_E_push wn_E wc_E_push ⟨rfl, rfl⟩ wd_E_push ⟨by decide, by decide⟩ hK hP hD 0 rfl rfl rfl hl.1 rfl (Nat.le_of_ble_eq_true rfl) dE_combine_68 ⟨by decide, by decide⟩) hP hD hS hA (fun u H locs hp hP hD hS => ?_)
  replace hP : va_P D vwCl (eW A C n ops nums vc vals (pD (d - 1 - 1)) (pS ((qV (d - 1) st) - (qV d st)) (d - 1 - 1) st) ce pk pv pr w key pl dn tk (pT (d - 1 - 1) (qT (d - 1) (qT d 0)))) H := hP
  replace hD : va_D F (eW A C n ops nums vc vals (pD (d - 1 - 1)) (pS ((qV (d - 1) st) - (qV d st)) (d - 1 - 1) st) ce pk pv pr w key pl dn tk (pT (d - 1 - 1) (qT (d - 1) (qT d 0)))) := hD
  refine lv_goto (tgt := 133) hx hb dE_combine_71 rfl ?_
  have e9 : (pT (d - 1 - 1) (qT (d - 1) (qT d 0))) = 1 := by simp only [pT, qT, pD]; (repeat' split) <;> omega
  rw [e9] at hP hD
  exact zVret (w' := fun (u : Nat × (Nat → Int64) × Nat) => (eW A C n ops nums vc vals u.1 u.2.1 ce pk pv pr w key u.2.2 dn tk 1)) (pD (d - 1 - 1), pS ((qV (d - 1) st) - (qV d st)) (d - 1 - 1) st, pl) hx hb hr hlk hS hK ⟨by simp only [pD]; (repeat' split) <;> omega, by omega⟩ hP hD dE_combine_133

set_option maxRecDepth 20000 in
set_option maxHeartbeats 4000000 in
theorem c_combine8_low (l : Launch) (D : va_G) (A : Nat → Nat) (C : Nat → ClassId) (sz : Nat) (n : Nat) (ops : Nat → Int32) (nums : Nat → Int64) (vc : Nat) (vals : Nat → Int64) (d : Nat) (st : Nat → Int64) (ce : Nat → Int64) (pk : Nat → Int64) (pv : Nat → Int64) (pr : Nat) (w : Nat) (key : Int64) (pl : Nat) (dn : Nat) (tk : Nat) (tr : Nat) (hd : d ≤ 12) (hpl : pl ≤ 40) (h0 : d < 2) : Met l yE_combine (.code yE_combine cE_combine 6 none :: WS) (rmk 2 46) (va_Pc [.ref (A 0), .int (nI 8)] (zP D (eT C) sz (eW A C n ops nums vc vals d st ce pk pv pr w key pl dn tk 0))) (va_Qv (fun u : Nat × (Nat → Int64) × Nat => u.1 ≤ 12 ∧ u.2.2 ≤ 40) (fun (u : Nat × (Nat → Int64) × Nat) t => zB D (eT C) (va_A (eW A C n ops nums vc vals d st ce pk pv pr w key pl dn tk 0) sz) (eW A C n ops nums vc vals u.1 u.2.1 ce pk pv pr w key u.2.2 dn tk 1) t) (va_A (eW A C n ops nums vc vals d st ce pk pv pr w key pl dn tk 0) sz)) 0 0 (va_A (eW A C n ops nums vc vals d st ce pk pv pr w key pl dn tk 0) sz) := by
  refine zEnt (Qc := fun F => (va_Qv (fun u : Nat × (Nat → Int64) × Nat => u.1 ≤ 12 ∧ u.2.2 ≤ 40) (fun (u : Nat × (Nat → Int64) × Nat) t => zB D (eT C) F (eW A C n ops nums vc vals u.1 u.2.1 ce pk pv pr w key u.2.2 dn tk 1) t) F)) (by decide) (Nat.le_of_ble_eq_true rfl) (fun p e s m below meth c ls F hx hb hr hlk hml hnm hw hown hsz hP hK hD hA hl => ?_)
  have hS : va_S F s.heap s.heap [] := va_S.rf
  have hown : s.vm.findClass RE = some m.cls := hown
  have hl : lv_has ls 6 [(0, .ref (A 0)), (1, .int (nI 8))] := hl
  refine lv_aload_n hx hb dE_combine_0 rfl (lv_at hl 0 rfl) ?_
  refine zAftl0 (zRunV0 ⟨hx, hb, hml, hown, hw⟩ (c_pop l D A C _ n ops nums vc vals d st ce pk pv pr w key pl dn tk 0 (by omega)) wm_E_136 wi_E_pop ws_E_pop wn_E wc_E_pop ⟨rfl, rfl⟩ wd_E_pop ⟨by decide, by decide⟩ hK hP hD 0 rfl rfl rfl hl.1 rfl (Nat.le_of_ble_eq_true rfl) dE_combine_1 ⟨by decide, by decide⟩) hP hD hS hA (fun r u H locs hp hP hD hS => ?_)
  replace hP : va_P D vwCl (eW A C n ops nums vc vals (d - 1) st ce pk pv pr w key pl dn tk (qT d 0)) H := hP
  replace hD : va_D F (eW A C n ops nums vc vals (d - 1) st ce pk pv pr w key pl dn tk (qT d 0)) := hD
  subst hp
  refine lv_lstore_n hx hb dE_combine_4 rfl hl (by decide) rfl (fun ls hl => ?_)
  have hl : lv_has ls 6 [(2, .long (qV d st)), (0, .ref (A 0)), (1, .int (nI 8))] := hl
  refine lv_aload_n hx hb dE_combine_5 rfl (lv_at hl 1 rfl) ?_
  refine zAftl0 (zRunV0 ⟨hx, hb, hml, hown, hw⟩ (c_pop l D A C _ n ops nums vc vals (d - 1) st ce pk pv pr w key pl dn tk (qT d 0) (by omega)) wm_E_136 wi_E_pop ws_E_pop wn_E wc_E_pop ⟨rfl, rfl⟩ wd_E_pop ⟨by decide, by decide⟩ hK hP hD 0 rfl rfl rfl hl.1 rfl (Nat.le_of_ble_eq_true rfl) dE_combine_6 ⟨by decide, by decide⟩) hP hD hS hA (fun r u H locs hp hP hD hS => ?_)
  replace hP : va_P D vwCl (eW A C n ops nums vc vals (d - 1 - 1) st ce pk pv pr w key pl dn tk (qT (d - 1) (qT d 0))) H := hP
  replace hD : va_D F (eW A C n ops nums vc vals (d - 1 - 1) st ce pk pv pr w key pl dn tk (qT (d - 1) (qT d 0))) := hD
  subst hp
  refine lv_lstore hx hb dE_combine_9 hl (by decide) rfl (fun ls hl => ?_)
  have hl : lv_has ls 6 [(4, .long (qV (d - 1) st)), (2, .long (qV d st)), (0, .ref (A 0)), (1, .int (nI 8))] := hl
  refine lv_iload_n hx hb dE_combine_11 rfl (lv_at hl 3 rfl) ?_
  refine lv_tableIn (off := 62) (tgt := 74) hx hb dE_combine_12 (by decide) (by decide) (by decide) rfl ?_
  refine lv_aload_n hx hb dE_combine_74 rfl (lv_at hl 2 rfl) ?_
  refine lv_lload hx hb dE_combine_75 (lv_at hl 0 rfl) ?_
  refine lv_lload_n hx hb dE_combine_77 rfl (lv_at hl 1 rfl) ?_
  refine lv_lmul hx hb dE_combine_78 ?_
  refine zAftv0 (zRunV0 ⟨hx, hb, hml, hown, hw⟩ (c_push l D A C _ n ops nums vc vals (d - 1 - 1) st ce pk pv pr w key pl dn tk (qT (d - 1) (qT d 0)) ((qV (d - 1) st) * (qV d st)) (by omega)) wm_E_119 wi_E_push ws_E_push wn_E wc_E_push ⟨rfl, rfl⟩ wd_E_push ⟨by decide, by decide⟩ hK hP hD 0 rfl rfl rfl hl.1 rfl (Nat.le_of_ble_eq_true rfl) dE_combine_79 ⟨by decide, by decide⟩) hP hD hS hA (fun u H locs hp hP hD hS => ?_)
  replace hP : va_P D vwCl (eW A C n ops nums vc vals (pD (d - 1 - 1)) (pS ((qV (d - 1) st) * (qV d st)) (d - 1 - 1) st) ce pk pv pr w key pl dn tk (pT (d - 1 - 1) (qT (d - 1) (qT d 0)))) H := hP
  replace hD : va_D F (eW A C n ops nums vc vals (pD (d - 1 - 1)) (pS ((qV (d - 1) st) * (qV d st)) (d - 1 - 1) st) ce pk pv pr w key pl dn tk (pT (d - 1 - 1) (qT (d - 1) (qT d 0)))) := hD
  refine lv_goto (tgt := 133) hx hb dE_combine_82 rfl ?_
  have e9 : (pT (d - 1 - 1) (qT (d - 1) (qT d 0))) = 1 := by simp only [pT, qT, pD]; (repeat' split) <;> omega
  rw [e9] at hP hD
  exact zVret (w' := fun (u : Nat × (Nat → Int64) × Nat) => (eW A C n ops nums vc vals u.1 u.2.1 ce pk pv pr w key u.2.2 dn tk 1)) (pD (d - 1 - 1), pS ((qV (d - 1) st) * (qV d st)) (d - 1 - 1) st, pl) hx hb hr hlk hS hK ⟨by simp only [pD]; (repeat' split) <;> omega, by omega⟩ hP hD dE_combine_133

set_option maxRecDepth 20000 in
set_option maxHeartbeats 4000000 in
theorem c_combine10_low (l : Launch) (D : va_G) (A : Nat → Nat) (C : Nat → ClassId) (sz : Nat) (n : Nat) (ops : Nat → Int32) (nums : Nat → Int64) (vc : Nat) (vals : Nat → Int64) (d : Nat) (st : Nat → Int64) (ce : Nat → Int64) (pk : Nat → Int64) (pv : Nat → Int64) (pr : Nat) (w : Nat) (key : Int64) (pl : Nat) (dn : Nat) (tk : Nat) (tr : Nat) (hd : d ≤ 12) (hpl : pl ≤ 40) (h0 : d < 2) : Met l yE_combine (.code yE_combine cE_combine 6 none :: WS) (rmk 2 46) (va_Pc [.ref (A 0), .int (nI 10)] (zP D (eT C) sz (eW A C n ops nums vc vals d st ce pk pv pr w key pl dn tk 0))) (va_Qv (fun u : Nat × (Nat → Int64) × Nat => u.1 ≤ 12 ∧ u.2.2 ≤ 40) (fun (u : Nat × (Nat → Int64) × Nat) t => zB D (eT C) (va_A (eW A C n ops nums vc vals d st ce pk pv pr w key pl dn tk 0) sz) (eW A C n ops nums vc vals u.1 u.2.1 ce pk pv pr w key u.2.2 dn tk 1) t) (va_A (eW A C n ops nums vc vals d st ce pk pv pr w key pl dn tk 0) sz)) 0 0 (va_A (eW A C n ops nums vc vals d st ce pk pv pr w key pl dn tk 0) sz) := by
  refine zEnt (Qc := fun F => (va_Qv (fun u : Nat × (Nat → Int64) × Nat => u.1 ≤ 12 ∧ u.2.2 ≤ 40) (fun (u : Nat × (Nat → Int64) × Nat) t => zB D (eT C) F (eW A C n ops nums vc vals u.1 u.2.1 ce pk pv pr w key u.2.2 dn tk 1) t) F)) (by decide) (Nat.le_of_ble_eq_true rfl) (fun p e s m below meth c ls F hx hb hr hlk hml hnm hw hown hsz hP hK hD hA hl => ?_)
  have hS : va_S F s.heap s.heap [] := va_S.rf
  have hown : s.vm.findClass RE = some m.cls := hown
  have hl : lv_has ls 6 [(0, .ref (A 0)), (1, .int (nI 10))] := hl
  refine lv_aload_n hx hb dE_combine_0 rfl (lv_at hl 0 rfl) ?_
  refine zAftl0 (zRunV0 ⟨hx, hb, hml, hown, hw⟩ (c_pop l D A C _ n ops nums vc vals d st ce pk pv pr w key pl dn tk 0 (by omega)) wm_E_136 wi_E_pop ws_E_pop wn_E wc_E_pop ⟨rfl, rfl⟩ wd_E_pop ⟨by decide, by decide⟩ hK hP hD 0 rfl rfl rfl hl.1 rfl (Nat.le_of_ble_eq_true rfl) dE_combine_1 ⟨by decide, by decide⟩) hP hD hS hA (fun r u H locs hp hP hD hS => ?_)
  replace hP : va_P D vwCl (eW A C n ops nums vc vals (d - 1) st ce pk pv pr w key pl dn tk (qT d 0)) H := hP
  replace hD : va_D F (eW A C n ops nums vc vals (d - 1) st ce pk pv pr w key pl dn tk (qT d 0)) := hD
  subst hp
  refine lv_lstore_n hx hb dE_combine_4 rfl hl (by decide) rfl (fun ls hl => ?_)
  have hl : lv_has ls 6 [(2, .long (qV d st)), (0, .ref (A 0)), (1, .int (nI 10))] := hl
  refine lv_aload_n hx hb dE_combine_5 rfl (lv_at hl 1 rfl) ?_
  refine zAftl0 (zRunV0 ⟨hx, hb, hml, hown, hw⟩ (c_pop l D A C _ n ops nums vc vals (d - 1) st ce pk pv pr w key pl dn tk (qT d 0) (by omega)) wm_E_136 wi_E_pop ws_E_pop wn_E wc_E_pop ⟨rfl, rfl⟩ wd_E_pop ⟨by decide, by decide⟩ hK hP hD 0 rfl rfl rfl hl.1 rfl (Nat.le_of_ble_eq_true rfl) dE_combine_6 ⟨by decide, by decide⟩) hP hD hS hA (fun r u H locs hp hP hD hS => ?_)
  replace hP : va_P D vwCl (eW A C n ops nums vc vals (d - 1 - 1) st ce pk pv pr w key pl dn tk (qT (d - 1) (qT d 0))) H := hP
  replace hD : va_D F (eW A C n ops nums vc vals (d - 1 - 1) st ce pk pv pr w key pl dn tk (qT (d - 1) (qT d 0))) := hD
  subst hp
  refine lv_lstore hx hb dE_combine_9 hl (by decide) rfl (fun ls hl => ?_)
  have hl : lv_has ls 6 [(4, .long (qV (d - 1) st)), (2, .long (qV d st)), (0, .ref (A 0)), (1, .int (nI 10))] := hl
  refine lv_iload_n hx hb dE_combine_11 rfl (lv_at hl 3 rfl) ?_
  refine lv_tableIn (off := 83) (tgt := 95) hx hb dE_combine_12 (by decide) (by decide) (by decide) rfl ?_
  refine lv_aload_n hx hb dE_combine_95 rfl (lv_at hl 2 rfl) ?_
  refine lv_lload hx hb dE_combine_96 (lv_at hl 0 rfl) ?_
  refine lv_lload_n hx hb dE_combine_98 rfl (lv_at hl 1 rfl) ?_
  refine W.lcmp hx hb dE_combine_99 ?_
  refine zl_ge (tgt := 107) hx hb dE_combine_100 rfl (fun h100 => ?_) (fun h100 => ?_)
  · refine lv_lconst (v := 0) hx hb dE_combine_107 (by decide) ?_
    refine zAftv0 (zRunV0 ⟨hx, hb, hml, hown, hw⟩ (c_push l D A C _ n ops nums vc vals (d - 1 - 1) st ce pk pv pr w key pl dn tk (qT (d - 1) (qT d 0)) (0 : Int64) (by omega)) wm_E_119 wi_E_push ws_E_push wn_E wc_E_push ⟨rfl, rfl⟩ wd_E_push ⟨by decide, by decide⟩ hK hP hD 0 rfl rfl rfl hl.1 rfl (Nat.le_of_ble_eq_true rfl) dE_combine_108 ⟨by decide, by decide⟩) hP hD hS hA (fun u H locs hp hP hD hS => ?_)
    replace hP : va_P D vwCl (eW A C n ops nums vc vals (pD (d - 1 - 1)) (pS (0 : Int64) (d - 1 - 1) st) ce pk pv pr w key pl dn tk (pT (d - 1 - 1) (qT (d - 1) (qT d 0)))) H := hP
    replace hD : va_D F (eW A C n ops nums vc vals (pD (d - 1 - 1)) (pS (0 : Int64) (d - 1 - 1) st) ce pk pv pr w key pl dn tk (pT (d - 1 - 1) (qT (d - 1) (qT d 0)))) := hD
    refine lv_goto (tgt := 133) hx hb dE_combine_111 rfl ?_
    have e9 : (pT (d - 1 - 1) (qT (d - 1) (qT d 0))) = 1 := by simp only [pT, qT, pD]; (repeat' split) <;> omega
    rw [e9] at hP hD
    exact zVret (w' := fun (u : Nat × (Nat → Int64) × Nat) => (eW A C n ops nums vc vals u.1 u.2.1 ce pk pv pr w key u.2.2 dn tk 1)) (pD (d - 1 - 1), pS (0 : Int64) (d - 1 - 1) st, pl) hx hb hr hlk hS hK ⟨by simp only [pD]; (repeat' split) <;> omega, by omega⟩ hP hD dE_combine_133
  · refine lv_lconst (v := 1) hx hb dE_combine_103 (by decide) ?_
    refine lv_goto (tgt := 108) hx hb dE_combine_104 rfl ?_
    refine zAftv0 (zRunV0 ⟨hx, hb, hml, hown, hw⟩ (c_push l D A C _ n ops nums vc vals (d - 1 - 1) st ce pk pv pr w key pl dn tk (qT (d - 1) (qT d 0)) (1 : Int64) (by omega)) wm_E_119 wi_E_push ws_E_push wn_E wc_E_push ⟨rfl, rfl⟩ wd_E_push ⟨by decide, by decide⟩ hK hP hD 0 rfl rfl rfl hl.1 rfl (Nat.le_of_ble_eq_true rfl) dE_combine_108 ⟨by decide, by decide⟩) hP hD hS hA (fun u H locs hp hP hD hS => ?_)
    replace hP : va_P D vwCl (eW A C n ops nums vc vals (pD (d - 1 - 1)) (pS (1 : Int64) (d - 1 - 1) st) ce pk pv pr w key pl dn tk (pT (d - 1 - 1) (qT (d - 1) (qT d 0)))) H := hP
    replace hD : va_D F (eW A C n ops nums vc vals (pD (d - 1 - 1)) (pS (1 : Int64) (d - 1 - 1) st) ce pk pv pr w key pl dn tk (pT (d - 1 - 1) (qT (d - 1) (qT d 0)))) := hD
    refine lv_goto (tgt := 133) hx hb dE_combine_111 rfl ?_
    have e9 : (pT (d - 1 - 1) (qT (d - 1) (qT d 0))) = 1 := by simp only [pT, qT, pD]; (repeat' split) <;> omega
    rw [e9] at hP hD
    exact zVret (w' := fun (u : Nat × (Nat → Int64) × Nat) => (eW A C n ops nums vc vals u.1 u.2.1 ce pk pv pr w key u.2.2 dn tk 1)) (pD (d - 1 - 1), pS (1 : Int64) (d - 1 - 1) st, pl) hx hb hr hlk hS hK ⟨by simp only [pD]; (repeat' split) <;> omega, by omega⟩ hP hD dE_combine_133

set_option maxRecDepth 20000 in
set_option maxHeartbeats 4000000 in
theorem c_combine11_low (l : Launch) (D : va_G) (A : Nat → Nat) (C : Nat → ClassId) (sz : Nat) (n : Nat) (ops : Nat → Int32) (nums : Nat → Int64) (vc : Nat) (vals : Nat → Int64) (d : Nat) (st : Nat → Int64) (ce : Nat → Int64) (pk : Nat → Int64) (pv : Nat → Int64) (pr : Nat) (w : Nat) (key : Int64) (pl : Nat) (dn : Nat) (tk : Nat) (tr : Nat) (hd : d ≤ 12) (hpl : pl ≤ 40) (h0 : d < 2) : Met l yE_combine (.code yE_combine cE_combine 6 none :: WS) (rmk 2 46) (va_Pc [.ref (A 0), .int (nI 11)] (zP D (eT C) sz (eW A C n ops nums vc vals d st ce pk pv pr w key pl dn tk 0))) (va_Qv (fun u : Nat × (Nat → Int64) × Nat => u.1 ≤ 12 ∧ u.2.2 ≤ 40) (fun (u : Nat × (Nat → Int64) × Nat) t => zB D (eT C) (va_A (eW A C n ops nums vc vals d st ce pk pv pr w key pl dn tk 0) sz) (eW A C n ops nums vc vals u.1 u.2.1 ce pk pv pr w key u.2.2 dn tk 1) t) (va_A (eW A C n ops nums vc vals d st ce pk pv pr w key pl dn tk 0) sz)) 0 0 (va_A (eW A C n ops nums vc vals d st ce pk pv pr w key pl dn tk 0) sz) := by
  refine zEnt (Qc := fun F => (va_Qv (fun u : Nat × (Nat → Int64) × Nat => u.1 ≤ 12 ∧ u.2.2 ≤ 40) (fun (u : Nat × (Nat → Int64) × Nat) t => zB D (eT C) F (eW A C n ops nums vc vals u.1 u.2.1 ce pk pv pr w key u.2.2 dn tk 1) t) F)) (by decide) (Nat.le_of_ble_eq_true rfl) (fun p e s m below meth c ls F hx hb hr hlk hml hnm hw hown hsz hP hK hD hA hl => ?_)
  have hS : va_S F s.heap s.heap [] := va_S.rf
  have hown : s.vm.findClass RE = some m.cls := hown
  have hl : lv_has ls 6 [(0, .ref (A 0)), (1, .int (nI 11))] := hl
  refine lv_aload_n hx hb dE_combine_0 rfl (lv_at hl 0 rfl) ?_
  refine zAftl0 (zRunV0 ⟨hx, hb, hml, hown, hw⟩ (c_pop l D A C _ n ops nums vc vals d st ce pk pv pr w key pl dn tk 0 (by omega)) wm_E_136 wi_E_pop ws_E_pop wn_E wc_E_pop ⟨rfl, rfl⟩ wd_E_pop ⟨by decide, by decide⟩ hK hP hD 0 rfl rfl rfl hl.1 rfl (Nat.le_of_ble_eq_true rfl) dE_combine_1 ⟨by decide, by decide⟩) hP hD hS hA (fun r u H locs hp hP hD hS => ?_)
  replace hP : va_P D vwCl (eW A C n ops nums vc vals (d - 1) st ce pk pv pr w key pl dn tk (qT d 0)) H := hP
  replace hD : va_D F (eW A C n ops nums vc vals (d - 1) st ce pk pv pr w key pl dn tk (qT d 0)) := hD
  subst hp
  refine lv_lstore_n hx hb dE_combine_4 rfl hl (by decide) rfl (fun ls hl => ?_)
  have hl : lv_has ls 6 [(2, .long (qV d st)), (0, .ref (A 0)), (1, .int (nI 11))] := hl
  refine lv_aload_n hx hb dE_combine_5 rfl (lv_at hl 1 rfl) ?_
  refine zAftl0 (zRunV0 ⟨hx, hb, hml, hown, hw⟩ (c_pop l D A C _ n ops nums vc vals (d - 1) st ce pk pv pr w key pl dn tk (qT d 0) (by omega)) wm_E_136 wi_E_pop ws_E_pop wn_E wc_E_pop ⟨rfl, rfl⟩ wd_E_pop ⟨by decide, by decide⟩ hK hP hD 0 rfl rfl rfl hl.1 rfl (Nat.le_of_ble_eq_true rfl) dE_combine_6 ⟨by decide, by decide⟩) hP hD hS hA (fun r u H locs hp hP hD hS => ?_)
  replace hP : va_P D vwCl (eW A C n ops nums vc vals (d - 1 - 1) st ce pk pv pr w key pl dn tk (qT (d - 1) (qT d 0))) H := hP
  replace hD : va_D F (eW A C n ops nums vc vals (d - 1 - 1) st ce pk pv pr w key pl dn tk (qT (d - 1) (qT d 0))) := hD
  subst hp
  refine lv_lstore hx hb dE_combine_9 hl (by decide) rfl (fun ls hl => ?_)
  have hl : lv_has ls 6 [(4, .long (qV (d - 1) st)), (2, .long (qV d st)), (0, .ref (A 0)), (1, .int (nI 11))] := hl
  refine lv_iload_n hx hb dE_combine_11 rfl (lv_at hl 3 rfl) ?_
  refine lv_tableIn (off := 102) (tgt := 114) hx hb dE_combine_12 (by decide) (by decide) (by decide) rfl ?_
  refine lv_aload_n hx hb dE_combine_114 rfl (lv_at hl 2 rfl) ?_
  refine lv_lload hx hb dE_combine_115 (lv_at hl 0 rfl) ?_
  refine lv_lload_n hx hb dE_combine_117 rfl (lv_at hl 1 rfl) ?_
  refine W.lcmp hx hb dE_combine_118 ?_
  refine zl_ne (tgt := 126) hx hb dE_combine_119 rfl (fun h119 => ?_) (fun h119 => ?_)
  · refine lv_lconst (v := 0) hx hb dE_combine_126 (by decide) ?_
    refine zAftv0 (zRunV0 ⟨hx, hb, hml, hown, hw⟩ (c_push l D A C _ n ops nums vc vals (d - 1 - 1) st ce pk pv pr w key pl dn tk (qT (d - 1) (qT d 0)) (0 : Int64) (by omega)) wm_E_119 wi_E_push ws_E_push wn_E wc_E_push ⟨rfl, rfl⟩ wd_E_push ⟨by decide, by decide⟩ hK hP hD 0 rfl rfl rfl hl.1 rfl (Nat.le_of_ble_eq_true rfl) dE_combine_127 ⟨by decide, by decide⟩) hP hD hS hA (fun u H locs hp hP hD hS => ?_)
    replace hP : va_P D vwCl (eW A C n ops nums vc vals (pD (d - 1 - 1)) (pS (0 : Int64) (d - 1 - 1) st) ce pk pv pr w key pl dn tk (pT (d - 1 - 1) (qT (d - 1) (qT d 0)))) H := hP
    replace hD : va_D F (eW A C n ops nums vc vals (pD (d - 1 - 1)) (pS (0 : Int64) (d - 1 - 1) st) ce pk pv pr w key pl dn tk (pT (d - 1 - 1) (qT (d - 1) (qT d 0)))) := hD
    refine lv_goto (tgt := 133) hx hb dE_combine_130 rfl ?_
    have e9 : (pT (d - 1 - 1) (qT (d - 1) (qT d 0))) = 1 := by simp only [pT, qT, pD]; (repeat' split) <;> omega
    rw [e9] at hP hD
    exact zVret (w' := fun (u : Nat × (Nat → Int64) × Nat) => (eW A C n ops nums vc vals u.1 u.2.1 ce pk pv pr w key u.2.2 dn tk 1)) (pD (d - 1 - 1), pS (0 : Int64) (d - 1 - 1) st, pl) hx hb hr hlk hS hK ⟨by simp only [pD]; (repeat' split) <;> omega, by omega⟩ hP hD dE_combine_133
  · refine lv_lconst (v := 1) hx hb dE_combine_122 (by decide) ?_
    refine lv_goto (tgt := 127) hx hb dE_combine_123 rfl ?_
    refine zAftv0 (zRunV0 ⟨hx, hb, hml, hown, hw⟩ (c_push l D A C _ n ops nums vc vals (d - 1 - 1) st ce pk pv pr w key pl dn tk (qT (d - 1) (qT d 0)) (1 : Int64) (by omega)) wm_E_119 wi_E_push ws_E_push wn_E wc_E_push ⟨rfl, rfl⟩ wd_E_push ⟨by decide, by decide⟩ hK hP hD 0 rfl rfl rfl hl.1 rfl (Nat.le_of_ble_eq_true rfl) dE_combine_127 ⟨by decide, by decide⟩) hP hD hS hA (fun u H locs hp hP hD hS => ?_)
    replace hP : va_P D vwCl (eW A C n ops nums vc vals (pD (d - 1 - 1)) (pS (1 : Int64) (d - 1 - 1) st) ce pk pv pr w key pl dn tk (pT (d - 1 - 1) (qT (d - 1) (qT d 0)))) H := hP
    replace hD : va_D F (eW A C n ops nums vc vals (pD (d - 1 - 1)) (pS (1 : Int64) (d - 1 - 1) st) ce pk pv pr w key pl dn tk (pT (d - 1 - 1) (qT (d - 1) (qT d 0)))) := hD
    refine lv_goto (tgt := 133) hx hb dE_combine_130 rfl ?_
    have e9 : (pT (d - 1 - 1) (qT (d - 1) (qT d 0))) = 1 := by simp only [pT, qT, pD]; (repeat' split) <;> omega
    rw [e9] at hP hD
    exact zVret (w' := fun (u : Nat × (Nat → Int64) × Nat) => (eW A C n ops nums vc vals u.1 u.2.1 ce pk pv pr w key u.2.2 dn tk 1)) (pD (d - 1 - 1), pS (1 : Int64) (d - 1 - 1) st, pl) hx hb hr hlk hS hK ⟨by simp only [pD]; (repeat' split) <;> omega, by omega⟩ hP hD dE_combine_133

set_option maxRecDepth 20000 in
set_option maxHeartbeats 4000000 in
theorem c_combine9_low (l : Launch) (D : va_G) (A : Nat → Nat) (C : Nat → ClassId) (sz : Nat) (n : Nat) (ops : Nat → Int32) (nums : Nat → Int64) (vc : Nat) (vals : Nat → Int64) (d : Nat) (st : Nat → Int64) (ce : Nat → Int64) (pk : Nat → Int64) (pv : Nat → Int64) (pr : Nat) (w : Nat) (key : Int64) (pl : Nat) (dn : Nat) (tk : Nat) (tr : Nat) (hd : d ≤ 12) (hpl : pl ≤ 40) (h0 : d < 2) : Met l yE_combine (.code yE_combine cE_combine 6 none :: WS) (rmk 2 46) (va_Pc [.ref (A 0), .int (nI 9)] (zP D (eT C) sz (eW A C n ops nums vc vals d st ce pk pv pr w key pl dn tk 0))) (va_Qv (fun u : Nat × (Nat → Int64) × Nat => u.1 ≤ 12 ∧ u.2.2 ≤ 40) (fun (u : Nat × (Nat → Int64) × Nat) t => zB D (eT C) (va_A (eW A C n ops nums vc vals d st ce pk pv pr w key pl dn tk 0) sz) (eW A C n ops nums vc vals u.1 u.2.1 ce pk pv pr w key u.2.2 dn tk 1) t) (va_A (eW A C n ops nums vc vals d st ce pk pv pr w key pl dn tk 0) sz)) 0 0 (va_A (eW A C n ops nums vc vals d st ce pk pv pr w key pl dn tk 0) sz) := by
  refine zEnt (Qc := fun F => (va_Qv (fun u : Nat × (Nat → Int64) × Nat => u.1 ≤ 12 ∧ u.2.2 ≤ 40) (fun (u : Nat × (Nat → Int64) × Nat) t => zB D (eT C) F (eW A C n ops nums vc vals u.1 u.2.1 ce pk pv pr w key u.2.2 dn tk 1) t) F)) (by decide) (Nat.le_of_ble_eq_true rfl) (fun p e s m below meth c ls F hx hb hr hlk hml hnm hw hown hsz hP hK hD hA hl => ?_)
  have hS : va_S F s.heap s.heap [] := va_S.rf
  have hown : s.vm.findClass RE = some m.cls := hown
  have hl : lv_has ls 6 [(0, .ref (A 0)), (1, .int (nI 9))] := hl
  refine lv_aload_n hx hb dE_combine_0 rfl (lv_at hl 0 rfl) ?_
  refine zAftl0 (zRunV0 ⟨hx, hb, hml, hown, hw⟩ (c_pop l D A C _ n ops nums vc vals d st ce pk pv pr w key pl dn tk 0 (by omega)) wm_E_136 wi_E_pop ws_E_pop wn_E wc_E_pop ⟨rfl, rfl⟩ wd_E_pop ⟨by decide, by decide⟩ hK hP hD 0 rfl rfl rfl hl.1 rfl (Nat.le_of_ble_eq_true rfl) dE_combine_1 ⟨by decide, by decide⟩) hP hD hS hA (fun r u H locs hp hP hD hS => ?_)
  replace hP : va_P D vwCl (eW A C n ops nums vc vals (d - 1) st ce pk pv pr w key pl dn tk (qT d 0)) H := hP
  replace hD : va_D F (eW A C n ops nums vc vals (d - 1) st ce pk pv pr w key pl dn tk (qT d 0)) := hD
  subst hp
  refine lv_lstore_n hx hb dE_combine_4 rfl hl (by decide) rfl (fun ls hl => ?_)
  have hl : lv_has ls 6 [(2, .long (qV d st)), (0, .ref (A 0)), (1, .int (nI 9))] := hl
  refine lv_aload_n hx hb dE_combine_5 rfl (lv_at hl 1 rfl) ?_
  refine zAftl0 (zRunV0 ⟨hx, hb, hml, hown, hw⟩ (c_pop l D A C _ n ops nums vc vals (d - 1) st ce pk pv pr w key pl dn tk (qT d 0) (by omega)) wm_E_136 wi_E_pop ws_E_pop wn_E wc_E_pop ⟨rfl, rfl⟩ wd_E_pop ⟨by decide, by decide⟩ hK hP hD 0 rfl rfl rfl hl.1 rfl (Nat.le_of_ble_eq_true rfl) dE_combine_6 ⟨by decide, by decide⟩) hP hD hS hA (fun r u H locs hp hP hD hS => ?_)
  replace hP : va_P D vwCl (eW A C n ops nums vc vals (d - 1 - 1) st ce pk pv pr w key pl dn tk (qT (d - 1) (qT d 0))) H := hP
  replace hD : va_D F (eW A C n ops nums vc vals (d - 1 - 1) st ce pk pv pr w key pl dn tk (qT (d - 1) (qT d 0))) := hD
  subst hp
  refine lv_lstore hx hb dE_combine_9 hl (by decide) rfl (fun ls hl => ?_)
  have hl : lv_has ls 6 [(4, .long (qV (d - 1) st)), (2, .long (qV d st)), (0, .ref (A 0)), (1, .int (nI 9))] := hl
  refine lv_iload_n hx hb dE_combine_11 rfl (lv_at hl 3 rfl) ?_
  refine lv_tableIn (off := 73) (tgt := 85) hx hb dE_combine_12 (by decide) (by decide) (by decide) rfl ?_
  refine lv_aload_n hx hb dE_combine_85 rfl (lv_at hl 2 rfl) ?_
  refine lv_lload hx hb dE_combine_86 (lv_at hl 0 rfl) ?_
  refine lv_lload_n hx hb dE_combine_88 rfl (lv_at hl 1 rfl) ?_
  by_cases hy : (qV d st) = 0
  · refine zAftv0 (zRunV0 ⟨hx, hb, hml, hown, hw⟩ (c_divide_zero l D A C _ n ops nums vc vals (d - 1 - 1) st ce pk pv pr w key pl dn tk (qT (d - 1) (qT d 0)) (qV (d - 1) st) (qV d st) hy) wm_E_152 wi_E_divide ws_E_divide wn_E wc_E_divide ⟨rfl, rfl⟩ wd_E_divide ⟨by decide, by decide⟩ hK hP hD 0 rfl rfl rfl hl.1 rfl (Nat.le_of_ble_eq_true rfl) dE_combine_89 ⟨by decide, by decide⟩) hP hD hS hA (fun u H locs hp hP hD hS => ?_)
    replace hP : va_P D vwCl (eW A C n ops nums vc vals (d - 1 - 1) st ce pk pv pr w key pl dn tk 1) H := hP
    replace hD : va_D F (eW A C n ops nums vc vals (d - 1 - 1) st ce pk pv pr w key pl dn tk 1) := hD
    refine lv_goto (tgt := 133) hx hb dE_combine_92 rfl ?_
    exact zVret (w' := fun (u : Nat × (Nat → Int64) × Nat) => (eW A C n ops nums vc vals u.1 u.2.1 ce pk pv pr w key u.2.2 dn tk 1)) (d - 1 - 1, st, pl) hx hb hr hlk hS hK ⟨by omega, by omega⟩ hP hD dE_combine_133
  · refine zAftv0 (zRunV0 ⟨hx, hb, hml, hown, hw⟩ (c_divide_any l D A C _ n ops nums vc vals (d - 1 - 1) st ce pk pv pr w key pl dn tk (qT (d - 1) (qT d 0)) (qV (d - 1) st) (qV d st) (by omega) hy) wm_E_152 wi_E_divide ws_E_divide wn_E wc_E_divide ⟨rfl, rfl⟩ wd_E_divide ⟨by decide, by decide⟩ hK hP hD 0 rfl rfl rfl hl.1 rfl (Nat.le_of_ble_eq_true rfl) dE_combine_89 ⟨by decide, by decide⟩) hP hD hS hA (fun u H locs hp hP hD hS => ?_)
    replace hP : va_P D vwCl (eW A C n ops nums vc vals (pD (d - 1 - 1)) (pS ((qV (d - 1) st) / (qV d st)) (d - 1 - 1) st) ce pk pv pr w key pl dn tk (pT (d - 1 - 1) (qT (d - 1) (qT d 0)))) H := hP
    replace hD : va_D F (eW A C n ops nums vc vals (pD (d - 1 - 1)) (pS ((qV (d - 1) st) / (qV d st)) (d - 1 - 1) st) ce pk pv pr w key pl dn tk (pT (d - 1 - 1) (qT (d - 1) (qT d 0)))) := hD
    refine lv_goto (tgt := 133) hx hb dE_combine_92 rfl ?_
    have e9 : (pT (d - 1 - 1) (qT (d - 1) (qT d 0))) = 1 := by simp only [pT, qT, pD]; (repeat' split) <;> omega
    rw [e9] at hP hD
    exact zVret (w' := fun (u : Nat × (Nat → Int64) × Nat) => (eW A C n ops nums vc vals u.1 u.2.1 ce pk pv pr w key u.2.2 dn tk 1)) (pD (d - 1 - 1), pS ((qV (d - 1) st) / (qV d st)) (d - 1 - 1) st, pl) hx hb hr hlk hS hK ⟨by simp only [pD]; (repeat' split) <;> omega, by omega⟩ hP hD dE_combine_133

set_option maxRecDepth 20000 in
set_option maxHeartbeats 4000000 in
theorem c_combine9_zero (l : Launch) (D : va_G) (A : Nat → Nat) (C : Nat → ClassId) (sz : Nat) (n : Nat) (ops : Nat → Int32) (nums : Nat → Int64) (vc : Nat) (vals : Nat → Int64) (d : Nat) (st : Nat → Int64) (ce : Nat → Int64) (pk : Nat → Int64) (pv : Nat → Int64) (pr : Nat) (w : Nat) (key : Int64) (pl : Nat) (dn : Nat) (tk : Nat) (tr : Nat) (hd : d ≤ 12) (hpl : pl ≤ 40) (hd1 : d < 11) (hy : st (d + 1) = 0) : Met l yE_combine (.code yE_combine cE_combine 6 none :: WS) (rmk 2 46) (va_Pc [.ref (A 0), .int (nI 9)] (zP D (eT C) sz (eW A C n ops nums vc vals (d + 1 + 1) st ce pk pv pr w key pl dn tk 0))) (va_Qv (fun u : Nat × (Nat → Int64) × Nat => u.1 ≤ 12 ∧ u.2.2 ≤ 40) (fun (u : Nat × (Nat → Int64) × Nat) t => zB D (eT C) (va_A (eW A C n ops nums vc vals (d + 1 + 1) st ce pk pv pr w key pl dn tk 0) sz) (eW A C n ops nums vc vals u.1 u.2.1 ce pk pv pr w key u.2.2 dn tk 1) t) (va_A (eW A C n ops nums vc vals (d + 1 + 1) st ce pk pv pr w key pl dn tk 0) sz)) 0 0 (va_A (eW A C n ops nums vc vals (d + 1 + 1) st ce pk pv pr w key pl dn tk 0) sz) := by
  refine zEnt (Qc := fun F => (va_Qv (fun u : Nat × (Nat → Int64) × Nat => u.1 ≤ 12 ∧ u.2.2 ≤ 40) (fun (u : Nat × (Nat → Int64) × Nat) t => zB D (eT C) F (eW A C n ops nums vc vals u.1 u.2.1 ce pk pv pr w key u.2.2 dn tk 1) t) F)) (by decide) (Nat.le_of_ble_eq_true rfl) (fun p e s m below meth c ls F hx hb hr hlk hml hnm hw hown hsz hP hK hD hA hl => ?_)
  have hS : va_S F s.heap s.heap [] := va_S.rf
  have hown : s.vm.findClass RE = some m.cls := hown
  have hl : lv_has ls 6 [(0, .ref (A 0)), (1, .int (nI 9))] := hl
  refine lv_aload_n hx hb dE_combine_0 rfl (lv_at hl 0 rfl) ?_
  refine zAftl0 (zRunV0 ⟨hx, hb, hml, hown, hw⟩ (c_pop_ok l D A C _ n ops nums vc vals (d + 1) st ce pk pv pr w key pl dn tk 0 (by omega)) wm_E_136 wi_E_pop ws_E_pop wn_E wc_E_pop ⟨rfl, rfl⟩ wd_E_pop ⟨by decide, by decide⟩ hK hP hD 0 rfl rfl rfl hl.1 rfl (Nat.le_of_ble_eq_true rfl) dE_combine_1 ⟨by decide, by decide⟩) hP hD hS hA (fun r u H locs hp hP hD hS => ?_)
  replace hP : va_P D vwCl (eW A C n ops nums vc vals (d + 1) st ce pk pv pr w key pl dn tk 0) H := hP
  replace hD : va_D F (eW A C n ops nums vc vals (d + 1) st ce pk pv pr w key pl dn tk 0) := hD
  subst hp
  refine lv_lstore_n hx hb dE_combine_4 rfl hl (by decide) rfl (fun ls hl => ?_)
  have hl : lv_has ls 6 [(2, .long (st (d + 1))), (0, .ref (A 0)), (1, .int (nI 9))] := hl
  refine lv_aload_n hx hb dE_combine_5 rfl (lv_at hl 1 rfl) ?_
  refine zAftl0 (zRunV0 ⟨hx, hb, hml, hown, hw⟩ (c_pop_ok l D A C _ n ops nums vc vals d st ce pk pv pr w key pl dn tk 0 (by omega)) wm_E_136 wi_E_pop ws_E_pop wn_E wc_E_pop ⟨rfl, rfl⟩ wd_E_pop ⟨by decide, by decide⟩ hK hP hD 0 rfl rfl rfl hl.1 rfl (Nat.le_of_ble_eq_true rfl) dE_combine_6 ⟨by decide, by decide⟩) hP hD hS hA (fun r u H locs hp hP hD hS => ?_)
  replace hP : va_P D vwCl (eW A C n ops nums vc vals d st ce pk pv pr w key pl dn tk 0) H := hP
  replace hD : va_D F (eW A C n ops nums vc vals d st ce pk pv pr w key pl dn tk 0) := hD
  subst hp
  refine lv_lstore hx hb dE_combine_9 hl (by decide) rfl (fun ls hl => ?_)
  have hl : lv_has ls 6 [(4, .long (st d)), (2, .long (st (d + 1))), (0, .ref (A 0)), (1, .int (nI 9))] := hl
  refine lv_iload_n hx hb dE_combine_11 rfl (lv_at hl 3 rfl) ?_
  refine lv_tableIn (off := 73) (tgt := 85) hx hb dE_combine_12 (by decide) (by decide) (by decide) rfl ?_
  refine lv_aload_n hx hb dE_combine_85 rfl (lv_at hl 2 rfl) ?_
  refine lv_lload hx hb dE_combine_86 (lv_at hl 0 rfl) ?_
  refine lv_lload_n hx hb dE_combine_88 rfl (lv_at hl 1 rfl) ?_
  refine zAftv0 (zRunV0 ⟨hx, hb, hml, hown, hw⟩ (c_divide_zero l D A C _ n ops nums vc vals d st ce pk pv pr w key pl dn tk 0 (st d) (st (d + 1)) hy) wm_E_152 wi_E_divide ws_E_divide wn_E wc_E_divide ⟨rfl, rfl⟩ wd_E_divide ⟨by decide, by decide⟩ hK hP hD 0 rfl rfl rfl hl.1 rfl (Nat.le_of_ble_eq_true rfl) dE_combine_89 ⟨by decide, by decide⟩) hP hD hS hA (fun u H locs hp hP hD hS => ?_)
  replace hP : va_P D vwCl (eW A C n ops nums vc vals d st ce pk pv pr w key pl dn tk 1) H := hP
  replace hD : va_D F (eW A C n ops nums vc vals d st ce pk pv pr w key pl dn tk 1) := hD
  refine lv_goto (tgt := 133) hx hb dE_combine_92 rfl ?_
  exact zVret (w' := fun (u : Nat × (Nat → Int64) × Nat) => (eW A C n ops nums vc vals u.1 u.2.1 ce pk pv pr w key u.2.2 dn tk 1)) (d, st, pl) hx hb hr hlk hS hK ⟨by omega, by omega⟩ hP hD dE_combine_133
