/-! EmitDesk: push and pop where they go and where not; the methods that perform calls, each where it goes and where it traps -/
set_option maxRecDepth 20000 in
set_option maxHeartbeats 4000000 in
theorem c_push_ok (l : Launch) (D : va_G) (A : Nat → Nat) (C : Nat → ClassId) (sz : Nat) (n : Nat) (ops : Nat → Int32) (nums : Nat → Int64) (vc : Nat) (vals : Nat → Int64) (d : Nat) (st : Nat → Int64) (ce : Nat → Int64) (pk : Nat → Int64) (pv : Nat → Int64) (pr : Nat) (w : Nat) (key : Int64) (pl : Nat) (dn : Nat) (tk : Nat) (tr : Nat) (x : Int64) (hd : d < 12) : Met l yE_push (.code yE_push cE_push 3 none :: WS) (rmk 0 0) (va_Pc [.ref (A 0), .long x] (zP D (eT C) sz (eW A C n ops nums vc vals d st ce pk pv pr w key pl dn tk tr))) (va_Qv (fun _ : Unit => True) (fun (_ : Unit) t => zB D (eT C) (va_A (eW A C n ops nums vc vals d st ce pk pv pr w key pl dn tk tr) sz) (eW A C n ops nums vc vals (d + 1) (vp_updL st d x) ce pk pv pr w key pl dn tk tr) t) (va_A (eW A C n ops nums vc vals d st ce pk pv pr w key pl dn tk tr) sz)) 0 0 (va_A (eW A C n ops nums vc vals d st ce pk pv pr w key pl dn tk tr) sz) := by
  refine zEnt (Qc := fun F => (va_Qv (fun _ : Unit => True) (fun (_ : Unit) t => zB D (eT C) F (eW A C n ops nums vc vals (d + 1) (vp_updL st d x) ce pk pv pr w key pl dn tk tr) t) F)) (by decide) (Nat.le_of_ble_eq_true rfl) (fun p e s m below meth c ls F hx hb hr hlk hml hnm hw hown hsz hP hK hD hA hl => ?_)
  have hS : va_S F s.heap s.heap [] := va_S.rf
  have hown : s.vm.findClass RE = some m.cls := hown
  have hl : lv_has ls 3 [(0, .ref (A 0)), (1, .long x)] := hl
  refine lv_aload_n hx hb dE_push_0 rfl (lv_at hl 0 rfl) ?_
  refine zGetE hx hb hw hown hK hP 0 rfl 6 (by decide) wf_E_92 rfl dE_push_1 ?_
  refine lv_bipush (v := nI 12) hx hb dE_push_4 (by decide) ?_
  refine zc_lt (tgt := 15) hx hb dE_push_6 rfl (by omega) (by omega) (fun _ => ?_) (fun q => absurd q (by omega))
  refine lv_aload_n hx hb dE_push_15 rfl (lv_at hl 0 rfl) ?_
  refine zGetE hx hb hw hown hK hP 0 rfl 5 (by decide) wf_E_20 rfl dE_push_16 ?_
  refine lv_aload_n hx hb dE_push_19 rfl (lv_at hl 0 rfl) ?_
  refine zGetE hx hb hw hown hK hP 0 rfl 6 (by decide) wf_E_92 rfl dE_push_20 ?_
  refine lv_lload_n hx hb dE_push_23 rfl (lv_at hl 1 rfl) ?_
  refine zLast hx hb hK hP hD hS 4 3 rfl rfl (by omega) (by decide) dE_push_24 (fun H locs hP hD hS => ?_)
  replace hP : va_P D vwCl (eW A C n ops nums vc vals d (vp_updL st d x) ce pk pv pr w key pl dn tk tr) H := hP
  replace hD : va_D F (eW A C n ops nums vc vals d (vp_updL st d x) ce pk pv pr w key pl dn tk tr) := hD
  refine lv_aload_n hx hb dE_push_25 rfl (lv_at hl 0 rfl) ?_
  refine lv_dup hx hb dE_push_26 rfl ?_
  refine zGetE hx hb hw hown hK hP 0 rfl 6 (by decide) wf_E_92 rfl dE_push_27 ?_
  refine lv_iconst (v := nI 1) hx hb dE_push_30 (by decide) ?_
  refine lv_iadd hx hb dE_push_31 ?_
  refine zti (nI_add _ _) ?_
  refine zPutE hx hb hw hown hK hP hD hS 0 rfl 6 (by decide) wf_E_92 rfl rfl rfl (Nat.le_of_ble_eq_true rfl) dE_push_32 (fun H locs hP hD hS => ?_)
  replace hP : va_P D vwCl (eW A C n ops nums vc vals (d + 1) (vp_updL st d x) ce pk pv pr w key pl dn tk tr) H := hP
  replace hD : va_D F (eW A C n ops nums vc vals (d + 1) (vp_updL st d x) ce pk pv pr w key pl dn tk tr) := hD
  exact zVret (w' := fun (_ : Unit) => (eW A C n ops nums vc vals (d + 1) (vp_updL st d x) ce pk pv pr w key pl dn tk tr)) () hx hb hr hlk hS hK trivial hP hD dE_push_35

set_option maxRecDepth 20000 in
set_option maxHeartbeats 4000000 in
theorem c_pop_ok (l : Launch) (D : va_G) (A : Nat → Nat) (C : Nat → ClassId) (sz : Nat) (n : Nat) (ops : Nat → Int32) (nums : Nat → Int64) (vc : Nat) (vals : Nat → Int64) (d : Nat) (st : Nat → Int64) (ce : Nat → Int64) (pk : Nat → Int64) (pv : Nat → Int64) (pr : Nat) (w : Nat) (key : Int64) (pl : Nat) (dn : Nat) (tk : Nat) (tr : Nat) (hd : d < 12) : Met l yE_pop (.code yE_pop cE_pop 1 (some .long) :: WS) (rmk 0 0) (va_Pc [.ref (A 0)] (zP D (eT C) sz (eW A C n ops nums vc vals (d + 1) st ce pk pv pr w key pl dn tk tr))) (va_Ql (fun (r : Int64) (_ : Unit) => r = st d) (fun (_ : Unit) t => zB D (eT C) (va_A (eW A C n ops nums vc vals (d + 1) st ce pk pv pr w key pl dn tk tr) sz) (eW A C n ops nums vc vals d st ce pk pv pr w key pl dn tk tr) t) (va_A (eW A C n ops nums vc vals (d + 1) st ce pk pv pr w key pl dn tk tr) sz)) 0 0 (va_A (eW A C n ops nums vc vals (d + 1) st ce pk pv pr w key pl dn tk tr) sz) := by
  refine zEnt (Qc := fun F => (va_Ql (fun (r : Int64) (_ : Unit) => r = st d) (fun (_ : Unit) t => zB D (eT C) F (eW A C n ops nums vc vals d st ce pk pv pr w key pl dn tk tr) t) F)) (by decide) (Nat.le_of_ble_eq_true rfl) (fun p e s m below meth c ls F hx hb hr hlk hml hnm hw hown hsz hP hK hD hA hl => ?_)
  have hS : va_S F s.heap s.heap [] := va_S.rf
  have hown : s.vm.findClass RE = some m.cls := hown
  have hl : lv_has ls 1 [(0, .ref (A 0))] := hl
  refine lv_aload_n hx hb dE_pop_0 rfl (lv_at hl 0 rfl) ?_
  refine zGetE hx hb hw hown hK hP 0 rfl 6 (by decide) wf_E_92 rfl dE_pop_1 ?_
  refine zi_gt (tgt := 14) hx hb dE_pop_4 rfl (by omega) (fun _ => ?_) (fun q => absurd q (by omega))
  refine lv_aload_n hx hb dE_pop_14 rfl (lv_at hl 0 rfl) ?_
  refine lv_dup hx hb dE_pop_15 rfl ?_
  refine zGetE hx hb hw hown hK hP 0 rfl 6 (by decide) wf_E_92 rfl dE_pop_16 ?_
  refine lv_iconst (v := nI 1) hx hb dE_pop_19 (by decide) ?_
  refine lv_isub hx hb dE_pop_20 ?_
  refine zti (zsub _ (by omega)) ?_
  refine zPutE hx hb hw hown hK hP hD hS 0 rfl 6 (by decide) wf_E_92 rfl rfl rfl (Nat.le_of_ble_eq_true rfl) dE_pop_21 (fun H locs hP hD hS => ?_)
  replace hP : va_P D vwCl (eW A C n ops nums vc vals ((d + 1) - 1) st ce pk pv pr w key pl dn tk tr) H := hP
  replace hD : va_D F (eW A C n ops nums vc vals ((d + 1) - 1) st ce pk pv pr w key pl dn tk tr) := hD
  refine lv_aload_n hx hb dE_pop_24 rfl (lv_at hl 0 rfl) ?_
  refine zGetE hx hb hw hown hK hP 0 rfl 5 (by decide) wf_E_20 rfl dE_pop_25 ?_
  refine lv_aload_n hx hb dE_pop_28 rfl (lv_at hl 0 rfl) ?_
  refine zGetE hx hb hw hown hK hP 0 rfl 6 (by decide) wf_E_92 rfl dE_pop_29 ?_
  refine zLald hx hb hK hP 4 3 rfl rfl (by omega) (by decide) dE_pop_32 ?_
  exact zLret (w' := fun (_ : Unit) => (eW A C n ops nums vc vals d st ce pk pv pr w key pl dn tk tr)) () hx hb hr hlk hS hK rfl hP hD dE_pop_33

def hN (w tk vc : Nat) : Nat := if w ≠ 0 ∧ tk < vc then 1 else 0
set_option maxRecDepth 20000 in
set_option maxHeartbeats 4000000 in
theorem c_hasNext (l : Launch) (D : va_G) (A : Nat → Nat) (C : Nat → ClassId) (sz : Nat) (n : Nat) (ops : Nat → Int32) (nums : Nat → Int64) (vc : Nat) (vals : Nat → Int64) (d : Nat) (st : Nat → Int64) (ce : Nat → Int64) (pk : Nat → Int64) (pv : Nat → Int64) (pr : Nat) (w : Nat) (key : Int64) (pl : Nat) (dn : Nat) (tk : Nat) (tr : Nat) (hw2 : w ≤ 2) (hvc : vc ≤ 40) (htk : tk ≤ 40) : Met l yE_hasNext (.code yE_hasNext cE_hasNext 1 (some .boolean) :: WS) (rmk 0 0) (va_Pc [.ref (A 0)] (zP D (eT C) sz (eW A C n ops nums vc vals d st ce pk pv pr w key pl dn tk tr))) (va_Qi (fun (r : Int32) (_ : Unit) => r = nI (hN w tk vc)) (fun (_ : Unit) t => zB D (eT C) (va_A (eW A C n ops nums vc vals d st ce pk pv pr w key pl dn tk tr) sz) (eW A C n ops nums vc vals d st ce pk pv pr w key pl dn tk tr) t) (va_A (eW A C n ops nums vc vals d st ce pk pv pr w key pl dn tk tr) sz)) 0 0 (va_A (eW A C n ops nums vc vals d st ce pk pv pr w key pl dn tk tr) sz) := by
  refine zEnt (Qc := fun F => (va_Qi (fun (r : Int32) (_ : Unit) => r = nI (hN w tk vc)) (fun (_ : Unit) t => zB D (eT C) F (eW A C n ops nums vc vals d st ce pk pv pr w key pl dn tk tr) t) F)) (by decide) (Nat.le_of_ble_eq_true rfl) (fun p e s m below meth c ls F hx hb hr hlk hml hnm hw hown hsz hP hK hD hA hl => ?_)
  have hS : va_S F s.heap s.heap [] := va_S.rf
  have hown : s.vm.findClass RE = some m.cls := hown
  have hl : lv_has ls 1 [(0, .ref (A 0))] := hl
  refine lv_aload_n hx hb dE_hasNext_0 rfl (lv_at hl 0 rfl) ?_
  refine zGetE hx hb hw hown hK hP 0 rfl 11 (by decide) wf_E_106 rfl dE_hasNext_1 ?_
  refine zi_eq (tgt := 22) hx hb dE_hasNext_4 rfl (by omega) (fun h4 => ?_) (fun h4 => ?_)
  · refine lv_iconst (v := nI 0) hx hb dE_hasNext_22 (by decide) ?_
    exact zZret (w' := fun (_ : Unit) => (eW A C n ops nums vc vals d st ce pk pv pr w key pl dn tk tr)) () hx hb hr (by decide) hlk hS hK (congrArg nI (by unfold hN; split <;> omega)) hP hD dE_hasNext_23
  · refine lv_aload_n hx hb dE_hasNext_7 rfl (lv_at hl 0 rfl) ?_
    refine zGetE hx hb hw hown hK hP 0 rfl 15 (by decide) wf_E_95 rfl dE_hasNext_8 ?_
    refine lv_aload_n hx hb dE_hasNext_11 rfl (lv_at hl 0 rfl) ?_
    refine zGetE hx hb hw hown hK hP 0 rfl 4 (by decide) wf_E_52 rfl dE_hasNext_12 ?_
    refine zc_ge (tgt := 22) hx hb dE_hasNext_15 rfl (by omega) (by omega) (fun h15 => ?_) (fun h15 => ?_)
    · refine lv_iconst (v := nI 0) hx hb dE_hasNext_22 (by decide) ?_
      exact zZret (w' := fun (_ : Unit) => (eW A C n ops nums vc vals d st ce pk pv pr w key pl dn tk tr)) () hx hb hr (by decide) hlk hS hK (congrArg nI (by unfold hN; split <;> omega)) hP hD dE_hasNext_23
    · refine lv_iconst (v := nI 1) hx hb dE_hasNext_18 (by decide) ?_
      refine lv_goto (tgt := 23) hx hb dE_hasNext_19 rfl ?_
      exact zZret (w' := fun (_ : Unit) => (eW A C n ops nums vc vals d st ce pk pv pr w key pl dn tk tr)) () hx hb hr (by decide) hlk hS hK (congrArg nI (by unfold hN; split <;> omega)) hP hD dE_hasNext_23

set_option maxRecDepth 20000 in
set_option maxHeartbeats 4000000 in
theorem c_pushValue0_ok (l : Launch) (D : va_G) (A : Nat → Nat) (C : Nat → ClassId) (sz : Nat) (n : Nat) (ops : Nat → Int32) (nums : Nat → Int64) (vc : Nat) (vals : Nat → Int64) (d : Nat) (st : Nat → Int64) (ce : Nat → Int64) (pk : Nat → Int64) (pv : Nat → Int64) (pr : Nat) (w : Nat) (key : Int64) (pl : Nat) (dn : Nat) (tk : Nat) (tr : Nat) (hd : d < 12) (hvc : vc ≤ 40) (htk : tk < vc) : Met l yE_pushValue (.code yE_pushValue cE_pushValue 1 none :: WS) (rmk 1 22) (va_Pc [.ref (A 0)] (zP D (eT C) sz (eW A C n ops nums vc vals d st ce pk pv pr 0 key pl dn tk 0))) (va_Qv (fun _ : Unit => True) (fun (_ : Unit) t => zB D (eT C) (va_A (eW A C n ops nums vc vals d st ce pk pv pr 0 key pl dn tk 0) sz) (eW A C n ops nums vc vals (d + 1) (vp_updL st d (vals tk)) ce pk pv pr 0 key pl dn tk 0) t) (va_A (eW A C n ops nums vc vals d st ce pk pv pr 0 key pl dn tk 0) sz)) 0 0 (va_A (eW A C n ops nums vc vals d st ce pk pv pr 0 key pl dn tk 0) sz) := by
  refine zEnt (Qc := fun F => (va_Qv (fun _ : Unit => True) (fun (_ : Unit) t => zB D (eT C) F (eW A C n ops nums vc vals (d + 1) (vp_updL st d (vals tk)) ce pk pv pr 0 key pl dn tk 0) t) F)) (by decide) (Nat.le_of_ble_eq_true rfl) (fun p e s m below meth c ls F hx hb hr hlk hml hnm hw hown hsz hP hK hD hA hl => ?_)
  have hS : va_S F s.heap s.heap [] := va_S.rf
  have hown : s.vm.findClass RE = some m.cls := hown
  have hl : lv_has ls 1 [(0, .ref (A 0))] := hl
  refine lv_aload_n hx hb dE_pushValue_0 rfl (lv_at hl 0 rfl) ?_
  refine zGetE hx hb hw hown hK hP 0 rfl 15 (by decide) wf_E_95 rfl dE_pushValue_1 ?_
  refine lv_aload_n hx hb dE_pushValue_4 rfl (lv_at hl 0 rfl) ?_
  refine zGetE hx hb hw hown hK hP 0 rfl 4 (by decide) wf_E_52 rfl dE_pushValue_5 ?_
  refine zc_lt (tgt := 17) hx hb dE_pushValue_8 rfl (by omega) (by omega) (fun _ => ?_) (fun q => absurd q (by omega))
  refine lv_aload_n hx hb dE_pushValue_17 rfl (lv_at hl 0 rfl) ?_
  refine lv_aload_n hx hb dE_pushValue_18 rfl (lv_at hl 0 rfl) ?_
  refine zGetE hx hb hw hown hK hP 0 rfl 3 (by decide) wf_E_17 rfl dE_pushValue_19 ?_
  refine lv_aload_n hx hb dE_pushValue_22 rfl (lv_at hl 0 rfl) ?_
  refine zGetE hx hb hw hown hK hP 0 rfl 15 (by decide) wf_E_95 rfl dE_pushValue_23 ?_
  refine zLald hx hb hK hP 3 2 rfl rfl (by omega) (by decide) dE_pushValue_26 ?_
  refine zAftv0 (zRunV0 ⟨hx, hb, hml, hown, hw⟩ (c_push_ok l D A C _ n ops nums vc vals d st ce pk pv pr 0 key pl dn tk 0 (vals tk) (by omega)) wm_E_119 wi_E_push ws_E_push wn_E wc_E_push ⟨rfl, rfl⟩ wd_E_push ⟨by decide, by decide⟩ hK hP hD 0 rfl rfl rfl hl.1 rfl (Nat.le_of_ble_eq_true rfl) dE_pushValue_27 ⟨by decide, by decide⟩) hP hD hS hA (fun u H locs hp hP hD hS => ?_)
  replace hP : va_P D vwCl (eW A C n ops nums vc vals (d + 1) (vp_updL st d (vals tk)) ce pk pv pr 0 key pl dn tk 0) H := hP
  replace hD : va_D F (eW A C n ops nums vc vals (d + 1) (vp_updL st d (vals tk)) ce pk pv pr 0 key pl dn tk 0) := hD
  refine lv_aload_n hx hb dE_pushValue_30 rfl (lv_at hl 0 rfl) ?_
  refine zGetE hx hb hw hown hK hP 0 rfl 16 (by decide) wf_E_72 rfl dE_pushValue_31 ?_
  refine zi_ne (tgt := 54) hx hb dE_pushValue_34 rfl (by omega) (fun q => absurd q (by omega)) (fun _ => ?_)
  refine lv_aload_n hx hb dE_pushValue_37 rfl (lv_at hl 0 rfl) ?_
  refine zGetE hx hb hw hown hK hP 0 rfl 11 (by decide) wf_E_106 rfl dE_pushValue_38 ?_
  refine zi_eq (tgt := 54) hx hb dE_pushValue_41 rfl (by omega) (fun _ => ?_) (fun q => absurd q (by omega))
  exact zVret (w' := fun (_ : Unit) => (eW A C n ops nums vc vals (d + 1) (vp_updL st d (vals tk)) ce pk pv pr 0 key pl dn tk 0)) () hx hb hr hlk hS hK trivial hP hD dE_pushValue_54

set_option maxRecDepth 20000 in
set_option maxHeartbeats 4000000 in
theorem c_pushValue1_ok (l : Launch) (D : va_G) (A : Nat → Nat) (C : Nat → ClassId) (sz : Nat) (n : Nat) (ops : Nat → Int32) (nums : Nat → Int64) (vc : Nat) (vals : Nat → Int64) (d : Nat) (st : Nat → Int64) (ce : Nat → Int64) (pk : Nat → Int64) (pv : Nat → Int64) (pr : Nat) (w : Nat) (key : Int64) (pl : Nat) (dn : Nat) (tk : Nat) (tr : Nat) (hd : d < 12) (hvc : vc ≤ 40) (htk : tk < vc) (hw1 : 0 < w) (hw2 : w ≤ 2) : Met l yE_pushValue (.code yE_pushValue cE_pushValue 1 none :: WS) (rmk 1 22) (va_Pc [.ref (A 0)] (zP D (eT C) sz (eW A C n ops nums vc vals d st ce pk pv pr w key pl dn tk 0))) (va_Qv (fun _ : Unit => True) (fun (_ : Unit) t => zB D (eT C) (va_A (eW A C n ops nums vc vals d st ce pk pv pr w key pl dn tk 0) sz) (eW A C n ops nums vc vals (d + 1) (vp_updL st d (vals tk)) ce pk pv pr w key pl dn (tk + 1) 0) t) (va_A (eW A C n ops nums vc vals d st ce pk pv pr w key pl dn tk 0) sz)) 0 0 (va_A (eW A C n ops nums vc vals d st ce pk pv pr w key pl dn tk 0) sz) := by
  refine zEnt (Qc := fun F => (va_Qv (fun _ : Unit => True) (fun (_ : Unit) t => zB D (eT C) F (eW A C n ops nums vc vals (d + 1) (vp_updL st d (vals tk)) ce pk pv pr w key pl dn (tk + 1) 0) t) F)) (by decide) (Nat.le_of_ble_eq_true rfl) (fun p e s m below meth c ls F hx hb hr hlk hml hnm hw hown hsz hP hK hD hA hl => ?_)
  have hS : va_S F s.heap s.heap [] := va_S.rf
  have hown : s.vm.findClass RE = some m.cls := hown
  have hl : lv_has ls 1 [(0, .ref (A 0))] := hl
  refine lv_aload_n hx hb dE_pushValue_0 rfl (lv_at hl 0 rfl) ?_
  refine zGetE hx hb hw hown hK hP 0 rfl 15 (by decide) wf_E_95 rfl dE_pushValue_1 ?_
  refine lv_aload_n hx hb dE_pushValue_4 rfl (lv_at hl 0 rfl) ?_
  refine zGetE hx hb hw hown hK hP 0 rfl 4 (by decide) wf_E_52 rfl dE_pushValue_5 ?_
  refine zc_lt (tgt := 17) hx hb dE_pushValue_8 rfl (by omega) (by omega) (fun _ => ?_) (fun q => absurd q (by omega))
  refine lv_aload_n hx hb dE_pushValue_17 rfl (lv_at hl 0 rfl) ?_
  refine lv_aload_n hx hb dE_pushValue_18 rfl (lv_at hl 0 rfl) ?_
  refine zGetE hx hb hw hown hK hP 0 rfl 3 (by decide) wf_E_17 rfl dE_pushValue_19 ?_
  refine lv_aload_n hx hb dE_pushValue_22 rfl (lv_at hl 0 rfl) ?_
  refine zGetE hx hb hw hown hK hP 0 rfl 15 (by decide) wf_E_95 rfl dE_pushValue_23 ?_
  refine zLald hx hb hK hP 3 2 rfl rfl (by omega) (by decide) dE_pushValue_26 ?_
  refine zAftv0 (zRunV0 ⟨hx, hb, hml, hown, hw⟩ (c_push_ok l D A C _ n ops nums vc vals d st ce pk pv pr w key pl dn tk 0 (vals tk) (by omega)) wm_E_119 wi_E_push ws_E_push wn_E wc_E_push ⟨rfl, rfl⟩ wd_E_push ⟨by decide, by decide⟩ hK hP hD 0 rfl rfl rfl hl.1 rfl (Nat.le_of_ble_eq_true rfl) dE_pushValue_27 ⟨by decide, by decide⟩) hP hD hS hA (fun u H locs hp hP hD hS => ?_)
  replace hP : va_P D vwCl (eW A C n ops nums vc vals (d + 1) (vp_updL st d (vals tk)) ce pk pv pr w key pl dn tk 0) H := hP
  replace hD : va_D F (eW A C n ops nums vc vals (d + 1) (vp_updL st d (vals tk)) ce pk pv pr w key pl dn tk 0) := hD
  refine lv_aload_n hx hb dE_pushValue_30 rfl (lv_at hl 0 rfl) ?_
  refine zGetE hx hb hw hown hK hP 0 rfl 16 (by decide) wf_E_72 rfl dE_pushValue_31 ?_
  refine zi_ne (tgt := 54) hx hb dE_pushValue_34 rfl (by omega) (fun q => absurd q (by omega)) (fun _ => ?_)
  refine lv_aload_n hx hb dE_pushValue_37 rfl (lv_at hl 0 rfl) ?_
  refine zGetE hx hb hw hown hK hP 0 rfl 11 (by decide) wf_E_106 rfl dE_pushValue_38 ?_
  refine zi_eq (tgt := 54) hx hb dE_pushValue_41 rfl (by omega) (fun q => absurd q (by omega)) (fun _ => ?_)
  refine lv_aload_n hx hb dE_pushValue_44 rfl (lv_at hl 0 rfl) ?_
  refine lv_dup hx hb dE_pushValue_45 rfl ?_
  refine zGetE hx hb hw hown hK hP 0 rfl 15 (by decide) wf_E_95 rfl dE_pushValue_46 ?_
  refine lv_iconst (v := nI 1) hx hb dE_pushValue_49 (by decide) ?_
  refine lv_iadd hx hb dE_pushValue_50 ?_
  refine zti (nI_add _ _) ?_
  refine zPutE hx hb hw hown hK hP hD hS 0 rfl 15 (by decide) wf_E_95 rfl rfl rfl (Nat.le_of_ble_eq_true rfl) dE_pushValue_51 (fun H locs hP hD hS => ?_)
  replace hP : va_P D vwCl (eW A C n ops nums vc vals (d + 1) (vp_updL st d (vals tk)) ce pk pv pr w key pl dn (tk + 1) 0) H := hP
  replace hD : va_D F (eW A C n ops nums vc vals (d + 1) (vp_updL st d (vals tk)) ce pk pv pr w key pl dn (tk + 1) 0) := hD
  exact zVret (w' := fun (_ : Unit) => (eW A C n ops nums vc vals (d + 1) (vp_updL st d (vals tk)) ce pk pv pr w key pl dn (tk + 1) 0)) () hx hb hr hlk hS hK trivial hP hD dE_pushValue_54

set_option maxRecDepth 20000 in
set_option maxHeartbeats 4000000 in
theorem c_pushValue_none (l : Launch) (D : va_G) (A : Nat → Nat) (C : Nat → ClassId) (sz : Nat) (n : Nat) (ops : Nat → Int32) (nums : Nat → Int64) (vc : Nat) (vals : Nat → Int64) (d : Nat) (st : Nat → Int64) (ce : Nat → Int64) (pk : Nat → Int64) (pv : Nat → Int64) (pr : Nat) (w : Nat) (key : Int64) (pl : Nat) (dn : Nat) (tk : Nat) (tr : Nat) (hd : d ≤ 12) (hpl : pl ≤ 40) (hvc : vc ≤ 40) (htk : vc ≤ tk) (htk2 : tk ≤ 40) : Met l yE_pushValue (.code yE_pushValue cE_pushValue 1 none :: WS) (rmk 1 22) (va_Pc [.ref (A 0)] (zP D (eT C) sz (eW A C n ops nums vc vals d st ce pk pv pr w key pl dn tk 0))) (va_Qv (fun u : Nat × (Nat → Int64) × Nat => u.1 ≤ 12 ∧ u.2.2 ≤ 40) (fun (u : Nat × (Nat → Int64) × Nat) t => zB D (eT C) (va_A (eW A C n ops nums vc vals d st ce pk pv pr w key pl dn tk 0) sz) (eW A C n ops nums vc vals u.1 u.2.1 ce pk pv pr w key u.2.2 dn tk 1) t) (va_A (eW A C n ops nums vc vals d st ce pk pv pr w key pl dn tk 0) sz)) 0 0 (va_A (eW A C n ops nums vc vals d st ce pk pv pr w key pl dn tk 0) sz) := by
  refine zEnt (Qc := fun F => (va_Qv (fun u : Nat × (Nat → Int64) × Nat => u.1 ≤ 12 ∧ u.2.2 ≤ 40) (fun (u : Nat × (Nat → Int64) × Nat) t => zB D (eT C) F (eW A C n ops nums vc vals u.1 u.2.1 ce pk pv pr w key u.2.2 dn tk 1) t) F)) (by decide) (Nat.le_of_ble_eq_true rfl) (fun p e s m below meth c ls F hx hb hr hlk hml hnm hw hown hsz hP hK hD hA hl => ?_)
  have hS : va_S F s.heap s.heap [] := va_S.rf
  have hown : s.vm.findClass RE = some m.cls := hown
  have hl : lv_has ls 1 [(0, .ref (A 0))] := hl
  refine lv_aload_n hx hb dE_pushValue_0 rfl (lv_at hl 0 rfl) ?_
  refine zGetE hx hb hw hown hK hP 0 rfl 15 (by decide) wf_E_95 rfl dE_pushValue_1 ?_
  refine lv_aload_n hx hb dE_pushValue_4 rfl (lv_at hl 0 rfl) ?_
  refine zGetE hx hb hw hown hK hP 0 rfl 4 (by decide) wf_E_52 rfl dE_pushValue_5 ?_
  refine zc_lt (tgt := 17) hx hb dE_pushValue_8 rfl (by omega) (by omega) (fun q => absurd q (by omega)) (fun _ => ?_)
  refine lv_aload_n hx hb dE_pushValue_11 rfl (lv_at hl 0 rfl) ?_
  refine lv_iconst (v := nI 1) hx hb dE_pushValue_12 (by decide) ?_
  refine zPutE hx hb hw hown hK hP hD hS 0 rfl 16 (by decide) wf_E_72 rfl rfl rfl (Nat.le_of_ble_eq_true rfl) dE_pushValue_13 (fun H locs hP hD hS => ?_)
  replace hP : va_P D vwCl (eW A C n ops nums vc vals d st ce pk pv pr w key pl dn tk 1) H := hP
  replace hD : va_D F (eW A C n ops nums vc vals d st ce pk pv pr w key pl dn tk 1) := hD
  exact zVret (w' := fun (u : Nat × (Nat → Int64) × Nat) => (eW A C n ops nums vc vals u.1 u.2.1 ce pk pv pr w key u.2.2 dn tk 1)) (d, st, pl) hx hb hr hlk hS hK ⟨by omega, by omega⟩ hP hD dE_pushValue_16

set_option maxRecDepth 20000 in
set_option maxHeartbeats 4000000 in
theorem c_pushValue_full (l : Launch) (D : va_G) (A : Nat → Nat) (C : Nat → ClassId) (sz : Nat) (n : Nat) (ops : Nat → Int32) (nums : Nat → Int64) (vc : Nat) (vals : Nat → Int64) (d : Nat) (st : Nat → Int64) (ce : Nat → Int64) (pk : Nat → Int64) (pv : Nat → Int64) (pr : Nat) (w : Nat) (key : Int64) (pl : Nat) (dn : Nat) (tk : Nat) (tr : Nat) (hd : d ≤ 12) (hpl : pl ≤ 40) (hvc : vc ≤ 40) (htk : tk < vc) (hf : d = 12) : Met l yE_pushValue (.code yE_pushValue cE_pushValue 1 none :: WS) (rmk 1 22) (va_Pc [.ref (A 0)] (zP D (eT C) sz (eW A C n ops nums vc vals d st ce pk pv pr w key pl dn tk 0))) (va_Qv (fun u : Nat × (Nat → Int64) × Nat => u.1 ≤ 12 ∧ u.2.2 ≤ 40) (fun (u : Nat × (Nat → Int64) × Nat) t => zB D (eT C) (va_A (eW A C n ops nums vc vals d st ce pk pv pr w key pl dn tk 0) sz) (eW A C n ops nums vc vals u.1 u.2.1 ce pk pv pr w key u.2.2 dn tk 1) t) (va_A (eW A C n ops nums vc vals d st ce pk pv pr w key pl dn tk 0) sz)) 0 0 (va_A (eW A C n ops nums vc vals d st ce pk pv pr w key pl dn tk 0) sz) := by
  refine zEnt (Qc := fun F => (va_Qv (fun u : Nat × (Nat → Int64) × Nat => u.1 ≤ 12 ∧ u.2.2 ≤ 40) (fun (u : Nat × (Nat → Int64) × Nat) t => zB D (eT C) F (eW A C n ops nums vc vals u.1 u.2.1 ce pk pv pr w key u.2.2 dn tk 1) t) F)) (by decide) (Nat.le_of_ble_eq_true rfl) (fun p e s m below meth c ls F hx hb hr hlk hml hnm hw hown hsz hP hK hD hA hl => ?_)
  have hS : va_S F s.heap s.heap [] := va_S.rf
  have hown : s.vm.findClass RE = some m.cls := hown
  have hl : lv_has ls 1 [(0, .ref (A 0))] := hl
  refine lv_aload_n hx hb dE_pushValue_0 rfl (lv_at hl 0 rfl) ?_
  refine zGetE hx hb hw hown hK hP 0 rfl 15 (by decide) wf_E_95 rfl dE_pushValue_1 ?_
  refine lv_aload_n hx hb dE_pushValue_4 rfl (lv_at hl 0 rfl) ?_
  refine zGetE hx hb hw hown hK hP 0 rfl 4 (by decide) wf_E_52 rfl dE_pushValue_5 ?_
  refine zc_lt (tgt := 17) hx hb dE_pushValue_8 rfl (by omega) (by omega) (fun _ => ?_) (fun q => absurd q (by omega))
  refine lv_aload_n hx hb dE_pushValue_17 rfl (lv_at hl 0 rfl) ?_
  refine lv_aload_n hx hb dE_pushValue_18 rfl (lv_at hl 0 rfl) ?_
  refine zGetE hx hb hw hown hK hP 0 rfl 3 (by decide) wf_E_17 rfl dE_pushValue_19 ?_
  refine lv_aload_n hx hb dE_pushValue_22 rfl (lv_at hl 0 rfl) ?_
  refine zGetE hx hb hw hown hK hP 0 rfl 15 (by decide) wf_E_95 rfl dE_pushValue_23 ?_
  refine zLald hx hb hK hP 3 2 rfl rfl (by omega) (by decide) dE_pushValue_26 ?_
  refine zAftv0 (zRunV0 ⟨hx, hb, hml, hown, hw⟩ (c_push l D A C _ n ops nums vc vals d st ce pk pv pr w key pl dn tk 0 (vals tk) (by omega)) wm_E_119 wi_E_push ws_E_push wn_E wc_E_push ⟨rfl, rfl⟩ wd_E_push ⟨by decide, by decide⟩ hK hP hD 0 rfl rfl rfl hl.1 rfl (Nat.le_of_ble_eq_true rfl) dE_pushValue_27 ⟨by decide, by decide⟩) hP hD hS hA (fun u H locs hp hP hD hS => ?_)
  replace hP : va_P D vwCl (eW A C n ops nums vc vals (pD d) (pS (vals tk) d st) ce pk pv pr w key pl dn tk (pT d 0)) H := hP
  replace hD : va_D F (eW A C n ops nums vc vals (pD d) (pS (vals tk) d st) ce pk pv pr w key pl dn tk (pT d 0)) := hD
  refine lv_aload_n hx hb dE_pushValue_30 rfl (lv_at hl 0 rfl) ?_
  refine zGetE hx hb hw hown hK hP 0 rfl 16 (by decide) wf_E_72 rfl dE_pushValue_31 ?_
  refine zi_ne (tgt := 54) hx hb dE_pushValue_34 rfl (by simp only [pT, qT, pD, hN]; (repeat' split) <;> omega) (fun _ => ?_) (fun q => absurd q (by simp only [pT]; (repeat' split) <;> omega))
  have e9 : (pT d 0) = 1 := by simp only [pT, qT, pD]; (repeat' split) <;> omega
  rw [e9] at hP hD
  exact zVret (w' := fun (u : Nat × (Nat → Int64) × Nat) => (eW A C n ops nums vc vals u.1 u.2.1 ce pk pv pr w key u.2.2 dn tk 1)) (pD d, pS (vals tk) d st, pl) hx hb hr hlk hS hK ⟨by simp only [pD]; (repeat' split) <;> omega, by omega⟩ hP hD dE_pushValue_54

set_option maxRecDepth 20000 in
set_option maxHeartbeats 4000000 in
theorem c_popCell_ok (l : Launch) (D : va_G) (A : Nat → Nat) (C : Nat → ClassId) (sz : Nat) (n : Nat) (ops : Nat → Int32) (nums : Nat → Int64) (vc : Nat) (vals : Nat → Int64) (d : Nat) (st : Nat → Int64) (ce : Nat → Int64) (pk : Nat → Int64) (pv : Nat → Int64) (pr : Nat) (w : Nat) (key : Int64) (pl : Nat) (dn : Nat) (tk : Nat) (tr : Nat) (j : Nat) (hd : d < 12) (hj : j < 4) : Met l yE_popCell (.code yE_popCell cE_popCell 4 none :: WS) (rmk 1 22) (va_Pc [.ref (A 0), .int (nI j)] (zP D (eT C) sz (eW A C n ops nums vc vals (d + 1) st ce pk pv pr w key pl dn tk 0))) (va_Qv (fun _ : Unit => True) (fun (_ : Unit) t => zB D (eT C) (va_A (eW A C n ops nums vc vals (d + 1) st ce pk pv pr w key pl dn tk 0) sz) (eW A C n ops nums vc vals d st (vp_updL ce j (st d)) pk pv pr w key pl dn tk 0) t) (va_A (eW A C n ops nums vc vals (d + 1) st ce pk pv pr w key pl dn tk 0) sz)) 0 0 (va_A (eW A C n ops nums vc vals (d + 1) st ce pk pv pr w key pl dn tk 0) sz) := by
  refine zEnt (Qc := fun F => (va_Qv (fun _ : Unit => True) (fun (_ : Unit) t => zB D (eT C) F (eW A C n ops nums vc vals d st (vp_updL ce j (st d)) pk pv pr w key pl dn tk 0) t) F)) (by decide) (Nat.le_of_ble_eq_true rfl) (fun p e s m below meth c ls F hx hb hr hlk hml hnm hw hown hsz hP hK hD hA hl => ?_)
  have hS : va_S F s.heap s.heap [] := va_S.rf
  have hown : s.vm.findClass RE = some m.cls := hown
  have hl : lv_has ls 4 [(0, .ref (A 0)), (1, .int (nI j))] := hl
  refine lv_aload_n hx hb dE_popCell_0 rfl (lv_at hl 0 rfl) ?_
  refine zAftl0 (zRunV0 ⟨hx, hb, hml, hown, hw⟩ (c_pop_ok l D A C _ n ops nums vc vals d st ce pk pv pr w key pl dn tk 0 (by omega)) wm_E_136 wi_E_pop ws_E_pop wn_E wc_E_pop ⟨rfl, rfl⟩ wd_E_pop ⟨by decide, by decide⟩ hK hP hD 0 rfl rfl rfl hl.1 rfl (Nat.le_of_ble_eq_true rfl) dE_popCell_1 ⟨by decide, by decide⟩) hP hD hS hA (fun r u H locs hp hP hD hS => ?_)
  replace hP : va_P D vwCl (eW A C n ops nums vc vals d st ce pk pv pr w key pl dn tk 0) H := hP
  replace hD : va_D F (eW A C n ops nums vc vals d st ce pk pv pr w key pl dn tk 0) := hD
  subst hp
  refine lv_lstore_n hx hb dE_popCell_4 rfl hl (by decide) rfl (fun ls hl => ?_)
  have hl : lv_has ls 4 [(2, .long (st d)), (0, .ref (A 0)), (1, .int (nI j))] := hl
  refine lv_aload_n hx hb dE_popCell_5 rfl (lv_at hl 1 rfl) ?_
  refine zGetE hx hb hw hown hK hP 0 rfl 16 (by decide) wf_E_72 rfl dE_popCell_6 ?_
  refine zi_ne (tgt := 19) hx hb dE_popCell_9 rfl (by omega) (fun q => absurd q (by omega)) (fun _ => ?_)
  refine lv_aload_n hx hb dE_popCell_12 rfl (lv_at hl 1 rfl) ?_
  refine zGetE hx hb hw hown hK hP 0 rfl 7 (by decide) wf_E_23 rfl dE_popCell_13 ?_
  refine lv_iload_n hx hb dE_popCell_16 rfl (lv_at hl 2 rfl) ?_
  refine lv_lload_n hx hb dE_popCell_17 rfl (lv_at hl 0 rfl) ?_
  refine zLast hx hb hK hP hD hS 5 4 rfl rfl (by omega) (by decide) dE_popCell_18 (fun H locs hP hD hS => ?_)
  replace hP : va_P D vwCl (eW A C n ops nums vc vals d st (vp_updL ce j (st d)) pk pv pr w key pl dn tk 0) H := hP
  replace hD : va_D F (eW A C n ops nums vc vals d st (vp_updL ce j (st d)) pk pv pr w key pl dn tk 0) := hD
  exact zVret (w' := fun (_ : Unit) => (eW A C n ops nums vc vals d st (vp_updL ce j (st d)) pk pv pr w key pl dn tk 0)) () hx hb hr hlk hS hK trivial hP hD dE_popCell_19

set_option maxRecDepth 20000 in
set_option maxHeartbeats 4000000 in
theorem c_popCell_trap (l : Launch) (D : va_G) (A : Nat → Nat) (C : Nat → ClassId) (sz : Nat) (n : Nat) (ops : Nat → Int32) (nums : Nat → Int64) (vc : Nat) (vals : Nat → Int64) (d : Nat) (st : Nat → Int64) (ce : Nat → Int64) (pk : Nat → Int64) (pv : Nat → Int64) (pr : Nat) (w : Nat) (key : Int64) (pl : Nat) (dn : Nat) (tk : Nat) (tr : Nat) (j : Nat) (hd : d ≤ 12) (hpl : pl ≤ 40) (hj : j < 4) (h0 : d = 0) : Met l yE_popCell (.code yE_popCell cE_popCell 4 none :: WS) (rmk 1 22) (va_Pc [.ref (A 0), .int (nI j)] (zP D (eT C) sz (eW A C n ops nums vc vals d st ce pk pv pr w key pl dn tk 0))) (va_Qv (fun u : Nat × (Nat → Int64) × Nat => u.1 ≤ 12 ∧ u.2.2 ≤ 40) (fun (u : Nat × (Nat → Int64) × Nat) t => zB D (eT C) (va_A (eW A C n ops nums vc vals d st ce pk pv pr w key pl dn tk 0) sz) (eW A C n ops nums vc vals u.1 u.2.1 ce pk pv pr w key u.2.2 dn tk 1) t) (va_A (eW A C n ops nums vc vals d st ce pk pv pr w key pl dn tk 0) sz)) 0 0 (va_A (eW A C n ops nums vc vals d st ce pk pv pr w key pl dn tk 0) sz) := by
  refine zEnt (Qc := fun F => (va_Qv (fun u : Nat × (Nat → Int64) × Nat => u.1 ≤ 12 ∧ u.2.2 ≤ 40) (fun (u : Nat × (Nat → Int64) × Nat) t => zB D (eT C) F (eW A C n ops nums vc vals u.1 u.2.1 ce pk pv pr w key u.2.2 dn tk 1) t) F)) (by decide) (Nat.le_of_ble_eq_true rfl) (fun p e s m below meth c ls F hx hb hr hlk hml hnm hw hown hsz hP hK hD hA hl => ?_)
  have hS : va_S F s.heap s.heap [] := va_S.rf
  have hown : s.vm.findClass RE = some m.cls := hown
  have hl : lv_has ls 4 [(0, .ref (A 0)), (1, .int (nI j))] := hl
  refine lv_aload_n hx hb dE_popCell_0 rfl (lv_at hl 0 rfl) ?_
  refine zAftl0 (zRunV0 ⟨hx, hb, hml, hown, hw⟩ (c_pop l D A C _ n ops nums vc vals d st ce pk pv pr w key pl dn tk 0 (by omega)) wm_E_136 wi_E_pop ws_E_pop wn_E wc_E_pop ⟨rfl, rfl⟩ wd_E_pop ⟨by decide, by decide⟩ hK hP hD 0 rfl rfl rfl hl.1 rfl (Nat.le_of_ble_eq_true rfl) dE_popCell_1 ⟨by decide, by decide⟩) hP hD hS hA (fun r u H locs hp hP hD hS => ?_)
  replace hP : va_P D vwCl (eW A C n ops nums vc vals (d - 1) st ce pk pv pr w key pl dn tk (qT d 0)) H := hP
  replace hD : va_D F (eW A C n ops nums vc vals (d - 1) st ce pk pv pr w key pl dn tk (qT d 0)) := hD
  subst hp
  refine lv_lstore_n hx hb dE_popCell_4 rfl hl (by decide) rfl (fun ls hl => ?_)
  have hl : lv_has ls 4 [(2, .long (qV d st)), (0, .ref (A 0)), (1, .int (nI j))] := hl
  refine lv_aload_n hx hb dE_popCell_5 rfl (lv_at hl 1 rfl) ?_
  refine zGetE hx hb hw hown hK hP 0 rfl 16 (by decide) wf_E_72 rfl dE_popCell_6 ?_
  refine zi_ne (tgt := 19) hx hb dE_popCell_9 rfl (by simp only [pT, qT, pD, hN]; (repeat' split) <;> omega) (fun _ => ?_) (fun q => absurd q (by simp only [qT]; (repeat' split) <;> omega))
  have e9 : (qT d 0) = 1 := by simp only [pT, qT, pD]; (repeat' split) <;> omega
  rw [e9] at hP hD
  exact zVret (w' := fun (u : Nat × (Nat → Int64) × Nat) => (eW A C n ops nums vc vals u.1 u.2.1 ce pk pv pr w key u.2.2 dn tk 1)) (d - 1, st, pl) hx hb hr hlk hS hK ⟨by omega, by omega⟩ hP hD dE_popCell_19

set_option maxRecDepth 20000 in
set_option maxHeartbeats 4000000 in
theorem c_doubleTop_ok (l : Launch) (D : va_G) (A : Nat → Nat) (C : Nat → ClassId) (sz : Nat) (n : Nat) (ops : Nat → Int32) (nums : Nat → Int64) (vc : Nat) (vals : Nat → Int64) (d : Nat) (st : Nat → Int64) (ce : Nat → Int64) (pk : Nat → Int64) (pv : Nat → Int64) (pr : Nat) (w : Nat) (key : Int64) (pl : Nat) (dn : Nat) (tk : Nat) (tr : Nat) (hd : d < 11) : Met l yE_doubleTop (.code yE_doubleTop cE_doubleTop 3 none :: WS) (rmk 1 22) (va_Pc [.ref (A 0)] (zP D (eT C) sz (eW A C n ops nums vc vals (d + 1) st ce pk pv pr w key pl dn tk 0))) (va_Qv (fun _ : Unit => True) (fun (_ : Unit) t => zB D (eT C) (va_A (eW A C n ops nums vc vals (d + 1) st ce pk pv pr w key pl dn tk 0) sz) (eW A C n ops nums vc vals (d + 1 + 1) (vp_updL (vp_updL st d (st d)) (d + 1) (st d)) ce pk pv pr w key pl dn tk 0) t) (va_A (eW A C n ops nums vc vals (d + 1) st ce pk pv pr w key pl dn tk 0) sz)) 0 0 (va_A (eW A C n ops nums vc vals (d + 1) st ce pk pv pr w key pl dn tk 0) sz) := by
  refine zEnt (Qc := fun F => (va_Qv (fun _ : Unit => True) (fun (_ : Unit) t => zB D (eT C) F (eW A C n ops nums vc vals (d + 1 + 1) (vp_updL (vp_updL st d (st d)) (d + 1) (st d)) ce pk pv pr w key pl dn tk 0) t) F)) (by decide) (Nat.le_of_ble_eq_true rfl) (fun p e s m below meth c ls F hx hb hr hlk hml hnm hw hown hsz hP hK hD hA hl => ?_)
  have hS : va_S F s.heap s.heap [] := va_S.rf
  have hown : s.vm.findClass RE = some m.cls := hown
  have hl : lv_has ls 3 [(0, .ref (A 0))] := hl
  refine lv_aload_n hx hb dE_doubleTop_0 rfl (lv_at hl 0 rfl) ?_
  refine zAftl0 (zRunV0 ⟨hx, hb, hml, hown, hw⟩ (c_pop_ok l D A C _ n ops nums vc vals d st ce pk pv pr w key pl dn tk 0 (by omega)) wm_E_136 wi_E_pop ws_E_pop wn_E wc_E_pop ⟨rfl, rfl⟩ wd_E_pop ⟨by decide, by decide⟩ hK hP hD 0 rfl rfl rfl hl.1 rfl (Nat.le_of_ble_eq_true rfl) dE_doubleTop_1 ⟨by decide, by decide⟩) hP hD hS hA (fun r u H locs hp hP hD hS => ?_)
  replace hP : va_P D vwCl (eW A C n ops nums vc vals d st ce pk pv pr w key pl dn tk 0) H := hP
  replace hD : va_D F (eW A C n ops nums vc vals d st ce pk pv pr w key pl dn tk 0) := hD
  subst hp
  refine lv_lstore_n hx hb dE_doubleTop_4 rfl hl (by decide) rfl (fun ls hl => ?_)
  have hl : lv_has ls 3 [(1, .long (st d)), (0, .ref (A 0))] := hl
  refine lv_aload_n hx hb dE_doubleTop_5 rfl (lv_at hl 1 rfl) ?_
  refine lv_lload_n hx hb dE_doubleTop_6 rfl (lv_at hl 0 rfl) ?_
  refine zAftv0 (zRunV0 ⟨hx, hb, hml, hown, hw⟩ (c_push_ok l D A C _ n ops nums vc vals d st ce pk pv pr w key pl dn tk 0 (st d) (by omega)) wm_E_119 wi_E_push ws_E_push wn_E wc_E_push ⟨rfl, rfl⟩ wd_E_push ⟨by decide, by decide⟩ hK hP hD 0 rfl rfl rfl hl.1 rfl (Nat.le_of_ble_eq_true rfl) dE_doubleTop_7 ⟨by decide, by decide⟩) hP hD hS hA (fun u H locs hp hP hD hS => ?_)
  replace hP : va_P D vwCl (eW A C n ops nums vc vals (d + 1) (vp_updL st d (st d)) ce pk pv pr w key pl dn tk 0) H := hP
  replace hD : va_D F (eW A C n ops nums vc vals (d + 1) (vp_updL st d (st d)) ce pk pv pr w key pl dn tk 0) := hD
  refine lv_aload_n hx hb dE_doubleTop_10 rfl (lv_at hl 1 rfl) ?_
  refine lv_lload_n hx hb dE_doubleTop_11 rfl (lv_at hl 0 rfl) ?_
  refine zAftv0 (zRunV0 ⟨hx, hb, hml, hown, hw⟩ (c_push_ok l D A C _ n ops nums vc vals (d + 1) (vp_updL st d (st d)) ce pk pv pr w key pl dn tk 0 (st d) (by omega)) wm_E_119 wi_E_push ws_E_push wn_E wc_E_push ⟨rfl, rfl⟩ wd_E_push ⟨by decide, by decide⟩ hK hP hD 0 rfl rfl rfl hl.1 rfl (Nat.le_of_ble_eq_true rfl) dE_doubleTop_12 ⟨by decide, by decide⟩) hP hD hS hA (fun u H locs hp hP hD hS => ?_)
  replace hP : va_P D vwCl (eW A C n ops nums vc vals (d + 1 + 1) (vp_updL (vp_updL st d (st d)) (d + 1) (st d)) ce pk pv pr w key pl dn tk 0) H := hP
  replace hD : va_D F (eW A C n ops nums vc vals (d + 1 + 1) (vp_updL (vp_updL st d (st d)) (d + 1) (st d)) ce pk pv pr w key pl dn tk 0) := hD
  exact zVret (w' := fun (_ : Unit) => (eW A C n ops nums vc vals (d + 1 + 1) (vp_updL (vp_updL st d (st d)) (d + 1) (st d)) ce pk pv pr w key pl dn tk 0)) () hx hb hr hlk hS hK trivial hP hD dE_doubleTop_15

set_option maxRecDepth 20000 in
set_option maxHeartbeats 4000000 in
theorem c_doubleTop_trap (l : Launch) (D : va_G) (A : Nat → Nat) (C : Nat → ClassId) (sz : Nat) (n : Nat) (ops : Nat → Int32) (nums : Nat → Int64) (vc : Nat) (vals : Nat → Int64) (d : Nat) (st : Nat → Int64) (ce : Nat → Int64) (pk : Nat → Int64) (pv : Nat → Int64) (pr : Nat) (w : Nat) (key : Int64) (pl : Nat) (dn : Nat) (tk : Nat) (tr : Nat) (hd : d ≤ 12) (hpl : pl ≤ 40) (h0 : d = 0 ∨ d = 12) : Met l yE_doubleTop (.code yE_doubleTop cE_doubleTop 3 none :: WS) (rmk 1 22) (va_Pc [.ref (A 0)] (zP D (eT C) sz (eW A C n ops nums vc vals d st ce pk pv pr w key pl dn tk 0))) (va_Qv (fun u : Nat × (Nat → Int64) × Nat => u.1 ≤ 12 ∧ u.2.2 ≤ 40) (fun (u : Nat × (Nat → Int64) × Nat) t => zB D (eT C) (va_A (eW A C n ops nums vc vals d st ce pk pv pr w key pl dn tk 0) sz) (eW A C n ops nums vc vals u.1 u.2.1 ce pk pv pr w key u.2.2 dn tk 1) t) (va_A (eW A C n ops nums vc vals d st ce pk pv pr w key pl dn tk 0) sz)) 0 0 (va_A (eW A C n ops nums vc vals d st ce pk pv pr w key pl dn tk 0) sz) := by
  refine zEnt (Qc := fun F => (va_Qv (fun u : Nat × (Nat → Int64) × Nat => u.1 ≤ 12 ∧ u.2.2 ≤ 40) (fun (u : Nat × (Nat → Int64) × Nat) t => zB D (eT C) F (eW A C n ops nums vc vals u.1 u.2.1 ce pk pv pr w key u.2.2 dn tk 1) t) F)) (by decide) (Nat.le_of_ble_eq_true rfl) (fun p e s m below meth c ls F hx hb hr hlk hml hnm hw hown hsz hP hK hD hA hl => ?_)
  have hS : va_S F s.heap s.heap [] := va_S.rf
  have hown : s.vm.findClass RE = some m.cls := hown
  have hl : lv_has ls 3 [(0, .ref (A 0))] := hl
  refine lv_aload_n hx hb dE_doubleTop_0 rfl (lv_at hl 0 rfl) ?_
  refine zAftl0 (zRunV0 ⟨hx, hb, hml, hown, hw⟩ (c_pop l D A C _ n ops nums vc vals d st ce pk pv pr w key pl dn tk 0 (by omega)) wm_E_136 wi_E_pop ws_E_pop wn_E wc_E_pop ⟨rfl, rfl⟩ wd_E_pop ⟨by decide, by decide⟩ hK hP hD 0 rfl rfl rfl hl.1 rfl (Nat.le_of_ble_eq_true rfl) dE_doubleTop_1 ⟨by decide, by decide⟩) hP hD hS hA (fun r u H locs hp hP hD hS => ?_)
  replace hP : va_P D vwCl (eW A C n ops nums vc vals (d - 1) st ce pk pv pr w key pl dn tk (qT d 0)) H := hP
  replace hD : va_D F (eW A C n ops nums vc vals (d - 1) st ce pk pv pr w key pl dn tk (qT d 0)) := hD
  subst hp
  refine lv_lstore_n hx hb dE_doubleTop_4 rfl hl (by decide) rfl (fun ls hl => ?_)
  have hl : lv_has ls 3 [(1, .long (qV d st)), (0, .ref (A 0))] := hl
  refine lv_aload_n hx hb dE_doubleTop_5 rfl (lv_at hl 1 rfl) ?_
  refine lv_lload_n hx hb dE_doubleTop_6 rfl (lv_at hl 0 rfl) ?_
  refine zAftv0 (zRunV0 ⟨hx, hb, hml, hown, hw⟩ (c_push l D A C _ n ops nums vc vals (d - 1) st ce pk pv pr w key pl dn tk (qT d 0) (qV d st) (by omega)) wm_E_119 wi_E_push ws_E_push wn_E wc_E_push ⟨rfl, rfl⟩ wd_E_push ⟨by decide, by decide⟩ hK hP hD 0 rfl rfl rfl hl.1 rfl (Nat.le_of_ble_eq_true rfl) dE_doubleTop_7 ⟨by decide, by decide⟩) hP hD hS hA (fun u H locs hp hP hD hS => ?_)
  replace hP : va_P D vwCl (eW A C n ops nums vc vals (pD (d - 1)) (pS (qV d st) (d - 1) st) ce pk pv pr w key pl dn tk (pT (d - 1) (qT d 0))) H := hP
  replace hD : va_D F (eW A C n ops nums vc vals (pD (d - 1)) (pS (qV d st) (d - 1) st) ce pk pv pr w key pl dn tk (pT (d - 1) (qT d 0))) := hD
  refine lv_aload_n hx hb dE_doubleTop_10 rfl (lv_at hl 1 rfl) ?_
  refine lv_lload_n hx hb dE_doubleTop_11 rfl (lv_at hl 0 rfl) ?_
  refine zAftv0 (zRunV0 ⟨hx, hb, hml, hown, hw⟩ (c_push l D A C _ n ops nums vc vals (pD (d - 1)) (pS (qV d st) (d - 1) st) ce pk pv pr w key pl dn tk (pT (d - 1) (qT d 0)) (qV d st) (by simp only [pD]; (repeat' split) <;> omega)) wm_E_119 wi_E_push ws_E_push wn_E wc_E_push ⟨rfl, rfl⟩ wd_E_push ⟨by decide, by decide⟩ hK hP hD 0 rfl rfl rfl hl.1 rfl (Nat.le_of_ble_eq_true rfl) dE_doubleTop_12 ⟨by decide, by decide⟩) hP hD hS hA (fun u H locs hp hP hD hS => ?_)
  replace hP : va_P D vwCl (eW A C n ops nums vc vals (pD (pD (d - 1))) (pS (qV d st) (pD (d - 1)) (pS (qV d st) (d - 1) st)) ce pk pv pr w key pl dn tk (pT (pD (d - 1)) (pT (d - 1) (qT d 0)))) H := hP
  replace hD : va_D F (eW A C n ops nums vc vals (pD (pD (d - 1))) (pS (qV d st) (pD (d - 1)) (pS (qV d st) (d - 1) st)) ce pk pv pr w key pl dn tk (pT (pD (d - 1)) (pT (d - 1) (qT d 0)))) := hD
  have e9 : (pT (pD (d - 1)) (pT (d - 1) (qT d 0))) = 1 := by simp only [pT, qT, pD]; (repeat' split) <;> omega
  rw [e9] at hP hD
  exact zVret (w' := fun (u : Nat × (Nat → Int64) × Nat) => (eW A C n ops nums vc vals u.1 u.2.1 ce pk pv pr w key u.2.2 dn tk 1)) (pD (pD (d - 1)), pS (qV d st) (pD (d - 1)) (pS (qV d st) (d - 1) st), pl) hx hb hr hlk hS hK ⟨by simp only [pD]; (repeat' split) <;> omega, by omega⟩ hP hD dE_doubleTop_15

set_option maxRecDepth 20000 in
set_option maxHeartbeats 4000000 in
theorem c_changeTwo_ok (l : Launch) (D : va_G) (A : Nat → Nat) (C : Nat → ClassId) (sz : Nat) (n : Nat) (ops : Nat → Int32) (nums : Nat → Int64) (vc : Nat) (vals : Nat → Int64) (d : Nat) (st : Nat → Int64) (ce : Nat → Int64) (pk : Nat → Int64) (pv : Nat → Int64) (pr : Nat) (w : Nat) (key : Int64) (pl : Nat) (dn : Nat) (tk : Nat) (tr : Nat) (hd : d < 11) : Met l yE_changeTwo (.code yE_changeTwo cE_changeTwo 5 none :: WS) (rmk 1 22) (va_Pc [.ref (A 0)] (zP D (eT C) sz (eW A C n ops nums vc vals (d + 1 + 1) st ce pk pv pr w key pl dn tk 0))) (va_Qv (fun _ : Unit => True) (fun (_ : Unit) t => zB D (eT C) (va_A (eW A C n ops nums vc vals (d + 1 + 1) st ce pk pv pr w key pl dn tk 0) sz) (eW A C n ops nums vc vals (d + 1 + 1) (vp_updL (vp_updL st d (st (d + 1))) (d + 1) (st d)) ce pk pv pr w key pl dn tk 0) t) (va_A (eW A C n ops nums vc vals (d + 1 + 1) st ce pk pv pr w key pl dn tk 0) sz)) 0 0 (va_A (eW A C n ops nums vc vals (d + 1 + 1) st ce pk pv pr w key pl dn tk 0) sz) := by
  refine zEnt (Qc := fun F => (va_Qv (fun _ : Unit => True) (fun (_ : Unit) t => zB D (eT C) F (eW A C n ops nums vc vals (d + 1 + 1) (vp_updL (vp_updL st d (st (d + 1))) (d + 1) (st d)) ce pk pv pr w key pl dn tk 0) t) F)) (by decide) (Nat.le_of_ble_eq_true rfl) (fun p e s m below meth c ls F hx hb hr hlk hml hnm hw hown hsz hP hK hD hA hl => ?_)
  have hS : va_S F s.heap s.heap [] := va_S.rf
  have hown : s.vm.findClass RE = some m.cls := hown
  have hl : lv_has ls 5 [(0, .ref (A 0))] := hl
  refine lv_aload_n hx hb dE_changeTwo_0 rfl (lv_at hl 0 rfl) ?_
  refine zAftl0 (zRunV0 ⟨hx, hb, hml, hown, hw⟩ (c_pop_ok l D A C _ n ops nums vc vals (d + 1) st ce pk pv pr w key pl dn tk 0 (by omega)) wm_E_136 wi_E_pop ws_E_pop wn_E wc_E_pop ⟨rfl, rfl⟩ wd_E_pop ⟨by decide, by decide⟩ hK hP hD 0 rfl rfl rfl hl.1 rfl (Nat.le_of_ble_eq_true rfl) dE_changeTwo_1 ⟨by decide, by decide⟩) hP hD hS hA (fun r u H locs hp hP hD hS => ?_)
  replace hP : va_P D vwCl (eW A C n ops nums vc vals (d + 1) st ce pk pv pr w key pl dn tk 0) H := hP
  replace hD : va_D F (eW A C n ops nums vc vals (d + 1) st ce pk pv pr w key pl dn tk 0) := hD
  subst hp
  refine lv_lstore_n hx hb dE_changeTwo_4 rfl hl (by decide) rfl (fun ls hl => ?_)
  have hl : lv_has ls 5 [(1, .long (st (d + 1))), (0, .ref (A 0))] := hl
  refine lv_aload_n hx hb dE_changeTwo_5 rfl (lv_at hl 1 rfl) ?_
  refine zAftl0 (zRunV0 ⟨hx, hb, hml, hown, hw⟩ (c_pop_ok l D A C _ n ops nums vc vals d st ce pk pv pr w key pl dn tk 0 (by omega)) wm_E_136 wi_E_pop ws_E_pop wn_E wc_E_pop ⟨rfl, rfl⟩ wd_E_pop ⟨by decide, by decide⟩ hK hP hD 0 rfl rfl rfl hl.1 rfl (Nat.le_of_ble_eq_true rfl) dE_changeTwo_6 ⟨by decide, by decide⟩) hP hD hS hA (fun r u H locs hp hP hD hS => ?_)
  replace hP : va_P D vwCl (eW A C n ops nums vc vals d st ce pk pv pr w key pl dn tk 0) H := hP
  replace hD : va_D F (eW A C n ops nums vc vals d st ce pk pv pr w key pl dn tk 0) := hD
  subst hp
  refine lv_lstore_n hx hb dE_changeTwo_9 rfl hl (by decide) rfl (fun ls hl => ?_)
  have hl : lv_has ls 5 [(3, .long (st d)), (1, .long (st (d + 1))), (0, .ref (A 0))] := hl
  refine lv_aload_n hx hb dE_changeTwo_10 rfl (lv_at hl 2 rfl) ?_
  refine lv_lload_n hx hb dE_changeTwo_11 rfl (lv_at hl 1 rfl) ?_
  refine zAftv0 (zRunV0 ⟨hx, hb, hml, hown, hw⟩ (c_push_ok l D A C _ n ops nums vc vals d st ce pk pv pr w key pl dn tk 0 (st (d + 1)) (by omega)) wm_E_119 wi_E_push ws_E_push wn_E wc_E_push ⟨rfl, rfl⟩ wd_E_push ⟨by decide, by decide⟩ hK hP hD 0 rfl rfl rfl hl.1 rfl (Nat.le_of_ble_eq_true rfl) dE_changeTwo_12 ⟨by decide, by decide⟩) hP hD hS hA (fun u H locs hp hP hD hS => ?_)
  replace hP : va_P D vwCl (eW A C n ops nums vc vals (d + 1) (vp_updL st d (st (d + 1))) ce pk pv pr w key pl dn tk 0) H := hP
  replace hD : va_D F (eW A C n ops nums vc vals (d + 1) (vp_updL st d (st (d + 1))) ce pk pv pr w key pl dn tk 0) := hD
  refine lv_aload_n hx hb dE_changeTwo_15 rfl (lv_at hl 2 rfl) ?_
  refine lv_lload_n hx hb dE_changeTwo_16 rfl (lv_at hl 0 rfl) ?_
  refine zAftv0 (zRunV0 ⟨hx, hb, hml, hown, hw⟩ (c_push_ok l D A C _ n ops nums vc vals (d + 1) (vp_updL st d (st (d + 1))) ce pk pv pr w key pl dn tk 0 (st d) (by omega)) wm_E_119 wi_E_push ws_E_push wn_E wc_E_push ⟨rfl, rfl⟩ wd_E_push ⟨by decide, by decide⟩ hK hP hD 0 rfl rfl rfl hl.1 rfl (Nat.le_of_ble_eq_true rfl) dE_changeTwo_17 ⟨by decide, by decide⟩) hP hD hS hA (fun u H locs hp hP hD hS => ?_)
  replace hP : va_P D vwCl (eW A C n ops nums vc vals (d + 1 + 1) (vp_updL (vp_updL st d (st (d + 1))) (d + 1) (st d)) ce pk pv pr w key pl dn tk 0) H := hP
  replace hD : va_D F (eW A C n ops nums vc vals (d + 1 + 1) (vp_updL (vp_updL st d (st (d + 1))) (d + 1) (st d)) ce pk pv pr w key pl dn tk 0) := hD
  exact zVret (w' := fun (_ : Unit) => (eW A C n ops nums vc vals (d + 1 + 1) (vp_updL (vp_updL st d (st (d + 1))) (d + 1) (st d)) ce pk pv pr w key pl dn tk 0)) () hx hb hr hlk hS hK trivial hP hD dE_changeTwo_20

set_option maxRecDepth 20000 in
set_option maxHeartbeats 4000000 in
theorem c_changeTwo_trap (l : Launch) (D : va_G) (A : Nat → Nat) (C : Nat → ClassId) (sz : Nat) (n : Nat) (ops : Nat → Int32) (nums : Nat → Int64) (vc : Nat) (vals : Nat → Int64) (d : Nat) (st : Nat → Int64) (ce : Nat → Int64) (pk : Nat → Int64) (pv : Nat → Int64) (pr : Nat) (w : Nat) (key : Int64) (pl : Nat) (dn : Nat) (tk : Nat) (tr : Nat) (hd : d ≤ 12) (hpl : pl ≤ 40) (h0 : d < 2) : Met l yE_changeTwo (.code yE_changeTwo cE_changeTwo 5 none :: WS) (rmk 1 22) (va_Pc [.ref (A 0)] (zP D (eT C) sz (eW A C n ops nums vc vals d st ce pk pv pr w key pl dn tk 0))) (va_Qv (fun u : Nat × (Nat → Int64) × Nat => u.1 ≤ 12 ∧ u.2.2 ≤ 40) (fun (u : Nat × (Nat → Int64) × Nat) t => zB D (eT C) (va_A (eW A C n ops nums vc vals d st ce pk pv pr w key pl dn tk 0) sz) (eW A C n ops nums vc vals u.1 u.2.1 ce pk pv pr w key u.2.2 dn tk 1) t) (va_A (eW A C n ops nums vc vals d st ce pk pv pr w key pl dn tk 0) sz)) 0 0 (va_A (eW A C n ops nums vc vals d st ce pk pv pr w key pl dn tk 0) sz) := by
  refine zEnt (Qc := fun F => (va_Qv (fun u : Nat × (Nat → Int64) × Nat => u.1 ≤ 12 ∧ u.2.2 ≤ 40) (fun (u : Nat × (Nat → Int64) × Nat) t => zB D (eT C) F (eW A C n ops nums vc vals u.1 u.2.1 ce pk pv pr w key u.2.2 dn tk 1) t) F)) (by decide) (Nat.le_of_ble_eq_true rfl) (fun p e s m below meth c ls F hx hb hr hlk hml hnm hw hown hsz hP hK hD hA hl => ?_)
  have hS : va_S F s.heap s.heap [] := va_S.rf
  have hown : s.vm.findClass RE = some m.cls := hown
  have hl : lv_has ls 5 [(0, .ref (A 0))] := hl
  refine lv_aload_n hx hb dE_changeTwo_0 rfl (lv_at hl 0 rfl) ?_
  refine zAftl0 (zRunV0 ⟨hx, hb, hml, hown, hw⟩ (c_pop l D A C _ n ops nums vc vals d st ce pk pv pr w key pl dn tk 0 (by omega)) wm_E_136 wi_E_pop ws_E_pop wn_E wc_E_pop ⟨rfl, rfl⟩ wd_E_pop ⟨by decide, by decide⟩ hK hP hD 0 rfl rfl rfl hl.1 rfl (Nat.le_of_ble_eq_true rfl) dE_changeTwo_1 ⟨by decide, by decide⟩) hP hD hS hA (fun r u H locs hp hP hD hS => ?_)
  replace hP : va_P D vwCl (eW A C n ops nums vc vals (d - 1) st ce pk pv pr w key pl dn tk (qT d 0)) H := hP
  replace hD : va_D F (eW A C n ops nums vc vals (d - 1) st ce pk pv pr w key pl dn tk (qT d 0)) := hD
  subst hp
  refine lv_lstore_n hx hb dE_changeTwo_4 rfl hl (by decide) rfl (fun ls hl => ?_)
  have hl : lv_has ls 5 [(1, .long (qV d st)), (0, .ref (A 0))] := hl
  refine lv_aload_n hx hb dE_changeTwo_5 rfl (lv_at hl 1 rfl) ?_
  refine zAftl0 (zRunV0 ⟨hx, hb, hml, hown, hw⟩ (c_pop l D A C _ n ops nums vc vals (d - 1) st ce pk pv pr w key pl dn tk (qT d 0) (by omega)) wm_E_136 wi_E_pop ws_E_pop wn_E wc_E_pop ⟨rfl, rfl⟩ wd_E_pop ⟨by decide, by decide⟩ hK hP hD 0 rfl rfl rfl hl.1 rfl (Nat.le_of_ble_eq_true rfl) dE_changeTwo_6 ⟨by decide, by decide⟩) hP hD hS hA (fun r u H locs hp hP hD hS => ?_)
  replace hP : va_P D vwCl (eW A C n ops nums vc vals (d - 1 - 1) st ce pk pv pr w key pl dn tk (qT (d - 1) (qT d 0))) H := hP
  replace hD : va_D F (eW A C n ops nums vc vals (d - 1 - 1) st ce pk pv pr w key pl dn tk (qT (d - 1) (qT d 0))) := hD
  subst hp
  refine lv_lstore_n hx hb dE_changeTwo_9 rfl hl (by decide) rfl (fun ls hl => ?_)
  have hl : lv_has ls 5 [(3, .long (qV (d - 1) st)), (1, .long (qV d st)), (0, .ref (A 0))] := hl
  refine lv_aload_n hx hb dE_changeTwo_10 rfl (lv_at hl 2 rfl) ?_
  refine lv_lload_n hx hb dE_changeTwo_11 rfl (lv_at hl 1 rfl) ?_
  refine zAftv0 (zRunV0 ⟨hx, hb, hml, hown, hw⟩ (c_push l D A C _ n ops nums vc vals (d - 1 - 1) st ce pk pv pr w key pl dn tk (qT (d - 1) (qT d 0)) (qV d st) (by omega)) wm_E_119 wi_E_push ws_E_push wn_E wc_E_push ⟨rfl, rfl⟩ wd_E_push ⟨by decide, by decide⟩ hK hP hD 0 rfl rfl rfl hl.1 rfl (Nat.le_of_ble_eq_true rfl) dE_changeTwo_12 ⟨by decide, by decide⟩) hP hD hS hA (fun u H locs hp hP hD hS => ?_)
  replace hP : va_P D vwCl (eW A C n ops nums vc vals (pD (d - 1 - 1)) (pS (qV d st) (d - 1 - 1) st) ce pk pv pr w key pl dn tk (pT (d - 1 - 1) (qT (d - 1) (qT d 0)))) H := hP
  replace hD : va_D F (eW A C n ops nums vc vals (pD (d - 1 - 1)) (pS (qV d st) (d - 1 - 1) st) ce pk pv pr w key pl dn tk (pT (d - 1 - 1) (qT (d - 1) (qT d 0)))) := hD
  refine lv_aload_n hx hb dE_changeTwo_15 rfl (lv_at hl 2 rfl) ?_
  refine lv_lload_n hx hb dE_changeTwo_16 rfl (lv_at hl 0 rfl) ?_
  refine zAftv0 (zRunV0 ⟨hx, hb, hml, hown, hw⟩ (c_push l D A C _ n ops nums vc vals (pD (d - 1 - 1)) (pS (qV d st) (d - 1 - 1) st) ce pk pv pr w key pl dn tk (pT (d - 1 - 1) (qT (d - 1) (qT d 0))) (qV (d - 1) st) (by simp only [pD]; (repeat' split) <;> omega)) wm_E_119 wi_E_push ws_E_push wn_E wc_E_push ⟨rfl, rfl⟩ wd_E_push ⟨by decide, by decide⟩ hK hP hD 0 rfl rfl rfl hl.1 rfl (Nat.le_of_ble_eq_true rfl) dE_changeTwo_17 ⟨by decide, by decide⟩) hP hD hS hA (fun u H locs hp hP hD hS => ?_)
  replace hP : va_P D vwCl (eW A C n ops nums vc vals (pD (pD (d - 1 - 1))) (pS (qV (d - 1) st) (pD (d - 1 - 1)) (pS (qV d st) (d - 1 - 1) st)) ce pk pv pr w key pl dn tk (pT (pD (d - 1 - 1)) (pT (d - 1 - 1) (qT (d - 1) (qT d 0))))) H := hP
  replace hD : va_D F (eW A C n ops nums vc vals (pD (pD (d - 1 - 1))) (pS (qV (d - 1) st) (pD (d - 1 - 1)) (pS (qV d st) (d - 1 - 1) st)) ce pk pv pr w key pl dn tk (pT (pD (d - 1 - 1)) (pT (d - 1 - 1) (qT (d - 1) (qT d 0))))) := hD
  have e9 : (pT (pD (d - 1 - 1)) (pT (d - 1 - 1) (qT (d - 1) (qT d 0)))) = 1 := by simp only [pT, qT, pD]; (repeat' split) <;> omega
  rw [e9] at hP hD
  exact zVret (w' := fun (u : Nat × (Nat → Int64) × Nat) => (eW A C n ops nums vc vals u.1 u.2.1 ce pk pv pr w key u.2.2 dn tk 1)) (pD (pD (d - 1 - 1)), pS (qV (d - 1) st) (pD (d - 1 - 1)) (pS (qV d st) (d - 1 - 1) st), pl) hx hb hr hlk hS hK ⟨by simp only [pD]; (repeat' split) <;> omega, by omega⟩ hP hD dE_changeTwo_20

set_option maxRecDepth 20000 in
set_option maxHeartbeats 4000000 in
theorem c_goIfZeroY_ok (l : Launch) (D : va_G) (A : Nat → Nat) (C : Nat → ClassId) (sz : Nat) (n : Nat) (ops : Nat → Int32) (nums : Nat → Int64) (vc : Nat) (vals : Nat → Int64) (d : Nat) (st : Nat → Int64) (ce : Nat → Int64) (pk : Nat → Int64) (pv : Nat → Int64) (pr : Nat) (w : Nat) (key : Int64) (pl : Nat) (dn : Nat) (tk : Nat) (tr : Nat) (j : Nat) (hd : d < 12) (hz : st d = 0) : Met l yE_goIfZero (.code yE_goIfZero cE_goIfZero 2 none :: WS) (rmk 1 22) (va_Pc [.ref (A 0), .int (nI j)] (zP D (eT C) sz (eW A C n ops nums vc vals (d + 1) st ce pk pv pr w key pl dn tk 0))) (va_Qv (fun _ : Unit => True) (fun (_ : Unit) t => zB D (eT C) (va_A (eW A C n ops nums vc vals (d + 1) st ce pk pv pr w key pl dn tk 0) sz) (eW A C n ops nums vc vals d st ce pk pv pr w key j dn tk 0) t) (va_A (eW A C n ops nums vc vals (d + 1) st ce pk pv pr w key pl dn tk 0) sz)) 0 0 (va_A (eW A C n ops nums vc vals (d + 1) st ce pk pv pr w key pl dn tk 0) sz) := by
  refine zEnt (Qc := fun F => (va_Qv (fun _ : Unit => True) (fun (_ : Unit) t => zB D (eT C) F (eW A C n ops nums vc vals d st ce pk pv pr w key j dn tk 0) t) F)) (by decide) (Nat.le_of_ble_eq_true rfl) (fun p e s m below meth c ls F hx hb hr hlk hml hnm hw hown hsz hP hK hD hA hl => ?_)
  have hS : va_S F s.heap s.heap [] := va_S.rf
  have hown : s.vm.findClass RE = some m.cls := hown
  have hl : lv_has ls 2 [(0, .ref (A 0)), (1, .int (nI j))] := hl
  refine lv_aload_n hx hb dE_goIfZero_0 rfl (lv_at hl 0 rfl) ?_
  refine zAftl0 (zRunV0 ⟨hx, hb, hml, hown, hw⟩ (c_pop_ok l D A C _ n ops nums vc vals d st ce pk pv pr w key pl dn tk 0 (by omega)) wm_E_136 wi_E_pop ws_E_pop wn_E wc_E_pop ⟨rfl, rfl⟩ wd_E_pop ⟨by decide, by decide⟩ hK hP hD 0 rfl rfl rfl hl.1 rfl (Nat.le_of_ble_eq_true rfl) dE_goIfZero_1 ⟨by decide, by decide⟩) hP hD hS hA (fun r u H locs hp hP hD hS => ?_)
  replace hP : va_P D vwCl (eW A C n ops nums vc vals d st ce pk pv pr w key pl dn tk 0) H := hP
  replace hD : va_D F (eW A C n ops nums vc vals d st ce pk pv pr w key pl dn tk 0) := hD
  subst hp
  refine lv_lconst (v := 0) hx hb dE_goIfZero_4 (by decide) ?_
  refine W.lcmp hx hb dE_goIfZero_5 ?_
  refine zl_ne (tgt := 14) hx hb dE_goIfZero_6 rfl (fun q => absurd q (by exact fun q => q hz)) (fun _ => ?_)
  refine lv_aload_n hx hb dE_goIfZero_9 rfl (lv_at hl 0 rfl) ?_
  refine lv_iload_n hx hb dE_goIfZero_10 rfl (lv_at hl 1 rfl) ?_
  refine zPutE hx hb hw hown hK hP hD hS 0 rfl 13 (by decide) wf_E_113 rfl rfl rfl (Nat.le_of_ble_eq_true rfl) dE_goIfZero_11 (fun H locs hP hD hS => ?_)
  replace hP : va_P D vwCl (eW A C n ops nums vc vals d st ce pk pv pr w key j dn tk 0) H := hP
  replace hD : va_D F (eW A C n ops nums vc vals d st ce pk pv pr w key j dn tk 0) := hD
  exact zVret (w' := fun (_ : Unit) => (eW A C n ops nums vc vals d st ce pk pv pr w key j dn tk 0)) () hx hb hr hlk hS hK trivial hP hD dE_goIfZero_14

set_option maxRecDepth 20000 in
set_option maxHeartbeats 4000000 in
theorem c_goIfZeroN_ok (l : Launch) (D : va_G) (A : Nat → Nat) (C : Nat → ClassId) (sz : Nat) (n : Nat) (ops : Nat → Int32) (nums : Nat → Int64) (vc : Nat) (vals : Nat → Int64) (d : Nat) (st : Nat → Int64) (ce : Nat → Int64) (pk : Nat → Int64) (pv : Nat → Int64) (pr : Nat) (w : Nat) (key : Int64) (pl : Nat) (dn : Nat) (tk : Nat) (tr : Nat) (j : Nat) (hd : d < 12) (hz : ¬ st d = 0) : Met l yE_goIfZero (.code yE_goIfZero cE_goIfZero 2 none :: WS) (rmk 1 22) (va_Pc [.ref (A 0), .int (nI j)] (zP D (eT C) sz (eW A C n ops nums vc vals (d + 1) st ce pk pv pr w key pl dn tk 0))) (va_Qv (fun _ : Unit => True) (fun (_ : Unit) t => zB D (eT C) (va_A (eW A C n ops nums vc vals (d + 1) st ce pk pv pr w key pl dn tk 0) sz) (eW A C n ops nums vc vals d st ce pk pv pr w key pl dn tk 0) t) (va_A (eW A C n ops nums vc vals (d + 1) st ce pk pv pr w key pl dn tk 0) sz)) 0 0 (va_A (eW A C n ops nums vc vals (d + 1) st ce pk pv pr w key pl dn tk 0) sz) := by
  refine zEnt (Qc := fun F => (va_Qv (fun _ : Unit => True) (fun (_ : Unit) t => zB D (eT C) F (eW A C n ops nums vc vals d st ce pk pv pr w key pl dn tk 0) t) F)) (by decide) (Nat.le_of_ble_eq_true rfl) (fun p e s m below meth c ls F hx hb hr hlk hml hnm hw hown hsz hP hK hD hA hl => ?_)
  have hS : va_S F s.heap s.heap [] := va_S.rf
  have hown : s.vm.findClass RE = some m.cls := hown
  have hl : lv_has ls 2 [(0, .ref (A 0)), (1, .int (nI j))] := hl
  refine lv_aload_n hx hb dE_goIfZero_0 rfl (lv_at hl 0 rfl) ?_
  refine zAftl0 (zRunV0 ⟨hx, hb, hml, hown, hw⟩ (c_pop_ok l D A C _ n ops nums vc vals d st ce pk pv pr w key pl dn tk 0 (by omega)) wm_E_136 wi_E_pop ws_E_pop wn_E wc_E_pop ⟨rfl, rfl⟩ wd_E_pop ⟨by decide, by decide⟩ hK hP hD 0 rfl rfl rfl hl.1 rfl (Nat.le_of_ble_eq_true rfl) dE_goIfZero_1 ⟨by decide, by decide⟩) hP hD hS hA (fun r u H locs hp hP hD hS => ?_)
  replace hP : va_P D vwCl (eW A C n ops nums vc vals d st ce pk pv pr w key pl dn tk 0) H := hP
  replace hD : va_D F (eW A C n ops nums vc vals d st ce pk pv pr w key pl dn tk 0) := hD
  subst hp
  refine lv_lconst (v := 0) hx hb dE_goIfZero_4 (by decide) ?_
  refine W.lcmp hx hb dE_goIfZero_5 ?_
  refine zl_ne (tgt := 14) hx hb dE_goIfZero_6 rfl (fun _ => ?_) (fun q => absurd q (by exact hz))
  exact zVret (w' := fun (_ : Unit) => (eW A C n ops nums vc vals d st ce pk pv pr w key pl dn tk 0)) () hx hb hr hlk hS hK trivial hP hD dE_goIfZero_14

set_option maxRecDepth 20000 in
set_option maxHeartbeats 4000000 in
theorem c_goIfZero_trap (l : Launch) (D : va_G) (A : Nat → Nat) (C : Nat → ClassId) (sz : Nat) (n : Nat) (ops : Nat → Int32) (nums : Nat → Int64) (vc : Nat) (vals : Nat → Int64) (d : Nat) (st : Nat → Int64) (ce : Nat → Int64) (pk : Nat → Int64) (pv : Nat → Int64) (pr : Nat) (w : Nat) (key : Int64) (pl : Nat) (dn : Nat) (tk : Nat) (tr : Nat) (j : Nat) (hd : d ≤ 12) (hpl : pl ≤ 40) (hj : j ≤ 40) (h0 : d = 0) : Met l yE_goIfZero (.code yE_goIfZero cE_goIfZero 2 none :: WS) (rmk 1 22) (va_Pc [.ref (A 0), .int (nI j)] (zP D (eT C) sz (eW A C n ops nums vc vals d st ce pk pv pr w key pl dn tk 0))) (va_Qv (fun u : Nat × (Nat → Int64) × Nat => u.1 ≤ 12 ∧ u.2.2 ≤ 40) (fun (u : Nat × (Nat → Int64) × Nat) t => zB D (eT C) (va_A (eW A C n ops nums vc vals d st ce pk pv pr w key pl dn tk 0) sz) (eW A C n ops nums vc vals u.1 u.2.1 ce pk pv pr w key u.2.2 dn tk 1) t) (va_A (eW A C n ops nums vc vals d st ce pk pv pr w key pl dn tk 0) sz)) 0 0 (va_A (eW A C n ops nums vc vals d st ce pk pv pr w key pl dn tk 0) sz) := by
  refine zEnt (Qc := fun F => (va_Qv (fun u : Nat × (Nat → Int64) × Nat => u.1 ≤ 12 ∧ u.2.2 ≤ 40) (fun (u : Nat × (Nat → Int64) × Nat) t => zB D (eT C) F (eW A C n ops nums vc vals u.1 u.2.1 ce pk pv pr w key u.2.2 dn tk 1) t) F)) (by decide) (Nat.le_of_ble_eq_true rfl) (fun p e s m below meth c ls F hx hb hr hlk hml hnm hw hown hsz hP hK hD hA hl => ?_)
  have hS : va_S F s.heap s.heap [] := va_S.rf
  have hown : s.vm.findClass RE = some m.cls := hown
  have hl : lv_has ls 2 [(0, .ref (A 0)), (1, .int (nI j))] := hl
  refine lv_aload_n hx hb dE_goIfZero_0 rfl (lv_at hl 0 rfl) ?_
  refine zAftl0 (zRunV0 ⟨hx, hb, hml, hown, hw⟩ (c_pop l D A C _ n ops nums vc vals d st ce pk pv pr w key pl dn tk 0 (by omega)) wm_E_136 wi_E_pop ws_E_pop wn_E wc_E_pop ⟨rfl, rfl⟩ wd_E_pop ⟨by decide, by decide⟩ hK hP hD 0 rfl rfl rfl hl.1 rfl (Nat.le_of_ble_eq_true rfl) dE_goIfZero_1 ⟨by decide, by decide⟩) hP hD hS hA (fun r u H locs hp hP hD hS => ?_)
  replace hP : va_P D vwCl (eW A C n ops nums vc vals (d - 1) st ce pk pv pr w key pl dn tk (qT d 0)) H := hP
  replace hD : va_D F (eW A C n ops nums vc vals (d - 1) st ce pk pv pr w key pl dn tk (qT d 0)) := hD
  subst hp
  refine lv_lconst (v := 0) hx hb dE_goIfZero_4 (by decide) ?_
  refine W.lcmp hx hb dE_goIfZero_5 ?_
  refine zl_ne (tgt := 14) hx hb dE_goIfZero_6 rfl (fun h6 => ?_) (fun h6 => ?_)
  · have e9 : (qT d 0) = 1 := by simp only [pT, qT, pD]; (repeat' split) <;> omega
    rw [e9] at hP hD
    exact zVret (w' := fun (u : Nat × (Nat → Int64) × Nat) => (eW A C n ops nums vc vals u.1 u.2.1 ce pk pv pr w key u.2.2 dn tk 1)) (d - 1, st, pl) hx hb hr hlk hS hK ⟨by omega, by omega⟩ hP hD dE_goIfZero_14
  · refine lv_aload_n hx hb dE_goIfZero_9 rfl (lv_at hl 0 rfl) ?_
    refine lv_iload_n hx hb dE_goIfZero_10 rfl (lv_at hl 1 rfl) ?_
    refine zPutE hx hb hw hown hK hP hD hS 0 rfl 13 (by decide) wf_E_113 rfl rfl rfl (Nat.le_of_ble_eq_true rfl) dE_goIfZero_11 (fun H locs hP hD hS => ?_)
    replace hP : va_P D vwCl (eW A C n ops nums vc vals (d - 1) st ce pk pv pr w key j dn tk (qT d 0)) H := hP
    replace hD : va_D F (eW A C n ops nums vc vals (d - 1) st ce pk pv pr w key j dn tk (qT d 0)) := hD
    have e9 : (qT d 0) = 1 := by simp only [pT, qT, pD]; (repeat' split) <;> omega
    rw [e9] at hP hD
    exact zVret (w' := fun (u : Nat × (Nat → Int64) × Nat) => (eW A C n ops nums vc vals u.1 u.2.1 ce pk pv pr w key u.2.2 dn tk 1)) (d - 1, st, j) hx hb hr hlk hS hK ⟨by omega, by omega⟩ hP hD dE_goIfZero_14

set_option maxRecDepth 20000 in
set_option maxHeartbeats 4000000 in
theorem c_emitPair1_ok (l : Launch) (D : va_G) (A : Nat → Nat) (C : Nat → ClassId) (sz : Nat) (n : Nat) (ops : Nat → Int32) (nums : Nat → Int64) (vc : Nat) (vals : Nat → Int64) (d : Nat) (st : Nat → Int64) (ce : Nat → Int64) (pk : Nat → Int64) (pv : Nat → Int64) (pr : Nat) (w : Nat) (key : Int64) (pl : Nat) (dn : Nat) (tk : Nat) (tr : Nat) (hd : d < 12) (hp : pr < 4) : Met l yE_emitPair (.code yE_emitPair cE_emitPair 5 none :: WS) (rmk 1 22) (va_Pc [.ref (A 0)] (zP D (eT C) sz (eW A C n ops nums vc vals (d + 1) st ce pk pv pr 1 key pl dn tk 0))) (va_Qv (fun _ : Unit => True) (fun (_ : Unit) t => zB D (eT C) (va_A (eW A C n ops nums vc vals (d + 1) st ce pk pv pr 1 key pl dn tk 0) sz) (eW A C n ops nums vc vals d st ce (vp_updL pk pr key) (vp_updL pv pr (st d)) (pr + 1) 1 key pl dn tk 0) t) (va_A (eW A C n ops nums vc vals (d + 1) st ce pk pv pr 1 key pl dn tk 0) sz)) 0 0 (va_A (eW A C n ops nums vc vals (d + 1) st ce pk pv pr 1 key pl dn tk 0) sz) := by
  refine zEnt (Qc := fun F => (va_Qv (fun _ : Unit => True) (fun (_ : Unit) t => zB D (eT C) F (eW A C n ops nums vc vals d st ce (vp_updL pk pr key) (vp_updL pv pr (st d)) (pr + 1) 1 key pl dn tk 0) t) F)) (by decide) (Nat.le_of_ble_eq_true rfl) (fun p e s m below meth c ls F hx hb hr hlk hml hnm hw hown hsz hP hK hD hA hl => ?_)
  have hS : va_S F s.heap s.heap [] := va_S.rf
  have hown : s.vm.findClass RE = some m.cls := hown
  have hl : lv_has ls 5 [(0, .ref (A 0))] := hl
  refine lv_aload_n hx hb dE_emitPair_0 rfl (lv_at hl 0 rfl) ?_
  refine zAftl0 (zRunV0 ⟨hx, hb, hml, hown, hw⟩ (c_pop_ok l D A C _ n ops nums vc vals d st ce pk pv pr 1 key pl dn tk 0 (by omega)) wm_E_136 wi_E_pop ws_E_pop wn_E wc_E_pop ⟨rfl, rfl⟩ wd_E_pop ⟨by decide, by decide⟩ hK hP hD 0 rfl rfl rfl hl.1 rfl (Nat.le_of_ble_eq_true rfl) dE_emitPair_1 ⟨by decide, by decide⟩) hP hD hS hA (fun r u H locs hp hP hD hS => ?_)
  replace hP : va_P D vwCl (eW A C n ops nums vc vals d st ce pk pv pr 1 key pl dn tk 0) H := hP
  replace hD : va_D F (eW A C n ops nums vc vals d st ce pk pv pr 1 key pl dn tk 0) := hD
  subst hp
  refine lv_lstore_n hx hb dE_emitPair_4 rfl hl (by decide) rfl (fun ls hl => ?_)
  have hl : lv_has ls 5 [(1, .long (st d)), (0, .ref (A 0))] := hl
  refine lv_aload_n hx hb dE_emitPair_5 rfl (lv_at hl 1 rfl) ?_
  refine zGetE hx hb hw hown hK hP 0 rfl 11 (by decide) wf_E_106 rfl dE_emitPair_6 ?_
  refine lv_iconst (v := nI 1) hx hb dE_emitPair_9 (by decide) ?_
  refine zc_ne (tgt := 20) hx hb dE_emitPair_10 rfl (by omega) (by omega) (fun q => absurd q (by omega)) (fun _ => ?_)
  refine lv_aload_n hx hb dE_emitPair_13 rfl (lv_at hl 1 rfl) ?_
  refine zGetE hx hb hw hown hK hP 0 rfl 12 (by decide) wf_E_109 rfl dE_emitPair_14 ?_
  refine lv_goto (tgt := 24) hx hb dE_emitPair_17 rfl ?_
  refine lv_lstore_n hx hb dE_emitPair_24 rfl hl (by decide) rfl (fun ls hl => ?_)
  have hl : lv_has ls 5 [(3, .long key), (1, .long (st d)), (0, .ref (A 0))] := hl
  refine lv_aload_n hx hb dE_emitPair_25 rfl (lv_at hl 2 rfl) ?_
  refine zGetE hx hb hw hown hK hP 0 rfl 16 (by decide) wf_E_72 rfl dE_emitPair_26 ?_
  refine zi_ne (tgt := 40) hx hb dE_emitPair_29 rfl (by omega) (fun q => absurd q (by omega)) (fun _ => ?_)
  refine lv_aload_n hx hb dE_emitPair_32 rfl (lv_at hl 2 rfl) ?_
  refine zGetE hx hb hw hown hK hP 0 rfl 10 (by decide) wf_E_81 rfl dE_emitPair_33 ?_
  refine lv_iconst (v := nI 4) hx hb dE_emitPair_36 (by decide) ?_
  refine zc_lt (tgt := 46) hx hb dE_emitPair_37 rfl (by omega) (by omega) (fun _ => ?_) (fun q => absurd q (by omega))
  refine lv_aload_n hx hb dE_emitPair_46 rfl (lv_at hl 2 rfl) ?_
  refine zGetE hx hb hw hown hK hP 0 rfl 8 (by decide) wf_E_26 rfl dE_emitPair_47 ?_
  refine lv_aload_n hx hb dE_emitPair_50 rfl (lv_at hl 2 rfl) ?_
  refine zGetE hx hb hw hown hK hP 0 rfl 10 (by decide) wf_E_81 rfl dE_emitPair_51 ?_
  refine lv_lload_n hx hb dE_emitPair_54 rfl (lv_at hl 0 rfl) ?_
  refine zLast hx hb hK hP hD hS 6 5 rfl rfl (by omega) (by decide) dE_emitPair_55 (fun H locs hP hD hS => ?_)
  replace hP : va_P D vwCl (eW A C n ops nums vc vals d st ce (vp_updL pk pr key) pv pr 1 key pl dn tk 0) H := hP
  replace hD : va_D F (eW A C n ops nums vc vals d st ce (vp_updL pk pr key) pv pr 1 key pl dn tk 0) := hD
  refine lv_aload_n hx hb dE_emitPair_56 rfl (lv_at hl 2 rfl) ?_
  refine zGetE hx hb hw hown hK hP 0 rfl 9 (by decide) wf_E_29 rfl dE_emitPair_57 ?_
  refine lv_aload_n hx hb dE_emitPair_60 rfl (lv_at hl 2 rfl) ?_
  refine zGetE hx hb hw hown hK hP 0 rfl 10 (by decide) wf_E_81 rfl dE_emitPair_61 ?_
  refine lv_lload_n hx hb dE_emitPair_64 rfl (lv_at hl 1 rfl) ?_
  refine zLast hx hb hK hP hD hS 7 6 rfl rfl (by omega) (by decide) dE_emitPair_65 (fun H locs hP hD hS => ?_)
  replace hP : va_P D vwCl (eW A C n ops nums vc vals d st ce (vp_updL pk pr key) (vp_updL pv pr (st d)) pr 1 key pl dn tk 0) H := hP
  replace hD : va_D F (eW A C n ops nums vc vals d st ce (vp_updL pk pr key) (vp_updL pv pr (st d)) pr 1 key pl dn tk 0) := hD
  refine lv_aload_n hx hb dE_emitPair_66 rfl (lv_at hl 2 rfl) ?_
  refine lv_dup hx hb dE_emitPair_67 rfl ?_
  refine zGetE hx hb hw hown hK hP 0 rfl 10 (by decide) wf_E_81 rfl dE_emitPair_68 ?_
  refine lv_iconst (v := nI 1) hx hb dE_emitPair_71 (by decide) ?_
  refine lv_iadd hx hb dE_emitPair_72 ?_
  refine zti (nI_add _ _) ?_
  refine zPutE hx hb hw hown hK hP hD hS 0 rfl 10 (by decide) wf_E_81 rfl rfl rfl (Nat.le_of_ble_eq_true rfl) dE_emitPair_73 (fun H locs hP hD hS => ?_)
  replace hP : va_P D vwCl (eW A C n ops nums vc vals d st ce (vp_updL pk pr key) (vp_updL pv pr (st d)) (pr + 1) 1 key pl dn tk 0) H := hP
  replace hD : va_D F (eW A C n ops nums vc vals d st ce (vp_updL pk pr key) (vp_updL pv pr (st d)) (pr + 1) 1 key pl dn tk 0) := hD
  exact zVret (w' := fun (_ : Unit) => (eW A C n ops nums vc vals d st ce (vp_updL pk pr key) (vp_updL pv pr (st d)) (pr + 1) 1 key pl dn tk 0)) () hx hb hr hlk hS hK trivial hP hD dE_emitPair_76

set_option maxRecDepth 20000 in
set_option maxHeartbeats 4000000 in
theorem c_emitPair2_ok (l : Launch) (D : va_G) (A : Nat → Nat) (C : Nat → ClassId) (sz : Nat) (n : Nat) (ops : Nat → Int32) (nums : Nat → Int64) (vc : Nat) (vals : Nat → Int64) (d : Nat) (st : Nat → Int64) (ce : Nat → Int64) (pk : Nat → Int64) (pv : Nat → Int64) (pr : Nat) (w : Nat) (key : Int64) (pl : Nat) (dn : Nat) (tk : Nat) (tr : Nat) (hd : d < 11) (hp : pr < 4) (hw1 : w ≠ 1) (hw2 : w ≤ 2) : Met l yE_emitPair (.code yE_emitPair cE_emitPair 5 none :: WS) (rmk 1 22) (va_Pc [.ref (A 0)] (zP D (eT C) sz (eW A C n ops nums vc vals (d + 1 + 1) st ce pk pv pr w key pl dn tk 0))) (va_Qv (fun _ : Unit => True) (fun (_ : Unit) t => zB D (eT C) (va_A (eW A C n ops nums vc vals (d + 1 + 1) st ce pk pv pr w key pl dn tk 0) sz) (eW A C n ops nums vc vals d st ce (vp_updL pk pr (st d)) (vp_updL pv pr (st (d + 1))) (pr + 1) w key pl dn tk 0) t) (va_A (eW A C n ops nums vc vals (d + 1 + 1) st ce pk pv pr w key pl dn tk 0) sz)) 0 0 (va_A (eW A C n ops nums vc vals (d + 1 + 1) st ce pk pv pr w key pl dn tk 0) sz) := by
  refine zEnt (Qc := fun F => (va_Qv (fun _ : Unit => True) (fun (_ : Unit) t => zB D (eT C) F (eW A C n ops nums vc vals d st ce (vp_updL pk pr (st d)) (vp_updL pv pr (st (d + 1))) (pr + 1) w key pl dn tk 0) t) F)) (by decide) (Nat.le_of_ble_eq_true rfl) (fun p e s m below meth c ls F hx hb hr hlk hml hnm hw hown hsz hP hK hD hA hl => ?_)
  have hS : va_S F s.heap s.heap [] := va_S.rf
  have hown : s.vm.findClass RE = some m.cls := hown
  have hl : lv_has ls 5 [(0, .ref (A 0))] := hl
  refine lv_aload_n hx hb dE_emitPair_0 rfl (lv_at hl 0 rfl) ?_
  refine zAftl0 (zRunV0 ⟨hx, hb, hml, hown, hw⟩ (c_pop_ok l D A C _ n ops nums vc vals (d + 1) st ce pk pv pr w key pl dn tk 0 (by omega)) wm_E_136 wi_E_pop ws_E_pop wn_E wc_E_pop ⟨rfl, rfl⟩ wd_E_pop ⟨by decide, by decide⟩ hK hP hD 0 rfl rfl rfl hl.1 rfl (Nat.le_of_ble_eq_true rfl) dE_emitPair_1 ⟨by decide, by decide⟩) hP hD hS hA (fun r u H locs hp hP hD hS => ?_)
  replace hP : va_P D vwCl (eW A C n ops nums vc vals (d + 1) st ce pk pv pr w key pl dn tk 0) H := hP
  replace hD : va_D F (eW A C n ops nums vc vals (d + 1) st ce pk pv pr w key pl dn tk 0) := hD
  subst hp
  refine lv_lstore_n hx hb dE_emitPair_4 rfl hl (by decide) rfl (fun ls hl => ?_)
  have hl : lv_has ls 5 [(1, .long (st (d + 1))), (0, .ref (A 0))] := hl
  refine lv_aload_n hx hb dE_emitPair_5 rfl (lv_at hl 1 rfl) ?_
  refine zGetE hx hb hw hown hK hP 0 rfl 11 (by decide) wf_E_106 rfl dE_emitPair_6 ?_
  refine lv_iconst (v := nI 1) hx hb dE_emitPair_9 (by decide) ?_
  refine zc_ne (tgt := 20) hx hb dE_emitPair_10 rfl (by omega) (by omega) (fun _ => ?_) (fun q => absurd q (by omega))
  refine lv_aload_n hx hb dE_emitPair_20 rfl (lv_at hl 1 rfl) ?_
  refine zAftl0 (zRunV0 ⟨hx, hb, hml, hown, hw⟩ (c_pop_ok l D A C _ n ops nums vc vals d st ce pk pv pr w key pl dn tk 0 (by omega)) wm_E_136 wi_E_pop ws_E_pop wn_E wc_E_pop ⟨rfl, rfl⟩ wd_E_pop ⟨by decide, by decide⟩ hK hP hD 0 rfl rfl rfl hl.1 rfl (Nat.le_of_ble_eq_true rfl) dE_emitPair_21 ⟨by decide, by decide⟩) hP hD hS hA (fun r u H locs hp hP hD hS => ?_)
  replace hP : va_P D vwCl (eW A C n ops nums vc vals d st ce pk pv pr w key pl dn tk 0) H := hP
  replace hD : va_D F (eW A C n ops nums vc vals d st ce pk pv pr w key pl dn tk 0) := hD
  subst hp
  refine lv_lstore_n hx hb dE_emitPair_24 rfl hl (by decide) rfl (fun ls hl => ?_)
  have hl : lv_has ls 5 [(3, .long (st d)), (1, .long (st (d + 1))), (0, .ref (A 0))] := hl
  refine lv_aload_n hx hb dE_emitPair_25 rfl (lv_at hl 2 rfl) ?_
  refine zGetE hx hb hw hown hK hP 0 rfl 16 (by decide) wf_E_72 rfl dE_emitPair_26 ?_
  refine zi_ne (tgt := 40) hx hb dE_emitPair_29 rfl (by omega) (fun q => absurd q (by omega)) (fun _ => ?_)
  refine lv_aload_n hx hb dE_emitPair_32 rfl (lv_at hl 2 rfl) ?_
  refine zGetE hx hb hw hown hK hP 0 rfl 10 (by decide) wf_E_81 rfl dE_emitPair_33 ?_
  refine lv_iconst (v := nI 4) hx hb dE_emitPair_36 (by decide) ?_
  refine zc_lt (tgt := 46) hx hb dE_emitPair_37 rfl (by omega) (by omega) (fun _ => ?_) (fun q => absurd q (by omega))
  refine lv_aload_n hx hb dE_emitPair_46 rfl (lv_at hl 2 rfl) ?_
  refine zGetE hx hb hw hown hK hP 0 rfl 8 (by decide) wf_E_26 rfl dE_emitPair_47 ?_
  refine lv_aload_n hx hb dE_emitPair_50 rfl (lv_at hl 2 rfl) ?_
  refine zGetE hx hb hw hown hK hP 0 rfl 10 (by decide) wf_E_81 rfl dE_emitPair_51 ?_
  refine lv_lload_n hx hb dE_emitPair_54 rfl (lv_at hl 0 rfl) ?_
  refine zLast hx hb hK hP hD hS 6 5 rfl rfl (by omega) (by decide) dE_emitPair_55 (fun H locs hP hD hS => ?_)
  replace hP : va_P D vwCl (eW A C n ops nums vc vals d st ce (vp_updL pk pr (st d)) pv pr w key pl dn tk 0) H := hP
  replace hD : va_D F (eW A C n ops nums vc vals d st ce (vp_updL pk pr (st d)) pv pr w key pl dn tk 0) := hD
  refine lv_aload_n hx hb dE_emitPair_56 rfl (lv_at hl 2 rfl) ?_
  refine zGetE hx hb hw hown hK hP 0 rfl 9 (by decide) wf_E_29 rfl dE_emitPair_57 ?_
  refine lv_aload_n hx hb dE_emitPair_60 rfl (lv_at hl 2 rfl) ?_
  refine zGetE hx hb hw hown hK hP 0 rfl 10 (by decide) wf_E_81 rfl dE_emitPair_61 ?_
  refine lv_lload_n hx hb dE_emitPair_64 rfl (lv_at hl 1 rfl) ?_
  refine zLast hx hb hK hP hD hS 7 6 rfl rfl (by omega) (by decide) dE_emitPair_65 (fun H locs hP hD hS => ?_)
  replace hP : va_P D vwCl (eW A C n ops nums vc vals d st ce (vp_updL pk pr (st d)) (vp_updL pv pr (st (d + 1))) pr w key pl dn tk 0) H := hP
  replace hD : va_D F (eW A C n ops nums vc vals d st ce (vp_updL pk pr (st d)) (vp_updL pv pr (st (d + 1))) pr w key pl dn tk 0) := hD
  refine lv_aload_n hx hb dE_emitPair_66 rfl (lv_at hl 2 rfl) ?_
  refine lv_dup hx hb dE_emitPair_67 rfl ?_
  refine zGetE hx hb hw hown hK hP 0 rfl 10 (by decide) wf_E_81 rfl dE_emitPair_68 ?_
  refine lv_iconst (v := nI 1) hx hb dE_emitPair_71 (by decide) ?_
  refine lv_iadd hx hb dE_emitPair_72 ?_
  refine zti (nI_add _ _) ?_
  refine zPutE hx hb hw hown hK hP hD hS 0 rfl 10 (by decide) wf_E_81 rfl rfl rfl (Nat.le_of_ble_eq_true rfl) dE_emitPair_73 (fun H locs hP hD hS => ?_)
  replace hP : va_P D vwCl (eW A C n ops nums vc vals d st ce (vp_updL pk pr (st d)) (vp_updL pv pr (st (d + 1))) (pr + 1) w key pl dn tk 0) H := hP
  replace hD : va_D F (eW A C n ops nums vc vals d st ce (vp_updL pk pr (st d)) (vp_updL pv pr (st (d + 1))) (pr + 1) w key pl dn tk 0) := hD
  exact zVret (w' := fun (_ : Unit) => (eW A C n ops nums vc vals d st ce (vp_updL pk pr (st d)) (vp_updL pv pr (st (d + 1))) (pr + 1) w key pl dn tk 0)) () hx hb hr hlk hS hK trivial hP hD dE_emitPair_76

set_option maxRecDepth 20000 in
set_option maxHeartbeats 4000000 in
theorem c_emitPair1_low (l : Launch) (D : va_G) (A : Nat → Nat) (C : Nat → ClassId) (sz : Nat) (n : Nat) (ops : Nat → Int32) (nums : Nat → Int64) (vc : Nat) (vals : Nat → Int64) (d : Nat) (st : Nat → Int64) (ce : Nat → Int64) (pk : Nat → Int64) (pv : Nat → Int64) (pr : Nat) (w : Nat) (key : Int64) (pl : Nat) (dn : Nat) (tk : Nat) (tr : Nat) (hd : d ≤ 12) (hpl : pl ≤ 40) (h0 : d = 0) : Met l yE_emitPair (.code yE_emitPair cE_emitPair 5 none :: WS) (rmk 1 22) (va_Pc [.ref (A 0)] (zP D (eT C) sz (eW A C n ops nums vc vals d st ce pk pv pr 1 key pl dn tk 0))) (va_Qv (fun u : Nat × (Nat → Int64) × Nat => u.1 ≤ 12 ∧ u.2.2 ≤ 40) (fun (u : Nat × (Nat → Int64) × Nat) t => zB D (eT C) (va_A (eW A C n ops nums vc vals d st ce pk pv pr 1 key pl dn tk 0) sz) (eW A C n ops nums vc vals u.1 u.2.1 ce pk pv pr 1 key u.2.2 dn tk 1) t) (va_A (eW A C n ops nums vc vals d st ce pk pv pr 1 key pl dn tk 0) sz)) 0 0 (va_A (eW A C n ops nums vc vals d st ce pk pv pr 1 key pl dn tk 0) sz) := by
  refine zEnt (Qc := fun F => (va_Qv (fun u : Nat × (Nat → Int64) × Nat => u.1 ≤ 12 ∧ u.2.2 ≤ 40) (fun (u : Nat × (Nat → Int64) × Nat) t => zB D (eT C) F (eW A C n ops nums vc vals u.1 u.2.1 ce pk pv pr 1 key u.2.2 dn tk 1) t) F)) (by decide) (Nat.le_of_ble_eq_true rfl) (fun p e s m below meth c ls F hx hb hr hlk hml hnm hw hown hsz hP hK hD hA hl => ?_)
  have hS : va_S F s.heap s.heap [] := va_S.rf
  have hown : s.vm.findClass RE = some m.cls := hown
  have hl : lv_has ls 5 [(0, .ref (A 0))] := hl
  refine lv_aload_n hx hb dE_emitPair_0 rfl (lv_at hl 0 rfl) ?_
  refine zAftl0 (zRunV0 ⟨hx, hb, hml, hown, hw⟩ (c_pop l D A C _ n ops nums vc vals d st ce pk pv pr 1 key pl dn tk 0 (by omega)) wm_E_136 wi_E_pop ws_E_pop wn_E wc_E_pop ⟨rfl, rfl⟩ wd_E_pop ⟨by decide, by decide⟩ hK hP hD 0 rfl rfl rfl hl.1 rfl (Nat.le_of_ble_eq_true rfl) dE_emitPair_1 ⟨by decide, by decide⟩) hP hD hS hA (fun r u H locs hp hP hD hS => ?_)
  replace hP : va_P D vwCl (eW A C n ops nums vc vals (d - 1) st ce pk pv pr 1 key pl dn tk (qT d 0)) H := hP
  replace hD : va_D F (eW A C n ops nums vc vals (d - 1) st ce pk pv pr 1 key pl dn tk (qT d 0)) := hD
  subst hp
  refine lv_lstore_n hx hb dE_emitPair_4 rfl hl (by decide) rfl (fun ls hl => ?_)
  have hl : lv_has ls 5 [(1, .long (qV d st)), (0, .ref (A 0))] := hl
  refine lv_aload_n hx hb dE_emitPair_5 rfl (lv_at hl 1 rfl) ?_
  refine zGetE hx hb hw hown hK hP 0 rfl 11 (by decide) wf_E_106 rfl dE_emitPair_6 ?_
  refine lv_iconst (v := nI 1) hx hb dE_emitPair_9 (by decide) ?_
  refine zc_ne (tgt := 20) hx hb dE_emitPair_10 rfl (by omega) (by omega) (fun q => absurd q (by omega)) (fun _ => ?_)
  refine lv_aload_n hx hb dE_emitPair_13 rfl (lv_at hl 1 rfl) ?_
  refine zGetE hx hb hw hown hK hP 0 rfl 12 (by decide) wf_E_109 rfl dE_emitPair_14 ?_
  refine lv_goto (tgt := 24) hx hb dE_emitPair_17 rfl ?_
  refine lv_lstore_n hx hb dE_emitPair_24 rfl hl (by decide) rfl (fun ls hl => ?_)
  have hl : lv_has ls 5 [(3, .long key), (1, .long (qV d st)), (0, .ref (A 0))] := hl
  refine lv_aload_n hx hb dE_emitPair_25 rfl (lv_at hl 2 rfl) ?_
  refine zGetE hx hb hw hown hK hP 0 rfl 16 (by decide) wf_E_72 rfl dE_emitPair_26 ?_
  refine zi_ne (tgt := 40) hx hb dE_emitPair_29 rfl (by simp only [pT, qT, pD, hN]; (repeat' split) <;> omega) (fun _ => ?_) (fun q => absurd q (by simp only [qT]; (repeat' split) <;> omega))
  refine lv_aload_n hx hb dE_emitPair_40 rfl (lv_at hl 2 rfl) ?_
  refine lv_iconst (v := nI 1) hx hb dE_emitPair_41 (by decide) ?_
  refine zPutE hx hb hw hown hK hP hD hS 0 rfl 16 (by decide) wf_E_72 rfl rfl rfl (Nat.le_of_ble_eq_true rfl) dE_emitPair_42 (fun H locs hP hD hS => ?_)
  replace hP : va_P D vwCl (eW A C n ops nums vc vals (d - 1) st ce pk pv pr 1 key pl dn tk 1) H := hP
  replace hD : va_D F (eW A C n ops nums vc vals (d - 1) st ce pk pv pr 1 key pl dn tk 1) := hD
  exact zVret (w' := fun (u : Nat × (Nat → Int64) × Nat) => (eW A C n ops nums vc vals u.1 u.2.1 ce pk pv pr 1 key u.2.2 dn tk 1)) (d - 1, st, pl) hx hb hr hlk hS hK ⟨by omega, by omega⟩ hP hD dE_emitPair_45

set_option maxRecDepth 20000 in
set_option maxHeartbeats 4000000 in
theorem c_emitPair2_low (l : Launch) (D : va_G) (A : Nat → Nat) (C : Nat → ClassId) (sz : Nat) (n : Nat) (ops : Nat → Int32) (nums : Nat → Int64) (vc : Nat) (vals : Nat → Int64) (d : Nat) (st : Nat → Int64) (ce : Nat → Int64) (pk : Nat → Int64) (pv : Nat → Int64) (pr : Nat) (w : Nat) (key : Int64) (pl : Nat) (dn : Nat) (tk : Nat) (tr : Nat) (hd : d ≤ 12) (hpl : pl ≤ 40) (h0 : d < 2) (hw1 : w ≠ 1) (hw2 : w ≤ 2) : Met l yE_emitPair (.code yE_emitPair cE_emitPair 5 none :: WS) (rmk 1 22) (va_Pc [.ref (A 0)] (zP D (eT C) sz (eW A C n ops nums vc vals d st ce pk pv pr w key pl dn tk 0))) (va_Qv (fun u : Nat × (Nat → Int64) × Nat => u.1 ≤ 12 ∧ u.2.2 ≤ 40) (fun (u : Nat × (Nat → Int64) × Nat) t => zB D (eT C) (va_A (eW A C n ops nums vc vals d st ce pk pv pr w key pl dn tk 0) sz) (eW A C n ops nums vc vals u.1 u.2.1 ce pk pv pr w key u.2.2 dn tk 1) t) (va_A (eW A C n ops nums vc vals d st ce pk pv pr w key pl dn tk 0) sz)) 0 0 (va_A (eW A C n ops nums vc vals d st ce pk pv pr w key pl dn tk 0) sz) := by
  refine zEnt (Qc := fun F => (va_Qv (fun u : Nat × (Nat → Int64) × Nat => u.1 ≤ 12 ∧ u.2.2 ≤ 40) (fun (u : Nat × (Nat → Int64) × Nat) t => zB D (eT C) F (eW A C n ops nums vc vals u.1 u.2.1 ce pk pv pr w key u.2.2 dn tk 1) t) F)) (by decide) (Nat.le_of_ble_eq_true rfl) (fun p e s m below meth c ls F hx hb hr hlk hml hnm hw hown hsz hP hK hD hA hl => ?_)
  have hS : va_S F s.heap s.heap [] := va_S.rf
  have hown : s.vm.findClass RE = some m.cls := hown
  have hl : lv_has ls 5 [(0, .ref (A 0))] := hl
  refine lv_aload_n hx hb dE_emitPair_0 rfl (lv_at hl 0 rfl) ?_
  refine zAftl0 (zRunV0 ⟨hx, hb, hml, hown, hw⟩ (c_pop l D A C _ n ops nums vc vals d st ce pk pv pr w key pl dn tk 0 (by omega)) wm_E_136 wi_E_pop ws_E_pop wn_E wc_E_pop ⟨rfl, rfl⟩ wd_E_pop ⟨by decide, by decide⟩ hK hP hD 0 rfl rfl rfl hl.1 rfl (Nat.le_of_ble_eq_true rfl) dE_emitPair_1 ⟨by decide, by decide⟩) hP hD hS hA (fun r u H locs hp hP hD hS => ?_)
  replace hP : va_P D vwCl (eW A C n ops nums vc vals (d - 1) st ce pk pv pr w key pl dn tk (qT d 0)) H := hP
  replace hD : va_D F (eW A C n ops nums vc vals (d - 1) st ce pk pv pr w key pl dn tk (qT d 0)) := hD
  subst hp
  refine lv_lstore_n hx hb dE_emitPair_4 rfl hl (by decide) rfl (fun ls hl => ?_)
  have hl : lv_has ls 5 [(1, .long (qV d st)), (0, .ref (A 0))] := hl
  refine lv_aload_n hx hb dE_emitPair_5 rfl (lv_at hl 1 rfl) ?_
  refine zGetE hx hb hw hown hK hP 0 rfl 11 (by decide) wf_E_106 rfl dE_emitPair_6 ?_
  refine lv_iconst (v := nI 1) hx hb dE_emitPair_9 (by decide) ?_
  refine zc_ne (tgt := 20) hx hb dE_emitPair_10 rfl (by omega) (by omega) (fun _ => ?_) (fun q => absurd q (by omega))
  refine lv_aload_n hx hb dE_emitPair_20 rfl (lv_at hl 1 rfl) ?_
  refine zAftl0 (zRunV0 ⟨hx, hb, hml, hown, hw⟩ (c_pop l D A C _ n ops nums vc vals (d - 1) st ce pk pv pr w key pl dn tk (qT d 0) (by omega)) wm_E_136 wi_E_pop ws_E_pop wn_E wc_E_pop ⟨rfl, rfl⟩ wd_E_pop ⟨by decide, by decide⟩ hK hP hD 0 rfl rfl rfl hl.1 rfl (Nat.le_of_ble_eq_true rfl) dE_emitPair_21 ⟨by decide, by decide⟩) hP hD hS hA (fun r u H locs hp hP hD hS => ?_)
  replace hP : va_P D vwCl (eW A C n ops nums vc vals (d - 1 - 1) st ce pk pv pr w key pl dn tk (qT (d - 1) (qT d 0))) H := hP
  replace hD : va_D F (eW A C n ops nums vc vals (d - 1 - 1) st ce pk pv pr w key pl dn tk (qT (d - 1) (qT d 0))) := hD
  subst hp
  refine lv_lstore_n hx hb dE_emitPair_24 rfl hl (by decide) rfl (fun ls hl => ?_)
  have hl : lv_has ls 5 [(3, .long (qV (d - 1) st)), (1, .long (qV d st)), (0, .ref (A 0))] := hl
  refine lv_aload_n hx hb dE_emitPair_25 rfl (lv_at hl 2 rfl) ?_
  refine zGetE hx hb hw hown hK hP 0 rfl 16 (by decide) wf_E_72 rfl dE_emitPair_26 ?_
  refine zi_ne (tgt := 40) hx hb dE_emitPair_29 rfl (by simp only [pT, qT, pD, hN]; (repeat' split) <;> omega) (fun _ => ?_) (fun q => absurd q (by simp only [qT]; (repeat' split) <;> omega))
  refine lv_aload_n hx hb dE_emitPair_40 rfl (lv_at hl 2 rfl) ?_
  refine lv_iconst (v := nI 1) hx hb dE_emitPair_41 (by decide) ?_
  refine zPutE hx hb hw hown hK hP hD hS 0 rfl 16 (by decide) wf_E_72 rfl rfl rfl (Nat.le_of_ble_eq_true rfl) dE_emitPair_42 (fun H locs hP hD hS => ?_)
  replace hP : va_P D vwCl (eW A C n ops nums vc vals (d - 1 - 1) st ce pk pv pr w key pl dn tk 1) H := hP
  replace hD : va_D F (eW A C n ops nums vc vals (d - 1 - 1) st ce pk pv pr w key pl dn tk 1) := hD
  exact zVret (w' := fun (u : Nat × (Nat → Int64) × Nat) => (eW A C n ops nums vc vals u.1 u.2.1 ce pk pv pr w key u.2.2 dn tk 1)) (d - 1 - 1, st, pl) hx hb hr hlk hS hK ⟨by omega, by omega⟩ hP hD dE_emitPair_45

set_option maxRecDepth 20000 in
set_option maxHeartbeats 4000000 in
theorem c_emitPair1_full (l : Launch) (D : va_G) (A : Nat → Nat) (C : Nat → ClassId) (sz : Nat) (n : Nat) (ops : Nat → Int32) (nums : Nat → Int64) (vc : Nat) (vals : Nat → Int64) (d : Nat) (st : Nat → Int64) (ce : Nat → Int64) (pk : Nat → Int64) (pv : Nat → Int64) (pr : Nat) (w : Nat) (key : Int64) (pl : Nat) (dn : Nat) (tk : Nat) (tr : Nat) (hd : d ≤ 12) (hpl : pl ≤ 40) (hd1 : d < 12) (hp : pr = 4) : Met l yE_emitPair (.code yE_emitPair cE_emitPair 5 none :: WS) (rmk 1 22) (va_Pc [.ref (A 0)] (zP D (eT C) sz (eW A C n ops nums vc vals (d + 1) st ce pk pv pr 1 key pl dn tk 0))) (va_Qv (fun u : Nat × (Nat → Int64) × Nat => u.1 ≤ 12 ∧ u.2.2 ≤ 40) (fun (u : Nat × (Nat → Int64) × Nat) t => zB D (eT C) (va_A (eW A C n ops nums vc vals (d + 1) st ce pk pv pr 1 key pl dn tk 0) sz) (eW A C n ops nums vc vals u.1 u.2.1 ce pk pv pr 1 key u.2.2 dn tk 1) t) (va_A (eW A C n ops nums vc vals (d + 1) st ce pk pv pr 1 key pl dn tk 0) sz)) 0 0 (va_A (eW A C n ops nums vc vals (d + 1) st ce pk pv pr 1 key pl dn tk 0) sz) := by
  refine zEnt (Qc := fun F => (va_Qv (fun u : Nat × (Nat → Int64) × Nat => u.1 ≤ 12 ∧ u.2.2 ≤ 40) (fun (u : Nat × (Nat → Int64) × Nat) t => zB D (eT C) F (eW A C n ops nums vc vals u.1 u.2.1 ce pk pv pr 1 key u.2.2 dn tk 1) t) F)) (by decide) (Nat.le_of_ble_eq_true rfl) (fun p e s m below meth c ls F hx hb hr hlk hml hnm hw hown hsz hP hK hD hA hl => ?_)
  have hS : va_S F s.heap s.heap [] := va_S.rf
  have hown : s.vm.findClass RE = some m.cls := hown
  have hl : lv_has ls 5 [(0, .ref (A 0))] := hl
  refine lv_aload_n hx hb dE_emitPair_0 rfl (lv_at hl 0 rfl) ?_
  refine zAftl0 (zRunV0 ⟨hx, hb, hml, hown, hw⟩ (c_pop_ok l D A C _ n ops nums vc vals d st ce pk pv pr 1 key pl dn tk 0 (by omega)) wm_E_136 wi_E_pop ws_E_pop wn_E wc_E_pop ⟨rfl, rfl⟩ wd_E_pop ⟨by decide, by decide⟩ hK hP hD 0 rfl rfl rfl hl.1 rfl (Nat.le_of_ble_eq_true rfl) dE_emitPair_1 ⟨by decide, by decide⟩) hP hD hS hA (fun r u H locs hp hP hD hS => ?_)
  replace hP : va_P D vwCl (eW A C n ops nums vc vals d st ce pk pv pr 1 key pl dn tk 0) H := hP
  replace hD : va_D F (eW A C n ops nums vc vals d st ce pk pv pr 1 key pl dn tk 0) := hD
  subst hp
  refine lv_lstore_n hx hb dE_emitPair_4 rfl hl (by decide) rfl (fun ls hl => ?_)
  have hl : lv_has ls 5 [(1, .long (st d)), (0, .ref (A 0))] := hl
  refine lv_aload_n hx hb dE_emitPair_5 rfl (lv_at hl 1 rfl) ?_
  refine zGetE hx hb hw hown hK hP 0 rfl 11 (by decide) wf_E_106 rfl dE_emitPair_6 ?_
  refine lv_iconst (v := nI 1) hx hb dE_emitPair_9 (by decide) ?_
  refine zc_ne (tgt := 20) hx hb dE_emitPair_10 rfl (by omega) (by omega) (fun q => absurd q (by omega)) (fun _ => ?_)
  refine lv_aload_n hx hb dE_emitPair_13 rfl (lv_at hl 1 rfl) ?_
  refine zGetE hx hb hw hown hK hP 0 rfl 12 (by decide) wf_E_109 rfl dE_emitPair_14 ?_
  refine lv_goto (tgt := 24) hx hb dE_emitPair_17 rfl ?_
  refine lv_lstore_n hx hb dE_emitPair_24 rfl hl (by decide) rfl (fun ls hl => ?_)
  have hl : lv_has ls 5 [(3, .long key), (1, .long (st d)), (0, .ref (A 0))] := hl
  refine lv_aload_n hx hb dE_emitPair_25 rfl (lv_at hl 2 rfl) ?_
  refine zGetE hx hb hw hown hK hP 0 rfl 16 (by decide) wf_E_72 rfl dE_emitPair_26 ?_
  refine zi_ne (tgt := 40) hx hb dE_emitPair_29 rfl (by omega) (fun q => absurd q (by omega)) (fun _ => ?_)
  refine lv_aload_n hx hb dE_emitPair_32 rfl (lv_at hl 2 rfl) ?_
  refine zGetE hx hb hw hown hK hP 0 rfl 10 (by decide) wf_E_81 rfl dE_emitPair_33 ?_
  refine lv_iconst (v := nI 4) hx hb dE_emitPair_36 (by decide) ?_
  refine zc_lt (tgt := 46) hx hb dE_emitPair_37 rfl (by omega) (by omega) (fun q => absurd q (by omega)) (fun _ => ?_)
  refine lv_aload_n hx hb dE_emitPair_40 rfl (lv_at hl 2 rfl) ?_
  refine lv_iconst (v := nI 1) hx hb dE_emitPair_41 (by decide) ?_
  refine zPutE hx hb hw hown hK hP hD hS 0 rfl 16 (by decide) wf_E_72 rfl rfl rfl (Nat.le_of_ble_eq_true rfl) dE_emitPair_42 (fun H locs hP hD hS => ?_)
  replace hP : va_P D vwCl (eW A C n ops nums vc vals d st ce pk pv pr 1 key pl dn tk 1) H := hP
  replace hD : va_D F (eW A C n ops nums vc vals d st ce pk pv pr 1 key pl dn tk 1) := hD
  exact zVret (w' := fun (u : Nat × (Nat → Int64) × Nat) => (eW A C n ops nums vc vals u.1 u.2.1 ce pk pv pr 1 key u.2.2 dn tk 1)) (d, st, pl) hx hb hr hlk hS hK ⟨by omega, by omega⟩ hP hD dE_emitPair_45

set_option maxRecDepth 20000 in
set_option maxHeartbeats 4000000 in
theorem c_emitPair2_full (l : Launch) (D : va_G) (A : Nat → Nat) (C : Nat → ClassId) (sz : Nat) (n : Nat) (ops : Nat → Int32) (nums : Nat → Int64) (vc : Nat) (vals : Nat → Int64) (d : Nat) (st : Nat → Int64) (ce : Nat → Int64) (pk : Nat → Int64) (pv : Nat → Int64) (pr : Nat) (w : Nat) (key : Int64) (pl : Nat) (dn : Nat) (tk : Nat) (tr : Nat) (hd : d ≤ 12) (hpl : pl ≤ 40) (hd1 : d < 11) (hp : pr = 4) (hw1 : w ≠ 1) (hw2 : w ≤ 2) : Met l yE_emitPair (.code yE_emitPair cE_emitPair 5 none :: WS) (rmk 1 22) (va_Pc [.ref (A 0)] (zP D (eT C) sz (eW A C n ops nums vc vals (d + 1 + 1) st ce pk pv pr w key pl dn tk 0))) (va_Qv (fun u : Nat × (Nat → Int64) × Nat => u.1 ≤ 12 ∧ u.2.2 ≤ 40) (fun (u : Nat × (Nat → Int64) × Nat) t => zB D (eT C) (va_A (eW A C n ops nums vc vals (d + 1 + 1) st ce pk pv pr w key pl dn tk 0) sz) (eW A C n ops nums vc vals u.1 u.2.1 ce pk pv pr w key u.2.2 dn tk 1) t) (va_A (eW A C n ops nums vc vals (d + 1 + 1) st ce pk pv pr w key pl dn tk 0) sz)) 0 0 (va_A (eW A C n ops nums vc vals (d + 1 + 1) st ce pk pv pr w key pl dn tk 0) sz) := by
  refine zEnt (Qc := fun F => (va_Qv (fun u : Nat × (Nat → Int64) × Nat => u.1 ≤ 12 ∧ u.2.2 ≤ 40) (fun (u : Nat × (Nat → Int64) × Nat) t => zB D (eT C) F (eW A C n ops nums vc vals u.1 u.2.1 ce pk pv pr w key u.2.2 dn tk 1) t) F)) (by decide) (Nat.le_of_ble_eq_true rfl) (fun p e s m below meth c ls F hx hb hr hlk hml hnm hw hown hsz hP hK hD hA hl => ?_)
  have hS : va_S F s.heap s.heap [] := va_S.rf
  have hown : s.vm.findClass RE = some m.cls := hown
  have hl : lv_has ls 5 [(0, .ref (A 0))] := hl
  refine lv_aload_n hx hb dE_emitPair_0 rfl (lv_at hl 0 rfl) ?_
  refine zAftl0 (zRunV0 ⟨hx, hb, hml, hown, hw⟩ (c_pop_ok l D A C _ n ops nums vc vals (d + 1) st ce pk pv pr w key pl dn tk 0 (by omega)) wm_E_136 wi_E_pop ws_E_pop wn_E wc_E_pop ⟨rfl, rfl⟩ wd_E_pop ⟨by decide, by decide⟩ hK hP hD 0 rfl rfl rfl hl.1 rfl (Nat.le_of_ble_eq_true rfl) dE_emitPair_1 ⟨by decide, by decide⟩) hP hD hS hA (fun r u H locs hp hP hD hS => ?_)
  replace hP : va_P D vwCl (eW A C n ops nums vc vals (d + 1) st ce pk pv pr w key pl dn tk 0) H := hP
  replace hD : va_D F (eW A C n ops nums vc vals (d + 1) st ce pk pv pr w key pl dn tk 0) := hD
  subst hp
  refine lv_lstore_n hx hb dE_emitPair_4 rfl hl (by decide) rfl (fun ls hl => ?_)
  have hl : lv_has ls 5 [(1, .long (st (d + 1))), (0, .ref (A 0))] := hl
  refine lv_aload_n hx hb dE_emitPair_5 rfl (lv_at hl 1 rfl) ?_
  refine zGetE hx hb hw hown hK hP 0 rfl 11 (by decide) wf_E_106 rfl dE_emitPair_6 ?_
  refine lv_iconst (v := nI 1) hx hb dE_emitPair_9 (by decide) ?_
  refine zc_ne (tgt := 20) hx hb dE_emitPair_10 rfl (by omega) (by omega) (fun _ => ?_) (fun q => absurd q (by omega))
  refine lv_aload_n hx hb dE_emitPair_20 rfl (lv_at hl 1 rfl) ?_
  refine zAftl0 (zRunV0 ⟨hx, hb, hml, hown, hw⟩ (c_pop_ok l D A C _ n ops nums vc vals d st ce pk pv pr w key pl dn tk 0 (by omega)) wm_E_136 wi_E_pop ws_E_pop wn_E wc_E_pop ⟨rfl, rfl⟩ wd_E_pop ⟨by decide, by decide⟩ hK hP hD 0 rfl rfl rfl hl.1 rfl (Nat.le_of_ble_eq_true rfl) dE_emitPair_21 ⟨by decide, by decide⟩) hP hD hS hA (fun r u H locs hp hP hD hS => ?_)
  replace hP : va_P D vwCl (eW A C n ops nums vc vals d st ce pk pv pr w key pl dn tk 0) H := hP
  replace hD : va_D F (eW A C n ops nums vc vals d st ce pk pv pr w key pl dn tk 0) := hD
  subst hp
  refine lv_lstore_n hx hb dE_emitPair_24 rfl hl (by decide) rfl (fun ls hl => ?_)
  have hl : lv_has ls 5 [(3, .long (st d)), (1, .long (st (d + 1))), (0, .ref (A 0))] := hl
  refine lv_aload_n hx hb dE_emitPair_25 rfl (lv_at hl 2 rfl) ?_
  refine zGetE hx hb hw hown hK hP 0 rfl 16 (by decide) wf_E_72 rfl dE_emitPair_26 ?_
  refine zi_ne (tgt := 40) hx hb dE_emitPair_29 rfl (by omega) (fun q => absurd q (by omega)) (fun _ => ?_)
  refine lv_aload_n hx hb dE_emitPair_32 rfl (lv_at hl 2 rfl) ?_
  refine zGetE hx hb hw hown hK hP 0 rfl 10 (by decide) wf_E_81 rfl dE_emitPair_33 ?_
  refine lv_iconst (v := nI 4) hx hb dE_emitPair_36 (by decide) ?_
  refine zc_lt (tgt := 46) hx hb dE_emitPair_37 rfl (by omega) (by omega) (fun q => absurd q (by omega)) (fun _ => ?_)
  refine lv_aload_n hx hb dE_emitPair_40 rfl (lv_at hl 2 rfl) ?_
  refine lv_iconst (v := nI 1) hx hb dE_emitPair_41 (by decide) ?_
  refine zPutE hx hb hw hown hK hP hD hS 0 rfl 16 (by decide) wf_E_72 rfl rfl rfl (Nat.le_of_ble_eq_true rfl) dE_emitPair_42 (fun H locs hP hD hS => ?_)
  replace hP : va_P D vwCl (eW A C n ops nums vc vals d st ce pk pv pr w key pl dn tk 1) H := hP
  replace hD : va_D F (eW A C n ops nums vc vals d st ce pk pv pr w key pl dn tk 1) := hD
  exact zVret (w' := fun (u : Nat × (Nat → Int64) × Nat) => (eW A C n ops nums vc vals u.1 u.2.1 ce pk pv pr w key u.2.2 dn tk 1)) (d, st, pl) hx hb hr hlk hS hK ⟨by omega, by omega⟩ hP hD dE_emitPair_45

set_option maxRecDepth 20000 in
set_option maxHeartbeats 4000000 in
theorem c_divide_ok (l : Launch) (D : va_G) (A : Nat → Nat) (C : Nat → ClassId) (sz : Nat) (n : Nat) (ops : Nat → Int32) (nums : Nat → Int64) (vc : Nat) (vals : Nat → Int64) (d : Nat) (st : Nat → Int64) (ce : Nat → Int64) (pk : Nat → Int64) (pv : Nat → Int64) (pr : Nat) (w : Nat) (key : Int64) (pl : Nat) (dn : Nat) (tk : Nat) (tr : Nat) (x : Int64) (y : Int64) (hd : d < 12) (hy : ¬ y = 0) : Met l yE_divide (.code yE_divide cE_divide 5 none :: WS) (rmk 1 22) (va_Pc [.ref (A 0), .long x, .long y] (zP D (eT C) sz (eW A C n ops nums vc vals d st ce pk pv pr w key pl dn tk 0))) (va_Qv (fun _ : Unit => True) (fun (_ : Unit) t => zB D (eT C) (va_A (eW A C n ops nums vc vals d st ce pk pv pr w key pl dn tk 0) sz) (eW A C n ops nums vc vals (d + 1) (vp_updL st d (x / y)) ce pk pv pr w key pl dn tk 0) t) (va_A (eW A C n ops nums vc vals d st ce pk pv pr w key pl dn tk 0) sz)) 0 0 (va_A (eW A C n ops nums vc vals d st ce pk pv pr w key pl dn tk 0) sz) := by
  refine zEnt (Qc := fun F => (va_Qv (fun _ : Unit => True) (fun (_ : Unit) t => zB D (eT C) F (eW A C n ops nums vc vals (d + 1) (vp_updL st d (x / y)) ce pk pv pr w key pl dn tk 0) t) F)) (by decide) (Nat.le_of_ble_eq_true rfl) (fun p e s m below meth c ls F hx hb hr hlk hml hnm hw hown hsz hP hK hD hA hl => ?_)
  have hS : va_S F s.heap s.heap [] := va_S.rf
  have hown : s.vm.findClass RE = some m.cls := hown
  have hl : lv_has ls 5 [(0, .ref (A 0)), (1, .long x), (3, .long y)] := hl
  refine lv_lload_n hx hb dE_divide_0 rfl (lv_at hl 2 rfl) ?_
  refine lv_lconst (v := 0) hx hb dE_divide_1 (by decide) ?_
  refine W.lcmp hx hb dE_divide_2 ?_
  refine zl_ne (tgt := 12) hx hb dE_divide_3 rfl (fun _ => ?_) (fun q => absurd q (by exact hy))
  refine lv_aload_n hx hb dE_divide_12 rfl (lv_at hl 0 rfl) ?_
  refine lv_lload_n hx hb dE_divide_13 rfl (lv_at hl 1 rfl) ?_
  refine lv_lload_n hx hb dE_divide_14 rfl (lv_at hl 2 rfl) ?_
  refine lv_ldiv hx hb dE_divide_15 hy ?_
  refine zAftv0 (zRunV0 ⟨hx, hb, hml, hown, hw⟩ (c_push_ok l D A C _ n ops nums vc vals d st ce pk pv pr w key pl dn tk 0 (x / y) (by omega)) wm_E_119 wi_E_push ws_E_push wn_E wc_E_push ⟨rfl, rfl⟩ wd_E_push ⟨by decide, by decide⟩ hK hP hD 0 rfl rfl rfl hl.1 rfl (Nat.le_of_ble_eq_true rfl) dE_divide_16 ⟨by decide, by decide⟩) hP hD hS hA (fun u H locs hp hP hD hS => ?_)
  replace hP : va_P D vwCl (eW A C n ops nums vc vals (d + 1) (vp_updL st d (x / y)) ce pk pv pr w key pl dn tk 0) H := hP
  replace hD : va_D F (eW A C n ops nums vc vals (d + 1) (vp_updL st d (x / y)) ce pk pv pr w key pl dn tk 0) := hD
  exact zVret (w' := fun (_ : Unit) => (eW A C n ops nums vc vals (d + 1) (vp_updL st d (x / y)) ce pk pv pr w key pl dn tk 0)) () hx hb hr hlk hS hK trivial hP hD dE_divide_19

set_option maxRecDepth 20000 in
set_option maxHeartbeats 4000000 in
theorem c_divide_zero (l : Launch) (D : va_G) (A : Nat → Nat) (C : Nat → ClassId) (sz : Nat) (n : Nat) (ops : Nat → Int32) (nums : Nat → Int64) (vc : Nat) (vals : Nat → Int64) (d : Nat) (st : Nat → Int64) (ce : Nat → Int64) (pk : Nat → Int64) (pv : Nat → Int64) (pr : Nat) (w : Nat) (key : Int64) (pl : Nat) (dn : Nat) (tk : Nat) (tr : Nat) (x : Int64) (y : Int64) (hy : y = 0) : Met l yE_divide (.code yE_divide cE_divide 5 none :: WS) (rmk 1 22) (va_Pc [.ref (A 0), .long x, .long y] (zP D (eT C) sz (eW A C n ops nums vc vals d st ce pk pv pr w key pl dn tk tr))) (va_Qv (fun _ : Unit => True) (fun (_ : Unit) t => zB D (eT C) (va_A (eW A C n ops nums vc vals d st ce pk pv pr w key pl dn tk tr) sz) (eW A C n ops nums vc vals d st ce pk pv pr w key pl dn tk 1) t) (va_A (eW A C n ops nums vc vals d st ce pk pv pr w key pl dn tk tr) sz)) 0 0 (va_A (eW A C n ops nums vc vals d st ce pk pv pr w key pl dn tk tr) sz) := by
  refine zEnt (Qc := fun F => (va_Qv (fun _ : Unit => True) (fun (_ : Unit) t => zB D (eT C) F (eW A C n ops nums vc vals d st ce pk pv pr w key pl dn tk 1) t) F)) (by decide) (Nat.le_of_ble_eq_true rfl) (fun p e s m below meth c ls F hx hb hr hlk hml hnm hw hown hsz hP hK hD hA hl => ?_)
  have hS : va_S F s.heap s.heap [] := va_S.rf
  have hown : s.vm.findClass RE = some m.cls := hown
  have hl : lv_has ls 5 [(0, .ref (A 0)), (1, .long x), (3, .long y)] := hl
  refine lv_lload_n hx hb dE_divide_0 rfl (lv_at hl 2 rfl) ?_
  refine lv_lconst (v := 0) hx hb dE_divide_1 (by decide) ?_
  refine W.lcmp hx hb dE_divide_2 ?_
  refine zl_ne (tgt := 12) hx hb dE_divide_3 rfl (fun q => absurd q (by exact fun q => q hy)) (fun _ => ?_)
  refine lv_aload_n hx hb dE_divide_6 rfl (lv_at hl 0 rfl) ?_
  refine lv_iconst (v := nI 1) hx hb dE_divide_7 (by decide) ?_
  refine zPutE hx hb hw hown hK hP hD hS 0 rfl 16 (by decide) wf_E_72 rfl rfl rfl (Nat.le_of_ble_eq_true rfl) dE_divide_8 (fun H locs hP hD hS => ?_)
  replace hP : va_P D vwCl (eW A C n ops nums vc vals d st ce pk pv pr w key pl dn tk 1) H := hP
  replace hD : va_D F (eW A C n ops nums vc vals d st ce pk pv pr w key pl dn tk 1) := hD
  exact zVret (w' := fun (_ : Unit) => (eW A C n ops nums vc vals d st ce pk pv pr w key pl dn tk 1)) () hx hb hr hlk hS hK trivial hP hD dE_divide_11

set_option maxRecDepth 20000 in
set_option maxHeartbeats 4000000 in
theorem c_divide_any (l : Launch) (D : va_G) (A : Nat → Nat) (C : Nat → ClassId) (sz : Nat) (n : Nat) (ops : Nat → Int32) (nums : Nat → Int64) (vc : Nat) (vals : Nat → Int64) (d : Nat) (st : Nat → Int64) (ce : Nat → Int64) (pk : Nat → Int64) (pv : Nat → Int64) (pr : Nat) (w : Nat) (key : Int64) (pl : Nat) (dn : Nat) (tk : Nat) (tr : Nat) (x : Int64) (y : Int64) (hd : d ≤ 12) (hy : ¬ y = 0) : Met l yE_divide (.code yE_divide cE_divide 5 none :: WS) (rmk 1 22) (va_Pc [.ref (A 0), .long x, .long y] (zP D (eT C) sz (eW A C n ops nums vc vals d st ce pk pv pr w key pl dn tk tr))) (va_Qv (fun _ : Unit => True) (fun (_ : Unit) t => zB D (eT C) (va_A (eW A C n ops nums vc vals d st ce pk pv pr w key pl dn tk tr) sz) (eW A C n ops nums vc vals (pD d) (pS (x / y) d st) ce pk pv pr w key pl dn tk (pT d tr)) t) (va_A (eW A C n ops nums vc vals d st ce pk pv pr w key pl dn tk tr) sz)) 0 0 (va_A (eW A C n ops nums vc vals d st ce pk pv pr w key pl dn tk tr) sz) := by
  refine zEnt (Qc := fun F => (va_Qv (fun _ : Unit => True) (fun (_ : Unit) t => zB D (eT C) F (eW A C n ops nums vc vals (pD d) (pS (x / y) d st) ce pk pv pr w key pl dn tk (pT d tr)) t) F)) (by decide) (Nat.le_of_ble_eq_true rfl) (fun p e s m below meth c ls F hx hb hr hlk hml hnm hw hown hsz hP hK hD hA hl => ?_)
  have hS : va_S F s.heap s.heap [] := va_S.rf
  have hown : s.vm.findClass RE = some m.cls := hown
  have hl : lv_has ls 5 [(0, .ref (A 0)), (1, .long x), (3, .long y)] := hl
  refine lv_lload_n hx hb dE_divide_0 rfl (lv_at hl 2 rfl) ?_
  refine lv_lconst (v := 0) hx hb dE_divide_1 (by decide) ?_
  refine W.lcmp hx hb dE_divide_2 ?_
  refine zl_ne (tgt := 12) hx hb dE_divide_3 rfl (fun _ => ?_) (fun q => absurd q (by exact hy))
  refine lv_aload_n hx hb dE_divide_12 rfl (lv_at hl 0 rfl) ?_
  refine lv_lload_n hx hb dE_divide_13 rfl (lv_at hl 1 rfl) ?_
  refine lv_lload_n hx hb dE_divide_14 rfl (lv_at hl 2 rfl) ?_
  refine lv_ldiv hx hb dE_divide_15 hy ?_
  refine zAftv0 (zRunV0 ⟨hx, hb, hml, hown, hw⟩ (c_push l D A C _ n ops nums vc vals d st ce pk pv pr w key pl dn tk tr (x / y) (by omega)) wm_E_119 wi_E_push ws_E_push wn_E wc_E_push ⟨rfl, rfl⟩ wd_E_push ⟨by decide, by decide⟩ hK hP hD 0 rfl rfl rfl hl.1 rfl (Nat.le_of_ble_eq_true rfl) dE_divide_16 ⟨by decide, by decide⟩) hP hD hS hA (fun u H locs hp hP hD hS => ?_)
  replace hP : va_P D vwCl (eW A C n ops nums vc vals (pD d) (pS (x / y) d st) ce pk pv pr w key pl dn tk (pT d tr)) H := hP
  replace hD : va_D F (eW A C n ops nums vc vals (pD d) (pS (x / y) d st) ce pk pv pr w key pl dn tk (pT d tr)) := hD
  exact zVret (w' := fun (_ : Unit) => (eW A C n ops nums vc vals (pD d) (pS (x / y) d st) ce pk pv pr w key pl dn tk (pT d tr))) () hx hb hr hlk hS hK trivial hP hD dE_divide_19
