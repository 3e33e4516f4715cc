/-! EmitDesk: perform, an INSTRUCTION a contract, where it goes and where it traps -/
set_option maxRecDepth 20000 in
set_option maxHeartbeats 4000000 in
theorem c_perform0_ok (l : Launch) (D : va_G) (A : Nat → Nat) (C : Nat → ClassId) (sz : Nat) (n : Nat) (ops : Nat → Int32) (nums : Nat → Int64) (vc : Nat) (vals : Nat → Int64) (d : Nat) (st : Nat → Int64) (ce : Nat → Int64) (pk : Nat → Int64) (pv : Nat → Int64) (pr : Nat) (w : Nat) (key : Int64) (pl : Nat) (dn : Nat) (tk : Nat) (tr : Nat) (x : Int64) (hd : d < 12) : Met l yE_perform (.code yE_perform cE_perform 4 none :: WS) (rmk 3 71) (va_Pc [.ref (A 0), .int (nI 0), .long x] (zP D (eT C) sz (eW A C n ops nums vc vals d st ce pk pv pr w key pl dn tk 0))) (va_Qv (fun _ : Unit => True) (fun (_ : Unit) t => zB D (eT C) (va_A (eW A C n ops nums vc vals d st ce pk pv pr w key pl dn tk 0) sz) (eW A C n ops nums vc vals (d + 1) (vp_updL st d x) ce pk pv pr w key pl dn tk 0) t) (va_A (eW A C n ops nums vc vals d st ce pk pv pr w key pl dn tk 0) sz)) 0 0 (va_A (eW A C n ops nums vc vals d st ce pk pv pr w key pl dn tk 0) sz) := by
  refine zEnt (Qc := fun F => (va_Qv (fun _ : Unit => True) (fun (_ : Unit) t => zB D (eT C) F (eW A C n ops nums vc vals (d + 1) (vp_updL st d x) ce pk pv pr w key pl dn tk 0) t) F)) (by decide) (Nat.le_of_ble_eq_true rfl) (fun p e s m below meth c ls F hx hb hr hlk hml hnm hw hown hsz hP hK hD hA hl => ?_)
  have hS : va_S F s.heap s.heap [] := va_S.rf
  have hown : s.vm.findClass RE = some m.cls := hown
  have hl : lv_has ls 4 [(0, .ref (A 0)), (1, .int (nI 0)), (2, .long x)] := hl
  refine lv_iload_n hx hb dE_perform_0 rfl (lv_at hl 1 rfl) ?_
  refine lv_tableIn (off := 91) (tgt := 92) hx hb dE_perform_1 (by decide) (by decide) (by decide) rfl ?_
  refine lv_aload_n hx hb dE_perform_92 rfl (lv_at hl 0 rfl) ?_
  refine lv_lload_n hx hb dE_perform_93 rfl (lv_at hl 2 rfl) ?_
  refine zAftv0 (zRunV0 ⟨hx, hb, hml, hown, hw⟩ (c_push_ok l D A C _ n ops nums vc vals d st ce pk pv pr w key pl dn tk 0 x (by omega)) wm_E_119 wi_E_push ws_E_push wn_E wc_E_push ⟨rfl, rfl⟩ wd_E_push ⟨by decide, by decide⟩ hK hP hD 0 rfl rfl rfl hl.1 rfl (Nat.le_of_ble_eq_true rfl) dE_perform_94 ⟨by decide, by decide⟩) hP hD hS hA (fun u H locs hp hP hD hS => ?_)
  replace hP : va_P D vwCl (eW A C n ops nums vc vals (d + 1) (vp_updL st d x) ce pk pv pr w key pl dn tk 0) H := hP
  replace hD : va_D F (eW A C n ops nums vc vals (d + 1) (vp_updL st d x) ce pk pv pr w key pl dn tk 0) := hD
  refine lv_goto (tgt := 223) hx hb dE_perform_97 rfl ?_
  exact zVret (w' := fun (_ : Unit) => (eW A C n ops nums vc vals (d + 1) (vp_updL st d x) ce pk pv pr w key pl dn tk 0)) () hx hb hr hlk hS hK trivial hP hD dE_perform_223

set_option maxRecDepth 20000 in
set_option maxHeartbeats 4000000 in
theorem c_perform1_ok (l : Launch) (D : va_G) (A : Nat → Nat) (C : Nat → ClassId) (sz : Nat) (n : Nat) (ops : Nat → Int32) (nums : Nat → Int64) (vc : Nat) (vals : Nat → Int64) (d : Nat) (st : Nat → Int64) (ce : Nat → Int64) (pk : Nat → Int64) (pv : Nat → Int64) (pr : Nat) (w : Nat) (key : Int64) (pl : Nat) (dn : Nat) (tk : Nat) (tr : Nat) (x : Int64) (hd : d < 12) : Met l yE_perform (.code yE_perform cE_perform 4 none :: WS) (rmk 3 71) (va_Pc [.ref (A 0), .int (nI 1), .long x] (zP D (eT C) sz (eW A C n ops nums vc vals d st ce pk pv pr w key pl dn tk 0))) (va_Qv (fun _ : Unit => True) (fun (_ : Unit) t => zB D (eT C) (va_A (eW A C n ops nums vc vals d st ce pk pv pr w key pl dn tk 0) sz) (eW A C n ops nums vc vals (d + 1) (vp_updL st d key) ce pk pv pr w key pl dn tk 0) t) (va_A (eW A C n ops nums vc vals d st ce pk pv pr w key pl dn tk 0) sz)) 0 0 (va_A (eW A C n ops nums vc vals d st ce pk pv pr w key pl dn tk 0) sz) := by
  refine zEnt (Qc := fun F => (va_Qv (fun _ : Unit => True) (fun (_ : Unit) t => zB D (eT C) F (eW A C n ops nums vc vals (d + 1) (vp_updL st d key) ce pk pv pr w key pl dn tk 0) t) F)) (by decide) (Nat.le_of_ble_eq_true rfl) (fun p e s m below meth c ls F hx hb hr hlk hml hnm hw hown hsz hP hK hD hA hl => ?_)
  have hS : va_S F s.heap s.heap [] := va_S.rf
  have hown : s.vm.findClass RE = some m.cls := hown
  have hl : lv_has ls 4 [(0, .ref (A 0)), (1, .int (nI 1)), (2, .long x)] := hl
  refine lv_iload_n hx hb dE_perform_0 rfl (lv_at hl 1 rfl) ?_
  refine lv_tableIn (off := 99) (tgt := 100) hx hb dE_perform_1 (by decide) (by decide) (by decide) rfl ?_
  refine lv_aload_n hx hb dE_perform_100 rfl (lv_at hl 0 rfl) ?_
  refine lv_aload_n hx hb dE_perform_101 rfl (lv_at hl 0 rfl) ?_
  refine zGetE hx hb hw hown hK hP 0 rfl 12 (by decide) wf_E_109 rfl dE_perform_102 ?_
  refine zAftv0 (zRunV0 ⟨hx, hb, hml, hown, hw⟩ (c_push_ok l D A C _ n ops nums vc vals d st ce pk pv pr w key pl dn tk 0 key (by omega)) wm_E_119 wi_E_push ws_E_push wn_E wc_E_push ⟨rfl, rfl⟩ wd_E_push ⟨by decide, by decide⟩ hK hP hD 0 rfl rfl rfl hl.1 rfl (Nat.le_of_ble_eq_true rfl) dE_perform_105 ⟨by decide, by decide⟩) hP hD hS hA (fun u H locs hp hP hD hS => ?_)
  replace hP : va_P D vwCl (eW A C n ops nums vc vals (d + 1) (vp_updL st d key) ce pk pv pr w key pl dn tk 0) H := hP
  replace hD : va_D F (eW A C n ops nums vc vals (d + 1) (vp_updL st d key) ce pk pv pr w key pl dn tk 0) := hD
  refine lv_goto (tgt := 223) hx hb dE_perform_108 rfl ?_
  exact zVret (w' := fun (_ : Unit) => (eW A C n ops nums vc vals (d + 1) (vp_updL st d key) ce pk pv pr w key pl dn tk 0)) () hx hb hr hlk hS hK trivial hP hD dE_perform_223

set_option maxRecDepth 20000 in
set_option maxHeartbeats 4000000 in
theorem c_perform2w0_ok (l : Launch) (D : va_G) (A : Nat → Nat) (C : Nat → ClassId) (sz : Nat) (n : Nat) (ops : Nat → Int32) (nums : Nat → Int64) (vc : Nat) (vals : Nat → Int64) (d : Nat) (st : Nat → Int64) (ce : Nat → Int64) (pk : Nat → Int64) (pv : Nat → Int64) (pr : Nat) (w : Nat) (key : Int64) (pl : Nat) (dn : Nat) (tk : Nat) (tr : Nat) (x : Int64) (hd : d < 12) (hvc : vc ≤ 40) (htk : tk < vc) : Met l yE_perform (.code yE_perform cE_perform 4 none :: WS) (rmk 3 71) (va_Pc [.ref (A 0), .int (nI 2), .long x] (zP D (eT C) sz (eW A C n ops nums vc vals d st ce pk pv pr 0 key pl dn tk 0))) (va_Qv (fun _ : Unit => True) (fun (_ : Unit) t => zB D (eT C) (va_A (eW A C n ops nums vc vals d st ce pk pv pr 0 key pl dn tk 0) sz) (eW A C n ops nums vc vals (d + 1) (vp_updL st d (vals tk)) ce pk pv pr 0 key pl dn tk 0) t) (va_A (eW A C n ops nums vc vals d st ce pk pv pr 0 key pl dn tk 0) sz)) 0 0 (va_A (eW A C n ops nums vc vals d st ce pk pv pr 0 key pl dn tk 0) sz) := by
  refine zEnt (Qc := fun F => (va_Qv (fun _ : Unit => True) (fun (_ : Unit) t => zB D (eT C) F (eW A C n ops nums vc vals (d + 1) (vp_updL st d (vals tk)) ce pk pv pr 0 key pl dn tk 0) t) F)) (by decide) (Nat.le_of_ble_eq_true rfl) (fun p e s m below meth c ls F hx hb hr hlk hml hnm hw hown hsz hP hK hD hA hl => ?_)
  have hS : va_S F s.heap s.heap [] := va_S.rf
  have hown : s.vm.findClass RE = some m.cls := hown
  have hl : lv_has ls 4 [(0, .ref (A 0)), (1, .int (nI 2)), (2, .long x)] := hl
  refine lv_iload_n hx hb dE_perform_0 rfl (lv_at hl 1 rfl) ?_
  refine lv_tableIn (off := 110) (tgt := 111) hx hb dE_perform_1 (by decide) (by decide) (by decide) rfl ?_
  refine lv_aload_n hx hb dE_perform_111 rfl (lv_at hl 0 rfl) ?_
  refine zAftv0 (zRunV0 ⟨hx, hb, hml, hown, hw⟩ (c_pushValue0_ok l D A C _ n ops nums vc vals d st ce pk pv pr 0 key pl dn tk 0 hd hvc htk) wm_E_123 wi_E_pushValue ws_E_pushValue wn_E wc_E_pushValue ⟨rfl, rfl⟩ wd_E_pushValue ⟨by decide, by decide⟩ hK hP hD 0 rfl rfl rfl hl.1 rfl (Nat.le_of_ble_eq_true rfl) dE_perform_112 ⟨by decide, by decide⟩) hP hD hS hA (fun u H locs hp hP hD hS => ?_)
  replace hP : va_P D vwCl (eW A C n ops nums vc vals (d + 1) (vp_updL st d (vals tk)) ce pk pv pr 0 key pl dn tk 0) H := hP
  replace hD : va_D F (eW A C n ops nums vc vals (d + 1) (vp_updL st d (vals tk)) ce pk pv pr 0 key pl dn tk 0) := hD
  refine lv_goto (tgt := 223) hx hb dE_perform_115 rfl ?_
  exact zVret (w' := fun (_ : Unit) => (eW A C n ops nums vc vals (d + 1) (vp_updL st d (vals tk)) ce pk pv pr 0 key pl dn tk 0)) () hx hb hr hlk hS hK trivial hP hD dE_perform_223

set_option maxRecDepth 20000 in
set_option maxHeartbeats 4000000 in
theorem c_perform2w1_ok (l : Launch) (D : va_G) (A : Nat → Nat) (C : Nat → ClassId) (sz : Nat) (n : Nat) (ops : Nat → Int32) (nums : Nat → Int64) (vc : Nat) (vals : Nat → Int64) (d : Nat) (st : Nat → Int64) (ce : Nat → Int64) (pk : Nat → Int64) (pv : Nat → Int64) (pr : Nat) (w : Nat) (key : Int64) (pl : Nat) (dn : Nat) (tk : Nat) (tr : Nat) (x : Int64) (hd : d < 12) (hvc : vc ≤ 40) (htk : tk < vc) (hw1 : 0 < w) (hw2 : w ≤ 2) : Met l yE_perform (.code yE_perform cE_perform 4 none :: WS) (rmk 3 71) (va_Pc [.ref (A 0), .int (nI 2), .long x] (zP D (eT C) sz (eW A C n ops nums vc vals d st ce pk pv pr w key pl dn tk 0))) (va_Qv (fun _ : Unit => True) (fun (_ : Unit) t => zB D (eT C) (va_A (eW A C n ops nums vc vals d st ce pk pv pr w key pl dn tk 0) sz) (eW A C n ops nums vc vals (d + 1) (vp_updL st d (vals tk)) ce pk pv pr w key pl dn (tk + 1) 0) t) (va_A (eW A C n ops nums vc vals d st ce pk pv pr w key pl dn tk 0) sz)) 0 0 (va_A (eW A C n ops nums vc vals d st ce pk pv pr w key pl dn tk 0) sz) := by
  refine zEnt (Qc := fun F => (va_Qv (fun _ : Unit => True) (fun (_ : Unit) t => zB D (eT C) F (eW A C n ops nums vc vals (d + 1) (vp_updL st d (vals tk)) ce pk pv pr w key pl dn (tk + 1) 0) t) F)) (by decide) (Nat.le_of_ble_eq_true rfl) (fun p e s m below meth c ls F hx hb hr hlk hml hnm hw hown hsz hP hK hD hA hl => ?_)
  have hS : va_S F s.heap s.heap [] := va_S.rf
  have hown : s.vm.findClass RE = some m.cls := hown
  have hl : lv_has ls 4 [(0, .ref (A 0)), (1, .int (nI 2)), (2, .long x)] := hl
  refine lv_iload_n hx hb dE_perform_0 rfl (lv_at hl 1 rfl) ?_
  refine lv_tableIn (off := 110) (tgt := 111) hx hb dE_perform_1 (by decide) (by decide) (by decide) rfl ?_
  refine lv_aload_n hx hb dE_perform_111 rfl (lv_at hl 0 rfl) ?_
  refine zAftv0 (zRunV0 ⟨hx, hb, hml, hown, hw⟩ (c_pushValue1_ok l D A C _ n ops nums vc vals d st ce pk pv pr w key pl dn tk 0 hd hvc htk hw1 hw2) wm_E_123 wi_E_pushValue ws_E_pushValue wn_E wc_E_pushValue ⟨rfl, rfl⟩ wd_E_pushValue ⟨by decide, by decide⟩ hK hP hD 0 rfl rfl rfl hl.1 rfl (Nat.le_of_ble_eq_true rfl) dE_perform_112 ⟨by decide, by decide⟩) hP hD hS hA (fun u H locs hp hP hD hS => ?_)
  replace hP : va_P D vwCl (eW A C n ops nums vc vals (d + 1) (vp_updL st d (vals tk)) ce pk pv pr w key pl dn (tk + 1) 0) H := hP
  replace hD : va_D F (eW A C n ops nums vc vals (d + 1) (vp_updL st d (vals tk)) ce pk pv pr w key pl dn (tk + 1) 0) := hD
  refine lv_goto (tgt := 223) hx hb dE_perform_115 rfl ?_
  exact zVret (w' := fun (_ : Unit) => (eW A C n ops nums vc vals (d + 1) (vp_updL st d (vals tk)) ce pk pv pr w key pl dn (tk + 1) 0)) () hx hb hr hlk hS hK trivial hP hD dE_perform_223

set_option maxRecDepth 20000 in
set_option maxHeartbeats 4000000 in
theorem c_perform3_ok (l : Launch) (D : va_G) (A : Nat → Nat) (C : Nat → ClassId) (sz : Nat) (n : Nat) (ops : Nat → Int32) (nums : Nat → Int64) (vc : Nat) (vals : Nat → Int64) (d : Nat) (st : Nat → Int64) (ce : Nat → Int64) (pk : Nat → Int64) (pv : Nat → Int64) (pr : Nat) (w : Nat) (key : Int64) (pl : Nat) (dn : Nat) (tk : Nat) (tr : Nat) (x : Int64) (hd : d < 12) (hw2 : w ≤ 2) (hvc : vc ≤ 40) (htk : tk ≤ 40) : Met l yE_perform (.code yE_perform cE_perform 4 none :: WS) (rmk 3 71) (va_Pc [.ref (A 0), .int (nI 3), .long x] (zP D (eT C) sz (eW A C n ops nums vc vals d st ce pk pv pr w key pl dn tk 0))) (va_Qv (fun _ : Unit => True) (fun (_ : Unit) t => zB D (eT C) (va_A (eW A C n ops nums vc vals d st ce pk pv pr w key pl dn tk 0) sz) (eW A C n ops nums vc vals (d + 1) (vp_updL st d (if w ≠ 0 ∧ tk < vc then 1 else 0)) ce pk pv pr w key pl dn tk 0) t) (va_A (eW A C n ops nums vc vals d st ce pk pv pr w key pl dn tk 0) sz)) 0 0 (va_A (eW A C n ops nums vc vals d st ce pk pv pr w key pl dn tk 0) sz) := by
  refine zEnt (Qc := fun F => (va_Qv (fun _ : Unit => True) (fun (_ : Unit) t => zB D (eT C) F (eW A C n ops nums vc vals (d + 1) (vp_updL st d (if w ≠ 0 ∧ tk < vc then 1 else 0)) ce pk pv pr w key pl dn tk 0) t) F)) (by decide) (Nat.le_of_ble_eq_true rfl) (fun p e s m below meth c ls F hx hb hr hlk hml hnm hw hown hsz hP hK hD hA hl => ?_)
  have hS : va_S F s.heap s.heap [] := va_S.rf
  have hown : s.vm.findClass RE = some m.cls := hown
  have hl : lv_has ls 4 [(0, .ref (A 0)), (1, .int (nI 3)), (2, .long x)] := hl
  refine lv_iload_n hx hb dE_perform_0 rfl (lv_at hl 1 rfl) ?_
  refine lv_tableIn (off := 117) (tgt := 118) hx hb dE_perform_1 (by decide) (by decide) (by decide) rfl ?_
  refine lv_aload_n hx hb dE_perform_118 rfl (lv_at hl 0 rfl) ?_
  refine lv_aload_n hx hb dE_perform_119 rfl (lv_at hl 0 rfl) ?_
  refine zAfti0 (zRunV0 ⟨hx, hb, hml, hown, hw⟩ (c_hasNext l D A C _ n ops nums vc vals d st ce pk pv pr w key pl dn tk 0 hw2 hvc htk) wm_E_126 wi_E_hasNext ws_E_hasNext wn_E wc_E_hasNext ⟨rfl, rfl⟩ wd_E_hasNext ⟨by decide, by decide⟩ hK hP hD 0 rfl rfl rfl hl.1 rfl (Nat.le_of_ble_eq_true rfl) dE_perform_120 ⟨by decide, by decide⟩) hP hD hS hA (fun r u H locs hp hP hD hS => ?_)
  replace hP : va_P D vwCl (eW A C n ops nums vc vals d st ce pk pv pr w key pl dn tk 0) H := hP
  replace hD : va_D F (eW A C n ops nums vc vals d st ce pk pv pr w key pl dn tk 0) := hD
  subst hp
  refine zi_eq (tgt := 130) hx hb dE_perform_123 rfl (by simp only [pT, qT, pD, hN]; (repeat' split) <;> omega) (fun h123 => ?_) (fun h123 => ?_)
  · refine lv_lconst (v := 0) hx hb dE_perform_130 (by decide) ?_
    refine zAftv0 (zRunV0 ⟨hx, hb, hml, hown, hw⟩ (c_push_ok l D A C _ n ops nums vc vals d st ce pk pv pr w key pl dn tk 0 (0 : Int64) (by omega)) wm_E_119 wi_E_push ws_E_push wn_E wc_E_push ⟨rfl, rfl⟩ wd_E_push ⟨by decide, by decide⟩ hK hP hD 0 rfl rfl rfl hl.1 rfl (Nat.le_of_ble_eq_true rfl) dE_perform_131 ⟨by decide, by decide⟩) hP hD hS hA (fun u H locs hp hP hD hS => ?_)
    replace hP : va_P D vwCl (eW A C n ops nums vc vals (d + 1) (vp_updL st d (0 : Int64)) ce pk pv pr w key pl dn tk 0) H := hP
    replace hD : va_D F (eW A C n ops nums vc vals (d + 1) (vp_updL st d (0 : Int64)) ce pk pv pr w key pl dn tk 0) := hD
    refine lv_goto (tgt := 223) hx hb dE_perform_134 rfl ?_
    replace hP : va_P D vwCl (eW A C n ops nums vc vals (d + 1) (vp_updL st d (if w ≠ 0 ∧ tk < vc then 1 else 0)) ce pk pv pr w key pl dn tk 0) H := by (first | (rw [if_neg (fun q => by rw [show hN w tk vc = 1 from if_pos q] at h123; exact absurd h123 (by decide))]; done) | rw [if_neg (fun q => by rw [show hN w tk vc = 1 from if_pos q] at h123; exact absurd h123 (by decide))] | rw [if_pos (Classical.byContradiction (fun q => h123 (if_neg q)))]); exact hP
    replace hD : va_D F (eW A C n ops nums vc vals (d + 1) (vp_updL st d (if w ≠ 0 ∧ tk < vc then 1 else 0)) ce pk pv pr w key pl dn tk 0) := by (first | (rw [if_neg (fun q => by rw [show hN w tk vc = 1 from if_pos q] at h123; exact absurd h123 (by decide))]; done) | rw [if_neg (fun q => by rw [show hN w tk vc = 1 from if_pos q] at h123; exact absurd h123 (by decide))] | rw [if_pos (Classical.byContradiction (fun q => h123 (if_neg q)))]); exact hD
    exact zVret (w' := fun (_ : Unit) => (eW A C n ops nums vc vals (d + 1) (vp_updL st d (if w ≠ 0 ∧ tk < vc then 1 else 0)) ce pk pv pr w key pl dn tk 0)) () hx hb hr hlk hS hK trivial hP hD dE_perform_223
  · refine lv_lconst (v := 1) hx hb dE_perform_126 (by decide) ?_
    refine lv_goto (tgt := 131) hx hb dE_perform_127 rfl ?_
    refine zAftv0 (zRunV0 ⟨hx, hb, hml, hown, hw⟩ (c_push_ok l D A C _ n ops nums vc vals d st ce pk pv pr w key pl dn tk 0 (1 : Int64) (by omega)) wm_E_119 wi_E_push ws_E_push wn_E wc_E_push ⟨rfl, rfl⟩ wd_E_push ⟨by decide, by decide⟩ hK hP hD 0 rfl rfl rfl hl.1 rfl (Nat.le_of_ble_eq_true rfl) dE_perform_131 ⟨by decide, by decide⟩) hP hD hS hA (fun u H locs hp hP hD hS => ?_)
    replace hP : va_P D vwCl (eW A C n ops nums vc vals (d + 1) (vp_updL st d (1 : Int64)) ce pk pv pr w key pl dn tk 0) H := hP
    replace hD : va_D F (eW A C n ops nums vc vals (d + 1) (vp_updL st d (1 : Int64)) ce pk pv pr w key pl dn tk 0) := hD
    refine lv_goto (tgt := 223) hx hb dE_perform_134 rfl ?_
    replace hP : va_P D vwCl (eW A C n ops nums vc vals (d + 1) (vp_updL st d (if w ≠ 0 ∧ tk < vc then 1 else 0)) ce pk pv pr w key pl dn tk 0) H := by (first | (rw [if_neg (fun q => by rw [show hN w tk vc = 1 from if_pos q] at h123; exact absurd h123 (by decide))]; done) | rw [if_neg (fun q => by rw [show hN w tk vc = 1 from if_pos q] at h123; exact absurd h123 (by decide))] | rw [if_pos (Classical.byContradiction (fun q => h123 (if_neg q)))]); exact hP
    replace hD : va_D F (eW A C n ops nums vc vals (d + 1) (vp_updL st d (if w ≠ 0 ∧ tk < vc then 1 else 0)) ce pk pv pr w key pl dn tk 0) := by (first | (rw [if_neg (fun q => by rw [show hN w tk vc = 1 from if_pos q] at h123; exact absurd h123 (by decide))]; done) | rw [if_neg (fun q => by rw [show hN w tk vc = 1 from if_pos q] at h123; exact absurd h123 (by decide))] | rw [if_pos (Classical.byContradiction (fun q => h123 (if_neg q)))]); exact hD
    exact zVret (w' := fun (_ : Unit) => (eW A C n ops nums vc vals (d + 1) (vp_updL st d (if w ≠ 0 ∧ tk < vc then 1 else 0)) ce pk pv pr w key pl dn tk 0)) () hx hb hr hlk hS hK trivial hP hD dE_perform_223

set_option maxRecDepth 20000 in
set_option maxHeartbeats 4000000 in
theorem c_perform4_ok (l : Launch) (D : va_G) (A : Nat → Nat) (C : Nat → ClassId) (sz : Nat) (n : Nat) (ops : Nat → Int32) (nums : Nat → Int64) (vc : Nat) (vals : Nat → Int64) (d : Nat) (st : Nat → Int64) (ce : Nat → Int64) (pk : Nat → Int64) (pv : Nat → Int64) (pr : Nat) (w : Nat) (key : Int64) (pl : Nat) (dn : Nat) (tk : Nat) (tr : Nat) (j : Nat) (hd : d < 12) (hj : j < 4) : Met l yE_perform (.code yE_perform cE_perform 4 none :: WS) (rmk 3 71) (va_Pc [.ref (A 0), .int (nI 4), .long (lN j)] (zP D (eT C) sz (eW A C n ops nums vc vals d st ce pk pv pr w key pl dn tk 0))) (va_Qv (fun _ : Unit => True) (fun (_ : Unit) t => zB D (eT C) (va_A (eW A C n ops nums vc vals d st ce pk pv pr w key pl dn tk 0) sz) (eW A C n ops nums vc vals (d + 1) (vp_updL st d (ce j)) ce pk pv pr w key pl dn tk 0) t) (va_A (eW A C n ops nums vc vals d st ce pk pv pr w key pl dn tk 0) sz)) 0 0 (va_A (eW A C n ops nums vc vals d st ce pk pv pr w key pl dn tk 0) sz) := by
  refine zEnt (Qc := fun F => (va_Qv (fun _ : Unit => True) (fun (_ : Unit) t => zB D (eT C) F (eW A C n ops nums vc vals (d + 1) (vp_updL st d (ce j)) ce pk pv pr w key pl dn tk 0) t) F)) (by decide) (Nat.le_of_ble_eq_true rfl) (fun p e s m below meth c ls F hx hb hr hlk hml hnm hw hown hsz hP hK hD hA hl => ?_)
  have hS : va_S F s.heap s.heap [] := va_S.rf
  have hown : s.vm.findClass RE = some m.cls := hown
  have hl : lv_has ls 4 [(0, .ref (A 0)), (1, .int (nI 4)), (2, .long (lN j))] := hl
  refine lv_iload_n hx hb dE_perform_0 rfl (lv_at hl 1 rfl) ?_
  refine lv_tableIn (off := 136) (tgt := 137) hx hb dE_perform_1 (by decide) (by decide) (by decide) rfl ?_
  refine lv_aload_n hx hb dE_perform_137 rfl (lv_at hl 0 rfl) ?_
  refine lv_aload_n hx hb dE_perform_138 rfl (lv_at hl 0 rfl) ?_
  refine zGetE hx hb hw hown hK hP 0 rfl 7 (by decide) wf_E_23 rfl dE_perform_139 ?_
  refine lv_lload_n hx hb dE_perform_142 rfl (lv_at hl 2 rfl) ?_
  refine lv_l2i hx hb dE_perform_143 (lN_i _) ?_
  refine zLald hx hb hK hP 5 4 rfl rfl (by omega) (by decide) dE_perform_144 ?_
  refine zAftv0 (zRunV0 ⟨hx, hb, hml, hown, hw⟩ (c_push_ok l D A C _ n ops nums vc vals d st ce pk pv pr w key pl dn tk 0 (ce j) (by omega)) wm_E_119 wi_E_push ws_E_push wn_E wc_E_push ⟨rfl, rfl⟩ wd_E_push ⟨by decide, by decide⟩ hK hP hD 0 rfl rfl rfl hl.1 rfl (Nat.le_of_ble_eq_true rfl) dE_perform_145 ⟨by decide, by decide⟩) hP hD hS hA (fun u H locs hp hP hD hS => ?_)
  replace hP : va_P D vwCl (eW A C n ops nums vc vals (d + 1) (vp_updL st d (ce j)) ce pk pv pr w key pl dn tk 0) H := hP
  replace hD : va_D F (eW A C n ops nums vc vals (d + 1) (vp_updL st d (ce j)) ce pk pv pr w key pl dn tk 0) := hD
  refine lv_goto (tgt := 223) hx hb dE_perform_148 rfl ?_
  exact zVret (w' := fun (_ : Unit) => (eW A C n ops nums vc vals (d + 1) (vp_updL st d (ce j)) ce pk pv pr w key pl dn tk 0)) () hx hb hr hlk hS hK trivial hP hD dE_perform_223

set_option maxRecDepth 20000 in
set_option maxHeartbeats 4000000 in
theorem c_perform5_ok (l : Launch) (D : va_G) (A : Nat → Nat) (C : Nat → ClassId) (sz : Nat) (n : Nat) (ops : Nat → Int32) (nums : Nat → Int64) (vc : Nat) (vals : Nat → Int64) (d : Nat) (st : Nat → Int64) (ce : Nat → Int64) (pk : Nat → Int64) (pv : Nat → Int64) (pr : Nat) (w : Nat) (key : Int64) (pl : Nat) (dn : Nat) (tk : Nat) (tr : Nat) (j : Nat) (hd : d < 12) (hj : j < 4) : Met l yE_perform (.code yE_perform cE_perform 4 none :: WS) (rmk 3 71) (va_Pc [.ref (A 0), .int (nI 5), .long (lN j)] (zP D (eT C) sz (eW A C n ops nums vc vals (d + 1) st ce pk pv pr w key pl dn tk 0))) (va_Qv (fun _ : Unit => True) (fun (_ : Unit) t => zB D (eT C) (va_A (eW A C n ops nums vc vals (d + 1) st ce pk pv pr w key pl dn tk 0) sz) (eW A C n ops nums vc vals d st (vp_updL ce j (st d)) pk pv pr w key pl dn tk 0) t) (va_A (eW A C n ops nums vc vals (d + 1) st ce pk pv pr w key pl dn tk 0) sz)) 0 0 (va_A (eW A C n ops nums vc vals (d + 1) st ce pk pv pr w key pl dn tk 0) sz) := by
  refine zEnt (Qc := fun F => (va_Qv (fun _ : Unit => True) (fun (_ : Unit) t => zB D (eT C) F (eW A C n ops nums vc vals d st (vp_updL ce j (st d)) pk pv pr w key pl dn tk 0) t) F)) (by decide) (Nat.le_of_ble_eq_true rfl) (fun p e s m below meth c ls F hx hb hr hlk hml hnm hw hown hsz hP hK hD hA hl => ?_)
  have hS : va_S F s.heap s.heap [] := va_S.rf
  have hown : s.vm.findClass RE = some m.cls := hown
  have hl : lv_has ls 4 [(0, .ref (A 0)), (1, .int (nI 5)), (2, .long (lN j))] := hl
  refine lv_iload_n hx hb dE_perform_0 rfl (lv_at hl 1 rfl) ?_
  refine lv_tableIn (off := 150) (tgt := 151) hx hb dE_perform_1 (by decide) (by decide) (by decide) rfl ?_
  refine lv_aload_n hx hb dE_perform_151 rfl (lv_at hl 0 rfl) ?_
  refine lv_lload_n hx hb dE_perform_152 rfl (lv_at hl 2 rfl) ?_
  refine lv_l2i hx hb dE_perform_153 (lN_i _) ?_
  refine zAftv0 (zRunV0 ⟨hx, hb, hml, hown, hw⟩ (c_popCell_ok l D A C _ n ops nums vc vals d st ce pk pv pr w key pl dn tk 0 j hd hj) wm_E_129 wi_E_popCell ws_E_popCell wn_E wc_E_popCell ⟨rfl, rfl⟩ wd_E_popCell ⟨by decide, by decide⟩ hK hP hD 0 rfl rfl rfl hl.1 rfl (Nat.le_of_ble_eq_true rfl) dE_perform_154 ⟨by decide, by decide⟩) hP hD hS hA (fun u H locs hp hP hD hS => ?_)
  replace hP : va_P D vwCl (eW A C n ops nums vc vals d st (vp_updL ce j (st d)) pk pv pr w key pl dn tk 0) H := hP
  replace hD : va_D F (eW A C n ops nums vc vals d st (vp_updL ce j (st d)) pk pv pr w key pl dn tk 0) := hD
  refine lv_goto (tgt := 223) hx hb dE_perform_157 rfl ?_
  exact zVret (w' := fun (_ : Unit) => (eW A C n ops nums vc vals d st (vp_updL ce j (st d)) pk pv pr w key pl dn tk 0)) () hx hb hr hlk hS hK trivial hP hD dE_perform_223

set_option maxRecDepth 20000 in
set_option maxHeartbeats 4000000 in
theorem c_perform6_ok (l : Launch) (D : va_G) (A : Nat → Nat) (C : Nat → ClassId) (sz : Nat) (n : Nat) (ops : Nat → Int32) (nums : Nat → Int64) (vc : Nat) (vals : Nat → Int64) (d : Nat) (st : Nat → Int64) (ce : Nat → Int64) (pk : Nat → Int64) (pv : Nat → Int64) (pr : Nat) (w : Nat) (key : Int64) (pl : Nat) (dn : Nat) (tk : Nat) (tr : Nat) (x : Int64) (hd : d < 11) : Met l yE_perform (.code yE_perform cE_perform 4 none :: WS) (rmk 3 71) (va_Pc [.ref (A 0), .int (nI 6), .long x] (zP D (eT C) sz (eW A C n ops nums vc vals (d + 1 + 1) st ce pk pv pr w key pl dn tk 0))) (va_Qv (fun _ : Unit => True) (fun (_ : Unit) t => zB D (eT C) (va_A (eW A C n ops nums vc vals (d + 1 + 1) st ce pk pv pr w key pl dn tk 0) sz) (eW A C n ops nums vc vals (d + 1) (vp_updL st d (st d + st (d + 1))) ce pk pv pr w key pl dn tk 0) t) (va_A (eW A C n ops nums vc vals (d + 1 + 1) st ce pk pv pr w key pl dn tk 0) sz)) 0 0 (va_A (eW A C n ops nums vc vals (d + 1 + 1) st ce pk pv pr w key pl dn tk 0) sz) := by
  refine zEnt (Qc := fun F => (va_Qv (fun _ : Unit => True) (fun (_ : Unit) t => zB D (eT C) F (eW A C n ops nums vc vals (d + 1) (vp_updL st d (st d + st (d + 1))) ce pk pv pr w key pl dn tk 0) t) F)) (by decide) (Nat.le_of_ble_eq_true rfl) (fun p e s m below meth c ls F hx hb hr hlk hml hnm hw hown hsz hP hK hD hA hl => ?_)
  have hS : va_S F s.heap s.heap [] := va_S.rf
  have hown : s.vm.findClass RE = some m.cls := hown
  have hl : lv_has ls 4 [(0, .ref (A 0)), (1, .int (nI 6)), (2, .long x)] := hl
  refine lv_iload_n hx hb dE_perform_0 rfl (lv_at hl 1 rfl) ?_
  refine lv_tableIn (off := 217) (tgt := 218) hx hb dE_perform_1 (by decide) (by decide) (by decide) rfl ?_
  refine lv_aload_n hx hb dE_perform_218 rfl (lv_at hl 0 rfl) ?_
  refine lv_iload_n hx hb dE_perform_219 rfl (lv_at hl 1 rfl) ?_
  refine zAftv0 (zRunV0 ⟨hx, hb, hml, hown, hw⟩ (c_combine6_ok l D A C _ n ops nums vc vals d st ce pk pv pr w key pl dn tk 0 hd) wm_E_149 wi_E_combine ws_E_combine wn_E wc_E_combine ⟨rfl, rfl⟩ wd_E_combine ⟨by decide, by decide⟩ hK hP hD 0 rfl rfl rfl hl.1 rfl (Nat.le_of_ble_eq_true rfl) dE_perform_220 ⟨by decide, by decide⟩) hP hD hS hA (fun u H locs hp hP hD hS => ?_)
  replace hP : va_P D vwCl (eW A C n ops nums vc vals (d + 1) (vp_updL st d (st d + st (d + 1))) ce pk pv pr w key pl dn tk 0) H := hP
  replace hD : va_D F (eW A C n ops nums vc vals (d + 1) (vp_updL st d (st d + st (d + 1))) ce pk pv pr w key pl dn tk 0) := hD
  exact zVret (w' := fun (_ : Unit) => (eW A C n ops nums vc vals (d + 1) (vp_updL st d (st d + st (d + 1))) ce pk pv pr w key pl dn tk 0)) () hx hb hr hlk hS hK trivial hP hD dE_perform_223

set_option maxRecDepth 20000 in
set_option maxHeartbeats 4000000 in
theorem c_perform7_ok (l : Launch) (D : va_G) (A : Nat → Nat) (C : Nat → ClassId) (sz : Nat) (n : Nat) (ops : Nat → Int32) (nums : Nat → Int64) (vc : Nat) (vals : Nat → Int64) (d : Nat) (st : Nat → Int64) (ce : Nat → Int64) (pk : Nat → Int64) (pv : Nat → Int64) (pr : Nat) (w : Nat) (key : Int64) (pl : Nat) (dn : Nat) (tk : Nat) (tr : Nat) (x : Int64) (hd : d < 11) : Met l yE_perform (.code yE_perform cE_perform 4 none :: WS) (rmk 3 71) (va_Pc [.ref (A 0), .int (nI 7), .long x] (zP D (eT C) sz (eW A C n ops nums vc vals (d + 1 + 1) st ce pk pv pr w key pl dn tk 0))) (va_Qv (fun _ : Unit => True) (fun (_ : Unit) t => zB D (eT C) (va_A (eW A C n ops nums vc vals (d + 1 + 1) st ce pk pv pr w key pl dn tk 0) sz) (eW A C n ops nums vc vals (d + 1) (vp_updL st d (st d - st (d + 1))) ce pk pv pr w key pl dn tk 0) t) (va_A (eW A C n ops nums vc vals (d + 1 + 1) st ce pk pv pr w key pl dn tk 0) sz)) 0 0 (va_A (eW A C n ops nums vc vals (d + 1 + 1) st ce pk pv pr w key pl dn tk 0) sz) := by
  refine zEnt (Qc := fun F => (va_Qv (fun _ : Unit => True) (fun (_ : Unit) t => zB D (eT C) F (eW A C n ops nums vc vals (d + 1) (vp_updL st d (st d - st (d + 1))) ce pk pv pr w key pl dn tk 0) t) F)) (by decide) (Nat.le_of_ble_eq_true rfl) (fun p e s m below meth c ls F hx hb hr hlk hml hnm hw hown hsz hP hK hD hA hl => ?_)
  have hS : va_S F s.heap s.heap [] := va_S.rf
  have hown : s.vm.findClass RE = some m.cls := hown
  have hl : lv_has ls 4 [(0, .ref (A 0)), (1, .int (nI 7)), (2, .long x)] := hl
  refine lv_iload_n hx hb dE_perform_0 rfl (lv_at hl 1 rfl) ?_
  refine lv_tableIn (off := 217) (tgt := 218) hx hb dE_perform_1 (by decide) (by decide) (by decide) rfl ?_
  refine lv_aload_n hx hb dE_perform_218 rfl (lv_at hl 0 rfl) ?_
  refine lv_iload_n hx hb dE_perform_219 rfl (lv_at hl 1 rfl) ?_
  refine zAftv0 (zRunV0 ⟨hx, hb, hml, hown, hw⟩ (c_combine7_ok l D A C _ n ops nums vc vals d st ce pk pv pr w key pl dn tk 0 hd) wm_E_149 wi_E_combine ws_E_combine wn_E wc_E_combine ⟨rfl, rfl⟩ wd_E_combine ⟨by decide, by decide⟩ hK hP hD 0 rfl rfl rfl hl.1 rfl (Nat.le_of_ble_eq_true rfl) dE_perform_220 ⟨by decide, by decide⟩) hP hD hS hA (fun u H locs hp hP hD hS => ?_)
  replace hP : va_P D vwCl (eW A C n ops nums vc vals (d + 1) (vp_updL st d (st d - st (d + 1))) ce pk pv pr w key pl dn tk 0) H := hP
  replace hD : va_D F (eW A C n ops nums vc vals (d + 1) (vp_updL st d (st d - st (d + 1))) ce pk pv pr w key pl dn tk 0) := hD
  exact zVret (w' := fun (_ : Unit) => (eW A C n ops nums vc vals (d + 1) (vp_updL st d (st d - st (d + 1))) ce pk pv pr w key pl dn tk 0)) () hx hb hr hlk hS hK trivial hP hD dE_perform_223

set_option maxRecDepth 20000 in
set_option maxHeartbeats 4000000 in
theorem c_perform8_ok (l : Launch) (D : va_G) (A : Nat → Nat) (C : Nat → ClassId) (sz : Nat) (n : Nat) (ops : Nat → Int32) (nums : Nat → Int64) (vc : Nat) (vals : Nat → Int64) (d : Nat) (st : Nat → Int64) (ce : Nat → Int64) (pk : Nat → Int64) (pv : Nat → Int64) (pr : Nat) (w : Nat) (key : Int64) (pl : Nat) (dn : Nat) (tk : Nat) (tr : Nat) (x : Int64) (hd : d < 11) : Met l yE_perform (.code yE_perform cE_perform 4 none :: WS) (rmk 3 71) (va_Pc [.ref (A 0), .int (nI 8), .long x] (zP D (eT C) sz (eW A C n ops nums vc vals (d + 1 + 1) st ce pk pv pr w key pl dn tk 0))) (va_Qv (fun _ : Unit => True) (fun (_ : Unit) t => zB D (eT C) (va_A (eW A C n ops nums vc vals (d + 1 + 1) st ce pk pv pr w key pl dn tk 0) sz) (eW A C n ops nums vc vals (d + 1) (vp_updL st d (st d * st (d + 1))) ce pk pv pr w key pl dn tk 0) t) (va_A (eW A C n ops nums vc vals (d + 1 + 1) st ce pk pv pr w key pl dn tk 0) sz)) 0 0 (va_A (eW A C n ops nums vc vals (d + 1 + 1) st ce pk pv pr w key pl dn tk 0) sz) := by
  refine zEnt (Qc := fun F => (va_Qv (fun _ : Unit => True) (fun (_ : Unit) t => zB D (eT C) F (eW A C n ops nums vc vals (d + 1) (vp_updL st d (st d * st (d + 1))) ce pk pv pr w key pl dn tk 0) t) F)) (by decide) (Nat.le_of_ble_eq_true rfl) (fun p e s m below meth c ls F hx hb hr hlk hml hnm hw hown hsz hP hK hD hA hl => ?_)
  have hS : va_S F s.heap s.heap [] := va_S.rf
  have hown : s.vm.findClass RE = some m.cls := hown
  have hl : lv_has ls 4 [(0, .ref (A 0)), (1, .int (nI 8)), (2, .long x)] := hl
  refine lv_iload_n hx hb dE_perform_0 rfl (lv_at hl 1 rfl) ?_
  refine lv_tableIn (off := 217) (tgt := 218) hx hb dE_perform_1 (by decide) (by decide) (by decide) rfl ?_
  refine lv_aload_n hx hb dE_perform_218 rfl (lv_at hl 0 rfl) ?_
  refine lv_iload_n hx hb dE_perform_219 rfl (lv_at hl 1 rfl) ?_
  refine zAftv0 (zRunV0 ⟨hx, hb, hml, hown, hw⟩ (c_combine8_ok l D A C _ n ops nums vc vals d st ce pk pv pr w key pl dn tk 0 hd) wm_E_149 wi_E_combine ws_E_combine wn_E wc_E_combine ⟨rfl, rfl⟩ wd_E_combine ⟨by decide, by decide⟩ hK hP hD 0 rfl rfl rfl hl.1 rfl (Nat.le_of_ble_eq_true rfl) dE_perform_220 ⟨by decide, by decide⟩) hP hD hS hA (fun u H locs hp hP hD hS => ?_)
  replace hP : va_P D vwCl (eW A C n ops nums vc vals (d + 1) (vp_updL st d (st d * st (d + 1))) ce pk pv pr w key pl dn tk 0) H := hP
  replace hD : va_D F (eW A C n ops nums vc vals (d + 1) (vp_updL st d (st d * st (d + 1))) ce pk pv pr w key pl dn tk 0) := hD
  exact zVret (w' := fun (_ : Unit) => (eW A C n ops nums vc vals (d + 1) (vp_updL st d (st d * st (d + 1))) ce pk pv pr w key pl dn tk 0)) () hx hb hr hlk hS hK trivial hP hD dE_perform_223

set_option maxRecDepth 20000 in
set_option maxHeartbeats 4000000 in
theorem c_perform9_ok (l : Launch) (D : va_G) (A : Nat → Nat) (C : Nat → ClassId) (sz : Nat) (n : Nat) (ops : Nat → Int32) (nums : Nat → Int64) (vc : Nat) (vals : Nat → Int64) (d : Nat) (st : Nat → Int64) (ce : Nat → Int64) (pk : Nat → Int64) (pv : Nat → Int64) (pr : Nat) (w : Nat) (key : Int64) (pl : Nat) (dn : Nat) (tk : Nat) (tr : Nat) (x : Int64) (hd : d < 11) (hy : ¬ st (d + 1) = 0) : Met l yE_perform (.code yE_perform cE_perform 4 none :: WS) (rmk 3 71) (va_Pc [.ref (A 0), .int (nI 9), .long x] (zP D (eT C) sz (eW A C n ops nums vc vals (d + 1 + 1) st ce pk pv pr w key pl dn tk 0))) (va_Qv (fun _ : Unit => True) (fun (_ : Unit) t => zB D (eT C) (va_A (eW A C n ops nums vc vals (d + 1 + 1) st ce pk pv pr w key pl dn tk 0) sz) (eW A C n ops nums vc vals (d + 1) (vp_updL st d (st d / st (d + 1))) ce pk pv pr w key pl dn tk 0) t) (va_A (eW A C n ops nums vc vals (d + 1 + 1) st ce pk pv pr w key pl dn tk 0) sz)) 0 0 (va_A (eW A C n ops nums vc vals (d + 1 + 1) st ce pk pv pr w key pl dn tk 0) sz) := by
  refine zEnt (Qc := fun F => (va_Qv (fun _ : Unit => True) (fun (_ : Unit) t => zB D (eT C) F (eW A C n ops nums vc vals (d + 1) (vp_updL st d (st d / st (d + 1))) ce pk pv pr w key pl dn tk 0) t) F)) (by decide) (Nat.le_of_ble_eq_true rfl) (fun p e s m below meth c ls F hx hb hr hlk hml hnm hw hown hsz hP hK hD hA hl => ?_)
  have hS : va_S F s.heap s.heap [] := va_S.rf
  have hown : s.vm.findClass RE = some m.cls := hown
  have hl : lv_has ls 4 [(0, .ref (A 0)), (1, .int (nI 9)), (2, .long x)] := hl
  refine lv_iload_n hx hb dE_perform_0 rfl (lv_at hl 1 rfl) ?_
  refine lv_tableIn (off := 217) (tgt := 218) hx hb dE_perform_1 (by decide) (by decide) (by decide) rfl ?_
  refine lv_aload_n hx hb dE_perform_218 rfl (lv_at hl 0 rfl) ?_
  refine lv_iload_n hx hb dE_perform_219 rfl (lv_at hl 1 rfl) ?_
  refine zAftv0 (zRunV0 ⟨hx, hb, hml, hown, hw⟩ (c_combine9_ok l D A C _ n ops nums vc vals d st ce pk pv pr w key pl dn tk 0 hd hy) wm_E_149 wi_E_combine ws_E_combine wn_E wc_E_combine ⟨rfl, rfl⟩ wd_E_combine ⟨by decide, by decide⟩ hK hP hD 0 rfl rfl rfl hl.1 rfl (Nat.le_of_ble_eq_true rfl) dE_perform_220 ⟨by decide, by decide⟩) hP hD hS hA (fun u H locs hp hP hD hS => ?_)
  replace hP : va_P D vwCl (eW A C n ops nums vc vals (d + 1) (vp_updL st d (st d / st (d + 1))) ce pk pv pr w key pl dn tk 0) H := hP
  replace hD : va_D F (eW A C n ops nums vc vals (d + 1) (vp_updL st d (st d / st (d + 1))) ce pk pv pr w key pl dn tk 0) := hD
  exact zVret (w' := fun (_ : Unit) => (eW A C n ops nums vc vals (d + 1) (vp_updL st d (st d / st (d + 1))) ce pk pv pr w key pl dn tk 0)) () hx hb hr hlk hS hK trivial hP hD dE_perform_223

set_option maxRecDepth 20000 in
set_option maxHeartbeats 4000000 in
theorem c_perform10_ok (l : Launch) (D : va_G) (A : Nat → Nat) (C : Nat → ClassId) (sz : Nat) (n : Nat) (ops : Nat → Int32) (nums : Nat → Int64) (vc : Nat) (vals : Nat → Int64) (d : Nat) (st : Nat → Int64) (ce : Nat → Int64) (pk : Nat → Int64) (pv : Nat → Int64) (pr : Nat) (w : Nat) (key : Int64) (pl : Nat) (dn : Nat) (tk : Nat) (tr : Nat) (x : Int64) (hd : d < 11) : Met l yE_perform (.code yE_perform cE_perform 4 none :: WS) (rmk 3 71) (va_Pc [.ref (A 0), .int (nI 10), .long x] (zP D (eT C) sz (eW A C n ops nums vc vals (d + 1 + 1) st ce pk pv pr w key pl dn tk 0))) (va_Qv (fun _ : Unit => True) (fun (_ : Unit) t => zB D (eT C) (va_A (eW A C n ops nums vc vals (d + 1 + 1) st ce pk pv pr w key pl dn tk 0) sz) (eW A C n ops nums vc vals (d + 1) (vp_updL st d (if st (d + 1) ≤ st d then 0 else 1)) ce pk pv pr w key pl dn tk 0) t) (va_A (eW A C n ops nums vc vals (d + 1 + 1) st ce pk pv pr w key pl dn tk 0) sz)) 0 0 (va_A (eW A C n ops nums vc vals (d + 1 + 1) st ce pk pv pr w key pl dn tk 0) sz) := by
  refine zEnt (Qc := fun F => (va_Qv (fun _ : Unit => True) (fun (_ : Unit) t => zB D (eT C) F (eW A C n ops nums vc vals (d + 1) (vp_updL st d (if st (d + 1) ≤ st d then 0 else 1)) ce pk pv pr w key pl dn tk 0) t) F)) (by decide) (Nat.le_of_ble_eq_true rfl) (fun p e s m below meth c ls F hx hb hr hlk hml hnm hw hown hsz hP hK hD hA hl => ?_)
  have hS : va_S F s.heap s.heap [] := va_S.rf
  have hown : s.vm.findClass RE = some m.cls := hown
  have hl : lv_has ls 4 [(0, .ref (A 0)), (1, .int (nI 10)), (2, .long x)] := hl
  refine lv_iload_n hx hb dE_perform_0 rfl (lv_at hl 1 rfl) ?_
  refine lv_tableIn (off := 217) (tgt := 218) hx hb dE_perform_1 (by decide) (by decide) (by decide) rfl ?_
  refine lv_aload_n hx hb dE_perform_218 rfl (lv_at hl 0 rfl) ?_
  refine lv_iload_n hx hb dE_perform_219 rfl (lv_at hl 1 rfl) ?_
  refine zAftv0 (zRunV0 ⟨hx, hb, hml, hown, hw⟩ (c_combine10_ok l D A C _ n ops nums vc vals d st ce pk pv pr w key pl dn tk 0 hd) wm_E_149 wi_E_combine ws_E_combine wn_E wc_E_combine ⟨rfl, rfl⟩ wd_E_combine ⟨by decide, by decide⟩ hK hP hD 0 rfl rfl rfl hl.1 rfl (Nat.le_of_ble_eq_true rfl) dE_perform_220 ⟨by decide, by decide⟩) hP hD hS hA (fun u H locs hp hP hD hS => ?_)
  replace hP : va_P D vwCl (eW A C n ops nums vc vals (d + 1) (vp_updL st d (if st (d + 1) ≤ st d then 0 else 1)) ce pk pv pr w key pl dn tk 0) H := hP
  replace hD : va_D F (eW A C n ops nums vc vals (d + 1) (vp_updL st d (if st (d + 1) ≤ st d then 0 else 1)) ce pk pv pr w key pl dn tk 0) := hD
  exact zVret (w' := fun (_ : Unit) => (eW A C n ops nums vc vals (d + 1) (vp_updL st d (if st (d + 1) ≤ st d then 0 else 1)) ce pk pv pr w key pl dn tk 0)) () hx hb hr hlk hS hK trivial hP hD dE_perform_223

set_option maxRecDepth 20000 in
set_option maxHeartbeats 4000000 in
theorem c_perform11_ok (l : Launch) (D : va_G) (A : Nat → Nat) (C : Nat → ClassId) (sz : Nat) (n : Nat) (ops : Nat → Int32) (nums : Nat → Int64) (vc : Nat) (vals : Nat → Int64) (d : Nat) (st : Nat → Int64) (ce : Nat → Int64) (pk : Nat → Int64) (pv : Nat → Int64) (pr : Nat) (w : Nat) (key : Int64) (pl : Nat) (dn : Nat) (tk : Nat) (tr : Nat) (x : Int64) (hd : d < 11) : Met l yE_perform (.code yE_perform cE_perform 4 none :: WS) (rmk 3 71) (va_Pc [.ref (A 0), .int (nI 11), .long x] (zP D (eT C) sz (eW A C n ops nums vc vals (d + 1 + 1) st ce pk pv pr w key pl dn tk 0))) (va_Qv (fun _ : Unit => True) (fun (_ : Unit) t => zB D (eT C) (va_A (eW A C n ops nums vc vals (d + 1 + 1) st ce pk pv pr w key pl dn tk 0) sz) (eW A C n ops nums vc vals (d + 1) (vp_updL st d (if st d = st (d + 1) then 1 else 0)) ce pk pv pr w key pl dn tk 0) t) (va_A (eW A C n ops nums vc vals (d + 1 + 1) st ce pk pv pr w key pl dn tk 0) sz)) 0 0 (va_A (eW A C n ops nums vc vals (d + 1 + 1) st ce pk pv pr w key pl dn tk 0) sz) := by
  refine zEnt (Qc := fun F => (va_Qv (fun _ : Unit => True) (fun (_ : Unit) t => zB D (eT C) F (eW A C n ops nums vc vals (d + 1) (vp_updL st d (if st d = st (d + 1) then 1 else 0)) ce pk pv pr w key pl dn tk 0) t) F)) (by decide) (Nat.le_of_ble_eq_true rfl) (fun p e s m below meth c ls F hx hb hr hlk hml hnm hw hown hsz hP hK hD hA hl => ?_)
  have hS : va_S F s.heap s.heap [] := va_S.rf
  have hown : s.vm.findClass RE = some m.cls := hown
  have hl : lv_has ls 4 [(0, .ref (A 0)), (1, .int (nI 11)), (2, .long x)] := hl
  refine lv_iload_n hx hb dE_perform_0 rfl (lv_at hl 1 rfl) ?_
  refine lv_tableIn (off := 217) (tgt := 218) hx hb dE_perform_1 (by decide) (by decide) (by decide) rfl ?_
  refine lv_aload_n hx hb dE_perform_218 rfl (lv_at hl 0 rfl) ?_
  refine lv_iload_n hx hb dE_perform_219 rfl (lv_at hl 1 rfl) ?_
  refine zAftv0 (zRunV0 ⟨hx, hb, hml, hown, hw⟩ (c_combine11_ok l D A C _ n ops nums vc vals d st ce pk pv pr w key pl dn tk 0 hd) wm_E_149 wi_E_combine ws_E_combine wn_E wc_E_combine ⟨rfl, rfl⟩ wd_E_combine ⟨by decide, by decide⟩ hK hP hD 0 rfl rfl rfl hl.1 rfl (Nat.le_of_ble_eq_true rfl) dE_perform_220 ⟨by decide, by decide⟩) hP hD hS hA (fun u H locs hp hP hD hS => ?_)
  replace hP : va_P D vwCl (eW A C n ops nums vc vals (d + 1) (vp_updL st d (if st d = st (d + 1) then 1 else 0)) ce pk pv pr w key pl dn tk 0) H := hP
  replace hD : va_D F (eW A C n ops nums vc vals (d + 1) (vp_updL st d (if st d = st (d + 1) then 1 else 0)) ce pk pv pr w key pl dn tk 0) := hD
  exact zVret (w' := fun (_ : Unit) => (eW A C n ops nums vc vals (d + 1) (vp_updL st d (if st d = st (d + 1) then 1 else 0)) ce pk pv pr w key pl dn tk 0)) () hx hb hr hlk hS hK trivial hP hD dE_perform_223

set_option maxRecDepth 20000 in
set_option maxHeartbeats 4000000 in
theorem c_perform12_ok (l : Launch) (D : va_G) (A : Nat → Nat) (C : Nat → ClassId) (sz : Nat) (n : Nat) (ops : Nat → Int32) (nums : Nat → Int64) (vc : Nat) (vals : Nat → Int64) (d : Nat) (st : Nat → Int64) (ce : Nat → Int64) (pk : Nat → Int64) (pv : Nat → Int64) (pr : Nat) (w : Nat) (key : Int64) (pl : Nat) (dn : Nat) (tk : Nat) (tr : Nat) (x : Int64) (hd : d < 11) : Met l yE_perform (.code yE_perform cE_perform 4 none :: WS) (rmk 3 71) (va_Pc [.ref (A 0), .int (nI 12), .long x] (zP D (eT C) sz (eW A C n ops nums vc vals (d + 1) st ce pk pv pr w key pl dn tk 0))) (va_Qv (fun _ : Unit => True) (fun (_ : Unit) t => zB D (eT C) (va_A (eW A C n ops nums vc vals (d + 1) st ce pk pv pr w key pl dn tk 0) sz) (eW A C n ops nums vc vals (d + 1 + 1) (vp_updL (vp_updL st d (st d)) (d + 1) (st d)) ce pk pv pr w key pl dn tk 0) t) (va_A (eW A C n ops nums vc vals (d + 1) st ce pk pv pr w key pl dn tk 0) sz)) 0 0 (va_A (eW A C n ops nums vc vals (d + 1) st ce pk pv pr w key pl dn tk 0) sz) := by
  refine zEnt (Qc := fun F => (va_Qv (fun _ : Unit => True) (fun (_ : Unit) t => zB D (eT C) F (eW A C n ops nums vc vals (d + 1 + 1) (vp_updL (vp_updL st d (st d)) (d + 1) (st d)) ce pk pv pr w key pl dn tk 0) t) F)) (by decide) (Nat.le_of_ble_eq_true rfl) (fun p e s m below meth c ls F hx hb hr hlk hml hnm hw hown hsz hP hK hD hA hl => ?_)
  have hS : va_S F s.heap s.heap [] := va_S.rf
  have hown : s.vm.findClass RE = some m.cls := hown
  have hl : lv_has ls 4 [(0, .ref (A 0)), (1, .int (nI 12)), (2, .long x)] := hl
  refine lv_iload_n hx hb dE_perform_0 rfl (lv_at hl 1 rfl) ?_
  refine lv_tableIn (off := 159) (tgt := 160) hx hb dE_perform_1 (by decide) (by decide) (by decide) rfl ?_
  refine lv_aload_n hx hb dE_perform_160 rfl (lv_at hl 0 rfl) ?_
  refine zAftv0 (zRunV0 ⟨hx, hb, hml, hown, hw⟩ (c_doubleTop_ok l D A C _ n ops nums vc vals d st ce pk pv pr w key pl dn tk 0 hd) wm_E_133 wi_E_doubleTop ws_E_doubleTop wn_E wc_E_doubleTop ⟨rfl, rfl⟩ wd_E_doubleTop ⟨by decide, by decide⟩ hK hP hD 0 rfl rfl rfl hl.1 rfl (Nat.le_of_ble_eq_true rfl) dE_perform_161 ⟨by decide, by decide⟩) hP hD hS hA (fun u H locs hp hP hD hS => ?_)
  replace hP : va_P D vwCl (eW A C n ops nums vc vals (d + 1 + 1) (vp_updL (vp_updL st d (st d)) (d + 1) (st d)) ce pk pv pr w key pl dn tk 0) H := hP
  replace hD : va_D F (eW A C n ops nums vc vals (d + 1 + 1) (vp_updL (vp_updL st d (st d)) (d + 1) (st d)) ce pk pv pr w key pl dn tk 0) := hD
  refine lv_goto (tgt := 223) hx hb dE_perform_164 rfl ?_
  exact zVret (w' := fun (_ : Unit) => (eW A C n ops nums vc vals (d + 1 + 1) (vp_updL (vp_updL st d (st d)) (d + 1) (st d)) ce pk pv pr w key pl dn tk 0)) () hx hb hr hlk hS hK trivial hP hD dE_perform_223

set_option maxRecDepth 20000 in
set_option maxHeartbeats 4000000 in
theorem c_perform13_ok (l : Launch) (D : va_G) (A : Nat → Nat) (C : Nat → ClassId) (sz : Nat) (n : Nat) (ops : Nat → Int32) (nums : Nat → Int64) (vc : Nat) (vals : Nat → Int64) (d : Nat) (st : Nat → Int64) (ce : Nat → Int64) (pk : Nat → Int64) (pv : Nat → Int64) (pr : Nat) (w : Nat) (key : Int64) (pl : Nat) (dn : Nat) (tk : Nat) (tr : Nat) (x : Int64) (hd : d < 12) : Met l yE_perform (.code yE_perform cE_perform 4 none :: WS) (rmk 3 71) (va_Pc [.ref (A 0), .int (nI 13), .long x] (zP D (eT C) sz (eW A C n ops nums vc vals (d + 1) st ce pk pv pr w key pl dn tk 0))) (va_Qv (fun _ : Unit => True) (fun (_ : Unit) t => zB D (eT C) (va_A (eW A C n ops nums vc vals (d + 1) st ce pk pv pr w key pl dn tk 0) sz) (eW A C n ops nums vc vals d st ce pk pv pr w key pl dn tk 0) t) (va_A (eW A C n ops nums vc vals (d + 1) st ce pk pv pr w key pl dn tk 0) sz)) 0 0 (va_A (eW A C n ops nums vc vals (d + 1) st ce pk pv pr w key pl dn tk 0) sz) := by
  refine zEnt (Qc := fun F => (va_Qv (fun _ : Unit => True) (fun (_ : Unit) t => zB D (eT C) F (eW A C n ops nums vc vals d st ce pk pv pr w key pl dn tk 0) t) F)) (by decide) (Nat.le_of_ble_eq_true rfl) (fun p e s m below meth c ls F hx hb hr hlk hml hnm hw hown hsz hP hK hD hA hl => ?_)
  have hS : va_S F s.heap s.heap [] := va_S.rf
  have hown : s.vm.findClass RE = some m.cls := hown
  have hl : lv_has ls 4 [(0, .ref (A 0)), (1, .int (nI 13)), (2, .long x)] := hl
  refine lv_iload_n hx hb dE_perform_0 rfl (lv_at hl 1 rfl) ?_
  refine lv_tableIn (off := 166) (tgt := 167) hx hb dE_perform_1 (by decide) (by decide) (by decide) rfl ?_
  refine lv_aload_n hx hb dE_perform_167 rfl (lv_at hl 0 rfl) ?_
  refine zAftl0 (zRunV0 ⟨hx, hb, hml, hown, hw⟩ (c_pop_ok l D A C _ n ops nums vc vals d st ce pk pv pr w key pl dn tk 0 (by omega)) wm_E_136 wi_E_pop ws_E_pop wn_E wc_E_pop ⟨rfl, rfl⟩ wd_E_pop ⟨by decide, by decide⟩ hK hP hD 0 rfl rfl rfl hl.1 rfl (Nat.le_of_ble_eq_true rfl) dE_perform_168 ⟨by decide, by decide⟩) hP hD hS hA (fun r u H locs hp hP hD hS => ?_)
  replace hP : va_P D vwCl (eW A C n ops nums vc vals d st ce pk pv pr w key pl dn tk 0) H := hP
  replace hD : va_D F (eW A C n ops nums vc vals d st ce pk pv pr w key pl dn tk 0) := hD
  subst hp
  refine lv_pop2_2 hx hb dE_perform_171 rfl ?_
  refine lv_goto (tgt := 223) hx hb dE_perform_172 rfl ?_
  exact zVret (w' := fun (_ : Unit) => (eW A C n ops nums vc vals d st ce pk pv pr w key pl dn tk 0)) () hx hb hr hlk hS hK trivial hP hD dE_perform_223

set_option maxRecDepth 20000 in
set_option maxHeartbeats 4000000 in
theorem c_perform14_ok (l : Launch) (D : va_G) (A : Nat → Nat) (C : Nat → ClassId) (sz : Nat) (n : Nat) (ops : Nat → Int32) (nums : Nat → Int64) (vc : Nat) (vals : Nat → Int64) (d : Nat) (st : Nat → Int64) (ce : Nat → Int64) (pk : Nat → Int64) (pv : Nat → Int64) (pr : Nat) (w : Nat) (key : Int64) (pl : Nat) (dn : Nat) (tk : Nat) (tr : Nat) (x : Int64) (hd : d < 11) : Met l yE_perform (.code yE_perform cE_perform 4 none :: WS) (rmk 3 71) (va_Pc [.ref (A 0), .int (nI 14), .long x] (zP D (eT C) sz (eW A C n ops nums vc vals (d + 1 + 1) st ce pk pv pr w key pl dn tk 0))) (va_Qv (fun _ : Unit => True) (fun (_ : Unit) t => zB D (eT C) (va_A (eW A C n ops nums vc vals (d + 1 + 1) st ce pk pv pr w key pl dn tk 0) sz) (eW A C n ops nums vc vals (d + 1 + 1) (vp_updL (vp_updL st d (st (d + 1))) (d + 1) (st d)) ce pk pv pr w key pl dn tk 0) t) (va_A (eW A C n ops nums vc vals (d + 1 + 1) st ce pk pv pr w key pl dn tk 0) sz)) 0 0 (va_A (eW A C n ops nums vc vals (d + 1 + 1) st ce pk pv pr w key pl dn tk 0) sz) := by
  refine zEnt (Qc := fun F => (va_Qv (fun _ : Unit => True) (fun (_ : Unit) t => zB D (eT C) F (eW A C n ops nums vc vals (d + 1 + 1) (vp_updL (vp_updL st d (st (d + 1))) (d + 1) (st d)) ce pk pv pr w key pl dn tk 0) t) F)) (by decide) (Nat.le_of_ble_eq_true rfl) (fun p e s m below meth c ls F hx hb hr hlk hml hnm hw hown hsz hP hK hD hA hl => ?_)
  have hS : va_S F s.heap s.heap [] := va_S.rf
  have hown : s.vm.findClass RE = some m.cls := hown
  have hl : lv_has ls 4 [(0, .ref (A 0)), (1, .int (nI 14)), (2, .long x)] := hl
  refine lv_iload_n hx hb dE_perform_0 rfl (lv_at hl 1 rfl) ?_
  refine lv_tableIn (off := 174) (tgt := 175) hx hb dE_perform_1 (by decide) (by decide) (by decide) rfl ?_
  refine lv_aload_n hx hb dE_perform_175 rfl (lv_at hl 0 rfl) ?_
  refine zAftv0 (zRunV0 ⟨hx, hb, hml, hown, hw⟩ (c_changeTwo_ok l D A C _ n ops nums vc vals d st ce pk pv pr w key pl dn tk 0 hd) wm_E_140 wi_E_changeTwo ws_E_changeTwo wn_E wc_E_changeTwo ⟨rfl, rfl⟩ wd_E_changeTwo ⟨by decide, by decide⟩ hK hP hD 0 rfl rfl rfl hl.1 rfl (Nat.le_of_ble_eq_true rfl) dE_perform_176 ⟨by decide, by decide⟩) hP hD hS hA (fun u H locs hp hP hD hS => ?_)
  replace hP : va_P D vwCl (eW A C n ops nums vc vals (d + 1 + 1) (vp_updL (vp_updL st d (st (d + 1))) (d + 1) (st d)) ce pk pv pr w key pl dn tk 0) H := hP
  replace hD : va_D F (eW A C n ops nums vc vals (d + 1 + 1) (vp_updL (vp_updL st d (st (d + 1))) (d + 1) (st d)) ce pk pv pr w key pl dn tk 0) := hD
  refine lv_goto (tgt := 223) hx hb dE_perform_179 rfl ?_
  exact zVret (w' := fun (_ : Unit) => (eW A C n ops nums vc vals (d + 1 + 1) (vp_updL (vp_updL st d (st (d + 1))) (d + 1) (st d)) ce pk pv pr w key pl dn tk 0)) () hx hb hr hlk hS hK trivial hP hD dE_perform_223

set_option maxRecDepth 20000 in
set_option maxHeartbeats 4000000 in
theorem c_perform15_ok (l : Launch) (D : va_G) (A : Nat → Nat) (C : Nat → ClassId) (sz : Nat) (n : Nat) (ops : Nat → Int32) (nums : Nat → Int64) (vc : Nat) (vals : Nat → Int64) (d : Nat) (st : Nat → Int64) (ce : Nat → Int64) (pk : Nat → Int64) (pv : Nat → Int64) (pr : Nat) (w : Nat) (key : Int64) (pl : Nat) (dn : Nat) (tk : Nat) (tr : Nat) (j : Nat) : Met l yE_perform (.code yE_perform cE_perform 4 none :: WS) (rmk 3 71) (va_Pc [.ref (A 0), .int (nI 15), .long (lN j)] (zP D (eT C) sz (eW A C n ops nums vc vals d st ce pk pv pr w key pl dn tk 0))) (va_Qv (fun _ : Unit => True) (fun (_ : Unit) t => zB D (eT C) (va_A (eW A C n ops nums vc vals d st ce pk pv pr w key pl dn tk 0) sz) (eW A C n ops nums vc vals d st ce pk pv pr w key j dn tk 0) t) (va_A (eW A C n ops nums vc vals d st ce pk pv pr w key pl dn tk 0) sz)) 0 0 (va_A (eW A C n ops nums vc vals d st ce pk pv pr w key pl dn tk 0) sz) := by
  refine zEnt (Qc := fun F => (va_Qv (fun _ : Unit => True) (fun (_ : Unit) t => zB D (eT C) F (eW A C n ops nums vc vals d st ce pk pv pr w key j dn tk 0) t) F)) (by decide) (Nat.le_of_ble_eq_true rfl) (fun p e s m below meth c ls F hx hb hr hlk hml hnm hw hown hsz hP hK hD hA hl => ?_)
  have hS : va_S F s.heap s.heap [] := va_S.rf
  have hown : s.vm.findClass RE = some m.cls := hown
  have hl : lv_has ls 4 [(0, .ref (A 0)), (1, .int (nI 15)), (2, .long (lN j))] := hl
  refine lv_iload_n hx hb dE_perform_0 rfl (lv_at hl 1 rfl) ?_
  refine lv_tableIn (off := 181) (tgt := 182) hx hb dE_perform_1 (by decide) (by decide) (by decide) rfl ?_
  refine lv_aload_n hx hb dE_perform_182 rfl (lv_at hl 0 rfl) ?_
  refine lv_lload_n hx hb dE_perform_183 rfl (lv_at hl 2 rfl) ?_
  refine lv_l2i hx hb dE_perform_184 (lN_i _) ?_
  refine zPutE hx hb hw hown hK hP hD hS 0 rfl 13 (by decide) wf_E_113 rfl rfl rfl (Nat.le_of_ble_eq_true rfl) dE_perform_185 (fun H locs hP hD hS => ?_)
  replace hP : va_P D vwCl (eW A C n ops nums vc vals d st ce pk pv pr w key j dn tk 0) H := hP
  replace hD : va_D F (eW A C n ops nums vc vals d st ce pk pv pr w key j dn tk 0) := hD
  refine lv_goto (tgt := 223) hx hb dE_perform_188 rfl ?_
  exact zVret (w' := fun (_ : Unit) => (eW A C n ops nums vc vals d st ce pk pv pr w key j dn tk 0)) () hx hb hr hlk hS hK trivial hP hD dE_perform_223

set_option maxRecDepth 20000 in
set_option maxHeartbeats 4000000 in
theorem c_perform16Y_ok (l : Launch) (D : va_G) (A : Nat → Nat) (C : Nat → ClassId) (sz : Nat) (n : Nat) (ops : Nat → Int32) (nums : Nat → Int64) (vc : Nat) (vals : Nat → Int64) (d : Nat) (st : Nat → Int64) (ce : Nat → Int64) (pk : Nat → Int64) (pv : Nat → Int64) (pr : Nat) (w : Nat) (key : Int64) (pl : Nat) (dn : Nat) (tk : Nat) (tr : Nat) (j : Nat) (hd : d < 12) (hz : st d = 0) : Met l yE_perform (.code yE_perform cE_perform 4 none :: WS) (rmk 3 71) (va_Pc [.ref (A 0), .int (nI 16), .long (lN j)] (zP D (eT C) sz (eW A C n ops nums vc vals (d + 1) st ce pk pv pr w key pl dn tk 0))) (va_Qv (fun _ : Unit => True) (fun (_ : Unit) t => zB D (eT C) (va_A (eW A C n ops nums vc vals (d + 1) st ce pk pv pr w key pl dn tk 0) sz) (eW A C n ops nums vc vals d st ce pk pv pr w key j dn tk 0) t) (va_A (eW A C n ops nums vc vals (d + 1) st ce pk pv pr w key pl dn tk 0) sz)) 0 0 (va_A (eW A C n ops nums vc vals (d + 1) st ce pk pv pr w key pl dn tk 0) sz) := by
  refine zEnt (Qc := fun F => (va_Qv (fun _ : Unit => True) (fun (_ : Unit) t => zB D (eT C) F (eW A C n ops nums vc vals d st ce pk pv pr w key j dn tk 0) t) F)) (by decide) (Nat.le_of_ble_eq_true rfl) (fun p e s m below meth c ls F hx hb hr hlk hml hnm hw hown hsz hP hK hD hA hl => ?_)
  have hS : va_S F s.heap s.heap [] := va_S.rf
  have hown : s.vm.findClass RE = some m.cls := hown
  have hl : lv_has ls 4 [(0, .ref (A 0)), (1, .int (nI 16)), (2, .long (lN j))] := hl
  refine lv_iload_n hx hb dE_perform_0 rfl (lv_at hl 1 rfl) ?_
  refine lv_tableIn (off := 190) (tgt := 191) hx hb dE_perform_1 (by decide) (by decide) (by decide) rfl ?_
  refine lv_aload_n hx hb dE_perform_191 rfl (lv_at hl 0 rfl) ?_
  refine lv_lload_n hx hb dE_perform_192 rfl (lv_at hl 2 rfl) ?_
  refine lv_l2i hx hb dE_perform_193 (lN_i _) ?_
  refine zAftv0 (zRunV0 ⟨hx, hb, hml, hown, hw⟩ (c_goIfZeroY_ok l D A C _ n ops nums vc vals d st ce pk pv pr w key pl dn tk 0 j hd hz) wm_E_143 wi_E_goIfZero ws_E_goIfZero wn_E wc_E_goIfZero ⟨rfl, rfl⟩ wd_E_goIfZero ⟨by decide, by decide⟩ hK hP hD 0 rfl rfl rfl hl.1 rfl (Nat.le_of_ble_eq_true rfl) dE_perform_194 ⟨by decide, by decide⟩) hP hD hS hA (fun u H locs hp hP hD hS => ?_)
  replace hP : va_P D vwCl (eW A C n ops nums vc vals d st ce pk pv pr w key j dn tk 0) H := hP
  replace hD : va_D F (eW A C n ops nums vc vals d st ce pk pv pr w key j dn tk 0) := hD
  refine lv_goto (tgt := 223) hx hb dE_perform_197 rfl ?_
  exact zVret (w' := fun (_ : Unit) => (eW A C n ops nums vc vals d st ce pk pv pr w key j dn tk 0)) () hx hb hr hlk hS hK trivial hP hD dE_perform_223

set_option maxRecDepth 20000 in
set_option maxHeartbeats 4000000 in
theorem c_perform16N_ok (l : Launch) (D : va_G) (A : Nat → Nat) (C : Nat → ClassId) (sz : Nat) (n : Nat) (ops : Nat → Int32) (nums : Nat → Int64) (vc : Nat) (vals : Nat → Int64) (d : Nat) (st : Nat → Int64) (ce : Nat → Int64) (pk : Nat → Int64) (pv : Nat → Int64) (pr : Nat) (w : Nat) (key : Int64) (pl : Nat) (dn : Nat) (tk : Nat) (tr : Nat) (j : Nat) (hd : d < 12) (hz : ¬ st d = 0) : Met l yE_perform (.code yE_perform cE_perform 4 none :: WS) (rmk 3 71) (va_Pc [.ref (A 0), .int (nI 16), .long (lN j)] (zP D (eT C) sz (eW A C n ops nums vc vals (d + 1) st ce pk pv pr w key pl dn tk 0))) (va_Qv (fun _ : Unit => True) (fun (_ : Unit) t => zB D (eT C) (va_A (eW A C n ops nums vc vals (d + 1) st ce pk pv pr w key pl dn tk 0) sz) (eW A C n ops nums vc vals d st ce pk pv pr w key pl dn tk 0) t) (va_A (eW A C n ops nums vc vals (d + 1) st ce pk pv pr w key pl dn tk 0) sz)) 0 0 (va_A (eW A C n ops nums vc vals (d + 1) st ce pk pv pr w key pl dn tk 0) sz) := by
  refine zEnt (Qc := fun F => (va_Qv (fun _ : Unit => True) (fun (_ : Unit) t => zB D (eT C) F (eW A C n ops nums vc vals d st ce pk pv pr w key pl dn tk 0) t) F)) (by decide) (Nat.le_of_ble_eq_true rfl) (fun p e s m below meth c ls F hx hb hr hlk hml hnm hw hown hsz hP hK hD hA hl => ?_)
  have hS : va_S F s.heap s.heap [] := va_S.rf
  have hown : s.vm.findClass RE = some m.cls := hown
  have hl : lv_has ls 4 [(0, .ref (A 0)), (1, .int (nI 16)), (2, .long (lN j))] := hl
  refine lv_iload_n hx hb dE_perform_0 rfl (lv_at hl 1 rfl) ?_
  refine lv_tableIn (off := 190) (tgt := 191) hx hb dE_perform_1 (by decide) (by decide) (by decide) rfl ?_
  refine lv_aload_n hx hb dE_perform_191 rfl (lv_at hl 0 rfl) ?_
  refine lv_lload_n hx hb dE_perform_192 rfl (lv_at hl 2 rfl) ?_
  refine lv_l2i hx hb dE_perform_193 (lN_i _) ?_
  refine zAftv0 (zRunV0 ⟨hx, hb, hml, hown, hw⟩ (c_goIfZeroN_ok l D A C _ n ops nums vc vals d st ce pk pv pr w key pl dn tk 0 j hd hz) wm_E_143 wi_E_goIfZero ws_E_goIfZero wn_E wc_E_goIfZero ⟨rfl, rfl⟩ wd_E_goIfZero ⟨by decide, by decide⟩ hK hP hD 0 rfl rfl rfl hl.1 rfl (Nat.le_of_ble_eq_true rfl) dE_perform_194 ⟨by decide, by decide⟩) hP hD hS hA (fun u H locs hp hP hD hS => ?_)
  replace hP : va_P D vwCl (eW A C n ops nums vc vals d st ce pk pv pr w key pl dn tk 0) H := hP
  replace hD : va_D F (eW A C n ops nums vc vals d st ce pk pv pr w key pl dn tk 0) := hD
  refine lv_goto (tgt := 223) hx hb dE_perform_197 rfl ?_
  exact zVret (w' := fun (_ : Unit) => (eW A C n ops nums vc vals d st ce pk pv pr w key pl dn tk 0)) () hx hb hr hlk hS hK trivial hP hD dE_perform_223

set_option maxRecDepth 20000 in
set_option maxHeartbeats 4000000 in
theorem c_perform17a_ok (l : Launch) (D : va_G) (A : Nat → Nat) (C : Nat → ClassId) (sz : Nat) (n : Nat) (ops : Nat → Int32) (nums : Nat → Int64) (vc : Nat) (vals : Nat → Int64) (d : Nat) (st : Nat → Int64) (ce : Nat → Int64) (pk : Nat → Int64) (pv : Nat → Int64) (pr : Nat) (w : Nat) (key : Int64) (pl : Nat) (dn : Nat) (tk : Nat) (tr : Nat) (x : Int64) (hd : d < 12) (hp : pr < 4) : Met l yE_perform (.code yE_perform cE_perform 4 none :: WS) (rmk 3 71) (va_Pc [.ref (A 0), .int (nI 17), .long x] (zP D (eT C) sz (eW A C n ops nums vc vals (d + 1) st ce pk pv pr 1 key pl dn tk 0))) (va_Qv (fun _ : Unit => True) (fun (_ : Unit) t => zB D (eT C) (va_A (eW A C n ops nums vc vals (d + 1) st ce pk pv pr 1 key pl dn tk 0) sz) (eW A C n ops nums vc vals d st ce (vp_updL pk pr key) (vp_updL pv pr (st d)) (pr + 1) 1 key pl dn tk 0) t) (va_A (eW A C n ops nums vc vals (d + 1) st ce pk pv pr 1 key pl dn tk 0) sz)) 0 0 (va_A (eW A C n ops nums vc vals (d + 1) st ce pk pv pr 1 key pl dn tk 0) sz) := by
  refine zEnt (Qc := fun F => (va_Qv (fun _ : Unit => True) (fun (_ : Unit) t => zB D (eT C) F (eW A C n ops nums vc vals d st ce (vp_updL pk pr key) (vp_updL pv pr (st d)) (pr + 1) 1 key pl dn tk 0) t) F)) (by decide) (Nat.le_of_ble_eq_true rfl) (fun p e s m below meth c ls F hx hb hr hlk hml hnm hw hown hsz hP hK hD hA hl => ?_)
  have hS : va_S F s.heap s.heap [] := va_S.rf
  have hown : s.vm.findClass RE = some m.cls := hown
  have hl : lv_has ls 4 [(0, .ref (A 0)), (1, .int (nI 17)), (2, .long x)] := hl
  refine lv_iload_n hx hb dE_perform_0 rfl (lv_at hl 1 rfl) ?_
  refine lv_tableIn (off := 199) (tgt := 200) hx hb dE_perform_1 (by decide) (by decide) (by decide) rfl ?_
  refine lv_aload_n hx hb dE_perform_200 rfl (lv_at hl 0 rfl) ?_
  refine zAftv0 (zRunV0 ⟨hx, hb, hml, hown, hw⟩ (c_emitPair1_ok l D A C _ n ops nums vc vals d st ce pk pv pr 1 key pl dn tk 0 hd hp) wm_E_146 wi_E_emitPair ws_E_emitPair wn_E wc_E_emitPair ⟨rfl, rfl⟩ wd_E_emitPair ⟨by decide, by decide⟩ hK hP hD 0 rfl rfl rfl hl.1 rfl (Nat.le_of_ble_eq_true rfl) dE_perform_201 ⟨by decide, by decide⟩) hP hD hS hA (fun u H locs hp hP hD hS => ?_)
  replace hP : va_P D vwCl (eW A C n ops nums vc vals d st ce (vp_updL pk pr key) (vp_updL pv pr (st d)) (pr + 1) 1 key pl dn tk 0) H := hP
  replace hD : va_D F (eW A C n ops nums vc vals d st ce (vp_updL pk pr key) (vp_updL pv pr (st d)) (pr + 1) 1 key pl dn tk 0) := hD
  refine lv_goto (tgt := 223) hx hb dE_perform_204 rfl ?_
  exact zVret (w' := fun (_ : Unit) => (eW A C n ops nums vc vals d st ce (vp_updL pk pr key) (vp_updL pv pr (st d)) (pr + 1) 1 key pl dn tk 0)) () hx hb hr hlk hS hK trivial hP hD dE_perform_223

set_option maxRecDepth 20000 in
set_option maxHeartbeats 4000000 in
theorem c_perform17b_ok (l : Launch) (D : va_G) (A : Nat → Nat) (C : Nat → ClassId) (sz : Nat) (n : Nat) (ops : Nat → Int32) (nums : Nat → Int64) (vc : Nat) (vals : Nat → Int64) (d : Nat) (st : Nat → Int64) (ce : Nat → Int64) (pk : Nat → Int64) (pv : Nat → Int64) (pr : Nat) (w : Nat) (key : Int64) (pl : Nat) (dn : Nat) (tk : Nat) (tr : Nat) (x : Int64) (hd : d < 11) (hp : pr < 4) (hw1 : w ≠ 1) (hw2 : w ≤ 2) : Met l yE_perform (.code yE_perform cE_perform 4 none :: WS) (rmk 3 71) (va_Pc [.ref (A 0), .int (nI 17), .long x] (zP D (eT C) sz (eW A C n ops nums vc vals (d + 1 + 1) st ce pk pv pr w key pl dn tk 0))) (va_Qv (fun _ : Unit => True) (fun (_ : Unit) t => zB D (eT C) (va_A (eW A C n ops nums vc vals (d + 1 + 1) st ce pk pv pr w key pl dn tk 0) sz) (eW A C n ops nums vc vals d st ce (vp_updL pk pr (st d)) (vp_updL pv pr (st (d + 1))) (pr + 1) w key pl dn tk 0) t) (va_A (eW A C n ops nums vc vals (d + 1 + 1) st ce pk pv pr w key pl dn tk 0) sz)) 0 0 (va_A (eW A C n ops nums vc vals (d + 1 + 1) st ce pk pv pr w key pl dn tk 0) sz) := by
  refine zEnt (Qc := fun F => (va_Qv (fun _ : Unit => True) (fun (_ : Unit) t => zB D (eT C) F (eW A C n ops nums vc vals d st ce (vp_updL pk pr (st d)) (vp_updL pv pr (st (d + 1))) (pr + 1) w key pl dn tk 0) t) F)) (by decide) (Nat.le_of_ble_eq_true rfl) (fun p e s m below meth c ls F hx hb hr hlk hml hnm hw hown hsz hP hK hD hA hl => ?_)
  have hS : va_S F s.heap s.heap [] := va_S.rf
  have hown : s.vm.findClass RE = some m.cls := hown
  have hl : lv_has ls 4 [(0, .ref (A 0)), (1, .int (nI 17)), (2, .long x)] := hl
  refine lv_iload_n hx hb dE_perform_0 rfl (lv_at hl 1 rfl) ?_
  refine lv_tableIn (off := 199) (tgt := 200) hx hb dE_perform_1 (by decide) (by decide) (by decide) rfl ?_
  refine lv_aload_n hx hb dE_perform_200 rfl (lv_at hl 0 rfl) ?_
  refine zAftv0 (zRunV0 ⟨hx, hb, hml, hown, hw⟩ (c_emitPair2_ok l D A C _ n ops nums vc vals d st ce pk pv pr w key pl dn tk 0 hd hp hw1 hw2) wm_E_146 wi_E_emitPair ws_E_emitPair wn_E wc_E_emitPair ⟨rfl, rfl⟩ wd_E_emitPair ⟨by decide, by decide⟩ hK hP hD 0 rfl rfl rfl hl.1 rfl (Nat.le_of_ble_eq_true rfl) dE_perform_201 ⟨by decide, by decide⟩) hP hD hS hA (fun u H locs hp hP hD hS => ?_)
  replace hP : va_P D vwCl (eW A C n ops nums vc vals d st ce (vp_updL pk pr (st d)) (vp_updL pv pr (st (d + 1))) (pr + 1) w key pl dn tk 0) H := hP
  replace hD : va_D F (eW A C n ops nums vc vals d st ce (vp_updL pk pr (st d)) (vp_updL pv pr (st (d + 1))) (pr + 1) w key pl dn tk 0) := hD
  refine lv_goto (tgt := 223) hx hb dE_perform_204 rfl ?_
  exact zVret (w' := fun (_ : Unit) => (eW A C n ops nums vc vals d st ce (vp_updL pk pr (st d)) (vp_updL pv pr (st (d + 1))) (pr + 1) w key pl dn tk 0)) () hx hb hr hlk hS hK trivial hP hD dE_perform_223

set_option maxRecDepth 20000 in
set_option maxHeartbeats 4000000 in
theorem c_perform18_ok (l : Launch) (D : va_G) (A : Nat → Nat) (C : Nat → ClassId) (sz : Nat) (n : Nat) (ops : Nat → Int32) (nums : Nat → Int64) (vc : Nat) (vals : Nat → Int64) (d : Nat) (st : Nat → Int64) (ce : Nat → Int64) (pk : Nat → Int64) (pv : Nat → Int64) (pr : Nat) (w : Nat) (key : Int64) (pl : Nat) (dn : Nat) (tk : Nat) (tr : Nat) (x : Int64) : Met l yE_perform (.code yE_perform cE_perform 4 none :: WS) (rmk 3 71) (va_Pc [.ref (A 0), .int (nI 18), .long x] (zP D (eT C) sz (eW A C n ops nums vc vals d st ce pk pv pr w key pl dn tk 0))) (va_Qv (fun _ : Unit => True) (fun (_ : Unit) t => zB D (eT C) (va_A (eW A C n ops nums vc vals d st ce pk pv pr w key pl dn tk 0) sz) (eW A C n ops nums vc vals d st ce pk pv pr w key n dn tk 0) t) (va_A (eW A C n ops nums vc vals d st ce pk pv pr w key pl dn tk 0) sz)) 0 0 (va_A (eW A C n ops nums vc vals d st ce pk pv pr w key pl dn tk 0) sz) := by
  refine zEnt (Qc := fun F => (va_Qv (fun _ : Unit => True) (fun (_ : Unit) t => zB D (eT C) F (eW A C n ops nums vc vals d st ce pk pv pr w key n dn tk 0) t) F)) (by decide) (Nat.le_of_ble_eq_true rfl) (fun p e s m below meth c ls F hx hb hr hlk hml hnm hw hown hsz hP hK hD hA hl => ?_)
  have hS : va_S F s.heap s.heap [] := va_S.rf
  have hown : s.vm.findClass RE = some m.cls := hown
  have hl : lv_has ls 4 [(0, .ref (A 0)), (1, .int (nI 18)), (2, .long x)] := hl
  refine lv_iload_n hx hb dE_perform_0 rfl (lv_at hl 1 rfl) ?_
  refine lv_tableIn (off := 206) (tgt := 207) hx hb dE_perform_1 (by decide) (by decide) (by decide) rfl ?_
  refine lv_aload_n hx hb dE_perform_207 rfl (lv_at hl 0 rfl) ?_
  refine lv_aload_n hx hb dE_perform_208 rfl (lv_at hl 0 rfl) ?_
  refine zGetE hx hb hw hown hK hP 0 rfl 2 (by decide) wf_E_43 rfl dE_perform_209 ?_
  refine zPutE hx hb hw hown hK hP hD hS 0 rfl 13 (by decide) wf_E_113 rfl rfl rfl (Nat.le_of_ble_eq_true rfl) dE_perform_212 (fun H locs hP hD hS => ?_)
  replace hP : va_P D vwCl (eW A C n ops nums vc vals d st ce pk pv pr w key n dn tk 0) H := hP
  replace hD : va_D F (eW A C n ops nums vc vals d st ce pk pv pr w key n dn tk 0) := hD
  refine lv_goto (tgt := 223) hx hb dE_perform_215 rfl ?_
  exact zVret (w' := fun (_ : Unit) => (eW A C n ops nums vc vals d st ce pk pv pr w key n dn tk 0)) () hx hb hr hlk hS hK trivial hP hD dE_perform_223

set_option maxRecDepth 20000 in
set_option maxHeartbeats 4000000 in
theorem c_perform0_full (l : Launch) (D : va_G) (A : Nat → Nat) (C : Nat → ClassId) (sz : Nat) (n : Nat) (ops : Nat → Int32) (nums : Nat → Int64) (vc : Nat) (vals : Nat → Int64) (d : Nat) (st : Nat → Int64) (ce : Nat → Int64) (pk : Nat → Int64) (pv : Nat → Int64) (pr : Nat) (w : Nat) (key : Int64) (pl : Nat) (dn : Nat) (tk : Nat) (tr : Nat) (x : Int64) (hd : d ≤ 12) (hpl : pl ≤ 40) (hf : d = 12) : Met l yE_perform (.code yE_perform cE_perform 4 none :: WS) (rmk 3 71) (va_Pc [.ref (A 0), .int (nI 0), .long x] (zP D (eT C) sz (eW A C n ops nums vc vals d st ce pk pv pr w key pl dn tk 0))) (va_Qv (fun u : Nat × (Nat → Int64) × Nat => u.1 ≤ 12 ∧ u.2.2 ≤ 40) (fun (u : Nat × (Nat → Int64) × Nat) t => zB D (eT C) (va_A (eW A C n ops nums vc vals d st ce pk pv pr w key pl dn tk 0) sz) (eW A C n ops nums vc vals u.1 u.2.1 ce pk pv pr w key u.2.2 dn tk 1) t) (va_A (eW A C n ops nums vc vals d st ce pk pv pr w key pl dn tk 0) sz)) 0 0 (va_A (eW A C n ops nums vc vals d st ce pk pv pr w key pl dn tk 0) sz) := by
  refine zEnt (Qc := fun F => (va_Qv (fun u : Nat × (Nat → Int64) × Nat => u.1 ≤ 12 ∧ u.2.2 ≤ 40) (fun (u : Nat × (Nat → Int64) × Nat) t => zB D (eT C) F (eW A C n ops nums vc vals u.1 u.2.1 ce pk pv pr w key u.2.2 dn tk 1) t) F)) (by decide) (Nat.le_of_ble_eq_true rfl) (fun p e s m below meth c ls F hx hb hr hlk hml hnm hw hown hsz hP hK hD hA hl => ?_)
  have hS : va_S F s.heap s.heap [] := va_S.rf
  have hown : s.vm.findClass RE = some m.cls := hown
  have hl : lv_has ls 4 [(0, .ref (A 0)), (1, .int (nI 0)), (2, .long x)] := hl
  refine lv_iload_n hx hb dE_perform_0 rfl (lv_at hl 1 rfl) ?_
  refine lv_tableIn (off := 91) (tgt := 92) hx hb dE_perform_1 (by decide) (by decide) (by decide) rfl ?_
  refine lv_aload_n hx hb dE_perform_92 rfl (lv_at hl 0 rfl) ?_
  refine lv_lload_n hx hb dE_perform_93 rfl (lv_at hl 2 rfl) ?_
  refine zAftv0 (zRunV0 ⟨hx, hb, hml, hown, hw⟩ (c_push l D A C _ n ops nums vc vals d st ce pk pv pr w key pl dn tk 0 x (by omega)) wm_E_119 wi_E_push ws_E_push wn_E wc_E_push ⟨rfl, rfl⟩ wd_E_push ⟨by decide, by decide⟩ hK hP hD 0 rfl rfl rfl hl.1 rfl (Nat.le_of_ble_eq_true rfl) dE_perform_94 ⟨by decide, by decide⟩) hP hD hS hA (fun u H locs hp hP hD hS => ?_)
  replace hP : va_P D vwCl (eW A C n ops nums vc vals (pD d) (pS x d st) ce pk pv pr w key pl dn tk (pT d 0)) H := hP
  replace hD : va_D F (eW A C n ops nums vc vals (pD d) (pS x d st) ce pk pv pr w key pl dn tk (pT d 0)) := hD
  refine lv_goto (tgt := 223) hx hb dE_perform_97 rfl ?_
  have e9 : (pT d 0) = 1 := by simp only [pT, qT, pD]; (repeat' split) <;> omega
  rw [e9] at hP hD
  exact zVret (w' := fun (u : Nat × (Nat → Int64) × Nat) => (eW A C n ops nums vc vals u.1 u.2.1 ce pk pv pr w key u.2.2 dn tk 1)) (pD d, pS x d st, pl) hx hb hr hlk hS hK ⟨by simp only [pD]; (repeat' split) <;> omega, by omega⟩ hP hD dE_perform_223

set_option maxRecDepth 20000 in
set_option maxHeartbeats 4000000 in
theorem c_perform1_full (l : Launch) (D : va_G) (A : Nat → Nat) (C : Nat → ClassId) (sz : Nat) (n : Nat) (ops : Nat → Int32) (nums : Nat → Int64) (vc : Nat) (vals : Nat → Int64) (d : Nat) (st : Nat → Int64) (ce : Nat → Int64) (pk : Nat → Int64) (pv : Nat → Int64) (pr : Nat) (w : Nat) (key : Int64) (pl : Nat) (dn : Nat) (tk : Nat) (tr : Nat) (x : Int64) (hd : d ≤ 12) (hpl : pl ≤ 40) (hf : d = 12) : Met l yE_perform (.code yE_perform cE_perform 4 none :: WS) (rmk 3 71) (va_Pc [.ref (A 0), .int (nI 1), .long x] (zP D (eT C) sz (eW A C n ops nums vc vals d st ce pk pv pr w key pl dn tk 0))) (va_Qv (fun u : Nat × (Nat → Int64) × Nat => u.1 ≤ 12 ∧ u.2.2 ≤ 40) (fun (u : Nat × (Nat → Int64) × Nat) t => zB D (eT C) (va_A (eW A C n ops nums vc vals d st ce pk pv pr w key pl dn tk 0) sz) (eW A C n ops nums vc vals u.1 u.2.1 ce pk pv pr w key u.2.2 dn tk 1) t) (va_A (eW A C n ops nums vc vals d st ce pk pv pr w key pl dn tk 0) sz)) 0 0 (va_A (eW A C n ops nums vc vals d st ce pk pv pr w key pl dn tk 0) sz) := by
  refine zEnt (Qc := fun F => (va_Qv (fun u : Nat × (Nat → Int64) × Nat => u.1 ≤ 12 ∧ u.2.2 ≤ 40) (fun (u : Nat × (Nat → Int64) × Nat) t => zB D (eT C) F (eW A C n ops nums vc vals u.1 u.2.1 ce pk pv pr w key u.2.2 dn tk 1) t) F)) (by decide) (Nat.le_of_ble_eq_true rfl) (fun p e s m below meth c ls F hx hb hr hlk hml hnm hw hown hsz hP hK hD hA hl => ?_)
  have hS : va_S F s.heap s.heap [] := va_S.rf
  have hown : s.vm.findClass RE = some m.cls := hown
  have hl : lv_has ls 4 [(0, .ref (A 0)), (1, .int (nI 1)), (2, .long x)] := hl
  refine lv_iload_n hx hb dE_perform_0 rfl (lv_at hl 1 rfl) ?_
  refine lv_tableIn (off := 99) (tgt := 100) hx hb dE_perform_1 (by decide) (by decide) (by decide) rfl ?_
  refine lv_aload_n hx hb dE_perform_100 rfl (lv_at hl 0 rfl) ?_
  refine lv_aload_n hx hb dE_perform_101 rfl (lv_at hl 0 rfl) ?_
  refine zGetE hx hb hw hown hK hP 0 rfl 12 (by decide) wf_E_109 rfl dE_perform_102 ?_
  refine zAftv0 (zRunV0 ⟨hx, hb, hml, hown, hw⟩ (c_push l D A C _ n ops nums vc vals d st ce pk pv pr w key pl dn tk 0 key (by omega)) wm_E_119 wi_E_push ws_E_push wn_E wc_E_push ⟨rfl, rfl⟩ wd_E_push ⟨by decide, by decide⟩ hK hP hD 0 rfl rfl rfl hl.1 rfl (Nat.le_of_ble_eq_true rfl) dE_perform_105 ⟨by decide, by decide⟩) hP hD hS hA (fun u H locs hp hP hD hS => ?_)
  replace hP : va_P D vwCl (eW A C n ops nums vc vals (pD d) (pS key d st) ce pk pv pr w key pl dn tk (pT d 0)) H := hP
  replace hD : va_D F (eW A C n ops nums vc vals (pD d) (pS key d st) ce pk pv pr w key pl dn tk (pT d 0)) := hD
  refine lv_goto (tgt := 223) hx hb dE_perform_108 rfl ?_
  have e9 : (pT d 0) = 1 := by simp only [pT, qT, pD]; (repeat' split) <;> omega
  rw [e9] at hP hD
  exact zVret (w' := fun (u : Nat × (Nat → Int64) × Nat) => (eW A C n ops nums vc vals u.1 u.2.1 ce pk pv pr w key u.2.2 dn tk 1)) (pD d, pS key d st, pl) hx hb hr hlk hS hK ⟨by simp only [pD]; (repeat' split) <;> omega, by omega⟩ hP hD dE_perform_223

set_option maxRecDepth 20000 in
set_option maxHeartbeats 4000000 in
theorem c_perform2_none (l : Launch) (D : va_G) (A : Nat → Nat) (C : Nat → ClassId) (sz : Nat) (n : Nat) (ops : Nat → Int32) (nums : Nat → Int64) (vc : Nat) (vals : Nat → Int64) (d : Nat) (st : Nat → Int64) (ce : Nat → Int64) (pk : Nat → Int64) (pv : Nat → Int64) (pr : Nat) (w : Nat) (key : Int64) (pl : Nat) (dn : Nat) (tk : Nat) (tr : Nat) (x : Int64) (hd : d ≤ 12) (hpl : pl ≤ 40) (hvc : vc ≤ 40) (htk : vc ≤ tk) (htk2 : tk ≤ 40) : Met l yE_perform (.code yE_perform cE_perform 4 none :: WS) (rmk 3 71) (va_Pc [.ref (A 0), .int (nI 2), .long x] (zP D (eT C) sz (eW A C n ops nums vc vals d st ce pk pv pr w key pl dn tk 0))) (va_Qv (fun u : Nat × (Nat → Int64) × Nat => u.1 ≤ 12 ∧ u.2.2 ≤ 40) (fun (u : Nat × (Nat → Int64) × Nat) t => zB D (eT C) (va_A (eW A C n ops nums vc vals d st ce pk pv pr w key pl dn tk 0) sz) (eW A C n ops nums vc vals u.1 u.2.1 ce pk pv pr w key u.2.2 dn tk 1) t) (va_A (eW A C n ops nums vc vals d st ce pk pv pr w key pl dn tk 0) sz)) 0 0 (va_A (eW A C n ops nums vc vals d st ce pk pv pr w key pl dn tk 0) sz) := by
  refine zEnt (Qc := fun F => (va_Qv (fun u : Nat × (Nat → Int64) × Nat => u.1 ≤ 12 ∧ u.2.2 ≤ 40) (fun (u : Nat × (Nat → Int64) × Nat) t => zB D (eT C) F (eW A C n ops nums vc vals u.1 u.2.1 ce pk pv pr w key u.2.2 dn tk 1) t) F)) (by decide) (Nat.le_of_ble_eq_true rfl) (fun p e s m below meth c ls F hx hb hr hlk hml hnm hw hown hsz hP hK hD hA hl => ?_)
  have hS : va_S F s.heap s.heap [] := va_S.rf
  have hown : s.vm.findClass RE = some m.cls := hown
  have hl : lv_has ls 4 [(0, .ref (A 0)), (1, .int (nI 2)), (2, .long x)] := hl
  refine lv_iload_n hx hb dE_perform_0 rfl (lv_at hl 1 rfl) ?_
  refine lv_tableIn (off := 110) (tgt := 111) hx hb dE_perform_1 (by decide) (by decide) (by decide) rfl ?_
  refine lv_aload_n hx hb dE_perform_111 rfl (lv_at hl 0 rfl) ?_
  refine zAftv0 (zRunV0 ⟨hx, hb, hml, hown, hw⟩ (c_pushValue_none l D A C _ n ops nums vc vals d st ce pk pv pr w key pl dn tk 0 hd hpl hvc htk htk2) wm_E_123 wi_E_pushValue ws_E_pushValue wn_E wc_E_pushValue ⟨rfl, rfl⟩ wd_E_pushValue ⟨by decide, by decide⟩ hK hP hD 0 rfl rfl rfl hl.1 rfl (Nat.le_of_ble_eq_true rfl) dE_perform_112 ⟨by decide, by decide⟩) hP hD hS hA (fun u H locs hp hP hD hS => ?_)
  replace hP : va_P D vwCl (eW A C n ops nums vc vals u.1 u.2.1 ce pk pv pr w key u.2.2 dn tk 1) H := hP
  replace hD : va_D F (eW A C n ops nums vc vals u.1 u.2.1 ce pk pv pr w key u.2.2 dn tk 1) := hD
  obtain ⟨hu1, hu2⟩ := hp
  refine lv_goto (tgt := 223) hx hb dE_perform_115 rfl ?_
  exact zVret (w' := fun (u : Nat × (Nat → Int64) × Nat) => (eW A C n ops nums vc vals u.1 u.2.1 ce pk pv pr w key u.2.2 dn tk 1)) (u.1, u.2.1, u.2.2) hx hb hr hlk hS hK ⟨by omega, by omega⟩ hP hD dE_perform_223

set_option maxRecDepth 20000 in
set_option maxHeartbeats 4000000 in
theorem c_perform2_full (l : Launch) (D : va_G) (A : Nat → Nat) (C : Nat → ClassId) (sz : Nat) (n : Nat) (ops : Nat → Int32) (nums : Nat → Int64) (vc : Nat) (vals : Nat → Int64) (d : Nat) (st : Nat → Int64) (ce : Nat → Int64) (pk : Nat → Int64) (pv : Nat → Int64) (pr : Nat) (w : Nat) (key : Int64) (pl : Nat) (dn : Nat) (tk : Nat) (tr : Nat) (x : Int64) (hd : d ≤ 12) (hpl : pl ≤ 40) (hvc : vc ≤ 40) (htk : tk < vc) (hf : d = 12) : Met l yE_perform (.code yE_perform cE_perform 4 none :: WS) (rmk 3 71) (va_Pc [.ref (A 0), .int (nI 2), .long x] (zP D (eT C) sz (eW A C n ops nums vc vals d st ce pk pv pr w key pl dn tk 0))) (va_Qv (fun u : Nat × (Nat → Int64) × Nat => u.1 ≤ 12 ∧ u.2.2 ≤ 40) (fun (u : Nat × (Nat → Int64) × Nat) t => zB D (eT C) (va_A (eW A C n ops nums vc vals d st ce pk pv pr w key pl dn tk 0) sz) (eW A C n ops nums vc vals u.1 u.2.1 ce pk pv pr w key u.2.2 dn tk 1) t) (va_A (eW A C n ops nums vc vals d st ce pk pv pr w key pl dn tk 0) sz)) 0 0 (va_A (eW A C n ops nums vc vals d st ce pk pv pr w key pl dn tk 0) sz) := by
  refine zEnt (Qc := fun F => (va_Qv (fun u : Nat × (Nat → Int64) × Nat => u.1 ≤ 12 ∧ u.2.2 ≤ 40) (fun (u : Nat × (Nat → Int64) × Nat) t => zB D (eT C) F (eW A C n ops nums vc vals u.1 u.2.1 ce pk pv pr w key u.2.2 dn tk 1) t) F)) (by decide) (Nat.le_of_ble_eq_true rfl) (fun p e s m below meth c ls F hx hb hr hlk hml hnm hw hown hsz hP hK hD hA hl => ?_)
  have hS : va_S F s.heap s.heap [] := va_S.rf
  have hown : s.vm.findClass RE = some m.cls := hown
  have hl : lv_has ls 4 [(0, .ref (A 0)), (1, .int (nI 2)), (2, .long x)] := hl
  refine lv_iload_n hx hb dE_perform_0 rfl (lv_at hl 1 rfl) ?_
  refine lv_tableIn (off := 110) (tgt := 111) hx hb dE_perform_1 (by decide) (by decide) (by decide) rfl ?_
  refine lv_aload_n hx hb dE_perform_111 rfl (lv_at hl 0 rfl) ?_
  refine zAftv0 (zRunV0 ⟨hx, hb, hml, hown, hw⟩ (c_pushValue_full l D A C _ n ops nums vc vals d st ce pk pv pr w key pl dn tk 0 hd hpl hvc htk hf) wm_E_123 wi_E_pushValue ws_E_pushValue wn_E wc_E_pushValue ⟨rfl, rfl⟩ wd_E_pushValue ⟨by decide, by decide⟩ hK hP hD 0 rfl rfl rfl hl.1 rfl (Nat.le_of_ble_eq_true rfl) dE_perform_112 ⟨by decide, by decide⟩) hP hD hS hA (fun u H locs hp hP hD hS => ?_)
  replace hP : va_P D vwCl (eW A C n ops nums vc vals u.1 u.2.1 ce pk pv pr w key u.2.2 dn tk 1) H := hP
  replace hD : va_D F (eW A C n ops nums vc vals u.1 u.2.1 ce pk pv pr w key u.2.2 dn tk 1) := hD
  obtain ⟨hu1, hu2⟩ := hp
  refine lv_goto (tgt := 223) hx hb dE_perform_115 rfl ?_
  exact zVret (w' := fun (u : Nat × (Nat → Int64) × Nat) => (eW A C n ops nums vc vals u.1 u.2.1 ce pk pv pr w key u.2.2 dn tk 1)) (u.1, u.2.1, u.2.2) hx hb hr hlk hS hK ⟨by omega, by omega⟩ hP hD dE_perform_223

set_option maxRecDepth 20000 in
set_option maxHeartbeats 4000000 in
theorem c_perform3_full (l : Launch) (D : va_G) (A : Nat → Nat) (C : Nat → ClassId) (sz : Nat) (n : Nat) (ops : Nat → Int32) (nums : Nat → Int64) (vc : Nat) (vals : Nat → Int64) (d : Nat) (st : Nat → Int64) (ce : Nat → Int64) (pk : Nat → Int64) (pv : Nat → Int64) (pr : Nat) (w : Nat) (key : Int64) (pl : Nat) (dn : Nat) (tk : Nat) (tr : Nat) (x : Int64) (hd : d ≤ 12) (hpl : pl ≤ 40) (hf : d = 12) (hw2 : w ≤ 2) (hvc : vc ≤ 40) (htk : tk ≤ 40) : Met l yE_perform (.code yE_perform cE_perform 4 none :: WS) (rmk 3 71) (va_Pc [.ref (A 0), .int (nI 3), .long x] (zP D (eT C) sz (eW A C n ops nums vc vals d st ce pk pv pr w key pl dn tk 0))) (va_Qv (fun u : Nat × (Nat → Int64) × Nat => u.1 ≤ 12 ∧ u.2.2 ≤ 40) (fun (u : Nat × (Nat → Int64) × Nat) t => zB D (eT C) (va_A (eW A C n ops nums vc vals d st ce pk pv pr w key pl dn tk 0) sz) (eW A C n ops nums vc vals u.1 u.2.1 ce pk pv pr w key u.2.2 dn tk 1) t) (va_A (eW A C n ops nums vc vals d st ce pk pv pr w key pl dn tk 0) sz)) 0 0 (va_A (eW A C n ops nums vc vals d st ce pk pv pr w key pl dn tk 0) sz) := by
  refine zEnt (Qc := fun F => (va_Qv (fun u : Nat × (Nat → Int64) × Nat => u.1 ≤ 12 ∧ u.2.2 ≤ 40) (fun (u : Nat × (Nat → Int64) × Nat) t => zB D (eT C) F (eW A C n ops nums vc vals u.1 u.2.1 ce pk pv pr w key u.2.2 dn tk 1) t) F)) (by decide) (Nat.le_of_ble_eq_true rfl) (fun p e s m below meth c ls F hx hb hr hlk hml hnm hw hown hsz hP hK hD hA hl => ?_)
  have hS : va_S F s.heap s.heap [] := va_S.rf
  have hown : s.vm.findClass RE = some m.cls := hown
  have hl : lv_has ls 4 [(0, .ref (A 0)), (1, .int (nI 3)), (2, .long x)] := hl
  refine lv_iload_n hx hb dE_perform_0 rfl (lv_at hl 1 rfl) ?_
  refine lv_tableIn (off := 117) (tgt := 118) hx hb dE_perform_1 (by decide) (by decide) (by decide) rfl ?_
  refine lv_aload_n hx hb dE_perform_118 rfl (lv_at hl 0 rfl) ?_
  refine lv_aload_n hx hb dE_perform_119 rfl (lv_at hl 0 rfl) ?_
  refine zAfti0 (zRunV0 ⟨hx, hb, hml, hown, hw⟩ (c_hasNext l D A C _ n ops nums vc vals d st ce pk pv pr w key pl dn tk 0 hw2 hvc htk) wm_E_126 wi_E_hasNext ws_E_hasNext wn_E wc_E_hasNext ⟨rfl, rfl⟩ wd_E_hasNext ⟨by decide, by decide⟩ hK hP hD 0 rfl rfl rfl hl.1 rfl (Nat.le_of_ble_eq_true rfl) dE_perform_120 ⟨by decide, by decide⟩) hP hD hS hA (fun r u H locs hp hP hD hS => ?_)
  replace hP : va_P D vwCl (eW A C n ops nums vc vals d st ce pk pv pr w key pl dn tk 0) H := hP
  replace hD : va_D F (eW A C n ops nums vc vals d st ce pk pv pr w key pl dn tk 0) := hD
  subst hp
  refine zi_eq (tgt := 130) hx hb dE_perform_123 rfl (by simp only [pT, qT, pD, hN]; (repeat' split) <;> omega) (fun h123 => ?_) (fun h123 => ?_)
  · refine lv_lconst (v := 0) hx hb dE_perform_130 (by decide) ?_
    refine zAftv0 (zRunV0 ⟨hx, hb, hml, hown, hw⟩ (c_push l D A C _ n ops nums vc vals d st ce pk pv pr w key pl dn tk 0 (0 : Int64) (by omega)) wm_E_119 wi_E_push ws_E_push wn_E wc_E_push ⟨rfl, rfl⟩ wd_E_push ⟨by decide, by decide⟩ hK hP hD 0 rfl rfl rfl hl.1 rfl (Nat.le_of_ble_eq_true rfl) dE_perform_131 ⟨by decide, by decide⟩) hP hD hS hA (fun u H locs hp hP hD hS => ?_)
    replace hP : va_P D vwCl (eW A C n ops nums vc vals (pD d) (pS (0 : Int64) d st) ce pk pv pr w key pl dn tk (pT d 0)) H := hP
    replace hD : va_D F (eW A C n ops nums vc vals (pD d) (pS (0 : Int64) d st) ce pk pv pr w key pl dn tk (pT d 0)) := hD
    refine lv_goto (tgt := 223) hx hb dE_perform_134 rfl ?_
    have e9 : (pT d 0) = 1 := by simp only [pT, qT, pD]; (repeat' split) <;> omega
    rw [e9] at hP hD
    exact zVret (w' := fun (u : Nat × (Nat → Int64) × Nat) => (eW A C n ops nums vc vals u.1 u.2.1 ce pk pv pr w key u.2.2 dn tk 1)) (pD d, pS (0 : Int64) d st, pl) hx hb hr hlk hS hK ⟨by simp only [pD]; (repeat' split) <;> omega, by omega⟩ hP hD dE_perform_223
  · refine lv_lconst (v := 1) hx hb dE_perform_126 (by decide) ?_
    refine lv_goto (tgt := 131) hx hb dE_perform_127 rfl ?_
    refine zAftv0 (zRunV0 ⟨hx, hb, hml, hown, hw⟩ (c_push l D A C _ n ops nums vc vals d st ce pk pv pr w key pl dn tk 0 (1 : Int64) (by omega)) wm_E_119 wi_E_push ws_E_push wn_E wc_E_push ⟨rfl, rfl⟩ wd_E_push ⟨by decide, by decide⟩ hK hP hD 0 rfl rfl rfl hl.1 rfl (Nat.le_of_ble_eq_true rfl) dE_perform_131 ⟨by decide, by decide⟩) hP hD hS hA (fun u H locs hp hP hD hS => ?_)
    replace hP : va_P D vwCl (eW A C n ops nums vc vals (pD d) (pS (1 : Int64) d st) ce pk pv pr w key pl dn tk (pT d 0)) H := hP
    replace hD : va_D F (eW A C n ops nums vc vals (pD d) (pS (1 : Int64) d st) ce pk pv pr w key pl dn tk (pT d 0)) := hD
    refine lv_goto (tgt := 223) hx hb dE_perform_134 rfl ?_
    have e9 : (pT d 0) = 1 := by simp only [pT, qT, pD]; (repeat' split) <;> omega
    rw [e9] at hP hD
    exact zVret (w' := fun (u : Nat × (Nat → Int64) × Nat) => (eW A C n ops nums vc vals u.1 u.2.1 ce pk pv pr w key u.2.2 dn tk 1)) (pD d, pS (1 : Int64) d st, pl) hx hb hr hlk hS hK ⟨by simp only [pD]; (repeat' split) <;> omega, by omega⟩ hP hD dE_perform_223

set_option maxRecDepth 20000 in
set_option maxHeartbeats 4000000 in
theorem c_perform4_full (l : Launch) (D : va_G) (A : Nat → Nat) (C : Nat → ClassId) (sz : Nat) (n : Nat) (ops : Nat → Int32) (nums : Nat → Int64) (vc : Nat) (vals : Nat → Int64) (d : Nat) (st : Nat → Int64) (ce : Nat → Int64) (pk : Nat → Int64) (pv : Nat → Int64) (pr : Nat) (w : Nat) (key : Int64) (pl : Nat) (dn : Nat) (tk : Nat) (tr : Nat) (j : Nat) (hd : d ≤ 12) (hpl : pl ≤ 40) (hf : d = 12) (hj : j < 4) : Met l yE_perform (.code yE_perform cE_perform 4 none :: WS) (rmk 3 71) (va_Pc [.ref (A 0), .int (nI 4), .long (lN j)] (zP D (eT C) sz (eW A C n ops nums vc vals d st ce pk pv pr w key pl dn tk 0))) (va_Qv (fun u : Nat × (Nat → Int64) × Nat => u.1 ≤ 12 ∧ u.2.2 ≤ 40) (fun (u : Nat × (Nat → Int64) × Nat) t => zB D (eT C) (va_A (eW A C n ops nums vc vals d st ce pk pv pr w key pl dn tk 0) sz) (eW A C n ops nums vc vals u.1 u.2.1 ce pk pv pr w key u.2.2 dn tk 1) t) (va_A (eW A C n ops nums vc vals d st ce pk pv pr w key pl dn tk 0) sz)) 0 0 (va_A (eW A C n ops nums vc vals d st ce pk pv pr w key pl dn tk 0) sz) := by
  refine zEnt (Qc := fun F => (va_Qv (fun u : Nat × (Nat → Int64) × Nat => u.1 ≤ 12 ∧ u.2.2 ≤ 40) (fun (u : Nat × (Nat → Int64) × Nat) t => zB D (eT C) F (eW A C n ops nums vc vals u.1 u.2.1 ce pk pv pr w key u.2.2 dn tk 1) t) F)) (by decide) (Nat.le_of_ble_eq_true rfl) (fun p e s m below meth c ls F hx hb hr hlk hml hnm hw hown hsz hP hK hD hA hl => ?_)
  have hS : va_S F s.heap s.heap [] := va_S.rf
  have hown : s.vm.findClass RE = some m.cls := hown
  have hl : lv_has ls 4 [(0, .ref (A 0)), (1, .int (nI 4)), (2, .long (lN j))] := hl
  refine lv_iload_n hx hb dE_perform_0 rfl (lv_at hl 1 rfl) ?_
  refine lv_tableIn (off := 136) (tgt := 137) hx hb dE_perform_1 (by decide) (by decide) (by decide) rfl ?_
  refine lv_aload_n hx hb dE_perform_137 rfl (lv_at hl 0 rfl) ?_
  refine lv_aload_n hx hb dE_perform_138 rfl (lv_at hl 0 rfl) ?_
  refine zGetE hx hb hw hown hK hP 0 rfl 7 (by decide) wf_E_23 rfl dE_perform_139 ?_
  refine lv_lload_n hx hb dE_perform_142 rfl (lv_at hl 2 rfl) ?_
  refine lv_l2i hx hb dE_perform_143 (lN_i _) ?_
  refine zLald hx hb hK hP 5 4 rfl rfl (by omega) (by decide) dE_perform_144 ?_
  refine zAftv0 (zRunV0 ⟨hx, hb, hml, hown, hw⟩ (c_push l D A C _ n ops nums vc vals d st ce pk pv pr w key pl dn tk 0 (ce j) (by omega)) wm_E_119 wi_E_push ws_E_push wn_E wc_E_push ⟨rfl, rfl⟩ wd_E_push ⟨by decide, by decide⟩ hK hP hD 0 rfl rfl rfl hl.1 rfl (Nat.le_of_ble_eq_true rfl) dE_perform_145 ⟨by decide, by decide⟩) hP hD hS hA (fun u H locs hp hP hD hS => ?_)
  replace hP : va_P D vwCl (eW A C n ops nums vc vals (pD d) (pS (ce j) d st) ce pk pv pr w key pl dn tk (pT d 0)) H := hP
  replace hD : va_D F (eW A C n ops nums vc vals (pD d) (pS (ce j) d st) ce pk pv pr w key pl dn tk (pT d 0)) := hD
  refine lv_goto (tgt := 223) hx hb dE_perform_148 rfl ?_
  have e9 : (pT d 0) = 1 := by simp only [pT, qT, pD]; (repeat' split) <;> omega
  rw [e9] at hP hD
  exact zVret (w' := fun (u : Nat × (Nat → Int64) × Nat) => (eW A C n ops nums vc vals u.1 u.2.1 ce pk pv pr w key u.2.2 dn tk 1)) (pD d, pS (ce j) d st, pl) hx hb hr hlk hS hK ⟨by simp only [pD]; (repeat' split) <;> omega, by omega⟩ hP hD dE_perform_223

set_option maxRecDepth 20000 in
set_option maxHeartbeats 4000000 in
theorem c_perform5_low (l : Launch) (D : va_G) (A : Nat → Nat) (C : Nat → ClassId) (sz : Nat) (n : Nat) (ops : Nat → Int32) (nums : Nat → Int64) (vc : Nat) (vals : Nat → Int64) (d : Nat) (st : Nat → Int64) (ce : Nat → Int64) (pk : Nat → Int64) (pv : Nat → Int64) (pr : Nat) (w : Nat) (key : Int64) (pl : Nat) (dn : Nat) (tk : Nat) (tr : Nat) (j : Nat) (hd : d ≤ 12) (hpl : pl ≤ 40) (hj : j < 4) (h0 : d = 0) : Met l yE_perform (.code yE_perform cE_perform 4 none :: WS) (rmk 3 71) (va_Pc [.ref (A 0), .int (nI 5), .long (lN j)] (zP D (eT C) sz (eW A C n ops nums vc vals d st ce pk pv pr w key pl dn tk 0))) (va_Qv (fun u : Nat × (Nat → Int64) × Nat => u.1 ≤ 12 ∧ u.2.2 ≤ 40) (fun (u : Nat × (Nat → Int64) × Nat) t => zB D (eT C) (va_A (eW A C n ops nums vc vals d st ce pk pv pr w key pl dn tk 0) sz) (eW A C n ops nums vc vals u.1 u.2.1 ce pk pv pr w key u.2.2 dn tk 1) t) (va_A (eW A C n ops nums vc vals d st ce pk pv pr w key pl dn tk 0) sz)) 0 0 (va_A (eW A C n ops nums vc vals d st ce pk pv pr w key pl dn tk 0) sz) := by
  refine zEnt (Qc := fun F => (va_Qv (fun u : Nat × (Nat → Int64) × Nat => u.1 ≤ 12 ∧ u.2.2 ≤ 40) (fun (u : Nat × (Nat → Int64) × Nat) t => zB D (eT C) F (eW A C n ops nums vc vals u.1 u.2.1 ce pk pv pr w key u.2.2 dn tk 1) t) F)) (by decide) (Nat.le_of_ble_eq_true rfl) (fun p e s m below meth c ls F hx hb hr hlk hml hnm hw hown hsz hP hK hD hA hl => ?_)
  have hS : va_S F s.heap s.heap [] := va_S.rf
  have hown : s.vm.findClass RE = some m.cls := hown
  have hl : lv_has ls 4 [(0, .ref (A 0)), (1, .int (nI 5)), (2, .long (lN j))] := hl
  refine lv_iload_n hx hb dE_perform_0 rfl (lv_at hl 1 rfl) ?_
  refine lv_tableIn (off := 150) (tgt := 151) hx hb dE_perform_1 (by decide) (by decide) (by decide) rfl ?_
  refine lv_aload_n hx hb dE_perform_151 rfl (lv_at hl 0 rfl) ?_
  refine lv_lload_n hx hb dE_perform_152 rfl (lv_at hl 2 rfl) ?_
  refine lv_l2i hx hb dE_perform_153 (lN_i _) ?_
  refine zAftv0 (zRunV0 ⟨hx, hb, hml, hown, hw⟩ (c_popCell_trap l D A C _ n ops nums vc vals d st ce pk pv pr w key pl dn tk 0 j hd hpl hj h0) wm_E_129 wi_E_popCell ws_E_popCell wn_E wc_E_popCell ⟨rfl, rfl⟩ wd_E_popCell ⟨by decide, by decide⟩ hK hP hD 0 rfl rfl rfl hl.1 rfl (Nat.le_of_ble_eq_true rfl) dE_perform_154 ⟨by decide, by decide⟩) hP hD hS hA (fun u H locs hp hP hD hS => ?_)
  replace hP : va_P D vwCl (eW A C n ops nums vc vals u.1 u.2.1 ce pk pv pr w key u.2.2 dn tk 1) H := hP
  replace hD : va_D F (eW A C n ops nums vc vals u.1 u.2.1 ce pk pv pr w key u.2.2 dn tk 1) := hD
  obtain ⟨hu1, hu2⟩ := hp
  refine lv_goto (tgt := 223) hx hb dE_perform_157 rfl ?_
  exact zVret (w' := fun (u : Nat × (Nat → Int64) × Nat) => (eW A C n ops nums vc vals u.1 u.2.1 ce pk pv pr w key u.2.2 dn tk 1)) (u.1, u.2.1, u.2.2) hx hb hr hlk hS hK ⟨by omega, by omega⟩ hP hD dE_perform_223

set_option maxRecDepth 20000 in
set_option maxHeartbeats 4000000 in
theorem c_perform6_low (l : Launch) (D : va_G) (A : Nat → Nat) (C : Nat → ClassId) (sz : Nat) (n : Nat) (ops : Nat → Int32) (nums : Nat → Int64) (vc : Nat) (vals : Nat → Int64) (d : Nat) (st : Nat → Int64) (ce : Nat → Int64) (pk : Nat → Int64) (pv : Nat → Int64) (pr : Nat) (w : Nat) (key : Int64) (pl : Nat) (dn : Nat) (tk : Nat) (tr : Nat) (x : Int64) (hd : d ≤ 12) (hpl : pl ≤ 40) (h0 : d < 2) : Met l yE_perform (.code yE_perform cE_perform 4 none :: WS) (rmk 3 71) (va_Pc [.ref (A 0), .int (nI 6), .long x] (zP D (eT C) sz (eW A C n ops nums vc vals d st ce pk pv pr w key pl dn tk 0))) (va_Qv (fun u : Nat × (Nat → Int64) × Nat => u.1 ≤ 12 ∧ u.2.2 ≤ 40) (fun (u : Nat × (Nat → Int64) × Nat) t => zB D (eT C) (va_A (eW A C n ops nums vc vals d st ce pk pv pr w key pl dn tk 0) sz) (eW A C n ops nums vc vals u.1 u.2.1 ce pk pv pr w key u.2.2 dn tk 1) t) (va_A (eW A C n ops nums vc vals d st ce pk pv pr w key pl dn tk 0) sz)) 0 0 (va_A (eW A C n ops nums vc vals d st ce pk pv pr w key pl dn tk 0) sz) := by
  refine zEnt (Qc := fun F => (va_Qv (fun u : Nat × (Nat → Int64) × Nat => u.1 ≤ 12 ∧ u.2.2 ≤ 40) (fun (u : Nat × (Nat → Int64) × Nat) t => zB D (eT C) F (eW A C n ops nums vc vals u.1 u.2.1 ce pk pv pr w key u.2.2 dn tk 1) t) F)) (by decide) (Nat.le_of_ble_eq_true rfl) (fun p e s m below meth c ls F hx hb hr hlk hml hnm hw hown hsz hP hK hD hA hl => ?_)
  have hS : va_S F s.heap s.heap [] := va_S.rf
  have hown : s.vm.findClass RE = some m.cls := hown
  have hl : lv_has ls 4 [(0, .ref (A 0)), (1, .int (nI 6)), (2, .long x)] := hl
  refine lv_iload_n hx hb dE_perform_0 rfl (lv_at hl 1 rfl) ?_
  refine lv_tableIn (off := 217) (tgt := 218) hx hb dE_perform_1 (by decide) (by decide) (by decide) rfl ?_
  refine lv_aload_n hx hb dE_perform_218 rfl (lv_at hl 0 rfl) ?_
  refine lv_iload_n hx hb dE_perform_219 rfl (lv_at hl 1 rfl) ?_
  refine zAftv0 (zRunV0 ⟨hx, hb, hml, hown, hw⟩ (c_combine6_low l D A C _ n ops nums vc vals d st ce pk pv pr w key pl dn tk 0 hd hpl h0) wm_E_149 wi_E_combine ws_E_combine wn_E wc_E_combine ⟨rfl, rfl⟩ wd_E_combine ⟨by decide, by decide⟩ hK hP hD 0 rfl rfl rfl hl.1 rfl (Nat.le_of_ble_eq_true rfl) dE_perform_220 ⟨by decide, by decide⟩) hP hD hS hA (fun u H locs hp hP hD hS => ?_)
  replace hP : va_P D vwCl (eW A C n ops nums vc vals u.1 u.2.1 ce pk pv pr w key u.2.2 dn tk 1) H := hP
  replace hD : va_D F (eW A C n ops nums vc vals u.1 u.2.1 ce pk pv pr w key u.2.2 dn tk 1) := hD
  obtain ⟨hu1, hu2⟩ := hp
  exact zVret (w' := fun (u : Nat × (Nat → Int64) × Nat) => (eW A C n ops nums vc vals u.1 u.2.1 ce pk pv pr w key u.2.2 dn tk 1)) (u.1, u.2.1, u.2.2) hx hb hr hlk hS hK ⟨by omega, by omega⟩ hP hD dE_perform_223

set_option maxRecDepth 20000 in
set_option maxHeartbeats 4000000 in
theorem c_perform7_low (l : Launch) (D : va_G) (A : Nat → Nat) (C : Nat → ClassId) (sz : Nat) (n : Nat) (ops : Nat → Int32) (nums : Nat → Int64) (vc : Nat) (vals : Nat → Int64) (d : Nat) (st : Nat → Int64) (ce : Nat → Int64) (pk : Nat → Int64) (pv : Nat → Int64) (pr : Nat) (w : Nat) (key : Int64) (pl : Nat) (dn : Nat) (tk : Nat) (tr : Nat) (x : Int64) (hd : d ≤ 12) (hpl : pl ≤ 40) (h0 : d < 2) : Met l yE_perform (.code yE_perform cE_perform 4 none :: WS) (rmk 3 71) (va_Pc [.ref (A 0), .int (nI 7), .long x] (zP D (eT C) sz (eW A C n ops nums vc vals d st ce pk pv pr w key pl dn tk 0))) (va_Qv (fun u : Nat × (Nat → Int64) × Nat => u.1 ≤ 12 ∧ u.2.2 ≤ 40) (fun (u : Nat × (Nat → Int64) × Nat) t => zB D (eT C) (va_A (eW A C n ops nums vc vals d st ce pk pv pr w key pl dn tk 0) sz) (eW A C n ops nums vc vals u.1 u.2.1 ce pk pv pr w key u.2.2 dn tk 1) t) (va_A (eW A C n ops nums vc vals d st ce pk pv pr w key pl dn tk 0) sz)) 0 0 (va_A (eW A C n ops nums vc vals d st ce pk pv pr w key pl dn tk 0) sz) := by
  refine zEnt (Qc := fun F => (va_Qv (fun u : Nat × (Nat → Int64) × Nat => u.1 ≤ 12 ∧ u.2.2 ≤ 40) (fun (u : Nat × (Nat → Int64) × Nat) t => zB D (eT C) F (eW A C n ops nums vc vals u.1 u.2.1 ce pk pv pr w key u.2.2 dn tk 1) t) F)) (by decide) (Nat.le_of_ble_eq_true rfl) (fun p e s m below meth c ls F hx hb hr hlk hml hnm hw hown hsz hP hK hD hA hl => ?_)
  have hS : va_S F s.heap s.heap [] := va_S.rf
  have hown : s.vm.findClass RE = some m.cls := hown
  have hl : lv_has ls 4 [(0, .ref (A 0)), (1, .int (nI 7)), (2, .long x)] := hl
  refine lv_iload_n hx hb dE_perform_0 rfl (lv_at hl 1 rfl) ?_
  refine lv_tableIn (off := 217) (tgt := 218) hx hb dE_perform_1 (by decide) (by decide) (by decide) rfl ?_
  refine lv_aload_n hx hb dE_perform_218 rfl (lv_at hl 0 rfl) ?_
  refine lv_iload_n hx hb dE_perform_219 rfl (lv_at hl 1 rfl) ?_
  refine zAftv0 (zRunV0 ⟨hx, hb, hml, hown, hw⟩ (c_combine7_low l D A C _ n ops nums vc vals d st ce pk pv pr w key pl dn tk 0 hd hpl h0) wm_E_149 wi_E_combine ws_E_combine wn_E wc_E_combine ⟨rfl, rfl⟩ wd_E_combine ⟨by decide, by decide⟩ hK hP hD 0 rfl rfl rfl hl.1 rfl (Nat.le_of_ble_eq_true rfl) dE_perform_220 ⟨by decide, by decide⟩) hP hD hS hA (fun u H locs hp hP hD hS => ?_)
  replace hP : va_P D vwCl (eW A C n ops nums vc vals u.1 u.2.1 ce pk pv pr w key u.2.2 dn tk 1) H := hP
  replace hD : va_D F (eW A C n ops nums vc vals u.1 u.2.1 ce pk pv pr w key u.2.2 dn tk 1) := hD
  obtain ⟨hu1, hu2⟩ := hp
  exact zVret (w' := fun (u : Nat × (Nat → Int64) × Nat) => (eW A C n ops nums vc vals u.1 u.2.1 ce pk pv pr w key u.2.2 dn tk 1)) (u.1, u.2.1, u.2.2) hx hb hr hlk hS hK ⟨by omega, by omega⟩ hP hD dE_perform_223

set_option maxRecDepth 20000 in
set_option maxHeartbeats 4000000 in
theorem c_perform8_low (l : Launch) (D : va_G) (A : Nat → Nat) (C : Nat → ClassId) (sz : Nat) (n : Nat) (ops : Nat → Int32) (nums : Nat → Int64) (vc : Nat) (vals : Nat → Int64) (d : Nat) (st : Nat → Int64) (ce : Nat → Int64) (pk : Nat → Int64) (pv : Nat → Int64) (pr : Nat) (w : Nat) (key : Int64) (pl : Nat) (dn : Nat) (tk : Nat) (tr : Nat) (x : Int64) (hd : d ≤ 12) (hpl : pl ≤ 40) (h0 : d < 2) : Met l yE_perform (.code yE_perform cE_perform 4 none :: WS) (rmk 3 71) (va_Pc [.ref (A 0), .int (nI 8), .long x] (zP D (eT C) sz (eW A C n ops nums vc vals d st ce pk pv pr w key pl dn tk 0))) (va_Qv (fun u : Nat × (Nat → Int64) × Nat => u.1 ≤ 12 ∧ u.2.2 ≤ 40) (fun (u : Nat × (Nat → Int64) × Nat) t => zB D (eT C) (va_A (eW A C n ops nums vc vals d st ce pk pv pr w key pl dn tk 0) sz) (eW A C n ops nums vc vals u.1 u.2.1 ce pk pv pr w key u.2.2 dn tk 1) t) (va_A (eW A C n ops nums vc vals d st ce pk pv pr w key pl dn tk 0) sz)) 0 0 (va_A (eW A C n ops nums vc vals d st ce pk pv pr w key pl dn tk 0) sz) := by
  refine zEnt (Qc := fun F => (va_Qv (fun u : Nat × (Nat → Int64) × Nat => u.1 ≤ 12 ∧ u.2.2 ≤ 40) (fun (u : Nat × (Nat → Int64) × Nat) t => zB D (eT C) F (eW A C n ops nums vc vals u.1 u.2.1 ce pk pv pr w key u.2.2 dn tk 1) t) F)) (by decide) (Nat.le_of_ble_eq_true rfl) (fun p e s m below meth c ls F hx hb hr hlk hml hnm hw hown hsz hP hK hD hA hl => ?_)
  have hS : va_S F s.heap s.heap [] := va_S.rf
  have hown : s.vm.findClass RE = some m.cls := hown
  have hl : lv_has ls 4 [(0, .ref (A 0)), (1, .int (nI 8)), (2, .long x)] := hl
  refine lv_iload_n hx hb dE_perform_0 rfl (lv_at hl 1 rfl) ?_
  refine lv_tableIn (off := 217) (tgt := 218) hx hb dE_perform_1 (by decide) (by decide) (by decide) rfl ?_
  refine lv_aload_n hx hb dE_perform_218 rfl (lv_at hl 0 rfl) ?_
  refine lv_iload_n hx hb dE_perform_219 rfl (lv_at hl 1 rfl) ?_
  refine zAftv0 (zRunV0 ⟨hx, hb, hml, hown, hw⟩ (c_combine8_low l D A C _ n ops nums vc vals d st ce pk pv pr w key pl dn tk 0 hd hpl h0) wm_E_149 wi_E_combine ws_E_combine wn_E wc_E_combine ⟨rfl, rfl⟩ wd_E_combine ⟨by decide, by decide⟩ hK hP hD 0 rfl rfl rfl hl.1 rfl (Nat.le_of_ble_eq_true rfl) dE_perform_220 ⟨by decide, by decide⟩) hP hD hS hA (fun u H locs hp hP hD hS => ?_)
  replace hP : va_P D vwCl (eW A C n ops nums vc vals u.1 u.2.1 ce pk pv pr w key u.2.2 dn tk 1) H := hP
  replace hD : va_D F (eW A C n ops nums vc vals u.1 u.2.1 ce pk pv pr w key u.2.2 dn tk 1) := hD
  obtain ⟨hu1, hu2⟩ := hp
  exact zVret (w' := fun (u : Nat × (Nat → Int64) × Nat) => (eW A C n ops nums vc vals u.1 u.2.1 ce pk pv pr w key u.2.2 dn tk 1)) (u.1, u.2.1, u.2.2) hx hb hr hlk hS hK ⟨by omega, by omega⟩ hP hD dE_perform_223

set_option maxRecDepth 20000 in
set_option maxHeartbeats 4000000 in
theorem c_perform9_low (l : Launch) (D : va_G) (A : Nat → Nat) (C : Nat → ClassId) (sz : Nat) (n : Nat) (ops : Nat → Int32) (nums : Nat → Int64) (vc : Nat) (vals : Nat → Int64) (d : Nat) (st : Nat → Int64) (ce : Nat → Int64) (pk : Nat → Int64) (pv : Nat → Int64) (pr : Nat) (w : Nat) (key : Int64) (pl : Nat) (dn : Nat) (tk : Nat) (tr : Nat) (x : Int64) (hd : d ≤ 12) (hpl : pl ≤ 40) (h0 : d < 2) : Met l yE_perform (.code yE_perform cE_perform 4 none :: WS) (rmk 3 71) (va_Pc [.ref (A 0), .int (nI 9), .long x] (zP D (eT C) sz (eW A C n ops nums vc vals d st ce pk pv pr w key pl dn tk 0))) (va_Qv (fun u : Nat × (Nat → Int64) × Nat => u.1 ≤ 12 ∧ u.2.2 ≤ 40) (fun (u : Nat × (Nat → Int64) × Nat) t => zB D (eT C) (va_A (eW A C n ops nums vc vals d st ce pk pv pr w key pl dn tk 0) sz) (eW A C n ops nums vc vals u.1 u.2.1 ce pk pv pr w key u.2.2 dn tk 1) t) (va_A (eW A C n ops nums vc vals d st ce pk pv pr w key pl dn tk 0) sz)) 0 0 (va_A (eW A C n ops nums vc vals d st ce pk pv pr w key pl dn tk 0) sz) := by
  refine zEnt (Qc := fun F => (va_Qv (fun u : Nat × (Nat → Int64) × Nat => u.1 ≤ 12 ∧ u.2.2 ≤ 40) (fun (u : Nat × (Nat → Int64) × Nat) t => zB D (eT C) F (eW A C n ops nums vc vals u.1 u.2.1 ce pk pv pr w key u.2.2 dn tk 1) t) F)) (by decide) (Nat.le_of_ble_eq_true rfl) (fun p e s m below meth c ls F hx hb hr hlk hml hnm hw hown hsz hP hK hD hA hl => ?_)
  have hS : va_S F s.heap s.heap [] := va_S.rf
  have hown : s.vm.findClass RE = some m.cls := hown
  have hl : lv_has ls 4 [(0, .ref (A 0)), (1, .int (nI 9)), (2, .long x)] := hl
  refine lv_iload_n hx hb dE_perform_0 rfl (lv_at hl 1 rfl) ?_
  refine lv_tableIn (off := 217) (tgt := 218) hx hb dE_perform_1 (by decide) (by decide) (by decide) rfl ?_
  refine lv_aload_n hx hb dE_perform_218 rfl (lv_at hl 0 rfl) ?_
  refine lv_iload_n hx hb dE_perform_219 rfl (lv_at hl 1 rfl) ?_
  refine zAftv0 (zRunV0 ⟨hx, hb, hml, hown, hw⟩ (c_combine9_low l D A C _ n ops nums vc vals d st ce pk pv pr w key pl dn tk 0 hd hpl h0) wm_E_149 wi_E_combine ws_E_combine wn_E wc_E_combine ⟨rfl, rfl⟩ wd_E_combine ⟨by decide, by decide⟩ hK hP hD 0 rfl rfl rfl hl.1 rfl (Nat.le_of_ble_eq_true rfl) dE_perform_220 ⟨by decide, by decide⟩) hP hD hS hA (fun u H locs hp hP hD hS => ?_)
  replace hP : va_P D vwCl (eW A C n ops nums vc vals u.1 u.2.1 ce pk pv pr w key u.2.2 dn tk 1) H := hP
  replace hD : va_D F (eW A C n ops nums vc vals u.1 u.2.1 ce pk pv pr w key u.2.2 dn tk 1) := hD
  obtain ⟨hu1, hu2⟩ := hp
  exact zVret (w' := fun (u : Nat × (Nat → Int64) × Nat) => (eW A C n ops nums vc vals u.1 u.2.1 ce pk pv pr w key u.2.2 dn tk 1)) (u.1, u.2.1, u.2.2) hx hb hr hlk hS hK ⟨by omega, by omega⟩ hP hD dE_perform_223

set_option maxRecDepth 20000 in
set_option maxHeartbeats 4000000 in
theorem c_perform10_low (l : Launch) (D : va_G) (A : Nat → Nat) (C : Nat → ClassId) (sz : Nat) (n : Nat) (ops : Nat → Int32) (nums : Nat → Int64) (vc : Nat) (vals : Nat → Int64) (d : Nat) (st : Nat → Int64) (ce : Nat → Int64) (pk : Nat → Int64) (pv : Nat → Int64) (pr : Nat) (w : Nat) (key : Int64) (pl : Nat) (dn : Nat) (tk : Nat) (tr : Nat) (x : Int64) (hd : d ≤ 12) (hpl : pl ≤ 40) (h0 : d < 2) : Met l yE_perform (.code yE_perform cE_perform 4 none :: WS) (rmk 3 71) (va_Pc [.ref (A 0), .int (nI 10), .long x] (zP D (eT C) sz (eW A C n ops nums vc vals d st ce pk pv pr w key pl dn tk 0))) (va_Qv (fun u : Nat × (Nat → Int64) × Nat => u.1 ≤ 12 ∧ u.2.2 ≤ 40) (fun (u : Nat × (Nat → Int64) × Nat) t => zB D (eT C) (va_A (eW A C n ops nums vc vals d st ce pk pv pr w key pl dn tk 0) sz) (eW A C n ops nums vc vals u.1 u.2.1 ce pk pv pr w key u.2.2 dn tk 1) t) (va_A (eW A C n ops nums vc vals d st ce pk pv pr w key pl dn tk 0) sz)) 0 0 (va_A (eW A C n ops nums vc vals d st ce pk pv pr w key pl dn tk 0) sz) := by
  refine zEnt (Qc := fun F => (va_Qv (fun u : Nat × (Nat → Int64) × Nat => u.1 ≤ 12 ∧ u.2.2 ≤ 40) (fun (u : Nat × (Nat → Int64) × Nat) t => zB D (eT C) F (eW A C n ops nums vc vals u.1 u.2.1 ce pk pv pr w key u.2.2 dn tk 1) t) F)) (by decide) (Nat.le_of_ble_eq_true rfl) (fun p e s m below meth c ls F hx hb hr hlk hml hnm hw hown hsz hP hK hD hA hl => ?_)
  have hS : va_S F s.heap s.heap [] := va_S.rf
  have hown : s.vm.findClass RE = some m.cls := hown
  have hl : lv_has ls 4 [(0, .ref (A 0)), (1, .int (nI 10)), (2, .long x)] := hl
  refine lv_iload_n hx hb dE_perform_0 rfl (lv_at hl 1 rfl) ?_
  refine lv_tableIn (off := 217) (tgt := 218) hx hb dE_perform_1 (by decide) (by decide) (by decide) rfl ?_
  refine lv_aload_n hx hb dE_perform_218 rfl (lv_at hl 0 rfl) ?_
  refine lv_iload_n hx hb dE_perform_219 rfl (lv_at hl 1 rfl) ?_
  refine zAftv0 (zRunV0 ⟨hx, hb, hml, hown, hw⟩ (c_combine10_low l D A C _ n ops nums vc vals d st ce pk pv pr w key pl dn tk 0 hd hpl h0) wm_E_149 wi_E_combine ws_E_combine wn_E wc_E_combine ⟨rfl, rfl⟩ wd_E_combine ⟨by decide, by decide⟩ hK hP hD 0 rfl rfl rfl hl.1 rfl (Nat.le_of_ble_eq_true rfl) dE_perform_220 ⟨by decide, by decide⟩) hP hD hS hA (fun u H locs hp hP hD hS => ?_)
  replace hP : va_P D vwCl (eW A C n ops nums vc vals u.1 u.2.1 ce pk pv pr w key u.2.2 dn tk 1) H := hP
  replace hD : va_D F (eW A C n ops nums vc vals u.1 u.2.1 ce pk pv pr w key u.2.2 dn tk 1) := hD
  obtain ⟨hu1, hu2⟩ := hp
  exact zVret (w' := fun (u : Nat × (Nat → Int64) × Nat) => (eW A C n ops nums vc vals u.1 u.2.1 ce pk pv pr w key u.2.2 dn tk 1)) (u.1, u.2.1, u.2.2) hx hb hr hlk hS hK ⟨by omega, by omega⟩ hP hD dE_perform_223

set_option maxRecDepth 20000 in
set_option maxHeartbeats 4000000 in
theorem c_perform11_low (l : Launch) (D : va_G) (A : Nat → Nat) (C : Nat → ClassId) (sz : Nat) (n : Nat) (ops : Nat → Int32) (nums : Nat → Int64) (vc : Nat) (vals : Nat → Int64) (d : Nat) (st : Nat → Int64) (ce : Nat → Int64) (pk : Nat → Int64) (pv : Nat → Int64) (pr : Nat) (w : Nat) (key : Int64) (pl : Nat) (dn : Nat) (tk : Nat) (tr : Nat) (x : Int64) (hd : d ≤ 12) (hpl : pl ≤ 40) (h0 : d < 2) : Met l yE_perform (.code yE_perform cE_perform 4 none :: WS) (rmk 3 71) (va_Pc [.ref (A 0), .int (nI 11), .long x] (zP D (eT C) sz (eW A C n ops nums vc vals d st ce pk pv pr w key pl dn tk 0))) (va_Qv (fun u : Nat × (Nat → Int64) × Nat => u.1 ≤ 12 ∧ u.2.2 ≤ 40) (fun (u : Nat × (Nat → Int64) × Nat) t => zB D (eT C) (va_A (eW A C n ops nums vc vals d st ce pk pv pr w key pl dn tk 0) sz) (eW A C n ops nums vc vals u.1 u.2.1 ce pk pv pr w key u.2.2 dn tk 1) t) (va_A (eW A C n ops nums vc vals d st ce pk pv pr w key pl dn tk 0) sz)) 0 0 (va_A (eW A C n ops nums vc vals d st ce pk pv pr w key pl dn tk 0) sz) := by
  refine zEnt (Qc := fun F => (va_Qv (fun u : Nat × (Nat → Int64) × Nat => u.1 ≤ 12 ∧ u.2.2 ≤ 40) (fun (u : Nat × (Nat → Int64) × Nat) t => zB D (eT C) F (eW A C n ops nums vc vals u.1 u.2.1 ce pk pv pr w key u.2.2 dn tk 1) t) F)) (by decide) (Nat.le_of_ble_eq_true rfl) (fun p e s m below meth c ls F hx hb hr hlk hml hnm hw hown hsz hP hK hD hA hl => ?_)
  have hS : va_S F s.heap s.heap [] := va_S.rf
  have hown : s.vm.findClass RE = some m.cls := hown
  have hl : lv_has ls 4 [(0, .ref (A 0)), (1, .int (nI 11)), (2, .long x)] := hl
  refine lv_iload_n hx hb dE_perform_0 rfl (lv_at hl 1 rfl) ?_
  refine lv_tableIn (off := 217) (tgt := 218) hx hb dE_perform_1 (by decide) (by decide) (by decide) rfl ?_
  refine lv_aload_n hx hb dE_perform_218 rfl (lv_at hl 0 rfl) ?_
  refine lv_iload_n hx hb dE_perform_219 rfl (lv_at hl 1 rfl) ?_
  refine zAftv0 (zRunV0 ⟨hx, hb, hml, hown, hw⟩ (c_combine11_low l D A C _ n ops nums vc vals d st ce pk pv pr w key pl dn tk 0 hd hpl h0) wm_E_149 wi_E_combine ws_E_combine wn_E wc_E_combine ⟨rfl, rfl⟩ wd_E_combine ⟨by decide, by decide⟩ hK hP hD 0 rfl rfl rfl hl.1 rfl (Nat.le_of_ble_eq_true rfl) dE_perform_220 ⟨by decide, by decide⟩) hP hD hS hA (fun u H locs hp hP hD hS => ?_)
  replace hP : va_P D vwCl (eW A C n ops nums vc vals u.1 u.2.1 ce pk pv pr w key u.2.2 dn tk 1) H := hP
  replace hD : va_D F (eW A C n ops nums vc vals u.1 u.2.1 ce pk pv pr w key u.2.2 dn tk 1) := hD
  obtain ⟨hu1, hu2⟩ := hp
  exact zVret (w' := fun (u : Nat × (Nat → Int64) × Nat) => (eW A C n ops nums vc vals u.1 u.2.1 ce pk pv pr w key u.2.2 dn tk 1)) (u.1, u.2.1, u.2.2) hx hb hr hlk hS hK ⟨by omega, by omega⟩ hP hD dE_perform_223

set_option maxRecDepth 20000 in
set_option maxHeartbeats 4000000 in
theorem c_perform9_zero (l : Launch) (D : va_G) (A : Nat → Nat) (C : Nat → ClassId) (sz : Nat) (n : Nat) (ops : Nat → Int32) (nums : Nat → Int64) (vc : Nat) (vals : Nat → Int64) (d : Nat) (st : Nat → Int64) (ce : Nat → Int64) (pk : Nat → Int64) (pv : Nat → Int64) (pr : Nat) (w : Nat) (key : Int64) (pl : Nat) (dn : Nat) (tk : Nat) (tr : Nat) (x : Int64) (hd : d ≤ 12) (hpl : pl ≤ 40) (hd1 : d < 11) (hy : st (d + 1) = 0) : Met l yE_perform (.code yE_perform cE_perform 4 none :: WS) (rmk 3 71) (va_Pc [.ref (A 0), .int (nI 9), .long x] (zP D (eT C) sz (eW A C n ops nums vc vals (d + 1 + 1) st ce pk pv pr w key pl dn tk 0))) (va_Qv (fun u : Nat × (Nat → Int64) × Nat => u.1 ≤ 12 ∧ u.2.2 ≤ 40) (fun (u : Nat × (Nat → Int64) × Nat) t => zB D (eT C) (va_A (eW A C n ops nums vc vals (d + 1 + 1) st ce pk pv pr w key pl dn tk 0) sz) (eW A C n ops nums vc vals u.1 u.2.1 ce pk pv pr w key u.2.2 dn tk 1) t) (va_A (eW A C n ops nums vc vals (d + 1 + 1) st ce pk pv pr w key pl dn tk 0) sz)) 0 0 (va_A (eW A C n ops nums vc vals (d + 1 + 1) st ce pk pv pr w key pl dn tk 0) sz) := by
  refine zEnt (Qc := fun F => (va_Qv (fun u : Nat × (Nat → Int64) × Nat => u.1 ≤ 12 ∧ u.2.2 ≤ 40) (fun (u : Nat × (Nat → Int64) × Nat) t => zB D (eT C) F (eW A C n ops nums vc vals u.1 u.2.1 ce pk pv pr w key u.2.2 dn tk 1) t) F)) (by decide) (Nat.le_of_ble_eq_true rfl) (fun p e s m below meth c ls F hx hb hr hlk hml hnm hw hown hsz hP hK hD hA hl => ?_)
  have hS : va_S F s.heap s.heap [] := va_S.rf
  have hown : s.vm.findClass RE = some m.cls := hown
  have hl : lv_has ls 4 [(0, .ref (A 0)), (1, .int (nI 9)), (2, .long x)] := hl
  refine lv_iload_n hx hb dE_perform_0 rfl (lv_at hl 1 rfl) ?_
  refine lv_tableIn (off := 217) (tgt := 218) hx hb dE_perform_1 (by decide) (by decide) (by decide) rfl ?_
  refine lv_aload_n hx hb dE_perform_218 rfl (lv_at hl 0 rfl) ?_
  refine lv_iload_n hx hb dE_perform_219 rfl (lv_at hl 1 rfl) ?_
  refine zAftv0 (zRunV0 ⟨hx, hb, hml, hown, hw⟩ (c_combine9_zero l D A C _ n ops nums vc vals d st ce pk pv pr w key pl dn tk 0 (by omega) hpl hd1 hy) wm_E_149 wi_E_combine ws_E_combine wn_E wc_E_combine ⟨rfl, rfl⟩ wd_E_combine ⟨by decide, by decide⟩ hK hP hD 0 rfl rfl rfl hl.1 rfl (Nat.le_of_ble_eq_true rfl) dE_perform_220 ⟨by decide, by decide⟩) hP hD hS hA (fun u H locs hp hP hD hS => ?_)
  replace hP : va_P D vwCl (eW A C n ops nums vc vals u.1 u.2.1 ce pk pv pr w key u.2.2 dn tk 1) H := hP
  replace hD : va_D F (eW A C n ops nums vc vals u.1 u.2.1 ce pk pv pr w key u.2.2 dn tk 1) := hD
  obtain ⟨hu1, hu2⟩ := hp
  exact zVret (w' := fun (u : Nat × (Nat → Int64) × Nat) => (eW A C n ops nums vc vals u.1 u.2.1 ce pk pv pr w key u.2.2 dn tk 1)) (u.1, u.2.1, u.2.2) hx hb hr hlk hS hK ⟨by omega, by omega⟩ hP hD dE_perform_223

set_option maxRecDepth 20000 in
set_option maxHeartbeats 4000000 in
theorem c_perform12_trap (l : Launch) (D : va_G) (A : Nat → Nat) (C : Nat → ClassId) (sz : Nat) (n : Nat) (ops : Nat → Int32) (nums : Nat → Int64) (vc : Nat) (vals : Nat → Int64) (d : Nat) (st : Nat → Int64) (ce : Nat → Int64) (pk : Nat → Int64) (pv : Nat → Int64) (pr : Nat) (w : Nat) (key : Int64) (pl : Nat) (dn : Nat) (tk : Nat) (tr : Nat) (x : Int64) (hd : d ≤ 12) (hpl : pl ≤ 40) (h0 : d = 0 ∨ d = 12) : Met l yE_perform (.code yE_perform cE_perform 4 none :: WS) (rmk 3 71) (va_Pc [.ref (A 0), .int (nI 12), .long x] (zP D (eT C) sz (eW A C n ops nums vc vals d st ce pk pv pr w key pl dn tk 0))) (va_Qv (fun u : Nat × (Nat → Int64) × Nat => u.1 ≤ 12 ∧ u.2.2 ≤ 40) (fun (u : Nat × (Nat → Int64) × Nat) t => zB D (eT C) (va_A (eW A C n ops nums vc vals d st ce pk pv pr w key pl dn tk 0) sz) (eW A C n ops nums vc vals u.1 u.2.1 ce pk pv pr w key u.2.2 dn tk 1) t) (va_A (eW A C n ops nums vc vals d st ce pk pv pr w key pl dn tk 0) sz)) 0 0 (va_A (eW A C n ops nums vc vals d st ce pk pv pr w key pl dn tk 0) sz) := by
  refine zEnt (Qc := fun F => (va_Qv (fun u : Nat × (Nat → Int64) × Nat => u.1 ≤ 12 ∧ u.2.2 ≤ 40) (fun (u : Nat × (Nat → Int64) × Nat) t => zB D (eT C) F (eW A C n ops nums vc vals u.1 u.2.1 ce pk pv pr w key u.2.2 dn tk 1) t) F)) (by decide) (Nat.le_of_ble_eq_true rfl) (fun p e s m below meth c ls F hx hb hr hlk hml hnm hw hown hsz hP hK hD hA hl => ?_)
  have hS : va_S F s.heap s.heap [] := va_S.rf
  have hown : s.vm.findClass RE = some m.cls := hown
  have hl : lv_has ls 4 [(0, .ref (A 0)), (1, .int (nI 12)), (2, .long x)] := hl
  refine lv_iload_n hx hb dE_perform_0 rfl (lv_at hl 1 rfl) ?_
  refine lv_tableIn (off := 159) (tgt := 160) hx hb dE_perform_1 (by decide) (by decide) (by decide) rfl ?_
  refine lv_aload_n hx hb dE_perform_160 rfl (lv_at hl 0 rfl) ?_
  refine zAftv0 (zRunV0 ⟨hx, hb, hml, hown, hw⟩ (c_doubleTop_trap l D A C _ n ops nums vc vals d st ce pk pv pr w key pl dn tk 0 hd hpl h0) wm_E_133 wi_E_doubleTop ws_E_doubleTop wn_E wc_E_doubleTop ⟨rfl, rfl⟩ wd_E_doubleTop ⟨by decide, by decide⟩ hK hP hD 0 rfl rfl rfl hl.1 rfl (Nat.le_of_ble_eq_true rfl) dE_perform_161 ⟨by decide, by decide⟩) hP hD hS hA (fun u H locs hp hP hD hS => ?_)
  replace hP : va_P D vwCl (eW A C n ops nums vc vals u.1 u.2.1 ce pk pv pr w key u.2.2 dn tk 1) H := hP
  replace hD : va_D F (eW A C n ops nums vc vals u.1 u.2.1 ce pk pv pr w key u.2.2 dn tk 1) := hD
  obtain ⟨hu1, hu2⟩ := hp
  refine lv_goto (tgt := 223) hx hb dE_perform_164 rfl ?_
  exact zVret (w' := fun (u : Nat × (Nat → Int64) × Nat) => (eW A C n ops nums vc vals u.1 u.2.1 ce pk pv pr w key u.2.2 dn tk 1)) (u.1, u.2.1, u.2.2) hx hb hr hlk hS hK ⟨by omega, by omega⟩ hP hD dE_perform_223

set_option maxRecDepth 20000 in
set_option maxHeartbeats 4000000 in
theorem c_perform13_low (l : Launch) (D : va_G) (A : Nat → Nat) (C : Nat → ClassId) (sz : Nat) (n : Nat) (ops : Nat → Int32) (nums : Nat → Int64) (vc : Nat) (vals : Nat → Int64) (d : Nat) (st : Nat → Int64) (ce : Nat → Int64) (pk : Nat → Int64) (pv : Nat → Int64) (pr : Nat) (w : Nat) (key : Int64) (pl : Nat) (dn : Nat) (tk : Nat) (tr : Nat) (x : Int64) (hd : d ≤ 12) (hpl : pl ≤ 40) (h0 : d = 0) : Met l yE_perform (.code yE_perform cE_perform 4 none :: WS) (rmk 3 71) (va_Pc [.ref (A 0), .int (nI 13), .long x] (zP D (eT C) sz (eW A C n ops nums vc vals d st ce pk pv pr w key pl dn tk 0))) (va_Qv (fun u : Nat × (Nat → Int64) × Nat => u.1 ≤ 12 ∧ u.2.2 ≤ 40) (fun (u : Nat × (Nat → Int64) × Nat) t => zB D (eT C) (va_A (eW A C n ops nums vc vals d st ce pk pv pr w key pl dn tk 0) sz) (eW A C n ops nums vc vals u.1 u.2.1 ce pk pv pr w key u.2.2 dn tk 1) t) (va_A (eW A C n ops nums vc vals d st ce pk pv pr w key pl dn tk 0) sz)) 0 0 (va_A (eW A C n ops nums vc vals d st ce pk pv pr w key pl dn tk 0) sz) := by
  refine zEnt (Qc := fun F => (va_Qv (fun u : Nat × (Nat → Int64) × Nat => u.1 ≤ 12 ∧ u.2.2 ≤ 40) (fun (u : Nat × (Nat → Int64) × Nat) t => zB D (eT C) F (eW A C n ops nums vc vals u.1 u.2.1 ce pk pv pr w key u.2.2 dn tk 1) t) F)) (by decide) (Nat.le_of_ble_eq_true rfl) (fun p e s m below meth c ls F hx hb hr hlk hml hnm hw hown hsz hP hK hD hA hl => ?_)
  have hS : va_S F s.heap s.heap [] := va_S.rf
  have hown : s.vm.findClass RE = some m.cls := hown
  have hl : lv_has ls 4 [(0, .ref (A 0)), (1, .int (nI 13)), (2, .long x)] := hl
  refine lv_iload_n hx hb dE_perform_0 rfl (lv_at hl 1 rfl) ?_
  refine lv_tableIn (off := 166) (tgt := 167) hx hb dE_perform_1 (by decide) (by decide) (by decide) rfl ?_
  refine lv_aload_n hx hb dE_perform_167 rfl (lv_at hl 0 rfl) ?_
  refine zAftl0 (zRunV0 ⟨hx, hb, hml, hown, hw⟩ (c_pop l D A C _ n ops nums vc vals d st ce pk pv pr w key pl dn tk 0 (by omega)) wm_E_136 wi_E_pop ws_E_pop wn_E wc_E_pop ⟨rfl, rfl⟩ wd_E_pop ⟨by decide, by decide⟩ hK hP hD 0 rfl rfl rfl hl.1 rfl (Nat.le_of_ble_eq_true rfl) dE_perform_168 ⟨by decide, by decide⟩) hP hD hS hA (fun r u H locs hp hP hD hS => ?_)
  replace hP : va_P D vwCl (eW A C n ops nums vc vals (d - 1) st ce pk pv pr w key pl dn tk (qT d 0)) H := hP
  replace hD : va_D F (eW A C n ops nums vc vals (d - 1) st ce pk pv pr w key pl dn tk (qT d 0)) := hD
  subst hp
  refine lv_pop2_2 hx hb dE_perform_171 rfl ?_
  refine lv_goto (tgt := 223) hx hb dE_perform_172 rfl ?_
  have e9 : (qT d 0) = 1 := by simp only [pT, qT, pD]; (repeat' split) <;> omega
  rw [e9] at hP hD
  exact zVret (w' := fun (u : Nat × (Nat → Int64) × Nat) => (eW A C n ops nums vc vals u.1 u.2.1 ce pk pv pr w key u.2.2 dn tk 1)) (d - 1, st, pl) hx hb hr hlk hS hK ⟨by omega, by omega⟩ hP hD dE_perform_223

set_option maxRecDepth 20000 in
set_option maxHeartbeats 4000000 in
theorem c_perform14_low (l : Launch) (D : va_G) (A : Nat → Nat) (C : Nat → ClassId) (sz : Nat) (n : Nat) (ops : Nat → Int32) (nums : Nat → Int64) (vc : Nat) (vals : Nat → Int64) (d : Nat) (st : Nat → Int64) (ce : Nat → Int64) (pk : Nat → Int64) (pv : Nat → Int64) (pr : Nat) (w : Nat) (key : Int64) (pl : Nat) (dn : Nat) (tk : Nat) (tr : Nat) (x : Int64) (hd : d ≤ 12) (hpl : pl ≤ 40) (h0 : d < 2) : Met l yE_perform (.code yE_perform cE_perform 4 none :: WS) (rmk 3 71) (va_Pc [.ref (A 0), .int (nI 14), .long x] (zP D (eT C) sz (eW A C n ops nums vc vals d st ce pk pv pr w key pl dn tk 0))) (va_Qv (fun u : Nat × (Nat → Int64) × Nat => u.1 ≤ 12 ∧ u.2.2 ≤ 40) (fun (u : Nat × (Nat → Int64) × Nat) t => zB D (eT C) (va_A (eW A C n ops nums vc vals d st ce pk pv pr w key pl dn tk 0) sz) (eW A C n ops nums vc vals u.1 u.2.1 ce pk pv pr w key u.2.2 dn tk 1) t) (va_A (eW A C n ops nums vc vals d st ce pk pv pr w key pl dn tk 0) sz)) 0 0 (va_A (eW A C n ops nums vc vals d st ce pk pv pr w key pl dn tk 0) sz) := by
  refine zEnt (Qc := fun F => (va_Qv (fun u : Nat × (Nat → Int64) × Nat => u.1 ≤ 12 ∧ u.2.2 ≤ 40) (fun (u : Nat × (Nat → Int64) × Nat) t => zB D (eT C) F (eW A C n ops nums vc vals u.1 u.2.1 ce pk pv pr w key u.2.2 dn tk 1) t) F)) (by decide) (Nat.le_of_ble_eq_true rfl) (fun p e s m below meth c ls F hx hb hr hlk hml hnm hw hown hsz hP hK hD hA hl => ?_)
  have hS : va_S F s.heap s.heap [] := va_S.rf
  have hown : s.vm.findClass RE = some m.cls := hown
  have hl : lv_has ls 4 [(0, .ref (A 0)), (1, .int (nI 14)), (2, .long x)] := hl
  refine lv_iload_n hx hb dE_perform_0 rfl (lv_at hl 1 rfl) ?_
  refine lv_tableIn (off := 174) (tgt := 175) hx hb dE_perform_1 (by decide) (by decide) (by decide) rfl ?_
  refine lv_aload_n hx hb dE_perform_175 rfl (lv_at hl 0 rfl) ?_
  refine zAftv0 (zRunV0 ⟨hx, hb, hml, hown, hw⟩ (c_changeTwo_trap l D A C _ n ops nums vc vals d st ce pk pv pr w key pl dn tk 0 hd hpl h0) wm_E_140 wi_E_changeTwo ws_E_changeTwo wn_E wc_E_changeTwo ⟨rfl, rfl⟩ wd_E_changeTwo ⟨by decide, by decide⟩ hK hP hD 0 rfl rfl rfl hl.1 rfl (Nat.le_of_ble_eq_true rfl) dE_perform_176 ⟨by decide, by decide⟩) hP hD hS hA (fun u H locs hp hP hD hS => ?_)
  replace hP : va_P D vwCl (eW A C n ops nums vc vals u.1 u.2.1 ce pk pv pr w key u.2.2 dn tk 1) H := hP
  replace hD : va_D F (eW A C n ops nums vc vals u.1 u.2.1 ce pk pv pr w key u.2.2 dn tk 1) := hD
  obtain ⟨hu1, hu2⟩ := hp
  refine lv_goto (tgt := 223) hx hb dE_perform_179 rfl ?_
  exact zVret (w' := fun (u : Nat × (Nat → Int64) × Nat) => (eW A C n ops nums vc vals u.1 u.2.1 ce pk pv pr w key u.2.2 dn tk 1)) (u.1, u.2.1, u.2.2) hx hb hr hlk hS hK ⟨by omega, by omega⟩ hP hD dE_perform_223

set_option maxRecDepth 20000 in
set_option maxHeartbeats 4000000 in
theorem c_perform16_low (l : Launch) (D : va_G) (A : Nat → Nat) (C : Nat → ClassId) (sz : Nat) (n : Nat) (ops : Nat → Int32) (nums : Nat → Int64) (vc : Nat) (vals : Nat → Int64) (d : Nat) (st : Nat → Int64) (ce : Nat → Int64) (pk : Nat → Int64) (pv : Nat → Int64) (pr : Nat) (w : Nat) (key : Int64) (pl : Nat) (dn : Nat) (tk : Nat) (tr : Nat) (j : Nat) (hd : d ≤ 12) (hpl : pl ≤ 40) (hj : j ≤ 40) (h0 : d = 0) : Met l yE_perform (.code yE_perform cE_perform 4 none :: WS) (rmk 3 71) (va_Pc [.ref (A 0), .int (nI 16), .long (lN j)] (zP D (eT C) sz (eW A C n ops nums vc vals d st ce pk pv pr w key pl dn tk 0))) (va_Qv (fun u : Nat × (Nat → Int64) × Nat => u.1 ≤ 12 ∧ u.2.2 ≤ 40) (fun (u : Nat × (Nat → Int64) × Nat) t => zB D (eT C) (va_A (eW A C n ops nums vc vals d st ce pk pv pr w key pl dn tk 0) sz) (eW A C n ops nums vc vals u.1 u.2.1 ce pk pv pr w key u.2.2 dn tk 1) t) (va_A (eW A C n ops nums vc vals d st ce pk pv pr w key pl dn tk 0) sz)) 0 0 (va_A (eW A C n ops nums vc vals d st ce pk pv pr w key pl dn tk 0) sz) := by
  refine zEnt (Qc := fun F => (va_Qv (fun u : Nat × (Nat → Int64) × Nat => u.1 ≤ 12 ∧ u.2.2 ≤ 40) (fun (u : Nat × (Nat → Int64) × Nat) t => zB D (eT C) F (eW A C n ops nums vc vals u.1 u.2.1 ce pk pv pr w key u.2.2 dn tk 1) t) F)) (by decide) (Nat.le_of_ble_eq_true rfl) (fun p e s m below meth c ls F hx hb hr hlk hml hnm hw hown hsz hP hK hD hA hl => ?_)
  have hS : va_S F s.heap s.heap [] := va_S.rf
  have hown : s.vm.findClass RE = some m.cls := hown
  have hl : lv_has ls 4 [(0, .ref (A 0)), (1, .int (nI 16)), (2, .long (lN j))] := hl
  refine lv_iload_n hx hb dE_perform_0 rfl (lv_at hl 1 rfl) ?_
  refine lv_tableIn (off := 190) (tgt := 191) hx hb dE_perform_1 (by decide) (by decide) (by decide) rfl ?_
  refine lv_aload_n hx hb dE_perform_191 rfl (lv_at hl 0 rfl) ?_
  refine lv_lload_n hx hb dE_perform_192 rfl (lv_at hl 2 rfl) ?_
  refine lv_l2i hx hb dE_perform_193 (lN_i _) ?_
  refine zAftv0 (zRunV0 ⟨hx, hb, hml, hown, hw⟩ (c_goIfZero_trap l D A C _ n ops nums vc vals d st ce pk pv pr w key pl dn tk 0 j hd hpl hj h0) wm_E_143 wi_E_goIfZero ws_E_goIfZero wn_E wc_E_goIfZero ⟨rfl, rfl⟩ wd_E_goIfZero ⟨by decide, by decide⟩ hK hP hD 0 rfl rfl rfl hl.1 rfl (Nat.le_of_ble_eq_true rfl) dE_perform_194 ⟨by decide, by decide⟩) hP hD hS hA (fun u H locs hp hP hD hS => ?_)
  replace hP : va_P D vwCl (eW A C n ops nums vc vals u.1 u.2.1 ce pk pv pr w key u.2.2 dn tk 1) H := hP
  replace hD : va_D F (eW A C n ops nums vc vals u.1 u.2.1 ce pk pv pr w key u.2.2 dn tk 1) := hD
  obtain ⟨hu1, hu2⟩ := hp
  refine lv_goto (tgt := 223) hx hb dE_perform_197 rfl ?_
  exact zVret (w' := fun (u : Nat × (Nat → Int64) × Nat) => (eW A C n ops nums vc vals u.1 u.2.1 ce pk pv pr w key u.2.2 dn tk 1)) (u.1, u.2.1, u.2.2) hx hb hr hlk hS hK ⟨by omega, by omega⟩ hP hD dE_perform_223

set_option maxRecDepth 20000 in
set_option maxHeartbeats 4000000 in
theorem c_perform17a_low (l : Launch) (D : va_G) (A : Nat → Nat) (C : Nat → ClassId) (sz : Nat) (n : Nat) (ops : Nat → Int32) (nums : Nat → Int64) (vc : Nat) (vals : Nat → Int64) (d : Nat) (st : Nat → Int64) (ce : Nat → Int64) (pk : Nat → Int64) (pv : Nat → Int64) (pr : Nat) (w : Nat) (key : Int64) (pl : Nat) (dn : Nat) (tk : Nat) (tr : Nat) (x : Int64) (hd : d ≤ 12) (hpl : pl ≤ 40) (h0 : d = 0) : Met l yE_perform (.code yE_perform cE_perform 4 none :: WS) (rmk 3 71) (va_Pc [.ref (A 0), .int (nI 17), .long x] (zP D (eT C) sz (eW A C n ops nums vc vals d st ce pk pv pr 1 key pl dn tk 0))) (va_Qv (fun u : Nat × (Nat → Int64) × Nat => u.1 ≤ 12 ∧ u.2.2 ≤ 40) (fun (u : Nat × (Nat → Int64) × Nat) t => zB D (eT C) (va_A (eW A C n ops nums vc vals d st ce pk pv pr 1 key pl dn tk 0) sz) (eW A C n ops nums vc vals u.1 u.2.1 ce pk pv pr 1 key u.2.2 dn tk 1) t) (va_A (eW A C n ops nums vc vals d st ce pk pv pr 1 key pl dn tk 0) sz)) 0 0 (va_A (eW A C n ops nums vc vals d st ce pk pv pr 1 key pl dn tk 0) sz) := by
  refine zEnt (Qc := fun F => (va_Qv (fun u : Nat × (Nat → Int64) × Nat => u.1 ≤ 12 ∧ u.2.2 ≤ 40) (fun (u : Nat × (Nat → Int64) × Nat) t => zB D (eT C) F (eW A C n ops nums vc vals u.1 u.2.1 ce pk pv pr 1 key u.2.2 dn tk 1) t) F)) (by decide) (Nat.le_of_ble_eq_true rfl) (fun p e s m below meth c ls F hx hb hr hlk hml hnm hw hown hsz hP hK hD hA hl => ?_)
  have hS : va_S F s.heap s.heap [] := va_S.rf
  have hown : s.vm.findClass RE = some m.cls := hown
  have hl : lv_has ls 4 [(0, .ref (A 0)), (1, .int (nI 17)), (2, .long x)] := hl
  refine lv_iload_n hx hb dE_perform_0 rfl (lv_at hl 1 rfl) ?_
  refine lv_tableIn (off := 199) (tgt := 200) hx hb dE_perform_1 (by decide) (by decide) (by decide) rfl ?_
  refine lv_aload_n hx hb dE_perform_200 rfl (lv_at hl 0 rfl) ?_
  refine zAftv0 (zRunV0 ⟨hx, hb, hml, hown, hw⟩ (c_emitPair1_low l D A C _ n ops nums vc vals d st ce pk pv pr 1 key pl dn tk 0 hd hpl h0) wm_E_146 wi_E_emitPair ws_E_emitPair wn_E wc_E_emitPair ⟨rfl, rfl⟩ wd_E_emitPair ⟨by decide, by decide⟩ hK hP hD 0 rfl rfl rfl hl.1 rfl (Nat.le_of_ble_eq_true rfl) dE_perform_201 ⟨by decide, by decide⟩) hP hD hS hA (fun u H locs hp hP hD hS => ?_)
  replace hP : va_P D vwCl (eW A C n ops nums vc vals u.1 u.2.1 ce pk pv pr 1 key u.2.2 dn tk 1) H := hP
  replace hD : va_D F (eW A C n ops nums vc vals u.1 u.2.1 ce pk pv pr 1 key u.2.2 dn tk 1) := hD
  obtain ⟨hu1, hu2⟩ := hp
  refine lv_goto (tgt := 223) hx hb dE_perform_204 rfl ?_
  exact zVret (w' := fun (u : Nat × (Nat → Int64) × Nat) => (eW A C n ops nums vc vals u.1 u.2.1 ce pk pv pr 1 key u.2.2 dn tk 1)) (u.1, u.2.1, u.2.2) hx hb hr hlk hS hK ⟨by omega, by omega⟩ hP hD dE_perform_223

set_option maxRecDepth 20000 in
set_option maxHeartbeats 4000000 in
theorem c_perform17b_low (l : Launch) (D : va_G) (A : Nat → Nat) (C : Nat → ClassId) (sz : Nat) (n : Nat) (ops : Nat → Int32) (nums : Nat → Int64) (vc : Nat) (vals : Nat → Int64) (d : Nat) (st : Nat → Int64) (ce : Nat → Int64) (pk : Nat → Int64) (pv : Nat → Int64) (pr : Nat) (w : Nat) (key : Int64) (pl : Nat) (dn : Nat) (tk : Nat) (tr : Nat) (x : Int64) (hd : d ≤ 12) (hpl : pl ≤ 40) (h0 : d < 2) (hw1 : w ≠ 1) (hw2 : w ≤ 2) : Met l yE_perform (.code yE_perform cE_perform 4 none :: WS) (rmk 3 71) (va_Pc [.ref (A 0), .int (nI 17), .long x] (zP D (eT C) sz (eW A C n ops nums vc vals d st ce pk pv pr w key pl dn tk 0))) (va_Qv (fun u : Nat × (Nat → Int64) × Nat => u.1 ≤ 12 ∧ u.2.2 ≤ 40) (fun (u : Nat × (Nat → Int64) × Nat) t => zB D (eT C) (va_A (eW A C n ops nums vc vals d st ce pk pv pr w key pl dn tk 0) sz) (eW A C n ops nums vc vals u.1 u.2.1 ce pk pv pr w key u.2.2 dn tk 1) t) (va_A (eW A C n ops nums vc vals d st ce pk pv pr w key pl dn tk 0) sz)) 0 0 (va_A (eW A C n ops nums vc vals d st ce pk pv pr w key pl dn tk 0) sz) := by
  refine zEnt (Qc := fun F => (va_Qv (fun u : Nat × (Nat → Int64) × Nat => u.1 ≤ 12 ∧ u.2.2 ≤ 40) (fun (u : Nat × (Nat → Int64) × Nat) t => zB D (eT C) F (eW A C n ops nums vc vals u.1 u.2.1 ce pk pv pr w key u.2.2 dn tk 1) t) F)) (by decide) (Nat.le_of_ble_eq_true rfl) (fun p e s m below meth c ls F hx hb hr hlk hml hnm hw hown hsz hP hK hD hA hl => ?_)
  have hS : va_S F s.heap s.heap [] := va_S.rf
  have hown : s.vm.findClass RE = some m.cls := hown
  have hl : lv_has ls 4 [(0, .ref (A 0)), (1, .int (nI 17)), (2, .long x)] := hl
  refine lv_iload_n hx hb dE_perform_0 rfl (lv_at hl 1 rfl) ?_
  refine lv_tableIn (off := 199) (tgt := 200) hx hb dE_perform_1 (by decide) (by decide) (by decide) rfl ?_
  refine lv_aload_n hx hb dE_perform_200 rfl (lv_at hl 0 rfl) ?_
  refine zAftv0 (zRunV0 ⟨hx, hb, hml, hown, hw⟩ (c_emitPair2_low l D A C _ n ops nums vc vals d st ce pk pv pr w key pl dn tk 0 hd hpl h0 hw1 hw2) wm_E_146 wi_E_emitPair ws_E_emitPair wn_E wc_E_emitPair ⟨rfl, rfl⟩ wd_E_emitPair ⟨by decide, by decide⟩ hK hP hD 0 rfl rfl rfl hl.1 rfl (Nat.le_of_ble_eq_true rfl) dE_perform_201 ⟨by decide, by decide⟩) hP hD hS hA (fun u H locs hp hP hD hS => ?_)
  replace hP : va_P D vwCl (eW A C n ops nums vc vals u.1 u.2.1 ce pk pv pr w key u.2.2 dn tk 1) H := hP
  replace hD : va_D F (eW A C n ops nums vc vals u.1 u.2.1 ce pk pv pr w key u.2.2 dn tk 1) := hD
  obtain ⟨hu1, hu2⟩ := hp
  refine lv_goto (tgt := 223) hx hb dE_perform_204 rfl ?_
  exact zVret (w' := fun (u : Nat × (Nat → Int64) × Nat) => (eW A C n ops nums vc vals u.1 u.2.1 ce pk pv pr w key u.2.2 dn tk 1)) (u.1, u.2.1, u.2.2) hx hb hr hlk hS hK ⟨by omega, by omega⟩ hP hD dE_perform_223

set_option maxRecDepth 20000 in
set_option maxHeartbeats 4000000 in
theorem c_perform17a_full (l : Launch) (D : va_G) (A : Nat → Nat) (C : Nat → ClassId) (sz : Nat) (n : Nat) (ops : Nat → Int32) (nums : Nat → Int64) (vc : Nat) (vals : Nat → Int64) (d : Nat) (st : Nat → Int64) (ce : Nat → Int64) (pk : Nat → Int64) (pv : Nat → Int64) (pr : Nat) (w : Nat) (key : Int64) (pl : Nat) (dn : Nat) (tk : Nat) (tr : Nat) (x : Int64) (hd : d ≤ 12) (hpl : pl ≤ 40) (hd1 : d < 12) (hp : pr = 4) : Met l yE_perform (.code yE_perform cE_perform 4 none :: WS) (rmk 3 71) (va_Pc [.ref (A 0), .int (nI 17), .long x] (zP D (eT C) sz (eW A C n ops nums vc vals (d + 1) st ce pk pv pr 1 key pl dn tk 0))) (va_Qv (fun u : Nat × (Nat → Int64) × Nat => u.1 ≤ 12 ∧ u.2.2 ≤ 40) (fun (u : Nat × (Nat → Int64) × Nat) t => zB D (eT C) (va_A (eW A C n ops nums vc vals (d + 1) st ce pk pv pr 1 key pl dn tk 0) sz) (eW A C n ops nums vc vals u.1 u.2.1 ce pk pv pr 1 key u.2.2 dn tk 1) t) (va_A (eW A C n ops nums vc vals (d + 1) st ce pk pv pr 1 key pl dn tk 0) sz)) 0 0 (va_A (eW A C n ops nums vc vals (d + 1) st ce pk pv pr 1 key pl dn tk 0) sz) := by
  refine zEnt (Qc := fun F => (va_Qv (fun u : Nat × (Nat → Int64) × Nat => u.1 ≤ 12 ∧ u.2.2 ≤ 40) (fun (u : Nat × (Nat → Int64) × Nat) t => zB D (eT C) F (eW A C n ops nums vc vals u.1 u.2.1 ce pk pv pr 1 key u.2.2 dn tk 1) t) F)) (by decide) (Nat.le_of_ble_eq_true rfl) (fun p e s m below meth c ls F hx hb hr hlk hml hnm hw hown hsz hP hK hD hA hl => ?_)
  have hS : va_S F s.heap s.heap [] := va_S.rf
  have hown : s.vm.findClass RE = some m.cls := hown
  have hl : lv_has ls 4 [(0, .ref (A 0)), (1, .int (nI 17)), (2, .long x)] := hl
  refine lv_iload_n hx hb dE_perform_0 rfl (lv_at hl 1 rfl) ?_
  refine lv_tableIn (off := 199) (tgt := 200) hx hb dE_perform_1 (by decide) (by decide) (by decide) rfl ?_
  refine lv_aload_n hx hb dE_perform_200 rfl (lv_at hl 0 rfl) ?_
  refine zAftv0 (zRunV0 ⟨hx, hb, hml, hown, hw⟩ (c_emitPair1_full l D A C _ n ops nums vc vals d st ce pk pv pr 1 key pl dn tk 0 (by omega) hpl hd1 hp) wm_E_146 wi_E_emitPair ws_E_emitPair wn_E wc_E_emitPair ⟨rfl, rfl⟩ wd_E_emitPair ⟨by decide, by decide⟩ hK hP hD 0 rfl rfl rfl hl.1 rfl (Nat.le_of_ble_eq_true rfl) dE_perform_201 ⟨by decide, by decide⟩) hP hD hS hA (fun u H locs hp hP hD hS => ?_)
  replace hP : va_P D vwCl (eW A C n ops nums vc vals u.1 u.2.1 ce pk pv pr 1 key u.2.2 dn tk 1) H := hP
  replace hD : va_D F (eW A C n ops nums vc vals u.1 u.2.1 ce pk pv pr 1 key u.2.2 dn tk 1) := hD
  obtain ⟨hu1, hu2⟩ := hp
  refine lv_goto (tgt := 223) hx hb dE_perform_204 rfl ?_
  exact zVret (w' := fun (u : Nat × (Nat → Int64) × Nat) => (eW A C n ops nums vc vals u.1 u.2.1 ce pk pv pr 1 key u.2.2 dn tk 1)) (u.1, u.2.1, u.2.2) hx hb hr hlk hS hK ⟨by omega, by omega⟩ hP hD dE_perform_223

set_option maxRecDepth 20000 in
set_option maxHeartbeats 4000000 in
theorem c_perform17b_full (l : Launch) (D : va_G) (A : Nat → Nat) (C : Nat → ClassId) (sz : Nat) (n : Nat) (ops : Nat → Int32) (nums : Nat → Int64) (vc : Nat) (vals : Nat → Int64) (d : Nat) (st : Nat → Int64) (ce : Nat → Int64) (pk : Nat → Int64) (pv : Nat → Int64) (pr : Nat) (w : Nat) (key : Int64) (pl : Nat) (dn : Nat) (tk : Nat) (tr : Nat) (x : Int64) (hd : d ≤ 12) (hpl : pl ≤ 40) (hd1 : d < 11) (hp : pr = 4) (hw1 : w ≠ 1) (hw2 : w ≤ 2) : Met l yE_perform (.code yE_perform cE_perform 4 none :: WS) (rmk 3 71) (va_Pc [.ref (A 0), .int (nI 17), .long x] (zP D (eT C) sz (eW A C n ops nums vc vals (d + 1 + 1) st ce pk pv pr w key pl dn tk 0))) (va_Qv (fun u : Nat × (Nat → Int64) × Nat => u.1 ≤ 12 ∧ u.2.2 ≤ 40) (fun (u : Nat × (Nat → Int64) × Nat) t => zB D (eT C) (va_A (eW A C n ops nums vc vals (d + 1 + 1) st ce pk pv pr w key pl dn tk 0) sz) (eW A C n ops nums vc vals u.1 u.2.1 ce pk pv pr w key u.2.2 dn tk 1) t) (va_A (eW A C n ops nums vc vals (d + 1 + 1) st ce pk pv pr w key pl dn tk 0) sz)) 0 0 (va_A (eW A C n ops nums vc vals (d + 1 + 1) st ce pk pv pr w key pl dn tk 0) sz) := by
  refine zEnt (Qc := fun F => (va_Qv (fun u : Nat × (Nat → Int64) × Nat => u.1 ≤ 12 ∧ u.2.2 ≤ 40) (fun (u : Nat × (Nat → Int64) × Nat) t => zB D (eT C) F (eW A C n ops nums vc vals u.1 u.2.1 ce pk pv pr w key u.2.2 dn tk 1) t) F)) (by decide) (Nat.le_of_ble_eq_true rfl) (fun p e s m below meth c ls F hx hb hr hlk hml hnm hw hown hsz hP hK hD hA hl => ?_)
  have hS : va_S F s.heap s.heap [] := va_S.rf
  have hown : s.vm.findClass RE = some m.cls := hown
  have hl : lv_has ls 4 [(0, .ref (A 0)), (1, .int (nI 17)), (2, .long x)] := hl
  refine lv_iload_n hx hb dE_perform_0 rfl (lv_at hl 1 rfl) ?_
  refine lv_tableIn (off := 199) (tgt := 200) hx hb dE_perform_1 (by decide) (by decide) (by decide) rfl ?_
  refine lv_aload_n hx hb dE_perform_200 rfl (lv_at hl 0 rfl) ?_
  refine zAftv0 (zRunV0 ⟨hx, hb, hml, hown, hw⟩ (c_emitPair2_full l D A C _ n ops nums vc vals d st ce pk pv pr w key pl dn tk 0 (by omega) hpl hd1 hp hw1 hw2) wm_E_146 wi_E_emitPair ws_E_emitPair wn_E wc_E_emitPair ⟨rfl, rfl⟩ wd_E_emitPair ⟨by decide, by decide⟩ hK hP hD 0 rfl rfl rfl hl.1 rfl (Nat.le_of_ble_eq_true rfl) dE_perform_201 ⟨by decide, by decide⟩) hP hD hS hA (fun u H locs hp hP hD hS => ?_)
  replace hP : va_P D vwCl (eW A C n ops nums vc vals u.1 u.2.1 ce pk pv pr w key u.2.2 dn tk 1) H := hP
  replace hD : va_D F (eW A C n ops nums vc vals u.1 u.2.1 ce pk pv pr w key u.2.2 dn tk 1) := hD
  obtain ⟨hu1, hu2⟩ := hp
  refine lv_goto (tgt := 223) hx hb dE_perform_204 rfl ?_
  exact zVret (w' := fun (u : Nat × (Nat → Int64) × Nat) => (eW A C n ops nums vc vals u.1 u.2.1 ce pk pv pr w key u.2.2 dn tk 1)) (u.1, u.2.1, u.2.2) hx hb hr hlk hS hK ⟨by omega, by omega⟩ hP hD dE_perform_223
