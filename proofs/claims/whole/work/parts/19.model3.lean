/-! EmitDeskModel: its other methods -/
/-- what code lets in, as the reference asks it -/
def okM (o : Int32) (x : Int64) : Prop := (lN 0 ≤ o.toInt64 ∧ o.toInt64 ≤ lN 18) ∧ (o = nI 4 ∨ o = nI 5 → lN 0 ≤ x ∧ x ≤ lN 3) ∧ (o = nI 15 ∨ o = nI 16 → lN 0 ≤ x ∧ x ≤ lN 40)

theorem c_in (l : Launch) (D : va_G) (sz : Nat) (v : Int64) (a b : Nat) (ha : a < 2 ^ 31) (hb9 : b < 2 ^ 31) : Met l yM_in (.code yM_in cM_in 4 (some .boolean) :: WS) (rmk 0 0) (va_Pc [.long v, .int (nI a), .int (nI b)] (zP D [] sz ([] : va_W))) (va_Qi (fun (r : Int32) (_ : Unit) => (r = nI 1 ∧ (lN a ≤ v ∧ v ≤ lN b)) ∨ (r = nI 0 ∧ ¬ (lN a ≤ v ∧ v ≤ lN b))) (fun (_ : Unit) t => zB D [] (va_A ([] : va_W) sz) ([] : va_W) t) (va_A ([] : va_W) sz)) 0 0 (va_A ([] : va_W) sz) := by
  refine zEnt (Qc := fun F => (va_Qi (fun (r : Int32) (_ : Unit) => (r = nI 1 ∧ (lN a ≤ v ∧ v ≤ lN b)) ∨ (r = nI 0 ∧ ¬ (lN a ≤ v ∧ v ≤ lN b))) (fun (_ : Unit) t => zB D [] F ([] : va_W) t) F)) (by decide) (Nat.le_of_ble_eq_true rfl) (fun p e s m below meth c ls F hx hb hr hlk hml hnm hw hown hsz hP hK hD hA hl => ?_)
  have hS : va_S F s.heap s.heap [] := va_S.rf
  have hl : lv_has ls 4 [(0, .long v), (2, .int (nI a)), (3, .int (nI b))] := hl
  refine lv_lload_n hx hb dM_in_0 rfl (lv_at hl 0 rfl) ?_
  refine lv_iload_n hx hb dM_in_1 rfl (lv_at hl 1 rfl) ?_
  refine lv_i2l hx hb dM_in_2 (nI_l (by omega)) ?_
  refine W.lcmp hx hb dM_in_3 ?_
  refine zl_lt (tgt := 18) hx hb dM_in_4 rfl (fun h4 => ?_) (fun h4 => ?_)
  · refine lv_iconst (v := nI 0) hx hb dM_in_18 (by decide) ?_
    exact zZret (w' := fun (_ : Unit) => ([] : va_W)) () hx hb hr (by decide) hlk hS hK (Or.inr ⟨rfl, fun z => by first | exact absurd h4 (Int64.not_lt.mpr z.1) | exact absurd h11 (Int64.not_lt.mpr z.2)⟩) hP hD dM_in_19
  · refine lv_lload_n hx hb dM_in_7 rfl (lv_at hl 0 rfl) ?_
    refine lv_iload_n hx hb dM_in_8 rfl (lv_at hl 2 rfl) ?_
    refine lv_i2l hx hb dM_in_9 (nI_l (by omega)) ?_
    refine W.lcmp hx hb dM_in_10 ?_
    refine zl_gt (tgt := 18) hx hb dM_in_11 rfl (fun h11 => ?_) (fun h11 => ?_)
    · refine lv_iconst (v := nI 0) hx hb dM_in_18 (by decide) ?_
      exact zZret (w' := fun (_ : Unit) => ([] : va_W)) () hx hb hr (by decide) hlk hS hK (Or.inr ⟨rfl, fun z => by first | exact absurd h4 (Int64.not_lt.mpr z.1) | exact absurd h11 (Int64.not_lt.mpr z.2)⟩) hP hD dM_in_19
    · refine lv_iconst (v := nI 1) hx hb dM_in_14 (by decide) ?_
      refine lv_goto (tgt := 19) hx hb dM_in_15 rfl ?_
      exact zZret (w' := fun (_ : Unit) => ([] : va_W)) () hx hb hr (by decide) hlk hS hK (Or.inl ⟨rfl, Int64.not_lt.mp h4, Int64.not_lt.mp h11⟩) hP hD dM_in_19
set_option maxRecDepth 20000 in
set_option maxHeartbeats 4000000 in
theorem c_M_thrown (l : Launch) (D : va_G) (A : Nat → Nat) (C : Nat → ClassId) (sz : Nat) (ops : Nat → Int32) (nums : Nat → Int64) (vals : Nat → Int64) (st : Nat → Int64) (ce : Nat → Int64) (pk : Nat → Int64) (pv : Nat → Int64) (n : Nat) (vc : Nat) (sp : Nat) (d : Nat) (pr : Nat) (tk : Nat) (th : Nat) (tr : Nat) : Met l yM_thrown (.code yM_thrown cM_thrown 1 (some .int) :: WS) (rmk 0 0) (va_Pc [.ref (A 0)] (zP D (mT C) sz (mW A C ops nums vals st ce pk pv n vc sp d pr tk th tr))) (va_Qi (fun (r : Int32) (_ : Unit) => r = nI th) (fun (_ : Unit) t => zB D (mT C) (va_A (mW A C ops nums vals st ce pk pv n vc sp d pr tk th tr) sz) (mW A C ops nums vals st ce pk pv n vc sp d pr tk th tr) t) (va_A (mW A C ops nums vals st ce pk pv n vc sp d pr tk th tr) sz)) 0 0 (va_A (mW A C ops nums vals st ce pk pv n vc sp d pr tk th tr) sz) := by
  refine zEnt (Qc := fun F => (va_Qi (fun (r : Int32) (_ : Unit) => r = nI th) (fun (_ : Unit) t => zB D (mT C) F (mW A C ops nums vals st ce pk pv n vc sp d pr tk th tr) t) F)) (by decide) (Nat.le_of_ble_eq_true rfl) (fun p e s m below meth c ls F hx hb hr hlk hml hnm hw hown hsz hP hK hD hA hl => ?_)
  have hS : va_S F s.heap s.heap [] := va_S.rf
  have hown : s.vm.findClass RM = some m.cls := hown
  have hl : lv_has ls 1 [(0, .ref (A 0))] := hl
  refine lv_aload_n hx hb dM_thrown_0 rfl (lv_at hl 0 rfl) ?_
  refine zGetM hx hb hw hown hK hP 0 rfl 13 (by decide) wf_M_32 rfl dM_thrown_1 ?_
  exact zIret (w' := fun (_ : Unit) => (mW A C ops nums vals st ce pk pv n vc sp d pr tk th tr)) () hx hb hr hlk hS hK rfl hP hD dM_thrown_4

set_option maxRecDepth 20000 in
set_option maxHeartbeats 4000000 in
theorem c_M_clear (l : Launch) (D : va_G) (A : Nat → Nat) (C : Nat → ClassId) (sz : Nat) (ops : Nat → Int32) (nums : Nat → Int64) (vals : Nat → Int64) (st : Nat → Int64) (ce : Nat → Int64) (pk : Nat → Int64) (pv : Nat → Int64) (n : Nat) (vc : Nat) (sp : Nat) (d : Nat) (pr : Nat) (tk : Nat) (th : Nat) (tr : Nat) : Met l yM_clear (.code yM_clear cM_clear 2 (some .int) :: WS) (rmk 0 0) (va_Pc [.ref (A 0)] (zP D (mT C) sz (mW A C ops nums vals st ce pk pv n vc sp d pr tk th tr))) (va_Qi (fun (r : Int32) (_ : Unit) => r = nI n) (fun (_ : Unit) t => zB D (mT C) (va_A (mW A C ops nums vals st ce pk pv n vc sp d pr tk th tr) sz) (mW A C ops nums vals st ce pk pv 0 vc sp d pr tk 0 tr) t) (va_A (mW A C ops nums vals st ce pk pv n vc sp d pr tk th tr) sz)) 0 0 (va_A (mW A C ops nums vals st ce pk pv n vc sp d pr tk th tr) sz) := by
  refine zEnt (Qc := fun F => (va_Qi (fun (r : Int32) (_ : Unit) => r = nI n) (fun (_ : Unit) t => zB D (mT C) F (mW A C ops nums vals st ce pk pv 0 vc sp d pr tk 0 tr) t) F)) (by decide) (Nat.le_of_ble_eq_true rfl) (fun p e s m below meth c ls F hx hb hr hlk hml hnm hw hown hsz hP hK hD hA hl => ?_)
  have hS : va_S F s.heap s.heap [] := va_S.rf
  have hown : s.vm.findClass RM = some m.cls := hown
  have hl : lv_has ls 2 [(0, .ref (A 0))] := hl
  refine lv_aload_n hx hb dM_clear_0 rfl (lv_at hl 0 rfl) ?_
  refine lv_iconst (v := nI 0) hx hb dM_clear_1 (by decide) ?_
  refine zPutM hx hb hw hown hK hP hD hS 0 rfl 13 (by decide) wf_M_32 rfl rfl rfl (Nat.le_of_ble_eq_true rfl) dM_clear_2 (fun H locs hP hD hS => ?_)
  replace hP : va_P D vwCl (mW A C ops nums vals st ce pk pv n vc sp d pr tk 0 tr) H := hP
  replace hD : va_D F (mW A C ops nums vals st ce pk pv n vc sp d pr tk 0 tr) := hD
  refine lv_aload_n hx hb dM_clear_5 rfl (lv_at hl 0 rfl) ?_
  refine zGetM hx hb hw hown hK hP 0 rfl 7 (by decide) wf_M_40 rfl dM_clear_6 ?_
  refine lv_istore_n hx hb dM_clear_9 rfl hl (by decide) rfl (fun ls hl => ?_)
  have hl : lv_has ls 2 [(1, .int (nI n)), (0, .ref (A 0))] := hl
  refine lv_aload_n hx hb dM_clear_10 rfl (lv_at hl 1 rfl) ?_
  refine lv_iconst (v := nI 0) hx hb dM_clear_11 (by decide) ?_
  refine zPutM hx hb hw hown hK hP hD hS 0 rfl 7 (by decide) wf_M_40 rfl rfl rfl (Nat.le_of_ble_eq_true rfl) dM_clear_12 (fun H locs hP hD hS => ?_)
  replace hP : va_P D vwCl (mW A C ops nums vals st ce pk pv 0 vc sp d pr tk 0 tr) H := hP
  replace hD : va_D F (mW A C ops nums vals st ce pk pv 0 vc sp d pr tk 0 tr) := hD
  refine lv_iload_n hx hb dM_clear_15 rfl (lv_at hl 0 rfl) ?_
  exact zIret (w' := fun (_ : Unit) => (mW A C ops nums vals st ce pk pv 0 vc sp d pr tk 0 tr)) () hx hb hr hlk hS hK rfl hP hD dM_clear_16

set_option maxRecDepth 20000 in
set_option maxHeartbeats 4000000 in
theorem c_M_empty (l : Launch) (D : va_G) (A : Nat → Nat) (C : Nat → ClassId) (sz : Nat) (ops : Nat → Int32) (nums : Nat → Int64) (vals : Nat → Int64) (st : Nat → Int64) (ce : Nat → Int64) (pk : Nat → Int64) (pv : Nat → Int64) (n : Nat) (vc : Nat) (sp : Nat) (d : Nat) (pr : Nat) (tk : Nat) (th : Nat) (tr : Nat) : Met l yM_empty (.code yM_empty cM_empty 2 (some .int) :: WS) (rmk 0 0) (va_Pc [.ref (A 0)] (zP D (mT C) sz (mW A C ops nums vals st ce pk pv n vc sp d pr tk th tr))) (va_Qi (fun (r : Int32) (_ : Unit) => r = nI vc) (fun (_ : Unit) t => zB D (mT C) (va_A (mW A C ops nums vals st ce pk pv n vc sp d pr tk th tr) sz) (mW A C ops nums vals st ce pk pv n 0 sp d pr tk 0 tr) t) (va_A (mW A C ops nums vals st ce pk pv n vc sp d pr tk th tr) sz)) 0 0 (va_A (mW A C ops nums vals st ce pk pv n vc sp d pr tk th tr) sz) := by
  refine zEnt (Qc := fun F => (va_Qi (fun (r : Int32) (_ : Unit) => r = nI vc) (fun (_ : Unit) t => zB D (mT C) F (mW A C ops nums vals st ce pk pv n 0 sp d pr tk 0 tr) t) F)) (by decide) (Nat.le_of_ble_eq_true rfl) (fun p e s m below meth c ls F hx hb hr hlk hml hnm hw hown hsz hP hK hD hA hl => ?_)
  have hS : va_S F s.heap s.heap [] := va_S.rf
  have hown : s.vm.findClass RM = some m.cls := hown
  have hl : lv_has ls 2 [(0, .ref (A 0))] := hl
  refine lv_aload_n hx hb dM_empty_0 rfl (lv_at hl 0 rfl) ?_
  refine lv_iconst (v := nI 0) hx hb dM_empty_1 (by decide) ?_
  refine zPutM hx hb hw hown hK hP hD hS 0 rfl 13 (by decide) wf_M_32 rfl rfl rfl (Nat.le_of_ble_eq_true rfl) dM_empty_2 (fun H locs hP hD hS => ?_)
  replace hP : va_P D vwCl (mW A C ops nums vals st ce pk pv n vc sp d pr tk 0 tr) H := hP
  replace hD : va_D F (mW A C ops nums vals st ce pk pv n vc sp d pr tk 0 tr) := hD
  refine lv_aload_n hx hb dM_empty_5 rfl (lv_at hl 0 rfl) ?_
  refine zGetM hx hb hw hown hK hP 0 rfl 8 (by decide) wf_M_43 rfl dM_empty_6 ?_
  refine lv_istore_n hx hb dM_empty_9 rfl hl (by decide) rfl (fun ls hl => ?_)
  have hl : lv_has ls 2 [(1, .int (nI vc)), (0, .ref (A 0))] := hl
  refine lv_aload_n hx hb dM_empty_10 rfl (lv_at hl 1 rfl) ?_
  refine lv_iconst (v := nI 0) hx hb dM_empty_11 (by decide) ?_
  refine zPutM hx hb hw hown hK hP hD hS 0 rfl 8 (by decide) wf_M_43 rfl rfl rfl (Nat.le_of_ble_eq_true rfl) dM_empty_12 (fun H locs hP hD hS => ?_)
  replace hP : va_P D vwCl (mW A C ops nums vals st ce pk pv n 0 sp d pr tk 0 tr) H := hP
  replace hD : va_D F (mW A C ops nums vals st ce pk pv n 0 sp d pr tk 0 tr) := hD
  refine lv_iload_n hx hb dM_empty_15 rfl (lv_at hl 0 rfl) ?_
  exact zIret (w' := fun (_ : Unit) => (mW A C ops nums vals st ce pk pv n 0 sp d pr tk 0 tr)) () hx hb hr hlk hS hK rfl hP hD dM_empty_16

set_option maxRecDepth 20000 in
set_option maxHeartbeats 4000000 in
theorem c_M_value_ok (l : Launch) (D : va_G) (A : Nat → Nat) (C : Nat → ClassId) (sz : Nat) (ops : Nat → Int32) (nums : Nat → Int64) (vals : Nat → Int64) (st : Nat → Int64) (ce : Nat → Int64) (pk : Nat → Int64) (pv : Nat → Int64) (n : Nat) (vc : Nat) (sp : Nat) (d : Nat) (pr : Nat) (tk : Nat) (th : Nat) (tr : Nat) (x : Int64) (hv : vc < 40) : Met l yM_value (.code yM_value cM_value 3 (some .int) :: WS) (rmk 0 0) (va_Pc [.ref (A 0), .long x] (zP D (mT C) sz (mW A C ops nums vals st ce pk pv n vc sp d pr tk th tr))) (va_Qi (fun (r : Int32) (_ : Unit) => r = nI (vc + 1)) (fun (_ : Unit) t => zB D (mT C) (va_A (mW A C ops nums vals st ce pk pv n vc sp d pr tk th tr) sz) (mW A C ops nums (vp_updL vals vc x) st ce pk pv n (vc + 1) sp d pr tk 0 tr) t) (va_A (mW A C ops nums vals st ce pk pv n vc sp d pr tk th tr) sz)) 0 0 (va_A (mW A C ops nums vals st ce pk pv n vc sp d pr tk th tr) sz) := by
  refine zEnt (Qc := fun F => (va_Qi (fun (r : Int32) (_ : Unit) => r = nI (vc + 1)) (fun (_ : Unit) t => zB D (mT C) F (mW A C ops nums (vp_updL vals vc x) st ce pk pv n (vc + 1) sp d pr tk 0 tr) t) F)) (by decide) (Nat.le_of_ble_eq_true rfl) (fun p e s m below meth c ls F hx hb hr hlk hml hnm hw hown hsz hP hK hD hA hl => ?_)
  have hS : va_S F s.heap s.heap [] := va_S.rf
  have hown : s.vm.findClass RM = some m.cls := hown
  have hl : lv_has ls 3 [(0, .ref (A 0)), (1, .long x)] := hl
  refine lv_aload_n hx hb dM_value_0 rfl (lv_at hl 0 rfl) ?_
  refine lv_aload_n hx hb dM_value_1 rfl (lv_at hl 0 rfl) ?_
  refine zGetM hx hb hw hown hK hP 0 rfl 8 (by decide) wf_M_43 rfl dM_value_2 ?_
  refine lv_bipush (v := nI 40) hx hb dM_value_5 (by decide) ?_
  refine zc_ne (tgt := 14) hx hb dM_value_7 rfl (by omega) (by omega) (fun _ => ?_) (fun q => absurd q (by omega))
  refine lv_iconst (v := nI 0) hx hb dM_value_14 (by decide) ?_
  refine zPutM hx hb hw hown hK hP hD hS 0 rfl 13 (by decide) wf_M_32 rfl rfl rfl (Nat.le_of_ble_eq_true rfl) dM_value_15 (fun H locs hP hD hS => ?_)
  replace hP : va_P D vwCl (mW A C ops nums vals st ce pk pv n vc sp d pr tk 0 tr) H := hP
  replace hD : va_D F (mW A C ops nums vals st ce pk pv n vc sp d pr tk 0 tr) := hD
  refine lv_aload_n hx hb dM_value_18 rfl (lv_at hl 0 rfl) ?_
  refine zGetM hx hb hw hown hK hP 0 rfl 13 (by decide) wf_M_32 rfl dM_value_19 ?_
  refine zi_le (tgt := 27) hx hb dM_value_22 rfl (by omega) (fun _ => ?_) (fun q => absurd q (by omega))
  refine lv_aload_n hx hb dM_value_27 rfl (lv_at hl 0 rfl) ?_
  refine zGetM hx hb hw hown hK hP 0 rfl 2 (by decide) wf_M_17 rfl dM_value_28 ?_
  refine lv_aload_n hx hb dM_value_31 rfl (lv_at hl 0 rfl) ?_
  refine zGetM hx hb hw hown hK hP 0 rfl 8 (by decide) wf_M_43 rfl dM_value_32 ?_
  refine lv_lload_n hx hb dM_value_35 rfl (lv_at hl 1 rfl) ?_
  refine zLast hx hb hK hP hD hS 3 2 rfl rfl (by omega) (by decide) dM_value_36 (fun H locs hP hD hS => ?_)
  replace hP : va_P D vwCl (mW A C ops nums (vp_updL vals vc x) st ce pk pv n vc sp d pr tk 0 tr) H := hP
  replace hD : va_D F (mW A C ops nums (vp_updL vals vc x) st ce pk pv n vc sp d pr tk 0 tr) := hD
  refine lv_aload_n hx hb dM_value_37 rfl (lv_at hl 0 rfl) ?_
  refine lv_dup hx hb dM_value_38 rfl ?_
  refine zGetM hx hb hw hown hK hP 0 rfl 8 (by decide) wf_M_43 rfl dM_value_39 ?_
  refine lv_iconst (v := nI 1) hx hb dM_value_42 (by decide) ?_
  refine lv_iadd hx hb dM_value_43 ?_
  refine zti (nI_add _ _) ?_
  refine zPutM hx hb hw hown hK hP hD hS 0 rfl 8 (by decide) wf_M_43 rfl rfl rfl (Nat.le_of_ble_eq_true rfl) dM_value_44 (fun H locs hP hD hS => ?_)
  replace hP : va_P D vwCl (mW A C ops nums (vp_updL vals vc x) st ce pk pv n (vc + 1) sp d pr tk 0 tr) H := hP
  replace hD : va_D F (mW A C ops nums (vp_updL vals vc x) st ce pk pv n (vc + 1) sp d pr tk 0 tr) := hD
  refine lv_aload_n hx hb dM_value_47 rfl (lv_at hl 0 rfl) ?_
  refine zGetM hx hb hw hown hK hP 0 rfl 8 (by decide) wf_M_43 rfl dM_value_48 ?_
  exact zIret (w' := fun (_ : Unit) => (mW A C ops nums (vp_updL vals vc x) st ce pk pv n (vc + 1) sp d pr tk 0 tr)) () hx hb hr hlk hS hK rfl hP hD dM_value_51

set_option maxRecDepth 20000 in
set_option maxHeartbeats 4000000 in
theorem c_M_value_full (l : Launch) (D : va_G) (A : Nat → Nat) (C : Nat → ClassId) (sz : Nat) (ops : Nat → Int32) (nums : Nat → Int64) (vals : Nat → Int64) (st : Nat → Int64) (ce : Nat → Int64) (pk : Nat → Int64) (pv : Nat → Int64) (n : Nat) (vc : Nat) (sp : Nat) (d : Nat) (pr : Nat) (tk : Nat) (th : Nat) (tr : Nat) (x : Int64) (hv : vc = 40) : Met l yM_value (.code yM_value cM_value 3 (some .int) :: WS) (rmk 0 0) (va_Pc [.ref (A 0), .long x] (zP D (mT C) sz (mW A C ops nums vals st ce pk pv n vc sp d pr tk th tr))) (va_Qi (fun (r : Int32) (_ : Unit) => r = nI 0) (fun (_ : Unit) t => zB D (mT C) (va_A (mW A C ops nums vals st ce pk pv n vc sp d pr tk th tr) sz) (mW A C ops nums vals st ce pk pv n vc sp d pr tk 1 tr) t) (va_A (mW A C ops nums vals st ce pk pv n vc sp d pr tk th tr) sz)) 0 0 (va_A (mW A C ops nums vals st ce pk pv n vc sp d pr tk th tr) sz) := by
  refine zEnt (Qc := fun F => (va_Qi (fun (r : Int32) (_ : Unit) => r = nI 0) (fun (_ : Unit) t => zB D (mT C) F (mW A C ops nums vals st ce pk pv n vc sp d pr tk 1 tr) t) F)) (by decide) (Nat.le_of_ble_eq_true rfl) (fun p e s m below meth c ls F hx hb hr hlk hml hnm hw hown hsz hP hK hD hA hl => ?_)
  have hS : va_S F s.heap s.heap [] := va_S.rf
  have hown : s.vm.findClass RM = some m.cls := hown
  have hl : lv_has ls 3 [(0, .ref (A 0)), (1, .long x)] := hl
  refine lv_aload_n hx hb dM_value_0 rfl (lv_at hl 0 rfl) ?_
  refine lv_aload_n hx hb dM_value_1 rfl (lv_at hl 0 rfl) ?_
  refine zGetM hx hb hw hown hK hP 0 rfl 8 (by decide) wf_M_43 rfl dM_value_2 ?_
  refine lv_bipush (v := nI 40) hx hb dM_value_5 (by decide) ?_
  refine zc_ne (tgt := 14) hx hb dM_value_7 rfl (by omega) (by omega) (fun q => absurd q (by omega)) (fun _ => ?_)
  refine lv_iconst (v := nI 1) hx hb dM_value_10 (by decide) ?_
  refine lv_goto (tgt := 15) hx hb dM_value_11 rfl ?_
  refine zPutM hx hb hw hown hK hP hD hS 0 rfl 13 (by decide) wf_M_32 rfl rfl rfl (Nat.le_of_ble_eq_true rfl) dM_value_15 (fun H locs hP hD hS => ?_)
  replace hP : va_P D vwCl (mW A C ops nums vals st ce pk pv n vc sp d pr tk 1 tr) H := hP
  replace hD : va_D F (mW A C ops nums vals st ce pk pv n vc sp d pr tk 1 tr) := hD
  refine lv_aload_n hx hb dM_value_18 rfl (lv_at hl 0 rfl) ?_
  refine zGetM hx hb hw hown hK hP 0 rfl 13 (by decide) wf_M_32 rfl dM_value_19 ?_
  refine zi_le (tgt := 27) hx hb dM_value_22 rfl (by omega) (fun q => absurd q (by omega)) (fun _ => ?_)
  refine lv_iconst (v := nI 0) hx hb dM_value_25 (by decide) ?_
  exact zIret (w' := fun (_ : Unit) => (mW A C ops nums vals st ce pk pv n vc sp d pr tk 1 tr)) () hx hb hr hlk hS hK rfl hP hD dM_value_26

set_option maxRecDepth 20000 in
set_option maxHeartbeats 4000000 in
theorem c_M_code_ok (l : Launch) (D : va_G) (A : Nat → Nat) (C : Nat → ClassId) (sz : Nat) (ops : Nat → Int32) (nums : Nat → Int64) (vals : Nat → Int64) (st : Nat → Int64) (ce : Nat → Int64) (pk : Nat → Int64) (pv : Nat → Int64) (n : Nat) (vc : Nat) (sp : Nat) (d : Nat) (pr : Nat) (tk : Nat) (th : Nat) (tr : Nat) (o : Int32) (x : Int64) (hok : okM o x) (hn : n < 40) : Met l yM_code (.code yM_code cM_code 5 (some .int) :: WS) (rmk 1 23) (va_Pc [.ref (A 0), .int o, .long x] (zP D (mT C) sz (mW A C ops nums vals st ce pk pv n vc sp d pr tk th tr))) (va_Qi (fun (r : Int32) (_ : Unit) => r = nI (n + 1)) (fun (_ : Unit) t => zB D (mT C) (va_A (mW A C ops nums vals st ce pk pv n vc sp d pr tk th tr) sz) (mW A C (upd ops n o) (vp_updL nums n x) vals st ce pk pv (n + 1) vc sp d pr tk 0 tr) t) (va_A (mW A C ops nums vals st ce pk pv n vc sp d pr tk th tr) sz)) 0 0 (va_A (mW A C ops nums vals st ce pk pv n vc sp d pr tk th tr) sz) := by
  refine zEnt (Qc := fun F => (va_Qi (fun (r : Int32) (_ : Unit) => r = nI (n + 1)) (fun (_ : Unit) t => zB D (mT C) F (mW A C (upd ops n o) (vp_updL nums n x) vals st ce pk pv (n + 1) vc sp d pr tk 0 tr) t) F)) (by decide) (Nat.le_of_ble_eq_true rfl) (fun p e s m below meth c ls F hx hb hr hlk hml hnm hw hown hsz hP hK hD hA hl => ?_)
  have hS : va_S F s.heap s.heap [] := va_S.rf
  have hown : s.vm.findClass RM = some m.cls := hown
  have hl : lv_has ls 5 [(0, .ref (A 0)), (1, .int o), (2, .long x)] := hl
  refine lv_iload_n hx hb dM_code_0 rfl (lv_at hl 1 rfl) ?_
  refine lv_i2l hx hb dM_code_1 rfl ?_
  refine lv_iconst (v := nI 0) hx hb dM_code_2 (by decide) ?_
  refine lv_bipush (v := nI 18) hx hb dM_code_3 (by decide) ?_
  refine zAfti (wa := []) (w := []) (wb := (mW A C ops nums vals st ce pk pv n vc sp d pr tk th tr)) (zRunS (wa := []) (w := []) (wb := (mW A C ops nums vals st ce pk pv n vc sp d pr tk th tr)) ⟨hx, hb, hml, hown, hw⟩ (c_in l D _ o.toInt64 0 18 (by decide) (by decide)) wm_M_36 wt_M_in wn_M wc_M_in ⟨rfl, rfl⟩ wd_M_in ⟨by decide, by decide⟩ (hK.sub [] rfl) hP hD hl.1 rfl (Nat.le_of_ble_eq_true rfl) dM_code_5 ⟨by decide, by decide⟩) hP hD hS hA (fun r u H locs hp hP hD hS => ?_)
  replace hP : va_P D vwCl (mW A C ops nums vals st ce pk pv n vc sp d pr tk th tr) H := hP
  replace hD : va_D F (mW A C ops nums vals st ce pk pv n vc sp d pr tk th tr) := hD
  rcases hp with ⟨rfl, g5⟩ | ⟨rfl, g5⟩
  · refine zi_eq (tgt := 56) hx hb dM_code_8 rfl (by omega) (fun q => absurd q (by omega)) (fun _ => ?_)
    refine lv_iload_n hx hb dM_code_11 rfl (lv_at hl 1 rfl) ?_
    refine lv_iconst (v := nI 4) hx hb dM_code_12 (by decide) ?_
    refine lv_icmp_eq (tgt := 21) hx hb dM_code_13 rfl (fun h13 => ?_) (fun h13 => ?_)
    · refine lv_lload_n hx hb dM_code_21 rfl (lv_at hl 2 rfl) ?_
      refine lv_iconst (v := nI 0) hx hb dM_code_22 (by decide) ?_
      refine lv_iconst (v := nI 3) hx hb dM_code_23 (by decide) ?_
      refine zAfti (wa := []) (w := []) (wb := (mW A C ops nums vals st ce pk pv n vc sp d pr tk th tr)) (zRunS (wa := []) (w := []) (wb := (mW A C ops nums vals st ce pk pv n vc sp d pr tk th tr)) ⟨hx, hb, hml, hown, hw⟩ (c_in l D _ x 0 3 (by decide) (by decide)) wm_M_36 wt_M_in wn_M wc_M_in ⟨rfl, rfl⟩ wd_M_in ⟨by decide, by decide⟩ (hK.sub [] rfl) hP hD hl.1 rfl (Nat.le_of_ble_eq_true rfl) dM_code_24 ⟨by decide, by decide⟩) hP hD hS hA (fun r u H locs hp hP hD hS => ?_)
      replace hP : va_P D vwCl (mW A C ops nums vals st ce pk pv n vc sp d pr tk th tr) H := hP
      replace hD : va_D F (mW A C ops nums vals st ce pk pv n vc sp d pr tk th tr) := hD
      rcases hp with ⟨rfl, g24⟩ | ⟨rfl, g24⟩
      · refine zi_eq (tgt := 56) hx hb dM_code_27 rfl (by omega) (fun q => absurd q (by omega)) (fun _ => ?_)
        refine lv_iload_n hx hb dM_code_30 rfl (lv_at hl 1 rfl) ?_
        refine lv_bipush (v := nI 15) hx hb dM_code_31 (by decide) ?_
        refine lv_icmp_eq (tgt := 42) hx hb dM_code_33 rfl (fun h33 => ?_) (fun h33 => ?_)
        · refine lv_lload_n hx hb dM_code_42 rfl (lv_at hl 2 rfl) ?_
          refine lv_iconst (v := nI 0) hx hb dM_code_43 (by decide) ?_
          refine lv_bipush (v := nI 40) hx hb dM_code_44 (by decide) ?_
          refine zAfti (wa := []) (w := []) (wb := (mW A C ops nums vals st ce pk pv n vc sp d pr tk th tr)) (zRunS (wa := []) (w := []) (wb := (mW A C ops nums vals st ce pk pv n vc sp d pr tk th tr)) ⟨hx, hb, hml, hown, hw⟩ (c_in l D _ x 0 40 (by decide) (by decide)) wm_M_36 wt_M_in wn_M wc_M_in ⟨rfl, rfl⟩ wd_M_in ⟨by decide, by decide⟩ (hK.sub [] rfl) hP hD hl.1 rfl (Nat.le_of_ble_eq_true rfl) dM_code_46 ⟨by decide, by decide⟩) hP hD hS hA (fun r u H locs hp hP hD hS => ?_)
          replace hP : va_P D vwCl (mW A C ops nums vals st ce pk pv n vc sp d pr tk th tr) H := hP
          replace hD : va_D F (mW A C ops nums vals st ce pk pv n vc sp d pr tk th tr) := hD
          rcases hp with ⟨rfl, g46⟩ | ⟨rfl, g46⟩
          · refine zi_eq (tgt := 56) hx hb dM_code_49 rfl (by omega) (fun q => absurd q (by omega)) (fun _ => ?_)
            refine lv_iconst (v := nI 1) hx hb dM_code_52 (by decide) ?_
            refine lv_goto (tgt := 57) hx hb dM_code_53 rfl ?_
            refine lv_istore hx hb dM_code_57 hl (by decide) rfl (fun ls hl => ?_)
            have hl : lv_has ls 5 [(4, .int (nI 1)), (0, .ref (A 0)), (1, .int o), (2, .long x)] := hl
            refine lv_aload_n hx hb dM_code_59 rfl (lv_at hl 1 rfl) ?_
            refine lv_iload hx hb dM_code_60 (lv_at hl 0 rfl) ?_
            refine zi_ne (tgt := 69) hx hb dM_code_62 rfl (by omega) (fun _ => ?_) (fun q => absurd q (by omega))
            refine lv_aload_n hx hb dM_code_69 rfl (lv_at hl 1 rfl) ?_
            refine zGetM hx hb hw hown hK hP 0 rfl 7 (by decide) wf_M_40 rfl dM_code_70 ?_
            refine lv_bipush (v := nI 40) hx hb dM_code_73 (by decide) ?_
            refine zc_ne (tgt := 82) hx hb dM_code_75 rfl (by omega) (by omega) (fun _ => ?_) (fun q => absurd q (by omega))
            refine lv_iconst (v := nI 0) hx hb dM_code_82 (by decide) ?_
            refine zPutM hx hb hw hown hK hP hD hS 0 rfl 13 (by decide) wf_M_32 rfl rfl rfl (Nat.le_of_ble_eq_true rfl) dM_code_83 (fun H locs hP hD hS => ?_)
            replace hP : va_P D vwCl (mW A C ops nums vals st ce pk pv n vc sp d pr tk 0 tr) H := hP
            replace hD : va_D F (mW A C ops nums vals st ce pk pv n vc sp d pr tk 0 tr) := hD
            refine lv_aload_n hx hb dM_code_86 rfl (lv_at hl 1 rfl) ?_
            refine zGetM hx hb hw hown hK hP 0 rfl 13 (by decide) wf_M_32 rfl dM_code_87 ?_
            refine zi_le (tgt := 95) hx hb dM_code_90 rfl (by omega) (fun _ => ?_) (fun q => absurd q (by omega))
            refine lv_aload_n hx hb dM_code_95 rfl (lv_at hl 1 rfl) ?_
            refine zGetM hx hb hw hown hK hP 0 rfl 0 (by decide) wf_M_9 rfl dM_code_96 ?_
            refine lv_aload_n hx hb dM_code_99 rfl (lv_at hl 1 rfl) ?_
            refine zGetM hx hb hw hown hK hP 0 rfl 7 (by decide) wf_M_40 rfl dM_code_100 ?_
            refine lv_iload_n hx hb dM_code_103 rfl (lv_at hl 2 rfl) ?_
            refine zIast hx hb hK hP hD hS 1 0 rfl rfl (by omega) (by decide) dM_code_104 (fun H locs hP hD hS => ?_)
            replace hP : va_P D vwCl (mW A C (upd ops n o) nums vals st ce pk pv n vc sp d pr tk 0 tr) H := hP
            replace hD : va_D F (mW A C (upd ops n o) nums vals st ce pk pv n vc sp d pr tk 0 tr) := hD
            refine lv_aload_n hx hb dM_code_105 rfl (lv_at hl 1 rfl) ?_
            refine zGetM hx hb hw hown hK hP 0 rfl 1 (by decide) wf_M_13 rfl dM_code_106 ?_
            refine lv_aload_n hx hb dM_code_109 rfl (lv_at hl 1 rfl) ?_
            refine zGetM hx hb hw hown hK hP 0 rfl 7 (by decide) wf_M_40 rfl dM_code_110 ?_
            refine lv_lload_n hx hb dM_code_113 rfl (lv_at hl 3 rfl) ?_
            refine zLast hx hb hK hP hD hS 2 1 rfl rfl (by omega) (by decide) dM_code_114 (fun H locs hP hD hS => ?_)
            replace hP : va_P D vwCl (mW A C (upd ops n o) (vp_updL nums n x) vals st ce pk pv n vc sp d pr tk 0 tr) H := hP
            replace hD : va_D F (mW A C (upd ops n o) (vp_updL nums n x) vals st ce pk pv n vc sp d pr tk 0 tr) := hD
            refine lv_aload_n hx hb dM_code_115 rfl (lv_at hl 1 rfl) ?_
            refine lv_dup hx hb dM_code_116 rfl ?_
            refine zGetM hx hb hw hown hK hP 0 rfl 7 (by decide) wf_M_40 rfl dM_code_117 ?_
            refine lv_iconst (v := nI 1) hx hb dM_code_120 (by decide) ?_
            refine lv_iadd hx hb dM_code_121 ?_
            refine zti (nI_add _ _) ?_
            refine zPutM hx hb hw hown hK hP hD hS 0 rfl 7 (by decide) wf_M_40 rfl rfl rfl (Nat.le_of_ble_eq_true rfl) dM_code_122 (fun H locs hP hD hS => ?_)
            replace hP : va_P D vwCl (mW A C (upd ops n o) (vp_updL nums n x) vals st ce pk pv (n + 1) vc sp d pr tk 0 tr) H := hP
            replace hD : va_D F (mW A C (upd ops n o) (vp_updL nums n x) vals st ce pk pv (n + 1) vc sp d pr tk 0 tr) := hD
            refine lv_aload_n hx hb dM_code_125 rfl (lv_at hl 1 rfl) ?_
            refine zGetM hx hb hw hown hK hP 0 rfl 7 (by decide) wf_M_40 rfl dM_code_126 ?_
            exact zIret (w' := fun (_ : Unit) => (mW A C (upd ops n o) (vp_updL nums n x) vals st ce pk pv (n + 1) vc sp d pr tk 0 tr)) () hx hb hr hlk hS hK rfl hP hD dM_code_129
          · refine zi_eq (tgt := 56) hx hb dM_code_49 rfl (by omega) (fun _ => ?_) (fun q => absurd q (by omega))
            refine lv_iconst (v := nI 0) hx hb dM_code_56 (by decide) ?_
            refine lv_istore hx hb dM_code_57 hl (by decide) rfl (fun ls hl => ?_)
            have hl : lv_has ls 5 [(4, .int (nI 0)), (0, .ref (A 0)), (1, .int o), (2, .long x)] := hl
            exact absurd (show ¬ okM o x by clear hl hx hb hr hlk hml hnm hw hown hP hK hD hA hS; unfold okM; grind) (fun z => z hok)
        · refine lv_iload_n hx hb dM_code_36 rfl (lv_at hl 1 rfl) ?_
          refine lv_bipush (v := nI 16) hx hb dM_code_37 (by decide) ?_
          refine lv_icmp_ne (tgt := 52) hx hb dM_code_39 rfl (fun h39 => ?_) (fun h39 => ?_)
          · refine lv_iconst (v := nI 1) hx hb dM_code_52 (by decide) ?_
            refine lv_goto (tgt := 57) hx hb dM_code_53 rfl ?_
            refine lv_istore hx hb dM_code_57 hl (by decide) rfl (fun ls hl => ?_)
            have hl : lv_has ls 5 [(4, .int (nI 1)), (0, .ref (A 0)), (1, .int o), (2, .long x)] := hl
            refine lv_aload_n hx hb dM_code_59 rfl (lv_at hl 1 rfl) ?_
            refine lv_iload hx hb dM_code_60 (lv_at hl 0 rfl) ?_
            refine zi_ne (tgt := 69) hx hb dM_code_62 rfl (by omega) (fun _ => ?_) (fun q => absurd q (by omega))
            refine lv_aload_n hx hb dM_code_69 rfl (lv_at hl 1 rfl) ?_
            refine zGetM hx hb hw hown hK hP 0 rfl 7 (by decide) wf_M_40 rfl dM_code_70 ?_
            refine lv_bipush (v := nI 40) hx hb dM_code_73 (by decide) ?_
            refine zc_ne (tgt := 82) hx hb dM_code_75 rfl (by omega) (by omega) (fun _ => ?_) (fun q => absurd q (by omega))
            refine lv_iconst (v := nI 0) hx hb dM_code_82 (by decide) ?_
            refine zPutM hx hb hw hown hK hP hD hS 0 rfl 13 (by decide) wf_M_32 rfl rfl rfl (Nat.le_of_ble_eq_true rfl) dM_code_83 (fun H locs hP hD hS => ?_)
            replace hP : va_P D vwCl (mW A C ops nums vals st ce pk pv n vc sp d pr tk 0 tr) H := hP
            replace hD : va_D F (mW A C ops nums vals st ce pk pv n vc sp d pr tk 0 tr) := hD
            refine lv_aload_n hx hb dM_code_86 rfl (lv_at hl 1 rfl) ?_
            refine zGetM hx hb hw hown hK hP 0 rfl 13 (by decide) wf_M_32 rfl dM_code_87 ?_
            refine zi_le (tgt := 95) hx hb dM_code_90 rfl (by omega) (fun _ => ?_) (fun q => absurd q (by omega))
            refine lv_aload_n hx hb dM_code_95 rfl (lv_at hl 1 rfl) ?_
            refine zGetM hx hb hw hown hK hP 0 rfl 0 (by decide) wf_M_9 rfl dM_code_96 ?_
            refine lv_aload_n hx hb dM_code_99 rfl (lv_at hl 1 rfl) ?_
            refine zGetM hx hb hw hown hK hP 0 rfl 7 (by decide) wf_M_40 rfl dM_code_100 ?_
            refine lv_iload_n hx hb dM_code_103 rfl (lv_at hl 2 rfl) ?_
            refine zIast hx hb hK hP hD hS 1 0 rfl rfl (by omega) (by decide) dM_code_104 (fun H locs hP hD hS => ?_)
            replace hP : va_P D vwCl (mW A C (upd ops n o) nums vals st ce pk pv n vc sp d pr tk 0 tr) H := hP
            replace hD : va_D F (mW A C (upd ops n o) nums vals st ce pk pv n vc sp d pr tk 0 tr) := hD
            refine lv_aload_n hx hb dM_code_105 rfl (lv_at hl 1 rfl) ?_
            refine zGetM hx hb hw hown hK hP 0 rfl 1 (by decide) wf_M_13 rfl dM_code_106 ?_
            refine lv_aload_n hx hb dM_code_109 rfl (lv_at hl 1 rfl) ?_
            refine zGetM hx hb hw hown hK hP 0 rfl 7 (by decide) wf_M_40 rfl dM_code_110 ?_
            refine lv_lload_n hx hb dM_code_113 rfl (lv_at hl 3 rfl) ?_
            refine zLast hx hb hK hP hD hS 2 1 rfl rfl (by omega) (by decide) dM_code_114 (fun H locs hP hD hS => ?_)
            replace hP : va_P D vwCl (mW A C (upd ops n o) (vp_updL nums n x) vals st ce pk pv n vc sp d pr tk 0 tr) H := hP
            replace hD : va_D F (mW A C (upd ops n o) (vp_updL nums n x) vals st ce pk pv n vc sp d pr tk 0 tr) := hD
            refine lv_aload_n hx hb dM_code_115 rfl (lv_at hl 1 rfl) ?_
            refine lv_dup hx hb dM_code_116 rfl ?_
            refine zGetM hx hb hw hown hK hP 0 rfl 7 (by decide) wf_M_40 rfl dM_code_117 ?_
            refine lv_iconst (v := nI 1) hx hb dM_code_120 (by decide) ?_
            refine lv_iadd hx hb dM_code_121 ?_
            refine zti (nI_add _ _) ?_
            refine zPutM hx hb hw hown hK hP hD hS 0 rfl 7 (by decide) wf_M_40 rfl rfl rfl (Nat.le_of_ble_eq_true rfl) dM_code_122 (fun H locs hP hD hS => ?_)
            replace hP : va_P D vwCl (mW A C (upd ops n o) (vp_updL nums n x) vals st ce pk pv (n + 1) vc sp d pr tk 0 tr) H := hP
            replace hD : va_D F (mW A C (upd ops n o) (vp_updL nums n x) vals st ce pk pv (n + 1) vc sp d pr tk 0 tr) := hD
            refine lv_aload_n hx hb dM_code_125 rfl (lv_at hl 1 rfl) ?_
            refine zGetM hx hb hw hown hK hP 0 rfl 7 (by decide) wf_M_40 rfl dM_code_126 ?_
            exact zIret (w' := fun (_ : Unit) => (mW A C (upd ops n o) (vp_updL nums n x) vals st ce pk pv (n + 1) vc sp d pr tk 0 tr)) () hx hb hr hlk hS hK rfl hP hD dM_code_129
          · refine lv_lload_n hx hb dM_code_42 rfl (lv_at hl 2 rfl) ?_
            refine lv_iconst (v := nI 0) hx hb dM_code_43 (by decide) ?_
            refine lv_bipush (v := nI 40) hx hb dM_code_44 (by decide) ?_
            refine zAfti (wa := []) (w := []) (wb := (mW A C ops nums vals st ce pk pv n vc sp d pr tk th tr)) (zRunS (wa := []) (w := []) (wb := (mW A C ops nums vals st ce pk pv n vc sp d pr tk th tr)) ⟨hx, hb, hml, hown, hw⟩ (c_in l D _ x 0 40 (by decide) (by decide)) wm_M_36 wt_M_in wn_M wc_M_in ⟨rfl, rfl⟩ wd_M_in ⟨by decide, by decide⟩ (hK.sub [] rfl) hP hD hl.1 rfl (Nat.le_of_ble_eq_true rfl) dM_code_46 ⟨by decide, by decide⟩) hP hD hS hA (fun r u H locs hp hP hD hS => ?_)
            replace hP : va_P D vwCl (mW A C ops nums vals st ce pk pv n vc sp d pr tk th tr) H := hP
            replace hD : va_D F (mW A C ops nums vals st ce pk pv n vc sp d pr tk th tr) := hD
            rcases hp with ⟨rfl, g46⟩ | ⟨rfl, g46⟩
            · refine zi_eq (tgt := 56) hx hb dM_code_49 rfl (by omega) (fun q => absurd q (by omega)) (fun _ => ?_)
              refine lv_iconst (v := nI 1) hx hb dM_code_52 (by decide) ?_
              refine lv_goto (tgt := 57) hx hb dM_code_53 rfl ?_
              refine lv_istore hx hb dM_code_57 hl (by decide) rfl (fun ls hl => ?_)
              have hl : lv_has ls 5 [(4, .int (nI 1)), (0, .ref (A 0)), (1, .int o), (2, .long x)] := hl
              refine lv_aload_n hx hb dM_code_59 rfl (lv_at hl 1 rfl) ?_
              refine lv_iload hx hb dM_code_60 (lv_at hl 0 rfl) ?_
              refine zi_ne (tgt := 69) hx hb dM_code_62 rfl (by omega) (fun _ => ?_) (fun q => absurd q (by omega))
              refine lv_aload_n hx hb dM_code_69 rfl (lv_at hl 1 rfl) ?_
              refine zGetM hx hb hw hown hK hP 0 rfl 7 (by decide) wf_M_40 rfl dM_code_70 ?_
              refine lv_bipush (v := nI 40) hx hb dM_code_73 (by decide) ?_
              refine zc_ne (tgt := 82) hx hb dM_code_75 rfl (by omega) (by omega) (fun _ => ?_) (fun q => absurd q (by omega))
              refine lv_iconst (v := nI 0) hx hb dM_code_82 (by decide) ?_
              refine zPutM hx hb hw hown hK hP hD hS 0 rfl 13 (by decide) wf_M_32 rfl rfl rfl (Nat.le_of_ble_eq_true rfl) dM_code_83 (fun H locs hP hD hS => ?_)
              replace hP : va_P D vwCl (mW A C ops nums vals st ce pk pv n vc sp d pr tk 0 tr) H := hP
              replace hD : va_D F (mW A C ops nums vals st ce pk pv n vc sp d pr tk 0 tr) := hD
              refine lv_aload_n hx hb dM_code_86 rfl (lv_at hl 1 rfl) ?_
              refine zGetM hx hb hw hown hK hP 0 rfl 13 (by decide) wf_M_32 rfl dM_code_87 ?_
              refine zi_le (tgt := 95) hx hb dM_code_90 rfl (by omega) (fun _ => ?_) (fun q => absurd q (by omega))
              refine lv_aload_n hx hb dM_code_95 rfl (lv_at hl 1 rfl) ?_
              refine zGetM hx hb hw hown hK hP 0 rfl 0 (by decide) wf_M_9 rfl dM_code_96 ?_
              refine lv_aload_n hx hb dM_code_99 rfl (lv_at hl 1 rfl) ?_
              refine zGetM hx hb hw hown hK hP 0 rfl 7 (by decide) wf_M_40 rfl dM_code_100 ?_
              refine lv_iload_n hx hb dM_code_103 rfl (lv_at hl 2 rfl) ?_
              refine zIast hx hb hK hP hD hS 1 0 rfl rfl (by omega) (by decide) dM_code_104 (fun H locs hP hD hS => ?_)
              replace hP : va_P D vwCl (mW A C (upd ops n o) nums vals st ce pk pv n vc sp d pr tk 0 tr) H := hP
              replace hD : va_D F (mW A C (upd ops n o) nums vals st ce pk pv n vc sp d pr tk 0 tr) := hD
              refine lv_aload_n hx hb dM_code_105 rfl (lv_at hl 1 rfl) ?_
              refine zGetM hx hb hw hown hK hP 0 rfl 1 (by decide) wf_M_13 rfl dM_code_106 ?_
              refine lv_aload_n hx hb dM_code_109 rfl (lv_at hl 1 rfl) ?_
              refine zGetM hx hb hw hown hK hP 0 rfl 7 (by decide) wf_M_40 rfl dM_code_110 ?_
              refine lv_lload_n hx hb dM_code_113 rfl (lv_at hl 3 rfl) ?_
              refine zLast hx hb hK hP hD hS 2 1 rfl rfl (by omega) (by decide) dM_code_114 (fun H locs hP hD hS => ?_)
              replace hP : va_P D vwCl (mW A C (upd ops n o) (vp_updL nums n x) vals st ce pk pv n vc sp d pr tk 0 tr) H := hP
              replace hD : va_D F (mW A C (upd ops n o) (vp_updL nums n x) vals st ce pk pv n vc sp d pr tk 0 tr) := hD
              refine lv_aload_n hx hb dM_code_115 rfl (lv_at hl 1 rfl) ?_
              refine lv_dup hx hb dM_code_116 rfl ?_
              refine zGetM hx hb hw hown hK hP 0 rfl 7 (by decide) wf_M_40 rfl dM_code_117 ?_
              refine lv_iconst (v := nI 1) hx hb dM_code_120 (by decide) ?_
              refine lv_iadd hx hb dM_code_121 ?_
              refine zti (nI_add _ _) ?_
              refine zPutM hx hb hw hown hK hP hD hS 0 rfl 7 (by decide) wf_M_40 rfl rfl rfl (Nat.le_of_ble_eq_true rfl) dM_code_122 (fun H locs hP hD hS => ?_)
              replace hP : va_P D vwCl (mW A C (upd ops n o) (vp_updL nums n x) vals st ce pk pv (n + 1) vc sp d pr tk 0 tr) H := hP
              replace hD : va_D F (mW A C (upd ops n o) (vp_updL nums n x) vals st ce pk pv (n + 1) vc sp d pr tk 0 tr) := hD
              refine lv_aload_n hx hb dM_code_125 rfl (lv_at hl 1 rfl) ?_
              refine zGetM hx hb hw hown hK hP 0 rfl 7 (by decide) wf_M_40 rfl dM_code_126 ?_
              exact zIret (w' := fun (_ : Unit) => (mW A C (upd ops n o) (vp_updL nums n x) vals st ce pk pv (n + 1) vc sp d pr tk 0 tr)) () hx hb hr hlk hS hK rfl hP hD dM_code_129
            · refine zi_eq (tgt := 56) hx hb dM_code_49 rfl (by omega) (fun _ => ?_) (fun q => absurd q (by omega))
              refine lv_iconst (v := nI 0) hx hb dM_code_56 (by decide) ?_
              refine lv_istore hx hb dM_code_57 hl (by decide) rfl (fun ls hl => ?_)
              have hl : lv_has ls 5 [(4, .int (nI 0)), (0, .ref (A 0)), (1, .int o), (2, .long x)] := hl
              exact absurd (show ¬ okM o x by clear hl hx hb hr hlk hml hnm hw hown hP hK hD hA hS; unfold okM; grind) (fun z => z hok)
      · refine zi_eq (tgt := 56) hx hb dM_code_27 rfl (by omega) (fun _ => ?_) (fun q => absurd q (by omega))
        refine lv_iconst (v := nI 0) hx hb dM_code_56 (by decide) ?_
        refine lv_istore hx hb dM_code_57 hl (by decide) rfl (fun ls hl => ?_)
        have hl : lv_has ls 5 [(4, .int (nI 0)), (0, .ref (A 0)), (1, .int o), (2, .long x)] := hl
        exact absurd (show ¬ okM o x by clear hl hx hb hr hlk hml hnm hw hown hP hK hD hA hS; unfold okM; grind) (fun z => z hok)
    · refine lv_iload_n hx hb dM_code_16 rfl (lv_at hl 1 rfl) ?_
      refine lv_iconst (v := nI 5) hx hb dM_code_17 (by decide) ?_
      refine lv_icmp_ne (tgt := 30) hx hb dM_code_18 rfl (fun h18 => ?_) (fun h18 => ?_)
      · refine lv_iload_n hx hb dM_code_30 rfl (lv_at hl 1 rfl) ?_
        refine lv_bipush (v := nI 15) hx hb dM_code_31 (by decide) ?_
        refine lv_icmp_eq (tgt := 42) hx hb dM_code_33 rfl (fun h33 => ?_) (fun h33 => ?_)
        · refine lv_lload_n hx hb dM_code_42 rfl (lv_at hl 2 rfl) ?_
          refine lv_iconst (v := nI 0) hx hb dM_code_43 (by decide) ?_
          refine lv_bipush (v := nI 40) hx hb dM_code_44 (by decide) ?_
          refine zAfti (wa := []) (w := []) (wb := (mW A C ops nums vals st ce pk pv n vc sp d pr tk th tr)) (zRunS (wa := []) (w := []) (wb := (mW A C ops nums vals st ce pk pv n vc sp d pr tk th tr)) ⟨hx, hb, hml, hown, hw⟩ (c_in l D _ x 0 40 (by decide) (by decide)) wm_M_36 wt_M_in wn_M wc_M_in ⟨rfl, rfl⟩ wd_M_in ⟨by decide, by decide⟩ (hK.sub [] rfl) hP hD hl.1 rfl (Nat.le_of_ble_eq_true rfl) dM_code_46 ⟨by decide, by decide⟩) hP hD hS hA (fun r u H locs hp hP hD hS => ?_)
          replace hP : va_P D vwCl (mW A C ops nums vals st ce pk pv n vc sp d pr tk th tr) H := hP
          replace hD : va_D F (mW A C ops nums vals st ce pk pv n vc sp d pr tk th tr) := hD
          rcases hp with ⟨rfl, g46⟩ | ⟨rfl, g46⟩
          · refine zi_eq (tgt := 56) hx hb dM_code_49 rfl (by omega) (fun q => absurd q (by omega)) (fun _ => ?_)
            refine lv_iconst (v := nI 1) hx hb dM_code_52 (by decide) ?_
            refine lv_goto (tgt := 57) hx hb dM_code_53 rfl ?_
            refine lv_istore hx hb dM_code_57 hl (by decide) rfl (fun ls hl => ?_)
            have hl : lv_has ls 5 [(4, .int (nI 1)), (0, .ref (A 0)), (1, .int o), (2, .long x)] := hl
            refine lv_aload_n hx hb dM_code_59 rfl (lv_at hl 1 rfl) ?_
            refine lv_iload hx hb dM_code_60 (lv_at hl 0 rfl) ?_
            refine zi_ne (tgt := 69) hx hb dM_code_62 rfl (by omega) (fun _ => ?_) (fun q => absurd q (by omega))
            refine lv_aload_n hx hb dM_code_69 rfl (lv_at hl 1 rfl) ?_
            refine zGetM hx hb hw hown hK hP 0 rfl 7 (by decide) wf_M_40 rfl dM_code_70 ?_
            refine lv_bipush (v := nI 40) hx hb dM_code_73 (by decide) ?_
            refine zc_ne (tgt := 82) hx hb dM_code_75 rfl (by omega) (by omega) (fun _ => ?_) (fun q => absurd q (by omega))
            refine lv_iconst (v := nI 0) hx hb dM_code_82 (by decide) ?_
            refine zPutM hx hb hw hown hK hP hD hS 0 rfl 13 (by decide) wf_M_32 rfl rfl rfl (Nat.le_of_ble_eq_true rfl) dM_code_83 (fun H locs hP hD hS => ?_)
            replace hP : va_P D vwCl (mW A C ops nums vals st ce pk pv n vc sp d pr tk 0 tr) H := hP
            replace hD : va_D F (mW A C ops nums vals st ce pk pv n vc sp d pr tk 0 tr) := hD
            refine lv_aload_n hx hb dM_code_86 rfl (lv_at hl 1 rfl) ?_
            refine zGetM hx hb hw hown hK hP 0 rfl 13 (by decide) wf_M_32 rfl dM_code_87 ?_
            refine zi_le (tgt := 95) hx hb dM_code_90 rfl (by omega) (fun _ => ?_) (fun q => absurd q (by omega))
            refine lv_aload_n hx hb dM_code_95 rfl (lv_at hl 1 rfl) ?_
            refine zGetM hx hb hw hown hK hP 0 rfl 0 (by decide) wf_M_9 rfl dM_code_96 ?_
            refine lv_aload_n hx hb dM_code_99 rfl (lv_at hl 1 rfl) ?_
            refine zGetM hx hb hw hown hK hP 0 rfl 7 (by decide) wf_M_40 rfl dM_code_100 ?_
            refine lv_iload_n hx hb dM_code_103 rfl (lv_at hl 2 rfl) ?_
            refine zIast hx hb hK hP hD hS 1 0 rfl rfl (by omega) (by decide) dM_code_104 (fun H locs hP hD hS => ?_)
            replace hP : va_P D vwCl (mW A C (upd ops n o) nums vals st ce pk pv n vc sp d pr tk 0 tr) H := hP
            replace hD : va_D F (mW A C (upd ops n o) nums vals st ce pk pv n vc sp d pr tk 0 tr) := hD
            refine lv_aload_n hx hb dM_code_105 rfl (lv_at hl 1 rfl) ?_
            refine zGetM hx hb hw hown hK hP 0 rfl 1 (by decide) wf_M_13 rfl dM_code_106 ?_
            refine lv_aload_n hx hb dM_code_109 rfl (lv_at hl 1 rfl) ?_
            refine zGetM hx hb hw hown hK hP 0 rfl 7 (by decide) wf_M_40 rfl dM_code_110 ?_
            refine lv_lload_n hx hb dM_code_113 rfl (lv_at hl 3 rfl) ?_
            refine zLast hx hb hK hP hD hS 2 1 rfl rfl (by omega) (by decide) dM_code_114 (fun H locs hP hD hS => ?_)
            replace hP : va_P D vwCl (mW A C (upd ops n o) (vp_updL nums n x) vals st ce pk pv n vc sp d pr tk 0 tr) H := hP
            replace hD : va_D F (mW A C (upd ops n o) (vp_updL nums n x) vals st ce pk pv n vc sp d pr tk 0 tr) := hD
            refine lv_aload_n hx hb dM_code_115 rfl (lv_at hl 1 rfl) ?_
            refine lv_dup hx hb dM_code_116 rfl ?_
            refine zGetM hx hb hw hown hK hP 0 rfl 7 (by decide) wf_M_40 rfl dM_code_117 ?_
            refine lv_iconst (v := nI 1) hx hb dM_code_120 (by decide) ?_
            refine lv_iadd hx hb dM_code_121 ?_
            refine zti (nI_add _ _) ?_
            refine zPutM hx hb hw hown hK hP hD hS 0 rfl 7 (by decide) wf_M_40 rfl rfl rfl (Nat.le_of_ble_eq_true rfl) dM_code_122 (fun H locs hP hD hS => ?_)
            replace hP : va_P D vwCl (mW A C (upd ops n o) (vp_updL nums n x) vals st ce pk pv (n + 1) vc sp d pr tk 0 tr) H := hP
            replace hD : va_D F (mW A C (upd ops n o) (vp_updL nums n x) vals st ce pk pv (n + 1) vc sp d pr tk 0 tr) := hD
            refine lv_aload_n hx hb dM_code_125 rfl (lv_at hl 1 rfl) ?_
            refine zGetM hx hb hw hown hK hP 0 rfl 7 (by decide) wf_M_40 rfl dM_code_126 ?_
            exact zIret (w' := fun (_ : Unit) => (mW A C (upd ops n o) (vp_updL nums n x) vals st ce pk pv (n + 1) vc sp d pr tk 0 tr)) () hx hb hr hlk hS hK rfl hP hD dM_code_129
          · refine zi_eq (tgt := 56) hx hb dM_code_49 rfl (by omega) (fun _ => ?_) (fun q => absurd q (by omega))
            refine lv_iconst (v := nI 0) hx hb dM_code_56 (by decide) ?_
            refine lv_istore hx hb dM_code_57 hl (by decide) rfl (fun ls hl => ?_)
            have hl : lv_has ls 5 [(4, .int (nI 0)), (0, .ref (A 0)), (1, .int o), (2, .long x)] := hl
            exact absurd (show ¬ okM o x by clear hl hx hb hr hlk hml hnm hw hown hP hK hD hA hS; unfold okM; grind) (fun z => z hok)
        · refine lv_iload_n hx hb dM_code_36 rfl (lv_at hl 1 rfl) ?_
          refine lv_bipush (v := nI 16) hx hb dM_code_37 (by decide) ?_
          refine lv_icmp_ne (tgt := 52) hx hb dM_code_39 rfl (fun h39 => ?_) (fun h39 => ?_)
          · refine lv_iconst (v := nI 1) hx hb dM_code_52 (by decide) ?_
            refine lv_goto (tgt := 57) hx hb dM_code_53 rfl ?_
            refine lv_istore hx hb dM_code_57 hl (by decide) rfl (fun ls hl => ?_)
            have hl : lv_has ls 5 [(4, .int (nI 1)), (0, .ref (A 0)), (1, .int o), (2, .long x)] := hl
            refine lv_aload_n hx hb dM_code_59 rfl (lv_at hl 1 rfl) ?_
            refine lv_iload hx hb dM_code_60 (lv_at hl 0 rfl) ?_
            refine zi_ne (tgt := 69) hx hb dM_code_62 rfl (by omega) (fun _ => ?_) (fun q => absurd q (by omega))
            refine lv_aload_n hx hb dM_code_69 rfl (lv_at hl 1 rfl) ?_
            refine zGetM hx hb hw hown hK hP 0 rfl 7 (by decide) wf_M_40 rfl dM_code_70 ?_
            refine lv_bipush (v := nI 40) hx hb dM_code_73 (by decide) ?_
            refine zc_ne (tgt := 82) hx hb dM_code_75 rfl (by omega) (by omega) (fun _ => ?_) (fun q => absurd q (by omega))
            refine lv_iconst (v := nI 0) hx hb dM_code_82 (by decide) ?_
            refine zPutM hx hb hw hown hK hP hD hS 0 rfl 13 (by decide) wf_M_32 rfl rfl rfl (Nat.le_of_ble_eq_true rfl) dM_code_83 (fun H locs hP hD hS => ?_)
            replace hP : va_P D vwCl (mW A C ops nums vals st ce pk pv n vc sp d pr tk 0 tr) H := hP
            replace hD : va_D F (mW A C ops nums vals st ce pk pv n vc sp d pr tk 0 tr) := hD
            refine lv_aload_n hx hb dM_code_86 rfl (lv_at hl 1 rfl) ?_
            refine zGetM hx hb hw hown hK hP 0 rfl 13 (by decide) wf_M_32 rfl dM_code_87 ?_
            refine zi_le (tgt := 95) hx hb dM_code_90 rfl (by omega) (fun _ => ?_) (fun q => absurd q (by omega))
            refine lv_aload_n hx hb dM_code_95 rfl (lv_at hl 1 rfl) ?_
            refine zGetM hx hb hw hown hK hP 0 rfl 0 (by decide) wf_M_9 rfl dM_code_96 ?_
            refine lv_aload_n hx hb dM_code_99 rfl (lv_at hl 1 rfl) ?_
            refine zGetM hx hb hw hown hK hP 0 rfl 7 (by decide) wf_M_40 rfl dM_code_100 ?_
            refine lv_iload_n hx hb dM_code_103 rfl (lv_at hl 2 rfl) ?_
            refine zIast hx hb hK hP hD hS 1 0 rfl rfl (by omega) (by decide) dM_code_104 (fun H locs hP hD hS => ?_)
            replace hP : va_P D vwCl (mW A C (upd ops n o) nums vals st ce pk pv n vc sp d pr tk 0 tr) H := hP
            replace hD : va_D F (mW A C (upd ops n o) nums vals st ce pk pv n vc sp d pr tk 0 tr) := hD
            refine lv_aload_n hx hb dM_code_105 rfl (lv_at hl 1 rfl) ?_
            refine zGetM hx hb hw hown hK hP 0 rfl 1 (by decide) wf_M_13 rfl dM_code_106 ?_
            refine lv_aload_n hx hb dM_code_109 rfl (lv_at hl 1 rfl) ?_
            refine zGetM hx hb hw hown hK hP 0 rfl 7 (by decide) wf_M_40 rfl dM_code_110 ?_
            refine lv_lload_n hx hb dM_code_113 rfl (lv_at hl 3 rfl) ?_
            refine zLast hx hb hK hP hD hS 2 1 rfl rfl (by omega) (by decide) dM_code_114 (fun H locs hP hD hS => ?_)
            replace hP : va_P D vwCl (mW A C (upd ops n o) (vp_updL nums n x) vals st ce pk pv n vc sp d pr tk 0 tr) H := hP
            replace hD : va_D F (mW A C (upd ops n o) (vp_updL nums n x) vals st ce pk pv n vc sp d pr tk 0 tr) := hD
            refine lv_aload_n hx hb dM_code_115 rfl (lv_at hl 1 rfl) ?_
            refine lv_dup hx hb dM_code_116 rfl ?_
            refine zGetM hx hb hw hown hK hP 0 rfl 7 (by decide) wf_M_40 rfl dM_code_117 ?_
            refine lv_iconst (v := nI 1) hx hb dM_code_120 (by decide) ?_
            refine lv_iadd hx hb dM_code_121 ?_
            refine zti (nI_add _ _) ?_
            refine zPutM hx hb hw hown hK hP hD hS 0 rfl 7 (by decide) wf_M_40 rfl rfl rfl (Nat.le_of_ble_eq_true rfl) dM_code_122 (fun H locs hP hD hS => ?_)
            replace hP : va_P D vwCl (mW A C (upd ops n o) (vp_updL nums n x) vals st ce pk pv (n + 1) vc sp d pr tk 0 tr) H := hP
            replace hD : va_D F (mW A C (upd ops n o) (vp_updL nums n x) vals st ce pk pv (n + 1) vc sp d pr tk 0 tr) := hD
            refine lv_aload_n hx hb dM_code_125 rfl (lv_at hl 1 rfl) ?_
            refine zGetM hx hb hw hown hK hP 0 rfl 7 (by decide) wf_M_40 rfl dM_code_126 ?_
            exact zIret (w' := fun (_ : Unit) => (mW A C (upd ops n o) (vp_updL nums n x) vals st ce pk pv (n + 1) vc sp d pr tk 0 tr)) () hx hb hr hlk hS hK rfl hP hD dM_code_129
          · refine lv_lload_n hx hb dM_code_42 rfl (lv_at hl 2 rfl) ?_
            refine lv_iconst (v := nI 0) hx hb dM_code_43 (by decide) ?_
            refine lv_bipush (v := nI 40) hx hb dM_code_44 (by decide) ?_
            refine zAfti (wa := []) (w := []) (wb := (mW A C ops nums vals st ce pk pv n vc sp d pr tk th tr)) (zRunS (wa := []) (w := []) (wb := (mW A C ops nums vals st ce pk pv n vc sp d pr tk th tr)) ⟨hx, hb, hml, hown, hw⟩ (c_in l D _ x 0 40 (by decide) (by decide)) wm_M_36 wt_M_in wn_M wc_M_in ⟨rfl, rfl⟩ wd_M_in ⟨by decide, by decide⟩ (hK.sub [] rfl) hP hD hl.1 rfl (Nat.le_of_ble_eq_true rfl) dM_code_46 ⟨by decide, by decide⟩) hP hD hS hA (fun r u H locs hp hP hD hS => ?_)
            replace hP : va_P D vwCl (mW A C ops nums vals st ce pk pv n vc sp d pr tk th tr) H := hP
            replace hD : va_D F (mW A C ops nums vals st ce pk pv n vc sp d pr tk th tr) := hD
            rcases hp with ⟨rfl, g46⟩ | ⟨rfl, g46⟩
            · refine zi_eq (tgt := 56) hx hb dM_code_49 rfl (by omega) (fun q => absurd q (by omega)) (fun _ => ?_)
              refine lv_iconst (v := nI 1) hx hb dM_code_52 (by decide) ?_
              refine lv_goto (tgt := 57) hx hb dM_code_53 rfl ?_
              refine lv_istore hx hb dM_code_57 hl (by decide) rfl (fun ls hl => ?_)
              have hl : lv_has ls 5 [(4, .int (nI 1)), (0, .ref (A 0)), (1, .int o), (2, .long x)] := hl
              refine lv_aload_n hx hb dM_code_59 rfl (lv_at hl 1 rfl) ?_
              refine lv_iload hx hb dM_code_60 (lv_at hl 0 rfl) ?_
              refine zi_ne (tgt := 69) hx hb dM_code_62 rfl (by omega) (fun _ => ?_) (fun q => absurd q (by omega))
              refine lv_aload_n hx hb dM_code_69 rfl (lv_at hl 1 rfl) ?_
              refine zGetM hx hb hw hown hK hP 0 rfl 7 (by decide) wf_M_40 rfl dM_code_70 ?_
              refine lv_bipush (v := nI 40) hx hb dM_code_73 (by decide) ?_
              refine zc_ne (tgt := 82) hx hb dM_code_75 rfl (by omega) (by omega) (fun _ => ?_) (fun q => absurd q (by omega))
              refine lv_iconst (v := nI 0) hx hb dM_code_82 (by decide) ?_
              refine zPutM hx hb hw hown hK hP hD hS 0 rfl 13 (by decide) wf_M_32 rfl rfl rfl (Nat.le_of_ble_eq_true rfl) dM_code_83 (fun H locs hP hD hS => ?_)
              replace hP : va_P D vwCl (mW A C ops nums vals st ce pk pv n vc sp d pr tk 0 tr) H := hP
              replace hD : va_D F (mW A C ops nums vals st ce pk pv n vc sp d pr tk 0 tr) := hD
              refine lv_aload_n hx hb dM_code_86 rfl (lv_at hl 1 rfl) ?_
              refine zGetM hx hb hw hown hK hP 0 rfl 13 (by decide) wf_M_32 rfl dM_code_87 ?_
              refine zi_le (tgt := 95) hx hb dM_code_90 rfl (by omega) (fun _ => ?_) (fun q => absurd q (by omega))
              refine lv_aload_n hx hb dM_code_95 rfl (lv_at hl 1 rfl) ?_
              refine zGetM hx hb hw hown hK hP 0 rfl 0 (by decide) wf_M_9 rfl dM_code_96 ?_
              refine lv_aload_n hx hb dM_code_99 rfl (lv_at hl 1 rfl) ?_
              refine zGetM hx hb hw hown hK hP 0 rfl 7 (by decide) wf_M_40 rfl dM_code_100 ?_
              refine lv_iload_n hx hb dM_code_103 rfl (lv_at hl 2 rfl) ?_
              refine zIast hx hb hK hP hD hS 1 0 rfl rfl (by omega) (by decide) dM_code_104 (fun H locs hP hD hS => ?_)
              replace hP : va_P D vwCl (mW A C (upd ops n o) nums vals st ce pk pv n vc sp d pr tk 0 tr) H := hP
              replace hD : va_D F (mW A C (upd ops n o) nums vals st ce pk pv n vc sp d pr tk 0 tr) := hD
              refine lv_aload_n hx hb dM_code_105 rfl (lv_at hl 1 rfl) ?_
              refine zGetM hx hb hw hown hK hP 0 rfl 1 (by decide) wf_M_13 rfl dM_code_106 ?_
              refine lv_aload_n hx hb dM_code_109 rfl (lv_at hl 1 rfl) ?_
              refine zGetM hx hb hw hown hK hP 0 rfl 7 (by decide) wf_M_40 rfl dM_code_110 ?_
              refine lv_lload_n hx hb dM_code_113 rfl (lv_at hl 3 rfl) ?_
              refine zLast hx hb hK hP hD hS 2 1 rfl rfl (by omega) (by decide) dM_code_114 (fun H locs hP hD hS => ?_)
              replace hP : va_P D vwCl (mW A C (upd ops n o) (vp_updL nums n x) vals st ce pk pv n vc sp d pr tk 0 tr) H := hP
              replace hD : va_D F (mW A C (upd ops n o) (vp_updL nums n x) vals st ce pk pv n vc sp d pr tk 0 tr) := hD
              refine lv_aload_n hx hb dM_code_115 rfl (lv_at hl 1 rfl) ?_
              refine lv_dup hx hb dM_code_116 rfl ?_
              refine zGetM hx hb hw hown hK hP 0 rfl 7 (by decide) wf_M_40 rfl dM_code_117 ?_
              refine lv_iconst (v := nI 1) hx hb dM_code_120 (by decide) ?_
              refine lv_iadd hx hb dM_code_121 ?_
              refine zti (nI_add _ _) ?_
              refine zPutM hx hb hw hown hK hP hD hS 0 rfl 7 (by decide) wf_M_40 rfl rfl rfl (Nat.le_of_ble_eq_true rfl) dM_code_122 (fun H locs hP hD hS => ?_)
              replace hP : va_P D vwCl (mW A C (upd ops n o) (vp_updL nums n x) vals st ce pk pv (n + 1) vc sp d pr tk 0 tr) H := hP
              replace hD : va_D F (mW A C (upd ops n o) (vp_updL nums n x) vals st ce pk pv (n + 1) vc sp d pr tk 0 tr) := hD
              refine lv_aload_n hx hb dM_code_125 rfl (lv_at hl 1 rfl) ?_
              refine zGetM hx hb hw hown hK hP 0 rfl 7 (by decide) wf_M_40 rfl dM_code_126 ?_
              exact zIret (w' := fun (_ : Unit) => (mW A C (upd ops n o) (vp_updL nums n x) vals st ce pk pv (n + 1) vc sp d pr tk 0 tr)) () hx hb hr hlk hS hK rfl hP hD dM_code_129
            · refine zi_eq (tgt := 56) hx hb dM_code_49 rfl (by omega) (fun _ => ?_) (fun q => absurd q (by omega))
              refine lv_iconst (v := nI 0) hx hb dM_code_56 (by decide) ?_
              refine lv_istore hx hb dM_code_57 hl (by decide) rfl (fun ls hl => ?_)
              have hl : lv_has ls 5 [(4, .int (nI 0)), (0, .ref (A 0)), (1, .int o), (2, .long x)] := hl
              exact absurd (show ¬ okM o x by clear hl hx hb hr hlk hml hnm hw hown hP hK hD hA hS; unfold okM; grind) (fun z => z hok)
      · refine lv_lload_n hx hb dM_code_21 rfl (lv_at hl 2 rfl) ?_
        refine lv_iconst (v := nI 0) hx hb dM_code_22 (by decide) ?_
        refine lv_iconst (v := nI 3) hx hb dM_code_23 (by decide) ?_
        refine zAfti (wa := []) (w := []) (wb := (mW A C ops nums vals st ce pk pv n vc sp d pr tk th tr)) (zRunS (wa := []) (w := []) (wb := (mW A C ops nums vals st ce pk pv n vc sp d pr tk th tr)) ⟨hx, hb, hml, hown, hw⟩ (c_in l D _ x 0 3 (by decide) (by decide)) wm_M_36 wt_M_in wn_M wc_M_in ⟨rfl, rfl⟩ wd_M_in ⟨by decide, by decide⟩ (hK.sub [] rfl) hP hD hl.1 rfl (Nat.le_of_ble_eq_true rfl) dM_code_24 ⟨by decide, by decide⟩) hP hD hS hA (fun r u H locs hp hP hD hS => ?_)
        replace hP : va_P D vwCl (mW A C ops nums vals st ce pk pv n vc sp d pr tk th tr) H := hP
        replace hD : va_D F (mW A C ops nums vals st ce pk pv n vc sp d pr tk th tr) := hD
        rcases hp with ⟨rfl, g24⟩ | ⟨rfl, g24⟩
        · refine zi_eq (tgt := 56) hx hb dM_code_27 rfl (by omega) (fun q => absurd q (by omega)) (fun _ => ?_)
          refine lv_iload_n hx hb dM_code_30 rfl (lv_at hl 1 rfl) ?_
          refine lv_bipush (v := nI 15) hx hb dM_code_31 (by decide) ?_
          refine lv_icmp_eq (tgt := 42) hx hb dM_code_33 rfl (fun h33 => ?_) (fun h33 => ?_)
          · refine lv_lload_n hx hb dM_code_42 rfl (lv_at hl 2 rfl) ?_
            refine lv_iconst (v := nI 0) hx hb dM_code_43 (by decide) ?_
            refine lv_bipush (v := nI 40) hx hb dM_code_44 (by decide) ?_
            refine zAfti (wa := []) (w := []) (wb := (mW A C ops nums vals st ce pk pv n vc sp d pr tk th tr)) (zRunS (wa := []) (w := []) (wb := (mW A C ops nums vals st ce pk pv n vc sp d pr tk th tr)) ⟨hx, hb, hml, hown, hw⟩ (c_in l D _ x 0 40 (by decide) (by decide)) wm_M_36 wt_M_in wn_M wc_M_in ⟨rfl, rfl⟩ wd_M_in ⟨by decide, by decide⟩ (hK.sub [] rfl) hP hD hl.1 rfl (Nat.le_of_ble_eq_true rfl) dM_code_46 ⟨by decide, by decide⟩) hP hD hS hA (fun r u H locs hp hP hD hS => ?_)
            replace hP : va_P D vwCl (mW A C ops nums vals st ce pk pv n vc sp d pr tk th tr) H := hP
            replace hD : va_D F (mW A C ops nums vals st ce pk pv n vc sp d pr tk th tr) := hD
            rcases hp with ⟨rfl, g46⟩ | ⟨rfl, g46⟩
            · refine zi_eq (tgt := 56) hx hb dM_code_49 rfl (by omega) (fun q => absurd q (by omega)) (fun _ => ?_)
              refine lv_iconst (v := nI 1) hx hb dM_code_52 (by decide) ?_
              refine lv_goto (tgt := 57) hx hb dM_code_53 rfl ?_
              refine lv_istore hx hb dM_code_57 hl (by decide) rfl (fun ls hl => ?_)
              have hl : lv_has ls 5 [(4, .int (nI 1)), (0, .ref (A 0)), (1, .int o), (2, .long x)] := hl
              refine lv_aload_n hx hb dM_code_59 rfl (lv_at hl 1 rfl) ?_
              refine lv_iload hx hb dM_code_60 (lv_at hl 0 rfl) ?_
              refine zi_ne (tgt := 69) hx hb dM_code_62 rfl (by omega) (fun _ => ?_) (fun q => absurd q (by omega))
              refine lv_aload_n hx hb dM_code_69 rfl (lv_at hl 1 rfl) ?_
              refine zGetM hx hb hw hown hK hP 0 rfl 7 (by decide) wf_M_40 rfl dM_code_70 ?_
              refine lv_bipush (v := nI 40) hx hb dM_code_73 (by decide) ?_
              refine zc_ne (tgt := 82) hx hb dM_code_75 rfl (by omega) (by omega) (fun _ => ?_) (fun q => absurd q (by omega))
              refine lv_iconst (v := nI 0) hx hb dM_code_82 (by decide) ?_
              refine zPutM hx hb hw hown hK hP hD hS 0 rfl 13 (by decide) wf_M_32 rfl rfl rfl (Nat.le_of_ble_eq_true rfl) dM_code_83 (fun H locs hP hD hS => ?_)
              replace hP : va_P D vwCl (mW A C ops nums vals st ce pk pv n vc sp d pr tk 0 tr) H := hP
              replace hD : va_D F (mW A C ops nums vals st ce pk pv n vc sp d pr tk 0 tr) := hD
              refine lv_aload_n hx hb dM_code_86 rfl (lv_at hl 1 rfl) ?_
              refine zGetM hx hb hw hown hK hP 0 rfl 13 (by decide) wf_M_32 rfl dM_code_87 ?_
              refine zi_le (tgt := 95) hx hb dM_code_90 rfl (by omega) (fun _ => ?_) (fun q => absurd q (by omega))
              refine lv_aload_n hx hb dM_code_95 rfl (lv_at hl 1 rfl) ?_
              refine zGetM hx hb hw hown hK hP 0 rfl 0 (by decide) wf_M_9 rfl dM_code_96 ?_
              refine lv_aload_n hx hb dM_code_99 rfl (lv_at hl 1 rfl) ?_
              refine zGetM hx hb hw hown hK hP 0 rfl 7 (by decide) wf_M_40 rfl dM_code_100 ?_
              refine lv_iload_n hx hb dM_code_103 rfl (lv_at hl 2 rfl) ?_
              refine zIast hx hb hK hP hD hS 1 0 rfl rfl (by omega) (by decide) dM_code_104 (fun H locs hP hD hS => ?_)
              replace hP : va_P D vwCl (mW A C (upd ops n o) nums vals st ce pk pv n vc sp d pr tk 0 tr) H := hP
              replace hD : va_D F (mW A C (upd ops n o) nums vals st ce pk pv n vc sp d pr tk 0 tr) := hD
              refine lv_aload_n hx hb dM_code_105 rfl (lv_at hl 1 rfl) ?_
              refine zGetM hx hb hw hown hK hP 0 rfl 1 (by decide) wf_M_13 rfl dM_code_106 ?_
              refine lv_aload_n hx hb dM_code_109 rfl (lv_at hl 1 rfl) ?_
              refine zGetM hx hb hw hown hK hP 0 rfl 7 (by decide) wf_M_40 rfl dM_code_110 ?_
              refine lv_lload_n hx hb dM_code_113 rfl (lv_at hl 3 rfl) ?_
              refine zLast hx hb hK hP hD hS 2 1 rfl rfl (by omega) (by decide) dM_code_114 (fun H locs hP hD hS => ?_)
              replace hP : va_P D vwCl (mW A C (upd ops n o) (vp_updL nums n x) vals st ce pk pv n vc sp d pr tk 0 tr) H := hP
              replace hD : va_D F (mW A C (upd ops n o) (vp_updL nums n x) vals st ce pk pv n vc sp d pr tk 0 tr) := hD
              refine lv_aload_n hx hb dM_code_115 rfl (lv_at hl 1 rfl) ?_
              refine lv_dup hx hb dM_code_116 rfl ?_
              refine zGetM hx hb hw hown hK hP 0 rfl 7 (by decide) wf_M_40 rfl dM_code_117 ?_
              refine lv_iconst (v := nI 1) hx hb dM_code_120 (by decide) ?_
              refine lv_iadd hx hb dM_code_121 ?_
              refine zti (nI_add _ _) ?_
              refine zPutM hx hb hw hown hK hP hD hS 0 rfl 7 (by decide) wf_M_40 rfl rfl rfl (Nat.le_of_ble_eq_true rfl) dM_code_122 (fun H locs hP hD hS => ?_)
              replace hP : va_P D vwCl (mW A C (upd ops n o) (vp_updL nums n x) vals st ce pk pv (n + 1) vc sp d pr tk 0 tr) H := hP
              replace hD : va_D F (mW A C (upd ops n o) (vp_updL nums n x) vals st ce pk pv (n + 1) vc sp d pr tk 0 tr) := hD
              refine lv_aload_n hx hb dM_code_125 rfl (lv_at hl 1 rfl) ?_
              refine zGetM hx hb hw hown hK hP 0 rfl 7 (by decide) wf_M_40 rfl dM_code_126 ?_
              exact zIret (w' := fun (_ : Unit) => (mW A C (upd ops n o) (vp_updL nums n x) vals st ce pk pv (n + 1) vc sp d pr tk 0 tr)) () hx hb hr hlk hS hK rfl hP hD dM_code_129
            · refine zi_eq (tgt := 56) hx hb dM_code_49 rfl (by omega) (fun _ => ?_) (fun q => absurd q (by omega))
              refine lv_iconst (v := nI 0) hx hb dM_code_56 (by decide) ?_
              refine lv_istore hx hb dM_code_57 hl (by decide) rfl (fun ls hl => ?_)
              have hl : lv_has ls 5 [(4, .int (nI 0)), (0, .ref (A 0)), (1, .int o), (2, .long x)] := hl
              exact absurd (show ¬ okM o x by clear hl hx hb hr hlk hml hnm hw hown hP hK hD hA hS; unfold okM; grind) (fun z => z hok)
          · refine lv_iload_n hx hb dM_code_36 rfl (lv_at hl 1 rfl) ?_
            refine lv_bipush (v := nI 16) hx hb dM_code_37 (by decide) ?_
            refine lv_icmp_ne (tgt := 52) hx hb dM_code_39 rfl (fun h39 => ?_) (fun h39 => ?_)
            · refine lv_iconst (v := nI 1) hx hb dM_code_52 (by decide) ?_
              refine lv_goto (tgt := 57) hx hb dM_code_53 rfl ?_
              refine lv_istore hx hb dM_code_57 hl (by decide) rfl (fun ls hl => ?_)
              have hl : lv_has ls 5 [(4, .int (nI 1)), (0, .ref (A 0)), (1, .int o), (2, .long x)] := hl
              refine lv_aload_n hx hb dM_code_59 rfl (lv_at hl 1 rfl) ?_
              refine lv_iload hx hb dM_code_60 (lv_at hl 0 rfl) ?_
              refine zi_ne (tgt := 69) hx hb dM_code_62 rfl (by omega) (fun _ => ?_) (fun q => absurd q (by omega))
              refine lv_aload_n hx hb dM_code_69 rfl (lv_at hl 1 rfl) ?_
              refine zGetM hx hb hw hown hK hP 0 rfl 7 (by decide) wf_M_40 rfl dM_code_70 ?_
              refine lv_bipush (v := nI 40) hx hb dM_code_73 (by decide) ?_
              refine zc_ne (tgt := 82) hx hb dM_code_75 rfl (by omega) (by omega) (fun _ => ?_) (fun q => absurd q (by omega))
              refine lv_iconst (v := nI 0) hx hb dM_code_82 (by decide) ?_
              refine zPutM hx hb hw hown hK hP hD hS 0 rfl 13 (by decide) wf_M_32 rfl rfl rfl (Nat.le_of_ble_eq_true rfl) dM_code_83 (fun H locs hP hD hS => ?_)
              replace hP : va_P D vwCl (mW A C ops nums vals st ce pk pv n vc sp d pr tk 0 tr) H := hP
              replace hD : va_D F (mW A C ops nums vals st ce pk pv n vc sp d pr tk 0 tr) := hD
              refine lv_aload_n hx hb dM_code_86 rfl (lv_at hl 1 rfl) ?_
              refine zGetM hx hb hw hown hK hP 0 rfl 13 (by decide) wf_M_32 rfl dM_code_87 ?_
              refine zi_le (tgt := 95) hx hb dM_code_90 rfl (by omega) (fun _ => ?_) (fun q => absurd q (by omega))
              refine lv_aload_n hx hb dM_code_95 rfl (lv_at hl 1 rfl) ?_
              refine zGetM hx hb hw hown hK hP 0 rfl 0 (by decide) wf_M_9 rfl dM_code_96 ?_
              refine lv_aload_n hx hb dM_code_99 rfl (lv_at hl 1 rfl) ?_
              refine zGetM hx hb hw hown hK hP 0 rfl 7 (by decide) wf_M_40 rfl dM_code_100 ?_
              refine lv_iload_n hx hb dM_code_103 rfl (lv_at hl 2 rfl) ?_
              refine zIast hx hb hK hP hD hS 1 0 rfl rfl (by omega) (by decide) dM_code_104 (fun H locs hP hD hS => ?_)
              replace hP : va_P D vwCl (mW A C (upd ops n o) nums vals st ce pk pv n vc sp d pr tk 0 tr) H := hP
              replace hD : va_D F (mW A C (upd ops n o) nums vals st ce pk pv n vc sp d pr tk 0 tr) := hD
              refine lv_aload_n hx hb dM_code_105 rfl (lv_at hl 1 rfl) ?_
              refine zGetM hx hb hw hown hK hP 0 rfl 1 (by decide) wf_M_13 rfl dM_code_106 ?_
              refine lv_aload_n hx hb dM_code_109 rfl (lv_at hl 1 rfl) ?_
              refine zGetM hx hb hw hown hK hP 0 rfl 7 (by decide) wf_M_40 rfl dM_code_110 ?_
              refine lv_lload_n hx hb dM_code_113 rfl (lv_at hl 3 rfl) ?_
              refine zLast hx hb hK hP hD hS 2 1 rfl rfl (by omega) (by decide) dM_code_114 (fun H locs hP hD hS => ?_)
              replace hP : va_P D vwCl (mW A C (upd ops n o) (vp_updL nums n x) vals st ce pk pv n vc sp d pr tk 0 tr) H := hP
              replace hD : va_D F (mW A C (upd ops n o) (vp_updL nums n x) vals st ce pk pv n vc sp d pr tk 0 tr) := hD
              refine lv_aload_n hx hb dM_code_115 rfl (lv_at hl 1 rfl) ?_
              refine lv_dup hx hb dM_code_116 rfl ?_
              refine zGetM hx hb hw hown hK hP 0 rfl 7 (by decide) wf_M_40 rfl dM_code_117 ?_
              refine lv_iconst (v := nI 1) hx hb dM_code_120 (by decide) ?_
              refine lv_iadd hx hb dM_code_121 ?_
              refine zti (nI_add _ _) ?_
              refine zPutM hx hb hw hown hK hP hD hS 0 rfl 7 (by decide) wf_M_40 rfl rfl rfl (Nat.le_of_ble_eq_true rfl) dM_code_122 (fun H locs hP hD hS => ?_)
              replace hP : va_P D vwCl (mW A C (upd ops n o) (vp_updL nums n x) vals st ce pk pv (n + 1) vc sp d pr tk 0 tr) H := hP
              replace hD : va_D F (mW A C (upd ops n o) (vp_updL nums n x) vals st ce pk pv (n + 1) vc sp d pr tk 0 tr) := hD
              refine lv_aload_n hx hb dM_code_125 rfl (lv_at hl 1 rfl) ?_
              refine zGetM hx hb hw hown hK hP 0 rfl 7 (by decide) wf_M_40 rfl dM_code_126 ?_
              exact zIret (w' := fun (_ : Unit) => (mW A C (upd ops n o) (vp_updL nums n x) vals st ce pk pv (n + 1) vc sp d pr tk 0 tr)) () hx hb hr hlk hS hK rfl hP hD dM_code_129
            · refine lv_lload_n hx hb dM_code_42 rfl (lv_at hl 2 rfl) ?_
              refine lv_iconst (v := nI 0) hx hb dM_code_43 (by decide) ?_
              refine lv_bipush (v := nI 40) hx hb dM_code_44 (by decide) ?_
              refine zAfti (wa := []) (w := []) (wb := (mW A C ops nums vals st ce pk pv n vc sp d pr tk th tr)) (zRunS (wa := []) (w := []) (wb := (mW A C ops nums vals st ce pk pv n vc sp d pr tk th tr)) ⟨hx, hb, hml, hown, hw⟩ (c_in l D _ x 0 40 (by decide) (by decide)) wm_M_36 wt_M_in wn_M wc_M_in ⟨rfl, rfl⟩ wd_M_in ⟨by decide, by decide⟩ (hK.sub [] rfl) hP hD hl.1 rfl (Nat.le_of_ble_eq_true rfl) dM_code_46 ⟨by decide, by decide⟩) hP hD hS hA (fun r u H locs hp hP hD hS => ?_)
              replace hP : va_P D vwCl (mW A C ops nums vals st ce pk pv n vc sp d pr tk th tr) H := hP
              replace hD : va_D F (mW A C ops nums vals st ce pk pv n vc sp d pr tk th tr) := hD
              rcases hp with ⟨rfl, g46⟩ | ⟨rfl, g46⟩
              · refine zi_eq (tgt := 56) hx hb dM_code_49 rfl (by omega) (fun q => absurd q (by omega)) (fun _ => ?_)
                refine lv_iconst (v := nI 1) hx hb dM_code_52 (by decide) ?_
                refine lv_goto (tgt := 57) hx hb dM_code_53 rfl ?_
                refine lv_istore hx hb dM_code_57 hl (by decide) rfl (fun ls hl => ?_)
                have hl : lv_has ls 5 [(4, .int (nI 1)), (0, .ref (A 0)), (1, .int o), (2, .long x)] := hl
                refine lv_aload_n hx hb dM_code_59 rfl (lv_at hl 1 rfl) ?_
                refine lv_iload hx hb dM_code_60 (lv_at hl 0 rfl) ?_
                refine zi_ne (tgt := 69) hx hb dM_code_62 rfl (by omega) (fun _ => ?_) (fun q => absurd q (by omega))
                refine lv_aload_n hx hb dM_code_69 rfl (lv_at hl 1 rfl) ?_
                refine zGetM hx hb hw hown hK hP 0 rfl 7 (by decide) wf_M_40 rfl dM_code_70 ?_
                refine lv_bipush (v := nI 40) hx hb dM_code_73 (by decide) ?_
                refine zc_ne (tgt := 82) hx hb dM_code_75 rfl (by omega) (by omega) (fun _ => ?_) (fun q => absurd q (by omega))
                refine lv_iconst (v := nI 0) hx hb dM_code_82 (by decide) ?_
                refine zPutM hx hb hw hown hK hP hD hS 0 rfl 13 (by decide) wf_M_32 rfl rfl rfl (Nat.le_of_ble_eq_true rfl) dM_code_83 (fun H locs hP hD hS => ?_)
                replace hP : va_P D vwCl (mW A C ops nums vals st ce pk pv n vc sp d pr tk 0 tr) H := hP
                replace hD : va_D F (mW A C ops nums vals st ce pk pv n vc sp d pr tk 0 tr) := hD
                refine lv_aload_n hx hb dM_code_86 rfl (lv_at hl 1 rfl) ?_
                refine zGetM hx hb hw hown hK hP 0 rfl 13 (by decide) wf_M_32 rfl dM_code_87 ?_
                refine zi_le (tgt := 95) hx hb dM_code_90 rfl (by omega) (fun _ => ?_) (fun q => absurd q (by omega))
                refine lv_aload_n hx hb dM_code_95 rfl (lv_at hl 1 rfl) ?_
                refine zGetM hx hb hw hown hK hP 0 rfl 0 (by decide) wf_M_9 rfl dM_code_96 ?_
                refine lv_aload_n hx hb dM_code_99 rfl (lv_at hl 1 rfl) ?_
                refine zGetM hx hb hw hown hK hP 0 rfl 7 (by decide) wf_M_40 rfl dM_code_100 ?_
                refine lv_iload_n hx hb dM_code_103 rfl (lv_at hl 2 rfl) ?_
                refine zIast hx hb hK hP hD hS 1 0 rfl rfl (by omega) (by decide) dM_code_104 (fun H locs hP hD hS => ?_)
                replace hP : va_P D vwCl (mW A C (upd ops n o) nums vals st ce pk pv n vc sp d pr tk 0 tr) H := hP
                replace hD : va_D F (mW A C (upd ops n o) nums vals st ce pk pv n vc sp d pr tk 0 tr) := hD
                refine lv_aload_n hx hb dM_code_105 rfl (lv_at hl 1 rfl) ?_
                refine zGetM hx hb hw hown hK hP 0 rfl 1 (by decide) wf_M_13 rfl dM_code_106 ?_
                refine lv_aload_n hx hb dM_code_109 rfl (lv_at hl 1 rfl) ?_
                refine zGetM hx hb hw hown hK hP 0 rfl 7 (by decide) wf_M_40 rfl dM_code_110 ?_
                refine lv_lload_n hx hb dM_code_113 rfl (lv_at hl 3 rfl) ?_
                refine zLast hx hb hK hP hD hS 2 1 rfl rfl (by omega) (by decide) dM_code_114 (fun H locs hP hD hS => ?_)
                replace hP : va_P D vwCl (mW A C (upd ops n o) (vp_updL nums n x) vals st ce pk pv n vc sp d pr tk 0 tr) H := hP
                replace hD : va_D F (mW A C (upd ops n o) (vp_updL nums n x) vals st ce pk pv n vc sp d pr tk 0 tr) := hD
                refine lv_aload_n hx hb dM_code_115 rfl (lv_at hl 1 rfl) ?_
                refine lv_dup hx hb dM_code_116 rfl ?_
                refine zGetM hx hb hw hown hK hP 0 rfl 7 (by decide) wf_M_40 rfl dM_code_117 ?_
                refine lv_iconst (v := nI 1) hx hb dM_code_120 (by decide) ?_
                refine lv_iadd hx hb dM_code_121 ?_
                refine zti (nI_add _ _) ?_
                refine zPutM hx hb hw hown hK hP hD hS 0 rfl 7 (by decide) wf_M_40 rfl rfl rfl (Nat.le_of_ble_eq_true rfl) dM_code_122 (fun H locs hP hD hS => ?_)
                replace hP : va_P D vwCl (mW A C (upd ops n o) (vp_updL nums n x) vals st ce pk pv (n + 1) vc sp d pr tk 0 tr) H := hP
                replace hD : va_D F (mW A C (upd ops n o) (vp_updL nums n x) vals st ce pk pv (n + 1) vc sp d pr tk 0 tr) := hD
                refine lv_aload_n hx hb dM_code_125 rfl (lv_at hl 1 rfl) ?_
                refine zGetM hx hb hw hown hK hP 0 rfl 7 (by decide) wf_M_40 rfl dM_code_126 ?_
                exact zIret (w' := fun (_ : Unit) => (mW A C (upd ops n o) (vp_updL nums n x) vals st ce pk pv (n + 1) vc sp d pr tk 0 tr)) () hx hb hr hlk hS hK rfl hP hD dM_code_129
              · refine zi_eq (tgt := 56) hx hb dM_code_49 rfl (by omega) (fun _ => ?_) (fun q => absurd q (by omega))
                refine lv_iconst (v := nI 0) hx hb dM_code_56 (by decide) ?_
                refine lv_istore hx hb dM_code_57 hl (by decide) rfl (fun ls hl => ?_)
                have hl : lv_has ls 5 [(4, .int (nI 0)), (0, .ref (A 0)), (1, .int o), (2, .long x)] := hl
                exact absurd (show ¬ okM o x by clear hl hx hb hr hlk hml hnm hw hown hP hK hD hA hS; unfold okM; grind) (fun z => z hok)
        · refine zi_eq (tgt := 56) hx hb dM_code_27 rfl (by omega) (fun _ => ?_) (fun q => absurd q (by omega))
          refine lv_iconst (v := nI 0) hx hb dM_code_56 (by decide) ?_
          refine lv_istore hx hb dM_code_57 hl (by decide) rfl (fun ls hl => ?_)
          have hl : lv_has ls 5 [(4, .int (nI 0)), (0, .ref (A 0)), (1, .int o), (2, .long x)] := hl
          exact absurd (show ¬ okM o x by clear hl hx hb hr hlk hml hnm hw hown hP hK hD hA hS; unfold okM; grind) (fun z => z hok)
  · refine zi_eq (tgt := 56) hx hb dM_code_8 rfl (by omega) (fun _ => ?_) (fun q => absurd q (by omega))
    refine lv_iconst (v := nI 0) hx hb dM_code_56 (by decide) ?_
    refine lv_istore hx hb dM_code_57 hl (by decide) rfl (fun ls hl => ?_)
    have hl : lv_has ls 5 [(4, .int (nI 0)), (0, .ref (A 0)), (1, .int o), (2, .long x)] := hl
    exact absurd (show ¬ okM o x by clear hl hx hb hr hlk hml hnm hw hown hP hK hD hA hS; unfold okM; grind) (fun z => z hok)

set_option maxRecDepth 20000 in
set_option maxHeartbeats 4000000 in
theorem c_M_code_full (l : Launch) (D : va_G) (A : Nat → Nat) (C : Nat → ClassId) (sz : Nat) (ops : Nat → Int32) (nums : Nat → Int64) (vals : Nat → Int64) (st : Nat → Int64) (ce : Nat → Int64) (pk : Nat → Int64) (pv : Nat → Int64) (n : Nat) (vc : Nat) (sp : Nat) (d : Nat) (pr : Nat) (tk : Nat) (th : Nat) (tr : Nat) (o : Int32) (x : Int64) (hok : okM o x) (hn : n = 40) : Met l yM_code (.code yM_code cM_code 5 (some .int) :: WS) (rmk 1 23) (va_Pc [.ref (A 0), .int o, .long x] (zP D (mT C) sz (mW A C ops nums vals st ce pk pv n vc sp d pr tk th tr))) (va_Qi (fun (r : Int32) (_ : Unit) => r = nI 0) (fun (_ : Unit) t => zB D (mT C) (va_A (mW A C ops nums vals st ce pk pv n vc sp d pr tk th tr) sz) (mW A C ops nums vals st ce pk pv n vc sp d pr tk 2 tr) t) (va_A (mW A C ops nums vals st ce pk pv n vc sp d pr tk th tr) sz)) 0 0 (va_A (mW A C ops nums vals st ce pk pv n vc sp d pr tk th tr) sz) := by
  refine zEnt (Qc := fun F => (va_Qi (fun (r : Int32) (_ : Unit) => r = nI 0) (fun (_ : Unit) t => zB D (mT C) F (mW A C ops nums vals st ce pk pv n vc sp d pr tk 2 tr) t) F)) (by decide) (Nat.le_of_ble_eq_true rfl) (fun p e s m below meth c ls F hx hb hr hlk hml hnm hw hown hsz hP hK hD hA hl => ?_)
  have hS : va_S F s.heap s.heap [] := va_S.rf
  have hown : s.vm.findClass RM = some m.cls := hown
  have hl : lv_has ls 5 [(0, .ref (A 0)), (1, .int o), (2, .long x)] := hl
  refine lv_iload_n hx hb dM_code_0 rfl (lv_at hl 1 rfl) ?_
  refine lv_i2l hx hb dM_code_1 rfl ?_
  refine lv_iconst (v := nI 0) hx hb dM_code_2 (by decide) ?_
  refine lv_bipush (v := nI 18) hx hb dM_code_3 (by decide) ?_
  refine zAfti (wa := []) (w := []) (wb := (mW A C ops nums vals st ce pk pv n vc sp d pr tk th tr)) (zRunS (wa := []) (w := []) (wb := (mW A C ops nums vals st ce pk pv n vc sp d pr tk th tr)) ⟨hx, hb, hml, hown, hw⟩ (c_in l D _ o.toInt64 0 18 (by decide) (by decide)) wm_M_36 wt_M_in wn_M wc_M_in ⟨rfl, rfl⟩ wd_M_in ⟨by decide, by decide⟩ (hK.sub [] rfl) hP hD hl.1 rfl (Nat.le_of_ble_eq_true rfl) dM_code_5 ⟨by decide, by decide⟩) hP hD hS hA (fun r u H locs hp hP hD hS => ?_)
  replace hP : va_P D vwCl (mW A C ops nums vals st ce pk pv n vc sp d pr tk th tr) H := hP
  replace hD : va_D F (mW A C ops nums vals st ce pk pv n vc sp d pr tk th tr) := hD
  rcases hp with ⟨rfl, g5⟩ | ⟨rfl, g5⟩
  · refine zi_eq (tgt := 56) hx hb dM_code_8 rfl (by omega) (fun q => absurd q (by omega)) (fun _ => ?_)
    refine lv_iload_n hx hb dM_code_11 rfl (lv_at hl 1 rfl) ?_
    refine lv_iconst (v := nI 4) hx hb dM_code_12 (by decide) ?_
    refine lv_icmp_eq (tgt := 21) hx hb dM_code_13 rfl (fun h13 => ?_) (fun h13 => ?_)
    · refine lv_lload_n hx hb dM_code_21 rfl (lv_at hl 2 rfl) ?_
      refine lv_iconst (v := nI 0) hx hb dM_code_22 (by decide) ?_
      refine lv_iconst (v := nI 3) hx hb dM_code_23 (by decide) ?_
      refine zAfti (wa := []) (w := []) (wb := (mW A C ops nums vals st ce pk pv n vc sp d pr tk th tr)) (zRunS (wa := []) (w := []) (wb := (mW A C ops nums vals st ce pk pv n vc sp d pr tk th tr)) ⟨hx, hb, hml, hown, hw⟩ (c_in l D _ x 0 3 (by decide) (by decide)) wm_M_36 wt_M_in wn_M wc_M_in ⟨rfl, rfl⟩ wd_M_in ⟨by decide, by decide⟩ (hK.sub [] rfl) hP hD hl.1 rfl (Nat.le_of_ble_eq_true rfl) dM_code_24 ⟨by decide, by decide⟩) hP hD hS hA (fun r u H locs hp hP hD hS => ?_)
      replace hP : va_P D vwCl (mW A C ops nums vals st ce pk pv n vc sp d pr tk th tr) H := hP
      replace hD : va_D F (mW A C ops nums vals st ce pk pv n vc sp d pr tk th tr) := hD
      rcases hp with ⟨rfl, g24⟩ | ⟨rfl, g24⟩
      · refine zi_eq (tgt := 56) hx hb dM_code_27 rfl (by omega) (fun q => absurd q (by omega)) (fun _ => ?_)
        refine lv_iload_n hx hb dM_code_30 rfl (lv_at hl 1 rfl) ?_
        refine lv_bipush (v := nI 15) hx hb dM_code_31 (by decide) ?_
        refine lv_icmp_eq (tgt := 42) hx hb dM_code_33 rfl (fun h33 => ?_) (fun h33 => ?_)
        · refine lv_lload_n hx hb dM_code_42 rfl (lv_at hl 2 rfl) ?_
          refine lv_iconst (v := nI 0) hx hb dM_code_43 (by decide) ?_
          refine lv_bipush (v := nI 40) hx hb dM_code_44 (by decide) ?_
          refine zAfti (wa := []) (w := []) (wb := (mW A C ops nums vals st ce pk pv n vc sp d pr tk th tr)) (zRunS (wa := []) (w := []) (wb := (mW A C ops nums vals st ce pk pv n vc sp d pr tk th tr)) ⟨hx, hb, hml, hown, hw⟩ (c_in l D _ x 0 40 (by decide) (by decide)) wm_M_36 wt_M_in wn_M wc_M_in ⟨rfl, rfl⟩ wd_M_in ⟨by decide, by decide⟩ (hK.sub [] rfl) hP hD hl.1 rfl (Nat.le_of_ble_eq_true rfl) dM_code_46 ⟨by decide, by decide⟩) hP hD hS hA (fun r u H locs hp hP hD hS => ?_)
          replace hP : va_P D vwCl (mW A C ops nums vals st ce pk pv n vc sp d pr tk th tr) H := hP
          replace hD : va_D F (mW A C ops nums vals st ce pk pv n vc sp d pr tk th tr) := hD
          rcases hp with ⟨rfl, g46⟩ | ⟨rfl, g46⟩
          · refine zi_eq (tgt := 56) hx hb dM_code_49 rfl (by omega) (fun q => absurd q (by omega)) (fun _ => ?_)
            refine lv_iconst (v := nI 1) hx hb dM_code_52 (by decide) ?_
            refine lv_goto (tgt := 57) hx hb dM_code_53 rfl ?_
            refine lv_istore hx hb dM_code_57 hl (by decide) rfl (fun ls hl => ?_)
            have hl : lv_has ls 5 [(4, .int (nI 1)), (0, .ref (A 0)), (1, .int o), (2, .long x)] := hl
            refine lv_aload_n hx hb dM_code_59 rfl (lv_at hl 1 rfl) ?_
            refine lv_iload hx hb dM_code_60 (lv_at hl 0 rfl) ?_
            refine zi_ne (tgt := 69) hx hb dM_code_62 rfl (by omega) (fun _ => ?_) (fun q => absurd q (by omega))
            refine lv_aload_n hx hb dM_code_69 rfl (lv_at hl 1 rfl) ?_
            refine zGetM hx hb hw hown hK hP 0 rfl 7 (by decide) wf_M_40 rfl dM_code_70 ?_
            refine lv_bipush (v := nI 40) hx hb dM_code_73 (by decide) ?_
            refine zc_ne (tgt := 82) hx hb dM_code_75 rfl (by omega) (by omega) (fun q => absurd q (by omega)) (fun _ => ?_)
            refine lv_iconst (v := nI 2) hx hb dM_code_78 (by decide) ?_
            refine lv_goto (tgt := 83) hx hb dM_code_79 rfl ?_
            refine zPutM hx hb hw hown hK hP hD hS 0 rfl 13 (by decide) wf_M_32 rfl rfl rfl (Nat.le_of_ble_eq_true rfl) dM_code_83 (fun H locs hP hD hS => ?_)
            replace hP : va_P D vwCl (mW A C ops nums vals st ce pk pv n vc sp d pr tk 2 tr) H := hP
            replace hD : va_D F (mW A C ops nums vals st ce pk pv n vc sp d pr tk 2 tr) := hD
            refine lv_aload_n hx hb dM_code_86 rfl (lv_at hl 1 rfl) ?_
            refine zGetM hx hb hw hown hK hP 0 rfl 13 (by decide) wf_M_32 rfl dM_code_87 ?_
            refine zi_le (tgt := 95) hx hb dM_code_90 rfl (by omega) (fun q => absurd q (by omega)) (fun _ => ?_)
            refine lv_iconst (v := nI 0) hx hb dM_code_93 (by decide) ?_
            exact zIret (w' := fun (_ : Unit) => (mW A C ops nums vals st ce pk pv n vc sp d pr tk 2 tr)) () hx hb hr hlk hS hK rfl hP hD dM_code_94
          · refine zi_eq (tgt := 56) hx hb dM_code_49 rfl (by omega) (fun _ => ?_) (fun q => absurd q (by omega))
            refine lv_iconst (v := nI 0) hx hb dM_code_56 (by decide) ?_
            refine lv_istore hx hb dM_code_57 hl (by decide) rfl (fun ls hl => ?_)
            have hl : lv_has ls 5 [(4, .int (nI 0)), (0, .ref (A 0)), (1, .int o), (2, .long x)] := hl
            exact absurd (show ¬ okM o x by clear hl hx hb hr hlk hml hnm hw hown hP hK hD hA hS; unfold okM; grind) (fun z => z hok)
        · refine lv_iload_n hx hb dM_code_36 rfl (lv_at hl 1 rfl) ?_
          refine lv_bipush (v := nI 16) hx hb dM_code_37 (by decide) ?_
          refine lv_icmp_ne (tgt := 52) hx hb dM_code_39 rfl (fun h39 => ?_) (fun h39 => ?_)
          · refine lv_iconst (v := nI 1) hx hb dM_code_52 (by decide) ?_
            refine lv_goto (tgt := 57) hx hb dM_code_53 rfl ?_
            refine lv_istore hx hb dM_code_57 hl (by decide) rfl (fun ls hl => ?_)
            have hl : lv_has ls 5 [(4, .int (nI 1)), (0, .ref (A 0)), (1, .int o), (2, .long x)] := hl
            refine lv_aload_n hx hb dM_code_59 rfl (lv_at hl 1 rfl) ?_
            refine lv_iload hx hb dM_code_60 (lv_at hl 0 rfl) ?_
            refine zi_ne (tgt := 69) hx hb dM_code_62 rfl (by omega) (fun _ => ?_) (fun q => absurd q (by omega))
            refine lv_aload_n hx hb dM_code_69 rfl (lv_at hl 1 rfl) ?_
            refine zGetM hx hb hw hown hK hP 0 rfl 7 (by decide) wf_M_40 rfl dM_code_70 ?_
            refine lv_bipush (v := nI 40) hx hb dM_code_73 (by decide) ?_
            refine zc_ne (tgt := 82) hx hb dM_code_75 rfl (by omega) (by omega) (fun q => absurd q (by omega)) (fun _ => ?_)
            refine lv_iconst (v := nI 2) hx hb dM_code_78 (by decide) ?_
            refine lv_goto (tgt := 83) hx hb dM_code_79 rfl ?_
            refine zPutM hx hb hw hown hK hP hD hS 0 rfl 13 (by decide) wf_M_32 rfl rfl rfl (Nat.le_of_ble_eq_true rfl) dM_code_83 (fun H locs hP hD hS => ?_)
            replace hP : va_P D vwCl (mW A C ops nums vals st ce pk pv n vc sp d pr tk 2 tr) H := hP
            replace hD : va_D F (mW A C ops nums vals st ce pk pv n vc sp d pr tk 2 tr) := hD
            refine lv_aload_n hx hb dM_code_86 rfl (lv_at hl 1 rfl) ?_
            refine zGetM hx hb hw hown hK hP 0 rfl 13 (by decide) wf_M_32 rfl dM_code_87 ?_
            refine zi_le (tgt := 95) hx hb dM_code_90 rfl (by omega) (fun q => absurd q (by omega)) (fun _ => ?_)
            refine lv_iconst (v := nI 0) hx hb dM_code_93 (by decide) ?_
            exact zIret (w' := fun (_ : Unit) => (mW A C ops nums vals st ce pk pv n vc sp d pr tk 2 tr)) () hx hb hr hlk hS hK rfl hP hD dM_code_94
          · refine lv_lload_n hx hb dM_code_42 rfl (lv_at hl 2 rfl) ?_
            refine lv_iconst (v := nI 0) hx hb dM_code_43 (by decide) ?_
            refine lv_bipush (v := nI 40) hx hb dM_code_44 (by decide) ?_
            refine zAfti (wa := []) (w := []) (wb := (mW A C ops nums vals st ce pk pv n vc sp d pr tk th tr)) (zRunS (wa := []) (w := []) (wb := (mW A C ops nums vals st ce pk pv n vc sp d pr tk th tr)) ⟨hx, hb, hml, hown, hw⟩ (c_in l D _ x 0 40 (by decide) (by decide)) wm_M_36 wt_M_in wn_M wc_M_in ⟨rfl, rfl⟩ wd_M_in ⟨by decide, by decide⟩ (hK.sub [] rfl) hP hD hl.1 rfl (Nat.le_of_ble_eq_true rfl) dM_code_46 ⟨by decide, by decide⟩) hP hD hS hA (fun r u H locs hp hP hD hS => ?_)
            replace hP : va_P D vwCl (mW A C ops nums vals st ce pk pv n vc sp d pr tk th tr) H := hP
            replace hD : va_D F (mW A C ops nums vals st ce pk pv n vc sp d pr tk th tr) := hD
            rcases hp with ⟨rfl, g46⟩ | ⟨rfl, g46⟩
            · refine zi_eq (tgt := 56) hx hb dM_code_49 rfl (by omega) (fun q => absurd q (by omega)) (fun _ => ?_)
              refine lv_iconst (v := nI 1) hx hb dM_code_52 (by decide) ?_
              refine lv_goto (tgt := 57) hx hb dM_code_53 rfl ?_
              refine lv_istore hx hb dM_code_57 hl (by decide) rfl (fun ls hl => ?_)
              have hl : lv_has ls 5 [(4, .int (nI 1)), (0, .ref (A 0)), (1, .int o), (2, .long x)] := hl
              refine lv_aload_n hx hb dM_code_59 rfl (lv_at hl 1 rfl) ?_
              refine lv_iload hx hb dM_code_60 (lv_at hl 0 rfl) ?_
              refine zi_ne (tgt := 69) hx hb dM_code_62 rfl (by omega) (fun _ => ?_) (fun q => absurd q (by omega))
              refine lv_aload_n hx hb dM_code_69 rfl (lv_at hl 1 rfl) ?_
              refine zGetM hx hb hw hown hK hP 0 rfl 7 (by decide) wf_M_40 rfl dM_code_70 ?_
              refine lv_bipush (v := nI 40) hx hb dM_code_73 (by decide) ?_
              refine zc_ne (tgt := 82) hx hb dM_code_75 rfl (by omega) (by omega) (fun q => absurd q (by omega)) (fun _ => ?_)
              refine lv_iconst (v := nI 2) hx hb dM_code_78 (by decide) ?_
              refine lv_goto (tgt := 83) hx hb dM_code_79 rfl ?_
              refine zPutM hx hb hw hown hK hP hD hS 0 rfl 13 (by decide) wf_M_32 rfl rfl rfl (Nat.le_of_ble_eq_true rfl) dM_code_83 (fun H locs hP hD hS => ?_)
              replace hP : va_P D vwCl (mW A C ops nums vals st ce pk pv n vc sp d pr tk 2 tr) H := hP
              replace hD : va_D F (mW A C ops nums vals st ce pk pv n vc sp d pr tk 2 tr) := hD
              refine lv_aload_n hx hb dM_code_86 rfl (lv_at hl 1 rfl) ?_
              refine zGetM hx hb hw hown hK hP 0 rfl 13 (by decide) wf_M_32 rfl dM_code_87 ?_
              refine zi_le (tgt := 95) hx hb dM_code_90 rfl (by omega) (fun q => absurd q (by omega)) (fun _ => ?_)
              refine lv_iconst (v := nI 0) hx hb dM_code_93 (by decide) ?_
              exact zIret (w' := fun (_ : Unit) => (mW A C ops nums vals st ce pk pv n vc sp d pr tk 2 tr)) () hx hb hr hlk hS hK rfl hP hD dM_code_94
            · refine zi_eq (tgt := 56) hx hb dM_code_49 rfl (by omega) (fun _ => ?_) (fun q => absurd q (by omega))
              refine lv_iconst (v := nI 0) hx hb dM_code_56 (by decide) ?_
              refine lv_istore hx hb dM_code_57 hl (by decide) rfl (fun ls hl => ?_)
              have hl : lv_has ls 5 [(4, .int (nI 0)), (0, .ref (A 0)), (1, .int o), (2, .long x)] := hl
              exact absurd (show ¬ okM o x by clear hl hx hb hr hlk hml hnm hw hown hP hK hD hA hS; unfold okM; grind) (fun z => z hok)
      · refine zi_eq (tgt := 56) hx hb dM_code_27 rfl (by omega) (fun _ => ?_) (fun q => absurd q (by omega))
        refine lv_iconst (v := nI 0) hx hb dM_code_56 (by decide) ?_
        refine lv_istore hx hb dM_code_57 hl (by decide) rfl (fun ls hl => ?_)
        have hl : lv_has ls 5 [(4, .int (nI 0)), (0, .ref (A 0)), (1, .int o), (2, .long x)] := hl
        exact absurd (show ¬ okM o x by clear hl hx hb hr hlk hml hnm hw hown hP hK hD hA hS; unfold okM; grind) (fun z => z hok)
    · refine lv_iload_n hx hb dM_code_16 rfl (lv_at hl 1 rfl) ?_
      refine lv_iconst (v := nI 5) hx hb dM_code_17 (by decide) ?_
      refine lv_icmp_ne (tgt := 30) hx hb dM_code_18 rfl (fun h18 => ?_) (fun h18 => ?_)
      · refine lv_iload_n hx hb dM_code_30 rfl (lv_at hl 1 rfl) ?_
        refine lv_bipush (v := nI 15) hx hb dM_code_31 (by decide) ?_
        refine lv_icmp_eq (tgt := 42) hx hb dM_code_33 rfl (fun h33 => ?_) (fun h33 => ?_)
        · refine lv_lload_n hx hb dM_code_42 rfl (lv_at hl 2 rfl) ?_
          refine lv_iconst (v := nI 0) hx hb dM_code_43 (by decide) ?_
          refine lv_bipush (v := nI 40) hx hb dM_code_44 (by decide) ?_
          refine zAfti (wa := []) (w := []) (wb := (mW A C ops nums vals st ce pk pv n vc sp d pr tk th tr)) (zRunS (wa := []) (w := []) (wb := (mW A C ops nums vals st ce pk pv n vc sp d pr tk th tr)) ⟨hx, hb, hml, hown, hw⟩ (c_in l D _ x 0 40 (by decide) (by decide)) wm_M_36 wt_M_in wn_M wc_M_in ⟨rfl, rfl⟩ wd_M_in ⟨by decide, by decide⟩ (hK.sub [] rfl) hP hD hl.1 rfl (Nat.le_of_ble_eq_true rfl) dM_code_46 ⟨by decide, by decide⟩) hP hD hS hA (fun r u H locs hp hP hD hS => ?_)
          replace hP : va_P D vwCl (mW A C ops nums vals st ce pk pv n vc sp d pr tk th tr) H := hP
          replace hD : va_D F (mW A C ops nums vals st ce pk pv n vc sp d pr tk th tr) := hD
          rcases hp with ⟨rfl, g46⟩ | ⟨rfl, g46⟩
          · refine zi_eq (tgt := 56) hx hb dM_code_49 rfl (by omega) (fun q => absurd q (by omega)) (fun _ => ?_)
            refine lv_iconst (v := nI 1) hx hb dM_code_52 (by decide) ?_
            refine lv_goto (tgt := 57) hx hb dM_code_53 rfl ?_
            refine lv_istore hx hb dM_code_57 hl (by decide) rfl (fun ls hl => ?_)
            have hl : lv_has ls 5 [(4, .int (nI 1)), (0, .ref (A 0)), (1, .int o), (2, .long x)] := hl
            refine lv_aload_n hx hb dM_code_59 rfl (lv_at hl 1 rfl) ?_
            refine lv_iload hx hb dM_code_60 (lv_at hl 0 rfl) ?_
            refine zi_ne (tgt := 69) hx hb dM_code_62 rfl (by omega) (fun _ => ?_) (fun q => absurd q (by omega))
            refine lv_aload_n hx hb dM_code_69 rfl (lv_at hl 1 rfl) ?_
            refine zGetM hx hb hw hown hK hP 0 rfl 7 (by decide) wf_M_40 rfl dM_code_70 ?_
            refine lv_bipush (v := nI 40) hx hb dM_code_73 (by decide) ?_
            refine zc_ne (tgt := 82) hx hb dM_code_75 rfl (by omega) (by omega) (fun q => absurd q (by omega)) (fun _ => ?_)
            refine lv_iconst (v := nI 2) hx hb dM_code_78 (by decide) ?_
            refine lv_goto (tgt := 83) hx hb dM_code_79 rfl ?_
            refine zPutM hx hb hw hown hK hP hD hS 0 rfl 13 (by decide) wf_M_32 rfl rfl rfl (Nat.le_of_ble_eq_true rfl) dM_code_83 (fun H locs hP hD hS => ?_)
            replace hP : va_P D vwCl (mW A C ops nums vals st ce pk pv n vc sp d pr tk 2 tr) H := hP
            replace hD : va_D F (mW A C ops nums vals st ce pk pv n vc sp d pr tk 2 tr) := hD
            refine lv_aload_n hx hb dM_code_86 rfl (lv_at hl 1 rfl) ?_
            refine zGetM hx hb hw hown hK hP 0 rfl 13 (by decide) wf_M_32 rfl dM_code_87 ?_
            refine zi_le (tgt := 95) hx hb dM_code_90 rfl (by omega) (fun q => absurd q (by omega)) (fun _ => ?_)
            refine lv_iconst (v := nI 0) hx hb dM_code_93 (by decide) ?_
            exact zIret (w' := fun (_ : Unit) => (mW A C ops nums vals st ce pk pv n vc sp d pr tk 2 tr)) () hx hb hr hlk hS hK rfl hP hD dM_code_94
          · refine zi_eq (tgt := 56) hx hb dM_code_49 rfl (by omega) (fun _ => ?_) (fun q => absurd q (by omega))
            refine lv_iconst (v := nI 0) hx hb dM_code_56 (by decide) ?_
            refine lv_istore hx hb dM_code_57 hl (by decide) rfl (fun ls hl => ?_)
            have hl : lv_has ls 5 [(4, .int (nI 0)), (0, .ref (A 0)), (1, .int o), (2, .long x)] := hl
            exact absurd (show ¬ okM o x by clear hl hx hb hr hlk hml hnm hw hown hP hK hD hA hS; unfold okM; grind) (fun z => z hok)
        · refine lv_iload_n hx hb dM_code_36 rfl (lv_at hl 1 rfl) ?_
          refine lv_bipush (v := nI 16) hx hb dM_code_37 (by decide) ?_
          refine lv_icmp_ne (tgt := 52) hx hb dM_code_39 rfl (fun h39 => ?_) (fun h39 => ?_)
          · refine lv_iconst (v := nI 1) hx hb dM_code_52 (by decide) ?_
            refine lv_goto (tgt := 57) hx hb dM_code_53 rfl ?_
            refine lv_istore hx hb dM_code_57 hl (by decide) rfl (fun ls hl => ?_)
            have hl : lv_has ls 5 [(4, .int (nI 1)), (0, .ref (A 0)), (1, .int o), (2, .long x)] := hl
            refine lv_aload_n hx hb dM_code_59 rfl (lv_at hl 1 rfl) ?_
            refine lv_iload hx hb dM_code_60 (lv_at hl 0 rfl) ?_
            refine zi_ne (tgt := 69) hx hb dM_code_62 rfl (by omega) (fun _ => ?_) (fun q => absurd q (by omega))
            refine lv_aload_n hx hb dM_code_69 rfl (lv_at hl 1 rfl) ?_
            refine zGetM hx hb hw hown hK hP 0 rfl 7 (by decide) wf_M_40 rfl dM_code_70 ?_
            refine lv_bipush (v := nI 40) hx hb dM_code_73 (by decide) ?_
            refine zc_ne (tgt := 82) hx hb dM_code_75 rfl (by omega) (by omega) (fun q => absurd q (by omega)) (fun _ => ?_)
            refine lv_iconst (v := nI 2) hx hb dM_code_78 (by decide) ?_
            refine lv_goto (tgt := 83) hx hb dM_code_79 rfl ?_
            refine zPutM hx hb hw hown hK hP hD hS 0 rfl 13 (by decide) wf_M_32 rfl rfl rfl (Nat.le_of_ble_eq_true rfl) dM_code_83 (fun H locs hP hD hS => ?_)
            replace hP : va_P D vwCl (mW A C ops nums vals st ce pk pv n vc sp d pr tk 2 tr) H := hP
            replace hD : va_D F (mW A C ops nums vals st ce pk pv n vc sp d pr tk 2 tr) := hD
            refine lv_aload_n hx hb dM_code_86 rfl (lv_at hl 1 rfl) ?_
            refine zGetM hx hb hw hown hK hP 0 rfl 13 (by decide) wf_M_32 rfl dM_code_87 ?_
            refine zi_le (tgt := 95) hx hb dM_code_90 rfl (by omega) (fun q => absurd q (by omega)) (fun _ => ?_)
            refine lv_iconst (v := nI 0) hx hb dM_code_93 (by decide) ?_
            exact zIret (w' := fun (_ : Unit) => (mW A C ops nums vals st ce pk pv n vc sp d pr tk 2 tr)) () hx hb hr hlk hS hK rfl hP hD dM_code_94
          · refine lv_lload_n hx hb dM_code_42 rfl (lv_at hl 2 rfl) ?_
            refine lv_iconst (v := nI 0) hx hb dM_code_43 (by decide) ?_
            refine lv_bipush (v := nI 40) hx hb dM_code_44 (by decide) ?_
            refine zAfti (wa := []) (w := []) (wb := (mW A C ops nums vals st ce pk pv n vc sp d pr tk th tr)) (zRunS (wa := []) (w := []) (wb := (mW A C ops nums vals st ce pk pv n vc sp d pr tk th tr)) ⟨hx, hb, hml, hown, hw⟩ (c_in l D _ x 0 40 (by decide) (by decide)) wm_M_36 wt_M_in wn_M wc_M_in ⟨rfl, rfl⟩ wd_M_in ⟨by decide, by decide⟩ (hK.sub [] rfl) hP hD hl.1 rfl (Nat.le_of_ble_eq_true rfl) dM_code_46 ⟨by decide, by decide⟩) hP hD hS hA (fun r u H locs hp hP hD hS => ?_)
            replace hP : va_P D vwCl (mW A C ops nums vals st ce pk pv n vc sp d pr tk th tr) H := hP
            replace hD : va_D F (mW A C ops nums vals st ce pk pv n vc sp d pr tk th tr) := hD
            rcases hp with ⟨rfl, g46⟩ | ⟨rfl, g46⟩
            · refine zi_eq (tgt := 56) hx hb dM_code_49 rfl (by omega) (fun q => absurd q (by omega)) (fun _ => ?_)
              refine lv_iconst (v := nI 1) hx hb dM_code_52 (by decide) ?_
              refine lv_goto (tgt := 57) hx hb dM_code_53 rfl ?_
              refine lv_istore hx hb dM_code_57 hl (by decide) rfl (fun ls hl => ?_)
              have hl : lv_has ls 5 [(4, .int (nI 1)), (0, .ref (A 0)), (1, .int o), (2, .long x)] := hl
              refine lv_aload_n hx hb dM_code_59 rfl (lv_at hl 1 rfl) ?_
              refine lv_iload hx hb dM_code_60 (lv_at hl 0 rfl) ?_
              refine zi_ne (tgt := 69) hx hb dM_code_62 rfl (by omega) (fun _ => ?_) (fun q => absurd q (by omega))
              refine lv_aload_n hx hb dM_code_69 rfl (lv_at hl 1 rfl) ?_
              refine zGetM hx hb hw hown hK hP 0 rfl 7 (by decide) wf_M_40 rfl dM_code_70 ?_
              refine lv_bipush (v := nI 40) hx hb dM_code_73 (by decide) ?_
              refine zc_ne (tgt := 82) hx hb dM_code_75 rfl (by omega) (by omega) (fun q => absurd q (by omega)) (fun _ => ?_)
              refine lv_iconst (v := nI 2) hx hb dM_code_78 (by decide) ?_
              refine lv_goto (tgt := 83) hx hb dM_code_79 rfl ?_
              refine zPutM hx hb hw hown hK hP hD hS 0 rfl 13 (by decide) wf_M_32 rfl rfl rfl (Nat.le_of_ble_eq_true rfl) dM_code_83 (fun H locs hP hD hS => ?_)
              replace hP : va_P D vwCl (mW A C ops nums vals st ce pk pv n vc sp d pr tk 2 tr) H := hP
              replace hD : va_D F (mW A C ops nums vals st ce pk pv n vc sp d pr tk 2 tr) := hD
              refine lv_aload_n hx hb dM_code_86 rfl (lv_at hl 1 rfl) ?_
              refine zGetM hx hb hw hown hK hP 0 rfl 13 (by decide) wf_M_32 rfl dM_code_87 ?_
              refine zi_le (tgt := 95) hx hb dM_code_90 rfl (by omega) (fun q => absurd q (by omega)) (fun _ => ?_)
              refine lv_iconst (v := nI 0) hx hb dM_code_93 (by decide) ?_
              exact zIret (w' := fun (_ : Unit) => (mW A C ops nums vals st ce pk pv n vc sp d pr tk 2 tr)) () hx hb hr hlk hS hK rfl hP hD dM_code_94
            · refine zi_eq (tgt := 56) hx hb dM_code_49 rfl (by omega) (fun _ => ?_) (fun q => absurd q (by omega))
              refine lv_iconst (v := nI 0) hx hb dM_code_56 (by decide) ?_
              refine lv_istore hx hb dM_code_57 hl (by decide) rfl (fun ls hl => ?_)
              have hl : lv_has ls 5 [(4, .int (nI 0)), (0, .ref (A 0)), (1, .int o), (2, .long x)] := hl
              exact absurd (show ¬ okM o x by clear hl hx hb hr hlk hml hnm hw hown hP hK hD hA hS; unfold okM; grind) (fun z => z hok)
      · refine lv_lload_n hx hb dM_code_21 rfl (lv_at hl 2 rfl) ?_
        refine lv_iconst (v := nI 0) hx hb dM_code_22 (by decide) ?_
        refine lv_iconst (v := nI 3) hx hb dM_code_23 (by decide) ?_
        refine zAfti (wa := []) (w := []) (wb := (mW A C ops nums vals st ce pk pv n vc sp d pr tk th tr)) (zRunS (wa := []) (w := []) (wb := (mW A C ops nums vals st ce pk pv n vc sp d pr tk th tr)) ⟨hx, hb, hml, hown, hw⟩ (c_in l D _ x 0 3 (by decide) (by decide)) wm_M_36 wt_M_in wn_M wc_M_in ⟨rfl, rfl⟩ wd_M_in ⟨by decide, by decide⟩ (hK.sub [] rfl) hP hD hl.1 rfl (Nat.le_of_ble_eq_true rfl) dM_code_24 ⟨by decide, by decide⟩) hP hD hS hA (fun r u H locs hp hP hD hS => ?_)
        replace hP : va_P D vwCl (mW A C ops nums vals st ce pk pv n vc sp d pr tk th tr) H := hP
        replace hD : va_D F (mW A C ops nums vals st ce pk pv n vc sp d pr tk th tr) := hD
        rcases hp with ⟨rfl, g24⟩ | ⟨rfl, g24⟩
        · refine zi_eq (tgt := 56) hx hb dM_code_27 rfl (by omega) (fun q => absurd q (by omega)) (fun _ => ?_)
          refine lv_iload_n hx hb dM_code_30 rfl (lv_at hl 1 rfl) ?_
          refine lv_bipush (v := nI 15) hx hb dM_code_31 (by decide) ?_
          refine lv_icmp_eq (tgt := 42) hx hb dM_code_33 rfl (fun h33 => ?_) (fun h33 => ?_)
          · refine lv_lload_n hx hb dM_code_42 rfl (lv_at hl 2 rfl) ?_
            refine lv_iconst (v := nI 0) hx hb dM_code_43 (by decide) ?_
            refine lv_bipush (v := nI 40) hx hb dM_code_44 (by decide) ?_
            refine zAfti (wa := []) (w := []) (wb := (mW A C ops nums vals st ce pk pv n vc sp d pr tk th tr)) (zRunS (wa := []) (w := []) (wb := (mW A C ops nums vals st ce pk pv n vc sp d pr tk th tr)) ⟨hx, hb, hml, hown, hw⟩ (c_in l D _ x 0 40 (by decide) (by decide)) wm_M_36 wt_M_in wn_M wc_M_in ⟨rfl, rfl⟩ wd_M_in ⟨by decide, by decide⟩ (hK.sub [] rfl) hP hD hl.1 rfl (Nat.le_of_ble_eq_true rfl) dM_code_46 ⟨by decide, by decide⟩) hP hD hS hA (fun r u H locs hp hP hD hS => ?_)
            replace hP : va_P D vwCl (mW A C ops nums vals st ce pk pv n vc sp d pr tk th tr) H := hP
            replace hD : va_D F (mW A C ops nums vals st ce pk pv n vc sp d pr tk th tr) := hD
            rcases hp with ⟨rfl, g46⟩ | ⟨rfl, g46⟩
            · refine zi_eq (tgt := 56) hx hb dM_code_49 rfl (by omega) (fun q => absurd q (by omega)) (fun _ => ?_)
              refine lv_iconst (v := nI 1) hx hb dM_code_52 (by decide) ?_
              refine lv_goto (tgt := 57) hx hb dM_code_53 rfl ?_
              refine lv_istore hx hb dM_code_57 hl (by decide) rfl (fun ls hl => ?_)
              have hl : lv_has ls 5 [(4, .int (nI 1)), (0, .ref (A 0)), (1, .int o), (2, .long x)] := hl
              refine lv_aload_n hx hb dM_code_59 rfl (lv_at hl 1 rfl) ?_
              refine lv_iload hx hb dM_code_60 (lv_at hl 0 rfl) ?_
              refine zi_ne (tgt := 69) hx hb dM_code_62 rfl (by omega) (fun _ => ?_) (fun q => absurd q (by omega))
              refine lv_aload_n hx hb dM_code_69 rfl (lv_at hl 1 rfl) ?_
              refine zGetM hx hb hw hown hK hP 0 rfl 7 (by decide) wf_M_40 rfl dM_code_70 ?_
              refine lv_bipush (v := nI 40) hx hb dM_code_73 (by decide) ?_
              refine zc_ne (tgt := 82) hx hb dM_code_75 rfl (by omega) (by omega) (fun q => absurd q (by omega)) (fun _ => ?_)
              refine lv_iconst (v := nI 2) hx hb dM_code_78 (by decide) ?_
              refine lv_goto (tgt := 83) hx hb dM_code_79 rfl ?_
              refine zPutM hx hb hw hown hK hP hD hS 0 rfl 13 (by decide) wf_M_32 rfl rfl rfl (Nat.le_of_ble_eq_true rfl) dM_code_83 (fun H locs hP hD hS => ?_)
              replace hP : va_P D vwCl (mW A C ops nums vals st ce pk pv n vc sp d pr tk 2 tr) H := hP
              replace hD : va_D F (mW A C ops nums vals st ce pk pv n vc sp d pr tk 2 tr) := hD
              refine lv_aload_n hx hb dM_code_86 rfl (lv_at hl 1 rfl) ?_
              refine zGetM hx hb hw hown hK hP 0 rfl 13 (by decide) wf_M_32 rfl dM_code_87 ?_
              refine zi_le (tgt := 95) hx hb dM_code_90 rfl (by omega) (fun q => absurd q (by omega)) (fun _ => ?_)
              refine lv_iconst (v := nI 0) hx hb dM_code_93 (by decide) ?_
              exact zIret (w' := fun (_ : Unit) => (mW A C ops nums vals st ce pk pv n vc sp d pr tk 2 tr)) () hx hb hr hlk hS hK rfl hP hD dM_code_94
            · refine zi_eq (tgt := 56) hx hb dM_code_49 rfl (by omega) (fun _ => ?_) (fun q => absurd q (by omega))
              refine lv_iconst (v := nI 0) hx hb dM_code_56 (by decide) ?_
              refine lv_istore hx hb dM_code_57 hl (by decide) rfl (fun ls hl => ?_)
              have hl : lv_has ls 5 [(4, .int (nI 0)), (0, .ref (A 0)), (1, .int o), (2, .long x)] := hl
              exact absurd (show ¬ okM o x by clear hl hx hb hr hlk hml hnm hw hown hP hK hD hA hS; unfold okM; grind) (fun z => z hok)
          · refine lv_iload_n hx hb dM_code_36 rfl (lv_at hl 1 rfl) ?_
            refine lv_bipush (v := nI 16) hx hb dM_code_37 (by decide) ?_
            refine lv_icmp_ne (tgt := 52) hx hb dM_code_39 rfl (fun h39 => ?_) (fun h39 => ?_)
            · refine lv_iconst (v := nI 1) hx hb dM_code_52 (by decide) ?_
              refine lv_goto (tgt := 57) hx hb dM_code_53 rfl ?_
              refine lv_istore hx hb dM_code_57 hl (by decide) rfl (fun ls hl => ?_)
              have hl : lv_has ls 5 [(4, .int (nI 1)), (0, .ref (A 0)), (1, .int o), (2, .long x)] := hl
              refine lv_aload_n hx hb dM_code_59 rfl (lv_at hl 1 rfl) ?_
              refine lv_iload hx hb dM_code_60 (lv_at hl 0 rfl) ?_
              refine zi_ne (tgt := 69) hx hb dM_code_62 rfl (by omega) (fun _ => ?_) (fun q => absurd q (by omega))
              refine lv_aload_n hx hb dM_code_69 rfl (lv_at hl 1 rfl) ?_
              refine zGetM hx hb hw hown hK hP 0 rfl 7 (by decide) wf_M_40 rfl dM_code_70 ?_
              refine lv_bipush (v := nI 40) hx hb dM_code_73 (by decide) ?_
              refine zc_ne (tgt := 82) hx hb dM_code_75 rfl (by omega) (by omega) (fun q => absurd q (by omega)) (fun _ => ?_)
              refine lv_iconst (v := nI 2) hx hb dM_code_78 (by decide) ?_
              refine lv_goto (tgt := 83) hx hb dM_code_79 rfl ?_
              refine zPutM hx hb hw hown hK hP hD hS 0 rfl 13 (by decide) wf_M_32 rfl rfl rfl (Nat.le_of_ble_eq_true rfl) dM_code_83 (fun H locs hP hD hS => ?_)
              replace hP : va_P D vwCl (mW A C ops nums vals st ce pk pv n vc sp d pr tk 2 tr) H := hP
              replace hD : va_D F (mW A C ops nums vals st ce pk pv n vc sp d pr tk 2 tr) := hD
              refine lv_aload_n hx hb dM_code_86 rfl (lv_at hl 1 rfl) ?_
              refine zGetM hx hb hw hown hK hP 0 rfl 13 (by decide) wf_M_32 rfl dM_code_87 ?_
              refine zi_le (tgt := 95) hx hb dM_code_90 rfl (by omega) (fun q => absurd q (by omega)) (fun _ => ?_)
              refine lv_iconst (v := nI 0) hx hb dM_code_93 (by decide) ?_
              exact zIret (w' := fun (_ : Unit) => (mW A C ops nums vals st ce pk pv n vc sp d pr tk 2 tr)) () hx hb hr hlk hS hK rfl hP hD dM_code_94
            · refine lv_lload_n hx hb dM_code_42 rfl (lv_at hl 2 rfl) ?_
              refine lv_iconst (v := nI 0) hx hb dM_code_43 (by decide) ?_
              refine lv_bipush (v := nI 40) hx hb dM_code_44 (by decide) ?_
              refine zAfti (wa := []) (w := []) (wb := (mW A C ops nums vals st ce pk pv n vc sp d pr tk th tr)) (zRunS (wa := []) (w := []) (wb := (mW A C ops nums vals st ce pk pv n vc sp d pr tk th tr)) ⟨hx, hb, hml, hown, hw⟩ (c_in l D _ x 0 40 (by decide) (by decide)) wm_M_36 wt_M_in wn_M wc_M_in ⟨rfl, rfl⟩ wd_M_in ⟨by decide, by decide⟩ (hK.sub [] rfl) hP hD hl.1 rfl (Nat.le_of_ble_eq_true rfl) dM_code_46 ⟨by decide, by decide⟩) hP hD hS hA (fun r u H locs hp hP hD hS => ?_)
              replace hP : va_P D vwCl (mW A C ops nums vals st ce pk pv n vc sp d pr tk th tr) H := hP
              replace hD : va_D F (mW A C ops nums vals st ce pk pv n vc sp d pr tk th tr) := hD
              rcases hp with ⟨rfl, g46⟩ | ⟨rfl, g46⟩
              · refine zi_eq (tgt := 56) hx hb dM_code_49 rfl (by omega) (fun q => absurd q (by omega)) (fun _ => ?_)
                refine lv_iconst (v := nI 1) hx hb dM_code_52 (by decide) ?_
                refine lv_goto (tgt := 57) hx hb dM_code_53 rfl ?_
                refine lv_istore hx hb dM_code_57 hl (by decide) rfl (fun ls hl => ?_)
                have hl : lv_has ls 5 [(4, .int (nI 1)), (0, .ref (A 0)), (1, .int o), (2, .long x)] := hl
                refine lv_aload_n hx hb dM_code_59 rfl (lv_at hl 1 rfl) ?_
                refine lv_iload hx hb dM_code_60 (lv_at hl 0 rfl) ?_
                refine zi_ne (tgt := 69) hx hb dM_code_62 rfl (by omega) (fun _ => ?_) (fun q => absurd q (by omega))
                refine lv_aload_n hx hb dM_code_69 rfl (lv_at hl 1 rfl) ?_
                refine zGetM hx hb hw hown hK hP 0 rfl 7 (by decide) wf_M_40 rfl dM_code_70 ?_
                refine lv_bipush (v := nI 40) hx hb dM_code_73 (by decide) ?_
                refine zc_ne (tgt := 82) hx hb dM_code_75 rfl (by omega) (by omega) (fun q => absurd q (by omega)) (fun _ => ?_)
                refine lv_iconst (v := nI 2) hx hb dM_code_78 (by decide) ?_
                refine lv_goto (tgt := 83) hx hb dM_code_79 rfl ?_
                refine zPutM hx hb hw hown hK hP hD hS 0 rfl 13 (by decide) wf_M_32 rfl rfl rfl (Nat.le_of_ble_eq_true rfl) dM_code_83 (fun H locs hP hD hS => ?_)
                replace hP : va_P D vwCl (mW A C ops nums vals st ce pk pv n vc sp d pr tk 2 tr) H := hP
                replace hD : va_D F (mW A C ops nums vals st ce pk pv n vc sp d pr tk 2 tr) := hD
                refine lv_aload_n hx hb dM_code_86 rfl (lv_at hl 1 rfl) ?_
                refine zGetM hx hb hw hown hK hP 0 rfl 13 (by decide) wf_M_32 rfl dM_code_87 ?_
                refine zi_le (tgt := 95) hx hb dM_code_90 rfl (by omega) (fun q => absurd q (by omega)) (fun _ => ?_)
                refine lv_iconst (v := nI 0) hx hb dM_code_93 (by decide) ?_
                exact zIret (w' := fun (_ : Unit) => (mW A C ops nums vals st ce pk pv n vc sp d pr tk 2 tr)) () hx hb hr hlk hS hK rfl hP hD dM_code_94
              · refine zi_eq (tgt := 56) hx hb dM_code_49 rfl (by omega) (fun _ => ?_) (fun q => absurd q (by omega))
                refine lv_iconst (v := nI 0) hx hb dM_code_56 (by decide) ?_
                refine lv_istore hx hb dM_code_57 hl (by decide) rfl (fun ls hl => ?_)
                have hl : lv_has ls 5 [(4, .int (nI 0)), (0, .ref (A 0)), (1, .int o), (2, .long x)] := hl
                exact absurd (show ¬ okM o x by clear hl hx hb hr hlk hml hnm hw hown hP hK hD hA hS; unfold okM; grind) (fun z => z hok)
        · refine zi_eq (tgt := 56) hx hb dM_code_27 rfl (by omega) (fun _ => ?_) (fun q => absurd q (by omega))
          refine lv_iconst (v := nI 0) hx hb dM_code_56 (by decide) ?_
          refine lv_istore hx hb dM_code_57 hl (by decide) rfl (fun ls hl => ?_)
          have hl : lv_has ls 5 [(4, .int (nI 0)), (0, .ref (A 0)), (1, .int o), (2, .long x)] := hl
          exact absurd (show ¬ okM o x by clear hl hx hb hr hlk hml hnm hw hown hP hK hD hA hS; unfold okM; grind) (fun z => z hok)
  · refine zi_eq (tgt := 56) hx hb dM_code_8 rfl (by omega) (fun _ => ?_) (fun q => absurd q (by omega))
    refine lv_iconst (v := nI 0) hx hb dM_code_56 (by decide) ?_
    refine lv_istore hx hb dM_code_57 hl (by decide) rfl (fun ls hl => ?_)
    have hl : lv_has ls 5 [(4, .int (nI 0)), (0, .ref (A 0)), (1, .int o), (2, .long x)] := hl
    exact absurd (show ¬ okM o x by clear hl hx hb hr hlk hml hnm hw hown hP hK hD hA hS; unfold okM; grind) (fun z => z hok)

set_option maxRecDepth 20000 in
set_option maxHeartbeats 4000000 in
theorem c_M_code_bad (l : Launch) (D : va_G) (A : Nat → Nat) (C : Nat → ClassId) (sz : Nat) (ops : Nat → Int32) (nums : Nat → Int64) (vals : Nat → Int64) (st : Nat → Int64) (ce : Nat → Int64) (pk : Nat → Int64) (pv : Nat → Int64) (n : Nat) (vc : Nat) (sp : Nat) (d : Nat) (pr : Nat) (tk : Nat) (th : Nat) (tr : Nat) (o : Int32) (x : Int64) (hok : ¬ okM o x) : Met l yM_code (.code yM_code cM_code 5 (some .int) :: WS) (rmk 1 23) (va_Pc [.ref (A 0), .int o, .long x] (zP D (mT C) sz (mW A C ops nums vals st ce pk pv n vc sp d pr tk th tr))) (va_Qi (fun (r : Int32) (_ : Unit) => r = nI 0) (fun (_ : Unit) t => zB D (mT C) (va_A (mW A C ops nums vals st ce pk pv n vc sp d pr tk th tr) sz) (mW A C ops nums vals st ce pk pv n vc sp d pr tk 1 tr) t) (va_A (mW A C ops nums vals st ce pk pv n vc sp d pr tk th tr) sz)) 0 0 (va_A (mW A C ops nums vals st ce pk pv n vc sp d pr tk th tr) sz) := by
  refine zEnt (Qc := fun F => (va_Qi (fun (r : Int32) (_ : Unit) => r = nI 0) (fun (_ : Unit) t => zB D (mT C) F (mW A C ops nums vals st ce pk pv n vc sp d pr tk 1 tr) t) F)) (by decide) (Nat.le_of_ble_eq_true rfl) (fun p e s m below meth c ls F hx hb hr hlk hml hnm hw hown hsz hP hK hD hA hl => ?_)
  have hS : va_S F s.heap s.heap [] := va_S.rf
  have hown : s.vm.findClass RM = some m.cls := hown
  have hl : lv_has ls 5 [(0, .ref (A 0)), (1, .int o), (2, .long x)] := hl
  refine lv_iload_n hx hb dM_code_0 rfl (lv_at hl 1 rfl) ?_
  refine lv_i2l hx hb dM_code_1 rfl ?_
  refine lv_iconst (v := nI 0) hx hb dM_code_2 (by decide) ?_
  refine lv_bipush (v := nI 18) hx hb dM_code_3 (by decide) ?_
  refine zAfti (wa := []) (w := []) (wb := (mW A C ops nums vals st ce pk pv n vc sp d pr tk th tr)) (zRunS (wa := []) (w := []) (wb := (mW A C ops nums vals st ce pk pv n vc sp d pr tk th tr)) ⟨hx, hb, hml, hown, hw⟩ (c_in l D _ o.toInt64 0 18 (by decide) (by decide)) wm_M_36 wt_M_in wn_M wc_M_in ⟨rfl, rfl⟩ wd_M_in ⟨by decide, by decide⟩ (hK.sub [] rfl) hP hD hl.1 rfl (Nat.le_of_ble_eq_true rfl) dM_code_5 ⟨by decide, by decide⟩) hP hD hS hA (fun r u H locs hp hP hD hS => ?_)
  replace hP : va_P D vwCl (mW A C ops nums vals st ce pk pv n vc sp d pr tk th tr) H := hP
  replace hD : va_D F (mW A C ops nums vals st ce pk pv n vc sp d pr tk th tr) := hD
  rcases hp with ⟨rfl, g5⟩ | ⟨rfl, g5⟩
  · refine zi_eq (tgt := 56) hx hb dM_code_8 rfl (by omega) (fun q => absurd q (by omega)) (fun _ => ?_)
    refine lv_iload_n hx hb dM_code_11 rfl (lv_at hl 1 rfl) ?_
    refine lv_iconst (v := nI 4) hx hb dM_code_12 (by decide) ?_
    refine lv_icmp_eq (tgt := 21) hx hb dM_code_13 rfl (fun h13 => ?_) (fun h13 => ?_)
    · refine lv_lload_n hx hb dM_code_21 rfl (lv_at hl 2 rfl) ?_
      refine lv_iconst (v := nI 0) hx hb dM_code_22 (by decide) ?_
      refine lv_iconst (v := nI 3) hx hb dM_code_23 (by decide) ?_
      refine zAfti (wa := []) (w := []) (wb := (mW A C ops nums vals st ce pk pv n vc sp d pr tk th tr)) (zRunS (wa := []) (w := []) (wb := (mW A C ops nums vals st ce pk pv n vc sp d pr tk th tr)) ⟨hx, hb, hml, hown, hw⟩ (c_in l D _ x 0 3 (by decide) (by decide)) wm_M_36 wt_M_in wn_M wc_M_in ⟨rfl, rfl⟩ wd_M_in ⟨by decide, by decide⟩ (hK.sub [] rfl) hP hD hl.1 rfl (Nat.le_of_ble_eq_true rfl) dM_code_24 ⟨by decide, by decide⟩) hP hD hS hA (fun r u H locs hp hP hD hS => ?_)
      replace hP : va_P D vwCl (mW A C ops nums vals st ce pk pv n vc sp d pr tk th tr) H := hP
      replace hD : va_D F (mW A C ops nums vals st ce pk pv n vc sp d pr tk th tr) := hD
      rcases hp with ⟨rfl, g24⟩ | ⟨rfl, g24⟩
      · refine zi_eq (tgt := 56) hx hb dM_code_27 rfl (by omega) (fun q => absurd q (by omega)) (fun _ => ?_)
        refine lv_iload_n hx hb dM_code_30 rfl (lv_at hl 1 rfl) ?_
        refine lv_bipush (v := nI 15) hx hb dM_code_31 (by decide) ?_
        refine lv_icmp_eq (tgt := 42) hx hb dM_code_33 rfl (fun h33 => ?_) (fun h33 => ?_)
        · refine lv_lload_n hx hb dM_code_42 rfl (lv_at hl 2 rfl) ?_
          refine lv_iconst (v := nI 0) hx hb dM_code_43 (by decide) ?_
          refine lv_bipush (v := nI 40) hx hb dM_code_44 (by decide) ?_
          refine zAfti (wa := []) (w := []) (wb := (mW A C ops nums vals st ce pk pv n vc sp d pr tk th tr)) (zRunS (wa := []) (w := []) (wb := (mW A C ops nums vals st ce pk pv n vc sp d pr tk th tr)) ⟨hx, hb, hml, hown, hw⟩ (c_in l D _ x 0 40 (by decide) (by decide)) wm_M_36 wt_M_in wn_M wc_M_in ⟨rfl, rfl⟩ wd_M_in ⟨by decide, by decide⟩ (hK.sub [] rfl) hP hD hl.1 rfl (Nat.le_of_ble_eq_true rfl) dM_code_46 ⟨by decide, by decide⟩) hP hD hS hA (fun r u H locs hp hP hD hS => ?_)
          replace hP : va_P D vwCl (mW A C ops nums vals st ce pk pv n vc sp d pr tk th tr) H := hP
          replace hD : va_D F (mW A C ops nums vals st ce pk pv n vc sp d pr tk th tr) := hD
          rcases hp with ⟨rfl, g46⟩ | ⟨rfl, g46⟩
          · refine zi_eq (tgt := 56) hx hb dM_code_49 rfl (by omega) (fun q => absurd q (by omega)) (fun _ => ?_)
            refine lv_iconst (v := nI 1) hx hb dM_code_52 (by decide) ?_
            refine lv_goto (tgt := 57) hx hb dM_code_53 rfl ?_
            refine lv_istore hx hb dM_code_57 hl (by decide) rfl (fun ls hl => ?_)
            have hl : lv_has ls 5 [(4, .int (nI 1)), (0, .ref (A 0)), (1, .int o), (2, .long x)] := hl
            exact absurd (show okM o x by clear hl hx hb hr hlk hml hnm hw hown hP hK hD hA hS; unfold okM; grind) hok
          · refine zi_eq (tgt := 56) hx hb dM_code_49 rfl (by omega) (fun _ => ?_) (fun q => absurd q (by omega))
            refine lv_iconst (v := nI 0) hx hb dM_code_56 (by decide) ?_
            refine lv_istore hx hb dM_code_57 hl (by decide) rfl (fun ls hl => ?_)
            have hl : lv_has ls 5 [(4, .int (nI 0)), (0, .ref (A 0)), (1, .int o), (2, .long x)] := hl
            refine lv_aload_n hx hb dM_code_59 rfl (lv_at hl 1 rfl) ?_
            refine lv_iload hx hb dM_code_60 (lv_at hl 0 rfl) ?_
            refine zi_ne (tgt := 69) hx hb dM_code_62 rfl (by omega) (fun q => absurd q (by omega)) (fun _ => ?_)
            refine lv_iconst (v := nI 1) hx hb dM_code_65 (by decide) ?_
            refine lv_goto (tgt := 83) hx hb dM_code_66 rfl ?_
            refine zPutM hx hb hw hown hK hP hD hS 0 rfl 13 (by decide) wf_M_32 rfl rfl rfl (Nat.le_of_ble_eq_true rfl) dM_code_83 (fun H locs hP hD hS => ?_)
            replace hP : va_P D vwCl (mW A C ops nums vals st ce pk pv n vc sp d pr tk 1 tr) H := hP
            replace hD : va_D F (mW A C ops nums vals st ce pk pv n vc sp d pr tk 1 tr) := hD
            refine lv_aload_n hx hb dM_code_86 rfl (lv_at hl 1 rfl) ?_
            refine zGetM hx hb hw hown hK hP 0 rfl 13 (by decide) wf_M_32 rfl dM_code_87 ?_
            refine zi_le (tgt := 95) hx hb dM_code_90 rfl (by omega) (fun q => absurd q (by omega)) (fun _ => ?_)
            refine lv_iconst (v := nI 0) hx hb dM_code_93 (by decide) ?_
            exact zIret (w' := fun (_ : Unit) => (mW A C ops nums vals st ce pk pv n vc sp d pr tk 1 tr)) () hx hb hr hlk hS hK rfl hP hD dM_code_94
        · refine lv_iload_n hx hb dM_code_36 rfl (lv_at hl 1 rfl) ?_
          refine lv_bipush (v := nI 16) hx hb dM_code_37 (by decide) ?_
          refine lv_icmp_ne (tgt := 52) hx hb dM_code_39 rfl (fun h39 => ?_) (fun h39 => ?_)
          · refine lv_iconst (v := nI 1) hx hb dM_code_52 (by decide) ?_
            refine lv_goto (tgt := 57) hx hb dM_code_53 rfl ?_
            refine lv_istore hx hb dM_code_57 hl (by decide) rfl (fun ls hl => ?_)
            have hl : lv_has ls 5 [(4, .int (nI 1)), (0, .ref (A 0)), (1, .int o), (2, .long x)] := hl
            exact absurd (show okM o x by clear hl hx hb hr hlk hml hnm hw hown hP hK hD hA hS; unfold okM; grind) hok
          · refine lv_lload_n hx hb dM_code_42 rfl (lv_at hl 2 rfl) ?_
            refine lv_iconst (v := nI 0) hx hb dM_code_43 (by decide) ?_
            refine lv_bipush (v := nI 40) hx hb dM_code_44 (by decide) ?_
            refine zAfti (wa := []) (w := []) (wb := (mW A C ops nums vals st ce pk pv n vc sp d pr tk th tr)) (zRunS (wa := []) (w := []) (wb := (mW A C ops nums vals st ce pk pv n vc sp d pr tk th tr)) ⟨hx, hb, hml, hown, hw⟩ (c_in l D _ x 0 40 (by decide) (by decide)) wm_M_36 wt_M_in wn_M wc_M_in ⟨rfl, rfl⟩ wd_M_in ⟨by decide, by decide⟩ (hK.sub [] rfl) hP hD hl.1 rfl (Nat.le_of_ble_eq_true rfl) dM_code_46 ⟨by decide, by decide⟩) hP hD hS hA (fun r u H locs hp hP hD hS => ?_)
            replace hP : va_P D vwCl (mW A C ops nums vals st ce pk pv n vc sp d pr tk th tr) H := hP
            replace hD : va_D F (mW A C ops nums vals st ce pk pv n vc sp d pr tk th tr) := hD
            rcases hp with ⟨rfl, g46⟩ | ⟨rfl, g46⟩
            · refine zi_eq (tgt := 56) hx hb dM_code_49 rfl (by omega) (fun q => absurd q (by omega)) (fun _ => ?_)
              refine lv_iconst (v := nI 1) hx hb dM_code_52 (by decide) ?_
              refine lv_goto (tgt := 57) hx hb dM_code_53 rfl ?_
              refine lv_istore hx hb dM_code_57 hl (by decide) rfl (fun ls hl => ?_)
              have hl : lv_has ls 5 [(4, .int (nI 1)), (0, .ref (A 0)), (1, .int o), (2, .long x)] := hl
              exact absurd (show okM o x by clear hl hx hb hr hlk hml hnm hw hown hP hK hD hA hS; unfold okM; grind) hok
            · refine zi_eq (tgt := 56) hx hb dM_code_49 rfl (by omega) (fun _ => ?_) (fun q => absurd q (by omega))
              refine lv_iconst (v := nI 0) hx hb dM_code_56 (by decide) ?_
              refine lv_istore hx hb dM_code_57 hl (by decide) rfl (fun ls hl => ?_)
              have hl : lv_has ls 5 [(4, .int (nI 0)), (0, .ref (A 0)), (1, .int o), (2, .long x)] := hl
              refine lv_aload_n hx hb dM_code_59 rfl (lv_at hl 1 rfl) ?_
              refine lv_iload hx hb dM_code_60 (lv_at hl 0 rfl) ?_
              refine zi_ne (tgt := 69) hx hb dM_code_62 rfl (by omega) (fun q => absurd q (by omega)) (fun _ => ?_)
              refine lv_iconst (v := nI 1) hx hb dM_code_65 (by decide) ?_
              refine lv_goto (tgt := 83) hx hb dM_code_66 rfl ?_
              refine zPutM hx hb hw hown hK hP hD hS 0 rfl 13 (by decide) wf_M_32 rfl rfl rfl (Nat.le_of_ble_eq_true rfl) dM_code_83 (fun H locs hP hD hS => ?_)
              replace hP : va_P D vwCl (mW A C ops nums vals st ce pk pv n vc sp d pr tk 1 tr) H := hP
              replace hD : va_D F (mW A C ops nums vals st ce pk pv n vc sp d pr tk 1 tr) := hD
              refine lv_aload_n hx hb dM_code_86 rfl (lv_at hl 1 rfl) ?_
              refine zGetM hx hb hw hown hK hP 0 rfl 13 (by decide) wf_M_32 rfl dM_code_87 ?_
              refine zi_le (tgt := 95) hx hb dM_code_90 rfl (by omega) (fun q => absurd q (by omega)) (fun _ => ?_)
              refine lv_iconst (v := nI 0) hx hb dM_code_93 (by decide) ?_
              exact zIret (w' := fun (_ : Unit) => (mW A C ops nums vals st ce pk pv n vc sp d pr tk 1 tr)) () hx hb hr hlk hS hK rfl hP hD dM_code_94
      · refine zi_eq (tgt := 56) hx hb dM_code_27 rfl (by omega) (fun _ => ?_) (fun q => absurd q (by omega))
        refine lv_iconst (v := nI 0) hx hb dM_code_56 (by decide) ?_
        refine lv_istore hx hb dM_code_57 hl (by decide) rfl (fun ls hl => ?_)
        have hl : lv_has ls 5 [(4, .int (nI 0)), (0, .ref (A 0)), (1, .int o), (2, .long x)] := hl
        refine lv_aload_n hx hb dM_code_59 rfl (lv_at hl 1 rfl) ?_
        refine lv_iload hx hb dM_code_60 (lv_at hl 0 rfl) ?_
        refine zi_ne (tgt := 69) hx hb dM_code_62 rfl (by omega) (fun q => absurd q (by omega)) (fun _ => ?_)
        refine lv_iconst (v := nI 1) hx hb dM_code_65 (by decide) ?_
        refine lv_goto (tgt := 83) hx hb dM_code_66 rfl ?_
        refine zPutM hx hb hw hown hK hP hD hS 0 rfl 13 (by decide) wf_M_32 rfl rfl rfl (Nat.le_of_ble_eq_true rfl) dM_code_83 (fun H locs hP hD hS => ?_)
        replace hP : va_P D vwCl (mW A C ops nums vals st ce pk pv n vc sp d pr tk 1 tr) H := hP
        replace hD : va_D F (mW A C ops nums vals st ce pk pv n vc sp d pr tk 1 tr) := hD
        refine lv_aload_n hx hb dM_code_86 rfl (lv_at hl 1 rfl) ?_
        refine zGetM hx hb hw hown hK hP 0 rfl 13 (by decide) wf_M_32 rfl dM_code_87 ?_
        refine zi_le (tgt := 95) hx hb dM_code_90 rfl (by omega) (fun q => absurd q (by omega)) (fun _ => ?_)
        refine lv_iconst (v := nI 0) hx hb dM_code_93 (by decide) ?_
        exact zIret (w' := fun (_ : Unit) => (mW A C ops nums vals st ce pk pv n vc sp d pr tk 1 tr)) () hx hb hr hlk hS hK rfl hP hD dM_code_94
    · refine lv_iload_n hx hb dM_code_16 rfl (lv_at hl 1 rfl) ?_
      refine lv_iconst (v := nI 5) hx hb dM_code_17 (by decide) ?_
      refine lv_icmp_ne (tgt := 30) hx hb dM_code_18 rfl (fun h18 => ?_) (fun h18 => ?_)
      · refine lv_iload_n hx hb dM_code_30 rfl (lv_at hl 1 rfl) ?_
        refine lv_bipush (v := nI 15) hx hb dM_code_31 (by decide) ?_
        refine lv_icmp_eq (tgt := 42) hx hb dM_code_33 rfl (fun h33 => ?_) (fun h33 => ?_)
        · refine lv_lload_n hx hb dM_code_42 rfl (lv_at hl 2 rfl) ?_
          refine lv_iconst (v := nI 0) hx hb dM_code_43 (by decide) ?_
          refine lv_bipush (v := nI 40) hx hb dM_code_44 (by decide) ?_
          refine zAfti (wa := []) (w := []) (wb := (mW A C ops nums vals st ce pk pv n vc sp d pr tk th tr)) (zRunS (wa := []) (w := []) (wb := (mW A C ops nums vals st ce pk pv n vc sp d pr tk th tr)) ⟨hx, hb, hml, hown, hw⟩ (c_in l D _ x 0 40 (by decide) (by decide)) wm_M_36 wt_M_in wn_M wc_M_in ⟨rfl, rfl⟩ wd_M_in ⟨by decide, by decide⟩ (hK.sub [] rfl) hP hD hl.1 rfl (Nat.le_of_ble_eq_true rfl) dM_code_46 ⟨by decide, by decide⟩) hP hD hS hA (fun r u H locs hp hP hD hS => ?_)
          replace hP : va_P D vwCl (mW A C ops nums vals st ce pk pv n vc sp d pr tk th tr) H := hP
          replace hD : va_D F (mW A C ops nums vals st ce pk pv n vc sp d pr tk th tr) := hD
          rcases hp with ⟨rfl, g46⟩ | ⟨rfl, g46⟩
          · refine zi_eq (tgt := 56) hx hb dM_code_49 rfl (by omega) (fun q => absurd q (by omega)) (fun _ => ?_)
            refine lv_iconst (v := nI 1) hx hb dM_code_52 (by decide) ?_
            refine lv_goto (tgt := 57) hx hb dM_code_53 rfl ?_
            refine lv_istore hx hb dM_code_57 hl (by decide) rfl (fun ls hl => ?_)
            have hl : lv_has ls 5 [(4, .int (nI 1)), (0, .ref (A 0)), (1, .int o), (2, .long x)] := hl
            exact absurd (show okM o x by clear hl hx hb hr hlk hml hnm hw hown hP hK hD hA hS; unfold okM; grind) hok
          · refine zi_eq (tgt := 56) hx hb dM_code_49 rfl (by omega) (fun _ => ?_) (fun q => absurd q (by omega))
            refine lv_iconst (v := nI 0) hx hb dM_code_56 (by decide) ?_
            refine lv_istore hx hb dM_code_57 hl (by decide) rfl (fun ls hl => ?_)
            have hl : lv_has ls 5 [(4, .int (nI 0)), (0, .ref (A 0)), (1, .int o), (2, .long x)] := hl
            refine lv_aload_n hx hb dM_code_59 rfl (lv_at hl 1 rfl) ?_
            refine lv_iload hx hb dM_code_60 (lv_at hl 0 rfl) ?_
            refine zi_ne (tgt := 69) hx hb dM_code_62 rfl (by omega) (fun q => absurd q (by omega)) (fun _ => ?_)
            refine lv_iconst (v := nI 1) hx hb dM_code_65 (by decide) ?_
            refine lv_goto (tgt := 83) hx hb dM_code_66 rfl ?_
            refine zPutM hx hb hw hown hK hP hD hS 0 rfl 13 (by decide) wf_M_32 rfl rfl rfl (Nat.le_of_ble_eq_true rfl) dM_code_83 (fun H locs hP hD hS => ?_)
            replace hP : va_P D vwCl (mW A C ops nums vals st ce pk pv n vc sp d pr tk 1 tr) H := hP
            replace hD : va_D F (mW A C ops nums vals st ce pk pv n vc sp d pr tk 1 tr) := hD
            refine lv_aload_n hx hb dM_code_86 rfl (lv_at hl 1 rfl) ?_
            refine zGetM hx hb hw hown hK hP 0 rfl 13 (by decide) wf_M_32 rfl dM_code_87 ?_
            refine zi_le (tgt := 95) hx hb dM_code_90 rfl (by omega) (fun q => absurd q (by omega)) (fun _ => ?_)
            refine lv_iconst (v := nI 0) hx hb dM_code_93 (by decide) ?_
            exact zIret (w' := fun (_ : Unit) => (mW A C ops nums vals st ce pk pv n vc sp d pr tk 1 tr)) () hx hb hr hlk hS hK rfl hP hD dM_code_94
        · refine lv_iload_n hx hb dM_code_36 rfl (lv_at hl 1 rfl) ?_
          refine lv_bipush (v := nI 16) hx hb dM_code_37 (by decide) ?_
          refine lv_icmp_ne (tgt := 52) hx hb dM_code_39 rfl (fun h39 => ?_) (fun h39 => ?_)
          · refine lv_iconst (v := nI 1) hx hb dM_code_52 (by decide) ?_
            refine lv_goto (tgt := 57) hx hb dM_code_53 rfl ?_
            refine lv_istore hx hb dM_code_57 hl (by decide) rfl (fun ls hl => ?_)
            have hl : lv_has ls 5 [(4, .int (nI 1)), (0, .ref (A 0)), (1, .int o), (2, .long x)] := hl
            exact absurd (show okM o x by clear hl hx hb hr hlk hml hnm hw hown hP hK hD hA hS; unfold okM; grind) hok
          · refine lv_lload_n hx hb dM_code_42 rfl (lv_at hl 2 rfl) ?_
            refine lv_iconst (v := nI 0) hx hb dM_code_43 (by decide) ?_
            refine lv_bipush (v := nI 40) hx hb dM_code_44 (by decide) ?_
            refine zAfti (wa := []) (w := []) (wb := (mW A C ops nums vals st ce pk pv n vc sp d pr tk th tr)) (zRunS (wa := []) (w := []) (wb := (mW A C ops nums vals st ce pk pv n vc sp d pr tk th tr)) ⟨hx, hb, hml, hown, hw⟩ (c_in l D _ x 0 40 (by decide) (by decide)) wm_M_36 wt_M_in wn_M wc_M_in ⟨rfl, rfl⟩ wd_M_in ⟨by decide, by decide⟩ (hK.sub [] rfl) hP hD hl.1 rfl (Nat.le_of_ble_eq_true rfl) dM_code_46 ⟨by decide, by decide⟩) hP hD hS hA (fun r u H locs hp hP hD hS => ?_)
            replace hP : va_P D vwCl (mW A C ops nums vals st ce pk pv n vc sp d pr tk th tr) H := hP
            replace hD : va_D F (mW A C ops nums vals st ce pk pv n vc sp d pr tk th tr) := hD
            rcases hp with ⟨rfl, g46⟩ | ⟨rfl, g46⟩
            · refine zi_eq (tgt := 56) hx hb dM_code_49 rfl (by omega) (fun q => absurd q (by omega)) (fun _ => ?_)
              refine lv_iconst (v := nI 1) hx hb dM_code_52 (by decide) ?_
              refine lv_goto (tgt := 57) hx hb dM_code_53 rfl ?_
              refine lv_istore hx hb dM_code_57 hl (by decide) rfl (fun ls hl => ?_)
              have hl : lv_has ls 5 [(4, .int (nI 1)), (0, .ref (A 0)), (1, .int o), (2, .long x)] := hl
              exact absurd (show okM o x by clear hl hx hb hr hlk hml hnm hw hown hP hK hD hA hS; unfold okM; grind) hok
            · refine zi_eq (tgt := 56) hx hb dM_code_49 rfl (by omega) (fun _ => ?_) (fun q => absurd q (by omega))
              refine lv_iconst (v := nI 0) hx hb dM_code_56 (by decide) ?_
              refine lv_istore hx hb dM_code_57 hl (by decide) rfl (fun ls hl => ?_)
              have hl : lv_has ls 5 [(4, .int (nI 0)), (0, .ref (A 0)), (1, .int o), (2, .long x)] := hl
              refine lv_aload_n hx hb dM_code_59 rfl (lv_at hl 1 rfl) ?_
              refine lv_iload hx hb dM_code_60 (lv_at hl 0 rfl) ?_
              refine zi_ne (tgt := 69) hx hb dM_code_62 rfl (by omega) (fun q => absurd q (by omega)) (fun _ => ?_)
              refine lv_iconst (v := nI 1) hx hb dM_code_65 (by decide) ?_
              refine lv_goto (tgt := 83) hx hb dM_code_66 rfl ?_
              refine zPutM hx hb hw hown hK hP hD hS 0 rfl 13 (by decide) wf_M_32 rfl rfl rfl (Nat.le_of_ble_eq_true rfl) dM_code_83 (fun H locs hP hD hS => ?_)
              replace hP : va_P D vwCl (mW A C ops nums vals st ce pk pv n vc sp d pr tk 1 tr) H := hP
              replace hD : va_D F (mW A C ops nums vals st ce pk pv n vc sp d pr tk 1 tr) := hD
              refine lv_aload_n hx hb dM_code_86 rfl (lv_at hl 1 rfl) ?_
              refine zGetM hx hb hw hown hK hP 0 rfl 13 (by decide) wf_M_32 rfl dM_code_87 ?_
              refine zi_le (tgt := 95) hx hb dM_code_90 rfl (by omega) (fun q => absurd q (by omega)) (fun _ => ?_)
              refine lv_iconst (v := nI 0) hx hb dM_code_93 (by decide) ?_
              exact zIret (w' := fun (_ : Unit) => (mW A C ops nums vals st ce pk pv n vc sp d pr tk 1 tr)) () hx hb hr hlk hS hK rfl hP hD dM_code_94
      · refine lv_lload_n hx hb dM_code_21 rfl (lv_at hl 2 rfl) ?_
        refine lv_iconst (v := nI 0) hx hb dM_code_22 (by decide) ?_
        refine lv_iconst (v := nI 3) hx hb dM_code_23 (by decide) ?_
        refine zAfti (wa := []) (w := []) (wb := (mW A C ops nums vals st ce pk pv n vc sp d pr tk th tr)) (zRunS (wa := []) (w := []) (wb := (mW A C ops nums vals st ce pk pv n vc sp d pr tk th tr)) ⟨hx, hb, hml, hown, hw⟩ (c_in l D _ x 0 3 (by decide) (by decide)) wm_M_36 wt_M_in wn_M wc_M_in ⟨rfl, rfl⟩ wd_M_in ⟨by decide, by decide⟩ (hK.sub [] rfl) hP hD hl.1 rfl (Nat.le_of_ble_eq_true rfl) dM_code_24 ⟨by decide, by decide⟩) hP hD hS hA (fun r u H locs hp hP hD hS => ?_)
        replace hP : va_P D vwCl (mW A C ops nums vals st ce pk pv n vc sp d pr tk th tr) H := hP
        replace hD : va_D F (mW A C ops nums vals st ce pk pv n vc sp d pr tk th tr) := hD
        rcases hp with ⟨rfl, g24⟩ | ⟨rfl, g24⟩
        · refine zi_eq (tgt := 56) hx hb dM_code_27 rfl (by omega) (fun q => absurd q (by omega)) (fun _ => ?_)
          refine lv_iload_n hx hb dM_code_30 rfl (lv_at hl 1 rfl) ?_
          refine lv_bipush (v := nI 15) hx hb dM_code_31 (by decide) ?_
          refine lv_icmp_eq (tgt := 42) hx hb dM_code_33 rfl (fun h33 => ?_) (fun h33 => ?_)
          · refine lv_lload_n hx hb dM_code_42 rfl (lv_at hl 2 rfl) ?_
            refine lv_iconst (v := nI 0) hx hb dM_code_43 (by decide) ?_
            refine lv_bipush (v := nI 40) hx hb dM_code_44 (by decide) ?_
            refine zAfti (wa := []) (w := []) (wb := (mW A C ops nums vals st ce pk pv n vc sp d pr tk th tr)) (zRunS (wa := []) (w := []) (wb := (mW A C ops nums vals st ce pk pv n vc sp d pr tk th tr)) ⟨hx, hb, hml, hown, hw⟩ (c_in l D _ x 0 40 (by decide) (by decide)) wm_M_36 wt_M_in wn_M wc_M_in ⟨rfl, rfl⟩ wd_M_in ⟨by decide, by decide⟩ (hK.sub [] rfl) hP hD hl.1 rfl (Nat.le_of_ble_eq_true rfl) dM_code_46 ⟨by decide, by decide⟩) hP hD hS hA (fun r u H locs hp hP hD hS => ?_)
            replace hP : va_P D vwCl (mW A C ops nums vals st ce pk pv n vc sp d pr tk th tr) H := hP
            replace hD : va_D F (mW A C ops nums vals st ce pk pv n vc sp d pr tk th tr) := hD
            rcases hp with ⟨rfl, g46⟩ | ⟨rfl, g46⟩
            · refine zi_eq (tgt := 56) hx hb dM_code_49 rfl (by omega) (fun q => absurd q (by omega)) (fun _ => ?_)
              refine lv_iconst (v := nI 1) hx hb dM_code_52 (by decide) ?_
              refine lv_goto (tgt := 57) hx hb dM_code_53 rfl ?_
              refine lv_istore hx hb dM_code_57 hl (by decide) rfl (fun ls hl => ?_)
              have hl : lv_has ls 5 [(4, .int (nI 1)), (0, .ref (A 0)), (1, .int o), (2, .long x)] := hl
              exact absurd (show okM o x by clear hl hx hb hr hlk hml hnm hw hown hP hK hD hA hS; unfold okM; grind) hok
            · refine zi_eq (tgt := 56) hx hb dM_code_49 rfl (by omega) (fun _ => ?_) (fun q => absurd q (by omega))
              refine lv_iconst (v := nI 0) hx hb dM_code_56 (by decide) ?_
              refine lv_istore hx hb dM_code_57 hl (by decide) rfl (fun ls hl => ?_)
              have hl : lv_has ls 5 [(4, .int (nI 0)), (0, .ref (A 0)), (1, .int o), (2, .long x)] := hl
              refine lv_aload_n hx hb dM_code_59 rfl (lv_at hl 1 rfl) ?_
              refine lv_iload hx hb dM_code_60 (lv_at hl 0 rfl) ?_
              refine zi_ne (tgt := 69) hx hb dM_code_62 rfl (by omega) (fun q => absurd q (by omega)) (fun _ => ?_)
              refine lv_iconst (v := nI 1) hx hb dM_code_65 (by decide) ?_
              refine lv_goto (tgt := 83) hx hb dM_code_66 rfl ?_
              refine zPutM hx hb hw hown hK hP hD hS 0 rfl 13 (by decide) wf_M_32 rfl rfl rfl (Nat.le_of_ble_eq_true rfl) dM_code_83 (fun H locs hP hD hS => ?_)
              replace hP : va_P D vwCl (mW A C ops nums vals st ce pk pv n vc sp d pr tk 1 tr) H := hP
              replace hD : va_D F (mW A C ops nums vals st ce pk pv n vc sp d pr tk 1 tr) := hD
              refine lv_aload_n hx hb dM_code_86 rfl (lv_at hl 1 rfl) ?_
              refine zGetM hx hb hw hown hK hP 0 rfl 13 (by decide) wf_M_32 rfl dM_code_87 ?_
              refine zi_le (tgt := 95) hx hb dM_code_90 rfl (by omega) (fun q => absurd q (by omega)) (fun _ => ?_)
              refine lv_iconst (v := nI 0) hx hb dM_code_93 (by decide) ?_
              exact zIret (w' := fun (_ : Unit) => (mW A C ops nums vals st ce pk pv n vc sp d pr tk 1 tr)) () hx hb hr hlk hS hK rfl hP hD dM_code_94
          · refine lv_iload_n hx hb dM_code_36 rfl (lv_at hl 1 rfl) ?_
            refine lv_bipush (v := nI 16) hx hb dM_code_37 (by decide) ?_
            refine lv_icmp_ne (tgt := 52) hx hb dM_code_39 rfl (fun h39 => ?_) (fun h39 => ?_)
            · refine lv_iconst (v := nI 1) hx hb dM_code_52 (by decide) ?_
              refine lv_goto (tgt := 57) hx hb dM_code_53 rfl ?_
              refine lv_istore hx hb dM_code_57 hl (by decide) rfl (fun ls hl => ?_)
              have hl : lv_has ls 5 [(4, .int (nI 1)), (0, .ref (A 0)), (1, .int o), (2, .long x)] := hl
              exact absurd (show okM o x by clear hl hx hb hr hlk hml hnm hw hown hP hK hD hA hS; unfold okM; grind) hok
            · refine lv_lload_n hx hb dM_code_42 rfl (lv_at hl 2 rfl) ?_
              refine lv_iconst (v := nI 0) hx hb dM_code_43 (by decide) ?_
              refine lv_bipush (v := nI 40) hx hb dM_code_44 (by decide) ?_
              refine zAfti (wa := []) (w := []) (wb := (mW A C ops nums vals st ce pk pv n vc sp d pr tk th tr)) (zRunS (wa := []) (w := []) (wb := (mW A C ops nums vals st ce pk pv n vc sp d pr tk th tr)) ⟨hx, hb, hml, hown, hw⟩ (c_in l D _ x 0 40 (by decide) (by decide)) wm_M_36 wt_M_in wn_M wc_M_in ⟨rfl, rfl⟩ wd_M_in ⟨by decide, by decide⟩ (hK.sub [] rfl) hP hD hl.1 rfl (Nat.le_of_ble_eq_true rfl) dM_code_46 ⟨by decide, by decide⟩) hP hD hS hA (fun r u H locs hp hP hD hS => ?_)
              replace hP : va_P D vwCl (mW A C ops nums vals st ce pk pv n vc sp d pr tk th tr) H := hP
              replace hD : va_D F (mW A C ops nums vals st ce pk pv n vc sp d pr tk th tr) := hD
              rcases hp with ⟨rfl, g46⟩ | ⟨rfl, g46⟩
              · refine zi_eq (tgt := 56) hx hb dM_code_49 rfl (by omega) (fun q => absurd q (by omega)) (fun _ => ?_)
                refine lv_iconst (v := nI 1) hx hb dM_code_52 (by decide) ?_
                refine lv_goto (tgt := 57) hx hb dM_code_53 rfl ?_
                refine lv_istore hx hb dM_code_57 hl (by decide) rfl (fun ls hl => ?_)
                have hl : lv_has ls 5 [(4, .int (nI 1)), (0, .ref (A 0)), (1, .int o), (2, .long x)] := hl
                exact absurd (show okM o x by clear hl hx hb hr hlk hml hnm hw hown hP hK hD hA hS; unfold okM; grind) hok
              · refine zi_eq (tgt := 56) hx hb dM_code_49 rfl (by omega) (fun _ => ?_) (fun q => absurd q (by omega))
                refine lv_iconst (v := nI 0) hx hb dM_code_56 (by decide) ?_
                refine lv_istore hx hb dM_code_57 hl (by decide) rfl (fun ls hl => ?_)
                have hl : lv_has ls 5 [(4, .int (nI 0)), (0, .ref (A 0)), (1, .int o), (2, .long x)] := hl
                refine lv_aload_n hx hb dM_code_59 rfl (lv_at hl 1 rfl) ?_
                refine lv_iload hx hb dM_code_60 (lv_at hl 0 rfl) ?_
                refine zi_ne (tgt := 69) hx hb dM_code_62 rfl (by omega) (fun q => absurd q (by omega)) (fun _ => ?_)
                refine lv_iconst (v := nI 1) hx hb dM_code_65 (by decide) ?_
                refine lv_goto (tgt := 83) hx hb dM_code_66 rfl ?_
                refine zPutM hx hb hw hown hK hP hD hS 0 rfl 13 (by decide) wf_M_32 rfl rfl rfl (Nat.le_of_ble_eq_true rfl) dM_code_83 (fun H locs hP hD hS => ?_)
                replace hP : va_P D vwCl (mW A C ops nums vals st ce pk pv n vc sp d pr tk 1 tr) H := hP
                replace hD : va_D F (mW A C ops nums vals st ce pk pv n vc sp d pr tk 1 tr) := hD
                refine lv_aload_n hx hb dM_code_86 rfl (lv_at hl 1 rfl) ?_
                refine zGetM hx hb hw hown hK hP 0 rfl 13 (by decide) wf_M_32 rfl dM_code_87 ?_
                refine zi_le (tgt := 95) hx hb dM_code_90 rfl (by omega) (fun q => absurd q (by omega)) (fun _ => ?_)
                refine lv_iconst (v := nI 0) hx hb dM_code_93 (by decide) ?_
                exact zIret (w' := fun (_ : Unit) => (mW A C ops nums vals st ce pk pv n vc sp d pr tk 1 tr)) () hx hb hr hlk hS hK rfl hP hD dM_code_94
        · refine zi_eq (tgt := 56) hx hb dM_code_27 rfl (by omega) (fun _ => ?_) (fun q => absurd q (by omega))
          refine lv_iconst (v := nI 0) hx hb dM_code_56 (by decide) ?_
          refine lv_istore hx hb dM_code_57 hl (by decide) rfl (fun ls hl => ?_)
          have hl : lv_has ls 5 [(4, .int (nI 0)), (0, .ref (A 0)), (1, .int o), (2, .long x)] := hl
          refine lv_aload_n hx hb dM_code_59 rfl (lv_at hl 1 rfl) ?_
          refine lv_iload hx hb dM_code_60 (lv_at hl 0 rfl) ?_
          refine zi_ne (tgt := 69) hx hb dM_code_62 rfl (by omega) (fun q => absurd q (by omega)) (fun _ => ?_)
          refine lv_iconst (v := nI 1) hx hb dM_code_65 (by decide) ?_
          refine lv_goto (tgt := 83) hx hb dM_code_66 rfl ?_
          refine zPutM hx hb hw hown hK hP hD hS 0 rfl 13 (by decide) wf_M_32 rfl rfl rfl (Nat.le_of_ble_eq_true rfl) dM_code_83 (fun H locs hP hD hS => ?_)
          replace hP : va_P D vwCl (mW A C ops nums vals st ce pk pv n vc sp d pr tk 1 tr) H := hP
          replace hD : va_D F (mW A C ops nums vals st ce pk pv n vc sp d pr tk 1 tr) := hD
          refine lv_aload_n hx hb dM_code_86 rfl (lv_at hl 1 rfl) ?_
          refine zGetM hx hb hw hown hK hP 0 rfl 13 (by decide) wf_M_32 rfl dM_code_87 ?_
          refine zi_le (tgt := 95) hx hb dM_code_90 rfl (by omega) (fun q => absurd q (by omega)) (fun _ => ?_)
          refine lv_iconst (v := nI 0) hx hb dM_code_93 (by decide) ?_
          exact zIret (w' := fun (_ : Unit) => (mW A C ops nums vals st ce pk pv n vc sp d pr tk 1 tr)) () hx hb hr hlk hS hK rfl hP hD dM_code_94
  · refine zi_eq (tgt := 56) hx hb dM_code_8 rfl (by omega) (fun _ => ?_) (fun q => absurd q (by omega))
    refine lv_iconst (v := nI 0) hx hb dM_code_56 (by decide) ?_
    refine lv_istore hx hb dM_code_57 hl (by decide) rfl (fun ls hl => ?_)
    have hl : lv_has ls 5 [(4, .int (nI 0)), (0, .ref (A 0)), (1, .int o), (2, .long x)] := hl
    refine lv_aload_n hx hb dM_code_59 rfl (lv_at hl 1 rfl) ?_
    refine lv_iload hx hb dM_code_60 (lv_at hl 0 rfl) ?_
    refine zi_ne (tgt := 69) hx hb dM_code_62 rfl (by omega) (fun q => absurd q (by omega)) (fun _ => ?_)
    refine lv_iconst (v := nI 1) hx hb dM_code_65 (by decide) ?_
    refine lv_goto (tgt := 83) hx hb dM_code_66 rfl ?_
    refine zPutM hx hb hw hown hK hP hD hS 0 rfl 13 (by decide) wf_M_32 rfl rfl rfl (Nat.le_of_ble_eq_true rfl) dM_code_83 (fun H locs hP hD hS => ?_)
    replace hP : va_P D vwCl (mW A C ops nums vals st ce pk pv n vc sp d pr tk 1 tr) H := hP
    replace hD : va_D F (mW A C ops nums vals st ce pk pv n vc sp d pr tk 1 tr) := hD
    refine lv_aload_n hx hb dM_code_86 rfl (lv_at hl 1 rfl) ?_
    refine zGetM hx hb hw hown hK hP 0 rfl 13 (by decide) wf_M_32 rfl dM_code_87 ?_
    refine zi_le (tgt := 95) hx hb dM_code_90 rfl (by omega) (fun q => absurd q (by omega)) (fun _ => ?_)
    refine lv_iconst (v := nI 0) hx hb dM_code_93 (by decide) ?_
    exact zIret (w' := fun (_ : Unit) => (mW A C ops nums vals st ce pk pv n vc sp d pr tk 1 tr)) () hx hb hr hlk hS hK rfl hP hD dM_code_94

set_option maxRecDepth 20000 in
set_option maxHeartbeats 4000000 in
theorem c_M_emitted_val (l : Launch) (D : va_G) (A : Nat → Nat) (C : Nat → ClassId) (sz : Nat) (ops : Nat → Int32) (nums : Nat → Int64) (vals : Nat → Int64) (st : Nat → Int64) (ce : Nat → Int64) (pk : Nat → Int64) (pv : Nat → Int64) (n : Nat) (vc : Nat) (sp : Nat) (d : Nat) (pr : Nat) (tk : Nat) (th : Nat) (tr : Nat) (j : Nat) (hj : j < pr) (hp : pr ≤ 4) : Met l yM_emitted (.code yM_emitted cM_emitted 3 (some .long) :: WS) (rmk 0 0) (va_Pc [.ref (A 0), .int (nI j), .int (nI 1)] (zP D (mT C) sz (mW A C ops nums vals st ce pk pv n vc sp d pr tk th tr))) (va_Ql (fun (r : Int64) (_ : Unit) => r = pv j) (fun (_ : Unit) t => zB D (mT C) (va_A (mW A C ops nums vals st ce pk pv n vc sp d pr tk th tr) sz) (mW A C ops nums vals st ce pk pv n vc sp d pr tk 0 tr) t) (va_A (mW A C ops nums vals st ce pk pv n vc sp d pr tk th tr) sz)) 0 0 (va_A (mW A C ops nums vals st ce pk pv n vc sp d pr tk th tr) sz) := by
  refine zEnt (Qc := fun F => (va_Ql (fun (r : Int64) (_ : Unit) => r = pv j) (fun (_ : Unit) t => zB D (mT C) F (mW A C ops nums vals st ce pk pv n vc sp d pr tk 0 tr) t) F)) (by decide) (Nat.le_of_ble_eq_true rfl) (fun p e s m below meth c ls F hx hb hr hlk hml hnm hw hown hsz hP hK hD hA hl => ?_)
  have hS : va_S F s.heap s.heap [] := va_S.rf
  have hown : s.vm.findClass RM = some m.cls := hown
  have hl : lv_has ls 3 [(0, .ref (A 0)), (1, .int (nI j)), (2, .int (nI 1))] := hl
  refine lv_aload_n hx hb dM_emitted_0 rfl (lv_at hl 0 rfl) ?_
  refine lv_iload_n hx hb dM_emitted_1 rfl (lv_at hl 1 rfl) ?_
  refine zi_lt (tgt := 13) hx hb dM_emitted_2 rfl (by omega) (fun q => absurd q (by omega)) (fun _ => ?_)
  refine lv_iload_n hx hb dM_emitted_5 rfl (lv_at hl 1 rfl) ?_
  refine lv_aload_n hx hb dM_emitted_6 rfl (lv_at hl 0 rfl) ?_
  refine zGetM hx hb hw hown hK hP 0 rfl 11 (by decide) wf_M_52 rfl dM_emitted_7 ?_
  refine zc_lt (tgt := 17) hx hb dM_emitted_10 rfl (by omega) (by omega) (fun _ => ?_) (fun q => absurd q (by omega))
  refine lv_iconst (v := nI 0) hx hb dM_emitted_17 (by decide) ?_
  refine zPutM hx hb hw hown hK hP hD hS 0 rfl 13 (by decide) wf_M_32 rfl rfl rfl (Nat.le_of_ble_eq_true rfl) dM_emitted_18 (fun H locs hP hD hS => ?_)
  replace hP : va_P D vwCl (mW A C ops nums vals st ce pk pv n vc sp d pr tk 0 tr) H := hP
  replace hD : va_D F (mW A C ops nums vals st ce pk pv n vc sp d pr tk 0 tr) := hD
  refine lv_aload_n hx hb dM_emitted_21 rfl (lv_at hl 0 rfl) ?_
  refine zGetM hx hb hw hown hK hP 0 rfl 13 (by decide) wf_M_32 rfl dM_emitted_22 ?_
  refine zi_le (tgt := 30) hx hb dM_emitted_25 rfl (by omega) (fun _ => ?_) (fun q => absurd q (by omega))
  refine lv_iload_n hx hb dM_emitted_30 rfl (lv_at hl 2 rfl) ?_
  refine zi_eq (tgt := 43) hx hb dM_emitted_31 rfl (by omega) (fun q => absurd q (by omega)) (fun _ => ?_)
  refine lv_aload_n hx hb dM_emitted_34 rfl (lv_at hl 0 rfl) ?_
  refine zGetM hx hb hw hown hK hP 0 rfl 6 (by decide) wf_M_29 rfl dM_emitted_35 ?_
  refine lv_iload_n hx hb dM_emitted_38 rfl (lv_at hl 1 rfl) ?_
  refine zLald hx hb hK hP 7 6 rfl rfl (by omega) (by decide) dM_emitted_39 ?_
  refine lv_goto (tgt := 49) hx hb dM_emitted_40 rfl ?_
  exact zLret (w' := fun (_ : Unit) => (mW A C ops nums vals st ce pk pv n vc sp d pr tk 0 tr)) () hx hb hr hlk hS hK rfl hP hD dM_emitted_49

set_option maxRecDepth 20000 in
set_option maxHeartbeats 4000000 in
theorem c_M_emitted_key (l : Launch) (D : va_G) (A : Nat → Nat) (C : Nat → ClassId) (sz : Nat) (ops : Nat → Int32) (nums : Nat → Int64) (vals : Nat → Int64) (st : Nat → Int64) (ce : Nat → Int64) (pk : Nat → Int64) (pv : Nat → Int64) (n : Nat) (vc : Nat) (sp : Nat) (d : Nat) (pr : Nat) (tk : Nat) (th : Nat) (tr : Nat) (j : Nat) (hj : j < pr) (hp : pr ≤ 4) : Met l yM_emitted (.code yM_emitted cM_emitted 3 (some .long) :: WS) (rmk 0 0) (va_Pc [.ref (A 0), .int (nI j), .int (nI 0)] (zP D (mT C) sz (mW A C ops nums vals st ce pk pv n vc sp d pr tk th tr))) (va_Ql (fun (r : Int64) (_ : Unit) => r = pk j) (fun (_ : Unit) t => zB D (mT C) (va_A (mW A C ops nums vals st ce pk pv n vc sp d pr tk th tr) sz) (mW A C ops nums vals st ce pk pv n vc sp d pr tk 0 tr) t) (va_A (mW A C ops nums vals st ce pk pv n vc sp d pr tk th tr) sz)) 0 0 (va_A (mW A C ops nums vals st ce pk pv n vc sp d pr tk th tr) sz) := by
  refine zEnt (Qc := fun F => (va_Ql (fun (r : Int64) (_ : Unit) => r = pk j) (fun (_ : Unit) t => zB D (mT C) F (mW A C ops nums vals st ce pk pv n vc sp d pr tk 0 tr) t) F)) (by decide) (Nat.le_of_ble_eq_true rfl) (fun p e s m below meth c ls F hx hb hr hlk hml hnm hw hown hsz hP hK hD hA hl => ?_)
  have hS : va_S F s.heap s.heap [] := va_S.rf
  have hown : s.vm.findClass RM = some m.cls := hown
  have hl : lv_has ls 3 [(0, .ref (A 0)), (1, .int (nI j)), (2, .int (nI 0))] := hl
  refine lv_aload_n hx hb dM_emitted_0 rfl (lv_at hl 0 rfl) ?_
  refine lv_iload_n hx hb dM_emitted_1 rfl (lv_at hl 1 rfl) ?_
  refine zi_lt (tgt := 13) hx hb dM_emitted_2 rfl (by omega) (fun q => absurd q (by omega)) (fun _ => ?_)
  refine lv_iload_n hx hb dM_emitted_5 rfl (lv_at hl 1 rfl) ?_
  refine lv_aload_n hx hb dM_emitted_6 rfl (lv_at hl 0 rfl) ?_
  refine zGetM hx hb hw hown hK hP 0 rfl 11 (by decide) wf_M_52 rfl dM_emitted_7 ?_
  refine zc_lt (tgt := 17) hx hb dM_emitted_10 rfl (by omega) (by omega) (fun _ => ?_) (fun q => absurd q (by omega))
  refine lv_iconst (v := nI 0) hx hb dM_emitted_17 (by decide) ?_
  refine zPutM hx hb hw hown hK hP hD hS 0 rfl 13 (by decide) wf_M_32 rfl rfl rfl (Nat.le_of_ble_eq_true rfl) dM_emitted_18 (fun H locs hP hD hS => ?_)
  replace hP : va_P D vwCl (mW A C ops nums vals st ce pk pv n vc sp d pr tk 0 tr) H := hP
  replace hD : va_D F (mW A C ops nums vals st ce pk pv n vc sp d pr tk 0 tr) := hD
  refine lv_aload_n hx hb dM_emitted_21 rfl (lv_at hl 0 rfl) ?_
  refine zGetM hx hb hw hown hK hP 0 rfl 13 (by decide) wf_M_32 rfl dM_emitted_22 ?_
  refine zi_le (tgt := 30) hx hb dM_emitted_25 rfl (by omega) (fun _ => ?_) (fun q => absurd q (by omega))
  refine lv_iload_n hx hb dM_emitted_30 rfl (lv_at hl 2 rfl) ?_
  refine zi_eq (tgt := 43) hx hb dM_emitted_31 rfl (by omega) (fun _ => ?_) (fun q => absurd q (by omega))
  refine lv_aload_n hx hb dM_emitted_43 rfl (lv_at hl 0 rfl) ?_
  refine zGetM hx hb hw hown hK hP 0 rfl 5 (by decide) wf_M_26 rfl dM_emitted_44 ?_
  refine lv_iload_n hx hb dM_emitted_47 rfl (lv_at hl 1 rfl) ?_
  refine zLald hx hb hK hP 6 5 rfl rfl (by omega) (by decide) dM_emitted_48 ?_
  exact zLret (w' := fun (_ : Unit) => (mW A C ops nums vals st ce pk pv n vc sp d pr tk 0 tr)) () hx hb hr hlk hS hK rfl hP hD dM_emitted_49

set_option maxRecDepth 20000 in
set_option maxHeartbeats 4000000 in
theorem c_M_emitted_bad (l : Launch) (D : va_G) (A : Nat → Nat) (C : Nat → ClassId) (sz : Nat) (ops : Nat → Int32) (nums : Nat → Int64) (vals : Nat → Int64) (st : Nat → Int64) (ce : Nat → Int64) (pk : Nat → Int64) (pv : Nat → Int64) (n : Nat) (vc : Nat) (sp : Nat) (d : Nat) (pr : Nat) (tk : Nat) (th : Nat) (tr : Nat) (o : Int32) (o2 : Int32) (hbad : o < 0 ∨ nI pr ≤ o) : Met l yM_emitted (.code yM_emitted cM_emitted 3 (some .long) :: WS) (rmk 0 0) (va_Pc [.ref (A 0), .int o, .int o2] (zP D (mT C) sz (mW A C ops nums vals st ce pk pv n vc sp d pr tk th tr))) (va_Ql (fun (r : Int64) (_ : Unit) => r = 0) (fun (_ : Unit) t => zB D (mT C) (va_A (mW A C ops nums vals st ce pk pv n vc sp d pr tk th tr) sz) (mW A C ops nums vals st ce pk pv n vc sp d pr tk 1 tr) t) (va_A (mW A C ops nums vals st ce pk pv n vc sp d pr tk th tr) sz)) 0 0 (va_A (mW A C ops nums vals st ce pk pv n vc sp d pr tk th tr) sz) := by
  refine zEnt (Qc := fun F => (va_Ql (fun (r : Int64) (_ : Unit) => r = 0) (fun (_ : Unit) t => zB D (mT C) F (mW A C ops nums vals st ce pk pv n vc sp d pr tk 1 tr) t) F)) (by decide) (Nat.le_of_ble_eq_true rfl) (fun p e s m below meth c ls F hx hb hr hlk hml hnm hw hown hsz hP hK hD hA hl => ?_)
  have hS : va_S F s.heap s.heap [] := va_S.rf
  have hown : s.vm.findClass RM = some m.cls := hown
  have hl : lv_has ls 3 [(0, .ref (A 0)), (1, .int o), (2, .int o2)] := hl
  refine lv_aload_n hx hb dM_emitted_0 rfl (lv_at hl 0 rfl) ?_
  refine lv_iload_n hx hb dM_emitted_1 rfl (lv_at hl 1 rfl) ?_
  refine lv_if_lt (tgt := 13) hx hb dM_emitted_2 rfl (fun h2 => ?_) (fun h2 => ?_)
  · refine lv_iconst (v := nI 1) hx hb dM_emitted_13 (by decide) ?_
    refine lv_goto (tgt := 18) hx hb dM_emitted_14 rfl ?_
    refine zPutM hx hb hw hown hK hP hD hS 0 rfl 13 (by decide) wf_M_32 rfl rfl rfl (Nat.le_of_ble_eq_true rfl) dM_emitted_18 (fun H locs hP hD hS => ?_)
    replace hP : va_P D vwCl (mW A C ops nums vals st ce pk pv n vc sp d pr tk 1 tr) H := hP
    replace hD : va_D F (mW A C ops nums vals st ce pk pv n vc sp d pr tk 1 tr) := hD
    refine lv_aload_n hx hb dM_emitted_21 rfl (lv_at hl 0 rfl) ?_
    refine zGetM hx hb hw hown hK hP 0 rfl 13 (by decide) wf_M_32 rfl dM_emitted_22 ?_
    refine zi_le (tgt := 30) hx hb dM_emitted_25 rfl (by omega) (fun q => absurd q (by omega)) (fun _ => ?_)
    refine lv_lconst (v := 0) hx hb dM_emitted_28 (by decide) ?_
    exact zLret (w' := fun (_ : Unit) => (mW A C ops nums vals st ce pk pv n vc sp d pr tk 1 tr)) () hx hb hr hlk hS hK rfl hP hD dM_emitted_29
  · refine lv_iload_n hx hb dM_emitted_5 rfl (lv_at hl 1 rfl) ?_
    refine lv_aload_n hx hb dM_emitted_6 rfl (lv_at hl 0 rfl) ?_
    refine zGetM hx hb hw hown hK hP 0 rfl 11 (by decide) wf_M_52 rfl dM_emitted_7 ?_
    refine lv_icmp_lt (tgt := 17) hx hb dM_emitted_10 rfl (fun q => absurd q (by exact hbad.elim (fun z => absurd z h2) (fun z => Int32.not_lt.mpr z))) (fun _ => ?_)
    refine lv_iconst (v := nI 1) hx hb dM_emitted_13 (by decide) ?_
    refine lv_goto (tgt := 18) hx hb dM_emitted_14 rfl ?_
    refine zPutM hx hb hw hown hK hP hD hS 0 rfl 13 (by decide) wf_M_32 rfl rfl rfl (Nat.le_of_ble_eq_true rfl) dM_emitted_18 (fun H locs hP hD hS => ?_)
    replace hP : va_P D vwCl (mW A C ops nums vals st ce pk pv n vc sp d pr tk 1 tr) H := hP
    replace hD : va_D F (mW A C ops nums vals st ce pk pv n vc sp d pr tk 1 tr) := hD
    refine lv_aload_n hx hb dM_emitted_21 rfl (lv_at hl 0 rfl) ?_
    refine zGetM hx hb hw hown hK hP 0 rfl 13 (by decide) wf_M_32 rfl dM_emitted_22 ?_
    refine zi_le (tgt := 30) hx hb dM_emitted_25 rfl (by omega) (fun q => absurd q (by omega)) (fun _ => ?_)
    refine lv_lconst (v := 0) hx hb dM_emitted_28 (by decide) ?_
    exact zLret (w' := fun (_ : Unit) => (mW A C ops nums vals st ce pk pv n vc sp d pr tk 1 tr)) () hx hb hr hlk hS hK rfl hP hD dM_emitted_29

set_option maxRecDepth 20000 in
set_option maxHeartbeats 4000000 in
theorem c_M_told0 (l : Launch) (D : va_G) (A : Nat → Nat) (C : Nat → ClassId) (sz : Nat) (ops : Nat → Int32) (nums : Nat → Int64) (vals : Nat → Int64) (st : Nat → Int64) (ce : Nat → Int64) (pk : Nat → Int64) (pv : Nat → Int64) (n : Nat) (vc : Nat) (sp : Nat) (d : Nat) (pr : Nat) (tk : Nat) (th : Nat) (tr : Nat) : Met l yM_told (.code yM_told cM_told 2 (some .int) :: WS) (rmk 1 23) (va_Pc [.ref (A 0), .int (nI 0)] (zP D (mT C) sz (mW A C ops nums vals st ce pk pv n vc sp d pr tk th tr))) (va_Qi (fun (r : Int32) (_ : Unit) => r = nI sp) (fun (_ : Unit) t => zB D (mT C) (va_A (mW A C ops nums vals st ce pk pv n vc sp d pr tk th tr) sz) (mW A C ops nums vals st ce pk pv n vc sp d pr tk 0 tr) t) (va_A (mW A C ops nums vals st ce pk pv n vc sp d pr tk th tr) sz)) 0 0 (va_A (mW A C ops nums vals st ce pk pv n vc sp d pr tk th tr) sz) := by
  refine zEnt (Qc := fun F => (va_Qi (fun (r : Int32) (_ : Unit) => r = nI sp) (fun (_ : Unit) t => zB D (mT C) F (mW A C ops nums vals st ce pk pv n vc sp d pr tk 0 tr) t) F)) (by decide) (Nat.le_of_ble_eq_true rfl) (fun p e s m below meth c ls F hx hb hr hlk hml hnm hw hown hsz hP hK hD hA hl => ?_)
  have hS : va_S F s.heap s.heap [] := va_S.rf
  have hown : s.vm.findClass RM = some m.cls := hown
  have hl : lv_has ls 2 [(0, .ref (A 0)), (1, .int (nI 0))] := hl
  refine lv_aload_n hx hb dM_told_0 rfl (lv_at hl 0 rfl) ?_
  refine lv_iload_n hx hb dM_told_1 rfl (lv_at hl 1 rfl) ?_
  refine lv_i2l hx hb dM_told_2 (nI_l (by omega)) ?_
  refine lv_iconst (v := nI 0) hx hb dM_told_3 (by decide) ?_
  refine lv_iconst (v := nI 4) hx hb dM_told_4 (by decide) ?_
  refine zAfti (wa := []) (w := []) (wb := (mW A C ops nums vals st ce pk pv n vc sp d pr tk th tr)) (zRunS (wa := []) (w := []) (wb := (mW A C ops nums vals st ce pk pv n vc sp d pr tk th tr)) ⟨hx, hb, hml, hown, hw⟩ (c_in l D _ (lN 0) 0 4 (by decide) (by decide)) wm_M_36 wt_M_in wn_M wc_M_in ⟨rfl, rfl⟩ wd_M_in ⟨by decide, by decide⟩ (hK.sub [] rfl) hP hD hl.1 rfl (Nat.le_of_ble_eq_true rfl) dM_told_5 ⟨by decide, by decide⟩) hP hD hS hA (fun r u H locs hp hP hD hS => ?_)
  replace hP : va_P D vwCl (mW A C ops nums vals st ce pk pv n vc sp d pr tk th tr) H := hP
  replace hD : va_D F (mW A C ops nums vals st ce pk pv n vc sp d pr tk th tr) := hD
  obtain ⟨rfl, -⟩ : r = nI 1 ∧ True := ⟨hp.elim (fun z => z.1) (fun z => absurd (by decide) z.2), trivial⟩
  refine zi_eq (tgt := 15) hx hb dM_told_8 rfl (by omega) (fun q => absurd q (by omega)) (fun _ => ?_)
  refine lv_iconst (v := nI 0) hx hb dM_told_11 (by decide) ?_
  refine lv_goto (tgt := 16) hx hb dM_told_12 rfl ?_
  refine zPutM hx hb hw hown hK hP hD hS 0 rfl 13 (by decide) wf_M_32 rfl rfl rfl (Nat.le_of_ble_eq_true rfl) dM_told_16 (fun H locs hP hD hS => ?_)
  replace hP : va_P D vwCl (mW A C ops nums vals st ce pk pv n vc sp d pr tk 0 tr) H := hP
  replace hD : va_D F (mW A C ops nums vals st ce pk pv n vc sp d pr tk 0 tr) := hD
  refine lv_aload_n hx hb dM_told_19 rfl (lv_at hl 0 rfl) ?_
  refine zGetM hx hb hw hown hK hP 0 rfl 13 (by decide) wf_M_32 rfl dM_told_20 ?_
  refine zi_le (tgt := 28) hx hb dM_told_23 rfl (by omega) (fun _ => ?_) (fun q => absurd q (by omega))
  refine lv_iload_n hx hb dM_told_28 rfl (lv_at hl 1 rfl) ?_
  refine zi_ne (tgt := 39) hx hb dM_told_29 rfl (by omega) (fun q => absurd q (by omega)) (fun _ => ?_)
  refine lv_aload_n hx hb dM_told_32 rfl (lv_at hl 0 rfl) ?_
  refine zGetM hx hb hw hown hK hP 0 rfl 9 (by decide) wf_M_46 rfl dM_told_33 ?_
  refine lv_goto (tgt := 87) hx hb dM_told_36 rfl ?_
  exact zIret (w' := fun (_ : Unit) => (mW A C ops nums vals st ce pk pv n vc sp d pr tk 0 tr)) () hx hb hr hlk hS hK rfl hP hD dM_told_87

set_option maxRecDepth 20000 in
set_option maxHeartbeats 4000000 in
theorem c_M_told1 (l : Launch) (D : va_G) (A : Nat → Nat) (C : Nat → ClassId) (sz : Nat) (ops : Nat → Int32) (nums : Nat → Int64) (vals : Nat → Int64) (st : Nat → Int64) (ce : Nat → Int64) (pk : Nat → Int64) (pv : Nat → Int64) (n : Nat) (vc : Nat) (sp : Nat) (d : Nat) (pr : Nat) (tk : Nat) (th : Nat) (tr : Nat) : Met l yM_told (.code yM_told cM_told 2 (some .int) :: WS) (rmk 1 23) (va_Pc [.ref (A 0), .int (nI 1)] (zP D (mT C) sz (mW A C ops nums vals st ce pk pv n vc sp d pr tk th tr))) (va_Qi (fun (r : Int32) (_ : Unit) => r = nI d) (fun (_ : Unit) t => zB D (mT C) (va_A (mW A C ops nums vals st ce pk pv n vc sp d pr tk th tr) sz) (mW A C ops nums vals st ce pk pv n vc sp d pr tk 0 tr) t) (va_A (mW A C ops nums vals st ce pk pv n vc sp d pr tk th tr) sz)) 0 0 (va_A (mW A C ops nums vals st ce pk pv n vc sp d pr tk th tr) sz) := by
  refine zEnt (Qc := fun F => (va_Qi (fun (r : Int32) (_ : Unit) => r = nI d) (fun (_ : Unit) t => zB D (mT C) F (mW A C ops nums vals st ce pk pv n vc sp d pr tk 0 tr) t) F)) (by decide) (Nat.le_of_ble_eq_true rfl) (fun p e s m below meth c ls F hx hb hr hlk hml hnm hw hown hsz hP hK hD hA hl => ?_)
  have hS : va_S F s.heap s.heap [] := va_S.rf
  have hown : s.vm.findClass RM = some m.cls := hown
  have hl : lv_has ls 2 [(0, .ref (A 0)), (1, .int (nI 1))] := hl
  refine lv_aload_n hx hb dM_told_0 rfl (lv_at hl 0 rfl) ?_
  refine lv_iload_n hx hb dM_told_1 rfl (lv_at hl 1 rfl) ?_
  refine lv_i2l hx hb dM_told_2 (nI_l (by omega)) ?_
  refine lv_iconst (v := nI 0) hx hb dM_told_3 (by decide) ?_
  refine lv_iconst (v := nI 4) hx hb dM_told_4 (by decide) ?_
  refine zAfti (wa := []) (w := []) (wb := (mW A C ops nums vals st ce pk pv n vc sp d pr tk th tr)) (zRunS (wa := []) (w := []) (wb := (mW A C ops nums vals st ce pk pv n vc sp d pr tk th tr)) ⟨hx, hb, hml, hown, hw⟩ (c_in l D _ (lN 1) 0 4 (by decide) (by decide)) wm_M_36 wt_M_in wn_M wc_M_in ⟨rfl, rfl⟩ wd_M_in ⟨by decide, by decide⟩ (hK.sub [] rfl) hP hD hl.1 rfl (Nat.le_of_ble_eq_true rfl) dM_told_5 ⟨by decide, by decide⟩) hP hD hS hA (fun r u H locs hp hP hD hS => ?_)
  replace hP : va_P D vwCl (mW A C ops nums vals st ce pk pv n vc sp d pr tk th tr) H := hP
  replace hD : va_D F (mW A C ops nums vals st ce pk pv n vc sp d pr tk th tr) := hD
  obtain ⟨rfl, -⟩ : r = nI 1 ∧ True := ⟨hp.elim (fun z => z.1) (fun z => absurd (by decide) z.2), trivial⟩
  refine zi_eq (tgt := 15) hx hb dM_told_8 rfl (by omega) (fun q => absurd q (by omega)) (fun _ => ?_)
  refine lv_iconst (v := nI 0) hx hb dM_told_11 (by decide) ?_
  refine lv_goto (tgt := 16) hx hb dM_told_12 rfl ?_
  refine zPutM hx hb hw hown hK hP hD hS 0 rfl 13 (by decide) wf_M_32 rfl rfl rfl (Nat.le_of_ble_eq_true rfl) dM_told_16 (fun H locs hP hD hS => ?_)
  replace hP : va_P D vwCl (mW A C ops nums vals st ce pk pv n vc sp d pr tk 0 tr) H := hP
  replace hD : va_D F (mW A C ops nums vals st ce pk pv n vc sp d pr tk 0 tr) := hD
  refine lv_aload_n hx hb dM_told_19 rfl (lv_at hl 0 rfl) ?_
  refine zGetM hx hb hw hown hK hP 0 rfl 13 (by decide) wf_M_32 rfl dM_told_20 ?_
  refine zi_le (tgt := 28) hx hb dM_told_23 rfl (by omega) (fun _ => ?_) (fun q => absurd q (by omega))
  refine lv_iload_n hx hb dM_told_28 rfl (lv_at hl 1 rfl) ?_
  refine zi_ne (tgt := 39) hx hb dM_told_29 rfl (by omega) (fun _ => ?_) (fun q => absurd q (by omega))
  refine lv_iload_n hx hb dM_told_39 rfl (lv_at hl 1 rfl) ?_
  refine lv_iconst (v := nI 1) hx hb dM_told_40 (by decide) ?_
  refine zc_ne (tgt := 51) hx hb dM_told_41 rfl (by omega) (by omega) (fun q => absurd q (by omega)) (fun _ => ?_)
  refine lv_aload_n hx hb dM_told_44 rfl (lv_at hl 0 rfl) ?_
  refine zGetM hx hb hw hown hK hP 0 rfl 10 (by decide) wf_M_49 rfl dM_told_45 ?_
  refine lv_goto (tgt := 87) hx hb dM_told_48 rfl ?_
  exact zIret (w' := fun (_ : Unit) => (mW A C ops nums vals st ce pk pv n vc sp d pr tk 0 tr)) () hx hb hr hlk hS hK rfl hP hD dM_told_87

set_option maxRecDepth 20000 in
set_option maxHeartbeats 4000000 in
theorem c_M_told2 (l : Launch) (D : va_G) (A : Nat → Nat) (C : Nat → ClassId) (sz : Nat) (ops : Nat → Int32) (nums : Nat → Int64) (vals : Nat → Int64) (st : Nat → Int64) (ce : Nat → Int64) (pk : Nat → Int64) (pv : Nat → Int64) (n : Nat) (vc : Nat) (sp : Nat) (d : Nat) (pr : Nat) (tk : Nat) (th : Nat) (tr : Nat) : Met l yM_told (.code yM_told cM_told 2 (some .int) :: WS) (rmk 1 23) (va_Pc [.ref (A 0), .int (nI 2)] (zP D (mT C) sz (mW A C ops nums vals st ce pk pv n vc sp d pr tk th tr))) (va_Qi (fun (r : Int32) (_ : Unit) => r = nI pr) (fun (_ : Unit) t => zB D (mT C) (va_A (mW A C ops nums vals st ce pk pv n vc sp d pr tk th tr) sz) (mW A C ops nums vals st ce pk pv n vc sp d pr tk 0 tr) t) (va_A (mW A C ops nums vals st ce pk pv n vc sp d pr tk th tr) sz)) 0 0 (va_A (mW A C ops nums vals st ce pk pv n vc sp d pr tk th tr) sz) := by
  refine zEnt (Qc := fun F => (va_Qi (fun (r : Int32) (_ : Unit) => r = nI pr) (fun (_ : Unit) t => zB D (mT C) F (mW A C ops nums vals st ce pk pv n vc sp d pr tk 0 tr) t) F)) (by decide) (Nat.le_of_ble_eq_true rfl) (fun p e s m below meth c ls F hx hb hr hlk hml hnm hw hown hsz hP hK hD hA hl => ?_)
  have hS : va_S F s.heap s.heap [] := va_S.rf
  have hown : s.vm.findClass RM = some m.cls := hown
  have hl : lv_has ls 2 [(0, .ref (A 0)), (1, .int (nI 2))] := hl
  refine lv_aload_n hx hb dM_told_0 rfl (lv_at hl 0 rfl) ?_
  refine lv_iload_n hx hb dM_told_1 rfl (lv_at hl 1 rfl) ?_
  refine lv_i2l hx hb dM_told_2 (nI_l (by omega)) ?_
  refine lv_iconst (v := nI 0) hx hb dM_told_3 (by decide) ?_
  refine lv_iconst (v := nI 4) hx hb dM_told_4 (by decide) ?_
  refine zAfti (wa := []) (w := []) (wb := (mW A C ops nums vals st ce pk pv n vc sp d pr tk th tr)) (zRunS (wa := []) (w := []) (wb := (mW A C ops nums vals st ce pk pv n vc sp d pr tk th tr)) ⟨hx, hb, hml, hown, hw⟩ (c_in l D _ (lN 2) 0 4 (by decide) (by decide)) wm_M_36 wt_M_in wn_M wc_M_in ⟨rfl, rfl⟩ wd_M_in ⟨by decide, by decide⟩ (hK.sub [] rfl) hP hD hl.1 rfl (Nat.le_of_ble_eq_true rfl) dM_told_5 ⟨by decide, by decide⟩) hP hD hS hA (fun r u H locs hp hP hD hS => ?_)
  replace hP : va_P D vwCl (mW A C ops nums vals st ce pk pv n vc sp d pr tk th tr) H := hP
  replace hD : va_D F (mW A C ops nums vals st ce pk pv n vc sp d pr tk th tr) := hD
  obtain ⟨rfl, -⟩ : r = nI 1 ∧ True := ⟨hp.elim (fun z => z.1) (fun z => absurd (by decide) z.2), trivial⟩
  refine zi_eq (tgt := 15) hx hb dM_told_8 rfl (by omega) (fun q => absurd q (by omega)) (fun _ => ?_)
  refine lv_iconst (v := nI 0) hx hb dM_told_11 (by decide) ?_
  refine lv_goto (tgt := 16) hx hb dM_told_12 rfl ?_
  refine zPutM hx hb hw hown hK hP hD hS 0 rfl 13 (by decide) wf_M_32 rfl rfl rfl (Nat.le_of_ble_eq_true rfl) dM_told_16 (fun H locs hP hD hS => ?_)
  replace hP : va_P D vwCl (mW A C ops nums vals st ce pk pv n vc sp d pr tk 0 tr) H := hP
  replace hD : va_D F (mW A C ops nums vals st ce pk pv n vc sp d pr tk 0 tr) := hD
  refine lv_aload_n hx hb dM_told_19 rfl (lv_at hl 0 rfl) ?_
  refine zGetM hx hb hw hown hK hP 0 rfl 13 (by decide) wf_M_32 rfl dM_told_20 ?_
  refine zi_le (tgt := 28) hx hb dM_told_23 rfl (by omega) (fun _ => ?_) (fun q => absurd q (by omega))
  refine lv_iload_n hx hb dM_told_28 rfl (lv_at hl 1 rfl) ?_
  refine zi_ne (tgt := 39) hx hb dM_told_29 rfl (by omega) (fun _ => ?_) (fun q => absurd q (by omega))
  refine lv_iload_n hx hb dM_told_39 rfl (lv_at hl 1 rfl) ?_
  refine lv_iconst (v := nI 1) hx hb dM_told_40 (by decide) ?_
  refine zc_ne (tgt := 51) hx hb dM_told_41 rfl (by omega) (by omega) (fun _ => ?_) (fun q => absurd q (by omega))
  refine lv_iload_n hx hb dM_told_51 rfl (lv_at hl 1 rfl) ?_
  refine lv_iconst (v := nI 2) hx hb dM_told_52 (by decide) ?_
  refine zc_ne (tgt := 63) hx hb dM_told_53 rfl (by omega) (by omega) (fun q => absurd q (by omega)) (fun _ => ?_)
  refine lv_aload_n hx hb dM_told_56 rfl (lv_at hl 0 rfl) ?_
  refine zGetM hx hb hw hown hK hP 0 rfl 11 (by decide) wf_M_52 rfl dM_told_57 ?_
  refine lv_goto (tgt := 87) hx hb dM_told_60 rfl ?_
  exact zIret (w' := fun (_ : Unit) => (mW A C ops nums vals st ce pk pv n vc sp d pr tk 0 tr)) () hx hb hr hlk hS hK rfl hP hD dM_told_87

set_option maxRecDepth 20000 in
set_option maxHeartbeats 4000000 in
theorem c_M_told3 (l : Launch) (D : va_G) (A : Nat → Nat) (C : Nat → ClassId) (sz : Nat) (ops : Nat → Int32) (nums : Nat → Int64) (vals : Nat → Int64) (st : Nat → Int64) (ce : Nat → Int64) (pk : Nat → Int64) (pv : Nat → Int64) (n : Nat) (vc : Nat) (sp : Nat) (d : Nat) (pr : Nat) (tk : Nat) (th : Nat) (tr : Nat) : Met l yM_told (.code yM_told cM_told 2 (some .int) :: WS) (rmk 1 23) (va_Pc [.ref (A 0), .int (nI 3)] (zP D (mT C) sz (mW A C ops nums vals st ce pk pv n vc sp d pr tk th tr))) (va_Qi (fun (r : Int32) (_ : Unit) => r = nI tk) (fun (_ : Unit) t => zB D (mT C) (va_A (mW A C ops nums vals st ce pk pv n vc sp d pr tk th tr) sz) (mW A C ops nums vals st ce pk pv n vc sp d pr tk 0 tr) t) (va_A (mW A C ops nums vals st ce pk pv n vc sp d pr tk th tr) sz)) 0 0 (va_A (mW A C ops nums vals st ce pk pv n vc sp d pr tk th tr) sz) := by
  refine zEnt (Qc := fun F => (va_Qi (fun (r : Int32) (_ : Unit) => r = nI tk) (fun (_ : Unit) t => zB D (mT C) F (mW A C ops nums vals st ce pk pv n vc sp d pr tk 0 tr) t) F)) (by decide) (Nat.le_of_ble_eq_true rfl) (fun p e s m below meth c ls F hx hb hr hlk hml hnm hw hown hsz hP hK hD hA hl => ?_)
  have hS : va_S F s.heap s.heap [] := va_S.rf
  have hown : s.vm.findClass RM = some m.cls := hown
  have hl : lv_has ls 2 [(0, .ref (A 0)), (1, .int (nI 3))] := hl
  refine lv_aload_n hx hb dM_told_0 rfl (lv_at hl 0 rfl) ?_
  refine lv_iload_n hx hb dM_told_1 rfl (lv_at hl 1 rfl) ?_
  refine lv_i2l hx hb dM_told_2 (nI_l (by omega)) ?_
  refine lv_iconst (v := nI 0) hx hb dM_told_3 (by decide) ?_
  refine lv_iconst (v := nI 4) hx hb dM_told_4 (by decide) ?_
  refine zAfti (wa := []) (w := []) (wb := (mW A C ops nums vals st ce pk pv n vc sp d pr tk th tr)) (zRunS (wa := []) (w := []) (wb := (mW A C ops nums vals st ce pk pv n vc sp d pr tk th tr)) ⟨hx, hb, hml, hown, hw⟩ (c_in l D _ (lN 3) 0 4 (by decide) (by decide)) wm_M_36 wt_M_in wn_M wc_M_in ⟨rfl, rfl⟩ wd_M_in ⟨by decide, by decide⟩ (hK.sub [] rfl) hP hD hl.1 rfl (Nat.le_of_ble_eq_true rfl) dM_told_5 ⟨by decide, by decide⟩) hP hD hS hA (fun r u H locs hp hP hD hS => ?_)
  replace hP : va_P D vwCl (mW A C ops nums vals st ce pk pv n vc sp d pr tk th tr) H := hP
  replace hD : va_D F (mW A C ops nums vals st ce pk pv n vc sp d pr tk th tr) := hD
  obtain ⟨rfl, -⟩ : r = nI 1 ∧ True := ⟨hp.elim (fun z => z.1) (fun z => absurd (by decide) z.2), trivial⟩
  refine zi_eq (tgt := 15) hx hb dM_told_8 rfl (by omega) (fun q => absurd q (by omega)) (fun _ => ?_)
  refine lv_iconst (v := nI 0) hx hb dM_told_11 (by decide) ?_
  refine lv_goto (tgt := 16) hx hb dM_told_12 rfl ?_
  refine zPutM hx hb hw hown hK hP hD hS 0 rfl 13 (by decide) wf_M_32 rfl rfl rfl (Nat.le_of_ble_eq_true rfl) dM_told_16 (fun H locs hP hD hS => ?_)
  replace hP : va_P D vwCl (mW A C ops nums vals st ce pk pv n vc sp d pr tk 0 tr) H := hP
  replace hD : va_D F (mW A C ops nums vals st ce pk pv n vc sp d pr tk 0 tr) := hD
  refine lv_aload_n hx hb dM_told_19 rfl (lv_at hl 0 rfl) ?_
  refine zGetM hx hb hw hown hK hP 0 rfl 13 (by decide) wf_M_32 rfl dM_told_20 ?_
  refine zi_le (tgt := 28) hx hb dM_told_23 rfl (by omega) (fun _ => ?_) (fun q => absurd q (by omega))
  refine lv_iload_n hx hb dM_told_28 rfl (lv_at hl 1 rfl) ?_
  refine zi_ne (tgt := 39) hx hb dM_told_29 rfl (by omega) (fun _ => ?_) (fun q => absurd q (by omega))
  refine lv_iload_n hx hb dM_told_39 rfl (lv_at hl 1 rfl) ?_
  refine lv_iconst (v := nI 1) hx hb dM_told_40 (by decide) ?_
  refine zc_ne (tgt := 51) hx hb dM_told_41 rfl (by omega) (by omega) (fun _ => ?_) (fun q => absurd q (by omega))
  refine lv_iload_n hx hb dM_told_51 rfl (lv_at hl 1 rfl) ?_
  refine lv_iconst (v := nI 2) hx hb dM_told_52 (by decide) ?_
  refine zc_ne (tgt := 63) hx hb dM_told_53 rfl (by omega) (by omega) (fun _ => ?_) (fun q => absurd q (by omega))
  refine lv_iload_n hx hb dM_told_63 rfl (lv_at hl 1 rfl) ?_
  refine lv_iconst (v := nI 3) hx hb dM_told_64 (by decide) ?_
  refine zc_ne (tgt := 75) hx hb dM_told_65 rfl (by omega) (by omega) (fun q => absurd q (by omega)) (fun _ => ?_)
  refine lv_aload_n hx hb dM_told_68 rfl (lv_at hl 0 rfl) ?_
  refine zGetM hx hb hw hown hK hP 0 rfl 12 (by decide) wf_M_55 rfl dM_told_69 ?_
  refine lv_goto (tgt := 87) hx hb dM_told_72 rfl ?_
  exact zIret (w' := fun (_ : Unit) => (mW A C ops nums vals st ce pk pv n vc sp d pr tk 0 tr)) () hx hb hr hlk hS hK rfl hP hD dM_told_87

set_option maxRecDepth 20000 in
set_option maxHeartbeats 4000000 in
theorem c_M_told4 (l : Launch) (D : va_G) (A : Nat → Nat) (C : Nat → ClassId) (sz : Nat) (ops : Nat → Int32) (nums : Nat → Int64) (vals : Nat → Int64) (st : Nat → Int64) (ce : Nat → Int64) (pk : Nat → Int64) (pv : Nat → Int64) (n : Nat) (vc : Nat) (sp : Nat) (d : Nat) (pr : Nat) (tk : Nat) (th : Nat) (tr : Nat) (ht : tr ≤ 1) : Met l yM_told (.code yM_told cM_told 2 (some .int) :: WS) (rmk 1 23) (va_Pc [.ref (A 0), .int (nI 4)] (zP D (mT C) sz (mW A C ops nums vals st ce pk pv n vc sp d pr tk th tr))) (va_Qi (fun (r : Int32) (_ : Unit) => r = nI tr) (fun (_ : Unit) t => zB D (mT C) (va_A (mW A C ops nums vals st ce pk pv n vc sp d pr tk th tr) sz) (mW A C ops nums vals st ce pk pv n vc sp d pr tk 0 tr) t) (va_A (mW A C ops nums vals st ce pk pv n vc sp d pr tk th tr) sz)) 0 0 (va_A (mW A C ops nums vals st ce pk pv n vc sp d pr tk th tr) sz) := by
  refine zEnt (Qc := fun F => (va_Qi (fun (r : Int32) (_ : Unit) => r = nI tr) (fun (_ : Unit) t => zB D (mT C) F (mW A C ops nums vals st ce pk pv n vc sp d pr tk 0 tr) t) F)) (by decide) (Nat.le_of_ble_eq_true rfl) (fun p e s m below meth c ls F hx hb hr hlk hml hnm hw hown hsz hP hK hD hA hl => ?_)
  have hS : va_S F s.heap s.heap [] := va_S.rf
  have hown : s.vm.findClass RM = some m.cls := hown
  have hl : lv_has ls 2 [(0, .ref (A 0)), (1, .int (nI 4))] := hl
  refine lv_aload_n hx hb dM_told_0 rfl (lv_at hl 0 rfl) ?_
  refine lv_iload_n hx hb dM_told_1 rfl (lv_at hl 1 rfl) ?_
  refine lv_i2l hx hb dM_told_2 (nI_l (by omega)) ?_
  refine lv_iconst (v := nI 0) hx hb dM_told_3 (by decide) ?_
  refine lv_iconst (v := nI 4) hx hb dM_told_4 (by decide) ?_
  refine zAfti (wa := []) (w := []) (wb := (mW A C ops nums vals st ce pk pv n vc sp d pr tk th tr)) (zRunS (wa := []) (w := []) (wb := (mW A C ops nums vals st ce pk pv n vc sp d pr tk th tr)) ⟨hx, hb, hml, hown, hw⟩ (c_in l D _ (lN 4) 0 4 (by decide) (by decide)) wm_M_36 wt_M_in wn_M wc_M_in ⟨rfl, rfl⟩ wd_M_in ⟨by decide, by decide⟩ (hK.sub [] rfl) hP hD hl.1 rfl (Nat.le_of_ble_eq_true rfl) dM_told_5 ⟨by decide, by decide⟩) hP hD hS hA (fun r u H locs hp hP hD hS => ?_)
  replace hP : va_P D vwCl (mW A C ops nums vals st ce pk pv n vc sp d pr tk th tr) H := hP
  replace hD : va_D F (mW A C ops nums vals st ce pk pv n vc sp d pr tk th tr) := hD
  obtain ⟨rfl, -⟩ : r = nI 1 ∧ True := ⟨hp.elim (fun z => z.1) (fun z => absurd (by decide) z.2), trivial⟩
  refine zi_eq (tgt := 15) hx hb dM_told_8 rfl (by omega) (fun q => absurd q (by omega)) (fun _ => ?_)
  refine lv_iconst (v := nI 0) hx hb dM_told_11 (by decide) ?_
  refine lv_goto (tgt := 16) hx hb dM_told_12 rfl ?_
  refine zPutM hx hb hw hown hK hP hD hS 0 rfl 13 (by decide) wf_M_32 rfl rfl rfl (Nat.le_of_ble_eq_true rfl) dM_told_16 (fun H locs hP hD hS => ?_)
  replace hP : va_P D vwCl (mW A C ops nums vals st ce pk pv n vc sp d pr tk 0 tr) H := hP
  replace hD : va_D F (mW A C ops nums vals st ce pk pv n vc sp d pr tk 0 tr) := hD
  refine lv_aload_n hx hb dM_told_19 rfl (lv_at hl 0 rfl) ?_
  refine zGetM hx hb hw hown hK hP 0 rfl 13 (by decide) wf_M_32 rfl dM_told_20 ?_
  refine zi_le (tgt := 28) hx hb dM_told_23 rfl (by omega) (fun _ => ?_) (fun q => absurd q (by omega))
  refine lv_iload_n hx hb dM_told_28 rfl (lv_at hl 1 rfl) ?_
  refine zi_ne (tgt := 39) hx hb dM_told_29 rfl (by omega) (fun _ => ?_) (fun q => absurd q (by omega))
  refine lv_iload_n hx hb dM_told_39 rfl (lv_at hl 1 rfl) ?_
  refine lv_iconst (v := nI 1) hx hb dM_told_40 (by decide) ?_
  refine zc_ne (tgt := 51) hx hb dM_told_41 rfl (by omega) (by omega) (fun _ => ?_) (fun q => absurd q (by omega))
  refine lv_iload_n hx hb dM_told_51 rfl (lv_at hl 1 rfl) ?_
  refine lv_iconst (v := nI 2) hx hb dM_told_52 (by decide) ?_
  refine zc_ne (tgt := 63) hx hb dM_told_53 rfl (by omega) (by omega) (fun _ => ?_) (fun q => absurd q (by omega))
  refine lv_iload_n hx hb dM_told_63 rfl (lv_at hl 1 rfl) ?_
  refine lv_iconst (v := nI 3) hx hb dM_told_64 (by decide) ?_
  refine zc_ne (tgt := 75) hx hb dM_told_65 rfl (by omega) (by omega) (fun _ => ?_) (fun q => absurd q (by omega))
  refine lv_aload_n hx hb dM_told_75 rfl (lv_at hl 0 rfl) ?_
  refine zGetM hx hb hw hown hK hP 0 rfl 14 (by decide) wf_M_62 rfl dM_told_76 ?_
  refine zi_eq (tgt := 86) hx hb dM_told_79 rfl (by omega) (fun h79 => ?_) (fun h79 => ?_)
  · refine lv_iconst (v := nI 0) hx hb dM_told_86 (by decide) ?_
    exact zIret (w' := fun (_ : Unit) => (mW A C ops nums vals st ce pk pv n vc sp d pr tk 0 tr)) () hx hb hr hlk hS hK (congrArg nI (by omega)) hP hD dM_told_87
  · refine lv_iconst (v := nI 1) hx hb dM_told_82 (by decide) ?_
    refine lv_goto (tgt := 87) hx hb dM_told_83 rfl ?_
    exact zIret (w' := fun (_ : Unit) => (mW A C ops nums vals st ce pk pv n vc sp d pr tk 0 tr)) () hx hb hr hlk hS hK (congrArg nI (by omega)) hP hD dM_told_87

set_option maxRecDepth 20000 in
set_option maxHeartbeats 4000000 in
theorem c_M_told_bad (l : Launch) (D : va_G) (A : Nat → Nat) (C : Nat → ClassId) (sz : Nat) (ops : Nat → Int32) (nums : Nat → Int64) (vals : Nat → Int64) (st : Nat → Int64) (ce : Nat → Int64) (pk : Nat → Int64) (pv : Nat → Int64) (n : Nat) (vc : Nat) (sp : Nat) (d : Nat) (pr : Nat) (tk : Nat) (th : Nat) (tr : Nat) (o : Int32) (hbad : ¬ (lN 0 ≤ o.toInt64 ∧ o.toInt64 ≤ lN 4)) : Met l yM_told (.code yM_told cM_told 2 (some .int) :: WS) (rmk 1 23) (va_Pc [.ref (A 0), .int o] (zP D (mT C) sz (mW A C ops nums vals st ce pk pv n vc sp d pr tk th tr))) (va_Qi (fun (r : Int32) (_ : Unit) => r = nI 0) (fun (_ : Unit) t => zB D (mT C) (va_A (mW A C ops nums vals st ce pk pv n vc sp d pr tk th tr) sz) (mW A C ops nums vals st ce pk pv n vc sp d pr tk 1 tr) t) (va_A (mW A C ops nums vals st ce pk pv n vc sp d pr tk th tr) sz)) 0 0 (va_A (mW A C ops nums vals st ce pk pv n vc sp d pr tk th tr) sz) := by
  refine zEnt (Qc := fun F => (va_Qi (fun (r : Int32) (_ : Unit) => r = nI 0) (fun (_ : Unit) t => zB D (mT C) F (mW A C ops nums vals st ce pk pv n vc sp d pr tk 1 tr) t) F)) (by decide) (Nat.le_of_ble_eq_true rfl) (fun p e s m below meth c ls F hx hb hr hlk hml hnm hw hown hsz hP hK hD hA hl => ?_)
  have hS : va_S F s.heap s.heap [] := va_S.rf
  have hown : s.vm.findClass RM = some m.cls := hown
  have hl : lv_has ls 2 [(0, .ref (A 0)), (1, .int o)] := hl
  refine lv_aload_n hx hb dM_told_0 rfl (lv_at hl 0 rfl) ?_
  refine lv_iload_n hx hb dM_told_1 rfl (lv_at hl 1 rfl) ?_
  refine lv_i2l hx hb dM_told_2 rfl ?_
  refine lv_iconst (v := nI 0) hx hb dM_told_3 (by decide) ?_
  refine lv_iconst (v := nI 4) hx hb dM_told_4 (by decide) ?_
  refine zAfti (wa := []) (w := []) (wb := (mW A C ops nums vals st ce pk pv n vc sp d pr tk th tr)) (zRunS (wa := []) (w := []) (wb := (mW A C ops nums vals st ce pk pv n vc sp d pr tk th tr)) ⟨hx, hb, hml, hown, hw⟩ (c_in l D _ o.toInt64 0 4 (by decide) (by decide)) wm_M_36 wt_M_in wn_M wc_M_in ⟨rfl, rfl⟩ wd_M_in ⟨by decide, by decide⟩ (hK.sub [] rfl) hP hD hl.1 rfl (Nat.le_of_ble_eq_true rfl) dM_told_5 ⟨by decide, by decide⟩) hP hD hS hA (fun r u H locs hp hP hD hS => ?_)
  replace hP : va_P D vwCl (mW A C ops nums vals st ce pk pv n vc sp d pr tk th tr) H := hP
  replace hD : va_D F (mW A C ops nums vals st ce pk pv n vc sp d pr tk th tr) := hD
  obtain ⟨rfl, -⟩ : r = nI 0 ∧ True := ⟨hp.elim (fun z => absurd z.2 hbad) (fun z => z.1), trivial⟩
  refine zi_eq (tgt := 15) hx hb dM_told_8 rfl (by omega) (fun _ => ?_) (fun q => absurd q (by omega))
  refine lv_iconst (v := nI 1) hx hb dM_told_15 (by decide) ?_
  refine zPutM hx hb hw hown hK hP hD hS 0 rfl 13 (by decide) wf_M_32 rfl rfl rfl (Nat.le_of_ble_eq_true rfl) dM_told_16 (fun H locs hP hD hS => ?_)
  replace hP : va_P D vwCl (mW A C ops nums vals st ce pk pv n vc sp d pr tk 1 tr) H := hP
  replace hD : va_D F (mW A C ops nums vals st ce pk pv n vc sp d pr tk 1 tr) := hD
  refine lv_aload_n hx hb dM_told_19 rfl (lv_at hl 0 rfl) ?_
  refine zGetM hx hb hw hown hK hP 0 rfl 13 (by decide) wf_M_32 rfl dM_told_20 ?_
  refine zi_le (tgt := 28) hx hb dM_told_23 rfl (by omega) (fun q => absurd q (by omega)) (fun _ => ?_)
  refine lv_iconst (v := nI 0) hx hb dM_told_26 (by decide) ?_
  exact zIret (w' := fun (_ : Unit) => (mW A C ops nums vals st ce pk pv n vc sp d pr tk 1 tr)) () hx hb hr hlk hS hK rfl hP hD dM_told_27

set_option maxRecDepth 20000 in
set_option maxHeartbeats 4000000 in
theorem c_M_cell_ok (l : Launch) (D : va_G) (A : Nat → Nat) (C : Nat → ClassId) (sz : Nat) (ops : Nat → Int32) (nums : Nat → Int64) (vals : Nat → Int64) (st : Nat → Int64) (ce : Nat → Int64) (pk : Nat → Int64) (pv : Nat → Int64) (n : Nat) (vc : Nat) (sp : Nat) (d : Nat) (pr : Nat) (tk : Nat) (th : Nat) (tr : Nat) (j : Nat) (hj : j < 4) : Met l yM_cell (.code yM_cell cM_cell 2 (some .long) :: WS) (rmk 1 23) (va_Pc [.ref (A 0), .int (nI j)] (zP D (mT C) sz (mW A C ops nums vals st ce pk pv n vc sp d pr tk th tr))) (va_Ql (fun (r : Int64) (_ : Unit) => r = ce j) (fun (_ : Unit) t => zB D (mT C) (va_A (mW A C ops nums vals st ce pk pv n vc sp d pr tk th tr) sz) (mW A C ops nums vals st ce pk pv n vc sp d pr tk 0 tr) t) (va_A (mW A C ops nums vals st ce pk pv n vc sp d pr tk th tr) sz)) 0 0 (va_A (mW A C ops nums vals st ce pk pv n vc sp d pr tk th tr) sz) := by
  refine zEnt (Qc := fun F => (va_Ql (fun (r : Int64) (_ : Unit) => r = ce j) (fun (_ : Unit) t => zB D (mT C) F (mW A C ops nums vals st ce pk pv n vc sp d pr tk 0 tr) t) F)) (by decide) (Nat.le_of_ble_eq_true rfl) (fun p e s m below meth c ls F hx hb hr hlk hml hnm hw hown hsz hP hK hD hA hl => ?_)
  have hS : va_S F s.heap s.heap [] := va_S.rf
  have hown : s.vm.findClass RM = some m.cls := hown
  have hl : lv_has ls 2 [(0, .ref (A 0)), (1, .int (nI j))] := hl
  refine lv_aload_n hx hb dM_cell_0 rfl (lv_at hl 0 rfl) ?_
  refine lv_iload_n hx hb dM_cell_1 rfl (lv_at hl 1 rfl) ?_
  refine lv_i2l hx hb dM_cell_2 (nI_l (by omega)) ?_
  refine lv_iconst (v := nI 0) hx hb dM_cell_3 (by decide) ?_
  refine lv_iconst (v := nI 3) hx hb dM_cell_4 (by decide) ?_
  refine zAfti (wa := []) (w := []) (wb := (mW A C ops nums vals st ce pk pv n vc sp d pr tk th tr)) (zRunS (wa := []) (w := []) (wb := (mW A C ops nums vals st ce pk pv n vc sp d pr tk th tr)) ⟨hx, hb, hml, hown, hw⟩ (c_in l D _ (lN j) 0 3 (by decide) (by decide)) wm_M_36 wt_M_in wn_M wc_M_in ⟨rfl, rfl⟩ wd_M_in ⟨by decide, by decide⟩ (hK.sub [] rfl) hP hD hl.1 rfl (Nat.le_of_ble_eq_true rfl) dM_cell_5 ⟨by decide, by decide⟩) hP hD hS hA (fun r u H locs hp hP hD hS => ?_)
  replace hP : va_P D vwCl (mW A C ops nums vals st ce pk pv n vc sp d pr tk th tr) H := hP
  replace hD : va_D F (mW A C ops nums vals st ce pk pv n vc sp d pr tk th tr) := hD
  obtain ⟨rfl, -⟩ : r = nI 1 ∧ True := ⟨hp.elim (fun z => z.1) (fun z => absurd ⟨(lN_le (by decide) (by omega)).mpr (by omega), (lN_le (by omega) (by decide)).mpr (by omega)⟩ z.2), trivial⟩
  refine zi_eq (tgt := 15) hx hb dM_cell_8 rfl (by omega) (fun q => absurd q (by omega)) (fun _ => ?_)
  refine lv_iconst (v := nI 0) hx hb dM_cell_11 (by decide) ?_
  refine lv_goto (tgt := 16) hx hb dM_cell_12 rfl ?_
  refine zPutM hx hb hw hown hK hP hD hS 0 rfl 13 (by decide) wf_M_32 rfl rfl rfl (Nat.le_of_ble_eq_true rfl) dM_cell_16 (fun H locs hP hD hS => ?_)
  replace hP : va_P D vwCl (mW A C ops nums vals st ce pk pv n vc sp d pr tk 0 tr) H := hP
  replace hD : va_D F (mW A C ops nums vals st ce pk pv n vc sp d pr tk 0 tr) := hD
  refine lv_aload_n hx hb dM_cell_19 rfl (lv_at hl 0 rfl) ?_
  refine zGetM hx hb hw hown hK hP 0 rfl 13 (by decide) wf_M_32 rfl dM_cell_20 ?_
  refine zi_le (tgt := 30) hx hb dM_cell_23 rfl (by omega) (fun _ => ?_) (fun q => absurd q (by omega))
  refine lv_aload_n hx hb dM_cell_30 rfl (lv_at hl 0 rfl) ?_
  refine zGetM hx hb hw hown hK hP 0 rfl 4 (by decide) wf_M_23 rfl dM_cell_31 ?_
  refine lv_iload_n hx hb dM_cell_34 rfl (lv_at hl 1 rfl) ?_
  refine zLald hx hb hK hP 5 4 rfl rfl (by omega) (by decide) dM_cell_35 ?_
  exact zLret (w' := fun (_ : Unit) => (mW A C ops nums vals st ce pk pv n vc sp d pr tk 0 tr)) () hx hb hr hlk hS hK rfl hP hD dM_cell_36

set_option maxRecDepth 20000 in
set_option maxHeartbeats 4000000 in
theorem c_M_cell_bad (l : Launch) (D : va_G) (A : Nat → Nat) (C : Nat → ClassId) (sz : Nat) (ops : Nat → Int32) (nums : Nat → Int64) (vals : Nat → Int64) (st : Nat → Int64) (ce : Nat → Int64) (pk : Nat → Int64) (pv : Nat → Int64) (n : Nat) (vc : Nat) (sp : Nat) (d : Nat) (pr : Nat) (tk : Nat) (th : Nat) (tr : Nat) (o : Int32) (hbad : ¬ (lN 0 ≤ o.toInt64 ∧ o.toInt64 ≤ lN 3)) : Met l yM_cell (.code yM_cell cM_cell 2 (some .long) :: WS) (rmk 1 23) (va_Pc [.ref (A 0), .int o] (zP D (mT C) sz (mW A C ops nums vals st ce pk pv n vc sp d pr tk th tr))) (va_Ql (fun (r : Int64) (_ : Unit) => r = 0) (fun (_ : Unit) t => zB D (mT C) (va_A (mW A C ops nums vals st ce pk pv n vc sp d pr tk th tr) sz) (mW A C ops nums vals st ce pk pv n vc sp d pr tk 1 tr) t) (va_A (mW A C ops nums vals st ce pk pv n vc sp d pr tk th tr) sz)) 0 0 (va_A (mW A C ops nums vals st ce pk pv n vc sp d pr tk th tr) sz) := by
  refine zEnt (Qc := fun F => (va_Ql (fun (r : Int64) (_ : Unit) => r = 0) (fun (_ : Unit) t => zB D (mT C) F (mW A C ops nums vals st ce pk pv n vc sp d pr tk 1 tr) t) F)) (by decide) (Nat.le_of_ble_eq_true rfl) (fun p e s m below meth c ls F hx hb hr hlk hml hnm hw hown hsz hP hK hD hA hl => ?_)
  have hS : va_S F s.heap s.heap [] := va_S.rf
  have hown : s.vm.findClass RM = some m.cls := hown
  have hl : lv_has ls 2 [(0, .ref (A 0)), (1, .int o)] := hl
  refine lv_aload_n hx hb dM_cell_0 rfl (lv_at hl 0 rfl) ?_
  refine lv_iload_n hx hb dM_cell_1 rfl (lv_at hl 1 rfl) ?_
  refine lv_i2l hx hb dM_cell_2 rfl ?_
  refine lv_iconst (v := nI 0) hx hb dM_cell_3 (by decide) ?_
  refine lv_iconst (v := nI 3) hx hb dM_cell_4 (by decide) ?_
  refine zAfti (wa := []) (w := []) (wb := (mW A C ops nums vals st ce pk pv n vc sp d pr tk th tr)) (zRunS (wa := []) (w := []) (wb := (mW A C ops nums vals st ce pk pv n vc sp d pr tk th tr)) ⟨hx, hb, hml, hown, hw⟩ (c_in l D _ o.toInt64 0 3 (by decide) (by decide)) wm_M_36 wt_M_in wn_M wc_M_in ⟨rfl, rfl⟩ wd_M_in ⟨by decide, by decide⟩ (hK.sub [] rfl) hP hD hl.1 rfl (Nat.le_of_ble_eq_true rfl) dM_cell_5 ⟨by decide, by decide⟩) hP hD hS hA (fun r u H locs hp hP hD hS => ?_)
  replace hP : va_P D vwCl (mW A C ops nums vals st ce pk pv n vc sp d pr tk th tr) H := hP
  replace hD : va_D F (mW A C ops nums vals st ce pk pv n vc sp d pr tk th tr) := hD
  obtain ⟨rfl, -⟩ : r = nI 0 ∧ True := ⟨hp.elim (fun z => absurd z.2 hbad) (fun z => z.1), trivial⟩
  refine zi_eq (tgt := 15) hx hb dM_cell_8 rfl (by omega) (fun _ => ?_) (fun q => absurd q (by omega))
  refine lv_iconst (v := nI 1) hx hb dM_cell_15 (by decide) ?_
  refine zPutM hx hb hw hown hK hP hD hS 0 rfl 13 (by decide) wf_M_32 rfl rfl rfl (Nat.le_of_ble_eq_true rfl) dM_cell_16 (fun H locs hP hD hS => ?_)
  replace hP : va_P D vwCl (mW A C ops nums vals st ce pk pv n vc sp d pr tk 1 tr) H := hP
  replace hD : va_D F (mW A C ops nums vals st ce pk pv n vc sp d pr tk 1 tr) := hD
  refine lv_aload_n hx hb dM_cell_19 rfl (lv_at hl 0 rfl) ?_
  refine zGetM hx hb hw hown hK hP 0 rfl 13 (by decide) wf_M_32 rfl dM_cell_20 ?_
  refine zi_le (tgt := 30) hx hb dM_cell_23 rfl (by omega) (fun q => absurd q (by omega)) (fun _ => ?_)
  refine lv_lconst (v := 0) hx hb dM_cell_26 (by decide) ?_
  refine lv_goto (tgt := 36) hx hb dM_cell_27 rfl ?_
  exact zLret (w' := fun (_ : Unit) => (mW A C ops nums vals st ce pk pv n vc sp d pr tk 1 tr)) () hx hb hr hlk hS hK rfl hP hD dM_cell_36

set_option maxHeartbeats 4000000 in
theorem mcl {p : Program} {l : Launch} {e : Env} {s : State} {m : MethodId} {args : Array Value} {below : List Frame} {meth : Method} {c : Code} {F : Nat → Prop} {D : va_G} {A : Nat → Nat} {C : Nat → ClassId} (hx : p.tables.exec = Jvm.exec) (hb : c.code = cM_call) (hr : meth.sig.returnType = (some .int)) (hlk : meth.locks = false) (hml : c.maxLocals = 6) (hw : ∀ w ∈ WS, w.before args s = true) (hown : s.vm.findClass RM = some m.cls) (hK : va_K D vwCl (mT C) s) (hA : ∀ q, s.heap.size ≤ q → F q) {Q : State → Prop} {H : Heap} {locs : List Loc} {ops : Nat → Int32} {nums vals st ce pk pv : Nat → Int64} {n vc sp d pr tk th tr : Nat} {o : Int32} {k2 : Int64} {b0 : Nat} (hn : n ≤ 40) (hP : va_P D vwCl (mW A C ops nums vals st ce pk pv n vc sp d pr tk th tr) H) (hD : va_D F (mW A C ops nums vals st ce pk pv n vc sp d pr tk th tr)) (hS : va_S F s.heap H locs) (kk : ∀ (b : Nat) (ls : Array Slot), b ≤ 1 → (b = 1 ↔ b0 = 1 ∧ ¬ gBP n ops nums) → lv_has ls 6 [(4, .int (nI b)), (0, .ref (A 0)), (1, .int o), (2, .long k2)] → W p l e (rmk 1 33) s m args below meth c H locs 0 0 Q (F0 m 70 ls [])) : ∀ (f i b : Nat) (ls : Array Slot), i + f = n → b ≤ 1 → (b = 1 ↔ b0 = 1 ∧ ∀ j, j < i → ¬ ((ops j = nI 15 ∨ ops j = nI 16) ∧ lN n < nums j)) → lv_has ls 6 [(5, .int (nI i)), (4, .int (nI b)), (0, .ref (A 0)), (1, .int o), (2, .long k2)] → W p l e (rmk 1 33) s m args below meth c H locs 0 0 Q (F0 m 12 ls []) := by
  intro f
  induction f with
  | zero =>
    intro i b ls hf hb1 hinv hl
    refine lv_iload hx hb dM_call_12 (lv_at hl 0 rfl) ?_
    refine lv_aload_n hx hb dM_call_14 rfl (lv_at hl 2 rfl) ?_
    refine zGetM hx hb hw hown hK hP 0 rfl 7 (by decide) wf_M_40 rfl dM_call_15 ?_
    refine zc_ge (tgt := 70) hx hb dM_call_18 rfl (by omega) (by omega) (fun _ => ?_) (fun q => absurd q (by omega))
    exact kk b _ hb1 ⟨fun z => ⟨(hinv.mp z).1, fun ⟨j, hj, hq⟩ => (hinv.mp z).2 j (by omega) hq⟩, fun z => hinv.mpr ⟨z.1, fun j hj hq => z.2 ⟨j, by omega, hq⟩⟩⟩ (lv_sub hl [1, 2, 3, 4] rfl)
  | succ f ih =>
    intro i b ls hf hb1 hinv hl
    refine lv_iload hx hb dM_call_12 (lv_at hl 0 rfl) ?_
    refine lv_aload_n hx hb dM_call_14 rfl (lv_at hl 2 rfl) ?_
    refine zGetM hx hb hw hown hK hP 0 rfl 7 (by decide) wf_M_40 rfl dM_call_15 ?_
    refine zc_ge (tgt := 70) hx hb dM_call_18 rfl (by omega) (by omega) (fun q => absurd q (by omega)) (fun _ => ?_)
    refine lv_aload_n hx hb dM_call_21 rfl (lv_at hl 2 rfl) ?_
    refine zGetM hx hb hw hown hK hP 0 rfl 0 (by decide) wf_M_9 rfl dM_call_22 ?_
    refine lv_iload hx hb dM_call_25 (lv_at hl 0 rfl) ?_
    refine zIald hx hb hK hP 1 0 rfl rfl (by omega) (by decide) dM_call_27 ?_
    refine lv_bipush (v := nI 15) hx hb dM_call_28 (by decide) ?_
    refine lv_icmp_eq (tgt := 45) hx hb dM_call_30 rfl (fun h30 => ?_) (fun h30 => ?_)
    · refine lv_aload_n hx hb dM_call_45 rfl (lv_at hl 2 rfl) ?_
      refine zGetM hx hb hw hown hK hP 0 rfl 1 (by decide) wf_M_13 rfl dM_call_46 ?_
      refine lv_iload hx hb dM_call_49 (lv_at hl 0 rfl) ?_
      refine zLald hx hb hK hP 2 1 rfl rfl (by omega) (by decide) dM_call_51 ?_
      refine lv_aload_n hx hb dM_call_52 rfl (lv_at hl 2 rfl) ?_
      refine zGetM hx hb hw hown hK hP 0 rfl 7 (by decide) wf_M_40 rfl dM_call_53 ?_
      refine lv_i2l hx hb dM_call_56 (nI_l (by omega)) ?_
      refine W.lcmp hx hb dM_call_57 ?_
      refine zl_le (tgt := 64) hx hb dM_call_58 rfl (fun h58 => ?_) (fun h58 => ?_)
      · refine lv_iinc (k := 0) (v := nI (i + 1)) hx hb dM_call_64 hl rfl (nI_add _ _) (by decide) rfl (fun ls hl => ?_)
        have hl : lv_has ls 6 [(5, .int (nI (i + 1))), (4, .int (nI b)), (0, .ref (A 0)), (1, .int o), (2, .long k2)] := hl
        refine lv_goto (tgt := 12) hx hb dM_call_67 rfl ?_
        have np : ¬ ((ops i = nI 15 ∨ ops i = nI 16) ∧ lN n < nums i) := by
          rintro ⟨q1, q2⟩
          first | exact absurd q2 (Int64.not_lt.mpr h58) | exact q1.elim (fun z => h30 z) (fun z => h42 z)
        exact ih (i + 1) b _ (by omega) hb1 ⟨fun z => ⟨(hinv.mp z).1, fun j hj => (Nat.lt_succ_iff_lt_or_eq.mp hj).elim ((hinv.mp z).2 j) (fun e => by subst e; exact np)⟩, fun z => hinv.mpr ⟨z.1, fun j hj => z.2 j (by omega)⟩⟩ (lv_sub hl [0, 1, 2, 3, 4] rfl)
      · refine lv_iconst (v := nI 0) hx hb dM_call_61 (by decide) ?_
        refine lv_istore hx hb dM_call_62 hl (by decide) rfl (fun ls hl => ?_)
        have hl : lv_has ls 6 [(4, .int (nI 0)), (5, .int (nI i)), (0, .ref (A 0)), (1, .int o), (2, .long k2)] := hl
        refine lv_iinc (k := 1) (v := nI (i + 1)) hx hb dM_call_64 hl rfl (nI_add _ _) (by decide) rfl (fun ls hl => ?_)
        have hl : lv_has ls 6 [(5, .int (nI (i + 1))), (4, .int (nI 0)), (0, .ref (A 0)), (1, .int o), (2, .long k2)] := hl
        refine lv_goto (tgt := 12) hx hb dM_call_67 rfl ?_
        exact ih (i + 1) 0 _ (by omega) (by omega) ⟨fun z => absurd z (by decide), fun z => absurd ⟨by first | exact Or.inl h30 | exact Or.inr h42, Int64.not_le.mp h58⟩ (z.2 i (by omega))⟩ (lv_sub hl [0, 1, 2, 3, 4] rfl)
    · refine lv_aload_n hx hb dM_call_33 rfl (lv_at hl 2 rfl) ?_
      refine zGetM hx hb hw hown hK hP 0 rfl 0 (by decide) wf_M_9 rfl dM_call_34 ?_
      refine lv_iload hx hb dM_call_37 (lv_at hl 0 rfl) ?_
      refine zIald hx hb hK hP 1 0 rfl rfl (by omega) (by decide) dM_call_39 ?_
      refine lv_bipush (v := nI 16) hx hb dM_call_40 (by decide) ?_
      refine lv_icmp_ne (tgt := 64) hx hb dM_call_42 rfl (fun h42 => ?_) (fun h42 => ?_)
      · refine lv_iinc (k := 0) (v := nI (i + 1)) hx hb dM_call_64 hl rfl (nI_add _ _) (by decide) rfl (fun ls hl => ?_)
        have hl : lv_has ls 6 [(5, .int (nI (i + 1))), (4, .int (nI b)), (0, .ref (A 0)), (1, .int o), (2, .long k2)] := hl
        refine lv_goto (tgt := 12) hx hb dM_call_67 rfl ?_
        have np : ¬ ((ops i = nI 15 ∨ ops i = nI 16) ∧ lN n < nums i) := by
          rintro ⟨q1, q2⟩
          first | exact absurd q2 (Int64.not_lt.mpr h58) | exact q1.elim (fun z => h30 z) (fun z => h42 z)
        exact ih (i + 1) b _ (by omega) hb1 ⟨fun z => ⟨(hinv.mp z).1, fun j hj => (Nat.lt_succ_iff_lt_or_eq.mp hj).elim ((hinv.mp z).2 j) (fun e => by subst e; exact np)⟩, fun z => hinv.mpr ⟨z.1, fun j hj => z.2 j (by omega)⟩⟩ (lv_sub hl [0, 1, 2, 3, 4] rfl)
      · refine lv_aload_n hx hb dM_call_45 rfl (lv_at hl 2 rfl) ?_
        refine zGetM hx hb hw hown hK hP 0 rfl 1 (by decide) wf_M_13 rfl dM_call_46 ?_
        refine lv_iload hx hb dM_call_49 (lv_at hl 0 rfl) ?_
        refine zLald hx hb hK hP 2 1 rfl rfl (by omega) (by decide) dM_call_51 ?_
        refine lv_aload_n hx hb dM_call_52 rfl (lv_at hl 2 rfl) ?_
        refine zGetM hx hb hw hown hK hP 0 rfl 7 (by decide) wf_M_40 rfl dM_call_53 ?_
        refine lv_i2l hx hb dM_call_56 (nI_l (by omega)) ?_
        refine W.lcmp hx hb dM_call_57 ?_
        refine zl_le (tgt := 64) hx hb dM_call_58 rfl (fun h58 => ?_) (fun h58 => ?_)
        · refine lv_iinc (k := 0) (v := nI (i + 1)) hx hb dM_call_64 hl rfl (nI_add _ _) (by decide) rfl (fun ls hl => ?_)
          have hl : lv_has ls 6 [(5, .int (nI (i + 1))), (4, .int (nI b)), (0, .ref (A 0)), (1, .int o), (2, .long k2)] := hl
          refine lv_goto (tgt := 12) hx hb dM_call_67 rfl ?_
          have np : ¬ ((ops i = nI 15 ∨ ops i = nI 16) ∧ lN n < nums i) := by
            rintro ⟨q1, q2⟩
            first | exact absurd q2 (Int64.not_lt.mpr h58) | exact q1.elim (fun z => h30 z) (fun z => h42 z)
          exact ih (i + 1) b _ (by omega) hb1 ⟨fun z => ⟨(hinv.mp z).1, fun j hj => (Nat.lt_succ_iff_lt_or_eq.mp hj).elim ((hinv.mp z).2 j) (fun e => by subst e; exact np)⟩, fun z => hinv.mpr ⟨z.1, fun j hj => z.2 j (by omega)⟩⟩ (lv_sub hl [0, 1, 2, 3, 4] rfl)
        · refine lv_iconst (v := nI 0) hx hb dM_call_61 (by decide) ?_
          refine lv_istore hx hb dM_call_62 hl (by decide) rfl (fun ls hl => ?_)
          have hl : lv_has ls 6 [(4, .int (nI 0)), (5, .int (nI i)), (0, .ref (A 0)), (1, .int o), (2, .long k2)] := hl
          refine lv_iinc (k := 1) (v := nI (i + 1)) hx hb dM_call_64 hl rfl (nI_add _ _) (by decide) rfl (fun ls hl => ?_)
          have hl : lv_has ls 6 [(5, .int (nI (i + 1))), (4, .int (nI 0)), (0, .ref (A 0)), (1, .int o), (2, .long k2)] := hl
          refine lv_goto (tgt := 12) hx hb dM_call_67 rfl ?_
          exact ih (i + 1) 0 _ (by omega) (by omega) ⟨fun z => absurd z (by decide), fun z => absurd ⟨by first | exact Or.inl h30 | exact Or.inr h42, Int64.not_le.mp h58⟩ (z.2 i (by omega))⟩ (lv_sub hl [0, 1, 2, 3, 4] rfl)
set_option maxRecDepth 20000 in
set_option maxHeartbeats 4000000 in
theorem c_M_call_bad (l : Launch) (D : va_G) (A : Nat → Nat) (C : Nat → ClassId) (sz : Nat) (ops : Nat → Int32) (nums : Nat → Int64) (vals : Nat → Int64) (st : Nat → Int64) (ce : Nat → Int64) (pk : Nat → Int64) (pv : Nat → Int64) (n : Nat) (vc : Nat) (sp : Nat) (d : Nat) (pr : Nat) (tk : Nat) (th : Nat) (tr : Nat) (o : Int32) (k2 : Int64) (hn : n ≤ 40) (hbad : ¬ (lN 0 ≤ o.toInt64 ∧ o.toInt64 ≤ lN 2) ∨ gBP n ops nums) : Met l yM_call (.code yM_call cM_call 6 (some .int) :: WS) (rmk 1 33) (va_Pc [.ref (A 0), .int o, .long k2] (zP D (mT C) sz (mW A C ops nums vals st ce pk pv n vc sp d pr tk th tr))) (va_Qi (fun (r : Int32) (_ : Unit) => r = nI 0) (fun (_ : Unit) t => zB D (mT C) (va_A (mW A C ops nums vals st ce pk pv n vc sp d pr tk th tr) sz) (mW A C ops nums vals st ce pk pv n vc sp d pr tk 1 tr) t) (va_A (mW A C ops nums vals st ce pk pv n vc sp d pr tk th tr) sz)) 0 0 (va_A (mW A C ops nums vals st ce pk pv n vc sp d pr tk th tr) sz) := by
  refine zEnt (Qc := fun F => (va_Qi (fun (r : Int32) (_ : Unit) => r = nI 0) (fun (_ : Unit) t => zB D (mT C) F (mW A C ops nums vals st ce pk pv n vc sp d pr tk 1 tr) t) F)) (by decide) (Nat.le_of_ble_eq_true rfl) (fun p e s m below meth c ls F hx hb hr hlk hml hnm hw hown hsz hP hK hD hA hl => ?_)
  have hS : va_S F s.heap s.heap [] := va_S.rf
  have hown : s.vm.findClass RM = some m.cls := hown
  have hl : lv_has ls 6 [(0, .ref (A 0)), (1, .int o), (2, .long k2)] := hl
  refine lv_iload_n hx hb dM_call_0 rfl (lv_at hl 1 rfl) ?_
  refine lv_i2l hx hb dM_call_1 rfl ?_
  refine lv_iconst (v := nI 0) hx hb dM_call_2 (by decide) ?_
  refine lv_iconst (v := nI 2) hx hb dM_call_3 (by decide) ?_
  refine zAfti (wa := []) (w := []) (wb := (mW A C ops nums vals st ce pk pv n vc sp d pr tk th tr)) (zRunS (wa := []) (w := []) (wb := (mW A C ops nums vals st ce pk pv n vc sp d pr tk th tr)) ⟨hx, hb, hml, hown, hw⟩ (c_in l D _ o.toInt64 0 2 (by decide) (by decide)) wm_M_36 wt_M_in wn_M wc_M_in ⟨rfl, rfl⟩ wd_M_in ⟨by decide, by decide⟩ (hK.sub [] rfl) hP hD hl.1 rfl (Nat.le_of_ble_eq_true rfl) dM_call_4 ⟨by decide, by decide⟩) hP hD hS hA (fun r u H locs hp hP hD hS => ?_)
  replace hP : va_P D vwCl (mW A C ops nums vals st ce pk pv n vc sp d pr tk th tr) H := hP
  replace hD : va_D F (mW A C ops nums vals st ce pk pv n vc sp d pr tk th tr) := hD
  rcases hp with ⟨rfl, g4⟩ | ⟨rfl, g4⟩
  · refine lv_istore hx hb dM_call_7 hl (by decide) rfl (fun ls hl => ?_)
    have hl : lv_has ls 6 [(4, .int (nI 1)), (0, .ref (A 0)), (1, .int o), (2, .long k2)] := hl
    refine lv_iconst (v := nI 0) hx hb dM_call_9 (by decide) ?_
    refine lv_istore hx hb dM_call_10 hl (by decide) rfl (fun ls hl => ?_)
    have hl : lv_has ls 6 [(5, .int (nI 0)), (4, .int (nI 1)), (0, .ref (A 0)), (1, .int o), (2, .long k2)] := hl
    refine mcl (b0 := 1) hx hb hr hlk hml hw hown hK hA hn hP hD hS (fun b ls hb1 hinv hl => ?_) n 0 1 _ (by omega) (by omega) ⟨fun z => ⟨z, fun j hj => absurd hj (by omega)⟩, fun z => z.1⟩ (lv_sub hl [0, 1, 2, 3, 4] rfl)
    have e9 : b = 0 := Classical.byContradiction (fun z => (fun q => hbad.elim (fun y => y g4) (fun y => q.2 y)) (hinv.mp (by omega)))
    subst e9
    refine lv_aload_n hx hb dM_call_70 rfl (lv_at hl 1 rfl) ?_
    refine lv_iload hx hb dM_call_71 (lv_at hl 0 rfl) ?_
    refine zi_eq (tgt := 80) hx hb dM_call_73 rfl (by omega) (fun _ => ?_) (fun q => absurd q (by omega))
    refine lv_iconst (v := nI 1) hx hb dM_call_80 (by decide) ?_
    refine zPutM hx hb hw hown hK hP hD hS 0 rfl 13 (by decide) wf_M_32 rfl rfl rfl (Nat.le_of_ble_eq_true rfl) dM_call_81 (fun H locs hP hD hS => ?_)
    replace hP : va_P D vwCl (mW A C ops nums vals st ce pk pv n vc sp d pr tk 1 tr) H := hP
    replace hD : va_D F (mW A C ops nums vals st ce pk pv n vc sp d pr tk 1 tr) := hD
    refine lv_aload_n hx hb dM_call_84 rfl (lv_at hl 1 rfl) ?_
    refine zGetM hx hb hw hown hK hP 0 rfl 13 (by decide) wf_M_32 rfl dM_call_85 ?_
    refine zi_le (tgt := 93) hx hb dM_call_88 rfl (by omega) (fun q => absurd q (by omega)) (fun _ => ?_)
    refine lv_iconst (v := nI 0) hx hb dM_call_91 (by decide) ?_
    exact zIret (w' := fun (_ : Unit) => (mW A C ops nums vals st ce pk pv n vc sp d pr tk 1 tr)) () hx hb hr hlk hS hK rfl hP hD dM_call_92
  · refine lv_istore hx hb dM_call_7 hl (by decide) rfl (fun ls hl => ?_)
    have hl : lv_has ls 6 [(4, .int (nI 0)), (0, .ref (A 0)), (1, .int o), (2, .long k2)] := hl
    refine lv_iconst (v := nI 0) hx hb dM_call_9 (by decide) ?_
    refine lv_istore hx hb dM_call_10 hl (by decide) rfl (fun ls hl => ?_)
    have hl : lv_has ls 6 [(5, .int (nI 0)), (4, .int (nI 0)), (0, .ref (A 0)), (1, .int o), (2, .long k2)] := hl
    refine mcl (b0 := 0) hx hb hr hlk hml hw hown hK hA hn hP hD hS (fun b ls hb1 hinv hl => ?_) n 0 0 _ (by omega) (by omega) ⟨fun z => ⟨z, fun j hj => absurd hj (by omega)⟩, fun z => z.1⟩ (lv_sub hl [0, 1, 2, 3, 4] rfl)
    have e9 : b = 0 := Classical.byContradiction (fun z => (fun q => absurd q.1 (by decide)) (hinv.mp (by omega)))
    subst e9
    refine lv_aload_n hx hb dM_call_70 rfl (lv_at hl 1 rfl) ?_
    refine lv_iload hx hb dM_call_71 (lv_at hl 0 rfl) ?_
    refine zi_eq (tgt := 80) hx hb dM_call_73 rfl (by omega) (fun _ => ?_) (fun q => absurd q (by omega))
    refine lv_iconst (v := nI 1) hx hb dM_call_80 (by decide) ?_
    refine zPutM hx hb hw hown hK hP hD hS 0 rfl 13 (by decide) wf_M_32 rfl rfl rfl (Nat.le_of_ble_eq_true rfl) dM_call_81 (fun H locs hP hD hS => ?_)
    replace hP : va_P D vwCl (mW A C ops nums vals st ce pk pv n vc sp d pr tk 1 tr) H := hP
    replace hD : va_D F (mW A C ops nums vals st ce pk pv n vc sp d pr tk 1 tr) := hD
    refine lv_aload_n hx hb dM_call_84 rfl (lv_at hl 1 rfl) ?_
    refine zGetM hx hb hw hown hK hP 0 rfl 13 (by decide) wf_M_32 rfl dM_call_85 ?_
    refine zi_le (tgt := 93) hx hb dM_call_88 rfl (by omega) (fun q => absurd q (by omega)) (fun _ => ?_)
    refine lv_iconst (v := nI 0) hx hb dM_call_91 (by decide) ?_
    exact zIret (w' := fun (_ : Unit) => (mW A C ops nums vals st ce pk pv n vc sp d pr tk 1 tr)) () hx hb hr hlk hS hK rfl hP hD dM_call_92

set_option maxRecDepth 20000 in
set_option maxHeartbeats 4000000 in
theorem c_M_call_ok (l : Launch) (D : va_G) (A : Nat → Nat) (C : Nat → ClassId) (sz : Nat) (ops : Nat → Int32) (nums : Nat → Int64) (vals : Nat → Int64) (st : Nat → Int64) (ce : Nat → Int64) (pk : Nat → Int64) (pv : Nat → Int64) (n : Nat) (vc : Nat) (sp : Nat) (d : Nat) (pr : Nat) (tk : Nat) (th : Nat) (tr : Nat) (w2 : Nat) (k2 : Int64) (q : Nat × Nat × RS) (hw2 : w2 ≤ 2) (hvc : vc ≤ 40) (hPI : PI n ops nums) (hn : n ≤ 40) (hg : ¬ gBP n ops nums) (hq : runR n vc vals w2 k2 ops nums 400 (0, 0, st, z4 ce, pk, pv, 0, 0) = q) (ht : q.2.1 = 0) : Met l yM_call (.code yM_call cM_call 6 (some .int) :: WS) (rmk 1 33) (va_Pc [.ref (A 0), .int (nI w2), .long k2] (zP D (mT C) sz (mW A C ops nums vals st ce pk pv n vc sp d pr tk th tr))) (va_Qi (fun (r : Int32) (_ : Unit) => r = nI q.2.2.2.2.2.2.2.2.1) (fun (_ : Unit) t => zB D (mT C) (va_A (mW A C ops nums vals st ce pk pv n vc sp d pr tk th tr) sz) (mW A C ops nums vals q.2.2.2.2.1 q.2.2.2.2.2.1 q.2.2.2.2.2.2.1 q.2.2.2.2.2.2.2.1 n vc (0 + q.1) q.2.2.2.1 q.2.2.2.2.2.2.2.2.1 q.2.2.2.2.2.2.2.2.2 0 0) t) (va_A (mW A C ops nums vals st ce pk pv n vc sp d pr tk th tr) sz)) 0 0 (va_A (mW A C ops nums vals st ce pk pv n vc sp d pr tk th tr) sz) := by
  refine zEnt (Qc := fun F => (va_Qi (fun (r : Int32) (_ : Unit) => r = nI q.2.2.2.2.2.2.2.2.1) (fun (_ : Unit) t => zB D (mT C) F (mW A C ops nums vals q.2.2.2.2.1 q.2.2.2.2.2.1 q.2.2.2.2.2.2.1 q.2.2.2.2.2.2.2.1 n vc (0 + q.1) q.2.2.2.1 q.2.2.2.2.2.2.2.2.1 q.2.2.2.2.2.2.2.2.2 0 0) t) F)) (by decide) (Nat.le_of_ble_eq_true rfl) (fun p e s m below meth c ls F hx hb hr hlk hml hnm hw hown hsz hP hK hD hA hl => ?_)
  have hS : va_S F s.heap s.heap [] := va_S.rf
  have hown : s.vm.findClass RM = some m.cls := hown
  have hl : lv_has ls 6 [(0, .ref (A 0)), (1, .int (nI w2)), (2, .long k2)] := hl
  refine lv_iload_n hx hb dM_call_0 rfl (lv_at hl 1 rfl) ?_
  refine lv_i2l hx hb dM_call_1 (nI_l (by omega)) ?_
  refine lv_iconst (v := nI 0) hx hb dM_call_2 (by decide) ?_
  refine lv_iconst (v := nI 2) hx hb dM_call_3 (by decide) ?_
  refine zAfti (wa := []) (w := []) (wb := (mW A C ops nums vals st ce pk pv n vc sp d pr tk th tr)) (zRunS (wa := []) (w := []) (wb := (mW A C ops nums vals st ce pk pv n vc sp d pr tk th tr)) ⟨hx, hb, hml, hown, hw⟩ (c_in l D _ (lN w2) 0 2 (by decide) (by decide)) wm_M_36 wt_M_in wn_M wc_M_in ⟨rfl, rfl⟩ wd_M_in ⟨by decide, by decide⟩ (hK.sub [] rfl) hP hD hl.1 rfl (Nat.le_of_ble_eq_true rfl) dM_call_4 ⟨by decide, by decide⟩) hP hD hS hA (fun r u H locs hp hP hD hS => ?_)
  replace hP : va_P D vwCl (mW A C ops nums vals st ce pk pv n vc sp d pr tk th tr) H := hP
  replace hD : va_D F (mW A C ops nums vals st ce pk pv n vc sp d pr tk th tr) := hD
  obtain ⟨rfl, -⟩ : r = nI 1 ∧ True := ⟨hp.elim (fun z => z.1) (fun z => absurd ⟨(lN_le (by decide) (by omega)).mpr (by omega), (lN_le (by omega) (by decide)).mpr (by omega)⟩ z.2), trivial⟩
  refine lv_istore hx hb dM_call_7 hl (by decide) rfl (fun ls hl => ?_)
  have hl : lv_has ls 6 [(4, .int (nI 1)), (0, .ref (A 0)), (1, .int (nI w2)), (2, .long k2)] := hl
  refine lv_iconst (v := nI 0) hx hb dM_call_9 (by decide) ?_
  refine lv_istore hx hb dM_call_10 hl (by decide) rfl (fun ls hl => ?_)
  have hl : lv_has ls 6 [(5, .int (nI 0)), (4, .int (nI 1)), (0, .ref (A 0)), (1, .int (nI w2)), (2, .long k2)] := hl
  refine mcl (b0 := 1) hx hb hr hlk hml hw hown hK hA hn hP hD hS (fun b ls hb1 hinv hl => ?_) n 0 1 _ (by omega) (by omega) ⟨fun z => ⟨z, fun j hj => absurd hj (by omega)⟩, fun z => z.1⟩ (lv_sub hl [0, 1, 2, 3, 4] rfl)
  have e9 : b = 1 := hinv.mpr ⟨rfl, hg⟩
  subst e9
  refine lv_aload_n hx hb dM_call_70 rfl (lv_at hl 1 rfl) ?_
  refine lv_iload hx hb dM_call_71 (lv_at hl 0 rfl) ?_
  refine zi_eq (tgt := 80) hx hb dM_call_73 rfl (by omega) (fun q => absurd q (by omega)) (fun _ => ?_)
  refine lv_iconst (v := nI 0) hx hb dM_call_76 (by decide) ?_
  refine lv_goto (tgt := 81) hx hb dM_call_77 rfl ?_
  refine zPutM hx hb hw hown hK hP hD hS 0 rfl 13 (by decide) wf_M_32 rfl rfl rfl (Nat.le_of_ble_eq_true rfl) dM_call_81 (fun H locs hP hD hS => ?_)
  replace hP : va_P D vwCl (mW A C ops nums vals st ce pk pv n vc sp d pr tk 0 tr) H := hP
  replace hD : va_D F (mW A C ops nums vals st ce pk pv n vc sp d pr tk 0 tr) := hD
  refine lv_aload_n hx hb dM_call_84 rfl (lv_at hl 1 rfl) ?_
  refine zGetM hx hb hw hown hK hP 0 rfl 13 (by decide) wf_M_32 rfl dM_call_85 ?_
  refine zi_le (tgt := 93) hx hb dM_call_88 rfl (by omega) (fun _ => ?_) (fun q => absurd q (by omega))
  refine lv_aload_n hx hb dM_call_93 rfl (lv_at hl 1 rfl) ?_
  refine lv_iconst (v := nI 0) hx hb dM_call_94 (by decide) ?_
  refine zPutM hx hb hw hown hK hP hD hS 0 rfl 9 (by decide) wf_M_46 rfl rfl rfl (Nat.le_of_ble_eq_true rfl) dM_call_95 (fun H locs hP hD hS => ?_)
  replace hP : va_P D vwCl (mW A C ops nums vals st ce pk pv n vc 0 d pr tk 0 tr) H := hP
  replace hD : va_D F (mW A C ops nums vals st ce pk pv n vc 0 d pr tk 0 tr) := hD
  refine lv_aload_n hx hb dM_call_98 rfl (lv_at hl 1 rfl) ?_
  refine lv_iconst (v := nI 0) hx hb dM_call_99 (by decide) ?_
  refine zPutM hx hb hw hown hK hP hD hS 0 rfl 10 (by decide) wf_M_49 rfl rfl rfl (Nat.le_of_ble_eq_true rfl) dM_call_100 (fun H locs hP hD hS => ?_)
  replace hP : va_P D vwCl (mW A C ops nums vals st ce pk pv n vc 0 0 pr tk 0 tr) H := hP
  replace hD : va_D F (mW A C ops nums vals st ce pk pv n vc 0 0 pr tk 0 tr) := hD
  refine lv_aload_n hx hb dM_call_103 rfl (lv_at hl 1 rfl) ?_
  refine lv_iconst (v := nI 0) hx hb dM_call_104 (by decide) ?_
  refine zPutM hx hb hw hown hK hP hD hS 0 rfl 11 (by decide) wf_M_52 rfl rfl rfl (Nat.le_of_ble_eq_true rfl) dM_call_105 (fun H locs hP hD hS => ?_)
  replace hP : va_P D vwCl (mW A C ops nums vals st ce pk pv n vc 0 0 0 tk 0 tr) H := hP
  replace hD : va_D F (mW A C ops nums vals st ce pk pv n vc 0 0 0 tk 0 tr) := hD
  refine lv_aload_n hx hb dM_call_108 rfl (lv_at hl 1 rfl) ?_
  refine lv_iconst (v := nI 0) hx hb dM_call_109 (by decide) ?_
  refine zPutM hx hb hw hown hK hP hD hS 0 rfl 12 (by decide) wf_M_55 rfl rfl rfl (Nat.le_of_ble_eq_true rfl) dM_call_110 (fun H locs hP hD hS => ?_)
  replace hP : va_P D vwCl (mW A C ops nums vals st ce pk pv n vc 0 0 0 0 0 tr) H := hP
  replace hD : va_D F (mW A C ops nums vals st ce pk pv n vc 0 0 0 0 0 tr) := hD
  refine lv_iconst (v := nI 0) hx hb dM_call_113 (by decide) ?_
  refine lv_istore hx hb dM_call_114 hl (by decide) rfl (fun ls hl => ?_)
  have hl : lv_has ls 6 [(5, .int (nI 0)), (4, .int (nI 1)), (0, .ref (A 0)), (1, .int (nI w2)), (2, .long k2)] := hl
  refine lv_iload hx hb dM_call_116 (lv_at hl 0 rfl) ?_
  refine lv_iconst (v := nI 4) hx hb dM_call_118 (by decide) ?_
  refine zc_ge (tgt := 136) hx hb dM_call_119 rfl (by omega) (by omega) (fun q => absurd q (by omega)) (fun _ => ?_)
  refine lv_aload_n hx hb dM_call_122 rfl (lv_at hl 2 rfl) ?_
  refine zGetM hx hb hw hown hK hP 0 rfl 4 (by decide) wf_M_23 rfl dM_call_123 ?_
  refine lv_iload hx hb dM_call_126 (lv_at hl 0 rfl) ?_
  refine lv_lconst (v := 0) hx hb dM_call_128 (by decide) ?_
  refine zLast hx hb hK hP hD hS 5 4 rfl rfl (by omega) (by decide) dM_call_129 (fun H locs hP hD hS => ?_)
  replace hP : va_P D vwCl (mW A C ops nums vals st (vp_updL ce 0 (0 : Int64)) pk pv n vc 0 0 0 0 0 tr) H := hP
  replace hD : va_D F (mW A C ops nums vals st (vp_updL ce 0 (0 : Int64)) pk pv n vc 0 0 0 0 0 tr) := hD
  refine lv_iinc (k := 0) (v := nI 1) hx hb dM_call_130 hl rfl (by decide) (by decide) rfl (fun ls hl => ?_)
  have hl : lv_has ls 6 [(5, .int (nI 1)), (4, .int (nI 1)), (0, .ref (A 0)), (1, .int (nI w2)), (2, .long k2)] := hl
  refine lv_goto (tgt := 116) hx hb dM_call_133 rfl ?_
  refine lv_iload hx hb dM_call_116 (lv_at hl 0 rfl) ?_
  refine lv_iconst (v := nI 4) hx hb dM_call_118 (by decide) ?_
  refine zc_ge (tgt := 136) hx hb dM_call_119 rfl (by omega) (by omega) (fun q => absurd q (by omega)) (fun _ => ?_)
  refine lv_aload_n hx hb dM_call_122 rfl (lv_at hl 2 rfl) ?_
  refine zGetM hx hb hw hown hK hP 0 rfl 4 (by decide) wf_M_23 rfl dM_call_123 ?_
  refine lv_iload hx hb dM_call_126 (lv_at hl 0 rfl) ?_
  refine lv_lconst (v := 0) hx hb dM_call_128 (by decide) ?_
  refine zLast hx hb hK hP hD hS 5 4 rfl rfl (by omega) (by decide) dM_call_129 (fun H locs hP hD hS => ?_)
  replace hP : va_P D vwCl (mW A C ops nums vals st (vp_updL (vp_updL ce 0 (0 : Int64)) 1 (0 : Int64)) pk pv n vc 0 0 0 0 0 tr) H := hP
  replace hD : va_D F (mW A C ops nums vals st (vp_updL (vp_updL ce 0 (0 : Int64)) 1 (0 : Int64)) pk pv n vc 0 0 0 0 0 tr) := hD
  refine lv_iinc (k := 0) (v := nI 2) hx hb dM_call_130 hl rfl (by decide) (by decide) rfl (fun ls hl => ?_)
  have hl : lv_has ls 6 [(5, .int (nI 2)), (4, .int (nI 1)), (0, .ref (A 0)), (1, .int (nI w2)), (2, .long k2)] := hl
  refine lv_goto (tgt := 116) hx hb dM_call_133 rfl ?_
  refine lv_iload hx hb dM_call_116 (lv_at hl 0 rfl) ?_
  refine lv_iconst (v := nI 4) hx hb dM_call_118 (by decide) ?_
  refine zc_ge (tgt := 136) hx hb dM_call_119 rfl (by omega) (by omega) (fun q => absurd q (by omega)) (fun _ => ?_)
  refine lv_aload_n hx hb dM_call_122 rfl (lv_at hl 2 rfl) ?_
  refine zGetM hx hb hw hown hK hP 0 rfl 4 (by decide) wf_M_23 rfl dM_call_123 ?_
  refine lv_iload hx hb dM_call_126 (lv_at hl 0 rfl) ?_
  refine lv_lconst (v := 0) hx hb dM_call_128 (by decide) ?_
  refine zLast hx hb hK hP hD hS 5 4 rfl rfl (by omega) (by decide) dM_call_129 (fun H locs hP hD hS => ?_)
  replace hP : va_P D vwCl (mW A C ops nums vals st (vp_updL (vp_updL (vp_updL ce 0 (0 : Int64)) 1 (0 : Int64)) 2 (0 : Int64)) pk pv n vc 0 0 0 0 0 tr) H := hP
  replace hD : va_D F (mW A C ops nums vals st (vp_updL (vp_updL (vp_updL ce 0 (0 : Int64)) 1 (0 : Int64)) 2 (0 : Int64)) pk pv n vc 0 0 0 0 0 tr) := hD
  refine lv_iinc (k := 0) (v := nI 3) hx hb dM_call_130 hl rfl (by decide) (by decide) rfl (fun ls hl => ?_)
  have hl : lv_has ls 6 [(5, .int (nI 3)), (4, .int (nI 1)), (0, .ref (A 0)), (1, .int (nI w2)), (2, .long k2)] := hl
  refine lv_goto (tgt := 116) hx hb dM_call_133 rfl ?_
  refine lv_iload hx hb dM_call_116 (lv_at hl 0 rfl) ?_
  refine lv_iconst (v := nI 4) hx hb dM_call_118 (by decide) ?_
  refine zc_ge (tgt := 136) hx hb dM_call_119 rfl (by omega) (by omega) (fun q => absurd q (by omega)) (fun _ => ?_)
  refine lv_aload_n hx hb dM_call_122 rfl (lv_at hl 2 rfl) ?_
  refine zGetM hx hb hw hown hK hP 0 rfl 4 (by decide) wf_M_23 rfl dM_call_123 ?_
  refine lv_iload hx hb dM_call_126 (lv_at hl 0 rfl) ?_
  refine lv_lconst (v := 0) hx hb dM_call_128 (by decide) ?_
  refine zLast hx hb hK hP hD hS 5 4 rfl rfl (by omega) (by decide) dM_call_129 (fun H locs hP hD hS => ?_)
  replace hP : va_P D vwCl (mW A C ops nums vals st (vp_updL (vp_updL (vp_updL (vp_updL ce 0 (0 : Int64)) 1 (0 : Int64)) 2 (0 : Int64)) 3 (0 : Int64)) pk pv n vc 0 0 0 0 0 tr) H := hP
  replace hD : va_D F (mW A C ops nums vals st (vp_updL (vp_updL (vp_updL (vp_updL ce 0 (0 : Int64)) 1 (0 : Int64)) 2 (0 : Int64)) 3 (0 : Int64)) pk pv n vc 0 0 0 0 0 tr) := hD
  refine lv_iinc (k := 0) (v := nI 4) hx hb dM_call_130 hl rfl (by decide) (by decide) rfl (fun ls hl => ?_)
  have hl : lv_has ls 6 [(5, .int (nI 4)), (4, .int (nI 1)), (0, .ref (A 0)), (1, .int (nI w2)), (2, .long k2)] := hl
  refine lv_goto (tgt := 116) hx hb dM_call_133 rfl ?_
  refine lv_iload hx hb dM_call_116 (lv_at hl 0 rfl) ?_
  refine lv_iconst (v := nI 4) hx hb dM_call_118 (by decide) ?_
  refine zc_ge (tgt := 136) hx hb dM_call_119 rfl (by omega) (by omega) (fun _ => ?_) (fun q => absurd q (by omega))
  refine lv_aload_n hx hb dM_call_136 rfl (lv_at hl 2 rfl) ?_
  refine lv_aload_n hx hb dM_call_137 rfl (lv_at hl 2 rfl) ?_
  refine lv_iload_n hx hb dM_call_138 rfl (lv_at hl 3 rfl) ?_
  refine lv_lload_n hx hb dM_call_139 rfl (lv_at hl 4 rfl) ?_
  replace hP : va_P D vwCl (mW A C ops nums vals st (z4 ce) pk pv n vc 0 0 0 0 0 tr) H := hP
  replace hD : va_D F (mW A C ops nums vals st (z4 ce) pk pv n vc 0 0 0 0 0 tr) := hD
  refine zAfti0 (zRunV0 ⟨hx, hb, hml, hown, hw⟩ (c_isDone l D A C _ ops nums vals st (z4 ce) pk pv n vc 0 0 0 0 0 tr w2 k2 hPI hvc hw2 rfl ⟨by omega, by omega, by omega, by omega, fun _ => rfl⟩) wm_M_58 wi_M_isDone ws_M_isDone wn_M wc_M_isDone ⟨rfl, rfl⟩ wd_M_isDone ⟨by decide, by decide⟩ hK hP hD 1 rfl rfl rfl hl.1 rfl (Nat.le_of_ble_eq_true rfl) dM_call_140 ⟨by decide, by decide⟩) hP hD hS hA (fun r u H locs hp hP hD hS => ?_)
  rw [hq] at hP hD hp
  subst hp
  replace hP : va_P D vwCl (mW A C ops nums vals q.2.2.2.2.1 q.2.2.2.2.2.1 q.2.2.2.2.2.2.1 q.2.2.2.2.2.2.2.1 n vc (0 + q.1) q.2.2.2.1 q.2.2.2.2.2.2.2.2.1 q.2.2.2.2.2.2.2.2.2 0 tr) H := hP
  replace hD : va_D F (mW A C ops nums vals q.2.2.2.2.1 q.2.2.2.2.2.1 q.2.2.2.2.2.2.1 q.2.2.2.2.2.2.2.1 n vc (0 + q.1) q.2.2.2.1 q.2.2.2.2.2.2.2.2.1 q.2.2.2.2.2.2.2.2.2 0 tr) := hD
  refine zi_ne (tgt := 150) hx hb dM_call_143 rfl (by omega) (fun _ => ?_) (fun q => absurd q (by omega))
  refine lv_iconst (v := nI 0) hx hb dM_call_150 (by decide) ?_
  refine zPutM hx hb hw hown hK hP hD hS 0 rfl 14 (by decide) wf_M_62 rfl rfl rfl (Nat.le_of_ble_eq_true rfl) dM_call_151 (fun H locs hP hD hS => ?_)
  replace hP : va_P D vwCl (mW A C ops nums vals q.2.2.2.2.1 q.2.2.2.2.2.1 q.2.2.2.2.2.2.1 q.2.2.2.2.2.2.2.1 n vc (0 + q.1) q.2.2.2.1 q.2.2.2.2.2.2.2.2.1 q.2.2.2.2.2.2.2.2.2 0 0) H := hP
  replace hD : va_D F (mW A C ops nums vals q.2.2.2.2.1 q.2.2.2.2.2.1 q.2.2.2.2.2.2.1 q.2.2.2.2.2.2.2.1 n vc (0 + q.1) q.2.2.2.1 q.2.2.2.2.2.2.2.2.1 q.2.2.2.2.2.2.2.2.2 0 0) := hD
  refine lv_aload_n hx hb dM_call_154 rfl (lv_at hl 2 rfl) ?_
  refine zGetM hx hb hw hown hK hP 0 rfl 14 (by decide) wf_M_62 rfl dM_call_155 ?_
  refine zi_eq (tgt := 173) hx hb dM_call_158 rfl (by omega) (fun _ => ?_) (fun q => absurd q (by omega))
  refine lv_aload_n hx hb dM_call_173 rfl (lv_at hl 2 rfl) ?_
  refine zGetM hx hb hw hown hK hP 0 rfl 11 (by decide) wf_M_52 rfl dM_call_174 ?_
  exact zIret (w' := fun (_ : Unit) => (mW A C ops nums vals q.2.2.2.2.1 q.2.2.2.2.2.1 q.2.2.2.2.2.2.1 q.2.2.2.2.2.2.2.1 n vc (0 + q.1) q.2.2.2.1 q.2.2.2.2.2.2.2.2.1 q.2.2.2.2.2.2.2.2.2 0 0)) () hx hb hr hlk hS hK rfl hP hD dM_call_177

set_option maxRecDepth 20000 in
set_option maxHeartbeats 4000000 in
theorem c_M_call_trap (l : Launch) (D : va_G) (A : Nat → Nat) (C : Nat → ClassId) (sz : Nat) (ops : Nat → Int32) (nums : Nat → Int64) (vals : Nat → Int64) (st : Nat → Int64) (ce : Nat → Int64) (pk : Nat → Int64) (pv : Nat → Int64) (n : Nat) (vc : Nat) (sp : Nat) (d : Nat) (pr : Nat) (tk : Nat) (th : Nat) (tr : Nat) (w2 : Nat) (k2 : Int64) (q : Nat × Nat × RS) (hw2 : w2 ≤ 2) (hvc : vc ≤ 40) (hPI : PI n ops nums) (hn : n ≤ 40) (hg : ¬ gBP n ops nums) (hq : runR n vc vals w2 k2 ops nums 400 (0, 0, st, z4 ce, pk, pv, 0, 0) = q) (ht : q.2.1 = 1) : Met l yM_call (.code yM_call cM_call 6 (some .int) :: WS) (rmk 1 33) (va_Pc [.ref (A 0), .int (nI w2), .long k2] (zP D (mT C) sz (mW A C ops nums vals st ce pk pv n vc sp d pr tk th tr))) (va_Qi (fun (r : Int32) (_ : Unit) => r = nI 0) (fun (_ : Unit) t => zB D (mT C) (va_A (mW A C ops nums vals st ce pk pv n vc sp d pr tk th tr) sz) (mW A C ops nums vals q.2.2.2.2.1 q.2.2.2.2.2.1 q.2.2.2.2.2.2.1 q.2.2.2.2.2.2.2.1 n vc (0 + q.1) 0 q.2.2.2.2.2.2.2.2.1 q.2.2.2.2.2.2.2.2.2 2 1) t) (va_A (mW A C ops nums vals st ce pk pv n vc sp d pr tk th tr) sz)) 0 0 (va_A (mW A C ops nums vals st ce pk pv n vc sp d pr tk th tr) sz) := by
  refine zEnt (Qc := fun F => (va_Qi (fun (r : Int32) (_ : Unit) => r = nI 0) (fun (_ : Unit) t => zB D (mT C) F (mW A C ops nums vals q.2.2.2.2.1 q.2.2.2.2.2.1 q.2.2.2.2.2.2.1 q.2.2.2.2.2.2.2.1 n vc (0 + q.1) 0 q.2.2.2.2.2.2.2.2.1 q.2.2.2.2.2.2.2.2.2 2 1) t) F)) (by decide) (Nat.le_of_ble_eq_true rfl) (fun p e s m below meth c ls F hx hb hr hlk hml hnm hw hown hsz hP hK hD hA hl => ?_)
  have hS : va_S F s.heap s.heap [] := va_S.rf
  have hown : s.vm.findClass RM = some m.cls := hown
  have hl : lv_has ls 6 [(0, .ref (A 0)), (1, .int (nI w2)), (2, .long k2)] := hl
  refine lv_iload_n hx hb dM_call_0 rfl (lv_at hl 1 rfl) ?_
  refine lv_i2l hx hb dM_call_1 (nI_l (by omega)) ?_
  refine lv_iconst (v := nI 0) hx hb dM_call_2 (by decide) ?_
  refine lv_iconst (v := nI 2) hx hb dM_call_3 (by decide) ?_
  refine zAfti (wa := []) (w := []) (wb := (mW A C ops nums vals st ce pk pv n vc sp d pr tk th tr)) (zRunS (wa := []) (w := []) (wb := (mW A C ops nums vals st ce pk pv n vc sp d pr tk th tr)) ⟨hx, hb, hml, hown, hw⟩ (c_in l D _ (lN w2) 0 2 (by decide) (by decide)) wm_M_36 wt_M_in wn_M wc_M_in ⟨rfl, rfl⟩ wd_M_in ⟨by decide, by decide⟩ (hK.sub [] rfl) hP hD hl.1 rfl (Nat.le_of_ble_eq_true rfl) dM_call_4 ⟨by decide, by decide⟩) hP hD hS hA (fun r u H locs hp hP hD hS => ?_)
  replace hP : va_P D vwCl (mW A C ops nums vals st ce pk pv n vc sp d pr tk th tr) H := hP
  replace hD : va_D F (mW A C ops nums vals st ce pk pv n vc sp d pr tk th tr) := hD
  obtain ⟨rfl, -⟩ : r = nI 1 ∧ True := ⟨hp.elim (fun z => z.1) (fun z => absurd ⟨(lN_le (by decide) (by omega)).mpr (by omega), (lN_le (by omega) (by decide)).mpr (by omega)⟩ z.2), trivial⟩
  refine lv_istore hx hb dM_call_7 hl (by decide) rfl (fun ls hl => ?_)
  have hl : lv_has ls 6 [(4, .int (nI 1)), (0, .ref (A 0)), (1, .int (nI w2)), (2, .long k2)] := hl
  refine lv_iconst (v := nI 0) hx hb dM_call_9 (by decide) ?_
  refine lv_istore hx hb dM_call_10 hl (by decide) rfl (fun ls hl => ?_)
  have hl : lv_has ls 6 [(5, .int (nI 0)), (4, .int (nI 1)), (0, .ref (A 0)), (1, .int (nI w2)), (2, .long k2)] := hl
  refine mcl (b0 := 1) hx hb hr hlk hml hw hown hK hA hn hP hD hS (fun b ls hb1 hinv hl => ?_) n 0 1 _ (by omega) (by omega) ⟨fun z => ⟨z, fun j hj => absurd hj (by omega)⟩, fun z => z.1⟩ (lv_sub hl [0, 1, 2, 3, 4] rfl)
  have e9 : b = 1 := hinv.mpr ⟨rfl, hg⟩
  subst e9
  refine lv_aload_n hx hb dM_call_70 rfl (lv_at hl 1 rfl) ?_
  refine lv_iload hx hb dM_call_71 (lv_at hl 0 rfl) ?_
  refine zi_eq (tgt := 80) hx hb dM_call_73 rfl (by omega) (fun q => absurd q (by omega)) (fun _ => ?_)
  refine lv_iconst (v := nI 0) hx hb dM_call_76 (by decide) ?_
  refine lv_goto (tgt := 81) hx hb dM_call_77 rfl ?_
  refine zPutM hx hb hw hown hK hP hD hS 0 rfl 13 (by decide) wf_M_32 rfl rfl rfl (Nat.le_of_ble_eq_true rfl) dM_call_81 (fun H locs hP hD hS => ?_)
  replace hP : va_P D vwCl (mW A C ops nums vals st ce pk pv n vc sp d pr tk 0 tr) H := hP
  replace hD : va_D F (mW A C ops nums vals st ce pk pv n vc sp d pr tk 0 tr) := hD
  refine lv_aload_n hx hb dM_call_84 rfl (lv_at hl 1 rfl) ?_
  refine zGetM hx hb hw hown hK hP 0 rfl 13 (by decide) wf_M_32 rfl dM_call_85 ?_
  refine zi_le (tgt := 93) hx hb dM_call_88 rfl (by omega) (fun _ => ?_) (fun q => absurd q (by omega))
  refine lv_aload_n hx hb dM_call_93 rfl (lv_at hl 1 rfl) ?_
  refine lv_iconst (v := nI 0) hx hb dM_call_94 (by decide) ?_
  refine zPutM hx hb hw hown hK hP hD hS 0 rfl 9 (by decide) wf_M_46 rfl rfl rfl (Nat.le_of_ble_eq_true rfl) dM_call_95 (fun H locs hP hD hS => ?_)
  replace hP : va_P D vwCl (mW A C ops nums vals st ce pk pv n vc 0 d pr tk 0 tr) H := hP
  replace hD : va_D F (mW A C ops nums vals st ce pk pv n vc 0 d pr tk 0 tr) := hD
  refine lv_aload_n hx hb dM_call_98 rfl (lv_at hl 1 rfl) ?_
  refine lv_iconst (v := nI 0) hx hb dM_call_99 (by decide) ?_
  refine zPutM hx hb hw hown hK hP hD hS 0 rfl 10 (by decide) wf_M_49 rfl rfl rfl (Nat.le_of_ble_eq_true rfl) dM_call_100 (fun H locs hP hD hS => ?_)
  replace hP : va_P D vwCl (mW A C ops nums vals st ce pk pv n vc 0 0 pr tk 0 tr) H := hP
  replace hD : va_D F (mW A C ops nums vals st ce pk pv n vc 0 0 pr tk 0 tr) := hD
  refine lv_aload_n hx hb dM_call_103 rfl (lv_at hl 1 rfl) ?_
  refine lv_iconst (v := nI 0) hx hb dM_call_104 (by decide) ?_
  refine zPutM hx hb hw hown hK hP hD hS 0 rfl 11 (by decide) wf_M_52 rfl rfl rfl (Nat.le_of_ble_eq_true rfl) dM_call_105 (fun H locs hP hD hS => ?_)
  replace hP : va_P D vwCl (mW A C ops nums vals st ce pk pv n vc 0 0 0 tk 0 tr) H := hP
  replace hD : va_D F (mW A C ops nums vals st ce pk pv n vc 0 0 0 tk 0 tr) := hD
  refine lv_aload_n hx hb dM_call_108 rfl (lv_at hl 1 rfl) ?_
  refine lv_iconst (v := nI 0) hx hb dM_call_109 (by decide) ?_
  refine zPutM hx hb hw hown hK hP hD hS 0 rfl 12 (by decide) wf_M_55 rfl rfl rfl (Nat.le_of_ble_eq_true rfl) dM_call_110 (fun H locs hP hD hS => ?_)
  replace hP : va_P D vwCl (mW A C ops nums vals st ce pk pv n vc 0 0 0 0 0 tr) H := hP
  replace hD : va_D F (mW A C ops nums vals st ce pk pv n vc 0 0 0 0 0 tr) := hD
  refine lv_iconst (v := nI 0) hx hb dM_call_113 (by decide) ?_
  refine lv_istore hx hb dM_call_114 hl (by decide) rfl (fun ls hl => ?_)
  have hl : lv_has ls 6 [(5, .int (nI 0)), (4, .int (nI 1)), (0, .ref (A 0)), (1, .int (nI w2)), (2, .long k2)] := hl
  refine lv_iload hx hb dM_call_116 (lv_at hl 0 rfl) ?_
  refine lv_iconst (v := nI 4) hx hb dM_call_118 (by decide) ?_
  refine zc_ge (tgt := 136) hx hb dM_call_119 rfl (by omega) (by omega) (fun q => absurd q (by omega)) (fun _ => ?_)
  refine lv_aload_n hx hb dM_call_122 rfl (lv_at hl 2 rfl) ?_
  refine zGetM hx hb hw hown hK hP 0 rfl 4 (by decide) wf_M_23 rfl dM_call_123 ?_
  refine lv_iload hx hb dM_call_126 (lv_at hl 0 rfl) ?_
  refine lv_lconst (v := 0) hx hb dM_call_128 (by decide) ?_
  refine zLast hx hb hK hP hD hS 5 4 rfl rfl (by omega) (by decide) dM_call_129 (fun H locs hP hD hS => ?_)
  replace hP : va_P D vwCl (mW A C ops nums vals st (vp_updL ce 0 (0 : Int64)) pk pv n vc 0 0 0 0 0 tr) H := hP
  replace hD : va_D F (mW A C ops nums vals st (vp_updL ce 0 (0 : Int64)) pk pv n vc 0 0 0 0 0 tr) := hD
  refine lv_iinc (k := 0) (v := nI 1) hx hb dM_call_130 hl rfl (by decide) (by decide) rfl (fun ls hl => ?_)
  have hl : lv_has ls 6 [(5, .int (nI 1)), (4, .int (nI 1)), (0, .ref (A 0)), (1, .int (nI w2)), (2, .long k2)] := hl
  refine lv_goto (tgt := 116) hx hb dM_call_133 rfl ?_
  refine lv_iload hx hb dM_call_116 (lv_at hl 0 rfl) ?_
  refine lv_iconst (v := nI 4) hx hb dM_call_118 (by decide) ?_
  refine zc_ge (tgt := 136) hx hb dM_call_119 rfl (by omega) (by omega) (fun q => absurd q (by omega)) (fun _ => ?_)
  refine lv_aload_n hx hb dM_call_122 rfl (lv_at hl 2 rfl) ?_
  refine zGetM hx hb hw hown hK hP 0 rfl 4 (by decide) wf_M_23 rfl dM_call_123 ?_
  refine lv_iload hx hb dM_call_126 (lv_at hl 0 rfl) ?_
  refine lv_lconst (v := 0) hx hb dM_call_128 (by decide) ?_
  refine zLast hx hb hK hP hD hS 5 4 rfl rfl (by omega) (by decide) dM_call_129 (fun H locs hP hD hS => ?_)
  replace hP : va_P D vwCl (mW A C ops nums vals st (vp_updL (vp_updL ce 0 (0 : Int64)) 1 (0 : Int64)) pk pv n vc 0 0 0 0 0 tr) H := hP
  replace hD : va_D F (mW A C ops nums vals st (vp_updL (vp_updL ce 0 (0 : Int64)) 1 (0 : Int64)) pk pv n vc 0 0 0 0 0 tr) := hD
  refine lv_iinc (k := 0) (v := nI 2) hx hb dM_call_130 hl rfl (by decide) (by decide) rfl (fun ls hl => ?_)
  have hl : lv_has ls 6 [(5, .int (nI 2)), (4, .int (nI 1)), (0, .ref (A 0)), (1, .int (nI w2)), (2, .long k2)] := hl
  refine lv_goto (tgt := 116) hx hb dM_call_133 rfl ?_
  refine lv_iload hx hb dM_call_116 (lv_at hl 0 rfl) ?_
  refine lv_iconst (v := nI 4) hx hb dM_call_118 (by decide) ?_
  refine zc_ge (tgt := 136) hx hb dM_call_119 rfl (by omega) (by omega) (fun q => absurd q (by omega)) (fun _ => ?_)
  refine lv_aload_n hx hb dM_call_122 rfl (lv_at hl 2 rfl) ?_
  refine zGetM hx hb hw hown hK hP 0 rfl 4 (by decide) wf_M_23 rfl dM_call_123 ?_
  refine lv_iload hx hb dM_call_126 (lv_at hl 0 rfl) ?_
  refine lv_lconst (v := 0) hx hb dM_call_128 (by decide) ?_
  refine zLast hx hb hK hP hD hS 5 4 rfl rfl (by omega) (by decide) dM_call_129 (fun H locs hP hD hS => ?_)
  replace hP : va_P D vwCl (mW A C ops nums vals st (vp_updL (vp_updL (vp_updL ce 0 (0 : Int64)) 1 (0 : Int64)) 2 (0 : Int64)) pk pv n vc 0 0 0 0 0 tr) H := hP
  replace hD : va_D F (mW A C ops nums vals st (vp_updL (vp_updL (vp_updL ce 0 (0 : Int64)) 1 (0 : Int64)) 2 (0 : Int64)) pk pv n vc 0 0 0 0 0 tr) := hD
  refine lv_iinc (k := 0) (v := nI 3) hx hb dM_call_130 hl rfl (by decide) (by decide) rfl (fun ls hl => ?_)
  have hl : lv_has ls 6 [(5, .int (nI 3)), (4, .int (nI 1)), (0, .ref (A 0)), (1, .int (nI w2)), (2, .long k2)] := hl
  refine lv_goto (tgt := 116) hx hb dM_call_133 rfl ?_
  refine lv_iload hx hb dM_call_116 (lv_at hl 0 rfl) ?_
  refine lv_iconst (v := nI 4) hx hb dM_call_118 (by decide) ?_
  refine zc_ge (tgt := 136) hx hb dM_call_119 rfl (by omega) (by omega) (fun q => absurd q (by omega)) (fun _ => ?_)
  refine lv_aload_n hx hb dM_call_122 rfl (lv_at hl 2 rfl) ?_
  refine zGetM hx hb hw hown hK hP 0 rfl 4 (by decide) wf_M_23 rfl dM_call_123 ?_
  refine lv_iload hx hb dM_call_126 (lv_at hl 0 rfl) ?_
  refine lv_lconst (v := 0) hx hb dM_call_128 (by decide) ?_
  refine zLast hx hb hK hP hD hS 5 4 rfl rfl (by omega) (by decide) dM_call_129 (fun H locs hP hD hS => ?_)
  replace hP : va_P D vwCl (mW A C ops nums vals st (vp_updL (vp_updL (vp_updL (vp_updL ce 0 (0 : Int64)) 1 (0 : Int64)) 2 (0 : Int64)) 3 (0 : Int64)) pk pv n vc 0 0 0 0 0 tr) H := hP
  replace hD : va_D F (mW A C ops nums vals st (vp_updL (vp_updL (vp_updL (vp_updL ce 0 (0 : Int64)) 1 (0 : Int64)) 2 (0 : Int64)) 3 (0 : Int64)) pk pv n vc 0 0 0 0 0 tr) := hD
  refine lv_iinc (k := 0) (v := nI 4) hx hb dM_call_130 hl rfl (by decide) (by decide) rfl (fun ls hl => ?_)
  have hl : lv_has ls 6 [(5, .int (nI 4)), (4, .int (nI 1)), (0, .ref (A 0)), (1, .int (nI w2)), (2, .long k2)] := hl
  refine lv_goto (tgt := 116) hx hb dM_call_133 rfl ?_
  refine lv_iload hx hb dM_call_116 (lv_at hl 0 rfl) ?_
  refine lv_iconst (v := nI 4) hx hb dM_call_118 (by decide) ?_
  refine zc_ge (tgt := 136) hx hb dM_call_119 rfl (by omega) (by omega) (fun _ => ?_) (fun q => absurd q (by omega))
  refine lv_aload_n hx hb dM_call_136 rfl (lv_at hl 2 rfl) ?_
  refine lv_aload_n hx hb dM_call_137 rfl (lv_at hl 2 rfl) ?_
  refine lv_iload_n hx hb dM_call_138 rfl (lv_at hl 3 rfl) ?_
  refine lv_lload_n hx hb dM_call_139 rfl (lv_at hl 4 rfl) ?_
  replace hP : va_P D vwCl (mW A C ops nums vals st (z4 ce) pk pv n vc 0 0 0 0 0 tr) H := hP
  replace hD : va_D F (mW A C ops nums vals st (z4 ce) pk pv n vc 0 0 0 0 0 tr) := hD
  refine zAfti0 (zRunV0 ⟨hx, hb, hml, hown, hw⟩ (c_isDone l D A C _ ops nums vals st (z4 ce) pk pv n vc 0 0 0 0 0 tr w2 k2 hPI hvc hw2 rfl ⟨by omega, by omega, by omega, by omega, fun _ => rfl⟩) wm_M_58 wi_M_isDone ws_M_isDone wn_M wc_M_isDone ⟨rfl, rfl⟩ wd_M_isDone ⟨by decide, by decide⟩ hK hP hD 1 rfl rfl rfl hl.1 rfl (Nat.le_of_ble_eq_true rfl) dM_call_140 ⟨by decide, by decide⟩) hP hD hS hA (fun r u H locs hp hP hD hS => ?_)
  rw [hq] at hP hD hp
  subst hp
  replace hP : va_P D vwCl (mW A C ops nums vals q.2.2.2.2.1 q.2.2.2.2.2.1 q.2.2.2.2.2.2.1 q.2.2.2.2.2.2.2.1 n vc (0 + q.1) q.2.2.2.1 q.2.2.2.2.2.2.2.2.1 q.2.2.2.2.2.2.2.2.2 0 tr) H := hP
  replace hD : va_D F (mW A C ops nums vals q.2.2.2.2.1 q.2.2.2.2.2.1 q.2.2.2.2.2.2.1 q.2.2.2.2.2.2.2.1 n vc (0 + q.1) q.2.2.2.1 q.2.2.2.2.2.2.2.2.1 q.2.2.2.2.2.2.2.2.2 0 tr) := hD
  refine zi_ne (tgt := 150) hx hb dM_call_143 rfl (by omega) (fun q => absurd q (by omega)) (fun _ => ?_)
  refine lv_iconst (v := nI 1) hx hb dM_call_146 (by decide) ?_
  refine lv_goto (tgt := 151) hx hb dM_call_147 rfl ?_
  refine zPutM hx hb hw hown hK hP hD hS 0 rfl 14 (by decide) wf_M_62 rfl rfl rfl (Nat.le_of_ble_eq_true rfl) dM_call_151 (fun H locs hP hD hS => ?_)
  replace hP : va_P D vwCl (mW A C ops nums vals q.2.2.2.2.1 q.2.2.2.2.2.1 q.2.2.2.2.2.2.1 q.2.2.2.2.2.2.2.1 n vc (0 + q.1) q.2.2.2.1 q.2.2.2.2.2.2.2.2.1 q.2.2.2.2.2.2.2.2.2 0 1) H := hP
  replace hD : va_D F (mW A C ops nums vals q.2.2.2.2.1 q.2.2.2.2.2.1 q.2.2.2.2.2.2.1 q.2.2.2.2.2.2.2.1 n vc (0 + q.1) q.2.2.2.1 q.2.2.2.2.2.2.2.2.1 q.2.2.2.2.2.2.2.2.2 0 1) := hD
  refine lv_aload_n hx hb dM_call_154 rfl (lv_at hl 2 rfl) ?_
  refine zGetM hx hb hw hown hK hP 0 rfl 14 (by decide) wf_M_62 rfl dM_call_155 ?_
  refine zi_eq (tgt := 173) hx hb dM_call_158 rfl (by omega) (fun q => absurd q (by omega)) (fun _ => ?_)
  refine lv_aload_n hx hb dM_call_161 rfl (lv_at hl 2 rfl) ?_
  refine lv_iconst (v := nI 0) hx hb dM_call_162 (by decide) ?_
  refine zPutM hx hb hw hown hK hP hD hS 0 rfl 10 (by decide) wf_M_49 rfl rfl rfl (Nat.le_of_ble_eq_true rfl) dM_call_163 (fun H locs hP hD hS => ?_)
  replace hP : va_P D vwCl (mW A C ops nums vals q.2.2.2.2.1 q.2.2.2.2.2.1 q.2.2.2.2.2.2.1 q.2.2.2.2.2.2.2.1 n vc (0 + q.1) 0 q.2.2.2.2.2.2.2.2.1 q.2.2.2.2.2.2.2.2.2 0 1) H := hP
  replace hD : va_D F (mW A C ops nums vals q.2.2.2.2.1 q.2.2.2.2.2.1 q.2.2.2.2.2.2.1 q.2.2.2.2.2.2.2.1 n vc (0 + q.1) 0 q.2.2.2.2.2.2.2.2.1 q.2.2.2.2.2.2.2.2.2 0 1) := hD
  refine lv_aload_n hx hb dM_call_166 rfl (lv_at hl 2 rfl) ?_
  refine lv_iconst (v := nI 2) hx hb dM_call_167 (by decide) ?_
  refine zPutM hx hb hw hown hK hP hD hS 0 rfl 13 (by decide) wf_M_32 rfl rfl rfl (Nat.le_of_ble_eq_true rfl) dM_call_168 (fun H locs hP hD hS => ?_)
  replace hP : va_P D vwCl (mW A C ops nums vals q.2.2.2.2.1 q.2.2.2.2.2.1 q.2.2.2.2.2.2.1 q.2.2.2.2.2.2.2.1 n vc (0 + q.1) 0 q.2.2.2.2.2.2.2.2.1 q.2.2.2.2.2.2.2.2.2 2 1) H := hP
  replace hD : va_D F (mW A C ops nums vals q.2.2.2.2.1 q.2.2.2.2.2.1 q.2.2.2.2.2.2.1 q.2.2.2.2.2.2.2.1 n vc (0 + q.1) 0 q.2.2.2.2.2.2.2.2.1 q.2.2.2.2.2.2.2.2.2 2 1) := hD
  refine lv_iconst (v := nI 0) hx hb dM_call_171 (by decide) ?_
  exact zIret (w' := fun (_ : Unit) => (mW A C ops nums vals q.2.2.2.2.1 q.2.2.2.2.2.1 q.2.2.2.2.2.2.1 q.2.2.2.2.2.2.2.1 n vc (0 + q.1) 0 q.2.2.2.2.2.2.2.2.1 q.2.2.2.2.2.2.2.2.2 2 1)) () hx hb hr hlk hS hK rfl hP hD dM_call_172

