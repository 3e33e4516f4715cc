/-! EmitDesk: begin, goesBehindEnd, isInstruction -/
def z4 (ce : Nat → Int64) : Nat → Int64 := vp_updL (vp_updL (vp_updL (vp_updL ce 0 0) 1 0) 2 0) 3 0
/-- some INSTRUCTION goes behind the PROGRAM's end -/
def gBP (n : Nat) (ops : Nat → Int32) (nums : Nat → Int64) : Prop := ∃ i, i < n ∧ (ops i = nI 15 ∨ ops i = nI 16) ∧ lN n < nums i
/-- what code lets in, as the class asks it -/
def okC (o : Int32) (x : Int64) : Prop := ¬ o < 0 ∧ o ≤ nI 18 ∧ (o = nI 4 ∨ o = nI 5 → ¬ x < 0 ∧ ¬ 4 ≤ x) ∧ (o = nI 15 ∨ o = nI 16 → ¬ x < 0 ∧ ¬ 40 < x)

set_option maxRecDepth 20000 in
set_option maxHeartbeats 4000000 in
theorem c_begin (l : Launch) (D : va_G) (A : Nat → Nat) (C : Nat → ClassId) (sz : Nat) (n : Nat) (ops : Nat → Int32) (nums : Nat → Int64) (vc : Nat) (vals : Nat → Int64) (d : Nat) (st : Nat → Int64) (ce : Nat → Int64) (pk : Nat → Int64) (pv : Nat → Int64) (pr : Nat) (w : Nat) (key : Int64) (pl : Nat) (dn : Nat) (tk : Nat) (tr : Nat) (w2 : Nat) (k2 : Int64) : Met l yE_begin (.code yE_begin cE_begin 5 none :: WS) (rmk 0 0) (va_Pc [.ref (A 0), .int (nI w2), .long k2] (zP D (eT C) sz (eW A C n ops nums vc vals d st ce pk pv pr w key pl dn tk tr))) (va_Qv (fun _ : Unit => True) (fun (_ : Unit) t => zB D (eT C) (va_A (eW A C n ops nums vc vals d st ce pk pv pr w key pl dn tk tr) sz) (eW A C n ops nums vc vals 0 st (z4 ce) pk pv 0 w2 k2 0 0 0 0) t) (va_A (eW A C n ops nums vc vals d st ce pk pv pr w key pl dn tk tr) sz)) 0 0 (va_A (eW A C n ops nums vc vals d st ce pk pv pr w key pl dn tk tr) sz) := by
  refine zEnt (Qc := fun F => (va_Qv (fun _ : Unit => True) (fun (_ : Unit) t => zB D (eT C) F (eW A C n ops nums vc vals 0 st (z4 ce) pk pv 0 w2 k2 0 0 0 0) t) F)) (by decide) (Nat.le_of_ble_eq_true rfl) (fun p e s m below meth c ls F hx hb hr hlk hml hnm hw hown hsz hP hK hD hA hl => ?_)
  have hS : va_S F s.heap s.heap [] := va_S.rf
  have hown : s.vm.findClass RE = some m.cls := hown
  have hl : lv_has ls 5 [(0, .ref (A 0)), (1, .int (nI w2)), (2, .long k2)] := hl
  refine lv_aload_n hx hb dE_begin_0 rfl (lv_at hl 0 rfl) ?_
  refine lv_iload_n hx hb dE_begin_1 rfl (lv_at hl 1 rfl) ?_
  refine zPutE hx hb hw hown hK hP hD hS 0 rfl 11 (by decide) wf_E_106 rfl rfl rfl (Nat.le_of_ble_eq_true rfl) dE_begin_2 (fun H locs hP hD hS => ?_)
  replace hP : va_P D vwCl (eW A C n ops nums vc vals d st ce pk pv pr w2 key pl dn tk tr) H := hP
  replace hD : va_D F (eW A C n ops nums vc vals d st ce pk pv pr w2 key pl dn tk tr) := hD
  refine lv_aload_n hx hb dE_begin_5 rfl (lv_at hl 0 rfl) ?_
  refine lv_lload_n hx hb dE_begin_6 rfl (lv_at hl 2 rfl) ?_
  refine zPutE hx hb hw hown hK hP hD hS 0 rfl 12 (by decide) wf_E_109 rfl rfl rfl (Nat.le_of_ble_eq_true rfl) dE_begin_7 (fun H locs hP hD hS => ?_)
  replace hP : va_P D vwCl (eW A C n ops nums vc vals d st ce pk pv pr w2 k2 pl dn tk tr) H := hP
  replace hD : va_D F (eW A C n ops nums vc vals d st ce pk pv pr w2 k2 pl dn tk tr) := hD
  refine lv_aload_n hx hb dE_begin_10 rfl (lv_at hl 0 rfl) ?_
  refine lv_iconst (v := nI 0) hx hb dE_begin_11 (by decide) ?_
  refine zPutE hx hb hw hown hK hP hD hS 0 rfl 6 (by decide) wf_E_92 rfl rfl rfl (Nat.le_of_ble_eq_true rfl) dE_begin_12 (fun H locs hP hD hS => ?_)
  replace hP : va_P D vwCl (eW A C n ops nums vc vals 0 st ce pk pv pr w2 k2 pl dn tk tr) H := hP
  replace hD : va_D F (eW A C n ops nums vc vals 0 st ce pk pv pr w2 k2 pl dn tk tr) := hD
  refine lv_aload_n hx hb dE_begin_15 rfl (lv_at hl 0 rfl) ?_
  refine lv_iconst (v := nI 0) hx hb dE_begin_16 (by decide) ?_
  refine zPutE hx hb hw hown hK hP hD hS 0 rfl 10 (by decide) wf_E_81 rfl rfl rfl (Nat.le_of_ble_eq_true rfl) dE_begin_17 (fun H locs hP hD hS => ?_)
  replace hP : va_P D vwCl (eW A C n ops nums vc vals 0 st ce pk pv 0 w2 k2 pl dn tk tr) H := hP
  replace hD : va_D F (eW A C n ops nums vc vals 0 st ce pk pv 0 w2 k2 pl dn tk tr) := hD
  refine lv_aload_n hx hb dE_begin_20 rfl (lv_at hl 0 rfl) ?_
  refine lv_iconst (v := nI 0) hx hb dE_begin_21 (by decide) ?_
  refine zPutE hx hb hw hown hK hP hD hS 0 rfl 13 (by decide) wf_E_113 rfl rfl rfl (Nat.le_of_ble_eq_true rfl) dE_begin_22 (fun H locs hP hD hS => ?_)
  replace hP : va_P D vwCl (eW A C n ops nums vc vals 0 st ce pk pv 0 w2 k2 0 dn tk tr) H := hP
  replace hD : va_D F (eW A C n ops nums vc vals 0 st ce pk pv 0 w2 k2 0 dn tk tr) := hD
  refine lv_aload_n hx hb dE_begin_25 rfl (lv_at hl 0 rfl) ?_
  refine lv_iconst (v := nI 0) hx hb dE_begin_26 (by decide) ?_
  refine zPutE hx hb hw hown hK hP hD hS 0 rfl 14 (by decide) wf_E_89 rfl rfl rfl (Nat.le_of_ble_eq_true rfl) dE_begin_27 (fun H locs hP hD hS => ?_)
  replace hP : va_P D vwCl (eW A C n ops nums vc vals 0 st ce pk pv 0 w2 k2 0 0 tk tr) H := hP
  replace hD : va_D F (eW A C n ops nums vc vals 0 st ce pk pv 0 w2 k2 0 0 tk tr) := hD
  refine lv_aload_n hx hb dE_begin_30 rfl (lv_at hl 0 rfl) ?_
  refine lv_iconst (v := nI 0) hx hb dE_begin_31 (by decide) ?_
  refine zPutE hx hb hw hown hK hP hD hS 0 rfl 15 (by decide) wf_E_95 rfl rfl rfl (Nat.le_of_ble_eq_true rfl) dE_begin_32 (fun H locs hP hD hS => ?_)
  replace hP : va_P D vwCl (eW A C n ops nums vc vals 0 st ce pk pv 0 w2 k2 0 0 0 tr) H := hP
  replace hD : va_D F (eW A C n ops nums vc vals 0 st ce pk pv 0 w2 k2 0 0 0 tr) := hD
  refine lv_aload_n hx hb dE_begin_35 rfl (lv_at hl 0 rfl) ?_
  refine lv_iconst (v := nI 0) hx hb dE_begin_36 (by decide) ?_
  refine zPutE hx hb hw hown hK hP hD hS 0 rfl 16 (by decide) wf_E_72 rfl rfl rfl (Nat.le_of_ble_eq_true rfl) dE_begin_37 (fun H locs hP hD hS => ?_)
  replace hP : va_P D vwCl (eW A C n ops nums vc vals 0 st ce pk pv 0 w2 k2 0 0 0 0) H := hP
  replace hD : va_D F (eW A C n ops nums vc vals 0 st ce pk pv 0 w2 k2 0 0 0 0) := hD
  refine lv_iconst (v := nI 0) hx hb dE_begin_40 (by decide) ?_
  refine lv_istore hx hb dE_begin_41 hl (by decide) rfl (fun ls hl => ?_)
  have hl : lv_has ls 5 [(4, .int (nI 0)), (0, .ref (A 0)), (1, .int (nI w2)), (2, .long k2)] := hl
  refine lv_iload hx hb dE_begin_43 (lv_at hl 0 rfl) ?_
  refine lv_iconst (v := nI 4) hx hb dE_begin_45 (by decide) ?_
  refine zc_ge (tgt := 63) hx hb dE_begin_46 rfl (by omega) (by omega) (fun q => absurd q (by omega)) (fun _ => ?_)
  refine lv_aload_n hx hb dE_begin_49 rfl (lv_at hl 1 rfl) ?_
  refine zGetE hx hb hw hown hK hP 0 rfl 7 (by decide) wf_E_23 rfl dE_begin_50 ?_
  refine lv_iload hx hb dE_begin_53 (lv_at hl 0 rfl) ?_
  refine lv_lconst (v := 0) hx hb dE_begin_55 (by decide) ?_
  refine zLast hx hb hK hP hD hS 5 4 rfl rfl (by omega) (by decide) dE_begin_56 (fun H locs hP hD hS => ?_)
  replace hP : va_P D vwCl (eW A C n ops nums vc vals 0 st (vp_updL ce 0 (0 : Int64)) pk pv 0 w2 k2 0 0 0 0) H := hP
  replace hD : va_D F (eW A C n ops nums vc vals 0 st (vp_updL ce 0 (0 : Int64)) pk pv 0 w2 k2 0 0 0 0) := hD
  refine lv_iinc (k := 0) (v := nI 1) hx hb dE_begin_57 hl rfl (by decide) (by decide) rfl (fun ls hl => ?_)
  have hl : lv_has ls 5 [(4, .int (nI 1)), (0, .ref (A 0)), (1, .int (nI w2)), (2, .long k2)] := hl
  refine lv_goto (tgt := 43) hx hb dE_begin_60 rfl ?_
  refine lv_iload hx hb dE_begin_43 (lv_at hl 0 rfl) ?_
  refine lv_iconst (v := nI 4) hx hb dE_begin_45 (by decide) ?_
  refine zc_ge (tgt := 63) hx hb dE_begin_46 rfl (by omega) (by omega) (fun q => absurd q (by omega)) (fun _ => ?_)
  refine lv_aload_n hx hb dE_begin_49 rfl (lv_at hl 1 rfl) ?_
  refine zGetE hx hb hw hown hK hP 0 rfl 7 (by decide) wf_E_23 rfl dE_begin_50 ?_
  refine lv_iload hx hb dE_begin_53 (lv_at hl 0 rfl) ?_
  refine lv_lconst (v := 0) hx hb dE_begin_55 (by decide) ?_
  refine zLast hx hb hK hP hD hS 5 4 rfl rfl (by omega) (by decide) dE_begin_56 (fun H locs hP hD hS => ?_)
  replace hP : va_P D vwCl (eW A C n ops nums vc vals 0 st (vp_updL (vp_updL ce 0 (0 : Int64)) 1 (0 : Int64)) pk pv 0 w2 k2 0 0 0 0) H := hP
  replace hD : va_D F (eW A C n ops nums vc vals 0 st (vp_updL (vp_updL ce 0 (0 : Int64)) 1 (0 : Int64)) pk pv 0 w2 k2 0 0 0 0) := hD
  refine lv_iinc (k := 0) (v := nI 2) hx hb dE_begin_57 hl rfl (by decide) (by decide) rfl (fun ls hl => ?_)
  have hl : lv_has ls 5 [(4, .int (nI 2)), (0, .ref (A 0)), (1, .int (nI w2)), (2, .long k2)] := hl
  refine lv_goto (tgt := 43) hx hb dE_begin_60 rfl ?_
  refine lv_iload hx hb dE_begin_43 (lv_at hl 0 rfl) ?_
  refine lv_iconst (v := nI 4) hx hb dE_begin_45 (by decide) ?_
  refine zc_ge (tgt := 63) hx hb dE_begin_46 rfl (by omega) (by omega) (fun q => absurd q (by omega)) (fun _ => ?_)
  refine lv_aload_n hx hb dE_begin_49 rfl (lv_at hl 1 rfl) ?_
  refine zGetE hx hb hw hown hK hP 0 rfl 7 (by decide) wf_E_23 rfl dE_begin_50 ?_
  refine lv_iload hx hb dE_begin_53 (lv_at hl 0 rfl) ?_
  refine lv_lconst (v := 0) hx hb dE_begin_55 (by decide) ?_
  refine zLast hx hb hK hP hD hS 5 4 rfl rfl (by omega) (by decide) dE_begin_56 (fun H locs hP hD hS => ?_)
  replace hP : va_P D vwCl (eW A C n ops nums vc vals 0 st (vp_updL (vp_updL (vp_updL ce 0 (0 : Int64)) 1 (0 : Int64)) 2 (0 : Int64)) pk pv 0 w2 k2 0 0 0 0) H := hP
  replace hD : va_D F (eW A C n ops nums vc vals 0 st (vp_updL (vp_updL (vp_updL ce 0 (0 : Int64)) 1 (0 : Int64)) 2 (0 : Int64)) pk pv 0 w2 k2 0 0 0 0) := hD
  refine lv_iinc (k := 0) (v := nI 3) hx hb dE_begin_57 hl rfl (by decide) (by decide) rfl (fun ls hl => ?_)
  have hl : lv_has ls 5 [(4, .int (nI 3)), (0, .ref (A 0)), (1, .int (nI w2)), (2, .long k2)] := hl
  refine lv_goto (tgt := 43) hx hb dE_begin_60 rfl ?_
  refine lv_iload hx hb dE_begin_43 (lv_at hl 0 rfl) ?_
  refine lv_iconst (v := nI 4) hx hb dE_begin_45 (by decide) ?_
  refine zc_ge (tgt := 63) hx hb dE_begin_46 rfl (by omega) (by omega) (fun q => absurd q (by omega)) (fun _ => ?_)
  refine lv_aload_n hx hb dE_begin_49 rfl (lv_at hl 1 rfl) ?_
  refine zGetE hx hb hw hown hK hP 0 rfl 7 (by decide) wf_E_23 rfl dE_begin_50 ?_
  refine lv_iload hx hb dE_begin_53 (lv_at hl 0 rfl) ?_
  refine lv_lconst (v := 0) hx hb dE_begin_55 (by decide) ?_
  refine zLast hx hb hK hP hD hS 5 4 rfl rfl (by omega) (by decide) dE_begin_56 (fun H locs hP hD hS => ?_)
  replace hP : va_P D vwCl (eW A C n ops nums vc vals 0 st (vp_updL (vp_updL (vp_updL (vp_updL ce 0 (0 : Int64)) 1 (0 : Int64)) 2 (0 : Int64)) 3 (0 : Int64)) pk pv 0 w2 k2 0 0 0 0) H := hP
  replace hD : va_D F (eW A C n ops nums vc vals 0 st (vp_updL (vp_updL (vp_updL (vp_updL ce 0 (0 : Int64)) 1 (0 : Int64)) 2 (0 : Int64)) 3 (0 : Int64)) pk pv 0 w2 k2 0 0 0 0) := hD
  refine lv_iinc (k := 0) (v := nI 4) hx hb dE_begin_57 hl rfl (by decide) (by decide) rfl (fun ls hl => ?_)
  have hl : lv_has ls 5 [(4, .int (nI 4)), (0, .ref (A 0)), (1, .int (nI w2)), (2, .long k2)] := hl
  refine lv_goto (tgt := 43) hx hb dE_begin_60 rfl ?_
  refine lv_iload hx hb dE_begin_43 (lv_at hl 0 rfl) ?_
  refine lv_iconst (v := nI 4) hx hb dE_begin_45 (by decide) ?_
  refine zc_ge (tgt := 63) hx hb dE_begin_46 rfl (by omega) (by omega) (fun _ => ?_) (fun q => absurd q (by omega))
  exact zVret (w' := fun (_ : Unit) => (eW A C n ops nums vc vals 0 st (z4 ce) pk pv 0 w2 k2 0 0 0 0)) () hx hb hr hlk hS hK trivial hP hD dE_begin_63

set_option maxHeartbeats 4000000 in
theorem gbL {p : Program} {l : Launch} {e : Env} {s : State} {m : MethodId} {args : Array Value} {below : List Frame} {meth : Method} {c : Code} {F : Nat → Prop} {D : va_G} {A : Nat → Nat} {C : Nat → ClassId} (hx : p.tables.exec = Jvm.exec) (hb : c.code = cE_goesBehindEnd) (hr : meth.sig.returnType = (some .boolean)) (hlk : meth.locks = false) (hml : c.maxLocals = 3) (hw : ∀ w ∈ WS, w.before args s = true) (hown : s.vm.findClass RE = some m.cls) (hK : va_K D vwCl (eT C) s) (hA : ∀ q, s.heap.size ≤ q → F q) {n : Nat} {ops : Nat → Int32} {nums : Nat → Int64} {vc : Nat} {vals : Nat → Int64} {d : Nat} {st ce pk pv : Nat → Int64} {pr w : Nat} {key : Int64} {pl dn tk tr : Nat} (hn : n ≤ 40) : ∀ (f i : Nat) (ls : Array Slot), i + f = n → (∀ j, j < i → ¬ ((ops j = nI 15 ∨ ops j = nI 16) ∧ lN n < nums j)) → ∀ {H : Heap} {locs : List Loc}, va_P D vwCl (eW A C n ops nums vc vals d st ce pk pv pr w key pl dn tk tr) H → va_D F (eW A C n ops nums vc vals d st ce pk pv pr w key pl dn tk tr) → va_S F s.heap H locs → lv_has ls 3 [(1, .int (nI i)), (0, .ref (A 0))] → W p l e (rmk 0 0) s m args below meth c H locs 0 0 (MQ below (va_Qi (fun (r : Int32) (_ : Unit) => (r = nI 1 ∧ gBP n ops nums) ∨ (r = nI 0 ∧ ¬ gBP n ops nums)) (fun (_ : Unit) t => zB D (eT C) F (eW A C n ops nums vc vals d st ce pk pv pr w key pl dn tk tr) t) F) args s 0 0 F) (F0 m 2 ls []) := by
  intro f
  induction f with
  | zero =>
    intro i ls hf hno H locs hP hD hS hl
    refine lv_iload_n hx hb dE_goesBehindEnd_2 rfl (lv_at hl 0 rfl) ?_
    refine lv_aload_n hx hb dE_goesBehindEnd_3 rfl (lv_at hl 1 rfl) ?_
    refine zGetE hx hb hw hown hK hP 0 rfl 2 (by decide) wf_E_43 rfl dE_goesBehindEnd_4 ?_
    refine zc_ge (tgt := 65) hx hb dE_goesBehindEnd_7 rfl (by omega) (by omega) (fun _ => ?_) (fun q => absurd q (by omega))
    refine lv_iconst (v := nI 0) hx hb dE_goesBehindEnd_65 (by decide) ?_
    exact zZret (w' := fun (_ : Unit) => (eW A C n ops nums vc vals d st ce pk pv pr w key pl dn tk tr)) () hx hb hr (by decide) hlk hS hK (Or.inr ⟨rfl, fun ⟨j, hj, hq⟩ => hno j (by omega) hq⟩) hP hD dE_goesBehindEnd_66
  | succ f ih =>
    intro i ls hf hno H locs hP hD hS hl
    refine lv_iload_n hx hb dE_goesBehindEnd_2 rfl (lv_at hl 0 rfl) ?_
    refine lv_aload_n hx hb dE_goesBehindEnd_3 rfl (lv_at hl 1 rfl) ?_
    refine zGetE hx hb hw hown hK hP 0 rfl 2 (by decide) wf_E_43 rfl dE_goesBehindEnd_4 ?_
    refine zc_ge (tgt := 65) hx hb dE_goesBehindEnd_7 rfl (by omega) (by omega) (fun q => absurd q (by omega)) (fun _ => ?_)
    refine lv_aload_n hx hb dE_goesBehindEnd_10 rfl (lv_at hl 1 rfl) ?_
    refine zGetE hx hb hw hown hK hP 0 rfl 0 (by decide) wf_E_9 rfl dE_goesBehindEnd_11 ?_
    refine lv_iload_n hx hb dE_goesBehindEnd_14 rfl (lv_at hl 0 rfl) ?_
    refine zIald hx hb hK hP 1 0 rfl rfl (by omega) (by decide) dE_goesBehindEnd_15 ?_
    refine lv_bipush (v := nI 15) hx hb dE_goesBehindEnd_16 (by decide) ?_
    refine lv_icmp_eq (tgt := 32) hx hb dE_goesBehindEnd_18 rfl (fun h18 => ?_) (fun h18 => ?_)
    · refine lv_iconst (v := nI 1) hx hb dE_goesBehindEnd_32 (by decide) ?_
      refine lv_goto (tgt := 37) hx hb dE_goesBehindEnd_33 rfl ?_
      refine lv_istore_n hx hb dE_goesBehindEnd_37 rfl hl (by decide) rfl (fun ls hl => ?_)
      have hl : lv_has ls 3 [(2, .int (nI 1)), (1, .int (nI i)), (0, .ref (A 0))] := hl
      refine lv_iload_n hx hb dE_goesBehindEnd_38 rfl (lv_at hl 0 rfl) ?_
      refine zi_eq (tgt := 59) hx hb dE_goesBehindEnd_39 rfl (by omega) (fun q => absurd q (by omega)) (fun _ => ?_)
      refine lv_aload_n hx hb dE_goesBehindEnd_42 rfl (lv_at hl 2 rfl) ?_
      refine zGetE hx hb hw hown hK hP 0 rfl 1 (by decide) wf_E_13 rfl dE_goesBehindEnd_43 ?_
      refine lv_iload_n hx hb dE_goesBehindEnd_46 rfl (lv_at hl 1 rfl) ?_
      refine zLald hx hb hK hP 2 1 rfl rfl (by omega) (by decide) dE_goesBehindEnd_47 ?_
      refine lv_aload_n hx hb dE_goesBehindEnd_48 rfl (lv_at hl 2 rfl) ?_
      refine zGetE hx hb hw hown hK hP 0 rfl 2 (by decide) wf_E_43 rfl dE_goesBehindEnd_49 ?_
      refine lv_i2l hx hb dE_goesBehindEnd_52 (nI_l (by omega)) ?_
      refine W.lcmp hx hb dE_goesBehindEnd_53 ?_
      refine zl_le (tgt := 59) hx hb dE_goesBehindEnd_54 rfl (fun h54 => ?_) (fun h54 => ?_)
      · refine lv_iinc (k := 1) (v := nI (i + 1)) hx hb dE_goesBehindEnd_59 hl rfl (nI_add _ _) (by decide) rfl (fun ls hl => ?_)
        have hl : lv_has ls 3 [(1, .int (nI (i + 1))), (2, .int (nI 1)), (0, .ref (A 0))] := hl
        refine lv_goto (tgt := 2) hx hb dE_goesBehindEnd_62 rfl ?_
        refine ih (i + 1) ls (by omega) (fun j hj => ?_) hP hD hS (lv_sub hl [0, 2] rfl)
        rcases Nat.lt_succ_iff_lt_or_eq.mp hj with h9 | rfl
        · exact hno j h9
        · rintro ⟨q1, q2⟩
          first | exact absurd q2 (Int64.not_lt.mpr h54) | exact (q1.elim (fun z => h18 z) (fun z => h29 z))
      · refine lv_iconst (v := nI 1) hx hb dE_goesBehindEnd_57 (by decide) ?_
        exact zZret (w' := fun (_ : Unit) => (eW A C n ops nums vc vals d st ce pk pv pr w key pl dn tk tr)) () hx hb hr (by decide) hlk hS hK (Or.inl ⟨rfl, ⟨i, by omega, by first | exact Or.inl h18 | exact Or.inr h29, by first | exact h54 | exact Int64.not_le.mp h54⟩⟩) hP hD dE_goesBehindEnd_58
    · refine lv_aload_n hx hb dE_goesBehindEnd_21 rfl (lv_at hl 1 rfl) ?_
      refine zGetE hx hb hw hown hK hP 0 rfl 0 (by decide) wf_E_9 rfl dE_goesBehindEnd_22 ?_
      refine lv_iload_n hx hb dE_goesBehindEnd_25 rfl (lv_at hl 0 rfl) ?_
      refine zIald hx hb hK hP 1 0 rfl rfl (by omega) (by decide) dE_goesBehindEnd_26 ?_
      refine lv_bipush (v := nI 16) hx hb dE_goesBehindEnd_27 (by decide) ?_
      refine lv_icmp_ne (tgt := 36) hx hb dE_goesBehindEnd_29 rfl (fun h29 => ?_) (fun h29 => ?_)
      · refine lv_iconst (v := nI 0) hx hb dE_goesBehindEnd_36 (by decide) ?_
        refine lv_istore_n hx hb dE_goesBehindEnd_37 rfl hl (by decide) rfl (fun ls hl => ?_)
        have hl : lv_has ls 3 [(2, .int (nI 0)), (1, .int (nI i)), (0, .ref (A 0))] := hl
        refine lv_iload_n hx hb dE_goesBehindEnd_38 rfl (lv_at hl 0 rfl) ?_
        refine zi_eq (tgt := 59) hx hb dE_goesBehindEnd_39 rfl (by omega) (fun _ => ?_) (fun q => absurd q (by omega))
        refine lv_iinc (k := 1) (v := nI (i + 1)) hx hb dE_goesBehindEnd_59 hl rfl (nI_add _ _) (by decide) rfl (fun ls hl => ?_)
        have hl : lv_has ls 3 [(1, .int (nI (i + 1))), (2, .int (nI 0)), (0, .ref (A 0))] := hl
        refine lv_goto (tgt := 2) hx hb dE_goesBehindEnd_62 rfl ?_
        refine ih (i + 1) ls (by omega) (fun j hj => ?_) hP hD hS (lv_sub hl [0, 2] rfl)
        rcases Nat.lt_succ_iff_lt_or_eq.mp hj with h9 | rfl
        · exact hno j h9
        · rintro ⟨q1, q2⟩
          first | exact absurd q2 (Int64.not_lt.mpr h54) | exact (q1.elim (fun z => h18 z) (fun z => h29 z))
      · refine lv_iconst (v := nI 1) hx hb dE_goesBehindEnd_32 (by decide) ?_
        refine lv_goto (tgt := 37) hx hb dE_goesBehindEnd_33 rfl ?_
        refine lv_istore_n hx hb dE_goesBehindEnd_37 rfl hl (by decide) rfl (fun ls hl => ?_)
        have hl : lv_has ls 3 [(2, .int (nI 1)), (1, .int (nI i)), (0, .ref (A 0))] := hl
        refine lv_iload_n hx hb dE_goesBehindEnd_38 rfl (lv_at hl 0 rfl) ?_
        refine zi_eq (tgt := 59) hx hb dE_goesBehindEnd_39 rfl (by omega) (fun q => absurd q (by omega)) (fun _ => ?_)
        refine lv_aload_n hx hb dE_goesBehindEnd_42 rfl (lv_at hl 2 rfl) ?_
        refine zGetE hx hb hw hown hK hP 0 rfl 1 (by decide) wf_E_13 rfl dE_goesBehindEnd_43 ?_
        refine lv_iload_n hx hb dE_goesBehindEnd_46 rfl (lv_at hl 1 rfl) ?_
        refine zLald hx hb hK hP 2 1 rfl rfl (by omega) (by decide) dE_goesBehindEnd_47 ?_
        refine lv_aload_n hx hb dE_goesBehindEnd_48 rfl (lv_at hl 2 rfl) ?_
        refine zGetE hx hb hw hown hK hP 0 rfl 2 (by decide) wf_E_43 rfl dE_goesBehindEnd_49 ?_
        refine lv_i2l hx hb dE_goesBehindEnd_52 (nI_l (by omega)) ?_
        refine W.lcmp hx hb dE_goesBehindEnd_53 ?_
        refine zl_le (tgt := 59) hx hb dE_goesBehindEnd_54 rfl (fun h54 => ?_) (fun h54 => ?_)
        · refine lv_iinc (k := 1) (v := nI (i + 1)) hx hb dE_goesBehindEnd_59 hl rfl (nI_add _ _) (by decide) rfl (fun ls hl => ?_)
          have hl : lv_has ls 3 [(1, .int (nI (i + 1))), (2, .int (nI 1)), (0, .ref (A 0))] := hl
          refine lv_goto (tgt := 2) hx hb dE_goesBehindEnd_62 rfl ?_
          refine ih (i + 1) ls (by omega) (fun j hj => ?_) hP hD hS (lv_sub hl [0, 2] rfl)
          rcases Nat.lt_succ_iff_lt_or_eq.mp hj with h9 | rfl
          · exact hno j h9
          · rintro ⟨q1, q2⟩
            first | exact absurd q2 (Int64.not_lt.mpr h54) | exact (q1.elim (fun z => h18 z) (fun z => h29 z))
        · refine lv_iconst (v := nI 1) hx hb dE_goesBehindEnd_57 (by decide) ?_
          exact zZret (w' := fun (_ : Unit) => (eW A C n ops nums vc vals d st ce pk pv pr w key pl dn tk tr)) () hx hb hr (by decide) hlk hS hK (Or.inl ⟨rfl, ⟨i, by omega, by first | exact Or.inl h18 | exact Or.inr h29, by first | exact h54 | exact Int64.not_le.mp h54⟩⟩) hP hD dE_goesBehindEnd_58
set_option maxHeartbeats 4000000 in
theorem c_goesBehindEnd (l : Launch) (D : va_G) (A : Nat → Nat) (C : Nat → ClassId) (sz : Nat) (n : Nat) (ops : Nat → Int32) (nums : Nat → Int64) (vc : Nat) (vals : Nat → Int64) (d : Nat) (st : Nat → Int64) (ce : Nat → Int64) (pk : Nat → Int64) (pv : Nat → Int64) (pr : Nat) (w : Nat) (key : Int64) (pl : Nat) (dn : Nat) (tk : Nat) (tr : Nat) (hn : n ≤ 40) : Met l yE_goesBehindEnd (.code yE_goesBehindEnd cE_goesBehindEnd 3 (some .boolean) :: WS) (rmk 0 0) (va_Pc [.ref (A 0)] (zP D (eT C) sz (eW A C n ops nums vc vals d st ce pk pv pr w key pl dn tk tr))) (va_Qi (fun (r : Int32) (_ : Unit) => (r = nI 1 ∧ gBP n ops nums) ∨ (r = nI 0 ∧ ¬ gBP n ops nums)) (fun (_ : Unit) t => zB D (eT C) (va_A (eW A C n ops nums vc vals d st ce pk pv pr w key pl dn tk tr) sz) (eW A C n ops nums vc vals d st ce pk pv pr w key pl dn tk tr) t) (va_A (eW A C n ops nums vc vals d st ce pk pv pr w key pl dn tk tr) sz)) 0 0 (va_A (eW A C n ops nums vc vals d st ce pk pv pr w key pl dn tk tr) sz) := by
  refine zEnt (Qc := fun F => (va_Qi (fun (r : Int32) (_ : Unit) => (r = nI 1 ∧ gBP n ops nums) ∨ (r = nI 0 ∧ ¬ gBP n ops nums)) (fun (_ : Unit) t => zB D (eT C) F (eW A C n ops nums vc vals d st ce pk pv pr w key pl dn tk tr) t) F)) (by decide) (Nat.le_of_ble_eq_true rfl) (fun p e s m below meth c ls F hx hb hr hlk hml hnm hw hown hsz hP hK hD hA hl => ?_)
  have hS : va_S F s.heap s.heap [] := va_S.rf
  have hown : s.vm.findClass RE = some m.cls := hown
  have hl : lv_has ls 3 [(0, .ref (A 0))] := hl
  refine lv_iconst (v := nI 0) hx hb dE_goesBehindEnd_0 (by decide) ?_
  refine lv_istore_n hx hb dE_goesBehindEnd_1 rfl hl (by decide) rfl (fun ls hl => ?_)
  have hl : lv_has ls 3 [(1, .int (nI 0)), (0, .ref (A 0))] := hl
  exact gbL hx hb hr hlk hml hw hown hK hA hn n 0 ls (by omega) (fun j hj => absurd hj (by omega)) hP hD hS hl
set_option maxHeartbeats 4000000 in
theorem c_isInstruction (l : Launch) (D : va_G) (sz : Nat) (o : Int32) (x : Int64) : Met l yE_isInstruction (.code yE_isInstruction cE_isInstruction 3 (some .boolean) :: WS) (rmk 0 0) (va_Pc [.int o, .long x] (zP D [] sz ([] : va_W))) (va_Qi (fun (r : Int32) (_ : Unit) => (r = nI 1 ∧ okC o x) ∨ (r = nI 0 ∧ ¬ okC o x)) (fun (_ : Unit) t => zB D [] (va_A ([] : va_W) sz) ([] : va_W) t) (va_A ([] : va_W) sz)) 0 0 (va_A ([] : va_W) sz) := by
  have n1 : ¬ nI 4 = nI 15 := by decide
  have n2 : ¬ nI 4 = nI 16 := by decide
  have n3 : ¬ nI 5 = nI 15 := by decide
  have n4 : ¬ nI 5 = nI 16 := by decide
  refine zEnt (Qc := fun F => (va_Qi (fun (r : Int32) (_ : Unit) => (r = nI 1 ∧ okC o x) ∨ (r = nI 0 ∧ ¬ okC o x)) (fun (_ : Unit) t => zB D [] F ([] : va_W) t) F)) (by decide) (Nat.le_of_ble_eq_true rfl) (fun p e s m below meth c ls F hx hb hr hlk hml hnm hw hown hsz hP hK hD hA hl => ?_)
  have hS : va_S F s.heap s.heap [] := va_S.rf
  have hown : s.vm.findClass RE = some m.cls := hown
  have hl : lv_has ls 3 [(0, .int o), (1, .long x)] := hl
  refine lv_iload_n hx hb dE_isInstruction_0 rfl (lv_at hl 0 rfl) ?_
  refine lv_if_lt (tgt := 10) hx hb dE_isInstruction_1 rfl (fun h1 => ?_) (fun h1 => ?_)
  · refine lv_iconst (v := nI 0) hx hb dE_isInstruction_10 (by decide) ?_
    exact zZret (w' := fun (_ : Unit) => ([] : va_W)) () hx hb hr (by decide) hlk hS hK (Or.inr ⟨rfl, by clear hl hx hb hr hlk hml hnm hw hown hP hK hD hA hS; unfold okC; grind⟩) hP hD dE_isInstruction_11
  · refine lv_iload_n hx hb dE_isInstruction_4 rfl (lv_at hl 0 rfl) ?_
    refine lv_bipush (v := nI 18) hx hb dE_isInstruction_5 (by decide) ?_
    refine lv_icmp_le (tgt := 12) hx hb dE_isInstruction_7 rfl (fun h7 => ?_) (fun h7 => ?_)
    · refine lv_iload_n hx hb dE_isInstruction_12 rfl (lv_at hl 0 rfl) ?_
      refine lv_iconst (v := nI 4) hx hb dE_isInstruction_13 (by decide) ?_
      refine lv_icmp_eq (tgt := 22) hx hb dE_isInstruction_14 rfl (fun h14 => ?_) (fun h14 => ?_)
      · refine lv_lload_n hx hb dE_isInstruction_22 rfl (lv_at hl 1 rfl) ?_
        refine lv_lconst (v := 0) hx hb dE_isInstruction_23 (by decide) ?_
        refine W.lcmp hx hb dE_isInstruction_24 ?_
        refine zl_lt (tgt := 40) hx hb dE_isInstruction_25 rfl (fun h25 => ?_) (fun h25 => ?_)
        · refine lv_iconst (v := nI 0) hx hb dE_isInstruction_40 (by decide) ?_
          exact zZret (w' := fun (_ : Unit) => ([] : va_W)) () hx hb hr (by decide) hlk hS hK (Or.inr ⟨rfl, by clear hl hx hb hr hlk hml hnm hw hown hP hK hD hA hS; unfold okC; grind⟩) hP hD dE_isInstruction_41
        · refine lv_lload_n hx hb dE_isInstruction_28 rfl (lv_at hl 1 rfl) ?_
          refine lv_ldc2 (v := 4) hx hb hown (hw _ wl_E_102) dE_isInstruction_29 ?_
          refine W.lcmp hx hb dE_isInstruction_32 ?_
          refine zl_ge (tgt := 40) hx hb dE_isInstruction_33 rfl (fun h33 => ?_) (fun h33 => ?_)
          · refine lv_iconst (v := nI 0) hx hb dE_isInstruction_40 (by decide) ?_
            exact zZret (w' := fun (_ : Unit) => ([] : va_W)) () hx hb hr (by decide) hlk hS hK (Or.inr ⟨rfl, by clear hl hx hb hr hlk hml hnm hw hown hP hK hD hA hS; unfold okC; grind⟩) hP hD dE_isInstruction_41
          · refine lv_iconst (v := nI 1) hx hb dE_isInstruction_36 (by decide) ?_
            refine lv_goto (tgt := 41) hx hb dE_isInstruction_37 rfl ?_
            exact zZret (w' := fun (_ : Unit) => ([] : va_W)) () hx hb hr (by decide) hlk hS hK (Or.inl ⟨rfl, by clear hl hx hb hr hlk hml hnm hw hown hP hK hD hA hS; unfold okC; grind⟩) hP hD dE_isInstruction_41
      · refine lv_iload_n hx hb dE_isInstruction_17 rfl (lv_at hl 0 rfl) ?_
        refine lv_iconst (v := nI 5) hx hb dE_isInstruction_18 (by decide) ?_
        refine lv_icmp_ne (tgt := 42) hx hb dE_isInstruction_19 rfl (fun h19 => ?_) (fun h19 => ?_)
        · refine lv_iload_n hx hb dE_isInstruction_42 rfl (lv_at hl 0 rfl) ?_
          refine lv_bipush (v := nI 15) hx hb dE_isInstruction_43 (by decide) ?_
          refine lv_icmp_eq (tgt := 54) hx hb dE_isInstruction_45 rfl (fun h45 => ?_) (fun h45 => ?_)
          · refine lv_lload_n hx hb dE_isInstruction_54 rfl (lv_at hl 1 rfl) ?_
            refine lv_lconst (v := 0) hx hb dE_isInstruction_55 (by decide) ?_
            refine W.lcmp hx hb dE_isInstruction_56 ?_
            refine zl_lt (tgt := 72) hx hb dE_isInstruction_57 rfl (fun h57 => ?_) (fun h57 => ?_)
            · refine lv_iconst (v := nI 0) hx hb dE_isInstruction_72 (by decide) ?_
              exact zZret (w' := fun (_ : Unit) => ([] : va_W)) () hx hb hr (by decide) hlk hS hK (Or.inr ⟨rfl, by clear hl hx hb hr hlk hml hnm hw hown hP hK hD hA hS; unfold okC; grind⟩) hP hD dE_isInstruction_73
            · refine lv_lload_n hx hb dE_isInstruction_60 rfl (lv_at hl 1 rfl) ?_
              refine lv_ldc2 (v := 40) hx hb hown (hw _ wl_E_104) dE_isInstruction_61 ?_
              refine W.lcmp hx hb dE_isInstruction_64 ?_
              refine zl_gt (tgt := 72) hx hb dE_isInstruction_65 rfl (fun h65 => ?_) (fun h65 => ?_)
              · refine lv_iconst (v := nI 0) hx hb dE_isInstruction_72 (by decide) ?_
                exact zZret (w' := fun (_ : Unit) => ([] : va_W)) () hx hb hr (by decide) hlk hS hK (Or.inr ⟨rfl, by clear hl hx hb hr hlk hml hnm hw hown hP hK hD hA hS; unfold okC; grind⟩) hP hD dE_isInstruction_73
              · refine lv_iconst (v := nI 1) hx hb dE_isInstruction_68 (by decide) ?_
                refine lv_goto (tgt := 73) hx hb dE_isInstruction_69 rfl ?_
                exact zZret (w' := fun (_ : Unit) => ([] : va_W)) () hx hb hr (by decide) hlk hS hK (Or.inl ⟨rfl, by clear hl hx hb hr hlk hml hnm hw hown hP hK hD hA hS; unfold okC; grind⟩) hP hD dE_isInstruction_73
          · refine lv_iload_n hx hb dE_isInstruction_48 rfl (lv_at hl 0 rfl) ?_
            refine lv_bipush (v := nI 16) hx hb dE_isInstruction_49 (by decide) ?_
            refine lv_icmp_ne (tgt := 74) hx hb dE_isInstruction_51 rfl (fun h51 => ?_) (fun h51 => ?_)
            · refine lv_iconst (v := nI 1) hx hb dE_isInstruction_74 (by decide) ?_
              exact zZret (w' := fun (_ : Unit) => ([] : va_W)) () hx hb hr (by decide) hlk hS hK (Or.inl ⟨rfl, by clear hl hx hb hr hlk hml hnm hw hown hP hK hD hA hS; unfold okC; grind⟩) hP hD dE_isInstruction_75
            · refine lv_lload_n hx hb dE_isInstruction_54 rfl (lv_at hl 1 rfl) ?_
              refine lv_lconst (v := 0) hx hb dE_isInstruction_55 (by decide) ?_
              refine W.lcmp hx hb dE_isInstruction_56 ?_
              refine zl_lt (tgt := 72) hx hb dE_isInstruction_57 rfl (fun h57 => ?_) (fun h57 => ?_)
              · refine lv_iconst (v := nI 0) hx hb dE_isInstruction_72 (by decide) ?_
                exact zZret (w' := fun (_ : Unit) => ([] : va_W)) () hx hb hr (by decide) hlk hS hK (Or.inr ⟨rfl, by clear hl hx hb hr hlk hml hnm hw hown hP hK hD hA hS; unfold okC; grind⟩) hP hD dE_isInstruction_73
              · refine lv_lload_n hx hb dE_isInstruction_60 rfl (lv_at hl 1 rfl) ?_
                refine lv_ldc2 (v := 40) hx hb hown (hw _ wl_E_104) dE_isInstruction_61 ?_
                refine W.lcmp hx hb dE_isInstruction_64 ?_
                refine zl_gt (tgt := 72) hx hb dE_isInstruction_65 rfl (fun h65 => ?_) (fun h65 => ?_)
                · refine lv_iconst (v := nI 0) hx hb dE_isInstruction_72 (by decide) ?_
                  exact zZret (w' := fun (_ : Unit) => ([] : va_W)) () hx hb hr (by decide) hlk hS hK (Or.inr ⟨rfl, by clear hl hx hb hr hlk hml hnm hw hown hP hK hD hA hS; unfold okC; grind⟩) hP hD dE_isInstruction_73
                · refine lv_iconst (v := nI 1) hx hb dE_isInstruction_68 (by decide) ?_
                  refine lv_goto (tgt := 73) hx hb dE_isInstruction_69 rfl ?_
                  exact zZret (w' := fun (_ : Unit) => ([] : va_W)) () hx hb hr (by decide) hlk hS hK (Or.inl ⟨rfl, by clear hl hx hb hr hlk hml hnm hw hown hP hK hD hA hS; unfold okC; grind⟩) hP hD dE_isInstruction_73
        · refine lv_lload_n hx hb dE_isInstruction_22 rfl (lv_at hl 1 rfl) ?_
          refine lv_lconst (v := 0) hx hb dE_isInstruction_23 (by decide) ?_
          refine W.lcmp hx hb dE_isInstruction_24 ?_
          refine zl_lt (tgt := 40) hx hb dE_isInstruction_25 rfl (fun h25 => ?_) (fun h25 => ?_)
          · refine lv_iconst (v := nI 0) hx hb dE_isInstruction_40 (by decide) ?_
            exact zZret (w' := fun (_ : Unit) => ([] : va_W)) () hx hb hr (by decide) hlk hS hK (Or.inr ⟨rfl, by clear hl hx hb hr hlk hml hnm hw hown hP hK hD hA hS; unfold okC; grind⟩) hP hD dE_isInstruction_41
          · refine lv_lload_n hx hb dE_isInstruction_28 rfl (lv_at hl 1 rfl) ?_
            refine lv_ldc2 (v := 4) hx hb hown (hw _ wl_E_102) dE_isInstruction_29 ?_
            refine W.lcmp hx hb dE_isInstruction_32 ?_
            refine zl_ge (tgt := 40) hx hb dE_isInstruction_33 rfl (fun h33 => ?_) (fun h33 => ?_)
            · refine lv_iconst (v := nI 0) hx hb dE_isInstruction_40 (by decide) ?_
              exact zZret (w' := fun (_ : Unit) => ([] : va_W)) () hx hb hr (by decide) hlk hS hK (Or.inr ⟨rfl, by clear hl hx hb hr hlk hml hnm hw hown hP hK hD hA hS; unfold okC; grind⟩) hP hD dE_isInstruction_41
            · refine lv_iconst (v := nI 1) hx hb dE_isInstruction_36 (by decide) ?_
              refine lv_goto (tgt := 41) hx hb dE_isInstruction_37 rfl ?_
              exact zZret (w' := fun (_ : Unit) => ([] : va_W)) () hx hb hr (by decide) hlk hS hK (Or.inl ⟨rfl, by clear hl hx hb hr hlk hml hnm hw hown hP hK hD hA hS; unfold okC; grind⟩) hP hD dE_isInstruction_41
    · refine lv_iconst (v := nI 0) hx hb dE_isInstruction_10 (by decide) ?_
      exact zZret (w' := fun (_ : Unit) => ([] : va_W)) () hx hb hr (by decide) hlk hS hK (Or.inr ⟨rfl, by clear hl hx hb hr hlk hml hnm hw hown hP hK hD hA hS; unfold okC; grind⟩) hP hD dE_isInstruction_11
