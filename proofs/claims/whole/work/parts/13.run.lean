/-! the run as mathematics, and runProgram held against it -/
def runR (n vc : Nat) (vals : Nat → Int64) (w : Nat) (key : Int64) (ops : Nat → Int32) (nums : Nat → Int64) : Nat → RS → Nat × Nat × RS
  | 0, r => if r.1 < n then (0, 1, r) else (0, 0, r)
  | f + 1, r => if r.1 < n then
      (match stp n vc vals w key (oN (ops r.1)) (nums r.1) (r.1 + 1) r.2.1 r.2.2.1 r.2.2.2.1 r.2.2.2.2.1 r.2.2.2.2.2.1 r.2.2.2.2.2.2.1 r.2.2.2.2.2.2.2 with
        | none => (1, 1, r)
        | some r' => ((runR n vc vals w key ops nums f r').1 + 1, (runR n vc vals w key ops nums f r').2))
      else (0, 0, r)
section ZRR
variable {n vc : Nat} {vals : Nat → Int64} {w : Nat} {key : Int64} {ops : Nat → Int32} {nums : Nat → Int64} {pl d : Nat} {st ce pk pv : Nat → Int64} {pr tk f : Nat}
theorem runR_end (h : n ≤ pl) : runR n vc vals w key ops nums f (pl, d, st, ce, pk, pv, pr, tk) = (0, 0, (pl, d, st, ce, pk, pv, pr, tk)) := by
  cases f with
  | zero => exact if_neg (by show ¬ pl < n; omega)
  | succ f => exact if_neg (by show ¬ pl < n; omega)
theorem runR_long (h : pl < n) : runR n vc vals w key ops nums 0 (pl, d, st, ce, pk, pv, pr, tk) = (0, 1, (pl, d, st, ce, pk, pv, pr, tk)) := if_pos h
theorem runR_trap (h : pl < n) (hs : stp n vc vals w key (oN (ops pl)) (nums pl) (pl + 1) d st ce pk pv pr tk = none) : runR n vc vals w key ops nums (f + 1) (pl, d, st, ce, pk, pv, pr, tk) = (1, 1, (pl, d, st, ce, pk, pv, pr, tk)) := by
  rw [runR, if_pos h]
  simp only [hs]
theorem runR_go {r : RS} (h : pl < n) (hs : stp n vc vals w key (oN (ops pl)) (nums pl) (pl + 1) d st ce pk pv pr tk = some r) : runR n vc vals w key ops nums (f + 1) (pl, d, st, ce, pk, pv, pr, tk) = ((runR n vc vals w key ops nums f r).1 + 1, (runR n vc vals w key ops nums f r).2) := by
  rw [runR, if_pos h]
  simp only [hs]
end ZRR
def dF (t d : Nat) : Nat := match t with
  | 0 => d
  | _ => 0
/-- the PROGRAM's INSTRUCTIONS are such as code lets in -/
def PI (n : Nat) (ops : Nat → Int32) (nums : Nat → Int64) : Prop := n ≤ 40 ∧ ∀ i, i < n → okI (oN (ops i)) (nums i) ∧ ops i = nI (oN (ops i))
abbrev RI (vc w pl d pr tk : Nat) : Prop := pl ≤ 40 ∧ d ≤ 12 ∧ pr ≤ 4 ∧ tk ≤ vc ∧ (w = 0 → tk = 0)
set_option maxHeartbeats 4000000 in
theorem stp_inv {n vc : Nat} {vals : Nat → Int64} {w : Nat} {key : Int64} {o : Nat} {x : Int64} {pl d : Nat} {st ce pk pv : Nat → Int64} {pr tk : Nat} {pl' d' : Nat} {st' ce' pk' pv' : Nat → Int64} {pr' tk' : Nat} (hn : n ≤ 40) (ho : okI o x) (hi : RI vc w pl d pr tk) (h : stp n vc vals w key o x pl d st ce pk pv pr tk = some (pl', d', st', ce', pk', pv', pr', tk')) : RI vc w pl' d' pr' tk' := by
  obtain ⟨ho1, ho2, ho3⟩ := ho
  obtain ⟨i1, i2, i3, i4, i5⟩ := hi
  have q9 : o = 15 ∨ o = 16 → ixL x ≤ 40 := fun g => by
    have q := ho3 g
    unfold ixL
    omega
  rcases (show o = 0 ∨ o = 1 ∨ o = 2 ∨ o = 3 ∨ o = 4 ∨ o = 5 ∨ o = 6 ∨ o = 7 ∨ o = 8 ∨ o = 9 ∨ o = 10 ∨ o = 11 ∨ o = 12 ∨ o = 13 ∨ o = 14 ∨ o = 15 ∨ o = 16 ∨ o = 17 ∨ o = 18 by omega) with rfl | rfl | rfl | rfl | rfl | rfl | rfl | rfl | rfl | rfl | rfl | rfl | rfl | rfl | rfl | rfl | rfl | rfl | rfl <;> simp only [stp] at h
  all_goals (repeat' split at h)
  all_goals first | (cases h; done) | (cases h; refine ⟨?_, ?_, ?_, ?_, ?_⟩ <;> (repeat' split) <;> omega)
abbrev RP : Type := (Nat → Int64) × Nat
abbrev fW (A : Nat → Nat) (C : Nat → ClassId) (n : Nat) (ops : Nat → Int32) (nums : Nat → Int64) (vc : Nat) (vals : Nat → Int64) (w : Nat) (key : Int64) (dn : Nat) (q : Nat × Nat × RS) (u : RP) : va_W :=
  eW A C n ops nums vc vals (dF q.2.1 q.2.2.2.1) u.1 q.2.2.2.2.2.1 q.2.2.2.2.2.2.1 q.2.2.2.2.2.2.2.1 q.2.2.2.2.2.2.2.2.1 w key u.2 (dn + q.1) q.2.2.2.2.2.2.2.2.2 q.2.1
theorem fW_go {A : Nat → Nat} {C : Nat → ClassId} {n : Nat} {ops : Nat → Int32} {nums : Nat → Int64} {vc : Nat} {vals : Nat → Int64} {w : Nat} {key : Int64} {dn : Nat} {q : Nat × Nat × RS} {u : RP} : fW A C n ops nums vc vals w key (dn + 1) q u = fW A C n ops nums vc vals w key dn (q.1 + 1, q.2) u := by
  show eW _ _ _ _ _ _ _ _ _ _ _ _ _ _ _ _ (dn + 1 + q.1) _ _ = _
  rw [show dn + 1 + q.1 = dn + (q.1 + 1) by omega]

set_option maxHeartbeats 4000000 in
theorem runX1 {p : Program} {l : Launch} {e : Env} {s : State} {m : MethodId} {args : Array Value} {below : List Frame} {meth : Method} {c : Code} {F : Nat → Prop} {D : va_G} {A : Nat → Nat} {C : Nat → ClassId} (hx : p.tables.exec = Jvm.exec) (hb : c.code = cE_runProgram) (hr : meth.sig.returnType = none) (hlk : meth.locks = false) (hml : c.maxLocals = 5) (hw : ∀ w ∈ WS, w.before args s = true) (hown : s.vm.findClass RE = some m.cls) (hK : va_K D vwCl (eT C) s) (hA : ∀ q, s.heap.size ≤ q → F q) {ls : Array Slot} {H : Heap} {locs : List Loc} {n : Nat} {ops : Nat → Int32} {nums : Nat → Int64} {vc : Nat} {vals : Nat → Int64} {d : Nat} {st ce pk pv : Nat → Int64} {pr w : Nat} {key : Int64} {pl dn tk : Nat} {pl0 d0 : Nat} {st0 : Nat → Int64} (hn : n ≤ 40) (hpl : pl ≤ 40) (hP : va_P D vwCl (eW A C n ops nums vc vals d st ce pk pv pr w key pl dn tk 1) H) (hD : va_D F (eW A C n ops nums vc vals d st ce pk pv pr w key pl dn tk 1)) (hS : va_S F s.heap H locs) (hl : lv_has ls 5 [(0, .ref (A 0))]) : W p l e (rmk 4 94) s m args below meth c H locs 0 0 (MQ below (va_Qv (fun _ : RP => True) (fun (u : RP) t => zB D (eT C) F (fW A C n ops nums vc vals w key dn (0, 1, (pl0, d0, st0, ce, pk, pv, pr, tk)) u) t) F) args s 0 0 F) (F0 m 79 ls []) := by
  refine lv_aload_n hx hb dE_runProgram_79 rfl (lv_at hl 0 rfl) ?_
  refine zGetE hx hb hw hown hK hP 0 rfl 13 (by decide) wf_E_113 rfl dE_runProgram_80 ?_
  refine lv_aload_n hx hb dE_runProgram_83 rfl (lv_at hl 0 rfl) ?_
  refine zGetE hx hb hw hown hK hP 0 rfl 2 (by decide) wf_E_43 rfl dE_runProgram_84 ?_
  refine zc_ge (tgt := 95) hx hb dE_runProgram_87 rfl (by omega) (by omega) (fun h87 => ?_) (fun h87 => ?_)
  · refine lv_aload_n hx hb dE_runProgram_95 rfl (lv_at hl 0 rfl) ?_
    refine zGetE hx hb hw hown hK hP 0 rfl 16 (by decide) wf_E_72 rfl dE_runProgram_96 ?_
    refine zi_eq (tgt := 107) hx hb dE_runProgram_99 rfl (by omega) (fun q => absurd q (by omega)) (fun _ => ?_)
    refine lv_aload_n hx hb dE_runProgram_102 rfl (lv_at hl 0 rfl) ?_
    refine lv_iconst (v := nI 0) hx hb dE_runProgram_103 (by decide) ?_
    refine zPutE hx hb hw hown hK hP hD hS 0 rfl 6 (by decide) wf_E_92 rfl rfl rfl (Nat.le_of_ble_eq_true rfl) dE_runProgram_104 (fun H locs hP hD hS => ?_)
    replace hP : va_P D vwCl (eW A C n ops nums vc vals 0 st ce pk pv pr w key pl dn tk 1) H := hP
    replace hD : va_D F (eW A C n ops nums vc vals 0 st ce pk pv pr w key pl dn tk 1) := hD
    exact zVret (w' := fun (u : RP) => fW A C n ops nums vc vals w key dn (0, 1, (pl0, d0, st0, ce, pk, pv, pr, tk)) u) (st, pl) hx hb hr hlk hS hK trivial hP hD dE_runProgram_107
  · refine lv_aload_n hx hb dE_runProgram_90 rfl (lv_at hl 0 rfl) ?_
    refine lv_iconst (v := nI 1) hx hb dE_runProgram_91 (by decide) ?_
    refine zPutE hx hb hw hown hK hP hD hS 0 rfl 16 (by decide) wf_E_72 rfl rfl rfl (Nat.le_of_ble_eq_true rfl) dE_runProgram_92 (fun H locs hP hD hS => ?_)
    replace hP : va_P D vwCl (eW A C n ops nums vc vals d st ce pk pv pr w key pl dn tk 1) H := hP
    replace hD : va_D F (eW A C n ops nums vc vals d st ce pk pv pr w key pl dn tk 1) := hD
    refine lv_aload_n hx hb dE_runProgram_95 rfl (lv_at hl 0 rfl) ?_
    refine zGetE hx hb hw hown hK hP 0 rfl 16 (by decide) wf_E_72 rfl dE_runProgram_96 ?_
    refine zi_eq (tgt := 107) hx hb dE_runProgram_99 rfl (by omega) (fun q => absurd q (by omega)) (fun _ => ?_)
    refine lv_aload_n hx hb dE_runProgram_102 rfl (lv_at hl 0 rfl) ?_
    refine lv_iconst (v := nI 0) hx hb dE_runProgram_103 (by decide) ?_
    refine zPutE hx hb hw hown hK hP hD hS 0 rfl 6 (by decide) wf_E_92 rfl rfl rfl (Nat.le_of_ble_eq_true rfl) dE_runProgram_104 (fun H locs hP hD hS => ?_)
    replace hP : va_P D vwCl (eW A C n ops nums vc vals 0 st ce pk pv pr w key pl dn tk 1) H := hP
    replace hD : va_D F (eW A C n ops nums vc vals 0 st ce pk pv pr w key pl dn tk 1) := hD
    exact zVret (w' := fun (u : RP) => fW A C n ops nums vc vals w key dn (0, 1, (pl0, d0, st0, ce, pk, pv, pr, tk)) u) (st, pl) hx hb hr hlk hS hK trivial hP hD dE_runProgram_107
set_option maxHeartbeats 4000000 in
theorem runX2 {p : Program} {l : Launch} {e : Env} {s : State} {m : MethodId} {args : Array Value} {below : List Frame} {meth : Method} {c : Code} {F : Nat → Prop} {D : va_G} {A : Nat → Nat} {C : Nat → ClassId} (hx : p.tables.exec = Jvm.exec) (hb : c.code = cE_runProgram) (hr : meth.sig.returnType = none) (hlk : meth.locks = false) (hml : c.maxLocals = 5) (hw : ∀ w ∈ WS, w.before args s = true) (hown : s.vm.findClass RE = some m.cls) (hK : va_K D vwCl (eT C) s) (hA : ∀ q, s.heap.size ≤ q → F q) {ls : Array Slot} {H : Heap} {locs : List Loc} {n : Nat} {ops : Nat → Int32} {nums : Nat → Int64} {vc : Nat} {vals : Nat → Int64} {d : Nat} {st ce pk pv : Nat → Int64} {pr w : Nat} {key : Int64} {pl dn tk : Nat} (hn : n ≤ 40) (h : pl < n) (hP : va_P D vwCl (eW A C n ops nums vc vals d st ce pk pv pr w key pl dn tk 0) H) (hD : va_D F (eW A C n ops nums vc vals d st ce pk pv pr w key pl dn tk 0)) (hS : va_S F s.heap H locs) (hl : lv_has ls 5 [(0, .ref (A 0))]) : W p l e (rmk 4 94) s m args below meth c H locs 0 0 (MQ below (va_Qv (fun _ : RP => True) (fun (u : RP) t => zB D (eT C) F (fW A C n ops nums vc vals w key dn (0, 1, (pl, d, st, ce, pk, pv, pr, tk)) u) t) F) args s 0 0 F) (F0 m 79 ls []) := by
  refine lv_aload_n hx hb dE_runProgram_79 rfl (lv_at hl 0 rfl) ?_
  refine zGetE hx hb hw hown hK hP 0 rfl 13 (by decide) wf_E_113 rfl dE_runProgram_80 ?_
  refine lv_aload_n hx hb dE_runProgram_83 rfl (lv_at hl 0 rfl) ?_
  refine zGetE hx hb hw hown hK hP 0 rfl 2 (by decide) wf_E_43 rfl dE_runProgram_84 ?_
  refine zc_ge (tgt := 95) hx hb dE_runProgram_87 rfl (by omega) (by omega) (fun q => absurd q (by omega)) (fun _ => ?_)
  refine lv_aload_n hx hb dE_runProgram_90 rfl (lv_at hl 0 rfl) ?_
  refine lv_iconst (v := nI 1) hx hb dE_runProgram_91 (by decide) ?_
  refine zPutE hx hb hw hown hK hP hD hS 0 rfl 16 (by decide) wf_E_72 rfl rfl rfl (Nat.le_of_ble_eq_true rfl) dE_runProgram_92 (fun H locs hP hD hS => ?_)
  replace hP : va_P D vwCl (eW A C n ops nums vc vals d st ce pk pv pr w key pl dn tk 1) H := hP
  replace hD : va_D F (eW A C n ops nums vc vals d st ce pk pv pr w key pl dn tk 1) := hD
  refine lv_aload_n hx hb dE_runProgram_95 rfl (lv_at hl 0 rfl) ?_
  refine zGetE hx hb hw hown hK hP 0 rfl 16 (by decide) wf_E_72 rfl dE_runProgram_96 ?_
  refine zi_eq (tgt := 107) hx hb dE_runProgram_99 rfl (by omega) (fun q => absurd q (by omega)) (fun _ => ?_)
  refine lv_aload_n hx hb dE_runProgram_102 rfl (lv_at hl 0 rfl) ?_
  refine lv_iconst (v := nI 0) hx hb dE_runProgram_103 (by decide) ?_
  refine zPutE hx hb hw hown hK hP hD hS 0 rfl 6 (by decide) wf_E_92 rfl rfl rfl (Nat.le_of_ble_eq_true rfl) dE_runProgram_104 (fun H locs hP hD hS => ?_)
  replace hP : va_P D vwCl (eW A C n ops nums vc vals 0 st ce pk pv pr w key pl dn tk 1) H := hP
  replace hD : va_D F (eW A C n ops nums vc vals 0 st ce pk pv pr w key pl dn tk 1) := hD
  exact zVret (w' := fun (u : RP) => fW A C n ops nums vc vals w key dn (0, 1, (pl, d, st, ce, pk, pv, pr, tk)) u) (st, pl) hx hb hr hlk hS hK trivial hP hD dE_runProgram_107
set_option maxHeartbeats 4000000 in
theorem runX3 {p : Program} {l : Launch} {e : Env} {s : State} {m : MethodId} {args : Array Value} {below : List Frame} {meth : Method} {c : Code} {F : Nat → Prop} {D : va_G} {A : Nat → Nat} {C : Nat → ClassId} (hx : p.tables.exec = Jvm.exec) (hb : c.code = cE_runProgram) (hr : meth.sig.returnType = none) (hlk : meth.locks = false) (hml : c.maxLocals = 5) (hw : ∀ w ∈ WS, w.before args s = true) (hown : s.vm.findClass RE = some m.cls) (hK : va_K D vwCl (eT C) s) (hA : ∀ q, s.heap.size ≤ q → F q) {ls : Array Slot} {H : Heap} {locs : List Loc} {n : Nat} {ops : Nat → Int32} {nums : Nat → Int64} {vc : Nat} {vals : Nat → Int64} {d : Nat} {st ce pk pv : Nat → Int64} {pr w : Nat} {key : Int64} {pl dn tk : Nat} (hn : n ≤ 40) (hpl : pl ≤ 40) (h : n ≤ pl) (hP : va_P D vwCl (eW A C n ops nums vc vals d st ce pk pv pr w key pl dn tk 0) H) (hD : va_D F (eW A C n ops nums vc vals d st ce pk pv pr w key pl dn tk 0)) (hS : va_S F s.heap H locs) (hl : lv_has ls 5 [(0, .ref (A 0))]) : W p l e (rmk 4 94) s m args below meth c H locs 0 0 (MQ below (va_Qv (fun _ : RP => True) (fun (u : RP) t => zB D (eT C) F (fW A C n ops nums vc vals w key dn (0, 0, (pl, d, st, ce, pk, pv, pr, tk)) u) t) F) args s 0 0 F) (F0 m 79 ls []) := by
  refine lv_aload_n hx hb dE_runProgram_79 rfl (lv_at hl 0 rfl) ?_
  refine zGetE hx hb hw hown hK hP 0 rfl 13 (by decide) wf_E_113 rfl dE_runProgram_80 ?_
  refine lv_aload_n hx hb dE_runProgram_83 rfl (lv_at hl 0 rfl) ?_
  refine zGetE hx hb hw hown hK hP 0 rfl 2 (by decide) wf_E_43 rfl dE_runProgram_84 ?_
  refine zc_ge (tgt := 95) hx hb dE_runProgram_87 rfl (by omega) (by omega) (fun _ => ?_) (fun q => absurd q (by omega))
  refine lv_aload_n hx hb dE_runProgram_95 rfl (lv_at hl 0 rfl) ?_
  refine zGetE hx hb hw hown hK hP 0 rfl 16 (by decide) wf_E_72 rfl dE_runProgram_96 ?_
  refine zi_eq (tgt := 107) hx hb dE_runProgram_99 rfl (by omega) (fun _ => ?_) (fun q => absurd q (by omega))
  exact zVret (w' := fun (u : RP) => fW A C n ops nums vc vals w key dn (0, 0, (pl, d, st, ce, pk, pv, pr, tk)) u) (st, pl) hx hb hr hlk hS hK trivial hP hD dE_runProgram_107
set_option maxHeartbeats 4000000 in
theorem runT {p : Program} {l : Launch} {e : Env} {s : State} {m : MethodId} {args : Array Value} {below : List Frame} {meth : Method} {c : Code} {F : Nat → Prop} {D : va_G} {A : Nat → Nat} {C : Nat → ClassId} (hx : p.tables.exec = Jvm.exec) (hb : c.code = cE_runProgram) (hr : meth.sig.returnType = none) (hlk : meth.locks = false) (hml : c.maxLocals = 5) (hw : ∀ w ∈ WS, w.before args s = true) (hown : s.vm.findClass RE = some m.cls) (hK : va_K D vwCl (eT C) s) (hA : ∀ q, s.heap.size ≤ q → F q) {ls : Array Slot} {H : Heap} {locs : List Loc} {n : Nat} {ops : Nat → Int32} {nums : Nat → Int64} {vc : Nat} {vals : Nat → Int64} {d : Nat} {st ce pk pv : Nat → Int64} {pr w : Nat} {key : Int64} {pl dn tk : Nat} {pl0 d0 : Nat} {st0 : Nat → Int64} {i : Nat} (hn : n ≤ 40) (hpl : pl ≤ 40) (hi : i ≤ 400) (hP : va_P D vwCl (eW A C n ops nums vc vals d st ce pk pv pr w key pl dn tk 1) H) (hD : va_D F (eW A C n ops nums vc vals d st ce pk pv pr w key pl dn tk 1)) (hS : va_S F s.heap H locs) (hl : lv_has ls 5 [(1, .int (nI i)), (0, .ref (A 0))]) : W p l e (rmk 4 94) s m args below meth c H locs 0 0 (MQ below (va_Qv (fun _ : RP => True) (fun (u : RP) t => zB D (eT C) F (fW A C n ops nums vc vals w key dn (0, 1, (pl0, d0, st0, ce, pk, pv, pr, tk)) u) t) F) args s 0 0 F) (F0 m 2 ls []) := by
  refine lv_iload_n hx hb dE_runProgram_2 rfl (lv_at hl 0 rfl) ?_
  refine lv_sipush (v := nI 400) hx hb dE_runProgram_3 (by decide) ?_
  refine zc_ge (tgt := 79) hx hb dE_runProgram_6 rfl (by omega) (by omega) (fun h6 => ?_) (fun h6 => ?_)
  · exact runX1 hx hb hr hlk hml hw hown hK hA hn hpl hP hD hS (lv_sub hl [1] rfl)
  · refine lv_aload_n hx hb dE_runProgram_9 rfl (lv_at hl 1 rfl) ?_
    refine zGetE hx hb hw hown hK hP 0 rfl 13 (by decide) wf_E_113 rfl dE_runProgram_10 ?_
    refine lv_aload_n hx hb dE_runProgram_13 rfl (lv_at hl 1 rfl) ?_
    refine zGetE hx hb hw hown hK hP 0 rfl 2 (by decide) wf_E_43 rfl dE_runProgram_14 ?_
    refine zc_ge (tgt := 79) hx hb dE_runProgram_17 rfl (by omega) (by omega) (fun h17 => ?_) (fun h17 => ?_)
    · exact runX1 hx hb hr hlk hml hw hown hK hA hn hpl hP hD hS (lv_sub hl [1] rfl)
    · refine lv_aload_n hx hb dE_runProgram_20 rfl (lv_at hl 1 rfl) ?_
      refine zGetE hx hb hw hown hK hP 0 rfl 16 (by decide) wf_E_72 rfl dE_runProgram_21 ?_
      refine zi_ne (tgt := 79) hx hb dE_runProgram_24 rfl (by omega) (fun _ => ?_) (fun q => absurd q (by omega))
      exact runX1 hx hb hr hlk hml hw hown hK hA hn hpl hP hD hS (lv_sub hl [1] rfl)
set_option maxHeartbeats 4000000 in
theorem runL {p : Program} {l : Launch} {e : Env} {s : State} {m : MethodId} {args : Array Value} {below : List Frame} {meth : Method} {c : Code} {F : Nat → Prop} {D : va_G} {A : Nat → Nat} {C : Nat → ClassId} (hx : p.tables.exec = Jvm.exec) (hb : c.code = cE_runProgram) (hr : meth.sig.returnType = none) (hlk : meth.locks = false) (hml : c.maxLocals = 5) (hw : ∀ w ∈ WS, w.before args s = true) (hown : s.vm.findClass RE = some m.cls) (hK : va_K D vwCl (eT C) s) (hA : ∀ q, s.heap.size ≤ q → F q) {n : Nat} {ops : Nat → Int32} {nums : Nat → Int64} {vc : Nat} {vals : Nat → Int64} {w : Nat} {key : Int64} (hPI : PI n ops nums) (hvc : vc ≤ 40) (hw2 : w ≤ 2) : ∀ (f i : Nat) (d : Nat) (st ce pk pv : Nat → Int64) (pr pl dn tk : Nat) (ls : Array Slot) (H : Heap) (locs : List Loc), i + f = 400 → RI vc w pl d pr tk → va_P D vwCl (eW A C n ops nums vc vals d st ce pk pv pr w key pl dn tk 0) H → va_D F (eW A C n ops nums vc vals d st ce pk pv pr w key pl dn tk 0) → va_S F s.heap H locs → lv_has ls 5 [(1, .int (nI i)), (0, .ref (A 0))] → W p l e (rmk 4 94) s m args below meth c H locs 0 0 (MQ below (va_Qv (fun _ : RP => True) (fun (u : RP) t => zB D (eT C) F (fW A C n ops nums vc vals w key dn (runR n vc vals w key ops nums f (pl, d, st, ce, pk, pv, pr, tk)) u) t) F) args s 0 0 F) (F0 m 2 ls []) := by
  have hn := hPI.1
  intro f
  induction f with
  | zero =>
    intro i d st ce pk pv pr pl dn tk ls H locs hf hi hP hD hS hl
    refine lv_iload_n hx hb dE_runProgram_2 rfl (lv_at hl 0 rfl) ?_
    refine lv_sipush (v := nI 400) hx hb dE_runProgram_3 (by decide) ?_
    refine zc_ge (tgt := 79) hx hb dE_runProgram_6 rfl (by omega) (by omega) (fun _ => ?_) (fun q => absurd q (by omega))
    by_cases h9 : pl < n
    · rw [runR_long h9]
      exact runX2 hx hb hr hlk hml hw hown hK hA hn h9 hP hD hS (lv_sub hl [1] rfl)
    · rw [runR_end (by omega)]
      exact runX3 hx hb hr hlk hml hw hown hK hA hn hi.1 (by omega) hP hD hS (lv_sub hl [1] rfl)
  | succ f ih =>
    intro i d st ce pk pv pr pl dn tk ls H locs hf hi hP hD hS hl
    obtain ⟨i1, i2, i3, i4, i5⟩ := hi
    refine lv_iload_n hx hb dE_runProgram_2 rfl (lv_at hl 0 rfl) ?_
    refine lv_sipush (v := nI 400) hx hb dE_runProgram_3 (by decide) ?_
    refine zc_ge (tgt := 79) hx hb dE_runProgram_6 rfl (by omega) (by omega) (fun q => absurd q (by omega)) (fun _ => ?_)
    refine lv_aload_n hx hb dE_runProgram_9 rfl (lv_at hl 1 rfl) ?_
    refine zGetE hx hb hw hown hK hP 0 rfl 13 (by decide) wf_E_113 rfl dE_runProgram_10 ?_
    refine lv_aload_n hx hb dE_runProgram_13 rfl (lv_at hl 1 rfl) ?_
    refine zGetE hx hb hw hown hK hP 0 rfl 2 (by decide) wf_E_43 rfl dE_runProgram_14 ?_
    refine zc_ge (tgt := 79) hx hb dE_runProgram_17 rfl (by omega) (by omega) (fun h17 => ?_) (fun h17 => ?_)
    · rw [runR_end (by omega)]
      exact runX3 hx hb hr hlk hml hw hown hK hA hn i1 (by omega) hP hD hS (lv_sub hl [1] rfl)
    · refine lv_aload_n hx hb dE_runProgram_20 rfl (lv_at hl 1 rfl) ?_
      refine zGetE hx hb hw hown hK hP 0 rfl 16 (by decide) wf_E_72 rfl dE_runProgram_21 ?_
      refine zi_ne (tgt := 79) hx hb dE_runProgram_24 rfl (by omega) (fun q => absurd q (by omega)) (fun _ => ?_)
      refine lv_aload_n hx hb dE_runProgram_27 rfl (lv_at hl 1 rfl) ?_
      refine zGetE hx hb hw hown hK hP 0 rfl 0 (by decide) wf_E_9 rfl dE_runProgram_28 ?_
      refine lv_aload_n hx hb dE_runProgram_31 rfl (lv_at hl 1 rfl) ?_
      refine zGetE hx hb hw hown hK hP 0 rfl 13 (by decide) wf_E_113 rfl dE_runProgram_32 ?_
      refine zIald hx hb hK hP 1 0 rfl rfl (by omega) (by decide) dE_runProgram_35 ?_
      refine zti (hPI.2 pl (by omega)).2 ?_
      refine lv_istore_n hx hb dE_runProgram_36 rfl hl (by decide) rfl (fun ls hl => ?_)
      have hl : lv_has ls 5 [(2, .int (nI (oN (ops pl)))), (1, .int (nI i)), (0, .ref (A 0))] := hl
      refine lv_aload_n hx hb dE_runProgram_37 rfl (lv_at hl 2 rfl) ?_
      refine zGetE hx hb hw hown hK hP 0 rfl 1 (by decide) wf_E_13 rfl dE_runProgram_38 ?_
      refine lv_aload_n hx hb dE_runProgram_41 rfl (lv_at hl 2 rfl) ?_
      refine zGetE hx hb hw hown hK hP 0 rfl 13 (by decide) wf_E_113 rfl dE_runProgram_42 ?_
      refine zLald hx hb hK hP 2 1 rfl rfl (by omega) (by decide) dE_runProgram_45 ?_
      refine lv_lstore_n hx hb dE_runProgram_46 rfl hl (by decide) rfl (fun ls hl => ?_)
      have hl : lv_has ls 5 [(3, .long (nums pl)), (2, .int (nI (oN (ops pl)))), (1, .int (nI i)), (0, .ref (A 0))] := hl
      refine lv_aload_n hx hb dE_runProgram_47 rfl (lv_at hl 3 rfl) ?_
      refine lv_dup hx hb dE_runProgram_48 rfl ?_
      refine zGetE hx hb hw hown hK hP 0 rfl 13 (by decide) wf_E_113 rfl dE_runProgram_49 ?_
      refine lv_iconst (v := nI 1) hx hb dE_runProgram_52 (by decide) ?_
      refine lv_iadd hx hb dE_runProgram_53 ?_
      refine zti (nI_add _ _) ?_
      refine zPutE hx hb hw hown hK hP hD hS 0 rfl 13 (by decide) wf_E_113 rfl rfl rfl (Nat.le_of_ble_eq_true rfl) dE_runProgram_54 (fun H locs hP hD hS => ?_)
      replace hP : va_P D vwCl (eW A C n ops nums vc vals d st ce pk pv pr w key (pl + 1) dn tk 0) H := hP
      replace hD : va_D F (eW A C n ops nums vc vals d st ce pk pv pr w key (pl + 1) dn tk 0) := hD
      refine lv_aload_n hx hb dE_runProgram_57 rfl (lv_at hl 3 rfl) ?_
      refine lv_dup hx hb dE_runProgram_58 rfl ?_
      refine zGetE hx hb hw hown hK hP 0 rfl 14 (by decide) wf_E_89 rfl dE_runProgram_59 ?_
      refine lv_iconst (v := nI 1) hx hb dE_runProgram_62 (by decide) ?_
      refine lv_iadd hx hb dE_runProgram_63 ?_
      refine zti (nI_add _ _) ?_
      refine zPutE hx hb hw hown hK hP hD hS 0 rfl 14 (by decide) wf_E_89 rfl rfl rfl (Nat.le_of_ble_eq_true rfl) dE_runProgram_64 (fun H locs hP hD hS => ?_)
      replace hP : va_P D vwCl (eW A C n ops nums vc vals d st ce pk pv pr w key (pl + 1) (dn + 1) tk 0) H := hP
      replace hD : va_D F (eW A C n ops nums vc vals d st ce pk pv pr w key (pl + 1) (dn + 1) tk 0) := hD
      refine lv_aload_n hx hb dE_runProgram_67 rfl (lv_at hl 3 rfl) ?_
      refine lv_iload_n hx hb dE_runProgram_68 rfl (lv_at hl 1 rfl) ?_
      refine lv_lload_n hx hb dE_runProgram_69 rfl (lv_at hl 0 rfl) ?_
      rcases hs : stp n vc vals w key (oN (ops pl)) (nums pl) (pl + 1) d st ce pk pv pr tk with _ | ⟨pl', d', st', ce', pk', pv', pr', tk'⟩
      · refine zAftv0 (zRunV0 ⟨hx, hb, hml, hown, hw⟩ (perf_trap l D A C _ n ops nums vc vals d st ce pk pv pr w key (pl + 1) (dn + 1) tk (oN (ops pl)) (nums pl) (hPI.2 pl (by omega)).1 i2 hvc i4 hw2 i3 (by omega) hs) wm_E_116 wi_E_perform ws_E_perform wn_E wc_E_perform ⟨rfl, rfl⟩ wd_E_perform ⟨by decide, by decide⟩ hK hP hD 0 rfl rfl rfl hl.1 rfl (Nat.le_of_ble_eq_true rfl) dE_runProgram_70 ⟨by decide, by decide⟩) hP hD hS hA (fun u H locs hp hP hD hS => ?_)
        replace hP : va_P D vwCl (eW A C n ops nums vc vals u.1 u.2.1 ce pk pv pr w key u.2.2 (dn + 1) tk 1) H := hP
        replace hD : va_D F (eW A C n ops nums vc vals u.1 u.2.1 ce pk pv pr w key u.2.2 (dn + 1) tk 1) := hD
        refine lv_iinc (k := 2) (v := nI (i + 1)) hx hb dE_runProgram_73 hl rfl (nI_add _ _) (by decide) rfl (fun ls hl => ?_)
        have hl : lv_has ls 5 [(1, .int (nI (i + 1))), (3, .long (nums pl)), (2, .int (nI (oN (ops pl)))), (0, .ref (A 0))] := hl
        refine lv_goto (tgt := 2) hx hb dE_runProgram_76 rfl ?_
        rw [runR_trap h17 hs]
        exact runT (dn := dn + 1) (pl0 := pl) (d0 := d) (st0 := st) hx hb hr hlk hml hw hown hK hA hn hp.2 (by omega) hP hD hS (lv_sub hl [0, 3] rfl)
      · refine zAftv0 (zRunV0 ⟨hx, hb, hml, hown, hw⟩ (perf_ok l D A C _ n ops nums vc vals d st ce pk pv pr w key (pl + 1) (dn + 1) tk (oN (ops pl)) (nums pl) (hPI.2 pl (by omega)).1 i2 hvc i4 hw2 i3 (by omega) hs) wm_E_116 wi_E_perform ws_E_perform wn_E wc_E_perform ⟨rfl, rfl⟩ wd_E_perform ⟨by decide, by decide⟩ hK hP hD 0 rfl rfl rfl hl.1 rfl (Nat.le_of_ble_eq_true rfl) dE_runProgram_70 ⟨by decide, by decide⟩) hP hD hS hA (fun u H locs hp hP hD hS => ?_)
        replace hP : va_P D vwCl (eW A C n ops nums vc vals d' st' ce' pk' pv' pr' w key pl' (dn + 1) tk' 0) H := hP
        replace hD : va_D F (eW A C n ops nums vc vals d' st' ce' pk' pv' pr' w key pl' (dn + 1) tk' 0) := hD
        refine lv_iinc (k := 2) (v := nI (i + 1)) hx hb dE_runProgram_73 hl rfl (nI_add _ _) (by decide) rfl (fun ls hl => ?_)
        have hl : lv_has ls 5 [(1, .int (nI (i + 1))), (3, .long (nums pl)), (2, .int (nI (oN (ops pl)))), (0, .ref (A 0))] := hl
        refine lv_goto (tgt := 2) hx hb dE_runProgram_76 rfl ?_
        rw [runR_go h17 hs]
        have e9 := ih (i + 1) d' st' ce' pk' pv' pr' pl' (dn + 1) tk' ls H locs (by omega) (stp_inv hn (hPI.2 pl (by omega)).1 ⟨by omega, i2, i3, i4, i5⟩ hs) hP hD hS (lv_sub hl [0, 3] rfl)
        simp only [fW_go] at e9
        exact e9
set_option maxHeartbeats 4000000 in
theorem c_runProgram (l : Launch) (D : va_G) (A : Nat → Nat) (C : Nat → ClassId) (sz : Nat) (n : Nat) (ops : Nat → Int32) (nums : Nat → Int64) (vc : Nat) (vals : Nat → Int64) (d : Nat) (st ce pk pv : Nat → Int64) (pr w : Nat) (key : Int64) (pl dn tk : Nat) (hPI : PI n ops nums) (hvc : vc ≤ 40) (hw2 : w ≤ 2) (hi : RI vc w pl d pr tk) : Met l yE_runProgram (.code yE_runProgram cE_runProgram 5 none :: WS) (rmk 4 94) (va_Pc [.ref (A 0)] (zP D (eT C) sz (eW A C n ops nums vc vals d st ce pk pv pr w key pl dn tk 0))) (va_Qv (fun _ : RP => True) (fun (u : RP) t => zB D (eT C) (va_A (eW A C n ops nums vc vals d st ce pk pv pr w key pl dn tk 0) sz) (fW A C n ops nums vc vals w key dn (runR n vc vals w key ops nums 400 (pl, d, st, ce, pk, pv, pr, tk)) u) t) (va_A (eW A C n ops nums vc vals d st ce pk pv pr w key pl dn tk 0) sz)) 0 0 (va_A (eW A C n ops nums vc vals d st ce pk pv pr w key pl dn tk 0) sz) := by
  refine zEnt (Qc := fun F => (va_Qv (fun _ : RP => True) (fun (u : RP) t => zB D (eT C) F (fW A C n ops nums vc vals w key dn (runR n vc vals w key ops nums 400 (pl, d, st, ce, pk, pv, pr, tk)) u) t) F)) (by decide) (Nat.le_of_ble_eq_true rfl) (fun p e s m below meth c ls F hx hb hr hlk hml hnm hw hown hsz hP hK hD hA hl => ?_)
  have hS : va_S F s.heap s.heap [] := va_S.rf
  have hown : s.vm.findClass RE = some m.cls := hown
  have hl : lv_has ls 5 [(0, .ref (A 0))] := hl
  refine lv_iconst (v := nI 0) hx hb dE_runProgram_0 (by decide) ?_
  refine lv_istore_n hx hb dE_runProgram_1 rfl hl (by decide) rfl (fun ls hl => ?_)
  have hl : lv_has ls 5 [(1, .int (nI 0)), (0, .ref (A 0))] := hl
  exact runL hx hb hr hlk hml hw hown hK hA hPI hvc hw2 400 0 d st ce pk pv pr pl dn tk ls s.heap [] rfl hi hP hD hS hl
