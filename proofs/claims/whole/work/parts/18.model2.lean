/-! EmitDeskModel: isDone held against the mathematical run -/
theorem ixL_lN {i : Nat} (h : i < 2 ^ 31) : ixL (lN i) = i := by unfold ixL; rw [lN_toInt h]; omega
theorem lN_of {x : Int64} {m : Nat} (h : 0 ≤ x.toInt ∧ x.toInt ≤ m) : ∃ i, i ≤ m ∧ x = lN i := ⟨ixL x, by unfold ixL; omega, (lN_ix h.1).symm⟩

set_option maxRecDepth 20000 in
set_option maxHeartbeats 4000000 in
theorem mGo {p : Program} {l : Launch} {e : Env} {s : State} {m : MethodId} {args : Array Value} {below : List Frame} {meth : Method} {c : Code} {F : Nat → Prop} {D : va_G} {A : Nat → Nat} {C : Nat → ClassId} (hx : p.tables.exec = Jvm.exec) (hb : c.code = cM_isDone) (hr : meth.sig.returnType = (some .boolean)) (hlk : meth.locks = false) (hml : c.maxLocals = 14) (hw : ∀ w ∈ WS, w.before args s = true) (hown : s.vm.findClass RM = some m.cls) (hK : va_K D vwCl (mT C) s) (hA : ∀ q, s.heap.size ≤ q → F q) {Q : State → Prop} {ls : Array Slot} {H : Heap} {locs : List Loc} {ops : Nat → Int32} {nums vals st ce pk pv : Nat → Int64} {n vc sp d pr tk th tr : Nat} {w pl : Nat} {key x : Int64} {o : Nat} {pl' d' : Nat} {st' ce' pk' pv' : Nat → Int64} {pr' tk' : Nat} (ho : okI o x) (hd : d ≤ 12) (hw2 : w ≤ 2) (hvc : vc ≤ 40) (htk : tk ≤ vc) (hpr : pr ≤ 4) (hpl : pl ≤ 40) (hw0 : w = 0 → tk = 0) (h : stp n vc vals w key o x pl d st ce pk pv pr tk = some (pl', d', st', ce', pk', pv', pr', tk')) (h18 : o ≠ 18) (hP : va_P D vwCl (mW A C ops nums vals st ce pk pv n vc sp d pr tk th tr) H) (hD : va_D F (mW A C ops nums vals st ce pk pv n vc sp d pr tk th tr)) (hS : va_S F s.heap H locs) (hl : lv_has ls 14 [(4, .int (nI pl)), (6, .long x), (5, .int (nI o)), (0, .ref (A 0)), (1, .int (nI w)), (2, .long key)]) (kk : ∀ (ls : Array Slot) (H : Heap) (locs : List Loc), va_P D vwCl (mW A C ops nums vals st' ce' pk' pv' n vc sp d' pr' tk' th tr) H → va_D F (mW A C ops nums vals st' ce' pk' pv' n vc sp d' pr' tk' th tr) → va_S F s.heap H locs → lv_has ls 14 [(4, .int (nI pl')), (0, .ref (A 0)), (1, .int (nI w)), (2, .long key)] → W p l e (rmk 0 0) s m args below meth c H locs 0 0 Q (F0 m 3 ls [])) : W p l e (rmk 0 0) s m args below meth c H locs 0 0 Q (F0 m 55 ls []) := by
  obtain ⟨ho1, ho2, ho3⟩ := ho
  rcases (show o = 0 ∨ o = 1 ∨ o = 2 ∨ o = 3 ∨ o = 4 ∨ o = 5 ∨ o = 6 ∨ o = 7 ∨ o = 8 ∨ o = 9 ∨ o = 10 ∨ o = 11 ∨ o = 12 ∨ o = 13 ∨ o = 14 ∨ o = 15 ∨ o = 16 ∨ o = 17 ∨ o = 18 by omega) with rfl | rfl | rfl | rfl | rfl | rfl | rfl | rfl | rfl | rfl | rfl | rfl | rfl | rfl | rfl | rfl | rfl | rfl | rfl
  · simp only [stp] at h
    split at h
    · rename_i g
      cases h
      exact mO0 hx hb hr hlk hml hw hown hK hA hd hw2 hvc htk hpr hpl g hP hD hS hl kk
    · cases h
  · simp only [stp] at h
    split at h
    · rename_i g
      cases h
      exact mO1 hx hb hr hlk hml hw hown hK hA hd hw2 hvc htk hpr hpl g hP hD hS hl kk
    · cases h
  · simp only [stp] at h
    split at h
    · rename_i g
      by_cases hz : w = 0
      · subst hz
        rw [if_pos rfl] at h
        cases h
        have e0 := hw0 rfl
        subst e0
        exact mO2a hx hb hr hlk hml hw hown hK hA hd hw2 hvc htk hpr hpl g.2 g.1 hP hD hS hl kk
      · rw [if_neg hz] at h
        cases h
        exact mO2b hx hb hr hlk hml hw hown hK hA hd hw2 hvc htk hpr hpl g.2 g.1 (by omega) hP hD hS hl kk
    · cases h
  · simp only [stp] at h
    split at h
    · rename_i g
      cases h
      exact mO3 hx hb hr hlk hml hw hown hK hA hd hw2 hvc htk hpr hpl g hP hD hS hl kk
    · cases h
  · simp only [stp] at h
    obtain ⟨i, hi, rfl⟩ := lN_of (m := 3) (ho2 (by omega))
    rw [ixL_lN (by omega)] at h
    split at h
    · rename_i g
      cases h
      exact mO4 (x := 0) hx hb hr hlk hml hw hown hK hA hd hw2 hvc htk hpr hpl g (by omega) hP hD hS hl kk
    · cases h
  · simp only [stp] at h
    obtain ⟨i, hi, rfl⟩ := lN_of (m := 3) (ho2 (by omega))
    rw [ixL_lN (by omega)] at h
    split at h
    · rename_i g
      cases h
      exact mO5 (x := 0) hx hb hr hlk hml hw hown hK hA hd hw2 hvc htk hpr hpl g (by omega) hP hD hS hl kk
    · cases h
  · simp only [stp] at h
    split at h
    · rename_i g
      cases h
      exact mO6 hx hb hr hlk hml hw hown hK hA hd hw2 hvc htk hpr hpl g hP hD hS hl kk
    · cases h
  · simp only [stp] at h
    split at h
    · rename_i g
      cases h
      exact mO7 hx hb hr hlk hml hw hown hK hA hd hw2 hvc htk hpr hpl g hP hD hS hl kk
    · cases h
  · simp only [stp] at h
    split at h
    · rename_i g
      cases h
      exact mO8 hx hb hr hlk hml hw hown hK hA hd hw2 hvc htk hpr hpl g hP hD hS hl kk
    · cases h
  · simp only [stp] at h
    split at h
    · rename_i g
      cases h
      exact mO9 hx hb hr hlk hml hw hown hK hA hd hw2 hvc htk hpr hpl g.1 g.2 hP hD hS hl kk
    · cases h
  · simp only [stp] at h
    split at h
    · rename_i g
      cases h
      exact mO10 hx hb hr hlk hml hw hown hK hA hd hw2 hvc htk hpr hpl g hP hD hS hl kk
    · cases h
  · simp only [stp] at h
    split at h
    · rename_i g
      cases h
      exact mO11 hx hb hr hlk hml hw hown hK hA hd hw2 hvc htk hpr hpl g hP hD hS hl kk
    · cases h
  · simp only [stp] at h
    split at h
    · rename_i g
      cases h
      exact mO12 hx hb hr hlk hml hw hown hK hA hd hw2 hvc htk hpr hpl g.1 g.2 hP hD hS hl kk
    · cases h
  · simp only [stp] at h
    split at h
    · rename_i g
      cases h
      exact mO13 hx hb hr hlk hml hw hown hK hA hd hw2 hvc htk hpr hpl g hP hD hS hl kk
    · cases h
  · simp only [stp] at h
    split at h
    · rename_i g
      cases h
      exact mO14 hx hb hr hlk hml hw hown hK hA hd hw2 hvc htk hpr hpl g hP hD hS hl kk
    · cases h
  · simp only [stp] at h
    obtain ⟨i, hi, rfl⟩ := lN_of (m := 40) (ho3 (by omega))
    rw [ixL_lN (by omega)] at h
    cases h
    exact mO15 (x := 0) hx hb hr hlk hml hw hown hK hA hd hw2 hvc htk hpr hpl  hP hD hS hl kk
  · simp only [stp] at h
    obtain ⟨i, hi, rfl⟩ := lN_of (m := 40) (ho3 (by omega))
    rw [ixL_lN (by omega)] at h
    split at h
    · rename_i g
      by_cases hz : st (d - 1) = 0
      · rw [if_pos hz] at h
        cases h
        exact mO16Y (x := 0) hx hb hr hlk hml hw hown hK hA hd hw2 hvc htk hpr hpl g hz hP hD hS hl kk
      · rw [if_neg hz] at h
        cases h
        exact mO16N (x := 0) hx hb hr hlk hml hw hown hK hA hd hw2 hvc htk hpr hpl g hz hP hD hS hl kk
    · cases h
  · simp only [stp] at h
    by_cases hw1 : w = 1
    · subst hw1
      rw [if_pos rfl] at h
      split at h
      · rename_i g
        cases h
        exact mO17a hx hb hr hlk hml hw hown hK hA hd hw2 hvc htk hpr hpl g.1 g.2 hP hD hS hl kk
      · cases h
    · rw [if_neg hw1] at h
      split at h
      · rename_i g
        cases h
        exact mO17b hx hb hr hlk hml hw hown hK hA hd hw2 hvc htk hpr hpl g.1 g.2 hw1 hP hD hS hl kk
      · cases h
  · exact absurd rfl h18
set_option maxRecDepth 20000 in
set_option maxHeartbeats 4000000 in
theorem mTr {p : Program} {l : Launch} {e : Env} {s : State} {m : MethodId} {args : Array Value} {below : List Frame} {meth : Method} {c : Code} {F : Nat → Prop} {D : va_G} {A : Nat → Nat} {C : Nat → ClassId} (hx : p.tables.exec = Jvm.exec) (hb : c.code = cM_isDone) (hr : meth.sig.returnType = (some .boolean)) (hlk : meth.locks = false) (hml : c.maxLocals = 14) (hw : ∀ w ∈ WS, w.before args s = true) (hown : s.vm.findClass RM = some m.cls) (hK : va_K D vwCl (mT C) s) (hA : ∀ q, s.heap.size ≤ q → F q) {Q : State → Prop} {ls : Array Slot} {H : Heap} {locs : List Loc} {ops : Nat → Int32} {nums vals st ce pk pv : Nat → Int64} {n vc sp d pr tk th tr : Nat} {w pl : Nat} {key x : Int64} {o : Nat} (ho : okI o x) (hd : d ≤ 12) (hw2 : w ≤ 2) (hvc : vc ≤ 40) (htk : tk ≤ vc) (hpr : pr ≤ 4) (hpl : pl ≤ 40) (hw0 : w = 0 → tk = 0) (h : stp n vc vals w key o x pl d st ce pk pv pr tk = none) (hP : va_P D vwCl (mW A C ops nums vals st ce pk pv n vc sp d pr tk th tr) H) (hD : va_D F (mW A C ops nums vals st ce pk pv n vc sp d pr tk th tr)) (hS : va_S F s.heap H locs) (hl : lv_has ls 14 [(4, .int (nI pl)), (6, .long x), (5, .int (nI o)), (0, .ref (A 0)), (1, .int (nI w)), (2, .long key)]) (kk : ∀ (pc : Nat) (ls : Array Slot), decode cM_isDone pc = .ok (.ireturn, 1) → W p l e (rmk 0 0) s m args below meth c H locs 0 0 Q (F0 m pc ls [.int (nI 0)])) : W p l e (rmk 0 0) s m args below meth c H locs 0 0 Q (F0 m 55 ls []) := by
  obtain ⟨ho1, ho2, ho3⟩ := ho
  rcases (show o = 0 ∨ o = 1 ∨ o = 2 ∨ o = 3 ∨ o = 4 ∨ o = 5 ∨ o = 6 ∨ o = 7 ∨ o = 8 ∨ o = 9 ∨ o = 10 ∨ o = 11 ∨ o = 12 ∨ o = 13 ∨ o = 14 ∨ o = 15 ∨ o = 16 ∨ o = 17 ∨ o = 18 by omega) with rfl | rfl | rfl | rfl | rfl | rfl | rfl | rfl | rfl | rfl | rfl | rfl | rfl | rfl | rfl | rfl | rfl | rfl | rfl
  · simp only [stp] at h
    split at h
    · cases h
    · exact mT0f hx hb hr hlk hml hw hown hK hA hd hw2 hvc htk hpr hpl (by omega) hP hD hS hl kk
  · simp only [stp] at h
    split at h
    · cases h
    · exact mT1f hx hb hr hlk hml hw hown hK hA hd hw2 hvc htk hpr hpl (by omega) hP hD hS hl kk
  · simp only [stp] at h
    split at h
    · cases h
    · rename_i g
      by_cases hf : d = 12
      · exact mT2f hx hb hr hlk hml hw hown hK hA hd hw2 hvc htk hpr hpl hf hP hD hS hl kk
      · by_cases hz : w = 0
        · subst hz
          have e0 := hw0 rfl
          exact mT2a hx hb hr hlk hml hw hown hK hA hd hw2 hvc htk hpr hpl (by omega) (by omega) hP hD hS hl kk
        · exact mT2b hx hb hr hlk hml hw hown hK hA hd hw2 hvc htk hpr hpl (by omega) (by omega) (by omega) hP hD hS hl kk
  · simp only [stp] at h
    split at h
    · cases h
    · exact mT3f hx hb hr hlk hml hw hown hK hA hd hw2 hvc htk hpr hpl (by omega) hP hD hS hl kk
  · simp only [stp] at h
    split at h
    · cases h
    · exact mT4f hx hb hr hlk hml hw hown hK hA hd hw2 hvc htk hpr hpl (by omega) hP hD hS hl kk
  · simp only [stp] at h
    split at h
    · cases h
    · exact mT5 hx hb hr hlk hml hw hown hK hA hd hw2 hvc htk hpr hpl (by omega) hP hD hS hl kk
  · simp only [stp] at h
    split at h
    · cases h
    · exact mT6 hx hb hr hlk hml hw hown hK hA hd hw2 hvc htk hpr hpl (by omega) hP hD hS hl kk
  · simp only [stp] at h
    split at h
    · cases h
    · exact mT7 hx hb hr hlk hml hw hown hK hA hd hw2 hvc htk hpr hpl (by omega) hP hD hS hl kk
  · simp only [stp] at h
    split at h
    · cases h
    · exact mT8 hx hb hr hlk hml hw hown hK hA hd hw2 hvc htk hpr hpl (by omega) hP hD hS hl kk
  · simp only [stp] at h
    split at h
    · cases h
    · rename_i g
      by_cases h2 : 2 ≤ d
      · exact mT9z hx hb hr hlk hml hw hown hK hA hd hw2 hvc htk hpr hpl h2 (Classical.byContradiction (fun q => g ⟨h2, q⟩)) hP hD hS hl kk
      · exact mT9 hx hb hr hlk hml hw hown hK hA hd hw2 hvc htk hpr hpl (by omega) hP hD hS hl kk
  · simp only [stp] at h
    split at h
    · cases h
    · exact mT10 hx hb hr hlk hml hw hown hK hA hd hw2 hvc htk hpr hpl (by omega) hP hD hS hl kk
  · simp only [stp] at h
    split at h
    · cases h
    · exact mT11 hx hb hr hlk hml hw hown hK hA hd hw2 hvc htk hpr hpl (by omega) hP hD hS hl kk
  · simp only [stp] at h
    split at h
    · cases h
    · by_cases h1 : d = 0
      · exact mT12 hx hb hr hlk hml hw hown hK hA hd hw2 hvc htk hpr hpl h1 hP hD hS hl kk
      · exact mT12f hx hb hr hlk hml hw hown hK hA hd hw2 hvc htk hpr hpl (by omega) hP hD hS hl kk
  · simp only [stp] at h
    split at h
    · cases h
    · exact mT13 hx hb hr hlk hml hw hown hK hA hd hw2 hvc htk hpr hpl (by omega) hP hD hS hl kk
  · simp only [stp] at h
    split at h
    · cases h
    · exact mT14 hx hb hr hlk hml hw hown hK hA hd hw2 hvc htk hpr hpl (by omega) hP hD hS hl kk
  · simp only [stp] at h
    cases h
  · simp only [stp] at h
    split at h
    · cases h
    · exact mT16 hx hb hr hlk hml hw hown hK hA hd hw2 hvc htk hpr hpl (by omega) hP hD hS hl kk
  · simp only [stp] at h
    by_cases hw1 : w = 1
    · subst hw1
      rw [if_pos rfl] at h
      split at h
      · cases h
      · by_cases h1 : d = 0
        · exact mT17a hx hb hr hlk hml hw hown hK hA hd hw2 hvc htk hpr hpl h1 hP hD hS hl kk
        · exact mT17af hx hb hr hlk hml hw hown hK hA hd hw2 hvc htk hpr hpl (by omega) (by omega) hP hD hS hl kk
    · rw [if_neg hw1] at h
      split at h
      · cases h
      · by_cases h2 : 2 ≤ d
        · exact mT17bf hx hb hr hlk hml hw hown hK hA hd hw2 hvc htk hpr hpl h2 (by omega) hw1 hP hD hS hl kk
        · exact mT17b hx hb hr hlk hml hw hown hK hA hd hw2 hvc htk hpr hpl (by omega) hw1 hP hD hS hl kk
  · simp only [stp] at h
    cases h
abbrev mF (A : Nat → Nat) (C : Nat → ClassId) (ops : Nat → Int32) (nums vals : Nat → Int64) (n vc th tr sp : Nat) (q : Nat × Nat × RS) : va_W :=
  mW A C ops nums vals q.2.2.2.2.1 q.2.2.2.2.2.1 q.2.2.2.2.2.2.1 q.2.2.2.2.2.2.2.1 n vc (sp + q.1) q.2.2.2.1 q.2.2.2.2.2.2.2.2.1 q.2.2.2.2.2.2.2.2.2 th tr
theorem mF_go {A : Nat → Nat} {C : Nat → ClassId} {ops : Nat → Int32} {nums vals : Nat → Int64} {n vc th tr sp : Nat} {q : Nat × Nat × RS} : mF A C ops nums vals n vc th tr (sp + 1) q = mF A C ops nums vals n vc th tr sp (q.1 + 1, q.2) := by
  show mW _ _ _ _ _ _ _ _ _ _ _ (sp + 1 + q.1) _ _ _ _ _ = _
  rw [show sp + 1 + q.1 = sp + (q.1 + 1) by omega]
set_option maxRecDepth 20000 in
set_option maxHeartbeats 4000000 in
theorem mL {p : Program} {l : Launch} {e : Env} {s : State} {m : MethodId} {args : Array Value} {below : List Frame} {meth : Method} {c : Code} {F : Nat → Prop} {D : va_G} {A : Nat → Nat} {C : Nat → ClassId} (hx : p.tables.exec = Jvm.exec) (hb : c.code = cM_isDone) (hr : meth.sig.returnType = (some .boolean)) (hlk : meth.locks = false) (hml : c.maxLocals = 14) (hw : ∀ w ∈ WS, w.before args s = true) (hown : s.vm.findClass RM = some m.cls) (hK : va_K D vwCl (mT C) s) (hA : ∀ q, s.heap.size ≤ q → F q) {ops : Nat → Int32} {nums vals : Nat → Int64} {n vc th tr w : Nat} {key : Int64} (hPI : PI n ops nums) (hvc : vc ≤ 40) (hw2 : w ≤ 2) : ∀ (f sp d : Nat) (st ce pk pv : Nat → Int64) (pr pl tk : Nat) (ls : Array Slot) (H : Heap) (locs : List Loc), sp + f = 400 → RI vc w pl d pr tk → va_P D vwCl (mW A C ops nums vals st ce pk pv n vc sp d pr tk th tr) H → va_D F (mW A C ops nums vals st ce pk pv n vc sp d pr tk th tr) → va_S F s.heap H locs → lv_has ls 14 [(4, .int (nI pl)), (0, .ref (A 0)), (1, .int (nI w)), (2, .long key)] → W p l e (rmk 0 0) s m args below meth c H locs 0 0 (MQ below (va_Qi (fun (r : Int32) (_ : Unit) => r = nI (1 - (runR n vc vals w key ops nums f (pl, d, st, ce, pk, pv, pr, tk)).2.1)) (fun (_ : Unit) t => zB D (mT C) F (mF A C ops nums vals n vc th tr sp (runR n vc vals w key ops nums f (pl, d, st, ce, pk, pv, pr, tk))) t) F) args s 0 0 F) (F0 m 3 ls []) := by
  have hn := hPI.1
  intro f
  induction f with
  | zero =>
    intro sp d st ce pk pv pr pl tk ls H locs hf hi hP hD hS hl
    obtain ⟨i1, i2, i3, i4, i5⟩ := hi
    by_cases h9 : pl < n
    · rw [runR_long h9]
      refine lv_iload hx hb dM_isDone_3 (lv_at hl 0 rfl) ?_
      refine lv_aload_n hx hb dM_isDone_5 rfl (lv_at hl 1 rfl) ?_
      refine zGetM hx hb hw hown hK hP 0 rfl 7 (by decide) wf_M_40 rfl dM_isDone_6 ?_
      refine zc_ge (tgt := 709) hx hb dM_isDone_9 rfl (by omega) (by omega) (fun q => absurd q (by omega)) (fun _ => ?_)
      refine lv_aload_n hx hb dM_isDone_12 rfl (lv_at hl 1 rfl) ?_
      refine zGetM hx hb hw hown hK hP 0 rfl 9 (by decide) wf_M_46 rfl dM_isDone_13 ?_
      refine lv_sipush (v := nI 400) hx hb dM_isDone_16 (by decide) ?_
      refine zc_ne (tgt := 24) hx hb dM_isDone_19 rfl (by omega) (by omega) (fun q => absurd q (by omega)) (fun _ => ?_)
      refine lv_iconst (v := nI 0) hx hb dM_isDone_22 (by decide) ?_
      exact zZret (w' := fun (_ : Unit) => mF A C ops nums vals n vc th tr sp (0, 1, (pl, d, st, ce, pk, pv, pr, tk))) () hx hb hr (by decide) hlk hS hK rfl hP hD dM_isDone_23
    · rw [runR_end (by omega)]
      refine lv_iload hx hb dM_isDone_3 (lv_at hl 0 rfl) ?_
      refine lv_aload_n hx hb dM_isDone_5 rfl (lv_at hl 1 rfl) ?_
      refine zGetM hx hb hw hown hK hP 0 rfl 7 (by decide) wf_M_40 rfl dM_isDone_6 ?_
      refine zc_ge (tgt := 709) hx hb dM_isDone_9 rfl (by omega) (by omega) (fun _ => ?_) (fun q => absurd q (by omega))
      refine lv_iconst (v := nI 1) hx hb dM_isDone_709 (by decide) ?_
      exact zZret (w' := fun (_ : Unit) => mF A C ops nums vals n vc th tr sp (0, 0, (pl, d, st, ce, pk, pv, pr, tk))) () hx hb hr (by decide) hlk hS hK rfl hP hD dM_isDone_710
  | succ f ih =>
    intro sp d st ce pk pv pr pl tk ls H locs hf hi hP hD hS hl
    obtain ⟨i1, i2, i3, i4, i5⟩ := hi
    by_cases h9 : pl < n
    · skip
      refine lv_iload hx hb dM_isDone_3 (lv_at hl 0 rfl) ?_
      refine lv_aload_n hx hb dM_isDone_5 rfl (lv_at hl 1 rfl) ?_
      refine zGetM hx hb hw hown hK hP 0 rfl 7 (by decide) wf_M_40 rfl dM_isDone_6 ?_
      refine zc_ge (tgt := 709) hx hb dM_isDone_9 rfl (by omega) (by omega) (fun q => absurd q (by omega)) (fun _ => ?_)
      refine lv_aload_n hx hb dM_isDone_12 rfl (lv_at hl 1 rfl) ?_
      refine zGetM hx hb hw hown hK hP 0 rfl 9 (by decide) wf_M_46 rfl dM_isDone_13 ?_
      refine lv_sipush (v := nI 400) hx hb dM_isDone_16 (by decide) ?_
      refine zc_ne (tgt := 24) hx hb dM_isDone_19 rfl (by omega) (by omega) (fun _ => ?_) (fun q => absurd q (by omega))
      refine lv_aload_n hx hb dM_isDone_24 rfl (lv_at hl 1 rfl) ?_
      refine lv_dup hx hb dM_isDone_25 rfl ?_
      refine zGetM hx hb hw hown hK hP 0 rfl 9 (by decide) wf_M_46 rfl dM_isDone_26 ?_
      refine lv_iconst (v := nI 1) hx hb dM_isDone_29 (by decide) ?_
      refine lv_iadd hx hb dM_isDone_30 ?_
      refine zti (nI_add _ _) ?_
      refine zPutM hx hb hw hown hK hP hD hS 0 rfl 9 (by decide) wf_M_46 rfl rfl rfl (Nat.le_of_ble_eq_true rfl) dM_isDone_31 (fun H locs hP hD hS => ?_)
      replace hP : va_P D vwCl (mW A C ops nums vals st ce pk pv n vc (sp + 1) d pr tk th tr) H := hP
      replace hD : va_D F (mW A C ops nums vals st ce pk pv n vc (sp + 1) d pr tk th tr) := hD
      refine lv_aload_n hx hb dM_isDone_34 rfl (lv_at hl 1 rfl) ?_
      refine zGetM hx hb hw hown hK hP 0 rfl 0 (by decide) wf_M_9 rfl dM_isDone_35 ?_
      refine lv_iload hx hb dM_isDone_38 (lv_at hl 0 rfl) ?_
      refine zIald hx hb hK hP 1 0 rfl rfl (by omega) (by decide) dM_isDone_40 ?_
      refine zti (hPI.2 pl (by omega)).2 ?_
      refine lv_istore hx hb dM_isDone_41 hl (by decide) rfl (fun ls hl => ?_)
      have hl : lv_has ls 14 [(5, .int (nI (oN (ops pl)))), (4, .int (nI pl)), (0, .ref (A 0)), (1, .int (nI w)), (2, .long key)] := hl
      refine lv_aload_n hx hb dM_isDone_43 rfl (lv_at hl 2 rfl) ?_
      refine zGetM hx hb hw hown hK hP 0 rfl 1 (by decide) wf_M_13 rfl dM_isDone_44 ?_
      refine lv_iload hx hb dM_isDone_47 (lv_at hl 1 rfl) ?_
      refine zLald hx hb hK hP 2 1 rfl rfl (by omega) (by decide) dM_isDone_49 ?_
      refine lv_lstore hx hb dM_isDone_50 hl (by decide) rfl (fun ls hl => ?_)
      have hl : lv_has ls 14 [(6, .long (nums pl)), (5, .int (nI (oN (ops pl)))), (4, .int (nI pl)), (0, .ref (A 0)), (1, .int (nI w)), (2, .long key)] := hl
      refine lv_iinc (k := 2) (v := nI (pl + 1)) hx hb dM_isDone_52 hl rfl (nI_add _ _) (by decide) rfl (fun ls hl => ?_)
      have hl : lv_has ls 14 [(4, .int (nI (pl + 1))), (6, .long (nums pl)), (5, .int (nI (oN (ops pl)))), (0, .ref (A 0)), (1, .int (nI w)), (2, .long key)] := hl
      replace hl := lv_sub hl [0, 1, 2, 3, 4, 5] rfl
      rcases hs : stp n vc vals w key (oN (ops pl)) (nums pl) (pl + 1) d st ce pk pv pr tk with _ | ⟨pl', d', st', ce', pk', pv', pr', tk'⟩
      · rw [runR_trap h9 hs]
        refine mTr hx hb hr hlk hml hw hown hK hA (hPI.2 pl (by omega)).1 i2 hw2 hvc i4 i3 (by omega) i5 hs hP hD hS hl (fun pc ls hdg => ?_)
        exact zZret (w' := fun (_ : Unit) => mF A C ops nums vals n vc th tr sp (1, 1, (pl, d, st, ce, pk, pv, pr, tk))) () hx hb hr (by decide) hlk hS hK rfl hP hD hdg
      · rw [runR_go h9 hs]
        by_cases h18 : oN (ops pl) = 18
        · have e8 : stp n vc vals w key 18 (nums pl) (pl + 1) d st ce pk pv pr tk = some (pl', d', st', ce', pk', pv', pr', tk') := by rw [← h18]; exact hs
          simp only [stp] at e8
          cases e8
          rw [runR_end (Nat.le_refl _)]
          rw [h18] at hl
          refine mO18 hx hb hr hlk hml hw hown hK hA i2 hw2 hvc i4 i3 (by omega) hP hD hS hl (fun pc ls hdg => ?_)
          exact zZret (w' := fun (_ : Unit) => mF A C ops nums vals n vc th tr sp (1, 0, (n, d, st, ce, pk, pv, pr, tk))) () hx hb hr (by decide) hlk hS hK rfl hP hD hdg
        · refine mGo hx hb hr hlk hml hw hown hK hA (hPI.2 pl (by omega)).1 i2 hw2 hvc i4 i3 (by omega) i5 hs h18 hP hD hS hl (fun ls H locs hP hD hS hl => ?_)
          have e9 := ih (sp + 1) d' st' ce' pk' pv' pr' pl' tk' ls H locs (by omega) (stp_inv hn (hPI.2 pl (by omega)).1 ⟨by omega, i2, i3, i4, i5⟩ hs) hP hD hS hl
          simp only [mF_go] at e9
          exact e9
    · rw [runR_end (by omega)]
      refine lv_iload hx hb dM_isDone_3 (lv_at hl 0 rfl) ?_
      refine lv_aload_n hx hb dM_isDone_5 rfl (lv_at hl 1 rfl) ?_
      refine zGetM hx hb hw hown hK hP 0 rfl 7 (by decide) wf_M_40 rfl dM_isDone_6 ?_
      refine zc_ge (tgt := 709) hx hb dM_isDone_9 rfl (by omega) (by omega) (fun _ => ?_) (fun q => absurd q (by omega))
      refine lv_iconst (v := nI 1) hx hb dM_isDone_709 (by decide) ?_
      exact zZret (w' := fun (_ : Unit) => mF A C ops nums vals n vc th tr sp (0, 0, (pl, d, st, ce, pk, pv, pr, tk))) () hx hb hr (by decide) hlk hS hK rfl hP hD dM_isDone_710
set_option maxRecDepth 20000 in
set_option maxHeartbeats 4000000 in
theorem c_isDone (l : Launch) (D : va_G) (A : Nat → Nat) (C : Nat → ClassId) (sz : Nat) (ops : Nat → Int32) (nums : Nat → Int64) (vals : Nat → Int64) (st : Nat → Int64) (ce : Nat → Int64) (pk : Nat → Int64) (pv : Nat → Int64) (n : Nat) (vc : Nat) (sp : Nat) (d : Nat) (pr : Nat) (tk : Nat) (th : Nat) (tr : Nat) (w : Nat) (key : Int64) (hPI : PI n ops nums) (hvc : vc ≤ 40) (hw2 : w ≤ 2) (hsp : sp = 0) (hi : RI vc w 0 d pr tk) : Met l yM_isDone (.code yM_isDone cM_isDone 14 (some .boolean) :: WS) (rmk 0 0) (va_Pc [.ref (A 0), .int (nI w), .long key] (zP D (mT C) sz (mW A C ops nums vals st ce pk pv n vc sp d pr tk th tr))) (va_Qi (fun (r : Int32) (_ : Unit) => r = nI (1 - (runR n vc vals w key ops nums 400 (0, d, st, ce, pk, pv, pr, tk)).2.1)) (fun (_ : Unit) t => zB D (mT C) (va_A (mW A C ops nums vals st ce pk pv n vc sp d pr tk th tr) sz) (mF A C ops nums vals n vc th tr sp (runR n vc vals w key ops nums 400 (0, d, st, ce, pk, pv, pr, tk))) t) (va_A (mW A C ops nums vals st ce pk pv n vc sp d pr tk th tr) sz)) 0 0 (va_A (mW A C ops nums vals st ce pk pv n vc sp d pr tk th tr) sz) := by
  refine zEnt (Qc := fun F => (va_Qi (fun (r : Int32) (_ : Unit) => r = nI (1 - (runR n vc vals w key ops nums 400 (0, d, st, ce, pk, pv, pr, tk)).2.1)) (fun (_ : Unit) t => zB D (mT C) F (mF A C ops nums vals n vc th tr sp (runR n vc vals w key ops nums 400 (0, d, st, ce, pk, pv, pr, tk))) t) F)) (by decide) (Nat.le_of_ble_eq_true rfl) (fun p e s m below meth c ls F hx hb hr hlk hml hnm hw hown hsz hP hK hD hA hl => ?_)
  have hS : va_S F s.heap s.heap [] := va_S.rf
  have hown : s.vm.findClass RM = some m.cls := hown
  have hl : lv_has ls 14 [(0, .ref (A 0)), (1, .int (nI w)), (2, .long key)] := hl
  refine lv_iconst (v := nI 0) hx hb dM_isDone_0 (by decide) ?_
  refine lv_istore hx hb dM_isDone_1 hl (by decide) rfl (fun ls hl => ?_)
  have hl : lv_has ls 14 [(4, .int (nI 0)), (0, .ref (A 0)), (1, .int (nI w)), (2, .long key)] := hl
  exact mL hx hb hr hlk hml hw hown hK hA hPI hvc hw2 400 sp d st ce pk pv pr 0 tk ls s.heap [] (by omega) hi hP hD hS hl
