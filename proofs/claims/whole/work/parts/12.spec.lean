/-! the machine as mathematics: one INSTRUCTION (none: a trap), a run of so many at most -/
abbrev RS : Type := Nat × Nat × (Nat → Int64) × (Nat → Int64) × (Nat → Int64) × (Nat → Int64) × Nat × Nat
def ixL (a : Int64) : Nat := a.toInt.toNat
def oN (x : Int32) : Nat := x.toInt.toNat
/-- place (behind the INSTRUCTION), depth, stack, cells, keys, values, pairs, taken -/
def stp (n vc : Nat) (vals : Nat → Int64) (w : Nat) (key : Int64) (o : Nat) (x : Int64) (pl d : Nat) (st ce pk pv : Nat → Int64) (pr tk : Nat) : Option RS := match o with
  | 0 => if d < 12 then some (pl, d + 1, vp_updL st d x, ce, pk, pv, pr, tk) else none
  | 1 => if d < 12 then some (pl, d + 1, vp_updL st d key, ce, pk, pv, pr, tk) else none
  | 2 => if tk < vc ∧ d < 12 then some (pl, d + 1, vp_updL st d (vals tk), ce, pk, pv, pr, if w = 0 then tk else tk + 1) else none
  | 3 => if d < 12 then some (pl, d + 1, vp_updL st d (if w ≠ 0 ∧ tk < vc then 1 else 0), ce, pk, pv, pr, tk) else none
  | 4 => if d < 12 then some (pl, d + 1, vp_updL st d (ce (ixL x)), ce, pk, pv, pr, tk) else none
  | 5 => if 1 ≤ d then some (pl, d - 1, st, vp_updL ce (ixL x) (st (d - 1)), pk, pv, pr, tk) else none
  | 6 => if 2 ≤ d then some (pl, d - 1, vp_updL st (d - 2) (st (d - 2) + st (d - 1)), ce, pk, pv, pr, tk) else none
  | 7 => if 2 ≤ d then some (pl, d - 1, vp_updL st (d - 2) (st (d - 2) - st (d - 1)), ce, pk, pv, pr, tk) else none
  | 8 => if 2 ≤ d then some (pl, d - 1, vp_updL st (d - 2) (st (d - 2) * st (d - 1)), ce, pk, pv, pr, tk) else none
  | 9 => if 2 ≤ d ∧ ¬ st (d - 1) = 0 then some (pl, d - 1, vp_updL st (d - 2) (st (d - 2) / st (d - 1)), ce, pk, pv, pr, tk) else none
  | 10 => if 2 ≤ d then some (pl, d - 1, vp_updL st (d - 2) (if st (d - 1) ≤ st (d - 2) then 0 else 1), ce, pk, pv, pr, tk) else none
  | 11 => if 2 ≤ d then some (pl, d - 1, vp_updL st (d - 2) (if st (d - 2) = st (d - 1) then 1 else 0), ce, pk, pv, pr, tk) else none
  | 12 => if 1 ≤ d ∧ d < 12 then some (pl, d + 1, vp_updL (vp_updL st (d - 1) (st (d - 1))) d (st (d - 1)), ce, pk, pv, pr, tk) else none
  | 13 => if 1 ≤ d then some (pl, d - 1, st, ce, pk, pv, pr, tk) else none
  | 14 => if 2 ≤ d then some (pl, d, vp_updL (vp_updL st (d - 2) (st (d - 1))) (d - 1) (st (d - 2)), ce, pk, pv, pr, tk) else none
  | 15 => some (ixL x, d, st, ce, pk, pv, pr, tk)
  | 16 => if 1 ≤ d then some (if st (d - 1) = 0 then ixL x else pl, d - 1, st, ce, pk, pv, pr, tk) else none
  | 17 => if w = 1 then (if 1 ≤ d ∧ pr < 4 then some (pl, d - 1, st, ce, vp_updL pk pr key, vp_updL pv pr (st (d - 1)), pr + 1, tk) else none) else (if 2 ≤ d ∧ pr < 4 then some (pl, d - 2, st, ce, vp_updL pk pr (st (d - 2)), vp_updL pv pr (st (d - 1)), pr + 1, tk) else none)
  | 18 => some (n, d, st, ce, pk, pv, pr, tk)
  | _ => none
/-- what code lets in -/
def okI (o : Nat) (x : Int64) : Prop := o ≤ 18 ∧ (o = 4 ∨ o = 5 → 0 ≤ x.toInt ∧ x.toInt ≤ 3) ∧ (o = 15 ∨ o = 16 → 0 ≤ x.toInt ∧ x.toInt ≤ 40)
theorem lN_ix {x : Int64} (h : 0 ≤ x.toInt) : lN (ixL x) = x := by
  have h3 : x.toInt < 2 ^ 63 := Int64.toInt_lt x
  apply Int64.toInt_inj.mp
  rw [pk_lT (by unfold ixL; omega)]
  unfold ixL
  omega

set_option maxHeartbeats 4000000 in
theorem perf_ok (l : Launch) (D : va_G) (A : Nat → Nat) (C : Nat → ClassId) (sz : Nat) (n : Nat) (ops : Nat → Int32) (nums : Nat → Int64) (vc : Nat) (vals : Nat → Int64) (d : Nat) (st ce pk pv : Nat → Int64) (pr w : Nat) (key : Int64) (pl dn tk : Nat) (o : Nat) (x : Int64) (ho : okI o x) (hd : d ≤ 12) (hvc : vc ≤ 40) (htk : tk ≤ vc) (hw2 : w ≤ 2) (hpr : pr ≤ 4) (hpl : pl ≤ 40) {pl' d' : Nat} {st' ce' pk' pv' : Nat → Int64} {pr' tk' : Nat} (h : stp n vc vals w key o x pl d st ce pk pv pr tk = some (pl', d', st', ce', pk', pv', pr', tk')) :
    Met l yE_perform (.code yE_perform cE_perform 4 none :: WS) (rmk 3 71) (va_Pc [.ref (A 0), .int (nI o), .long x] (zP D (eT C) sz (eW A C n ops nums vc vals d st ce pk pv pr w key pl dn tk 0))) (va_Qv (fun _ : Unit => True) (fun (_ : Unit) t => zB D (eT C) (va_A (eW A C n ops nums vc vals d st ce pk pv pr w key pl dn tk 0) sz) (eW A C n ops nums vc vals d' st' ce' pk' pv' pr' w key pl' dn tk' 0) t) (va_A (eW A C n ops nums vc vals d st ce pk pv pr w key pl dn tk 0) sz)) 0 0 (va_A (eW A C n ops nums vc vals d st ce pk pv pr w key pl dn tk 0) sz) := by
  obtain ⟨ho1, ho2, ho3⟩ := ho
  rcases (show o = 0 ∨ o = 1 ∨ o = 2 ∨ o = 3 ∨ o = 4 ∨ o = 5 ∨ o = 6 ∨ o = 7 ∨ o = 8 ∨ o = 9 ∨ o = 10 ∨ o = 11 ∨ o = 12 ∨ o = 13 ∨ o = 14 ∨ o = 15 ∨ o = 16 ∨ o = 17 ∨ o = 18 by omega) with rfl | rfl | rfl | rfl | rfl | rfl | rfl | rfl | rfl | rfl | rfl | rfl | rfl | rfl | rfl | rfl | rfl | rfl | rfl
  · simp only [stp] at h
    split at h
    · rename_i g
      cases h
      exact c_perform0_ok l D A C sz n ops nums vc vals d st ce pk pv pr w key pl dn tk 0 x g
    · cases h
  · simp only [stp] at h
    split at h
    · rename_i g
      cases h
      exact c_perform1_ok l D A C sz n ops nums vc vals d st ce pk pv pr w key pl dn tk 0 x g
    · cases h
  · simp only [stp] at h
    split at h
    · rename_i g
      by_cases hw0 : w = 0
      · subst hw0
        rw [if_pos rfl] at h
        cases h
        exact c_perform2w0_ok l D A C sz n ops nums vc vals d st ce pk pv pr 0 key pl dn tk 0 x g.2 hvc g.1
      · rw [if_neg hw0] at h
        cases h
        exact c_perform2w1_ok l D A C sz n ops nums vc vals d st ce pk pv pr w key pl dn tk 0 x g.2 hvc g.1 (by omega) hw2
    · cases h
  · simp only [stp] at h
    split at h
    · rename_i g
      cases h
      exact c_perform3_ok l D A C sz n ops nums vc vals d st ce pk pv pr w key pl dn tk 0 x g hw2 hvc (by omega)
    · cases h
  · simp only [stp] at h
    obtain ⟨q1, q2⟩ := ho2 (by omega)
    split at h
    · rename_i g
      cases h
      have e := c_perform4_ok l D A C sz n ops nums vc vals d st ce pk pv pr w key pl dn tk 0 (ixL x) g (by unfold ixL; omega)
      rw [lN_ix q1] at e
      exact e
    · cases h
  · simp only [stp] at h
    obtain ⟨q1, q2⟩ := ho2 (by omega)
    split at h
    · rename_i g
      obtain ⟨k, rfl⟩ : ∃ k, d = k + 1 := ⟨d - 1, by omega⟩
      cases h
      have e := c_perform5_ok l D A C sz n ops nums vc vals k st ce pk pv pr w key pl dn tk 0 (ixL x) (by omega) (by unfold ixL; omega)
      rw [lN_ix q1] at e
      exact e
    · cases h
  · simp only [stp] at h
    split at h
    · rename_i g
      obtain ⟨k, rfl⟩ : ∃ k, d = k + 1 + 1 := ⟨d - 2, by omega⟩
      cases h
      exact c_perform6_ok l D A C sz n ops nums vc vals k st ce pk pv pr w key pl dn tk 0 x (by omega)
    · cases h
  · simp only [stp] at h
    split at h
    · rename_i g
      obtain ⟨k, rfl⟩ : ∃ k, d = k + 1 + 1 := ⟨d - 2, by omega⟩
      cases h
      exact c_perform7_ok l D A C sz n ops nums vc vals k st ce pk pv pr w key pl dn tk 0 x (by omega)
    · cases h
  · simp only [stp] at h
    split at h
    · rename_i g
      obtain ⟨k, rfl⟩ : ∃ k, d = k + 1 + 1 := ⟨d - 2, by omega⟩
      cases h
      exact c_perform8_ok l D A C sz n ops nums vc vals k st ce pk pv pr w key pl dn tk 0 x (by omega)
    · cases h
  · simp only [stp] at h
    split at h
    · rename_i g
      obtain ⟨k, rfl⟩ : ∃ k, d = k + 1 + 1 := ⟨d - 2, by omega⟩
      cases h
      exact c_perform9_ok l D A C sz n ops nums vc vals k st ce pk pv pr w key pl dn tk 0 x (by omega) g.2
    · cases h
  · simp only [stp] at h
    split at h
    · rename_i g
      obtain ⟨k, rfl⟩ : ∃ k, d = k + 1 + 1 := ⟨d - 2, by omega⟩
      cases h
      exact c_perform10_ok l D A C sz n ops nums vc vals k st ce pk pv pr w key pl dn tk 0 x (by omega)
    · cases h
  · simp only [stp] at h
    split at h
    · rename_i g
      obtain ⟨k, rfl⟩ : ∃ k, d = k + 1 + 1 := ⟨d - 2, by omega⟩
      cases h
      exact c_perform11_ok l D A C sz n ops nums vc vals k st ce pk pv pr w key pl dn tk 0 x (by omega)
    · cases h
  · simp only [stp] at h
    split at h
    · rename_i g
      obtain ⟨k, rfl⟩ : ∃ k, d = k + 1 := ⟨d - 1, by omega⟩
      cases h
      exact c_perform12_ok l D A C sz n ops nums vc vals k st ce pk pv pr w key pl dn tk 0 x (by omega)
    · cases h
  · simp only [stp] at h
    split at h
    · rename_i g
      obtain ⟨k, rfl⟩ : ∃ k, d = k + 1 := ⟨d - 1, by omega⟩
      cases h
      exact c_perform13_ok l D A C sz n ops nums vc vals k st ce pk pv pr w key pl dn tk 0 x (by omega)
    · cases h
  · simp only [stp] at h
    split at h
    · rename_i g
      obtain ⟨k, rfl⟩ : ∃ k, d = k + 1 + 1 := ⟨d - 2, by omega⟩
      cases h
      exact c_perform14_ok l D A C sz n ops nums vc vals k st ce pk pv pr w key pl dn tk 0 x (by omega)
    · cases h
  · simp only [stp] at h
    obtain ⟨q1, q2⟩ := ho3 (by omega)
    cases h
    have e := c_perform15_ok l D A C sz n ops nums vc vals d st ce pk pv pr w key pl dn tk 0 (ixL x)
    rw [lN_ix q1] at e
    exact e
  · simp only [stp] at h
    obtain ⟨q1, q2⟩ := ho3 (by omega)
    split at h
    · rename_i g
      obtain ⟨k, rfl⟩ : ∃ k, d = k + 1 := ⟨d - 1, by omega⟩
      by_cases hz : st (k + 1 - 1) = 0
      · rw [if_pos hz] at h
        cases h
        have e := c_perform16Y_ok l D A C sz n ops nums vc vals k st ce pk pv pr w key pl dn tk 0 (ixL x) (by omega) hz
        rw [lN_ix q1] at e
        exact e
      · rw [if_neg hz] at h
        cases h
        have e := c_perform16N_ok l D A C sz n ops nums vc vals k st ce pk pv pr w key pl dn tk 0 (ixL x) (by omega) hz
        rw [lN_ix q1] at e
        exact e
    · cases h
  · simp only [stp] at h
    by_cases hw1 : w = 1
    · subst hw1
      rw [if_pos rfl] at h
      split at h
      · rename_i g
        obtain ⟨k, rfl⟩ : ∃ k, d = k + 1 := ⟨d - 1, by omega⟩
        cases h
        exact c_perform17a_ok l D A C sz n ops nums vc vals k st ce pk pv pr 1 key pl dn tk 0 x (by omega) g.2
      · cases h
    · rw [if_neg hw1] at h
      split at h
      · rename_i g
        obtain ⟨k, rfl⟩ : ∃ k, d = k + 1 + 1 := ⟨d - 2, by omega⟩
        cases h
        exact c_perform17b_ok l D A C sz n ops nums vc vals k st ce pk pv pr w key pl dn tk 0 x (by omega) g.2 hw1 hw2
      · cases h
  · simp only [stp] at h
    cases h
    exact c_perform18_ok l D A C sz n ops nums vc vals d st ce pk pv pr w key pl dn tk 0 x
set_option maxHeartbeats 4000000 in
theorem perf_trap (l : Launch) (D : va_G) (A : Nat → Nat) (C : Nat → ClassId) (sz : Nat) (n : Nat) (ops : Nat → Int32) (nums : Nat → Int64) (vc : Nat) (vals : Nat → Int64) (d : Nat) (st ce pk pv : Nat → Int64) (pr w : Nat) (key : Int64) (pl dn tk : Nat) (o : Nat) (x : Int64) (ho : okI o x) (hd : d ≤ 12) (hvc : vc ≤ 40) (htk : tk ≤ vc) (hw2 : w ≤ 2) (hpr : pr ≤ 4) (hpl : pl ≤ 40) (h : stp n vc vals w key o x pl d st ce pk pv pr tk = none) :
    Met l yE_perform (.code yE_perform cE_perform 4 none :: WS) (rmk 3 71) (va_Pc [.ref (A 0), .int (nI o), .long x] (zP D (eT C) sz (eW A C n ops nums vc vals d st ce pk pv pr w key pl dn tk 0))) (va_Qv (fun u : Nat × (Nat → Int64) × Nat => u.1 ≤ 12 ∧ u.2.2 ≤ 40) (fun (u : Nat × (Nat → Int64) × Nat) t => zB D (eT C) (va_A (eW A C n ops nums vc vals d st ce pk pv pr w key pl dn tk 0) sz) (eW A C n ops nums vc vals u.1 u.2.1 ce pk pv pr w key u.2.2 dn tk 1) t) (va_A (eW A C n ops nums vc vals d st ce pk pv pr w key pl dn tk 0) sz)) 0 0 (va_A (eW A C n ops nums vc vals d st ce pk pv pr w key pl dn tk 0) sz) := by
  obtain ⟨ho1, ho2, ho3⟩ := ho
  rcases (show o = 0 ∨ o = 1 ∨ o = 2 ∨ o = 3 ∨ o = 4 ∨ o = 5 ∨ o = 6 ∨ o = 7 ∨ o = 8 ∨ o = 9 ∨ o = 10 ∨ o = 11 ∨ o = 12 ∨ o = 13 ∨ o = 14 ∨ o = 15 ∨ o = 16 ∨ o = 17 ∨ o = 18 by omega) with rfl | rfl | rfl | rfl | rfl | rfl | rfl | rfl | rfl | rfl | rfl | rfl | rfl | rfl | rfl | rfl | rfl | rfl | rfl
  · simp only [stp] at h
    split at h
    · cases h
    · exact c_perform0_full l D A C sz n ops nums vc vals d st ce pk pv pr w key pl dn tk 0 x hd hpl (by omega)
  · simp only [stp] at h
    split at h
    · cases h
    · exact c_perform1_full l D A C sz n ops nums vc vals d st ce pk pv pr w key pl dn tk 0 x hd hpl (by omega)
  · simp only [stp] at h
    split at h
    · cases h
    · rename_i g
      by_cases ht : tk < vc
      · exact c_perform2_full l D A C sz n ops nums vc vals d st ce pk pv pr w key pl dn tk 0 x hd hpl hvc ht (by omega)
      · exact c_perform2_none l D A C sz n ops nums vc vals d st ce pk pv pr w key pl dn tk 0 x hd hpl hvc (by omega) (by omega)
  · simp only [stp] at h
    split at h
    · cases h
    · exact c_perform3_full l D A C sz n ops nums vc vals d st ce pk pv pr w key pl dn tk 0 x hd hpl (by omega) hw2 hvc (by omega)
  · simp only [stp] at h
    obtain ⟨q1, q2⟩ := ho2 (by omega)
    split at h
    · cases h
    · have e := c_perform4_full l D A C sz n ops nums vc vals d st ce pk pv pr w key pl dn tk 0 (ixL x) hd hpl (by omega) (by unfold ixL; omega)
      rw [lN_ix q1] at e
      exact e
  · simp only [stp] at h
    obtain ⟨q1, q2⟩ := ho2 (by omega)
    split at h
    · cases h
    · have e := c_perform5_low l D A C sz n ops nums vc vals d st ce pk pv pr w key pl dn tk 0 (ixL x) hd hpl (by unfold ixL; omega) (by omega)
      rw [lN_ix q1] at e
      exact e
  · simp only [stp] at h
    split at h
    · cases h
    · exact c_perform6_low l D A C sz n ops nums vc vals d st ce pk pv pr w key pl dn tk 0 x hd hpl (by omega)
  · simp only [stp] at h
    split at h
    · cases h
    · exact c_perform7_low l D A C sz n ops nums vc vals d st ce pk pv pr w key pl dn tk 0 x hd hpl (by omega)
  · simp only [stp] at h
    split at h
    · cases h
    · exact c_perform8_low l D A C sz n ops nums vc vals d st ce pk pv pr w key pl dn tk 0 x hd hpl (by omega)
  · simp only [stp] at h
    split at h
    · cases h
    · rename_i g
      by_cases h2 : 2 ≤ d
      · obtain ⟨k, rfl⟩ : ∃ k, d = k + 1 + 1 := ⟨d - 2, by omega⟩
        exact c_perform9_zero l D A C sz n ops nums vc vals k st ce pk pv pr w key pl dn tk 0 x (by omega) hpl (by omega) (Classical.byContradiction (fun q => g ⟨h2, q⟩))
      · exact c_perform9_low l D A C sz n ops nums vc vals d st ce pk pv pr w key pl dn tk 0 x hd hpl (by omega)
  · simp only [stp] at h
    split at h
    · cases h
    · exact c_perform10_low l D A C sz n ops nums vc vals d st ce pk pv pr w key pl dn tk 0 x hd hpl (by omega)
  · simp only [stp] at h
    split at h
    · cases h
    · exact c_perform11_low l D A C sz n ops nums vc vals d st ce pk pv pr w key pl dn tk 0 x hd hpl (by omega)
  · simp only [stp] at h
    split at h
    · cases h
    · exact c_perform12_trap l D A C sz n ops nums vc vals d st ce pk pv pr w key pl dn tk 0 x hd hpl (by omega)
  · simp only [stp] at h
    split at h
    · cases h
    · exact c_perform13_low l D A C sz n ops nums vc vals d st ce pk pv pr w key pl dn tk 0 x hd hpl (by omega)
  · simp only [stp] at h
    split at h
    · cases h
    · exact c_perform14_low l D A C sz n ops nums vc vals d st ce pk pv pr w key pl dn tk 0 x hd hpl (by omega)
  · simp only [stp] at h
    cases h
  · simp only [stp] at h
    obtain ⟨q1, q2⟩ := ho3 (by omega)
    split at h
    · cases h
    · have e := c_perform16_low l D A C sz n ops nums vc vals d st ce pk pv pr w key pl dn tk 0 (ixL x) hd hpl (by unfold ixL; omega) (by omega)
      rw [lN_ix q1] at e
      exact e
  · simp only [stp] at h
    by_cases hw1 : w = 1
    · subst hw1
      rw [if_pos rfl] at h
      split at h
      · cases h
      · by_cases h1 : 1 ≤ d
        · obtain ⟨k, rfl⟩ : ∃ k, d = k + 1 := ⟨d - 1, by omega⟩
          exact c_perform17a_full l D A C sz n ops nums vc vals k st ce pk pv pr 1 key pl dn tk 0 x (by omega) hpl (by omega) (by omega)
        · exact c_perform17a_low l D A C sz n ops nums vc vals d st ce pk pv pr 1 key pl dn tk 0 x hd hpl (by omega)
    · rw [if_neg hw1] at h
      split at h
      · cases h
      · by_cases h2 : 2 ≤ d
        · obtain ⟨k, rfl⟩ : ∃ k, d = k + 1 + 1 := ⟨d - 2, by omega⟩
          exact c_perform17b_full l D A C sz n ops nums vc vals k st ce pk pv pr w key pl dn tk 0 x (by omega) hpl (by omega) (by omega) hw1 hw2
        · exact c_perform17b_low l D A C sz n ops nums vc vals d st ce pk pv pr w key pl dn tk 0 x hd hpl (by omega) hw1 hw2
  · simp only [stp] at h
    cases h
