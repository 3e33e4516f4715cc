/-! the law's loop over the script -/
section ZLP
set_option maxRecDepth 20000 in
set_option maxHeartbeats 4000000 in
theorem lwL {p : Program} {l : Launch} {e : Env} {s : State} {m : MethodId} {below : List Frame} {meth : Method} {c : Code} {b L : Nat} {xs : Nat → Int32} {D : va_G} {A A2 : Nat → Nat} {C C2 : Nat → ClassId} {ob : Nat} {oc : ClassId} {F : Nat → Prop} {Q : State → Prop} (hl9 : l.stackTraces = false) (hx : p.tables.exec = Jvm.exec) (hb : c.code = cL_law) (hml : c.maxLocals = 8) (hw : ∀ w ∈ WS, w.before #[Value.ref b] s = true) (hown : s.vm.findClass "EmitDeskLaw" = some m.cls) (hX : zL F s) (hK : va_K D vwCl (tL C C2 oc) s) (hA : ∀ q, s.heap.size ≤ q → F q) (hsc : va_X b L xs s s.heap) (hbl : b < s.heap.size) (hbA : ¬ F b) (hL : L ≤ 2048) (kx : ∀ (H : Heap) (locs : List Loc) (ls : Array Slot) (cl sl : Nat), cl ≤ 1050 → sl ≤ 8567 → va_S F s.heap H locs → W p l e rL s m #[Value.ref b] below meth c H locs cl sl Q (F0 m 598 ls [])) : ∀ (f j : Nat) (n : Nat) (ops : Nat → Int32) (nums : Nat → Int64) (vc : Nat) (vals : Nat → Int64) (d : Nat) (st st2 ce pk pv : Nat → Int64) (pr w : Nat) (key : Int64) (pl dn tk th tr : Nat) (ou : Nat → Int64) (ls : Array Slot) (H : Heap) (locs : List Loc), L < 4 * j + 4 * f → 4 * j ≤ L → LI n ops nums vc d pr tk dn tr → va_P D vwCl ((mW A2 C2 ops nums vals st2 ce pk pv n vc dn d pr tk th tr) ++ ((eW A C n ops nums vc vals d st ce pk pv pr w key pl dn tk tr) ++ oW ob oc ou)) H → va_D F ((mW A2 C2 ops nums vals st2 ce pk pv n vc dn d pr tk th tr) ++ ((eW A C n ops nums vc vals d st ce pk pv pr w key pl dn tk tr) ++ oW ob oc ou)) → va_S F s.heap H locs → lv_has ls 8 [(4, .int (nI (4 * j))), (3, .ref ob), (2, .ref (A2 0)), (1, .ref (A 0)), (0, .ref b)] → W p l e rL s m #[Value.ref b] below meth c H locs (17 + j) (321 + 6 * j) Q (F0 m 23 ls []) := by
  intro f
  induction f with
  | zero => intro j n ops nums vc vals d st st2 ce pk pv pr w key pl dn tk th tr ou ls H locs h1 h2; omega
  | succ f ih =>
    intro j n ops nums vc vals d st st2 ce pk pv pr w key pl dn tk th tr ou ls H locs hf hj0 hi hP hD hS hl
    refine lv_iload hx hb dL_law_23 (lv_at hl 0 rfl) ?_
    refine lv_aload_n hx hb dL_law_25 rfl (lv_at hl 4 rfl) ?_
    refine va_slen hx hb hsc hbl hbA hS dL_law_26 ?_
    refine zti (y := nI L) rfl ?_
    refine lv_iconst (v := nI 4) hx hb dL_law_27 (by decide) ?_
    refine lv_isub hx hb dL_law_28 ?_
    refine lv_icmp_gt (tgt := 598) hx hb dL_law_29 rfl (fun _ => kx H locs ls _ _ (by omega) (by omega) hS) (fun hgt => ?_)
    have hj : ¬ L < 4 * j + 4 := fun z => hgt ((z_gt (by omega) (by omega)).mpr z)
    refine lv_aload_n hx hb dL_law_32 rfl (lv_at hl 4 rfl) ?_
    refine lv_iload hx hb dL_law_33 (lv_at hl 0 rfl) ?_
    refine zSld hx hb hsc hbl hbA hS (by omega) (by omega) dL_law_35 ?_
    refine lv_bipush (v := nI 7) hx hb dL_law_36 (by decide) ?_
    refine lv_iand hx hb dL_law_38 ?_
    obtain ⟨t, ht, et⟩ := pk_andE (xs (4 * j)) (m := nI 7) 3 (by decide)
    refine zti et ?_
    have ht8 : t = 0 ∨ t = 1 ∨ t = 2 ∨ t = 3 ∨ t = 4 ∨ t = 5 ∨ t = 6 ∨ t = 7 := by omega
    have i4 := hi.2.2.2.1
    rcases ht8 with h | h | h | h | h | h | h | h <;> subst h
    · refine lv_tableIn (off := 45) (tgt := 84) hx hb dL_law_39 (by decide) (by decide) (by decide) rfl ?_
      exact lwCode hl9 hx hb hml hw hown hX hK hA hsc hbl hbA hL hj hi  hP hD hS hl (fun n ops nums vc vals d st st2 ce pk pv pr w key pl dn tk th tr ou ls H locs hi hP hD hS hl => ih (j + 1) n ops nums vc vals d st st2 ce pk pv pr w key pl dn tk th tr ou ls H locs (by omega) (by omega) hi hP hD hS hl)
    · refine lv_tableIn (off := 145) (tgt := 184) hx hb dL_law_39 (by decide) (by decide) (by decide) rfl ?_
      exact lwClear hl9 hx hb hml hw hown hX hK hA hsc hbl hbA hL hj hi  hP hD hS hl (fun n ops nums vc vals d st st2 ce pk pv pr w key pl dn tk th tr ou ls H locs hi hP hD hS hl => ih (j + 1) n ops nums vc vals d st st2 ce pk pv pr w key pl dn tk th tr ou ls H locs (by omega) (by omega) hi hP hD hS hl)
    · refine lv_tableIn (off := 158) (tgt := 197) hx hb dL_law_39 (by decide) (by decide) (by decide) rfl ?_
      exact lwValue hl9 hx hb hml hw hown hX hK hA hsc hbl hbA hL hj hi  hP hD hS hl (fun n ops nums vc vals d st st2 ce pk pv pr w key pl dn tk th tr ou ls H locs hi hP hD hS hl => ih (j + 1) n ops nums vc vals d st st2 ce pk pv pr w key pl dn tk th tr ou ls H locs (by omega) (by omega) hi hP hD hS hl)
    · refine lv_tableIn (off := 246) (tgt := 285) hx hb dL_law_39 (by decide) (by decide) (by decide) rfl ?_
      exact lwEmpty hl9 hx hb hml hw hown hX hK hA hsc hbl hbA hL hj hi  hP hD hS hl (fun n ops nums vc vals d st st2 ce pk pv pr w key pl dn tk th tr ou ls H locs hi hP hD hS hl => ih (j + 1) n ops nums vc vals d st st2 ce pk pv pr w key pl dn tk th tr ou ls H locs (by omega) (by omega) hi hP hD hS hl)
    · refine lv_tableIn (off := 259) (tgt := 298) hx hb dL_law_39 (by decide) (by decide) (by decide) rfl ?_
      rcases z_split (xs ((4 * j) + 1)) 2 (by decide) with ⟨w2, h1, h2⟩ | ⟨h1, h2, h3⟩
      · exact lwCall hl9 hx hb hml hw hown hX hK hA hsc hbl hbA hL hj hi h1 h2 hP hD hS hl (fun n ops nums vc vals d st st2 ce pk pv pr w key pl dn tk th tr ou ls H locs hi hP hD hS hl => ih (j + 1) n ops nums vc vals d st st2 ce pk pv pr w key pl dn tk th tr ou ls H locs (by omega) (by omega) hi hP hD hS hl)
      · exact lwCallW hl9 hx hb hml hw hown hX hK hA hsc hbl hbA hL hj hi h1 h2 hP hD hS hl (fun n ops nums vc vals d st st2 ce pk pv pr w key pl dn tk th tr ou ls H locs hi hP hD hS hl => ih (j + 1) n ops nums vc vals d st st2 ce pk pv pr w key pl dn tk th tr ou ls H locs (by omega) (by omega) hi hP hD hS hl)
    · refine lv_tableIn (off := 359) (tgt := 398) hx hb dL_law_39 (by decide) (by decide) (by decide) rfl ?_
      by_cases hfl : xs ((4 * j) + 2) = 0
      · rcases pk_ix (xs ((4 * j) + 1)) (n := pr) (by omega) with h | h | ⟨j2, h1, h2⟩
        · exact lwEmB_key hl9 hx hb hml hw hown hX hK hA hsc hbl hbA hL hj hi hfl (Or.inl h) hP hD hS hl (fun n ops nums vc vals d st st2 ce pk pv pr w key pl dn tk th tr ou ls H locs hi hP hD hS hl => ih (j + 1) n ops nums vc vals d st st2 ce pk pv pr w key pl dn tk th tr ou ls H locs (by omega) (by omega) hi hP hD hS hl)
        · exact lwEmB_key hl9 hx hb hml hw hown hX hK hA hsc hbl hbA hL hj hi hfl (Or.inr h) hP hD hS hl (fun n ops nums vc vals d st st2 ce pk pv pr w key pl dn tk th tr ou ls H locs hi hP hD hS hl => ih (j + 1) n ops nums vc vals d st st2 ce pk pv pr w key pl dn tk th tr ou ls H locs (by omega) (by omega) hi hP hD hS hl)
        · exact lwEm_key hl9 hx hb hml hw hown hX hK hA hsc hbl hbA hL hj hi hfl h1 h2 hP hD hS hl (fun n ops nums vc vals d st st2 ce pk pv pr w key pl dn tk th tr ou ls H locs hi hP hD hS hl => ih (j + 1) n ops nums vc vals d st st2 ce pk pv pr w key pl dn tk th tr ou ls H locs (by omega) (by omega) hi hP hD hS hl)
      · rcases pk_ix (xs ((4 * j) + 1)) (n := pr) (by omega) with h | h | ⟨j2, h1, h2⟩
        · exact lwEmB_val hl9 hx hb hml hw hown hX hK hA hsc hbl hbA hL hj hi hfl (Or.inl h) hP hD hS hl (fun n ops nums vc vals d st st2 ce pk pv pr w key pl dn tk th tr ou ls H locs hi hP hD hS hl => ih (j + 1) n ops nums vc vals d st st2 ce pk pv pr w key pl dn tk th tr ou ls H locs (by omega) (by omega) hi hP hD hS hl)
        · exact lwEmB_val hl9 hx hb hml hw hown hX hK hA hsc hbl hbA hL hj hi hfl (Or.inr h) hP hD hS hl (fun n ops nums vc vals d st st2 ce pk pv pr w key pl dn tk th tr ou ls H locs hi hP hD hS hl => ih (j + 1) n ops nums vc vals d st st2 ce pk pv pr w key pl dn tk th tr ou ls H locs (by omega) (by omega) hi hP hD hS hl)
        · exact lwEm_val hl9 hx hb hml hw hown hX hK hA hsc hbl hbA hL hj hi hfl h1 h2 hP hD hS hl (fun n ops nums vc vals d st st2 ce pk pv pr w key pl dn tk th tr ou ls H locs hi hP hD hS hl => ih (j + 1) n ops nums vc vals d st st2 ce pk pv pr w key pl dn tk th tr ou ls H locs (by omega) (by omega) hi hP hD hS hl)
    · refine lv_tableIn (off := 442) (tgt := 481) hx hb dL_law_39 (by decide) (by decide) (by decide) rfl ?_
      rcases z_split (xs ((4 * j) + 1)) 4 (by decide) with ⟨j2, h1, h2⟩ | ⟨h1, h2, h3⟩
      · have h5 : j2 = 0 ∨ j2 = 1 ∨ j2 = 2 ∨ j2 = 3 ∨ j2 = 4 := by omega
        rcases h5 with h | h | h | h | h <;> subst h
        · exact lwTold0 hl9 hx hb hml hw hown hX hK hA hsc hbl hbA hL hj hi h2 hP hD hS hl (fun n ops nums vc vals d st st2 ce pk pv pr w key pl dn tk th tr ou ls H locs hi hP hD hS hl => ih (j + 1) n ops nums vc vals d st st2 ce pk pv pr w key pl dn tk th tr ou ls H locs (by omega) (by omega) hi hP hD hS hl)
        · exact lwTold1 hl9 hx hb hml hw hown hX hK hA hsc hbl hbA hL hj hi h2 hP hD hS hl (fun n ops nums vc vals d st st2 ce pk pv pr w key pl dn tk th tr ou ls H locs hi hP hD hS hl => ih (j + 1) n ops nums vc vals d st st2 ce pk pv pr w key pl dn tk th tr ou ls H locs (by omega) (by omega) hi hP hD hS hl)
        · exact lwTold2 hl9 hx hb hml hw hown hX hK hA hsc hbl hbA hL hj hi h2 hP hD hS hl (fun n ops nums vc vals d st st2 ce pk pv pr w key pl dn tk th tr ou ls H locs hi hP hD hS hl => ih (j + 1) n ops nums vc vals d st st2 ce pk pv pr w key pl dn tk th tr ou ls H locs (by omega) (by omega) hi hP hD hS hl)
        · exact lwTold3 hl9 hx hb hml hw hown hX hK hA hsc hbl hbA hL hj hi h2 hP hD hS hl (fun n ops nums vc vals d st st2 ce pk pv pr w key pl dn tk th tr ou ls H locs hi hP hD hS hl => ih (j + 1) n ops nums vc vals d st st2 ce pk pv pr w key pl dn tk th tr ou ls H locs (by omega) (by omega) hi hP hD hS hl)
        · exact lwTold4 hl9 hx hb hml hw hown hX hK hA hsc hbl hbA hL hj hi h2 hP hD hS hl (fun n ops nums vc vals d st st2 ce pk pv pr w key pl dn tk th tr ou ls H locs hi hP hD hS hl => ih (j + 1) n ops nums vc vals d st st2 ce pk pv pr w key pl dn tk th tr ou ls H locs (by omega) (by omega) hi hP hD hS hl)
      · exact lwToldB hl9 hx hb hml hw hown hX hK hA hsc hbl hbA hL hj hi h3 h2 hP hD hS hl (fun n ops nums vc vals d st st2 ce pk pv pr w key pl dn tk th tr ou ls H locs hi hP hD hS hl => ih (j + 1) n ops nums vc vals d st st2 ce pk pv pr w key pl dn tk th tr ou ls H locs (by omega) (by omega) hi hP hD hS hl)
    · refine lv_tableIn (off := 498) (tgt := 537) hx hb dL_law_39 (by decide) (by decide) (by decide) rfl ?_
      rcases z_split (xs ((4 * j) + 1)) 3 (by decide) with ⟨j2, h1, h2⟩ | ⟨h1, h2, h3⟩
      · exact lwCell hl9 hx hb hml hw hown hX hK hA hsc hbl hbA hL hj hi (by omega) h2 hP hD hS hl (fun n ops nums vc vals d st st2 ce pk pv pr w key pl dn tk th tr ou ls H locs hi hP hD hS hl => ih (j + 1) n ops nums vc vals d st st2 ce pk pv pr w key pl dn tk th tr ou ls H locs (by omega) (by omega) hi hP hD hS hl)
      · exact lwCellB hl9 hx hb hml hw hown hX hK hA hsc hbl hbA hL hj hi (z_lt4 h1) h2 hP hD hS hl (fun n ops nums vc vals d st st2 ce pk pv pr w key pl dn tk th tr ou ls H locs hi hP hD hS hl => ih (j + 1) n ops nums vc vals d st st2 ce pk pv pr w key pl dn tk th tr ou ls H locs (by omega) (by omega) hi hP hD hS hl)
end ZLP
