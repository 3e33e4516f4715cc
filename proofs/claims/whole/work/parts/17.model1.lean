/-! EmitDeskModel: its world by components; isDone, an INSTRUCTION a row -/
abbrev mW (A : Nat → Nat) (C : Nat → ClassId) (ops : Nat → Int32) (nums vals st ce pk pv : Nat → Int64) (n vc sp d pr tk th tr : Nat) : va_W :=
  [(A 0, .inr (1, [.ref (A 1), .ref (A 2), .ref (A 3), .ref (A 4), .ref (A 5), .ref (A 6), .ref (A 7), .int (nI n), .int (nI vc), .int (nI sp), .int (nI d), .int (nI pr), .int (nI tk), .int (nI th), .int (nI tr)])),
   (A 1, .inl (C 1, 40, .inl ops)), (A 2, .inl (C 2, 40, .inr (.inl nums))), (A 3, .inl (C 3, 40, .inr (.inl vals))), (A 4, .inl (C 4, 12, .inr (.inl st))), (A 5, .inl (C 5, 4, .inr (.inl ce))), (A 6, .inl (C 6, 4, .inr (.inl pk))), (A 7, .inl (C 7, 4, .inr (.inl pv)))]
abbrev mT (C : Nat → ClassId) : List (ClassId × FieldType) := eT C
theorem updL_self (f : Nat → Int64) (k : Nat) : vp_updL f k (f k) = f := by
  funext j
  unfold vp_updL
  split
  · rename_i h; rw [h]
  · rfl
theorem updL_comm (f : Nat → Int64) {a b : Nat} (h : a ≠ b) (x y : Int64) : vp_updL (vp_updL f a x) b y = vp_updL (vp_updL f b y) a x := by
  funext j
  unfold vp_updL
  by_cases h1 : j = a <;> by_cases h2 : j = b <;> simp_all

set_option maxRecDepth 20000 in
set_option maxHeartbeats 4000000 in
theorem mO0 {p : Program} {l : Launch} {e : Env} {s : State} {m : MethodId} {args : Array Value} {below : List Frame} {meth : Method} {c : Code} {F : Nat → Prop} {D : va_G} {A : Nat → Nat} {C : Nat → ClassId} (hx : p.tables.exec = Jvm.exec) (hb : c.code = cM_isDone) (hr : meth.sig.returnType = (some .boolean)) (hlk : meth.locks = false) (hml : c.maxLocals = 14) (hw : ∀ w ∈ WS, w.before args s = true) (hown : s.vm.findClass RM = some m.cls) (hK : va_K D vwCl (mT C) s) (hA : ∀ q, s.heap.size ≤ q → F q) {Q : State → Prop} {ls : Array Slot} {H : Heap} {locs : List Loc} {ops : Nat → Int32} {nums vals st ce pk pv : Nat → Int64} {n vc sp d pr tk th tr : Nat} {w pl : Nat} {key x : Int64} (hd : d ≤ 12) (hw2 : w ≤ 2) (hvc : vc ≤ 40) (htk : tk ≤ vc) (hpr : pr ≤ 4) (hpl : pl ≤ 40) (hd1 : d < 12) (hP : va_P D vwCl (mW A C ops nums vals st ce pk pv n vc sp d pr tk th tr) H) (hD : va_D F (mW A C ops nums vals st ce pk pv n vc sp d pr tk th tr)) (hS : va_S F s.heap H locs) (hl : lv_has ls 14 [(4, .int (nI pl)), (6, .long x), (5, .int (nI 0)), (0, .ref (A 0)), (1, .int (nI w)), (2, .long key)]) (kk : ∀ (ls : Array Slot) (H : Heap) (locs : List Loc), va_P D vwCl (mW A C ops nums vals (vp_updL st d x) ce pk pv n vc sp (d + 1) pr tk th tr) H → va_D F (mW A C ops nums vals (vp_updL st d x) ce pk pv n vc sp (d + 1) pr tk th tr) → va_S F s.heap H locs → lv_has ls 14 [(4, .int (nI pl)), (0, .ref (A 0)), (1, .int (nI w)), (2, .long key)] → W p l e (rmk 0 0) s m args below meth c H locs 0 0 Q (F0 m 3 ls [])) : W p l e (rmk 0 0) s m args below meth c H locs 0 0 Q (F0 m 55 ls []) := by
  refine lv_iload hx hb dM_isDone_55 (lv_at hl 2 rfl) ?_
  refine lv_iconst (v := nI 4) hx hb dM_isDone_57 (by decide) ?_
  refine zc_le (tgt := 68) hx hb dM_isDone_58 rfl (by omega) (by omega) (fun _ => ?_) (fun q => absurd q (by omega))
  refine lv_iconst (v := nI 1) hx hb dM_isDone_68 (by decide) ?_
  refine lv_goto (tgt := 73) hx hb dM_isDone_69 rfl ?_
  refine lv_istore hx hb dM_isDone_73 hl (by decide) rfl (fun ls hl => ?_)
  have hl : lv_has ls 14 [(8, .int (nI 1)), (4, .int (nI pl)), (6, .long x), (5, .int (nI 0)), (0, .ref (A 0)), (1, .int (nI w)), (2, .long key)] := hl
  refine lv_iload hx hb dM_isDone_75 (lv_at hl 3 rfl) ?_
  refine lv_bipush (v := nI 6) hx hb dM_isDone_77 (by decide) ?_
  refine zc_lt (tgt := 89) hx hb dM_isDone_79 rfl (by omega) (by omega) (fun _ => ?_) (fun q => absurd q (by omega))
  refine lv_iload hx hb dM_isDone_89 (lv_at hl 3 rfl) ?_
  refine lv_bipush (v := nI 14) hx hb dM_isDone_91 (by decide) ?_
  refine zc_eq (tgt := 108) hx hb dM_isDone_93 rfl (by omega) (by omega) (fun q => absurd q (by omega)) (fun _ => ?_)
  refine lv_iload hx hb dM_isDone_96 (lv_at hl 3 rfl) ?_
  refine lv_bipush (v := nI 17) hx hb dM_isDone_98 (by decide) ?_
  refine zc_ne (tgt := 112) hx hb dM_isDone_100 rfl (by omega) (by omega) (fun _ => ?_) (fun q => absurd q (by omega))
  refine lv_iload hx hb dM_isDone_112 (lv_at hl 3 rfl) ?_
  refine lv_iconst (v := nI 5) hx hb dM_isDone_114 (by decide) ?_
  refine zc_eq (tgt := 146) hx hb dM_isDone_115 rfl (by omega) (by omega) (fun q => absurd q (by omega)) (fun _ => ?_)
  refine lv_iload hx hb dM_isDone_118 (lv_at hl 3 rfl) ?_
  refine lv_bipush (v := nI 12) hx hb dM_isDone_120 (by decide) ?_
  refine zc_eq (tgt := 146) hx hb dM_isDone_122 rfl (by omega) (by omega) (fun q => absurd q (by omega)) (fun _ => ?_)
  refine lv_iload hx hb dM_isDone_125 (lv_at hl 3 rfl) ?_
  refine lv_bipush (v := nI 13) hx hb dM_isDone_127 (by decide) ?_
  refine zc_eq (tgt := 146) hx hb dM_isDone_129 rfl (by omega) (by omega) (fun q => absurd q (by omega)) (fun _ => ?_)
  refine lv_iload hx hb dM_isDone_132 (lv_at hl 3 rfl) ?_
  refine lv_bipush (v := nI 16) hx hb dM_isDone_134 (by decide) ?_
  refine zc_eq (tgt := 146) hx hb dM_isDone_136 rfl (by omega) (by omega) (fun q => absurd q (by omega)) (fun _ => ?_)
  refine lv_iload hx hb dM_isDone_139 (lv_at hl 3 rfl) ?_
  refine lv_bipush (v := nI 17) hx hb dM_isDone_141 (by decide) ?_
  refine zc_ne (tgt := 150) hx hb dM_isDone_143 rfl (by omega) (by omega) (fun _ => ?_) (fun q => absurd q (by omega))
  refine lv_iconst (v := nI 0) hx hb dM_isDone_150 (by decide) ?_
  refine lv_istore hx hb dM_isDone_151 hl (by decide) rfl (fun ls hl => ?_)
  have hl : lv_has ls 14 [(9, .int (nI 0)), (8, .int (nI 1)), (4, .int (nI pl)), (6, .long x), (5, .int (nI 0)), (0, .ref (A 0)), (1, .int (nI w)), (2, .long key)] := hl
  refine lv_aload_n hx hb dM_isDone_153 rfl (lv_at hl 5 rfl) ?_
  refine zGetM hx hb hw hown hK hP 0 rfl 10 (by decide) wf_M_49 rfl dM_isDone_154 ?_
  refine lv_iload hx hb dM_isDone_157 (lv_at hl 0 rfl) ?_
  refine zc_lt (tgt := 176) hx hb dM_isDone_159 rfl (by omega) (by omega) (fun q => absurd q (by omega)) (fun _ => ?_)
  refine lv_iload hx hb dM_isDone_162 (lv_at hl 1 rfl) ?_
  refine zi_eq (tgt := 178) hx hb dM_isDone_164 rfl (by omega) (fun q => absurd q (by omega)) (fun _ => ?_)
  refine lv_aload_n hx hb dM_isDone_167 rfl (lv_at hl 5 rfl) ?_
  refine zGetM hx hb hw hown hK hP 0 rfl 10 (by decide) wf_M_49 rfl dM_isDone_168 ?_
  refine lv_bipush (v := nI 12) hx hb dM_isDone_171 (by decide) ?_
  refine zc_ne (tgt := 178) hx hb dM_isDone_173 rfl (by omega) (by omega) (fun _ => ?_) (fun q => absurd q (by omega))
  refine lv_iload hx hb dM_isDone_178 (lv_at hl 0 rfl) ?_
  refine zi_le (tgt := 197) hx hb dM_isDone_180 rfl (by omega) (fun _ => ?_) (fun q => absurd q (by omega))
  refine lv_lconst (v := 0) hx hb dM_isDone_197 (by decide) ?_
  refine lv_lstore hx hb dM_isDone_198 hl (by decide) rfl (fun ls hl => ?_)
  have hl : lv_has ls 14 [(10, .long (0 : Int64)), (9, .int (nI 0)), (8, .int (nI 1)), (4, .int (nI pl)), (6, .long x), (5, .int (nI 0)), (0, .ref (A 0)), (1, .int (nI w)), (2, .long key)] := hl
  refine lv_iload hx hb dM_isDone_200 (lv_at hl 1 rfl) ?_
  refine lv_iconst (v := nI 1) hx hb dM_isDone_202 (by decide) ?_
  refine zc_le (tgt := 220) hx hb dM_isDone_203 rfl (by omega) (by omega) (fun _ => ?_) (fun q => absurd q (by omega))
  refine lv_lconst (v := 0) hx hb dM_isDone_220 (by decide) ?_
  refine lv_lstore hx hb dM_isDone_221 hl (by decide) rfl (fun ls hl => ?_)
  have hl : lv_has ls 14 [(12, .long (0 : Int64)), (10, .long (0 : Int64)), (9, .int (nI 0)), (8, .int (nI 1)), (4, .int (nI pl)), (6, .long x), (5, .int (nI 0)), (0, .ref (A 0)), (1, .int (nI w)), (2, .long key)] := hl
  refine lv_iload hx hb dM_isDone_223 (lv_at hl 6 rfl) ?_
  refine lv_bipush (v := nI 18) hx hb dM_isDone_225 (by decide) ?_
  refine zc_ne (tgt := 232) hx hb dM_isDone_227 rfl (by omega) (by omega) (fun _ => ?_) (fun q => absurd q (by omega))
  refine lv_iload hx hb dM_isDone_232 (lv_at hl 6 rfl) ?_
  refine lv_iconst (v := nI 2) hx hb dM_isDone_234 (by decide) ?_
  refine zc_ne (tgt := 265) hx hb dM_isDone_235 rfl (by omega) (by omega) (fun _ => ?_) (fun q => absurd q (by omega))
  refine lv_iload hx hb dM_isDone_265 (lv_at hl 6 rfl) ?_
  refine lv_bipush (v := nI 9) hx hb dM_isDone_267 (by decide) ?_
  refine zc_ne (tgt := 279) hx hb dM_isDone_269 rfl (by omega) (by omega) (fun _ => ?_) (fun q => absurd q (by omega))
  refine lv_iload hx hb dM_isDone_279 (lv_at hl 6 rfl) ?_
  refine lv_bipush (v := nI 17) hx hb dM_isDone_281 (by decide) ?_
  refine zc_ne (tgt := 296) hx hb dM_isDone_283 rfl (by omega) (by omega) (fun _ => ?_) (fun q => absurd q (by omega))
  refine lv_iload hx hb dM_isDone_296 (lv_at hl 3 rfl) ?_
  refine zi_eq (tgt := 437) hx hb dM_isDone_298 rfl (by omega) (fun q => absurd q (by omega)) (fun _ => ?_)
  refine lv_aload_n hx hb dM_isDone_301 rfl (lv_at hl 7 rfl) ?_
  refine zGetM hx hb hw hown hK hP 0 rfl 3 (by decide) wf_M_20 rfl dM_isDone_302 ?_
  refine lv_aload_n hx hb dM_isDone_305 rfl (lv_at hl 7 rfl) ?_
  refine zGetM hx hb hw hown hK hP 0 rfl 10 (by decide) wf_M_49 rfl dM_isDone_306 ?_
  refine lv_iload hx hb dM_isDone_309 (lv_at hl 6 rfl) ?_
  refine zi_ne (tgt := 319) hx hb dM_isDone_311 rfl (by omega) (fun q => absurd q (by omega)) (fun _ => ?_)
  refine lv_lload hx hb dM_isDone_314 (lv_at hl 5 rfl) ?_
  refine lv_goto (tgt := 403) hx hb dM_isDone_316 rfl ?_
  refine zLast hx hb hK hP hD hS 4 3 rfl rfl (by omega) (by decide) dM_isDone_403 (fun H locs hP hD hS => ?_)
  replace hP : va_P D vwCl (mW A C ops nums vals (vp_updL st d x) ce pk pv n vc sp d pr tk th tr) H := hP
  replace hD : va_D F (mW A C ops nums vals (vp_updL st d x) ce pk pv n vc sp d pr tk th tr) := hD
  refine lv_aload_n hx hb dM_isDone_404 rfl (lv_at hl 7 rfl) ?_
  refine lv_dup hx hb dM_isDone_405 rfl ?_
  refine zGetM hx hb hw hown hK hP 0 rfl 10 (by decide) wf_M_49 rfl dM_isDone_406 ?_
  refine lv_iconst (v := nI 1) hx hb dM_isDone_409 (by decide) ?_
  refine lv_iadd hx hb dM_isDone_410 ?_
  refine zti (nI_add _ _) ?_
  refine zPutM hx hb hw hown hK hP hD hS 0 rfl 10 (by decide) wf_M_49 rfl rfl rfl (Nat.le_of_ble_eq_true rfl) dM_isDone_411 (fun H locs hP hD hS => ?_)
  replace hP : va_P D vwCl (mW A C ops nums vals (vp_updL st d x) ce pk pv n vc sp (d + 1) pr tk th tr) H := hP
  replace hD : va_D F (mW A C ops nums vals (vp_updL st d x) ce pk pv n vc sp (d + 1) pr tk th tr) := hD
  refine lv_iload hx hb dM_isDone_414 (lv_at hl 6 rfl) ?_
  refine lv_iconst (v := nI 2) hx hb dM_isDone_416 (by decide) ?_
  refine zc_ne (tgt := 706) hx hb dM_isDone_417 rfl (by omega) (by omega) (fun _ => ?_) (fun q => absurd q (by omega))
  refine lv_goto (tgt := 3) hx hb dM_isDone_706 rfl ?_
  exact kk _ _ _ hP hD hS (lv_sub hl [4, 7, 8, 9] rfl)
set_option maxRecDepth 20000 in
set_option maxHeartbeats 4000000 in
theorem mO1 {p : Program} {l : Launch} {e : Env} {s : State} {m : MethodId} {args : Array Value} {below : List Frame} {meth : Method} {c : Code} {F : Nat → Prop} {D : va_G} {A : Nat → Nat} {C : Nat → ClassId} (hx : p.tables.exec = Jvm.exec) (hb : c.code = cM_isDone) (hr : meth.sig.returnType = (some .boolean)) (hlk : meth.locks = false) (hml : c.maxLocals = 14) (hw : ∀ w ∈ WS, w.before args s = true) (hown : s.vm.findClass RM = some m.cls) (hK : va_K D vwCl (mT C) s) (hA : ∀ q, s.heap.size ≤ q → F q) {Q : State → Prop} {ls : Array Slot} {H : Heap} {locs : List Loc} {ops : Nat → Int32} {nums vals st ce pk pv : Nat → Int64} {n vc sp d pr tk th tr : Nat} {w pl : Nat} {key x : Int64} (hd : d ≤ 12) (hw2 : w ≤ 2) (hvc : vc ≤ 40) (htk : tk ≤ vc) (hpr : pr ≤ 4) (hpl : pl ≤ 40) (hd1 : d < 12) (hP : va_P D vwCl (mW A C ops nums vals st ce pk pv n vc sp d pr tk th tr) H) (hD : va_D F (mW A C ops nums vals st ce pk pv n vc sp d pr tk th tr)) (hS : va_S F s.heap H locs) (hl : lv_has ls 14 [(4, .int (nI pl)), (6, .long x), (5, .int (nI 1)), (0, .ref (A 0)), (1, .int (nI w)), (2, .long key)]) (kk : ∀ (ls : Array Slot) (H : Heap) (locs : List Loc), va_P D vwCl (mW A C ops nums vals (vp_updL st d key) ce pk pv n vc sp (d + 1) pr tk th tr) H → va_D F (mW A C ops nums vals (vp_updL st d key) ce pk pv n vc sp (d + 1) pr tk th tr) → va_S F s.heap H locs → lv_has ls 14 [(4, .int (nI pl)), (0, .ref (A 0)), (1, .int (nI w)), (2, .long key)] → W p l e (rmk 0 0) s m args below meth c H locs 0 0 Q (F0 m 3 ls [])) : W p l e (rmk 0 0) s m args below meth c H locs 0 0 Q (F0 m 55 ls []) := by
  refine lv_iload hx hb dM_isDone_55 (lv_at hl 2 rfl) ?_
  refine lv_iconst (v := nI 4) hx hb dM_isDone_57 (by decide) ?_
  refine zc_le (tgt := 68) hx hb dM_isDone_58 rfl (by omega) (by omega) (fun _ => ?_) (fun q => absurd q (by omega))
  refine lv_iconst (v := nI 1) hx hb dM_isDone_68 (by decide) ?_
  refine lv_goto (tgt := 73) hx hb dM_isDone_69 rfl ?_
  refine lv_istore hx hb dM_isDone_73 hl (by decide) rfl (fun ls hl => ?_)
  have hl : lv_has ls 14 [(8, .int (nI 1)), (4, .int (nI pl)), (6, .long x), (5, .int (nI 1)), (0, .ref (A 0)), (1, .int (nI w)), (2, .long key)] := hl
  refine lv_iload hx hb dM_isDone_75 (lv_at hl 3 rfl) ?_
  refine lv_bipush (v := nI 6) hx hb dM_isDone_77 (by decide) ?_
  refine zc_lt (tgt := 89) hx hb dM_isDone_79 rfl (by omega) (by omega) (fun _ => ?_) (fun q => absurd q (by omega))
  refine lv_iload hx hb dM_isDone_89 (lv_at hl 3 rfl) ?_
  refine lv_bipush (v := nI 14) hx hb dM_isDone_91 (by decide) ?_
  refine zc_eq (tgt := 108) hx hb dM_isDone_93 rfl (by omega) (by omega) (fun q => absurd q (by omega)) (fun _ => ?_)
  refine lv_iload hx hb dM_isDone_96 (lv_at hl 3 rfl) ?_
  refine lv_bipush (v := nI 17) hx hb dM_isDone_98 (by decide) ?_
  refine zc_ne (tgt := 112) hx hb dM_isDone_100 rfl (by omega) (by omega) (fun _ => ?_) (fun q => absurd q (by omega))
  refine lv_iload hx hb dM_isDone_112 (lv_at hl 3 rfl) ?_
  refine lv_iconst (v := nI 5) hx hb dM_isDone_114 (by decide) ?_
  refine zc_eq (tgt := 146) hx hb dM_isDone_115 rfl (by omega) (by omega) (fun q => absurd q (by omega)) (fun _ => ?_)
  refine lv_iload hx hb dM_isDone_118 (lv_at hl 3 rfl) ?_
  refine lv_bipush (v := nI 12) hx hb dM_isDone_120 (by decide) ?_
  refine zc_eq (tgt := 146) hx hb dM_isDone_122 rfl (by omega) (by omega) (fun q => absurd q (by omega)) (fun _ => ?_)
  refine lv_iload hx hb dM_isDone_125 (lv_at hl 3 rfl) ?_
  refine lv_bipush (v := nI 13) hx hb dM_isDone_127 (by decide) ?_
  refine zc_eq (tgt := 146) hx hb dM_isDone_129 rfl (by omega) (by omega) (fun q => absurd q (by omega)) (fun _ => ?_)
  refine lv_iload hx hb dM_isDone_132 (lv_at hl 3 rfl) ?_
  refine lv_bipush (v := nI 16) hx hb dM_isDone_134 (by decide) ?_
  refine zc_eq (tgt := 146) hx hb dM_isDone_136 rfl (by omega) (by omega) (fun q => absurd q (by omega)) (fun _ => ?_)
  refine lv_iload hx hb dM_isDone_139 (lv_at hl 3 rfl) ?_
  refine lv_bipush (v := nI 17) hx hb dM_isDone_141 (by decide) ?_
  refine zc_ne (tgt := 150) hx hb dM_isDone_143 rfl (by omega) (by omega) (fun _ => ?_) (fun q => absurd q (by omega))
  refine lv_iconst (v := nI 0) hx hb dM_isDone_150 (by decide) ?_
  refine lv_istore hx hb dM_isDone_151 hl (by decide) rfl (fun ls hl => ?_)
  have hl : lv_has ls 14 [(9, .int (nI 0)), (8, .int (nI 1)), (4, .int (nI pl)), (6, .long x), (5, .int (nI 1)), (0, .ref (A 0)), (1, .int (nI w)), (2, .long key)] := hl
  refine lv_aload_n hx hb dM_isDone_153 rfl (lv_at hl 5 rfl) ?_
  refine zGetM hx hb hw hown hK hP 0 rfl 10 (by decide) wf_M_49 rfl dM_isDone_154 ?_
  refine lv_iload hx hb dM_isDone_157 (lv_at hl 0 rfl) ?_
  refine zc_lt (tgt := 176) hx hb dM_isDone_159 rfl (by omega) (by omega) (fun q => absurd q (by omega)) (fun _ => ?_)
  refine lv_iload hx hb dM_isDone_162 (lv_at hl 1 rfl) ?_
  refine zi_eq (tgt := 178) hx hb dM_isDone_164 rfl (by omega) (fun q => absurd q (by omega)) (fun _ => ?_)
  refine lv_aload_n hx hb dM_isDone_167 rfl (lv_at hl 5 rfl) ?_
  refine zGetM hx hb hw hown hK hP 0 rfl 10 (by decide) wf_M_49 rfl dM_isDone_168 ?_
  refine lv_bipush (v := nI 12) hx hb dM_isDone_171 (by decide) ?_
  refine zc_ne (tgt := 178) hx hb dM_isDone_173 rfl (by omega) (by omega) (fun _ => ?_) (fun q => absurd q (by omega))
  refine lv_iload hx hb dM_isDone_178 (lv_at hl 0 rfl) ?_
  refine zi_le (tgt := 197) hx hb dM_isDone_180 rfl (by omega) (fun _ => ?_) (fun q => absurd q (by omega))
  refine lv_lconst (v := 0) hx hb dM_isDone_197 (by decide) ?_
  refine lv_lstore hx hb dM_isDone_198 hl (by decide) rfl (fun ls hl => ?_)
  have hl : lv_has ls 14 [(10, .long (0 : Int64)), (9, .int (nI 0)), (8, .int (nI 1)), (4, .int (nI pl)), (6, .long x), (5, .int (nI 1)), (0, .ref (A 0)), (1, .int (nI w)), (2, .long key)] := hl
  refine lv_iload hx hb dM_isDone_200 (lv_at hl 1 rfl) ?_
  refine lv_iconst (v := nI 1) hx hb dM_isDone_202 (by decide) ?_
  refine zc_le (tgt := 220) hx hb dM_isDone_203 rfl (by omega) (by omega) (fun _ => ?_) (fun q => absurd q (by omega))
  refine lv_lconst (v := 0) hx hb dM_isDone_220 (by decide) ?_
  refine lv_lstore hx hb dM_isDone_221 hl (by decide) rfl (fun ls hl => ?_)
  have hl : lv_has ls 14 [(12, .long (0 : Int64)), (10, .long (0 : Int64)), (9, .int (nI 0)), (8, .int (nI 1)), (4, .int (nI pl)), (6, .long x), (5, .int (nI 1)), (0, .ref (A 0)), (1, .int (nI w)), (2, .long key)] := hl
  refine lv_iload hx hb dM_isDone_223 (lv_at hl 6 rfl) ?_
  refine lv_bipush (v := nI 18) hx hb dM_isDone_225 (by decide) ?_
  refine zc_ne (tgt := 232) hx hb dM_isDone_227 rfl (by omega) (by omega) (fun _ => ?_) (fun q => absurd q (by omega))
  refine lv_iload hx hb dM_isDone_232 (lv_at hl 6 rfl) ?_
  refine lv_iconst (v := nI 2) hx hb dM_isDone_234 (by decide) ?_
  refine zc_ne (tgt := 265) hx hb dM_isDone_235 rfl (by omega) (by omega) (fun _ => ?_) (fun q => absurd q (by omega))
  refine lv_iload hx hb dM_isDone_265 (lv_at hl 6 rfl) ?_
  refine lv_bipush (v := nI 9) hx hb dM_isDone_267 (by decide) ?_
  refine zc_ne (tgt := 279) hx hb dM_isDone_269 rfl (by omega) (by omega) (fun _ => ?_) (fun q => absurd q (by omega))
  refine lv_iload hx hb dM_isDone_279 (lv_at hl 6 rfl) ?_
  refine lv_bipush (v := nI 17) hx hb dM_isDone_281 (by decide) ?_
  refine zc_ne (tgt := 296) hx hb dM_isDone_283 rfl (by omega) (by omega) (fun _ => ?_) (fun q => absurd q (by omega))
  refine lv_iload hx hb dM_isDone_296 (lv_at hl 3 rfl) ?_
  refine zi_eq (tgt := 437) hx hb dM_isDone_298 rfl (by omega) (fun q => absurd q (by omega)) (fun _ => ?_)
  refine lv_aload_n hx hb dM_isDone_301 rfl (lv_at hl 7 rfl) ?_
  refine zGetM hx hb hw hown hK hP 0 rfl 3 (by decide) wf_M_20 rfl dM_isDone_302 ?_
  refine lv_aload_n hx hb dM_isDone_305 rfl (lv_at hl 7 rfl) ?_
  refine zGetM hx hb hw hown hK hP 0 rfl 10 (by decide) wf_M_49 rfl dM_isDone_306 ?_
  refine lv_iload hx hb dM_isDone_309 (lv_at hl 6 rfl) ?_
  refine zi_ne (tgt := 319) hx hb dM_isDone_311 rfl (by omega) (fun _ => ?_) (fun q => absurd q (by omega))
  refine lv_iload hx hb dM_isDone_319 (lv_at hl 6 rfl) ?_
  refine lv_iconst (v := nI 1) hx hb dM_isDone_321 (by decide) ?_
  refine zc_ne (tgt := 329) hx hb dM_isDone_322 rfl (by omega) (by omega) (fun q => absurd q (by omega)) (fun _ => ?_)
  refine lv_lload_n hx hb dM_isDone_325 rfl (lv_at hl 9 rfl) ?_
  refine lv_goto (tgt := 403) hx hb dM_isDone_326 rfl ?_
  refine zLast hx hb hK hP hD hS 4 3 rfl rfl (by omega) (by decide) dM_isDone_403 (fun H locs hP hD hS => ?_)
  replace hP : va_P D vwCl (mW A C ops nums vals (vp_updL st d key) ce pk pv n vc sp d pr tk th tr) H := hP
  replace hD : va_D F (mW A C ops nums vals (vp_updL st d key) ce pk pv n vc sp d pr tk th tr) := hD
  refine lv_aload_n hx hb dM_isDone_404 rfl (lv_at hl 7 rfl) ?_
  refine lv_dup hx hb dM_isDone_405 rfl ?_
  refine zGetM hx hb hw hown hK hP 0 rfl 10 (by decide) wf_M_49 rfl dM_isDone_406 ?_
  refine lv_iconst (v := nI 1) hx hb dM_isDone_409 (by decide) ?_
  refine lv_iadd hx hb dM_isDone_410 ?_
  refine zti (nI_add _ _) ?_
  refine zPutM hx hb hw hown hK hP hD hS 0 rfl 10 (by decide) wf_M_49 rfl rfl rfl (Nat.le_of_ble_eq_true rfl) dM_isDone_411 (fun H locs hP hD hS => ?_)
  replace hP : va_P D vwCl (mW A C ops nums vals (vp_updL st d key) ce pk pv n vc sp (d + 1) pr tk th tr) H := hP
  replace hD : va_D F (mW A C ops nums vals (vp_updL st d key) ce pk pv n vc sp (d + 1) pr tk th tr) := hD
  refine lv_iload hx hb dM_isDone_414 (lv_at hl 6 rfl) ?_
  refine lv_iconst (v := nI 2) hx hb dM_isDone_416 (by decide) ?_
  refine zc_ne (tgt := 706) hx hb dM_isDone_417 rfl (by omega) (by omega) (fun _ => ?_) (fun q => absurd q (by omega))
  refine lv_goto (tgt := 3) hx hb dM_isDone_706 rfl ?_
  exact kk _ _ _ hP hD hS (lv_sub hl [4, 7, 8, 9] rfl)
set_option maxRecDepth 20000 in
set_option maxHeartbeats 4000000 in
theorem mO2a {p : Program} {l : Launch} {e : Env} {s : State} {m : MethodId} {args : Array Value} {below : List Frame} {meth : Method} {c : Code} {F : Nat → Prop} {D : va_G} {A : Nat → Nat} {C : Nat → ClassId} (hx : p.tables.exec = Jvm.exec) (hb : c.code = cM_isDone) (hr : meth.sig.returnType = (some .boolean)) (hlk : meth.locks = false) (hml : c.maxLocals = 14) (hw : ∀ w ∈ WS, w.before args s = true) (hown : s.vm.findClass RM = some m.cls) (hK : va_K D vwCl (mT C) s) (hA : ∀ q, s.heap.size ≤ q → F q) {Q : State → Prop} {ls : Array Slot} {H : Heap} {locs : List Loc} {ops : Nat → Int32} {nums vals st ce pk pv : Nat → Int64} {n vc sp d pr tk th tr : Nat} {w pl : Nat} {key x : Int64} (hd : d ≤ 12) (hw2 : w ≤ 2) (hvc : vc ≤ 40) (htk : tk ≤ vc) (hpr : pr ≤ 4) (hpl : pl ≤ 40) (hd1 : d < 12) (hv : 0 < vc) (hP : va_P D vwCl (mW A C ops nums vals st ce pk pv n vc sp d pr tk th tr) H) (hD : va_D F (mW A C ops nums vals st ce pk pv n vc sp d pr tk th tr)) (hS : va_S F s.heap H locs) (hl : lv_has ls 14 [(4, .int (nI pl)), (6, .long x), (5, .int (nI 2)), (0, .ref (A 0)), (1, .int (nI 0)), (2, .long key)]) (kk : ∀ (ls : Array Slot) (H : Heap) (locs : List Loc), va_P D vwCl (mW A C ops nums vals (vp_updL st d (vals 0)) ce pk pv n vc sp (d + 1) pr tk th tr) H → va_D F (mW A C ops nums vals (vp_updL st d (vals 0)) ce pk pv n vc sp (d + 1) pr tk th tr) → va_S F s.heap H locs → lv_has ls 14 [(4, .int (nI pl)), (0, .ref (A 0)), (1, .int (nI 0)), (2, .long key)] → W p l e (rmk 0 0) s m args below meth c H locs 0 0 Q (F0 m 3 ls [])) : W p l e (rmk 0 0) s m args below meth c H locs 0 0 Q (F0 m 55 ls []) := by
  refine lv_iload hx hb dM_isDone_55 (lv_at hl 2 rfl) ?_
  refine lv_iconst (v := nI 4) hx hb dM_isDone_57 (by decide) ?_
  refine zc_le (tgt := 68) hx hb dM_isDone_58 rfl (by omega) (by omega) (fun _ => ?_) (fun q => absurd q (by omega))
  refine lv_iconst (v := nI 1) hx hb dM_isDone_68 (by decide) ?_
  refine lv_goto (tgt := 73) hx hb dM_isDone_69 rfl ?_
  refine lv_istore hx hb dM_isDone_73 hl (by decide) rfl (fun ls hl => ?_)
  have hl : lv_has ls 14 [(8, .int (nI 1)), (4, .int (nI pl)), (6, .long x), (5, .int (nI 2)), (0, .ref (A 0)), (1, .int (nI 0)), (2, .long key)] := hl
  refine lv_iload hx hb dM_isDone_75 (lv_at hl 3 rfl) ?_
  refine lv_bipush (v := nI 6) hx hb dM_isDone_77 (by decide) ?_
  refine zc_lt (tgt := 89) hx hb dM_isDone_79 rfl (by omega) (by omega) (fun _ => ?_) (fun q => absurd q (by omega))
  refine lv_iload hx hb dM_isDone_89 (lv_at hl 3 rfl) ?_
  refine lv_bipush (v := nI 14) hx hb dM_isDone_91 (by decide) ?_
  refine zc_eq (tgt := 108) hx hb dM_isDone_93 rfl (by omega) (by omega) (fun q => absurd q (by omega)) (fun _ => ?_)
  refine lv_iload hx hb dM_isDone_96 (lv_at hl 3 rfl) ?_
  refine lv_bipush (v := nI 17) hx hb dM_isDone_98 (by decide) ?_
  refine zc_ne (tgt := 112) hx hb dM_isDone_100 rfl (by omega) (by omega) (fun _ => ?_) (fun q => absurd q (by omega))
  refine lv_iload hx hb dM_isDone_112 (lv_at hl 3 rfl) ?_
  refine lv_iconst (v := nI 5) hx hb dM_isDone_114 (by decide) ?_
  refine zc_eq (tgt := 146) hx hb dM_isDone_115 rfl (by omega) (by omega) (fun q => absurd q (by omega)) (fun _ => ?_)
  refine lv_iload hx hb dM_isDone_118 (lv_at hl 3 rfl) ?_
  refine lv_bipush (v := nI 12) hx hb dM_isDone_120 (by decide) ?_
  refine zc_eq (tgt := 146) hx hb dM_isDone_122 rfl (by omega) (by omega) (fun q => absurd q (by omega)) (fun _ => ?_)
  refine lv_iload hx hb dM_isDone_125 (lv_at hl 3 rfl) ?_
  refine lv_bipush (v := nI 13) hx hb dM_isDone_127 (by decide) ?_
  refine zc_eq (tgt := 146) hx hb dM_isDone_129 rfl (by omega) (by omega) (fun q => absurd q (by omega)) (fun _ => ?_)
  refine lv_iload hx hb dM_isDone_132 (lv_at hl 3 rfl) ?_
  refine lv_bipush (v := nI 16) hx hb dM_isDone_134 (by decide) ?_
  refine zc_eq (tgt := 146) hx hb dM_isDone_136 rfl (by omega) (by omega) (fun q => absurd q (by omega)) (fun _ => ?_)
  refine lv_iload hx hb dM_isDone_139 (lv_at hl 3 rfl) ?_
  refine lv_bipush (v := nI 17) hx hb dM_isDone_141 (by decide) ?_
  refine zc_ne (tgt := 150) hx hb dM_isDone_143 rfl (by omega) (by omega) (fun _ => ?_) (fun q => absurd q (by omega))
  refine lv_iconst (v := nI 0) hx hb dM_isDone_150 (by decide) ?_
  refine lv_istore hx hb dM_isDone_151 hl (by decide) rfl (fun ls hl => ?_)
  have hl : lv_has ls 14 [(9, .int (nI 0)), (8, .int (nI 1)), (4, .int (nI pl)), (6, .long x), (5, .int (nI 2)), (0, .ref (A 0)), (1, .int (nI 0)), (2, .long key)] := hl
  refine lv_aload_n hx hb dM_isDone_153 rfl (lv_at hl 5 rfl) ?_
  refine zGetM hx hb hw hown hK hP 0 rfl 10 (by decide) wf_M_49 rfl dM_isDone_154 ?_
  refine lv_iload hx hb dM_isDone_157 (lv_at hl 0 rfl) ?_
  refine zc_lt (tgt := 176) hx hb dM_isDone_159 rfl (by omega) (by omega) (fun q => absurd q (by omega)) (fun _ => ?_)
  refine lv_iload hx hb dM_isDone_162 (lv_at hl 1 rfl) ?_
  refine zi_eq (tgt := 178) hx hb dM_isDone_164 rfl (by omega) (fun q => absurd q (by omega)) (fun _ => ?_)
  refine lv_aload_n hx hb dM_isDone_167 rfl (lv_at hl 5 rfl) ?_
  refine zGetM hx hb hw hown hK hP 0 rfl 10 (by decide) wf_M_49 rfl dM_isDone_168 ?_
  refine lv_bipush (v := nI 12) hx hb dM_isDone_171 (by decide) ?_
  refine zc_ne (tgt := 178) hx hb dM_isDone_173 rfl (by omega) (by omega) (fun _ => ?_) (fun q => absurd q (by omega))
  refine lv_iload hx hb dM_isDone_178 (lv_at hl 0 rfl) ?_
  refine zi_le (tgt := 197) hx hb dM_isDone_180 rfl (by omega) (fun _ => ?_) (fun q => absurd q (by omega))
  refine lv_lconst (v := 0) hx hb dM_isDone_197 (by decide) ?_
  refine lv_lstore hx hb dM_isDone_198 hl (by decide) rfl (fun ls hl => ?_)
  have hl : lv_has ls 14 [(10, .long (0 : Int64)), (9, .int (nI 0)), (8, .int (nI 1)), (4, .int (nI pl)), (6, .long x), (5, .int (nI 2)), (0, .ref (A 0)), (1, .int (nI 0)), (2, .long key)] := hl
  refine lv_iload hx hb dM_isDone_200 (lv_at hl 1 rfl) ?_
  refine lv_iconst (v := nI 1) hx hb dM_isDone_202 (by decide) ?_
  refine zc_le (tgt := 220) hx hb dM_isDone_203 rfl (by omega) (by omega) (fun _ => ?_) (fun q => absurd q (by omega))
  refine lv_lconst (v := 0) hx hb dM_isDone_220 (by decide) ?_
  refine lv_lstore hx hb dM_isDone_221 hl (by decide) rfl (fun ls hl => ?_)
  have hl : lv_has ls 14 [(12, .long (0 : Int64)), (10, .long (0 : Int64)), (9, .int (nI 0)), (8, .int (nI 1)), (4, .int (nI pl)), (6, .long x), (5, .int (nI 2)), (0, .ref (A 0)), (1, .int (nI 0)), (2, .long key)] := hl
  refine lv_iload hx hb dM_isDone_223 (lv_at hl 6 rfl) ?_
  refine lv_bipush (v := nI 18) hx hb dM_isDone_225 (by decide) ?_
  refine zc_ne (tgt := 232) hx hb dM_isDone_227 rfl (by omega) (by omega) (fun _ => ?_) (fun q => absurd q (by omega))
  refine lv_iload hx hb dM_isDone_232 (lv_at hl 6 rfl) ?_
  refine lv_iconst (v := nI 2) hx hb dM_isDone_234 (by decide) ?_
  refine zc_ne (tgt := 265) hx hb dM_isDone_235 rfl (by omega) (by omega) (fun q => absurd q (by omega)) (fun _ => ?_)
  refine lv_iload_n hx hb dM_isDone_238 rfl (lv_at hl 8 rfl) ?_
  refine zi_ne (tgt := 252) hx hb dM_isDone_239 rfl (by omega) (fun q => absurd q (by omega)) (fun _ => ?_)
  refine lv_aload_n hx hb dM_isDone_242 rfl (lv_at hl 7 rfl) ?_
  refine zGetM hx hb hw hown hK hP 0 rfl 8 (by decide) wf_M_43 rfl dM_isDone_243 ?_
  refine zi_ne (tgt := 265) hx hb dM_isDone_246 rfl (by omega) (fun _ => ?_) (fun q => absurd q (by omega))
  refine lv_iload hx hb dM_isDone_265 (lv_at hl 6 rfl) ?_
  refine lv_bipush (v := nI 9) hx hb dM_isDone_267 (by decide) ?_
  refine zc_ne (tgt := 279) hx hb dM_isDone_269 rfl (by omega) (by omega) (fun _ => ?_) (fun q => absurd q (by omega))
  refine lv_iload hx hb dM_isDone_279 (lv_at hl 6 rfl) ?_
  refine lv_bipush (v := nI 17) hx hb dM_isDone_281 (by decide) ?_
  refine zc_ne (tgt := 296) hx hb dM_isDone_283 rfl (by omega) (by omega) (fun _ => ?_) (fun q => absurd q (by omega))
  refine lv_iload hx hb dM_isDone_296 (lv_at hl 3 rfl) ?_
  refine zi_eq (tgt := 437) hx hb dM_isDone_298 rfl (by omega) (fun q => absurd q (by omega)) (fun _ => ?_)
  refine lv_aload_n hx hb dM_isDone_301 rfl (lv_at hl 7 rfl) ?_
  refine zGetM hx hb hw hown hK hP 0 rfl 3 (by decide) wf_M_20 rfl dM_isDone_302 ?_
  refine lv_aload_n hx hb dM_isDone_305 rfl (lv_at hl 7 rfl) ?_
  refine zGetM hx hb hw hown hK hP 0 rfl 10 (by decide) wf_M_49 rfl dM_isDone_306 ?_
  refine lv_iload hx hb dM_isDone_309 (lv_at hl 6 rfl) ?_
  refine zi_ne (tgt := 319) hx hb dM_isDone_311 rfl (by omega) (fun _ => ?_) (fun q => absurd q (by omega))
  refine lv_iload hx hb dM_isDone_319 (lv_at hl 6 rfl) ?_
  refine lv_iconst (v := nI 1) hx hb dM_isDone_321 (by decide) ?_
  refine zc_ne (tgt := 329) hx hb dM_isDone_322 rfl (by omega) (by omega) (fun _ => ?_) (fun q => absurd q (by omega))
  refine lv_iload hx hb dM_isDone_329 (lv_at hl 6 rfl) ?_
  refine lv_iconst (v := nI 2) hx hb dM_isDone_331 (by decide) ?_
  refine zc_ne (tgt := 355) hx hb dM_isDone_332 rfl (by omega) (by omega) (fun q => absurd q (by omega)) (fun _ => ?_)
  refine lv_aload_n hx hb dM_isDone_335 rfl (lv_at hl 7 rfl) ?_
  refine zGetM hx hb hw hown hK hP 0 rfl 2 (by decide) wf_M_17 rfl dM_isDone_336 ?_
  refine lv_iload_n hx hb dM_isDone_339 rfl (lv_at hl 8 rfl) ?_
  refine zi_ne (tgt := 347) hx hb dM_isDone_340 rfl (by omega) (fun q => absurd q (by omega)) (fun _ => ?_)
  refine lv_iconst (v := nI 0) hx hb dM_isDone_343 (by decide) ?_
  refine lv_goto (tgt := 351) hx hb dM_isDone_344 rfl ?_
  refine zLald hx hb hK hP 3 2 rfl rfl (by omega) (by decide) dM_isDone_351 ?_
  refine lv_goto (tgt := 403) hx hb dM_isDone_352 rfl ?_
  refine zLast hx hb hK hP hD hS 4 3 rfl rfl (by omega) (by decide) dM_isDone_403 (fun H locs hP hD hS => ?_)
  replace hP : va_P D vwCl (mW A C ops nums vals (vp_updL st d (vals 0)) ce pk pv n vc sp d pr tk th tr) H := hP
  replace hD : va_D F (mW A C ops nums vals (vp_updL st d (vals 0)) ce pk pv n vc sp d pr tk th tr) := hD
  refine lv_aload_n hx hb dM_isDone_404 rfl (lv_at hl 7 rfl) ?_
  refine lv_dup hx hb dM_isDone_405 rfl ?_
  refine zGetM hx hb hw hown hK hP 0 rfl 10 (by decide) wf_M_49 rfl dM_isDone_406 ?_
  refine lv_iconst (v := nI 1) hx hb dM_isDone_409 (by decide) ?_
  refine lv_iadd hx hb dM_isDone_410 ?_
  refine zti (nI_add _ _) ?_
  refine zPutM hx hb hw hown hK hP hD hS 0 rfl 10 (by decide) wf_M_49 rfl rfl rfl (Nat.le_of_ble_eq_true rfl) dM_isDone_411 (fun H locs hP hD hS => ?_)
  replace hP : va_P D vwCl (mW A C ops nums vals (vp_updL st d (vals 0)) ce pk pv n vc sp (d + 1) pr tk th tr) H := hP
  replace hD : va_D F (mW A C ops nums vals (vp_updL st d (vals 0)) ce pk pv n vc sp (d + 1) pr tk th tr) := hD
  refine lv_iload hx hb dM_isDone_414 (lv_at hl 6 rfl) ?_
  refine lv_iconst (v := nI 2) hx hb dM_isDone_416 (by decide) ?_
  refine zc_ne (tgt := 706) hx hb dM_isDone_417 rfl (by omega) (by omega) (fun q => absurd q (by omega)) (fun _ => ?_)
  refine lv_iload_n hx hb dM_isDone_420 rfl (lv_at hl 8 rfl) ?_
  refine zi_le (tgt := 706) hx hb dM_isDone_421 rfl (by omega) (fun _ => ?_) (fun q => absurd q (by omega))
  refine lv_goto (tgt := 3) hx hb dM_isDone_706 rfl ?_
  exact kk _ _ _ hP hD hS (lv_sub hl [4, 7, 8, 9] rfl)
set_option maxRecDepth 20000 in
set_option maxHeartbeats 4000000 in
theorem mO2b {p : Program} {l : Launch} {e : Env} {s : State} {m : MethodId} {args : Array Value} {below : List Frame} {meth : Method} {c : Code} {F : Nat → Prop} {D : va_G} {A : Nat → Nat} {C : Nat → ClassId} (hx : p.tables.exec = Jvm.exec) (hb : c.code = cM_isDone) (hr : meth.sig.returnType = (some .boolean)) (hlk : meth.locks = false) (hml : c.maxLocals = 14) (hw : ∀ w ∈ WS, w.before args s = true) (hown : s.vm.findClass RM = some m.cls) (hK : va_K D vwCl (mT C) s) (hA : ∀ q, s.heap.size ≤ q → F q) {Q : State → Prop} {ls : Array Slot} {H : Heap} {locs : List Loc} {ops : Nat → Int32} {nums vals st ce pk pv : Nat → Int64} {n vc sp d pr tk th tr : Nat} {w pl : Nat} {key x : Int64} (hd : d ≤ 12) (hw2 : w ≤ 2) (hvc : vc ≤ 40) (htk : tk ≤ vc) (hpr : pr ≤ 4) (hpl : pl ≤ 40) (hd1 : d < 12) (hv : tk < vc) (hw1 : 0 < w) (hP : va_P D vwCl (mW A C ops nums vals st ce pk pv n vc sp d pr tk th tr) H) (hD : va_D F (mW A C ops nums vals st ce pk pv n vc sp d pr tk th tr)) (hS : va_S F s.heap H locs) (hl : lv_has ls 14 [(4, .int (nI pl)), (6, .long x), (5, .int (nI 2)), (0, .ref (A 0)), (1, .int (nI w)), (2, .long key)]) (kk : ∀ (ls : Array Slot) (H : Heap) (locs : List Loc), va_P D vwCl (mW A C ops nums vals (vp_updL st d (vals tk)) ce pk pv n vc sp (d + 1) pr (tk + 1) th tr) H → va_D F (mW A C ops nums vals (vp_updL st d (vals tk)) ce pk pv n vc sp (d + 1) pr (tk + 1) th tr) → va_S F s.heap H locs → lv_has ls 14 [(4, .int (nI pl)), (0, .ref (A 0)), (1, .int (nI w)), (2, .long key)] → W p l e (rmk 0 0) s m args below meth c H locs 0 0 Q (F0 m 3 ls [])) : W p l e (rmk 0 0) s m args below meth c H locs 0 0 Q (F0 m 55 ls []) := by
  refine lv_iload hx hb dM_isDone_55 (lv_at hl 2 rfl) ?_
  refine lv_iconst (v := nI 4) hx hb dM_isDone_57 (by decide) ?_
  refine zc_le (tgt := 68) hx hb dM_isDone_58 rfl (by omega) (by omega) (fun _ => ?_) (fun q => absurd q (by omega))
  refine lv_iconst (v := nI 1) hx hb dM_isDone_68 (by decide) ?_
  refine lv_goto (tgt := 73) hx hb dM_isDone_69 rfl ?_
  refine lv_istore hx hb dM_isDone_73 hl (by decide) rfl (fun ls hl => ?_)
  have hl : lv_has ls 14 [(8, .int (nI 1)), (4, .int (nI pl)), (6, .long x), (5, .int (nI 2)), (0, .ref (A 0)), (1, .int (nI w)), (2, .long key)] := hl
  refine lv_iload hx hb dM_isDone_75 (lv_at hl 3 rfl) ?_
  refine lv_bipush (v := nI 6) hx hb dM_isDone_77 (by decide) ?_
  refine zc_lt (tgt := 89) hx hb dM_isDone_79 rfl (by omega) (by omega) (fun _ => ?_) (fun q => absurd q (by omega))
  refine lv_iload hx hb dM_isDone_89 (lv_at hl 3 rfl) ?_
  refine lv_bipush (v := nI 14) hx hb dM_isDone_91 (by decide) ?_
  refine zc_eq (tgt := 108) hx hb dM_isDone_93 rfl (by omega) (by omega) (fun q => absurd q (by omega)) (fun _ => ?_)
  refine lv_iload hx hb dM_isDone_96 (lv_at hl 3 rfl) ?_
  refine lv_bipush (v := nI 17) hx hb dM_isDone_98 (by decide) ?_
  refine zc_ne (tgt := 112) hx hb dM_isDone_100 rfl (by omega) (by omega) (fun _ => ?_) (fun q => absurd q (by omega))
  refine lv_iload hx hb dM_isDone_112 (lv_at hl 3 rfl) ?_
  refine lv_iconst (v := nI 5) hx hb dM_isDone_114 (by decide) ?_
  refine zc_eq (tgt := 146) hx hb dM_isDone_115 rfl (by omega) (by omega) (fun q => absurd q (by omega)) (fun _ => ?_)
  refine lv_iload hx hb dM_isDone_118 (lv_at hl 3 rfl) ?_
  refine lv_bipush (v := nI 12) hx hb dM_isDone_120 (by decide) ?_
  refine zc_eq (tgt := 146) hx hb dM_isDone_122 rfl (by omega) (by omega) (fun q => absurd q (by omega)) (fun _ => ?_)
  refine lv_iload hx hb dM_isDone_125 (lv_at hl 3 rfl) ?_
  refine lv_bipush (v := nI 13) hx hb dM_isDone_127 (by decide) ?_
  refine zc_eq (tgt := 146) hx hb dM_isDone_129 rfl (by omega) (by omega) (fun q => absurd q (by omega)) (fun _ => ?_)
  refine lv_iload hx hb dM_isDone_132 (lv_at hl 3 rfl) ?_
  refine lv_bipush (v := nI 16) hx hb dM_isDone_134 (by decide) ?_
  refine zc_eq (tgt := 146) hx hb dM_isDone_136 rfl (by omega) (by omega) (fun q => absurd q (by omega)) (fun _ => ?_)
  refine lv_iload hx hb dM_isDone_139 (lv_at hl 3 rfl) ?_
  refine lv_bipush (v := nI 17) hx hb dM_isDone_141 (by decide) ?_
  refine zc_ne (tgt := 150) hx hb dM_isDone_143 rfl (by omega) (by omega) (fun _ => ?_) (fun q => absurd q (by omega))
  refine lv_iconst (v := nI 0) hx hb dM_isDone_150 (by decide) ?_
  refine lv_istore hx hb dM_isDone_151 hl (by decide) rfl (fun ls hl => ?_)
  have hl : lv_has ls 14 [(9, .int (nI 0)), (8, .int (nI 1)), (4, .int (nI pl)), (6, .long x), (5, .int (nI 2)), (0, .ref (A 0)), (1, .int (nI w)), (2, .long key)] := hl
  refine lv_aload_n hx hb dM_isDone_153 rfl (lv_at hl 5 rfl) ?_
  refine zGetM hx hb hw hown hK hP 0 rfl 10 (by decide) wf_M_49 rfl dM_isDone_154 ?_
  refine lv_iload hx hb dM_isDone_157 (lv_at hl 0 rfl) ?_
  refine zc_lt (tgt := 176) hx hb dM_isDone_159 rfl (by omega) (by omega) (fun q => absurd q (by omega)) (fun _ => ?_)
  refine lv_iload hx hb dM_isDone_162 (lv_at hl 1 rfl) ?_
  refine zi_eq (tgt := 178) hx hb dM_isDone_164 rfl (by omega) (fun q => absurd q (by omega)) (fun _ => ?_)
  refine lv_aload_n hx hb dM_isDone_167 rfl (lv_at hl 5 rfl) ?_
  refine zGetM hx hb hw hown hK hP 0 rfl 10 (by decide) wf_M_49 rfl dM_isDone_168 ?_
  refine lv_bipush (v := nI 12) hx hb dM_isDone_171 (by decide) ?_
  refine zc_ne (tgt := 178) hx hb dM_isDone_173 rfl (by omega) (by omega) (fun _ => ?_) (fun q => absurd q (by omega))
  refine lv_iload hx hb dM_isDone_178 (lv_at hl 0 rfl) ?_
  refine zi_le (tgt := 197) hx hb dM_isDone_180 rfl (by omega) (fun _ => ?_) (fun q => absurd q (by omega))
  refine lv_lconst (v := 0) hx hb dM_isDone_197 (by decide) ?_
  refine lv_lstore hx hb dM_isDone_198 hl (by decide) rfl (fun ls hl => ?_)
  have hl : lv_has ls 14 [(10, .long (0 : Int64)), (9, .int (nI 0)), (8, .int (nI 1)), (4, .int (nI pl)), (6, .long x), (5, .int (nI 2)), (0, .ref (A 0)), (1, .int (nI w)), (2, .long key)] := hl
  refine lv_iload hx hb dM_isDone_200 (lv_at hl 1 rfl) ?_
  refine lv_iconst (v := nI 1) hx hb dM_isDone_202 (by decide) ?_
  refine zc_le (tgt := 220) hx hb dM_isDone_203 rfl (by omega) (by omega) (fun _ => ?_) (fun q => absurd q (by omega))
  refine lv_lconst (v := 0) hx hb dM_isDone_220 (by decide) ?_
  refine lv_lstore hx hb dM_isDone_221 hl (by decide) rfl (fun ls hl => ?_)
  have hl : lv_has ls 14 [(12, .long (0 : Int64)), (10, .long (0 : Int64)), (9, .int (nI 0)), (8, .int (nI 1)), (4, .int (nI pl)), (6, .long x), (5, .int (nI 2)), (0, .ref (A 0)), (1, .int (nI w)), (2, .long key)] := hl
  refine lv_iload hx hb dM_isDone_223 (lv_at hl 6 rfl) ?_
  refine lv_bipush (v := nI 18) hx hb dM_isDone_225 (by decide) ?_
  refine zc_ne (tgt := 232) hx hb dM_isDone_227 rfl (by omega) (by omega) (fun _ => ?_) (fun q => absurd q (by omega))
  refine lv_iload hx hb dM_isDone_232 (lv_at hl 6 rfl) ?_
  refine lv_iconst (v := nI 2) hx hb dM_isDone_234 (by decide) ?_
  refine zc_ne (tgt := 265) hx hb dM_isDone_235 rfl (by omega) (by omega) (fun q => absurd q (by omega)) (fun _ => ?_)
  refine lv_iload_n hx hb dM_isDone_238 rfl (lv_at hl 8 rfl) ?_
  refine zi_ne (tgt := 252) hx hb dM_isDone_239 rfl (by omega) (fun _ => ?_) (fun q => absurd q (by omega))
  refine lv_aload_n hx hb dM_isDone_252 rfl (lv_at hl 7 rfl) ?_
  refine zGetM hx hb hw hown hK hP 0 rfl 12 (by decide) wf_M_55 rfl dM_isDone_253 ?_
  refine lv_aload_n hx hb dM_isDone_256 rfl (lv_at hl 7 rfl) ?_
  refine zGetM hx hb hw hown hK hP 0 rfl 8 (by decide) wf_M_43 rfl dM_isDone_257 ?_
  refine zc_ne (tgt := 265) hx hb dM_isDone_260 rfl (by omega) (by omega) (fun _ => ?_) (fun q => absurd q (by omega))
  refine lv_iload hx hb dM_isDone_265 (lv_at hl 6 rfl) ?_
  refine lv_bipush (v := nI 9) hx hb dM_isDone_267 (by decide) ?_
  refine zc_ne (tgt := 279) hx hb dM_isDone_269 rfl (by omega) (by omega) (fun _ => ?_) (fun q => absurd q (by omega))
  refine lv_iload hx hb dM_isDone_279 (lv_at hl 6 rfl) ?_
  refine lv_bipush (v := nI 17) hx hb dM_isDone_281 (by decide) ?_
  refine zc_ne (tgt := 296) hx hb dM_isDone_283 rfl (by omega) (by omega) (fun _ => ?_) (fun q => absurd q (by omega))
  refine lv_iload hx hb dM_isDone_296 (lv_at hl 3 rfl) ?_
  refine zi_eq (tgt := 437) hx hb dM_isDone_298 rfl (by omega) (fun q => absurd q (by omega)) (fun _ => ?_)
  refine lv_aload_n hx hb dM_isDone_301 rfl (lv_at hl 7 rfl) ?_
  refine zGetM hx hb hw hown hK hP 0 rfl 3 (by decide) wf_M_20 rfl dM_isDone_302 ?_
  refine lv_aload_n hx hb dM_isDone_305 rfl (lv_at hl 7 rfl) ?_
  refine zGetM hx hb hw hown hK hP 0 rfl 10 (by decide) wf_M_49 rfl dM_isDone_306 ?_
  refine lv_iload hx hb dM_isDone_309 (lv_at hl 6 rfl) ?_
  refine zi_ne (tgt := 319) hx hb dM_isDone_311 rfl (by omega) (fun _ => ?_) (fun q => absurd q (by omega))
  refine lv_iload hx hb dM_isDone_319 (lv_at hl 6 rfl) ?_
  refine lv_iconst (v := nI 1) hx hb dM_isDone_321 (by decide) ?_
  refine zc_ne (tgt := 329) hx hb dM_isDone_322 rfl (by omega) (by omega) (fun _ => ?_) (fun q => absurd q (by omega))
  refine lv_iload hx hb dM_isDone_329 (lv_at hl 6 rfl) ?_
  refine lv_iconst (v := nI 2) hx hb dM_isDone_331 (by decide) ?_
  refine zc_ne (tgt := 355) hx hb dM_isDone_332 rfl (by omega) (by omega) (fun q => absurd q (by omega)) (fun _ => ?_)
  refine lv_aload_n hx hb dM_isDone_335 rfl (lv_at hl 7 rfl) ?_
  refine zGetM hx hb hw hown hK hP 0 rfl 2 (by decide) wf_M_17 rfl dM_isDone_336 ?_
  refine lv_iload_n hx hb dM_isDone_339 rfl (lv_at hl 8 rfl) ?_
  refine zi_ne (tgt := 347) hx hb dM_isDone_340 rfl (by omega) (fun _ => ?_) (fun q => absurd q (by omega))
  refine lv_aload_n hx hb dM_isDone_347 rfl (lv_at hl 7 rfl) ?_
  refine zGetM hx hb hw hown hK hP 0 rfl 12 (by decide) wf_M_55 rfl dM_isDone_348 ?_
  refine zLald hx hb hK hP 3 2 rfl rfl (by omega) (by decide) dM_isDone_351 ?_
  refine lv_goto (tgt := 403) hx hb dM_isDone_352 rfl ?_
  refine zLast hx hb hK hP hD hS 4 3 rfl rfl (by omega) (by decide) dM_isDone_403 (fun H locs hP hD hS => ?_)
  replace hP : va_P D vwCl (mW A C ops nums vals (vp_updL st d (vals tk)) ce pk pv n vc sp d pr tk th tr) H := hP
  replace hD : va_D F (mW A C ops nums vals (vp_updL st d (vals tk)) ce pk pv n vc sp d pr tk th tr) := hD
  refine lv_aload_n hx hb dM_isDone_404 rfl (lv_at hl 7 rfl) ?_
  refine lv_dup hx hb dM_isDone_405 rfl ?_
  refine zGetM hx hb hw hown hK hP 0 rfl 10 (by decide) wf_M_49 rfl dM_isDone_406 ?_
  refine lv_iconst (v := nI 1) hx hb dM_isDone_409 (by decide) ?_
  refine lv_iadd hx hb dM_isDone_410 ?_
  refine zti (nI_add _ _) ?_
  refine zPutM hx hb hw hown hK hP hD hS 0 rfl 10 (by decide) wf_M_49 rfl rfl rfl (Nat.le_of_ble_eq_true rfl) dM_isDone_411 (fun H locs hP hD hS => ?_)
  replace hP : va_P D vwCl (mW A C ops nums vals (vp_updL st d (vals tk)) ce pk pv n vc sp (d + 1) pr tk th tr) H := hP
  replace hD : va_D F (mW A C ops nums vals (vp_updL st d (vals tk)) ce pk pv n vc sp (d + 1) pr tk th tr) := hD
  refine lv_iload hx hb dM_isDone_414 (lv_at hl 6 rfl) ?_
  refine lv_iconst (v := nI 2) hx hb dM_isDone_416 (by decide) ?_
  refine zc_ne (tgt := 706) hx hb dM_isDone_417 rfl (by omega) (by omega) (fun q => absurd q (by omega)) (fun _ => ?_)
  refine lv_iload_n hx hb dM_isDone_420 rfl (lv_at hl 8 rfl) ?_
  refine zi_le (tgt := 706) hx hb dM_isDone_421 rfl (by omega) (fun q => absurd q (by omega)) (fun _ => ?_)
  refine lv_aload_n hx hb dM_isDone_424 rfl (lv_at hl 7 rfl) ?_
  refine lv_dup hx hb dM_isDone_425 rfl ?_
  refine zGetM hx hb hw hown hK hP 0 rfl 12 (by decide) wf_M_55 rfl dM_isDone_426 ?_
  refine lv_iconst (v := nI 1) hx hb dM_isDone_429 (by decide) ?_
  refine lv_iadd hx hb dM_isDone_430 ?_
  refine zti (nI_add _ _) ?_
  refine zPutM hx hb hw hown hK hP hD hS 0 rfl 12 (by decide) wf_M_55 rfl rfl rfl (Nat.le_of_ble_eq_true rfl) dM_isDone_431 (fun H locs hP hD hS => ?_)
  replace hP : va_P D vwCl (mW A C ops nums vals (vp_updL st d (vals tk)) ce pk pv n vc sp (d + 1) pr (tk + 1) th tr) H := hP
  replace hD : va_D F (mW A C ops nums vals (vp_updL st d (vals tk)) ce pk pv n vc sp (d + 1) pr (tk + 1) th tr) := hD
  refine lv_goto (tgt := 706) hx hb dM_isDone_434 rfl ?_
  refine lv_goto (tgt := 3) hx hb dM_isDone_706 rfl ?_
  exact kk _ _ _ hP hD hS (lv_sub hl [4, 7, 8, 9] rfl)
set_option maxRecDepth 20000 in
set_option maxHeartbeats 4000000 in
theorem mO3 {p : Program} {l : Launch} {e : Env} {s : State} {m : MethodId} {args : Array Value} {below : List Frame} {meth : Method} {c : Code} {F : Nat → Prop} {D : va_G} {A : Nat → Nat} {C : Nat → ClassId} (hx : p.tables.exec = Jvm.exec) (hb : c.code = cM_isDone) (hr : meth.sig.returnType = (some .boolean)) (hlk : meth.locks = false) (hml : c.maxLocals = 14) (hw : ∀ w ∈ WS, w.before args s = true) (hown : s.vm.findClass RM = some m.cls) (hK : va_K D vwCl (mT C) s) (hA : ∀ q, s.heap.size ≤ q → F q) {Q : State → Prop} {ls : Array Slot} {H : Heap} {locs : List Loc} {ops : Nat → Int32} {nums vals st ce pk pv : Nat → Int64} {n vc sp d pr tk th tr : Nat} {w pl : Nat} {key x : Int64} (hd : d ≤ 12) (hw2 : w ≤ 2) (hvc : vc ≤ 40) (htk : tk ≤ vc) (hpr : pr ≤ 4) (hpl : pl ≤ 40) (hd1 : d < 12) (hP : va_P D vwCl (mW A C ops nums vals st ce pk pv n vc sp d pr tk th tr) H) (hD : va_D F (mW A C ops nums vals st ce pk pv n vc sp d pr tk th tr)) (hS : va_S F s.heap H locs) (hl : lv_has ls 14 [(4, .int (nI pl)), (6, .long x), (5, .int (nI 3)), (0, .ref (A 0)), (1, .int (nI w)), (2, .long key)]) (kk : ∀ (ls : Array Slot) (H : Heap) (locs : List Loc), va_P D vwCl (mW A C ops nums vals (vp_updL st d (if w ≠ 0 ∧ tk < vc then 1 else 0)) ce pk pv n vc sp (d + 1) pr tk th tr) H → va_D F (mW A C ops nums vals (vp_updL st d (if w ≠ 0 ∧ tk < vc then 1 else 0)) ce pk pv n vc sp (d + 1) pr tk th tr) → va_S F s.heap H locs → lv_has ls 14 [(4, .int (nI pl)), (0, .ref (A 0)), (1, .int (nI w)), (2, .long key)] → W p l e (rmk 0 0) s m args below meth c H locs 0 0 Q (F0 m 3 ls [])) : W p l e (rmk 0 0) s m args below meth c H locs 0 0 Q (F0 m 55 ls []) := by
  refine lv_iload hx hb dM_isDone_55 (lv_at hl 2 rfl) ?_
  refine lv_iconst (v := nI 4) hx hb dM_isDone_57 (by decide) ?_
  refine zc_le (tgt := 68) hx hb dM_isDone_58 rfl (by omega) (by omega) (fun _ => ?_) (fun q => absurd q (by omega))
  refine lv_iconst (v := nI 1) hx hb dM_isDone_68 (by decide) ?_
  refine lv_goto (tgt := 73) hx hb dM_isDone_69 rfl ?_
  refine lv_istore hx hb dM_isDone_73 hl (by decide) rfl (fun ls hl => ?_)
  have hl : lv_has ls 14 [(8, .int (nI 1)), (4, .int (nI pl)), (6, .long x), (5, .int (nI 3)), (0, .ref (A 0)), (1, .int (nI w)), (2, .long key)] := hl
  refine lv_iload hx hb dM_isDone_75 (lv_at hl 3 rfl) ?_
  refine lv_bipush (v := nI 6) hx hb dM_isDone_77 (by decide) ?_
  refine zc_lt (tgt := 89) hx hb dM_isDone_79 rfl (by omega) (by omega) (fun _ => ?_) (fun q => absurd q (by omega))
  refine lv_iload hx hb dM_isDone_89 (lv_at hl 3 rfl) ?_
  refine lv_bipush (v := nI 14) hx hb dM_isDone_91 (by decide) ?_
  refine zc_eq (tgt := 108) hx hb dM_isDone_93 rfl (by omega) (by omega) (fun q => absurd q (by omega)) (fun _ => ?_)
  refine lv_iload hx hb dM_isDone_96 (lv_at hl 3 rfl) ?_
  refine lv_bipush (v := nI 17) hx hb dM_isDone_98 (by decide) ?_
  refine zc_ne (tgt := 112) hx hb dM_isDone_100 rfl (by omega) (by omega) (fun _ => ?_) (fun q => absurd q (by omega))
  refine lv_iload hx hb dM_isDone_112 (lv_at hl 3 rfl) ?_
  refine lv_iconst (v := nI 5) hx hb dM_isDone_114 (by decide) ?_
  refine zc_eq (tgt := 146) hx hb dM_isDone_115 rfl (by omega) (by omega) (fun q => absurd q (by omega)) (fun _ => ?_)
  refine lv_iload hx hb dM_isDone_118 (lv_at hl 3 rfl) ?_
  refine lv_bipush (v := nI 12) hx hb dM_isDone_120 (by decide) ?_
  refine zc_eq (tgt := 146) hx hb dM_isDone_122 rfl (by omega) (by omega) (fun q => absurd q (by omega)) (fun _ => ?_)
  refine lv_iload hx hb dM_isDone_125 (lv_at hl 3 rfl) ?_
  refine lv_bipush (v := nI 13) hx hb dM_isDone_127 (by decide) ?_
  refine zc_eq (tgt := 146) hx hb dM_isDone_129 rfl (by omega) (by omega) (fun q => absurd q (by omega)) (fun _ => ?_)
  refine lv_iload hx hb dM_isDone_132 (lv_at hl 3 rfl) ?_
  refine lv_bipush (v := nI 16) hx hb dM_isDone_134 (by decide) ?_
  refine zc_eq (tgt := 146) hx hb dM_isDone_136 rfl (by omega) (by omega) (fun q => absurd q (by omega)) (fun _ => ?_)
  refine lv_iload hx hb dM_isDone_139 (lv_at hl 3 rfl) ?_
  refine lv_bipush (v := nI 17) hx hb dM_isDone_141 (by decide) ?_
  refine zc_ne (tgt := 150) hx hb dM_isDone_143 rfl (by omega) (by omega) (fun _ => ?_) (fun q => absurd q (by omega))
  refine lv_iconst (v := nI 0) hx hb dM_isDone_150 (by decide) ?_
  refine lv_istore hx hb dM_isDone_151 hl (by decide) rfl (fun ls hl => ?_)
  have hl : lv_has ls 14 [(9, .int (nI 0)), (8, .int (nI 1)), (4, .int (nI pl)), (6, .long x), (5, .int (nI 3)), (0, .ref (A 0)), (1, .int (nI w)), (2, .long key)] := hl
  refine lv_aload_n hx hb dM_isDone_153 rfl (lv_at hl 5 rfl) ?_
  refine zGetM hx hb hw hown hK hP 0 rfl 10 (by decide) wf_M_49 rfl dM_isDone_154 ?_
  refine lv_iload hx hb dM_isDone_157 (lv_at hl 0 rfl) ?_
  refine zc_lt (tgt := 176) hx hb dM_isDone_159 rfl (by omega) (by omega) (fun q => absurd q (by omega)) (fun _ => ?_)
  refine lv_iload hx hb dM_isDone_162 (lv_at hl 1 rfl) ?_
  refine zi_eq (tgt := 178) hx hb dM_isDone_164 rfl (by omega) (fun q => absurd q (by omega)) (fun _ => ?_)
  refine lv_aload_n hx hb dM_isDone_167 rfl (lv_at hl 5 rfl) ?_
  refine zGetM hx hb hw hown hK hP 0 rfl 10 (by decide) wf_M_49 rfl dM_isDone_168 ?_
  refine lv_bipush (v := nI 12) hx hb dM_isDone_171 (by decide) ?_
  refine zc_ne (tgt := 178) hx hb dM_isDone_173 rfl (by omega) (by omega) (fun _ => ?_) (fun q => absurd q (by omega))
  refine lv_iload hx hb dM_isDone_178 (lv_at hl 0 rfl) ?_
  refine zi_le (tgt := 197) hx hb dM_isDone_180 rfl (by omega) (fun _ => ?_) (fun q => absurd q (by omega))
  refine lv_lconst (v := 0) hx hb dM_isDone_197 (by decide) ?_
  refine lv_lstore hx hb dM_isDone_198 hl (by decide) rfl (fun ls hl => ?_)
  have hl : lv_has ls 14 [(10, .long (0 : Int64)), (9, .int (nI 0)), (8, .int (nI 1)), (4, .int (nI pl)), (6, .long x), (5, .int (nI 3)), (0, .ref (A 0)), (1, .int (nI w)), (2, .long key)] := hl
  refine lv_iload hx hb dM_isDone_200 (lv_at hl 1 rfl) ?_
  refine lv_iconst (v := nI 1) hx hb dM_isDone_202 (by decide) ?_
  refine zc_le (tgt := 220) hx hb dM_isDone_203 rfl (by omega) (by omega) (fun _ => ?_) (fun q => absurd q (by omega))
  refine lv_lconst (v := 0) hx hb dM_isDone_220 (by decide) ?_
  refine lv_lstore hx hb dM_isDone_221 hl (by decide) rfl (fun ls hl => ?_)
  have hl : lv_has ls 14 [(12, .long (0 : Int64)), (10, .long (0 : Int64)), (9, .int (nI 0)), (8, .int (nI 1)), (4, .int (nI pl)), (6, .long x), (5, .int (nI 3)), (0, .ref (A 0)), (1, .int (nI w)), (2, .long key)] := hl
  refine lv_iload hx hb dM_isDone_223 (lv_at hl 6 rfl) ?_
  refine lv_bipush (v := nI 18) hx hb dM_isDone_225 (by decide) ?_
  refine zc_ne (tgt := 232) hx hb dM_isDone_227 rfl (by omega) (by omega) (fun _ => ?_) (fun q => absurd q (by omega))
  refine lv_iload hx hb dM_isDone_232 (lv_at hl 6 rfl) ?_
  refine lv_iconst (v := nI 2) hx hb dM_isDone_234 (by decide) ?_
  refine zc_ne (tgt := 265) hx hb dM_isDone_235 rfl (by omega) (by omega) (fun _ => ?_) (fun q => absurd q (by omega))
  refine lv_iload hx hb dM_isDone_265 (lv_at hl 6 rfl) ?_
  refine lv_bipush (v := nI 9) hx hb dM_isDone_267 (by decide) ?_
  refine zc_ne (tgt := 279) hx hb dM_isDone_269 rfl (by omega) (by omega) (fun _ => ?_) (fun q => absurd q (by omega))
  refine lv_iload hx hb dM_isDone_279 (lv_at hl 6 rfl) ?_
  refine lv_bipush (v := nI 17) hx hb dM_isDone_281 (by decide) ?_
  refine zc_ne (tgt := 296) hx hb dM_isDone_283 rfl (by omega) (by omega) (fun _ => ?_) (fun q => absurd q (by omega))
  refine lv_iload hx hb dM_isDone_296 (lv_at hl 3 rfl) ?_
  refine zi_eq (tgt := 437) hx hb dM_isDone_298 rfl (by omega) (fun q => absurd q (by omega)) (fun _ => ?_)
  refine lv_aload_n hx hb dM_isDone_301 rfl (lv_at hl 7 rfl) ?_
  refine zGetM hx hb hw hown hK hP 0 rfl 3 (by decide) wf_M_20 rfl dM_isDone_302 ?_
  refine lv_aload_n hx hb dM_isDone_305 rfl (lv_at hl 7 rfl) ?_
  refine zGetM hx hb hw hown hK hP 0 rfl 10 (by decide) wf_M_49 rfl dM_isDone_306 ?_
  refine lv_iload hx hb dM_isDone_309 (lv_at hl 6 rfl) ?_
  refine zi_ne (tgt := 319) hx hb dM_isDone_311 rfl (by omega) (fun _ => ?_) (fun q => absurd q (by omega))
  refine lv_iload hx hb dM_isDone_319 (lv_at hl 6 rfl) ?_
  refine lv_iconst (v := nI 1) hx hb dM_isDone_321 (by decide) ?_
  refine zc_ne (tgt := 329) hx hb dM_isDone_322 rfl (by omega) (by omega) (fun _ => ?_) (fun q => absurd q (by omega))
  refine lv_iload hx hb dM_isDone_329 (lv_at hl 6 rfl) ?_
  refine lv_iconst (v := nI 2) hx hb dM_isDone_331 (by decide) ?_
  refine zc_ne (tgt := 355) hx hb dM_isDone_332 rfl (by omega) (by omega) (fun _ => ?_) (fun q => absurd q (by omega))
  refine lv_iload hx hb dM_isDone_355 (lv_at hl 6 rfl) ?_
  refine lv_iconst (v := nI 3) hx hb dM_isDone_357 (by decide) ?_
  refine zc_ne (tgt := 384) hx hb dM_isDone_358 rfl (by omega) (by omega) (fun q => absurd q (by omega)) (fun _ => ?_)
  refine lv_iload_n hx hb dM_isDone_361 rfl (lv_at hl 8 rfl) ?_
  refine zi_le (tgt := 380) hx hb dM_isDone_362 rfl (by omega) (fun h362 => ?_) (fun h362 => ?_)
  · refine lv_lconst (v := 0) hx hb dM_isDone_380 (by decide) ?_
    refine lv_goto (tgt := 403) hx hb dM_isDone_381 rfl ?_
    refine zLast hx hb hK hP hD hS 4 3 rfl rfl (by omega) (by decide) dM_isDone_403 (fun H locs hP hD hS => ?_)
    replace hP : va_P D vwCl (mW A C ops nums vals (vp_updL st d (0 : Int64)) ce pk pv n vc sp d pr tk th tr) H := hP
    replace hD : va_D F (mW A C ops nums vals (vp_updL st d (0 : Int64)) ce pk pv n vc sp d pr tk th tr) := hD
    refine lv_aload_n hx hb dM_isDone_404 rfl (lv_at hl 7 rfl) ?_
    refine lv_dup hx hb dM_isDone_405 rfl ?_
    refine zGetM hx hb hw hown hK hP 0 rfl 10 (by decide) wf_M_49 rfl dM_isDone_406 ?_
    refine lv_iconst (v := nI 1) hx hb dM_isDone_409 (by decide) ?_
    refine lv_iadd hx hb dM_isDone_410 ?_
    refine zti (nI_add _ _) ?_
    refine zPutM hx hb hw hown hK hP hD hS 0 rfl 10 (by decide) wf_M_49 rfl rfl rfl (Nat.le_of_ble_eq_true rfl) dM_isDone_411 (fun H locs hP hD hS => ?_)
    replace hP : va_P D vwCl (mW A C ops nums vals (vp_updL st d (0 : Int64)) ce pk pv n vc sp (d + 1) pr tk th tr) H := hP
    replace hD : va_D F (mW A C ops nums vals (vp_updL st d (0 : Int64)) ce pk pv n vc sp (d + 1) pr tk th tr) := hD
    refine lv_iload hx hb dM_isDone_414 (lv_at hl 6 rfl) ?_
    refine lv_iconst (v := nI 2) hx hb dM_isDone_416 (by decide) ?_
    refine zc_ne (tgt := 706) hx hb dM_isDone_417 rfl (by omega) (by omega) (fun _ => ?_) (fun q => absurd q (by omega))
    refine lv_goto (tgt := 3) hx hb dM_isDone_706 rfl ?_
    have e9 : (if w ≠ 0 ∧ tk < vc then (1 : Int64) else 0) = 0 := if_neg (by omega)
    replace hP : va_P D vwCl (mW A C ops nums vals (vp_updL st d (if w ≠ 0 ∧ tk < vc then 1 else 0)) ce pk pv n vc sp (d + 1) pr tk th tr) H := by rw [e9]; exact hP
    replace hD : va_D F (mW A C ops nums vals (vp_updL st d (if w ≠ 0 ∧ tk < vc then 1 else 0)) ce pk pv n vc sp (d + 1) pr tk th tr) := by rw [e9]; exact hD
    exact kk _ _ _ hP hD hS (lv_sub hl [4, 7, 8, 9] rfl)
  · refine lv_aload_n hx hb dM_isDone_365 rfl (lv_at hl 7 rfl) ?_
    refine zGetM hx hb hw hown hK hP 0 rfl 12 (by decide) wf_M_55 rfl dM_isDone_366 ?_
    refine lv_aload_n hx hb dM_isDone_369 rfl (lv_at hl 7 rfl) ?_
    refine zGetM hx hb hw hown hK hP 0 rfl 8 (by decide) wf_M_43 rfl dM_isDone_370 ?_
    refine zc_ge (tgt := 380) hx hb dM_isDone_373 rfl (by omega) (by omega) (fun h373 => ?_) (fun h373 => ?_)
    · refine lv_lconst (v := 0) hx hb dM_isDone_380 (by decide) ?_
      refine lv_goto (tgt := 403) hx hb dM_isDone_381 rfl ?_
      refine zLast hx hb hK hP hD hS 4 3 rfl rfl (by omega) (by decide) dM_isDone_403 (fun H locs hP hD hS => ?_)
      replace hP : va_P D vwCl (mW A C ops nums vals (vp_updL st d (0 : Int64)) ce pk pv n vc sp d pr tk th tr) H := hP
      replace hD : va_D F (mW A C ops nums vals (vp_updL st d (0 : Int64)) ce pk pv n vc sp d pr tk th tr) := hD
      refine lv_aload_n hx hb dM_isDone_404 rfl (lv_at hl 7 rfl) ?_
      refine lv_dup hx hb dM_isDone_405 rfl ?_
      refine zGetM hx hb hw hown hK hP 0 rfl 10 (by decide) wf_M_49 rfl dM_isDone_406 ?_
      refine lv_iconst (v := nI 1) hx hb dM_isDone_409 (by decide) ?_
      refine lv_iadd hx hb dM_isDone_410 ?_
      refine zti (nI_add _ _) ?_
      refine zPutM hx hb hw hown hK hP hD hS 0 rfl 10 (by decide) wf_M_49 rfl rfl rfl (Nat.le_of_ble_eq_true rfl) dM_isDone_411 (fun H locs hP hD hS => ?_)
      replace hP : va_P D vwCl (mW A C ops nums vals (vp_updL st d (0 : Int64)) ce pk pv n vc sp (d + 1) pr tk th tr) H := hP
      replace hD : va_D F (mW A C ops nums vals (vp_updL st d (0 : Int64)) ce pk pv n vc sp (d + 1) pr tk th tr) := hD
      refine lv_iload hx hb dM_isDone_414 (lv_at hl 6 rfl) ?_
      refine lv_iconst (v := nI 2) hx hb dM_isDone_416 (by decide) ?_
      refine zc_ne (tgt := 706) hx hb dM_isDone_417 rfl (by omega) (by omega) (fun _ => ?_) (fun q => absurd q (by omega))
      refine lv_goto (tgt := 3) hx hb dM_isDone_706 rfl ?_
      have e9 : (if w ≠ 0 ∧ tk < vc then (1 : Int64) else 0) = 0 := if_neg (by omega)
      replace hP : va_P D vwCl (mW A C ops nums vals (vp_updL st d (if w ≠ 0 ∧ tk < vc then 1 else 0)) ce pk pv n vc sp (d + 1) pr tk th tr) H := by rw [e9]; exact hP
      replace hD : va_D F (mW A C ops nums vals (vp_updL st d (if w ≠ 0 ∧ tk < vc then 1 else 0)) ce pk pv n vc sp (d + 1) pr tk th tr) := by rw [e9]; exact hD
      exact kk _ _ _ hP hD hS (lv_sub hl [4, 7, 8, 9] rfl)
    · refine lv_lconst (v := 1) hx hb dM_isDone_376 (by decide) ?_
      refine lv_goto (tgt := 403) hx hb dM_isDone_377 rfl ?_
      refine zLast hx hb hK hP hD hS 4 3 rfl rfl (by omega) (by decide) dM_isDone_403 (fun H locs hP hD hS => ?_)
      replace hP : va_P D vwCl (mW A C ops nums vals (vp_updL st d (1 : Int64)) ce pk pv n vc sp d pr tk th tr) H := hP
      replace hD : va_D F (mW A C ops nums vals (vp_updL st d (1 : Int64)) ce pk pv n vc sp d pr tk th tr) := hD
      refine lv_aload_n hx hb dM_isDone_404 rfl (lv_at hl 7 rfl) ?_
      refine lv_dup hx hb dM_isDone_405 rfl ?_
      refine zGetM hx hb hw hown hK hP 0 rfl 10 (by decide) wf_M_49 rfl dM_isDone_406 ?_
      refine lv_iconst (v := nI 1) hx hb dM_isDone_409 (by decide) ?_
      refine lv_iadd hx hb dM_isDone_410 ?_
      refine zti (nI_add _ _) ?_
      refine zPutM hx hb hw hown hK hP hD hS 0 rfl 10 (by decide) wf_M_49 rfl rfl rfl (Nat.le_of_ble_eq_true rfl) dM_isDone_411 (fun H locs hP hD hS => ?_)
      replace hP : va_P D vwCl (mW A C ops nums vals (vp_updL st d (1 : Int64)) ce pk pv n vc sp (d + 1) pr tk th tr) H := hP
      replace hD : va_D F (mW A C ops nums vals (vp_updL st d (1 : Int64)) ce pk pv n vc sp (d + 1) pr tk th tr) := hD
      refine lv_iload hx hb dM_isDone_414 (lv_at hl 6 rfl) ?_
      refine lv_iconst (v := nI 2) hx hb dM_isDone_416 (by decide) ?_
      refine zc_ne (tgt := 706) hx hb dM_isDone_417 rfl (by omega) (by omega) (fun _ => ?_) (fun q => absurd q (by omega))
      refine lv_goto (tgt := 3) hx hb dM_isDone_706 rfl ?_
      have e9 : (if w ≠ 0 ∧ tk < vc then (1 : Int64) else 0) = 1 := if_pos ⟨by omega, by omega⟩
      replace hP : va_P D vwCl (mW A C ops nums vals (vp_updL st d (if w ≠ 0 ∧ tk < vc then 1 else 0)) ce pk pv n vc sp (d + 1) pr tk th tr) H := by rw [e9]; exact hP
      replace hD : va_D F (mW A C ops nums vals (vp_updL st d (if w ≠ 0 ∧ tk < vc then 1 else 0)) ce pk pv n vc sp (d + 1) pr tk th tr) := by rw [e9]; exact hD
      exact kk _ _ _ hP hD hS (lv_sub hl [4, 7, 8, 9] rfl)
set_option maxRecDepth 20000 in
set_option maxHeartbeats 4000000 in
theorem mO4 {p : Program} {l : Launch} {e : Env} {s : State} {m : MethodId} {args : Array Value} {below : List Frame} {meth : Method} {c : Code} {F : Nat → Prop} {D : va_G} {A : Nat → Nat} {C : Nat → ClassId} (hx : p.tables.exec = Jvm.exec) (hb : c.code = cM_isDone) (hr : meth.sig.returnType = (some .boolean)) (hlk : meth.locks = false) (hml : c.maxLocals = 14) (hw : ∀ w ∈ WS, w.before args s = true) (hown : s.vm.findClass RM = some m.cls) (hK : va_K D vwCl (mT C) s) (hA : ∀ q, s.heap.size ≤ q → F q) {Q : State → Prop} {ls : Array Slot} {H : Heap} {locs : List Loc} {ops : Nat → Int32} {nums vals st ce pk pv : Nat → Int64} {n vc sp d pr tk th tr : Nat} {w pl : Nat} {key x : Int64} {i : Nat} (hd : d ≤ 12) (hw2 : w ≤ 2) (hvc : vc ≤ 40) (htk : tk ≤ vc) (hpr : pr ≤ 4) (hpl : pl ≤ 40) (hd1 : d < 12) (hi : i < 4) (hP : va_P D vwCl (mW A C ops nums vals st ce pk pv n vc sp d pr tk th tr) H) (hD : va_D F (mW A C ops nums vals st ce pk pv n vc sp d pr tk th tr)) (hS : va_S F s.heap H locs) (hl : lv_has ls 14 [(4, .int (nI pl)), (6, .long (lN i)), (5, .int (nI 4)), (0, .ref (A 0)), (1, .int (nI w)), (2, .long key)]) (kk : ∀ (ls : Array Slot) (H : Heap) (locs : List Loc), va_P D vwCl (mW A C ops nums vals (vp_updL st d (ce i)) ce pk pv n vc sp (d + 1) pr tk th tr) H → va_D F (mW A C ops nums vals (vp_updL st d (ce i)) ce pk pv n vc sp (d + 1) pr tk th tr) → va_S F s.heap H locs → lv_has ls 14 [(4, .int (nI pl)), (0, .ref (A 0)), (1, .int (nI w)), (2, .long key)] → W p l e (rmk 0 0) s m args below meth c H locs 0 0 Q (F0 m 3 ls [])) : W p l e (rmk 0 0) s m args below meth c H locs 0 0 Q (F0 m 55 ls []) := by
  refine lv_iload hx hb dM_isDone_55 (lv_at hl 2 rfl) ?_
  refine lv_iconst (v := nI 4) hx hb dM_isDone_57 (by decide) ?_
  refine zc_le (tgt := 68) hx hb dM_isDone_58 rfl (by omega) (by omega) (fun _ => ?_) (fun q => absurd q (by omega))
  refine lv_iconst (v := nI 1) hx hb dM_isDone_68 (by decide) ?_
  refine lv_goto (tgt := 73) hx hb dM_isDone_69 rfl ?_
  refine lv_istore hx hb dM_isDone_73 hl (by decide) rfl (fun ls hl => ?_)
  have hl : lv_has ls 14 [(8, .int (nI 1)), (4, .int (nI pl)), (6, .long (lN i)), (5, .int (nI 4)), (0, .ref (A 0)), (1, .int (nI w)), (2, .long key)] := hl
  refine lv_iload hx hb dM_isDone_75 (lv_at hl 3 rfl) ?_
  refine lv_bipush (v := nI 6) hx hb dM_isDone_77 (by decide) ?_
  refine zc_lt (tgt := 89) hx hb dM_isDone_79 rfl (by omega) (by omega) (fun _ => ?_) (fun q => absurd q (by omega))
  refine lv_iload hx hb dM_isDone_89 (lv_at hl 3 rfl) ?_
  refine lv_bipush (v := nI 14) hx hb dM_isDone_91 (by decide) ?_
  refine zc_eq (tgt := 108) hx hb dM_isDone_93 rfl (by omega) (by omega) (fun q => absurd q (by omega)) (fun _ => ?_)
  refine lv_iload hx hb dM_isDone_96 (lv_at hl 3 rfl) ?_
  refine lv_bipush (v := nI 17) hx hb dM_isDone_98 (by decide) ?_
  refine zc_ne (tgt := 112) hx hb dM_isDone_100 rfl (by omega) (by omega) (fun _ => ?_) (fun q => absurd q (by omega))
  refine lv_iload hx hb dM_isDone_112 (lv_at hl 3 rfl) ?_
  refine lv_iconst (v := nI 5) hx hb dM_isDone_114 (by decide) ?_
  refine zc_eq (tgt := 146) hx hb dM_isDone_115 rfl (by omega) (by omega) (fun q => absurd q (by omega)) (fun _ => ?_)
  refine lv_iload hx hb dM_isDone_118 (lv_at hl 3 rfl) ?_
  refine lv_bipush (v := nI 12) hx hb dM_isDone_120 (by decide) ?_
  refine zc_eq (tgt := 146) hx hb dM_isDone_122 rfl (by omega) (by omega) (fun q => absurd q (by omega)) (fun _ => ?_)
  refine lv_iload hx hb dM_isDone_125 (lv_at hl 3 rfl) ?_
  refine lv_bipush (v := nI 13) hx hb dM_isDone_127 (by decide) ?_
  refine zc_eq (tgt := 146) hx hb dM_isDone_129 rfl (by omega) (by omega) (fun q => absurd q (by omega)) (fun _ => ?_)
  refine lv_iload hx hb dM_isDone_132 (lv_at hl 3 rfl) ?_
  refine lv_bipush (v := nI 16) hx hb dM_isDone_134 (by decide) ?_
  refine zc_eq (tgt := 146) hx hb dM_isDone_136 rfl (by omega) (by omega) (fun q => absurd q (by omega)) (fun _ => ?_)
  refine lv_iload hx hb dM_isDone_139 (lv_at hl 3 rfl) ?_
  refine lv_bipush (v := nI 17) hx hb dM_isDone_141 (by decide) ?_
  refine zc_ne (tgt := 150) hx hb dM_isDone_143 rfl (by omega) (by omega) (fun _ => ?_) (fun q => absurd q (by omega))
  refine lv_iconst (v := nI 0) hx hb dM_isDone_150 (by decide) ?_
  refine lv_istore hx hb dM_isDone_151 hl (by decide) rfl (fun ls hl => ?_)
  have hl : lv_has ls 14 [(9, .int (nI 0)), (8, .int (nI 1)), (4, .int (nI pl)), (6, .long (lN i)), (5, .int (nI 4)), (0, .ref (A 0)), (1, .int (nI w)), (2, .long key)] := hl
  refine lv_aload_n hx hb dM_isDone_153 rfl (lv_at hl 5 rfl) ?_
  refine zGetM hx hb hw hown hK hP 0 rfl 10 (by decide) wf_M_49 rfl dM_isDone_154 ?_
  refine lv_iload hx hb dM_isDone_157 (lv_at hl 0 rfl) ?_
  refine zc_lt (tgt := 176) hx hb dM_isDone_159 rfl (by omega) (by omega) (fun q => absurd q (by omega)) (fun _ => ?_)
  refine lv_iload hx hb dM_isDone_162 (lv_at hl 1 rfl) ?_
  refine zi_eq (tgt := 178) hx hb dM_isDone_164 rfl (by omega) (fun q => absurd q (by omega)) (fun _ => ?_)
  refine lv_aload_n hx hb dM_isDone_167 rfl (lv_at hl 5 rfl) ?_
  refine zGetM hx hb hw hown hK hP 0 rfl 10 (by decide) wf_M_49 rfl dM_isDone_168 ?_
  refine lv_bipush (v := nI 12) hx hb dM_isDone_171 (by decide) ?_
  refine zc_ne (tgt := 178) hx hb dM_isDone_173 rfl (by omega) (by omega) (fun _ => ?_) (fun q => absurd q (by omega))
  refine lv_iload hx hb dM_isDone_178 (lv_at hl 0 rfl) ?_
  refine zi_le (tgt := 197) hx hb dM_isDone_180 rfl (by omega) (fun _ => ?_) (fun q => absurd q (by omega))
  refine lv_lconst (v := 0) hx hb dM_isDone_197 (by decide) ?_
  refine lv_lstore hx hb dM_isDone_198 hl (by decide) rfl (fun ls hl => ?_)
  have hl : lv_has ls 14 [(10, .long (0 : Int64)), (9, .int (nI 0)), (8, .int (nI 1)), (4, .int (nI pl)), (6, .long (lN i)), (5, .int (nI 4)), (0, .ref (A 0)), (1, .int (nI w)), (2, .long key)] := hl
  refine lv_iload hx hb dM_isDone_200 (lv_at hl 1 rfl) ?_
  refine lv_iconst (v := nI 1) hx hb dM_isDone_202 (by decide) ?_
  refine zc_le (tgt := 220) hx hb dM_isDone_203 rfl (by omega) (by omega) (fun _ => ?_) (fun q => absurd q (by omega))
  refine lv_lconst (v := 0) hx hb dM_isDone_220 (by decide) ?_
  refine lv_lstore hx hb dM_isDone_221 hl (by decide) rfl (fun ls hl => ?_)
  have hl : lv_has ls 14 [(12, .long (0 : Int64)), (10, .long (0 : Int64)), (9, .int (nI 0)), (8, .int (nI 1)), (4, .int (nI pl)), (6, .long (lN i)), (5, .int (nI 4)), (0, .ref (A 0)), (1, .int (nI w)), (2, .long key)] := hl
  refine lv_iload hx hb dM_isDone_223 (lv_at hl 6 rfl) ?_
  refine lv_bipush (v := nI 18) hx hb dM_isDone_225 (by decide) ?_
  refine zc_ne (tgt := 232) hx hb dM_isDone_227 rfl (by omega) (by omega) (fun _ => ?_) (fun q => absurd q (by omega))
  refine lv_iload hx hb dM_isDone_232 (lv_at hl 6 rfl) ?_
  refine lv_iconst (v := nI 2) hx hb dM_isDone_234 (by decide) ?_
  refine zc_ne (tgt := 265) hx hb dM_isDone_235 rfl (by omega) (by omega) (fun _ => ?_) (fun q => absurd q (by omega))
  refine lv_iload hx hb dM_isDone_265 (lv_at hl 6 rfl) ?_
  refine lv_bipush (v := nI 9) hx hb dM_isDone_267 (by decide) ?_
  refine zc_ne (tgt := 279) hx hb dM_isDone_269 rfl (by omega) (by omega) (fun _ => ?_) (fun q => absurd q (by omega))
  refine lv_iload hx hb dM_isDone_279 (lv_at hl 6 rfl) ?_
  refine lv_bipush (v := nI 17) hx hb dM_isDone_281 (by decide) ?_
  refine zc_ne (tgt := 296) hx hb dM_isDone_283 rfl (by omega) (by omega) (fun _ => ?_) (fun q => absurd q (by omega))
  refine lv_iload hx hb dM_isDone_296 (lv_at hl 3 rfl) ?_
  refine zi_eq (tgt := 437) hx hb dM_isDone_298 rfl (by omega) (fun q => absurd q (by omega)) (fun _ => ?_)
  refine lv_aload_n hx hb dM_isDone_301 rfl (lv_at hl 7 rfl) ?_
  refine zGetM hx hb hw hown hK hP 0 rfl 3 (by decide) wf_M_20 rfl dM_isDone_302 ?_
  refine lv_aload_n hx hb dM_isDone_305 rfl (lv_at hl 7 rfl) ?_
  refine zGetM hx hb hw hown hK hP 0 rfl 10 (by decide) wf_M_49 rfl dM_isDone_306 ?_
  refine lv_iload hx hb dM_isDone_309 (lv_at hl 6 rfl) ?_
  refine zi_ne (tgt := 319) hx hb dM_isDone_311 rfl (by omega) (fun _ => ?_) (fun q => absurd q (by omega))
  refine lv_iload hx hb dM_isDone_319 (lv_at hl 6 rfl) ?_
  refine lv_iconst (v := nI 1) hx hb dM_isDone_321 (by decide) ?_
  refine zc_ne (tgt := 329) hx hb dM_isDone_322 rfl (by omega) (by omega) (fun _ => ?_) (fun q => absurd q (by omega))
  refine lv_iload hx hb dM_isDone_329 (lv_at hl 6 rfl) ?_
  refine lv_iconst (v := nI 2) hx hb dM_isDone_331 (by decide) ?_
  refine zc_ne (tgt := 355) hx hb dM_isDone_332 rfl (by omega) (by omega) (fun _ => ?_) (fun q => absurd q (by omega))
  refine lv_iload hx hb dM_isDone_355 (lv_at hl 6 rfl) ?_
  refine lv_iconst (v := nI 3) hx hb dM_isDone_357 (by decide) ?_
  refine zc_ne (tgt := 384) hx hb dM_isDone_358 rfl (by omega) (by omega) (fun _ => ?_) (fun q => absurd q (by omega))
  refine lv_iload hx hb dM_isDone_384 (lv_at hl 6 rfl) ?_
  refine lv_iconst (v := nI 4) hx hb dM_isDone_386 (by decide) ?_
  refine zc_ne (tgt := 401) hx hb dM_isDone_387 rfl (by omega) (by omega) (fun q => absurd q (by omega)) (fun _ => ?_)
  refine lv_aload_n hx hb dM_isDone_390 rfl (lv_at hl 7 rfl) ?_
  refine zGetM hx hb hw hown hK hP 0 rfl 4 (by decide) wf_M_23 rfl dM_isDone_391 ?_
  refine lv_lload hx hb dM_isDone_394 (lv_at hl 5 rfl) ?_
  refine lv_l2i hx hb dM_isDone_396 (lN_i _) ?_
  refine zLald hx hb hK hP 5 4 rfl rfl (by omega) (by decide) dM_isDone_397 ?_
  refine lv_goto (tgt := 403) hx hb dM_isDone_398 rfl ?_
  refine zLast hx hb hK hP hD hS 4 3 rfl rfl (by omega) (by decide) dM_isDone_403 (fun H locs hP hD hS => ?_)
  replace hP : va_P D vwCl (mW A C ops nums vals (vp_updL st d (ce i)) ce pk pv n vc sp d pr tk th tr) H := hP
  replace hD : va_D F (mW A C ops nums vals (vp_updL st d (ce i)) ce pk pv n vc sp d pr tk th tr) := hD
  refine lv_aload_n hx hb dM_isDone_404 rfl (lv_at hl 7 rfl) ?_
  refine lv_dup hx hb dM_isDone_405 rfl ?_
  refine zGetM hx hb hw hown hK hP 0 rfl 10 (by decide) wf_M_49 rfl dM_isDone_406 ?_
  refine lv_iconst (v := nI 1) hx hb dM_isDone_409 (by decide) ?_
  refine lv_iadd hx hb dM_isDone_410 ?_
  refine zti (nI_add _ _) ?_
  refine zPutM hx hb hw hown hK hP hD hS 0 rfl 10 (by decide) wf_M_49 rfl rfl rfl (Nat.le_of_ble_eq_true rfl) dM_isDone_411 (fun H locs hP hD hS => ?_)
  replace hP : va_P D vwCl (mW A C ops nums vals (vp_updL st d (ce i)) ce pk pv n vc sp (d + 1) pr tk th tr) H := hP
  replace hD : va_D F (mW A C ops nums vals (vp_updL st d (ce i)) ce pk pv n vc sp (d + 1) pr tk th tr) := hD
  refine lv_iload hx hb dM_isDone_414 (lv_at hl 6 rfl) ?_
  refine lv_iconst (v := nI 2) hx hb dM_isDone_416 (by decide) ?_
  refine zc_ne (tgt := 706) hx hb dM_isDone_417 rfl (by omega) (by omega) (fun _ => ?_) (fun q => absurd q (by omega))
  refine lv_goto (tgt := 3) hx hb dM_isDone_706 rfl ?_
  exact kk _ _ _ hP hD hS (lv_sub hl [4, 7, 8, 9] rfl)
set_option maxRecDepth 20000 in
set_option maxHeartbeats 4000000 in
theorem mO5 {p : Program} {l : Launch} {e : Env} {s : State} {m : MethodId} {args : Array Value} {below : List Frame} {meth : Method} {c : Code} {F : Nat → Prop} {D : va_G} {A : Nat → Nat} {C : Nat → ClassId} (hx : p.tables.exec = Jvm.exec) (hb : c.code = cM_isDone) (hr : meth.sig.returnType = (some .boolean)) (hlk : meth.locks = false) (hml : c.maxLocals = 14) (hw : ∀ w ∈ WS, w.before args s = true) (hown : s.vm.findClass RM = some m.cls) (hK : va_K D vwCl (mT C) s) (hA : ∀ q, s.heap.size ≤ q → F q) {Q : State → Prop} {ls : Array Slot} {H : Heap} {locs : List Loc} {ops : Nat → Int32} {nums vals st ce pk pv : Nat → Int64} {n vc sp d pr tk th tr : Nat} {w pl : Nat} {key x : Int64} {i : Nat} (hd : d ≤ 12) (hw2 : w ≤ 2) (hvc : vc ≤ 40) (htk : tk ≤ vc) (hpr : pr ≤ 4) (hpl : pl ≤ 40) (h1 : 1 ≤ d) (hi : i < 4) (hP : va_P D vwCl (mW A C ops nums vals st ce pk pv n vc sp d pr tk th tr) H) (hD : va_D F (mW A C ops nums vals st ce pk pv n vc sp d pr tk th tr)) (hS : va_S F s.heap H locs) (hl : lv_has ls 14 [(4, .int (nI pl)), (6, .long (lN i)), (5, .int (nI 5)), (0, .ref (A 0)), (1, .int (nI w)), (2, .long key)]) (kk : ∀ (ls : Array Slot) (H : Heap) (locs : List Loc), va_P D vwCl (mW A C ops nums vals st (vp_updL ce i (st (d - 1))) pk pv n vc sp (d - 1) pr tk th tr) H → va_D F (mW A C ops nums vals st (vp_updL ce i (st (d - 1))) pk pv n vc sp (d - 1) pr tk th tr) → va_S F s.heap H locs → lv_has ls 14 [(4, .int (nI pl)), (0, .ref (A 0)), (1, .int (nI w)), (2, .long key)] → W p l e (rmk 0 0) s m args below meth c H locs 0 0 Q (F0 m 3 ls [])) : W p l e (rmk 0 0) s m args below meth c H locs 0 0 Q (F0 m 55 ls []) := by
  refine lv_iload hx hb dM_isDone_55 (lv_at hl 2 rfl) ?_
  refine lv_iconst (v := nI 4) hx hb dM_isDone_57 (by decide) ?_
  refine zc_le (tgt := 68) hx hb dM_isDone_58 rfl (by omega) (by omega) (fun q => absurd q (by omega)) (fun _ => ?_)
  refine lv_iload hx hb dM_isDone_61 (lv_at hl 2 rfl) ?_
  refine lv_bipush (v := nI 12) hx hb dM_isDone_63 (by decide) ?_
  refine zc_ne (tgt := 72) hx hb dM_isDone_65 rfl (by omega) (by omega) (fun _ => ?_) (fun q => absurd q (by omega))
  refine lv_iconst (v := nI 0) hx hb dM_isDone_72 (by decide) ?_
  refine lv_istore hx hb dM_isDone_73 hl (by decide) rfl (fun ls hl => ?_)
  have hl : lv_has ls 14 [(8, .int (nI 0)), (4, .int (nI pl)), (6, .long (lN i)), (5, .int (nI 5)), (0, .ref (A 0)), (1, .int (nI w)), (2, .long key)] := hl
  refine lv_iload hx hb dM_isDone_75 (lv_at hl 3 rfl) ?_
  refine lv_bipush (v := nI 6) hx hb dM_isDone_77 (by decide) ?_
  refine zc_lt (tgt := 89) hx hb dM_isDone_79 rfl (by omega) (by omega) (fun _ => ?_) (fun q => absurd q (by omega))
  refine lv_iload hx hb dM_isDone_89 (lv_at hl 3 rfl) ?_
  refine lv_bipush (v := nI 14) hx hb dM_isDone_91 (by decide) ?_
  refine zc_eq (tgt := 108) hx hb dM_isDone_93 rfl (by omega) (by omega) (fun q => absurd q (by omega)) (fun _ => ?_)
  refine lv_iload hx hb dM_isDone_96 (lv_at hl 3 rfl) ?_
  refine lv_bipush (v := nI 17) hx hb dM_isDone_98 (by decide) ?_
  refine zc_ne (tgt := 112) hx hb dM_isDone_100 rfl (by omega) (by omega) (fun _ => ?_) (fun q => absurd q (by omega))
  refine lv_iload hx hb dM_isDone_112 (lv_at hl 3 rfl) ?_
  refine lv_iconst (v := nI 5) hx hb dM_isDone_114 (by decide) ?_
  refine zc_eq (tgt := 146) hx hb dM_isDone_115 rfl (by omega) (by omega) (fun _ => ?_) (fun q => absurd q (by omega))
  refine lv_iconst (v := nI 1) hx hb dM_isDone_146 (by decide) ?_
  refine lv_goto (tgt := 151) hx hb dM_isDone_147 rfl ?_
  refine lv_istore hx hb dM_isDone_151 hl (by decide) rfl (fun ls hl => ?_)
  have hl : lv_has ls 14 [(9, .int (nI 1)), (8, .int (nI 0)), (4, .int (nI pl)), (6, .long (lN i)), (5, .int (nI 5)), (0, .ref (A 0)), (1, .int (nI w)), (2, .long key)] := hl
  refine lv_aload_n hx hb dM_isDone_153 rfl (lv_at hl 5 rfl) ?_
  refine zGetM hx hb hw hown hK hP 0 rfl 10 (by decide) wf_M_49 rfl dM_isDone_154 ?_
  refine lv_iload hx hb dM_isDone_157 (lv_at hl 0 rfl) ?_
  refine zc_lt (tgt := 176) hx hb dM_isDone_159 rfl (by omega) (by omega) (fun q => absurd q (by omega)) (fun _ => ?_)
  refine lv_iload hx hb dM_isDone_162 (lv_at hl 1 rfl) ?_
  refine zi_eq (tgt := 178) hx hb dM_isDone_164 rfl (by omega) (fun _ => ?_) (fun q => absurd q (by omega))
  refine lv_iload hx hb dM_isDone_178 (lv_at hl 0 rfl) ?_
  refine zi_le (tgt := 197) hx hb dM_isDone_180 rfl (by omega) (fun q => absurd q (by omega)) (fun _ => ?_)
  refine lv_aload_n hx hb dM_isDone_183 rfl (lv_at hl 5 rfl) ?_
  refine zGetM hx hb hw hown hK hP 0 rfl 3 (by decide) wf_M_20 rfl dM_isDone_184 ?_
  refine lv_aload_n hx hb dM_isDone_187 rfl (lv_at hl 5 rfl) ?_
  refine zGetM hx hb hw hown hK hP 0 rfl 10 (by decide) wf_M_49 rfl dM_isDone_188 ?_
  refine lv_iconst (v := nI 1) hx hb dM_isDone_191 (by decide) ?_
  refine lv_isub hx hb dM_isDone_192 ?_
  refine zti (zsub _ (by omega)) ?_
  refine zLald hx hb hK hP 4 3 rfl rfl (by omega) (by decide) dM_isDone_193 ?_
  refine lv_goto (tgt := 198) hx hb dM_isDone_194 rfl ?_
  refine lv_lstore hx hb dM_isDone_198 hl (by decide) rfl (fun ls hl => ?_)
  have hl : lv_has ls 14 [(10, .long (st (d - 1))), (9, .int (nI 1)), (8, .int (nI 0)), (4, .int (nI pl)), (6, .long (lN i)), (5, .int (nI 5)), (0, .ref (A 0)), (1, .int (nI w)), (2, .long key)] := hl
  refine lv_iload hx hb dM_isDone_200 (lv_at hl 1 rfl) ?_
  refine lv_iconst (v := nI 1) hx hb dM_isDone_202 (by decide) ?_
  refine zc_le (tgt := 220) hx hb dM_isDone_203 rfl (by omega) (by omega) (fun _ => ?_) (fun q => absurd q (by omega))
  refine lv_lconst (v := 0) hx hb dM_isDone_220 (by decide) ?_
  refine lv_lstore hx hb dM_isDone_221 hl (by decide) rfl (fun ls hl => ?_)
  have hl : lv_has ls 14 [(12, .long (0 : Int64)), (10, .long (st (d - 1))), (9, .int (nI 1)), (8, .int (nI 0)), (4, .int (nI pl)), (6, .long (lN i)), (5, .int (nI 5)), (0, .ref (A 0)), (1, .int (nI w)), (2, .long key)] := hl
  refine lv_iload hx hb dM_isDone_223 (lv_at hl 6 rfl) ?_
  refine lv_bipush (v := nI 18) hx hb dM_isDone_225 (by decide) ?_
  refine zc_ne (tgt := 232) hx hb dM_isDone_227 rfl (by omega) (by omega) (fun _ => ?_) (fun q => absurd q (by omega))
  refine lv_iload hx hb dM_isDone_232 (lv_at hl 6 rfl) ?_
  refine lv_iconst (v := nI 2) hx hb dM_isDone_234 (by decide) ?_
  refine zc_ne (tgt := 265) hx hb dM_isDone_235 rfl (by omega) (by omega) (fun _ => ?_) (fun q => absurd q (by omega))
  refine lv_iload hx hb dM_isDone_265 (lv_at hl 6 rfl) ?_
  refine lv_bipush (v := nI 9) hx hb dM_isDone_267 (by decide) ?_
  refine zc_ne (tgt := 279) hx hb dM_isDone_269 rfl (by omega) (by omega) (fun _ => ?_) (fun q => absurd q (by omega))
  refine lv_iload hx hb dM_isDone_279 (lv_at hl 6 rfl) ?_
  refine lv_bipush (v := nI 17) hx hb dM_isDone_281 (by decide) ?_
  refine zc_ne (tgt := 296) hx hb dM_isDone_283 rfl (by omega) (by omega) (fun _ => ?_) (fun q => absurd q (by omega))
  refine lv_iload hx hb dM_isDone_296 (lv_at hl 3 rfl) ?_
  refine zi_eq (tgt := 437) hx hb dM_isDone_298 rfl (by omega) (fun _ => ?_) (fun q => absurd q (by omega))
  refine lv_iload hx hb dM_isDone_437 (lv_at hl 6 rfl) ?_
  refine lv_bipush (v := nI 14) hx hb dM_isDone_439 (by decide) ?_
  refine zc_ne (tgt := 473) hx hb dM_isDone_441 rfl (by omega) (by omega) (fun _ => ?_) (fun q => absurd q (by omega))
  refine lv_iload hx hb dM_isDone_473 (lv_at hl 6 rfl) ?_
  refine lv_bipush (v := nI 15) hx hb dM_isDone_475 (by decide) ?_
  refine zc_ne (tgt := 488) hx hb dM_isDone_477 rfl (by omega) (by omega) (fun _ => ?_) (fun q => absurd q (by omega))
  refine lv_aload_n hx hb dM_isDone_488 rfl (lv_at hl 7 rfl) ?_
  refine lv_dup hx hb dM_isDone_489 rfl ?_
  refine zGetM hx hb hw hown hK hP 0 rfl 10 (by decide) wf_M_49 rfl dM_isDone_490 ?_
  refine lv_iload hx hb dM_isDone_493 (lv_at hl 2 rfl) ?_
  refine lv_isub hx hb dM_isDone_495 ?_
  refine zti (zsub _ (by omega)) ?_
  refine zPutM hx hb hw hown hK hP hD hS 0 rfl 10 (by decide) wf_M_49 rfl rfl rfl (Nat.le_of_ble_eq_true rfl) dM_isDone_496 (fun H locs hP hD hS => ?_)
  replace hP : va_P D vwCl (mW A C ops nums vals st ce pk pv n vc sp (d - 1) pr tk th tr) H := hP
  replace hD : va_D F (mW A C ops nums vals st ce pk pv n vc sp (d - 1) pr tk th tr) := hD
  refine lv_iload hx hb dM_isDone_499 (lv_at hl 6 rfl) ?_
  refine lv_iconst (v := nI 5) hx hb dM_isDone_501 (by decide) ?_
  refine zc_ne (tgt := 515) hx hb dM_isDone_502 rfl (by omega) (by omega) (fun q => absurd q (by omega)) (fun _ => ?_)
  refine lv_aload_n hx hb dM_isDone_505 rfl (lv_at hl 7 rfl) ?_
  refine zGetM hx hb hw hown hK hP 0 rfl 4 (by decide) wf_M_23 rfl dM_isDone_506 ?_
  refine lv_lload hx hb dM_isDone_509 (lv_at hl 5 rfl) ?_
  refine lv_l2i hx hb dM_isDone_511 (lN_i _) ?_
  refine lv_lload hx hb dM_isDone_512 (lv_at hl 1 rfl) ?_
  refine zLast hx hb hK hP hD hS 5 4 rfl rfl (by omega) (by decide) dM_isDone_514 (fun H locs hP hD hS => ?_)
  replace hP : va_P D vwCl (mW A C ops nums vals st (vp_updL ce i (st (d - 1))) pk pv n vc sp (d - 1) pr tk th tr) H := hP
  replace hD : va_D F (mW A C ops nums vals st (vp_updL ce i (st (d - 1))) pk pv n vc sp (d - 1) pr tk th tr) := hD
  refine lv_iload hx hb dM_isDone_515 (lv_at hl 6 rfl) ?_
  refine lv_bipush (v := nI 16) hx hb dM_isDone_517 (by decide) ?_
  refine zc_ne (tgt := 534) hx hb dM_isDone_519 rfl (by omega) (by omega) (fun _ => ?_) (fun q => absurd q (by omega))
  refine lv_iload hx hb dM_isDone_534 (lv_at hl 6 rfl) ?_
  refine lv_bipush (v := nI 17) hx hb dM_isDone_536 (by decide) ?_
  refine zc_ne (tgt := 582) hx hb dM_isDone_538 rfl (by omega) (by omega) (fun _ => ?_) (fun q => absurd q (by omega))
  refine lv_iload hx hb dM_isDone_582 (lv_at hl 6 rfl) ?_
  refine lv_bipush (v := nI 6) hx hb dM_isDone_584 (by decide) ?_
  refine zc_lt (tgt := 706) hx hb dM_isDone_586 rfl (by omega) (by omega) (fun _ => ?_) (fun q => absurd q (by omega))
  refine lv_goto (tgt := 3) hx hb dM_isDone_706 rfl ?_
  exact kk _ _ _ hP hD hS (lv_sub hl [4, 7, 8, 9] rfl)
set_option maxRecDepth 20000 in
set_option maxHeartbeats 4000000 in
theorem mO6 {p : Program} {l : Launch} {e : Env} {s : State} {m : MethodId} {args : Array Value} {below : List Frame} {meth : Method} {c : Code} {F : Nat → Prop} {D : va_G} {A : Nat → Nat} {C : Nat → ClassId} (hx : p.tables.exec = Jvm.exec) (hb : c.code = cM_isDone) (hr : meth.sig.returnType = (some .boolean)) (hlk : meth.locks = false) (hml : c.maxLocals = 14) (hw : ∀ w ∈ WS, w.before args s = true) (hown : s.vm.findClass RM = some m.cls) (hK : va_K D vwCl (mT C) s) (hA : ∀ q, s.heap.size ≤ q → F q) {Q : State → Prop} {ls : Array Slot} {H : Heap} {locs : List Loc} {ops : Nat → Int32} {nums vals st ce pk pv : Nat → Int64} {n vc sp d pr tk th tr : Nat} {w pl : Nat} {key x : Int64} (hd : d ≤ 12) (hw2 : w ≤ 2) (hvc : vc ≤ 40) (htk : tk ≤ vc) (hpr : pr ≤ 4) (hpl : pl ≤ 40) (h2 : 2 ≤ d) (hP : va_P D vwCl (mW A C ops nums vals st ce pk pv n vc sp d pr tk th tr) H) (hD : va_D F (mW A C ops nums vals st ce pk pv n vc sp d pr tk th tr)) (hS : va_S F s.heap H locs) (hl : lv_has ls 14 [(4, .int (nI pl)), (6, .long x), (5, .int (nI 6)), (0, .ref (A 0)), (1, .int (nI w)), (2, .long key)]) (kk : ∀ (ls : Array Slot) (H : Heap) (locs : List Loc), va_P D vwCl (mW A C ops nums vals (vp_updL st (d - 2) (st (d - 2) + st (d - 1))) ce pk pv n vc sp (d - 1) pr tk th tr) H → va_D F (mW A C ops nums vals (vp_updL st (d - 2) (st (d - 2) + st (d - 1))) ce pk pv n vc sp (d - 1) pr tk th tr) → va_S F s.heap H locs → lv_has ls 14 [(4, .int (nI pl)), (0, .ref (A 0)), (1, .int (nI w)), (2, .long key)] → W p l e (rmk 0 0) s m args below meth c H locs 0 0 Q (F0 m 3 ls [])) : W p l e (rmk 0 0) s m args below meth c H locs 0 0 Q (F0 m 55 ls []) := by
  refine lv_iload hx hb dM_isDone_55 (lv_at hl 2 rfl) ?_
  refine lv_iconst (v := nI 4) hx hb dM_isDone_57 (by decide) ?_
  refine zc_le (tgt := 68) hx hb dM_isDone_58 rfl (by omega) (by omega) (fun q => absurd q (by omega)) (fun _ => ?_)
  refine lv_iload hx hb dM_isDone_61 (lv_at hl 2 rfl) ?_
  refine lv_bipush (v := nI 12) hx hb dM_isDone_63 (by decide) ?_
  refine zc_ne (tgt := 72) hx hb dM_isDone_65 rfl (by omega) (by omega) (fun _ => ?_) (fun q => absurd q (by omega))
  refine lv_iconst (v := nI 0) hx hb dM_isDone_72 (by decide) ?_
  refine lv_istore hx hb dM_isDone_73 hl (by decide) rfl (fun ls hl => ?_)
  have hl : lv_has ls 14 [(8, .int (nI 0)), (4, .int (nI pl)), (6, .long x), (5, .int (nI 6)), (0, .ref (A 0)), (1, .int (nI w)), (2, .long key)] := hl
  refine lv_iload hx hb dM_isDone_75 (lv_at hl 3 rfl) ?_
  refine lv_bipush (v := nI 6) hx hb dM_isDone_77 (by decide) ?_
  refine zc_lt (tgt := 89) hx hb dM_isDone_79 rfl (by omega) (by omega) (fun q => absurd q (by omega)) (fun _ => ?_)
  refine lv_iload hx hb dM_isDone_82 (lv_at hl 3 rfl) ?_
  refine lv_bipush (v := nI 11) hx hb dM_isDone_84 (by decide) ?_
  refine zc_le (tgt := 108) hx hb dM_isDone_86 rfl (by omega) (by omega) (fun _ => ?_) (fun q => absurd q (by omega))
  refine lv_iconst (v := nI 2) hx hb dM_isDone_108 (by decide) ?_
  refine lv_goto (tgt := 151) hx hb dM_isDone_109 rfl ?_
  refine lv_istore hx hb dM_isDone_151 hl (by decide) rfl (fun ls hl => ?_)
  have hl : lv_has ls 14 [(9, .int (nI 2)), (8, .int (nI 0)), (4, .int (nI pl)), (6, .long x), (5, .int (nI 6)), (0, .ref (A 0)), (1, .int (nI w)), (2, .long key)] := hl
  refine lv_aload_n hx hb dM_isDone_153 rfl (lv_at hl 5 rfl) ?_
  refine zGetM hx hb hw hown hK hP 0 rfl 10 (by decide) wf_M_49 rfl dM_isDone_154 ?_
  refine lv_iload hx hb dM_isDone_157 (lv_at hl 0 rfl) ?_
  refine zc_lt (tgt := 176) hx hb dM_isDone_159 rfl (by omega) (by omega) (fun q => absurd q (by omega)) (fun _ => ?_)
  refine lv_iload hx hb dM_isDone_162 (lv_at hl 1 rfl) ?_
  refine zi_eq (tgt := 178) hx hb dM_isDone_164 rfl (by omega) (fun _ => ?_) (fun q => absurd q (by omega))
  refine lv_iload hx hb dM_isDone_178 (lv_at hl 0 rfl) ?_
  refine zi_le (tgt := 197) hx hb dM_isDone_180 rfl (by omega) (fun q => absurd q (by omega)) (fun _ => ?_)
  refine lv_aload_n hx hb dM_isDone_183 rfl (lv_at hl 5 rfl) ?_
  refine zGetM hx hb hw hown hK hP 0 rfl 3 (by decide) wf_M_20 rfl dM_isDone_184 ?_
  refine lv_aload_n hx hb dM_isDone_187 rfl (lv_at hl 5 rfl) ?_
  refine zGetM hx hb hw hown hK hP 0 rfl 10 (by decide) wf_M_49 rfl dM_isDone_188 ?_
  refine lv_iconst (v := nI 1) hx hb dM_isDone_191 (by decide) ?_
  refine lv_isub hx hb dM_isDone_192 ?_
  refine zti (zsub _ (by omega)) ?_
  refine zLald hx hb hK hP 4 3 rfl rfl (by omega) (by decide) dM_isDone_193 ?_
  refine lv_goto (tgt := 198) hx hb dM_isDone_194 rfl ?_
  refine lv_lstore hx hb dM_isDone_198 hl (by decide) rfl (fun ls hl => ?_)
  have hl : lv_has ls 14 [(10, .long (st (d - 1))), (9, .int (nI 2)), (8, .int (nI 0)), (4, .int (nI pl)), (6, .long x), (5, .int (nI 6)), (0, .ref (A 0)), (1, .int (nI w)), (2, .long key)] := hl
  refine lv_iload hx hb dM_isDone_200 (lv_at hl 1 rfl) ?_
  refine lv_iconst (v := nI 1) hx hb dM_isDone_202 (by decide) ?_
  refine zc_le (tgt := 220) hx hb dM_isDone_203 rfl (by omega) (by omega) (fun q => absurd q (by omega)) (fun _ => ?_)
  refine lv_aload_n hx hb dM_isDone_206 rfl (lv_at hl 6 rfl) ?_
  refine zGetM hx hb hw hown hK hP 0 rfl 3 (by decide) wf_M_20 rfl dM_isDone_207 ?_
  refine lv_aload_n hx hb dM_isDone_210 rfl (lv_at hl 6 rfl) ?_
  refine zGetM hx hb hw hown hK hP 0 rfl 10 (by decide) wf_M_49 rfl dM_isDone_211 ?_
  refine lv_iconst (v := nI 2) hx hb dM_isDone_214 (by decide) ?_
  refine lv_isub hx hb dM_isDone_215 ?_
  refine zti (zsub _ (by omega)) ?_
  refine zLald hx hb hK hP 4 3 rfl rfl (by omega) (by decide) dM_isDone_216 ?_
  refine lv_goto (tgt := 221) hx hb dM_isDone_217 rfl ?_
  refine lv_lstore hx hb dM_isDone_221 hl (by decide) rfl (fun ls hl => ?_)
  have hl : lv_has ls 14 [(12, .long (st (d - 2))), (10, .long (st (d - 1))), (9, .int (nI 2)), (8, .int (nI 0)), (4, .int (nI pl)), (6, .long x), (5, .int (nI 6)), (0, .ref (A 0)), (1, .int (nI w)), (2, .long key)] := hl
  refine lv_iload hx hb dM_isDone_223 (lv_at hl 6 rfl) ?_
  refine lv_bipush (v := nI 18) hx hb dM_isDone_225 (by decide) ?_
  refine zc_ne (tgt := 232) hx hb dM_isDone_227 rfl (by omega) (by omega) (fun _ => ?_) (fun q => absurd q (by omega))
  refine lv_iload hx hb dM_isDone_232 (lv_at hl 6 rfl) ?_
  refine lv_iconst (v := nI 2) hx hb dM_isDone_234 (by decide) ?_
  refine zc_ne (tgt := 265) hx hb dM_isDone_235 rfl (by omega) (by omega) (fun _ => ?_) (fun q => absurd q (by omega))
  refine lv_iload hx hb dM_isDone_265 (lv_at hl 6 rfl) ?_
  refine lv_bipush (v := nI 9) hx hb dM_isDone_267 (by decide) ?_
  refine zc_ne (tgt := 279) hx hb dM_isDone_269 rfl (by omega) (by omega) (fun _ => ?_) (fun q => absurd q (by omega))
  refine lv_iload hx hb dM_isDone_279 (lv_at hl 6 rfl) ?_
  refine lv_bipush (v := nI 17) hx hb dM_isDone_281 (by decide) ?_
  refine zc_ne (tgt := 296) hx hb dM_isDone_283 rfl (by omega) (by omega) (fun _ => ?_) (fun q => absurd q (by omega))
  refine lv_iload hx hb dM_isDone_296 (lv_at hl 3 rfl) ?_
  refine zi_eq (tgt := 437) hx hb dM_isDone_298 rfl (by omega) (fun _ => ?_) (fun q => absurd q (by omega))
  refine lv_iload hx hb dM_isDone_437 (lv_at hl 6 rfl) ?_
  refine lv_bipush (v := nI 14) hx hb dM_isDone_439 (by decide) ?_
  refine zc_ne (tgt := 473) hx hb dM_isDone_441 rfl (by omega) (by omega) (fun _ => ?_) (fun q => absurd q (by omega))
  refine lv_iload hx hb dM_isDone_473 (lv_at hl 6 rfl) ?_
  refine lv_bipush (v := nI 15) hx hb dM_isDone_475 (by decide) ?_
  refine zc_ne (tgt := 488) hx hb dM_isDone_477 rfl (by omega) (by omega) (fun _ => ?_) (fun q => absurd q (by omega))
  refine lv_aload_n hx hb dM_isDone_488 rfl (lv_at hl 7 rfl) ?_
  refine lv_dup hx hb dM_isDone_489 rfl ?_
  refine zGetM hx hb hw hown hK hP 0 rfl 10 (by decide) wf_M_49 rfl dM_isDone_490 ?_
  refine lv_iload hx hb dM_isDone_493 (lv_at hl 2 rfl) ?_
  refine lv_isub hx hb dM_isDone_495 ?_
  refine zti (zsub _ (by omega)) ?_
  refine zPutM hx hb hw hown hK hP hD hS 0 rfl 10 (by decide) wf_M_49 rfl rfl rfl (Nat.le_of_ble_eq_true rfl) dM_isDone_496 (fun H locs hP hD hS => ?_)
  replace hP : va_P D vwCl (mW A C ops nums vals st ce pk pv n vc sp (d - 2) pr tk th tr) H := hP
  replace hD : va_D F (mW A C ops nums vals st ce pk pv n vc sp (d - 2) pr tk th tr) := hD
  refine lv_iload hx hb dM_isDone_499 (lv_at hl 6 rfl) ?_
  refine lv_iconst (v := nI 5) hx hb dM_isDone_501 (by decide) ?_
  refine zc_ne (tgt := 515) hx hb dM_isDone_502 rfl (by omega) (by omega) (fun _ => ?_) (fun q => absurd q (by omega))
  refine lv_iload hx hb dM_isDone_515 (lv_at hl 6 rfl) ?_
  refine lv_bipush (v := nI 16) hx hb dM_isDone_517 (by decide) ?_
  refine zc_ne (tgt := 534) hx hb dM_isDone_519 rfl (by omega) (by omega) (fun _ => ?_) (fun q => absurd q (by omega))
  refine lv_iload hx hb dM_isDone_534 (lv_at hl 6 rfl) ?_
  refine lv_bipush (v := nI 17) hx hb dM_isDone_536 (by decide) ?_
  refine zc_ne (tgt := 582) hx hb dM_isDone_538 rfl (by omega) (by omega) (fun _ => ?_) (fun q => absurd q (by omega))
  refine lv_iload hx hb dM_isDone_582 (lv_at hl 6 rfl) ?_
  refine lv_bipush (v := nI 6) hx hb dM_isDone_584 (by decide) ?_
  refine zc_lt (tgt := 706) hx hb dM_isDone_586 rfl (by omega) (by omega) (fun q => absurd q (by omega)) (fun _ => ?_)
  refine lv_iload hx hb dM_isDone_589 (lv_at hl 6 rfl) ?_
  refine lv_bipush (v := nI 11) hx hb dM_isDone_591 (by decide) ?_
  refine zc_gt (tgt := 706) hx hb dM_isDone_593 rfl (by omega) (by omega) (fun q => absurd q (by omega)) (fun _ => ?_)
  refine lv_aload_n hx hb dM_isDone_596 rfl (lv_at hl 7 rfl) ?_
  refine zGetM hx hb hw hown hK hP 0 rfl 3 (by decide) wf_M_20 rfl dM_isDone_597 ?_
  refine lv_aload_n hx hb dM_isDone_600 rfl (lv_at hl 7 rfl) ?_
  refine zGetM hx hb hw hown hK hP 0 rfl 10 (by decide) wf_M_49 rfl dM_isDone_601 ?_
  refine lv_iload hx hb dM_isDone_604 (lv_at hl 6 rfl) ?_
  refine lv_bipush (v := nI 6) hx hb dM_isDone_606 (by decide) ?_
  refine zc_ne (tgt := 619) hx hb dM_isDone_608 rfl (by omega) (by omega) (fun q => absurd q (by omega)) (fun _ => ?_)
  refine lv_lload hx hb dM_isDone_611 (lv_at hl 0 rfl) ?_
  refine lv_lload hx hb dM_isDone_613 (lv_at hl 1 rfl) ?_
  refine lv_ladd hx hb dM_isDone_615 ?_
  refine lv_goto (tgt := 695) hx hb dM_isDone_616 rfl ?_
  refine zLast hx hb hK hP hD hS 4 3 rfl rfl (by omega) (by decide) dM_isDone_695 (fun H locs hP hD hS => ?_)
  replace hP : va_P D vwCl (mW A C ops nums vals (vp_updL st (d - 2) ((st (d - 2)) + (st (d - 1)))) ce pk pv n vc sp (d - 2) pr tk th tr) H := hP
  replace hD : va_D F (mW A C ops nums vals (vp_updL st (d - 2) ((st (d - 2)) + (st (d - 1)))) ce pk pv n vc sp (d - 2) pr tk th tr) := hD
  refine lv_aload_n hx hb dM_isDone_696 rfl (lv_at hl 7 rfl) ?_
  refine lv_dup hx hb dM_isDone_697 rfl ?_
  refine zGetM hx hb hw hown hK hP 0 rfl 10 (by decide) wf_M_49 rfl dM_isDone_698 ?_
  refine lv_iconst (v := nI 1) hx hb dM_isDone_701 (by decide) ?_
  refine lv_iadd hx hb dM_isDone_702 ?_
  refine zti (nI_add _ _) ?_
  refine zPutM hx hb hw hown hK hP hD hS 0 rfl 10 (by decide) wf_M_49 rfl rfl rfl (Nat.le_of_ble_eq_true rfl) dM_isDone_703 (fun H locs hP hD hS => ?_)
  replace hP : va_P D vwCl (mW A C ops nums vals (vp_updL st (d - 2) ((st (d - 2)) + (st (d - 1)))) ce pk pv n vc sp ((d - 2) + 1) pr tk th tr) H := hP
  replace hD : va_D F (mW A C ops nums vals (vp_updL st (d - 2) ((st (d - 2)) + (st (d - 1)))) ce pk pv n vc sp ((d - 2) + 1) pr tk th tr) := hD
  refine lv_goto (tgt := 3) hx hb dM_isDone_706 rfl ?_
  rw [show d - 2 + 1 = d - 1 by omega] at hP hD
  exact kk _ _ _ hP hD hS (lv_sub hl [4, 7, 8, 9] rfl)
set_option maxRecDepth 20000 in
set_option maxHeartbeats 4000000 in
theorem mO7 {p : Program} {l : Launch} {e : Env} {s : State} {m : MethodId} {args : Array Value} {below : List Frame} {meth : Method} {c : Code} {F : Nat → Prop} {D : va_G} {A : Nat → Nat} {C : Nat → ClassId} (hx : p.tables.exec = Jvm.exec) (hb : c.code = cM_isDone) (hr : meth.sig.returnType = (some .boolean)) (hlk : meth.locks = false) (hml : c.maxLocals = 14) (hw : ∀ w ∈ WS, w.before args s = true) (hown : s.vm.findClass RM = some m.cls) (hK : va_K D vwCl (mT C) s) (hA : ∀ q, s.heap.size ≤ q → F q) {Q : State → Prop} {ls : Array Slot} {H : Heap} {locs : List Loc} {ops : Nat → Int32} {nums vals st ce pk pv : Nat → Int64} {n vc sp d pr tk th tr : Nat} {w pl : Nat} {key x : Int64} (hd : d ≤ 12) (hw2 : w ≤ 2) (hvc : vc ≤ 40) (htk : tk ≤ vc) (hpr : pr ≤ 4) (hpl : pl ≤ 40) (h2 : 2 ≤ d) (hP : va_P D vwCl (mW A C ops nums vals st ce pk pv n vc sp d pr tk th tr) H) (hD : va_D F (mW A C ops nums vals st ce pk pv n vc sp d pr tk th tr)) (hS : va_S F s.heap H locs) (hl : lv_has ls 14 [(4, .int (nI pl)), (6, .long x), (5, .int (nI 7)), (0, .ref (A 0)), (1, .int (nI w)), (2, .long key)]) (kk : ∀ (ls : Array Slot) (H : Heap) (locs : List Loc), va_P D vwCl (mW A C ops nums vals (vp_updL st (d - 2) (st (d - 2) - st (d - 1))) ce pk pv n vc sp (d - 1) pr tk th tr) H → va_D F (mW A C ops nums vals (vp_updL st (d - 2) (st (d - 2) - st (d - 1))) ce pk pv n vc sp (d - 1) pr tk th tr) → va_S F s.heap H locs → lv_has ls 14 [(4, .int (nI pl)), (0, .ref (A 0)), (1, .int (nI w)), (2, .long key)] → W p l e (rmk 0 0) s m args below meth c H locs 0 0 Q (F0 m 3 ls [])) : W p l e (rmk 0 0) s m args below meth c H locs 0 0 Q (F0 m 55 ls []) := by
  refine lv_iload hx hb dM_isDone_55 (lv_at hl 2 rfl) ?_
  refine lv_iconst (v := nI 4) hx hb dM_isDone_57 (by decide) ?_
  refine zc_le (tgt := 68) hx hb dM_isDone_58 rfl (by omega) (by omega) (fun q => absurd q (by omega)) (fun _ => ?_)
  refine lv_iload hx hb dM_isDone_61 (lv_at hl 2 rfl) ?_
  refine lv_bipush (v := nI 12) hx hb dM_isDone_63 (by decide) ?_
  refine zc_ne (tgt := 72) hx hb dM_isDone_65 rfl (by omega) (by omega) (fun _ => ?_) (fun q => absurd q (by omega))
  refine lv_iconst (v := nI 0) hx hb dM_isDone_72 (by decide) ?_
  refine lv_istore hx hb dM_isDone_73 hl (by decide) rfl (fun ls hl => ?_)
  have hl : lv_has ls 14 [(8, .int (nI 0)), (4, .int (nI pl)), (6, .long x), (5, .int (nI 7)), (0, .ref (A 0)), (1, .int (nI w)), (2, .long key)] := hl
  refine lv_iload hx hb dM_isDone_75 (lv_at hl 3 rfl) ?_
  refine lv_bipush (v := nI 6) hx hb dM_isDone_77 (by decide) ?_
  refine zc_lt (tgt := 89) hx hb dM_isDone_79 rfl (by omega) (by omega) (fun q => absurd q (by omega)) (fun _ => ?_)
  refine lv_iload hx hb dM_isDone_82 (lv_at hl 3 rfl) ?_
  refine lv_bipush (v := nI 11) hx hb dM_isDone_84 (by decide) ?_
  refine zc_le (tgt := 108) hx hb dM_isDone_86 rfl (by omega) (by omega) (fun _ => ?_) (fun q => absurd q (by omega))
  refine lv_iconst (v := nI 2) hx hb dM_isDone_108 (by decide) ?_
  refine lv_goto (tgt := 151) hx hb dM_isDone_109 rfl ?_
  refine lv_istore hx hb dM_isDone_151 hl (by decide) rfl (fun ls hl => ?_)
  have hl : lv_has ls 14 [(9, .int (nI 2)), (8, .int (nI 0)), (4, .int (nI pl)), (6, .long x), (5, .int (nI 7)), (0, .ref (A 0)), (1, .int (nI w)), (2, .long key)] := hl
  refine lv_aload_n hx hb dM_isDone_153 rfl (lv_at hl 5 rfl) ?_
  refine zGetM hx hb hw hown hK hP 0 rfl 10 (by decide) wf_M_49 rfl dM_isDone_154 ?_
  refine lv_iload hx hb dM_isDone_157 (lv_at hl 0 rfl) ?_
  refine zc_lt (tgt := 176) hx hb dM_isDone_159 rfl (by omega) (by omega) (fun q => absurd q (by omega)) (fun _ => ?_)
  refine lv_iload hx hb dM_isDone_162 (lv_at hl 1 rfl) ?_
  refine zi_eq (tgt := 178) hx hb dM_isDone_164 rfl (by omega) (fun _ => ?_) (fun q => absurd q (by omega))
  refine lv_iload hx hb dM_isDone_178 (lv_at hl 0 rfl) ?_
  refine zi_le (tgt := 197) hx hb dM_isDone_180 rfl (by omega) (fun q => absurd q (by omega)) (fun _ => ?_)
  refine lv_aload_n hx hb dM_isDone_183 rfl (lv_at hl 5 rfl) ?_
  refine zGetM hx hb hw hown hK hP 0 rfl 3 (by decide) wf_M_20 rfl dM_isDone_184 ?_
  refine lv_aload_n hx hb dM_isDone_187 rfl (lv_at hl 5 rfl) ?_
  refine zGetM hx hb hw hown hK hP 0 rfl 10 (by decide) wf_M_49 rfl dM_isDone_188 ?_
  refine lv_iconst (v := nI 1) hx hb dM_isDone_191 (by decide) ?_
  refine lv_isub hx hb dM_isDone_192 ?_
  refine zti (zsub _ (by omega)) ?_
  refine zLald hx hb hK hP 4 3 rfl rfl (by omega) (by decide) dM_isDone_193 ?_
  refine lv_goto (tgt := 198) hx hb dM_isDone_194 rfl ?_
  refine lv_lstore hx hb dM_isDone_198 hl (by decide) rfl (fun ls hl => ?_)
  have hl : lv_has ls 14 [(10, .long (st (d - 1))), (9, .int (nI 2)), (8, .int (nI 0)), (4, .int (nI pl)), (6, .long x), (5, .int (nI 7)), (0, .ref (A 0)), (1, .int (nI w)), (2, .long key)] := hl
  refine lv_iload hx hb dM_isDone_200 (lv_at hl 1 rfl) ?_
  refine lv_iconst (v := nI 1) hx hb dM_isDone_202 (by decide) ?_
  refine zc_le (tgt := 220) hx hb dM_isDone_203 rfl (by omega) (by omega) (fun q => absurd q (by omega)) (fun _ => ?_)
  refine lv_aload_n hx hb dM_isDone_206 rfl (lv_at hl 6 rfl) ?_
  refine zGetM hx hb hw hown hK hP 0 rfl 3 (by decide) wf_M_20 rfl dM_isDone_207 ?_
  refine lv_aload_n hx hb dM_isDone_210 rfl (lv_at hl 6 rfl) ?_
  refine zGetM hx hb hw hown hK hP 0 rfl 10 (by decide) wf_M_49 rfl dM_isDone_211 ?_
  refine lv_iconst (v := nI 2) hx hb dM_isDone_214 (by decide) ?_
  refine lv_isub hx hb dM_isDone_215 ?_
  refine zti (zsub _ (by omega)) ?_
  refine zLald hx hb hK hP 4 3 rfl rfl (by omega) (by decide) dM_isDone_216 ?_
  refine lv_goto (tgt := 221) hx hb dM_isDone_217 rfl ?_
  refine lv_lstore hx hb dM_isDone_221 hl (by decide) rfl (fun ls hl => ?_)
  have hl : lv_has ls 14 [(12, .long (st (d - 2))), (10, .long (st (d - 1))), (9, .int (nI 2)), (8, .int (nI 0)), (4, .int (nI pl)), (6, .long x), (5, .int (nI 7)), (0, .ref (A 0)), (1, .int (nI w)), (2, .long key)] := hl
  refine lv_iload hx hb dM_isDone_223 (lv_at hl 6 rfl) ?_
  refine lv_bipush (v := nI 18) hx hb dM_isDone_225 (by decide) ?_
  refine zc_ne (tgt := 232) hx hb dM_isDone_227 rfl (by omega) (by omega) (fun _ => ?_) (fun q => absurd q (by omega))
  refine lv_iload hx hb dM_isDone_232 (lv_at hl 6 rfl) ?_
  refine lv_iconst (v := nI 2) hx hb dM_isDone_234 (by decide) ?_
  refine zc_ne (tgt := 265) hx hb dM_isDone_235 rfl (by omega) (by omega) (fun _ => ?_) (fun q => absurd q (by omega))
  refine lv_iload hx hb dM_isDone_265 (lv_at hl 6 rfl) ?_
  refine lv_bipush (v := nI 9) hx hb dM_isDone_267 (by decide) ?_
  refine zc_ne (tgt := 279) hx hb dM_isDone_269 rfl (by omega) (by omega) (fun _ => ?_) (fun q => absurd q (by omega))
  refine lv_iload hx hb dM_isDone_279 (lv_at hl 6 rfl) ?_
  refine lv_bipush (v := nI 17) hx hb dM_isDone_281 (by decide) ?_
  refine zc_ne (tgt := 296) hx hb dM_isDone_283 rfl (by omega) (by omega) (fun _ => ?_) (fun q => absurd q (by omega))
  refine lv_iload hx hb dM_isDone_296 (lv_at hl 3 rfl) ?_
  refine zi_eq (tgt := 437) hx hb dM_isDone_298 rfl (by omega) (fun _ => ?_) (fun q => absurd q (by omega))
  refine lv_iload hx hb dM_isDone_437 (lv_at hl 6 rfl) ?_
  refine lv_bipush (v := nI 14) hx hb dM_isDone_439 (by decide) ?_
  refine zc_ne (tgt := 473) hx hb dM_isDone_441 rfl (by omega) (by omega) (fun _ => ?_) (fun q => absurd q (by omega))
  refine lv_iload hx hb dM_isDone_473 (lv_at hl 6 rfl) ?_
  refine lv_bipush (v := nI 15) hx hb dM_isDone_475 (by decide) ?_
  refine zc_ne (tgt := 488) hx hb dM_isDone_477 rfl (by omega) (by omega) (fun _ => ?_) (fun q => absurd q (by omega))
  refine lv_aload_n hx hb dM_isDone_488 rfl (lv_at hl 7 rfl) ?_
  refine lv_dup hx hb dM_isDone_489 rfl ?_
  refine zGetM hx hb hw hown hK hP 0 rfl 10 (by decide) wf_M_49 rfl dM_isDone_490 ?_
  refine lv_iload hx hb dM_isDone_493 (lv_at hl 2 rfl) ?_
  refine lv_isub hx hb dM_isDone_495 ?_
  refine zti (zsub _ (by omega)) ?_
  refine zPutM hx hb hw hown hK hP hD hS 0 rfl 10 (by decide) wf_M_49 rfl rfl rfl (Nat.le_of_ble_eq_true rfl) dM_isDone_496 (fun H locs hP hD hS => ?_)
  replace hP : va_P D vwCl (mW A C ops nums vals st ce pk pv n vc sp (d - 2) pr tk th tr) H := hP
  replace hD : va_D F (mW A C ops nums vals st ce pk pv n vc sp (d - 2) pr tk th tr) := hD
  refine lv_iload hx hb dM_isDone_499 (lv_at hl 6 rfl) ?_
  refine lv_iconst (v := nI 5) hx hb dM_isDone_501 (by decide) ?_
  refine zc_ne (tgt := 515) hx hb dM_isDone_502 rfl (by omega) (by omega) (fun _ => ?_) (fun q => absurd q (by omega))
  refine lv_iload hx hb dM_isDone_515 (lv_at hl 6 rfl) ?_
  refine lv_bipush (v := nI 16) hx hb dM_isDone_517 (by decide) ?_
  refine zc_ne (tgt := 534) hx hb dM_isDone_519 rfl (by omega) (by omega) (fun _ => ?_) (fun q => absurd q (by omega))
  refine lv_iload hx hb dM_isDone_534 (lv_at hl 6 rfl) ?_
  refine lv_bipush (v := nI 17) hx hb dM_isDone_536 (by decide) ?_
  refine zc_ne (tgt := 582) hx hb dM_isDone_538 rfl (by omega) (by omega) (fun _ => ?_) (fun q => absurd q (by omega))
  refine lv_iload hx hb dM_isDone_582 (lv_at hl 6 rfl) ?_
  refine lv_bipush (v := nI 6) hx hb dM_isDone_584 (by decide) ?_
  refine zc_lt (tgt := 706) hx hb dM_isDone_586 rfl (by omega) (by omega) (fun q => absurd q (by omega)) (fun _ => ?_)
  refine lv_iload hx hb dM_isDone_589 (lv_at hl 6 rfl) ?_
  refine lv_bipush (v := nI 11) hx hb dM_isDone_591 (by decide) ?_
  refine zc_gt (tgt := 706) hx hb dM_isDone_593 rfl (by omega) (by omega) (fun q => absurd q (by omega)) (fun _ => ?_)
  refine lv_aload_n hx hb dM_isDone_596 rfl (lv_at hl 7 rfl) ?_
  refine zGetM hx hb hw hown hK hP 0 rfl 3 (by decide) wf_M_20 rfl dM_isDone_597 ?_
  refine lv_aload_n hx hb dM_isDone_600 rfl (lv_at hl 7 rfl) ?_
  refine zGetM hx hb hw hown hK hP 0 rfl 10 (by decide) wf_M_49 rfl dM_isDone_601 ?_
  refine lv_iload hx hb dM_isDone_604 (lv_at hl 6 rfl) ?_
  refine lv_bipush (v := nI 6) hx hb dM_isDone_606 (by decide) ?_
  refine zc_ne (tgt := 619) hx hb dM_isDone_608 rfl (by omega) (by omega) (fun _ => ?_) (fun q => absurd q (by omega))
  refine lv_iload hx hb dM_isDone_619 (lv_at hl 6 rfl) ?_
  refine lv_bipush (v := nI 7) hx hb dM_isDone_621 (by decide) ?_
  refine zc_ne (tgt := 634) hx hb dM_isDone_623 rfl (by omega) (by omega) (fun q => absurd q (by omega)) (fun _ => ?_)
  refine lv_lload hx hb dM_isDone_626 (lv_at hl 0 rfl) ?_
  refine lv_lload hx hb dM_isDone_628 (lv_at hl 1 rfl) ?_
  refine lv_lsub hx hb dM_isDone_630 ?_
  refine lv_goto (tgt := 695) hx hb dM_isDone_631 rfl ?_
  refine zLast hx hb hK hP hD hS 4 3 rfl rfl (by omega) (by decide) dM_isDone_695 (fun H locs hP hD hS => ?_)
  replace hP : va_P D vwCl (mW A C ops nums vals (vp_updL st (d - 2) ((st (d - 2)) - (st (d - 1)))) ce pk pv n vc sp (d - 2) pr tk th tr) H := hP
  replace hD : va_D F (mW A C ops nums vals (vp_updL st (d - 2) ((st (d - 2)) - (st (d - 1)))) ce pk pv n vc sp (d - 2) pr tk th tr) := hD
  refine lv_aload_n hx hb dM_isDone_696 rfl (lv_at hl 7 rfl) ?_
  refine lv_dup hx hb dM_isDone_697 rfl ?_
  refine zGetM hx hb hw hown hK hP 0 rfl 10 (by decide) wf_M_49 rfl dM_isDone_698 ?_
  refine lv_iconst (v := nI 1) hx hb dM_isDone_701 (by decide) ?_
  refine lv_iadd hx hb dM_isDone_702 ?_
  refine zti (nI_add _ _) ?_
  refine zPutM hx hb hw hown hK hP hD hS 0 rfl 10 (by decide) wf_M_49 rfl rfl rfl (Nat.le_of_ble_eq_true rfl) dM_isDone_703 (fun H locs hP hD hS => ?_)
  replace hP : va_P D vwCl (mW A C ops nums vals (vp_updL st (d - 2) ((st (d - 2)) - (st (d - 1)))) ce pk pv n vc sp ((d - 2) + 1) pr tk th tr) H := hP
  replace hD : va_D F (mW A C ops nums vals (vp_updL st (d - 2) ((st (d - 2)) - (st (d - 1)))) ce pk pv n vc sp ((d - 2) + 1) pr tk th tr) := hD
  refine lv_goto (tgt := 3) hx hb dM_isDone_706 rfl ?_
  rw [show d - 2 + 1 = d - 1 by omega] at hP hD
  exact kk _ _ _ hP hD hS (lv_sub hl [4, 7, 8, 9] rfl)
set_option maxRecDepth 20000 in
set_option maxHeartbeats 4000000 in
theorem mO8 {p : Program} {l : Launch} {e : Env} {s : State} {m : MethodId} {args : Array Value} {below : List Frame} {meth : Method} {c : Code} {F : Nat → Prop} {D : va_G} {A : Nat → Nat} {C : Nat → ClassId} (hx : p.tables.exec = Jvm.exec) (hb : c.code = cM_isDone) (hr : meth.sig.returnType = (some .boolean)) (hlk : meth.locks = false) (hml : c.maxLocals = 14) (hw : ∀ w ∈ WS, w.before args s = true) (hown : s.vm.findClass RM = some m.cls) (hK : va_K D vwCl (mT C) s) (hA : ∀ q, s.heap.size ≤ q → F q) {Q : State → Prop} {ls : Array Slot} {H : Heap} {locs : List Loc} {ops : Nat → Int32} {nums vals st ce pk pv : Nat → Int64} {n vc sp d pr tk th tr : Nat} {w pl : Nat} {key x : Int64} (hd : d ≤ 12) (hw2 : w ≤ 2) (hvc : vc ≤ 40) (htk : tk ≤ vc) (hpr : pr ≤ 4) (hpl : pl ≤ 40) (h2 : 2 ≤ d) (hP : va_P D vwCl (mW A C ops nums vals st ce pk pv n vc sp d pr tk th tr) H) (hD : va_D F (mW A C ops nums vals st ce pk pv n vc sp d pr tk th tr)) (hS : va_S F s.heap H locs) (hl : lv_has ls 14 [(4, .int (nI pl)), (6, .long x), (5, .int (nI 8)), (0, .ref (A 0)), (1, .int (nI w)), (2, .long key)]) (kk : ∀ (ls : Array Slot) (H : Heap) (locs : List Loc), va_P D vwCl (mW A C ops nums vals (vp_updL st (d - 2) (st (d - 2) * st (d - 1))) ce pk pv n vc sp (d - 1) pr tk th tr) H → va_D F (mW A C ops nums vals (vp_updL st (d - 2) (st (d - 2) * st (d - 1))) ce pk pv n vc sp (d - 1) pr tk th tr) → va_S F s.heap H locs → lv_has ls 14 [(4, .int (nI pl)), (0, .ref (A 0)), (1, .int (nI w)), (2, .long key)] → W p l e (rmk 0 0) s m args below meth c H locs 0 0 Q (F0 m 3 ls [])) : W p l e (rmk 0 0) s m args below meth c H locs 0 0 Q (F0 m 55 ls []) := by
  refine lv_iload hx hb dM_isDone_55 (lv_at hl 2 rfl) ?_
  refine lv_iconst (v := nI 4) hx hb dM_isDone_57 (by decide) ?_
  refine zc_le (tgt := 68) hx hb dM_isDone_58 rfl (by omega) (by omega) (fun q => absurd q (by omega)) (fun _ => ?_)
  refine lv_iload hx hb dM_isDone_61 (lv_at hl 2 rfl) ?_
  refine lv_bipush (v := nI 12) hx hb dM_isDone_63 (by decide) ?_
  refine zc_ne (tgt := 72) hx hb dM_isDone_65 rfl (by omega) (by omega) (fun _ => ?_) (fun q => absurd q (by omega))
  refine lv_iconst (v := nI 0) hx hb dM_isDone_72 (by decide) ?_
  refine lv_istore hx hb dM_isDone_73 hl (by decide) rfl (fun ls hl => ?_)
  have hl : lv_has ls 14 [(8, .int (nI 0)), (4, .int (nI pl)), (6, .long x), (5, .int (nI 8)), (0, .ref (A 0)), (1, .int (nI w)), (2, .long key)] := hl
  refine lv_iload hx hb dM_isDone_75 (lv_at hl 3 rfl) ?_
  refine lv_bipush (v := nI 6) hx hb dM_isDone_77 (by decide) ?_
  refine zc_lt (tgt := 89) hx hb dM_isDone_79 rfl (by omega) (by omega) (fun q => absurd q (by omega)) (fun _ => ?_)
  refine lv_iload hx hb dM_isDone_82 (lv_at hl 3 rfl) ?_
  refine lv_bipush (v := nI 11) hx hb dM_isDone_84 (by decide) ?_
  refine zc_le (tgt := 108) hx hb dM_isDone_86 rfl (by omega) (by omega) (fun _ => ?_) (fun q => absurd q (by omega))
  refine lv_iconst (v := nI 2) hx hb dM_isDone_108 (by decide) ?_
  refine lv_goto (tgt := 151) hx hb dM_isDone_109 rfl ?_
  refine lv_istore hx hb dM_isDone_151 hl (by decide) rfl (fun ls hl => ?_)
  have hl : lv_has ls 14 [(9, .int (nI 2)), (8, .int (nI 0)), (4, .int (nI pl)), (6, .long x), (5, .int (nI 8)), (0, .ref (A 0)), (1, .int (nI w)), (2, .long key)] := hl
  refine lv_aload_n hx hb dM_isDone_153 rfl (lv_at hl 5 rfl) ?_
  refine zGetM hx hb hw hown hK hP 0 rfl 10 (by decide) wf_M_49 rfl dM_isDone_154 ?_
  refine lv_iload hx hb dM_isDone_157 (lv_at hl 0 rfl) ?_
  refine zc_lt (tgt := 176) hx hb dM_isDone_159 rfl (by omega) (by omega) (fun q => absurd q (by omega)) (fun _ => ?_)
  refine lv_iload hx hb dM_isDone_162 (lv_at hl 1 rfl) ?_
  refine zi_eq (tgt := 178) hx hb dM_isDone_164 rfl (by omega) (fun _ => ?_) (fun q => absurd q (by omega))
  refine lv_iload hx hb dM_isDone_178 (lv_at hl 0 rfl) ?_
  refine zi_le (tgt := 197) hx hb dM_isDone_180 rfl (by omega) (fun q => absurd q (by omega)) (fun _ => ?_)
  refine lv_aload_n hx hb dM_isDone_183 rfl (lv_at hl 5 rfl) ?_
  refine zGetM hx hb hw hown hK hP 0 rfl 3 (by decide) wf_M_20 rfl dM_isDone_184 ?_
  refine lv_aload_n hx hb dM_isDone_187 rfl (lv_at hl 5 rfl) ?_
  refine zGetM hx hb hw hown hK hP 0 rfl 10 (by decide) wf_M_49 rfl dM_isDone_188 ?_
  refine lv_iconst (v := nI 1) hx hb dM_isDone_191 (by decide) ?_
  refine lv_isub hx hb dM_isDone_192 ?_
  refine zti (zsub _ (by omega)) ?_
  refine zLald hx hb hK hP 4 3 rfl rfl (by omega) (by decide) dM_isDone_193 ?_
  refine lv_goto (tgt := 198) hx hb dM_isDone_194 rfl ?_
  refine lv_lstore hx hb dM_isDone_198 hl (by decide) rfl (fun ls hl => ?_)
  have hl : lv_has ls 14 [(10, .long (st (d - 1))), (9, .int (nI 2)), (8, .int (nI 0)), (4, .int (nI pl)), (6, .long x), (5, .int (nI 8)), (0, .ref (A 0)), (1, .int (nI w)), (2, .long key)] := hl
  refine lv_iload hx hb dM_isDone_200 (lv_at hl 1 rfl) ?_
  refine lv_iconst (v := nI 1) hx hb dM_isDone_202 (by decide) ?_
  refine zc_le (tgt := 220) hx hb dM_isDone_203 rfl (by omega) (by omega) (fun q => absurd q (by omega)) (fun _ => ?_)
  refine lv_aload_n hx hb dM_isDone_206 rfl (lv_at hl 6 rfl) ?_
  refine zGetM hx hb hw hown hK hP 0 rfl 3 (by decide) wf_M_20 rfl dM_isDone_207 ?_
  refine lv_aload_n hx hb dM_isDone_210 rfl (lv_at hl 6 rfl) ?_
  refine zGetM hx hb hw hown hK hP 0 rfl 10 (by decide) wf_M_49 rfl dM_isDone_211 ?_
  refine lv_iconst (v := nI 2) hx hb dM_isDone_214 (by decide) ?_
  refine lv_isub hx hb dM_isDone_215 ?_
  refine zti (zsub _ (by omega)) ?_
  refine zLald hx hb hK hP 4 3 rfl rfl (by omega) (by decide) dM_isDone_216 ?_
  refine lv_goto (tgt := 221) hx hb dM_isDone_217 rfl ?_
  refine lv_lstore hx hb dM_isDone_221 hl (by decide) rfl (fun ls hl => ?_)
  have hl : lv_has ls 14 [(12, .long (st (d - 2))), (10, .long (st (d - 1))), (9, .int (nI 2)), (8, .int (nI 0)), (4, .int (nI pl)), (6, .long x), (5, .int (nI 8)), (0, .ref (A 0)), (1, .int (nI w)), (2, .long key)] := hl
  refine lv_iload hx hb dM_isDone_223 (lv_at hl 6 rfl) ?_
  refine lv_bipush (v := nI 18) hx hb dM_isDone_225 (by decide) ?_
  refine zc_ne (tgt := 232) hx hb dM_isDone_227 rfl (by omega) (by omega) (fun _ => ?_) (fun q => absurd q (by omega))
  refine lv_iload hx hb dM_isDone_232 (lv_at hl 6 rfl) ?_
  refine lv_iconst (v := nI 2) hx hb dM_isDone_234 (by decide) ?_
  refine zc_ne (tgt := 265) hx hb dM_isDone_235 rfl (by omega) (by omega) (fun _ => ?_) (fun q => absurd q (by omega))
  refine lv_iload hx hb dM_isDone_265 (lv_at hl 6 rfl) ?_
  refine lv_bipush (v := nI 9) hx hb dM_isDone_267 (by decide) ?_
  refine zc_ne (tgt := 279) hx hb dM_isDone_269 rfl (by omega) (by omega) (fun _ => ?_) (fun q => absurd q (by omega))
  refine lv_iload hx hb dM_isDone_279 (lv_at hl 6 rfl) ?_
  refine lv_bipush (v := nI 17) hx hb dM_isDone_281 (by decide) ?_
  refine zc_ne (tgt := 296) hx hb dM_isDone_283 rfl (by omega) (by omega) (fun _ => ?_) (fun q => absurd q (by omega))
  refine lv_iload hx hb dM_isDone_296 (lv_at hl 3 rfl) ?_
  refine zi_eq (tgt := 437) hx hb dM_isDone_298 rfl (by omega) (fun _ => ?_) (fun q => absurd q (by omega))
  refine lv_iload hx hb dM_isDone_437 (lv_at hl 6 rfl) ?_
  refine lv_bipush (v := nI 14) hx hb dM_isDone_439 (by decide) ?_
  refine zc_ne (tgt := 473) hx hb dM_isDone_441 rfl (by omega) (by omega) (fun _ => ?_) (fun q => absurd q (by omega))
  refine lv_iload hx hb dM_isDone_473 (lv_at hl 6 rfl) ?_
  refine lv_bipush (v := nI 15) hx hb dM_isDone_475 (by decide) ?_
  refine zc_ne (tgt := 488) hx hb dM_isDone_477 rfl (by omega) (by omega) (fun _ => ?_) (fun q => absurd q (by omega))
  refine lv_aload_n hx hb dM_isDone_488 rfl (lv_at hl 7 rfl) ?_
  refine lv_dup hx hb dM_isDone_489 rfl ?_
  refine zGetM hx hb hw hown hK hP 0 rfl 10 (by decide) wf_M_49 rfl dM_isDone_490 ?_
  refine lv_iload hx hb dM_isDone_493 (lv_at hl 2 rfl) ?_
  refine lv_isub hx hb dM_isDone_495 ?_
  refine zti (zsub _ (by omega)) ?_
  refine zPutM hx hb hw hown hK hP hD hS 0 rfl 10 (by decide) wf_M_49 rfl rfl rfl (Nat.le_of_ble_eq_true rfl) dM_isDone_496 (fun H locs hP hD hS => ?_)
  replace hP : va_P D vwCl (mW A C ops nums vals st ce pk pv n vc sp (d - 2) pr tk th tr) H := hP
  replace hD : va_D F (mW A C ops nums vals st ce pk pv n vc sp (d - 2) pr tk th tr) := hD
  refine lv_iload hx hb dM_isDone_499 (lv_at hl 6 rfl) ?_
  refine lv_iconst (v := nI 5) hx hb dM_isDone_501 (by decide) ?_
  refine zc_ne (tgt := 515) hx hb dM_isDone_502 rfl (by omega) (by omega) (fun _ => ?_) (fun q => absurd q (by omega))
  refine lv_iload hx hb dM_isDone_515 (lv_at hl 6 rfl) ?_
  refine lv_bipush (v := nI 16) hx hb dM_isDone_517 (by decide) ?_
  refine zc_ne (tgt := 534) hx hb dM_isDone_519 rfl (by omega) (by omega) (fun _ => ?_) (fun q => absurd q (by omega))
  refine lv_iload hx hb dM_isDone_534 (lv_at hl 6 rfl) ?_
  refine lv_bipush (v := nI 17) hx hb dM_isDone_536 (by decide) ?_
  refine zc_ne (tgt := 582) hx hb dM_isDone_538 rfl (by omega) (by omega) (fun _ => ?_) (fun q => absurd q (by omega))
  refine lv_iload hx hb dM_isDone_582 (lv_at hl 6 rfl) ?_
  refine lv_bipush (v := nI 6) hx hb dM_isDone_584 (by decide) ?_
  refine zc_lt (tgt := 706) hx hb dM_isDone_586 rfl (by omega) (by omega) (fun q => absurd q (by omega)) (fun _ => ?_)
  refine lv_iload hx hb dM_isDone_589 (lv_at hl 6 rfl) ?_
  refine lv_bipush (v := nI 11) hx hb dM_isDone_591 (by decide) ?_
  refine zc_gt (tgt := 706) hx hb dM_isDone_593 rfl (by omega) (by omega) (fun q => absurd q (by omega)) (fun _ => ?_)
  refine lv_aload_n hx hb dM_isDone_596 rfl (lv_at hl 7 rfl) ?_
  refine zGetM hx hb hw hown hK hP 0 rfl 3 (by decide) wf_M_20 rfl dM_isDone_597 ?_
  refine lv_aload_n hx hb dM_isDone_600 rfl (lv_at hl 7 rfl) ?_
  refine zGetM hx hb hw hown hK hP 0 rfl 10 (by decide) wf_M_49 rfl dM_isDone_601 ?_
  refine lv_iload hx hb dM_isDone_604 (lv_at hl 6 rfl) ?_
  refine lv_bipush (v := nI 6) hx hb dM_isDone_606 (by decide) ?_
  refine zc_ne (tgt := 619) hx hb dM_isDone_608 rfl (by omega) (by omega) (fun _ => ?_) (fun q => absurd q (by omega))
  refine lv_iload hx hb dM_isDone_619 (lv_at hl 6 rfl) ?_
  refine lv_bipush (v := nI 7) hx hb dM_isDone_621 (by decide) ?_
  refine zc_ne (tgt := 634) hx hb dM_isDone_623 rfl (by omega) (by omega) (fun _ => ?_) (fun q => absurd q (by omega))
  refine lv_iload hx hb dM_isDone_634 (lv_at hl 6 rfl) ?_
  refine lv_bipush (v := nI 8) hx hb dM_isDone_636 (by decide) ?_
  refine zc_ne (tgt := 649) hx hb dM_isDone_638 rfl (by omega) (by omega) (fun q => absurd q (by omega)) (fun _ => ?_)
  refine lv_lload hx hb dM_isDone_641 (lv_at hl 0 rfl) ?_
  refine lv_lload hx hb dM_isDone_643 (lv_at hl 1 rfl) ?_
  refine lv_lmul hx hb dM_isDone_645 ?_
  refine lv_goto (tgt := 695) hx hb dM_isDone_646 rfl ?_
  refine zLast hx hb hK hP hD hS 4 3 rfl rfl (by omega) (by decide) dM_isDone_695 (fun H locs hP hD hS => ?_)
  replace hP : va_P D vwCl (mW A C ops nums vals (vp_updL st (d - 2) ((st (d - 2)) * (st (d - 1)))) ce pk pv n vc sp (d - 2) pr tk th tr) H := hP
  replace hD : va_D F (mW A C ops nums vals (vp_updL st (d - 2) ((st (d - 2)) * (st (d - 1)))) ce pk pv n vc sp (d - 2) pr tk th tr) := hD
  refine lv_aload_n hx hb dM_isDone_696 rfl (lv_at hl 7 rfl) ?_
  refine lv_dup hx hb dM_isDone_697 rfl ?_
  refine zGetM hx hb hw hown hK hP 0 rfl 10 (by decide) wf_M_49 rfl dM_isDone_698 ?_
  refine lv_iconst (v := nI 1) hx hb dM_isDone_701 (by decide) ?_
  refine lv_iadd hx hb dM_isDone_702 ?_
  refine zti (nI_add _ _) ?_
  refine zPutM hx hb hw hown hK hP hD hS 0 rfl 10 (by decide) wf_M_49 rfl rfl rfl (Nat.le_of_ble_eq_true rfl) dM_isDone_703 (fun H locs hP hD hS => ?_)
  replace hP : va_P D vwCl (mW A C ops nums vals (vp_updL st (d - 2) ((st (d - 2)) * (st (d - 1)))) ce pk pv n vc sp ((d - 2) + 1) pr tk th tr) H := hP
  replace hD : va_D F (mW A C ops nums vals (vp_updL st (d - 2) ((st (d - 2)) * (st (d - 1)))) ce pk pv n vc sp ((d - 2) + 1) pr tk th tr) := hD
  refine lv_goto (tgt := 3) hx hb dM_isDone_706 rfl ?_
  rw [show d - 2 + 1 = d - 1 by omega] at hP hD
  exact kk _ _ _ hP hD hS (lv_sub hl [4, 7, 8, 9] rfl)
set_option maxRecDepth 20000 in
set_option maxHeartbeats 4000000 in
theorem mO9 {p : Program} {l : Launch} {e : Env} {s : State} {m : MethodId} {args : Array Value} {below : List Frame} {meth : Method} {c : Code} {F : Nat → Prop} {D : va_G} {A : Nat → Nat} {C : Nat → ClassId} (hx : p.tables.exec = Jvm.exec) (hb : c.code = cM_isDone) (hr : meth.sig.returnType = (some .boolean)) (hlk : meth.locks = false) (hml : c.maxLocals = 14) (hw : ∀ w ∈ WS, w.before args s = true) (hown : s.vm.findClass RM = some m.cls) (hK : va_K D vwCl (mT C) s) (hA : ∀ q, s.heap.size ≤ q → F q) {Q : State → Prop} {ls : Array Slot} {H : Heap} {locs : List Loc} {ops : Nat → Int32} {nums vals st ce pk pv : Nat → Int64} {n vc sp d pr tk th tr : Nat} {w pl : Nat} {key x : Int64} (hd : d ≤ 12) (hw2 : w ≤ 2) (hvc : vc ≤ 40) (htk : tk ≤ vc) (hpr : pr ≤ 4) (hpl : pl ≤ 40) (h2 : 2 ≤ d) (hy : ¬ st (d - 1) = 0) (hP : va_P D vwCl (mW A C ops nums vals st ce pk pv n vc sp d pr tk th tr) H) (hD : va_D F (mW A C ops nums vals st ce pk pv n vc sp d pr tk th tr)) (hS : va_S F s.heap H locs) (hl : lv_has ls 14 [(4, .int (nI pl)), (6, .long x), (5, .int (nI 9)), (0, .ref (A 0)), (1, .int (nI w)), (2, .long key)]) (kk : ∀ (ls : Array Slot) (H : Heap) (locs : List Loc), va_P D vwCl (mW A C ops nums vals (vp_updL st (d - 2) (st (d - 2) / st (d - 1))) ce pk pv n vc sp (d - 1) pr tk th tr) H → va_D F (mW A C ops nums vals (vp_updL st (d - 2) (st (d - 2) / st (d - 1))) ce pk pv n vc sp (d - 1) pr tk th tr) → va_S F s.heap H locs → lv_has ls 14 [(4, .int (nI pl)), (0, .ref (A 0)), (1, .int (nI w)), (2, .long key)] → W p l e (rmk 0 0) s m args below meth c H locs 0 0 Q (F0 m 3 ls [])) : W p l e (rmk 0 0) s m args below meth c H locs 0 0 Q (F0 m 55 ls []) := by
  refine lv_iload hx hb dM_isDone_55 (lv_at hl 2 rfl) ?_
  refine lv_iconst (v := nI 4) hx hb dM_isDone_57 (by decide) ?_
  refine zc_le (tgt := 68) hx hb dM_isDone_58 rfl (by omega) (by omega) (fun q => absurd q (by omega)) (fun _ => ?_)
  refine lv_iload hx hb dM_isDone_61 (lv_at hl 2 rfl) ?_
  refine lv_bipush (v := nI 12) hx hb dM_isDone_63 (by decide) ?_
  refine zc_ne (tgt := 72) hx hb dM_isDone_65 rfl (by omega) (by omega) (fun _ => ?_) (fun q => absurd q (by omega))
  refine lv_iconst (v := nI 0) hx hb dM_isDone_72 (by decide) ?_
  refine lv_istore hx hb dM_isDone_73 hl (by decide) rfl (fun ls hl => ?_)
  have hl : lv_has ls 14 [(8, .int (nI 0)), (4, .int (nI pl)), (6, .long x), (5, .int (nI 9)), (0, .ref (A 0)), (1, .int (nI w)), (2, .long key)] := hl
  refine lv_iload hx hb dM_isDone_75 (lv_at hl 3 rfl) ?_
  refine lv_bipush (v := nI 6) hx hb dM_isDone_77 (by decide) ?_
  refine zc_lt (tgt := 89) hx hb dM_isDone_79 rfl (by omega) (by omega) (fun q => absurd q (by omega)) (fun _ => ?_)
  refine lv_iload hx hb dM_isDone_82 (lv_at hl 3 rfl) ?_
  refine lv_bipush (v := nI 11) hx hb dM_isDone_84 (by decide) ?_
  refine zc_le (tgt := 108) hx hb dM_isDone_86 rfl (by omega) (by omega) (fun _ => ?_) (fun q => absurd q (by omega))
  refine lv_iconst (v := nI 2) hx hb dM_isDone_108 (by decide) ?_
  refine lv_goto (tgt := 151) hx hb dM_isDone_109 rfl ?_
  refine lv_istore hx hb dM_isDone_151 hl (by decide) rfl (fun ls hl => ?_)
  have hl : lv_has ls 14 [(9, .int (nI 2)), (8, .int (nI 0)), (4, .int (nI pl)), (6, .long x), (5, .int (nI 9)), (0, .ref (A 0)), (1, .int (nI w)), (2, .long key)] := hl
  refine lv_aload_n hx hb dM_isDone_153 rfl (lv_at hl 5 rfl) ?_
  refine zGetM hx hb hw hown hK hP 0 rfl 10 (by decide) wf_M_49 rfl dM_isDone_154 ?_
  refine lv_iload hx hb dM_isDone_157 (lv_at hl 0 rfl) ?_
  refine zc_lt (tgt := 176) hx hb dM_isDone_159 rfl (by omega) (by omega) (fun q => absurd q (by omega)) (fun _ => ?_)
  refine lv_iload hx hb dM_isDone_162 (lv_at hl 1 rfl) ?_
  refine zi_eq (tgt := 178) hx hb dM_isDone_164 rfl (by omega) (fun _ => ?_) (fun q => absurd q (by omega))
  refine lv_iload hx hb dM_isDone_178 (lv_at hl 0 rfl) ?_
  refine zi_le (tgt := 197) hx hb dM_isDone_180 rfl (by omega) (fun q => absurd q (by omega)) (fun _ => ?_)
  refine lv_aload_n hx hb dM_isDone_183 rfl (lv_at hl 5 rfl) ?_
  refine zGetM hx hb hw hown hK hP 0 rfl 3 (by decide) wf_M_20 rfl dM_isDone_184 ?_
  refine lv_aload_n hx hb dM_isDone_187 rfl (lv_at hl 5 rfl) ?_
  refine zGetM hx hb hw hown hK hP 0 rfl 10 (by decide) wf_M_49 rfl dM_isDone_188 ?_
  refine lv_iconst (v := nI 1) hx hb dM_isDone_191 (by decide) ?_
  refine lv_isub hx hb dM_isDone_192 ?_
  refine zti (zsub _ (by omega)) ?_
  refine zLald hx hb hK hP 4 3 rfl rfl (by omega) (by decide) dM_isDone_193 ?_
  refine lv_goto (tgt := 198) hx hb dM_isDone_194 rfl ?_
  refine lv_lstore hx hb dM_isDone_198 hl (by decide) rfl (fun ls hl => ?_)
  have hl : lv_has ls 14 [(10, .long (st (d - 1))), (9, .int (nI 2)), (8, .int (nI 0)), (4, .int (nI pl)), (6, .long x), (5, .int (nI 9)), (0, .ref (A 0)), (1, .int (nI w)), (2, .long key)] := hl
  refine lv_iload hx hb dM_isDone_200 (lv_at hl 1 rfl) ?_
  refine lv_iconst (v := nI 1) hx hb dM_isDone_202 (by decide) ?_
  refine zc_le (tgt := 220) hx hb dM_isDone_203 rfl (by omega) (by omega) (fun q => absurd q (by omega)) (fun _ => ?_)
  refine lv_aload_n hx hb dM_isDone_206 rfl (lv_at hl 6 rfl) ?_
  refine zGetM hx hb hw hown hK hP 0 rfl 3 (by decide) wf_M_20 rfl dM_isDone_207 ?_
  refine lv_aload_n hx hb dM_isDone_210 rfl (lv_at hl 6 rfl) ?_
  refine zGetM hx hb hw hown hK hP 0 rfl 10 (by decide) wf_M_49 rfl dM_isDone_211 ?_
  refine lv_iconst (v := nI 2) hx hb dM_isDone_214 (by decide) ?_
  refine lv_isub hx hb dM_isDone_215 ?_
  refine zti (zsub _ (by omega)) ?_
  refine zLald hx hb hK hP 4 3 rfl rfl (by omega) (by decide) dM_isDone_216 ?_
  refine lv_goto (tgt := 221) hx hb dM_isDone_217 rfl ?_
  refine lv_lstore hx hb dM_isDone_221 hl (by decide) rfl (fun ls hl => ?_)
  have hl : lv_has ls 14 [(12, .long (st (d - 2))), (10, .long (st (d - 1))), (9, .int (nI 2)), (8, .int (nI 0)), (4, .int (nI pl)), (6, .long x), (5, .int (nI 9)), (0, .ref (A 0)), (1, .int (nI w)), (2, .long key)] := hl
  refine lv_iload hx hb dM_isDone_223 (lv_at hl 6 rfl) ?_
  refine lv_bipush (v := nI 18) hx hb dM_isDone_225 (by decide) ?_
  refine zc_ne (tgt := 232) hx hb dM_isDone_227 rfl (by omega) (by omega) (fun _ => ?_) (fun q => absurd q (by omega))
  refine lv_iload hx hb dM_isDone_232 (lv_at hl 6 rfl) ?_
  refine lv_iconst (v := nI 2) hx hb dM_isDone_234 (by decide) ?_
  refine zc_ne (tgt := 265) hx hb dM_isDone_235 rfl (by omega) (by omega) (fun _ => ?_) (fun q => absurd q (by omega))
  refine lv_iload hx hb dM_isDone_265 (lv_at hl 6 rfl) ?_
  refine lv_bipush (v := nI 9) hx hb dM_isDone_267 (by decide) ?_
  refine zc_ne (tgt := 279) hx hb dM_isDone_269 rfl (by omega) (by omega) (fun q => absurd q (by omega)) (fun _ => ?_)
  refine lv_lload hx hb dM_isDone_272 (lv_at hl 1 rfl) ?_
  refine lv_lconst (v := 0) hx hb dM_isDone_274 (by decide) ?_
  refine W.lcmp hx hb dM_isDone_275 ?_
  refine zl_eq (tgt := 294) hx hb dM_isDone_276 rfl (fun q => absurd q (by exact hy)) (fun _ => ?_)
  refine lv_iload hx hb dM_isDone_279 (lv_at hl 6 rfl) ?_
  refine lv_bipush (v := nI 17) hx hb dM_isDone_281 (by decide) ?_
  refine zc_ne (tgt := 296) hx hb dM_isDone_283 rfl (by omega) (by omega) (fun _ => ?_) (fun q => absurd q (by omega))
  refine lv_iload hx hb dM_isDone_296 (lv_at hl 3 rfl) ?_
  refine zi_eq (tgt := 437) hx hb dM_isDone_298 rfl (by omega) (fun _ => ?_) (fun q => absurd q (by omega))
  refine lv_iload hx hb dM_isDone_437 (lv_at hl 6 rfl) ?_
  refine lv_bipush (v := nI 14) hx hb dM_isDone_439 (by decide) ?_
  refine zc_ne (tgt := 473) hx hb dM_isDone_441 rfl (by omega) (by omega) (fun _ => ?_) (fun q => absurd q (by omega))
  refine lv_iload hx hb dM_isDone_473 (lv_at hl 6 rfl) ?_
  refine lv_bipush (v := nI 15) hx hb dM_isDone_475 (by decide) ?_
  refine zc_ne (tgt := 488) hx hb dM_isDone_477 rfl (by omega) (by omega) (fun _ => ?_) (fun q => absurd q (by omega))
  refine lv_aload_n hx hb dM_isDone_488 rfl (lv_at hl 7 rfl) ?_
  refine lv_dup hx hb dM_isDone_489 rfl ?_
  refine zGetM hx hb hw hown hK hP 0 rfl 10 (by decide) wf_M_49 rfl dM_isDone_490 ?_
  refine lv_iload hx hb dM_isDone_493 (lv_at hl 2 rfl) ?_
  refine lv_isub hx hb dM_isDone_495 ?_
  refine zti (zsub _ (by omega)) ?_
  refine zPutM hx hb hw hown hK hP hD hS 0 rfl 10 (by decide) wf_M_49 rfl rfl rfl (Nat.le_of_ble_eq_true rfl) dM_isDone_496 (fun H locs hP hD hS => ?_)
  replace hP : va_P D vwCl (mW A C ops nums vals st ce pk pv n vc sp (d - 2) pr tk th tr) H := hP
  replace hD : va_D F (mW A C ops nums vals st ce pk pv n vc sp (d - 2) pr tk th tr) := hD
  refine lv_iload hx hb dM_isDone_499 (lv_at hl 6 rfl) ?_
  refine lv_iconst (v := nI 5) hx hb dM_isDone_501 (by decide) ?_
  refine zc_ne (tgt := 515) hx hb dM_isDone_502 rfl (by omega) (by omega) (fun _ => ?_) (fun q => absurd q (by omega))
  refine lv_iload hx hb dM_isDone_515 (lv_at hl 6 rfl) ?_
  refine lv_bipush (v := nI 16) hx hb dM_isDone_517 (by decide) ?_
  refine zc_ne (tgt := 534) hx hb dM_isDone_519 rfl (by omega) (by omega) (fun _ => ?_) (fun q => absurd q (by omega))
  refine lv_iload hx hb dM_isDone_534 (lv_at hl 6 rfl) ?_
  refine lv_bipush (v := nI 17) hx hb dM_isDone_536 (by decide) ?_
  refine zc_ne (tgt := 582) hx hb dM_isDone_538 rfl (by omega) (by omega) (fun _ => ?_) (fun q => absurd q (by omega))
  refine lv_iload hx hb dM_isDone_582 (lv_at hl 6 rfl) ?_
  refine lv_bipush (v := nI 6) hx hb dM_isDone_584 (by decide) ?_
  refine zc_lt (tgt := 706) hx hb dM_isDone_586 rfl (by omega) (by omega) (fun q => absurd q (by omega)) (fun _ => ?_)
  refine lv_iload hx hb dM_isDone_589 (lv_at hl 6 rfl) ?_
  refine lv_bipush (v := nI 11) hx hb dM_isDone_591 (by decide) ?_
  refine zc_gt (tgt := 706) hx hb dM_isDone_593 rfl (by omega) (by omega) (fun q => absurd q (by omega)) (fun _ => ?_)
  refine lv_aload_n hx hb dM_isDone_596 rfl (lv_at hl 7 rfl) ?_
  refine zGetM hx hb hw hown hK hP 0 rfl 3 (by decide) wf_M_20 rfl dM_isDone_597 ?_
  refine lv_aload_n hx hb dM_isDone_600 rfl (lv_at hl 7 rfl) ?_
  refine zGetM hx hb hw hown hK hP 0 rfl 10 (by decide) wf_M_49 rfl dM_isDone_601 ?_
  refine lv_iload hx hb dM_isDone_604 (lv_at hl 6 rfl) ?_
  refine lv_bipush (v := nI 6) hx hb dM_isDone_606 (by decide) ?_
  refine zc_ne (tgt := 619) hx hb dM_isDone_608 rfl (by omega) (by omega) (fun _ => ?_) (fun q => absurd q (by omega))
  refine lv_iload hx hb dM_isDone_619 (lv_at hl 6 rfl) ?_
  refine lv_bipush (v := nI 7) hx hb dM_isDone_621 (by decide) ?_
  refine zc_ne (tgt := 634) hx hb dM_isDone_623 rfl (by omega) (by omega) (fun _ => ?_) (fun q => absurd q (by omega))
  refine lv_iload hx hb dM_isDone_634 (lv_at hl 6 rfl) ?_
  refine lv_bipush (v := nI 8) hx hb dM_isDone_636 (by decide) ?_
  refine zc_ne (tgt := 649) hx hb dM_isDone_638 rfl (by omega) (by omega) (fun _ => ?_) (fun q => absurd q (by omega))
  refine lv_iload hx hb dM_isDone_649 (lv_at hl 6 rfl) ?_
  refine lv_bipush (v := nI 9) hx hb dM_isDone_651 (by decide) ?_
  refine zc_ne (tgt := 664) hx hb dM_isDone_653 rfl (by omega) (by omega) (fun q => absurd q (by omega)) (fun _ => ?_)
  refine lv_lload hx hb dM_isDone_656 (lv_at hl 0 rfl) ?_
  refine lv_lload hx hb dM_isDone_658 (lv_at hl 1 rfl) ?_
  refine lv_ldiv hx hb dM_isDone_660 hy ?_
  refine lv_goto (tgt := 695) hx hb dM_isDone_661 rfl ?_
  refine zLast hx hb hK hP hD hS 4 3 rfl rfl (by omega) (by decide) dM_isDone_695 (fun H locs hP hD hS => ?_)
  replace hP : va_P D vwCl (mW A C ops nums vals (vp_updL st (d - 2) ((st (d - 2)) / (st (d - 1)))) ce pk pv n vc sp (d - 2) pr tk th tr) H := hP
  replace hD : va_D F (mW A C ops nums vals (vp_updL st (d - 2) ((st (d - 2)) / (st (d - 1)))) ce pk pv n vc sp (d - 2) pr tk th tr) := hD
  refine lv_aload_n hx hb dM_isDone_696 rfl (lv_at hl 7 rfl) ?_
  refine lv_dup hx hb dM_isDone_697 rfl ?_
  refine zGetM hx hb hw hown hK hP 0 rfl 10 (by decide) wf_M_49 rfl dM_isDone_698 ?_
  refine lv_iconst (v := nI 1) hx hb dM_isDone_701 (by decide) ?_
  refine lv_iadd hx hb dM_isDone_702 ?_
  refine zti (nI_add _ _) ?_
  refine zPutM hx hb hw hown hK hP hD hS 0 rfl 10 (by decide) wf_M_49 rfl rfl rfl (Nat.le_of_ble_eq_true rfl) dM_isDone_703 (fun H locs hP hD hS => ?_)
  replace hP : va_P D vwCl (mW A C ops nums vals (vp_updL st (d - 2) ((st (d - 2)) / (st (d - 1)))) ce pk pv n vc sp ((d - 2) + 1) pr tk th tr) H := hP
  replace hD : va_D F (mW A C ops nums vals (vp_updL st (d - 2) ((st (d - 2)) / (st (d - 1)))) ce pk pv n vc sp ((d - 2) + 1) pr tk th tr) := hD
  refine lv_goto (tgt := 3) hx hb dM_isDone_706 rfl ?_
  rw [show d - 2 + 1 = d - 1 by omega] at hP hD
  exact kk _ _ _ hP hD hS (lv_sub hl [4, 7, 8, 9] rfl)
set_option maxRecDepth 20000 in
set_option maxHeartbeats 4000000 in
theorem mO10 {p : Program} {l : Launch} {e : Env} {s : State} {m : MethodId} {args : Array Value} {below : List Frame} {meth : Method} {c : Code} {F : Nat → Prop} {D : va_G} {A : Nat → Nat} {C : Nat → ClassId} (hx : p.tables.exec = Jvm.exec) (hb : c.code = cM_isDone) (hr : meth.sig.returnType = (some .boolean)) (hlk : meth.locks = false) (hml : c.maxLocals = 14) (hw : ∀ w ∈ WS, w.before args s = true) (hown : s.vm.findClass RM = some m.cls) (hK : va_K D vwCl (mT C) s) (hA : ∀ q, s.heap.size ≤ q → F q) {Q : State → Prop} {ls : Array Slot} {H : Heap} {locs : List Loc} {ops : Nat → Int32} {nums vals st ce pk pv : Nat → Int64} {n vc sp d pr tk th tr : Nat} {w pl : Nat} {key x : Int64} (hd : d ≤ 12) (hw2 : w ≤ 2) (hvc : vc ≤ 40) (htk : tk ≤ vc) (hpr : pr ≤ 4) (hpl : pl ≤ 40) (h2 : 2 ≤ d) (hP : va_P D vwCl (mW A C ops nums vals st ce pk pv n vc sp d pr tk th tr) H) (hD : va_D F (mW A C ops nums vals st ce pk pv n vc sp d pr tk th tr)) (hS : va_S F s.heap H locs) (hl : lv_has ls 14 [(4, .int (nI pl)), (6, .long x), (5, .int (nI 10)), (0, .ref (A 0)), (1, .int (nI w)), (2, .long key)]) (kk : ∀ (ls : Array Slot) (H : Heap) (locs : List Loc), va_P D vwCl (mW A C ops nums vals (vp_updL st (d - 2) (if st (d - 1) ≤ st (d - 2) then 0 else 1)) ce pk pv n vc sp (d - 1) pr tk th tr) H → va_D F (mW A C ops nums vals (vp_updL st (d - 2) (if st (d - 1) ≤ st (d - 2) then 0 else 1)) ce pk pv n vc sp (d - 1) pr tk th tr) → va_S F s.heap H locs → lv_has ls 14 [(4, .int (nI pl)), (0, .ref (A 0)), (1, .int (nI w)), (2, .long key)] → W p l e (rmk 0 0) s m args below meth c H locs 0 0 Q (F0 m 3 ls [])) : W p l e (rmk 0 0) s m args below meth c H locs 0 0 Q (F0 m 55 ls []) := by
  refine lv_iload hx hb dM_isDone_55 (lv_at hl 2 rfl) ?_
  refine lv_iconst (v := nI 4) hx hb dM_isDone_57 (by decide) ?_
  refine zc_le (tgt := 68) hx hb dM_isDone_58 rfl (by omega) (by omega) (fun q => absurd q (by omega)) (fun _ => ?_)
  refine lv_iload hx hb dM_isDone_61 (lv_at hl 2 rfl) ?_
  refine lv_bipush (v := nI 12) hx hb dM_isDone_63 (by decide) ?_
  refine zc_ne (tgt := 72) hx hb dM_isDone_65 rfl (by omega) (by omega) (fun _ => ?_) (fun q => absurd q (by omega))
  refine lv_iconst (v := nI 0) hx hb dM_isDone_72 (by decide) ?_
  refine lv_istore hx hb dM_isDone_73 hl (by decide) rfl (fun ls hl => ?_)
  have hl : lv_has ls 14 [(8, .int (nI 0)), (4, .int (nI pl)), (6, .long x), (5, .int (nI 10)), (0, .ref (A 0)), (1, .int (nI w)), (2, .long key)] := hl
  refine lv_iload hx hb dM_isDone_75 (lv_at hl 3 rfl) ?_
  refine lv_bipush (v := nI 6) hx hb dM_isDone_77 (by decide) ?_
  refine zc_lt (tgt := 89) hx hb dM_isDone_79 rfl (by omega) (by omega) (fun q => absurd q (by omega)) (fun _ => ?_)
  refine lv_iload hx hb dM_isDone_82 (lv_at hl 3 rfl) ?_
  refine lv_bipush (v := nI 11) hx hb dM_isDone_84 (by decide) ?_
  refine zc_le (tgt := 108) hx hb dM_isDone_86 rfl (by omega) (by omega) (fun _ => ?_) (fun q => absurd q (by omega))
  refine lv_iconst (v := nI 2) hx hb dM_isDone_108 (by decide) ?_
  refine lv_goto (tgt := 151) hx hb dM_isDone_109 rfl ?_
  refine lv_istore hx hb dM_isDone_151 hl (by decide) rfl (fun ls hl => ?_)
  have hl : lv_has ls 14 [(9, .int (nI 2)), (8, .int (nI 0)), (4, .int (nI pl)), (6, .long x), (5, .int (nI 10)), (0, .ref (A 0)), (1, .int (nI w)), (2, .long key)] := hl
  refine lv_aload_n hx hb dM_isDone_153 rfl (lv_at hl 5 rfl) ?_
  refine zGetM hx hb hw hown hK hP 0 rfl 10 (by decide) wf_M_49 rfl dM_isDone_154 ?_
  refine lv_iload hx hb dM_isDone_157 (lv_at hl 0 rfl) ?_
  refine zc_lt (tgt := 176) hx hb dM_isDone_159 rfl (by omega) (by omega) (fun q => absurd q (by omega)) (fun _ => ?_)
  refine lv_iload hx hb dM_isDone_162 (lv_at hl 1 rfl) ?_
  refine zi_eq (tgt := 178) hx hb dM_isDone_164 rfl (by omega) (fun _ => ?_) (fun q => absurd q (by omega))
  refine lv_iload hx hb dM_isDone_178 (lv_at hl 0 rfl) ?_
  refine zi_le (tgt := 197) hx hb dM_isDone_180 rfl (by omega) (fun q => absurd q (by omega)) (fun _ => ?_)
  refine lv_aload_n hx hb dM_isDone_183 rfl (lv_at hl 5 rfl) ?_
  refine zGetM hx hb hw hown hK hP 0 rfl 3 (by decide) wf_M_20 rfl dM_isDone_184 ?_
  refine lv_aload_n hx hb dM_isDone_187 rfl (lv_at hl 5 rfl) ?_
  refine zGetM hx hb hw hown hK hP 0 rfl 10 (by decide) wf_M_49 rfl dM_isDone_188 ?_
  refine lv_iconst (v := nI 1) hx hb dM_isDone_191 (by decide) ?_
  refine lv_isub hx hb dM_isDone_192 ?_
  refine zti (zsub _ (by omega)) ?_
  refine zLald hx hb hK hP 4 3 rfl rfl (by omega) (by decide) dM_isDone_193 ?_
  refine lv_goto (tgt := 198) hx hb dM_isDone_194 rfl ?_
  refine lv_lstore hx hb dM_isDone_198 hl (by decide) rfl (fun ls hl => ?_)
  have hl : lv_has ls 14 [(10, .long (st (d - 1))), (9, .int (nI 2)), (8, .int (nI 0)), (4, .int (nI pl)), (6, .long x), (5, .int (nI 10)), (0, .ref (A 0)), (1, .int (nI w)), (2, .long key)] := hl
  refine lv_iload hx hb dM_isDone_200 (lv_at hl 1 rfl) ?_
  refine lv_iconst (v := nI 1) hx hb dM_isDone_202 (by decide) ?_
  refine zc_le (tgt := 220) hx hb dM_isDone_203 rfl (by omega) (by omega) (fun q => absurd q (by omega)) (fun _ => ?_)
  refine lv_aload_n hx hb dM_isDone_206 rfl (lv_at hl 6 rfl) ?_
  refine zGetM hx hb hw hown hK hP 0 rfl 3 (by decide) wf_M_20 rfl dM_isDone_207 ?_
  refine lv_aload_n hx hb dM_isDone_210 rfl (lv_at hl 6 rfl) ?_
  refine zGetM hx hb hw hown hK hP 0 rfl 10 (by decide) wf_M_49 rfl dM_isDone_211 ?_
  refine lv_iconst (v := nI 2) hx hb dM_isDone_214 (by decide) ?_
  refine lv_isub hx hb dM_isDone_215 ?_
  refine zti (zsub _ (by omega)) ?_
  refine zLald hx hb hK hP 4 3 rfl rfl (by omega) (by decide) dM_isDone_216 ?_
  refine lv_goto (tgt := 221) hx hb dM_isDone_217 rfl ?_
  refine lv_lstore hx hb dM_isDone_221 hl (by decide) rfl (fun ls hl => ?_)
  have hl : lv_has ls 14 [(12, .long (st (d - 2))), (10, .long (st (d - 1))), (9, .int (nI 2)), (8, .int (nI 0)), (4, .int (nI pl)), (6, .long x), (5, .int (nI 10)), (0, .ref (A 0)), (1, .int (nI w)), (2, .long key)] := hl
  refine lv_iload hx hb dM_isDone_223 (lv_at hl 6 rfl) ?_
  refine lv_bipush (v := nI 18) hx hb dM_isDone_225 (by decide) ?_
  refine zc_ne (tgt := 232) hx hb dM_isDone_227 rfl (by omega) (by omega) (fun _ => ?_) (fun q => absurd q (by omega))
  refine lv_iload hx hb dM_isDone_232 (lv_at hl 6 rfl) ?_
  refine lv_iconst (v := nI 2) hx hb dM_isDone_234 (by decide) ?_
  refine zc_ne (tgt := 265) hx hb dM_isDone_235 rfl (by omega) (by omega) (fun _ => ?_) (fun q => absurd q (by omega))
  refine lv_iload hx hb dM_isDone_265 (lv_at hl 6 rfl) ?_
  refine lv_bipush (v := nI 9) hx hb dM_isDone_267 (by decide) ?_
  refine zc_ne (tgt := 279) hx hb dM_isDone_269 rfl (by omega) (by omega) (fun _ => ?_) (fun q => absurd q (by omega))
  refine lv_iload hx hb dM_isDone_279 (lv_at hl 6 rfl) ?_
  refine lv_bipush (v := nI 17) hx hb dM_isDone_281 (by decide) ?_
  refine zc_ne (tgt := 296) hx hb dM_isDone_283 rfl (by omega) (by omega) (fun _ => ?_) (fun q => absurd q (by omega))
  refine lv_iload hx hb dM_isDone_296 (lv_at hl 3 rfl) ?_
  refine zi_eq (tgt := 437) hx hb dM_isDone_298 rfl (by omega) (fun _ => ?_) (fun q => absurd q (by omega))
  refine lv_iload hx hb dM_isDone_437 (lv_at hl 6 rfl) ?_
  refine lv_bipush (v := nI 14) hx hb dM_isDone_439 (by decide) ?_
  refine zc_ne (tgt := 473) hx hb dM_isDone_441 rfl (by omega) (by omega) (fun _ => ?_) (fun q => absurd q (by omega))
  refine lv_iload hx hb dM_isDone_473 (lv_at hl 6 rfl) ?_
  refine lv_bipush (v := nI 15) hx hb dM_isDone_475 (by decide) ?_
  refine zc_ne (tgt := 488) hx hb dM_isDone_477 rfl (by omega) (by omega) (fun _ => ?_) (fun q => absurd q (by omega))
  refine lv_aload_n hx hb dM_isDone_488 rfl (lv_at hl 7 rfl) ?_
  refine lv_dup hx hb dM_isDone_489 rfl ?_
  refine zGetM hx hb hw hown hK hP 0 rfl 10 (by decide) wf_M_49 rfl dM_isDone_490 ?_
  refine lv_iload hx hb dM_isDone_493 (lv_at hl 2 rfl) ?_
  refine lv_isub hx hb dM_isDone_495 ?_
  refine zti (zsub _ (by omega)) ?_
  refine zPutM hx hb hw hown hK hP hD hS 0 rfl 10 (by decide) wf_M_49 rfl rfl rfl (Nat.le_of_ble_eq_true rfl) dM_isDone_496 (fun H locs hP hD hS => ?_)
  replace hP : va_P D vwCl (mW A C ops nums vals st ce pk pv n vc sp (d - 2) pr tk th tr) H := hP
  replace hD : va_D F (mW A C ops nums vals st ce pk pv n vc sp (d - 2) pr tk th tr) := hD
  refine lv_iload hx hb dM_isDone_499 (lv_at hl 6 rfl) ?_
  refine lv_iconst (v := nI 5) hx hb dM_isDone_501 (by decide) ?_
  refine zc_ne (tgt := 515) hx hb dM_isDone_502 rfl (by omega) (by omega) (fun _ => ?_) (fun q => absurd q (by omega))
  refine lv_iload hx hb dM_isDone_515 (lv_at hl 6 rfl) ?_
  refine lv_bipush (v := nI 16) hx hb dM_isDone_517 (by decide) ?_
  refine zc_ne (tgt := 534) hx hb dM_isDone_519 rfl (by omega) (by omega) (fun _ => ?_) (fun q => absurd q (by omega))
  refine lv_iload hx hb dM_isDone_534 (lv_at hl 6 rfl) ?_
  refine lv_bipush (v := nI 17) hx hb dM_isDone_536 (by decide) ?_
  refine zc_ne (tgt := 582) hx hb dM_isDone_538 rfl (by omega) (by omega) (fun _ => ?_) (fun q => absurd q (by omega))
  refine lv_iload hx hb dM_isDone_582 (lv_at hl 6 rfl) ?_
  refine lv_bipush (v := nI 6) hx hb dM_isDone_584 (by decide) ?_
  refine zc_lt (tgt := 706) hx hb dM_isDone_586 rfl (by omega) (by omega) (fun q => absurd q (by omega)) (fun _ => ?_)
  refine lv_iload hx hb dM_isDone_589 (lv_at hl 6 rfl) ?_
  refine lv_bipush (v := nI 11) hx hb dM_isDone_591 (by decide) ?_
  refine zc_gt (tgt := 706) hx hb dM_isDone_593 rfl (by omega) (by omega) (fun q => absurd q (by omega)) (fun _ => ?_)
  refine lv_aload_n hx hb dM_isDone_596 rfl (lv_at hl 7 rfl) ?_
  refine zGetM hx hb hw hown hK hP 0 rfl 3 (by decide) wf_M_20 rfl dM_isDone_597 ?_
  refine lv_aload_n hx hb dM_isDone_600 rfl (lv_at hl 7 rfl) ?_
  refine zGetM hx hb hw hown hK hP 0 rfl 10 (by decide) wf_M_49 rfl dM_isDone_601 ?_
  refine lv_iload hx hb dM_isDone_604 (lv_at hl 6 rfl) ?_
  refine lv_bipush (v := nI 6) hx hb dM_isDone_606 (by decide) ?_
  refine zc_ne (tgt := 619) hx hb dM_isDone_608 rfl (by omega) (by omega) (fun _ => ?_) (fun q => absurd q (by omega))
  refine lv_iload hx hb dM_isDone_619 (lv_at hl 6 rfl) ?_
  refine lv_bipush (v := nI 7) hx hb dM_isDone_621 (by decide) ?_
  refine zc_ne (tgt := 634) hx hb dM_isDone_623 rfl (by omega) (by omega) (fun _ => ?_) (fun q => absurd q (by omega))
  refine lv_iload hx hb dM_isDone_634 (lv_at hl 6 rfl) ?_
  refine lv_bipush (v := nI 8) hx hb dM_isDone_636 (by decide) ?_
  refine zc_ne (tgt := 649) hx hb dM_isDone_638 rfl (by omega) (by omega) (fun _ => ?_) (fun q => absurd q (by omega))
  refine lv_iload hx hb dM_isDone_649 (lv_at hl 6 rfl) ?_
  refine lv_bipush (v := nI 9) hx hb dM_isDone_651 (by decide) ?_
  refine zc_ne (tgt := 664) hx hb dM_isDone_653 rfl (by omega) (by omega) (fun _ => ?_) (fun q => absurd q (by omega))
  refine lv_iload hx hb dM_isDone_664 (lv_at hl 6 rfl) ?_
  refine lv_bipush (v := nI 10) hx hb dM_isDone_666 (by decide) ?_
  refine zc_ne (tgt := 682) hx hb dM_isDone_668 rfl (by omega) (by omega) (fun q => absurd q (by omega)) (fun _ => ?_)
  refine lv_lload hx hb dM_isDone_671 (lv_at hl 0 rfl) ?_
  refine lv_lload hx hb dM_isDone_673 (lv_at hl 1 rfl) ?_
  refine W.lcmp hx hb dM_isDone_675 ?_
  refine zl_ge (tgt := 694) hx hb dM_isDone_676 rfl (fun h676 => ?_) (fun h676 => ?_)
  · refine lv_lconst (v := 0) hx hb dM_isDone_694 (by decide) ?_
    refine zLast hx hb hK hP hD hS 4 3 rfl rfl (by omega) (by decide) dM_isDone_695 (fun H locs hP hD hS => ?_)
    replace hP : va_P D vwCl (mW A C ops nums vals (vp_updL st (d - 2) (0 : Int64)) ce pk pv n vc sp (d - 2) pr tk th tr) H := hP
    replace hD : va_D F (mW A C ops nums vals (vp_updL st (d - 2) (0 : Int64)) ce pk pv n vc sp (d - 2) pr tk th tr) := hD
    refine lv_aload_n hx hb dM_isDone_696 rfl (lv_at hl 7 rfl) ?_
    refine lv_dup hx hb dM_isDone_697 rfl ?_
    refine zGetM hx hb hw hown hK hP 0 rfl 10 (by decide) wf_M_49 rfl dM_isDone_698 ?_
    refine lv_iconst (v := nI 1) hx hb dM_isDone_701 (by decide) ?_
    refine lv_iadd hx hb dM_isDone_702 ?_
    refine zti (nI_add _ _) ?_
    refine zPutM hx hb hw hown hK hP hD hS 0 rfl 10 (by decide) wf_M_49 rfl rfl rfl (Nat.le_of_ble_eq_true rfl) dM_isDone_703 (fun H locs hP hD hS => ?_)
    replace hP : va_P D vwCl (mW A C ops nums vals (vp_updL st (d - 2) (0 : Int64)) ce pk pv n vc sp ((d - 2) + 1) pr tk th tr) H := hP
    replace hD : va_D F (mW A C ops nums vals (vp_updL st (d - 2) (0 : Int64)) ce pk pv n vc sp ((d - 2) + 1) pr tk th tr) := hD
    refine lv_goto (tgt := 3) hx hb dM_isDone_706 rfl ?_
    rw [show d - 2 + 1 = d - 1 by omega] at hP hD
    replace hP : va_P D vwCl (mW A C ops nums vals (vp_updL st (d - 2) (if st (d - 1) ≤ st (d - 2) then 0 else 1)) ce pk pv n vc sp (d - 1) pr tk th tr) H := by first | (rw [if_pos h676]; exact hP) | (rw [if_neg h676]; exact hP)
    replace hD : va_D F (mW A C ops nums vals (vp_updL st (d - 2) (if st (d - 1) ≤ st (d - 2) then 0 else 1)) ce pk pv n vc sp (d - 1) pr tk th tr) := by first | (rw [if_pos h676]; exact hD) | (rw [if_neg h676]; exact hD)
    exact kk _ _ _ hP hD hS (lv_sub hl [4, 7, 8, 9] rfl)
  · refine lv_goto (tgt := 690) hx hb dM_isDone_679 rfl ?_
    refine lv_lconst (v := 1) hx hb dM_isDone_690 (by decide) ?_
    refine lv_goto (tgt := 695) hx hb dM_isDone_691 rfl ?_
    refine zLast hx hb hK hP hD hS 4 3 rfl rfl (by omega) (by decide) dM_isDone_695 (fun H locs hP hD hS => ?_)
    replace hP : va_P D vwCl (mW A C ops nums vals (vp_updL st (d - 2) (1 : Int64)) ce pk pv n vc sp (d - 2) pr tk th tr) H := hP
    replace hD : va_D F (mW A C ops nums vals (vp_updL st (d - 2) (1 : Int64)) ce pk pv n vc sp (d - 2) pr tk th tr) := hD
    refine lv_aload_n hx hb dM_isDone_696 rfl (lv_at hl 7 rfl) ?_
    refine lv_dup hx hb dM_isDone_697 rfl ?_
    refine zGetM hx hb hw hown hK hP 0 rfl 10 (by decide) wf_M_49 rfl dM_isDone_698 ?_
    refine lv_iconst (v := nI 1) hx hb dM_isDone_701 (by decide) ?_
    refine lv_iadd hx hb dM_isDone_702 ?_
    refine zti (nI_add _ _) ?_
    refine zPutM hx hb hw hown hK hP hD hS 0 rfl 10 (by decide) wf_M_49 rfl rfl rfl (Nat.le_of_ble_eq_true rfl) dM_isDone_703 (fun H locs hP hD hS => ?_)
    replace hP : va_P D vwCl (mW A C ops nums vals (vp_updL st (d - 2) (1 : Int64)) ce pk pv n vc sp ((d - 2) + 1) pr tk th tr) H := hP
    replace hD : va_D F (mW A C ops nums vals (vp_updL st (d - 2) (1 : Int64)) ce pk pv n vc sp ((d - 2) + 1) pr tk th tr) := hD
    refine lv_goto (tgt := 3) hx hb dM_isDone_706 rfl ?_
    rw [show d - 2 + 1 = d - 1 by omega] at hP hD
    replace hP : va_P D vwCl (mW A C ops nums vals (vp_updL st (d - 2) (if st (d - 1) ≤ st (d - 2) then 0 else 1)) ce pk pv n vc sp (d - 1) pr tk th tr) H := by first | (rw [if_pos h676]; exact hP) | (rw [if_neg h676]; exact hP)
    replace hD : va_D F (mW A C ops nums vals (vp_updL st (d - 2) (if st (d - 1) ≤ st (d - 2) then 0 else 1)) ce pk pv n vc sp (d - 1) pr tk th tr) := by first | (rw [if_pos h676]; exact hD) | (rw [if_neg h676]; exact hD)
    exact kk _ _ _ hP hD hS (lv_sub hl [4, 7, 8, 9] rfl)
set_option maxRecDepth 20000 in
set_option maxHeartbeats 4000000 in
theorem mO11 {p : Program} {l : Launch} {e : Env} {s : State} {m : MethodId} {args : Array Value} {below : List Frame} {meth : Method} {c : Code} {F : Nat → Prop} {D : va_G} {A : Nat → Nat} {C : Nat → ClassId} (hx : p.tables.exec = Jvm.exec) (hb : c.code = cM_isDone) (hr : meth.sig.returnType = (some .boolean)) (hlk : meth.locks = false) (hml : c.maxLocals = 14) (hw : ∀ w ∈ WS, w.before args s = true) (hown : s.vm.findClass RM = some m.cls) (hK : va_K D vwCl (mT C) s) (hA : ∀ q, s.heap.size ≤ q → F q) {Q : State → Prop} {ls : Array Slot} {H : Heap} {locs : List Loc} {ops : Nat → Int32} {nums vals st ce pk pv : Nat → Int64} {n vc sp d pr tk th tr : Nat} {w pl : Nat} {key x : Int64} (hd : d ≤ 12) (hw2 : w ≤ 2) (hvc : vc ≤ 40) (htk : tk ≤ vc) (hpr : pr ≤ 4) (hpl : pl ≤ 40) (h2 : 2 ≤ d) (hP : va_P D vwCl (mW A C ops nums vals st ce pk pv n vc sp d pr tk th tr) H) (hD : va_D F (mW A C ops nums vals st ce pk pv n vc sp d pr tk th tr)) (hS : va_S F s.heap H locs) (hl : lv_has ls 14 [(4, .int (nI pl)), (6, .long x), (5, .int (nI 11)), (0, .ref (A 0)), (1, .int (nI w)), (2, .long key)]) (kk : ∀ (ls : Array Slot) (H : Heap) (locs : List Loc), va_P D vwCl (mW A C ops nums vals (vp_updL st (d - 2) (if st (d - 2) = st (d - 1) then 1 else 0)) ce pk pv n vc sp (d - 1) pr tk th tr) H → va_D F (mW A C ops nums vals (vp_updL st (d - 2) (if st (d - 2) = st (d - 1) then 1 else 0)) ce pk pv n vc sp (d - 1) pr tk th tr) → va_S F s.heap H locs → lv_has ls 14 [(4, .int (nI pl)), (0, .ref (A 0)), (1, .int (nI w)), (2, .long key)] → W p l e (rmk 0 0) s m args below meth c H locs 0 0 Q (F0 m 3 ls [])) : W p l e (rmk 0 0) s m args below meth c H locs 0 0 Q (F0 m 55 ls []) := by
  refine lv_iload hx hb dM_isDone_55 (lv_at hl 2 rfl) ?_
  refine lv_iconst (v := nI 4) hx hb dM_isDone_57 (by decide) ?_
  refine zc_le (tgt := 68) hx hb dM_isDone_58 rfl (by omega) (by omega) (fun q => absurd q (by omega)) (fun _ => ?_)
  refine lv_iload hx hb dM_isDone_61 (lv_at hl 2 rfl) ?_
  refine lv_bipush (v := nI 12) hx hb dM_isDone_63 (by decide) ?_
  refine zc_ne (tgt := 72) hx hb dM_isDone_65 rfl (by omega) (by omega) (fun _ => ?_) (fun q => absurd q (by omega))
  refine lv_iconst (v := nI 0) hx hb dM_isDone_72 (by decide) ?_
  refine lv_istore hx hb dM_isDone_73 hl (by decide) rfl (fun ls hl => ?_)
  have hl : lv_has ls 14 [(8, .int (nI 0)), (4, .int (nI pl)), (6, .long x), (5, .int (nI 11)), (0, .ref (A 0)), (1, .int (nI w)), (2, .long key)] := hl
  refine lv_iload hx hb dM_isDone_75 (lv_at hl 3 rfl) ?_
  refine lv_bipush (v := nI 6) hx hb dM_isDone_77 (by decide) ?_
  refine zc_lt (tgt := 89) hx hb dM_isDone_79 rfl (by omega) (by omega) (fun q => absurd q (by omega)) (fun _ => ?_)
  refine lv_iload hx hb dM_isDone_82 (lv_at hl 3 rfl) ?_
  refine lv_bipush (v := nI 11) hx hb dM_isDone_84 (by decide) ?_
  refine zc_le (tgt := 108) hx hb dM_isDone_86 rfl (by omega) (by omega) (fun _ => ?_) (fun q => absurd q (by omega))
  refine lv_iconst (v := nI 2) hx hb dM_isDone_108 (by decide) ?_
  refine lv_goto (tgt := 151) hx hb dM_isDone_109 rfl ?_
  refine lv_istore hx hb dM_isDone_151 hl (by decide) rfl (fun ls hl => ?_)
  have hl : lv_has ls 14 [(9, .int (nI 2)), (8, .int (nI 0)), (4, .int (nI pl)), (6, .long x), (5, .int (nI 11)), (0, .ref (A 0)), (1, .int (nI w)), (2, .long key)] := hl
  refine lv_aload_n hx hb dM_isDone_153 rfl (lv_at hl 5 rfl) ?_
  refine zGetM hx hb hw hown hK hP 0 rfl 10 (by decide) wf_M_49 rfl dM_isDone_154 ?_
  refine lv_iload hx hb dM_isDone_157 (lv_at hl 0 rfl) ?_
  refine zc_lt (tgt := 176) hx hb dM_isDone_159 rfl (by omega) (by omega) (fun q => absurd q (by omega)) (fun _ => ?_)
  refine lv_iload hx hb dM_isDone_162 (lv_at hl 1 rfl) ?_
  refine zi_eq (tgt := 178) hx hb dM_isDone_164 rfl (by omega) (fun _ => ?_) (fun q => absurd q (by omega))
  refine lv_iload hx hb dM_isDone_178 (lv_at hl 0 rfl) ?_
  refine zi_le (tgt := 197) hx hb dM_isDone_180 rfl (by omega) (fun q => absurd q (by omega)) (fun _ => ?_)
  refine lv_aload_n hx hb dM_isDone_183 rfl (lv_at hl 5 rfl) ?_
  refine zGetM hx hb hw hown hK hP 0 rfl 3 (by decide) wf_M_20 rfl dM_isDone_184 ?_
  refine lv_aload_n hx hb dM_isDone_187 rfl (lv_at hl 5 rfl) ?_
  refine zGetM hx hb hw hown hK hP 0 rfl 10 (by decide) wf_M_49 rfl dM_isDone_188 ?_
  refine lv_iconst (v := nI 1) hx hb dM_isDone_191 (by decide) ?_
  refine lv_isub hx hb dM_isDone_192 ?_
  refine zti (zsub _ (by omega)) ?_
  refine zLald hx hb hK hP 4 3 rfl rfl (by omega) (by decide) dM_isDone_193 ?_
  refine lv_goto (tgt := 198) hx hb dM_isDone_194 rfl ?_
  refine lv_lstore hx hb dM_isDone_198 hl (by decide) rfl (fun ls hl => ?_)
  have hl : lv_has ls 14 [(10, .long (st (d - 1))), (9, .int (nI 2)), (8, .int (nI 0)), (4, .int (nI pl)), (6, .long x), (5, .int (nI 11)), (0, .ref (A 0)), (1, .int (nI w)), (2, .long key)] := hl
  refine lv_iload hx hb dM_isDone_200 (lv_at hl 1 rfl) ?_
  refine lv_iconst (v := nI 1) hx hb dM_isDone_202 (by decide) ?_
  refine zc_le (tgt := 220) hx hb dM_isDone_203 rfl (by omega) (by omega) (fun q => absurd q (by omega)) (fun _ => ?_)
  refine lv_aload_n hx hb dM_isDone_206 rfl (lv_at hl 6 rfl) ?_
  refine zGetM hx hb hw hown hK hP 0 rfl 3 (by decide) wf_M_20 rfl dM_isDone_207 ?_
  refine lv_aload_n hx hb dM_isDone_210 rfl (lv_at hl 6 rfl) ?_
  refine zGetM hx hb hw hown hK hP 0 rfl 10 (by decide) wf_M_49 rfl dM_isDone_211 ?_
  refine lv_iconst (v := nI 2) hx hb dM_isDone_214 (by decide) ?_
  refine lv_isub hx hb dM_isDone_215 ?_
  refine zti (zsub _ (by omega)) ?_
  refine zLald hx hb hK hP 4 3 rfl rfl (by omega) (by decide) dM_isDone_216 ?_
  refine lv_goto (tgt := 221) hx hb dM_isDone_217 rfl ?_
  refine lv_lstore hx hb dM_isDone_221 hl (by decide) rfl (fun ls hl => ?_)
  have hl : lv_has ls 14 [(12, .long (st (d - 2))), (10, .long (st (d - 1))), (9, .int (nI 2)), (8, .int (nI 0)), (4, .int (nI pl)), (6, .long x), (5, .int (nI 11)), (0, .ref (A 0)), (1, .int (nI w)), (2, .long key)] := hl
  refine lv_iload hx hb dM_isDone_223 (lv_at hl 6 rfl) ?_
  refine lv_bipush (v := nI 18) hx hb dM_isDone_225 (by decide) ?_
  refine zc_ne (tgt := 232) hx hb dM_isDone_227 rfl (by omega) (by omega) (fun _ => ?_) (fun q => absurd q (by omega))
  refine lv_iload hx hb dM_isDone_232 (lv_at hl 6 rfl) ?_
  refine lv_iconst (v := nI 2) hx hb dM_isDone_234 (by decide) ?_
  refine zc_ne (tgt := 265) hx hb dM_isDone_235 rfl (by omega) (by omega) (fun _ => ?_) (fun q => absurd q (by omega))
  refine lv_iload hx hb dM_isDone_265 (lv_at hl 6 rfl) ?_
  refine lv_bipush (v := nI 9) hx hb dM_isDone_267 (by decide) ?_
  refine zc_ne (tgt := 279) hx hb dM_isDone_269 rfl (by omega) (by omega) (fun _ => ?_) (fun q => absurd q (by omega))
  refine lv_iload hx hb dM_isDone_279 (lv_at hl 6 rfl) ?_
  refine lv_bipush (v := nI 17) hx hb dM_isDone_281 (by decide) ?_
  refine zc_ne (tgt := 296) hx hb dM_isDone_283 rfl (by omega) (by omega) (fun _ => ?_) (fun q => absurd q (by omega))
  refine lv_iload hx hb dM_isDone_296 (lv_at hl 3 rfl) ?_
  refine zi_eq (tgt := 437) hx hb dM_isDone_298 rfl (by omega) (fun _ => ?_) (fun q => absurd q (by omega))
  refine lv_iload hx hb dM_isDone_437 (lv_at hl 6 rfl) ?_
  refine lv_bipush (v := nI 14) hx hb dM_isDone_439 (by decide) ?_
  refine zc_ne (tgt := 473) hx hb dM_isDone_441 rfl (by omega) (by omega) (fun _ => ?_) (fun q => absurd q (by omega))
  refine lv_iload hx hb dM_isDone_473 (lv_at hl 6 rfl) ?_
  refine lv_bipush (v := nI 15) hx hb dM_isDone_475 (by decide) ?_
  refine zc_ne (tgt := 488) hx hb dM_isDone_477 rfl (by omega) (by omega) (fun _ => ?_) (fun q => absurd q (by omega))
  refine lv_aload_n hx hb dM_isDone_488 rfl (lv_at hl 7 rfl) ?_
  refine lv_dup hx hb dM_isDone_489 rfl ?_
  refine zGetM hx hb hw hown hK hP 0 rfl 10 (by decide) wf_M_49 rfl dM_isDone_490 ?_
  refine lv_iload hx hb dM_isDone_493 (lv_at hl 2 rfl) ?_
  refine lv_isub hx hb dM_isDone_495 ?_
  refine zti (zsub _ (by omega)) ?_
  refine zPutM hx hb hw hown hK hP hD hS 0 rfl 10 (by decide) wf_M_49 rfl rfl rfl (Nat.le_of_ble_eq_true rfl) dM_isDone_496 (fun H locs hP hD hS => ?_)
  replace hP : va_P D vwCl (mW A C ops nums vals st ce pk pv n vc sp (d - 2) pr tk th tr) H := hP
  replace hD : va_D F (mW A C ops nums vals st ce pk pv n vc sp (d - 2) pr tk th tr) := hD
  refine lv_iload hx hb dM_isDone_499 (lv_at hl 6 rfl) ?_
  refine lv_iconst (v := nI 5) hx hb dM_isDone_501 (by decide) ?_
  refine zc_ne (tgt := 515) hx hb dM_isDone_502 rfl (by omega) (by omega) (fun _ => ?_) (fun q => absurd q (by omega))
  refine lv_iload hx hb dM_isDone_515 (lv_at hl 6 rfl) ?_
  refine lv_bipush (v := nI 16) hx hb dM_isDone_517 (by decide) ?_
  refine zc_ne (tgt := 534) hx hb dM_isDone_519 rfl (by omega) (by omega) (fun _ => ?_) (fun q => absurd q (by omega))
  refine lv_iload hx hb dM_isDone_534 (lv_at hl 6 rfl) ?_
  refine lv_bipush (v := nI 17) hx hb dM_isDone_536 (by decide) ?_
  refine zc_ne (tgt := 582) hx hb dM_isDone_538 rfl (by omega) (by omega) (fun _ => ?_) (fun q => absurd q (by omega))
  refine lv_iload hx hb dM_isDone_582 (lv_at hl 6 rfl) ?_
  refine lv_bipush (v := nI 6) hx hb dM_isDone_584 (by decide) ?_
  refine zc_lt (tgt := 706) hx hb dM_isDone_586 rfl (by omega) (by omega) (fun q => absurd q (by omega)) (fun _ => ?_)
  refine lv_iload hx hb dM_isDone_589 (lv_at hl 6 rfl) ?_
  refine lv_bipush (v := nI 11) hx hb dM_isDone_591 (by decide) ?_
  refine zc_gt (tgt := 706) hx hb dM_isDone_593 rfl (by omega) (by omega) (fun q => absurd q (by omega)) (fun _ => ?_)
  refine lv_aload_n hx hb dM_isDone_596 rfl (lv_at hl 7 rfl) ?_
  refine zGetM hx hb hw hown hK hP 0 rfl 3 (by decide) wf_M_20 rfl dM_isDone_597 ?_
  refine lv_aload_n hx hb dM_isDone_600 rfl (lv_at hl 7 rfl) ?_
  refine zGetM hx hb hw hown hK hP 0 rfl 10 (by decide) wf_M_49 rfl dM_isDone_601 ?_
  refine lv_iload hx hb dM_isDone_604 (lv_at hl 6 rfl) ?_
  refine lv_bipush (v := nI 6) hx hb dM_isDone_606 (by decide) ?_
  refine zc_ne (tgt := 619) hx hb dM_isDone_608 rfl (by omega) (by omega) (fun _ => ?_) (fun q => absurd q (by omega))
  refine lv_iload hx hb dM_isDone_619 (lv_at hl 6 rfl) ?_
  refine lv_bipush (v := nI 7) hx hb dM_isDone_621 (by decide) ?_
  refine zc_ne (tgt := 634) hx hb dM_isDone_623 rfl (by omega) (by omega) (fun _ => ?_) (fun q => absurd q (by omega))
  refine lv_iload hx hb dM_isDone_634 (lv_at hl 6 rfl) ?_
  refine lv_bipush (v := nI 8) hx hb dM_isDone_636 (by decide) ?_
  refine zc_ne (tgt := 649) hx hb dM_isDone_638 rfl (by omega) (by omega) (fun _ => ?_) (fun q => absurd q (by omega))
  refine lv_iload hx hb dM_isDone_649 (lv_at hl 6 rfl) ?_
  refine lv_bipush (v := nI 9) hx hb dM_isDone_651 (by decide) ?_
  refine zc_ne (tgt := 664) hx hb dM_isDone_653 rfl (by omega) (by omega) (fun _ => ?_) (fun q => absurd q (by omega))
  refine lv_iload hx hb dM_isDone_664 (lv_at hl 6 rfl) ?_
  refine lv_bipush (v := nI 10) hx hb dM_isDone_666 (by decide) ?_
  refine zc_ne (tgt := 682) hx hb dM_isDone_668 rfl (by omega) (by omega) (fun _ => ?_) (fun q => absurd q (by omega))
  refine lv_lload hx hb dM_isDone_682 (lv_at hl 0 rfl) ?_
  refine lv_lload hx hb dM_isDone_684 (lv_at hl 1 rfl) ?_
  refine W.lcmp hx hb dM_isDone_686 ?_
  refine zl_ne (tgt := 694) hx hb dM_isDone_687 rfl (fun h687 => ?_) (fun h687 => ?_)
  · refine lv_lconst (v := 0) hx hb dM_isDone_694 (by decide) ?_
    refine zLast hx hb hK hP hD hS 4 3 rfl rfl (by omega) (by decide) dM_isDone_695 (fun H locs hP hD hS => ?_)
    replace hP : va_P D vwCl (mW A C ops nums vals (vp_updL st (d - 2) (0 : Int64)) ce pk pv n vc sp (d - 2) pr tk th tr) H := hP
    replace hD : va_D F (mW A C ops nums vals (vp_updL st (d - 2) (0 : Int64)) ce pk pv n vc sp (d - 2) pr tk th tr) := hD
    refine lv_aload_n hx hb dM_isDone_696 rfl (lv_at hl 7 rfl) ?_
    refine lv_dup hx hb dM_isDone_697 rfl ?_
    refine zGetM hx hb hw hown hK hP 0 rfl 10 (by decide) wf_M_49 rfl dM_isDone_698 ?_
    refine lv_iconst (v := nI 1) hx hb dM_isDone_701 (by decide) ?_
    refine lv_iadd hx hb dM_isDone_702 ?_
    refine zti (nI_add _ _) ?_
    refine zPutM hx hb hw hown hK hP hD hS 0 rfl 10 (by decide) wf_M_49 rfl rfl rfl (Nat.le_of_ble_eq_true rfl) dM_isDone_703 (fun H locs hP hD hS => ?_)
    replace hP : va_P D vwCl (mW A C ops nums vals (vp_updL st (d - 2) (0 : Int64)) ce pk pv n vc sp ((d - 2) + 1) pr tk th tr) H := hP
    replace hD : va_D F (mW A C ops nums vals (vp_updL st (d - 2) (0 : Int64)) ce pk pv n vc sp ((d - 2) + 1) pr tk th tr) := hD
    refine lv_goto (tgt := 3) hx hb dM_isDone_706 rfl ?_
    rw [show d - 2 + 1 = d - 1 by omega] at hP hD
    replace hP : va_P D vwCl (mW A C ops nums vals (vp_updL st (d - 2) (if st (d - 2) = st (d - 1) then 1 else 0)) ce pk pv n vc sp (d - 1) pr tk th tr) H := by first | (rw [if_pos h687]; exact hP) | (rw [if_neg h687]; exact hP)
    replace hD : va_D F (mW A C ops nums vals (vp_updL st (d - 2) (if st (d - 2) = st (d - 1) then 1 else 0)) ce pk pv n vc sp (d - 1) pr tk th tr) := by first | (rw [if_pos h687]; exact hD) | (rw [if_neg h687]; exact hD)
    exact kk _ _ _ hP hD hS (lv_sub hl [4, 7, 8, 9] rfl)
  · refine lv_lconst (v := 1) hx hb dM_isDone_690 (by decide) ?_
    refine lv_goto (tgt := 695) hx hb dM_isDone_691 rfl ?_
    refine zLast hx hb hK hP hD hS 4 3 rfl rfl (by omega) (by decide) dM_isDone_695 (fun H locs hP hD hS => ?_)
    replace hP : va_P D vwCl (mW A C ops nums vals (vp_updL st (d - 2) (1 : Int64)) ce pk pv n vc sp (d - 2) pr tk th tr) H := hP
    replace hD : va_D F (mW A C ops nums vals (vp_updL st (d - 2) (1 : Int64)) ce pk pv n vc sp (d - 2) pr tk th tr) := hD
    refine lv_aload_n hx hb dM_isDone_696 rfl (lv_at hl 7 rfl) ?_
    refine lv_dup hx hb dM_isDone_697 rfl ?_
    refine zGetM hx hb hw hown hK hP 0 rfl 10 (by decide) wf_M_49 rfl dM_isDone_698 ?_
    refine lv_iconst (v := nI 1) hx hb dM_isDone_701 (by decide) ?_
    refine lv_iadd hx hb dM_isDone_702 ?_
    refine zti (nI_add _ _) ?_
    refine zPutM hx hb hw hown hK hP hD hS 0 rfl 10 (by decide) wf_M_49 rfl rfl rfl (Nat.le_of_ble_eq_true rfl) dM_isDone_703 (fun H locs hP hD hS => ?_)
    replace hP : va_P D vwCl (mW A C ops nums vals (vp_updL st (d - 2) (1 : Int64)) ce pk pv n vc sp ((d - 2) + 1) pr tk th tr) H := hP
    replace hD : va_D F (mW A C ops nums vals (vp_updL st (d - 2) (1 : Int64)) ce pk pv n vc sp ((d - 2) + 1) pr tk th tr) := hD
    refine lv_goto (tgt := 3) hx hb dM_isDone_706 rfl ?_
    rw [show d - 2 + 1 = d - 1 by omega] at hP hD
    replace hP : va_P D vwCl (mW A C ops nums vals (vp_updL st (d - 2) (if st (d - 2) = st (d - 1) then 1 else 0)) ce pk pv n vc sp (d - 1) pr tk th tr) H := by first | (rw [if_pos h687]; exact hP) | (rw [if_neg h687]; exact hP)
    replace hD : va_D F (mW A C ops nums vals (vp_updL st (d - 2) (if st (d - 2) = st (d - 1) then 1 else 0)) ce pk pv n vc sp (d - 1) pr tk th tr) := by first | (rw [if_pos h687]; exact hD) | (rw [if_neg h687]; exact hD)
    exact kk _ _ _ hP hD hS (lv_sub hl [4, 7, 8, 9] rfl)
set_option maxRecDepth 20000 in
set_option maxHeartbeats 4000000 in
theorem mO12 {p : Program} {l : Launch} {e : Env} {s : State} {m : MethodId} {args : Array Value} {below : List Frame} {meth : Method} {c : Code} {F : Nat → Prop} {D : va_G} {A : Nat → Nat} {C : Nat → ClassId} (hx : p.tables.exec = Jvm.exec) (hb : c.code = cM_isDone) (hr : meth.sig.returnType = (some .boolean)) (hlk : meth.locks = false) (hml : c.maxLocals = 14) (hw : ∀ w ∈ WS, w.before args s = true) (hown : s.vm.findClass RM = some m.cls) (hK : va_K D vwCl (mT C) s) (hA : ∀ q, s.heap.size ≤ q → F q) {Q : State → Prop} {ls : Array Slot} {H : Heap} {locs : List Loc} {ops : Nat → Int32} {nums vals st ce pk pv : Nat → Int64} {n vc sp d pr tk th tr : Nat} {w pl : Nat} {key x : Int64} (hd : d ≤ 12) (hw2 : w ≤ 2) (hvc : vc ≤ 40) (htk : tk ≤ vc) (hpr : pr ≤ 4) (hpl : pl ≤ 40) (h1 : 1 ≤ d) (hd1 : d < 12) (hP : va_P D vwCl (mW A C ops nums vals st ce pk pv n vc sp d pr tk th tr) H) (hD : va_D F (mW A C ops nums vals st ce pk pv n vc sp d pr tk th tr)) (hS : va_S F s.heap H locs) (hl : lv_has ls 14 [(4, .int (nI pl)), (6, .long x), (5, .int (nI 12)), (0, .ref (A 0)), (1, .int (nI w)), (2, .long key)]) (kk : ∀ (ls : Array Slot) (H : Heap) (locs : List Loc), va_P D vwCl (mW A C ops nums vals (vp_updL (vp_updL st (d - 1) (st (d - 1))) d (st (d - 1))) ce pk pv n vc sp (d + 1) pr tk th tr) H → va_D F (mW A C ops nums vals (vp_updL (vp_updL st (d - 1) (st (d - 1))) d (st (d - 1))) ce pk pv n vc sp (d + 1) pr tk th tr) → va_S F s.heap H locs → lv_has ls 14 [(4, .int (nI pl)), (0, .ref (A 0)), (1, .int (nI w)), (2, .long key)] → W p l e (rmk 0 0) s m args below meth c H locs 0 0 Q (F0 m 3 ls [])) : W p l e (rmk 0 0) s m args below meth c H locs 0 0 Q (F0 m 55 ls []) := by
  refine lv_iload hx hb dM_isDone_55 (lv_at hl 2 rfl) ?_
  refine lv_iconst (v := nI 4) hx hb dM_isDone_57 (by decide) ?_
  refine zc_le (tgt := 68) hx hb dM_isDone_58 rfl (by omega) (by omega) (fun q => absurd q (by omega)) (fun _ => ?_)
  refine lv_iload hx hb dM_isDone_61 (lv_at hl 2 rfl) ?_
  refine lv_bipush (v := nI 12) hx hb dM_isDone_63 (by decide) ?_
  refine zc_ne (tgt := 72) hx hb dM_isDone_65 rfl (by omega) (by omega) (fun q => absurd q (by omega)) (fun _ => ?_)
  refine lv_iconst (v := nI 1) hx hb dM_isDone_68 (by decide) ?_
  refine lv_goto (tgt := 73) hx hb dM_isDone_69 rfl ?_
  refine lv_istore hx hb dM_isDone_73 hl (by decide) rfl (fun ls hl => ?_)
  have hl : lv_has ls 14 [(8, .int (nI 1)), (4, .int (nI pl)), (6, .long x), (5, .int (nI 12)), (0, .ref (A 0)), (1, .int (nI w)), (2, .long key)] := hl
  refine lv_iload hx hb dM_isDone_75 (lv_at hl 3 rfl) ?_
  refine lv_bipush (v := nI 6) hx hb dM_isDone_77 (by decide) ?_
  refine zc_lt (tgt := 89) hx hb dM_isDone_79 rfl (by omega) (by omega) (fun q => absurd q (by omega)) (fun _ => ?_)
  refine lv_iload hx hb dM_isDone_82 (lv_at hl 3 rfl) ?_
  refine lv_bipush (v := nI 11) hx hb dM_isDone_84 (by decide) ?_
  refine zc_le (tgt := 108) hx hb dM_isDone_86 rfl (by omega) (by omega) (fun q => absurd q (by omega)) (fun _ => ?_)
  refine lv_iload hx hb dM_isDone_89 (lv_at hl 3 rfl) ?_
  refine lv_bipush (v := nI 14) hx hb dM_isDone_91 (by decide) ?_
  refine zc_eq (tgt := 108) hx hb dM_isDone_93 rfl (by omega) (by omega) (fun q => absurd q (by omega)) (fun _ => ?_)
  refine lv_iload hx hb dM_isDone_96 (lv_at hl 3 rfl) ?_
  refine lv_bipush (v := nI 17) hx hb dM_isDone_98 (by decide) ?_
  refine zc_ne (tgt := 112) hx hb dM_isDone_100 rfl (by omega) (by omega) (fun _ => ?_) (fun q => absurd q (by omega))
  refine lv_iload hx hb dM_isDone_112 (lv_at hl 3 rfl) ?_
  refine lv_iconst (v := nI 5) hx hb dM_isDone_114 (by decide) ?_
  refine zc_eq (tgt := 146) hx hb dM_isDone_115 rfl (by omega) (by omega) (fun q => absurd q (by omega)) (fun _ => ?_)
  refine lv_iload hx hb dM_isDone_118 (lv_at hl 3 rfl) ?_
  refine lv_bipush (v := nI 12) hx hb dM_isDone_120 (by decide) ?_
  refine zc_eq (tgt := 146) hx hb dM_isDone_122 rfl (by omega) (by omega) (fun _ => ?_) (fun q => absurd q (by omega))
  refine lv_iconst (v := nI 1) hx hb dM_isDone_146 (by decide) ?_
  refine lv_goto (tgt := 151) hx hb dM_isDone_147 rfl ?_
  refine lv_istore hx hb dM_isDone_151 hl (by decide) rfl (fun ls hl => ?_)
  have hl : lv_has ls 14 [(9, .int (nI 1)), (8, .int (nI 1)), (4, .int (nI pl)), (6, .long x), (5, .int (nI 12)), (0, .ref (A 0)), (1, .int (nI w)), (2, .long key)] := hl
  refine lv_aload_n hx hb dM_isDone_153 rfl (lv_at hl 5 rfl) ?_
  refine zGetM hx hb hw hown hK hP 0 rfl 10 (by decide) wf_M_49 rfl dM_isDone_154 ?_
  refine lv_iload hx hb dM_isDone_157 (lv_at hl 0 rfl) ?_
  refine zc_lt (tgt := 176) hx hb dM_isDone_159 rfl (by omega) (by omega) (fun q => absurd q (by omega)) (fun _ => ?_)
  refine lv_iload hx hb dM_isDone_162 (lv_at hl 1 rfl) ?_
  refine zi_eq (tgt := 178) hx hb dM_isDone_164 rfl (by omega) (fun q => absurd q (by omega)) (fun _ => ?_)
  refine lv_aload_n hx hb dM_isDone_167 rfl (lv_at hl 5 rfl) ?_
  refine zGetM hx hb hw hown hK hP 0 rfl 10 (by decide) wf_M_49 rfl dM_isDone_168 ?_
  refine lv_bipush (v := nI 12) hx hb dM_isDone_171 (by decide) ?_
  refine zc_ne (tgt := 178) hx hb dM_isDone_173 rfl (by omega) (by omega) (fun _ => ?_) (fun q => absurd q (by omega))
  refine lv_iload hx hb dM_isDone_178 (lv_at hl 0 rfl) ?_
  refine zi_le (tgt := 197) hx hb dM_isDone_180 rfl (by omega) (fun q => absurd q (by omega)) (fun _ => ?_)
  refine lv_aload_n hx hb dM_isDone_183 rfl (lv_at hl 5 rfl) ?_
  refine zGetM hx hb hw hown hK hP 0 rfl 3 (by decide) wf_M_20 rfl dM_isDone_184 ?_
  refine lv_aload_n hx hb dM_isDone_187 rfl (lv_at hl 5 rfl) ?_
  refine zGetM hx hb hw hown hK hP 0 rfl 10 (by decide) wf_M_49 rfl dM_isDone_188 ?_
  refine lv_iconst (v := nI 1) hx hb dM_isDone_191 (by decide) ?_
  refine lv_isub hx hb dM_isDone_192 ?_
  refine zti (zsub _ (by omega)) ?_
  refine zLald hx hb hK hP 4 3 rfl rfl (by omega) (by decide) dM_isDone_193 ?_
  refine lv_goto (tgt := 198) hx hb dM_isDone_194 rfl ?_
  refine lv_lstore hx hb dM_isDone_198 hl (by decide) rfl (fun ls hl => ?_)
  have hl : lv_has ls 14 [(10, .long (st (d - 1))), (9, .int (nI 1)), (8, .int (nI 1)), (4, .int (nI pl)), (6, .long x), (5, .int (nI 12)), (0, .ref (A 0)), (1, .int (nI w)), (2, .long key)] := hl
  refine lv_iload hx hb dM_isDone_200 (lv_at hl 1 rfl) ?_
  refine lv_iconst (v := nI 1) hx hb dM_isDone_202 (by decide) ?_
  refine zc_le (tgt := 220) hx hb dM_isDone_203 rfl (by omega) (by omega) (fun _ => ?_) (fun q => absurd q (by omega))
  refine lv_lconst (v := 0) hx hb dM_isDone_220 (by decide) ?_
  refine lv_lstore hx hb dM_isDone_221 hl (by decide) rfl (fun ls hl => ?_)
  have hl : lv_has ls 14 [(12, .long (0 : Int64)), (10, .long (st (d - 1))), (9, .int (nI 1)), (8, .int (nI 1)), (4, .int (nI pl)), (6, .long x), (5, .int (nI 12)), (0, .ref (A 0)), (1, .int (nI w)), (2, .long key)] := hl
  refine lv_iload hx hb dM_isDone_223 (lv_at hl 6 rfl) ?_
  refine lv_bipush (v := nI 18) hx hb dM_isDone_225 (by decide) ?_
  refine zc_ne (tgt := 232) hx hb dM_isDone_227 rfl (by omega) (by omega) (fun _ => ?_) (fun q => absurd q (by omega))
  refine lv_iload hx hb dM_isDone_232 (lv_at hl 6 rfl) ?_
  refine lv_iconst (v := nI 2) hx hb dM_isDone_234 (by decide) ?_
  refine zc_ne (tgt := 265) hx hb dM_isDone_235 rfl (by omega) (by omega) (fun _ => ?_) (fun q => absurd q (by omega))
  refine lv_iload hx hb dM_isDone_265 (lv_at hl 6 rfl) ?_
  refine lv_bipush (v := nI 9) hx hb dM_isDone_267 (by decide) ?_
  refine zc_ne (tgt := 279) hx hb dM_isDone_269 rfl (by omega) (by omega) (fun _ => ?_) (fun q => absurd q (by omega))
  refine lv_iload hx hb dM_isDone_279 (lv_at hl 6 rfl) ?_
  refine lv_bipush (v := nI 17) hx hb dM_isDone_281 (by decide) ?_
  refine zc_ne (tgt := 296) hx hb dM_isDone_283 rfl (by omega) (by omega) (fun _ => ?_) (fun q => absurd q (by omega))
  refine lv_iload hx hb dM_isDone_296 (lv_at hl 3 rfl) ?_
  refine zi_eq (tgt := 437) hx hb dM_isDone_298 rfl (by omega) (fun q => absurd q (by omega)) (fun _ => ?_)
  refine lv_aload_n hx hb dM_isDone_301 rfl (lv_at hl 7 rfl) ?_
  refine zGetM hx hb hw hown hK hP 0 rfl 3 (by decide) wf_M_20 rfl dM_isDone_302 ?_
  refine lv_aload_n hx hb dM_isDone_305 rfl (lv_at hl 7 rfl) ?_
  refine zGetM hx hb hw hown hK hP 0 rfl 10 (by decide) wf_M_49 rfl dM_isDone_306 ?_
  refine lv_iload hx hb dM_isDone_309 (lv_at hl 6 rfl) ?_
  refine zi_ne (tgt := 319) hx hb dM_isDone_311 rfl (by omega) (fun _ => ?_) (fun q => absurd q (by omega))
  refine lv_iload hx hb dM_isDone_319 (lv_at hl 6 rfl) ?_
  refine lv_iconst (v := nI 1) hx hb dM_isDone_321 (by decide) ?_
  refine zc_ne (tgt := 329) hx hb dM_isDone_322 rfl (by omega) (by omega) (fun _ => ?_) (fun q => absurd q (by omega))
  refine lv_iload hx hb dM_isDone_329 (lv_at hl 6 rfl) ?_
  refine lv_iconst (v := nI 2) hx hb dM_isDone_331 (by decide) ?_
  refine zc_ne (tgt := 355) hx hb dM_isDone_332 rfl (by omega) (by omega) (fun _ => ?_) (fun q => absurd q (by omega))
  refine lv_iload hx hb dM_isDone_355 (lv_at hl 6 rfl) ?_
  refine lv_iconst (v := nI 3) hx hb dM_isDone_357 (by decide) ?_
  refine zc_ne (tgt := 384) hx hb dM_isDone_358 rfl (by omega) (by omega) (fun _ => ?_) (fun q => absurd q (by omega))
  refine lv_iload hx hb dM_isDone_384 (lv_at hl 6 rfl) ?_
  refine lv_iconst (v := nI 4) hx hb dM_isDone_386 (by decide) ?_
  refine zc_ne (tgt := 401) hx hb dM_isDone_387 rfl (by omega) (by omega) (fun _ => ?_) (fun q => absurd q (by omega))
  refine lv_lload hx hb dM_isDone_401 (lv_at hl 1 rfl) ?_
  refine zLast hx hb hK hP hD hS 4 3 rfl rfl (by omega) (by decide) dM_isDone_403 (fun H locs hP hD hS => ?_)
  replace hP : va_P D vwCl (mW A C ops nums vals (vp_updL st d (st (d - 1))) ce pk pv n vc sp d pr tk th tr) H := hP
  replace hD : va_D F (mW A C ops nums vals (vp_updL st d (st (d - 1))) ce pk pv n vc sp d pr tk th tr) := hD
  refine lv_aload_n hx hb dM_isDone_404 rfl (lv_at hl 7 rfl) ?_
  refine lv_dup hx hb dM_isDone_405 rfl ?_
  refine zGetM hx hb hw hown hK hP 0 rfl 10 (by decide) wf_M_49 rfl dM_isDone_406 ?_
  refine lv_iconst (v := nI 1) hx hb dM_isDone_409 (by decide) ?_
  refine lv_iadd hx hb dM_isDone_410 ?_
  refine zti (nI_add _ _) ?_
  refine zPutM hx hb hw hown hK hP hD hS 0 rfl 10 (by decide) wf_M_49 rfl rfl rfl (Nat.le_of_ble_eq_true rfl) dM_isDone_411 (fun H locs hP hD hS => ?_)
  replace hP : va_P D vwCl (mW A C ops nums vals (vp_updL st d (st (d - 1))) ce pk pv n vc sp (d + 1) pr tk th tr) H := hP
  replace hD : va_D F (mW A C ops nums vals (vp_updL st d (st (d - 1))) ce pk pv n vc sp (d + 1) pr tk th tr) := hD
  refine lv_iload hx hb dM_isDone_414 (lv_at hl 6 rfl) ?_
  refine lv_iconst (v := nI 2) hx hb dM_isDone_416 (by decide) ?_
  refine zc_ne (tgt := 706) hx hb dM_isDone_417 rfl (by omega) (by omega) (fun _ => ?_) (fun q => absurd q (by omega))
  refine lv_goto (tgt := 3) hx hb dM_isDone_706 rfl ?_
  replace hP : va_P D vwCl (mW A C ops nums vals (vp_updL (vp_updL st (d - 1) (st (d - 1))) d (st (d - 1))) ce pk pv n vc sp (d + 1) pr tk th tr) H := by rw [updL_self]; exact hP
  replace hD : va_D F (mW A C ops nums vals (vp_updL (vp_updL st (d - 1) (st (d - 1))) d (st (d - 1))) ce pk pv n vc sp (d + 1) pr tk th tr) := by rw [updL_self]; exact hD
  exact kk _ _ _ hP hD hS (lv_sub hl [4, 7, 8, 9] rfl)
set_option maxRecDepth 20000 in
set_option maxHeartbeats 4000000 in
theorem mO13 {p : Program} {l : Launch} {e : Env} {s : State} {m : MethodId} {args : Array Value} {below : List Frame} {meth : Method} {c : Code} {F : Nat → Prop} {D : va_G} {A : Nat → Nat} {C : Nat → ClassId} (hx : p.tables.exec = Jvm.exec) (hb : c.code = cM_isDone) (hr : meth.sig.returnType = (some .boolean)) (hlk : meth.locks = false) (hml : c.maxLocals = 14) (hw : ∀ w ∈ WS, w.before args s = true) (hown : s.vm.findClass RM = some m.cls) (hK : va_K D vwCl (mT C) s) (hA : ∀ q, s.heap.size ≤ q → F q) {Q : State → Prop} {ls : Array Slot} {H : Heap} {locs : List Loc} {ops : Nat → Int32} {nums vals st ce pk pv : Nat → Int64} {n vc sp d pr tk th tr : Nat} {w pl : Nat} {key x : Int64} (hd : d ≤ 12) (hw2 : w ≤ 2) (hvc : vc ≤ 40) (htk : tk ≤ vc) (hpr : pr ≤ 4) (hpl : pl ≤ 40) (h1 : 1 ≤ d) (hP : va_P D vwCl (mW A C ops nums vals st ce pk pv n vc sp d pr tk th tr) H) (hD : va_D F (mW A C ops nums vals st ce pk pv n vc sp d pr tk th tr)) (hS : va_S F s.heap H locs) (hl : lv_has ls 14 [(4, .int (nI pl)), (6, .long x), (5, .int (nI 13)), (0, .ref (A 0)), (1, .int (nI w)), (2, .long key)]) (kk : ∀ (ls : Array Slot) (H : Heap) (locs : List Loc), va_P D vwCl (mW A C ops nums vals st ce pk pv n vc sp (d - 1) pr tk th tr) H → va_D F (mW A C ops nums vals st ce pk pv n vc sp (d - 1) pr tk th tr) → va_S F s.heap H locs → lv_has ls 14 [(4, .int (nI pl)), (0, .ref (A 0)), (1, .int (nI w)), (2, .long key)] → W p l e (rmk 0 0) s m args below meth c H locs 0 0 Q (F0 m 3 ls [])) : W p l e (rmk 0 0) s m args below meth c H locs 0 0 Q (F0 m 55 ls []) := by
  refine lv_iload hx hb dM_isDone_55 (lv_at hl 2 rfl) ?_
  refine lv_iconst (v := nI 4) hx hb dM_isDone_57 (by decide) ?_
  refine zc_le (tgt := 68) hx hb dM_isDone_58 rfl (by omega) (by omega) (fun q => absurd q (by omega)) (fun _ => ?_)
  refine lv_iload hx hb dM_isDone_61 (lv_at hl 2 rfl) ?_
  refine lv_bipush (v := nI 12) hx hb dM_isDone_63 (by decide) ?_
  refine zc_ne (tgt := 72) hx hb dM_isDone_65 rfl (by omega) (by omega) (fun _ => ?_) (fun q => absurd q (by omega))
  refine lv_iconst (v := nI 0) hx hb dM_isDone_72 (by decide) ?_
  refine lv_istore hx hb dM_isDone_73 hl (by decide) rfl (fun ls hl => ?_)
  have hl : lv_has ls 14 [(8, .int (nI 0)), (4, .int (nI pl)), (6, .long x), (5, .int (nI 13)), (0, .ref (A 0)), (1, .int (nI w)), (2, .long key)] := hl
  refine lv_iload hx hb dM_isDone_75 (lv_at hl 3 rfl) ?_
  refine lv_bipush (v := nI 6) hx hb dM_isDone_77 (by decide) ?_
  refine zc_lt (tgt := 89) hx hb dM_isDone_79 rfl (by omega) (by omega) (fun q => absurd q (by omega)) (fun _ => ?_)
  refine lv_iload hx hb dM_isDone_82 (lv_at hl 3 rfl) ?_
  refine lv_bipush (v := nI 11) hx hb dM_isDone_84 (by decide) ?_
  refine zc_le (tgt := 108) hx hb dM_isDone_86 rfl (by omega) (by omega) (fun q => absurd q (by omega)) (fun _ => ?_)
  refine lv_iload hx hb dM_isDone_89 (lv_at hl 3 rfl) ?_
  refine lv_bipush (v := nI 14) hx hb dM_isDone_91 (by decide) ?_
  refine zc_eq (tgt := 108) hx hb dM_isDone_93 rfl (by omega) (by omega) (fun q => absurd q (by omega)) (fun _ => ?_)
  refine lv_iload hx hb dM_isDone_96 (lv_at hl 3 rfl) ?_
  refine lv_bipush (v := nI 17) hx hb dM_isDone_98 (by decide) ?_
  refine zc_ne (tgt := 112) hx hb dM_isDone_100 rfl (by omega) (by omega) (fun _ => ?_) (fun q => absurd q (by omega))
  refine lv_iload hx hb dM_isDone_112 (lv_at hl 3 rfl) ?_
  refine lv_iconst (v := nI 5) hx hb dM_isDone_114 (by decide) ?_
  refine zc_eq (tgt := 146) hx hb dM_isDone_115 rfl (by omega) (by omega) (fun q => absurd q (by omega)) (fun _ => ?_)
  refine lv_iload hx hb dM_isDone_118 (lv_at hl 3 rfl) ?_
  refine lv_bipush (v := nI 12) hx hb dM_isDone_120 (by decide) ?_
  refine zc_eq (tgt := 146) hx hb dM_isDone_122 rfl (by omega) (by omega) (fun q => absurd q (by omega)) (fun _ => ?_)
  refine lv_iload hx hb dM_isDone_125 (lv_at hl 3 rfl) ?_
  refine lv_bipush (v := nI 13) hx hb dM_isDone_127 (by decide) ?_
  refine zc_eq (tgt := 146) hx hb dM_isDone_129 rfl (by omega) (by omega) (fun _ => ?_) (fun q => absurd q (by omega))
  refine lv_iconst (v := nI 1) hx hb dM_isDone_146 (by decide) ?_
  refine lv_goto (tgt := 151) hx hb dM_isDone_147 rfl ?_
  refine lv_istore hx hb dM_isDone_151 hl (by decide) rfl (fun ls hl => ?_)
  have hl : lv_has ls 14 [(9, .int (nI 1)), (8, .int (nI 0)), (4, .int (nI pl)), (6, .long x), (5, .int (nI 13)), (0, .ref (A 0)), (1, .int (nI w)), (2, .long key)] := hl
  refine lv_aload_n hx hb dM_isDone_153 rfl (lv_at hl 5 rfl) ?_
  refine zGetM hx hb hw hown hK hP 0 rfl 10 (by decide) wf_M_49 rfl dM_isDone_154 ?_
  refine lv_iload hx hb dM_isDone_157 (lv_at hl 0 rfl) ?_
  refine zc_lt (tgt := 176) hx hb dM_isDone_159 rfl (by omega) (by omega) (fun q => absurd q (by omega)) (fun _ => ?_)
  refine lv_iload hx hb dM_isDone_162 (lv_at hl 1 rfl) ?_
  refine zi_eq (tgt := 178) hx hb dM_isDone_164 rfl (by omega) (fun _ => ?_) (fun q => absurd q (by omega))
  refine lv_iload hx hb dM_isDone_178 (lv_at hl 0 rfl) ?_
  refine zi_le (tgt := 197) hx hb dM_isDone_180 rfl (by omega) (fun q => absurd q (by omega)) (fun _ => ?_)
  refine lv_aload_n hx hb dM_isDone_183 rfl (lv_at hl 5 rfl) ?_
  refine zGetM hx hb hw hown hK hP 0 rfl 3 (by decide) wf_M_20 rfl dM_isDone_184 ?_
  refine lv_aload_n hx hb dM_isDone_187 rfl (lv_at hl 5 rfl) ?_
  refine zGetM hx hb hw hown hK hP 0 rfl 10 (by decide) wf_M_49 rfl dM_isDone_188 ?_
  refine lv_iconst (v := nI 1) hx hb dM_isDone_191 (by decide) ?_
  refine lv_isub hx hb dM_isDone_192 ?_
  refine zti (zsub _ (by omega)) ?_
  refine zLald hx hb hK hP 4 3 rfl rfl (by omega) (by decide) dM_isDone_193 ?_
  refine lv_goto (tgt := 198) hx hb dM_isDone_194 rfl ?_
  refine lv_lstore hx hb dM_isDone_198 hl (by decide) rfl (fun ls hl => ?_)
  have hl : lv_has ls 14 [(10, .long (st (d - 1))), (9, .int (nI 1)), (8, .int (nI 0)), (4, .int (nI pl)), (6, .long x), (5, .int (nI 13)), (0, .ref (A 0)), (1, .int (nI w)), (2, .long key)] := hl
  refine lv_iload hx hb dM_isDone_200 (lv_at hl 1 rfl) ?_
  refine lv_iconst (v := nI 1) hx hb dM_isDone_202 (by decide) ?_
  refine zc_le (tgt := 220) hx hb dM_isDone_203 rfl (by omega) (by omega) (fun _ => ?_) (fun q => absurd q (by omega))
  refine lv_lconst (v := 0) hx hb dM_isDone_220 (by decide) ?_
  refine lv_lstore hx hb dM_isDone_221 hl (by decide) rfl (fun ls hl => ?_)
  have hl : lv_has ls 14 [(12, .long (0 : Int64)), (10, .long (st (d - 1))), (9, .int (nI 1)), (8, .int (nI 0)), (4, .int (nI pl)), (6, .long x), (5, .int (nI 13)), (0, .ref (A 0)), (1, .int (nI w)), (2, .long key)] := hl
  refine lv_iload hx hb dM_isDone_223 (lv_at hl 6 rfl) ?_
  refine lv_bipush (v := nI 18) hx hb dM_isDone_225 (by decide) ?_
  refine zc_ne (tgt := 232) hx hb dM_isDone_227 rfl (by omega) (by omega) (fun _ => ?_) (fun q => absurd q (by omega))
  refine lv_iload hx hb dM_isDone_232 (lv_at hl 6 rfl) ?_
  refine lv_iconst (v := nI 2) hx hb dM_isDone_234 (by decide) ?_
  refine zc_ne (tgt := 265) hx hb dM_isDone_235 rfl (by omega) (by omega) (fun _ => ?_) (fun q => absurd q (by omega))
  refine lv_iload hx hb dM_isDone_265 (lv_at hl 6 rfl) ?_
  refine lv_bipush (v := nI 9) hx hb dM_isDone_267 (by decide) ?_
  refine zc_ne (tgt := 279) hx hb dM_isDone_269 rfl (by omega) (by omega) (fun _ => ?_) (fun q => absurd q (by omega))
  refine lv_iload hx hb dM_isDone_279 (lv_at hl 6 rfl) ?_
  refine lv_bipush (v := nI 17) hx hb dM_isDone_281 (by decide) ?_
  refine zc_ne (tgt := 296) hx hb dM_isDone_283 rfl (by omega) (by omega) (fun _ => ?_) (fun q => absurd q (by omega))
  refine lv_iload hx hb dM_isDone_296 (lv_at hl 3 rfl) ?_
  refine zi_eq (tgt := 437) hx hb dM_isDone_298 rfl (by omega) (fun _ => ?_) (fun q => absurd q (by omega))
  refine lv_iload hx hb dM_isDone_437 (lv_at hl 6 rfl) ?_
  refine lv_bipush (v := nI 14) hx hb dM_isDone_439 (by decide) ?_
  refine zc_ne (tgt := 473) hx hb dM_isDone_441 rfl (by omega) (by omega) (fun _ => ?_) (fun q => absurd q (by omega))
  refine lv_iload hx hb dM_isDone_473 (lv_at hl 6 rfl) ?_
  refine lv_bipush (v := nI 15) hx hb dM_isDone_475 (by decide) ?_
  refine zc_ne (tgt := 488) hx hb dM_isDone_477 rfl (by omega) (by omega) (fun _ => ?_) (fun q => absurd q (by omega))
  refine lv_aload_n hx hb dM_isDone_488 rfl (lv_at hl 7 rfl) ?_
  refine lv_dup hx hb dM_isDone_489 rfl ?_
  refine zGetM hx hb hw hown hK hP 0 rfl 10 (by decide) wf_M_49 rfl dM_isDone_490 ?_
  refine lv_iload hx hb dM_isDone_493 (lv_at hl 2 rfl) ?_
  refine lv_isub hx hb dM_isDone_495 ?_
  refine zti (zsub _ (by omega)) ?_
  refine zPutM hx hb hw hown hK hP hD hS 0 rfl 10 (by decide) wf_M_49 rfl rfl rfl (Nat.le_of_ble_eq_true rfl) dM_isDone_496 (fun H locs hP hD hS => ?_)
  replace hP : va_P D vwCl (mW A C ops nums vals st ce pk pv n vc sp (d - 1) pr tk th tr) H := hP
  replace hD : va_D F (mW A C ops nums vals st ce pk pv n vc sp (d - 1) pr tk th tr) := hD
  refine lv_iload hx hb dM_isDone_499 (lv_at hl 6 rfl) ?_
  refine lv_iconst (v := nI 5) hx hb dM_isDone_501 (by decide) ?_
  refine zc_ne (tgt := 515) hx hb dM_isDone_502 rfl (by omega) (by omega) (fun _ => ?_) (fun q => absurd q (by omega))
  refine lv_iload hx hb dM_isDone_515 (lv_at hl 6 rfl) ?_
  refine lv_bipush (v := nI 16) hx hb dM_isDone_517 (by decide) ?_
  refine zc_ne (tgt := 534) hx hb dM_isDone_519 rfl (by omega) (by omega) (fun _ => ?_) (fun q => absurd q (by omega))
  refine lv_iload hx hb dM_isDone_534 (lv_at hl 6 rfl) ?_
  refine lv_bipush (v := nI 17) hx hb dM_isDone_536 (by decide) ?_
  refine zc_ne (tgt := 582) hx hb dM_isDone_538 rfl (by omega) (by omega) (fun _ => ?_) (fun q => absurd q (by omega))
  refine lv_iload hx hb dM_isDone_582 (lv_at hl 6 rfl) ?_
  refine lv_bipush (v := nI 6) hx hb dM_isDone_584 (by decide) ?_
  refine zc_lt (tgt := 706) hx hb dM_isDone_586 rfl (by omega) (by omega) (fun q => absurd q (by omega)) (fun _ => ?_)
  refine lv_iload hx hb dM_isDone_589 (lv_at hl 6 rfl) ?_
  refine lv_bipush (v := nI 11) hx hb dM_isDone_591 (by decide) ?_
  refine zc_gt (tgt := 706) hx hb dM_isDone_593 rfl (by omega) (by omega) (fun _ => ?_) (fun q => absurd q (by omega))
  refine lv_goto (tgt := 3) hx hb dM_isDone_706 rfl ?_
  exact kk _ _ _ hP hD hS (lv_sub hl [4, 7, 8, 9] rfl)
set_option maxRecDepth 20000 in
set_option maxHeartbeats 4000000 in
theorem mO14 {p : Program} {l : Launch} {e : Env} {s : State} {m : MethodId} {args : Array Value} {below : List Frame} {meth : Method} {c : Code} {F : Nat → Prop} {D : va_G} {A : Nat → Nat} {C : Nat → ClassId} (hx : p.tables.exec = Jvm.exec) (hb : c.code = cM_isDone) (hr : meth.sig.returnType = (some .boolean)) (hlk : meth.locks = false) (hml : c.maxLocals = 14) (hw : ∀ w ∈ WS, w.before args s = true) (hown : s.vm.findClass RM = some m.cls) (hK : va_K D vwCl (mT C) s) (hA : ∀ q, s.heap.size ≤ q → F q) {Q : State → Prop} {ls : Array Slot} {H : Heap} {locs : List Loc} {ops : Nat → Int32} {nums vals st ce pk pv : Nat → Int64} {n vc sp d pr tk th tr : Nat} {w pl : Nat} {key x : Int64} (hd : d ≤ 12) (hw2 : w ≤ 2) (hvc : vc ≤ 40) (htk : tk ≤ vc) (hpr : pr ≤ 4) (hpl : pl ≤ 40) (h2 : 2 ≤ d) (hP : va_P D vwCl (mW A C ops nums vals st ce pk pv n vc sp d pr tk th tr) H) (hD : va_D F (mW A C ops nums vals st ce pk pv n vc sp d pr tk th tr)) (hS : va_S F s.heap H locs) (hl : lv_has ls 14 [(4, .int (nI pl)), (6, .long x), (5, .int (nI 14)), (0, .ref (A 0)), (1, .int (nI w)), (2, .long key)]) (kk : ∀ (ls : Array Slot) (H : Heap) (locs : List Loc), va_P D vwCl (mW A C ops nums vals (vp_updL (vp_updL st (d - 2) (st (d - 1))) (d - 1) (st (d - 2))) ce pk pv n vc sp d pr tk th tr) H → va_D F (mW A C ops nums vals (vp_updL (vp_updL st (d - 2) (st (d - 1))) (d - 1) (st (d - 2))) ce pk pv n vc sp d pr tk th tr) → va_S F s.heap H locs → lv_has ls 14 [(4, .int (nI pl)), (0, .ref (A 0)), (1, .int (nI w)), (2, .long key)] → W p l e (rmk 0 0) s m args below meth c H locs 0 0 Q (F0 m 3 ls [])) : W p l e (rmk 0 0) s m args below meth c H locs 0 0 Q (F0 m 55 ls []) := by
  refine lv_iload hx hb dM_isDone_55 (lv_at hl 2 rfl) ?_
  refine lv_iconst (v := nI 4) hx hb dM_isDone_57 (by decide) ?_
  refine zc_le (tgt := 68) hx hb dM_isDone_58 rfl (by omega) (by omega) (fun q => absurd q (by omega)) (fun _ => ?_)
  refine lv_iload hx hb dM_isDone_61 (lv_at hl 2 rfl) ?_
  refine lv_bipush (v := nI 12) hx hb dM_isDone_63 (by decide) ?_
  refine zc_ne (tgt := 72) hx hb dM_isDone_65 rfl (by omega) (by omega) (fun _ => ?_) (fun q => absurd q (by omega))
  refine lv_iconst (v := nI 0) hx hb dM_isDone_72 (by decide) ?_
  refine lv_istore hx hb dM_isDone_73 hl (by decide) rfl (fun ls hl => ?_)
  have hl : lv_has ls 14 [(8, .int (nI 0)), (4, .int (nI pl)), (6, .long x), (5, .int (nI 14)), (0, .ref (A 0)), (1, .int (nI w)), (2, .long key)] := hl
  refine lv_iload hx hb dM_isDone_75 (lv_at hl 3 rfl) ?_
  refine lv_bipush (v := nI 6) hx hb dM_isDone_77 (by decide) ?_
  refine zc_lt (tgt := 89) hx hb dM_isDone_79 rfl (by omega) (by omega) (fun q => absurd q (by omega)) (fun _ => ?_)
  refine lv_iload hx hb dM_isDone_82 (lv_at hl 3 rfl) ?_
  refine lv_bipush (v := nI 11) hx hb dM_isDone_84 (by decide) ?_
  refine zc_le (tgt := 108) hx hb dM_isDone_86 rfl (by omega) (by omega) (fun q => absurd q (by omega)) (fun _ => ?_)
  refine lv_iload hx hb dM_isDone_89 (lv_at hl 3 rfl) ?_
  refine lv_bipush (v := nI 14) hx hb dM_isDone_91 (by decide) ?_
  refine zc_eq (tgt := 108) hx hb dM_isDone_93 rfl (by omega) (by omega) (fun _ => ?_) (fun q => absurd q (by omega))
  refine lv_iconst (v := nI 2) hx hb dM_isDone_108 (by decide) ?_
  refine lv_goto (tgt := 151) hx hb dM_isDone_109 rfl ?_
  refine lv_istore hx hb dM_isDone_151 hl (by decide) rfl (fun ls hl => ?_)
  have hl : lv_has ls 14 [(9, .int (nI 2)), (8, .int (nI 0)), (4, .int (nI pl)), (6, .long x), (5, .int (nI 14)), (0, .ref (A 0)), (1, .int (nI w)), (2, .long key)] := hl
  refine lv_aload_n hx hb dM_isDone_153 rfl (lv_at hl 5 rfl) ?_
  refine zGetM hx hb hw hown hK hP 0 rfl 10 (by decide) wf_M_49 rfl dM_isDone_154 ?_
  refine lv_iload hx hb dM_isDone_157 (lv_at hl 0 rfl) ?_
  refine zc_lt (tgt := 176) hx hb dM_isDone_159 rfl (by omega) (by omega) (fun q => absurd q (by omega)) (fun _ => ?_)
  refine lv_iload hx hb dM_isDone_162 (lv_at hl 1 rfl) ?_
  refine zi_eq (tgt := 178) hx hb dM_isDone_164 rfl (by omega) (fun _ => ?_) (fun q => absurd q (by omega))
  refine lv_iload hx hb dM_isDone_178 (lv_at hl 0 rfl) ?_
  refine zi_le (tgt := 197) hx hb dM_isDone_180 rfl (by omega) (fun q => absurd q (by omega)) (fun _ => ?_)
  refine lv_aload_n hx hb dM_isDone_183 rfl (lv_at hl 5 rfl) ?_
  refine zGetM hx hb hw hown hK hP 0 rfl 3 (by decide) wf_M_20 rfl dM_isDone_184 ?_
  refine lv_aload_n hx hb dM_isDone_187 rfl (lv_at hl 5 rfl) ?_
  refine zGetM hx hb hw hown hK hP 0 rfl 10 (by decide) wf_M_49 rfl dM_isDone_188 ?_
  refine lv_iconst (v := nI 1) hx hb dM_isDone_191 (by decide) ?_
  refine lv_isub hx hb dM_isDone_192 ?_
  refine zti (zsub _ (by omega)) ?_
  refine zLald hx hb hK hP 4 3 rfl rfl (by omega) (by decide) dM_isDone_193 ?_
  refine lv_goto (tgt := 198) hx hb dM_isDone_194 rfl ?_
  refine lv_lstore hx hb dM_isDone_198 hl (by decide) rfl (fun ls hl => ?_)
  have hl : lv_has ls 14 [(10, .long (st (d - 1))), (9, .int (nI 2)), (8, .int (nI 0)), (4, .int (nI pl)), (6, .long x), (5, .int (nI 14)), (0, .ref (A 0)), (1, .int (nI w)), (2, .long key)] := hl
  refine lv_iload hx hb dM_isDone_200 (lv_at hl 1 rfl) ?_
  refine lv_iconst (v := nI 1) hx hb dM_isDone_202 (by decide) ?_
  refine zc_le (tgt := 220) hx hb dM_isDone_203 rfl (by omega) (by omega) (fun q => absurd q (by omega)) (fun _ => ?_)
  refine lv_aload_n hx hb dM_isDone_206 rfl (lv_at hl 6 rfl) ?_
  refine zGetM hx hb hw hown hK hP 0 rfl 3 (by decide) wf_M_20 rfl dM_isDone_207 ?_
  refine lv_aload_n hx hb dM_isDone_210 rfl (lv_at hl 6 rfl) ?_
  refine zGetM hx hb hw hown hK hP 0 rfl 10 (by decide) wf_M_49 rfl dM_isDone_211 ?_
  refine lv_iconst (v := nI 2) hx hb dM_isDone_214 (by decide) ?_
  refine lv_isub hx hb dM_isDone_215 ?_
  refine zti (zsub _ (by omega)) ?_
  refine zLald hx hb hK hP 4 3 rfl rfl (by omega) (by decide) dM_isDone_216 ?_
  refine lv_goto (tgt := 221) hx hb dM_isDone_217 rfl ?_
  refine lv_lstore hx hb dM_isDone_221 hl (by decide) rfl (fun ls hl => ?_)
  have hl : lv_has ls 14 [(12, .long (st (d - 2))), (10, .long (st (d - 1))), (9, .int (nI 2)), (8, .int (nI 0)), (4, .int (nI pl)), (6, .long x), (5, .int (nI 14)), (0, .ref (A 0)), (1, .int (nI w)), (2, .long key)] := hl
  refine lv_iload hx hb dM_isDone_223 (lv_at hl 6 rfl) ?_
  refine lv_bipush (v := nI 18) hx hb dM_isDone_225 (by decide) ?_
  refine zc_ne (tgt := 232) hx hb dM_isDone_227 rfl (by omega) (by omega) (fun _ => ?_) (fun q => absurd q (by omega))
  refine lv_iload hx hb dM_isDone_232 (lv_at hl 6 rfl) ?_
  refine lv_iconst (v := nI 2) hx hb dM_isDone_234 (by decide) ?_
  refine zc_ne (tgt := 265) hx hb dM_isDone_235 rfl (by omega) (by omega) (fun _ => ?_) (fun q => absurd q (by omega))
  refine lv_iload hx hb dM_isDone_265 (lv_at hl 6 rfl) ?_
  refine lv_bipush (v := nI 9) hx hb dM_isDone_267 (by decide) ?_
  refine zc_ne (tgt := 279) hx hb dM_isDone_269 rfl (by omega) (by omega) (fun _ => ?_) (fun q => absurd q (by omega))
  refine lv_iload hx hb dM_isDone_279 (lv_at hl 6 rfl) ?_
  refine lv_bipush (v := nI 17) hx hb dM_isDone_281 (by decide) ?_
  refine zc_ne (tgt := 296) hx hb dM_isDone_283 rfl (by omega) (by omega) (fun _ => ?_) (fun q => absurd q (by omega))
  refine lv_iload hx hb dM_isDone_296 (lv_at hl 3 rfl) ?_
  refine zi_eq (tgt := 437) hx hb dM_isDone_298 rfl (by omega) (fun _ => ?_) (fun q => absurd q (by omega))
  refine lv_iload hx hb dM_isDone_437 (lv_at hl 6 rfl) ?_
  refine lv_bipush (v := nI 14) hx hb dM_isDone_439 (by decide) ?_
  refine zc_ne (tgt := 473) hx hb dM_isDone_441 rfl (by omega) (by omega) (fun q => absurd q (by omega)) (fun _ => ?_)
  refine lv_aload_n hx hb dM_isDone_444 rfl (lv_at hl 7 rfl) ?_
  refine zGetM hx hb hw hown hK hP 0 rfl 3 (by decide) wf_M_20 rfl dM_isDone_445 ?_
  refine lv_aload_n hx hb dM_isDone_448 rfl (lv_at hl 7 rfl) ?_
  refine zGetM hx hb hw hown hK hP 0 rfl 10 (by decide) wf_M_49 rfl dM_isDone_449 ?_
  refine lv_iconst (v := nI 1) hx hb dM_isDone_452 (by decide) ?_
  refine lv_isub hx hb dM_isDone_453 ?_
  refine zti (zsub _ (by omega)) ?_
  refine lv_lload hx hb dM_isDone_454 (lv_at hl 0 rfl) ?_
  refine zLast hx hb hK hP hD hS 4 3 rfl rfl (by omega) (by decide) dM_isDone_456 (fun H locs hP hD hS => ?_)
  replace hP : va_P D vwCl (mW A C ops nums vals (vp_updL st (d - 1) (st (d - 2))) ce pk pv n vc sp d pr tk th tr) H := hP
  replace hD : va_D F (mW A C ops nums vals (vp_updL st (d - 1) (st (d - 2))) ce pk pv n vc sp d pr tk th tr) := hD
  refine lv_aload_n hx hb dM_isDone_457 rfl (lv_at hl 7 rfl) ?_
  refine zGetM hx hb hw hown hK hP 0 rfl 3 (by decide) wf_M_20 rfl dM_isDone_458 ?_
  refine lv_aload_n hx hb dM_isDone_461 rfl (lv_at hl 7 rfl) ?_
  refine zGetM hx hb hw hown hK hP 0 rfl 10 (by decide) wf_M_49 rfl dM_isDone_462 ?_
  refine lv_iconst (v := nI 2) hx hb dM_isDone_465 (by decide) ?_
  refine lv_isub hx hb dM_isDone_466 ?_
  refine zti (zsub _ (by omega)) ?_
  refine lv_lload hx hb dM_isDone_467 (lv_at hl 1 rfl) ?_
  refine zLast hx hb hK hP hD hS 4 3 rfl rfl (by omega) (by decide) dM_isDone_469 (fun H locs hP hD hS => ?_)
  replace hP : va_P D vwCl (mW A C ops nums vals (vp_updL (vp_updL st (d - 1) (st (d - 2))) (d - 2) (st (d - 1))) ce pk pv n vc sp d pr tk th tr) H := hP
  replace hD : va_D F (mW A C ops nums vals (vp_updL (vp_updL st (d - 1) (st (d - 2))) (d - 2) (st (d - 1))) ce pk pv n vc sp d pr tk th tr) := hD
  refine lv_goto (tgt := 706) hx hb dM_isDone_470 rfl ?_
  refine lv_goto (tgt := 3) hx hb dM_isDone_706 rfl ?_
  replace hP : va_P D vwCl (mW A C ops nums vals (vp_updL (vp_updL st (d - 2) (st (d - 1))) (d - 1) (st (d - 2))) ce pk pv n vc sp d pr tk th tr) H := by rw [updL_comm _ (by omega)]; exact hP
  replace hD : va_D F (mW A C ops nums vals (vp_updL (vp_updL st (d - 2) (st (d - 1))) (d - 1) (st (d - 2))) ce pk pv n vc sp d pr tk th tr) := by rw [updL_comm _ (by omega)]; exact hD
  exact kk _ _ _ hP hD hS (lv_sub hl [4, 7, 8, 9] rfl)
set_option maxRecDepth 20000 in
set_option maxHeartbeats 4000000 in
theorem mO15 {p : Program} {l : Launch} {e : Env} {s : State} {m : MethodId} {args : Array Value} {below : List Frame} {meth : Method} {c : Code} {F : Nat → Prop} {D : va_G} {A : Nat → Nat} {C : Nat → ClassId} (hx : p.tables.exec = Jvm.exec) (hb : c.code = cM_isDone) (hr : meth.sig.returnType = (some .boolean)) (hlk : meth.locks = false) (hml : c.maxLocals = 14) (hw : ∀ w ∈ WS, w.before args s = true) (hown : s.vm.findClass RM = some m.cls) (hK : va_K D vwCl (mT C) s) (hA : ∀ q, s.heap.size ≤ q → F q) {Q : State → Prop} {ls : Array Slot} {H : Heap} {locs : List Loc} {ops : Nat → Int32} {nums vals st ce pk pv : Nat → Int64} {n vc sp d pr tk th tr : Nat} {w pl : Nat} {key x : Int64} {i : Nat} (hd : d ≤ 12) (hw2 : w ≤ 2) (hvc : vc ≤ 40) (htk : tk ≤ vc) (hpr : pr ≤ 4) (hpl : pl ≤ 40) (hP : va_P D vwCl (mW A C ops nums vals st ce pk pv n vc sp d pr tk th tr) H) (hD : va_D F (mW A C ops nums vals st ce pk pv n vc sp d pr tk th tr)) (hS : va_S F s.heap H locs) (hl : lv_has ls 14 [(4, .int (nI pl)), (6, .long (lN i)), (5, .int (nI 15)), (0, .ref (A 0)), (1, .int (nI w)), (2, .long key)]) (kk : ∀ (ls : Array Slot) (H : Heap) (locs : List Loc), va_P D vwCl (mW A C ops nums vals st ce pk pv n vc sp d pr tk th tr) H → va_D F (mW A C ops nums vals st ce pk pv n vc sp d pr tk th tr) → va_S F s.heap H locs → lv_has ls 14 [(4, .int (nI i)), (0, .ref (A 0)), (1, .int (nI w)), (2, .long key)] → W p l e (rmk 0 0) s m args below meth c H locs 0 0 Q (F0 m 3 ls [])) : W p l e (rmk 0 0) s m args below meth c H locs 0 0 Q (F0 m 55 ls []) := by
  refine lv_iload hx hb dM_isDone_55 (lv_at hl 2 rfl) ?_
  refine lv_iconst (v := nI 4) hx hb dM_isDone_57 (by decide) ?_
  refine zc_le (tgt := 68) hx hb dM_isDone_58 rfl (by omega) (by omega) (fun q => absurd q (by omega)) (fun _ => ?_)
  refine lv_iload hx hb dM_isDone_61 (lv_at hl 2 rfl) ?_
  refine lv_bipush (v := nI 12) hx hb dM_isDone_63 (by decide) ?_
  refine zc_ne (tgt := 72) hx hb dM_isDone_65 rfl (by omega) (by omega) (fun _ => ?_) (fun q => absurd q (by omega))
  refine lv_iconst (v := nI 0) hx hb dM_isDone_72 (by decide) ?_
  refine lv_istore hx hb dM_isDone_73 hl (by decide) rfl (fun ls hl => ?_)
  have hl : lv_has ls 14 [(8, .int (nI 0)), (4, .int (nI pl)), (6, .long (lN i)), (5, .int (nI 15)), (0, .ref (A 0)), (1, .int (nI w)), (2, .long key)] := hl
  refine lv_iload hx hb dM_isDone_75 (lv_at hl 3 rfl) ?_
  refine lv_bipush (v := nI 6) hx hb dM_isDone_77 (by decide) ?_
  refine zc_lt (tgt := 89) hx hb dM_isDone_79 rfl (by omega) (by omega) (fun q => absurd q (by omega)) (fun _ => ?_)
  refine lv_iload hx hb dM_isDone_82 (lv_at hl 3 rfl) ?_
  refine lv_bipush (v := nI 11) hx hb dM_isDone_84 (by decide) ?_
  refine zc_le (tgt := 108) hx hb dM_isDone_86 rfl (by omega) (by omega) (fun q => absurd q (by omega)) (fun _ => ?_)
  refine lv_iload hx hb dM_isDone_89 (lv_at hl 3 rfl) ?_
  refine lv_bipush (v := nI 14) hx hb dM_isDone_91 (by decide) ?_
  refine zc_eq (tgt := 108) hx hb dM_isDone_93 rfl (by omega) (by omega) (fun q => absurd q (by omega)) (fun _ => ?_)
  refine lv_iload hx hb dM_isDone_96 (lv_at hl 3 rfl) ?_
  refine lv_bipush (v := nI 17) hx hb dM_isDone_98 (by decide) ?_
  refine zc_ne (tgt := 112) hx hb dM_isDone_100 rfl (by omega) (by omega) (fun _ => ?_) (fun q => absurd q (by omega))
  refine lv_iload hx hb dM_isDone_112 (lv_at hl 3 rfl) ?_
  refine lv_iconst (v := nI 5) hx hb dM_isDone_114 (by decide) ?_
  refine zc_eq (tgt := 146) hx hb dM_isDone_115 rfl (by omega) (by omega) (fun q => absurd q (by omega)) (fun _ => ?_)
  refine lv_iload hx hb dM_isDone_118 (lv_at hl 3 rfl) ?_
  refine lv_bipush (v := nI 12) hx hb dM_isDone_120 (by decide) ?_
  refine zc_eq (tgt := 146) hx hb dM_isDone_122 rfl (by omega) (by omega) (fun q => absurd q (by omega)) (fun _ => ?_)
  refine lv_iload hx hb dM_isDone_125 (lv_at hl 3 rfl) ?_
  refine lv_bipush (v := nI 13) hx hb dM_isDone_127 (by decide) ?_
  refine zc_eq (tgt := 146) hx hb dM_isDone_129 rfl (by omega) (by omega) (fun q => absurd q (by omega)) (fun _ => ?_)
  refine lv_iload hx hb dM_isDone_132 (lv_at hl 3 rfl) ?_
  refine lv_bipush (v := nI 16) hx hb dM_isDone_134 (by decide) ?_
  refine zc_eq (tgt := 146) hx hb dM_isDone_136 rfl (by omega) (by omega) (fun q => absurd q (by omega)) (fun _ => ?_)
  refine lv_iload hx hb dM_isDone_139 (lv_at hl 3 rfl) ?_
  refine lv_bipush (v := nI 17) hx hb dM_isDone_141 (by decide) ?_
  refine zc_ne (tgt := 150) hx hb dM_isDone_143 rfl (by omega) (by omega) (fun _ => ?_) (fun q => absurd q (by omega))
  refine lv_iconst (v := nI 0) hx hb dM_isDone_150 (by decide) ?_
  refine lv_istore hx hb dM_isDone_151 hl (by decide) rfl (fun ls hl => ?_)
  have hl : lv_has ls 14 [(9, .int (nI 0)), (8, .int (nI 0)), (4, .int (nI pl)), (6, .long (lN i)), (5, .int (nI 15)), (0, .ref (A 0)), (1, .int (nI w)), (2, .long key)] := hl
  refine lv_aload_n hx hb dM_isDone_153 rfl (lv_at hl 5 rfl) ?_
  refine zGetM hx hb hw hown hK hP 0 rfl 10 (by decide) wf_M_49 rfl dM_isDone_154 ?_
  refine lv_iload hx hb dM_isDone_157 (lv_at hl 0 rfl) ?_
  refine zc_lt (tgt := 176) hx hb dM_isDone_159 rfl (by omega) (by omega) (fun q => absurd q (by omega)) (fun _ => ?_)
  refine lv_iload hx hb dM_isDone_162 (lv_at hl 1 rfl) ?_
  refine zi_eq (tgt := 178) hx hb dM_isDone_164 rfl (by omega) (fun _ => ?_) (fun q => absurd q (by omega))
  refine lv_iload hx hb dM_isDone_178 (lv_at hl 0 rfl) ?_
  refine zi_le (tgt := 197) hx hb dM_isDone_180 rfl (by omega) (fun _ => ?_) (fun q => absurd q (by omega))
  refine lv_lconst (v := 0) hx hb dM_isDone_197 (by decide) ?_
  refine lv_lstore hx hb dM_isDone_198 hl (by decide) rfl (fun ls hl => ?_)
  have hl : lv_has ls 14 [(10, .long (0 : Int64)), (9, .int (nI 0)), (8, .int (nI 0)), (4, .int (nI pl)), (6, .long (lN i)), (5, .int (nI 15)), (0, .ref (A 0)), (1, .int (nI w)), (2, .long key)] := hl
  refine lv_iload hx hb dM_isDone_200 (lv_at hl 1 rfl) ?_
  refine lv_iconst (v := nI 1) hx hb dM_isDone_202 (by decide) ?_
  refine zc_le (tgt := 220) hx hb dM_isDone_203 rfl (by omega) (by omega) (fun _ => ?_) (fun q => absurd q (by omega))
  refine lv_lconst (v := 0) hx hb dM_isDone_220 (by decide) ?_
  refine lv_lstore hx hb dM_isDone_221 hl (by decide) rfl (fun ls hl => ?_)
  have hl : lv_has ls 14 [(12, .long (0 : Int64)), (10, .long (0 : Int64)), (9, .int (nI 0)), (8, .int (nI 0)), (4, .int (nI pl)), (6, .long (lN i)), (5, .int (nI 15)), (0, .ref (A 0)), (1, .int (nI w)), (2, .long key)] := hl
  refine lv_iload hx hb dM_isDone_223 (lv_at hl 6 rfl) ?_
  refine lv_bipush (v := nI 18) hx hb dM_isDone_225 (by decide) ?_
  refine zc_ne (tgt := 232) hx hb dM_isDone_227 rfl (by omega) (by omega) (fun _ => ?_) (fun q => absurd q (by omega))
  refine lv_iload hx hb dM_isDone_232 (lv_at hl 6 rfl) ?_
  refine lv_iconst (v := nI 2) hx hb dM_isDone_234 (by decide) ?_
  refine zc_ne (tgt := 265) hx hb dM_isDone_235 rfl (by omega) (by omega) (fun _ => ?_) (fun q => absurd q (by omega))
  refine lv_iload hx hb dM_isDone_265 (lv_at hl 6 rfl) ?_
  refine lv_bipush (v := nI 9) hx hb dM_isDone_267 (by decide) ?_
  refine zc_ne (tgt := 279) hx hb dM_isDone_269 rfl (by omega) (by omega) (fun _ => ?_) (fun q => absurd q (by omega))
  refine lv_iload hx hb dM_isDone_279 (lv_at hl 6 rfl) ?_
  refine lv_bipush (v := nI 17) hx hb dM_isDone_281 (by decide) ?_
  refine zc_ne (tgt := 296) hx hb dM_isDone_283 rfl (by omega) (by omega) (fun _ => ?_) (fun q => absurd q (by omega))
  refine lv_iload hx hb dM_isDone_296 (lv_at hl 3 rfl) ?_
  refine zi_eq (tgt := 437) hx hb dM_isDone_298 rfl (by omega) (fun _ => ?_) (fun q => absurd q (by omega))
  refine lv_iload hx hb dM_isDone_437 (lv_at hl 6 rfl) ?_
  refine lv_bipush (v := nI 14) hx hb dM_isDone_439 (by decide) ?_
  refine zc_ne (tgt := 473) hx hb dM_isDone_441 rfl (by omega) (by omega) (fun _ => ?_) (fun q => absurd q (by omega))
  refine lv_iload hx hb dM_isDone_473 (lv_at hl 6 rfl) ?_
  refine lv_bipush (v := nI 15) hx hb dM_isDone_475 (by decide) ?_
  refine zc_ne (tgt := 488) hx hb dM_isDone_477 rfl (by omega) (by omega) (fun q => absurd q (by omega)) (fun _ => ?_)
  refine lv_lload hx hb dM_isDone_480 (lv_at hl 5 rfl) ?_
  refine lv_l2i hx hb dM_isDone_482 (lN_i _) ?_
  refine lv_istore hx hb dM_isDone_483 hl (by decide) rfl (fun ls hl => ?_)
  have hl : lv_has ls 14 [(4, .int (nI i)), (12, .long (0 : Int64)), (10, .long (0 : Int64)), (9, .int (nI 0)), (8, .int (nI 0)), (6, .long (lN i)), (5, .int (nI 15)), (0, .ref (A 0)), (1, .int (nI w)), (2, .long key)] := hl
  refine lv_goto (tgt := 706) hx hb dM_isDone_485 rfl ?_
  refine lv_goto (tgt := 3) hx hb dM_isDone_706 rfl ?_
  exact kk _ _ _ hP hD hS (lv_sub hl [0, 7, 8, 9] rfl)
set_option maxRecDepth 20000 in
set_option maxHeartbeats 4000000 in
theorem mO16Y {p : Program} {l : Launch} {e : Env} {s : State} {m : MethodId} {args : Array Value} {below : List Frame} {meth : Method} {c : Code} {F : Nat → Prop} {D : va_G} {A : Nat → Nat} {C : Nat → ClassId} (hx : p.tables.exec = Jvm.exec) (hb : c.code = cM_isDone) (hr : meth.sig.returnType = (some .boolean)) (hlk : meth.locks = false) (hml : c.maxLocals = 14) (hw : ∀ w ∈ WS, w.before args s = true) (hown : s.vm.findClass RM = some m.cls) (hK : va_K D vwCl (mT C) s) (hA : ∀ q, s.heap.size ≤ q → F q) {Q : State → Prop} {ls : Array Slot} {H : Heap} {locs : List Loc} {ops : Nat → Int32} {nums vals st ce pk pv : Nat → Int64} {n vc sp d pr tk th tr : Nat} {w pl : Nat} {key x : Int64} {i : Nat} (hd : d ≤ 12) (hw2 : w ≤ 2) (hvc : vc ≤ 40) (htk : tk ≤ vc) (hpr : pr ≤ 4) (hpl : pl ≤ 40) (h1 : 1 ≤ d) (hz : st (d - 1) = 0) (hP : va_P D vwCl (mW A C ops nums vals st ce pk pv n vc sp d pr tk th tr) H) (hD : va_D F (mW A C ops nums vals st ce pk pv n vc sp d pr tk th tr)) (hS : va_S F s.heap H locs) (hl : lv_has ls 14 [(4, .int (nI pl)), (6, .long (lN i)), (5, .int (nI 16)), (0, .ref (A 0)), (1, .int (nI w)), (2, .long key)]) (kk : ∀ (ls : Array Slot) (H : Heap) (locs : List Loc), va_P D vwCl (mW A C ops nums vals st ce pk pv n vc sp (d - 1) pr tk th tr) H → va_D F (mW A C ops nums vals st ce pk pv n vc sp (d - 1) pr tk th tr) → va_S F s.heap H locs → lv_has ls 14 [(4, .int (nI i)), (0, .ref (A 0)), (1, .int (nI w)), (2, .long key)] → W p l e (rmk 0 0) s m args below meth c H locs 0 0 Q (F0 m 3 ls [])) : W p l e (rmk 0 0) s m args below meth c H locs 0 0 Q (F0 m 55 ls []) := by
  refine lv_iload hx hb dM_isDone_55 (lv_at hl 2 rfl) ?_
  refine lv_iconst (v := nI 4) hx hb dM_isDone_57 (by decide) ?_
  refine zc_le (tgt := 68) hx hb dM_isDone_58 rfl (by omega) (by omega) (fun q => absurd q (by omega)) (fun _ => ?_)
  refine lv_iload hx hb dM_isDone_61 (lv_at hl 2 rfl) ?_
  refine lv_bipush (v := nI 12) hx hb dM_isDone_63 (by decide) ?_
  refine zc_ne (tgt := 72) hx hb dM_isDone_65 rfl (by omega) (by omega) (fun _ => ?_) (fun q => absurd q (by omega))
  refine lv_iconst (v := nI 0) hx hb dM_isDone_72 (by decide) ?_
  refine lv_istore hx hb dM_isDone_73 hl (by decide) rfl (fun ls hl => ?_)
  have hl : lv_has ls 14 [(8, .int (nI 0)), (4, .int (nI pl)), (6, .long (lN i)), (5, .int (nI 16)), (0, .ref (A 0)), (1, .int (nI w)), (2, .long key)] := hl
  refine lv_iload hx hb dM_isDone_75 (lv_at hl 3 rfl) ?_
  refine lv_bipush (v := nI 6) hx hb dM_isDone_77 (by decide) ?_
  refine zc_lt (tgt := 89) hx hb dM_isDone_79 rfl (by omega) (by omega) (fun q => absurd q (by omega)) (fun _ => ?_)
  refine lv_iload hx hb dM_isDone_82 (lv_at hl 3 rfl) ?_
  refine lv_bipush (v := nI 11) hx hb dM_isDone_84 (by decide) ?_
  refine zc_le (tgt := 108) hx hb dM_isDone_86 rfl (by omega) (by omega) (fun q => absurd q (by omega)) (fun _ => ?_)
  refine lv_iload hx hb dM_isDone_89 (lv_at hl 3 rfl) ?_
  refine lv_bipush (v := nI 14) hx hb dM_isDone_91 (by decide) ?_
  refine zc_eq (tgt := 108) hx hb dM_isDone_93 rfl (by omega) (by omega) (fun q => absurd q (by omega)) (fun _ => ?_)
  refine lv_iload hx hb dM_isDone_96 (lv_at hl 3 rfl) ?_
  refine lv_bipush (v := nI 17) hx hb dM_isDone_98 (by decide) ?_
  refine zc_ne (tgt := 112) hx hb dM_isDone_100 rfl (by omega) (by omega) (fun _ => ?_) (fun q => absurd q (by omega))
  refine lv_iload hx hb dM_isDone_112 (lv_at hl 3 rfl) ?_
  refine lv_iconst (v := nI 5) hx hb dM_isDone_114 (by decide) ?_
  refine zc_eq (tgt := 146) hx hb dM_isDone_115 rfl (by omega) (by omega) (fun q => absurd q (by omega)) (fun _ => ?_)
  refine lv_iload hx hb dM_isDone_118 (lv_at hl 3 rfl) ?_
  refine lv_bipush (v := nI 12) hx hb dM_isDone_120 (by decide) ?_
  refine zc_eq (tgt := 146) hx hb dM_isDone_122 rfl (by omega) (by omega) (fun q => absurd q (by omega)) (fun _ => ?_)
  refine lv_iload hx hb dM_isDone_125 (lv_at hl 3 rfl) ?_
  refine lv_bipush (v := nI 13) hx hb dM_isDone_127 (by decide) ?_
  refine zc_eq (tgt := 146) hx hb dM_isDone_129 rfl (by omega) (by omega) (fun q => absurd q (by omega)) (fun _ => ?_)
  refine lv_iload hx hb dM_isDone_132 (lv_at hl 3 rfl) ?_
  refine lv_bipush (v := nI 16) hx hb dM_isDone_134 (by decide) ?_
  refine zc_eq (tgt := 146) hx hb dM_isDone_136 rfl (by omega) (by omega) (fun _ => ?_) (fun q => absurd q (by omega))
  refine lv_iconst (v := nI 1) hx hb dM_isDone_146 (by decide) ?_
  refine lv_goto (tgt := 151) hx hb dM_isDone_147 rfl ?_
  refine lv_istore hx hb dM_isDone_151 hl (by decide) rfl (fun ls hl => ?_)
  have hl : lv_has ls 14 [(9, .int (nI 1)), (8, .int (nI 0)), (4, .int (nI pl)), (6, .long (lN i)), (5, .int (nI 16)), (0, .ref (A 0)), (1, .int (nI w)), (2, .long key)] := hl
  refine lv_aload_n hx hb dM_isDone_153 rfl (lv_at hl 5 rfl) ?_
  refine zGetM hx hb hw hown hK hP 0 rfl 10 (by decide) wf_M_49 rfl dM_isDone_154 ?_
  refine lv_iload hx hb dM_isDone_157 (lv_at hl 0 rfl) ?_
  refine zc_lt (tgt := 176) hx hb dM_isDone_159 rfl (by omega) (by omega) (fun q => absurd q (by omega)) (fun _ => ?_)
  refine lv_iload hx hb dM_isDone_162 (lv_at hl 1 rfl) ?_
  refine zi_eq (tgt := 178) hx hb dM_isDone_164 rfl (by omega) (fun _ => ?_) (fun q => absurd q (by omega))
  refine lv_iload hx hb dM_isDone_178 (lv_at hl 0 rfl) ?_
  refine zi_le (tgt := 197) hx hb dM_isDone_180 rfl (by omega) (fun q => absurd q (by omega)) (fun _ => ?_)
  refine lv_aload_n hx hb dM_isDone_183 rfl (lv_at hl 5 rfl) ?_
  refine zGetM hx hb hw hown hK hP 0 rfl 3 (by decide) wf_M_20 rfl dM_isDone_184 ?_
  refine lv_aload_n hx hb dM_isDone_187 rfl (lv_at hl 5 rfl) ?_
  refine zGetM hx hb hw hown hK hP 0 rfl 10 (by decide) wf_M_49 rfl dM_isDone_188 ?_
  refine lv_iconst (v := nI 1) hx hb dM_isDone_191 (by decide) ?_
  refine lv_isub hx hb dM_isDone_192 ?_
  refine zti (zsub _ (by omega)) ?_
  refine zLald hx hb hK hP 4 3 rfl rfl (by omega) (by decide) dM_isDone_193 ?_
  refine lv_goto (tgt := 198) hx hb dM_isDone_194 rfl ?_
  refine lv_lstore hx hb dM_isDone_198 hl (by decide) rfl (fun ls hl => ?_)
  have hl : lv_has ls 14 [(10, .long (st (d - 1))), (9, .int (nI 1)), (8, .int (nI 0)), (4, .int (nI pl)), (6, .long (lN i)), (5, .int (nI 16)), (0, .ref (A 0)), (1, .int (nI w)), (2, .long key)] := hl
  refine lv_iload hx hb dM_isDone_200 (lv_at hl 1 rfl) ?_
  refine lv_iconst (v := nI 1) hx hb dM_isDone_202 (by decide) ?_
  refine zc_le (tgt := 220) hx hb dM_isDone_203 rfl (by omega) (by omega) (fun _ => ?_) (fun q => absurd q (by omega))
  refine lv_lconst (v := 0) hx hb dM_isDone_220 (by decide) ?_
  refine lv_lstore hx hb dM_isDone_221 hl (by decide) rfl (fun ls hl => ?_)
  have hl : lv_has ls 14 [(12, .long (0 : Int64)), (10, .long (st (d - 1))), (9, .int (nI 1)), (8, .int (nI 0)), (4, .int (nI pl)), (6, .long (lN i)), (5, .int (nI 16)), (0, .ref (A 0)), (1, .int (nI w)), (2, .long key)] := hl
  refine lv_iload hx hb dM_isDone_223 (lv_at hl 6 rfl) ?_
  refine lv_bipush (v := nI 18) hx hb dM_isDone_225 (by decide) ?_
  refine zc_ne (tgt := 232) hx hb dM_isDone_227 rfl (by omega) (by omega) (fun _ => ?_) (fun q => absurd q (by omega))
  refine lv_iload hx hb dM_isDone_232 (lv_at hl 6 rfl) ?_
  refine lv_iconst (v := nI 2) hx hb dM_isDone_234 (by decide) ?_
  refine zc_ne (tgt := 265) hx hb dM_isDone_235 rfl (by omega) (by omega) (fun _ => ?_) (fun q => absurd q (by omega))
  refine lv_iload hx hb dM_isDone_265 (lv_at hl 6 rfl) ?_
  refine lv_bipush (v := nI 9) hx hb dM_isDone_267 (by decide) ?_
  refine zc_ne (tgt := 279) hx hb dM_isDone_269 rfl (by omega) (by omega) (fun _ => ?_) (fun q => absurd q (by omega))
  refine lv_iload hx hb dM_isDone_279 (lv_at hl 6 rfl) ?_
  refine lv_bipush (v := nI 17) hx hb dM_isDone_281 (by decide) ?_
  refine zc_ne (tgt := 296) hx hb dM_isDone_283 rfl (by omega) (by omega) (fun _ => ?_) (fun q => absurd q (by omega))
  refine lv_iload hx hb dM_isDone_296 (lv_at hl 3 rfl) ?_
  refine zi_eq (tgt := 437) hx hb dM_isDone_298 rfl (by omega) (fun _ => ?_) (fun q => absurd q (by omega))
  refine lv_iload hx hb dM_isDone_437 (lv_at hl 6 rfl) ?_
  refine lv_bipush (v := nI 14) hx hb dM_isDone_439 (by decide) ?_
  refine zc_ne (tgt := 473) hx hb dM_isDone_441 rfl (by omega) (by omega) (fun _ => ?_) (fun q => absurd q (by omega))
  refine lv_iload hx hb dM_isDone_473 (lv_at hl 6 rfl) ?_
  refine lv_bipush (v := nI 15) hx hb dM_isDone_475 (by decide) ?_
  refine zc_ne (tgt := 488) hx hb dM_isDone_477 rfl (by omega) (by omega) (fun _ => ?_) (fun q => absurd q (by omega))
  refine lv_aload_n hx hb dM_isDone_488 rfl (lv_at hl 7 rfl) ?_
  refine lv_dup hx hb dM_isDone_489 rfl ?_
  refine zGetM hx hb hw hown hK hP 0 rfl 10 (by decide) wf_M_49 rfl dM_isDone_490 ?_
  refine lv_iload hx hb dM_isDone_493 (lv_at hl 2 rfl) ?_
  refine lv_isub hx hb dM_isDone_495 ?_
  refine zti (zsub _ (by omega)) ?_
  refine zPutM hx hb hw hown hK hP hD hS 0 rfl 10 (by decide) wf_M_49 rfl rfl rfl (Nat.le_of_ble_eq_true rfl) dM_isDone_496 (fun H locs hP hD hS => ?_)
  replace hP : va_P D vwCl (mW A C ops nums vals st ce pk pv n vc sp (d - 1) pr tk th tr) H := hP
  replace hD : va_D F (mW A C ops nums vals st ce pk pv n vc sp (d - 1) pr tk th tr) := hD
  refine lv_iload hx hb dM_isDone_499 (lv_at hl 6 rfl) ?_
  refine lv_iconst (v := nI 5) hx hb dM_isDone_501 (by decide) ?_
  refine zc_ne (tgt := 515) hx hb dM_isDone_502 rfl (by omega) (by omega) (fun _ => ?_) (fun q => absurd q (by omega))
  refine lv_iload hx hb dM_isDone_515 (lv_at hl 6 rfl) ?_
  refine lv_bipush (v := nI 16) hx hb dM_isDone_517 (by decide) ?_
  refine zc_ne (tgt := 534) hx hb dM_isDone_519 rfl (by omega) (by omega) (fun q => absurd q (by omega)) (fun _ => ?_)
  refine lv_lload hx hb dM_isDone_522 (lv_at hl 1 rfl) ?_
  refine lv_lconst (v := 0) hx hb dM_isDone_524 (by decide) ?_
  refine W.lcmp hx hb dM_isDone_525 ?_
  refine zl_ne (tgt := 534) hx hb dM_isDone_526 rfl (fun q => absurd q (by exact fun q => q hz)) (fun _ => ?_)
  refine lv_lload hx hb dM_isDone_529 (lv_at hl 5 rfl) ?_
  refine lv_l2i hx hb dM_isDone_531 (lN_i _) ?_
  refine lv_istore hx hb dM_isDone_532 hl (by decide) rfl (fun ls hl => ?_)
  have hl : lv_has ls 14 [(4, .int (nI i)), (12, .long (0 : Int64)), (10, .long (st (d - 1))), (9, .int (nI 1)), (8, .int (nI 0)), (6, .long (lN i)), (5, .int (nI 16)), (0, .ref (A 0)), (1, .int (nI w)), (2, .long key)] := hl
  refine lv_iload hx hb dM_isDone_534 (lv_at hl 6 rfl) ?_
  refine lv_bipush (v := nI 17) hx hb dM_isDone_536 (by decide) ?_
  refine zc_ne (tgt := 582) hx hb dM_isDone_538 rfl (by omega) (by omega) (fun _ => ?_) (fun q => absurd q (by omega))
  refine lv_iload hx hb dM_isDone_582 (lv_at hl 6 rfl) ?_
  refine lv_bipush (v := nI 6) hx hb dM_isDone_584 (by decide) ?_
  refine zc_lt (tgt := 706) hx hb dM_isDone_586 rfl (by omega) (by omega) (fun q => absurd q (by omega)) (fun _ => ?_)
  refine lv_iload hx hb dM_isDone_589 (lv_at hl 6 rfl) ?_
  refine lv_bipush (v := nI 11) hx hb dM_isDone_591 (by decide) ?_
  refine zc_gt (tgt := 706) hx hb dM_isDone_593 rfl (by omega) (by omega) (fun _ => ?_) (fun q => absurd q (by omega))
  refine lv_goto (tgt := 3) hx hb dM_isDone_706 rfl ?_
  exact kk _ _ _ hP hD hS (lv_sub hl [0, 7, 8, 9] rfl)
set_option maxRecDepth 20000 in
set_option maxHeartbeats 4000000 in
theorem mO16N {p : Program} {l : Launch} {e : Env} {s : State} {m : MethodId} {args : Array Value} {below : List Frame} {meth : Method} {c : Code} {F : Nat → Prop} {D : va_G} {A : Nat → Nat} {C : Nat → ClassId} (hx : p.tables.exec = Jvm.exec) (hb : c.code = cM_isDone) (hr : meth.sig.returnType = (some .boolean)) (hlk : meth.locks = false) (hml : c.maxLocals = 14) (hw : ∀ w ∈ WS, w.before args s = true) (hown : s.vm.findClass RM = some m.cls) (hK : va_K D vwCl (mT C) s) (hA : ∀ q, s.heap.size ≤ q → F q) {Q : State → Prop} {ls : Array Slot} {H : Heap} {locs : List Loc} {ops : Nat → Int32} {nums vals st ce pk pv : Nat → Int64} {n vc sp d pr tk th tr : Nat} {w pl : Nat} {key x : Int64} {i : Nat} (hd : d ≤ 12) (hw2 : w ≤ 2) (hvc : vc ≤ 40) (htk : tk ≤ vc) (hpr : pr ≤ 4) (hpl : pl ≤ 40) (h1 : 1 ≤ d) (hz : ¬ st (d - 1) = 0) (hP : va_P D vwCl (mW A C ops nums vals st ce pk pv n vc sp d pr tk th tr) H) (hD : va_D F (mW A C ops nums vals st ce pk pv n vc sp d pr tk th tr)) (hS : va_S F s.heap H locs) (hl : lv_has ls 14 [(4, .int (nI pl)), (6, .long (lN i)), (5, .int (nI 16)), (0, .ref (A 0)), (1, .int (nI w)), (2, .long key)]) (kk : ∀ (ls : Array Slot) (H : Heap) (locs : List Loc), va_P D vwCl (mW A C ops nums vals st ce pk pv n vc sp (d - 1) pr tk th tr) H → va_D F (mW A C ops nums vals st ce pk pv n vc sp (d - 1) pr tk th tr) → va_S F s.heap H locs → lv_has ls 14 [(4, .int (nI pl)), (0, .ref (A 0)), (1, .int (nI w)), (2, .long key)] → W p l e (rmk 0 0) s m args below meth c H locs 0 0 Q (F0 m 3 ls [])) : W p l e (rmk 0 0) s m args below meth c H locs 0 0 Q (F0 m 55 ls []) := by
  refine lv_iload hx hb dM_isDone_55 (lv_at hl 2 rfl) ?_
  refine lv_iconst (v := nI 4) hx hb dM_isDone_57 (by decide) ?_
  refine zc_le (tgt := 68) hx hb dM_isDone_58 rfl (by omega) (by omega) (fun q => absurd q (by omega)) (fun _ => ?_)
  refine lv_iload hx hb dM_isDone_61 (lv_at hl 2 rfl) ?_
  refine lv_bipush (v := nI 12) hx hb dM_isDone_63 (by decide) ?_
  refine zc_ne (tgt := 72) hx hb dM_isDone_65 rfl (by omega) (by omega) (fun _ => ?_) (fun q => absurd q (by omega))
  refine lv_iconst (v := nI 0) hx hb dM_isDone_72 (by decide) ?_
  refine lv_istore hx hb dM_isDone_73 hl (by decide) rfl (fun ls hl => ?_)
  have hl : lv_has ls 14 [(8, .int (nI 0)), (4, .int (nI pl)), (6, .long (lN i)), (5, .int (nI 16)), (0, .ref (A 0)), (1, .int (nI w)), (2, .long key)] := hl
  refine lv_iload hx hb dM_isDone_75 (lv_at hl 3 rfl) ?_
  refine lv_bipush (v := nI 6) hx hb dM_isDone_77 (by decide) ?_
  refine zc_lt (tgt := 89) hx hb dM_isDone_79 rfl (by omega) (by omega) (fun q => absurd q (by omega)) (fun _ => ?_)
  refine lv_iload hx hb dM_isDone_82 (lv_at hl 3 rfl) ?_
  refine lv_bipush (v := nI 11) hx hb dM_isDone_84 (by decide) ?_
  refine zc_le (tgt := 108) hx hb dM_isDone_86 rfl (by omega) (by omega) (fun q => absurd q (by omega)) (fun _ => ?_)
  refine lv_iload hx hb dM_isDone_89 (lv_at hl 3 rfl) ?_
  refine lv_bipush (v := nI 14) hx hb dM_isDone_91 (by decide) ?_
  refine zc_eq (tgt := 108) hx hb dM_isDone_93 rfl (by omega) (by omega) (fun q => absurd q (by omega)) (fun _ => ?_)
  refine lv_iload hx hb dM_isDone_96 (lv_at hl 3 rfl) ?_
  refine lv_bipush (v := nI 17) hx hb dM_isDone_98 (by decide) ?_
  refine zc_ne (tgt := 112) hx hb dM_isDone_100 rfl (by omega) (by omega) (fun _ => ?_) (fun q => absurd q (by omega))
  refine lv_iload hx hb dM_isDone_112 (lv_at hl 3 rfl) ?_
  refine lv_iconst (v := nI 5) hx hb dM_isDone_114 (by decide) ?_
  refine zc_eq (tgt := 146) hx hb dM_isDone_115 rfl (by omega) (by omega) (fun q => absurd q (by omega)) (fun _ => ?_)
  refine lv_iload hx hb dM_isDone_118 (lv_at hl 3 rfl) ?_
  refine lv_bipush (v := nI 12) hx hb dM_isDone_120 (by decide) ?_
  refine zc_eq (tgt := 146) hx hb dM_isDone_122 rfl (by omega) (by omega) (fun q => absurd q (by omega)) (fun _ => ?_)
  refine lv_iload hx hb dM_isDone_125 (lv_at hl 3 rfl) ?_
  refine lv_bipush (v := nI 13) hx hb dM_isDone_127 (by decide) ?_
  refine zc_eq (tgt := 146) hx hb dM_isDone_129 rfl (by omega) (by omega) (fun q => absurd q (by omega)) (fun _ => ?_)
  refine lv_iload hx hb dM_isDone_132 (lv_at hl 3 rfl) ?_
  refine lv_bipush (v := nI 16) hx hb dM_isDone_134 (by decide) ?_
  refine zc_eq (tgt := 146) hx hb dM_isDone_136 rfl (by omega) (by omega) (fun _ => ?_) (fun q => absurd q (by omega))
  refine lv_iconst (v := nI 1) hx hb dM_isDone_146 (by decide) ?_
  refine lv_goto (tgt := 151) hx hb dM_isDone_147 rfl ?_
  refine lv_istore hx hb dM_isDone_151 hl (by decide) rfl (fun ls hl => ?_)
  have hl : lv_has ls 14 [(9, .int (nI 1)), (8, .int (nI 0)), (4, .int (nI pl)), (6, .long (lN i)), (5, .int (nI 16)), (0, .ref (A 0)), (1, .int (nI w)), (2, .long key)] := hl
  refine lv_aload_n hx hb dM_isDone_153 rfl (lv_at hl 5 rfl) ?_
  refine zGetM hx hb hw hown hK hP 0 rfl 10 (by decide) wf_M_49 rfl dM_isDone_154 ?_
  refine lv_iload hx hb dM_isDone_157 (lv_at hl 0 rfl) ?_
  refine zc_lt (tgt := 176) hx hb dM_isDone_159 rfl (by omega) (by omega) (fun q => absurd q (by omega)) (fun _ => ?_)
  refine lv_iload hx hb dM_isDone_162 (lv_at hl 1 rfl) ?_
  refine zi_eq (tgt := 178) hx hb dM_isDone_164 rfl (by omega) (fun _ => ?_) (fun q => absurd q (by omega))
  refine lv_iload hx hb dM_isDone_178 (lv_at hl 0 rfl) ?_
  refine zi_le (tgt := 197) hx hb dM_isDone_180 rfl (by omega) (fun q => absurd q (by omega)) (fun _ => ?_)
  refine lv_aload_n hx hb dM_isDone_183 rfl (lv_at hl 5 rfl) ?_
  refine zGetM hx hb hw hown hK hP 0 rfl 3 (by decide) wf_M_20 rfl dM_isDone_184 ?_
  refine lv_aload_n hx hb dM_isDone_187 rfl (lv_at hl 5 rfl) ?_
  refine zGetM hx hb hw hown hK hP 0 rfl 10 (by decide) wf_M_49 rfl dM_isDone_188 ?_
  refine lv_iconst (v := nI 1) hx hb dM_isDone_191 (by decide) ?_
  refine lv_isub hx hb dM_isDone_192 ?_
  refine zti (zsub _ (by omega)) ?_
  refine zLald hx hb hK hP 4 3 rfl rfl (by omega) (by decide) dM_isDone_193 ?_
  refine lv_goto (tgt := 198) hx hb dM_isDone_194 rfl ?_
  refine lv_lstore hx hb dM_isDone_198 hl (by decide) rfl (fun ls hl => ?_)
  have hl : lv_has ls 14 [(10, .long (st (d - 1))), (9, .int (nI 1)), (8, .int (nI 0)), (4, .int (nI pl)), (6, .long (lN i)), (5, .int (nI 16)), (0, .ref (A 0)), (1, .int (nI w)), (2, .long key)] := hl
  refine lv_iload hx hb dM_isDone_200 (lv_at hl 1 rfl) ?_
  refine lv_iconst (v := nI 1) hx hb dM_isDone_202 (by decide) ?_
  refine zc_le (tgt := 220) hx hb dM_isDone_203 rfl (by omega) (by omega) (fun _ => ?_) (fun q => absurd q (by omega))
  refine lv_lconst (v := 0) hx hb dM_isDone_220 (by decide) ?_
  refine lv_lstore hx hb dM_isDone_221 hl (by decide) rfl (fun ls hl => ?_)
  have hl : lv_has ls 14 [(12, .long (0 : Int64)), (10, .long (st (d - 1))), (9, .int (nI 1)), (8, .int (nI 0)), (4, .int (nI pl)), (6, .long (lN i)), (5, .int (nI 16)), (0, .ref (A 0)), (1, .int (nI w)), (2, .long key)] := hl
  refine lv_iload hx hb dM_isDone_223 (lv_at hl 6 rfl) ?_
  refine lv_bipush (v := nI 18) hx hb dM_isDone_225 (by decide) ?_
  refine zc_ne (tgt := 232) hx hb dM_isDone_227 rfl (by omega) (by omega) (fun _ => ?_) (fun q => absurd q (by omega))
  refine lv_iload hx hb dM_isDone_232 (lv_at hl 6 rfl) ?_
  refine lv_iconst (v := nI 2) hx hb dM_isDone_234 (by decide) ?_
  refine zc_ne (tgt := 265) hx hb dM_isDone_235 rfl (by omega) (by omega) (fun _ => ?_) (fun q => absurd q (by omega))
  refine lv_iload hx hb dM_isDone_265 (lv_at hl 6 rfl) ?_
  refine lv_bipush (v := nI 9) hx hb dM_isDone_267 (by decide) ?_
  refine zc_ne (tgt := 279) hx hb dM_isDone_269 rfl (by omega) (by omega) (fun _ => ?_) (fun q => absurd q (by omega))
  refine lv_iload hx hb dM_isDone_279 (lv_at hl 6 rfl) ?_
  refine lv_bipush (v := nI 17) hx hb dM_isDone_281 (by decide) ?_
  refine zc_ne (tgt := 296) hx hb dM_isDone_283 rfl (by omega) (by omega) (fun _ => ?_) (fun q => absurd q (by omega))
  refine lv_iload hx hb dM_isDone_296 (lv_at hl 3 rfl) ?_
  refine zi_eq (tgt := 437) hx hb dM_isDone_298 rfl (by omega) (fun _ => ?_) (fun q => absurd q (by omega))
  refine lv_iload hx hb dM_isDone_437 (lv_at hl 6 rfl) ?_
  refine lv_bipush (v := nI 14) hx hb dM_isDone_439 (by decide) ?_
  refine zc_ne (tgt := 473) hx hb dM_isDone_441 rfl (by omega) (by omega) (fun _ => ?_) (fun q => absurd q (by omega))
  refine lv_iload hx hb dM_isDone_473 (lv_at hl 6 rfl) ?_
  refine lv_bipush (v := nI 15) hx hb dM_isDone_475 (by decide) ?_
  refine zc_ne (tgt := 488) hx hb dM_isDone_477 rfl (by omega) (by omega) (fun _ => ?_) (fun q => absurd q (by omega))
  refine lv_aload_n hx hb dM_isDone_488 rfl (lv_at hl 7 rfl) ?_
  refine lv_dup hx hb dM_isDone_489 rfl ?_
  refine zGetM hx hb hw hown hK hP 0 rfl 10 (by decide) wf_M_49 rfl dM_isDone_490 ?_
  refine lv_iload hx hb dM_isDone_493 (lv_at hl 2 rfl) ?_
  refine lv_isub hx hb dM_isDone_495 ?_
  refine zti (zsub _ (by omega)) ?_
  refine zPutM hx hb hw hown hK hP hD hS 0 rfl 10 (by decide) wf_M_49 rfl rfl rfl (Nat.le_of_ble_eq_true rfl) dM_isDone_496 (fun H locs hP hD hS => ?_)
  replace hP : va_P D vwCl (mW A C ops nums vals st ce pk pv n vc sp (d - 1) pr tk th tr) H := hP
  replace hD : va_D F (mW A C ops nums vals st ce pk pv n vc sp (d - 1) pr tk th tr) := hD
  refine lv_iload hx hb dM_isDone_499 (lv_at hl 6 rfl) ?_
  refine lv_iconst (v := nI 5) hx hb dM_isDone_501 (by decide) ?_
  refine zc_ne (tgt := 515) hx hb dM_isDone_502 rfl (by omega) (by omega) (fun _ => ?_) (fun q => absurd q (by omega))
  refine lv_iload hx hb dM_isDone_515 (lv_at hl 6 rfl) ?_
  refine lv_bipush (v := nI 16) hx hb dM_isDone_517 (by decide) ?_
  refine zc_ne (tgt := 534) hx hb dM_isDone_519 rfl (by omega) (by omega) (fun q => absurd q (by omega)) (fun _ => ?_)
  refine lv_lload hx hb dM_isDone_522 (lv_at hl 1 rfl) ?_
  refine lv_lconst (v := 0) hx hb dM_isDone_524 (by decide) ?_
  refine W.lcmp hx hb dM_isDone_525 ?_
  refine zl_ne (tgt := 534) hx hb dM_isDone_526 rfl (fun _ => ?_) (fun q => absurd q (by exact hz))
  refine lv_iload hx hb dM_isDone_534 (lv_at hl 6 rfl) ?_
  refine lv_bipush (v := nI 17) hx hb dM_isDone_536 (by decide) ?_
  refine zc_ne (tgt := 582) hx hb dM_isDone_538 rfl (by omega) (by omega) (fun _ => ?_) (fun q => absurd q (by omega))
  refine lv_iload hx hb dM_isDone_582 (lv_at hl 6 rfl) ?_
  refine lv_bipush (v := nI 6) hx hb dM_isDone_584 (by decide) ?_
  refine zc_lt (tgt := 706) hx hb dM_isDone_586 rfl (by omega) (by omega) (fun q => absurd q (by omega)) (fun _ => ?_)
  refine lv_iload hx hb dM_isDone_589 (lv_at hl 6 rfl) ?_
  refine lv_bipush (v := nI 11) hx hb dM_isDone_591 (by decide) ?_
  refine zc_gt (tgt := 706) hx hb dM_isDone_593 rfl (by omega) (by omega) (fun _ => ?_) (fun q => absurd q (by omega))
  refine lv_goto (tgt := 3) hx hb dM_isDone_706 rfl ?_
  exact kk _ _ _ hP hD hS (lv_sub hl [4, 7, 8, 9] rfl)
set_option maxRecDepth 20000 in
set_option maxHeartbeats 4000000 in
theorem mO17a {p : Program} {l : Launch} {e : Env} {s : State} {m : MethodId} {args : Array Value} {below : List Frame} {meth : Method} {c : Code} {F : Nat → Prop} {D : va_G} {A : Nat → Nat} {C : Nat → ClassId} (hx : p.tables.exec = Jvm.exec) (hb : c.code = cM_isDone) (hr : meth.sig.returnType = (some .boolean)) (hlk : meth.locks = false) (hml : c.maxLocals = 14) (hw : ∀ w ∈ WS, w.before args s = true) (hown : s.vm.findClass RM = some m.cls) (hK : va_K D vwCl (mT C) s) (hA : ∀ q, s.heap.size ≤ q → F q) {Q : State → Prop} {ls : Array Slot} {H : Heap} {locs : List Loc} {ops : Nat → Int32} {nums vals st ce pk pv : Nat → Int64} {n vc sp d pr tk th tr : Nat} {w pl : Nat} {key x : Int64} (hd : d ≤ 12) (hw2 : w ≤ 2) (hvc : vc ≤ 40) (htk : tk ≤ vc) (hpr : pr ≤ 4) (hpl : pl ≤ 40) (h1 : 1 ≤ d) (hp : pr < 4) (hP : va_P D vwCl (mW A C ops nums vals st ce pk pv n vc sp d pr tk th tr) H) (hD : va_D F (mW A C ops nums vals st ce pk pv n vc sp d pr tk th tr)) (hS : va_S F s.heap H locs) (hl : lv_has ls 14 [(4, .int (nI pl)), (6, .long x), (5, .int (nI 17)), (0, .ref (A 0)), (1, .int (nI 1)), (2, .long key)]) (kk : ∀ (ls : Array Slot) (H : Heap) (locs : List Loc), va_P D vwCl (mW A C ops nums vals st ce (vp_updL pk pr key) (vp_updL pv pr (st (d - 1))) n vc sp (d - 1) (pr + 1) tk th tr) H → va_D F (mW A C ops nums vals st ce (vp_updL pk pr key) (vp_updL pv pr (st (d - 1))) n vc sp (d - 1) (pr + 1) tk th tr) → va_S F s.heap H locs → lv_has ls 14 [(4, .int (nI pl)), (0, .ref (A 0)), (1, .int (nI 1)), (2, .long key)] → W p l e (rmk 0 0) s m args below meth c H locs 0 0 Q (F0 m 3 ls [])) : W p l e (rmk 0 0) s m args below meth c H locs 0 0 Q (F0 m 55 ls []) := by
  refine lv_iload hx hb dM_isDone_55 (lv_at hl 2 rfl) ?_
  refine lv_iconst (v := nI 4) hx hb dM_isDone_57 (by decide) ?_
  refine zc_le (tgt := 68) hx hb dM_isDone_58 rfl (by omega) (by omega) (fun q => absurd q (by omega)) (fun _ => ?_)
  refine lv_iload hx hb dM_isDone_61 (lv_at hl 2 rfl) ?_
  refine lv_bipush (v := nI 12) hx hb dM_isDone_63 (by decide) ?_
  refine zc_ne (tgt := 72) hx hb dM_isDone_65 rfl (by omega) (by omega) (fun _ => ?_) (fun q => absurd q (by omega))
  refine lv_iconst (v := nI 0) hx hb dM_isDone_72 (by decide) ?_
  refine lv_istore hx hb dM_isDone_73 hl (by decide) rfl (fun ls hl => ?_)
  have hl : lv_has ls 14 [(8, .int (nI 0)), (4, .int (nI pl)), (6, .long x), (5, .int (nI 17)), (0, .ref (A 0)), (1, .int (nI 1)), (2, .long key)] := hl
  refine lv_iload hx hb dM_isDone_75 (lv_at hl 3 rfl) ?_
  refine lv_bipush (v := nI 6) hx hb dM_isDone_77 (by decide) ?_
  refine zc_lt (tgt := 89) hx hb dM_isDone_79 rfl (by omega) (by omega) (fun q => absurd q (by omega)) (fun _ => ?_)
  refine lv_iload hx hb dM_isDone_82 (lv_at hl 3 rfl) ?_
  refine lv_bipush (v := nI 11) hx hb dM_isDone_84 (by decide) ?_
  refine zc_le (tgt := 108) hx hb dM_isDone_86 rfl (by omega) (by omega) (fun q => absurd q (by omega)) (fun _ => ?_)
  refine lv_iload hx hb dM_isDone_89 (lv_at hl 3 rfl) ?_
  refine lv_bipush (v := nI 14) hx hb dM_isDone_91 (by decide) ?_
  refine zc_eq (tgt := 108) hx hb dM_isDone_93 rfl (by omega) (by omega) (fun q => absurd q (by omega)) (fun _ => ?_)
  refine lv_iload hx hb dM_isDone_96 (lv_at hl 3 rfl) ?_
  refine lv_bipush (v := nI 17) hx hb dM_isDone_98 (by decide) ?_
  refine zc_ne (tgt := 112) hx hb dM_isDone_100 rfl (by omega) (by omega) (fun q => absurd q (by omega)) (fun _ => ?_)
  refine lv_iload_n hx hb dM_isDone_103 rfl (lv_at hl 5 rfl) ?_
  refine lv_iconst (v := nI 1) hx hb dM_isDone_104 (by decide) ?_
  refine zc_eq (tgt := 112) hx hb dM_isDone_105 rfl (by omega) (by omega) (fun _ => ?_) (fun q => absurd q (by omega))
  refine lv_iload hx hb dM_isDone_112 (lv_at hl 3 rfl) ?_
  refine lv_iconst (v := nI 5) hx hb dM_isDone_114 (by decide) ?_
  refine zc_eq (tgt := 146) hx hb dM_isDone_115 rfl (by omega) (by omega) (fun q => absurd q (by omega)) (fun _ => ?_)
  refine lv_iload hx hb dM_isDone_118 (lv_at hl 3 rfl) ?_
  refine lv_bipush (v := nI 12) hx hb dM_isDone_120 (by decide) ?_
  refine zc_eq (tgt := 146) hx hb dM_isDone_122 rfl (by omega) (by omega) (fun q => absurd q (by omega)) (fun _ => ?_)
  refine lv_iload hx hb dM_isDone_125 (lv_at hl 3 rfl) ?_
  refine lv_bipush (v := nI 13) hx hb dM_isDone_127 (by decide) ?_
  refine zc_eq (tgt := 146) hx hb dM_isDone_129 rfl (by omega) (by omega) (fun q => absurd q (by omega)) (fun _ => ?_)
  refine lv_iload hx hb dM_isDone_132 (lv_at hl 3 rfl) ?_
  refine lv_bipush (v := nI 16) hx hb dM_isDone_134 (by decide) ?_
  refine zc_eq (tgt := 146) hx hb dM_isDone_136 rfl (by omega) (by omega) (fun q => absurd q (by omega)) (fun _ => ?_)
  refine lv_iload hx hb dM_isDone_139 (lv_at hl 3 rfl) ?_
  refine lv_bipush (v := nI 17) hx hb dM_isDone_141 (by decide) ?_
  refine zc_ne (tgt := 150) hx hb dM_isDone_143 rfl (by omega) (by omega) (fun q => absurd q (by omega)) (fun _ => ?_)
  refine lv_iconst (v := nI 1) hx hb dM_isDone_146 (by decide) ?_
  refine lv_goto (tgt := 151) hx hb dM_isDone_147 rfl ?_
  refine lv_istore hx hb dM_isDone_151 hl (by decide) rfl (fun ls hl => ?_)
  have hl : lv_has ls 14 [(9, .int (nI 1)), (8, .int (nI 0)), (4, .int (nI pl)), (6, .long x), (5, .int (nI 17)), (0, .ref (A 0)), (1, .int (nI 1)), (2, .long key)] := hl
  refine lv_aload_n hx hb dM_isDone_153 rfl (lv_at hl 5 rfl) ?_
  refine zGetM hx hb hw hown hK hP 0 rfl 10 (by decide) wf_M_49 rfl dM_isDone_154 ?_
  refine lv_iload hx hb dM_isDone_157 (lv_at hl 0 rfl) ?_
  refine zc_lt (tgt := 176) hx hb dM_isDone_159 rfl (by omega) (by omega) (fun q => absurd q (by omega)) (fun _ => ?_)
  refine lv_iload hx hb dM_isDone_162 (lv_at hl 1 rfl) ?_
  refine zi_eq (tgt := 178) hx hb dM_isDone_164 rfl (by omega) (fun _ => ?_) (fun q => absurd q (by omega))
  refine lv_iload hx hb dM_isDone_178 (lv_at hl 0 rfl) ?_
  refine zi_le (tgt := 197) hx hb dM_isDone_180 rfl (by omega) (fun q => absurd q (by omega)) (fun _ => ?_)
  refine lv_aload_n hx hb dM_isDone_183 rfl (lv_at hl 5 rfl) ?_
  refine zGetM hx hb hw hown hK hP 0 rfl 3 (by decide) wf_M_20 rfl dM_isDone_184 ?_
  refine lv_aload_n hx hb dM_isDone_187 rfl (lv_at hl 5 rfl) ?_
  refine zGetM hx hb hw hown hK hP 0 rfl 10 (by decide) wf_M_49 rfl dM_isDone_188 ?_
  refine lv_iconst (v := nI 1) hx hb dM_isDone_191 (by decide) ?_
  refine lv_isub hx hb dM_isDone_192 ?_
  refine zti (zsub _ (by omega)) ?_
  refine zLald hx hb hK hP 4 3 rfl rfl (by omega) (by decide) dM_isDone_193 ?_
  refine lv_goto (tgt := 198) hx hb dM_isDone_194 rfl ?_
  refine lv_lstore hx hb dM_isDone_198 hl (by decide) rfl (fun ls hl => ?_)
  have hl : lv_has ls 14 [(10, .long (st (d - 1))), (9, .int (nI 1)), (8, .int (nI 0)), (4, .int (nI pl)), (6, .long x), (5, .int (nI 17)), (0, .ref (A 0)), (1, .int (nI 1)), (2, .long key)] := hl
  refine lv_iload hx hb dM_isDone_200 (lv_at hl 1 rfl) ?_
  refine lv_iconst (v := nI 1) hx hb dM_isDone_202 (by decide) ?_
  refine zc_le (tgt := 220) hx hb dM_isDone_203 rfl (by omega) (by omega) (fun _ => ?_) (fun q => absurd q (by omega))
  refine lv_lconst (v := 0) hx hb dM_isDone_220 (by decide) ?_
  refine lv_lstore hx hb dM_isDone_221 hl (by decide) rfl (fun ls hl => ?_)
  have hl : lv_has ls 14 [(12, .long (0 : Int64)), (10, .long (st (d - 1))), (9, .int (nI 1)), (8, .int (nI 0)), (4, .int (nI pl)), (6, .long x), (5, .int (nI 17)), (0, .ref (A 0)), (1, .int (nI 1)), (2, .long key)] := hl
  refine lv_iload hx hb dM_isDone_223 (lv_at hl 6 rfl) ?_
  refine lv_bipush (v := nI 18) hx hb dM_isDone_225 (by decide) ?_
  refine zc_ne (tgt := 232) hx hb dM_isDone_227 rfl (by omega) (by omega) (fun _ => ?_) (fun q => absurd q (by omega))
  refine lv_iload hx hb dM_isDone_232 (lv_at hl 6 rfl) ?_
  refine lv_iconst (v := nI 2) hx hb dM_isDone_234 (by decide) ?_
  refine zc_ne (tgt := 265) hx hb dM_isDone_235 rfl (by omega) (by omega) (fun _ => ?_) (fun q => absurd q (by omega))
  refine lv_iload hx hb dM_isDone_265 (lv_at hl 6 rfl) ?_
  refine lv_bipush (v := nI 9) hx hb dM_isDone_267 (by decide) ?_
  refine zc_ne (tgt := 279) hx hb dM_isDone_269 rfl (by omega) (by omega) (fun _ => ?_) (fun q => absurd q (by omega))
  refine lv_iload hx hb dM_isDone_279 (lv_at hl 6 rfl) ?_
  refine lv_bipush (v := nI 17) hx hb dM_isDone_281 (by decide) ?_
  refine zc_ne (tgt := 296) hx hb dM_isDone_283 rfl (by omega) (by omega) (fun q => absurd q (by omega)) (fun _ => ?_)
  refine lv_aload_n hx hb dM_isDone_286 rfl (lv_at hl 7 rfl) ?_
  refine zGetM hx hb hw hown hK hP 0 rfl 11 (by decide) wf_M_52 rfl dM_isDone_287 ?_
  refine lv_iconst (v := nI 4) hx hb dM_isDone_290 (by decide) ?_
  refine zc_ne (tgt := 296) hx hb dM_isDone_291 rfl (by omega) (by omega) (fun _ => ?_) (fun q => absurd q (by omega))
  refine lv_iload hx hb dM_isDone_296 (lv_at hl 3 rfl) ?_
  refine zi_eq (tgt := 437) hx hb dM_isDone_298 rfl (by omega) (fun _ => ?_) (fun q => absurd q (by omega))
  refine lv_iload hx hb dM_isDone_437 (lv_at hl 6 rfl) ?_
  refine lv_bipush (v := nI 14) hx hb dM_isDone_439 (by decide) ?_
  refine zc_ne (tgt := 473) hx hb dM_isDone_441 rfl (by omega) (by omega) (fun _ => ?_) (fun q => absurd q (by omega))
  refine lv_iload hx hb dM_isDone_473 (lv_at hl 6 rfl) ?_
  refine lv_bipush (v := nI 15) hx hb dM_isDone_475 (by decide) ?_
  refine zc_ne (tgt := 488) hx hb dM_isDone_477 rfl (by omega) (by omega) (fun _ => ?_) (fun q => absurd q (by omega))
  refine lv_aload_n hx hb dM_isDone_488 rfl (lv_at hl 7 rfl) ?_
  refine lv_dup hx hb dM_isDone_489 rfl ?_
  refine zGetM hx hb hw hown hK hP 0 rfl 10 (by decide) wf_M_49 rfl dM_isDone_490 ?_
  refine lv_iload hx hb dM_isDone_493 (lv_at hl 2 rfl) ?_
  refine lv_isub hx hb dM_isDone_495 ?_
  refine zti (zsub _ (by omega)) ?_
  refine zPutM hx hb hw hown hK hP hD hS 0 rfl 10 (by decide) wf_M_49 rfl rfl rfl (Nat.le_of_ble_eq_true rfl) dM_isDone_496 (fun H locs hP hD hS => ?_)
  replace hP : va_P D vwCl (mW A C ops nums vals st ce pk pv n vc sp (d - 1) pr tk th tr) H := hP
  replace hD : va_D F (mW A C ops nums vals st ce pk pv n vc sp (d - 1) pr tk th tr) := hD
  refine lv_iload hx hb dM_isDone_499 (lv_at hl 6 rfl) ?_
  refine lv_iconst (v := nI 5) hx hb dM_isDone_501 (by decide) ?_
  refine zc_ne (tgt := 515) hx hb dM_isDone_502 rfl (by omega) (by omega) (fun _ => ?_) (fun q => absurd q (by omega))
  refine lv_iload hx hb dM_isDone_515 (lv_at hl 6 rfl) ?_
  refine lv_bipush (v := nI 16) hx hb dM_isDone_517 (by decide) ?_
  refine zc_ne (tgt := 534) hx hb dM_isDone_519 rfl (by omega) (by omega) (fun _ => ?_) (fun q => absurd q (by omega))
  refine lv_iload hx hb dM_isDone_534 (lv_at hl 6 rfl) ?_
  refine lv_bipush (v := nI 17) hx hb dM_isDone_536 (by decide) ?_
  refine zc_ne (tgt := 582) hx hb dM_isDone_538 rfl (by omega) (by omega) (fun q => absurd q (by omega)) (fun _ => ?_)
  refine lv_aload_n hx hb dM_isDone_541 rfl (lv_at hl 7 rfl) ?_
  refine zGetM hx hb hw hown hK hP 0 rfl 5 (by decide) wf_M_26 rfl dM_isDone_542 ?_
  refine lv_aload_n hx hb dM_isDone_545 rfl (lv_at hl 7 rfl) ?_
  refine zGetM hx hb hw hown hK hP 0 rfl 11 (by decide) wf_M_52 rfl dM_isDone_546 ?_
  refine lv_iload_n hx hb dM_isDone_549 rfl (lv_at hl 8 rfl) ?_
  refine lv_iconst (v := nI 1) hx hb dM_isDone_550 (by decide) ?_
  refine zc_ne (tgt := 558) hx hb dM_isDone_551 rfl (by omega) (by omega) (fun q => absurd q (by omega)) (fun _ => ?_)
  refine lv_lload_n hx hb dM_isDone_554 rfl (lv_at hl 9 rfl) ?_
  refine lv_goto (tgt := 560) hx hb dM_isDone_555 rfl ?_
  refine zLast hx hb hK hP hD hS 6 5 rfl rfl (by omega) (by decide) dM_isDone_560 (fun H locs hP hD hS => ?_)
  replace hP : va_P D vwCl (mW A C ops nums vals st ce (vp_updL pk pr key) pv n vc sp (d - 1) pr tk th tr) H := hP
  replace hD : va_D F (mW A C ops nums vals st ce (vp_updL pk pr key) pv n vc sp (d - 1) pr tk th tr) := hD
  refine lv_aload_n hx hb dM_isDone_561 rfl (lv_at hl 7 rfl) ?_
  refine zGetM hx hb hw hown hK hP 0 rfl 6 (by decide) wf_M_29 rfl dM_isDone_562 ?_
  refine lv_aload_n hx hb dM_isDone_565 rfl (lv_at hl 7 rfl) ?_
  refine zGetM hx hb hw hown hK hP 0 rfl 11 (by decide) wf_M_52 rfl dM_isDone_566 ?_
  refine lv_lload hx hb dM_isDone_569 (lv_at hl 1 rfl) ?_
  refine zLast hx hb hK hP hD hS 7 6 rfl rfl (by omega) (by decide) dM_isDone_571 (fun H locs hP hD hS => ?_)
  replace hP : va_P D vwCl (mW A C ops nums vals st ce (vp_updL pk pr key) (vp_updL pv pr (st (d - 1))) n vc sp (d - 1) pr tk th tr) H := hP
  replace hD : va_D F (mW A C ops nums vals st ce (vp_updL pk pr key) (vp_updL pv pr (st (d - 1))) n vc sp (d - 1) pr tk th tr) := hD
  refine lv_aload_n hx hb dM_isDone_572 rfl (lv_at hl 7 rfl) ?_
  refine lv_dup hx hb dM_isDone_573 rfl ?_
  refine zGetM hx hb hw hown hK hP 0 rfl 11 (by decide) wf_M_52 rfl dM_isDone_574 ?_
  refine lv_iconst (v := nI 1) hx hb dM_isDone_577 (by decide) ?_
  refine lv_iadd hx hb dM_isDone_578 ?_
  refine zti (nI_add _ _) ?_
  refine zPutM hx hb hw hown hK hP hD hS 0 rfl 11 (by decide) wf_M_52 rfl rfl rfl (Nat.le_of_ble_eq_true rfl) dM_isDone_579 (fun H locs hP hD hS => ?_)
  replace hP : va_P D vwCl (mW A C ops nums vals st ce (vp_updL pk pr key) (vp_updL pv pr (st (d - 1))) n vc sp (d - 1) (pr + 1) tk th tr) H := hP
  replace hD : va_D F (mW A C ops nums vals st ce (vp_updL pk pr key) (vp_updL pv pr (st (d - 1))) n vc sp (d - 1) (pr + 1) tk th tr) := hD
  refine lv_iload hx hb dM_isDone_582 (lv_at hl 6 rfl) ?_
  refine lv_bipush (v := nI 6) hx hb dM_isDone_584 (by decide) ?_
  refine zc_lt (tgt := 706) hx hb dM_isDone_586 rfl (by omega) (by omega) (fun q => absurd q (by omega)) (fun _ => ?_)
  refine lv_iload hx hb dM_isDone_589 (lv_at hl 6 rfl) ?_
  refine lv_bipush (v := nI 11) hx hb dM_isDone_591 (by decide) ?_
  refine zc_gt (tgt := 706) hx hb dM_isDone_593 rfl (by omega) (by omega) (fun _ => ?_) (fun q => absurd q (by omega))
  refine lv_goto (tgt := 3) hx hb dM_isDone_706 rfl ?_
  exact kk _ _ _ hP hD hS (lv_sub hl [4, 7, 8, 9] rfl)
set_option maxRecDepth 20000 in
set_option maxHeartbeats 4000000 in
theorem mO17b {p : Program} {l : Launch} {e : Env} {s : State} {m : MethodId} {args : Array Value} {below : List Frame} {meth : Method} {c : Code} {F : Nat → Prop} {D : va_G} {A : Nat → Nat} {C : Nat → ClassId} (hx : p.tables.exec = Jvm.exec) (hb : c.code = cM_isDone) (hr : meth.sig.returnType = (some .boolean)) (hlk : meth.locks = false) (hml : c.maxLocals = 14) (hw : ∀ w ∈ WS, w.before args s = true) (hown : s.vm.findClass RM = some m.cls) (hK : va_K D vwCl (mT C) s) (hA : ∀ q, s.heap.size ≤ q → F q) {Q : State → Prop} {ls : Array Slot} {H : Heap} {locs : List Loc} {ops : Nat → Int32} {nums vals st ce pk pv : Nat → Int64} {n vc sp d pr tk th tr : Nat} {w pl : Nat} {key x : Int64} (hd : d ≤ 12) (hw2 : w ≤ 2) (hvc : vc ≤ 40) (htk : tk ≤ vc) (hpr : pr ≤ 4) (hpl : pl ≤ 40) (h2 : 2 ≤ d) (hp : pr < 4) (hw1 : w ≠ 1) (hP : va_P D vwCl (mW A C ops nums vals st ce pk pv n vc sp d pr tk th tr) H) (hD : va_D F (mW A C ops nums vals st ce pk pv n vc sp d pr tk th tr)) (hS : va_S F s.heap H locs) (hl : lv_has ls 14 [(4, .int (nI pl)), (6, .long x), (5, .int (nI 17)), (0, .ref (A 0)), (1, .int (nI w)), (2, .long key)]) (kk : ∀ (ls : Array Slot) (H : Heap) (locs : List Loc), va_P D vwCl (mW A C ops nums vals st ce (vp_updL pk pr (st (d - 2))) (vp_updL pv pr (st (d - 1))) n vc sp (d - 2) (pr + 1) tk th tr) H → va_D F (mW A C ops nums vals st ce (vp_updL pk pr (st (d - 2))) (vp_updL pv pr (st (d - 1))) n vc sp (d - 2) (pr + 1) tk th tr) → va_S F s.heap H locs → lv_has ls 14 [(4, .int (nI pl)), (0, .ref (A 0)), (1, .int (nI w)), (2, .long key)] → W p l e (rmk 0 0) s m args below meth c H locs 0 0 Q (F0 m 3 ls [])) : W p l e (rmk 0 0) s m args below meth c H locs 0 0 Q (F0 m 55 ls []) := by
  refine lv_iload hx hb dM_isDone_55 (lv_at hl 2 rfl) ?_
  refine lv_iconst (v := nI 4) hx hb dM_isDone_57 (by decide) ?_
  refine zc_le (tgt := 68) hx hb dM_isDone_58 rfl (by omega) (by omega) (fun q => absurd q (by omega)) (fun _ => ?_)
  refine lv_iload hx hb dM_isDone_61 (lv_at hl 2 rfl) ?_
  refine lv_bipush (v := nI 12) hx hb dM_isDone_63 (by decide) ?_
  refine zc_ne (tgt := 72) hx hb dM_isDone_65 rfl (by omega) (by omega) (fun _ => ?_) (fun q => absurd q (by omega))
  refine lv_iconst (v := nI 0) hx hb dM_isDone_72 (by decide) ?_
  refine lv_istore hx hb dM_isDone_73 hl (by decide) rfl (fun ls hl => ?_)
  have hl : lv_has ls 14 [(8, .int (nI 0)), (4, .int (nI pl)), (6, .long x), (5, .int (nI 17)), (0, .ref (A 0)), (1, .int (nI w)), (2, .long key)] := hl
  refine lv_iload hx hb dM_isDone_75 (lv_at hl 3 rfl) ?_
  refine lv_bipush (v := nI 6) hx hb dM_isDone_77 (by decide) ?_
  refine zc_lt (tgt := 89) hx hb dM_isDone_79 rfl (by omega) (by omega) (fun q => absurd q (by omega)) (fun _ => ?_)
  refine lv_iload hx hb dM_isDone_82 (lv_at hl 3 rfl) ?_
  refine lv_bipush (v := nI 11) hx hb dM_isDone_84 (by decide) ?_
  refine zc_le (tgt := 108) hx hb dM_isDone_86 rfl (by omega) (by omega) (fun q => absurd q (by omega)) (fun _ => ?_)
  refine lv_iload hx hb dM_isDone_89 (lv_at hl 3 rfl) ?_
  refine lv_bipush (v := nI 14) hx hb dM_isDone_91 (by decide) ?_
  refine zc_eq (tgt := 108) hx hb dM_isDone_93 rfl (by omega) (by omega) (fun q => absurd q (by omega)) (fun _ => ?_)
  refine lv_iload hx hb dM_isDone_96 (lv_at hl 3 rfl) ?_
  refine lv_bipush (v := nI 17) hx hb dM_isDone_98 (by decide) ?_
  refine zc_ne (tgt := 112) hx hb dM_isDone_100 rfl (by omega) (by omega) (fun q => absurd q (by omega)) (fun _ => ?_)
  refine lv_iload_n hx hb dM_isDone_103 rfl (lv_at hl 5 rfl) ?_
  refine lv_iconst (v := nI 1) hx hb dM_isDone_104 (by decide) ?_
  refine zc_eq (tgt := 112) hx hb dM_isDone_105 rfl (by omega) (by omega) (fun q => absurd q (by omega)) (fun _ => ?_)
  refine lv_iconst (v := nI 2) hx hb dM_isDone_108 (by decide) ?_
  refine lv_goto (tgt := 151) hx hb dM_isDone_109 rfl ?_
  refine lv_istore hx hb dM_isDone_151 hl (by decide) rfl (fun ls hl => ?_)
  have hl : lv_has ls 14 [(9, .int (nI 2)), (8, .int (nI 0)), (4, .int (nI pl)), (6, .long x), (5, .int (nI 17)), (0, .ref (A 0)), (1, .int (nI w)), (2, .long key)] := hl
  refine lv_aload_n hx hb dM_isDone_153 rfl (lv_at hl 5 rfl) ?_
  refine zGetM hx hb hw hown hK hP 0 rfl 10 (by decide) wf_M_49 rfl dM_isDone_154 ?_
  refine lv_iload hx hb dM_isDone_157 (lv_at hl 0 rfl) ?_
  refine zc_lt (tgt := 176) hx hb dM_isDone_159 rfl (by omega) (by omega) (fun q => absurd q (by omega)) (fun _ => ?_)
  refine lv_iload hx hb dM_isDone_162 (lv_at hl 1 rfl) ?_
  refine zi_eq (tgt := 178) hx hb dM_isDone_164 rfl (by omega) (fun _ => ?_) (fun q => absurd q (by omega))
  refine lv_iload hx hb dM_isDone_178 (lv_at hl 0 rfl) ?_
  refine zi_le (tgt := 197) hx hb dM_isDone_180 rfl (by omega) (fun q => absurd q (by omega)) (fun _ => ?_)
  refine lv_aload_n hx hb dM_isDone_183 rfl (lv_at hl 5 rfl) ?_
  refine zGetM hx hb hw hown hK hP 0 rfl 3 (by decide) wf_M_20 rfl dM_isDone_184 ?_
  refine lv_aload_n hx hb dM_isDone_187 rfl (lv_at hl 5 rfl) ?_
  refine zGetM hx hb hw hown hK hP 0 rfl 10 (by decide) wf_M_49 rfl dM_isDone_188 ?_
  refine lv_iconst (v := nI 1) hx hb dM_isDone_191 (by decide) ?_
  refine lv_isub hx hb dM_isDone_192 ?_
  refine zti (zsub _ (by omega)) ?_
  refine zLald hx hb hK hP 4 3 rfl rfl (by omega) (by decide) dM_isDone_193 ?_
  refine lv_goto (tgt := 198) hx hb dM_isDone_194 rfl ?_
  refine lv_lstore hx hb dM_isDone_198 hl (by decide) rfl (fun ls hl => ?_)
  have hl : lv_has ls 14 [(10, .long (st (d - 1))), (9, .int (nI 2)), (8, .int (nI 0)), (4, .int (nI pl)), (6, .long x), (5, .int (nI 17)), (0, .ref (A 0)), (1, .int (nI w)), (2, .long key)] := hl
  refine lv_iload hx hb dM_isDone_200 (lv_at hl 1 rfl) ?_
  refine lv_iconst (v := nI 1) hx hb dM_isDone_202 (by decide) ?_
  refine zc_le (tgt := 220) hx hb dM_isDone_203 rfl (by omega) (by omega) (fun q => absurd q (by omega)) (fun _ => ?_)
  refine lv_aload_n hx hb dM_isDone_206 rfl (lv_at hl 6 rfl) ?_
  refine zGetM hx hb hw hown hK hP 0 rfl 3 (by decide) wf_M_20 rfl dM_isDone_207 ?_
  refine lv_aload_n hx hb dM_isDone_210 rfl (lv_at hl 6 rfl) ?_
  refine zGetM hx hb hw hown hK hP 0 rfl 10 (by decide) wf_M_49 rfl dM_isDone_211 ?_
  refine lv_iconst (v := nI 2) hx hb dM_isDone_214 (by decide) ?_
  refine lv_isub hx hb dM_isDone_215 ?_
  refine zti (zsub _ (by omega)) ?_
  refine zLald hx hb hK hP 4 3 rfl rfl (by omega) (by decide) dM_isDone_216 ?_
  refine lv_goto (tgt := 221) hx hb dM_isDone_217 rfl ?_
  refine lv_lstore hx hb dM_isDone_221 hl (by decide) rfl (fun ls hl => ?_)
  have hl : lv_has ls 14 [(12, .long (st (d - 2))), (10, .long (st (d - 1))), (9, .int (nI 2)), (8, .int (nI 0)), (4, .int (nI pl)), (6, .long x), (5, .int (nI 17)), (0, .ref (A 0)), (1, .int (nI w)), (2, .long key)] := hl
  refine lv_iload hx hb dM_isDone_223 (lv_at hl 6 rfl) ?_
  refine lv_bipush (v := nI 18) hx hb dM_isDone_225 (by decide) ?_
  refine zc_ne (tgt := 232) hx hb dM_isDone_227 rfl (by omega) (by omega) (fun _ => ?_) (fun q => absurd q (by omega))
  refine lv_iload hx hb dM_isDone_232 (lv_at hl 6 rfl) ?_
  refine lv_iconst (v := nI 2) hx hb dM_isDone_234 (by decide) ?_
  refine zc_ne (tgt := 265) hx hb dM_isDone_235 rfl (by omega) (by omega) (fun _ => ?_) (fun q => absurd q (by omega))
  refine lv_iload hx hb dM_isDone_265 (lv_at hl 6 rfl) ?_
  refine lv_bipush (v := nI 9) hx hb dM_isDone_267 (by decide) ?_
  refine zc_ne (tgt := 279) hx hb dM_isDone_269 rfl (by omega) (by omega) (fun _ => ?_) (fun q => absurd q (by omega))
  refine lv_iload hx hb dM_isDone_279 (lv_at hl 6 rfl) ?_
  refine lv_bipush (v := nI 17) hx hb dM_isDone_281 (by decide) ?_
  refine zc_ne (tgt := 296) hx hb dM_isDone_283 rfl (by omega) (by omega) (fun q => absurd q (by omega)) (fun _ => ?_)
  refine lv_aload_n hx hb dM_isDone_286 rfl (lv_at hl 7 rfl) ?_
  refine zGetM hx hb hw hown hK hP 0 rfl 11 (by decide) wf_M_52 rfl dM_isDone_287 ?_
  refine lv_iconst (v := nI 4) hx hb dM_isDone_290 (by decide) ?_
  refine zc_ne (tgt := 296) hx hb dM_isDone_291 rfl (by omega) (by omega) (fun _ => ?_) (fun q => absurd q (by omega))
  refine lv_iload hx hb dM_isDone_296 (lv_at hl 3 rfl) ?_
  refine zi_eq (tgt := 437) hx hb dM_isDone_298 rfl (by omega) (fun _ => ?_) (fun q => absurd q (by omega))
  refine lv_iload hx hb dM_isDone_437 (lv_at hl 6 rfl) ?_
  refine lv_bipush (v := nI 14) hx hb dM_isDone_439 (by decide) ?_
  refine zc_ne (tgt := 473) hx hb dM_isDone_441 rfl (by omega) (by omega) (fun _ => ?_) (fun q => absurd q (by omega))
  refine lv_iload hx hb dM_isDone_473 (lv_at hl 6 rfl) ?_
  refine lv_bipush (v := nI 15) hx hb dM_isDone_475 (by decide) ?_
  refine zc_ne (tgt := 488) hx hb dM_isDone_477 rfl (by omega) (by omega) (fun _ => ?_) (fun q => absurd q (by omega))
  refine lv_aload_n hx hb dM_isDone_488 rfl (lv_at hl 7 rfl) ?_
  refine lv_dup hx hb dM_isDone_489 rfl ?_
  refine zGetM hx hb hw hown hK hP 0 rfl 10 (by decide) wf_M_49 rfl dM_isDone_490 ?_
  refine lv_iload hx hb dM_isDone_493 (lv_at hl 2 rfl) ?_
  refine lv_isub hx hb dM_isDone_495 ?_
  refine zti (zsub _ (by omega)) ?_
  refine zPutM hx hb hw hown hK hP hD hS 0 rfl 10 (by decide) wf_M_49 rfl rfl rfl (Nat.le_of_ble_eq_true rfl) dM_isDone_496 (fun H locs hP hD hS => ?_)
  replace hP : va_P D vwCl (mW A C ops nums vals st ce pk pv n vc sp (d - 2) pr tk th tr) H := hP
  replace hD : va_D F (mW A C ops nums vals st ce pk pv n vc sp (d - 2) pr tk th tr) := hD
  refine lv_iload hx hb dM_isDone_499 (lv_at hl 6 rfl) ?_
  refine lv_iconst (v := nI 5) hx hb dM_isDone_501 (by decide) ?_
  refine zc_ne (tgt := 515) hx hb dM_isDone_502 rfl (by omega) (by omega) (fun _ => ?_) (fun q => absurd q (by omega))
  refine lv_iload hx hb dM_isDone_515 (lv_at hl 6 rfl) ?_
  refine lv_bipush (v := nI 16) hx hb dM_isDone_517 (by decide) ?_
  refine zc_ne (tgt := 534) hx hb dM_isDone_519 rfl (by omega) (by omega) (fun _ => ?_) (fun q => absurd q (by omega))
  refine lv_iload hx hb dM_isDone_534 (lv_at hl 6 rfl) ?_
  refine lv_bipush (v := nI 17) hx hb dM_isDone_536 (by decide) ?_
  refine zc_ne (tgt := 582) hx hb dM_isDone_538 rfl (by omega) (by omega) (fun q => absurd q (by omega)) (fun _ => ?_)
  refine lv_aload_n hx hb dM_isDone_541 rfl (lv_at hl 7 rfl) ?_
  refine zGetM hx hb hw hown hK hP 0 rfl 5 (by decide) wf_M_26 rfl dM_isDone_542 ?_
  refine lv_aload_n hx hb dM_isDone_545 rfl (lv_at hl 7 rfl) ?_
  refine zGetM hx hb hw hown hK hP 0 rfl 11 (by decide) wf_M_52 rfl dM_isDone_546 ?_
  refine lv_iload_n hx hb dM_isDone_549 rfl (lv_at hl 8 rfl) ?_
  refine lv_iconst (v := nI 1) hx hb dM_isDone_550 (by decide) ?_
  refine zc_ne (tgt := 558) hx hb dM_isDone_551 rfl (by omega) (by omega) (fun _ => ?_) (fun q => absurd q (by omega))
  refine lv_lload hx hb dM_isDone_558 (lv_at hl 0 rfl) ?_
  refine zLast hx hb hK hP hD hS 6 5 rfl rfl (by omega) (by decide) dM_isDone_560 (fun H locs hP hD hS => ?_)
  replace hP : va_P D vwCl (mW A C ops nums vals st ce (vp_updL pk pr (st (d - 2))) pv n vc sp (d - 2) pr tk th tr) H := hP
  replace hD : va_D F (mW A C ops nums vals st ce (vp_updL pk pr (st (d - 2))) pv n vc sp (d - 2) pr tk th tr) := hD
  refine lv_aload_n hx hb dM_isDone_561 rfl (lv_at hl 7 rfl) ?_
  refine zGetM hx hb hw hown hK hP 0 rfl 6 (by decide) wf_M_29 rfl dM_isDone_562 ?_
  refine lv_aload_n hx hb dM_isDone_565 rfl (lv_at hl 7 rfl) ?_
  refine zGetM hx hb hw hown hK hP 0 rfl 11 (by decide) wf_M_52 rfl dM_isDone_566 ?_
  refine lv_lload hx hb dM_isDone_569 (lv_at hl 1 rfl) ?_
  refine zLast hx hb hK hP hD hS 7 6 rfl rfl (by omega) (by decide) dM_isDone_571 (fun H locs hP hD hS => ?_)
  replace hP : va_P D vwCl (mW A C ops nums vals st ce (vp_updL pk pr (st (d - 2))) (vp_updL pv pr (st (d - 1))) n vc sp (d - 2) pr tk th tr) H := hP
  replace hD : va_D F (mW A C ops nums vals st ce (vp_updL pk pr (st (d - 2))) (vp_updL pv pr (st (d - 1))) n vc sp (d - 2) pr tk th tr) := hD
  refine lv_aload_n hx hb dM_isDone_572 rfl (lv_at hl 7 rfl) ?_
  refine lv_dup hx hb dM_isDone_573 rfl ?_
  refine zGetM hx hb hw hown hK hP 0 rfl 11 (by decide) wf_M_52 rfl dM_isDone_574 ?_
  refine lv_iconst (v := nI 1) hx hb dM_isDone_577 (by decide) ?_
  refine lv_iadd hx hb dM_isDone_578 ?_
  refine zti (nI_add _ _) ?_
  refine zPutM hx hb hw hown hK hP hD hS 0 rfl 11 (by decide) wf_M_52 rfl rfl rfl (Nat.le_of_ble_eq_true rfl) dM_isDone_579 (fun H locs hP hD hS => ?_)
  replace hP : va_P D vwCl (mW A C ops nums vals st ce (vp_updL pk pr (st (d - 2))) (vp_updL pv pr (st (d - 1))) n vc sp (d - 2) (pr + 1) tk th tr) H := hP
  replace hD : va_D F (mW A C ops nums vals st ce (vp_updL pk pr (st (d - 2))) (vp_updL pv pr (st (d - 1))) n vc sp (d - 2) (pr + 1) tk th tr) := hD
  refine lv_iload hx hb dM_isDone_582 (lv_at hl 6 rfl) ?_
  refine lv_bipush (v := nI 6) hx hb dM_isDone_584 (by decide) ?_
  refine zc_lt (tgt := 706) hx hb dM_isDone_586 rfl (by omega) (by omega) (fun q => absurd q (by omega)) (fun _ => ?_)
  refine lv_iload hx hb dM_isDone_589 (lv_at hl 6 rfl) ?_
  refine lv_bipush (v := nI 11) hx hb dM_isDone_591 (by decide) ?_
  refine zc_gt (tgt := 706) hx hb dM_isDone_593 rfl (by omega) (by omega) (fun _ => ?_) (fun q => absurd q (by omega))
  refine lv_goto (tgt := 3) hx hb dM_isDone_706 rfl ?_
  exact kk _ _ _ hP hD hS (lv_sub hl [4, 7, 8, 9] rfl)
set_option maxRecDepth 20000 in
set_option maxHeartbeats 4000000 in
theorem mO18 {p : Program} {l : Launch} {e : Env} {s : State} {m : MethodId} {args : Array Value} {below : List Frame} {meth : Method} {c : Code} {F : Nat → Prop} {D : va_G} {A : Nat → Nat} {C : Nat → ClassId} (hx : p.tables.exec = Jvm.exec) (hb : c.code = cM_isDone) (hr : meth.sig.returnType = (some .boolean)) (hlk : meth.locks = false) (hml : c.maxLocals = 14) (hw : ∀ w ∈ WS, w.before args s = true) (hown : s.vm.findClass RM = some m.cls) (hK : va_K D vwCl (mT C) s) (hA : ∀ q, s.heap.size ≤ q → F q) {Q : State → Prop} {ls : Array Slot} {H : Heap} {locs : List Loc} {ops : Nat → Int32} {nums vals st ce pk pv : Nat → Int64} {n vc sp d pr tk th tr : Nat} {w pl : Nat} {key x : Int64} (hd : d ≤ 12) (hw2 : w ≤ 2) (hvc : vc ≤ 40) (htk : tk ≤ vc) (hpr : pr ≤ 4) (hpl : pl ≤ 40) (hP : va_P D vwCl (mW A C ops nums vals st ce pk pv n vc sp d pr tk th tr) H) (hD : va_D F (mW A C ops nums vals st ce pk pv n vc sp d pr tk th tr)) (hS : va_S F s.heap H locs) (hl : lv_has ls 14 [(4, .int (nI pl)), (6, .long x), (5, .int (nI 18)), (0, .ref (A 0)), (1, .int (nI w)), (2, .long key)]) (kk : ∀ (pc : Nat) (ls : Array Slot), decode cM_isDone pc = .ok (.ireturn, 1) → W p l e (rmk 0 0) s m args below meth c H locs 0 0 Q (F0 m pc ls [.int (nI 1)])) : W p l e (rmk 0 0) s m args below meth c H locs 0 0 Q (F0 m 55 ls []) := by
  refine lv_iload hx hb dM_isDone_55 (lv_at hl 2 rfl) ?_
  refine lv_iconst (v := nI 4) hx hb dM_isDone_57 (by decide) ?_
  refine zc_le (tgt := 68) hx hb dM_isDone_58 rfl (by omega) (by omega) (fun q => absurd q (by omega)) (fun _ => ?_)
  refine lv_iload hx hb dM_isDone_61 (lv_at hl 2 rfl) ?_
  refine lv_bipush (v := nI 12) hx hb dM_isDone_63 (by decide) ?_
  refine zc_ne (tgt := 72) hx hb dM_isDone_65 rfl (by omega) (by omega) (fun _ => ?_) (fun q => absurd q (by omega))
  refine lv_iconst (v := nI 0) hx hb dM_isDone_72 (by decide) ?_
  refine lv_istore hx hb dM_isDone_73 hl (by decide) rfl (fun ls hl => ?_)
  have hl : lv_has ls 14 [(8, .int (nI 0)), (4, .int (nI pl)), (6, .long x), (5, .int (nI 18)), (0, .ref (A 0)), (1, .int (nI w)), (2, .long key)] := hl
  refine lv_iload hx hb dM_isDone_75 (lv_at hl 3 rfl) ?_
  refine lv_bipush (v := nI 6) hx hb dM_isDone_77 (by decide) ?_
  refine zc_lt (tgt := 89) hx hb dM_isDone_79 rfl (by omega) (by omega) (fun q => absurd q (by omega)) (fun _ => ?_)
  refine lv_iload hx hb dM_isDone_82 (lv_at hl 3 rfl) ?_
  refine lv_bipush (v := nI 11) hx hb dM_isDone_84 (by decide) ?_
  refine zc_le (tgt := 108) hx hb dM_isDone_86 rfl (by omega) (by omega) (fun q => absurd q (by omega)) (fun _ => ?_)
  refine lv_iload hx hb dM_isDone_89 (lv_at hl 3 rfl) ?_
  refine lv_bipush (v := nI 14) hx hb dM_isDone_91 (by decide) ?_
  refine zc_eq (tgt := 108) hx hb dM_isDone_93 rfl (by omega) (by omega) (fun q => absurd q (by omega)) (fun _ => ?_)
  refine lv_iload hx hb dM_isDone_96 (lv_at hl 3 rfl) ?_
  refine lv_bipush (v := nI 17) hx hb dM_isDone_98 (by decide) ?_
  refine zc_ne (tgt := 112) hx hb dM_isDone_100 rfl (by omega) (by omega) (fun _ => ?_) (fun q => absurd q (by omega))
  refine lv_iload hx hb dM_isDone_112 (lv_at hl 3 rfl) ?_
  refine lv_iconst (v := nI 5) hx hb dM_isDone_114 (by decide) ?_
  refine zc_eq (tgt := 146) hx hb dM_isDone_115 rfl (by omega) (by omega) (fun q => absurd q (by omega)) (fun _ => ?_)
  refine lv_iload hx hb dM_isDone_118 (lv_at hl 3 rfl) ?_
  refine lv_bipush (v := nI 12) hx hb dM_isDone_120 (by decide) ?_
  refine zc_eq (tgt := 146) hx hb dM_isDone_122 rfl (by omega) (by omega) (fun q => absurd q (by omega)) (fun _ => ?_)
  refine lv_iload hx hb dM_isDone_125 (lv_at hl 3 rfl) ?_
  refine lv_bipush (v := nI 13) hx hb dM_isDone_127 (by decide) ?_
  refine zc_eq (tgt := 146) hx hb dM_isDone_129 rfl (by omega) (by omega) (fun q => absurd q (by omega)) (fun _ => ?_)
  refine lv_iload hx hb dM_isDone_132 (lv_at hl 3 rfl) ?_
  refine lv_bipush (v := nI 16) hx hb dM_isDone_134 (by decide) ?_
  refine zc_eq (tgt := 146) hx hb dM_isDone_136 rfl (by omega) (by omega) (fun q => absurd q (by omega)) (fun _ => ?_)
  refine lv_iload hx hb dM_isDone_139 (lv_at hl 3 rfl) ?_
  refine lv_bipush (v := nI 17) hx hb dM_isDone_141 (by decide) ?_
  refine zc_ne (tgt := 150) hx hb dM_isDone_143 rfl (by omega) (by omega) (fun _ => ?_) (fun q => absurd q (by omega))
  refine lv_iconst (v := nI 0) hx hb dM_isDone_150 (by decide) ?_
  refine lv_istore hx hb dM_isDone_151 hl (by decide) rfl (fun ls hl => ?_)
  have hl : lv_has ls 14 [(9, .int (nI 0)), (8, .int (nI 0)), (4, .int (nI pl)), (6, .long x), (5, .int (nI 18)), (0, .ref (A 0)), (1, .int (nI w)), (2, .long key)] := hl
  refine lv_aload_n hx hb dM_isDone_153 rfl (lv_at hl 5 rfl) ?_
  refine zGetM hx hb hw hown hK hP 0 rfl 10 (by decide) wf_M_49 rfl dM_isDone_154 ?_
  refine lv_iload hx hb dM_isDone_157 (lv_at hl 0 rfl) ?_
  refine zc_lt (tgt := 176) hx hb dM_isDone_159 rfl (by omega) (by omega) (fun q => absurd q (by omega)) (fun _ => ?_)
  refine lv_iload hx hb dM_isDone_162 (lv_at hl 1 rfl) ?_
  refine zi_eq (tgt := 178) hx hb dM_isDone_164 rfl (by omega) (fun _ => ?_) (fun q => absurd q (by omega))
  refine lv_iload hx hb dM_isDone_178 (lv_at hl 0 rfl) ?_
  refine zi_le (tgt := 197) hx hb dM_isDone_180 rfl (by omega) (fun _ => ?_) (fun q => absurd q (by omega))
  refine lv_lconst (v := 0) hx hb dM_isDone_197 (by decide) ?_
  refine lv_lstore hx hb dM_isDone_198 hl (by decide) rfl (fun ls hl => ?_)
  have hl : lv_has ls 14 [(10, .long (0 : Int64)), (9, .int (nI 0)), (8, .int (nI 0)), (4, .int (nI pl)), (6, .long x), (5, .int (nI 18)), (0, .ref (A 0)), (1, .int (nI w)), (2, .long key)] := hl
  refine lv_iload hx hb dM_isDone_200 (lv_at hl 1 rfl) ?_
  refine lv_iconst (v := nI 1) hx hb dM_isDone_202 (by decide) ?_
  refine zc_le (tgt := 220) hx hb dM_isDone_203 rfl (by omega) (by omega) (fun _ => ?_) (fun q => absurd q (by omega))
  refine lv_lconst (v := 0) hx hb dM_isDone_220 (by decide) ?_
  refine lv_lstore hx hb dM_isDone_221 hl (by decide) rfl (fun ls hl => ?_)
  have hl : lv_has ls 14 [(12, .long (0 : Int64)), (10, .long (0 : Int64)), (9, .int (nI 0)), (8, .int (nI 0)), (4, .int (nI pl)), (6, .long x), (5, .int (nI 18)), (0, .ref (A 0)), (1, .int (nI w)), (2, .long key)] := hl
  refine lv_iload hx hb dM_isDone_223 (lv_at hl 6 rfl) ?_
  refine lv_bipush (v := nI 18) hx hb dM_isDone_225 (by decide) ?_
  refine zc_ne (tgt := 232) hx hb dM_isDone_227 rfl (by omega) (by omega) (fun q => absurd q (by omega)) (fun _ => ?_)
  refine lv_iconst (v := nI 1) hx hb dM_isDone_230 (by decide) ?_
  exact kk _ _ dM_isDone_231
set_option maxRecDepth 20000 in
set_option maxHeartbeats 4000000 in
theorem mT0f {p : Program} {l : Launch} {e : Env} {s : State} {m : MethodId} {args : Array Value} {below : List Frame} {meth : Method} {c : Code} {F : Nat → Prop} {D : va_G} {A : Nat → Nat} {C : Nat → ClassId} (hx : p.tables.exec = Jvm.exec) (hb : c.code = cM_isDone) (hr : meth.sig.returnType = (some .boolean)) (hlk : meth.locks = false) (hml : c.maxLocals = 14) (hw : ∀ w ∈ WS, w.before args s = true) (hown : s.vm.findClass RM = some m.cls) (hK : va_K D vwCl (mT C) s) (hA : ∀ q, s.heap.size ≤ q → F q) {Q : State → Prop} {ls : Array Slot} {H : Heap} {locs : List Loc} {ops : Nat → Int32} {nums vals st ce pk pv : Nat → Int64} {n vc sp d pr tk th tr : Nat} {w pl : Nat} {key x : Int64} (hd : d ≤ 12) (hw2 : w ≤ 2) (hvc : vc ≤ 40) (htk : tk ≤ vc) (hpr : pr ≤ 4) (hpl : pl ≤ 40) (hf : d = 12) (hP : va_P D vwCl (mW A C ops nums vals st ce pk pv n vc sp d pr tk th tr) H) (hD : va_D F (mW A C ops nums vals st ce pk pv n vc sp d pr tk th tr)) (hS : va_S F s.heap H locs) (hl : lv_has ls 14 [(4, .int (nI pl)), (6, .long x), (5, .int (nI 0)), (0, .ref (A 0)), (1, .int (nI w)), (2, .long key)]) (kk : ∀ (pc : Nat) (ls : Array Slot), decode cM_isDone pc = .ok (.ireturn, 1) → W p l e (rmk 0 0) s m args below meth c H locs 0 0 Q (F0 m pc ls [.int (nI 0)])) : W p l e (rmk 0 0) s m args below meth c H locs 0 0 Q (F0 m 55 ls []) := by
  refine lv_iload hx hb dM_isDone_55 (lv_at hl 2 rfl) ?_
  refine lv_iconst (v := nI 4) hx hb dM_isDone_57 (by decide) ?_
  refine zc_le (tgt := 68) hx hb dM_isDone_58 rfl (by omega) (by omega) (fun _ => ?_) (fun q => absurd q (by omega))
  refine lv_iconst (v := nI 1) hx hb dM_isDone_68 (by decide) ?_
  refine lv_goto (tgt := 73) hx hb dM_isDone_69 rfl ?_
  refine lv_istore hx hb dM_isDone_73 hl (by decide) rfl (fun ls hl => ?_)
  have hl : lv_has ls 14 [(8, .int (nI 1)), (4, .int (nI pl)), (6, .long x), (5, .int (nI 0)), (0, .ref (A 0)), (1, .int (nI w)), (2, .long key)] := hl
  refine lv_iload hx hb dM_isDone_75 (lv_at hl 3 rfl) ?_
  refine lv_bipush (v := nI 6) hx hb dM_isDone_77 (by decide) ?_
  refine zc_lt (tgt := 89) hx hb dM_isDone_79 rfl (by omega) (by omega) (fun _ => ?_) (fun q => absurd q (by omega))
  refine lv_iload hx hb dM_isDone_89 (lv_at hl 3 rfl) ?_
  refine lv_bipush (v := nI 14) hx hb dM_isDone_91 (by decide) ?_
  refine zc_eq (tgt := 108) hx hb dM_isDone_93 rfl (by omega) (by omega) (fun q => absurd q (by omega)) (fun _ => ?_)
  refine lv_iload hx hb dM_isDone_96 (lv_at hl 3 rfl) ?_
  refine lv_bipush (v := nI 17) hx hb dM_isDone_98 (by decide) ?_
  refine zc_ne (tgt := 112) hx hb dM_isDone_100 rfl (by omega) (by omega) (fun _ => ?_) (fun q => absurd q (by omega))
  refine lv_iload hx hb dM_isDone_112 (lv_at hl 3 rfl) ?_
  refine lv_iconst (v := nI 5) hx hb dM_isDone_114 (by decide) ?_
  refine zc_eq (tgt := 146) hx hb dM_isDone_115 rfl (by omega) (by omega) (fun q => absurd q (by omega)) (fun _ => ?_)
  refine lv_iload hx hb dM_isDone_118 (lv_at hl 3 rfl) ?_
  refine lv_bipush (v := nI 12) hx hb dM_isDone_120 (by decide) ?_
  refine zc_eq (tgt := 146) hx hb dM_isDone_122 rfl (by omega) (by omega) (fun q => absurd q (by omega)) (fun _ => ?_)
  refine lv_iload hx hb dM_isDone_125 (lv_at hl 3 rfl) ?_
  refine lv_bipush (v := nI 13) hx hb dM_isDone_127 (by decide) ?_
  refine zc_eq (tgt := 146) hx hb dM_isDone_129 rfl (by omega) (by omega) (fun q => absurd q (by omega)) (fun _ => ?_)
  refine lv_iload hx hb dM_isDone_132 (lv_at hl 3 rfl) ?_
  refine lv_bipush (v := nI 16) hx hb dM_isDone_134 (by decide) ?_
  refine zc_eq (tgt := 146) hx hb dM_isDone_136 rfl (by omega) (by omega) (fun q => absurd q (by omega)) (fun _ => ?_)
  refine lv_iload hx hb dM_isDone_139 (lv_at hl 3 rfl) ?_
  refine lv_bipush (v := nI 17) hx hb dM_isDone_141 (by decide) ?_
  refine zc_ne (tgt := 150) hx hb dM_isDone_143 rfl (by omega) (by omega) (fun _ => ?_) (fun q => absurd q (by omega))
  refine lv_iconst (v := nI 0) hx hb dM_isDone_150 (by decide) ?_
  refine lv_istore hx hb dM_isDone_151 hl (by decide) rfl (fun ls hl => ?_)
  have hl : lv_has ls 14 [(9, .int (nI 0)), (8, .int (nI 1)), (4, .int (nI pl)), (6, .long x), (5, .int (nI 0)), (0, .ref (A 0)), (1, .int (nI w)), (2, .long key)] := hl
  refine lv_aload_n hx hb dM_isDone_153 rfl (lv_at hl 5 rfl) ?_
  refine zGetM hx hb hw hown hK hP 0 rfl 10 (by decide) wf_M_49 rfl dM_isDone_154 ?_
  refine lv_iload hx hb dM_isDone_157 (lv_at hl 0 rfl) ?_
  refine zc_lt (tgt := 176) hx hb dM_isDone_159 rfl (by omega) (by omega) (fun q => absurd q (by omega)) (fun _ => ?_)
  refine lv_iload hx hb dM_isDone_162 (lv_at hl 1 rfl) ?_
  refine zi_eq (tgt := 178) hx hb dM_isDone_164 rfl (by omega) (fun q => absurd q (by omega)) (fun _ => ?_)
  refine lv_aload_n hx hb dM_isDone_167 rfl (lv_at hl 5 rfl) ?_
  refine zGetM hx hb hw hown hK hP 0 rfl 10 (by decide) wf_M_49 rfl dM_isDone_168 ?_
  refine lv_bipush (v := nI 12) hx hb dM_isDone_171 (by decide) ?_
  refine zc_ne (tgt := 178) hx hb dM_isDone_173 rfl (by omega) (by omega) (fun q => absurd q (by omega)) (fun _ => ?_)
  refine lv_iconst (v := nI 0) hx hb dM_isDone_176 (by decide) ?_
  exact kk _ _ dM_isDone_177
set_option maxRecDepth 20000 in
set_option maxHeartbeats 4000000 in
theorem mT1f {p : Program} {l : Launch} {e : Env} {s : State} {m : MethodId} {args : Array Value} {below : List Frame} {meth : Method} {c : Code} {F : Nat → Prop} {D : va_G} {A : Nat → Nat} {C : Nat → ClassId} (hx : p.tables.exec = Jvm.exec) (hb : c.code = cM_isDone) (hr : meth.sig.returnType = (some .boolean)) (hlk : meth.locks = false) (hml : c.maxLocals = 14) (hw : ∀ w ∈ WS, w.before args s = true) (hown : s.vm.findClass RM = some m.cls) (hK : va_K D vwCl (mT C) s) (hA : ∀ q, s.heap.size ≤ q → F q) {Q : State → Prop} {ls : Array Slot} {H : Heap} {locs : List Loc} {ops : Nat → Int32} {nums vals st ce pk pv : Nat → Int64} {n vc sp d pr tk th tr : Nat} {w pl : Nat} {key x : Int64} (hd : d ≤ 12) (hw2 : w ≤ 2) (hvc : vc ≤ 40) (htk : tk ≤ vc) (hpr : pr ≤ 4) (hpl : pl ≤ 40) (hf : d = 12) (hP : va_P D vwCl (mW A C ops nums vals st ce pk pv n vc sp d pr tk th tr) H) (hD : va_D F (mW A C ops nums vals st ce pk pv n vc sp d pr tk th tr)) (hS : va_S F s.heap H locs) (hl : lv_has ls 14 [(4, .int (nI pl)), (6, .long x), (5, .int (nI 1)), (0, .ref (A 0)), (1, .int (nI w)), (2, .long key)]) (kk : ∀ (pc : Nat) (ls : Array Slot), decode cM_isDone pc = .ok (.ireturn, 1) → W p l e (rmk 0 0) s m args below meth c H locs 0 0 Q (F0 m pc ls [.int (nI 0)])) : W p l e (rmk 0 0) s m args below meth c H locs 0 0 Q (F0 m 55 ls []) := by
  refine lv_iload hx hb dM_isDone_55 (lv_at hl 2 rfl) ?_
  refine lv_iconst (v := nI 4) hx hb dM_isDone_57 (by decide) ?_
  refine zc_le (tgt := 68) hx hb dM_isDone_58 rfl (by omega) (by omega) (fun _ => ?_) (fun q => absurd q (by omega))
  refine lv_iconst (v := nI 1) hx hb dM_isDone_68 (by decide) ?_
  refine lv_goto (tgt := 73) hx hb dM_isDone_69 rfl ?_
  refine lv_istore hx hb dM_isDone_73 hl (by decide) rfl (fun ls hl => ?_)
  have hl : lv_has ls 14 [(8, .int (nI 1)), (4, .int (nI pl)), (6, .long x), (5, .int (nI 1)), (0, .ref (A 0)), (1, .int (nI w)), (2, .long key)] := hl
  refine lv_iload hx hb dM_isDone_75 (lv_at hl 3 rfl) ?_
  refine lv_bipush (v := nI 6) hx hb dM_isDone_77 (by decide) ?_
  refine zc_lt (tgt := 89) hx hb dM_isDone_79 rfl (by omega) (by omega) (fun _ => ?_) (fun q => absurd q (by omega))
  refine lv_iload hx hb dM_isDone_89 (lv_at hl 3 rfl) ?_
  refine lv_bipush (v := nI 14) hx hb dM_isDone_91 (by decide) ?_
  refine zc_eq (tgt := 108) hx hb dM_isDone_93 rfl (by omega) (by omega) (fun q => absurd q (by omega)) (fun _ => ?_)
  refine lv_iload hx hb dM_isDone_96 (lv_at hl 3 rfl) ?_
  refine lv_bipush (v := nI 17) hx hb dM_isDone_98 (by decide) ?_
  refine zc_ne (tgt := 112) hx hb dM_isDone_100 rfl (by omega) (by omega) (fun _ => ?_) (fun q => absurd q (by omega))
  refine lv_iload hx hb dM_isDone_112 (lv_at hl 3 rfl) ?_
  refine lv_iconst (v := nI 5) hx hb dM_isDone_114 (by decide) ?_
  refine zc_eq (tgt := 146) hx hb dM_isDone_115 rfl (by omega) (by omega) (fun q => absurd q (by omega)) (fun _ => ?_)
  refine lv_iload hx hb dM_isDone_118 (lv_at hl 3 rfl) ?_
  refine lv_bipush (v := nI 12) hx hb dM_isDone_120 (by decide) ?_
  refine zc_eq (tgt := 146) hx hb dM_isDone_122 rfl (by omega) (by omega) (fun q => absurd q (by omega)) (fun _ => ?_)
  refine lv_iload hx hb dM_isDone_125 (lv_at hl 3 rfl) ?_
  refine lv_bipush (v := nI 13) hx hb dM_isDone_127 (by decide) ?_
  refine zc_eq (tgt := 146) hx hb dM_isDone_129 rfl (by omega) (by omega) (fun q => absurd q (by omega)) (fun _ => ?_)
  refine lv_iload hx hb dM_isDone_132 (lv_at hl 3 rfl) ?_
  refine lv_bipush (v := nI 16) hx hb dM_isDone_134 (by decide) ?_
  refine zc_eq (tgt := 146) hx hb dM_isDone_136 rfl (by omega) (by omega) (fun q => absurd q (by omega)) (fun _ => ?_)
  refine lv_iload hx hb dM_isDone_139 (lv_at hl 3 rfl) ?_
  refine lv_bipush (v := nI 17) hx hb dM_isDone_141 (by decide) ?_
  refine zc_ne (tgt := 150) hx hb dM_isDone_143 rfl (by omega) (by omega) (fun _ => ?_) (fun q => absurd q (by omega))
  refine lv_iconst (v := nI 0) hx hb dM_isDone_150 (by decide) ?_
  refine lv_istore hx hb dM_isDone_151 hl (by decide) rfl (fun ls hl => ?_)
  have hl : lv_has ls 14 [(9, .int (nI 0)), (8, .int (nI 1)), (4, .int (nI pl)), (6, .long x), (5, .int (nI 1)), (0, .ref (A 0)), (1, .int (nI w)), (2, .long key)] := hl
  refine lv_aload_n hx hb dM_isDone_153 rfl (lv_at hl 5 rfl) ?_
  refine zGetM hx hb hw hown hK hP 0 rfl 10 (by decide) wf_M_49 rfl dM_isDone_154 ?_
  refine lv_iload hx hb dM_isDone_157 (lv_at hl 0 rfl) ?_
  refine zc_lt (tgt := 176) hx hb dM_isDone_159 rfl (by omega) (by omega) (fun q => absurd q (by omega)) (fun _ => ?_)
  refine lv_iload hx hb dM_isDone_162 (lv_at hl 1 rfl) ?_
  refine zi_eq (tgt := 178) hx hb dM_isDone_164 rfl (by omega) (fun q => absurd q (by omega)) (fun _ => ?_)
  refine lv_aload_n hx hb dM_isDone_167 rfl (lv_at hl 5 rfl) ?_
  refine zGetM hx hb hw hown hK hP 0 rfl 10 (by decide) wf_M_49 rfl dM_isDone_168 ?_
  refine lv_bipush (v := nI 12) hx hb dM_isDone_171 (by decide) ?_
  refine zc_ne (tgt := 178) hx hb dM_isDone_173 rfl (by omega) (by omega) (fun q => absurd q (by omega)) (fun _ => ?_)
  refine lv_iconst (v := nI 0) hx hb dM_isDone_176 (by decide) ?_
  exact kk _ _ dM_isDone_177
set_option maxRecDepth 20000 in
set_option maxHeartbeats 4000000 in
theorem mT2f {p : Program} {l : Launch} {e : Env} {s : State} {m : MethodId} {args : Array Value} {below : List Frame} {meth : Method} {c : Code} {F : Nat → Prop} {D : va_G} {A : Nat → Nat} {C : Nat → ClassId} (hx : p.tables.exec = Jvm.exec) (hb : c.code = cM_isDone) (hr : meth.sig.returnType = (some .boolean)) (hlk : meth.locks = false) (hml : c.maxLocals = 14) (hw : ∀ w ∈ WS, w.before args s = true) (hown : s.vm.findClass RM = some m.cls) (hK : va_K D vwCl (mT C) s) (hA : ∀ q, s.heap.size ≤ q → F q) {Q : State → Prop} {ls : Array Slot} {H : Heap} {locs : List Loc} {ops : Nat → Int32} {nums vals st ce pk pv : Nat → Int64} {n vc sp d pr tk th tr : Nat} {w pl : Nat} {key x : Int64} (hd : d ≤ 12) (hw2 : w ≤ 2) (hvc : vc ≤ 40) (htk : tk ≤ vc) (hpr : pr ≤ 4) (hpl : pl ≤ 40) (hf : d = 12) (hP : va_P D vwCl (mW A C ops nums vals st ce pk pv n vc sp d pr tk th tr) H) (hD : va_D F (mW A C ops nums vals st ce pk pv n vc sp d pr tk th tr)) (hS : va_S F s.heap H locs) (hl : lv_has ls 14 [(4, .int (nI pl)), (6, .long x), (5, .int (nI 2)), (0, .ref (A 0)), (1, .int (nI w)), (2, .long key)]) (kk : ∀ (pc : Nat) (ls : Array Slot), decode cM_isDone pc = .ok (.ireturn, 1) → W p l e (rmk 0 0) s m args below meth c H locs 0 0 Q (F0 m pc ls [.int (nI 0)])) : W p l e (rmk 0 0) s m args below meth c H locs 0 0 Q (F0 m 55 ls []) := by
  refine lv_iload hx hb dM_isDone_55 (lv_at hl 2 rfl) ?_
  refine lv_iconst (v := nI 4) hx hb dM_isDone_57 (by decide) ?_
  refine zc_le (tgt := 68) hx hb dM_isDone_58 rfl (by omega) (by omega) (fun _ => ?_) (fun q => absurd q (by omega))
  refine lv_iconst (v := nI 1) hx hb dM_isDone_68 (by decide) ?_
  refine lv_goto (tgt := 73) hx hb dM_isDone_69 rfl ?_
  refine lv_istore hx hb dM_isDone_73 hl (by decide) rfl (fun ls hl => ?_)
  have hl : lv_has ls 14 [(8, .int (nI 1)), (4, .int (nI pl)), (6, .long x), (5, .int (nI 2)), (0, .ref (A 0)), (1, .int (nI w)), (2, .long key)] := hl
  refine lv_iload hx hb dM_isDone_75 (lv_at hl 3 rfl) ?_
  refine lv_bipush (v := nI 6) hx hb dM_isDone_77 (by decide) ?_
  refine zc_lt (tgt := 89) hx hb dM_isDone_79 rfl (by omega) (by omega) (fun _ => ?_) (fun q => absurd q (by omega))
  refine lv_iload hx hb dM_isDone_89 (lv_at hl 3 rfl) ?_
  refine lv_bipush (v := nI 14) hx hb dM_isDone_91 (by decide) ?_
  refine zc_eq (tgt := 108) hx hb dM_isDone_93 rfl (by omega) (by omega) (fun q => absurd q (by omega)) (fun _ => ?_)
  refine lv_iload hx hb dM_isDone_96 (lv_at hl 3 rfl) ?_
  refine lv_bipush (v := nI 17) hx hb dM_isDone_98 (by decide) ?_
  refine zc_ne (tgt := 112) hx hb dM_isDone_100 rfl (by omega) (by omega) (fun _ => ?_) (fun q => absurd q (by omega))
  refine lv_iload hx hb dM_isDone_112 (lv_at hl 3 rfl) ?_
  refine lv_iconst (v := nI 5) hx hb dM_isDone_114 (by decide) ?_
  refine zc_eq (tgt := 146) hx hb dM_isDone_115 rfl (by omega) (by omega) (fun q => absurd q (by omega)) (fun _ => ?_)
  refine lv_iload hx hb dM_isDone_118 (lv_at hl 3 rfl) ?_
  refine lv_bipush (v := nI 12) hx hb dM_isDone_120 (by decide) ?_
  refine zc_eq (tgt := 146) hx hb dM_isDone_122 rfl (by omega) (by omega) (fun q => absurd q (by omega)) (fun _ => ?_)
  refine lv_iload hx hb dM_isDone_125 (lv_at hl 3 rfl) ?_
  refine lv_bipush (v := nI 13) hx hb dM_isDone_127 (by decide) ?_
  refine zc_eq (tgt := 146) hx hb dM_isDone_129 rfl (by omega) (by omega) (fun q => absurd q (by omega)) (fun _ => ?_)
  refine lv_iload hx hb dM_isDone_132 (lv_at hl 3 rfl) ?_
  refine lv_bipush (v := nI 16) hx hb dM_isDone_134 (by decide) ?_
  refine zc_eq (tgt := 146) hx hb dM_isDone_136 rfl (by omega) (by omega) (fun q => absurd q (by omega)) (fun _ => ?_)
  refine lv_iload hx hb dM_isDone_139 (lv_at hl 3 rfl) ?_
  refine lv_bipush (v := nI 17) hx hb dM_isDone_141 (by decide) ?_
  refine zc_ne (tgt := 150) hx hb dM_isDone_143 rfl (by omega) (by omega) (fun _ => ?_) (fun q => absurd q (by omega))
  refine lv_iconst (v := nI 0) hx hb dM_isDone_150 (by decide) ?_
  refine lv_istore hx hb dM_isDone_151 hl (by decide) rfl (fun ls hl => ?_)
  have hl : lv_has ls 14 [(9, .int (nI 0)), (8, .int (nI 1)), (4, .int (nI pl)), (6, .long x), (5, .int (nI 2)), (0, .ref (A 0)), (1, .int (nI w)), (2, .long key)] := hl
  refine lv_aload_n hx hb dM_isDone_153 rfl (lv_at hl 5 rfl) ?_
  refine zGetM hx hb hw hown hK hP 0 rfl 10 (by decide) wf_M_49 rfl dM_isDone_154 ?_
  refine lv_iload hx hb dM_isDone_157 (lv_at hl 0 rfl) ?_
  refine zc_lt (tgt := 176) hx hb dM_isDone_159 rfl (by omega) (by omega) (fun q => absurd q (by omega)) (fun _ => ?_)
  refine lv_iload hx hb dM_isDone_162 (lv_at hl 1 rfl) ?_
  refine zi_eq (tgt := 178) hx hb dM_isDone_164 rfl (by omega) (fun q => absurd q (by omega)) (fun _ => ?_)
  refine lv_aload_n hx hb dM_isDone_167 rfl (lv_at hl 5 rfl) ?_
  refine zGetM hx hb hw hown hK hP 0 rfl 10 (by decide) wf_M_49 rfl dM_isDone_168 ?_
  refine lv_bipush (v := nI 12) hx hb dM_isDone_171 (by decide) ?_
  refine zc_ne (tgt := 178) hx hb dM_isDone_173 rfl (by omega) (by omega) (fun q => absurd q (by omega)) (fun _ => ?_)
  refine lv_iconst (v := nI 0) hx hb dM_isDone_176 (by decide) ?_
  exact kk _ _ dM_isDone_177
set_option maxRecDepth 20000 in
set_option maxHeartbeats 4000000 in
theorem mT3f {p : Program} {l : Launch} {e : Env} {s : State} {m : MethodId} {args : Array Value} {below : List Frame} {meth : Method} {c : Code} {F : Nat → Prop} {D : va_G} {A : Nat → Nat} {C : Nat → ClassId} (hx : p.tables.exec = Jvm.exec) (hb : c.code = cM_isDone) (hr : meth.sig.returnType = (some .boolean)) (hlk : meth.locks = false) (hml : c.maxLocals = 14) (hw : ∀ w ∈ WS, w.before args s = true) (hown : s.vm.findClass RM = some m.cls) (hK : va_K D vwCl (mT C) s) (hA : ∀ q, s.heap.size ≤ q → F q) {Q : State → Prop} {ls : Array Slot} {H : Heap} {locs : List Loc} {ops : Nat → Int32} {nums vals st ce pk pv : Nat → Int64} {n vc sp d pr tk th tr : Nat} {w pl : Nat} {key x : Int64} (hd : d ≤ 12) (hw2 : w ≤ 2) (hvc : vc ≤ 40) (htk : tk ≤ vc) (hpr : pr ≤ 4) (hpl : pl ≤ 40) (hf : d = 12) (hP : va_P D vwCl (mW A C ops nums vals st ce pk pv n vc sp d pr tk th tr) H) (hD : va_D F (mW A C ops nums vals st ce pk pv n vc sp d pr tk th tr)) (hS : va_S F s.heap H locs) (hl : lv_has ls 14 [(4, .int (nI pl)), (6, .long x), (5, .int (nI 3)), (0, .ref (A 0)), (1, .int (nI w)), (2, .long key)]) (kk : ∀ (pc : Nat) (ls : Array Slot), decode cM_isDone pc = .ok (.ireturn, 1) → W p l e (rmk 0 0) s m args below meth c H locs 0 0 Q (F0 m pc ls [.int (nI 0)])) : W p l e (rmk 0 0) s m args below meth c H locs 0 0 Q (F0 m 55 ls []) := by
  refine lv_iload hx hb dM_isDone_55 (lv_at hl 2 rfl) ?_
  refine lv_iconst (v := nI 4) hx hb dM_isDone_57 (by decide) ?_
  refine zc_le (tgt := 68) hx hb dM_isDone_58 rfl (by omega) (by omega) (fun _ => ?_) (fun q => absurd q (by omega))
  refine lv_iconst (v := nI 1) hx hb dM_isDone_68 (by decide) ?_
  refine lv_goto (tgt := 73) hx hb dM_isDone_69 rfl ?_
  refine lv_istore hx hb dM_isDone_73 hl (by decide) rfl (fun ls hl => ?_)
  have hl : lv_has ls 14 [(8, .int (nI 1)), (4, .int (nI pl)), (6, .long x), (5, .int (nI 3)), (0, .ref (A 0)), (1, .int (nI w)), (2, .long key)] := hl
  refine lv_iload hx hb dM_isDone_75 (lv_at hl 3 rfl) ?_
  refine lv_bipush (v := nI 6) hx hb dM_isDone_77 (by decide) ?_
  refine zc_lt (tgt := 89) hx hb dM_isDone_79 rfl (by omega) (by omega) (fun _ => ?_) (fun q => absurd q (by omega))
  refine lv_iload hx hb dM_isDone_89 (lv_at hl 3 rfl) ?_
  refine lv_bipush (v := nI 14) hx hb dM_isDone_91 (by decide) ?_
  refine zc_eq (tgt := 108) hx hb dM_isDone_93 rfl (by omega) (by omega) (fun q => absurd q (by omega)) (fun _ => ?_)
  refine lv_iload hx hb dM_isDone_96 (lv_at hl 3 rfl) ?_
  refine lv_bipush (v := nI 17) hx hb dM_isDone_98 (by decide) ?_
  refine zc_ne (tgt := 112) hx hb dM_isDone_100 rfl (by omega) (by omega) (fun _ => ?_) (fun q => absurd q (by omega))
  refine lv_iload hx hb dM_isDone_112 (lv_at hl 3 rfl) ?_
  refine lv_iconst (v := nI 5) hx hb dM_isDone_114 (by decide) ?_
  refine zc_eq (tgt := 146) hx hb dM_isDone_115 rfl (by omega) (by omega) (fun q => absurd q (by omega)) (fun _ => ?_)
  refine lv_iload hx hb dM_isDone_118 (lv_at hl 3 rfl) ?_
  refine lv_bipush (v := nI 12) hx hb dM_isDone_120 (by decide) ?_
  refine zc_eq (tgt := 146) hx hb dM_isDone_122 rfl (by omega) (by omega) (fun q => absurd q (by omega)) (fun _ => ?_)
  refine lv_iload hx hb dM_isDone_125 (lv_at hl 3 rfl) ?_
  refine lv_bipush (v := nI 13) hx hb dM_isDone_127 (by decide) ?_
  refine zc_eq (tgt := 146) hx hb dM_isDone_129 rfl (by omega) (by omega) (fun q => absurd q (by omega)) (fun _ => ?_)
  refine lv_iload hx hb dM_isDone_132 (lv_at hl 3 rfl) ?_
  refine lv_bipush (v := nI 16) hx hb dM_isDone_134 (by decide) ?_
  refine zc_eq (tgt := 146) hx hb dM_isDone_136 rfl (by omega) (by omega) (fun q => absurd q (by omega)) (fun _ => ?_)
  refine lv_iload hx hb dM_isDone_139 (lv_at hl 3 rfl) ?_
  refine lv_bipush (v := nI 17) hx hb dM_isDone_141 (by decide) ?_
  refine zc_ne (tgt := 150) hx hb dM_isDone_143 rfl (by omega) (by omega) (fun _ => ?_) (fun q => absurd q (by omega))
  refine lv_iconst (v := nI 0) hx hb dM_isDone_150 (by decide) ?_
  refine lv_istore hx hb dM_isDone_151 hl (by decide) rfl (fun ls hl => ?_)
  have hl : lv_has ls 14 [(9, .int (nI 0)), (8, .int (nI 1)), (4, .int (nI pl)), (6, .long x), (5, .int (nI 3)), (0, .ref (A 0)), (1, .int (nI w)), (2, .long key)] := hl
  refine lv_aload_n hx hb dM_isDone_153 rfl (lv_at hl 5 rfl) ?_
  refine zGetM hx hb hw hown hK hP 0 rfl 10 (by decide) wf_M_49 rfl dM_isDone_154 ?_
  refine lv_iload hx hb dM_isDone_157 (lv_at hl 0 rfl) ?_
  refine zc_lt (tgt := 176) hx hb dM_isDone_159 rfl (by omega) (by omega) (fun q => absurd q (by omega)) (fun _ => ?_)
  refine lv_iload hx hb dM_isDone_162 (lv_at hl 1 rfl) ?_
  refine zi_eq (tgt := 178) hx hb dM_isDone_164 rfl (by omega) (fun q => absurd q (by omega)) (fun _ => ?_)
  refine lv_aload_n hx hb dM_isDone_167 rfl (lv_at hl 5 rfl) ?_
  refine zGetM hx hb hw hown hK hP 0 rfl 10 (by decide) wf_M_49 rfl dM_isDone_168 ?_
  refine lv_bipush (v := nI 12) hx hb dM_isDone_171 (by decide) ?_
  refine zc_ne (tgt := 178) hx hb dM_isDone_173 rfl (by omega) (by omega) (fun q => absurd q (by omega)) (fun _ => ?_)
  refine lv_iconst (v := nI 0) hx hb dM_isDone_176 (by decide) ?_
  exact kk _ _ dM_isDone_177
set_option maxRecDepth 20000 in
set_option maxHeartbeats 4000000 in
theorem mT4f {p : Program} {l : Launch} {e : Env} {s : State} {m : MethodId} {args : Array Value} {below : List Frame} {meth : Method} {c : Code} {F : Nat → Prop} {D : va_G} {A : Nat → Nat} {C : Nat → ClassId} (hx : p.tables.exec = Jvm.exec) (hb : c.code = cM_isDone) (hr : meth.sig.returnType = (some .boolean)) (hlk : meth.locks = false) (hml : c.maxLocals = 14) (hw : ∀ w ∈ WS, w.before args s = true) (hown : s.vm.findClass RM = some m.cls) (hK : va_K D vwCl (mT C) s) (hA : ∀ q, s.heap.size ≤ q → F q) {Q : State → Prop} {ls : Array Slot} {H : Heap} {locs : List Loc} {ops : Nat → Int32} {nums vals st ce pk pv : Nat → Int64} {n vc sp d pr tk th tr : Nat} {w pl : Nat} {key x : Int64} (hd : d ≤ 12) (hw2 : w ≤ 2) (hvc : vc ≤ 40) (htk : tk ≤ vc) (hpr : pr ≤ 4) (hpl : pl ≤ 40) (hf : d = 12) (hP : va_P D vwCl (mW A C ops nums vals st ce pk pv n vc sp d pr tk th tr) H) (hD : va_D F (mW A C ops nums vals st ce pk pv n vc sp d pr tk th tr)) (hS : va_S F s.heap H locs) (hl : lv_has ls 14 [(4, .int (nI pl)), (6, .long x), (5, .int (nI 4)), (0, .ref (A 0)), (1, .int (nI w)), (2, .long key)]) (kk : ∀ (pc : Nat) (ls : Array Slot), decode cM_isDone pc = .ok (.ireturn, 1) → W p l e (rmk 0 0) s m args below meth c H locs 0 0 Q (F0 m pc ls [.int (nI 0)])) : W p l e (rmk 0 0) s m args below meth c H locs 0 0 Q (F0 m 55 ls []) := by
  refine lv_iload hx hb dM_isDone_55 (lv_at hl 2 rfl) ?_
  refine lv_iconst (v := nI 4) hx hb dM_isDone_57 (by decide) ?_
  refine zc_le (tgt := 68) hx hb dM_isDone_58 rfl (by omega) (by omega) (fun _ => ?_) (fun q => absurd q (by omega))
  refine lv_iconst (v := nI 1) hx hb dM_isDone_68 (by decide) ?_
  refine lv_goto (tgt := 73) hx hb dM_isDone_69 rfl ?_
  refine lv_istore hx hb dM_isDone_73 hl (by decide) rfl (fun ls hl => ?_)
  have hl : lv_has ls 14 [(8, .int (nI 1)), (4, .int (nI pl)), (6, .long x), (5, .int (nI 4)), (0, .ref (A 0)), (1, .int (nI w)), (2, .long key)] := hl
  refine lv_iload hx hb dM_isDone_75 (lv_at hl 3 rfl) ?_
  refine lv_bipush (v := nI 6) hx hb dM_isDone_77 (by decide) ?_
  refine zc_lt (tgt := 89) hx hb dM_isDone_79 rfl (by omega) (by omega) (fun _ => ?_) (fun q => absurd q (by omega))
  refine lv_iload hx hb dM_isDone_89 (lv_at hl 3 rfl) ?_
  refine lv_bipush (v := nI 14) hx hb dM_isDone_91 (by decide) ?_
  refine zc_eq (tgt := 108) hx hb dM_isDone_93 rfl (by omega) (by omega) (fun q => absurd q (by omega)) (fun _ => ?_)
  refine lv_iload hx hb dM_isDone_96 (lv_at hl 3 rfl) ?_
  refine lv_bipush (v := nI 17) hx hb dM_isDone_98 (by decide) ?_
  refine zc_ne (tgt := 112) hx hb dM_isDone_100 rfl (by omega) (by omega) (fun _ => ?_) (fun q => absurd q (by omega))
  refine lv_iload hx hb dM_isDone_112 (lv_at hl 3 rfl) ?_
  refine lv_iconst (v := nI 5) hx hb dM_isDone_114 (by decide) ?_
  refine zc_eq (tgt := 146) hx hb dM_isDone_115 rfl (by omega) (by omega) (fun q => absurd q (by omega)) (fun _ => ?_)
  refine lv_iload hx hb dM_isDone_118 (lv_at hl 3 rfl) ?_
  refine lv_bipush (v := nI 12) hx hb dM_isDone_120 (by decide) ?_
  refine zc_eq (tgt := 146) hx hb dM_isDone_122 rfl (by omega) (by omega) (fun q => absurd q (by omega)) (fun _ => ?_)
  refine lv_iload hx hb dM_isDone_125 (lv_at hl 3 rfl) ?_
  refine lv_bipush (v := nI 13) hx hb dM_isDone_127 (by decide) ?_
  refine zc_eq (tgt := 146) hx hb dM_isDone_129 rfl (by omega) (by omega) (fun q => absurd q (by omega)) (fun _ => ?_)
  refine lv_iload hx hb dM_isDone_132 (lv_at hl 3 rfl) ?_
  refine lv_bipush (v := nI 16) hx hb dM_isDone_134 (by decide) ?_
  refine zc_eq (tgt := 146) hx hb dM_isDone_136 rfl (by omega) (by omega) (fun q => absurd q (by omega)) (fun _ => ?_)
  refine lv_iload hx hb dM_isDone_139 (lv_at hl 3 rfl) ?_
  refine lv_bipush (v := nI 17) hx hb dM_isDone_141 (by decide) ?_
  refine zc_ne (tgt := 150) hx hb dM_isDone_143 rfl (by omega) (by omega) (fun _ => ?_) (fun q => absurd q (by omega))
  refine lv_iconst (v := nI 0) hx hb dM_isDone_150 (by decide) ?_
  refine lv_istore hx hb dM_isDone_151 hl (by decide) rfl (fun ls hl => ?_)
  have hl : lv_has ls 14 [(9, .int (nI 0)), (8, .int (nI 1)), (4, .int (nI pl)), (6, .long x), (5, .int (nI 4)), (0, .ref (A 0)), (1, .int (nI w)), (2, .long key)] := hl
  refine lv_aload_n hx hb dM_isDone_153 rfl (lv_at hl 5 rfl) ?_
  refine zGetM hx hb hw hown hK hP 0 rfl 10 (by decide) wf_M_49 rfl dM_isDone_154 ?_
  refine lv_iload hx hb dM_isDone_157 (lv_at hl 0 rfl) ?_
  refine zc_lt (tgt := 176) hx hb dM_isDone_159 rfl (by omega) (by omega) (fun q => absurd q (by omega)) (fun _ => ?_)
  refine lv_iload hx hb dM_isDone_162 (lv_at hl 1 rfl) ?_
  refine zi_eq (tgt := 178) hx hb dM_isDone_164 rfl (by omega) (fun q => absurd q (by omega)) (fun _ => ?_)
  refine lv_aload_n hx hb dM_isDone_167 rfl (lv_at hl 5 rfl) ?_
  refine zGetM hx hb hw hown hK hP 0 rfl 10 (by decide) wf_M_49 rfl dM_isDone_168 ?_
  refine lv_bipush (v := nI 12) hx hb dM_isDone_171 (by decide) ?_
  refine zc_ne (tgt := 178) hx hb dM_isDone_173 rfl (by omega) (by omega) (fun q => absurd q (by omega)) (fun _ => ?_)
  refine lv_iconst (v := nI 0) hx hb dM_isDone_176 (by decide) ?_
  exact kk _ _ dM_isDone_177
set_option maxRecDepth 20000 in
set_option maxHeartbeats 4000000 in
theorem mT2a {p : Program} {l : Launch} {e : Env} {s : State} {m : MethodId} {args : Array Value} {below : List Frame} {meth : Method} {c : Code} {F : Nat → Prop} {D : va_G} {A : Nat → Nat} {C : Nat → ClassId} (hx : p.tables.exec = Jvm.exec) (hb : c.code = cM_isDone) (hr : meth.sig.returnType = (some .boolean)) (hlk : meth.locks = false) (hml : c.maxLocals = 14) (hw : ∀ w ∈ WS, w.before args s = true) (hown : s.vm.findClass RM = some m.cls) (hK : va_K D vwCl (mT C) s) (hA : ∀ q, s.heap.size ≤ q → F q) {Q : State → Prop} {ls : Array Slot} {H : Heap} {locs : List Loc} {ops : Nat → Int32} {nums vals st ce pk pv : Nat → Int64} {n vc sp d pr tk th tr : Nat} {w pl : Nat} {key x : Int64} (hd : d ≤ 12) (hw2 : w ≤ 2) (hvc : vc ≤ 40) (htk : tk ≤ vc) (hpr : pr ≤ 4) (hpl : pl ≤ 40) (hd1 : d < 12) (hv : vc = 0) (hP : va_P D vwCl (mW A C ops nums vals st ce pk pv n vc sp d pr tk th tr) H) (hD : va_D F (mW A C ops nums vals st ce pk pv n vc sp d pr tk th tr)) (hS : va_S F s.heap H locs) (hl : lv_has ls 14 [(4, .int (nI pl)), (6, .long x), (5, .int (nI 2)), (0, .ref (A 0)), (1, .int (nI 0)), (2, .long key)]) (kk : ∀ (pc : Nat) (ls : Array Slot), decode cM_isDone pc = .ok (.ireturn, 1) → W p l e (rmk 0 0) s m args below meth c H locs 0 0 Q (F0 m pc ls [.int (nI 0)])) : W p l e (rmk 0 0) s m args below meth c H locs 0 0 Q (F0 m 55 ls []) := by
  refine lv_iload hx hb dM_isDone_55 (lv_at hl 2 rfl) ?_
  refine lv_iconst (v := nI 4) hx hb dM_isDone_57 (by decide) ?_
  refine zc_le (tgt := 68) hx hb dM_isDone_58 rfl (by omega) (by omega) (fun _ => ?_) (fun q => absurd q (by omega))
  refine lv_iconst (v := nI 1) hx hb dM_isDone_68 (by decide) ?_
  refine lv_goto (tgt := 73) hx hb dM_isDone_69 rfl ?_
  refine lv_istore hx hb dM_isDone_73 hl (by decide) rfl (fun ls hl => ?_)
  have hl : lv_has ls 14 [(8, .int (nI 1)), (4, .int (nI pl)), (6, .long x), (5, .int (nI 2)), (0, .ref (A 0)), (1, .int (nI 0)), (2, .long key)] := hl
  refine lv_iload hx hb dM_isDone_75 (lv_at hl 3 rfl) ?_
  refine lv_bipush (v := nI 6) hx hb dM_isDone_77 (by decide) ?_
  refine zc_lt (tgt := 89) hx hb dM_isDone_79 rfl (by omega) (by omega) (fun _ => ?_) (fun q => absurd q (by omega))
  refine lv_iload hx hb dM_isDone_89 (lv_at hl 3 rfl) ?_
  refine lv_bipush (v := nI 14) hx hb dM_isDone_91 (by decide) ?_
  refine zc_eq (tgt := 108) hx hb dM_isDone_93 rfl (by omega) (by omega) (fun q => absurd q (by omega)) (fun _ => ?_)
  refine lv_iload hx hb dM_isDone_96 (lv_at hl 3 rfl) ?_
  refine lv_bipush (v := nI 17) hx hb dM_isDone_98 (by decide) ?_
  refine zc_ne (tgt := 112) hx hb dM_isDone_100 rfl (by omega) (by omega) (fun _ => ?_) (fun q => absurd q (by omega))
  refine lv_iload hx hb dM_isDone_112 (lv_at hl 3 rfl) ?_
  refine lv_iconst (v := nI 5) hx hb dM_isDone_114 (by decide) ?_
  refine zc_eq (tgt := 146) hx hb dM_isDone_115 rfl (by omega) (by omega) (fun q => absurd q (by omega)) (fun _ => ?_)
  refine lv_iload hx hb dM_isDone_118 (lv_at hl 3 rfl) ?_
  refine lv_bipush (v := nI 12) hx hb dM_isDone_120 (by decide) ?_
  refine zc_eq (tgt := 146) hx hb dM_isDone_122 rfl (by omega) (by omega) (fun q => absurd q (by omega)) (fun _ => ?_)
  refine lv_iload hx hb dM_isDone_125 (lv_at hl 3 rfl) ?_
  refine lv_bipush (v := nI 13) hx hb dM_isDone_127 (by decide) ?_
  refine zc_eq (tgt := 146) hx hb dM_isDone_129 rfl (by omega) (by omega) (fun q => absurd q (by omega)) (fun _ => ?_)
  refine lv_iload hx hb dM_isDone_132 (lv_at hl 3 rfl) ?_
  refine lv_bipush (v := nI 16) hx hb dM_isDone_134 (by decide) ?_
  refine zc_eq (tgt := 146) hx hb dM_isDone_136 rfl (by omega) (by omega) (fun q => absurd q (by omega)) (fun _ => ?_)
  refine lv_iload hx hb dM_isDone_139 (lv_at hl 3 rfl) ?_
  refine lv_bipush (v := nI 17) hx hb dM_isDone_141 (by decide) ?_
  refine zc_ne (tgt := 150) hx hb dM_isDone_143 rfl (by omega) (by omega) (fun _ => ?_) (fun q => absurd q (by omega))
  refine lv_iconst (v := nI 0) hx hb dM_isDone_150 (by decide) ?_
  refine lv_istore hx hb dM_isDone_151 hl (by decide) rfl (fun ls hl => ?_)
  have hl : lv_has ls 14 [(9, .int (nI 0)), (8, .int (nI 1)), (4, .int (nI pl)), (6, .long x), (5, .int (nI 2)), (0, .ref (A 0)), (1, .int (nI 0)), (2, .long key)] := hl
  refine lv_aload_n hx hb dM_isDone_153 rfl (lv_at hl 5 rfl) ?_
  refine zGetM hx hb hw hown hK hP 0 rfl 10 (by decide) wf_M_49 rfl dM_isDone_154 ?_
  refine lv_iload hx hb dM_isDone_157 (lv_at hl 0 rfl) ?_
  refine zc_lt (tgt := 176) hx hb dM_isDone_159 rfl (by omega) (by omega) (fun q => absurd q (by omega)) (fun _ => ?_)
  refine lv_iload hx hb dM_isDone_162 (lv_at hl 1 rfl) ?_
  refine zi_eq (tgt := 178) hx hb dM_isDone_164 rfl (by omega) (fun q => absurd q (by omega)) (fun _ => ?_)
  refine lv_aload_n hx hb dM_isDone_167 rfl (lv_at hl 5 rfl) ?_
  refine zGetM hx hb hw hown hK hP 0 rfl 10 (by decide) wf_M_49 rfl dM_isDone_168 ?_
  refine lv_bipush (v := nI 12) hx hb dM_isDone_171 (by decide) ?_
  refine zc_ne (tgt := 178) hx hb dM_isDone_173 rfl (by omega) (by omega) (fun _ => ?_) (fun q => absurd q (by omega))
  refine lv_iload hx hb dM_isDone_178 (lv_at hl 0 rfl) ?_
  refine zi_le (tgt := 197) hx hb dM_isDone_180 rfl (by omega) (fun _ => ?_) (fun q => absurd q (by omega))
  refine lv_lconst (v := 0) hx hb dM_isDone_197 (by decide) ?_
  refine lv_lstore hx hb dM_isDone_198 hl (by decide) rfl (fun ls hl => ?_)
  have hl : lv_has ls 14 [(10, .long (0 : Int64)), (9, .int (nI 0)), (8, .int (nI 1)), (4, .int (nI pl)), (6, .long x), (5, .int (nI 2)), (0, .ref (A 0)), (1, .int (nI 0)), (2, .long key)] := hl
  refine lv_iload hx hb dM_isDone_200 (lv_at hl 1 rfl) ?_
  refine lv_iconst (v := nI 1) hx hb dM_isDone_202 (by decide) ?_
  refine zc_le (tgt := 220) hx hb dM_isDone_203 rfl (by omega) (by omega) (fun _ => ?_) (fun q => absurd q (by omega))
  refine lv_lconst (v := 0) hx hb dM_isDone_220 (by decide) ?_
  refine lv_lstore hx hb dM_isDone_221 hl (by decide) rfl (fun ls hl => ?_)
  have hl : lv_has ls 14 [(12, .long (0 : Int64)), (10, .long (0 : Int64)), (9, .int (nI 0)), (8, .int (nI 1)), (4, .int (nI pl)), (6, .long x), (5, .int (nI 2)), (0, .ref (A 0)), (1, .int (nI 0)), (2, .long key)] := hl
  refine lv_iload hx hb dM_isDone_223 (lv_at hl 6 rfl) ?_
  refine lv_bipush (v := nI 18) hx hb dM_isDone_225 (by decide) ?_
  refine zc_ne (tgt := 232) hx hb dM_isDone_227 rfl (by omega) (by omega) (fun _ => ?_) (fun q => absurd q (by omega))
  refine lv_iload hx hb dM_isDone_232 (lv_at hl 6 rfl) ?_
  refine lv_iconst (v := nI 2) hx hb dM_isDone_234 (by decide) ?_
  refine zc_ne (tgt := 265) hx hb dM_isDone_235 rfl (by omega) (by omega) (fun q => absurd q (by omega)) (fun _ => ?_)
  refine lv_iload_n hx hb dM_isDone_238 rfl (lv_at hl 8 rfl) ?_
  refine zi_ne (tgt := 252) hx hb dM_isDone_239 rfl (by omega) (fun q => absurd q (by omega)) (fun _ => ?_)
  refine lv_aload_n hx hb dM_isDone_242 rfl (lv_at hl 7 rfl) ?_
  refine zGetM hx hb hw hown hK hP 0 rfl 8 (by decide) wf_M_43 rfl dM_isDone_243 ?_
  refine zi_ne (tgt := 265) hx hb dM_isDone_246 rfl (by omega) (fun q => absurd q (by omega)) (fun _ => ?_)
  refine lv_goto (tgt := 263) hx hb dM_isDone_249 rfl ?_
  refine lv_iconst (v := nI 0) hx hb dM_isDone_263 (by decide) ?_
  exact kk _ _ dM_isDone_264
set_option maxRecDepth 20000 in
set_option maxHeartbeats 4000000 in
theorem mT2b {p : Program} {l : Launch} {e : Env} {s : State} {m : MethodId} {args : Array Value} {below : List Frame} {meth : Method} {c : Code} {F : Nat → Prop} {D : va_G} {A : Nat → Nat} {C : Nat → ClassId} (hx : p.tables.exec = Jvm.exec) (hb : c.code = cM_isDone) (hr : meth.sig.returnType = (some .boolean)) (hlk : meth.locks = false) (hml : c.maxLocals = 14) (hw : ∀ w ∈ WS, w.before args s = true) (hown : s.vm.findClass RM = some m.cls) (hK : va_K D vwCl (mT C) s) (hA : ∀ q, s.heap.size ≤ q → F q) {Q : State → Prop} {ls : Array Slot} {H : Heap} {locs : List Loc} {ops : Nat → Int32} {nums vals st ce pk pv : Nat → Int64} {n vc sp d pr tk th tr : Nat} {w pl : Nat} {key x : Int64} (hd : d ≤ 12) (hw2 : w ≤ 2) (hvc : vc ≤ 40) (htk : tk ≤ vc) (hpr : pr ≤ 4) (hpl : pl ≤ 40) (hd1 : d < 12) (hv : tk = vc) (hw1 : 0 < w) (hP : va_P D vwCl (mW A C ops nums vals st ce pk pv n vc sp d pr tk th tr) H) (hD : va_D F (mW A C ops nums vals st ce pk pv n vc sp d pr tk th tr)) (hS : va_S F s.heap H locs) (hl : lv_has ls 14 [(4, .int (nI pl)), (6, .long x), (5, .int (nI 2)), (0, .ref (A 0)), (1, .int (nI w)), (2, .long key)]) (kk : ∀ (pc : Nat) (ls : Array Slot), decode cM_isDone pc = .ok (.ireturn, 1) → W p l e (rmk 0 0) s m args below meth c H locs 0 0 Q (F0 m pc ls [.int (nI 0)])) : W p l e (rmk 0 0) s m args below meth c H locs 0 0 Q (F0 m 55 ls []) := by
  refine lv_iload hx hb dM_isDone_55 (lv_at hl 2 rfl) ?_
  refine lv_iconst (v := nI 4) hx hb dM_isDone_57 (by decide) ?_
  refine zc_le (tgt := 68) hx hb dM_isDone_58 rfl (by omega) (by omega) (fun _ => ?_) (fun q => absurd q (by omega))
  refine lv_iconst (v := nI 1) hx hb dM_isDone_68 (by decide) ?_
  refine lv_goto (tgt := 73) hx hb dM_isDone_69 rfl ?_
  refine lv_istore hx hb dM_isDone_73 hl (by decide) rfl (fun ls hl => ?_)
  have hl : lv_has ls 14 [(8, .int (nI 1)), (4, .int (nI pl)), (6, .long x), (5, .int (nI 2)), (0, .ref (A 0)), (1, .int (nI w)), (2, .long key)] := hl
  refine lv_iload hx hb dM_isDone_75 (lv_at hl 3 rfl) ?_
  refine lv_bipush (v := nI 6) hx hb dM_isDone_77 (by decide) ?_
  refine zc_lt (tgt := 89) hx hb dM_isDone_79 rfl (by omega) (by omega) (fun _ => ?_) (fun q => absurd q (by omega))
  refine lv_iload hx hb dM_isDone_89 (lv_at hl 3 rfl) ?_
  refine lv_bipush (v := nI 14) hx hb dM_isDone_91 (by decide) ?_
  refine zc_eq (tgt := 108) hx hb dM_isDone_93 rfl (by omega) (by omega) (fun q => absurd q (by omega)) (fun _ => ?_)
  refine lv_iload hx hb dM_isDone_96 (lv_at hl 3 rfl) ?_
  refine lv_bipush (v := nI 17) hx hb dM_isDone_98 (by decide) ?_
  refine zc_ne (tgt := 112) hx hb dM_isDone_100 rfl (by omega) (by omega) (fun _ => ?_) (fun q => absurd q (by omega))
  refine lv_iload hx hb dM_isDone_112 (lv_at hl 3 rfl) ?_
  refine lv_iconst (v := nI 5) hx hb dM_isDone_114 (by decide) ?_
  refine zc_eq (tgt := 146) hx hb dM_isDone_115 rfl (by omega) (by omega) (fun q => absurd q (by omega)) (fun _ => ?_)
  refine lv_iload hx hb dM_isDone_118 (lv_at hl 3 rfl) ?_
  refine lv_bipush (v := nI 12) hx hb dM_isDone_120 (by decide) ?_
  refine zc_eq (tgt := 146) hx hb dM_isDone_122 rfl (by omega) (by omega) (fun q => absurd q (by omega)) (fun _ => ?_)
  refine lv_iload hx hb dM_isDone_125 (lv_at hl 3 rfl) ?_
  refine lv_bipush (v := nI 13) hx hb dM_isDone_127 (by decide) ?_
  refine zc_eq (tgt := 146) hx hb dM_isDone_129 rfl (by omega) (by omega) (fun q => absurd q (by omega)) (fun _ => ?_)
  refine lv_iload hx hb dM_isDone_132 (lv_at hl 3 rfl) ?_
  refine lv_bipush (v := nI 16) hx hb dM_isDone_134 (by decide) ?_
  refine zc_eq (tgt := 146) hx hb dM_isDone_136 rfl (by omega) (by omega) (fun q => absurd q (by omega)) (fun _ => ?_)
  refine lv_iload hx hb dM_isDone_139 (lv_at hl 3 rfl) ?_
  refine lv_bipush (v := nI 17) hx hb dM_isDone_141 (by decide) ?_
  refine zc_ne (tgt := 150) hx hb dM_isDone_143 rfl (by omega) (by omega) (fun _ => ?_) (fun q => absurd q (by omega))
  refine lv_iconst (v := nI 0) hx hb dM_isDone_150 (by decide) ?_
  refine lv_istore hx hb dM_isDone_151 hl (by decide) rfl (fun ls hl => ?_)
  have hl : lv_has ls 14 [(9, .int (nI 0)), (8, .int (nI 1)), (4, .int (nI pl)), (6, .long x), (5, .int (nI 2)), (0, .ref (A 0)), (1, .int (nI w)), (2, .long key)] := hl
  refine lv_aload_n hx hb dM_isDone_153 rfl (lv_at hl 5 rfl) ?_
  refine zGetM hx hb hw hown hK hP 0 rfl 10 (by decide) wf_M_49 rfl dM_isDone_154 ?_
  refine lv_iload hx hb dM_isDone_157 (lv_at hl 0 rfl) ?_
  refine zc_lt (tgt := 176) hx hb dM_isDone_159 rfl (by omega) (by omega) (fun q => absurd q (by omega)) (fun _ => ?_)
  refine lv_iload hx hb dM_isDone_162 (lv_at hl 1 rfl) ?_
  refine zi_eq (tgt := 178) hx hb dM_isDone_164 rfl (by omega) (fun q => absurd q (by omega)) (fun _ => ?_)
  refine lv_aload_n hx hb dM_isDone_167 rfl (lv_at hl 5 rfl) ?_
  refine zGetM hx hb hw hown hK hP 0 rfl 10 (by decide) wf_M_49 rfl dM_isDone_168 ?_
  refine lv_bipush (v := nI 12) hx hb dM_isDone_171 (by decide) ?_
  refine zc_ne (tgt := 178) hx hb dM_isDone_173 rfl (by omega) (by omega) (fun _ => ?_) (fun q => absurd q (by omega))
  refine lv_iload hx hb dM_isDone_178 (lv_at hl 0 rfl) ?_
  refine zi_le (tgt := 197) hx hb dM_isDone_180 rfl (by omega) (fun _ => ?_) (fun q => absurd q (by omega))
  refine lv_lconst (v := 0) hx hb dM_isDone_197 (by decide) ?_
  refine lv_lstore hx hb dM_isDone_198 hl (by decide) rfl (fun ls hl => ?_)
  have hl : lv_has ls 14 [(10, .long (0 : Int64)), (9, .int (nI 0)), (8, .int (nI 1)), (4, .int (nI pl)), (6, .long x), (5, .int (nI 2)), (0, .ref (A 0)), (1, .int (nI w)), (2, .long key)] := hl
  refine lv_iload hx hb dM_isDone_200 (lv_at hl 1 rfl) ?_
  refine lv_iconst (v := nI 1) hx hb dM_isDone_202 (by decide) ?_
  refine zc_le (tgt := 220) hx hb dM_isDone_203 rfl (by omega) (by omega) (fun _ => ?_) (fun q => absurd q (by omega))
  refine lv_lconst (v := 0) hx hb dM_isDone_220 (by decide) ?_
  refine lv_lstore hx hb dM_isDone_221 hl (by decide) rfl (fun ls hl => ?_)
  have hl : lv_has ls 14 [(12, .long (0 : Int64)), (10, .long (0 : Int64)), (9, .int (nI 0)), (8, .int (nI 1)), (4, .int (nI pl)), (6, .long x), (5, .int (nI 2)), (0, .ref (A 0)), (1, .int (nI w)), (2, .long key)] := hl
  refine lv_iload hx hb dM_isDone_223 (lv_at hl 6 rfl) ?_
  refine lv_bipush (v := nI 18) hx hb dM_isDone_225 (by decide) ?_
  refine zc_ne (tgt := 232) hx hb dM_isDone_227 rfl (by omega) (by omega) (fun _ => ?_) (fun q => absurd q (by omega))
  refine lv_iload hx hb dM_isDone_232 (lv_at hl 6 rfl) ?_
  refine lv_iconst (v := nI 2) hx hb dM_isDone_234 (by decide) ?_
  refine zc_ne (tgt := 265) hx hb dM_isDone_235 rfl (by omega) (by omega) (fun q => absurd q (by omega)) (fun _ => ?_)
  refine lv_iload_n hx hb dM_isDone_238 rfl (lv_at hl 8 rfl) ?_
  refine zi_ne (tgt := 252) hx hb dM_isDone_239 rfl (by omega) (fun _ => ?_) (fun q => absurd q (by omega))
  refine lv_aload_n hx hb dM_isDone_252 rfl (lv_at hl 7 rfl) ?_
  refine zGetM hx hb hw hown hK hP 0 rfl 12 (by decide) wf_M_55 rfl dM_isDone_253 ?_
  refine lv_aload_n hx hb dM_isDone_256 rfl (lv_at hl 7 rfl) ?_
  refine zGetM hx hb hw hown hK hP 0 rfl 8 (by decide) wf_M_43 rfl dM_isDone_257 ?_
  refine zc_ne (tgt := 265) hx hb dM_isDone_260 rfl (by omega) (by omega) (fun q => absurd q (by omega)) (fun _ => ?_)
  refine lv_iconst (v := nI 0) hx hb dM_isDone_263 (by decide) ?_
  exact kk _ _ dM_isDone_264
set_option maxRecDepth 20000 in
set_option maxHeartbeats 4000000 in
theorem mT5 {p : Program} {l : Launch} {e : Env} {s : State} {m : MethodId} {args : Array Value} {below : List Frame} {meth : Method} {c : Code} {F : Nat → Prop} {D : va_G} {A : Nat → Nat} {C : Nat → ClassId} (hx : p.tables.exec = Jvm.exec) (hb : c.code = cM_isDone) (hr : meth.sig.returnType = (some .boolean)) (hlk : meth.locks = false) (hml : c.maxLocals = 14) (hw : ∀ w ∈ WS, w.before args s = true) (hown : s.vm.findClass RM = some m.cls) (hK : va_K D vwCl (mT C) s) (hA : ∀ q, s.heap.size ≤ q → F q) {Q : State → Prop} {ls : Array Slot} {H : Heap} {locs : List Loc} {ops : Nat → Int32} {nums vals st ce pk pv : Nat → Int64} {n vc sp d pr tk th tr : Nat} {w pl : Nat} {key x : Int64} (hd : d ≤ 12) (hw2 : w ≤ 2) (hvc : vc ≤ 40) (htk : tk ≤ vc) (hpr : pr ≤ 4) (hpl : pl ≤ 40) (h0 : d = 0) (hP : va_P D vwCl (mW A C ops nums vals st ce pk pv n vc sp d pr tk th tr) H) (hD : va_D F (mW A C ops nums vals st ce pk pv n vc sp d pr tk th tr)) (hS : va_S F s.heap H locs) (hl : lv_has ls 14 [(4, .int (nI pl)), (6, .long x), (5, .int (nI 5)), (0, .ref (A 0)), (1, .int (nI w)), (2, .long key)]) (kk : ∀ (pc : Nat) (ls : Array Slot), decode cM_isDone pc = .ok (.ireturn, 1) → W p l e (rmk 0 0) s m args below meth c H locs 0 0 Q (F0 m pc ls [.int (nI 0)])) : W p l e (rmk 0 0) s m args below meth c H locs 0 0 Q (F0 m 55 ls []) := by
  refine lv_iload hx hb dM_isDone_55 (lv_at hl 2 rfl) ?_
  refine lv_iconst (v := nI 4) hx hb dM_isDone_57 (by decide) ?_
  refine zc_le (tgt := 68) hx hb dM_isDone_58 rfl (by omega) (by omega) (fun q => absurd q (by omega)) (fun _ => ?_)
  refine lv_iload hx hb dM_isDone_61 (lv_at hl 2 rfl) ?_
  refine lv_bipush (v := nI 12) hx hb dM_isDone_63 (by decide) ?_
  refine zc_ne (tgt := 72) hx hb dM_isDone_65 rfl (by omega) (by omega) (fun _ => ?_) (fun q => absurd q (by omega))
  refine lv_iconst (v := nI 0) hx hb dM_isDone_72 (by decide) ?_
  refine lv_istore hx hb dM_isDone_73 hl (by decide) rfl (fun ls hl => ?_)
  have hl : lv_has ls 14 [(8, .int (nI 0)), (4, .int (nI pl)), (6, .long x), (5, .int (nI 5)), (0, .ref (A 0)), (1, .int (nI w)), (2, .long key)] := hl
  refine lv_iload hx hb dM_isDone_75 (lv_at hl 3 rfl) ?_
  refine lv_bipush (v := nI 6) hx hb dM_isDone_77 (by decide) ?_
  refine zc_lt (tgt := 89) hx hb dM_isDone_79 rfl (by omega) (by omega) (fun _ => ?_) (fun q => absurd q (by omega))
  refine lv_iload hx hb dM_isDone_89 (lv_at hl 3 rfl) ?_
  refine lv_bipush (v := nI 14) hx hb dM_isDone_91 (by decide) ?_
  refine zc_eq (tgt := 108) hx hb dM_isDone_93 rfl (by omega) (by omega) (fun q => absurd q (by omega)) (fun _ => ?_)
  refine lv_iload hx hb dM_isDone_96 (lv_at hl 3 rfl) ?_
  refine lv_bipush (v := nI 17) hx hb dM_isDone_98 (by decide) ?_
  refine zc_ne (tgt := 112) hx hb dM_isDone_100 rfl (by omega) (by omega) (fun _ => ?_) (fun q => absurd q (by omega))
  refine lv_iload hx hb dM_isDone_112 (lv_at hl 3 rfl) ?_
  refine lv_iconst (v := nI 5) hx hb dM_isDone_114 (by decide) ?_
  refine zc_eq (tgt := 146) hx hb dM_isDone_115 rfl (by omega) (by omega) (fun _ => ?_) (fun q => absurd q (by omega))
  refine lv_iconst (v := nI 1) hx hb dM_isDone_146 (by decide) ?_
  refine lv_goto (tgt := 151) hx hb dM_isDone_147 rfl ?_
  refine lv_istore hx hb dM_isDone_151 hl (by decide) rfl (fun ls hl => ?_)
  have hl : lv_has ls 14 [(9, .int (nI 1)), (8, .int (nI 0)), (4, .int (nI pl)), (6, .long x), (5, .int (nI 5)), (0, .ref (A 0)), (1, .int (nI w)), (2, .long key)] := hl
  refine lv_aload_n hx hb dM_isDone_153 rfl (lv_at hl 5 rfl) ?_
  refine zGetM hx hb hw hown hK hP 0 rfl 10 (by decide) wf_M_49 rfl dM_isDone_154 ?_
  refine lv_iload hx hb dM_isDone_157 (lv_at hl 0 rfl) ?_
  refine zc_lt (tgt := 176) hx hb dM_isDone_159 rfl (by omega) (by omega) (fun _ => ?_) (fun q => absurd q (by omega))
  refine lv_iconst (v := nI 0) hx hb dM_isDone_176 (by decide) ?_
  exact kk _ _ dM_isDone_177
set_option maxRecDepth 20000 in
set_option maxHeartbeats 4000000 in
theorem mT12 {p : Program} {l : Launch} {e : Env} {s : State} {m : MethodId} {args : Array Value} {below : List Frame} {meth : Method} {c : Code} {F : Nat → Prop} {D : va_G} {A : Nat → Nat} {C : Nat → ClassId} (hx : p.tables.exec = Jvm.exec) (hb : c.code = cM_isDone) (hr : meth.sig.returnType = (some .boolean)) (hlk : meth.locks = false) (hml : c.maxLocals = 14) (hw : ∀ w ∈ WS, w.before args s = true) (hown : s.vm.findClass RM = some m.cls) (hK : va_K D vwCl (mT C) s) (hA : ∀ q, s.heap.size ≤ q → F q) {Q : State → Prop} {ls : Array Slot} {H : Heap} {locs : List Loc} {ops : Nat → Int32} {nums vals st ce pk pv : Nat → Int64} {n vc sp d pr tk th tr : Nat} {w pl : Nat} {key x : Int64} (hd : d ≤ 12) (hw2 : w ≤ 2) (hvc : vc ≤ 40) (htk : tk ≤ vc) (hpr : pr ≤ 4) (hpl : pl ≤ 40) (h0 : d = 0) (hP : va_P D vwCl (mW A C ops nums vals st ce pk pv n vc sp d pr tk th tr) H) (hD : va_D F (mW A C ops nums vals st ce pk pv n vc sp d pr tk th tr)) (hS : va_S F s.heap H locs) (hl : lv_has ls 14 [(4, .int (nI pl)), (6, .long x), (5, .int (nI 12)), (0, .ref (A 0)), (1, .int (nI w)), (2, .long key)]) (kk : ∀ (pc : Nat) (ls : Array Slot), decode cM_isDone pc = .ok (.ireturn, 1) → W p l e (rmk 0 0) s m args below meth c H locs 0 0 Q (F0 m pc ls [.int (nI 0)])) : W p l e (rmk 0 0) s m args below meth c H locs 0 0 Q (F0 m 55 ls []) := by
  refine lv_iload hx hb dM_isDone_55 (lv_at hl 2 rfl) ?_
  refine lv_iconst (v := nI 4) hx hb dM_isDone_57 (by decide) ?_
  refine zc_le (tgt := 68) hx hb dM_isDone_58 rfl (by omega) (by omega) (fun q => absurd q (by omega)) (fun _ => ?_)
  refine lv_iload hx hb dM_isDone_61 (lv_at hl 2 rfl) ?_
  refine lv_bipush (v := nI 12) hx hb dM_isDone_63 (by decide) ?_
  refine zc_ne (tgt := 72) hx hb dM_isDone_65 rfl (by omega) (by omega) (fun q => absurd q (by omega)) (fun _ => ?_)
  refine lv_iconst (v := nI 1) hx hb dM_isDone_68 (by decide) ?_
  refine lv_goto (tgt := 73) hx hb dM_isDone_69 rfl ?_
  refine lv_istore hx hb dM_isDone_73 hl (by decide) rfl (fun ls hl => ?_)
  have hl : lv_has ls 14 [(8, .int (nI 1)), (4, .int (nI pl)), (6, .long x), (5, .int (nI 12)), (0, .ref (A 0)), (1, .int (nI w)), (2, .long key)] := hl
  refine lv_iload hx hb dM_isDone_75 (lv_at hl 3 rfl) ?_
  refine lv_bipush (v := nI 6) hx hb dM_isDone_77 (by decide) ?_
  refine zc_lt (tgt := 89) hx hb dM_isDone_79 rfl (by omega) (by omega) (fun q => absurd q (by omega)) (fun _ => ?_)
  refine lv_iload hx hb dM_isDone_82 (lv_at hl 3 rfl) ?_
  refine lv_bipush (v := nI 11) hx hb dM_isDone_84 (by decide) ?_
  refine zc_le (tgt := 108) hx hb dM_isDone_86 rfl (by omega) (by omega) (fun q => absurd q (by omega)) (fun _ => ?_)
  refine lv_iload hx hb dM_isDone_89 (lv_at hl 3 rfl) ?_
  refine lv_bipush (v := nI 14) hx hb dM_isDone_91 (by decide) ?_
  refine zc_eq (tgt := 108) hx hb dM_isDone_93 rfl (by omega) (by omega) (fun q => absurd q (by omega)) (fun _ => ?_)
  refine lv_iload hx hb dM_isDone_96 (lv_at hl 3 rfl) ?_
  refine lv_bipush (v := nI 17) hx hb dM_isDone_98 (by decide) ?_
  refine zc_ne (tgt := 112) hx hb dM_isDone_100 rfl (by omega) (by omega) (fun _ => ?_) (fun q => absurd q (by omega))
  refine lv_iload hx hb dM_isDone_112 (lv_at hl 3 rfl) ?_
  refine lv_iconst (v := nI 5) hx hb dM_isDone_114 (by decide) ?_
  refine zc_eq (tgt := 146) hx hb dM_isDone_115 rfl (by omega) (by omega) (fun q => absurd q (by omega)) (fun _ => ?_)
  refine lv_iload hx hb dM_isDone_118 (lv_at hl 3 rfl) ?_
  refine lv_bipush (v := nI 12) hx hb dM_isDone_120 (by decide) ?_
  refine zc_eq (tgt := 146) hx hb dM_isDone_122 rfl (by omega) (by omega) (fun _ => ?_) (fun q => absurd q (by omega))
  refine lv_iconst (v := nI 1) hx hb dM_isDone_146 (by decide) ?_
  refine lv_goto (tgt := 151) hx hb dM_isDone_147 rfl ?_
  refine lv_istore hx hb dM_isDone_151 hl (by decide) rfl (fun ls hl => ?_)
  have hl : lv_has ls 14 [(9, .int (nI 1)), (8, .int (nI 1)), (4, .int (nI pl)), (6, .long x), (5, .int (nI 12)), (0, .ref (A 0)), (1, .int (nI w)), (2, .long key)] := hl
  refine lv_aload_n hx hb dM_isDone_153 rfl (lv_at hl 5 rfl) ?_
  refine zGetM hx hb hw hown hK hP 0 rfl 10 (by decide) wf_M_49 rfl dM_isDone_154 ?_
  refine lv_iload hx hb dM_isDone_157 (lv_at hl 0 rfl) ?_
  refine zc_lt (tgt := 176) hx hb dM_isDone_159 rfl (by omega) (by omega) (fun _ => ?_) (fun q => absurd q (by omega))
  refine lv_iconst (v := nI 0) hx hb dM_isDone_176 (by decide) ?_
  exact kk _ _ dM_isDone_177
set_option maxRecDepth 20000 in
set_option maxHeartbeats 4000000 in
theorem mT13 {p : Program} {l : Launch} {e : Env} {s : State} {m : MethodId} {args : Array Value} {below : List Frame} {meth : Method} {c : Code} {F : Nat → Prop} {D : va_G} {A : Nat → Nat} {C : Nat → ClassId} (hx : p.tables.exec = Jvm.exec) (hb : c.code = cM_isDone) (hr : meth.sig.returnType = (some .boolean)) (hlk : meth.locks = false) (hml : c.maxLocals = 14) (hw : ∀ w ∈ WS, w.before args s = true) (hown : s.vm.findClass RM = some m.cls) (hK : va_K D vwCl (mT C) s) (hA : ∀ q, s.heap.size ≤ q → F q) {Q : State → Prop} {ls : Array Slot} {H : Heap} {locs : List Loc} {ops : Nat → Int32} {nums vals st ce pk pv : Nat → Int64} {n vc sp d pr tk th tr : Nat} {w pl : Nat} {key x : Int64} (hd : d ≤ 12) (hw2 : w ≤ 2) (hvc : vc ≤ 40) (htk : tk ≤ vc) (hpr : pr ≤ 4) (hpl : pl ≤ 40) (h0 : d = 0) (hP : va_P D vwCl (mW A C ops nums vals st ce pk pv n vc sp d pr tk th tr) H) (hD : va_D F (mW A C ops nums vals st ce pk pv n vc sp d pr tk th tr)) (hS : va_S F s.heap H locs) (hl : lv_has ls 14 [(4, .int (nI pl)), (6, .long x), (5, .int (nI 13)), (0, .ref (A 0)), (1, .int (nI w)), (2, .long key)]) (kk : ∀ (pc : Nat) (ls : Array Slot), decode cM_isDone pc = .ok (.ireturn, 1) → W p l e (rmk 0 0) s m args below meth c H locs 0 0 Q (F0 m pc ls [.int (nI 0)])) : W p l e (rmk 0 0) s m args below meth c H locs 0 0 Q (F0 m 55 ls []) := by
  refine lv_iload hx hb dM_isDone_55 (lv_at hl 2 rfl) ?_
  refine lv_iconst (v := nI 4) hx hb dM_isDone_57 (by decide) ?_
  refine zc_le (tgt := 68) hx hb dM_isDone_58 rfl (by omega) (by omega) (fun q => absurd q (by omega)) (fun _ => ?_)
  refine lv_iload hx hb dM_isDone_61 (lv_at hl 2 rfl) ?_
  refine lv_bipush (v := nI 12) hx hb dM_isDone_63 (by decide) ?_
  refine zc_ne (tgt := 72) hx hb dM_isDone_65 rfl (by omega) (by omega) (fun _ => ?_) (fun q => absurd q (by omega))
  refine lv_iconst (v := nI 0) hx hb dM_isDone_72 (by decide) ?_
  refine lv_istore hx hb dM_isDone_73 hl (by decide) rfl (fun ls hl => ?_)
  have hl : lv_has ls 14 [(8, .int (nI 0)), (4, .int (nI pl)), (6, .long x), (5, .int (nI 13)), (0, .ref (A 0)), (1, .int (nI w)), (2, .long key)] := hl
  refine lv_iload hx hb dM_isDone_75 (lv_at hl 3 rfl) ?_
  refine lv_bipush (v := nI 6) hx hb dM_isDone_77 (by decide) ?_
  refine zc_lt (tgt := 89) hx hb dM_isDone_79 rfl (by omega) (by omega) (fun q => absurd q (by omega)) (fun _ => ?_)
  refine lv_iload hx hb dM_isDone_82 (lv_at hl 3 rfl) ?_
  refine lv_bipush (v := nI 11) hx hb dM_isDone_84 (by decide) ?_
  refine zc_le (tgt := 108) hx hb dM_isDone_86 rfl (by omega) (by omega) (fun q => absurd q (by omega)) (fun _ => ?_)
  refine lv_iload hx hb dM_isDone_89 (lv_at hl 3 rfl) ?_
  refine lv_bipush (v := nI 14) hx hb dM_isDone_91 (by decide) ?_
  refine zc_eq (tgt := 108) hx hb dM_isDone_93 rfl (by omega) (by omega) (fun q => absurd q (by omega)) (fun _ => ?_)
  refine lv_iload hx hb dM_isDone_96 (lv_at hl 3 rfl) ?_
  refine lv_bipush (v := nI 17) hx hb dM_isDone_98 (by decide) ?_
  refine zc_ne (tgt := 112) hx hb dM_isDone_100 rfl (by omega) (by omega) (fun _ => ?_) (fun q => absurd q (by omega))
  refine lv_iload hx hb dM_isDone_112 (lv_at hl 3 rfl) ?_
  refine lv_iconst (v := nI 5) hx hb dM_isDone_114 (by decide) ?_
  refine zc_eq (tgt := 146) hx hb dM_isDone_115 rfl (by omega) (by omega) (fun q => absurd q (by omega)) (fun _ => ?_)
  refine lv_iload hx hb dM_isDone_118 (lv_at hl 3 rfl) ?_
  refine lv_bipush (v := nI 12) hx hb dM_isDone_120 (by decide) ?_
  refine zc_eq (tgt := 146) hx hb dM_isDone_122 rfl (by omega) (by omega) (fun q => absurd q (by omega)) (fun _ => ?_)
  refine lv_iload hx hb dM_isDone_125 (lv_at hl 3 rfl) ?_
  refine lv_bipush (v := nI 13) hx hb dM_isDone_127 (by decide) ?_
  refine zc_eq (tgt := 146) hx hb dM_isDone_129 rfl (by omega) (by omega) (fun _ => ?_) (fun q => absurd q (by omega))
  refine lv_iconst (v := nI 1) hx hb dM_isDone_146 (by decide) ?_
  refine lv_goto (tgt := 151) hx hb dM_isDone_147 rfl ?_
  refine lv_istore hx hb dM_isDone_151 hl (by decide) rfl (fun ls hl => ?_)
  have hl : lv_has ls 14 [(9, .int (nI 1)), (8, .int (nI 0)), (4, .int (nI pl)), (6, .long x), (5, .int (nI 13)), (0, .ref (A 0)), (1, .int (nI w)), (2, .long key)] := hl
  refine lv_aload_n hx hb dM_isDone_153 rfl (lv_at hl 5 rfl) ?_
  refine zGetM hx hb hw hown hK hP 0 rfl 10 (by decide) wf_M_49 rfl dM_isDone_154 ?_
  refine lv_iload hx hb dM_isDone_157 (lv_at hl 0 rfl) ?_
  refine zc_lt (tgt := 176) hx hb dM_isDone_159 rfl (by omega) (by omega) (fun _ => ?_) (fun q => absurd q (by omega))
  refine lv_iconst (v := nI 0) hx hb dM_isDone_176 (by decide) ?_
  exact kk _ _ dM_isDone_177
set_option maxRecDepth 20000 in
set_option maxHeartbeats 4000000 in
theorem mT16 {p : Program} {l : Launch} {e : Env} {s : State} {m : MethodId} {args : Array Value} {below : List Frame} {meth : Method} {c : Code} {F : Nat → Prop} {D : va_G} {A : Nat → Nat} {C : Nat → ClassId} (hx : p.tables.exec = Jvm.exec) (hb : c.code = cM_isDone) (hr : meth.sig.returnType = (some .boolean)) (hlk : meth.locks = false) (hml : c.maxLocals = 14) (hw : ∀ w ∈ WS, w.before args s = true) (hown : s.vm.findClass RM = some m.cls) (hK : va_K D vwCl (mT C) s) (hA : ∀ q, s.heap.size ≤ q → F q) {Q : State → Prop} {ls : Array Slot} {H : Heap} {locs : List Loc} {ops : Nat → Int32} {nums vals st ce pk pv : Nat → Int64} {n vc sp d pr tk th tr : Nat} {w pl : Nat} {key x : Int64} (hd : d ≤ 12) (hw2 : w ≤ 2) (hvc : vc ≤ 40) (htk : tk ≤ vc) (hpr : pr ≤ 4) (hpl : pl ≤ 40) (h0 : d = 0) (hP : va_P D vwCl (mW A C ops nums vals st ce pk pv n vc sp d pr tk th tr) H) (hD : va_D F (mW A C ops nums vals st ce pk pv n vc sp d pr tk th tr)) (hS : va_S F s.heap H locs) (hl : lv_has ls 14 [(4, .int (nI pl)), (6, .long x), (5, .int (nI 16)), (0, .ref (A 0)), (1, .int (nI w)), (2, .long key)]) (kk : ∀ (pc : Nat) (ls : Array Slot), decode cM_isDone pc = .ok (.ireturn, 1) → W p l e (rmk 0 0) s m args below meth c H locs 0 0 Q (F0 m pc ls [.int (nI 0)])) : W p l e (rmk 0 0) s m args below meth c H locs 0 0 Q (F0 m 55 ls []) := by
  refine lv_iload hx hb dM_isDone_55 (lv_at hl 2 rfl) ?_
  refine lv_iconst (v := nI 4) hx hb dM_isDone_57 (by decide) ?_
  refine zc_le (tgt := 68) hx hb dM_isDone_58 rfl (by omega) (by omega) (fun q => absurd q (by omega)) (fun _ => ?_)
  refine lv_iload hx hb dM_isDone_61 (lv_at hl 2 rfl) ?_
  refine lv_bipush (v := nI 12) hx hb dM_isDone_63 (by decide) ?_
  refine zc_ne (tgt := 72) hx hb dM_isDone_65 rfl (by omega) (by omega) (fun _ => ?_) (fun q => absurd q (by omega))
  refine lv_iconst (v := nI 0) hx hb dM_isDone_72 (by decide) ?_
  refine lv_istore hx hb dM_isDone_73 hl (by decide) rfl (fun ls hl => ?_)
  have hl : lv_has ls 14 [(8, .int (nI 0)), (4, .int (nI pl)), (6, .long x), (5, .int (nI 16)), (0, .ref (A 0)), (1, .int (nI w)), (2, .long key)] := hl
  refine lv_iload hx hb dM_isDone_75 (lv_at hl 3 rfl) ?_
  refine lv_bipush (v := nI 6) hx hb dM_isDone_77 (by decide) ?_
  refine zc_lt (tgt := 89) hx hb dM_isDone_79 rfl (by omega) (by omega) (fun q => absurd q (by omega)) (fun _ => ?_)
  refine lv_iload hx hb dM_isDone_82 (lv_at hl 3 rfl) ?_
  refine lv_bipush (v := nI 11) hx hb dM_isDone_84 (by decide) ?_
  refine zc_le (tgt := 108) hx hb dM_isDone_86 rfl (by omega) (by omega) (fun q => absurd q (by omega)) (fun _ => ?_)
  refine lv_iload hx hb dM_isDone_89 (lv_at hl 3 rfl) ?_
  refine lv_bipush (v := nI 14) hx hb dM_isDone_91 (by decide) ?_
  refine zc_eq (tgt := 108) hx hb dM_isDone_93 rfl (by omega) (by omega) (fun q => absurd q (by omega)) (fun _ => ?_)
  refine lv_iload hx hb dM_isDone_96 (lv_at hl 3 rfl) ?_
  refine lv_bipush (v := nI 17) hx hb dM_isDone_98 (by decide) ?_
  refine zc_ne (tgt := 112) hx hb dM_isDone_100 rfl (by omega) (by omega) (fun _ => ?_) (fun q => absurd q (by omega))
  refine lv_iload hx hb dM_isDone_112 (lv_at hl 3 rfl) ?_
  refine lv_iconst (v := nI 5) hx hb dM_isDone_114 (by decide) ?_
  refine zc_eq (tgt := 146) hx hb dM_isDone_115 rfl (by omega) (by omega) (fun q => absurd q (by omega)) (fun _ => ?_)
  refine lv_iload hx hb dM_isDone_118 (lv_at hl 3 rfl) ?_
  refine lv_bipush (v := nI 12) hx hb dM_isDone_120 (by decide) ?_
  refine zc_eq (tgt := 146) hx hb dM_isDone_122 rfl (by omega) (by omega) (fun q => absurd q (by omega)) (fun _ => ?_)
  refine lv_iload hx hb dM_isDone_125 (lv_at hl 3 rfl) ?_
  refine lv_bipush (v := nI 13) hx hb dM_isDone_127 (by decide) ?_
  refine zc_eq (tgt := 146) hx hb dM_isDone_129 rfl (by omega) (by omega) (fun q => absurd q (by omega)) (fun _ => ?_)
  refine lv_iload hx hb dM_isDone_132 (lv_at hl 3 rfl) ?_
  refine lv_bipush (v := nI 16) hx hb dM_isDone_134 (by decide) ?_
  refine zc_eq (tgt := 146) hx hb dM_isDone_136 rfl (by omega) (by omega) (fun _ => ?_) (fun q => absurd q (by omega))
  refine lv_iconst (v := nI 1) hx hb dM_isDone_146 (by decide) ?_
  refine lv_goto (tgt := 151) hx hb dM_isDone_147 rfl ?_
  refine lv_istore hx hb dM_isDone_151 hl (by decide) rfl (fun ls hl => ?_)
  have hl : lv_has ls 14 [(9, .int (nI 1)), (8, .int (nI 0)), (4, .int (nI pl)), (6, .long x), (5, .int (nI 16)), (0, .ref (A 0)), (1, .int (nI w)), (2, .long key)] := hl
  refine lv_aload_n hx hb dM_isDone_153 rfl (lv_at hl 5 rfl) ?_
  refine zGetM hx hb hw hown hK hP 0 rfl 10 (by decide) wf_M_49 rfl dM_isDone_154 ?_
  refine lv_iload hx hb dM_isDone_157 (lv_at hl 0 rfl) ?_
  refine zc_lt (tgt := 176) hx hb dM_isDone_159 rfl (by omega) (by omega) (fun _ => ?_) (fun q => absurd q (by omega))
  refine lv_iconst (v := nI 0) hx hb dM_isDone_176 (by decide) ?_
  exact kk _ _ dM_isDone_177
set_option maxRecDepth 20000 in
set_option maxHeartbeats 4000000 in
theorem mT6 {p : Program} {l : Launch} {e : Env} {s : State} {m : MethodId} {args : Array Value} {below : List Frame} {meth : Method} {c : Code} {F : Nat → Prop} {D : va_G} {A : Nat → Nat} {C : Nat → ClassId} (hx : p.tables.exec = Jvm.exec) (hb : c.code = cM_isDone) (hr : meth.sig.returnType = (some .boolean)) (hlk : meth.locks = false) (hml : c.maxLocals = 14) (hw : ∀ w ∈ WS, w.before args s = true) (hown : s.vm.findClass RM = some m.cls) (hK : va_K D vwCl (mT C) s) (hA : ∀ q, s.heap.size ≤ q → F q) {Q : State → Prop} {ls : Array Slot} {H : Heap} {locs : List Loc} {ops : Nat → Int32} {nums vals st ce pk pv : Nat → Int64} {n vc sp d pr tk th tr : Nat} {w pl : Nat} {key x : Int64} (hd : d ≤ 12) (hw2 : w ≤ 2) (hvc : vc ≤ 40) (htk : tk ≤ vc) (hpr : pr ≤ 4) (hpl : pl ≤ 40) (h0 : d < 2) (hP : va_P D vwCl (mW A C ops nums vals st ce pk pv n vc sp d pr tk th tr) H) (hD : va_D F (mW A C ops nums vals st ce pk pv n vc sp d pr tk th tr)) (hS : va_S F s.heap H locs) (hl : lv_has ls 14 [(4, .int (nI pl)), (6, .long x), (5, .int (nI 6)), (0, .ref (A 0)), (1, .int (nI w)), (2, .long key)]) (kk : ∀ (pc : Nat) (ls : Array Slot), decode cM_isDone pc = .ok (.ireturn, 1) → W p l e (rmk 0 0) s m args below meth c H locs 0 0 Q (F0 m pc ls [.int (nI 0)])) : W p l e (rmk 0 0) s m args below meth c H locs 0 0 Q (F0 m 55 ls []) := by
  refine lv_iload hx hb dM_isDone_55 (lv_at hl 2 rfl) ?_
  refine lv_iconst (v := nI 4) hx hb dM_isDone_57 (by decide) ?_
  refine zc_le (tgt := 68) hx hb dM_isDone_58 rfl (by omega) (by omega) (fun q => absurd q (by omega)) (fun _ => ?_)
  refine lv_iload hx hb dM_isDone_61 (lv_at hl 2 rfl) ?_
  refine lv_bipush (v := nI 12) hx hb dM_isDone_63 (by decide) ?_
  refine zc_ne (tgt := 72) hx hb dM_isDone_65 rfl (by omega) (by omega) (fun _ => ?_) (fun q => absurd q (by omega))
  refine lv_iconst (v := nI 0) hx hb dM_isDone_72 (by decide) ?_
  refine lv_istore hx hb dM_isDone_73 hl (by decide) rfl (fun ls hl => ?_)
  have hl : lv_has ls 14 [(8, .int (nI 0)), (4, .int (nI pl)), (6, .long x), (5, .int (nI 6)), (0, .ref (A 0)), (1, .int (nI w)), (2, .long key)] := hl
  refine lv_iload hx hb dM_isDone_75 (lv_at hl 3 rfl) ?_
  refine lv_bipush (v := nI 6) hx hb dM_isDone_77 (by decide) ?_
  refine zc_lt (tgt := 89) hx hb dM_isDone_79 rfl (by omega) (by omega) (fun q => absurd q (by omega)) (fun _ => ?_)
  refine lv_iload hx hb dM_isDone_82 (lv_at hl 3 rfl) ?_
  refine lv_bipush (v := nI 11) hx hb dM_isDone_84 (by decide) ?_
  refine zc_le (tgt := 108) hx hb dM_isDone_86 rfl (by omega) (by omega) (fun _ => ?_) (fun q => absurd q (by omega))
  refine lv_iconst (v := nI 2) hx hb dM_isDone_108 (by decide) ?_
  refine lv_goto (tgt := 151) hx hb dM_isDone_109 rfl ?_
  refine lv_istore hx hb dM_isDone_151 hl (by decide) rfl (fun ls hl => ?_)
  have hl : lv_has ls 14 [(9, .int (nI 2)), (8, .int (nI 0)), (4, .int (nI pl)), (6, .long x), (5, .int (nI 6)), (0, .ref (A 0)), (1, .int (nI w)), (2, .long key)] := hl
  refine lv_aload_n hx hb dM_isDone_153 rfl (lv_at hl 5 rfl) ?_
  refine zGetM hx hb hw hown hK hP 0 rfl 10 (by decide) wf_M_49 rfl dM_isDone_154 ?_
  refine lv_iload hx hb dM_isDone_157 (lv_at hl 0 rfl) ?_
  refine zc_lt (tgt := 176) hx hb dM_isDone_159 rfl (by omega) (by omega) (fun _ => ?_) (fun q => absurd q (by omega))
  refine lv_iconst (v := nI 0) hx hb dM_isDone_176 (by decide) ?_
  exact kk _ _ dM_isDone_177
set_option maxRecDepth 20000 in
set_option maxHeartbeats 4000000 in
theorem mT7 {p : Program} {l : Launch} {e : Env} {s : State} {m : MethodId} {args : Array Value} {below : List Frame} {meth : Method} {c : Code} {F : Nat → Prop} {D : va_G} {A : Nat → Nat} {C : Nat → ClassId} (hx : p.tables.exec = Jvm.exec) (hb : c.code = cM_isDone) (hr : meth.sig.returnType = (some .boolean)) (hlk : meth.locks = false) (hml : c.maxLocals = 14) (hw : ∀ w ∈ WS, w.before args s = true) (hown : s.vm.findClass RM = some m.cls) (hK : va_K D vwCl (mT C) s) (hA : ∀ q, s.heap.size ≤ q → F q) {Q : State → Prop} {ls : Array Slot} {H : Heap} {locs : List Loc} {ops : Nat → Int32} {nums vals st ce pk pv : Nat → Int64} {n vc sp d pr tk th tr : Nat} {w pl : Nat} {key x : Int64} (hd : d ≤ 12) (hw2 : w ≤ 2) (hvc : vc ≤ 40) (htk : tk ≤ vc) (hpr : pr ≤ 4) (hpl : pl ≤ 40) (h0 : d < 2) (hP : va_P D vwCl (mW A C ops nums vals st ce pk pv n vc sp d pr tk th tr) H) (hD : va_D F (mW A C ops nums vals st ce pk pv n vc sp d pr tk th tr)) (hS : va_S F s.heap H locs) (hl : lv_has ls 14 [(4, .int (nI pl)), (6, .long x), (5, .int (nI 7)), (0, .ref (A 0)), (1, .int (nI w)), (2, .long key)]) (kk : ∀ (pc : Nat) (ls : Array Slot), decode cM_isDone pc = .ok (.ireturn, 1) → W p l e (rmk 0 0) s m args below meth c H locs 0 0 Q (F0 m pc ls [.int (nI 0)])) : W p l e (rmk 0 0) s m args below meth c H locs 0 0 Q (F0 m 55 ls []) := by
  refine lv_iload hx hb dM_isDone_55 (lv_at hl 2 rfl) ?_
  refine lv_iconst (v := nI 4) hx hb dM_isDone_57 (by decide) ?_
  refine zc_le (tgt := 68) hx hb dM_isDone_58 rfl (by omega) (by omega) (fun q => absurd q (by omega)) (fun _ => ?_)
  refine lv_iload hx hb dM_isDone_61 (lv_at hl 2 rfl) ?_
  refine lv_bipush (v := nI 12) hx hb dM_isDone_63 (by decide) ?_
  refine zc_ne (tgt := 72) hx hb dM_isDone_65 rfl (by omega) (by omega) (fun _ => ?_) (fun q => absurd q (by omega))
  refine lv_iconst (v := nI 0) hx hb dM_isDone_72 (by decide) ?_
  refine lv_istore hx hb dM_isDone_73 hl (by decide) rfl (fun ls hl => ?_)
  have hl : lv_has ls 14 [(8, .int (nI 0)), (4, .int (nI pl)), (6, .long x), (5, .int (nI 7)), (0, .ref (A 0)), (1, .int (nI w)), (2, .long key)] := hl
  refine lv_iload hx hb dM_isDone_75 (lv_at hl 3 rfl) ?_
  refine lv_bipush (v := nI 6) hx hb dM_isDone_77 (by decide) ?_
  refine zc_lt (tgt := 89) hx hb dM_isDone_79 rfl (by omega) (by omega) (fun q => absurd q (by omega)) (fun _ => ?_)
  refine lv_iload hx hb dM_isDone_82 (lv_at hl 3 rfl) ?_
  refine lv_bipush (v := nI 11) hx hb dM_isDone_84 (by decide) ?_
  refine zc_le (tgt := 108) hx hb dM_isDone_86 rfl (by omega) (by omega) (fun _ => ?_) (fun q => absurd q (by omega))
  refine lv_iconst (v := nI 2) hx hb dM_isDone_108 (by decide) ?_
  refine lv_goto (tgt := 151) hx hb dM_isDone_109 rfl ?_
  refine lv_istore hx hb dM_isDone_151 hl (by decide) rfl (fun ls hl => ?_)
  have hl : lv_has ls 14 [(9, .int (nI 2)), (8, .int (nI 0)), (4, .int (nI pl)), (6, .long x), (5, .int (nI 7)), (0, .ref (A 0)), (1, .int (nI w)), (2, .long key)] := hl
  refine lv_aload_n hx hb dM_isDone_153 rfl (lv_at hl 5 rfl) ?_
  refine zGetM hx hb hw hown hK hP 0 rfl 10 (by decide) wf_M_49 rfl dM_isDone_154 ?_
  refine lv_iload hx hb dM_isDone_157 (lv_at hl 0 rfl) ?_
  refine zc_lt (tgt := 176) hx hb dM_isDone_159 rfl (by omega) (by omega) (fun _ => ?_) (fun q => absurd q (by omega))
  refine lv_iconst (v := nI 0) hx hb dM_isDone_176 (by decide) ?_
  exact kk _ _ dM_isDone_177
set_option maxRecDepth 20000 in
set_option maxHeartbeats 4000000 in
theorem mT8 {p : Program} {l : Launch} {e : Env} {s : State} {m : MethodId} {args : Array Value} {below : List Frame} {meth : Method} {c : Code} {F : Nat → Prop} {D : va_G} {A : Nat → Nat} {C : Nat → ClassId} (hx : p.tables.exec = Jvm.exec) (hb : c.code = cM_isDone) (hr : meth.sig.returnType = (some .boolean)) (hlk : meth.locks = false) (hml : c.maxLocals = 14) (hw : ∀ w ∈ WS, w.before args s = true) (hown : s.vm.findClass RM = some m.cls) (hK : va_K D vwCl (mT C) s) (hA : ∀ q, s.heap.size ≤ q → F q) {Q : State → Prop} {ls : Array Slot} {H : Heap} {locs : List Loc} {ops : Nat → Int32} {nums vals st ce pk pv : Nat → Int64} {n vc sp d pr tk th tr : Nat} {w pl : Nat} {key x : Int64} (hd : d ≤ 12) (hw2 : w ≤ 2) (hvc : vc ≤ 40) (htk : tk ≤ vc) (hpr : pr ≤ 4) (hpl : pl ≤ 40) (h0 : d < 2) (hP : va_P D vwCl (mW A C ops nums vals st ce pk pv n vc sp d pr tk th tr) H) (hD : va_D F (mW A C ops nums vals st ce pk pv n vc sp d pr tk th tr)) (hS : va_S F s.heap H locs) (hl : lv_has ls 14 [(4, .int (nI pl)), (6, .long x), (5, .int (nI 8)), (0, .ref (A 0)), (1, .int (nI w)), (2, .long key)]) (kk : ∀ (pc : Nat) (ls : Array Slot), decode cM_isDone pc = .ok (.ireturn, 1) → W p l e (rmk 0 0) s m args below meth c H locs 0 0 Q (F0 m pc ls [.int (nI 0)])) : W p l e (rmk 0 0) s m args below meth c H locs 0 0 Q (F0 m 55 ls []) := by
  refine lv_iload hx hb dM_isDone_55 (lv_at hl 2 rfl) ?_
  refine lv_iconst (v := nI 4) hx hb dM_isDone_57 (by decide) ?_
  refine zc_le (tgt := 68) hx hb dM_isDone_58 rfl (by omega) (by omega) (fun q => absurd q (by omega)) (fun _ => ?_)
  refine lv_iload hx hb dM_isDone_61 (lv_at hl 2 rfl) ?_
  refine lv_bipush (v := nI 12) hx hb dM_isDone_63 (by decide) ?_
  refine zc_ne (tgt := 72) hx hb dM_isDone_65 rfl (by omega) (by omega) (fun _ => ?_) (fun q => absurd q (by omega))
  refine lv_iconst (v := nI 0) hx hb dM_isDone_72 (by decide) ?_
  refine lv_istore hx hb dM_isDone_73 hl (by decide) rfl (fun ls hl => ?_)
  have hl : lv_has ls 14 [(8, .int (nI 0)), (4, .int (nI pl)), (6, .long x), (5, .int (nI 8)), (0, .ref (A 0)), (1, .int (nI w)), (2, .long key)] := hl
  refine lv_iload hx hb dM_isDone_75 (lv_at hl 3 rfl) ?_
  refine lv_bipush (v := nI 6) hx hb dM_isDone_77 (by decide) ?_
  refine zc_lt (tgt := 89) hx hb dM_isDone_79 rfl (by omega) (by omega) (fun q => absurd q (by omega)) (fun _ => ?_)
  refine lv_iload hx hb dM_isDone_82 (lv_at hl 3 rfl) ?_
  refine lv_bipush (v := nI 11) hx hb dM_isDone_84 (by decide) ?_
  refine zc_le (tgt := 108) hx hb dM_isDone_86 rfl (by omega) (by omega) (fun _ => ?_) (fun q => absurd q (by omega))
  refine lv_iconst (v := nI 2) hx hb dM_isDone_108 (by decide) ?_
  refine lv_goto (tgt := 151) hx hb dM_isDone_109 rfl ?_
  refine lv_istore hx hb dM_isDone_151 hl (by decide) rfl (fun ls hl => ?_)
  have hl : lv_has ls 14 [(9, .int (nI 2)), (8, .int (nI 0)), (4, .int (nI pl)), (6, .long x), (5, .int (nI 8)), (0, .ref (A 0)), (1, .int (nI w)), (2, .long key)] := hl
  refine lv_aload_n hx hb dM_isDone_153 rfl (lv_at hl 5 rfl) ?_
  refine zGetM hx hb hw hown hK hP 0 rfl 10 (by decide) wf_M_49 rfl dM_isDone_154 ?_
  refine lv_iload hx hb dM_isDone_157 (lv_at hl 0 rfl) ?_
  refine zc_lt (tgt := 176) hx hb dM_isDone_159 rfl (by omega) (by omega) (fun _ => ?_) (fun q => absurd q (by omega))
  refine lv_iconst (v := nI 0) hx hb dM_isDone_176 (by decide) ?_
  exact kk _ _ dM_isDone_177
set_option maxRecDepth 20000 in
set_option maxHeartbeats 4000000 in
theorem mT9 {p : Program} {l : Launch} {e : Env} {s : State} {m : MethodId} {args : Array Value} {below : List Frame} {meth : Method} {c : Code} {F : Nat → Prop} {D : va_G} {A : Nat → Nat} {C : Nat → ClassId} (hx : p.tables.exec = Jvm.exec) (hb : c.code = cM_isDone) (hr : meth.sig.returnType = (some .boolean)) (hlk : meth.locks = false) (hml : c.maxLocals = 14) (hw : ∀ w ∈ WS, w.before args s = true) (hown : s.vm.findClass RM = some m.cls) (hK : va_K D vwCl (mT C) s) (hA : ∀ q, s.heap.size ≤ q → F q) {Q : State → Prop} {ls : Array Slot} {H : Heap} {locs : List Loc} {ops : Nat → Int32} {nums vals st ce pk pv : Nat → Int64} {n vc sp d pr tk th tr : Nat} {w pl : Nat} {key x : Int64} (hd : d ≤ 12) (hw2 : w ≤ 2) (hvc : vc ≤ 40) (htk : tk ≤ vc) (hpr : pr ≤ 4) (hpl : pl ≤ 40) (h0 : d < 2) (hP : va_P D vwCl (mW A C ops nums vals st ce pk pv n vc sp d pr tk th tr) H) (hD : va_D F (mW A C ops nums vals st ce pk pv n vc sp d pr tk th tr)) (hS : va_S F s.heap H locs) (hl : lv_has ls 14 [(4, .int (nI pl)), (6, .long x), (5, .int (nI 9)), (0, .ref (A 0)), (1, .int (nI w)), (2, .long key)]) (kk : ∀ (pc : Nat) (ls : Array Slot), decode cM_isDone pc = .ok (.ireturn, 1) → W p l e (rmk 0 0) s m args below meth c H locs 0 0 Q (F0 m pc ls [.int (nI 0)])) : W p l e (rmk 0 0) s m args below meth c H locs 0 0 Q (F0 m 55 ls []) := by
  refine lv_iload hx hb dM_isDone_55 (lv_at hl 2 rfl) ?_
  refine lv_iconst (v := nI 4) hx hb dM_isDone_57 (by decide) ?_
  refine zc_le (tgt := 68) hx hb dM_isDone_58 rfl (by omega) (by omega) (fun q => absurd q (by omega)) (fun _ => ?_)
  refine lv_iload hx hb dM_isDone_61 (lv_at hl 2 rfl) ?_
  refine lv_bipush (v := nI 12) hx hb dM_isDone_63 (by decide) ?_
  refine zc_ne (tgt := 72) hx hb dM_isDone_65 rfl (by omega) (by omega) (fun _ => ?_) (fun q => absurd q (by omega))
  refine lv_iconst (v := nI 0) hx hb dM_isDone_72 (by decide) ?_
  refine lv_istore hx hb dM_isDone_73 hl (by decide) rfl (fun ls hl => ?_)
  have hl : lv_has ls 14 [(8, .int (nI 0)), (4, .int (nI pl)), (6, .long x), (5, .int (nI 9)), (0, .ref (A 0)), (1, .int (nI w)), (2, .long key)] := hl
  refine lv_iload hx hb dM_isDone_75 (lv_at hl 3 rfl) ?_
  refine lv_bipush (v := nI 6) hx hb dM_isDone_77 (by decide) ?_
  refine zc_lt (tgt := 89) hx hb dM_isDone_79 rfl (by omega) (by omega) (fun q => absurd q (by omega)) (fun _ => ?_)
  refine lv_iload hx hb dM_isDone_82 (lv_at hl 3 rfl) ?_
  refine lv_bipush (v := nI 11) hx hb dM_isDone_84 (by decide) ?_
  refine zc_le (tgt := 108) hx hb dM_isDone_86 rfl (by omega) (by omega) (fun _ => ?_) (fun q => absurd q (by omega))
  refine lv_iconst (v := nI 2) hx hb dM_isDone_108 (by decide) ?_
  refine lv_goto (tgt := 151) hx hb dM_isDone_109 rfl ?_
  refine lv_istore hx hb dM_isDone_151 hl (by decide) rfl (fun ls hl => ?_)
  have hl : lv_has ls 14 [(9, .int (nI 2)), (8, .int (nI 0)), (4, .int (nI pl)), (6, .long x), (5, .int (nI 9)), (0, .ref (A 0)), (1, .int (nI w)), (2, .long key)] := hl
  refine lv_aload_n hx hb dM_isDone_153 rfl (lv_at hl 5 rfl) ?_
  refine zGetM hx hb hw hown hK hP 0 rfl 10 (by decide) wf_M_49 rfl dM_isDone_154 ?_
  refine lv_iload hx hb dM_isDone_157 (lv_at hl 0 rfl) ?_
  refine zc_lt (tgt := 176) hx hb dM_isDone_159 rfl (by omega) (by omega) (fun _ => ?_) (fun q => absurd q (by omega))
  refine lv_iconst (v := nI 0) hx hb dM_isDone_176 (by decide) ?_
  exact kk _ _ dM_isDone_177
set_option maxRecDepth 20000 in
set_option maxHeartbeats 4000000 in
theorem mT10 {p : Program} {l : Launch} {e : Env} {s : State} {m : MethodId} {args : Array Value} {below : List Frame} {meth : Method} {c : Code} {F : Nat → Prop} {D : va_G} {A : Nat → Nat} {C : Nat → ClassId} (hx : p.tables.exec = Jvm.exec) (hb : c.code = cM_isDone) (hr : meth.sig.returnType = (some .boolean)) (hlk : meth.locks = false) (hml : c.maxLocals = 14) (hw : ∀ w ∈ WS, w.before args s = true) (hown : s.vm.findClass RM = some m.cls) (hK : va_K D vwCl (mT C) s) (hA : ∀ q, s.heap.size ≤ q → F q) {Q : State → Prop} {ls : Array Slot} {H : Heap} {locs : List Loc} {ops : Nat → Int32} {nums vals st ce pk pv : Nat → Int64} {n vc sp d pr tk th tr : Nat} {w pl : Nat} {key x : Int64} (hd : d ≤ 12) (hw2 : w ≤ 2) (hvc : vc ≤ 40) (htk : tk ≤ vc) (hpr : pr ≤ 4) (hpl : pl ≤ 40) (h0 : d < 2) (hP : va_P D vwCl (mW A C ops nums vals st ce pk pv n vc sp d pr tk th tr) H) (hD : va_D F (mW A C ops nums vals st ce pk pv n vc sp d pr tk th tr)) (hS : va_S F s.heap H locs) (hl : lv_has ls 14 [(4, .int (nI pl)), (6, .long x), (5, .int (nI 10)), (0, .ref (A 0)), (1, .int (nI w)), (2, .long key)]) (kk : ∀ (pc : Nat) (ls : Array Slot), decode cM_isDone pc = .ok (.ireturn, 1) → W p l e (rmk 0 0) s m args below meth c H locs 0 0 Q (F0 m pc ls [.int (nI 0)])) : W p l e (rmk 0 0) s m args below meth c H locs 0 0 Q (F0 m 55 ls []) := by
  refine lv_iload hx hb dM_isDone_55 (lv_at hl 2 rfl) ?_
  refine lv_iconst (v := nI 4) hx hb dM_isDone_57 (by decide) ?_
  refine zc_le (tgt := 68) hx hb dM_isDone_58 rfl (by omega) (by omega) (fun q => absurd q (by omega)) (fun _ => ?_)
  refine lv_iload hx hb dM_isDone_61 (lv_at hl 2 rfl) ?_
  refine lv_bipush (v := nI 12) hx hb dM_isDone_63 (by decide) ?_
  refine zc_ne (tgt := 72) hx hb dM_isDone_65 rfl (by omega) (by omega) (fun _ => ?_) (fun q => absurd q (by omega))
  refine lv_iconst (v := nI 0) hx hb dM_isDone_72 (by decide) ?_
  refine lv_istore hx hb dM_isDone_73 hl (by decide) rfl (fun ls hl => ?_)
  have hl : lv_has ls 14 [(8, .int (nI 0)), (4, .int (nI pl)), (6, .long x), (5, .int (nI 10)), (0, .ref (A 0)), (1, .int (nI w)), (2, .long key)] := hl
  refine lv_iload hx hb dM_isDone_75 (lv_at hl 3 rfl) ?_
  refine lv_bipush (v := nI 6) hx hb dM_isDone_77 (by decide) ?_
  refine zc_lt (tgt := 89) hx hb dM_isDone_79 rfl (by omega) (by omega) (fun q => absurd q (by omega)) (fun _ => ?_)
  refine lv_iload hx hb dM_isDone_82 (lv_at hl 3 rfl) ?_
  refine lv_bipush (v := nI 11) hx hb dM_isDone_84 (by decide) ?_
  refine zc_le (tgt := 108) hx hb dM_isDone_86 rfl (by omega) (by omega) (fun _ => ?_) (fun q => absurd q (by omega))
  refine lv_iconst (v := nI 2) hx hb dM_isDone_108 (by decide) ?_
  refine lv_goto (tgt := 151) hx hb dM_isDone_109 rfl ?_
  refine lv_istore hx hb dM_isDone_151 hl (by decide) rfl (fun ls hl => ?_)
  have hl : lv_has ls 14 [(9, .int (nI 2)), (8, .int (nI 0)), (4, .int (nI pl)), (6, .long x), (5, .int (nI 10)), (0, .ref (A 0)), (1, .int (nI w)), (2, .long key)] := hl
  refine lv_aload_n hx hb dM_isDone_153 rfl (lv_at hl 5 rfl) ?_
  refine zGetM hx hb hw hown hK hP 0 rfl 10 (by decide) wf_M_49 rfl dM_isDone_154 ?_
  refine lv_iload hx hb dM_isDone_157 (lv_at hl 0 rfl) ?_
  refine zc_lt (tgt := 176) hx hb dM_isDone_159 rfl (by omega) (by omega) (fun _ => ?_) (fun q => absurd q (by omega))
  refine lv_iconst (v := nI 0) hx hb dM_isDone_176 (by decide) ?_
  exact kk _ _ dM_isDone_177
set_option maxRecDepth 20000 in
set_option maxHeartbeats 4000000 in
theorem mT11 {p : Program} {l : Launch} {e : Env} {s : State} {m : MethodId} {args : Array Value} {below : List Frame} {meth : Method} {c : Code} {F : Nat → Prop} {D : va_G} {A : Nat → Nat} {C : Nat → ClassId} (hx : p.tables.exec = Jvm.exec) (hb : c.code = cM_isDone) (hr : meth.sig.returnType = (some .boolean)) (hlk : meth.locks = false) (hml : c.maxLocals = 14) (hw : ∀ w ∈ WS, w.before args s = true) (hown : s.vm.findClass RM = some m.cls) (hK : va_K D vwCl (mT C) s) (hA : ∀ q, s.heap.size ≤ q → F q) {Q : State → Prop} {ls : Array Slot} {H : Heap} {locs : List Loc} {ops : Nat → Int32} {nums vals st ce pk pv : Nat → Int64} {n vc sp d pr tk th tr : Nat} {w pl : Nat} {key x : Int64} (hd : d ≤ 12) (hw2 : w ≤ 2) (hvc : vc ≤ 40) (htk : tk ≤ vc) (hpr : pr ≤ 4) (hpl : pl ≤ 40) (h0 : d < 2) (hP : va_P D vwCl (mW A C ops nums vals st ce pk pv n vc sp d pr tk th tr) H) (hD : va_D F (mW A C ops nums vals st ce pk pv n vc sp d pr tk th tr)) (hS : va_S F s.heap H locs) (hl : lv_has ls 14 [(4, .int (nI pl)), (6, .long x), (5, .int (nI 11)), (0, .ref (A 0)), (1, .int (nI w)), (2, .long key)]) (kk : ∀ (pc : Nat) (ls : Array Slot), decode cM_isDone pc = .ok (.ireturn, 1) → W p l e (rmk 0 0) s m args below meth c H locs 0 0 Q (F0 m pc ls [.int (nI 0)])) : W p l e (rmk 0 0) s m args below meth c H locs 0 0 Q (F0 m 55 ls []) := by
  refine lv_iload hx hb dM_isDone_55 (lv_at hl 2 rfl) ?_
  refine lv_iconst (v := nI 4) hx hb dM_isDone_57 (by decide) ?_
  refine zc_le (tgt := 68) hx hb dM_isDone_58 rfl (by omega) (by omega) (fun q => absurd q (by omega)) (fun _ => ?_)
  refine lv_iload hx hb dM_isDone_61 (lv_at hl 2 rfl) ?_
  refine lv_bipush (v := nI 12) hx hb dM_isDone_63 (by decide) ?_
  refine zc_ne (tgt := 72) hx hb dM_isDone_65 rfl (by omega) (by omega) (fun _ => ?_) (fun q => absurd q (by omega))
  refine lv_iconst (v := nI 0) hx hb dM_isDone_72 (by decide) ?_
  refine lv_istore hx hb dM_isDone_73 hl (by decide) rfl (fun ls hl => ?_)
  have hl : lv_has ls 14 [(8, .int (nI 0)), (4, .int (nI pl)), (6, .long x), (5, .int (nI 11)), (0, .ref (A 0)), (1, .int (nI w)), (2, .long key)] := hl
  refine lv_iload hx hb dM_isDone_75 (lv_at hl 3 rfl) ?_
  refine lv_bipush (v := nI 6) hx hb dM_isDone_77 (by decide) ?_
  refine zc_lt (tgt := 89) hx hb dM_isDone_79 rfl (by omega) (by omega) (fun q => absurd q (by omega)) (fun _ => ?_)
  refine lv_iload hx hb dM_isDone_82 (lv_at hl 3 rfl) ?_
  refine lv_bipush (v := nI 11) hx hb dM_isDone_84 (by decide) ?_
  refine zc_le (tgt := 108) hx hb dM_isDone_86 rfl (by omega) (by omega) (fun _ => ?_) (fun q => absurd q (by omega))
  refine lv_iconst (v := nI 2) hx hb dM_isDone_108 (by decide) ?_
  refine lv_goto (tgt := 151) hx hb dM_isDone_109 rfl ?_
  refine lv_istore hx hb dM_isDone_151 hl (by decide) rfl (fun ls hl => ?_)
  have hl : lv_has ls 14 [(9, .int (nI 2)), (8, .int (nI 0)), (4, .int (nI pl)), (6, .long x), (5, .int (nI 11)), (0, .ref (A 0)), (1, .int (nI w)), (2, .long key)] := hl
  refine lv_aload_n hx hb dM_isDone_153 rfl (lv_at hl 5 rfl) ?_
  refine zGetM hx hb hw hown hK hP 0 rfl 10 (by decide) wf_M_49 rfl dM_isDone_154 ?_
  refine lv_iload hx hb dM_isDone_157 (lv_at hl 0 rfl) ?_
  refine zc_lt (tgt := 176) hx hb dM_isDone_159 rfl (by omega) (by omega) (fun _ => ?_) (fun q => absurd q (by omega))
  refine lv_iconst (v := nI 0) hx hb dM_isDone_176 (by decide) ?_
  exact kk _ _ dM_isDone_177
set_option maxRecDepth 20000 in
set_option maxHeartbeats 4000000 in
theorem mT14 {p : Program} {l : Launch} {e : Env} {s : State} {m : MethodId} {args : Array Value} {below : List Frame} {meth : Method} {c : Code} {F : Nat → Prop} {D : va_G} {A : Nat → Nat} {C : Nat → ClassId} (hx : p.tables.exec = Jvm.exec) (hb : c.code = cM_isDone) (hr : meth.sig.returnType = (some .boolean)) (hlk : meth.locks = false) (hml : c.maxLocals = 14) (hw : ∀ w ∈ WS, w.before args s = true) (hown : s.vm.findClass RM = some m.cls) (hK : va_K D vwCl (mT C) s) (hA : ∀ q, s.heap.size ≤ q → F q) {Q : State → Prop} {ls : Array Slot} {H : Heap} {locs : List Loc} {ops : Nat → Int32} {nums vals st ce pk pv : Nat → Int64} {n vc sp d pr tk th tr : Nat} {w pl : Nat} {key x : Int64} (hd : d ≤ 12) (hw2 : w ≤ 2) (hvc : vc ≤ 40) (htk : tk ≤ vc) (hpr : pr ≤ 4) (hpl : pl ≤ 40) (h0 : d < 2) (hP : va_P D vwCl (mW A C ops nums vals st ce pk pv n vc sp d pr tk th tr) H) (hD : va_D F (mW A C ops nums vals st ce pk pv n vc sp d pr tk th tr)) (hS : va_S F s.heap H locs) (hl : lv_has ls 14 [(4, .int (nI pl)), (6, .long x), (5, .int (nI 14)), (0, .ref (A 0)), (1, .int (nI w)), (2, .long key)]) (kk : ∀ (pc : Nat) (ls : Array Slot), decode cM_isDone pc = .ok (.ireturn, 1) → W p l e (rmk 0 0) s m args below meth c H locs 0 0 Q (F0 m pc ls [.int (nI 0)])) : W p l e (rmk 0 0) s m args below meth c H locs 0 0 Q (F0 m 55 ls []) := by
  refine lv_iload hx hb dM_isDone_55 (lv_at hl 2 rfl) ?_
  refine lv_iconst (v := nI 4) hx hb dM_isDone_57 (by decide) ?_
  refine zc_le (tgt := 68) hx hb dM_isDone_58 rfl (by omega) (by omega) (fun q => absurd q (by omega)) (fun _ => ?_)
  refine lv_iload hx hb dM_isDone_61 (lv_at hl 2 rfl) ?_
  refine lv_bipush (v := nI 12) hx hb dM_isDone_63 (by decide) ?_
  refine zc_ne (tgt := 72) hx hb dM_isDone_65 rfl (by omega) (by omega) (fun _ => ?_) (fun q => absurd q (by omega))
  refine lv_iconst (v := nI 0) hx hb dM_isDone_72 (by decide) ?_
  refine lv_istore hx hb dM_isDone_73 hl (by decide) rfl (fun ls hl => ?_)
  have hl : lv_has ls 14 [(8, .int (nI 0)), (4, .int (nI pl)), (6, .long x), (5, .int (nI 14)), (0, .ref (A 0)), (1, .int (nI w)), (2, .long key)] := hl
  refine lv_iload hx hb dM_isDone_75 (lv_at hl 3 rfl) ?_
  refine lv_bipush (v := nI 6) hx hb dM_isDone_77 (by decide) ?_
  refine zc_lt (tgt := 89) hx hb dM_isDone_79 rfl (by omega) (by omega) (fun q => absurd q (by omega)) (fun _ => ?_)
  refine lv_iload hx hb dM_isDone_82 (lv_at hl 3 rfl) ?_
  refine lv_bipush (v := nI 11) hx hb dM_isDone_84 (by decide) ?_
  refine zc_le (tgt := 108) hx hb dM_isDone_86 rfl (by omega) (by omega) (fun q => absurd q (by omega)) (fun _ => ?_)
  refine lv_iload hx hb dM_isDone_89 (lv_at hl 3 rfl) ?_
  refine lv_bipush (v := nI 14) hx hb dM_isDone_91 (by decide) ?_
  refine zc_eq (tgt := 108) hx hb dM_isDone_93 rfl (by omega) (by omega) (fun _ => ?_) (fun q => absurd q (by omega))
  refine lv_iconst (v := nI 2) hx hb dM_isDone_108 (by decide) ?_
  refine lv_goto (tgt := 151) hx hb dM_isDone_109 rfl ?_
  refine lv_istore hx hb dM_isDone_151 hl (by decide) rfl (fun ls hl => ?_)
  have hl : lv_has ls 14 [(9, .int (nI 2)), (8, .int (nI 0)), (4, .int (nI pl)), (6, .long x), (5, .int (nI 14)), (0, .ref (A 0)), (1, .int (nI w)), (2, .long key)] := hl
  refine lv_aload_n hx hb dM_isDone_153 rfl (lv_at hl 5 rfl) ?_
  refine zGetM hx hb hw hown hK hP 0 rfl 10 (by decide) wf_M_49 rfl dM_isDone_154 ?_
  refine lv_iload hx hb dM_isDone_157 (lv_at hl 0 rfl) ?_
  refine zc_lt (tgt := 176) hx hb dM_isDone_159 rfl (by omega) (by omega) (fun _ => ?_) (fun q => absurd q (by omega))
  refine lv_iconst (v := nI 0) hx hb dM_isDone_176 (by decide) ?_
  exact kk _ _ dM_isDone_177
set_option maxRecDepth 20000 in
set_option maxHeartbeats 4000000 in
theorem mT9z {p : Program} {l : Launch} {e : Env} {s : State} {m : MethodId} {args : Array Value} {below : List Frame} {meth : Method} {c : Code} {F : Nat → Prop} {D : va_G} {A : Nat → Nat} {C : Nat → ClassId} (hx : p.tables.exec = Jvm.exec) (hb : c.code = cM_isDone) (hr : meth.sig.returnType = (some .boolean)) (hlk : meth.locks = false) (hml : c.maxLocals = 14) (hw : ∀ w ∈ WS, w.before args s = true) (hown : s.vm.findClass RM = some m.cls) (hK : va_K D vwCl (mT C) s) (hA : ∀ q, s.heap.size ≤ q → F q) {Q : State → Prop} {ls : Array Slot} {H : Heap} {locs : List Loc} {ops : Nat → Int32} {nums vals st ce pk pv : Nat → Int64} {n vc sp d pr tk th tr : Nat} {w pl : Nat} {key x : Int64} (hd : d ≤ 12) (hw2 : w ≤ 2) (hvc : vc ≤ 40) (htk : tk ≤ vc) (hpr : pr ≤ 4) (hpl : pl ≤ 40) (h2 : 2 ≤ d) (hy : st (d - 1) = 0) (hP : va_P D vwCl (mW A C ops nums vals st ce pk pv n vc sp d pr tk th tr) H) (hD : va_D F (mW A C ops nums vals st ce pk pv n vc sp d pr tk th tr)) (hS : va_S F s.heap H locs) (hl : lv_has ls 14 [(4, .int (nI pl)), (6, .long x), (5, .int (nI 9)), (0, .ref (A 0)), (1, .int (nI w)), (2, .long key)]) (kk : ∀ (pc : Nat) (ls : Array Slot), decode cM_isDone pc = .ok (.ireturn, 1) → W p l e (rmk 0 0) s m args below meth c H locs 0 0 Q (F0 m pc ls [.int (nI 0)])) : W p l e (rmk 0 0) s m args below meth c H locs 0 0 Q (F0 m 55 ls []) := by
  refine lv_iload hx hb dM_isDone_55 (lv_at hl 2 rfl) ?_
  refine lv_iconst (v := nI 4) hx hb dM_isDone_57 (by decide) ?_
  refine zc_le (tgt := 68) hx hb dM_isDone_58 rfl (by omega) (by omega) (fun q => absurd q (by omega)) (fun _ => ?_)
  refine lv_iload hx hb dM_isDone_61 (lv_at hl 2 rfl) ?_
  refine lv_bipush (v := nI 12) hx hb dM_isDone_63 (by decide) ?_
  refine zc_ne (tgt := 72) hx hb dM_isDone_65 rfl (by omega) (by omega) (fun _ => ?_) (fun q => absurd q (by omega))
  refine lv_iconst (v := nI 0) hx hb dM_isDone_72 (by decide) ?_
  refine lv_istore hx hb dM_isDone_73 hl (by decide) rfl (fun ls hl => ?_)
  have hl : lv_has ls 14 [(8, .int (nI 0)), (4, .int (nI pl)), (6, .long x), (5, .int (nI 9)), (0, .ref (A 0)), (1, .int (nI w)), (2, .long key)] := hl
  refine lv_iload hx hb dM_isDone_75 (lv_at hl 3 rfl) ?_
  refine lv_bipush (v := nI 6) hx hb dM_isDone_77 (by decide) ?_
  refine zc_lt (tgt := 89) hx hb dM_isDone_79 rfl (by omega) (by omega) (fun q => absurd q (by omega)) (fun _ => ?_)
  refine lv_iload hx hb dM_isDone_82 (lv_at hl 3 rfl) ?_
  refine lv_bipush (v := nI 11) hx hb dM_isDone_84 (by decide) ?_
  refine zc_le (tgt := 108) hx hb dM_isDone_86 rfl (by omega) (by omega) (fun _ => ?_) (fun q => absurd q (by omega))
  refine lv_iconst (v := nI 2) hx hb dM_isDone_108 (by decide) ?_
  refine lv_goto (tgt := 151) hx hb dM_isDone_109 rfl ?_
  refine lv_istore hx hb dM_isDone_151 hl (by decide) rfl (fun ls hl => ?_)
  have hl : lv_has ls 14 [(9, .int (nI 2)), (8, .int (nI 0)), (4, .int (nI pl)), (6, .long x), (5, .int (nI 9)), (0, .ref (A 0)), (1, .int (nI w)), (2, .long key)] := hl
  refine lv_aload_n hx hb dM_isDone_153 rfl (lv_at hl 5 rfl) ?_
  refine zGetM hx hb hw hown hK hP 0 rfl 10 (by decide) wf_M_49 rfl dM_isDone_154 ?_
  refine lv_iload hx hb dM_isDone_157 (lv_at hl 0 rfl) ?_
  refine zc_lt (tgt := 176) hx hb dM_isDone_159 rfl (by omega) (by omega) (fun q => absurd q (by omega)) (fun _ => ?_)
  refine lv_iload hx hb dM_isDone_162 (lv_at hl 1 rfl) ?_
  refine zi_eq (tgt := 178) hx hb dM_isDone_164 rfl (by omega) (fun _ => ?_) (fun q => absurd q (by omega))
  refine lv_iload hx hb dM_isDone_178 (lv_at hl 0 rfl) ?_
  refine zi_le (tgt := 197) hx hb dM_isDone_180 rfl (by omega) (fun q => absurd q (by omega)) (fun _ => ?_)
  refine lv_aload_n hx hb dM_isDone_183 rfl (lv_at hl 5 rfl) ?_
  refine zGetM hx hb hw hown hK hP 0 rfl 3 (by decide) wf_M_20 rfl dM_isDone_184 ?_
  refine lv_aload_n hx hb dM_isDone_187 rfl (lv_at hl 5 rfl) ?_
  refine zGetM hx hb hw hown hK hP 0 rfl 10 (by decide) wf_M_49 rfl dM_isDone_188 ?_
  refine lv_iconst (v := nI 1) hx hb dM_isDone_191 (by decide) ?_
  refine lv_isub hx hb dM_isDone_192 ?_
  refine zti (zsub _ (by omega)) ?_
  refine zLald hx hb hK hP 4 3 rfl rfl (by omega) (by decide) dM_isDone_193 ?_
  refine lv_goto (tgt := 198) hx hb dM_isDone_194 rfl ?_
  refine lv_lstore hx hb dM_isDone_198 hl (by decide) rfl (fun ls hl => ?_)
  have hl : lv_has ls 14 [(10, .long (st (d - 1))), (9, .int (nI 2)), (8, .int (nI 0)), (4, .int (nI pl)), (6, .long x), (5, .int (nI 9)), (0, .ref (A 0)), (1, .int (nI w)), (2, .long key)] := hl
  refine lv_iload hx hb dM_isDone_200 (lv_at hl 1 rfl) ?_
  refine lv_iconst (v := nI 1) hx hb dM_isDone_202 (by decide) ?_
  refine zc_le (tgt := 220) hx hb dM_isDone_203 rfl (by omega) (by omega) (fun q => absurd q (by omega)) (fun _ => ?_)
  refine lv_aload_n hx hb dM_isDone_206 rfl (lv_at hl 6 rfl) ?_
  refine zGetM hx hb hw hown hK hP 0 rfl 3 (by decide) wf_M_20 rfl dM_isDone_207 ?_
  refine lv_aload_n hx hb dM_isDone_210 rfl (lv_at hl 6 rfl) ?_
  refine zGetM hx hb hw hown hK hP 0 rfl 10 (by decide) wf_M_49 rfl dM_isDone_211 ?_
  refine lv_iconst (v := nI 2) hx hb dM_isDone_214 (by decide) ?_
  refine lv_isub hx hb dM_isDone_215 ?_
  refine zti (zsub _ (by omega)) ?_
  refine zLald hx hb hK hP 4 3 rfl rfl (by omega) (by decide) dM_isDone_216 ?_
  refine lv_goto (tgt := 221) hx hb dM_isDone_217 rfl ?_
  refine lv_lstore hx hb dM_isDone_221 hl (by decide) rfl (fun ls hl => ?_)
  have hl : lv_has ls 14 [(12, .long (st (d - 2))), (10, .long (st (d - 1))), (9, .int (nI 2)), (8, .int (nI 0)), (4, .int (nI pl)), (6, .long x), (5, .int (nI 9)), (0, .ref (A 0)), (1, .int (nI w)), (2, .long key)] := hl
  refine lv_iload hx hb dM_isDone_223 (lv_at hl 6 rfl) ?_
  refine lv_bipush (v := nI 18) hx hb dM_isDone_225 (by decide) ?_
  refine zc_ne (tgt := 232) hx hb dM_isDone_227 rfl (by omega) (by omega) (fun _ => ?_) (fun q => absurd q (by omega))
  refine lv_iload hx hb dM_isDone_232 (lv_at hl 6 rfl) ?_
  refine lv_iconst (v := nI 2) hx hb dM_isDone_234 (by decide) ?_
  refine zc_ne (tgt := 265) hx hb dM_isDone_235 rfl (by omega) (by omega) (fun _ => ?_) (fun q => absurd q (by omega))
  refine lv_iload hx hb dM_isDone_265 (lv_at hl 6 rfl) ?_
  refine lv_bipush (v := nI 9) hx hb dM_isDone_267 (by decide) ?_
  refine zc_ne (tgt := 279) hx hb dM_isDone_269 rfl (by omega) (by omega) (fun q => absurd q (by omega)) (fun _ => ?_)
  refine lv_lload hx hb dM_isDone_272 (lv_at hl 1 rfl) ?_
  refine lv_lconst (v := 0) hx hb dM_isDone_274 (by decide) ?_
  refine W.lcmp hx hb dM_isDone_275 ?_
  refine zl_eq (tgt := 294) hx hb dM_isDone_276 rfl (fun _ => ?_) (fun q => absurd q (by exact fun q => q hy))
  refine lv_iconst (v := nI 0) hx hb dM_isDone_294 (by decide) ?_
  exact kk _ _ dM_isDone_295
set_option maxRecDepth 20000 in
set_option maxHeartbeats 4000000 in
theorem mT12f {p : Program} {l : Launch} {e : Env} {s : State} {m : MethodId} {args : Array Value} {below : List Frame} {meth : Method} {c : Code} {F : Nat → Prop} {D : va_G} {A : Nat → Nat} {C : Nat → ClassId} (hx : p.tables.exec = Jvm.exec) (hb : c.code = cM_isDone) (hr : meth.sig.returnType = (some .boolean)) (hlk : meth.locks = false) (hml : c.maxLocals = 14) (hw : ∀ w ∈ WS, w.before args s = true) (hown : s.vm.findClass RM = some m.cls) (hK : va_K D vwCl (mT C) s) (hA : ∀ q, s.heap.size ≤ q → F q) {Q : State → Prop} {ls : Array Slot} {H : Heap} {locs : List Loc} {ops : Nat → Int32} {nums vals st ce pk pv : Nat → Int64} {n vc sp d pr tk th tr : Nat} {w pl : Nat} {key x : Int64} (hd : d ≤ 12) (hw2 : w ≤ 2) (hvc : vc ≤ 40) (htk : tk ≤ vc) (hpr : pr ≤ 4) (hpl : pl ≤ 40) (hf : d = 12) (hP : va_P D vwCl (mW A C ops nums vals st ce pk pv n vc sp d pr tk th tr) H) (hD : va_D F (mW A C ops nums vals st ce pk pv n vc sp d pr tk th tr)) (hS : va_S F s.heap H locs) (hl : lv_has ls 14 [(4, .int (nI pl)), (6, .long x), (5, .int (nI 12)), (0, .ref (A 0)), (1, .int (nI w)), (2, .long key)]) (kk : ∀ (pc : Nat) (ls : Array Slot), decode cM_isDone pc = .ok (.ireturn, 1) → W p l e (rmk 0 0) s m args below meth c H locs 0 0 Q (F0 m pc ls [.int (nI 0)])) : W p l e (rmk 0 0) s m args below meth c H locs 0 0 Q (F0 m 55 ls []) := by
  refine lv_iload hx hb dM_isDone_55 (lv_at hl 2 rfl) ?_
  refine lv_iconst (v := nI 4) hx hb dM_isDone_57 (by decide) ?_
  refine zc_le (tgt := 68) hx hb dM_isDone_58 rfl (by omega) (by omega) (fun q => absurd q (by omega)) (fun _ => ?_)
  refine lv_iload hx hb dM_isDone_61 (lv_at hl 2 rfl) ?_
  refine lv_bipush (v := nI 12) hx hb dM_isDone_63 (by decide) ?_
  refine zc_ne (tgt := 72) hx hb dM_isDone_65 rfl (by omega) (by omega) (fun q => absurd q (by omega)) (fun _ => ?_)
  refine lv_iconst (v := nI 1) hx hb dM_isDone_68 (by decide) ?_
  refine lv_goto (tgt := 73) hx hb dM_isDone_69 rfl ?_
  refine lv_istore hx hb dM_isDone_73 hl (by decide) rfl (fun ls hl => ?_)
  have hl : lv_has ls 14 [(8, .int (nI 1)), (4, .int (nI pl)), (6, .long x), (5, .int (nI 12)), (0, .ref (A 0)), (1, .int (nI w)), (2, .long key)] := hl
  refine lv_iload hx hb dM_isDone_75 (lv_at hl 3 rfl) ?_
  refine lv_bipush (v := nI 6) hx hb dM_isDone_77 (by decide) ?_
  refine zc_lt (tgt := 89) hx hb dM_isDone_79 rfl (by omega) (by omega) (fun q => absurd q (by omega)) (fun _ => ?_)
  refine lv_iload hx hb dM_isDone_82 (lv_at hl 3 rfl) ?_
  refine lv_bipush (v := nI 11) hx hb dM_isDone_84 (by decide) ?_
  refine zc_le (tgt := 108) hx hb dM_isDone_86 rfl (by omega) (by omega) (fun q => absurd q (by omega)) (fun _ => ?_)
  refine lv_iload hx hb dM_isDone_89 (lv_at hl 3 rfl) ?_
  refine lv_bipush (v := nI 14) hx hb dM_isDone_91 (by decide) ?_
  refine zc_eq (tgt := 108) hx hb dM_isDone_93 rfl (by omega) (by omega) (fun q => absurd q (by omega)) (fun _ => ?_)
  refine lv_iload hx hb dM_isDone_96 (lv_at hl 3 rfl) ?_
  refine lv_bipush (v := nI 17) hx hb dM_isDone_98 (by decide) ?_
  refine zc_ne (tgt := 112) hx hb dM_isDone_100 rfl (by omega) (by omega) (fun _ => ?_) (fun q => absurd q (by omega))
  refine lv_iload hx hb dM_isDone_112 (lv_at hl 3 rfl) ?_
  refine lv_iconst (v := nI 5) hx hb dM_isDone_114 (by decide) ?_
  refine zc_eq (tgt := 146) hx hb dM_isDone_115 rfl (by omega) (by omega) (fun q => absurd q (by omega)) (fun _ => ?_)
  refine lv_iload hx hb dM_isDone_118 (lv_at hl 3 rfl) ?_
  refine lv_bipush (v := nI 12) hx hb dM_isDone_120 (by decide) ?_
  refine zc_eq (tgt := 146) hx hb dM_isDone_122 rfl (by omega) (by omega) (fun _ => ?_) (fun q => absurd q (by omega))
  refine lv_iconst (v := nI 1) hx hb dM_isDone_146 (by decide) ?_
  refine lv_goto (tgt := 151) hx hb dM_isDone_147 rfl ?_
  refine lv_istore hx hb dM_isDone_151 hl (by decide) rfl (fun ls hl => ?_)
  have hl : lv_has ls 14 [(9, .int (nI 1)), (8, .int (nI 1)), (4, .int (nI pl)), (6, .long x), (5, .int (nI 12)), (0, .ref (A 0)), (1, .int (nI w)), (2, .long key)] := hl
  refine lv_aload_n hx hb dM_isDone_153 rfl (lv_at hl 5 rfl) ?_
  refine zGetM hx hb hw hown hK hP 0 rfl 10 (by decide) wf_M_49 rfl dM_isDone_154 ?_
  refine lv_iload hx hb dM_isDone_157 (lv_at hl 0 rfl) ?_
  refine zc_lt (tgt := 176) hx hb dM_isDone_159 rfl (by omega) (by omega) (fun q => absurd q (by omega)) (fun _ => ?_)
  refine lv_iload hx hb dM_isDone_162 (lv_at hl 1 rfl) ?_
  refine zi_eq (tgt := 178) hx hb dM_isDone_164 rfl (by omega) (fun q => absurd q (by omega)) (fun _ => ?_)
  refine lv_aload_n hx hb dM_isDone_167 rfl (lv_at hl 5 rfl) ?_
  refine zGetM hx hb hw hown hK hP 0 rfl 10 (by decide) wf_M_49 rfl dM_isDone_168 ?_
  refine lv_bipush (v := nI 12) hx hb dM_isDone_171 (by decide) ?_
  refine zc_ne (tgt := 178) hx hb dM_isDone_173 rfl (by omega) (by omega) (fun q => absurd q (by omega)) (fun _ => ?_)
  refine lv_iconst (v := nI 0) hx hb dM_isDone_176 (by decide) ?_
  exact kk _ _ dM_isDone_177
set_option maxRecDepth 20000 in
set_option maxHeartbeats 4000000 in
theorem mT17a {p : Program} {l : Launch} {e : Env} {s : State} {m : MethodId} {args : Array Value} {below : List Frame} {meth : Method} {c : Code} {F : Nat → Prop} {D : va_G} {A : Nat → Nat} {C : Nat → ClassId} (hx : p.tables.exec = Jvm.exec) (hb : c.code = cM_isDone) (hr : meth.sig.returnType = (some .boolean)) (hlk : meth.locks = false) (hml : c.maxLocals = 14) (hw : ∀ w ∈ WS, w.before args s = true) (hown : s.vm.findClass RM = some m.cls) (hK : va_K D vwCl (mT C) s) (hA : ∀ q, s.heap.size ≤ q → F q) {Q : State → Prop} {ls : Array Slot} {H : Heap} {locs : List Loc} {ops : Nat → Int32} {nums vals st ce pk pv : Nat → Int64} {n vc sp d pr tk th tr : Nat} {w pl : Nat} {key x : Int64} (hd : d ≤ 12) (hw2 : w ≤ 2) (hvc : vc ≤ 40) (htk : tk ≤ vc) (hpr : pr ≤ 4) (hpl : pl ≤ 40) (h0 : d = 0) (hP : va_P D vwCl (mW A C ops nums vals st ce pk pv n vc sp d pr tk th tr) H) (hD : va_D F (mW A C ops nums vals st ce pk pv n vc sp d pr tk th tr)) (hS : va_S F s.heap H locs) (hl : lv_has ls 14 [(4, .int (nI pl)), (6, .long x), (5, .int (nI 17)), (0, .ref (A 0)), (1, .int (nI 1)), (2, .long key)]) (kk : ∀ (pc : Nat) (ls : Array Slot), decode cM_isDone pc = .ok (.ireturn, 1) → W p l e (rmk 0 0) s m args below meth c H locs 0 0 Q (F0 m pc ls [.int (nI 0)])) : W p l e (rmk 0 0) s m args below meth c H locs 0 0 Q (F0 m 55 ls []) := by
  refine lv_iload hx hb dM_isDone_55 (lv_at hl 2 rfl) ?_
  refine lv_iconst (v := nI 4) hx hb dM_isDone_57 (by decide) ?_
  refine zc_le (tgt := 68) hx hb dM_isDone_58 rfl (by omega) (by omega) (fun q => absurd q (by omega)) (fun _ => ?_)
  refine lv_iload hx hb dM_isDone_61 (lv_at hl 2 rfl) ?_
  refine lv_bipush (v := nI 12) hx hb dM_isDone_63 (by decide) ?_
  refine zc_ne (tgt := 72) hx hb dM_isDone_65 rfl (by omega) (by omega) (fun _ => ?_) (fun q => absurd q (by omega))
  refine lv_iconst (v := nI 0) hx hb dM_isDone_72 (by decide) ?_
  refine lv_istore hx hb dM_isDone_73 hl (by decide) rfl (fun ls hl => ?_)
  have hl : lv_has ls 14 [(8, .int (nI 0)), (4, .int (nI pl)), (6, .long x), (5, .int (nI 17)), (0, .ref (A 0)), (1, .int (nI 1)), (2, .long key)] := hl
  refine lv_iload hx hb dM_isDone_75 (lv_at hl 3 rfl) ?_
  refine lv_bipush (v := nI 6) hx hb dM_isDone_77 (by decide) ?_
  refine zc_lt (tgt := 89) hx hb dM_isDone_79 rfl (by omega) (by omega) (fun q => absurd q (by omega)) (fun _ => ?_)
  refine lv_iload hx hb dM_isDone_82 (lv_at hl 3 rfl) ?_
  refine lv_bipush (v := nI 11) hx hb dM_isDone_84 (by decide) ?_
  refine zc_le (tgt := 108) hx hb dM_isDone_86 rfl (by omega) (by omega) (fun q => absurd q (by omega)) (fun _ => ?_)
  refine lv_iload hx hb dM_isDone_89 (lv_at hl 3 rfl) ?_
  refine lv_bipush (v := nI 14) hx hb dM_isDone_91 (by decide) ?_
  refine zc_eq (tgt := 108) hx hb dM_isDone_93 rfl (by omega) (by omega) (fun q => absurd q (by omega)) (fun _ => ?_)
  refine lv_iload hx hb dM_isDone_96 (lv_at hl 3 rfl) ?_
  refine lv_bipush (v := nI 17) hx hb dM_isDone_98 (by decide) ?_
  refine zc_ne (tgt := 112) hx hb dM_isDone_100 rfl (by omega) (by omega) (fun q => absurd q (by omega)) (fun _ => ?_)
  refine lv_iload_n hx hb dM_isDone_103 rfl (lv_at hl 5 rfl) ?_
  refine lv_iconst (v := nI 1) hx hb dM_isDone_104 (by decide) ?_
  refine zc_eq (tgt := 112) hx hb dM_isDone_105 rfl (by omega) (by omega) (fun _ => ?_) (fun q => absurd q (by omega))
  refine lv_iload hx hb dM_isDone_112 (lv_at hl 3 rfl) ?_
  refine lv_iconst (v := nI 5) hx hb dM_isDone_114 (by decide) ?_
  refine zc_eq (tgt := 146) hx hb dM_isDone_115 rfl (by omega) (by omega) (fun q => absurd q (by omega)) (fun _ => ?_)
  refine lv_iload hx hb dM_isDone_118 (lv_at hl 3 rfl) ?_
  refine lv_bipush (v := nI 12) hx hb dM_isDone_120 (by decide) ?_
  refine zc_eq (tgt := 146) hx hb dM_isDone_122 rfl (by omega) (by omega) (fun q => absurd q (by omega)) (fun _ => ?_)
  refine lv_iload hx hb dM_isDone_125 (lv_at hl 3 rfl) ?_
  refine lv_bipush (v := nI 13) hx hb dM_isDone_127 (by decide) ?_
  refine zc_eq (tgt := 146) hx hb dM_isDone_129 rfl (by omega) (by omega) (fun q => absurd q (by omega)) (fun _ => ?_)
  refine lv_iload hx hb dM_isDone_132 (lv_at hl 3 rfl) ?_
  refine lv_bipush (v := nI 16) hx hb dM_isDone_134 (by decide) ?_
  refine zc_eq (tgt := 146) hx hb dM_isDone_136 rfl (by omega) (by omega) (fun q => absurd q (by omega)) (fun _ => ?_)
  refine lv_iload hx hb dM_isDone_139 (lv_at hl 3 rfl) ?_
  refine lv_bipush (v := nI 17) hx hb dM_isDone_141 (by decide) ?_
  refine zc_ne (tgt := 150) hx hb dM_isDone_143 rfl (by omega) (by omega) (fun q => absurd q (by omega)) (fun _ => ?_)
  refine lv_iconst (v := nI 1) hx hb dM_isDone_146 (by decide) ?_
  refine lv_goto (tgt := 151) hx hb dM_isDone_147 rfl ?_
  refine lv_istore hx hb dM_isDone_151 hl (by decide) rfl (fun ls hl => ?_)
  have hl : lv_has ls 14 [(9, .int (nI 1)), (8, .int (nI 0)), (4, .int (nI pl)), (6, .long x), (5, .int (nI 17)), (0, .ref (A 0)), (1, .int (nI 1)), (2, .long key)] := hl
  refine lv_aload_n hx hb dM_isDone_153 rfl (lv_at hl 5 rfl) ?_
  refine zGetM hx hb hw hown hK hP 0 rfl 10 (by decide) wf_M_49 rfl dM_isDone_154 ?_
  refine lv_iload hx hb dM_isDone_157 (lv_at hl 0 rfl) ?_
  refine zc_lt (tgt := 176) hx hb dM_isDone_159 rfl (by omega) (by omega) (fun _ => ?_) (fun q => absurd q (by omega))
  refine lv_iconst (v := nI 0) hx hb dM_isDone_176 (by decide) ?_
  exact kk _ _ dM_isDone_177
set_option maxRecDepth 20000 in
set_option maxHeartbeats 4000000 in
theorem mT17b {p : Program} {l : Launch} {e : Env} {s : State} {m : MethodId} {args : Array Value} {below : List Frame} {meth : Method} {c : Code} {F : Nat → Prop} {D : va_G} {A : Nat → Nat} {C : Nat → ClassId} (hx : p.tables.exec = Jvm.exec) (hb : c.code = cM_isDone) (hr : meth.sig.returnType = (some .boolean)) (hlk : meth.locks = false) (hml : c.maxLocals = 14) (hw : ∀ w ∈ WS, w.before args s = true) (hown : s.vm.findClass RM = some m.cls) (hK : va_K D vwCl (mT C) s) (hA : ∀ q, s.heap.size ≤ q → F q) {Q : State → Prop} {ls : Array Slot} {H : Heap} {locs : List Loc} {ops : Nat → Int32} {nums vals st ce pk pv : Nat → Int64} {n vc sp d pr tk th tr : Nat} {w pl : Nat} {key x : Int64} (hd : d ≤ 12) (hw2 : w ≤ 2) (hvc : vc ≤ 40) (htk : tk ≤ vc) (hpr : pr ≤ 4) (hpl : pl ≤ 40) (h0 : d < 2) (hw1 : w ≠ 1) (hP : va_P D vwCl (mW A C ops nums vals st ce pk pv n vc sp d pr tk th tr) H) (hD : va_D F (mW A C ops nums vals st ce pk pv n vc sp d pr tk th tr)) (hS : va_S F s.heap H locs) (hl : lv_has ls 14 [(4, .int (nI pl)), (6, .long x), (5, .int (nI 17)), (0, .ref (A 0)), (1, .int (nI w)), (2, .long key)]) (kk : ∀ (pc : Nat) (ls : Array Slot), decode cM_isDone pc = .ok (.ireturn, 1) → W p l e (rmk 0 0) s m args below meth c H locs 0 0 Q (F0 m pc ls [.int (nI 0)])) : W p l e (rmk 0 0) s m args below meth c H locs 0 0 Q (F0 m 55 ls []) := by
  refine lv_iload hx hb dM_isDone_55 (lv_at hl 2 rfl) ?_
  refine lv_iconst (v := nI 4) hx hb dM_isDone_57 (by decide) ?_
  refine zc_le (tgt := 68) hx hb dM_isDone_58 rfl (by omega) (by omega) (fun q => absurd q (by omega)) (fun _ => ?_)
  refine lv_iload hx hb dM_isDone_61 (lv_at hl 2 rfl) ?_
  refine lv_bipush (v := nI 12) hx hb dM_isDone_63 (by decide) ?_
  refine zc_ne (tgt := 72) hx hb dM_isDone_65 rfl (by omega) (by omega) (fun _ => ?_) (fun q => absurd q (by omega))
  refine lv_iconst (v := nI 0) hx hb dM_isDone_72 (by decide) ?_
  refine lv_istore hx hb dM_isDone_73 hl (by decide) rfl (fun ls hl => ?_)
  have hl : lv_has ls 14 [(8, .int (nI 0)), (4, .int (nI pl)), (6, .long x), (5, .int (nI 17)), (0, .ref (A 0)), (1, .int (nI w)), (2, .long key)] := hl
  refine lv_iload hx hb dM_isDone_75 (lv_at hl 3 rfl) ?_
  refine lv_bipush (v := nI 6) hx hb dM_isDone_77 (by decide) ?_
  refine zc_lt (tgt := 89) hx hb dM_isDone_79 rfl (by omega) (by omega) (fun q => absurd q (by omega)) (fun _ => ?_)
  refine lv_iload hx hb dM_isDone_82 (lv_at hl 3 rfl) ?_
  refine lv_bipush (v := nI 11) hx hb dM_isDone_84 (by decide) ?_
  refine zc_le (tgt := 108) hx hb dM_isDone_86 rfl (by omega) (by omega) (fun q => absurd q (by omega)) (fun _ => ?_)
  refine lv_iload hx hb dM_isDone_89 (lv_at hl 3 rfl) ?_
  refine lv_bipush (v := nI 14) hx hb dM_isDone_91 (by decide) ?_
  refine zc_eq (tgt := 108) hx hb dM_isDone_93 rfl (by omega) (by omega) (fun q => absurd q (by omega)) (fun _ => ?_)
  refine lv_iload hx hb dM_isDone_96 (lv_at hl 3 rfl) ?_
  refine lv_bipush (v := nI 17) hx hb dM_isDone_98 (by decide) ?_
  refine zc_ne (tgt := 112) hx hb dM_isDone_100 rfl (by omega) (by omega) (fun q => absurd q (by omega)) (fun _ => ?_)
  refine lv_iload_n hx hb dM_isDone_103 rfl (lv_at hl 5 rfl) ?_
  refine lv_iconst (v := nI 1) hx hb dM_isDone_104 (by decide) ?_
  refine zc_eq (tgt := 112) hx hb dM_isDone_105 rfl (by omega) (by omega) (fun q => absurd q (by omega)) (fun _ => ?_)
  refine lv_iconst (v := nI 2) hx hb dM_isDone_108 (by decide) ?_
  refine lv_goto (tgt := 151) hx hb dM_isDone_109 rfl ?_
  refine lv_istore hx hb dM_isDone_151 hl (by decide) rfl (fun ls hl => ?_)
  have hl : lv_has ls 14 [(9, .int (nI 2)), (8, .int (nI 0)), (4, .int (nI pl)), (6, .long x), (5, .int (nI 17)), (0, .ref (A 0)), (1, .int (nI w)), (2, .long key)] := hl
  refine lv_aload_n hx hb dM_isDone_153 rfl (lv_at hl 5 rfl) ?_
  refine zGetM hx hb hw hown hK hP 0 rfl 10 (by decide) wf_M_49 rfl dM_isDone_154 ?_
  refine lv_iload hx hb dM_isDone_157 (lv_at hl 0 rfl) ?_
  refine zc_lt (tgt := 176) hx hb dM_isDone_159 rfl (by omega) (by omega) (fun _ => ?_) (fun q => absurd q (by omega))
  refine lv_iconst (v := nI 0) hx hb dM_isDone_176 (by decide) ?_
  exact kk _ _ dM_isDone_177
set_option maxRecDepth 20000 in
set_option maxHeartbeats 4000000 in
theorem mT17af {p : Program} {l : Launch} {e : Env} {s : State} {m : MethodId} {args : Array Value} {below : List Frame} {meth : Method} {c : Code} {F : Nat → Prop} {D : va_G} {A : Nat → Nat} {C : Nat → ClassId} (hx : p.tables.exec = Jvm.exec) (hb : c.code = cM_isDone) (hr : meth.sig.returnType = (some .boolean)) (hlk : meth.locks = false) (hml : c.maxLocals = 14) (hw : ∀ w ∈ WS, w.before args s = true) (hown : s.vm.findClass RM = some m.cls) (hK : va_K D vwCl (mT C) s) (hA : ∀ q, s.heap.size ≤ q → F q) {Q : State → Prop} {ls : Array Slot} {H : Heap} {locs : List Loc} {ops : Nat → Int32} {nums vals st ce pk pv : Nat → Int64} {n vc sp d pr tk th tr : Nat} {w pl : Nat} {key x : Int64} (hd : d ≤ 12) (hw2 : w ≤ 2) (hvc : vc ≤ 40) (htk : tk ≤ vc) (hpr : pr ≤ 4) (hpl : pl ≤ 40) (h1 : 1 ≤ d) (hp : pr = 4) (hP : va_P D vwCl (mW A C ops nums vals st ce pk pv n vc sp d pr tk th tr) H) (hD : va_D F (mW A C ops nums vals st ce pk pv n vc sp d pr tk th tr)) (hS : va_S F s.heap H locs) (hl : lv_has ls 14 [(4, .int (nI pl)), (6, .long x), (5, .int (nI 17)), (0, .ref (A 0)), (1, .int (nI 1)), (2, .long key)]) (kk : ∀ (pc : Nat) (ls : Array Slot), decode cM_isDone pc = .ok (.ireturn, 1) → W p l e (rmk 0 0) s m args below meth c H locs 0 0 Q (F0 m pc ls [.int (nI 0)])) : W p l e (rmk 0 0) s m args below meth c H locs 0 0 Q (F0 m 55 ls []) := by
  refine lv_iload hx hb dM_isDone_55 (lv_at hl 2 rfl) ?_
  refine lv_iconst (v := nI 4) hx hb dM_isDone_57 (by decide) ?_
  refine zc_le (tgt := 68) hx hb dM_isDone_58 rfl (by omega) (by omega) (fun q => absurd q (by omega)) (fun _ => ?_)
  refine lv_iload hx hb dM_isDone_61 (lv_at hl 2 rfl) ?_
  refine lv_bipush (v := nI 12) hx hb dM_isDone_63 (by decide) ?_
  refine zc_ne (tgt := 72) hx hb dM_isDone_65 rfl (by omega) (by omega) (fun _ => ?_) (fun q => absurd q (by omega))
  refine lv_iconst (v := nI 0) hx hb dM_isDone_72 (by decide) ?_
  refine lv_istore hx hb dM_isDone_73 hl (by decide) rfl (fun ls hl => ?_)
  have hl : lv_has ls 14 [(8, .int (nI 0)), (4, .int (nI pl)), (6, .long x), (5, .int (nI 17)), (0, .ref (A 0)), (1, .int (nI 1)), (2, .long key)] := hl
  refine lv_iload hx hb dM_isDone_75 (lv_at hl 3 rfl) ?_
  refine lv_bipush (v := nI 6) hx hb dM_isDone_77 (by decide) ?_
  refine zc_lt (tgt := 89) hx hb dM_isDone_79 rfl (by omega) (by omega) (fun q => absurd q (by omega)) (fun _ => ?_)
  refine lv_iload hx hb dM_isDone_82 (lv_at hl 3 rfl) ?_
  refine lv_bipush (v := nI 11) hx hb dM_isDone_84 (by decide) ?_
  refine zc_le (tgt := 108) hx hb dM_isDone_86 rfl (by omega) (by omega) (fun q => absurd q (by omega)) (fun _ => ?_)
  refine lv_iload hx hb dM_isDone_89 (lv_at hl 3 rfl) ?_
  refine lv_bipush (v := nI 14) hx hb dM_isDone_91 (by decide) ?_
  refine zc_eq (tgt := 108) hx hb dM_isDone_93 rfl (by omega) (by omega) (fun q => absurd q (by omega)) (fun _ => ?_)
  refine lv_iload hx hb dM_isDone_96 (lv_at hl 3 rfl) ?_
  refine lv_bipush (v := nI 17) hx hb dM_isDone_98 (by decide) ?_
  refine zc_ne (tgt := 112) hx hb dM_isDone_100 rfl (by omega) (by omega) (fun q => absurd q (by omega)) (fun _ => ?_)
  refine lv_iload_n hx hb dM_isDone_103 rfl (lv_at hl 5 rfl) ?_
  refine lv_iconst (v := nI 1) hx hb dM_isDone_104 (by decide) ?_
  refine zc_eq (tgt := 112) hx hb dM_isDone_105 rfl (by omega) (by omega) (fun _ => ?_) (fun q => absurd q (by omega))
  refine lv_iload hx hb dM_isDone_112 (lv_at hl 3 rfl) ?_
  refine lv_iconst (v := nI 5) hx hb dM_isDone_114 (by decide) ?_
  refine zc_eq (tgt := 146) hx hb dM_isDone_115 rfl (by omega) (by omega) (fun q => absurd q (by omega)) (fun _ => ?_)
  refine lv_iload hx hb dM_isDone_118 (lv_at hl 3 rfl) ?_
  refine lv_bipush (v := nI 12) hx hb dM_isDone_120 (by decide) ?_
  refine zc_eq (tgt := 146) hx hb dM_isDone_122 rfl (by omega) (by omega) (fun q => absurd q (by omega)) (fun _ => ?_)
  refine lv_iload hx hb dM_isDone_125 (lv_at hl 3 rfl) ?_
  refine lv_bipush (v := nI 13) hx hb dM_isDone_127 (by decide) ?_
  refine zc_eq (tgt := 146) hx hb dM_isDone_129 rfl (by omega) (by omega) (fun q => absurd q (by omega)) (fun _ => ?_)
  refine lv_iload hx hb dM_isDone_132 (lv_at hl 3 rfl) ?_
  refine lv_bipush (v := nI 16) hx hb dM_isDone_134 (by decide) ?_
  refine zc_eq (tgt := 146) hx hb dM_isDone_136 rfl (by omega) (by omega) (fun q => absurd q (by omega)) (fun _ => ?_)
  refine lv_iload hx hb dM_isDone_139 (lv_at hl 3 rfl) ?_
  refine lv_bipush (v := nI 17) hx hb dM_isDone_141 (by decide) ?_
  refine zc_ne (tgt := 150) hx hb dM_isDone_143 rfl (by omega) (by omega) (fun q => absurd q (by omega)) (fun _ => ?_)
  refine lv_iconst (v := nI 1) hx hb dM_isDone_146 (by decide) ?_
  refine lv_goto (tgt := 151) hx hb dM_isDone_147 rfl ?_
  refine lv_istore hx hb dM_isDone_151 hl (by decide) rfl (fun ls hl => ?_)
  have hl : lv_has ls 14 [(9, .int (nI 1)), (8, .int (nI 0)), (4, .int (nI pl)), (6, .long x), (5, .int (nI 17)), (0, .ref (A 0)), (1, .int (nI 1)), (2, .long key)] := hl
  refine lv_aload_n hx hb dM_isDone_153 rfl (lv_at hl 5 rfl) ?_
  refine zGetM hx hb hw hown hK hP 0 rfl 10 (by decide) wf_M_49 rfl dM_isDone_154 ?_
  refine lv_iload hx hb dM_isDone_157 (lv_at hl 0 rfl) ?_
  refine zc_lt (tgt := 176) hx hb dM_isDone_159 rfl (by omega) (by omega) (fun q => absurd q (by omega)) (fun _ => ?_)
  refine lv_iload hx hb dM_isDone_162 (lv_at hl 1 rfl) ?_
  refine zi_eq (tgt := 178) hx hb dM_isDone_164 rfl (by omega) (fun _ => ?_) (fun q => absurd q (by omega))
  refine lv_iload hx hb dM_isDone_178 (lv_at hl 0 rfl) ?_
  refine zi_le (tgt := 197) hx hb dM_isDone_180 rfl (by omega) (fun q => absurd q (by omega)) (fun _ => ?_)
  refine lv_aload_n hx hb dM_isDone_183 rfl (lv_at hl 5 rfl) ?_
  refine zGetM hx hb hw hown hK hP 0 rfl 3 (by decide) wf_M_20 rfl dM_isDone_184 ?_
  refine lv_aload_n hx hb dM_isDone_187 rfl (lv_at hl 5 rfl) ?_
  refine zGetM hx hb hw hown hK hP 0 rfl 10 (by decide) wf_M_49 rfl dM_isDone_188 ?_
  refine lv_iconst (v := nI 1) hx hb dM_isDone_191 (by decide) ?_
  refine lv_isub hx hb dM_isDone_192 ?_
  refine zti (zsub _ (by omega)) ?_
  refine zLald hx hb hK hP 4 3 rfl rfl (by omega) (by decide) dM_isDone_193 ?_
  refine lv_goto (tgt := 198) hx hb dM_isDone_194 rfl ?_
  refine lv_lstore hx hb dM_isDone_198 hl (by decide) rfl (fun ls hl => ?_)
  have hl : lv_has ls 14 [(10, .long (st (d - 1))), (9, .int (nI 1)), (8, .int (nI 0)), (4, .int (nI pl)), (6, .long x), (5, .int (nI 17)), (0, .ref (A 0)), (1, .int (nI 1)), (2, .long key)] := hl
  refine lv_iload hx hb dM_isDone_200 (lv_at hl 1 rfl) ?_
  refine lv_iconst (v := nI 1) hx hb dM_isDone_202 (by decide) ?_
  refine zc_le (tgt := 220) hx hb dM_isDone_203 rfl (by omega) (by omega) (fun _ => ?_) (fun q => absurd q (by omega))
  refine lv_lconst (v := 0) hx hb dM_isDone_220 (by decide) ?_
  refine lv_lstore hx hb dM_isDone_221 hl (by decide) rfl (fun ls hl => ?_)
  have hl : lv_has ls 14 [(12, .long (0 : Int64)), (10, .long (st (d - 1))), (9, .int (nI 1)), (8, .int (nI 0)), (4, .int (nI pl)), (6, .long x), (5, .int (nI 17)), (0, .ref (A 0)), (1, .int (nI 1)), (2, .long key)] := hl
  refine lv_iload hx hb dM_isDone_223 (lv_at hl 6 rfl) ?_
  refine lv_bipush (v := nI 18) hx hb dM_isDone_225 (by decide) ?_
  refine zc_ne (tgt := 232) hx hb dM_isDone_227 rfl (by omega) (by omega) (fun _ => ?_) (fun q => absurd q (by omega))
  refine lv_iload hx hb dM_isDone_232 (lv_at hl 6 rfl) ?_
  refine lv_iconst (v := nI 2) hx hb dM_isDone_234 (by decide) ?_
  refine zc_ne (tgt := 265) hx hb dM_isDone_235 rfl (by omega) (by omega) (fun _ => ?_) (fun q => absurd q (by omega))
  refine lv_iload hx hb dM_isDone_265 (lv_at hl 6 rfl) ?_
  refine lv_bipush (v := nI 9) hx hb dM_isDone_267 (by decide) ?_
  refine zc_ne (tgt := 279) hx hb dM_isDone_269 rfl (by omega) (by omega) (fun _ => ?_) (fun q => absurd q (by omega))
  refine lv_iload hx hb dM_isDone_279 (lv_at hl 6 rfl) ?_
  refine lv_bipush (v := nI 17) hx hb dM_isDone_281 (by decide) ?_
  refine zc_ne (tgt := 296) hx hb dM_isDone_283 rfl (by omega) (by omega) (fun q => absurd q (by omega)) (fun _ => ?_)
  refine lv_aload_n hx hb dM_isDone_286 rfl (lv_at hl 7 rfl) ?_
  refine zGetM hx hb hw hown hK hP 0 rfl 11 (by decide) wf_M_52 rfl dM_isDone_287 ?_
  refine lv_iconst (v := nI 4) hx hb dM_isDone_290 (by decide) ?_
  refine zc_ne (tgt := 296) hx hb dM_isDone_291 rfl (by omega) (by omega) (fun q => absurd q (by omega)) (fun _ => ?_)
  refine lv_iconst (v := nI 0) hx hb dM_isDone_294 (by decide) ?_
  exact kk _ _ dM_isDone_295
set_option maxRecDepth 20000 in
set_option maxHeartbeats 4000000 in
theorem mT17bf {p : Program} {l : Launch} {e : Env} {s : State} {m : MethodId} {args : Array Value} {below : List Frame} {meth : Method} {c : Code} {F : Nat → Prop} {D : va_G} {A : Nat → Nat} {C : Nat → ClassId} (hx : p.tables.exec = Jvm.exec) (hb : c.code = cM_isDone) (hr : meth.sig.returnType = (some .boolean)) (hlk : meth.locks = false) (hml : c.maxLocals = 14) (hw : ∀ w ∈ WS, w.before args s = true) (hown : s.vm.findClass RM = some m.cls) (hK : va_K D vwCl (mT C) s) (hA : ∀ q, s.heap.size ≤ q → F q) {Q : State → Prop} {ls : Array Slot} {H : Heap} {locs : List Loc} {ops : Nat → Int32} {nums vals st ce pk pv : Nat → Int64} {n vc sp d pr tk th tr : Nat} {w pl : Nat} {key x : Int64} (hd : d ≤ 12) (hw2 : w ≤ 2) (hvc : vc ≤ 40) (htk : tk ≤ vc) (hpr : pr ≤ 4) (hpl : pl ≤ 40) (h2 : 2 ≤ d) (hp : pr = 4) (hw1 : w ≠ 1) (hP : va_P D vwCl (mW A C ops nums vals st ce pk pv n vc sp d pr tk th tr) H) (hD : va_D F (mW A C ops nums vals st ce pk pv n vc sp d pr tk th tr)) (hS : va_S F s.heap H locs) (hl : lv_has ls 14 [(4, .int (nI pl)), (6, .long x), (5, .int (nI 17)), (0, .ref (A 0)), (1, .int (nI w)), (2, .long key)]) (kk : ∀ (pc : Nat) (ls : Array Slot), decode cM_isDone pc = .ok (.ireturn, 1) → W p l e (rmk 0 0) s m args below meth c H locs 0 0 Q (F0 m pc ls [.int (nI 0)])) : W p l e (rmk 0 0) s m args below meth c H locs 0 0 Q (F0 m 55 ls []) := by
  refine lv_iload hx hb dM_isDone_55 (lv_at hl 2 rfl) ?_
  refine lv_iconst (v := nI 4) hx hb dM_isDone_57 (by decide) ?_
  refine zc_le (tgt := 68) hx hb dM_isDone_58 rfl (by omega) (by omega) (fun q => absurd q (by omega)) (fun _ => ?_)
  refine lv_iload hx hb dM_isDone_61 (lv_at hl 2 rfl) ?_
  refine lv_bipush (v := nI 12) hx hb dM_isDone_63 (by decide) ?_
  refine zc_ne (tgt := 72) hx hb dM_isDone_65 rfl (by omega) (by omega) (fun _ => ?_) (fun q => absurd q (by omega))
  refine lv_iconst (v := nI 0) hx hb dM_isDone_72 (by decide) ?_
  refine lv_istore hx hb dM_isDone_73 hl (by decide) rfl (fun ls hl => ?_)
  have hl : lv_has ls 14 [(8, .int (nI 0)), (4, .int (nI pl)), (6, .long x), (5, .int (nI 17)), (0, .ref (A 0)), (1, .int (nI w)), (2, .long key)] := hl
  refine lv_iload hx hb dM_isDone_75 (lv_at hl 3 rfl) ?_
  refine lv_bipush (v := nI 6) hx hb dM_isDone_77 (by decide) ?_
  refine zc_lt (tgt := 89) hx hb dM_isDone_79 rfl (by omega) (by omega) (fun q => absurd q (by omega)) (fun _ => ?_)
  refine lv_iload hx hb dM_isDone_82 (lv_at hl 3 rfl) ?_
  refine lv_bipush (v := nI 11) hx hb dM_isDone_84 (by decide) ?_
  refine zc_le (tgt := 108) hx hb dM_isDone_86 rfl (by omega) (by omega) (fun q => absurd q (by omega)) (fun _ => ?_)
  refine lv_iload hx hb dM_isDone_89 (lv_at hl 3 rfl) ?_
  refine lv_bipush (v := nI 14) hx hb dM_isDone_91 (by decide) ?_
  refine zc_eq (tgt := 108) hx hb dM_isDone_93 rfl (by omega) (by omega) (fun q => absurd q (by omega)) (fun _ => ?_)
  refine lv_iload hx hb dM_isDone_96 (lv_at hl 3 rfl) ?_
  refine lv_bipush (v := nI 17) hx hb dM_isDone_98 (by decide) ?_
  refine zc_ne (tgt := 112) hx hb dM_isDone_100 rfl (by omega) (by omega) (fun q => absurd q (by omega)) (fun _ => ?_)
  refine lv_iload_n hx hb dM_isDone_103 rfl (lv_at hl 5 rfl) ?_
  refine lv_iconst (v := nI 1) hx hb dM_isDone_104 (by decide) ?_
  refine zc_eq (tgt := 112) hx hb dM_isDone_105 rfl (by omega) (by omega) (fun q => absurd q (by omega)) (fun _ => ?_)
  refine lv_iconst (v := nI 2) hx hb dM_isDone_108 (by decide) ?_
  refine lv_goto (tgt := 151) hx hb dM_isDone_109 rfl ?_
  refine lv_istore hx hb dM_isDone_151 hl (by decide) rfl (fun ls hl => ?_)
  have hl : lv_has ls 14 [(9, .int (nI 2)), (8, .int (nI 0)), (4, .int (nI pl)), (6, .long x), (5, .int (nI 17)), (0, .ref (A 0)), (1, .int (nI w)), (2, .long key)] := hl
  refine lv_aload_n hx hb dM_isDone_153 rfl (lv_at hl 5 rfl) ?_
  refine zGetM hx hb hw hown hK hP 0 rfl 10 (by decide) wf_M_49 rfl dM_isDone_154 ?_
  refine lv_iload hx hb dM_isDone_157 (lv_at hl 0 rfl) ?_
  refine zc_lt (tgt := 176) hx hb dM_isDone_159 rfl (by omega) (by omega) (fun q => absurd q (by omega)) (fun _ => ?_)
  refine lv_iload hx hb dM_isDone_162 (lv_at hl 1 rfl) ?_
  refine zi_eq (tgt := 178) hx hb dM_isDone_164 rfl (by omega) (fun _ => ?_) (fun q => absurd q (by omega))
  refine lv_iload hx hb dM_isDone_178 (lv_at hl 0 rfl) ?_
  refine zi_le (tgt := 197) hx hb dM_isDone_180 rfl (by omega) (fun q => absurd q (by omega)) (fun _ => ?_)
  refine lv_aload_n hx hb dM_isDone_183 rfl (lv_at hl 5 rfl) ?_
  refine zGetM hx hb hw hown hK hP 0 rfl 3 (by decide) wf_M_20 rfl dM_isDone_184 ?_
  refine lv_aload_n hx hb dM_isDone_187 rfl (lv_at hl 5 rfl) ?_
  refine zGetM hx hb hw hown hK hP 0 rfl 10 (by decide) wf_M_49 rfl dM_isDone_188 ?_
  refine lv_iconst (v := nI 1) hx hb dM_isDone_191 (by decide) ?_
  refine lv_isub hx hb dM_isDone_192 ?_
  refine zti (zsub _ (by omega)) ?_
  refine zLald hx hb hK hP 4 3 rfl rfl (by omega) (by decide) dM_isDone_193 ?_
  refine lv_goto (tgt := 198) hx hb dM_isDone_194 rfl ?_
  refine lv_lstore hx hb dM_isDone_198 hl (by decide) rfl (fun ls hl => ?_)
  have hl : lv_has ls 14 [(10, .long (st (d - 1))), (9, .int (nI 2)), (8, .int (nI 0)), (4, .int (nI pl)), (6, .long x), (5, .int (nI 17)), (0, .ref (A 0)), (1, .int (nI w)), (2, .long key)] := hl
  refine lv_iload hx hb dM_isDone_200 (lv_at hl 1 rfl) ?_
  refine lv_iconst (v := nI 1) hx hb dM_isDone_202 (by decide) ?_
  refine zc_le (tgt := 220) hx hb dM_isDone_203 rfl (by omega) (by omega) (fun q => absurd q (by omega)) (fun _ => ?_)
  refine lv_aload_n hx hb dM_isDone_206 rfl (lv_at hl 6 rfl) ?_
  refine zGetM hx hb hw hown hK hP 0 rfl 3 (by decide) wf_M_20 rfl dM_isDone_207 ?_
  refine lv_aload_n hx hb dM_isDone_210 rfl (lv_at hl 6 rfl) ?_
  refine zGetM hx hb hw hown hK hP 0 rfl 10 (by decide) wf_M_49 rfl dM_isDone_211 ?_
  refine lv_iconst (v := nI 2) hx hb dM_isDone_214 (by decide) ?_
  refine lv_isub hx hb dM_isDone_215 ?_
  refine zti (zsub _ (by omega)) ?_
  refine zLald hx hb hK hP 4 3 rfl rfl (by omega) (by decide) dM_isDone_216 ?_
  refine lv_goto (tgt := 221) hx hb dM_isDone_217 rfl ?_
  refine lv_lstore hx hb dM_isDone_221 hl (by decide) rfl (fun ls hl => ?_)
  have hl : lv_has ls 14 [(12, .long (st (d - 2))), (10, .long (st (d - 1))), (9, .int (nI 2)), (8, .int (nI 0)), (4, .int (nI pl)), (6, .long x), (5, .int (nI 17)), (0, .ref (A 0)), (1, .int (nI w)), (2, .long key)] := hl
  refine lv_iload hx hb dM_isDone_223 (lv_at hl 6 rfl) ?_
  refine lv_bipush (v := nI 18) hx hb dM_isDone_225 (by decide) ?_
  refine zc_ne (tgt := 232) hx hb dM_isDone_227 rfl (by omega) (by omega) (fun _ => ?_) (fun q => absurd q (by omega))
  refine lv_iload hx hb dM_isDone_232 (lv_at hl 6 rfl) ?_
  refine lv_iconst (v := nI 2) hx hb dM_isDone_234 (by decide) ?_
  refine zc_ne (tgt := 265) hx hb dM_isDone_235 rfl (by omega) (by omega) (fun _ => ?_) (fun q => absurd q (by omega))
  refine lv_iload hx hb dM_isDone_265 (lv_at hl 6 rfl) ?_
  refine lv_bipush (v := nI 9) hx hb dM_isDone_267 (by decide) ?_
  refine zc_ne (tgt := 279) hx hb dM_isDone_269 rfl (by omega) (by omega) (fun _ => ?_) (fun q => absurd q (by omega))
  refine lv_iload hx hb dM_isDone_279 (lv_at hl 6 rfl) ?_
  refine lv_bipush (v := nI 17) hx hb dM_isDone_281 (by decide) ?_
  refine zc_ne (tgt := 296) hx hb dM_isDone_283 rfl (by omega) (by omega) (fun q => absurd q (by omega)) (fun _ => ?_)
  refine lv_aload_n hx hb dM_isDone_286 rfl (lv_at hl 7 rfl) ?_
  refine zGetM hx hb hw hown hK hP 0 rfl 11 (by decide) wf_M_52 rfl dM_isDone_287 ?_
  refine lv_iconst (v := nI 4) hx hb dM_isDone_290 (by decide) ?_
  refine zc_ne (tgt := 296) hx hb dM_isDone_291 rfl (by omega) (by omega) (fun q => absurd q (by omega)) (fun _ => ?_)
  refine lv_iconst (v := nI 0) hx hb dM_isDone_294 (by decide) ?_
  exact kk _ _ dM_isDone_295
