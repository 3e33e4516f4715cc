/-! EmitDesk: its world by components; what its small methods do to them -/
abbrev rmk (f lo : Nat) : Room := { frames := f, cells := 0, slots := 0, locals := lo }
abbrev eW (A : Nat → Nat) (C : Nat → ClassId) (n : Nat) (ops : Nat → Int32) (nums : Nat → Int64) (vc : Nat) (vals : Nat → Int64) (d : Nat) (st ce pk pv : Nat → Int64) (pr w : Nat) (key : Int64) (pl dn tk tr : Nat) : va_W :=
  [(A 0, .inr (0, [.ref (A 1), .ref (A 2), .int (nI n), .ref (A 3), .int (nI vc), .ref (A 4), .int (nI d), .ref (A 5), .ref (A 6), .ref (A 7), .int (nI pr), .int (nI w), .long key, .int (nI pl), .int (nI dn), .int (nI tk), .int (nI tr)])),
   (A 1, .inl (C 1, 40, .inl ops)), (A 2, .inl (C 2, 40, .inr (.inl nums))), (A 3, .inl (C 3, 40, .inr (.inl vals))), (A 4, .inl (C 4, 12, .inr (.inl st))), (A 5, .inl (C 5, 4, .inr (.inl ce))), (A 6, .inl (C 6, 4, .inr (.inl pk))), (A 7, .inl (C 7, 4, .inr (.inl pv)))]
abbrev eT (C : Nat → ClassId) : List (ClassId × FieldType) := [(C 1, .int), (C 2, .long), (C 3, .long), (C 4, .long), (C 5, .long), (C 6, .long), (C 7, .long)]
section ZC0
variable {p : Program} {l : Launch} {e : Env} {R : Room} {s : State} {m : MethodId} {args : Array Value} {below : List Frame} {meth : Method} {c : Code} {H : Heap} {locs : List Loc} {cells slots : Nat} {Q : State → Prop}
variable {cc : ByteArray} {pc : Nat} {ls : Array Slot} {rest st0 : List Value} {D : va_G} {A : Nat → Prop} {tys : List (ClassId × FieldType)} {H0 : Heap} {w : va_W} {a : Array Value} {mc ms : Nat}
theorem zAftv0 {S : Type} {post : S → Prop} {w' : S → va_W} (hr : va_Run p l e R s m args below meth c H locs cells slots mc ms (F0 m pc ls st0) rest (va_Qv post (fun u t => zB D tys (va_A w H.size) (w' u) t) (va_A w H.size) a) (va_A w H.size)) (hP : va_P D vwCl w H) (hD : va_D A w) (hS : va_S A H0 H locs) (hA : ∀ q, H0.size ≤ q → A q)
    (kk : ∀ (u : S) (H1 : Heap) (locs1 : List Loc), post u → va_P D vwCl (w' u) H1 → va_D A (w' u) → va_S A H0 H1 locs1 → W p l e R s m args below meth c H1 locs1 (cells + mc) (slots + ms) Q (F0 m (pc + 3) ls rest)) : W p l e R s m args below meth c H locs cells slots Q (F0 m pc ls st0) :=
  zAftv (wa := []) (wb := []) hr (by simpa using hP) (by simpa using hD) hS hA (fun u H1 locs1 hp h1 h2 h3 => kk u H1 locs1 hp (by simpa using h1) (by simpa using h2) h3)
theorem zAfti0 {S : Type} {post : Int32 → S → Prop} {w' : S → va_W} (hr : va_Run p l e R s m args below meth c H locs cells slots mc ms (F0 m pc ls st0) rest (va_Qi post (fun u t => zB D tys (va_A w H.size) (w' u) t) (va_A w H.size) a) (va_A w H.size)) (hP : va_P D vwCl w H) (hD : va_D A w) (hS : va_S A H0 H locs) (hA : ∀ q, H0.size ≤ q → A q)
    (kk : ∀ (r : Int32) (u : S) (H1 : Heap) (locs1 : List Loc), post r u → va_P D vwCl (w' u) H1 → va_D A (w' u) → va_S A H0 H1 locs1 → W p l e R s m args below meth c H1 locs1 (cells + mc) (slots + ms) Q (F0 m (pc + 3) ls (.int r :: rest))) : W p l e R s m args below meth c H locs cells slots Q (F0 m pc ls st0) :=
  zAfti (wa := []) (wb := []) hr (by simpa using hP) (by simpa using hD) hS hA (fun r u H1 locs1 hp h1 h2 h3 => kk r u H1 locs1 hp (by simpa using h1) (by simpa using h2) h3)
theorem zAftl0 {S : Type} {post : Int64 → S → Prop} {w' : S → va_W} (hr : va_Run p l e R s m args below meth c H locs cells slots mc ms (F0 m pc ls st0) rest (va_Ql post (fun u t => zB D tys (va_A w H.size) (w' u) t) (va_A w H.size) a) (va_A w H.size)) (hP : va_P D vwCl w H) (hD : va_D A w) (hS : va_S A H0 H locs) (hA : ∀ q, H0.size ≤ q → A q)
    (kk : ∀ (r : Int64) (u : S) (H1 : Heap) (locs1 : List Loc), post r u → va_P D vwCl (w' u) H1 → va_D A (w' u) → va_S A H0 H1 locs1 → W p l e R s m args below meth c H1 locs1 (cells + mc) (slots + ms) Q (F0 m (pc + 3) ls (.long r :: rest))) : W p l e R s m args below meth c H locs cells slots Q (F0 m pc ls st0) :=
  zAftl (wa := []) (wb := []) hr (by simpa using hP) (by simpa using hD) hS hA (fun r u H1 locs1 hp h1 h2 h3 => kk r u H1 locs1 hp (by simpa using h1) (by simpa using h2) h3)
variable {y : MethodName} {bytes : ByteArray} {maxL nL index : Nat} {ret : Option FieldType} {rm : Room} {Qc : Array Value → State → Outcome → State → Prop} {own : String} {b : Addr} {As : List Value} {free : Addr → Prop}
theorem zRunV0 (S0 : CallFix p m c cc nL s args WS own) (hM : Met l y (.code y bytes maxL ret :: WS) rm (va_Pc (.ref b :: As) (zP D tys H.size w)) Qc mc ms free) (h1 : Cond.methodLink own index y ∈ WS) (h2 : Cond.instanceMethod y ∈ WS) (h3 : Cond.selects y.cls y y ∈ WS) (h4 : Cond.initialized y.cls ∈ WS) (h5 : Cond.code y bytes maxL ret ∈ WS)
    (hrc : rm.cells = mc ∧ rm.slots = ms) (hd : y.cls ≠ "java/lang/invoke/MethodHandle" ∧ y.cls ≠ "java/lang/invoke/VarHandle" ∧ (parseMethodDescriptor y.desc).map (fun d => d.parameters.length) = some As.length) (hR : rm.frames + 1 ≤ R.frames ∧ 8 + (maxL + 11) + rm.locals ≤ R.locals)
    (hKc : va_K D vwCl tys s) (hP : va_P D vwCl w H) (hD : va_D A w) (ci : Nat) {q : vw_C} (hc : vwCl[ci]? = some q) (hq : q.1 = y.cls) {fs : List Value} (he : w[0]? = some (b, .inr (ci, fs))) (hsize : ls.size = nL) (hst : st0 = As.reverse ++ .ref b :: rest) (hWt : (rest.map fun v => v.category).sum ≤ 8) (hdg : decode cc pc = .ok (.invokevirtual index, 3)) (hf : cells + mc ≤ R.cells ∧ slots + ms ≤ R.slots) :
    va_Run p l e R s m args below meth c H locs cells slots mc ms (F0 m pc ls st0) rest (Qc (Value.ref b :: As).toArray) free :=
  zRunV (wa := []) (wb := []) (A := A) S0 hM h1 h2 h3 h4 h5 hrc hd hR hKc (by simpa using hP) (by simpa using hD) ci hc hq he hsize hst hWt hdg hf
end ZC0
def pD (d : Nat) : Nat := if d < 12 then d + 1 else d
def pS (x : Int64) (d : Nat) (st : Nat → Int64) : Nat → Int64 := if d < 12 then vp_updL st d x else st
def pT (d tr : Nat) : Nat := if d < 12 then tr else 1
def qT (d tr : Nat) : Nat := if 0 < d then tr else 1
def qV (d : Nat) (st : Nat → Int64) : Int64 := if 0 < d then st (d - 1) else 0
theorem pD_le {d : Nat} (h : d ≤ 12) : pD d ≤ 12 := by unfold pD; split <;> omega
theorem pT_le {d tr : Nat} (h : tr ≤ 1) : pT d tr ≤ 1 := by unfold pT; split <;> omega
theorem qT_le {d tr : Nat} (h : tr ≤ 1) : qT d tr ≤ 1 := by unfold qT; split <;> omega

set_option maxRecDepth 20000 in
set_option maxHeartbeats 4000000 in
theorem c_push (l : Launch) (D : va_G) (A : Nat → Nat) (C : Nat → ClassId) (sz : Nat) (n : Nat) (ops : Nat → Int32) (nums : Nat → Int64) (vc : Nat) (vals : Nat → Int64) (d : Nat) (st : Nat → Int64) (ce : Nat → Int64) (pk : Nat → Int64) (pv : Nat → Int64) (pr : Nat) (w : Nat) (key : Int64) (pl : Nat) (dn : Nat) (tk : Nat) (tr : Nat) (x : Int64) (hd : d ≤ 12) : Met l yE_push (.code yE_push cE_push 3 none :: WS) (rmk 0 0) (va_Pc [.ref (A 0), .long x] (zP D (eT C) sz (eW A C n ops nums vc vals d st ce pk pv pr w key pl dn tk tr))) (va_Qv (fun _ : Unit => True) (fun (_ : Unit) t => zB D (eT C) (va_A (eW A C n ops nums vc vals d st ce pk pv pr w key pl dn tk tr) sz) (eW A C n ops nums vc vals (pD d) (pS x d st) ce pk pv pr w key pl dn tk (pT d tr)) t) (va_A (eW A C n ops nums vc vals d st ce pk pv pr w key pl dn tk tr) sz)) 0 0 (va_A (eW A C n ops nums vc vals d st ce pk pv pr w key pl dn tk tr) sz) := by
  refine zEnt (Qc := fun F => (va_Qv (fun _ : Unit => True) (fun (_ : Unit) t => zB D (eT C) F (eW A C n ops nums vc vals (pD d) (pS x d st) ce pk pv pr w key pl dn tk (pT d tr)) t) F)) (by decide) (Nat.le_of_ble_eq_true rfl) (fun p e s m below meth c ls F hx hb hr hlk hml hnm hw hown hsz hP hK hD hA hl => ?_)
  have hS : va_S F s.heap s.heap [] := va_S.rf
  have hown : s.vm.findClass RE = some m.cls := hown
  have hl : lv_has ls 3 [(0, .ref (A 0)), (1, .long x)] := hl
  refine lv_aload_n hx hb dE_push_0 rfl (lv_at hl 0 rfl) ?_
  refine zGetE hx hb hw hown hK hP 0 rfl 6 (by decide) wf_E_92 rfl dE_push_1 ?_
  refine lv_bipush (v := nI 12) hx hb dE_push_4 (by decide) ?_
  refine zc_lt (tgt := 15) hx hb dE_push_6 rfl (by omega) (by omega) (fun h6 => ?_) (fun h6 => ?_)
  · refine lv_aload_n hx hb dE_push_15 rfl (lv_at hl 0 rfl) ?_
    refine zGetE hx hb hw hown hK hP 0 rfl 5 (by decide) wf_E_20 rfl dE_push_16 ?_
    refine lv_aload_n hx hb dE_push_19 rfl (lv_at hl 0 rfl) ?_
    refine zGetE hx hb hw hown hK hP 0 rfl 6 (by decide) wf_E_92 rfl dE_push_20 ?_
    refine lv_lload_n hx hb dE_push_23 rfl (lv_at hl 1 rfl) ?_
    refine zLast hx hb hK hP hD hS 4 3 rfl rfl (by omega) (by decide) dE_push_24 (fun H locs hP hD hS => ?_)
    replace hP : va_P D vwCl (eW A C n ops nums vc vals d (vp_updL st d x) ce pk pv pr w key pl dn tk tr) H := hP
    replace hD : va_D F (eW A C n ops nums vc vals d (vp_updL st d x) ce pk pv pr w key pl dn tk tr) := hD
    refine lv_aload_n hx hb dE_push_25 rfl (lv_at hl 0 rfl) ?_
    refine lv_dup hx hb dE_push_26 rfl ?_
    refine zGetE hx hb hw hown hK hP 0 rfl 6 (by decide) wf_E_92 rfl dE_push_27 ?_
    refine lv_iconst (v := nI 1) hx hb dE_push_30 (by decide) ?_
    refine lv_iadd hx hb dE_push_31 ?_
    refine zti (nI_add _ _) ?_
    refine zPutE hx hb hw hown hK hP hD hS 0 rfl 6 (by decide) wf_E_92 rfl rfl rfl (Nat.le_of_ble_eq_true rfl) dE_push_32 (fun H locs hP hD hS => ?_)
    replace hP : va_P D vwCl (eW A C n ops nums vc vals (d + 1) (vp_updL st d x) ce pk pv pr w key pl dn tk tr) H := hP
    replace hD : va_D F (eW A C n ops nums vc vals (d + 1) (vp_updL st d x) ce pk pv pr w key pl dn tk tr) := hD
    replace hP : va_P D vwCl (eW A C n ops nums vc vals (pD d) (pS x d st) ce pk pv pr w key pl dn tk (pT d tr)) H := by (first | rw [show pD d = d + 1 from if_pos (by omega), show pS x d st = vp_updL st d x from if_pos (by omega), show pT d tr = tr from if_pos (by omega)] | rw [show pD d = d from if_neg (by omega), show pS x d st = st from if_neg (by omega), show pT d tr = 1 from if_neg (by omega)]); exact hP
    replace hD : va_D F (eW A C n ops nums vc vals (pD d) (pS x d st) ce pk pv pr w key pl dn tk (pT d tr)) := by (first | rw [show pD d = d + 1 from if_pos (by omega), show pS x d st = vp_updL st d x from if_pos (by omega), show pT d tr = tr from if_pos (by omega)] | rw [show pD d = d from if_neg (by omega), show pS x d st = st from if_neg (by omega), show pT d tr = 1 from if_neg (by omega)]); exact hD
    exact zVret (w' := fun (_ : Unit) => (eW A C n ops nums vc vals (pD d) (pS x d st) ce pk pv pr w key pl dn tk (pT d tr))) () hx hb hr hlk hS hK trivial hP hD dE_push_35
  · refine lv_aload_n hx hb dE_push_9 rfl (lv_at hl 0 rfl) ?_
    refine lv_iconst (v := nI 1) hx hb dE_push_10 (by decide) ?_
    refine zPutE hx hb hw hown hK hP hD hS 0 rfl 16 (by decide) wf_E_72 rfl rfl rfl (Nat.le_of_ble_eq_true rfl) dE_push_11 (fun H locs hP hD hS => ?_)
    replace hP : va_P D vwCl (eW A C n ops nums vc vals d st ce pk pv pr w key pl dn tk 1) H := hP
    replace hD : va_D F (eW A C n ops nums vc vals d st ce pk pv pr w key pl dn tk 1) := hD
    replace hP : va_P D vwCl (eW A C n ops nums vc vals (pD d) (pS x d st) ce pk pv pr w key pl dn tk (pT d tr)) H := by (first | rw [show pD d = d + 1 from if_pos (by omega), show pS x d st = vp_updL st d x from if_pos (by omega), show pT d tr = tr from if_pos (by omega)] | rw [show pD d = d from if_neg (by omega), show pS x d st = st from if_neg (by omega), show pT d tr = 1 from if_neg (by omega)]); exact hP
    replace hD : va_D F (eW A C n ops nums vc vals (pD d) (pS x d st) ce pk pv pr w key pl dn tk (pT d tr)) := by (first | rw [show pD d = d + 1 from if_pos (by omega), show pS x d st = vp_updL st d x from if_pos (by omega), show pT d tr = tr from if_pos (by omega)] | rw [show pD d = d from if_neg (by omega), show pS x d st = st from if_neg (by omega), show pT d tr = 1 from if_neg (by omega)]); exact hD
    exact zVret (w' := fun (_ : Unit) => (eW A C n ops nums vc vals (pD d) (pS x d st) ce pk pv pr w key pl dn tk (pT d tr))) () hx hb hr hlk hS hK trivial hP hD dE_push_14

set_option maxRecDepth 20000 in
set_option maxHeartbeats 4000000 in
theorem c_pop (l : Launch) (D : va_G) (A : Nat → Nat) (C : Nat → ClassId) (sz : Nat) (n : Nat) (ops : Nat → Int32) (nums : Nat → Int64) (vc : Nat) (vals : Nat → Int64) (d : Nat) (st : Nat → Int64) (ce : Nat → Int64) (pk : Nat → Int64) (pv : Nat → Int64) (pr : Nat) (w : Nat) (key : Int64) (pl : Nat) (dn : Nat) (tk : Nat) (tr : Nat) (hd : d ≤ 12) : Met l yE_pop (.code yE_pop cE_pop 1 (some .long) :: WS) (rmk 0 0) (va_Pc [.ref (A 0)] (zP D (eT C) sz (eW A C n ops nums vc vals d st ce pk pv pr w key pl dn tk tr))) (va_Ql (fun (r : Int64) (_ : Unit) => r = qV d st) (fun (_ : Unit) t => zB D (eT C) (va_A (eW A C n ops nums vc vals d st ce pk pv pr w key pl dn tk tr) sz) (eW A C n ops nums vc vals (d - 1) st ce pk pv pr w key pl dn tk (qT d tr)) t) (va_A (eW A C n ops nums vc vals d st ce pk pv pr w key pl dn tk tr) sz)) 0 0 (va_A (eW A C n ops nums vc vals d st ce pk pv pr w key pl dn tk tr) sz) := by
  refine zEnt (Qc := fun F => (va_Ql (fun (r : Int64) (_ : Unit) => r = qV d st) (fun (_ : Unit) t => zB D (eT C) F (eW A C n ops nums vc vals (d - 1) st ce pk pv pr w key pl dn tk (qT d tr)) t) F)) (by decide) (Nat.le_of_ble_eq_true rfl) (fun p e s m below meth c ls F hx hb hr hlk hml hnm hw hown hsz hP hK hD hA hl => ?_)
  have hS : va_S F s.heap s.heap [] := va_S.rf
  have hown : s.vm.findClass RE = some m.cls := hown
  have hl : lv_has ls 1 [(0, .ref (A 0))] := hl
  refine lv_aload_n hx hb dE_pop_0 rfl (lv_at hl 0 rfl) ?_
  refine zGetE hx hb hw hown hK hP 0 rfl 6 (by decide) wf_E_92 rfl dE_pop_1 ?_
  refine zi_gt (tgt := 14) hx hb dE_pop_4 rfl (by omega) (fun h4 => ?_) (fun h4 => ?_)
  · refine lv_aload_n hx hb dE_pop_14 rfl (lv_at hl 0 rfl) ?_
    refine lv_dup hx hb dE_pop_15 rfl ?_
    refine zGetE hx hb hw hown hK hP 0 rfl 6 (by decide) wf_E_92 rfl dE_pop_16 ?_
    refine lv_iconst (v := nI 1) hx hb dE_pop_19 (by decide) ?_
    refine lv_isub hx hb dE_pop_20 ?_
    refine zti (zsub _ (by omega)) ?_
    refine zPutE hx hb hw hown hK hP hD hS 0 rfl 6 (by decide) wf_E_92 rfl rfl rfl (Nat.le_of_ble_eq_true rfl) dE_pop_21 (fun H locs hP hD hS => ?_)
    replace hP : va_P D vwCl (eW A C n ops nums vc vals (d - 1) st ce pk pv pr w key pl dn tk tr) H := hP
    replace hD : va_D F (eW A C n ops nums vc vals (d - 1) st ce pk pv pr w key pl dn tk tr) := hD
    refine lv_aload_n hx hb dE_pop_24 rfl (lv_at hl 0 rfl) ?_
    refine zGetE hx hb hw hown hK hP 0 rfl 5 (by decide) wf_E_20 rfl dE_pop_25 ?_
    refine lv_aload_n hx hb dE_pop_28 rfl (lv_at hl 0 rfl) ?_
    refine zGetE hx hb hw hown hK hP 0 rfl 6 (by decide) wf_E_92 rfl dE_pop_29 ?_
    refine zLald hx hb hK hP 4 3 rfl rfl (by omega) (by decide) dE_pop_32 ?_
    replace hP : va_P D vwCl (eW A C n ops nums vc vals (d - 1) st ce pk pv pr w key pl dn tk (qT d tr)) H := by (first | rw [show qT d tr = tr from if_pos (by omega)] | rw [show qT d tr = 1 from if_neg (by omega), show d - 1 = d by omega]); exact hP
    replace hD : va_D F (eW A C n ops nums vc vals (d - 1) st ce pk pv pr w key pl dn tk (qT d tr)) := by (first | rw [show qT d tr = tr from if_pos (by omega)] | rw [show qT d tr = 1 from if_neg (by omega), show d - 1 = d by omega]); exact hD
    exact zLret (w' := fun (_ : Unit) => (eW A C n ops nums vc vals (d - 1) st ce pk pv pr w key pl dn tk (qT d tr))) () hx hb hr hlk hS hK (by first | exact (if_pos (by omega)).symm | exact (if_neg (by omega)).symm) hP hD dE_pop_33
  · refine lv_aload_n hx hb dE_pop_7 rfl (lv_at hl 0 rfl) ?_
    refine lv_iconst (v := nI 1) hx hb dE_pop_8 (by decide) ?_
    refine zPutE hx hb hw hown hK hP hD hS 0 rfl 16 (by decide) wf_E_72 rfl rfl rfl (Nat.le_of_ble_eq_true rfl) dE_pop_9 (fun H locs hP hD hS => ?_)
    replace hP : va_P D vwCl (eW A C n ops nums vc vals d st ce pk pv pr w key pl dn tk 1) H := hP
    replace hD : va_D F (eW A C n ops nums vc vals d st ce pk pv pr w key pl dn tk 1) := hD
    refine lv_lconst (v := 0) hx hb dE_pop_12 (by decide) ?_
    replace hP : va_P D vwCl (eW A C n ops nums vc vals (d - 1) st ce pk pv pr w key pl dn tk (qT d tr)) H := by (first | rw [show qT d tr = tr from if_pos (by omega)] | rw [show qT d tr = 1 from if_neg (by omega), show d - 1 = d by omega]); exact hP
    replace hD : va_D F (eW A C n ops nums vc vals (d - 1) st ce pk pv pr w key pl dn tk (qT d tr)) := by (first | rw [show qT d tr = tr from if_pos (by omega)] | rw [show qT d tr = 1 from if_neg (by omega), show d - 1 = d by omega]); exact hD
    exact zLret (w' := fun (_ : Unit) => (eW A C n ops nums vc vals (d - 1) st ce pk pv pr w key pl dn tk (qT d tr))) () hx hb hr hlk hS hK (by first | exact (if_pos (by omega)).symm | exact (if_neg (by omega)).symm) hP hD dE_pop_13
