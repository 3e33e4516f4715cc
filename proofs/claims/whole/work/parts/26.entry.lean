/-! THE CLAIM OUT OF ONE WALK OF THE LAW'S BODY. Your part is whole_start (and what it stands on); all else here is the same for every law, but numbers. -/
def R_law : String := "EmitDeskLaw"
def lw_P (b : Addr) (xs : List Int32) (args : Array Value) (s : State) : Prop := args = #[.ref b] ∧ s.IntsAt b xs ∧ xs.length ≤ 2048 ∧ (Jvm.Cond.and given_1 narrow_1).before args s = true
def lw_Q (_ : Array Value) (s : State) (o : Outcome) (t : State) : Prop := o = .returned (some (.int 1)) ∧ Framed s o t [] 1050 8567
def lw_Z (below : List Frame) (a : Array Value) (s : State) : State → Prop := fun t => ∃ o, t.status = .running ∧ Ended t below o ∧ lw_Q a s o t
/-- the law's own end, with 1 on the stack, nothing written that was there before, its room as the claim has it -/
theorem lw_ret {p : Program} {l : Launch} {e : Env} {s : State} {m : MethodId} {below : List Frame} {meth : Method} {c : Code} {b : Nat} (hx : p.tables.exec = Jvm.exec) (hb : c.code = code) (hr : meth.sig.returnType = ret) (hlocks : meth.locks = false) {pc : Nat} {H : Heap} {ls : Array Slot} (hdg : decode code pc = .ok (.ireturn, 1)) : W p l e room_1 s m #[Value.ref b] below meth c H [] 1050 8567 (lw_Z below #[Value.ref b] s) (F0 m pc ls [.int 1]) := by
  intro T hT X
  obtain ⟨fs, hret, hrun, hended, hW, hframe⟩ := X.leave (v := some (.int 1)) (hlocks := hlocks) (fun h => by rw [hr] at h; cases h)
  have hmeth' : T.vm.method? m = some meth := X.method'
  refine ⟨T.setFrames fs, ?_, .returned (some (.int 1)), hrun, hended, rfl, ⟨_, rfl⟩, hW, hframe⟩
  jvm_step X.here [X.here.top, hx, hb, hdg, hmeth', hr, ret, narrow_b1]
  (try refine ⟨rfl, ?_⟩); (try refine ⟨rfl, ?_⟩)
  first | (intro acts; rw [hret _ acts rfl rfl rfl]) | rw [hret _ _ rfl rfl rfl]
  exact Steps.refl _
/-- what holds at the law's entry: the machine, the code, the tables' words (any of lw_tbl by 'hts w (by decide +kernel)'), the script of L ints xs at the cell b, what the Statement gives of the start (any of its parts by flat_of_before) -/
def lw_At (p : Program) (s : State) (m : MethodId) (meth : Method) (c : Code) (b L : Nat) (xs : Nat → Int32) : Prop :=
  p.tables.exec = Jvm.exec ∧ c.code = code ∧ meth.sig.returnType = ret ∧ c.maxLocals = 8 ∧ s.vm.findClass R_law = some m.cls ∧ (∀ w ∈ lw_tbl, w.before #[Value.ref b] s = true) ∧ va_X b L xs s s.heap ∧ b < s.heap.size ∧ meth.locks = false ∧ (Jvm.Cond.and given_1 narrow_1).before #[Value.ref b] s = true
theorem zfE : ∀ j, j < 17 → defaultValue (tyE j) = vp_V [.null, .null, .int 0, .null, .int 0, .null, .int 0, .null, .null, .null, .int 0, .int 0, .long 0, .int 0, .int 0, .int 0, .int 0] j := by
  intro j hj
  have h : j = 0 ∨ j = 1 ∨ j = 2 ∨ j = 3 ∨ j = 4 ∨ j = 5 ∨ j = 6 ∨ j = 7 ∨ j = 8 ∨ j = 9 ∨ j = 10 ∨ j = 11 ∨ j = 12 ∨ j = 13 ∨ j = 14 ∨ j = 15 ∨ j = 16 := by omega
  rcases h with h | h | h | h | h | h | h | h | h | h | h | h | h | h | h | h | h <;> subst h <;> rfl
theorem zfM : ∀ j, j < 15 → defaultValue (tyM j) = vp_V [.null, .null, .null, .null, .null, .null, .null, .int 0, .int 0, .int 0, .int 0, .int 0, .int 0, .int 0, .int 0] j := by
  intro j hj
  have h : j = 0 ∨ j = 1 ∨ j = 2 ∨ j = 3 ∨ j = 4 ∨ j = 5 ∨ j = 6 ∨ j = 7 ∨ j = 8 ∨ j = 9 ∨ j = 10 ∨ j = 11 ∨ j = 12 ∨ j = 13 ∨ j = 14 := by omega
  rcases h with h | h | h | h | h | h | h | h | h | h | h | h | h | h | h <;> subst h <;> rfl
set_option maxRecDepth 20000 in
set_option maxHeartbeats 4000000 in
/-- from the entry, for every script of at most 2048 ints, the law comes to its end with true -/
theorem whole_start {p : Program} {e : Env} {s : State} {m : MethodId} {below : List Frame} {meth : Method} {c : Code} (l : Launch) (hl9 : l.stackTraces = false) {b L : Nat} {xs : Nat → Int32} (hL : L ≤ 2048) (C0 : lw_At p s m meth c b L xs) : W p l e room_1 s m #[Value.ref b] below meth c s.heap [] 0 0 (lw_Z below #[Value.ref b] s) (entryFrame m ([Value.ref b] : List Value).toArray 8) := by
  obtain ⟨hx, hb, hr, hml, hown, hts, hsc, hbl, hlk, hgv⟩ := C0
  have hb : c.code = cL_law := hb
  have hown : s.vm.findClass "EmitDeskLaw" = some m.cls := hown
  have hw : ∀ w ∈ WS, w.before #[Value.ref b] s = true := fun w h => hts w (List.mem_filter.mp h).1
  obtain ⟨F, hF⟩ : ∃ F : Nat → Prop, F = fun q => s.heap.size ≤ q := ⟨_, rfl⟩
  have hA : ∀ q, s.heap.size ≤ q → F q := fun q h => by rw [hF]; exact h
  have hF1 : ∀ q, F q → s.heap.size ≤ q := fun q h => by rw [hF] at h; exact h
  have hbA : ¬ F b := fun z => Nat.lt_irrefl _ (Nat.lt_of_lt_of_le hbl (hF1 b z))
  have hX : zL F s := zL_of hts (flat_of_before _ hgv) (fun a h z => Nat.lt_irrefl _ (Nat.lt_of_lt_of_le h (hF1 a z)))
  have hS : va_S F s.heap s.heap [] := va_S.rf
  obtain ⟨D, hK⟩ := zKD hw
  have hP : va_P D vwCl [] s.heap := fun k q h => by cases h
  have hD : va_D F [] := ⟨fun i j p q h => (by cases h), fun k q h => (by cases h)⟩
  have hl : lv_has _ 8 (lv_args 0 [Value.ref b]) := lv_entry [Value.ref b] (n := 8) (Nat.le_of_ble_eq_true rfl)
  rw [lg_entry_eq]
  show W p l e rL s m #[Value.ref b] below meth c s.heap [] 0 0 _ _
  have hl : lv_has _ 8 [(0, .ref b)] := hl
  refine va_new (C := RE) (T := TE) (N := 17) (ci := 0) (own := "EmitDeskLaw") (Ts := WS) (fs := [.null, .null, .int 0, .null, .int 0, .null, .int 0, .null, .null, .null, .int 0, .int 0, .long 0, .int 0, .int 0, .int 0, .int 0]) hx hb hw inE tyE tyE_ok hown (hw _ wk_L_8) (hw _ wo_E) (hw _ wn_E) hK hP hD hS hA rfl zfE (by decide) (by decide) dL_law_0 (fun q0 H hP0 hD0 hS => ?_)
  replace hP0 : va_P D vwCl [(q0, .inr (0, [.null, .null, .int 0, .null, .int 0, .null, .int 0, .null, .null, .null, .int 0, .int 0, .long 0, .int 0, .int 0, .int 0, .int 0]))] H := hP0
  replace hD0 : va_D F [(q0, .inr (0, [.null, .null, .int 0, .null, .int 0, .null, .int 0, .null, .null, .null, .int 0, .int 0, .long 0, .int 0, .int 0, .int 0, .int 0]))] := hD0
  refine lv_dup hx hb dL_law_3 rfl ?_
  refine zAftc (wa := []) (w := [(q0, .inr (0, [.null, .null, .int 0, .null, .int 0, .null, .int 0, .null, .null, .null, .int 0, .int 0, .long 0, .int 0, .int 0, .int 0, .int 0]))]) (wb := []) (zRunI (wa := []) (w := [(q0, .inr (0, [.null, .null, .int 0, .null, .int 0, .null, .int 0, .null, .null, .null, .int 0, .int 0, .long 0, .int 0, .int 0, .int 0, .int 0]))]) (wb := []) ⟨hx, hb, hml, hown, hw⟩ (c_initE l D q0 _) wm_L_40 wi_E_init wn_E wc_E_init rfl ⟨rfl, rfl⟩ wd_E_init ⟨by decide, by decide⟩ hK hP0 hD0 hl.1 rfl (Nat.le_of_ble_eq_true rfl) dL_law_4 ⟨by decide, by decide⟩) hP0 hD0 hS hA (fun u H locs hp hKE hP hD hS => ?_)
  obtain ⟨A, C⟩ := u
  replace hp : A 0 = q0 := hp
  replace hKE : va_K D vwCl (eT C) s := hKE
  replace hP : va_P D vwCl (eW A C 0 (fun _ => 0) (fun _ => 0) 0 (fun _ => 0) 0 (fun _ => 0) (fun _ => 0) (fun _ => 0) (fun _ => 0) 0 0 0 0 0 0 0) H := hP
  replace hD : va_D F (eW A C 0 (fun _ => 0) (fun _ => 0) 0 (fun _ => 0) 0 (fun _ => 0) (fun _ => 0) (fun _ => 0) (fun _ => 0) 0 0 0 0 0 0 0) := hD
  subst hp
  refine lv_astore_n hx hb dL_law_7 rfl hl (by decide) rfl (fun ls hl => ?_)
  refine va_new (C := RM) (T := TM) (N := 15) (ci := 1) (own := "EmitDeskLaw") (Ts := WS) (fs := [.null, .null, .null, .null, .null, .null, .null, .int 0, .int 0, .int 0, .int 0, .int 0, .int 0, .int 0, .int 0]) hx hb hw inM tyM tyM_ok hown (hw _ wk_L_41) (hw _ wo_M) (hw _ wn_M) hK hP hD hS hA rfl zfM (by decide) (by decide) dL_law_8 (fun q0 H hP0 hD0 hS => ?_)
  replace hP0 : va_P D vwCl ((eW A C 0 (fun _ => 0) (fun _ => 0) 0 (fun _ => 0) 0 (fun _ => 0) (fun _ => 0) (fun _ => 0) (fun _ => 0) 0 0 0 0 0 0 0) ++ ([(q0, .inr (1, [.null, .null, .null, .null, .null, .null, .null, .int 0, .int 0, .int 0, .int 0, .int 0, .int 0, .int 0, .int 0]))] ++ [])) H := hP0
  replace hD0 : va_D F ((eW A C 0 (fun _ => 0) (fun _ => 0) 0 (fun _ => 0) 0 (fun _ => 0) (fun _ => 0) (fun _ => 0) (fun _ => 0) 0 0 0 0 0 0 0) ++ ([(q0, .inr (1, [.null, .null, .null, .null, .null, .null, .null, .int 0, .int 0, .int 0, .int 0, .int 0, .int 0, .int 0, .int 0]))] ++ [])) := hD0
  refine lv_dup hx hb dL_law_11 rfl ?_
  refine zAftc (wa := (eW A C 0 (fun _ => 0) (fun _ => 0) 0 (fun _ => 0) 0 (fun _ => 0) (fun _ => 0) (fun _ => 0) (fun _ => 0) 0 0 0 0 0 0 0)) (w := [(q0, .inr (1, [.null, .null, .null, .null, .null, .null, .null, .int 0, .int 0, .int 0, .int 0, .int 0, .int 0, .int 0, .int 0]))]) (wb := []) (zRunI (wa := (eW A C 0 (fun _ => 0) (fun _ => 0) 0 (fun _ => 0) 0 (fun _ => 0) (fun _ => 0) (fun _ => 0) (fun _ => 0) 0 0 0 0 0 0 0)) (w := [(q0, .inr (1, [.null, .null, .null, .null, .null, .null, .null, .int 0, .int 0, .int 0, .int 0, .int 0, .int 0, .int 0, .int 0]))]) (wb := []) ⟨hx, hb, hml, hown, hw⟩ (c_initM l D q0 _) wm_L_43 wi_M_init wn_M wc_M_init rfl ⟨rfl, rfl⟩ wd_M_init ⟨by decide, by decide⟩ hK hP0 hD0 hl.1 rfl (Nat.le_of_ble_eq_true rfl) dL_law_12 ⟨by decide, by decide⟩) hP0 hD0 hS hA (fun u H locs hp hKM hP hD hS => ?_)
  obtain ⟨A2, C2⟩ := u
  replace hp : A2 0 = q0 := hp
  replace hKM : va_K D vwCl (mT C2) s := hKM
  replace hP : va_P D vwCl ((eW A C 0 (fun _ => 0) (fun _ => 0) 0 (fun _ => 0) 0 (fun _ => 0) (fun _ => 0) (fun _ => 0) (fun _ => 0) 0 0 0 0 0 0 0) ++ (mW A2 C2 (fun _ => 0) (fun _ => 0) (fun _ => 0) (fun _ => 0) (fun _ => 0) (fun _ => 0) (fun _ => 0) 0 0 0 0 0 0 0 0)) H := hP
  replace hD : va_D F ((eW A C 0 (fun _ => 0) (fun _ => 0) 0 (fun _ => 0) 0 (fun _ => 0) (fun _ => 0) (fun _ => 0) (fun _ => 0) 0 0 0 0 0 0 0) ++ (mW A2 C2 (fun _ => 0) (fun _ => 0) (fun _ => 0) (fun _ => 0) (fun _ => 0) (fun _ => 0) (fun _ => 0) 0 0 0 0 0 0 0 0)) := hD
  subst hp
  refine lv_astore_n hx hb dL_law_15 rfl hl (by decide) rfl (fun ls hl => ?_)
  refine lv_iconst (v := nI 1) hx hb dL_law_16 (by decide) ?_
  refine va_newa (atype := .long) (ty := .long) (a0 := (1, .inr (.inl (fun _ => 0)))) (N' := 1) hx hb (hw _ wa_long) rfl (hKM.app hKE) hP hD hS hA (fun _ => rfl) (by decide) (by decide) (by decide) (by decide) (by decide) dL_law_17 (fun ob oc H hK hP hD hS => ?_)
  replace hK : va_K D vwCl (tL C C2 oc) s := hK
  replace hP : va_P D vwCl ((mW A2 C2 (fun _ => 0) (fun _ => 0) (fun _ => 0) (fun _ => 0) (fun _ => 0) (fun _ => 0) (fun _ => 0) 0 0 0 0 0 0 0 0) ++ ((eW A C 0 (fun _ => 0) (fun _ => 0) 0 (fun _ => 0) 0 (fun _ => 0) (fun _ => 0) (fun _ => 0) (fun _ => 0) 0 0 0 0 0 0 0) ++ oW ob oc (fun _ => 0))) H := hP.sub [8, 9, 10, 11, 12, 13, 14, 15, 0, 1, 2, 3, 4, 5, 6, 7, 16] rfl
  replace hD : va_D F ((mW A2 C2 (fun _ => 0) (fun _ => 0) (fun _ => 0) (fun _ => 0) (fun _ => 0) (fun _ => 0) (fun _ => 0) 0 0 0 0 0 0 0 0) ++ ((eW A C 0 (fun _ => 0) (fun _ => 0) 0 (fun _ => 0) 0 (fun _ => 0) (fun _ => 0) (fun _ => 0) (fun _ => 0) 0 0 0 0 0 0 0) ++ oW ob oc (fun _ => 0))) := hD.sub [8, 9, 10, 11, 12, 13, 14, 15, 0, 1, 2, 3, 4, 5, 6, 7, 16] (by decide) rfl
  refine lv_astore_n hx hb dL_law_19 rfl hl (by decide) rfl (fun ls hl => ?_)
  refine lv_iconst (v := nI 0) hx hb dL_law_20 (by decide) ?_
  refine lv_istore hx hb dL_law_21 hl (by decide) rfl (fun ls hl => ?_)
  refine W.widen (k := 17 + 0) (n := 321 + 6 * 0) (by omega) (by omega) ?_
  refine lwL hl9 hx hb hml hw hown hX hK hA hsc hbl hbA hL (fun H locs ls cl sl h1 h2 hS => ?_) (L + 1) 0 0 (fun _ => 0) (fun _ => 0) 0 (fun _ => 0) 0 (fun _ => 0) (fun _ => 0) (fun _ => 0) (fun _ => 0) (fun _ => 0) 0 0 0 0 0 0 0 0 (fun _ => 0) ls H locs (by omega) (by omega) ⟨PI_0, by omega, by omega, by omega, by omega, by omega, by omega⟩ hP hD hS hl
  refine lv_iconst (v := 1) hx hb dL_law_598 (by decide) ?_
  refine va_forget (fun q hq => hF1 _ (hS.2.2 q hq)) ?_
  refine W.widen (k := 1050) (n := 8567) h1 h2 ?_
  exact lw_ret hx hb hr hlk dL_law_599
