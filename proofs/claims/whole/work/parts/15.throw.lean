/-! EmitDesk: what a throw needs of the state; a throw; the public methods -/
def zStr : List (Nat × String) := [(38, "no such instruction"), (49, "the program is full"), (55, "no room for a value"), (57, "no such way"), (63, "the program goes behind its end"), (78, "a trap"), (86, "no such pair"), (98, "nothing of that number is told"), (100, "no such cell")]
def zCx (U : State) : Prop := va_Nw (.castable "java/lang/IllegalArgumentException" "java/lang/IllegalArgumentException") U ∧ va_Nw (.castable "java/lang/IllegalStateException" "java/lang/IllegalStateException") U ∧ va_Nw (.castable "java/lang/UnsupportedOperationException" "java/lang/UnsupportedOperationException") U ∧ va_Nw (.castable "java/lang/IndexOutOfBoundsException" "java/lang/IndexOutOfBoundsException") U ∧ (va_Nw (.declares (Bundle.initS "java/lang/RuntimeException")) U ∧ va_Nw (.declares (Bundle.initS "java/lang/Exception")) U ∧ va_Nw (.declares (Bundle.initS "java/lang/Throwable")) U) ∧ ∀ q ∈ zStr, ∃ a, vk_R "EmitDesk" q.1 q.2 a U
abbrev zDc (X : String) : List Cond := [Cond.castable X X, .declares (Bundle.initS "java/lang/RuntimeException"), .declares (Bundle.initS "java/lang/Exception"), .declares (Bundle.initS "java/lang/Throwable")]
def zX (A : Nat → Prop) (U : State) : Prop := zCx U ∧ vx_Zq Bundle.tN "UNASSIGNED_STACK" Bundle.steD A U U.heap ∧ vx_Zq Bundle.tN "SUPPRESSED_SENTINEL" Bundle.listD A U U.heap
theorem zCx.warm {s U : State} (hW : s.WarmedH U.vm) (h : zCx s) : zCx U := by
  obtain ⟨h1, h2, h3, h4, ⟨h6, h7, h8⟩, h5⟩ := h
  exact ⟨h1.warmC hW, h2.warmC hW, h3.warmC hW, h4.warmC hW, ⟨h6.warmD hW, h7.warmD hW, h8.warmD hW⟩, fun q hq => (h5 q hq).elim (fun a ha => ⟨a, ha.warm hW⟩)⟩
theorem zX.call {F B : Nat → Prop} {s U : State} {H : Heap} {locs : List Loc} (h : zX F s) (hS : va_S F s.heap H locs) (hB : ∀ q, B q → F q) (hU : U.heap = H) (hW : s.WarmedH U.vm) : zX B U := by
  obtain ⟨h1, h2, h3⟩ := h
  exact ⟨h1.warm hW, by rw [hU]; exact ((h2.kept hS.2.1).moved hW.alike).narrow hB, by rw [hU]; exact ((h3.kept hS.2.1).moved hW.alike).narrow hB⟩
theorem zBlindX {argl : List Value} {D : va_G} {tys : List (ClassId × FieldType)} {sz : Nat} {w : va_W} {A : Nat → Prop} : FrameBlind (va_Pc argl (fun U => zP D tys sz w U ∧ zX A U)) := fun a U g mk q => by
  obtain ⟨q0, ⟨q1, qP, qK, qD⟩, ⟨x1, x2, x3⟩⟩ := q
  exact ⟨q0, ⟨q1, qP, va_K.moved (u := U) (U := U.calling g mk a) (Vm.Alike.refl U.vm) qK, qD⟩, ⟨zCx.warm (U := U.calling g mk a) (State.WarmedH.refl U) x1, vx_Zq.moved (u := U) (U := U.calling g mk a) (Vm.Alike.refl U.vm) x2, vx_Zq.moved (u := U) (U := U.calling g mk a) (Vm.Alike.refl U.vm) x3⟩⟩
abbrev rmx (f lo : Nat) : Room := { frames := f, cells := 1, slots := 6, locals := lo }
abbrev zNms : List String := ["java/lang/RuntimeException", "java/lang/Exception"]
theorem zNfit : ∀ n ∈ zNms, Bundle.fit n = true := by decide +kernel

theorem wx_IAE_in : ∀ w ∈ (vx_atS "EmitDesk" 40 "java/lang/IllegalArgumentException" zNms).filter goodWord, w ∈ WS := by decide +kernel
theorem wx_IAE_no : ∀ w ∈ (vx_atS "EmitDesk" 40 "java/lang/IllegalArgumentException" zNms).filter (fun w => !goodWord w), w ∈ zDc "java/lang/IllegalArgumentException" := by decide +kernel
theorem wx_IAE_ot : ∀ w ∈ Cond.classLink "EmitDesk" 36 "java/lang/IllegalArgumentException" :: Cond.initialized "java/lang/IllegalArgumentException" :: vx_atS "EmitDesk" 40 "java/lang/IllegalArgumentException" zNms, vx_ot w = true := by decide +kernel
theorem wx_ISE_in : ∀ w ∈ (vx_atS "EmitDesk" 51 "java/lang/IllegalStateException" zNms).filter goodWord, w ∈ WS := by decide +kernel
theorem wx_ISE_no : ∀ w ∈ (vx_atS "EmitDesk" 51 "java/lang/IllegalStateException" zNms).filter (fun w => !goodWord w), w ∈ zDc "java/lang/IllegalStateException" := by decide +kernel
theorem wx_ISE_ot : ∀ w ∈ Cond.classLink "EmitDesk" 47 "java/lang/IllegalStateException" :: Cond.initialized "java/lang/IllegalStateException" :: vx_atS "EmitDesk" 51 "java/lang/IllegalStateException" zNms, vx_ot w = true := by decide +kernel
theorem wx_UOE_in : ∀ w ∈ (vx_atS "EmitDesk" 80 "java/lang/UnsupportedOperationException" zNms).filter goodWord, w ∈ WS := by decide +kernel
theorem wx_UOE_no : ∀ w ∈ (vx_atS "EmitDesk" 80 "java/lang/UnsupportedOperationException" zNms).filter (fun w => !goodWord w), w ∈ zDc "java/lang/UnsupportedOperationException" := by decide +kernel
theorem wx_UOE_ot : ∀ w ∈ Cond.classLink "EmitDesk" 76 "java/lang/UnsupportedOperationException" :: Cond.initialized "java/lang/UnsupportedOperationException" :: vx_atS "EmitDesk" 80 "java/lang/UnsupportedOperationException" zNms, vx_ot w = true := by decide +kernel
theorem wx_IOOBE_in : ∀ w ∈ (vx_atS "EmitDesk" 88 "java/lang/IndexOutOfBoundsException" zNms).filter goodWord, w ∈ WS := by decide +kernel
theorem wx_IOOBE_no : ∀ w ∈ (vx_atS "EmitDesk" 88 "java/lang/IndexOutOfBoundsException" zNms).filter (fun w => !goodWord w), w ∈ zDc "java/lang/IndexOutOfBoundsException" := by decide +kernel
theorem wx_IOOBE_ot : ∀ w ∈ Cond.classLink "EmitDesk" 84 "java/lang/IndexOutOfBoundsException" :: Cond.initialized "java/lang/IndexOutOfBoundsException" :: vx_atS "EmitDesk" 88 "java/lang/IndexOutOfBoundsException" zNms, vx_ot w = true := by decide +kernel
section ZT
variable {p : Program} {l : Launch} {e : Env} {R : Room} {s : State} {m : MethodId} {args : Array Value} {below : List Frame} {meth : Method} {c : Code} {H : Heap} {locs : List Loc} {cells slots : Nat}
variable {cc : ByteArray} {pc : Nat} {ls : Array Slot} {rest : List Value} {D : va_G} {F : Nat → Prop} {tys : List (ClassId × FieldType)} {w : va_W} {Qc : Array Value → State → Outcome → State → Prop}
/-- a throw of EmitDesk's: nothing of the world changes -/
theorem zThrow {S : Type} {w' : S → va_W} (u : S) (X : String) {ik is ic : Nat} {text : String} (hl9 : l.stackTraces = false) (hx : p.tables.exec = Jvm.exec) (hb : c.code = cc) (hlk : meth.locks = false) (hout : ∀ x ∈ c.exceptionTable.toList, False) (hw : ∀ w ∈ WS, w.before args s = true) (hown : s.vm.findClass RE = some m.cls) (hX : zX F s) (hK : va_K D vwCl tys s) (hP : va_P D vwCl (w' u) H) (hD : va_D F (w' u)) (hS : va_S F s.heap H locs) (hsize : ls.size = c.maxLocals)
    (hfit : Bundle.fit X = true) (k1 : Cond.classLink "EmitDesk" ik X ∈ WS) (k2 : Cond.initialized X ∈ WS) (hin : ∀ w ∈ (vx_atS "EmitDesk" ic X zNms).filter goodWord, w ∈ WS) (hno : ∀ w ∈ (vx_atS "EmitDesk" ic X zNms).filter (fun w => !goodWord w), w ∈ zDc X) (hot : ∀ w ∈ Cond.classLink "EmitDesk" ik X :: Cond.initialized X :: vx_atS "EmitDesk" ic X zNms, vx_ot w = true) (hca : va_Nw (.castable X X) s) (hstr : (is, text) ∈ zStr)
    (d0 : decode cc pc = .ok (.new ik, 3)) (d3 : decode cc (pc + 3) = .ok (.dup, 1)) (d4 : decode cc (pc + 4) = .ok (.ldc is, 2)) (d6 : decode cc (pc + 6) = .ok (.invokespecial ic, 3)) (d9 : decode cc (pc + 9) = .ok (.athrow, 1)) (hf : 5 < R.frames) (hlo : (rest.map fun v => v.category).sum + 82 ≤ R.locals) (hc : cells + 1 ≤ R.cells) (hs : slots + 6 ≤ R.slots) :
    W p l e R s m args below meth c H locs cells slots (vx_MQ below Qc (vx_X (fun _ : S => True) (fun E (u : S) t => E = X ∧ zB D tys F (w' u) t) F) args s (cells + 1) (slots + 6) F) (F0 m pc ls rest) := by
  obtain ⟨sa, hsa⟩ := hX.1.2.2.2.2.2 (is, text) hstr
  exact vx_throwS (own := "EmitDesk") (cls := X) (text := text) (names := zNms) (ik := ik) (is := is) (ic := ic) (sa := sa) hx hb hl9 hown hfit zNfit (hw _ k1) (hw _ k2) hsa (vx_hat (fun w h => hw w (hin w h)) hno (vx_c (va_Nw.use rfl hca) (vx_c (va_Nw.use rfl hX.1.2.2.2.2.1.1) (vx_c (va_Nw.use rfl hX.1.2.2.2.2.1.2.1) (vx_c (va_Nw.use rfl hX.1.2.2.2.2.1.2.2) vx_n))))) hot hX.2.1 hX.2.2 hS hsize d0 d3 d4 d6 d9 (fun x h => (hout x h).elim) hf hlo hc hs hlk
    (fun t hal hz hq => ⟨u, trivial, ⟨rfl, hP.kept (fun k q hk => hq q.1 (hP k q hk).lt), va_K.moved hal hK, hD⟩, ⟨Nat.le_trans hS.1 hz, fun q h1 h2 => (hq q (Nat.lt_of_lt_of_le h1 hS.1)).trans (hS.2.1 q h1 h2)⟩⟩) hS.2.2 (Nat.le_refl _) (Nat.le_refl _)
end ZT
theorem zEntX {l : Launch} {y : MethodName} {cc : ByteArray} {maxL : Nat} {ret : Option FieldType} {rm : Room} {argl : List Value} {D : va_G} {tys : List (ClassId × FieldType)} {sz : Nat} {w : va_W} {Qc : (Nat → Prop) → Array Value → State → Outcome → State → Prop} {XC : (Nat → Prop) → String → State → State → Prop} {mc ms : Nat} (hy : plainName y.cls = true) (hlen : (lg_sl argl).length ≤ maxL)
    (body : ∀ (p : Program) (e : Env) (s : State) (m : MethodId) (below : List Frame) (meth : Method) (c : Code) (ls : Array Slot) (F : Nat → Prop), p.tables.exec = Jvm.exec → c.code = cc → meth.sig.returnType = ret → meth.locks = false → c.maxLocals = maxL → (∀ x ∈ c.exceptionTable.toList, False) → (∀ w ∈ WS, w.before argl.toArray s = true) → s.vm.findClass y.cls = some m.cls → s.heap.size = sz → va_P D vwCl w s.heap → va_K D vwCl tys s → va_D F w → (∀ q, s.heap.size ≤ q → F q) → zX F s → lv_has ls maxL (lv_args 0 argl) →
      W p l e rm s m argl.toArray below meth c s.heap [] 0 0 (vx_MQ below (Qc F) (XC F) argl.toArray s mc ms F) (F0 m 0 ls [])) :
    vx_Met l y (.code y cc maxL ret :: WS) rm (va_Pc argl (fun U => zP D tys sz w U ∧ zX (va_A w sz) U)) (Qc (va_A w sz)) (XC (va_A w sz)) mc ms (va_A w sz) := by
  refine vx_ofW (cc := cc) (maxL := maxL) (ret := ret) hy rfl ?_
  intro p e s m args below meth c s₁ B hml hout hv
  obtain ⟨rfl, ⟨hsz, hP, hK, hD0⟩, hX⟩ := hv
  have hts := atoms_spec (ws := .code y cc maxL ret :: WS) B.pre
  have hl := lv_entry argl (n := maxL) hlen
  rw [lg_entry_eq]
  exact body p e s m below meth c _ (va_A w sz) B.exec B.bytes B.returns B.notSynchronized hml hout (fun w h => hts w (List.mem_cons_of_mem _ h)) (findClass_of_methodNamed B.named) hsz hP hK hD0.self (fun q h => Or.inr (hsz ▸ h)) hX hl

