/-! the law's entry -/
section ZST
variable {p : Program} {l : Launch} {e : Env} {R : Room} {s : State} {m : MethodId} {args : Array Value} {below : List Frame} {meth : Method} {c : Code} {H : Heap} {locs : List Loc} {cells slots : Nat} {Q : State → Prop}
variable {pc : Nat} {ls : Array Slot} {rest st0 : List Value} {D : va_G} {A : Nat → Prop} {H0 : Heap} {w wa wb : va_W} {a : Array Value} {mc ms : Nat}
theorem zAftc {S : Type} {post : S → Prop} {w' : S → va_W} {ty' : S → List (ClassId × FieldType)} (hr : va_Run p l e R s m args below meth c H locs cells slots mc ms (F0 m pc ls st0) rest (va_Qv post (fun u t => zB D (ty' u) (va_A w H.size) (w' u) t) (va_A w H.size) a) (va_A w H.size)) (hP : va_P D vwCl (wa ++ (w ++ wb)) H) (hD : va_D A (wa ++ (w ++ wb))) (hS : va_S A H0 H locs) (hA : ∀ q, H0.size ≤ q → A q)
    (kk : ∀ (u : S) (H1 : Heap) (locs1 : List Loc), post u → va_K D vwCl (ty' u) s → va_P D vwCl (wa ++ (w' u ++ wb)) H1 → va_D A (wa ++ (w' u ++ wb)) → va_S A H0 H1 locs1 → W p l e R s m args below meth c H1 locs1 (cells + mc) (slots + ms) Q (F0 m (pc + 3) ls rest)) : W p l e R s m args below meth c H locs cells slots Q (F0 m pc ls st0) := by
  have hF := zFree hD hS hA
  refine va_callv hr hS (fun q _ h => hF q h) hF (fun u t H1 locs1 ht hvm hpo hB hz1 hk1 hS1 => ?_)
  obtain ⟨hP1, hK1, hD1⟩ := hB
  rw [ht] at hP1
  obtain ⟨q1, q2⟩ := zFrame hP hD hk1 hF hP1 hD1
  exact kk u H1 locs1 hpo (va_K.moved hvm.symm hK1) q1 q2 hS1
end ZST
/-- what the two classes are at the entry -/
theorem zKD {args : Array Value} {s : State} (hw : ∀ w ∈ WS, w.before args s = true) : ∃ D : va_G, va_K D vwCl [] s := by
  obtain ⟨c0, i0, h0⟩ := u_known hw inE (hw _ wo_E)
  obtain ⟨c1, i1, h1⟩ := u_known hw inM (hw _ wo_M)
  refine ⟨(fun k => if k = 0 then c0 else c1, fun k => if k = 0 then i0 else i1), fun k q hq => ?_, fun k q hq => by cases hq⟩
  rcases k with _ | _ | k
  · cases hq
    exact h0
  · cases hq
    exact h1
  · cases hq
abbrev zGv : Cond := Cond.and given_1 narrow_1
theorem zStrOf {args : Array Value} {s : State} {k : Nat} {tx : String} (h1 : (Cond.stringRef "EmitDesk" k tx).before args s = true) (h2 : (Cond.exactly (.string "EmitDesk" k) "java/lang/String").before args s = true) : ∃ a, vk_R "EmitDesk" k tx a s := by
  obtain ⟨a, -, -, -, h3, -⟩ := Cond.exactly_spec h2
  exact ⟨a, vk_R.of h1 h3⟩
theorem zt_38 : Cond.stringRef "EmitDesk" 38 "no such instruction" ∈ lw_tbl := List.mem_of_getElem? (i := 153) (by decide +kernel)
theorem zx_38 : Cond.exactly (.string "EmitDesk" 38) "java/lang/String" ∈ flatC zGv := by decide +kernel
theorem zt_49 : Cond.stringRef "EmitDesk" 49 "the program is full" ∈ lw_tbl := List.mem_of_getElem? (i := 189) (by decide +kernel)
theorem zx_49 : Cond.exactly (.string "EmitDesk" 49) "java/lang/String" ∈ flatC zGv := by decide +kernel
theorem zt_55 : Cond.stringRef "EmitDesk" 55 "no room for a value" ∈ lw_tbl := List.mem_of_getElem? (i := 203) (by decide +kernel)
theorem zx_55 : Cond.exactly (.string "EmitDesk" 55) "java/lang/String" ∈ flatC zGv := by decide +kernel
theorem zt_57 : Cond.stringRef "EmitDesk" 57 "no such way" ∈ lw_tbl := List.mem_of_getElem? (i := 212) (by decide +kernel)
theorem zx_57 : Cond.exactly (.string "EmitDesk" 57) "java/lang/String" ∈ flatC zGv := by decide +kernel
theorem zt_63 : Cond.stringRef "EmitDesk" 63 "the program goes behind its end" ∈ lw_tbl := List.mem_of_getElem? (i := 217) (by decide +kernel)
theorem zx_63 : Cond.exactly (.string "EmitDesk" 63) "java/lang/String" ∈ flatC zGv := by decide +kernel
theorem zt_78 : Cond.stringRef "EmitDesk" 78 "a trap" ∈ lw_tbl := List.mem_of_getElem? (i := 283) (by decide +kernel)
theorem zx_78 : Cond.exactly (.string "EmitDesk" 78) "java/lang/String" ∈ flatC zGv := by decide +kernel
theorem zt_86 : Cond.stringRef "EmitDesk" 86 "no such pair" ∈ lw_tbl := List.mem_of_getElem? (i := 307) (by decide +kernel)
theorem zx_86 : Cond.exactly (.string "EmitDesk" 86) "java/lang/String" ∈ flatC zGv := by decide +kernel
theorem zt_98 : Cond.stringRef "EmitDesk" 98 "nothing of that number is told" ∈ lw_tbl := List.mem_of_getElem? (i := 321) (by decide +kernel)
theorem zx_98 : Cond.exactly (.string "EmitDesk" 98) "java/lang/String" ∈ flatC zGv := by decide +kernel
theorem zt_100 : Cond.stringRef "EmitDesk" 100 "no such cell" ∈ lw_tbl := List.mem_of_getElem? (i := 329) (by decide +kernel)
theorem zx_100 : Cond.exactly (.string "EmitDesk" 100) "java/lang/String" ∈ flatC zGv := by decide +kernel
theorem zStrs {args : Array Value} {s : State} (ht : ∀ w ∈ lw_tbl, w.before args s = true) (hg : ∀ w ∈ flatC zGv, w.before args s = true) : ∀ q ∈ zStr, ∃ a, vk_R "EmitDesk" q.1 q.2 a s :=
  List.forall_mem_cons.mpr ⟨zStrOf (ht _ zt_38) (hg _ zx_38), List.forall_mem_cons.mpr ⟨zStrOf (ht _ zt_49) (hg _ zx_49), List.forall_mem_cons.mpr ⟨zStrOf (ht _ zt_55) (hg _ zx_55), List.forall_mem_cons.mpr ⟨zStrOf (ht _ zt_57) (hg _ zx_57), List.forall_mem_cons.mpr ⟨zStrOf (ht _ zt_63) (hg _ zx_63), List.forall_mem_cons.mpr ⟨zStrOf (ht _ zt_78) (hg _ zx_78), List.forall_mem_cons.mpr ⟨zStrOf (ht _ zt_86) (hg _ zx_86), List.forall_mem_cons.mpr ⟨zStrOf (ht _ zt_98) (hg _ zx_98), List.forall_mem_cons.mpr ⟨zStrOf (ht _ zt_100) (hg _ zx_100), fun _ h => absurd h List.not_mem_nil⟩⟩⟩⟩⟩⟩⟩⟩⟩
set_option maxRecDepth 20000 in
theorem zL_of {args : Array Value} {s : State} {F : Nat → Prop} (ht : ∀ w ∈ lw_tbl, w.before args s = true) (hg : ∀ w ∈ flatC zGv, w.before args s = true) (hF : ∀ a : Nat, a < s.heap.size → ¬ F a) : zL F s := by
  refine ⟨⟨⟨va_Nw.of rfl (ht _ (List.mem_of_getElem? (i := 113) (by decide +kernel))), va_Nw.of rfl (ht _ (List.mem_of_getElem? (i := 182) (by decide +kernel))), va_Nw.of rfl (ht _ (List.mem_of_getElem? (i := 276) (by decide +kernel))), va_Nw.of rfl (ht _ (List.mem_of_getElem? (i := 300) (by decide +kernel))), ⟨va_Nw.of rfl (ht _ (List.mem_of_getElem? (i := 115) (by decide +kernel))), va_Nw.of rfl (ht _ (List.mem_of_getElem? (i := 117) (by decide +kernel))), va_Nw.of rfl (ht _ (List.mem_of_getElem? (i := 119) (by decide +kernel)))⟩, zStrs ht hg⟩, ?_, ?_⟩, va_Nc.of (hg _ (by decide +kernel)), va_Nc.of (hg _ (by decide +kernel))⟩
  · exact vx_Zqof (ht _ (List.mem_of_getElem? (i := 138) (by decide +kernel))) (ht _ (List.mem_of_getElem? (i := 20) (by decide +kernel))) (hg _ (by decide +kernel)) hF
  · exact vx_Zqof (ht _ (List.mem_of_getElem? (i := 140) (by decide +kernel))) (ht _ (List.mem_of_getElem? (i := 20) (by decide +kernel))) (hg _ (by decide +kernel)) hF
