section
/-- a private method of a class that the tables say can be made, by its rows of tables_1 -/
def lw_okq (q : MethodName × Nat) : Prop := (q.1.cls ≠ "java/lang/invoke/MethodHandle" ∧ q.1.cls ≠ "java/lang/invoke/VarHandle") ∧ Cond.instantiable q.1.cls q.2 ∈ tables_1 ∧ Cond.privateMethod q.1 ∈ tables_1 ∧ Cond.instanceMethod q.1 ∈ tables_1
theorem lw_p0 : lw_okq (⟨"java/lang/Throwable", "fillInStackTrace", "(I)Ljava/lang/Throwable;"⟩, 6) := ⟨⟨by decide +kernel, by decide +kernel⟩, List.mem_of_getElem? (i := 134) (by decide +kernel), List.mem_of_getElem? (i := 132) (by decide +kernel), List.mem_of_getElem? (i := 133) (by decide +kernel)⟩
theorem lw_p1 : lw_okq (⟨"EmitDesk", "goesBehindEnd", "()Z"⟩, 17) := ⟨⟨by decide +kernel, by decide +kernel⟩, List.mem_of_getElem? (i := 11) (by decide +kernel), List.mem_of_getElem? (i := 197) (by decide +kernel), List.mem_of_getElem? (i := 198) (by decide +kernel)⟩
theorem lw_p2 : lw_okq (⟨"EmitDesk", "begin", "(IJ)V"⟩, 17) := ⟨⟨by decide +kernel, by decide +kernel⟩, List.mem_of_getElem? (i := 11) (by decide +kernel), List.mem_of_getElem? (i := 202) (by decide +kernel), List.mem_of_getElem? (i := 203) (by decide +kernel)⟩
theorem lw_p3 : lw_okq (⟨"EmitDesk", "runProgram", "()V"⟩, 17) := ⟨⟨by decide +kernel, by decide +kernel⟩, List.mem_of_getElem? (i := 11) (by decide +kernel), List.mem_of_getElem? (i := 206) (by decide +kernel), List.mem_of_getElem? (i := 207) (by decide +kernel)⟩
theorem lw_p4 : lw_okq (⟨"EmitDesk", "perform", "(IJ)V"⟩, 17) := ⟨⟨by decide +kernel, by decide +kernel⟩, List.mem_of_getElem? (i := 11) (by decide +kernel), List.mem_of_getElem? (i := 210) (by decide +kernel), List.mem_of_getElem? (i := 211) (by decide +kernel)⟩
theorem lw_p5 : lw_okq (⟨"EmitDesk", "push", "(J)V"⟩, 17) := ⟨⟨by decide +kernel, by decide +kernel⟩, List.mem_of_getElem? (i := 11) (by decide +kernel), List.mem_of_getElem? (i := 214) (by decide +kernel), List.mem_of_getElem? (i := 215) (by decide +kernel)⟩
theorem lw_p6 : lw_okq (⟨"EmitDesk", "pushValue", "()V"⟩, 17) := ⟨⟨by decide +kernel, by decide +kernel⟩, List.mem_of_getElem? (i := 11) (by decide +kernel), List.mem_of_getElem? (i := 218) (by decide +kernel), List.mem_of_getElem? (i := 219) (by decide +kernel)⟩
theorem lw_p7 : lw_okq (⟨"EmitDesk", "hasNext", "()Z"⟩, 17) := ⟨⟨by decide +kernel, by decide +kernel⟩, List.mem_of_getElem? (i := 11) (by decide +kernel), List.mem_of_getElem? (i := 222) (by decide +kernel), List.mem_of_getElem? (i := 223) (by decide +kernel)⟩
theorem lw_p8 : lw_okq (⟨"EmitDesk", "popCell", "(I)V"⟩, 17) := ⟨⟨by decide +kernel, by decide +kernel⟩, List.mem_of_getElem? (i := 11) (by decide +kernel), List.mem_of_getElem? (i := 226) (by decide +kernel), List.mem_of_getElem? (i := 227) (by decide +kernel)⟩
theorem lw_p9 : lw_okq (⟨"EmitDesk", "pop", "()J"⟩, 17) := ⟨⟨by decide +kernel, by decide +kernel⟩, List.mem_of_getElem? (i := 11) (by decide +kernel), List.mem_of_getElem? (i := 230) (by decide +kernel), List.mem_of_getElem? (i := 231) (by decide +kernel)⟩
theorem lw_p10 : lw_okq (⟨"EmitDesk", "doubleTop", "()V"⟩, 17) := ⟨⟨by decide +kernel, by decide +kernel⟩, List.mem_of_getElem? (i := 11) (by decide +kernel), List.mem_of_getElem? (i := 234) (by decide +kernel), List.mem_of_getElem? (i := 235) (by decide +kernel)⟩
theorem lw_p11 : lw_okq (⟨"EmitDesk", "changeTwo", "()V"⟩, 17) := ⟨⟨by decide +kernel, by decide +kernel⟩, List.mem_of_getElem? (i := 11) (by decide +kernel), List.mem_of_getElem? (i := 238) (by decide +kernel), List.mem_of_getElem? (i := 239) (by decide +kernel)⟩
theorem lw_p12 : lw_okq (⟨"EmitDesk", "goIfZero", "(I)V"⟩, 17) := ⟨⟨by decide +kernel, by decide +kernel⟩, List.mem_of_getElem? (i := 11) (by decide +kernel), List.mem_of_getElem? (i := 242) (by decide +kernel), List.mem_of_getElem? (i := 243) (by decide +kernel)⟩
theorem lw_p13 : lw_okq (⟨"EmitDesk", "emitPair", "()V"⟩, 17) := ⟨⟨by decide +kernel, by decide +kernel⟩, List.mem_of_getElem? (i := 11) (by decide +kernel), List.mem_of_getElem? (i := 246) (by decide +kernel), List.mem_of_getElem? (i := 247) (by decide +kernel)⟩
theorem lw_p14 : lw_okq (⟨"EmitDesk", "combine", "(I)V"⟩, 17) := ⟨⟨by decide +kernel, by decide +kernel⟩, List.mem_of_getElem? (i := 11) (by decide +kernel), List.mem_of_getElem? (i := 250) (by decide +kernel), List.mem_of_getElem? (i := 251) (by decide +kernel)⟩
theorem lw_p15 : lw_okq (⟨"EmitDesk", "divide", "(JJ)V"⟩, 17) := ⟨⟨by decide +kernel, by decide +kernel⟩, List.mem_of_getElem? (i := 11) (by decide +kernel), List.mem_of_getElem? (i := 254) (by decide +kernel), List.mem_of_getElem? (i := 255) (by decide +kernel)⟩
def lw_privs_1 : List (MethodName × Nat) := [(⟨"java/lang/Throwable", "fillInStackTrace", "(I)Ljava/lang/Throwable;"⟩, 6), (⟨"EmitDesk", "goesBehindEnd", "()Z"⟩, 17), (⟨"EmitDesk", "begin", "(IJ)V"⟩, 17), (⟨"EmitDesk", "runProgram", "()V"⟩, 17), (⟨"EmitDesk", "perform", "(IJ)V"⟩, 17), (⟨"EmitDesk", "push", "(J)V"⟩, 17), (⟨"EmitDesk", "pushValue", "()V"⟩, 17), (⟨"EmitDesk", "hasNext", "()Z"⟩, 17), (⟨"EmitDesk", "popCell", "(I)V"⟩, 17), (⟨"EmitDesk", "pop", "()J"⟩, 17), (⟨"EmitDesk", "doubleTop", "()V"⟩, 17), (⟨"EmitDesk", "changeTwo", "()V"⟩, 17), (⟨"EmitDesk", "goIfZero", "(I)V"⟩, 17), (⟨"EmitDesk", "emitPair", "()V"⟩, 17), (⟨"EmitDesk", "combine", "(I)V"⟩, 17), (⟨"EmitDesk", "divide", "(JJ)V"⟩, 17)]
theorem lw_r1 : ∀ q ∈ lw_privs_1, lw_okq q := List.forall_mem_cons.mpr ⟨lw_p0, List.forall_mem_cons.mpr ⟨lw_p1, List.forall_mem_cons.mpr ⟨lw_p2, List.forall_mem_cons.mpr ⟨lw_p3, List.forall_mem_cons.mpr ⟨lw_p4, List.forall_mem_cons.mpr ⟨lw_p5, List.forall_mem_cons.mpr ⟨lw_p6, List.forall_mem_cons.mpr ⟨lw_p7, List.forall_mem_cons.mpr ⟨lw_p8, List.forall_mem_cons.mpr ⟨lw_p9, List.forall_mem_cons.mpr ⟨lw_p10, List.forall_mem_cons.mpr ⟨lw_p11, List.forall_mem_cons.mpr ⟨lw_p12, List.forall_mem_cons.mpr ⟨lw_p13, List.forall_mem_cons.mpr ⟨lw_p14, List.forall_mem_cons.mpr ⟨lw_p15, fun _ h => absurd h List.not_mem_nil⟩⟩⟩⟩⟩⟩⟩⟩⟩⟩⟩⟩⟩⟩⟩⟩
theorem lw_p16 : lw_okq (⟨"EmitDeskModel", "isDone", "(IJ)Z"⟩, 15) := ⟨⟨by decide +kernel, by decide +kernel⟩, List.mem_of_getElem? (i := 314) (by decide +kernel), List.mem_of_getElem? (i := 393) (by decide +kernel), List.mem_of_getElem? (i := 394) (by decide +kernel)⟩
def lw_privs_2 : List (MethodName × Nat) := [(⟨"EmitDeskModel", "isDone", "(IJ)Z"⟩, 15)]
theorem lw_r2 : ∀ q ∈ lw_privs_2, lw_okq q := List.forall_mem_cons.mpr ⟨lw_p16, fun _ h => absurd h List.not_mem_nil⟩
def lw_privs : List (MethodName × Nat) := lw_privs_1 ++ (lw_privs_2)
def lw_tbl : List Cond := k2_sels lw_privs ++ tables_1
theorem lw_privs_ok : ∀ q ∈ lw_privs, lw_okq q := by
  show ∀ q ∈ lw_privs_1 ++ (lw_privs_2), lw_okq q
  exact List.forall_mem_append.mpr ⟨lw_r1, lw_r2⟩
end
section
/-! ===== BEGIN words of one list among another's, by their places ===== -/
theorem goodIn_r {big : List Cond} (ws : List Cond) (ps : List Nat) (hp : ws = ps.filterMap (fun i => big[i]?)) (h : ws.all goodWord = true) : GoodIn big ws := by
  intro w hw
  have h1 := List.all_eq_true.mp h w hw
  rw [hp] at hw
  obtain ⟨i, -, hi⟩ := List.mem_filterMap.mp hw
  have hm : w ∈ big := by first | exact List.mem_of_getElem? hi | exact List.getElem?_mem hi
  exact ⟨hm, good_of_word h1⟩
theorem goodIn_app {big a b : List Cond} (ha : GoodIn big a) (hb : GoodIn big b) : GoodIn big (a ++ b) := fun w h => (List.mem_append.mp h).elim (ha w) (hb w)
theorem goodIn_ca {big a b : List Cond} {c : Cond} (ha : GoodIn big (c :: a)) (hb : GoodIn big b) : GoodIn big (c :: (a ++ b)) := fun w h => (List.mem_cons.mp h).elim (fun e => ha w (List.mem_cons.mpr (Or.inl e))) (fun h => (List.mem_append.mp h).elim (fun h => ha w (List.mem_cons.mpr (Or.inr h))) (hb w))
theorem goodIn_sub {big ws : List Cond} (hm : ∀ w ∈ ws, w ∈ big) (h : ws.all goodWord = true) : GoodIn big ws := fun w hw => ⟨hm w hw, good_of_word (List.all_eq_true.mp h w hw)⟩
/-! ===== END ===== -/

/-! ===== BEGIN exceptions that leave a method, and their catching by the caller (launches without stack traces) ===== -/
section VXA
/-! The laws vx_back, vx_callV, vx_callS, vx_callSW, vx_throw0, vx_throwS follow proofs of the library, with one case more: JvmDerived/Free/Laws.lean (Back.of_free), Shelf42/LK1.lean (callV, callS), Shelf/KitTraced.lean (throwNew0V, throwNewS). -/
/-- where a method has thrown q: the class by its name, the cell, what was written, the world -/
def vx_T (XC : String → State → State → Prop) (st : State) (q : Addr) (t : State) (mc ms : Nat) (free : Addr → Prop) : Prop :=
  ∃ (E : String) (ce : Cell) (L : List Loc), XC E st t ∧ t.heap[q]? = some ce ∧ ce.vm = .none ∧ st.vm.findClass E = some ce.cls ∧ st.WarmedH t.vm ∧ st.sameButNew ({ t with vm := st.vm } : State) L mc ms ∧ ∀ z ∈ L, free z.base
def vx_Q (Qc : Array Value → State → Outcome → State → Prop) (XC : String → State → State → Prop) (mc ms : Nat) (free : Addr → Prop) : Array Value → State → Outcome → State → Prop := fun a st o t =>
  (Qc a st o t ∧ ∃ L, FrameEnd st o t L mc ms ∧ ∀ q ∈ L, free q.base) ∨ ∃ q, o = .threw q ∧ vx_T XC st q t mc ms free
/-- a callee that returns or throws -/
def vx_Met (l : Launch) (y : MethodName) (ws : List Cond) (rm : Room) (Pc : Array Value → State → Prop) (Qc : Array Value → State → Outcome → State → Prop) (XC : String → State → State → Prop) (mc ms : Nat) (free : Addr → Prop) : Prop :=
  MetFree l y (headSpec ws rm) Pc (fun _ _ _ _ _ => True) (vx_Q Qc XC mc ms free)
def vx_Post (XC : String → State → State → Prop) (mc ms : Nat) (free : Addr → Prop) : Pt → Array Value → Addr → Pt → Prop := fun A a q B =>
  ∃ (g : JFrame) (mk : MethodId) (t : State) (L : List Loc) (E : String) (ce : Cell), B.U.heap = t.heap ∧ B.U.vm = t.vm ∧ XC E (A.U.calling g mk a) t ∧ t.heap[q]? = some ce ∧ ce.vm = .none ∧ A.U.vm.findClass E = some ce.cls ∧ B.locs = A.locs ++ L ∧ (∀ z ∈ L, free z.base) ∧ B.cells = A.cells + mc ∧ B.slots = A.slots + ms
def vx_Back (l : Launch) (R : Room) (p : Program) (e : Env) (below : List Frame) (s : State) (sargs : Array Value) (y : MethodName) (len W9 : Nat)
    (Pre : Pt → Array Value → Prop) (Post : Pt → Array Value → Option Value → Pt → Prop) (PostX : Pt → Array Value → Addr → Pt → Prop) : Prop :=
  ∀ (m : MethodId) (meth : Method) (c : Code) (A : Pt) (g : JFrame) (ig : Instr) (mk : MethodId) (a : Array Value),
    Stand p l e R s m sargs below meth c A.U A.locs A.cells A.slots → g.method = m → g.locals.size = c.maxLocals → decode c.code g.pc = .ok (ig, len) →
    2 * g.monitorRoom + (g.stack.map fun v => v.category).sum ≤ W9 → A.U.methodNamed? y = some mk → Pre A a →
    (∃ (v : Option Value) (B : Pt), Stand p l e R s m sargs below meth c B.U B.locs B.cells B.slots ∧ Post A a v B ∧
      Steps p.tables e below (doInvoke e (A.U.setTop g) [] mk a).1 (B.U.setTop { g with pc := g.pc + len, stack := v.toList ++ g.stack })) ∨
    (∃ (q : Addr) (B : Pt), Stand p l e R s m sargs below meth c B.U B.locs B.cells B.slots ∧ PostX A a q B ∧
      Steps p.tables e below (doInvoke e (A.U.setTop g) [] mk a).1 ((B.U.setTop g).pushFrame (.throwing q)))
section Payer
variable {l : Launch} {R : Room} {p : Program} {e : Env} {below : List Frame} {s : State} {sargs : Array Value} {y : MethodName} {len W9 : Nat}
theorem vx_back {ws : List Cond} {rm : Room} {Pc : Array Value → State → Prop} {Qc : Array Value → State → Outcome → State → Prop} {XC : String → State → State → Prop} {mc ms : Nat} {free : Addr → Prop} {bytes : ByteArray} {maxL : Nat} {ret : Option FieldType}
    (hM : vx_Met l y ws rm Pc Qc XC mc ms free) (hblind : FrameBlind Pc) (hrc : rm.cells = mc) (hrs : rm.slots = ms)
    (hframes : rm.frames + 1 ≤ R.frames) (hlocals : W9 + (maxL + 11) + rm.locals ≤ R.locals)
    (hws : ∀ w ∈ ws, ∀ a' U, s.WarmedH U.vm → w.before a' U = true) (hcode : Cond.code y bytes maxL ret ∈ ws) (hinit : ∀ a' U, s.WarmedH U.vm → (Cond.initialized y.cls).before a' U = true) :
    vx_Back l R p e below s sargs y len W9 (PreOf R mc ms Pc) (PostOf Qc mc ms free) (vx_Post XC mc ms free) := by
  intro m meth c A g ig mk a X hg hsize hdg hW hn hp
  have h1 : (headSpec ws rm).pre.before a A.U = true := atoms_intro fun w hw => hws w hw _ _ X.warmed
  have h2 : (Cond.code y bytes maxL ret).before a A.U = true := hws _ hcode _ _ X.warmed
  have h3 : (Cond.initialized y.cls).before a A.U = true := hinit _ _ X.warmed
  have h4 : A.cells + (headSpec ws rm).room.cells ≤ R.cells := by rw [show (headSpec ws rm).room.cells = mc from hrc]; exact hp.1
  have h5 : A.slots + (headSpec ws rm).room.slots ≤ R.slots := by rw [show (headSpec ws rm).room.slots = ms from hrs]; exact hp.2.1
  have hPc : Pc a (A.U.calling g mk a) := hblind _ _ _ _ hp.2.2
  obtain ⟨U, Ls, c0, s0⟩ := A
  dsimp only [Pt.U, Pt.locs, Pt.cells, Pt.slots] at h1 h2 h3 h4 h5 X hn hPc ⊢
  obtain ⟨methY, cY, hmY, hcY, -, hlY, -, -, -, -⟩ := Cond.code_spec hn h2
  obtain ⟨kY, hkY, -⟩ := className_of_methodNamed hn
  have hinitY : kY.init = .initialized := Cond.initialized_spec (findClass_of_methodNamed hn) hkY h3
  have h : At U g.method c below := by rw [hg]; exact X.here
  have hlocals9 : W9 + (maxL + 11) + (headSpec ws rm).room.locals ≤ R.locals := hlocals
  have happ : (headSpec ws rm).appliesLoose y e.platform (U.calling g mk a) = true :=
    Spec.appliesLoose_calling (g := g) h hdg hn hkY hinitY
      (X.room_calling (g := g) (R' := (headSpec ws rm).room) hsize hmY hcY hframes (by rw [hlY]; omega) h4 h5) h1
  obtain ⟨mid, hmid⟩ := h.above
  have hfr : (U.setTop g).frames = (.java g :: mid) ++ below := by rw [State.frames_setTop' g h.top, hmid]; rfl
  obtain ⟨o, s₂, hsteps, -, hend, hq⟩ := Steps.callFree hM p X.admits X.cas X.clock (acts := []) hfr happ hPc trivial
  have hq' : vx_Q Qc XC mc ms free a (U.calling g mk a) o s₂ := hq
  rw [State.frames_setTop' g h.top] at hend
  obtain ⟨g₀, hg0⟩ := Option.isSome_iff_exists.mp h.top
  obtain ⟨r, hr⟩ := State.topJava?_eq_some.mp hg0
  have hr' : (({ U with heap := s₂.heap, slotsUsed := s₂.slotsUsed } : State).setVm s₂.vm).frames = .java g₀ :: r := hr
  rcases hq' with ⟨hqc, L, hfe, hL⟩ | ⟨q, rfl, E, ce, L, hx, hce, hcv, hcl, hW₂, hsm, hL⟩
  · obtain ⟨⟨v, rfl⟩, hW₂, e2, q2, q3, q4, q5, q6⟩ := id hfe
    have e3 : s₂ = ({ (U.calling g mk a).setFrames s₂.frames with heap := s₂.heap, slotsUsed := s₂.slotsUsed } : State).setVm s₂.vm := by
      have : s₂ = ({ s₂ with vm := (U.calling g mk a).vm } : State).setVm s₂.vm := rfl
      rw [e2] at this
      exact this
    obtain ⟨c₂, i₂, len₂, hc₂, hd₂, hf₂⟩ := hend
    have hW' : U.WarmedH s₂.vm := hW₂
    have hcc : c₂ = c := by
      have h1 : s₂.code? g.method = U.code? g.method := by
        rw [State.code?_eq, State.code?_eq, hW'.alike.method?]
      exact Option.some.inj (hc₂.symm.trans (h1.trans h.code))
    subst hcc
    have hlen : len₂ = len := by rw [hdg] at hd₂; cases hd₂; rfl
    subst hlen
    have hs₂ : s₂ = (({ U with heap := s₂.heap, slotsUsed := s₂.slotsUsed } : State).setVm s₂.vm).setTop { g with pc := g.pc + len₂, stack := v.toList ++ g.stack } := by
      refine e3.trans ?_
      rw [hf₂, State.calling_eq h.top, State.setFrames_setFrames, State.setTop_of_frames _ hr', hr]
      rfl
    have hsame : U.sameButNew ({ U with heap := s₂.heap, slotsUsed := s₂.slotsUsed } : State) L mc ms := by
      refine ⟨?_, q2, q3, q4, q5, q6⟩
      obtain ⟨t, ht, -⟩ := State.frames_cons hr
      show ({ U with heap := s₂.heap, slotsUsed := s₂.slotsUsed } : State) = { U.setFrames U.frames with heap := s₂.heap, slotsUsed := s₂.slotsUsed }
      rw [State.setFrames_self ht]
    subst hg
    refine Or.inl ⟨v, ⟨(({ U with heap := s₂.heap, slotsUsed := s₂.slotsUsed } : State).setVm s₂.vm), Ls ++ L, c0 + mc, s0 + ms⟩,
      ⟨X.admits, X.cas, X.clock, X.frames, X.room, X.hears, X.method, X.code, (X.here.setHeapUsed s₂.heap s₂.slotsUsed).setVm hW'.alike, X.tail, State.WarmedH.trans X.warmed hW', X.limits, X.bytes, X.same.trans (hsame.setVm s.vm)⟩,
      ⟨g, mk, s₂, L, rfl, rfl, hqc, rfl, hL, rfl, rfl⟩, ?_⟩
    show Steps p.tables e below _ ((({ U with heap := s₂.heap, slotsUsed := s₂.slotsUsed } : State).setVm s₂.vm).setTop { g with pc := g.pc + len₂, stack := v.toList ++ g.stack })
    rw [← hs₂]
    exact hsteps
  · obtain ⟨e2, q2, q3, q4, q5, q6⟩ := id hsm
    have e3 : s₂ = ({ (U.calling g mk a).setFrames s₂.frames with heap := s₂.heap, slotsUsed := s₂.slotsUsed } : State).setVm s₂.vm := by
      have : s₂ = ({ s₂ with vm := (U.calling g mk a).vm } : State).setVm s₂.vm := rfl
      rw [e2] at this
      exact this
    have hf₂ : s₂.frames = .throwing q :: .java g :: U.frames.tail := hend
    have hW' : U.WarmedH s₂.vm := hW₂
    have hs₂ : s₂ = ((({ U with heap := s₂.heap, slotsUsed := s₂.slotsUsed } : State).setVm s₂.vm).setTop g).pushFrame (.throwing q) := by
      refine e3.trans ?_
      rw [hf₂, State.calling_eq h.top, State.setFrames_setFrames, State.pushFrame, State.frames_setTop _ hr', State.setTop_of_frames _ hr', State.setFrames_setFrames, hr]
      rfl
    have hsame : U.sameButNew ({ U with heap := s₂.heap, slotsUsed := s₂.slotsUsed } : State) L mc ms := by
      refine ⟨?_, q2, q3, q4, q5, q6⟩
      obtain ⟨t, ht, -⟩ := State.frames_cons hr
      show ({ U with heap := s₂.heap, slotsUsed := s₂.slotsUsed } : State) = { U.setFrames U.frames with heap := s₂.heap, slotsUsed := s₂.slotsUsed }
      rw [State.setFrames_self ht]
    subst hg
    refine Or.inr ⟨q, ⟨(({ U with heap := s₂.heap, slotsUsed := s₂.slotsUsed } : State).setVm s₂.vm), Ls ++ L, c0 + mc, s0 + ms⟩,
      ⟨X.admits, X.cas, X.clock, X.frames, X.room, X.hears, X.method, X.code, (X.here.setHeapUsed s₂.heap s₂.slotsUsed).setVm hW'.alike, X.tail, State.WarmedH.trans X.warmed hW', X.limits, X.bytes, X.same.trans (hsame.setVm s.vm)⟩,
      ⟨g, mk, s₂, L, E, ce, rfl, rfl, hx, hce, hcv, hcl, rfl, hL, rfl, rfl⟩, ?_⟩
    show Steps p.tables e below _ (((({ U with heap := s₂.heap, slotsUsed := s₂.slotsUsed } : State).setVm s₂.vm).setTop g).pushFrame (.throwing q))
    rw [← hs₂]
    exact hsteps
end Payer
section Calls
variable {p : Program} {l : Launch} {e : Env} {R : Room} {s : State} {m : MethodId} {args : Array Value} {below : List Frame} {meth : Method} {c : Code} {T : State} {locs : List Loc} {cells slots : Nat}
theorem vx_callV (X : Stand p l e R s m args below meth c T locs cells slots) (hexec : p.tables.exec = Jvm.exec) {own C : String} {index : Nat} {y : MethodName} {bytes : ByteArray} {maxL : Nat} {ret : Option FieldType}
    (hown : s.vm.findClass own = some m.cls) (hlink : (Cond.methodLink own index y).before args s = true) (hinst : (Cond.instanceMethod y).before args s = true) (hsel : (Cond.selects C y y).before args s = true)
    (hcode : (Cond.code y bytes maxL ret).before args s = true) (hy : y.cls ≠ "java/lang/invoke/MethodHandle" ∧ y.cls ≠ "java/lang/invoke/VarHandle")
    {W9 : Nat} {Pre : Pt → Array Value → Prop} {Post : Pt → Array Value → Option Value → Pt → Prop} {PostX : Pt → Array Value → Addr → Pt → Prop} (hK : vx_Back l R p e below s args y 3 W9 Pre Post PostX)
    {b : Addr} {cellB : Cell} (hcell : T.heap[b]? = some cellB) (hobj : cellB.vm.isStatics = false) (hcls : s.vm.findClass C = some cellB.cls)
    {g : JFrame} (hg : g.method = m) (hsize : g.locals.size = c.maxLocals) {argsL rest : List Value} (hlen : ∀ sig, parseMethodDescriptor y.desc = some sig → argsL.length = sig.parameters.length)
    (hstack : g.stack = argsL.reverse ++ .ref b :: rest) (hW : 2 * g.monitorRoom + (rest.map fun v => v.category).sum ≤ W9) (hdg : decode c.code g.pc = .ok (.invokevirtual index, 3))
    (hpre : ∀ vm₁, s.WarmedH vm₁ → Pre ⟨T.setVm vm₁, locs, cells, slots⟩ (Value.ref b :: argsL).toArray) :
    (∃ (v : Option Value) (vm₁ : Vm) (B : Pt), s.WarmedH vm₁ ∧ Stand p l e R s m args below meth c B.U B.locs B.cells B.slots ∧ Post ⟨T.setVm vm₁, locs, cells, slots⟩ (Value.ref b :: argsL).toArray v B ∧
      ∀ target, Steps p.tables e below (B.U.setTop { g with pc := g.pc + 3, stack := v.toList ++ rest }) target → Steps p.tables e below (T.setTop g) target) ∨
    (∃ (q : Addr) (vm₁ : Vm) (B : Pt), s.WarmedH vm₁ ∧ Stand p l e R s m args below meth c B.U B.locs B.cells B.slots ∧ PostX ⟨T.setVm vm₁, locs, cells, slots⟩ (Value.ref b :: argsL).toArray q B ∧
      Steps p.tables e below (T.setTop g) ((B.U.setTop { g with stack := rest }).pushFrame (.throwing q))) := by
  obtain ⟨mk, methM, hnamed, hmethM, hstM, habM⟩ := Cond.instanceMethod_spec hinst
  obtain ⟨methM', cM, hmethM', -, -, -, -, -, -, hsigM⟩ := Cond.code_spec hnamed hcode
  cases hmethM.symm.trans hmethM'
  obtain ⟨c2, r2, m2, q1, q2, q3, q4, kP, hkP, hkPi⟩ := Cond.selects_spec hsel
  cases hcls.symm.trans q1
  cases (State.methodFound?_of_named hnamed hy).symm.trans q2
  cases hnamed.symm.trans q3
  have hselP : selectMethod e.platform s.vm cellB.cls mk = .method mk := by rw [Launch.admits_selectMethod X.admits]; exact q4
  obtain ⟨vm₁, X₁, hstep₁⟩ := X.invokevirtual hexec hown hlink hnamed hmethM hstM hkP hkPi hy (a := b) (cell := cellB) hcell
    (fun z h => by rw [h] at hobj; cases hobj) hselP hmethM habM hkP hkPi (g := g) hg (argsL := argsL) (rest := rest) (hlen _ hsigM) hstack hdg
  rcases hK m meth c ⟨T.setVm vm₁, locs, cells, slots⟩ { g with stack := rest } (.invokevirtual index) mk (Value.ref b :: argsL).toArray X₁ hg hsize hdg hW (X₁.named hnamed) (hpre vm₁ X₁.warmed) with ⟨v, B, X', hpost, hsteps⟩ | ⟨q, B, X', hpost, hsteps⟩
  · exact Or.inl ⟨v, vm₁, B, X₁.warmed, X', hpost, fun target h => hstep₁ _ fun acts => by rw [doInvoke_state]; exact hsteps.trans h⟩
  · exact Or.inr ⟨q, vm₁, B, X₁.warmed, X', hpost, hstep₁ _ fun acts => by rw [doInvoke_state]; exact hsteps⟩
theorem vx_callS (X : Stand p l e R s m args below meth c T locs cells slots) (hexec : p.tables.exec = Jvm.exec) {own : String} {index : Nat} {y : MethodName} {bytes : ByteArray} {maxL : Nat} {ret : Option FieldType}
    (hown : s.vm.findClass own = some m.cls) (hlink : (Cond.methodLink own index y).before args s = true) (hstat : (Cond.static y).before args s = true) (hinit : (Cond.initialized y.cls).before args s = true)
    (hcode : (Cond.code y bytes maxL ret).before args s = true) (hy : y.cls ≠ "java/lang/invoke/MethodHandle" ∧ y.cls ≠ "java/lang/invoke/VarHandle")
    {W9 : Nat} {Pre : Pt → Array Value → Prop} {Post : Pt → Array Value → Option Value → Pt → Prop} {PostX : Pt → Array Value → Addr → Pt → Prop} (hK : vx_Back l R p e below s args y 3 W9 Pre Post PostX)
    {g : JFrame} (hg : g.method = m) (hsize : g.locals.size = c.maxLocals) {argsL rest : List Value} (hlen : ∀ sig, parseMethodDescriptor y.desc = some sig → argsL.length = sig.parameters.length)
    (hstack : g.stack = argsL.reverse ++ rest) (hW : 2 * g.monitorRoom + (rest.map fun v => v.category).sum ≤ W9) (hdg : decode c.code g.pc = .ok (.invokestatic index, 3))
    (hpre : ∀ vm₁, s.WarmedH vm₁ → Pre ⟨T.setVm vm₁, locs, cells, slots⟩ argsL.toArray) :
    (∃ (v : Option Value) (vm₁ : Vm) (B : Pt), s.WarmedH vm₁ ∧ Stand p l e R s m args below meth c B.U B.locs B.cells B.slots ∧ Post ⟨T.setVm vm₁, locs, cells, slots⟩ argsL.toArray v B ∧
      ∀ target, Steps p.tables e below (B.U.setTop { g with pc := g.pc + 3, stack := v.toList ++ rest }) target → Steps p.tables e below (T.setTop g) target) ∨
    (∃ (q : Addr) (vm₁ : Vm) (B : Pt), s.WarmedH vm₁ ∧ Stand p l e R s m args below meth c B.U B.locs B.cells B.slots ∧ PostX ⟨T.setVm vm₁, locs, cells, slots⟩ argsL.toArray q B ∧
      Steps p.tables e below (T.setTop g) ((B.U.setTop { g with stack := rest }).pushFrame (.throwing q))) := by
  obtain ⟨mk, hnamed⟩ := Cond.code_named hcode
  obtain ⟨methM, cM, hmethM, -, -, -, -, -, -, hsigM⟩ := Cond.code_spec hnamed hcode
  have hstatic : methM.isStatic = true := Cond.static_spec hnamed hmethM hstat
  obtain ⟨kP, hkP, -⟩ := className_of_methodNamed hnamed
  have hinitP : kP.init = .initialized := Cond.initialized_spec (findClass_of_methodNamed hnamed) hkP hinit
  obtain ⟨vm₁, X₁, hstep₁⟩ := X.invokestatic hexec hown hlink hnamed hmethM hstatic hkP hinitP hy (g := g) hg (argsL := argsL) (rest := rest) (hlen _ hsigM) hstack hdg
  rcases hK m meth c ⟨T.setVm vm₁, locs, cells, slots⟩ { g with stack := rest } (.invokestatic index) mk argsL.toArray X₁ hg hsize hdg hW (X₁.named hnamed) (hpre vm₁ X₁.warmed) with ⟨v, B, X', hpost, hsteps⟩ | ⟨q, B, X', hpost, hsteps⟩
  · exact Or.inl ⟨v, vm₁, B, X₁.warmed, X', hpost, fun target h => hstep₁ _ fun acts => by rw [doInvoke_state]; exact hsteps.trans h⟩
  · exact Or.inr ⟨q, vm₁, B, X₁.warmed, X', hpost, hstep₁ _ fun acts => by rw [doInvoke_state]; exact hsteps⟩
end Calls
theorem vx_cls {s : State} {T : State} {vm₁ : Vm} {E : String} {k : ClassId} (hW : s.WarmedH vm₁) (h : (T.setVm vm₁).vm.findClass E = some k) : s.vm.findClass E = some k := by
  have h1 : vm₁.findClass E = some k := h
  rw [hW.alike.findClass] at h1
  exact h1
/-- the method's frame g, with q thrown over it -/
def vx_W (p : Program) (l : Launch) (e : Env) (R : Room) (s : State) (m : MethodId) (args : Array Value) (below : List Frame) (meth : Method) (c : Code) (H : Heap) (locs : List Loc) (cells slots : Nat) (Q : State → Prop) (g : JFrame) (q : Addr) : Prop :=
  ∀ T : State, T.heap = H → Stand p l e R s m args below meth c T locs cells slots → ∃ t, Steps p.tables e below ((T.setTop g).pushFrame (.throwing q)) t ∧ Q t
def vx_Run (p : Program) (l : Launch) (e : Env) (R : Room) (s : State) (m : MethodId) (args : Array Value) (below : List Frame) (meth : Method) (c : Code) (H : Heap) (locs : List Loc) (cells slots mc ms : Nat) (g : JFrame) (rest : List Value) (Qa : State → Outcome → State → Prop) (XC : String → State → State → Prop) (free : Addr → Prop) : Prop :=
  ∀ T : State, T.heap = H → Stand p l e R s m args below meth c T locs cells slots →
    (∃ (v : Option Value) (st₀ t T' : State) (L : List Loc), st₀.heap = H ∧ Stand p l e R s m args below meth c T' (locs ++ L) (cells + mc) (slots + ms) ∧ (∀ q ∈ L, free q.base) ∧ T'.heap = t.heap ∧ T'.vm = t.vm ∧ Qa st₀ (.returned v) t ∧
      Goes p e below T g T' { g with pc := g.pc + 3, stack := v.toList ++ rest }) ∨
    (∃ (q : Addr) (st₀ t T' : State) (L : List Loc) (E : String) (ce : Cell), st₀.heap = H ∧ Stand p l e R s m args below meth c T' (locs ++ L) (cells + mc) (slots + ms) ∧ (∀ z ∈ L, free z.base) ∧ T'.heap = t.heap ∧ T'.vm = t.vm ∧ XC E st₀ t ∧ t.heap[q]? = some ce ∧ ce.vm = .none ∧ s.vm.findClass E = some ce.cls ∧
      Steps p.tables e below (T.setTop g) ((T'.setTop { g with stack := rest }).pushFrame (.throwing q)))
def vx_X {S : Type} (px : S → Prop) (B : String → S → State → Prop) (A : Nat → Prop) : String → State → State → Prop := fun E st t => ∃ u : S, px u ∧ B E u t ∧ va_F A st t
section Runs
variable {p : Program} {l : Launch} {e : Env} {R : Room} {s : State} {m : MethodId} {args : Array Value} {below : List Frame} {meth : Method} {c : Code} {H : Heap} {locs : List Loc} {cells slots : Nat}
variable {y : MethodName} {bytes cc : ByteArray} {maxL nL mc ms n index : Nat} {ret : Option FieldType} {ws : List Cond} {rm : Room} {Pc : Array Value → State → Prop} {Qc : Array Value → State → Outcome → State → Prop} {XC : String → State → State → Prop} {free : Addr → Prop} {Ts : List Cond} {own C : String} {b : Addr} {As rest : List Value} {g : JFrame}
theorem vx_callBack (cb : CallB R s args own index y bytes maxL ret ws rm mc ms n) (hM : vx_Met l y ws rm Pc Qc XC mc ms free) (hbl : FrameBlind Pc) : vx_Back l R p e below s args y 3 8 (PreOf R mc ms Pc) (PostOf Qc mc ms free) (vx_Post XC mc ms free) := by
  obtain ⟨hrc, hrs, hfr, hlo, hws, hcw, -, hini, -⟩ := cb
  exact vx_back (bytes := bytes) (maxL := maxL) (ret := ret) hM hbl hrc hrs hfr hlo hws hcw (fun a' U hW => word_at hW (Or.inl (by first | rfl | simp [Cond.onTables, Cond.keeps, Cond.steady])) hini)
theorem vx_runV (S : CallFix p m c cc nL s args Ts own) (hM : vx_Met l y ws rm Pc Qc XC mc ms free) (cw : CallW R s args own C index y bytes maxL ret ws rm mc ms n) (hp : PreV s H C b Pc As)
    (hg : g.method = m) (hn : As.length = n) (hsize : g.locals.size = nL) (hstack : g.stack = As.reverse ++ .ref b :: rest) (hW : 2 * g.monitorRoom + (rest.map fun v => v.category).sum ≤ 8) (hdg : decode cc g.pc = .ok (.invokevirtual index, 3)) (hf : cells + mc ≤ R.cells ∧ slots + ms ≤ R.slots) :
    vx_Run p l e R s m args below meth c H locs cells slots mc ms g rest (Qc (Value.ref b :: As).toArray) XC free := by
  have hK : vx_Back l R p e below s args y 3 8 (PreOf R mc ms Pc) (PostOf Qc mc ms free) (vx_Post XC mc ms free) := vx_callBack cw.1 hM hp.1
  obtain ⟨⟨-, -, -, -, -, -, hcode, -, hy, hlen, hl⟩, hin, hse⟩ := cw
  obtain ⟨hx, hb, hml, ho, -⟩ := S
  obtain ⟨-, ⟨cellB, hcB, hoB, hclB⟩, hPc⟩ := hp
  intro T hT X
  rcases vx_callV X hx (C := C) (bytes := bytes) (maxL := maxL) (ret := ret) ho hl hin hse hcode hy hK (by rw [hT]; exact hcB) hoB hclB hg (hsize.trans hml.symm) (argsL := As) (rest := rest) (fun sig h => hn.trans (hlen sig h)) hstack hW (by rw [hb]; exact hdg)
    (fun vm₁ hW₁ => ⟨hf.1, hf.2, hPc (T.setVm vm₁) hT hW₁⟩) with ⟨v, vm₁, ⟨U', l2, c2, s2⟩, hW₁, X', ⟨g', mk, t, L, e1, e2, hq, h1, hL, h2, h3⟩, st⟩ | ⟨q, vm₁, ⟨U', l2, c2, s2⟩, hW₁, X', ⟨g', mk, t, L, E, ce, e1, e2, hq, hce, hcv, hcl, h1, hL, h2, h3⟩, st⟩
  · dsimp only [Pt.U, Pt.locs, Pt.cells, Pt.slots] at X' e1 e2 h1 h2 h3 st
    subst h1; subst h2; subst h3
    exact Or.inl ⟨v, (T.setVm vm₁).calling g' mk (Value.ref b :: As).toArray, t, U', L, hT, X', hL, e1, e2, hq, st⟩
  · dsimp only [Pt.U, Pt.locs, Pt.cells, Pt.slots] at X' e1 e2 h1 h2 h3 st hcl
    subst h1; subst h2; subst h3
    exact Or.inr ⟨q, (T.setVm vm₁).calling g' mk (Value.ref b :: As).toArray, t, U', L, E, ce, hT, X', hL, e1, e2, hq, hce, hcv, vx_cls hW₁ hcl, st⟩
theorem vx_runS (S : CallFix p m c cc nL s args Ts own) (hM : vx_Met l y ws rm Pc Qc XC mc ms free) (cw : CallB R s args own index y bytes maxL ret ws rm mc ms n ∧ (Cond.static y).before args s = true) (hp : PreS s H Pc As)
    (hg : g.method = m) (hn : As.length = n) (hsize : g.locals.size = nL) (hstack : g.stack = As.reverse ++ rest) (hW : 2 * g.monitorRoom + (rest.map fun v => v.category).sum ≤ 8) (hdg : decode cc g.pc = .ok (.invokestatic index, 3)) (hf : cells + mc ≤ R.cells ∧ slots + ms ≤ R.slots) :
    vx_Run p l e R s m args below meth c H locs cells slots mc ms g rest (Qc As.toArray) XC free := by
  have hK : vx_Back l R p e below s args y 3 8 (PreOf R mc ms Pc) (PostOf Qc mc ms free) (vx_Post XC mc ms free) := vx_callBack cw.1 hM hp.1
  obtain ⟨⟨-, -, -, -, -, -, hcode, hini, hy, hlen, hl⟩, hstt⟩ := cw
  obtain ⟨hx, hb, hml, ho, -⟩ := S
  intro T hT X
  rcases vx_callS X hx (bytes := bytes) (maxL := maxL) (ret := ret) ho hl hstt hini hcode hy hK hg (hsize.trans hml.symm) (argsL := As) (rest := rest) (fun sig h => hn.trans (hlen sig h)) hstack hW (by rw [hb]; exact hdg)
    (fun vm₁ hW₁ => ⟨hf.1, hf.2, hp.2 (T.setVm vm₁) hT hW₁⟩) with ⟨v, vm₁, ⟨U', l2, c2, s2⟩, hW₁, X', ⟨g', mk, t, L, e1, e2, hq, h1, hL, h2, h3⟩, st⟩ | ⟨q, vm₁, ⟨U', l2, c2, s2⟩, hW₁, X', ⟨g', mk, t, L, E, ce, e1, e2, hq, hce, hcv, hcl, h1, hL, h2, h3⟩, st⟩
  · dsimp only [Pt.U, Pt.locs, Pt.cells, Pt.slots] at X' e1 e2 h1 h2 h3 st
    subst h1; subst h2; subst h3
    exact Or.inl ⟨v, (T.setVm vm₁).calling g' mk As.toArray, t, U', L, hT, X', hL, e1, e2, hq, st⟩
  · dsimp only [Pt.U, Pt.locs, Pt.cells, Pt.slots] at X' e1 e2 h1 h2 h3 st hcl
    subst h1; subst h2; subst h3
    exact Or.inr ⟨q, (T.setVm vm₁).calling g' mk As.toArray, t, U', L, E, ce, hT, X', hL, e1, e2, hq, hce, hcv, vx_cls hW₁ hcl, st⟩
end Runs
section Rows
variable {p : Program} {l : Launch} {e : Env} {R : Room} {s : State} {m : MethodId} {args : Array Value} {below : List Frame} {meth : Method} {c : Code} {H : Heap} {locs : List Loc} {cells slots : Nat} {Q : State → Prop}
variable {mc ms : Nat} {free : Addr → Prop} {A0 A1 : Nat → Prop} {H0 : Heap} {a : Array Value} {pc : Nat} {ls : Array Slot} {st0 rest : List Value}
theorem vx_keep {st₀ t T' : State} {L : List Loc} (h0 : st₀.heap = H) (e1 : T'.heap = t.heap) (hS : va_S A0 H0 H locs) (hA : ∀ q, q < H.size → A1 q → A0 q) (hf : ∀ q, free q → A0 q) (hL : ∀ q ∈ L, free q.base) (hF : va_F A1 st₀ t) :
    H.size ≤ T'.heap.size ∧ (∀ q : Nat, q < H.size → ¬ A1 q → T'.heap[q]? = H[q]?) ∧ va_S A0 H0 T'.heap (locs ++ L) := by
  obtain ⟨hz, hk⟩ := hF
  rw [h0] at hz hk
  exact ⟨by rw [e1]; exact hz, fun q h1 h2 => by rw [e1]; exact hk q h1 h2,
    ⟨Nat.le_trans hS.1 (by rw [e1]; exact hz), fun q h1 h2 => by rw [e1, hk q (Nat.lt_of_lt_of_le h1 hS.1) (fun z => h2 (hA q (Nat.lt_of_lt_of_le h1 hS.1) z))]; exact hS.2.1 q h1 h2, fun q hq => by
      rcases List.mem_append.mp hq with h | h
      · exact hS.2.2 q h
      · exact hf _ (hL q h)⟩⟩
theorem vx_calli {S SX : Type} {post : Int32 → S → Prop} {px : SX → Prop} {B : S → State → Prop} {BX : String → SX → State → Prop} {AX : Nat → Prop} (hr : vx_Run p l e R s m args below meth c H locs cells slots mc ms (F0 m pc ls st0) rest (va_Qi post B A1 a) (vx_X px BX AX) free) (hS : va_S A0 H0 H locs) (hA : ∀ q, q < H.size → A1 q → A0 q) (hf : ∀ q, free q → A0 q) (hAX : ∀ q, q < H.size → AX q → A0 q)
    (kx : ∀ (E : String) (ce : Cell) (q9 : Addr) (u : SX) (t : State) (H1 : Heap) (locs1 : List Loc), t.heap = H1 → s.vm.Alike t.vm → px u → BX E u t → H.size ≤ H1.size → (∀ q : Nat, q < H.size → ¬ AX q → H1[q]? = H[q]?) → va_S A0 H0 H1 locs1 → H1[q9]? = some ce → ce.vm = .none → s.vm.findClass E = some ce.cls → vx_W p l e R s m args below meth c H1 locs1 (cells + mc) (slots + ms) Q (F0 m pc ls rest) q9)
    (kk : ∀ (r : Int32) (u : S) (t : State) (H1 : Heap) (locs1 : List Loc), t.heap = H1 → s.vm.Alike t.vm → post r u → B u t → H.size ≤ H1.size → (∀ q : Nat, q < H.size → ¬ A1 q → H1[q]? = H[q]?) → va_S A0 H0 H1 locs1 → W p l e R s m args below meth c H1 locs1 (cells + mc) (slots + ms) Q (F0 m (pc + 3) ls (.int r :: rest))) : W p l e R s m args below meth c H locs cells slots Q (F0 m pc ls st0) := by
  intro T hT X
  rcases hr T hT X with ⟨v, st₀, t, T', L, h0, X', hL, e1, e2, ⟨⟨r, u, hv, hp, hb⟩, hF⟩, st⟩ | ⟨q, st₀, t, T', L, E, ce, h0, X', hL, e1, e2, ⟨u, hp, hb, hF⟩, hce, hcv, hcl, st⟩
  · cases hv
    obtain ⟨k1, k2, k3⟩ := vx_keep h0 e1 hS hA hf hL hF
    obtain ⟨t2, a1, b1⟩ := kk r u t T'.heap (locs ++ L) e1.symm (by rw [← e2]; exact X'.warmed.alike) hp hb k1 k2 k3 T' rfl X'
    exact ⟨t2, st t2 a1, b1⟩
  · obtain ⟨k1, k2, k3⟩ := vx_keep h0 e1 hS hAX hf hL hF
    obtain ⟨t2, a1, b1⟩ := kx E ce q u t T'.heap (locs ++ L) e1.symm (by rw [← e2]; exact X'.warmed.alike) hp hb k1 k2 k3 (by rw [e1]; exact hce) hcv hcl T' rfl X'
    exact ⟨t2, st.trans a1, b1⟩
theorem vx_calll {S SX : Type} {post : Int64 → S → Prop} {px : SX → Prop} {B : S → State → Prop} {BX : String → SX → State → Prop} {AX : Nat → Prop} (hr : vx_Run p l e R s m args below meth c H locs cells slots mc ms (F0 m pc ls st0) rest (va_Ql post B A1 a) (vx_X px BX AX) free) (hS : va_S A0 H0 H locs) (hA : ∀ q, q < H.size → A1 q → A0 q) (hf : ∀ q, free q → A0 q) (hAX : ∀ q, q < H.size → AX q → A0 q)
    (kx : ∀ (E : String) (ce : Cell) (q9 : Addr) (u : SX) (t : State) (H1 : Heap) (locs1 : List Loc), t.heap = H1 → s.vm.Alike t.vm → px u → BX E u t → H.size ≤ H1.size → (∀ q : Nat, q < H.size → ¬ AX q → H1[q]? = H[q]?) → va_S A0 H0 H1 locs1 → H1[q9]? = some ce → ce.vm = .none → s.vm.findClass E = some ce.cls → vx_W p l e R s m args below meth c H1 locs1 (cells + mc) (slots + ms) Q (F0 m pc ls rest) q9)
    (kk : ∀ (r : Int64) (u : S) (t : State) (H1 : Heap) (locs1 : List Loc), t.heap = H1 → s.vm.Alike t.vm → post r u → B u t → H.size ≤ H1.size → (∀ q : Nat, q < H.size → ¬ A1 q → H1[q]? = H[q]?) → va_S A0 H0 H1 locs1 → W p l e R s m args below meth c H1 locs1 (cells + mc) (slots + ms) Q (F0 m (pc + 3) ls (.long r :: rest))) : W p l e R s m args below meth c H locs cells slots Q (F0 m pc ls st0) := by
  intro T hT X
  rcases hr T hT X with ⟨v, st₀, t, T', L, h0, X', hL, e1, e2, ⟨⟨r, u, hv, hp, hb⟩, hF⟩, st⟩ | ⟨q, st₀, t, T', L, E, ce, h0, X', hL, e1, e2, ⟨u, hp, hb, hF⟩, hce, hcv, hcl, st⟩
  · cases hv
    obtain ⟨k1, k2, k3⟩ := vx_keep h0 e1 hS hA hf hL hF
    obtain ⟨t2, a1, b1⟩ := kk r u t T'.heap (locs ++ L) e1.symm (by rw [← e2]; exact X'.warmed.alike) hp hb k1 k2 k3 T' rfl X'
    exact ⟨t2, st t2 a1, b1⟩
  · obtain ⟨k1, k2, k3⟩ := vx_keep h0 e1 hS hAX hf hL hF
    obtain ⟨t2, a1, b1⟩ := kx E ce q u t T'.heap (locs ++ L) e1.symm (by rw [← e2]; exact X'.warmed.alike) hp hb k1 k2 k3 (by rw [e1]; exact hce) hcv hcl T' rfl X'
    exact ⟨t2, st.trans a1, b1⟩
theorem vx_callf {S SX : Type} {post : UInt32 → S → Prop} {px : SX → Prop} {B : S → State → Prop} {BX : String → SX → State → Prop} {AX : Nat → Prop} (hr : vx_Run p l e R s m args below meth c H locs cells slots mc ms (F0 m pc ls st0) rest (va_Qf post B A1 a) (vx_X px BX AX) free) (hS : va_S A0 H0 H locs) (hA : ∀ q, q < H.size → A1 q → A0 q) (hf : ∀ q, free q → A0 q) (hAX : ∀ q, q < H.size → AX q → A0 q)
    (kx : ∀ (E : String) (ce : Cell) (q9 : Addr) (u : SX) (t : State) (H1 : Heap) (locs1 : List Loc), t.heap = H1 → s.vm.Alike t.vm → px u → BX E u t → H.size ≤ H1.size → (∀ q : Nat, q < H.size → ¬ AX q → H1[q]? = H[q]?) → va_S A0 H0 H1 locs1 → H1[q9]? = some ce → ce.vm = .none → s.vm.findClass E = some ce.cls → vx_W p l e R s m args below meth c H1 locs1 (cells + mc) (slots + ms) Q (F0 m pc ls rest) q9)
    (kk : ∀ (r : UInt32) (u : S) (t : State) (H1 : Heap) (locs1 : List Loc), t.heap = H1 → s.vm.Alike t.vm → post r u → B u t → H.size ≤ H1.size → (∀ q : Nat, q < H.size → ¬ A1 q → H1[q]? = H[q]?) → va_S A0 H0 H1 locs1 → W p l e R s m args below meth c H1 locs1 (cells + mc) (slots + ms) Q (F0 m (pc + 3) ls (.float r :: rest))) : W p l e R s m args below meth c H locs cells slots Q (F0 m pc ls st0) := by
  intro T hT X
  rcases hr T hT X with ⟨v, st₀, t, T', L, h0, X', hL, e1, e2, ⟨⟨r, u, hv, hp, hb⟩, hF⟩, st⟩ | ⟨q, st₀, t, T', L, E, ce, h0, X', hL, e1, e2, ⟨u, hp, hb, hF⟩, hce, hcv, hcl, st⟩
  · cases hv
    obtain ⟨k1, k2, k3⟩ := vx_keep h0 e1 hS hA hf hL hF
    obtain ⟨t2, a1, b1⟩ := kk r u t T'.heap (locs ++ L) e1.symm (by rw [← e2]; exact X'.warmed.alike) hp hb k1 k2 k3 T' rfl X'
    exact ⟨t2, st t2 a1, b1⟩
  · obtain ⟨k1, k2, k3⟩ := vx_keep h0 e1 hS hAX hf hL hF
    obtain ⟨t2, a1, b1⟩ := kx E ce q u t T'.heap (locs ++ L) e1.symm (by rw [← e2]; exact X'.warmed.alike) hp hb k1 k2 k3 (by rw [e1]; exact hce) hcv hcl T' rfl X'
    exact ⟨t2, st.trans a1, b1⟩
theorem vx_calld {S SX : Type} {post : UInt64 → S → Prop} {px : SX → Prop} {B : S → State → Prop} {BX : String → SX → State → Prop} {AX : Nat → Prop} (hr : vx_Run p l e R s m args below meth c H locs cells slots mc ms (F0 m pc ls st0) rest (va_Qd post B A1 a) (vx_X px BX AX) free) (hS : va_S A0 H0 H locs) (hA : ∀ q, q < H.size → A1 q → A0 q) (hf : ∀ q, free q → A0 q) (hAX : ∀ q, q < H.size → AX q → A0 q)
    (kx : ∀ (E : String) (ce : Cell) (q9 : Addr) (u : SX) (t : State) (H1 : Heap) (locs1 : List Loc), t.heap = H1 → s.vm.Alike t.vm → px u → BX E u t → H.size ≤ H1.size → (∀ q : Nat, q < H.size → ¬ AX q → H1[q]? = H[q]?) → va_S A0 H0 H1 locs1 → H1[q9]? = some ce → ce.vm = .none → s.vm.findClass E = some ce.cls → vx_W p l e R s m args below meth c H1 locs1 (cells + mc) (slots + ms) Q (F0 m pc ls rest) q9)
    (kk : ∀ (r : UInt64) (u : S) (t : State) (H1 : Heap) (locs1 : List Loc), t.heap = H1 → s.vm.Alike t.vm → post r u → B u t → H.size ≤ H1.size → (∀ q : Nat, q < H.size → ¬ A1 q → H1[q]? = H[q]?) → va_S A0 H0 H1 locs1 → W p l e R s m args below meth c H1 locs1 (cells + mc) (slots + ms) Q (F0 m (pc + 3) ls (.double r :: rest))) : W p l e R s m args below meth c H locs cells slots Q (F0 m pc ls st0) := by
  intro T hT X
  rcases hr T hT X with ⟨v, st₀, t, T', L, h0, X', hL, e1, e2, ⟨⟨r, u, hv, hp, hb⟩, hF⟩, st⟩ | ⟨q, st₀, t, T', L, E, ce, h0, X', hL, e1, e2, ⟨u, hp, hb, hF⟩, hce, hcv, hcl, st⟩
  · cases hv
    obtain ⟨k1, k2, k3⟩ := vx_keep h0 e1 hS hA hf hL hF
    obtain ⟨t2, a1, b1⟩ := kk r u t T'.heap (locs ++ L) e1.symm (by rw [← e2]; exact X'.warmed.alike) hp hb k1 k2 k3 T' rfl X'
    exact ⟨t2, st t2 a1, b1⟩
  · obtain ⟨k1, k2, k3⟩ := vx_keep h0 e1 hS hAX hf hL hF
    obtain ⟨t2, a1, b1⟩ := kx E ce q u t T'.heap (locs ++ L) e1.symm (by rw [← e2]; exact X'.warmed.alike) hp hb k1 k2 k3 (by rw [e1]; exact hce) hcv hcl T' rfl X'
    exact ⟨t2, st.trans a1, b1⟩
theorem vx_callv {S SX : Type} {post : S → Prop} {px : SX → Prop} {B : S → State → Prop} {BX : String → SX → State → Prop} {AX : Nat → Prop} (hr : vx_Run p l e R s m args below meth c H locs cells slots mc ms (F0 m pc ls st0) rest (va_Qv post B A1 a) (vx_X px BX AX) free) (hS : va_S A0 H0 H locs) (hA : ∀ q, q < H.size → A1 q → A0 q) (hf : ∀ q, free q → A0 q) (hAX : ∀ q, q < H.size → AX q → A0 q)
    (kx : ∀ (E : String) (ce : Cell) (q9 : Addr) (u : SX) (t : State) (H1 : Heap) (locs1 : List Loc), t.heap = H1 → s.vm.Alike t.vm → px u → BX E u t → H.size ≤ H1.size → (∀ q : Nat, q < H.size → ¬ AX q → H1[q]? = H[q]?) → va_S A0 H0 H1 locs1 → H1[q9]? = some ce → ce.vm = .none → s.vm.findClass E = some ce.cls → vx_W p l e R s m args below meth c H1 locs1 (cells + mc) (slots + ms) Q (F0 m pc ls rest) q9)
    (kk : ∀ (u : S) (t : State) (H1 : Heap) (locs1 : List Loc), t.heap = H1 → s.vm.Alike t.vm → post u → B u t → H.size ≤ H1.size → (∀ q : Nat, q < H.size → ¬ A1 q → H1[q]? = H[q]?) → va_S A0 H0 H1 locs1 → W p l e R s m args below meth c H1 locs1 (cells + mc) (slots + ms) Q (F0 m (pc + 3) ls (rest))) : W p l e R s m args below meth c H locs cells slots Q (F0 m pc ls st0) := by
  intro T hT X
  rcases hr T hT X with ⟨v, st₀, t, T', L, h0, X', hL, e1, e2, ⟨⟨u, hv, hp, hb⟩, hF⟩, st⟩ | ⟨q, st₀, t, T', L, E, ce, h0, X', hL, e1, e2, ⟨u, hp, hb, hF⟩, hce, hcv, hcl, st⟩
  · cases hv
    obtain ⟨k1, k2, k3⟩ := vx_keep h0 e1 hS hA hf hL hF
    obtain ⟨t2, a1, b1⟩ := kk u t T'.heap (locs ++ L) e1.symm (by rw [← e2]; exact X'.warmed.alike) hp hb k1 k2 k3 T' rfl X'
    exact ⟨t2, st t2 a1, b1⟩
  · obtain ⟨k1, k2, k3⟩ := vx_keep h0 e1 hS hAX hf hL hF
    obtain ⟨t2, a1, b1⟩ := kx E ce q u t T'.heap (locs ++ L) e1.symm (by rw [← e2]; exact X'.warmed.alike) hp hb k1 k2 k3 (by rw [e1]; exact hce) hcv hcl T' rfl X'
    exact ⟨t2, st.trans a1, b1⟩
/-- caught by the row x of this method's table; the rows ahead don't take it -/
theorem vx_catch {own name : String} {E : String} {ce : Cell} {q : Addr} (hown : s.vm.findClass own = some m.cls) (pre : List ExceptionTableEntry) (x : ExceptionTableEntry) (suf : List ExceptionTableEntry) (hsplit : c.exceptionTable.toList = pre ++ x :: suf)
    (hpass : ∀ z ∈ pre, covers z pc = false ∨ (z.catchType ≠ 0 ∧ ∃ nm : String, (Cond.classLink own z.catchType nm).before args s = true ∧ va_Nc E nm s)) (hx : covers x pc = true) (h0 : x.catchType ≠ 0)
    (hlink : (Cond.classLink own x.catchType name).before args s = true) (hcast : (Cond.castable E name).before args s = true) (hcell : H[q]? = some ce) (hv : ce.vm = .none) (hcl : s.vm.findClass E = some ce.cls)
    (kk : W p l e R s m args below meth c H locs cells slots Q (F0 m x.handlerPc ls [.ref q])) : vx_W p l e R s m args below meth c H locs cells slots Q (F0 m pc ls rest) q := by
  intro T hT X
  have hpl : e.platform.magicAccessors = ({} : Platform).magicAccessors := by rw [X.admits.platform]
  obtain ⟨c3, c4, hc3, hc4, hasg⟩ := Cond.castable_spec hcast
  cases Option.some.inj (hc3.symm.trans hcl)
  obtain ⟨c5, hc5, hcl5⟩ := Cond.classLink_spec hown hlink e.platform hpl
  cases Option.some.inj (hc4.symm.trans hc5)
  obtain ⟨vm', X', st⟩ := X.thenCaughtThrough q (g := F0 m pc ls rest) rfl (Steps.refl _) (by rw [hT]; exact hcell) (by rw [hv]; rfl) (by obtain ⟨k9, h9, -⟩ := Vm.findClass_spec hcl; exact ⟨k9, h9⟩) pre x suf hsplit
    (fun z hz => by
      rcases hpass z hz with h | ⟨hz0, nm, hl1, hn1⟩
      · exact Or.inl h
      · obtain ⟨c6, hc6, hcl6⟩ := Cond.classLink_spec hown hl1 e.platform hpl
        obtain ⟨a8, b8, h1, h2, h3⟩ := hn1
        cases Option.some.inj (h1.symm.trans hcl)
        cases Option.some.inj (h2.symm.trans hc6)
        exact Or.inr ⟨hz0, _, hcl6, h3⟩) hx (Or.inr ⟨h0, c4, hcl5, hasg⟩)
  obtain ⟨t, a1, b1⟩ := kk (T.setVm vm') hT X'
  exact ⟨t, st.trans a1, b1⟩
end Rows
section Ends
variable {p : Program} {l : Launch} {e : Env} {R : Room} {s : State} {m : MethodId} {args : Array Value} {below : List Frame} {meth : Method} {c : Code} {H : Heap} {locs : List Loc} {cells slots : Nat} {Q : State → Prop}
variable {mc ms : Nat} {free : Addr → Prop} {A0 A1 : Nat → Prop} {H0 : Heap} {a : Array Value} {ls : Array Slot} {st0 rest : List Value}
variable {Qc : Array Value → State → Outcome → State → Prop} {XC : String → State → State → Prop}
/-- what a body that may throw owes at its end -/
def vx_MQ (below : List Frame) (Qc : Array Value → State → Outcome → State → Prop) (XC : String → State → State → Prop) (a : Array Value) (s : State) (mc ms : Nat) (free : Addr → Prop) : State → Prop := fun t =>
  ∃ o, t.status = .running ∧ Ended t below o ∧ vx_Q Qc XC mc ms free a s o t
theorem vx_ret {g : JFrame} {mc ms : Nat} (k : W p l e R s m args below meth c H locs cells slots (MQ below Qc args s mc ms free) g) : W p l e R s m args below meth c H locs cells slots (vx_MQ below Qc XC args s mc ms free) g := by
  intro T hT X
  obtain ⟨t, a1, o, b1, b2, b3, b4⟩ := k T hT X
  exact ⟨t, a1, o, b1, b2, Or.inl ⟨b3, b4⟩⟩
/-- not caught here: it goes on to the caller -/
theorem vx_widen {g : JFrame} {q : Addr} {k n : Nat} (h1 : cells ≤ k) (h2 : slots ≤ n) (kk : vx_W p l e R s m args below meth c H locs k n Q g q) : vx_W p l e R s m args below meth c H locs cells slots Q g q := fun T hT X => kk T hT (stand_widen X h1 h2)
theorem vx_out {pc : Nat} {E : String} {ce : Cell} {q : Addr} {mc ms : Nat} (hout : ∀ x ∈ c.exceptionTable.toList, covers x pc = false) (hlocks : meth.locks = false) (hcell : H[q]? = some ce) (hv : ce.vm = .none) (hcl : s.vm.findClass E = some ce.cls)
    (hx : ∀ t : State, t.heap = H → s.vm.Alike t.vm → XC E s t) (hf : ∀ z ∈ locs, free z.base) (hc : cells ≤ mc) (hs : slots ≤ ms) :
    vx_W p l e R s m args below meth c H locs cells slots (vx_MQ below Qc XC args s mc ms free) (F0 m pc ls rest) q := by
  intro T hT X
  obtain ⟨st1, hrun, hend, hW, hsm⟩ := X.leaveThrown q (g := F0 m pc ls rest) rfl rfl rfl hout hlocks
  have hcell9 : (T.setFrames (.throwing q :: below)).heap[q]? = some ce := by
    show T.heap[q]? = some ce
    rw [hT]; exact hcell
  exact ⟨_, st1, .threw q, hrun, hend, Or.inr ⟨q, rfl, E, ce, locs, hx _ hT hW.alike, hcell9, hv, hcl, hW, hsm.mono hc hs, hf⟩⟩
theorem vx_frame {U : State} {k n : Nat} (h : s.sameButNew ({ U with vm := s.vm } : State) locs k n) : s.heap.size ≤ U.heap.size ∧ ∀ q : Nat, q < s.heap.size → (∀ z ∈ locs, z.base ≠ q) → U.heap[q]? = s.heap[q]? := by
  obtain ⟨-, h2, -, -, -, h6⟩ := h
  refine ⟨h2, fun q hq hz => ?_⟩
  obtain ⟨c9, e1, e2, e3, e4⟩ := h6 q _ (Array.getElem?_eq_getElem hq)
  have hs : c9.slots = (s.heap[q]).slots := Array.ext_getElem? fun i => e4 i fun hm => hz _ hm rfl
  have h9 : c9 = s.heap[q] := by
    rw [hs] at e2
    exact e2
  have e5 : U.heap[q]? = some c9 := e1
  rw [e5, h9, Array.getElem?_eq_getElem hq]
/-- the words of a throw but the four that speak of the heap -/
def vx_no (w : Cond) : Bool := decide (w ≠ .isRef (.static Bundle.tN "UNASSIGNED_STACK" Bundle.steD)) && decide (w ≠ .isRef (.static Bundle.tN "SUPPRESSED_SENTINEL" Bundle.listD)) && decide (w ≠ .laysStatic Bundle.tN "UNASSIGNED_STACK" Bundle.steD) && decide (w ≠ .laysStatic Bundle.tN "SUPPRESSED_SENTINEL" Bundle.listD)
def vx_at0 (own : String) (ic : Nat) (X : String) (names : List String) : List Cond := (Bundle.ownAtoms0 own ic X names).filter vx_no
def vx_atS (own : String) (ic : Nat) (X : String) (names : List String) : List Cond := (Bundle.ownAtoms own ic X names).filter vx_no
/-- a word that the tables alone decide, or a good one -/
def vx_ot (w : Cond) : Bool := w.onTables || goodWord w
theorem vx_ot_at {args a' : Array Value} {s U : State} {w : Cond} (hW : s.WarmedH U.vm) (hvm : s.vm = U.vm) (hg : vx_ot w = true) (h : w.before args s = true) : w.before a' U = true := by
  simp only [vx_ot, Bool.or_eq_true] at hg
  rcases hg with hg | hg
  · exact va_tabs hg hvm h
  · exact word_at hW (good_of_word hg) h
/-- a list's words: the good ones out of the method's own list, the others by premises of their own -/
theorem vx_hat {args : Array Value} {s : State} {L B : List Cond} (h1 : ∀ w ∈ L.filter goodWord, w.before args s = true) (h2 : ∀ w ∈ L.filter (fun w => !goodWord w), w ∈ B) (h3 : ∀ w ∈ B, w.before args s = true) : ∀ w ∈ L, w.before args s = true := by
  intro w hw
  by_cases g : goodWord w = true
  · exact h1 w (List.mem_filter.mpr ⟨hw, g⟩)
  · refine h3 w (h2 w (List.mem_filter.mpr ⟨hw, ?_⟩))
    show (!goodWord w) = true
    cases hgw : goodWord w
    · rfl
    · exact absurd hgw g
theorem vx_c {args : Array Value} {s : State} {w : Cond} {B : List Cond} (h : w.before args s = true) (t : ∀ w ∈ B, w.before args s = true) : ∀ w' ∈ w :: B, w'.before args s = true := fun w' h' => (List.mem_cons.mp h').elim (fun e => by rw [e]; exact h) (t w')
theorem vx_n {args : Array Value} {s : State} : ∀ w ∈ ([] : List Cond), w.before args s = true := fun _ h => nomatch h
theorem vx_own {args : Array Value} {s : State} {L : List Cond} (h1 : ∀ w ∈ L.filter vx_no, w.before args s = true)
    (hU : (Cond.isRef (.static Bundle.tN "UNASSIGNED_STACK" Bundle.steD)).before args s = true) (hN : (Cond.isRef (.static Bundle.tN "SUPPRESSED_SENTINEL" Bundle.listD)).before args s = true)
    (lU : (Cond.laysStatic Bundle.tN "UNASSIGNED_STACK" Bundle.steD).before args s = true) (lN : (Cond.laysStatic Bundle.tN "SUPPRESSED_SENTINEL" Bundle.listD).before args s = true) : ∀ w ∈ L, w.before args s = true := by
  intro w hw
  by_cases e1 : w = .isRef (.static Bundle.tN "UNASSIGNED_STACK" Bundle.steD)
  · rw [e1]; exact hU
  · by_cases e2 : w = .isRef (.static Bundle.tN "SUPPRESSED_SENTINEL" Bundle.listD)
    · rw [e2]; exact hN
    · by_cases e3 : w = .laysStatic Bundle.tN "UNASSIGNED_STACK" Bundle.steD
      · rw [e3]; exact lU
      · by_cases e4 : w = .laysStatic Bundle.tN "SUPPRESSED_SENTINEL" Bundle.listD
        · rw [e4]; exact lN
        · exact h1 w (List.mem_filter.mpr ⟨hw, by unfold vx_no; rw [decide_eq_true e1, decide_eq_true e2, decide_eq_true e3, decide_eq_true e4]; rfl⟩)
/-- where a static field lies, its class's statics cell in H -/
def vx_L (C n d : String) (A : Nat → Prop) (U : State) (H : Heap) : Prop := ∃ (c : ClassId) (k : Class) (i : Nat) (f : Field) (a : Nat) (cell : Cell), U.vm.findClass C = some c ∧ U.fieldFound? C n d = some (c, k, i, f) ∧ f.isStatic = true ∧ k.statics = some a ∧ H[a]? = some cell ∧ cell.vm.isStatics = true ∧ cell.cls = c ∧ f.slot < cell.slots.size ∧ k.staticTypes[f.slot]? = some f.type ∧ ¬ A a
theorem vx_L.moved {C n d : String} {A : Nat → Prop} {u U : State} {H : Heap} (hvm : u.vm.Alike U.vm) (h : vx_L C n d A u H) : vx_L C n d A U H := by
  obtain ⟨c, k, i, f, a, cell, h1, h2, h3, h4, h5, h6, h7, h8, h9, h10⟩ := h
  obtain ⟨k', hi', he⟩ := State.fieldFound?_setVm hvm h2
  exact ⟨c, k', i, f, a, cell, by rw [hvm.findClass]; exact h1, hi', h3, by rw [he]; exact h4, h5, h6, h7, h8, by rw [he]; exact h9, h10⟩
theorem vx_L.kept {C n d : String} {A : Nat → Prop} {U : State} {H H1 : Heap} (h : vx_L C n d A U H) (hq : ∀ a : Nat, a < H.size → ¬ A a → H1[a]? = H[a]?) : vx_L C n d A U H1 := by
  obtain ⟨c, k, i, f, a, cell, h1, h2, h3, h4, h5, h6, h7, h8, h9, h10⟩ := h
  exact ⟨c, k, i, f, a, cell, h1, h2, h3, h4, by rw [hq a (Array.getElem?_eq_some_iff.mp h5).1 h10]; exact h5, h6, h7, h8, h9, h10⟩
theorem vx_L.narrow {C n d : String} {A B : Nat → Prop} {U : State} {H : Heap} (h : vx_L C n d A U H) (hAB : ∀ q, B q → A q) : vx_L C n d B U H := by
  obtain ⟨c, k, i, f, a, cell, h1, h2, h3, h4, h5, h6, h7, h8, h9, h10⟩ := h
  exact ⟨c, k, i, f, a, cell, h1, h2, h3, h4, h5, h6, h7, h8, h9, fun z => h10 (hAB _ z)⟩
theorem vx_L.word {C n d : String} {A : Nat → Prop} {s : State} {args : Array Value} (h : vx_L C n d A s s.heap) : (Cond.laysStatic C n d).before args s = true := by
  obtain ⟨c, k, i, f, a, cell, h1, h2, h3, h4, h5, h6, h7, h8, h9, -⟩ := h
  show (Cond.laysStatic C n d).holds args s none s [] = true
  exact Cond.laysStatic_of h1 h2 h3 h4 h5 h6 h7 h8 h9
/-- .. and what it holds: null or some reference -/
def vx_Zq (C n d : String) (A : Nat → Prop) (U : State) (H : Heap) : Prop := va_Zq C n d A U H ∧ vx_L C n d A U H
theorem vx_Zq.moved {C n d : String} {A : Nat → Prop} {u U : State} {H : Heap} (hvm : u.vm.Alike U.vm) (h : vx_Zq C n d A u H) : vx_Zq C n d A U H := ⟨va_Zq.moved hvm h.1, vx_L.moved hvm h.2⟩
theorem vx_Zq.kept {C n d : String} {A : Nat → Prop} {U : State} {H H1 : Heap} (h : vx_Zq C n d A U H) (hq : ∀ a : Nat, a < H.size → ¬ A a → H1[a]? = H[a]?) : vx_Zq C n d A U H1 := ⟨va_Zq.kept h.1 hq, vx_L.kept h.2 hq⟩
theorem vx_Zq.narrow {C n d : String} {A B : Nat → Prop} {U : State} {H : Heap} (h : vx_Zq C n d A U H) (hAB : ∀ q, B q → A q) : vx_Zq C n d B U H := ⟨va_Zq.narrow h.1 hAB, vx_L.narrow h.2 hAB⟩
theorem vx_Zqof {args : Array Value} {s : State} {C n d : String} {A : Nat → Prop} (hl : (Cond.laysStatic C n d).before args s = true) (hini : (Cond.initialized C).before args s = true) (h : (Cond.isRef (.static C n d)).before args s = true) (hA : ∀ a : Nat, a < s.heap.size → ¬ A a) : vx_Zq C n d A s s.heap := by
  refine ⟨va_Zqof hl hini h hA, ?_⟩
  obtain ⟨c, k, i, f, a, cell, h1, h2, h3, h4, h5, h6, h7, h8, h9⟩ := Cond.laysStatic_spec hl
  exact ⟨c, k, i, f, a, cell, h1, h2, h3, h4, h5, h6, h7, h8, h9, hA a (Array.getElem?_eq_some_iff.mp h5).1⟩
theorem vx_isRef {C n d : String} {v : Value} {A : Nat → Prop} {s : State} {args : Array Value} (h : va_Z C n d v A s s.heap) (hv : v.isRef = true) : (Cond.isRef (.static C n d)).before args s = true := by
  obtain ⟨cf, kf, fi, f, a, cell, h1, h2, h3, h4, h5, h6, h7, -⟩ := h
  have he : (Term.static C n d).eval args s none [] s = some v := by
    simp [Term.eval, State.fieldNamed?, h1, h2, h4, h5, h6, h7]
  simp only [Cond.before, Cond.holds, Cond.value, he]
  cases v <;> simp_all [Value.isRef]
theorem vx_isRefq {C n d : String} {A : Nat → Prop} {s : State} {args : Array Value} (h : va_Zq C n d A s s.heap) : (Cond.isRef (.static C n d)).before args s = true := by
  rcases h with h | ⟨t, h⟩
  · exact vx_isRef h rfl
  · exact vx_isRef h rfl
/-- the same frame, seen from here: as if the method were called anew in this heap -/
theorem vx_rebase {T : State} (X : Stand p l e R s m args below meth c T locs cells slots) {R' : Room} (hf : R'.frames ≤ R.frames) (hl : R'.locals ≤ R.locals) (hc : cells + R'.cells ≤ R.cells) (hs : slots + R'.slots ≤ R.slots) :
    Stand p l e R' ((T.setVm s.vm).setFrames (.invoking m args :: below)) m args below meth c T [] 0 0 := by
  have htop : (T.setVm s.vm).topJava?.isSome := X.here.top
  have hF : ((T.setVm s.vm).setFrames (.invoking m args :: below)).frames = .invoking m args :: below := State.frames_setFrames _ (State.cur_lt_of_top htop)
  obtain ⟨g₀, hg0⟩ := Option.isSome_iff_exists.mp htop
  obtain ⟨r, hr⟩ := State.topJava?_eq_some.mp hg0
  have hl9 : e.platform.stackLimits (T.setVm s.vm).me = e.platform.stackLimits s.me := X.limits
  have hb9 : (T.setVm s.vm).me.stackBytes = s.me.stackBytes := X.bytes
  refine ⟨X.admits, X.cas, X.clock, hF, ?_, X.hears, X.method, X.code, X.here, X.tail, X.warmed, ?_, ?_, ?_⟩
  · have h := X.room
    have hU : ((T.setVm s.vm).setFrames (.invoking m args :: below)).localsInUse = s.localsInUse := by
      rw [State.localsInUse_invoking hF (meth := meth) (c := c) X.method X.code, State.localsInUse_invoking X.frames X.method X.code]
    simp only [State.hasRoom, Bool.and_eq_true, decide_eq_true_eq] at h ⊢
    obtain ⟨⟨⟨⟨h1, h2, h3, h4, h5, h6⟩, h7⟩, h8⟩, h9⟩ := h
    rw [X.frames, List.length_cons] at h2 h3
    have q1 := X.heapSize
    have q2 := X.used
    simp only [hF, hU, List.length_cons, State.stackLimits_setFrames, State.stackBytes_setFrames, hl9, hb9]
    refine ⟨⟨⟨⟨by omega, by omega, by omega, by omega, by omega, h6⟩, ?_⟩, ?_⟩, X.book⟩
    · show T.heap.size + R'.cells ≤ e.platform.maxCells
      omega
    · show T.slotsUsed + R'.slots ≤ e.platform.maxSlots
      omega
  · rw [State.stackLimits_setFrames]; rfl
  · rw [State.stackBytes_setFrames]; rfl
  · refine ⟨?_, Nat.le_refl _, Nat.le_refl _, ?_, ?_, fun a c9 h9 => ⟨c9, h9, rfl, rfl, fun _ _ => rfl⟩⟩
    · obtain ⟨t, ht, -⟩ := State.frames_cons hr
      show T.setVm s.vm = { ((T.setVm s.vm).setFrames (.invoking m args :: below)).setFrames (T.setVm s.vm).frames with heap := T.heap, slotsUsed := T.slotsUsed }
      rw [State.setFrames_setFrames, State.setFrames_self ht]
      rfl
    · show T.slotsUsed = T.slotsUsed + ((T.heap.toList.drop T.heap.size).map (·.slots.size)).sum
      rw [List.drop_eq_nil_of_le (Nat.le_of_eq Array.length_toList)]
      rfl
    · show ((T.heap.toList.drop T.heap.size).map (·.slots.size)).sum ≤ 0
      rw [List.drop_eq_nil_of_le (Nat.le_of_eq Array.length_toList)]
      exact Nat.le_refl _
/-- 'throw new E()': new; dup; invokespecial; athrow -/
theorem vx_throw0 {cc : ByteArray} {pc : Nat} (hexec : p.tables.exec = Jvm.exec) (hb : c.code = cc) (hl : l.stackTraces = false) {own cls : String} {names : List String} {ik ic mc ms : Nat} {A : Nat → Prop}
    (hown : s.vm.findClass own = some m.cls) (hcls : Bundle.fit cls = true) (hnames : ∀ n ∈ names, Bundle.fit n = true)
    (hk : (Cond.classLink own ik cls).before args s = true) (hini : (Cond.initialized cls).before args s = true) (hat : ∀ w ∈ vx_at0 own ic cls names, w.before args s = true)
    (hgood : ∀ w ∈ Cond.classLink own ik cls :: Cond.initialized cls :: vx_at0 own ic cls names, vx_ot w = true)
    (hU : vx_Zq Bundle.tN "UNASSIGNED_STACK" Bundle.steD A s s.heap) (hN : vx_Zq Bundle.tN "SUPPRESSED_SENTINEL" Bundle.listD A s s.heap) (hS : va_S A s.heap H locs) (hsize : ls.size = c.maxLocals)
    (d0 : decode cc pc = .ok (.new ik, 3)) (d3 : decode cc (pc + 3) = .ok (.dup, 1)) (d4 : decode cc (pc + 4) = .ok (.invokespecial ic, 3)) (d7 : decode cc (pc + 7) = .ok (.athrow, 1))
    (hout : ∀ x ∈ c.exceptionTable.toList, covers x (pc + 7) = false)
    (hRframes : names.length + 3 < R.frames) (hRlocals : (rest.map fun v => v.category).sum + (13 * (names.length + 1) + 42) ≤ R.locals) (hRcells : cells + 1 ≤ R.cells) (hRslots : slots + 6 ≤ R.slots) (hlocks : meth.locks = false)
    (hx : ∀ t : State, s.vm.Alike t.vm → H.size ≤ t.heap.size → (∀ q : Nat, q < H.size → t.heap[q]? = H[q]?) → XC cls s t)
    (hf : ∀ z ∈ locs, free z.base) (hc : cells + 1 ≤ mc) (hs : slots + 6 ≤ ms) :
    W p l e R s m args below meth c H locs cells slots (vx_MQ below Qc XC args s mc ms free) (F0 m pc ls rest) := by
  intro T hT X
  have htr : e.platform.stackTraces = false := (show e.platform.stackTraces = l.stackTraces by rw [X.admits.platform]).trans hl
  have Y := vx_rebase X (R' := { frames := R.frames, locals := R.locals, cells := 1, slots := 6 }) (Nat.le_refl _) (Nat.le_refl _) hRcells hRslots
  obtain ⟨s', hA⟩ : ∃ z, z = (T.setVm s.vm).setFrames (.invoking m args :: below) := ⟨_, rfl⟩
  rw [← hA] at Y
  have hvm : s'.vm = s.vm := by rw [hA]; rfl
  have hhp : s'.heap = H := by rw [hA]; exact hT
  have hW0 : s.WarmedH s'.vm := by rw [hvm]; exact State.WarmedH.refl s
  have hat' : ∀ w ∈ vx_at0 own ic cls names, w.before args s' = true := fun w hw => vx_ot_at hW0 hvm.symm (hgood w (List.mem_cons_of_mem _ (List.mem_cons_of_mem _ hw))) (hat w hw)
  have hk' : (Cond.classLink own ik cls).before args s' = true := vx_ot_at hW0 hvm.symm (hgood _ List.mem_cons_self) hk
  have hini' : (Cond.initialized cls).before args s' = true := vx_ot_at hW0 hvm.symm (hgood _ (List.mem_cons_of_mem _ List.mem_cons_self)) hini
  have hU' : vx_Zq Bundle.tN "UNASSIGNED_STACK" Bundle.steD A s' s'.heap := by rw [hhp]; exact vx_Zq.moved hW0.alike (hU.kept hS.2.1)
  have hN' : vx_Zq Bundle.tN "SUPPRESSED_SENTINEL" Bundle.listD A s' s'.heap := by rw [hhp]; exact vx_Zq.moved hW0.alike (hN.kept hS.2.1)
  have h : ∀ w ∈ Bundle.ownAtoms0 own ic cls names, w.before args s' = true := vx_own hat' (vx_isRefq hU'.1) (vx_isRefq hN'.1) hU'.2.word hN'.2.word
  have hown' : s'.vm.findClass own = some m.cls := by rw [hvm]; exact hown
  have hins : (Cond.instantiable cls 6).before args s' = true := h _ (by simp [Bundle.ownAtoms0])
  obtain ⟨vm₁, cX, kX, hfX, hkX, -, -, X₁, st1⟩ := Y.newCold hexec (own := own) (C := cls) (index := ik) (n := 6) hown' hk' hins hini'
    (g := F0 m pc ls rest) rfl (by rw [hb]; exact d0) (Nat.le_refl _) (Nat.le_refl _)
  generalize hT1 : (T.setVm vm₁).pushCell { cls := cX, slots := kX.instanceTypes.map defaultValue, vm := .none } = T1 at X₁ st1
  have hcat : (Value.ref T.heap.size).category = 1 := rfl
  have hcellA : T1.heap[T.heap.size]? = some (freshCell cX kX) := by rw [← hT1]; exact State.heap_pushCell_size _ _
  have d3' : decode c.code (pc + 3) = .ok (.dup, 1) := by rw [hb]; exact d3
  obtain ⟨U, hsteps, hrun, hend, hW, hsame, ce, hce, hO⟩ := X₁.ctorThrow0 hexec htr (own := own) (cls := cls) (names := names) (ic := ic) hown' hcls hnames h (fun x hx => nomatch hx) hfX hkX hcellA (by rw [hhp, hT]; exact Nat.le_refl _)
    (g := { method := m, pc := pc + 4, locals := ls, stack := .ref T.heap.size :: .ref T.heap.size :: rest, locked := none }) rfl hsize rfl rfl (rest := rest) rfl
    (by rw [hb]; exact d4) (by rw [hb]; exact d7) hout hRframes (by simp only [List.map_cons, List.sum_cons, hcat]; omega) hlocks
  obtain ⟨f1, f2⟩ := vx_frame hsame
  rw [hhp] at f1 f2
  have hWs : s.WarmedH U.vm := State.WarmedH.trans hW0 hW
  have hcl : s.vm.findClass cls = some ce.cls := by
    have h9 := hO.cls
    rw [hvm] at h9
    exact h9
  have hall : s.sameButNew ({ U with vm := s.vm } : State) locs mc ms := by
    subst hA
    obtain ⟨e1, e2⟩ := hsame
    rw [State.setFrames_setFrames] at e1
    have h2 : (T.setVm s.vm).sameButNew ({ U with vm := s.vm } : State) [] (0 + 1) (0 + 6) := ⟨e1, e2⟩
    have h3 := X.same.trans h2
    rw [List.append_nil] at h3
    exact h3.mono hc hs
  refine ⟨U, ?_, .threw T.heap.size, hrun, hend, Or.inr ⟨T.heap.size, rfl, cls, ce, locs, hx U hWs.alike f1 (fun q hq => f2 q hq (fun z hz => nomatch hz)), hce, hO.vm, hcl, hWs, hall, hf⟩⟩
  refine st1 _ ?_
  show Steps p.tables e below (T1.setTop { method := m, pc := pc + 3, locals := ls, stack := .ref T.heap.size :: rest, locked := none }) _
  jvm_step X₁.here [X₁.here.top, hexec, d3', Value.category]
  exact hsteps
/-- 'throw new E("text")': new; dup; ldc; invokespecial; athrow -/
theorem vx_throwS {cc : ByteArray} {pc : Nat} (hexec : p.tables.exec = Jvm.exec) (hb : c.code = cc) (hl : l.stackTraces = false) {own cls text : String} {names : List String} {ik is ic mc ms sa : Nat} {A : Nat → Prop}
    (hown : s.vm.findClass own = some m.cls) (hcls : Bundle.fit cls = true) (hnames : ∀ n ∈ names, Bundle.fit n = true)
    (hk : (Cond.classLink own ik cls).before args s = true) (hini : (Cond.initialized cls).before args s = true) (hstr : vk_R own is text sa s) (hat : ∀ w ∈ vx_atS own ic cls names, w.before args s = true)
    (hgood : ∀ w ∈ Cond.classLink own ik cls :: Cond.initialized cls :: vx_atS own ic cls names, vx_ot w = true)
    (hU : vx_Zq Bundle.tN "UNASSIGNED_STACK" Bundle.steD A s s.heap) (hN : vx_Zq Bundle.tN "SUPPRESSED_SENTINEL" Bundle.listD A s s.heap) (hS : va_S A s.heap H locs) (hsize : ls.size = c.maxLocals)
    (d0 : decode cc pc = .ok (.new ik, 3)) (d3 : decode cc (pc + 3) = .ok (.dup, 1)) (d4 : decode cc (pc + 4) = .ok (.ldc is, 2)) (d6 : decode cc (pc + 6) = .ok (.invokespecial ic, 3)) (d9 : decode cc (pc + 9) = .ok (.athrow, 1))
    (hout : ∀ x ∈ c.exceptionTable.toList, covers x (pc + 9) = false)
    (hRframes : names.length + 3 < R.frames) (hRlocals : (rest.map fun v => v.category).sum + (13 * (names.length + 1) + 43) ≤ R.locals) (hRcells : cells + 1 ≤ R.cells) (hRslots : slots + 6 ≤ R.slots) (hlocks : meth.locks = false)
    (hx : ∀ t : State, s.vm.Alike t.vm → H.size ≤ t.heap.size → (∀ q : Nat, q < H.size → t.heap[q]? = H[q]?) → XC cls s t)
    (hf : ∀ z ∈ locs, free z.base) (hc : cells + 1 ≤ mc) (hs : slots + 6 ≤ ms) :
    W p l e R s m args below meth c H locs cells slots (vx_MQ below Qc XC args s mc ms free) (F0 m pc ls rest) := by
  intro T hT X
  have htr : e.platform.stackTraces = false := (show e.platform.stackTraces = l.stackTraces by rw [X.admits.platform]).trans hl
  have Y := vx_rebase X (R' := { frames := R.frames, locals := R.locals, cells := 1, slots := 6 }) (Nat.le_refl _) (Nat.le_refl _) hRcells hRslots
  obtain ⟨s', hA⟩ : ∃ z, z = (T.setVm s.vm).setFrames (.invoking m args :: below) := ⟨_, rfl⟩
  rw [← hA] at Y
  have hvm : s'.vm = s.vm := by rw [hA]; rfl
  have hhp : s'.heap = H := by rw [hA]; exact hT
  have hW0 : s.WarmedH s'.vm := by rw [hvm]; exact State.WarmedH.refl s
  have hat' : ∀ w ∈ vx_atS own ic cls names, w.before args s' = true := fun w hw => vx_ot_at hW0 hvm.symm (hgood w (List.mem_cons_of_mem _ (List.mem_cons_of_mem _ hw))) (hat w hw)
  have hk' : (Cond.classLink own ik cls).before args s' = true := vx_ot_at hW0 hvm.symm (hgood _ List.mem_cons_self) hk
  have hini' : (Cond.initialized cls).before args s' = true := vx_ot_at hW0 hvm.symm (hgood _ (List.mem_cons_of_mem _ List.mem_cons_self)) hini
  have hU' : vx_Zq Bundle.tN "UNASSIGNED_STACK" Bundle.steD A s' s'.heap := by rw [hhp]; exact vx_Zq.moved hW0.alike (hU.kept hS.2.1)
  have hN' : vx_Zq Bundle.tN "SUPPRESSED_SENTINEL" Bundle.listD A s' s'.heap := by rw [hhp]; exact vx_Zq.moved hW0.alike (hN.kept hS.2.1)
  have h : ∀ w ∈ Bundle.ownAtoms own ic cls names, w.before args s' = true := vx_own hat' (vx_isRefq hU'.1) (vx_isRefq hN'.1) hU'.2.word hN'.2.word
  have hown' : s'.vm.findClass own = some m.cls := by rw [hvm]; exact hown
  have hins : (Cond.instantiable cls 6).before args s' = true := h _ (by simp [Bundle.ownAtoms])
  obtain ⟨vm₁, cX, kX, hfX, hkX, -, -, X₁, st1⟩ := Y.newCold hexec (own := own) (C := cls) (index := ik) (n := 6) hown' hk' hins hini'
    (g := F0 m pc ls rest) rfl (by rw [hb]; exact d0) (Nat.le_refl _) (Nat.le_refl _)
  generalize hT1 : (T.setVm vm₁).pushCell { cls := cX, slots := kX.instanceTypes.map defaultValue, vm := .none } = T1 at X₁ st1
  have hcat : (Value.ref T.heap.size).category = 1 := rfl
  have hcellA : T1.heap[T.heap.size]? = some (freshCell cX kX) := by rw [← hT1]; exact State.heap_pushCell_size _ _
  have d3' : decode c.code (pc + 3) = .ok (.dup, 1) := by rw [hb]; exact d3
  have d4' : decode c.code (pc + 4) = .ok (.ldc is, 2) := by rw [hb]; exact d4
  have hstr' : vk_R own is text sa s' := vk_R.warm hW0 hstr
  obtain ⟨U, hsteps, hrun, hend, hW, hsame, ce, hce, hO⟩ := X₁.ctorThrowS hexec htr (own := own) (cls := cls) (names := names) (ic := ic) hown' hcls hnames h (fun x hx => nomatch hx) hfX hkX hcellA (by rw [hhp, hT]; exact Nat.le_refl _) (msg := .ref sa) rfl
    (g := { method := m, pc := pc + 6, locals := ls, stack := .ref sa :: .ref T.heap.size :: .ref T.heap.size :: rest, locked := none }) rfl hsize rfl rfl (rest := rest) rfl
    (by rw [hb]; exact d6) (by rw [hb]; exact d9) hout hRframes (by simp only [List.map_cons, List.sum_cons, hcat]; omega) hlocks
  obtain ⟨f1, f2⟩ := vx_frame hsame
  rw [hhp] at f1 f2
  have hWs : s.WarmedH U.vm := State.WarmedH.trans hW0 hW
  have hcl : s.vm.findClass cls = some ce.cls := by
    have h9 := hO.cls
    rw [hvm] at h9
    exact h9
  have hall : s.sameButNew ({ U with vm := s.vm } : State) locs mc ms := by
    subst hA
    obtain ⟨e1, e2⟩ := hsame
    rw [State.setFrames_setFrames] at e1
    have h2 : (T.setVm s.vm).sameButNew ({ U with vm := s.vm } : State) [] (0 + 1) (0 + 6) := ⟨e1, e2⟩
    have h3 := X.same.trans h2
    rw [List.append_nil] at h3
    exact h3.mono hc hs
  refine ⟨U, ?_, .threw T.heap.size, hrun, hend, Or.inr ⟨T.heap.size, rfl, cls, ce, locs, hx U hWs.alike f1 (fun q hq => f2 q hq (fun z hz => nomatch hz)), hce, hO.vm, hcl, hWs, hall, hf⟩⟩
  refine st1 _ ?_
  show Steps p.tables e below (T1.setTop { method := m, pc := pc + 3, locals := ls, stack := .ref T.heap.size :: rest, locked := none }) _
  jvm_step X₁.here [X₁.here.top, hexec, d3', Value.category]
  exact X₁.ldcString hexec (own := own) (text := text) (index := is) (a := sa) hown' hstr'.1 hstr'.2
    (g := { method := m, pc := pc + 4, locals := ls, stack := .ref T.heap.size :: .ref T.heap.size :: rest, locked := none }) rfl d4' _ hsteps
/-- 'throw new E("text")', the text by a wide index -/
theorem vx_throwSW {cc : ByteArray} {pc : Nat} (hexec : p.tables.exec = Jvm.exec) (hb : c.code = cc) (hl : l.stackTraces = false) {own cls text : String} {names : List String} {ik is ic mc ms sa : Nat} {A : Nat → Prop}
    (hown : s.vm.findClass own = some m.cls) (hcls : Bundle.fit cls = true) (hnames : ∀ n ∈ names, Bundle.fit n = true)
    (hk : (Cond.classLink own ik cls).before args s = true) (hini : (Cond.initialized cls).before args s = true) (hstr : vk_R own is text sa s) (hat : ∀ w ∈ vx_atS own ic cls names, w.before args s = true)
    (hgood : ∀ w ∈ Cond.classLink own ik cls :: Cond.initialized cls :: vx_atS own ic cls names, vx_ot w = true)
    (hU : vx_Zq Bundle.tN "UNASSIGNED_STACK" Bundle.steD A s s.heap) (hN : vx_Zq Bundle.tN "SUPPRESSED_SENTINEL" Bundle.listD A s s.heap) (hS : va_S A s.heap H locs) (hsize : ls.size = c.maxLocals)
    (d0 : decode cc pc = .ok (.new ik, 3)) (d3 : decode cc (pc + 3) = .ok (.dup, 1)) (d4 : decode cc (pc + 4) = .ok (.ldc_w is, 3)) (d7 : decode cc (pc + 7) = .ok (.invokespecial ic, 3)) (d10 : decode cc (pc + 10) = .ok (.athrow, 1))
    (hout : ∀ x ∈ c.exceptionTable.toList, covers x (pc + 10) = false)
    (hRframes : names.length + 3 < R.frames) (hRlocals : (rest.map fun v => v.category).sum + (13 * (names.length + 1) + 43) ≤ R.locals) (hRcells : cells + 1 ≤ R.cells) (hRslots : slots + 6 ≤ R.slots) (hlocks : meth.locks = false)
    (hx : ∀ t : State, s.vm.Alike t.vm → H.size ≤ t.heap.size → (∀ q : Nat, q < H.size → t.heap[q]? = H[q]?) → XC cls s t)
    (hf : ∀ z ∈ locs, free z.base) (hc : cells + 1 ≤ mc) (hs : slots + 6 ≤ ms) :
    W p l e R s m args below meth c H locs cells slots (vx_MQ below Qc XC args s mc ms free) (F0 m pc ls rest) := by
  intro T hT X
  have htr : e.platform.stackTraces = false := (show e.platform.stackTraces = l.stackTraces by rw [X.admits.platform]).trans hl
  have Y := vx_rebase X (R' := { frames := R.frames, locals := R.locals, cells := 1, slots := 6 }) (Nat.le_refl _) (Nat.le_refl _) hRcells hRslots
  obtain ⟨s', hA⟩ : ∃ z, z = (T.setVm s.vm).setFrames (.invoking m args :: below) := ⟨_, rfl⟩
  rw [← hA] at Y
  have hvm : s'.vm = s.vm := by rw [hA]; rfl
  have hhp : s'.heap = H := by rw [hA]; exact hT
  have hW0 : s.WarmedH s'.vm := by rw [hvm]; exact State.WarmedH.refl s
  have hat' : ∀ w ∈ vx_atS own ic cls names, w.before args s' = true := fun w hw => vx_ot_at hW0 hvm.symm (hgood w (List.mem_cons_of_mem _ (List.mem_cons_of_mem _ hw))) (hat w hw)
  have hk' : (Cond.classLink own ik cls).before args s' = true := vx_ot_at hW0 hvm.symm (hgood _ List.mem_cons_self) hk
  have hini' : (Cond.initialized cls).before args s' = true := vx_ot_at hW0 hvm.symm (hgood _ (List.mem_cons_of_mem _ List.mem_cons_self)) hini
  have hU' : vx_Zq Bundle.tN "UNASSIGNED_STACK" Bundle.steD A s' s'.heap := by rw [hhp]; exact vx_Zq.moved hW0.alike (hU.kept hS.2.1)
  have hN' : vx_Zq Bundle.tN "SUPPRESSED_SENTINEL" Bundle.listD A s' s'.heap := by rw [hhp]; exact vx_Zq.moved hW0.alike (hN.kept hS.2.1)
  have h : ∀ w ∈ Bundle.ownAtoms own ic cls names, w.before args s' = true := vx_own hat' (vx_isRefq hU'.1) (vx_isRefq hN'.1) hU'.2.word hN'.2.word
  have hown' : s'.vm.findClass own = some m.cls := by rw [hvm]; exact hown
  have hins : (Cond.instantiable cls 6).before args s' = true := h _ (by simp [Bundle.ownAtoms])
  obtain ⟨vm₁, cX, kX, hfX, hkX, -, -, X₁, st1⟩ := Y.newCold hexec (own := own) (C := cls) (index := ik) (n := 6) hown' hk' hins hini'
    (g := F0 m pc ls rest) rfl (by rw [hb]; exact d0) (Nat.le_refl _) (Nat.le_refl _)
  generalize hT1 : (T.setVm vm₁).pushCell { cls := cX, slots := kX.instanceTypes.map defaultValue, vm := .none } = T1 at X₁ st1
  have hcat : (Value.ref T.heap.size).category = 1 := rfl
  have hcellA : T1.heap[T.heap.size]? = some (freshCell cX kX) := by rw [← hT1]; exact State.heap_pushCell_size _ _
  have d3' : decode c.code (pc + 3) = .ok (.dup, 1) := by rw [hb]; exact d3
  have d4' : decode c.code (pc + 4) = .ok (.ldc_w is, 3) := by rw [hb]; exact d4
  have hstr' : vk_R own is text sa s' := vk_R.warm hW0 hstr
  obtain ⟨U, hsteps, hrun, hend, hW, hsame, ce, hce, hO⟩ := X₁.ctorThrowS hexec htr (own := own) (cls := cls) (names := names) (ic := ic) hown' hcls hnames h (fun x hx => nomatch hx) hfX hkX hcellA (by rw [hhp, hT]; exact Nat.le_refl _) (msg := .ref sa) rfl
    (g := { method := m, pc := pc + 7, locals := ls, stack := .ref sa :: .ref T.heap.size :: .ref T.heap.size :: rest, locked := none }) rfl hsize rfl rfl (rest := rest) rfl
    (by rw [hb]; exact d7) (by rw [hb]; exact d10) hout hRframes (by simp only [List.map_cons, List.sum_cons, hcat]; omega) hlocks
  obtain ⟨f1, f2⟩ := vx_frame hsame
  rw [hhp] at f1 f2
  have hWs : s.WarmedH U.vm := State.WarmedH.trans hW0 hW
  have hcl : s.vm.findClass cls = some ce.cls := by
    have h9 := hO.cls
    rw [hvm] at h9
    exact h9
  have hall : s.sameButNew ({ U with vm := s.vm } : State) locs mc ms := by
    subst hA
    obtain ⟨e1, e2⟩ := hsame
    rw [State.setFrames_setFrames] at e1
    have h2 : (T.setVm s.vm).sameButNew ({ U with vm := s.vm } : State) [] (0 + 1) (0 + 6) := ⟨e1, e2⟩
    have h3 := X.same.trans h2
    rw [List.append_nil] at h3
    exact h3.mono hc hs
  refine ⟨U, ?_, .threw T.heap.size, hrun, hend, Or.inr ⟨T.heap.size, rfl, cls, ce, locs, hx U hWs.alike f1 (fun q hq => f2 q hq (fun z hz => nomatch hz)), hce, hO.vm, hcl, hWs, hall, hf⟩⟩
  refine st1 _ ?_
  show Steps p.tables e below (T1.setTop { method := m, pc := pc + 3, locals := ls, stack := .ref T.heap.size :: rest, locked := none }) _
  jvm_step X₁.here [X₁.here.top, hexec, d3', Value.category]
  exact X₁.ldcStringW hexec (own := own) (text := text) (index := is) (a := sa) hown' hstr'.1 hstr'.2
    (g := { method := m, pc := pc + 4, locals := ls, stack := .ref T.heap.size :: .ref T.heap.size :: rest, locked := none }) rfl d4' _ hsteps
end Ends
section Bodies
variable {l : Launch}
theorem vx_ofW {y : MethodName} {ws ws' : List Cond} {rm : Room} {Pc : Array Value → State → Prop} {Qc : Array Value → State → Outcome → State → Prop} {XC : String → State → State → Prop} {mc ms : Nat} {free : Addr → Prop} {cc : ByteArray} {maxL : Nat} {ret : Option FieldType}
    (hy : plainName y.cls = true) (hw : ws = Cond.code y cc maxL ret :: ws')
    (body : ∀ p e s m args below meth c s₁, BodyLoose p l y (headSpec ws rm) cc maxL ret e s m args below meth c s₁ → c.maxLocals = maxL → (∀ x ∈ c.exceptionTable.toList, False) → Pc args s →
      W p l e (headSpec ws rm).room s m args below meth c s.heap [] 0 0 (vx_MQ below Qc XC args s mc ms free) (entryFrame m args maxL)) : vx_Met l y ws rm Pc Qc XC mc ms free := by
  refine MetFree.of_bodyS (code := cc) (maxLocals := maxL) (ret := ret) hy ?_ ?_
  · intro args s m h hn
    obtain ⟨meth, c, h1, h2, h3, h4, h5, h6, -, -⟩ := Cond.code_spec hn (atoms_spec (ws := ws) h _ (by rw [hw]; exact List.mem_cons_self))
    exact ⟨meth, c, h1, h2, h3, h4, h5, h6⟩
  · intro p e s m args below meth c s₁ B hml hP _
    have hh0 : s₁.heap = s.heap := by rw [B.state]; rfl
    have ht : ∀ x ∈ c.exceptionTable.toList, False := by
      obtain ⟨meth9, c9, h1, h2, -, -, -, -, h7, -⟩ := Cond.code_spec B.named (atoms_spec (ws := ws) B.pre _ (by rw [hw]; exact List.mem_cons_self))
      cases Option.some.inj (h1.symm.trans B.method)
      cases Option.some.inj (h2.symm.trans (Stand.of_body B).code)
      intro x hx
      rw [Array.isEmpty_iff.mp h7] at hx
      cases hx
    obtain ⟨t, a1, o, b1, b2, b3⟩ := body p e s m args below meth c s₁ B hml ht hP s₁ hh0 (Stand.of_body B)
    exact ⟨t, o, a1, b1, b2, b3⟩
/-- the table of a body with handlers -/
theorem vx_table {p : Program} {x y : MethodName} {S : Spec} {cc bytes : ByteArray} {maxL maxL' : Nat} {ret ret' : Option FieldType} {e : Env} {s s₁ : State} {m : MethodId} {args : Array Value} {below : List Frame} {meth : Method} {c : Code} {hh : List (Nat × Nat × Nat × Nat)}
    (B : BodyLoose p l y S cc maxL ret e s m args below meth c s₁) (h : (Cond.codeWith y bytes maxL' ret' hh).before args s = true) : c.exceptionTable.toList = tableOf hh := by
  obtain ⟨m9, meth9, c9, hn9, h1, h2, -, -, h6, -⟩ := Cond.codeWith_spec h
  cases Option.some.inj (hn9.symm.trans B.named)
  cases Option.some.inj (h1.symm.trans B.method)
  cases Option.some.inj (h2.symm.trans (Stand.of_body B).code)
  rw [← h6, table_eq]
end Bodies
end VXA
/-! ===== END ===== -/
/-! ===== BEGIN a static call of a method with an exception table ===== -/
section VXS
variable {p : Program} {l : Launch} {e : Env} {R : Room} {s : State} {m : MethodId} {args : Array Value} {below : List Frame} {meth : Method} {c : Code} {T : State} {H : Heap} {locs : List Loc} {cells slots : Nat}
abbrev vx_CSW (R : Room) (s : State) (args : Array Value) (own : String) (index : Nat) (y : MethodName) (bytes : ByteArray) (maxL : Nat) (ret : Option FieldType) (hh : List (Nat × Nat × Nat × Nat)) (ws : List Cond) (rm : Room) (mc ms n : Nat) : Prop :=
  (rm.cells = mc ∧ rm.slots = ms ∧ rm.frames + 1 ≤ R.frames ∧ 8 + (maxL + 11) + rm.locals ≤ R.locals ∧ (∀ w ∈ ws, ∀ (a' : Array Value) (U : State), s.WarmedH U.vm → w.before a' U = true) ∧ Cond.codeWith y bytes maxL ret hh ∈ ws) ∧
  (Cond.codeWith y bytes maxL ret hh).before args s = true ∧ (Cond.initialized y.cls).before args s = true ∧ (y.cls ≠ "java/lang/invoke/MethodHandle" ∧ y.cls ≠ "java/lang/invoke/VarHandle") ∧
  (∀ sig, parseMethodDescriptor y.desc = some sig → n = sig.parameters.length) ∧ (Cond.methodLink own index y).before args s = true ∧ (Cond.static y).before args s = true
theorem vx_cwSW {own : String} {index maxL mc ms : Nat} {y : MethodName} {bytes : ByteArray} {ret : Option FieldType} {hh : List (Nat × Nat × Nat × Nat)} {Ts ws ws' : List Cond} {rm : Room} (n : Nat) (ht : ∀ w ∈ Ts, w.before args s = true) (hT : GoodIn Ts (va_wsS own index y ws)) (hw : ws = Cond.codeWith y bytes maxL ret hh :: ws') (hrc : rm.cells = mc) (hrs : rm.slots = ms)
    (hd : y.cls ≠ "java/lang/invoke/MethodHandle" ∧ y.cls ≠ "java/lang/invoke/VarHandle" ∧ (parseMethodDescriptor y.desc).map (fun d => d.parameters.length) = some n) (hR : rm.frames + 1 ≤ R.frames ∧ 8 + (maxL + 11) + rm.locals ≤ R.locals) :
    vx_CSW R s args own index y bytes maxL ret hh ws rm mc ms n := by
  have ok : ∀ w ∈ va_wsS own index y ws, w.before args s = true := fun w h => ht w (hT w h).1
  have hG : GoodIn Ts ws := fun w h => hT w (by unfold va_wsS; exact List.mem_append_right _ h)
  have hc : Cond.codeWith y bytes maxL ret hh ∈ ws := by rw [hw]; exact List.mem_cons_self
  refine ⟨⟨hrc, hrs, hR.1, hR.2, pay_in ht hG, hc⟩, ht _ (hG _ hc).1, ok _ (by simp [va_wsS]), ⟨hd.1, hd.2.1⟩, fun sig h => ?_, ok _ (by simp [va_wsS]), ok _ (by simp [va_wsS])⟩
  have h2 := hd.2.2
  rw [h] at h2
  exact (Option.some.inj h2).symm
theorem vx_callSW (X : Stand p l e R s m args below meth c T locs cells slots) (hexec : p.tables.exec = Jvm.exec) {own : String} {index : Nat} {y : MethodName} {bytes : ByteArray} {maxL : Nat} {ret : Option FieldType} {hh : List (Nat × Nat × Nat × Nat)}
    (hown : s.vm.findClass own = some m.cls) (hlink : (Cond.methodLink own index y).before args s = true) (hstat : (Cond.static y).before args s = true) (hinit : (Cond.initialized y.cls).before args s = true)
    (hcode : (Cond.codeWith y bytes maxL ret hh).before args s = true) (hy : y.cls ≠ "java/lang/invoke/MethodHandle" ∧ y.cls ≠ "java/lang/invoke/VarHandle")
    {W9 : Nat} {Pre : Pt → Array Value → Prop} {Post : Pt → Array Value → Option Value → Pt → Prop} (hK : Back l R p e below s args y 3 W9 Pre Post)
    {g : JFrame} (hg : g.method = m) (hsize : g.locals.size = c.maxLocals) {argsL rest : List Value} (hlen : ∀ sig, parseMethodDescriptor y.desc = some sig → argsL.length = sig.parameters.length)
    (hstack : g.stack = argsL.reverse ++ rest) (hW : 2 * g.monitorRoom + (rest.map fun v => v.category).sum ≤ W9) (hdg : decode c.code g.pc = .ok (.invokestatic index, 3))
    (hpre : ∀ vm₁, s.WarmedH vm₁ → Pre ⟨T.setVm vm₁, locs, cells, slots⟩ argsL.toArray) :
    ∃ (v : Option Value) (vm₁ : Vm) (B : Pt), s.WarmedH vm₁ ∧ Stand p l e R s m args below meth c B.U B.locs B.cells B.slots ∧ Post ⟨T.setVm vm₁, locs, cells, slots⟩ argsL.toArray v B ∧
      ∀ target, Steps p.tables e below (B.U.setTop { g with pc := g.pc + 3, stack := v.toList ++ rest }) target → Steps p.tables e below (T.setTop g) target := by
  obtain ⟨mk, methM, cM, hnamed, hmethM, -, -, -, -, -, -, hsigM⟩ := Cond.codeWith_spec hcode
  have hstatic : methM.isStatic = true := Cond.static_spec hnamed hmethM hstat
  obtain ⟨kP, hkP, -⟩ := className_of_methodNamed hnamed
  have hinitP : kP.init = .initialized := Cond.initialized_spec (findClass_of_methodNamed hnamed) hkP hinit
  obtain ⟨vm₁, X₁, hstep₁⟩ := X.invokestatic hexec hown hlink hnamed hmethM hstatic hkP hinitP hy (g := g) hg (argsL := argsL) (rest := rest) (hlen _ hsigM) hstack hdg
  obtain ⟨v, B, X', hpost, hsteps⟩ := hK m meth c ⟨T.setVm vm₁, locs, cells, slots⟩ { g with stack := rest } (.invokestatic index) mk argsL.toArray X₁ hg hsize hdg hW (X₁.named hnamed) (hpre vm₁ X₁.warmed)
  exact ⟨v, vm₁, B, X₁.warmed, X', hpost, fun target h => hstep₁ _ fun acts => by rw [doInvoke_state]; exact hsteps.trans h⟩
theorem vx_runSW {y : MethodName} {bytes cc : ByteArray} {maxL nL mc ms n index : Nat} {ret : Option FieldType} {hh : List (Nat × Nat × Nat × Nat)} {ws : List Cond} {rm : Room} {Pc : Array Value → State → Prop} {Qc : Array Value → State → Outcome → State → Prop} {free : Addr → Prop} {Ts : List Cond} {own : String} {As rest : List Value} {g : JFrame}
    (S : CallFix p m c cc nL s args Ts own) (hM : Met l y ws rm Pc Qc mc ms free) (cw : vx_CSW R s args own index y bytes maxL ret hh ws rm mc ms n) (hp : PreS s H Pc As)
    (hg : g.method = m) (hn : As.length = n) (hsize : g.locals.size = nL) (hstack : g.stack = As.reverse ++ rest) (hW : 2 * g.monitorRoom + (rest.map fun v => v.category).sum ≤ 8) (hdg : decode cc g.pc = .ok (.invokestatic index, 3)) (hf : cells + mc ≤ R.cells ∧ slots + ms ≤ R.slots) :
    va_Run p l e R s m args below meth c H locs cells slots mc ms g rest (Qc As.toArray) (free) := by
  obtain ⟨⟨hrc, hrs, hfr, hlo, hws, hcw⟩, hcode, hini, hy, hlen, hl, hstt⟩ := cw
  have hK : Back l R p e below s args y 3 8 (PreOf R mc ms Pc) (PostOf Qc mc ms free) := va_backW (hh := hh) (bytes := bytes) (maxL := maxL) (ret := ret) hM hp.1 hrc hrs hfr hlo hws hcw (fun a' U hW => word_at hW (Or.inl (by first | rfl | simp [Cond.onTables, Cond.keeps, Cond.steady])) hini)
  obtain ⟨hx, hb, hml, ho, -⟩ := S
  intro T hT X
  obtain ⟨v, vm₁, ⟨U', l2, c2, s2⟩, hW₁, X', ⟨g', mk, t, L, e1, e2, hq, h1, hL, h2, h3⟩, st⟩ := vx_callSW X hx (hh := hh) (bytes := bytes) (maxL := maxL) (ret := ret) ho hl hstt hini hcode hy hK hg (hsize.trans hml.symm) (argsL := As) (rest := rest) (fun sig h => hn.trans (hlen sig h)) hstack hW (by rw [hb]; exact hdg)
    (fun vm₁ hW₁ => ⟨hf.1, hf.2, hp.2 (T.setVm vm₁) hT hW₁⟩)
  dsimp only [Pt.U, Pt.locs, Pt.cells, Pt.slots] at X' e1 e2 h1 h2 h3 st
  subst h1; subst h2; subst h3
  exact ⟨v, (T.setVm vm₁).calling g' mk As.toArray, t, U', L, hT, X', hL, e1, e2, hq, st⟩
/-- not caught here, past rows that name other classes: it goes on to the caller -/
theorem vx_outP {p : Program} {l : Launch} {e : Env} {R : Room} {s : State} {m : MethodId} {args : Array Value} {below : List Frame} {meth : Method} {c : Code} {H : Heap} {locs : List Loc} {cells slots : Nat} {free : Addr → Prop} {ls : Array Slot} {rest : List Value} {Qc : Array Value → State → Outcome → State → Prop} {XC : String → State → State → Prop}
    {pc : Nat} {own E : String} {ce : Cell} {q : Addr} {mc ms : Nat} (hown : s.vm.findClass own = some m.cls) (hlocks : meth.locks = false)
    (hpass : ∀ z ∈ c.exceptionTable.toList, covers z pc = false ∨ (z.catchType ≠ 0 ∧ ∃ nm : String, (Cond.classLink own z.catchType nm).before args s = true ∧ va_Nc E nm s)) (hcell : H[q]? = some ce) (hv : ce.vm = .none) (hcl : s.vm.findClass E = some ce.cls)
    (hx : ∀ t : State, t.heap = H → s.vm.Alike t.vm → XC E s t) (hf : ∀ z ∈ locs, free z.base) (hc : cells ≤ mc) (hs : slots ≤ ms) :
    vx_W p l e R s m args below meth c H locs cells slots (vx_MQ below Qc XC args s mc ms free) (F0 m pc ls rest) q := by
  intro T hT X
  have hpl : e.platform.magicAccessors = ({} : Platform).magicAccessors := by rw [X.admits.platform]
  obtain ⟨vm', hW', X', st⟩ := X.outThrough hlocks q (g := F0 m pc ls rest) rfl rfl rfl (cell := ce) (by rw [hT]; exact hcell) (by rw [hv]; rfl)
    (by obtain ⟨k9, h9, -⟩ := Vm.findClass_spec hcl; exact ⟨k9, h9⟩) (fun z hz => by
      rcases hpass z hz with h | ⟨hz0, nm, hl1, hn1⟩
      · exact Or.inl h
      · obtain ⟨c6, hc6, hcl6⟩ := Cond.classLink_spec hown hl1 e.platform hpl
        obtain ⟨a8, b8, h1, h2, h3⟩ := hn1
        cases Option.some.inj (h1.symm.trans hcl)
        cases Option.some.inj (h2.symm.trans hc6)
        exact Or.inr ⟨hz0, _, hcl6, h3⟩)
  obtain ⟨g₀, hfr⟩ := X'.frames_eq
  have hcell9 : ((T.setVm vm').setFrames (.throwing q :: below)).heap[q]? = some ce := by
    show T.heap[q]? = some ce
    rw [hT]; exact hcell
  have hend : Ended ((T.setVm vm').setFrames (.throwing q :: below)) below (.threw q) := State.frames_setFrames _ (State.cur_lt_of_frames hfr)
  refine ⟨(T.setVm vm').setFrames (.throwing q :: below), ?_, .threw q, X'.here.running, hend, Or.inr ⟨q, rfl, E, ce, locs, hx _ hT (X'.ends _).1.alike, hcell9, hv, hcl, (X'.ends _).1, (X'.ends _).2.mono hc hs, hf⟩⟩
  rw [X.pushThrowing_eq]
  exact st
/-- a thing of a world lies in the heap -/
theorem vx_lt {D : va_G} {cl : List vw_C} {ws : va_W} {H1 : Heap} (h : va_P D cl ws H1) {k : Nat} {q : Nat × va_E} (hk : ws[k]? = some q) : q.1 < H1.size := (h k q hk).lt
end VXS
/-! ===== END ===== -/
/-! ===== BEGIN methods with a table of their own: called by a name, returning or throwing ===== -/
section VXH
/-! vx_backW, vx_callVX, vx_callSX, vx_callVW, vx_runVW, vx_runVX, vx_runSX, vx_ofWH follow the same proofs as their sisters above (Free/Laws.lean, Shelf42/LK1.lean); vx_outP calls Shelf42/NT130.lean (outThrough). -/
section
variable {l : Launch} {R : Room} {p : Program} {e : Env} {below : List Frame} {s : State} {sargs : Array Value} {y : MethodName} {len W9 : Nat}
theorem vx_backW {ws : List Cond} {rm : Room} {Pc : Array Value → State → Prop} {Qc : Array Value → State → Outcome → State → Prop} {XC : String → State → State → Prop} {mc ms : Nat} {free : Addr → Prop} {bytes : ByteArray} {maxL : Nat} {ret : Option FieldType} {hh : List (Nat × Nat × Nat × Nat)}
    (hM : vx_Met l y ws rm Pc Qc XC mc ms free) (hblind : FrameBlind Pc) (hrc : rm.cells = mc) (hrs : rm.slots = ms)
    (hframes : rm.frames + 1 ≤ R.frames) (hlocals : W9 + (maxL + 11) + rm.locals ≤ R.locals)
    (hws : ∀ w ∈ ws, ∀ a' U, s.WarmedH U.vm → w.before a' U = true) (hcode : Cond.codeWith y bytes maxL ret hh ∈ ws) (hinit : ∀ a' U, s.WarmedH U.vm → (Cond.initialized y.cls).before a' U = true) :
    vx_Back l R p e below s sargs y len W9 (PreOf R mc ms Pc) (PostOf Qc mc ms free) (vx_Post XC mc ms free) := by
  intro m meth c A g ig mk a X hg hsize hdg hW hn hp
  have h1 : (headSpec ws rm).pre.before a A.U = true := atoms_intro fun w hw => hws w hw _ _ X.warmed
  have h2 : (Cond.codeWith y bytes maxL ret hh).before a A.U = true := hws _ hcode _ _ X.warmed
  have h3 : (Cond.initialized y.cls).before a A.U = true := hinit _ _ X.warmed
  have h4 : A.cells + (headSpec ws rm).room.cells ≤ R.cells := by rw [show (headSpec ws rm).room.cells = mc from hrc]; exact hp.1
  have h5 : A.slots + (headSpec ws rm).room.slots ≤ R.slots := by rw [show (headSpec ws rm).room.slots = ms from hrs]; exact hp.2.1
  have hPc : Pc a (A.U.calling g mk a) := hblind _ _ _ _ hp.2.2
  obtain ⟨U, Ls, c0, s0⟩ := A
  dsimp only [Pt.U, Pt.locs, Pt.cells, Pt.slots] at h1 h2 h3 h4 h5 X hn hPc ⊢
  obtain ⟨m9, methY, cY, hn9, hmY, hcY, -, hlY, -⟩ := Cond.codeWith_spec h2
  cases Option.some.inj (hn9.symm.trans hn)
  obtain ⟨kY, hkY, -⟩ := className_of_methodNamed hn
  have hinitY : kY.init = .initialized := Cond.initialized_spec (findClass_of_methodNamed hn) hkY h3
  have h : At U g.method c below := by rw [hg]; exact X.here
  have hlocals9 : W9 + (maxL + 11) + (headSpec ws rm).room.locals ≤ R.locals := hlocals
  have happ : (headSpec ws rm).appliesLoose y e.platform (U.calling g mk a) = true :=
    Spec.appliesLoose_calling (g := g) h hdg hn hkY hinitY
      (X.room_calling (g := g) (R' := (headSpec ws rm).room) hsize hmY hcY hframes (by rw [hlY]; omega) h4 h5) h1
  obtain ⟨mid, hmid⟩ := h.above
  have hfr : (U.setTop g).frames = (.java g :: mid) ++ below := by rw [State.frames_setTop' g h.top, hmid]; rfl
  obtain ⟨o, s₂, hsteps, -, hend, hq⟩ := Steps.callFree hM p X.admits X.cas X.clock (acts := []) hfr happ hPc trivial
  have hq' : vx_Q Qc XC mc ms free a (U.calling g mk a) o s₂ := hq
  rw [State.frames_setTop' g h.top] at hend
  obtain ⟨g₀, hg0⟩ := Option.isSome_iff_exists.mp h.top
  obtain ⟨r, hr⟩ := State.topJava?_eq_some.mp hg0
  have hr' : (({ U with heap := s₂.heap, slotsUsed := s₂.slotsUsed } : State).setVm s₂.vm).frames = .java g₀ :: r := hr
  rcases hq' with ⟨hqc, L, hfe, hL⟩ | ⟨q, rfl, E, ce, L, hx, hce, hcv, hcl, hW₂, hsm, hL⟩
  · obtain ⟨⟨v, rfl⟩, hW₂, e2, q2, q3, q4, q5, q6⟩ := id hfe
    have e3 : s₂ = ({ (U.calling g mk a).setFrames s₂.frames with heap := s₂.heap, slotsUsed := s₂.slotsUsed } : State).setVm s₂.vm := by
      have : s₂ = ({ s₂ with vm := (U.calling g mk a).vm } : State).setVm s₂.vm := rfl
      rw [e2] at this
      exact this
    obtain ⟨c₂, i₂, len₂, hc₂, hd₂, hf₂⟩ := hend
    have hW' : U.WarmedH s₂.vm := hW₂
    have hcc : c₂ = c := by
      have h1 : s₂.code? g.method = U.code? g.method := by
        rw [State.code?_eq, State.code?_eq, hW'.alike.method?]
      exact Option.some.inj (hc₂.symm.trans (h1.trans h.code))
    subst hcc
    have hlen : len₂ = len := by rw [hdg] at hd₂; cases hd₂; rfl
    subst hlen
    have hs₂ : s₂ = (({ U with heap := s₂.heap, slotsUsed := s₂.slotsUsed } : State).setVm s₂.vm).setTop { g with pc := g.pc + len₂, stack := v.toList ++ g.stack } := by
      refine e3.trans ?_
      rw [hf₂, State.calling_eq h.top, State.setFrames_setFrames, State.setTop_of_frames _ hr', hr]
      rfl
    have hsame : U.sameButNew ({ U with heap := s₂.heap, slotsUsed := s₂.slotsUsed } : State) L mc ms := by
      refine ⟨?_, q2, q3, q4, q5, q6⟩
      obtain ⟨t, ht, -⟩ := State.frames_cons hr
      show ({ U with heap := s₂.heap, slotsUsed := s₂.slotsUsed } : State) = { U.setFrames U.frames with heap := s₂.heap, slotsUsed := s₂.slotsUsed }
      rw [State.setFrames_self ht]
    subst hg
    refine Or.inl ⟨v, ⟨(({ U with heap := s₂.heap, slotsUsed := s₂.slotsUsed } : State).setVm s₂.vm), Ls ++ L, c0 + mc, s0 + ms⟩,
      ⟨X.admits, X.cas, X.clock, X.frames, X.room, X.hears, X.method, X.code, (X.here.setHeapUsed s₂.heap s₂.slotsUsed).setVm hW'.alike, X.tail, State.WarmedH.trans X.warmed hW', X.limits, X.bytes, X.same.trans (hsame.setVm s.vm)⟩,
      ⟨g, mk, s₂, L, rfl, rfl, hqc, rfl, hL, rfl, rfl⟩, ?_⟩
    show Steps p.tables e below _ ((({ U with heap := s₂.heap, slotsUsed := s₂.slotsUsed } : State).setVm s₂.vm).setTop { g with pc := g.pc + len₂, stack := v.toList ++ g.stack })
    rw [← hs₂]
    exact hsteps
  · obtain ⟨e2, q2, q3, q4, q5, q6⟩ := id hsm
    have e3 : s₂ = ({ (U.calling g mk a).setFrames s₂.frames with heap := s₂.heap, slotsUsed := s₂.slotsUsed } : State).setVm s₂.vm := by
      have : s₂ = ({ s₂ with vm := (U.calling g mk a).vm } : State).setVm s₂.vm := rfl
      rw [e2] at this
      exact this
    have hf₂ : s₂.frames = .throwing q :: .java g :: U.frames.tail := hend
    have hW' : U.WarmedH s₂.vm := hW₂
    have hs₂ : s₂ = ((({ U with heap := s₂.heap, slotsUsed := s₂.slotsUsed } : State).setVm s₂.vm).setTop g).pushFrame (.throwing q) := by
      refine e3.trans ?_
      rw [hf₂, State.calling_eq h.top, State.setFrames_setFrames, State.pushFrame, State.frames_setTop _ hr', State.setTop_of_frames _ hr', State.setFrames_setFrames, hr]
      rfl
    have hsame : U.sameButNew ({ U with heap := s₂.heap, slotsUsed := s₂.slotsUsed } : State) L mc ms := by
      refine ⟨?_, q2, q3, q4, q5, q6⟩
      obtain ⟨t, ht, -⟩ := State.frames_cons hr
      show ({ U with heap := s₂.heap, slotsUsed := s₂.slotsUsed } : State) = { U.setFrames U.frames with heap := s₂.heap, slotsUsed := s₂.slotsUsed }
      rw [State.setFrames_self ht]
    subst hg
    refine Or.inr ⟨q, ⟨(({ U with heap := s₂.heap, slotsUsed := s₂.slotsUsed } : State).setVm s₂.vm), Ls ++ L, c0 + mc, s0 + ms⟩,
      ⟨X.admits, X.cas, X.clock, X.frames, X.room, X.hears, X.method, X.code, (X.here.setHeapUsed s₂.heap s₂.slotsUsed).setVm hW'.alike, X.tail, State.WarmedH.trans X.warmed hW', X.limits, X.bytes, X.same.trans (hsame.setVm s.vm)⟩,
      ⟨g, mk, s₂, L, E, ce, rfl, rfl, hx, hce, hcv, hcl, rfl, hL, rfl, rfl⟩, ?_⟩
    show Steps p.tables e below _ (((({ U with heap := s₂.heap, slotsUsed := s₂.slotsUsed } : State).setVm s₂.vm).setTop g).pushFrame (.throwing q))
    rw [← hs₂]
    exact hsteps
end
variable {p : Program} {l : Launch} {e : Env} {R : Room} {s : State} {m : MethodId} {args : Array Value} {below : List Frame} {meth : Method} {c : Code} {T : State} {H : Heap} {locs : List Loc} {cells slots : Nat}
theorem vx_callVX (X : Stand p l e R s m args below meth c T locs cells slots) (hexec : p.tables.exec = Jvm.exec) {own C : String} {index : Nat} {y : MethodName} {bytes : ByteArray} {maxL : Nat} {ret : Option FieldType} {hh : List (Nat × Nat × Nat × Nat)}
    (hown : s.vm.findClass own = some m.cls) (hlink : (Cond.methodLink own index y).before args s = true) (hinst : (Cond.instanceMethod y).before args s = true) (hsel : (Cond.selects C y y).before args s = true)
    (hcode : (Cond.codeWith y bytes maxL ret hh).before args s = true) (hy : y.cls ≠ "java/lang/invoke/MethodHandle" ∧ y.cls ≠ "java/lang/invoke/VarHandle")
    {W9 : Nat} {Pre : Pt → Array Value → Prop} {Post : Pt → Array Value → Option Value → Pt → Prop} {PostX : Pt → Array Value → Addr → Pt → Prop} (hK : vx_Back l R p e below s args y 3 W9 Pre Post PostX)
    {b : Addr} {cellB : Cell} (hcell : T.heap[b]? = some cellB) (hobj : cellB.vm.isStatics = false) (hcls : s.vm.findClass C = some cellB.cls)
    {g : JFrame} (hg : g.method = m) (hsize : g.locals.size = c.maxLocals) {argsL rest : List Value} (hlen : ∀ sig, parseMethodDescriptor y.desc = some sig → argsL.length = sig.parameters.length)
    (hstack : g.stack = argsL.reverse ++ .ref b :: rest) (hW : 2 * g.monitorRoom + (rest.map fun v => v.category).sum ≤ W9) (hdg : decode c.code g.pc = .ok (.invokevirtual index, 3))
    (hpre : ∀ vm₁, s.WarmedH vm₁ → Pre ⟨T.setVm vm₁, locs, cells, slots⟩ (Value.ref b :: argsL).toArray) :
    (∃ (v : Option Value) (vm₁ : Vm) (B : Pt), s.WarmedH vm₁ ∧ Stand p l e R s m args below meth c B.U B.locs B.cells B.slots ∧ Post ⟨T.setVm vm₁, locs, cells, slots⟩ (Value.ref b :: argsL).toArray v B ∧
      ∀ target, Steps p.tables e below (B.U.setTop { g with pc := g.pc + 3, stack := v.toList ++ rest }) target → Steps p.tables e below (T.setTop g) target) ∨
    (∃ (q : Addr) (vm₁ : Vm) (B : Pt), s.WarmedH vm₁ ∧ Stand p l e R s m args below meth c B.U B.locs B.cells B.slots ∧ PostX ⟨T.setVm vm₁, locs, cells, slots⟩ (Value.ref b :: argsL).toArray q B ∧
      Steps p.tables e below (T.setTop g) ((B.U.setTop { g with stack := rest }).pushFrame (.throwing q))) := by
  obtain ⟨mk, methM, hnamed, hmethM, hstM, habM⟩ := Cond.instanceMethod_spec hinst
  obtain ⟨m8, methM', cM, hn8, hmethM', -, -, -, -, -, -, hsigM⟩ := Cond.codeWith_spec hcode
  cases Option.some.inj (hn8.symm.trans hnamed)
  cases hmethM.symm.trans hmethM'
  obtain ⟨c2, r2, m2, q1, q2, q3, q4, kP, hkP, hkPi⟩ := Cond.selects_spec hsel
  cases hcls.symm.trans q1
  cases (State.methodFound?_of_named hnamed hy).symm.trans q2
  cases hnamed.symm.trans q3
  have hselP : selectMethod e.platform s.vm cellB.cls mk = .method mk := by rw [Launch.admits_selectMethod X.admits]; exact q4
  obtain ⟨vm₁, X₁, hstep₁⟩ := X.invokevirtual hexec hown hlink hnamed hmethM hstM hkP hkPi hy (a := b) (cell := cellB) hcell
    (fun z h => by rw [h] at hobj; cases hobj) hselP hmethM habM hkP hkPi (g := g) hg (argsL := argsL) (rest := rest) (hlen _ hsigM) hstack hdg
  rcases hK m meth c ⟨T.setVm vm₁, locs, cells, slots⟩ { g with stack := rest } (.invokevirtual index) mk (Value.ref b :: argsL).toArray X₁ hg hsize hdg hW (X₁.named hnamed) (hpre vm₁ X₁.warmed) with ⟨v, B, X', hpost, hsteps⟩ | ⟨q, B, X', hpost, hsteps⟩
  · exact Or.inl ⟨v, vm₁, B, X₁.warmed, X', hpost, fun target h => hstep₁ _ fun acts => by rw [doInvoke_state]; exact hsteps.trans h⟩
  · exact Or.inr ⟨q, vm₁, B, X₁.warmed, X', hpost, hstep₁ _ fun acts => by rw [doInvoke_state]; exact hsteps⟩
theorem vx_callSX (X : Stand p l e R s m args below meth c T locs cells slots) (hexec : p.tables.exec = Jvm.exec) {own : String} {index : Nat} {y : MethodName} {bytes : ByteArray} {maxL : Nat} {ret : Option FieldType} {hh : List (Nat × Nat × Nat × Nat)}
    (hown : s.vm.findClass own = some m.cls) (hlink : (Cond.methodLink own index y).before args s = true) (hstat : (Cond.static y).before args s = true) (hinit : (Cond.initialized y.cls).before args s = true)
    (hcode : (Cond.codeWith y bytes maxL ret hh).before args s = true) (hy : y.cls ≠ "java/lang/invoke/MethodHandle" ∧ y.cls ≠ "java/lang/invoke/VarHandle")
    {W9 : Nat} {Pre : Pt → Array Value → Prop} {Post : Pt → Array Value → Option Value → Pt → Prop} {PostX : Pt → Array Value → Addr → Pt → Prop} (hK : vx_Back l R p e below s args y 3 W9 Pre Post PostX)
    {g : JFrame} (hg : g.method = m) (hsize : g.locals.size = c.maxLocals) {argsL rest : List Value} (hlen : ∀ sig, parseMethodDescriptor y.desc = some sig → argsL.length = sig.parameters.length)
    (hstack : g.stack = argsL.reverse ++ rest) (hW : 2 * g.monitorRoom + (rest.map fun v => v.category).sum ≤ W9) (hdg : decode c.code g.pc = .ok (.invokestatic index, 3))
    (hpre : ∀ vm₁, s.WarmedH vm₁ → Pre ⟨T.setVm vm₁, locs, cells, slots⟩ argsL.toArray) :
    (∃ (v : Option Value) (vm₁ : Vm) (B : Pt), s.WarmedH vm₁ ∧ Stand p l e R s m args below meth c B.U B.locs B.cells B.slots ∧ Post ⟨T.setVm vm₁, locs, cells, slots⟩ argsL.toArray v B ∧
      ∀ target, Steps p.tables e below (B.U.setTop { g with pc := g.pc + 3, stack := v.toList ++ rest }) target → Steps p.tables e below (T.setTop g) target) ∨
    (∃ (q : Addr) (vm₁ : Vm) (B : Pt), s.WarmedH vm₁ ∧ Stand p l e R s m args below meth c B.U B.locs B.cells B.slots ∧ PostX ⟨T.setVm vm₁, locs, cells, slots⟩ argsL.toArray q B ∧
      Steps p.tables e below (T.setTop g) ((B.U.setTop { g with stack := rest }).pushFrame (.throwing q))) := by
  obtain ⟨mk, methM, cM, hnamed, hmethM, -, -, -, -, -, -, hsigM⟩ := Cond.codeWith_spec hcode
  have hstatic : methM.isStatic = true := Cond.static_spec hnamed hmethM hstat
  obtain ⟨kP, hkP, -⟩ := className_of_methodNamed hnamed
  have hinitP : kP.init = .initialized := Cond.initialized_spec (findClass_of_methodNamed hnamed) hkP hinit
  obtain ⟨vm₁, X₁, hstep₁⟩ := X.invokestatic hexec hown hlink hnamed hmethM hstatic hkP hinitP hy (g := g) hg (argsL := argsL) (rest := rest) (hlen _ hsigM) hstack hdg
  rcases hK m meth c ⟨T.setVm vm₁, locs, cells, slots⟩ { g with stack := rest } (.invokestatic index) mk argsL.toArray X₁ hg hsize hdg hW (X₁.named hnamed) (hpre vm₁ X₁.warmed) with ⟨v, B, X', hpost, hsteps⟩ | ⟨q, B, X', hpost, hsteps⟩
  · exact Or.inl ⟨v, vm₁, B, X₁.warmed, X', hpost, fun target h => hstep₁ _ fun acts => by rw [doInvoke_state]; exact hsteps.trans h⟩
  · exact Or.inr ⟨q, vm₁, B, X₁.warmed, X', hpost, hstep₁ _ fun acts => by rw [doInvoke_state]; exact hsteps⟩
theorem vx_callVW (X : Stand p l e R s m args below meth c T locs cells slots) (hexec : p.tables.exec = Jvm.exec) {own C : String} {index : Nat} {y : MethodName} {bytes : ByteArray} {maxL : Nat} {ret : Option FieldType} {hh : List (Nat × Nat × Nat × Nat)}
    (hown : s.vm.findClass own = some m.cls) (hlink : (Cond.methodLink own index y).before args s = true) (hinst : (Cond.instanceMethod y).before args s = true) (hsel : (Cond.selects C y y).before args s = true)
    (hcode : (Cond.codeWith y bytes maxL ret hh).before args s = true) (hy : y.cls ≠ "java/lang/invoke/MethodHandle" ∧ y.cls ≠ "java/lang/invoke/VarHandle")
    {W9 : Nat} {Pre : Pt → Array Value → Prop} {Post : Pt → Array Value → Option Value → Pt → Prop} (hK : Back l R p e below s args y 3 W9 Pre Post)
    {b : Addr} {cellB : Cell} (hcell : T.heap[b]? = some cellB) (hobj : cellB.vm.isStatics = false) (hcls : s.vm.findClass C = some cellB.cls)
    {g : JFrame} (hg : g.method = m) (hsize : g.locals.size = c.maxLocals) {argsL rest : List Value} (hlen : ∀ sig, parseMethodDescriptor y.desc = some sig → argsL.length = sig.parameters.length)
    (hstack : g.stack = argsL.reverse ++ .ref b :: rest) (hW : 2 * g.monitorRoom + (rest.map fun v => v.category).sum ≤ W9) (hdg : decode c.code g.pc = .ok (.invokevirtual index, 3))
    (hpre : ∀ vm₁, s.WarmedH vm₁ → Pre ⟨T.setVm vm₁, locs, cells, slots⟩ (Value.ref b :: argsL).toArray) :
    ∃ (v : Option Value) (vm₁ : Vm) (B : Pt), s.WarmedH vm₁ ∧ Stand p l e R s m args below meth c B.U B.locs B.cells B.slots ∧ Post ⟨T.setVm vm₁, locs, cells, slots⟩ (Value.ref b :: argsL).toArray v B ∧
      ∀ target, Steps p.tables e below (B.U.setTop { g with pc := g.pc + 3, stack := v.toList ++ rest }) target → Steps p.tables e below (T.setTop g) target := by
  obtain ⟨mk, methM, hnamed, hmethM, hstM, habM⟩ := Cond.instanceMethod_spec hinst
  obtain ⟨m8, methM', cM, hn8, hmethM', -, -, -, -, -, -, hsigM⟩ := Cond.codeWith_spec hcode
  cases Option.some.inj (hn8.symm.trans hnamed)
  cases hmethM.symm.trans hmethM'
  obtain ⟨c2, r2, m2, q1, q2, q3, q4, kP, hkP, hkPi⟩ := Cond.selects_spec hsel
  cases hcls.symm.trans q1
  cases (State.methodFound?_of_named hnamed hy).symm.trans q2
  cases hnamed.symm.trans q3
  have hselP : selectMethod e.platform s.vm cellB.cls mk = .method mk := by rw [Launch.admits_selectMethod X.admits]; exact q4
  obtain ⟨vm₁, X₁, hstep₁⟩ := X.invokevirtual hexec hown hlink hnamed hmethM hstM hkP hkPi hy (a := b) (cell := cellB) hcell
    (fun z h => by rw [h] at hobj; cases hobj) hselP hmethM habM hkP hkPi (g := g) hg (argsL := argsL) (rest := rest) (hlen _ hsigM) hstack hdg
  obtain ⟨v, B, X', hpost, hsteps⟩ := hK m meth c ⟨T.setVm vm₁, locs, cells, slots⟩ { g with stack := rest } (.invokevirtual index) mk (Value.ref b :: argsL).toArray X₁ hg hsize hdg hW (X₁.named hnamed) (hpre vm₁ X₁.warmed)
  exact ⟨v, vm₁, B, X₁.warmed, X', hpost, fun target h => hstep₁ _ fun acts => by rw [doInvoke_state]; exact hsteps.trans h⟩
abbrev vx_CVW (R : Room) (s : State) (args : Array Value) (own C : String) (index : Nat) (y : MethodName) (bytes : ByteArray) (maxL : Nat) (ret : Option FieldType) (hh : List (Nat × Nat × Nat × Nat)) (ws : List Cond) (rm : Room) (mc ms n : Nat) : Prop :=
  (rm.cells = mc ∧ rm.slots = ms ∧ rm.frames + 1 ≤ R.frames ∧ 8 + (maxL + 11) + rm.locals ≤ R.locals ∧ (∀ w ∈ ws, ∀ (a' : Array Value) (U : State), s.WarmedH U.vm → w.before a' U = true) ∧ Cond.codeWith y bytes maxL ret hh ∈ ws) ∧
  (Cond.codeWith y bytes maxL ret hh).before args s = true ∧ (Cond.initialized y.cls).before args s = true ∧ (y.cls ≠ "java/lang/invoke/MethodHandle" ∧ y.cls ≠ "java/lang/invoke/VarHandle") ∧
  (∀ sig, parseMethodDescriptor y.desc = some sig → n = sig.parameters.length) ∧ (Cond.methodLink own index y).before args s = true ∧ (Cond.instanceMethod y).before args s = true ∧ (Cond.selects C y y).before args s = true
theorem vx_cwVW {own C : String} {index maxL mc ms : Nat} {y : MethodName} {bytes : ByteArray} {ret : Option FieldType} {hh : List (Nat × Nat × Nat × Nat)} {Ts ws ws' : List Cond} {rm : Room} (n : Nat) (ht : ∀ w ∈ Ts, w.before args s = true) (hT : GoodIn Ts (wsV own index C y ws)) (hw : ws = Cond.codeWith y bytes maxL ret hh :: ws') (hrc : rm.cells = mc) (hrs : rm.slots = ms)
    (hd : y.cls = C ∧ y.cls ≠ "java/lang/invoke/MethodHandle" ∧ y.cls ≠ "java/lang/invoke/VarHandle" ∧ (parseMethodDescriptor y.desc).map (fun d => d.parameters.length) = some n) (hR : rm.frames + 1 ≤ R.frames ∧ 8 + (maxL + 11) + rm.locals ≤ R.locals) :
    vx_CVW R s args own C index y bytes maxL ret hh ws rm mc ms n := by
  obtain ⟨hC, hd⟩ := hd
  subst hC
  have ok : ∀ w ∈ wsV own index y.cls y ws, w.before args s = true := fun w h => ht w (hT w h).1
  have hG : GoodIn Ts ws := fun w h => hT w (by unfold wsV; exact List.mem_append_right _ h)
  have hc : Cond.codeWith y bytes maxL ret hh ∈ ws := by rw [hw]; exact List.mem_cons_self
  refine ⟨⟨hrc, hrs, hR.1, hR.2, pay_in ht hG, hc⟩, ht _ (hG _ hc).1, ok _ (by simp [wsV]), ⟨hd.1, hd.2.1⟩, fun sig h => ?_, ok _ (by simp [wsV]), ok _ (by simp [wsV]), ok _ (by simp [wsV])⟩
  have h2 := hd.2.2
  rw [h] at h2
  exact (Option.some.inj h2).symm
theorem vx_runVW {y : MethodName} {bytes cc : ByteArray} {maxL nL mc ms n index : Nat} {ret : Option FieldType} {hh : List (Nat × Nat × Nat × Nat)} {ws : List Cond} {rm : Room} {Pc : Array Value → State → Prop} {Qc : Array Value → State → Outcome → State → Prop} {free : Addr → Prop} {Ts : List Cond} {own C : String} {b : Addr} {As rest : List Value} {g : JFrame}
    (S : CallFix p m c cc nL s args Ts own) (hM : Met l y ws rm Pc Qc mc ms free) (cw : vx_CVW R s args own C index y bytes maxL ret hh ws rm mc ms n) (hp : PreV s H C b Pc As)
    (hg : g.method = m) (hn : As.length = n) (hsize : g.locals.size = nL) (hstack : g.stack = As.reverse ++ .ref b :: rest) (hW : 2 * g.monitorRoom + (rest.map fun v => v.category).sum ≤ 8) (hdg : decode cc g.pc = .ok (.invokevirtual index, 3)) (hf : cells + mc ≤ R.cells ∧ slots + ms ≤ R.slots) :
    va_Run p l e R s m args below meth c H locs cells slots mc ms g rest (Qc (Value.ref b :: As).toArray) free := by
  obtain ⟨⟨hrc, hrs, hfr, hlo, hws, hcw⟩, hcode, hini, hy, hlen, hl, hin, hse⟩ := cw
  have hK : Back l R p e below s args y 3 8 (PreOf R mc ms Pc) (PostOf Qc mc ms free) := va_backW (hh := hh) (bytes := bytes) (maxL := maxL) (ret := ret) hM hp.1 hrc hrs hfr hlo hws hcw (fun a' U hW => word_at hW (Or.inl (by first | rfl | simp [Cond.onTables, Cond.keeps, Cond.steady])) hini)
  obtain ⟨hx, hb, hml, ho, -⟩ := S
  obtain ⟨-, ⟨cellB, hcB, hoB, hclB⟩, hPc⟩ := hp
  intro T hT X
  obtain ⟨v, vm₁, ⟨U', l2, c2, s2⟩, hW₁, X', ⟨g', mk, t, L, e1, e2, hq, h1, hL, h2, h3⟩, st⟩ := vx_callVW X hx (C := C) (hh := hh) (bytes := bytes) (maxL := maxL) (ret := ret) ho hl hin hse hcode hy hK (by rw [hT]; exact hcB) hoB hclB hg (hsize.trans hml.symm) (argsL := As) (rest := rest) (fun sig h => hn.trans (hlen sig h)) hstack hW (by rw [hb]; exact hdg)
    (fun vm₁ hW₁ => ⟨hf.1, hf.2, hPc (T.setVm vm₁) hT hW₁⟩)
  dsimp only [Pt.U, Pt.locs, Pt.cells, Pt.slots] at X' e1 e2 h1 h2 h3 st
  subst h1; subst h2; subst h3
  exact ⟨v, (T.setVm vm₁).calling g' mk (Value.ref b :: As).toArray, t, U', L, hT, X', hL, e1, e2, hq, st⟩
section
variable {y : MethodName} {bytes cc : ByteArray} {maxL nL mc ms n index : Nat} {ret : Option FieldType} {ws : List Cond} {rm : Room} {Pc : Array Value → State → Prop} {Qc : Array Value → State → Outcome → State → Prop} {XC : String → State → State → Prop} {free : Addr → Prop} {Ts : List Cond} {own C : String} {b : Addr} {As rest : List Value} {g : JFrame}
theorem vx_runVX {hh : List (Nat × Nat × Nat × Nat)} (S : CallFix p m c cc nL s args Ts own) (hM : vx_Met l y ws rm Pc Qc XC mc ms free) (cw : vx_CVW R s args own C index y bytes maxL ret hh ws rm mc ms n) (hp : PreV s H C b Pc As)
    (hg : g.method = m) (hn : As.length = n) (hsize : g.locals.size = nL) (hstack : g.stack = As.reverse ++ .ref b :: rest) (hW : 2 * g.monitorRoom + (rest.map fun v => v.category).sum ≤ 8) (hdg : decode cc g.pc = .ok (.invokevirtual index, 3)) (hf : cells + mc ≤ R.cells ∧ slots + ms ≤ R.slots) :
    vx_Run p l e R s m args below meth c H locs cells slots mc ms g rest (Qc (Value.ref b :: As).toArray) XC free := by
  obtain ⟨⟨hrc, hrs, hfr, hlo, hws, hcw⟩, hcode, hini, hy, hlen, hl, hin, hse⟩ := cw
  have hK : vx_Back l R p e below s args y 3 8 (PreOf R mc ms Pc) (PostOf Qc mc ms free) (vx_Post XC mc ms free) := vx_backW (hh := hh) (bytes := bytes) (maxL := maxL) (ret := ret) hM hp.1 hrc hrs hfr hlo hws hcw (fun a' U hW => word_at hW (Or.inl (by first | rfl | simp [Cond.onTables, Cond.keeps, Cond.steady])) hini)
  obtain ⟨hx, hb, hml, ho, -⟩ := S
  obtain ⟨-, ⟨cellB, hcB, hoB, hclB⟩, hPc⟩ := hp
  intro T hT X
  rcases vx_callVX X hx (C := C) (hh := hh) (bytes := bytes) (maxL := maxL) (ret := ret) ho hl hin hse hcode hy hK (by rw [hT]; exact hcB) hoB hclB hg (hsize.trans hml.symm) (argsL := As) (rest := rest) (fun sig h => hn.trans (hlen sig h)) hstack hW (by rw [hb]; exact hdg)
    (fun vm₁ hW₁ => ⟨hf.1, hf.2, hPc (T.setVm vm₁) hT hW₁⟩) with ⟨v, vm₁, ⟨U', l2, c2, s2⟩, hW₁, X', ⟨g', mk, t, L, e1, e2, hq, h1, hL, h2, h3⟩, st⟩ | ⟨q, vm₁, ⟨U', l2, c2, s2⟩, hW₁, X', ⟨g', mk, t, L, E, ce, e1, e2, hq, hce, hcv, hcl, h1, hL, h2, h3⟩, st⟩
  · dsimp only [Pt.U, Pt.locs, Pt.cells, Pt.slots] at X' e1 e2 h1 h2 h3 st
    subst h1; subst h2; subst h3
    exact Or.inl ⟨v, (T.setVm vm₁).calling g' mk (Value.ref b :: As).toArray, t, U', L, hT, X', hL, e1, e2, hq, st⟩
  · dsimp only [Pt.U, Pt.locs, Pt.cells, Pt.slots] at X' e1 e2 h1 h2 h3 st hcl
    subst h1; subst h2; subst h3
    exact Or.inr ⟨q, (T.setVm vm₁).calling g' mk (Value.ref b :: As).toArray, t, U', L, E, ce, hT, X', hL, e1, e2, hq, hce, hcv, vx_cls hW₁ hcl, st⟩
theorem vx_runSX {hh : List (Nat × Nat × Nat × Nat)} (S : CallFix p m c cc nL s args Ts own) (hM : vx_Met l y ws rm Pc Qc XC mc ms free) (cw : vx_CSW R s args own index y bytes maxL ret hh ws rm mc ms n) (hp : PreS s H Pc As)
    (hg : g.method = m) (hn : As.length = n) (hsize : g.locals.size = nL) (hstack : g.stack = As.reverse ++ rest) (hW : 2 * g.monitorRoom + (rest.map fun v => v.category).sum ≤ 8) (hdg : decode cc g.pc = .ok (.invokestatic index, 3)) (hf : cells + mc ≤ R.cells ∧ slots + ms ≤ R.slots) :
    vx_Run p l e R s m args below meth c H locs cells slots mc ms g rest (Qc As.toArray) XC free := by
  obtain ⟨⟨hrc, hrs, hfr, hlo, hws, hcw⟩, hcode, hini, hy, hlen, hl, hstt⟩ := cw
  have hK : vx_Back l R p e below s args y 3 8 (PreOf R mc ms Pc) (PostOf Qc mc ms free) (vx_Post XC mc ms free) := vx_backW (hh := hh) (bytes := bytes) (maxL := maxL) (ret := ret) hM hp.1 hrc hrs hfr hlo hws hcw (fun a' U hW => word_at hW (Or.inl (by first | rfl | simp [Cond.onTables, Cond.keeps, Cond.steady])) hini)
  obtain ⟨hx, hb, hml, ho, -⟩ := S
  intro T hT X
  rcases vx_callSX X hx (hh := hh) (bytes := bytes) (maxL := maxL) (ret := ret) ho hl hstt hini hcode hy hK hg (hsize.trans hml.symm) (argsL := As) (rest := rest) (fun sig h => hn.trans (hlen sig h)) hstack hW (by rw [hb]; exact hdg)
    (fun vm₁ hW₁ => ⟨hf.1, hf.2, hp.2 (T.setVm vm₁) hT hW₁⟩) with ⟨v, vm₁, ⟨U', l2, c2, s2⟩, hW₁, X', ⟨g', mk, t, L, e1, e2, hq, h1, hL, h2, h3⟩, st⟩ | ⟨q, vm₁, ⟨U', l2, c2, s2⟩, hW₁, X', ⟨g', mk, t, L, E, ce, e1, e2, hq, hce, hcv, hcl, h1, hL, h2, h3⟩, st⟩
  · dsimp only [Pt.U, Pt.locs, Pt.cells, Pt.slots] at X' e1 e2 h1 h2 h3 st
    subst h1; subst h2; subst h3
    exact Or.inl ⟨v, (T.setVm vm₁).calling g' mk As.toArray, t, U', L, hT, X', hL, e1, e2, hq, st⟩
  · dsimp only [Pt.U, Pt.locs, Pt.cells, Pt.slots] at X' e1 e2 h1 h2 h3 st hcl
    subst h1; subst h2; subst h3
    exact Or.inr ⟨q, (T.setVm vm₁).calling g' mk As.toArray, t, U', L, E, ce, hT, X', hL, e1, e2, hq, hce, hcv, vx_cls hW₁ hcl, st⟩
end
end VXH
theorem vx_ofWH {l : Launch} {y : MethodName} {ws ws' : List Cond} {rm : Room} {Pc : Array Value → State → Prop} {Qc : Array Value → State → Outcome → State → Prop} {XC : String → State → State → Prop} {mc ms : Nat} {free : Addr → Prop} {cc : ByteArray} {maxL : Nat} {ret : Option FieldType} {hh : List (Nat × Nat × Nat × Nat)}
    (hy : plainName y.cls = true) (hw : ws = Cond.codeWith y cc maxL ret hh :: ws')
    (body : ∀ p e s m args below meth c s₁, BodyLoose p l y (headSpec ws rm) cc maxL ret e s m args below meth c s₁ → c.maxLocals = maxL → Pc args s →
      W p l e (headSpec ws rm).room s m args below meth c s.heap [] 0 0 (vx_MQ below Qc XC args s mc ms free) (entryFrame m args maxL)) : vx_Met l y ws rm Pc Qc XC mc ms free := by
  refine MetFree.of_bodyS (code := cc) (maxLocals := maxL) (ret := ret) hy ?_ ?_
  · intro args s m h hn
    obtain ⟨m9, meth, c, hn9, h1, h2, h3, h4, -, h5, h6, -⟩ := Cond.codeWith_spec (atoms_spec (ws := ws) h _ (by rw [hw]; exact List.mem_cons_self))
    cases hn.symm.trans hn9
    exact ⟨meth, c, h1, h2, h3, h4, h5, h6⟩
  · intro p e s m args below meth c s₁ B hml hP _
    have hh0 : s₁.heap = s.heap := by rw [B.state]; rfl
    obtain ⟨t, a1, o, b1, b2, b3⟩ := body p e s m args below meth c s₁ B hml hP s₁ hh0 (Stand.of_body B)
    exact ⟨t, o, a1, b1, b2, b3⟩
/-! ===== END ===== -/
end
section
def RE : String := "EmitDesk"
def TE : u_T := fun k => match k with
  | 0 => ("EmitDesk", "ops", "[I", true)
  | 1 => ("EmitDesk", "numbers", "[J", true)
  | 2 => ("EmitDesk", "instructions", "I", false)
  | 3 => ("EmitDesk", "values", "[J", true)
  | 4 => ("EmitDesk", "valueCount", "I", false)
  | 5 => ("EmitDesk", "stack", "[J", true)
  | 6 => ("EmitDesk", "depth", "I", false)
  | 7 => ("EmitDesk", "cells", "[J", true)
  | 8 => ("EmitDesk", "pairKeys", "[J", true)
  | 9 => ("EmitDesk", "pairValues", "[J", true)
  | 10 => ("EmitDesk", "pairs", "I", false)
  | 11 => ("EmitDesk", "latestWay", "I", false)
  | 12 => ("EmitDesk", "latestKey", "J", false)
  | 13 => ("EmitDesk", "place", "I", false)
  | 14 => ("EmitDesk", "done", "I", false)
  | 15 => ("EmitDesk", "taken", "I", false)
  | _ => ("EmitDesk", "trapped", "Z", false)
def tyE : Nat → FieldType := fun k => match k with
  | 0 => .array .int
  | 1 => .array .long
  | 2 => .int
  | 3 => .array .long
  | 4 => .int
  | 5 => .array .long
  | 6 => .int
  | 7 => .array .long
  | 8 => .array .long
  | 9 => .array .long
  | 10 => .int
  | 11 => .int
  | 12 => .long
  | 13 => .int
  | 14 => .int
  | 15 => .int
  | _ => .boolean
theorem nmE : ∀ a, a < 17 → ∀ b, b < 17 → a ≠ b → (TE a).2.1 ≠ (TE b).2.1 := by decide +kernel
theorem tyE_ok : ∀ k, k < 17 → parseFieldDescriptor (TE k).2.2.1 = some (tyE k) := by decide +kernel
def RM : String := "EmitDeskModel"
def TM : u_T := fun k => match k with
  | 0 => ("EmitDeskModel", "op", "[I", true)
  | 1 => ("EmitDeskModel", "arg", "[J", true)
  | 2 => ("EmitDeskModel", "value", "[J", true)
  | 3 => ("EmitDeskModel", "stack", "[J", true)
  | 4 => ("EmitDeskModel", "cell", "[J", true)
  | 5 => ("EmitDeskModel", "key", "[J", true)
  | 6 => ("EmitDeskModel", "emitted", "[J", true)
  | 7 => ("EmitDeskModel", "codes", "I", false)
  | 8 => ("EmitDeskModel", "values", "I", false)
  | 9 => ("EmitDeskModel", "steps", "I", false)
  | 10 => ("EmitDeskModel", "top", "I", false)
  | 11 => ("EmitDeskModel", "pairs", "I", false)
  | 12 => ("EmitDeskModel", "taken", "I", false)
  | 13 => ("EmitDeskModel", "thrown", "I", false)
  | _ => ("EmitDeskModel", "isTrap", "Z", false)
def tyM : Nat → FieldType := fun k => match k with
  | 0 => .array .int
  | 1 => .array .long
  | 2 => .array .long
  | 3 => .array .long
  | 4 => .array .long
  | 5 => .array .long
  | 6 => .array .long
  | 7 => .int
  | 8 => .int
  | 9 => .int
  | 10 => .int
  | 11 => .int
  | 12 => .int
  | 13 => .int
  | _ => .boolean
theorem nmM : ∀ a, a < 15 → ∀ b, b < 15 → a ≠ b → (TM a).2.1 ≠ (TM b).2.1 := by decide +kernel
theorem tyM_ok : ∀ k, k < 15 → parseFieldDescriptor (TM k).2.2.1 = some (tyM k) := by decide +kernel
abbrev vwCl : List vw_C := [(RE, TE, 17), (RM, TM, 15)]
abbrev cE_init : ByteArray := prog_1_method_1_code
def yE_init : MethodName := ⟨"EmitDesk", "<init>", "()V"⟩
abbrev cE_code : ByteArray := prog_1_method_2_code
def yE_code : MethodName := ⟨"EmitDesk", "code", "(IJ)I"⟩
abbrev cE_clear : ByteArray := prog_1_method_3_code
def yE_clear : MethodName := ⟨"EmitDesk", "clear", "()I"⟩
abbrev cE_value : ByteArray := prog_1_method_4_code
def yE_value : MethodName := ⟨"EmitDesk", "value", "(J)I"⟩
abbrev cE_empty : ByteArray := prog_1_method_5_code
def yE_empty : MethodName := ⟨"EmitDesk", "empty", "()I"⟩
abbrev cE_call : ByteArray := prog_1_method_6_code
def yE_call : MethodName := ⟨"EmitDesk", "call", "(IJ)I"⟩
abbrev cE_emitted : ByteArray := prog_1_method_7_code
def yE_emitted : MethodName := ⟨"EmitDesk", "emitted", "(IZ)J"⟩
abbrev cE_told : ByteArray := prog_1_method_8_code
def yE_told : MethodName := ⟨"EmitDesk", "told", "(I)I"⟩
abbrev cE_cell : ByteArray := prog_1_method_9_code
def yE_cell : MethodName := ⟨"EmitDesk", "cell", "(I)J"⟩
abbrev cE_isInstruction : ByteArray := prog_1_method_10_code
def yE_isInstruction : MethodName := ⟨"EmitDesk", "isInstruction", "(IJ)Z"⟩
abbrev cE_goesBehindEnd : ByteArray := prog_1_method_11_code
def yE_goesBehindEnd : MethodName := ⟨"EmitDesk", "goesBehindEnd", "()Z"⟩
abbrev cE_begin : ByteArray := prog_1_method_12_code
def yE_begin : MethodName := ⟨"EmitDesk", "begin", "(IJ)V"⟩
abbrev cE_runProgram : ByteArray := prog_1_method_13_code
def yE_runProgram : MethodName := ⟨"EmitDesk", "runProgram", "()V"⟩
abbrev cE_perform : ByteArray := prog_1_method_14_code
def yE_perform : MethodName := ⟨"EmitDesk", "perform", "(IJ)V"⟩
abbrev cE_push : ByteArray := prog_1_method_15_code
def yE_push : MethodName := ⟨"EmitDesk", "push", "(J)V"⟩
abbrev cE_pop : ByteArray := prog_1_method_16_code
def yE_pop : MethodName := ⟨"EmitDesk", "pop", "()J"⟩
abbrev cE_hasNext : ByteArray := prog_1_method_17_code
def yE_hasNext : MethodName := ⟨"EmitDesk", "hasNext", "()Z"⟩
abbrev cE_pushValue : ByteArray := prog_1_method_18_code
def yE_pushValue : MethodName := ⟨"EmitDesk", "pushValue", "()V"⟩
abbrev cE_popCell : ByteArray := prog_1_method_19_code
def yE_popCell : MethodName := ⟨"EmitDesk", "popCell", "(I)V"⟩
abbrev cE_doubleTop : ByteArray := prog_1_method_20_code
def yE_doubleTop : MethodName := ⟨"EmitDesk", "doubleTop", "()V"⟩
abbrev cE_changeTwo : ByteArray := prog_1_method_21_code
def yE_changeTwo : MethodName := ⟨"EmitDesk", "changeTwo", "()V"⟩
abbrev cE_goIfZero : ByteArray := prog_1_method_22_code
def yE_goIfZero : MethodName := ⟨"EmitDesk", "goIfZero", "(I)V"⟩
abbrev cE_emitPair : ByteArray := prog_1_method_23_code
def yE_emitPair : MethodName := ⟨"EmitDesk", "emitPair", "()V"⟩
abbrev cE_combine : ByteArray := prog_1_method_24_code
def yE_combine : MethodName := ⟨"EmitDesk", "combine", "(I)V"⟩
abbrev cE_divide : ByteArray := prog_1_method_25_code
def yE_divide : MethodName := ⟨"EmitDesk", "divide", "(JJ)V"⟩
abbrev cM_init : ByteArray := prog_3_method_1_code
def yM_init : MethodName := ⟨"EmitDeskModel", "<init>", "()V"⟩
abbrev cM_thrown : ByteArray := prog_3_method_2_code
def yM_thrown : MethodName := ⟨"EmitDeskModel", "thrown", "()I"⟩
abbrev cM_in : ByteArray := prog_3_method_3_code
def yM_in : MethodName := ⟨"EmitDeskModel", "in", "(JII)Z"⟩
abbrev cM_code : ByteArray := prog_3_method_4_code
def yM_code : MethodName := ⟨"EmitDeskModel", "code", "(IJ)I"⟩
abbrev cM_clear : ByteArray := prog_3_method_5_code
def yM_clear : MethodName := ⟨"EmitDeskModel", "clear", "()I"⟩
abbrev cM_value : ByteArray := prog_3_method_6_code
def yM_value : MethodName := ⟨"EmitDeskModel", "value", "(J)I"⟩
abbrev cM_empty : ByteArray := prog_3_method_7_code
def yM_empty : MethodName := ⟨"EmitDeskModel", "empty", "()I"⟩
abbrev cM_call : ByteArray := prog_3_method_8_code
def yM_call : MethodName := ⟨"EmitDeskModel", "call", "(IJ)I"⟩
abbrev cM_isDone : ByteArray := prog_3_method_9_code
def yM_isDone : MethodName := ⟨"EmitDeskModel", "isDone", "(IJ)Z"⟩
abbrev cM_emitted : ByteArray := prog_3_method_10_code
def yM_emitted : MethodName := ⟨"EmitDeskModel", "emitted", "(IZ)J"⟩
abbrev cM_told : ByteArray := prog_3_method_11_code
def yM_told : MethodName := ⟨"EmitDeskModel", "told", "(I)I"⟩
abbrev cM_cell : ByteArray := prog_3_method_12_code
def yM_cell : MethodName := ⟨"EmitDeskModel", "cell", "(I)J"⟩
abbrev cL_code : ByteArray := method_3_code
def yL_code : MethodName := ⟨"EmitDeskLaw", "code", "(LEmitDesk;IJ[J)I"⟩
abbrev cL_value : ByteArray := method_4_code
def yL_value : MethodName := ⟨"EmitDeskLaw", "value", "(LEmitDesk;J[J)I"⟩
abbrev cL_call : ByteArray := method_5_code
def yL_call : MethodName := ⟨"EmitDeskLaw", "call", "(LEmitDesk;IJ[J)I"⟩
abbrev cL_emitted : ByteArray := method_6_code
def yL_emitted : MethodName := ⟨"EmitDeskLaw", "emitted", "(LEmitDesk;IZ[J)I"⟩
abbrev cL_told : ByteArray := method_7_code
def yL_told : MethodName := ⟨"EmitDeskLaw", "told", "(LEmitDesk;I[J)I"⟩
abbrev cL_cell : ByteArray := method_8_code
def yL_cell : MethodName := ⟨"EmitDeskLaw", "cell", "(LEmitDesk;I[J)I"⟩
abbrev cL_law : ByteArray := code
def yL_law : MethodName := ⟨"EmitDeskLaw", "law", "([I)Z"⟩
theorem wd_E_init : yE_init.cls ≠ "java/lang/invoke/MethodHandle" ∧ yE_init.cls ≠ "java/lang/invoke/VarHandle" ∧ (parseMethodDescriptor yE_init.desc).map (fun d => d.parameters.length) = some 0 := by decide +kernel
theorem wd_E_code : yE_code.cls ≠ "java/lang/invoke/MethodHandle" ∧ yE_code.cls ≠ "java/lang/invoke/VarHandle" ∧ (parseMethodDescriptor yE_code.desc).map (fun d => d.parameters.length) = some 2 := by decide +kernel
theorem wd_E_clear : yE_clear.cls ≠ "java/lang/invoke/MethodHandle" ∧ yE_clear.cls ≠ "java/lang/invoke/VarHandle" ∧ (parseMethodDescriptor yE_clear.desc).map (fun d => d.parameters.length) = some 0 := by decide +kernel
theorem wd_E_value : yE_value.cls ≠ "java/lang/invoke/MethodHandle" ∧ yE_value.cls ≠ "java/lang/invoke/VarHandle" ∧ (parseMethodDescriptor yE_value.desc).map (fun d => d.parameters.length) = some 1 := by decide +kernel
theorem wd_E_empty : yE_empty.cls ≠ "java/lang/invoke/MethodHandle" ∧ yE_empty.cls ≠ "java/lang/invoke/VarHandle" ∧ (parseMethodDescriptor yE_empty.desc).map (fun d => d.parameters.length) = some 0 := by decide +kernel
theorem wd_E_call : yE_call.cls ≠ "java/lang/invoke/MethodHandle" ∧ yE_call.cls ≠ "java/lang/invoke/VarHandle" ∧ (parseMethodDescriptor yE_call.desc).map (fun d => d.parameters.length) = some 2 := by decide +kernel
theorem wd_E_emitted : yE_emitted.cls ≠ "java/lang/invoke/MethodHandle" ∧ yE_emitted.cls ≠ "java/lang/invoke/VarHandle" ∧ (parseMethodDescriptor yE_emitted.desc).map (fun d => d.parameters.length) = some 2 := by decide +kernel
theorem wd_E_told : yE_told.cls ≠ "java/lang/invoke/MethodHandle" ∧ yE_told.cls ≠ "java/lang/invoke/VarHandle" ∧ (parseMethodDescriptor yE_told.desc).map (fun d => d.parameters.length) = some 1 := by decide +kernel
theorem wd_E_cell : yE_cell.cls ≠ "java/lang/invoke/MethodHandle" ∧ yE_cell.cls ≠ "java/lang/invoke/VarHandle" ∧ (parseMethodDescriptor yE_cell.desc).map (fun d => d.parameters.length) = some 1 := by decide +kernel
theorem wd_E_isInstruction : yE_isInstruction.cls ≠ "java/lang/invoke/MethodHandle" ∧ yE_isInstruction.cls ≠ "java/lang/invoke/VarHandle" ∧ (parseMethodDescriptor yE_isInstruction.desc).map (fun d => d.parameters.length) = some 2 := by decide +kernel
theorem wd_E_goesBehindEnd : yE_goesBehindEnd.cls ≠ "java/lang/invoke/MethodHandle" ∧ yE_goesBehindEnd.cls ≠ "java/lang/invoke/VarHandle" ∧ (parseMethodDescriptor yE_goesBehindEnd.desc).map (fun d => d.parameters.length) = some 0 := by decide +kernel
theorem wd_E_begin : yE_begin.cls ≠ "java/lang/invoke/MethodHandle" ∧ yE_begin.cls ≠ "java/lang/invoke/VarHandle" ∧ (parseMethodDescriptor yE_begin.desc).map (fun d => d.parameters.length) = some 2 := by decide +kernel
theorem wd_E_runProgram : yE_runProgram.cls ≠ "java/lang/invoke/MethodHandle" ∧ yE_runProgram.cls ≠ "java/lang/invoke/VarHandle" ∧ (parseMethodDescriptor yE_runProgram.desc).map (fun d => d.parameters.length) = some 0 := by decide +kernel
theorem wd_E_perform : yE_perform.cls ≠ "java/lang/invoke/MethodHandle" ∧ yE_perform.cls ≠ "java/lang/invoke/VarHandle" ∧ (parseMethodDescriptor yE_perform.desc).map (fun d => d.parameters.length) = some 2 := by decide +kernel
theorem wd_E_push : yE_push.cls ≠ "java/lang/invoke/MethodHandle" ∧ yE_push.cls ≠ "java/lang/invoke/VarHandle" ∧ (parseMethodDescriptor yE_push.desc).map (fun d => d.parameters.length) = some 1 := by decide +kernel
theorem wd_E_pop : yE_pop.cls ≠ "java/lang/invoke/MethodHandle" ∧ yE_pop.cls ≠ "java/lang/invoke/VarHandle" ∧ (parseMethodDescriptor yE_pop.desc).map (fun d => d.parameters.length) = some 0 := by decide +kernel
theorem wd_E_hasNext : yE_hasNext.cls ≠ "java/lang/invoke/MethodHandle" ∧ yE_hasNext.cls ≠ "java/lang/invoke/VarHandle" ∧ (parseMethodDescriptor yE_hasNext.desc).map (fun d => d.parameters.length) = some 0 := by decide +kernel
theorem wd_E_pushValue : yE_pushValue.cls ≠ "java/lang/invoke/MethodHandle" ∧ yE_pushValue.cls ≠ "java/lang/invoke/VarHandle" ∧ (parseMethodDescriptor yE_pushValue.desc).map (fun d => d.parameters.length) = some 0 := by decide +kernel
theorem wd_E_popCell : yE_popCell.cls ≠ "java/lang/invoke/MethodHandle" ∧ yE_popCell.cls ≠ "java/lang/invoke/VarHandle" ∧ (parseMethodDescriptor yE_popCell.desc).map (fun d => d.parameters.length) = some 1 := by decide +kernel
theorem wd_E_doubleTop : yE_doubleTop.cls ≠ "java/lang/invoke/MethodHandle" ∧ yE_doubleTop.cls ≠ "java/lang/invoke/VarHandle" ∧ (parseMethodDescriptor yE_doubleTop.desc).map (fun d => d.parameters.length) = some 0 := by decide +kernel
theorem wd_E_changeTwo : yE_changeTwo.cls ≠ "java/lang/invoke/MethodHandle" ∧ yE_changeTwo.cls ≠ "java/lang/invoke/VarHandle" ∧ (parseMethodDescriptor yE_changeTwo.desc).map (fun d => d.parameters.length) = some 0 := by decide +kernel
theorem wd_E_goIfZero : yE_goIfZero.cls ≠ "java/lang/invoke/MethodHandle" ∧ yE_goIfZero.cls ≠ "java/lang/invoke/VarHandle" ∧ (parseMethodDescriptor yE_goIfZero.desc).map (fun d => d.parameters.length) = some 1 := by decide +kernel
theorem wd_E_emitPair : yE_emitPair.cls ≠ "java/lang/invoke/MethodHandle" ∧ yE_emitPair.cls ≠ "java/lang/invoke/VarHandle" ∧ (parseMethodDescriptor yE_emitPair.desc).map (fun d => d.parameters.length) = some 0 := by decide +kernel
theorem wd_E_combine : yE_combine.cls ≠ "java/lang/invoke/MethodHandle" ∧ yE_combine.cls ≠ "java/lang/invoke/VarHandle" ∧ (parseMethodDescriptor yE_combine.desc).map (fun d => d.parameters.length) = some 1 := by decide +kernel
theorem wd_E_divide : yE_divide.cls ≠ "java/lang/invoke/MethodHandle" ∧ yE_divide.cls ≠ "java/lang/invoke/VarHandle" ∧ (parseMethodDescriptor yE_divide.desc).map (fun d => d.parameters.length) = some 2 := by decide +kernel
theorem wd_M_init : yM_init.cls ≠ "java/lang/invoke/MethodHandle" ∧ yM_init.cls ≠ "java/lang/invoke/VarHandle" ∧ (parseMethodDescriptor yM_init.desc).map (fun d => d.parameters.length) = some 0 := by decide +kernel
theorem wd_M_thrown : yM_thrown.cls ≠ "java/lang/invoke/MethodHandle" ∧ yM_thrown.cls ≠ "java/lang/invoke/VarHandle" ∧ (parseMethodDescriptor yM_thrown.desc).map (fun d => d.parameters.length) = some 0 := by decide +kernel
theorem wd_M_in : yM_in.cls ≠ "java/lang/invoke/MethodHandle" ∧ yM_in.cls ≠ "java/lang/invoke/VarHandle" ∧ (parseMethodDescriptor yM_in.desc).map (fun d => d.parameters.length) = some 3 := by decide +kernel
theorem wd_M_code : yM_code.cls ≠ "java/lang/invoke/MethodHandle" ∧ yM_code.cls ≠ "java/lang/invoke/VarHandle" ∧ (parseMethodDescriptor yM_code.desc).map (fun d => d.parameters.length) = some 2 := by decide +kernel
theorem wd_M_clear : yM_clear.cls ≠ "java/lang/invoke/MethodHandle" ∧ yM_clear.cls ≠ "java/lang/invoke/VarHandle" ∧ (parseMethodDescriptor yM_clear.desc).map (fun d => d.parameters.length) = some 0 := by decide +kernel
theorem wd_M_value : yM_value.cls ≠ "java/lang/invoke/MethodHandle" ∧ yM_value.cls ≠ "java/lang/invoke/VarHandle" ∧ (parseMethodDescriptor yM_value.desc).map (fun d => d.parameters.length) = some 1 := by decide +kernel
theorem wd_M_empty : yM_empty.cls ≠ "java/lang/invoke/MethodHandle" ∧ yM_empty.cls ≠ "java/lang/invoke/VarHandle" ∧ (parseMethodDescriptor yM_empty.desc).map (fun d => d.parameters.length) = some 0 := by decide +kernel
theorem wd_M_call : yM_call.cls ≠ "java/lang/invoke/MethodHandle" ∧ yM_call.cls ≠ "java/lang/invoke/VarHandle" ∧ (parseMethodDescriptor yM_call.desc).map (fun d => d.parameters.length) = some 2 := by decide +kernel
theorem wd_M_isDone : yM_isDone.cls ≠ "java/lang/invoke/MethodHandle" ∧ yM_isDone.cls ≠ "java/lang/invoke/VarHandle" ∧ (parseMethodDescriptor yM_isDone.desc).map (fun d => d.parameters.length) = some 2 := by decide +kernel
theorem wd_M_emitted : yM_emitted.cls ≠ "java/lang/invoke/MethodHandle" ∧ yM_emitted.cls ≠ "java/lang/invoke/VarHandle" ∧ (parseMethodDescriptor yM_emitted.desc).map (fun d => d.parameters.length) = some 2 := by decide +kernel
theorem wd_M_told : yM_told.cls ≠ "java/lang/invoke/MethodHandle" ∧ yM_told.cls ≠ "java/lang/invoke/VarHandle" ∧ (parseMethodDescriptor yM_told.desc).map (fun d => d.parameters.length) = some 1 := by decide +kernel
theorem wd_M_cell : yM_cell.cls ≠ "java/lang/invoke/MethodHandle" ∧ yM_cell.cls ≠ "java/lang/invoke/VarHandle" ∧ (parseMethodDescriptor yM_cell.desc).map (fun d => d.parameters.length) = some 1 := by decide +kernel
theorem wd_L_code : yL_code.cls ≠ "java/lang/invoke/MethodHandle" ∧ yL_code.cls ≠ "java/lang/invoke/VarHandle" ∧ (parseMethodDescriptor yL_code.desc).map (fun d => d.parameters.length) = some 4 := by decide +kernel
theorem wd_L_value : yL_value.cls ≠ "java/lang/invoke/MethodHandle" ∧ yL_value.cls ≠ "java/lang/invoke/VarHandle" ∧ (parseMethodDescriptor yL_value.desc).map (fun d => d.parameters.length) = some 3 := by decide +kernel
theorem wd_L_call : yL_call.cls ≠ "java/lang/invoke/MethodHandle" ∧ yL_call.cls ≠ "java/lang/invoke/VarHandle" ∧ (parseMethodDescriptor yL_call.desc).map (fun d => d.parameters.length) = some 4 := by decide +kernel
theorem wd_L_emitted : yL_emitted.cls ≠ "java/lang/invoke/MethodHandle" ∧ yL_emitted.cls ≠ "java/lang/invoke/VarHandle" ∧ (parseMethodDescriptor yL_emitted.desc).map (fun d => d.parameters.length) = some 4 := by decide +kernel
theorem wd_L_told : yL_told.cls ≠ "java/lang/invoke/MethodHandle" ∧ yL_told.cls ≠ "java/lang/invoke/VarHandle" ∧ (parseMethodDescriptor yL_told.desc).map (fun d => d.parameters.length) = some 3 := by decide +kernel
theorem wd_L_cell : yL_cell.cls ≠ "java/lang/invoke/MethodHandle" ∧ yL_cell.cls ≠ "java/lang/invoke/VarHandle" ∧ (parseMethodDescriptor yL_cell.desc).map (fun d => d.parameters.length) = some 3 := by decide +kernel
theorem wd_L_law : yL_law.cls ≠ "java/lang/invoke/MethodHandle" ∧ yL_law.cls ≠ "java/lang/invoke/VarHandle" ∧ (parseMethodDescriptor yL_law.desc).map (fun d => d.parameters.length) = some 1 := by decide +kernel
/-- one list of words for all methods: the tables' good words -/
def WS : List Cond := lw_tbl.filter goodWord
theorem zw {w : Cond} (i : Nat) (h : lw_tbl[i]? = some w) (g : goodWord w = true) : w ∈ WS := List.mem_filter.mpr ⟨List.mem_of_getElem? h, g⟩
theorem WSok {w : Cond} (h : w ∈ WS) : (w.onTables && w.keeps) = true ∨ ∃ ty, w = .arrayClass ty := good_of_word (List.mem_filter.mp h).2
theorem WSg {c : Cond} (h : c ∈ WS) : GoodIn WS (c :: WS) := fun w hw => (List.mem_cons.mp hw).elim (fun e => by subst e; exact ⟨h, WSok h⟩) (fun h2 => ⟨h2, WSok h2⟩)
theorem wn_L : Cond.initialized "EmitDeskLaw" ∈ WS := zw 17 (by decide +kernel) (by decide +kernel)
theorem wn_E : Cond.initialized "EmitDesk" ∈ WS := zw 18 (by decide +kernel) (by decide +kernel)
theorem wn_M : Cond.initialized "EmitDeskModel" ∈ WS := zw 19 (by decide +kernel) (by decide +kernel)
theorem wn_IAE : Cond.initialized "java/lang/IllegalArgumentException" ∈ WS := zw 23 (by decide +kernel) (by decide +kernel)
theorem wn_ISE : Cond.initialized "java/lang/IllegalStateException" ∈ WS := zw 24 (by decide +kernel) (by decide +kernel)
theorem wn_UOE : Cond.initialized "java/lang/UnsupportedOperationException" ∈ WS := zw 25 (by decide +kernel) (by decide +kernel)
theorem wn_IOOBE : Cond.initialized "java/lang/IndexOutOfBoundsException" ∈ WS := zw 26 (by decide +kernel) (by decide +kernel)
theorem wk_L_8 : Cond.classLink "EmitDeskLaw" 8 "EmitDesk" ∈ WS := zw 27 (by decide +kernel) (by decide +kernel)
theorem wo_E : Cond.instantiable "EmitDesk" 17 ∈ WS := zw 28 (by decide +kernel) (by decide +kernel)
theorem wm_L_40 : Cond.methodLink "EmitDeskLaw" 40 yE_init ∈ WS := zw 29 (by decide +kernel) (by decide +kernel)
theorem wi_E_init : Cond.instanceMethod yE_init ∈ WS := zw 30 (by decide +kernel) (by decide +kernel)
theorem wc_E_init : Cond.code yE_init cE_init 1 none ∈ WS := zw 31 rfl rfl
theorem wm_E_1 : Cond.methodLink "EmitDesk" 1 objectInit ∈ WS := zw 32 (by decide +kernel) (by decide +kernel)
theorem wi_objectInit : Cond.instanceMethod objectInit ∈ WS := zw 33 (by decide +kernel) (by decide +kernel)
theorem wc_objectInit : Cond.code objectInit ⟨#[0xb1]⟩ 1 none ∈ WS := zw 34 rfl rfl
theorem wf_E_9 : Cond.fieldLink "EmitDesk" 9 "EmitDesk" "ops" "[I" ∈ WS := zw 35 (by decide +kernel) (by decide +kernel)
theorem wf_E_13 : Cond.fieldLink "EmitDesk" 13 "EmitDesk" "numbers" "[J" ∈ WS := zw 36 (by decide +kernel) (by decide +kernel)
theorem wf_E_43 : Cond.fieldLink "EmitDesk" 43 "EmitDesk" "instructions" "I" ∈ WS := zw 37 (by decide +kernel) (by decide +kernel)
theorem wf_E_17 : Cond.fieldLink "EmitDesk" 17 "EmitDesk" "values" "[J" ∈ WS := zw 38 (by decide +kernel) (by decide +kernel)
theorem wf_E_52 : Cond.fieldLink "EmitDesk" 52 "EmitDesk" "valueCount" "I" ∈ WS := zw 39 (by decide +kernel) (by decide +kernel)
theorem wf_E_20 : Cond.fieldLink "EmitDesk" 20 "EmitDesk" "stack" "[J" ∈ WS := zw 40 (by decide +kernel) (by decide +kernel)
theorem wf_E_92 : Cond.fieldLink "EmitDesk" 92 "EmitDesk" "depth" "I" ∈ WS := zw 41 (by decide +kernel) (by decide +kernel)
theorem wf_E_23 : Cond.fieldLink "EmitDesk" 23 "EmitDesk" "cells" "[J" ∈ WS := zw 42 (by decide +kernel) (by decide +kernel)
theorem wf_E_26 : Cond.fieldLink "EmitDesk" 26 "EmitDesk" "pairKeys" "[J" ∈ WS := zw 43 (by decide +kernel) (by decide +kernel)
theorem wf_E_29 : Cond.fieldLink "EmitDesk" 29 "EmitDesk" "pairValues" "[J" ∈ WS := zw 44 (by decide +kernel) (by decide +kernel)
theorem wf_E_81 : Cond.fieldLink "EmitDesk" 81 "EmitDesk" "pairs" "I" ∈ WS := zw 45 (by decide +kernel) (by decide +kernel)
theorem wf_E_106 : Cond.fieldLink "EmitDesk" 106 "EmitDesk" "latestWay" "I" ∈ WS := zw 46 (by decide +kernel) (by decide +kernel)
theorem wf_E_109 : Cond.fieldLink "EmitDesk" 109 "EmitDesk" "latestKey" "J" ∈ WS := zw 47 (by decide +kernel) (by decide +kernel)
theorem wf_E_113 : Cond.fieldLink "EmitDesk" 113 "EmitDesk" "place" "I" ∈ WS := zw 48 (by decide +kernel) (by decide +kernel)
theorem wf_E_89 : Cond.fieldLink "EmitDesk" 89 "EmitDesk" "done" "I" ∈ WS := zw 49 (by decide +kernel) (by decide +kernel)
theorem wf_E_95 : Cond.fieldLink "EmitDesk" 95 "EmitDesk" "taken" "I" ∈ WS := zw 50 (by decide +kernel) (by decide +kernel)
theorem wf_E_72 : Cond.fieldLink "EmitDesk" 72 "EmitDesk" "trapped" "Z" ∈ WS := zw 51 (by decide +kernel) (by decide +kernel)
theorem wa_int : Cond.arrayClass .int ∈ WS := zw 87 (by decide +kernel) (by decide +kernel)
theorem wa_long : Cond.arrayClass .long ∈ WS := zw 88 (by decide +kernel) (by decide +kernel)
theorem wm_L_56 : Cond.methodLink "EmitDeskLaw" 56 yE_clear ∈ WS := zw 89 (by decide +kernel) (by decide +kernel)
theorem wi_E_clear : Cond.instanceMethod yE_clear ∈ WS := zw 90 (by decide +kernel) (by decide +kernel)
theorem ws_E_clear : Cond.selects "EmitDesk" yE_clear yE_clear ∈ WS := zw 91 (by decide +kernel) (by decide +kernel)
theorem wc_E_clear : Cond.code yE_clear cE_clear 2 (some .int) ∈ WS := zw 92 rfl rfl
theorem wm_L_64 : Cond.methodLink "EmitDeskLaw" 64 yE_empty ∈ WS := zw 93 (by decide +kernel) (by decide +kernel)
theorem wi_E_empty : Cond.instanceMethod yE_empty ∈ WS := zw 94 (by decide +kernel) (by decide +kernel)
theorem ws_E_empty : Cond.selects "EmitDesk" yE_empty yE_empty ∈ WS := zw 95 (by decide +kernel) (by decide +kernel)
theorem wc_E_empty : Cond.code yE_empty cE_empty 2 (some .int) ∈ WS := zw 96 rfl rfl
theorem wm_L_46 : Cond.methodLink "EmitDeskLaw" 46 yL_code ∈ WS := zw 97 (by decide +kernel) (by decide +kernel)
theorem wt_L_code : Cond.static yL_code ∈ WS := zw 98 (by decide +kernel) (by decide +kernel)
theorem wc_L_code : Cond.codeWith yL_code cL_code 6 (some .int) [(0, 11, 14, 13), (0, 11, 18, 15)] ∈ WS := zw 99 rfl rfl
theorem wk_L_13 : Cond.classLink "EmitDeskLaw" 13 "java/lang/IllegalArgumentException" ∈ WS := zw 100 (by decide +kernel) (by decide +kernel)
theorem wk_L_15 : Cond.classLink "EmitDeskLaw" 15 "java/lang/IllegalStateException" ∈ WS := zw 101 (by decide +kernel) (by decide +kernel)
theorem wm_L_7 : Cond.methodLink "EmitDeskLaw" 7 yE_code ∈ WS := zw 102 (by decide +kernel) (by decide +kernel)
theorem wi_E_code : Cond.instanceMethod yE_code ∈ WS := zw 103 (by decide +kernel) (by decide +kernel)
theorem ws_E_code : Cond.selects "EmitDesk" yE_code yE_code ∈ WS := zw 104 (by decide +kernel) (by decide +kernel)
theorem wc_E_code : Cond.code yE_code cE_code 4 (some .int) ∈ WS := zw 105 rfl rfl
theorem wm_E_32 : Cond.methodLink "EmitDesk" 32 yE_isInstruction ∈ WS := zw 106 (by decide +kernel) (by decide +kernel)
theorem wt_E_isInstruction : Cond.static yE_isInstruction ∈ WS := zw 107 (by decide +kernel) (by decide +kernel)
theorem wc_E_isInstruction : Cond.code yE_isInstruction cE_isInstruction 3 (some .boolean) ∈ WS := zw 108 rfl rfl
theorem wl_E_102 : Cond.constantLong "EmitDesk" 102 4 ∈ WS := zw 109 (by decide +kernel) (by decide +kernel)
theorem wl_E_104 : Cond.constantLong "EmitDesk" 104 40 ∈ WS := zw 110 (by decide +kernel) (by decide +kernel)
theorem wk_E_36 : Cond.classLink "EmitDesk" 36 "java/lang/IllegalArgumentException" ∈ WS := zw 111 (by decide +kernel) (by decide +kernel)
theorem wo_IAE : Cond.instantiable "java/lang/IllegalArgumentException" 6 ∈ WS := zw 112 (by decide +kernel) (by decide +kernel)
theorem wa_byte : Cond.arrayClass .byte ∈ WS := zw 179 (by decide +kernel) (by decide +kernel)
theorem wk_E_47 : Cond.classLink "EmitDesk" 47 "java/lang/IllegalStateException" ∈ WS := zw 180 (by decide +kernel) (by decide +kernel)
theorem wo_ISE : Cond.instantiable "java/lang/IllegalStateException" 6 ∈ WS := zw 181 (by decide +kernel) (by decide +kernel)
theorem wm_L_60 : Cond.methodLink "EmitDeskLaw" 60 yL_value ∈ WS := zw 196 (by decide +kernel) (by decide +kernel)
theorem wt_L_value : Cond.static yL_value ∈ WS := zw 197 (by decide +kernel) (by decide +kernel)
theorem wc_L_value : Cond.codeWith yL_value cL_value 5 (some .int) [(0, 9, 12, 15)] ∈ WS := zw 198 rfl rfl
theorem wm_L_17 : Cond.methodLink "EmitDeskLaw" 17 yE_value ∈ WS := zw 199 (by decide +kernel) (by decide +kernel)
theorem wi_E_value : Cond.instanceMethod yE_value ∈ WS := zw 200 (by decide +kernel) (by decide +kernel)
theorem ws_E_value : Cond.selects "EmitDesk" yE_value yE_value ∈ WS := zw 201 (by decide +kernel) (by decide +kernel)
theorem wc_E_value : Cond.code yE_value cE_value 3 (some .int) ∈ WS := zw 202 rfl rfl
theorem wm_L_68 : Cond.methodLink "EmitDeskLaw" 68 yL_call ∈ WS := zw 204 (by decide +kernel) (by decide +kernel)
theorem wt_L_call : Cond.static yL_call ∈ WS := zw 205 (by decide +kernel) (by decide +kernel)
theorem wc_L_call : Cond.codeWith yL_call cL_call 6 (some .int) [(0, 11, 14, 13), (0, 11, 18, 24)] ∈ WS := zw 206 rfl rfl
theorem wk_L_24 : Cond.classLink "EmitDeskLaw" 24 "java/lang/UnsupportedOperationException" ∈ WS := zw 207 (by decide +kernel) (by decide +kernel)
theorem wm_L_21 : Cond.methodLink "EmitDeskLaw" 21 yE_call ∈ WS := zw 208 (by decide +kernel) (by decide +kernel)
theorem wi_E_call : Cond.instanceMethod yE_call ∈ WS := zw 209 (by decide +kernel) (by decide +kernel)
theorem ws_E_call : Cond.selects "EmitDesk" yE_call yE_call ∈ WS := zw 210 (by decide +kernel) (by decide +kernel)
theorem wc_E_call : Cond.code yE_call cE_call 4 (some .int) ∈ WS := zw 211 rfl rfl
theorem wm_E_59 : Cond.methodLink "EmitDesk" 59 yE_goesBehindEnd ∈ WS := zw 213 (by decide +kernel) (by decide +kernel)
theorem wi_E_goesBehindEnd : Cond.instanceMethod yE_goesBehindEnd ∈ WS := zw 215 (by decide +kernel) (by decide +kernel)
theorem wc_E_goesBehindEnd : Cond.code yE_goesBehindEnd cE_goesBehindEnd 3 (some .boolean) ∈ WS := zw 216 rfl rfl
theorem wm_E_65 : Cond.methodLink "EmitDesk" 65 yE_begin ∈ WS := zw 218 (by decide +kernel) (by decide +kernel)
theorem wi_E_begin : Cond.instanceMethod yE_begin ∈ WS := zw 220 (by decide +kernel) (by decide +kernel)
theorem wc_E_begin : Cond.code yE_begin cE_begin 5 none ∈ WS := zw 221 rfl rfl
theorem wm_E_69 : Cond.methodLink "EmitDesk" 69 yE_runProgram ∈ WS := zw 222 (by decide +kernel) (by decide +kernel)
theorem wi_E_runProgram : Cond.instanceMethod yE_runProgram ∈ WS := zw 224 (by decide +kernel) (by decide +kernel)
theorem wc_E_runProgram : Cond.code yE_runProgram cE_runProgram 5 none ∈ WS := zw 225 rfl rfl
theorem wm_E_116 : Cond.methodLink "EmitDesk" 116 yE_perform ∈ WS := zw 226 (by decide +kernel) (by decide +kernel)
theorem wi_E_perform : Cond.instanceMethod yE_perform ∈ WS := zw 228 (by decide +kernel) (by decide +kernel)
theorem wc_E_perform : Cond.code yE_perform cE_perform 4 none ∈ WS := zw 229 rfl rfl
theorem wm_E_119 : Cond.methodLink "EmitDesk" 119 yE_push ∈ WS := zw 230 (by decide +kernel) (by decide +kernel)
theorem wi_E_push : Cond.instanceMethod yE_push ∈ WS := zw 232 (by decide +kernel) (by decide +kernel)
theorem wc_E_push : Cond.code yE_push cE_push 3 none ∈ WS := zw 233 rfl rfl
theorem wm_E_123 : Cond.methodLink "EmitDesk" 123 yE_pushValue ∈ WS := zw 234 (by decide +kernel) (by decide +kernel)
theorem wi_E_pushValue : Cond.instanceMethod yE_pushValue ∈ WS := zw 236 (by decide +kernel) (by decide +kernel)
theorem wc_E_pushValue : Cond.code yE_pushValue cE_pushValue 1 none ∈ WS := zw 237 rfl rfl
theorem wm_E_126 : Cond.methodLink "EmitDesk" 126 yE_hasNext ∈ WS := zw 238 (by decide +kernel) (by decide +kernel)
theorem wi_E_hasNext : Cond.instanceMethod yE_hasNext ∈ WS := zw 240 (by decide +kernel) (by decide +kernel)
theorem wc_E_hasNext : Cond.code yE_hasNext cE_hasNext 1 (some .boolean) ∈ WS := zw 241 rfl rfl
theorem wm_E_129 : Cond.methodLink "EmitDesk" 129 yE_popCell ∈ WS := zw 242 (by decide +kernel) (by decide +kernel)
theorem wi_E_popCell : Cond.instanceMethod yE_popCell ∈ WS := zw 244 (by decide +kernel) (by decide +kernel)
theorem wc_E_popCell : Cond.code yE_popCell cE_popCell 4 none ∈ WS := zw 245 rfl rfl
theorem wm_E_136 : Cond.methodLink "EmitDesk" 136 yE_pop ∈ WS := zw 246 (by decide +kernel) (by decide +kernel)
theorem wi_E_pop : Cond.instanceMethod yE_pop ∈ WS := zw 248 (by decide +kernel) (by decide +kernel)
theorem wc_E_pop : Cond.code yE_pop cE_pop 1 (some .long) ∈ WS := zw 249 rfl rfl
theorem wm_E_133 : Cond.methodLink "EmitDesk" 133 yE_doubleTop ∈ WS := zw 250 (by decide +kernel) (by decide +kernel)
theorem wi_E_doubleTop : Cond.instanceMethod yE_doubleTop ∈ WS := zw 252 (by decide +kernel) (by decide +kernel)
theorem wc_E_doubleTop : Cond.code yE_doubleTop cE_doubleTop 3 none ∈ WS := zw 253 rfl rfl
theorem wm_E_140 : Cond.methodLink "EmitDesk" 140 yE_changeTwo ∈ WS := zw 254 (by decide +kernel) (by decide +kernel)
theorem wi_E_changeTwo : Cond.instanceMethod yE_changeTwo ∈ WS := zw 256 (by decide +kernel) (by decide +kernel)
theorem wc_E_changeTwo : Cond.code yE_changeTwo cE_changeTwo 5 none ∈ WS := zw 257 rfl rfl
theorem wm_E_143 : Cond.methodLink "EmitDesk" 143 yE_goIfZero ∈ WS := zw 258 (by decide +kernel) (by decide +kernel)
theorem wi_E_goIfZero : Cond.instanceMethod yE_goIfZero ∈ WS := zw 260 (by decide +kernel) (by decide +kernel)
theorem wc_E_goIfZero : Cond.code yE_goIfZero cE_goIfZero 2 none ∈ WS := zw 261 rfl rfl
theorem wm_E_146 : Cond.methodLink "EmitDesk" 146 yE_emitPair ∈ WS := zw 262 (by decide +kernel) (by decide +kernel)
theorem wi_E_emitPair : Cond.instanceMethod yE_emitPair ∈ WS := zw 264 (by decide +kernel) (by decide +kernel)
theorem wc_E_emitPair : Cond.code yE_emitPair cE_emitPair 5 none ∈ WS := zw 265 rfl rfl
theorem wm_E_149 : Cond.methodLink "EmitDesk" 149 yE_combine ∈ WS := zw 266 (by decide +kernel) (by decide +kernel)
theorem wi_E_combine : Cond.instanceMethod yE_combine ∈ WS := zw 268 (by decide +kernel) (by decide +kernel)
theorem wc_E_combine : Cond.code yE_combine cE_combine 6 none ∈ WS := zw 269 rfl rfl
theorem wm_E_152 : Cond.methodLink "EmitDesk" 152 yE_divide ∈ WS := zw 270 (by decide +kernel) (by decide +kernel)
theorem wi_E_divide : Cond.instanceMethod yE_divide ∈ WS := zw 272 (by decide +kernel) (by decide +kernel)
theorem wc_E_divide : Cond.code yE_divide cE_divide 5 none ∈ WS := zw 273 rfl rfl
theorem wk_E_76 : Cond.classLink "EmitDesk" 76 "java/lang/UnsupportedOperationException" ∈ WS := zw 274 (by decide +kernel) (by decide +kernel)
theorem wo_UOE : Cond.instantiable "java/lang/UnsupportedOperationException" 6 ∈ WS := zw 275 (by decide +kernel) (by decide +kernel)
theorem wm_L_71 : Cond.methodLink "EmitDeskLaw" 71 yL_emitted ∈ WS := zw 290 (by decide +kernel) (by decide +kernel)
theorem wt_L_emitted : Cond.static yL_emitted ∈ WS := zw 291 (by decide +kernel) (by decide +kernel)
theorem wc_L_emitted : Cond.codeWith yL_emitted cL_emitted 5 (some .int) [(0, 9, 12, 30)] ∈ WS := zw 292 rfl rfl
theorem wk_L_30 : Cond.classLink "EmitDeskLaw" 30 "java/lang/IndexOutOfBoundsException" ∈ WS := zw 293 (by decide +kernel) (by decide +kernel)
theorem wm_L_26 : Cond.methodLink "EmitDeskLaw" 26 yE_emitted ∈ WS := zw 294 (by decide +kernel) (by decide +kernel)
theorem wi_E_emitted : Cond.instanceMethod yE_emitted ∈ WS := zw 295 (by decide +kernel) (by decide +kernel)
theorem ws_E_emitted : Cond.selects "EmitDesk" yE_emitted yE_emitted ∈ WS := zw 296 (by decide +kernel) (by decide +kernel)
theorem wc_E_emitted : Cond.code yE_emitted cE_emitted 3 (some .long) ∈ WS := zw 297 rfl rfl
theorem wk_E_84 : Cond.classLink "EmitDesk" 84 "java/lang/IndexOutOfBoundsException" ∈ WS := zw 298 (by decide +kernel) (by decide +kernel)
theorem wo_IOOBE : Cond.instantiable "java/lang/IndexOutOfBoundsException" 6 ∈ WS := zw 299 (by decide +kernel) (by decide +kernel)
theorem wm_L_75 : Cond.methodLink "EmitDeskLaw" 75 yL_told ∈ WS := zw 314 (by decide +kernel) (by decide +kernel)
theorem wt_L_told : Cond.static yL_told ∈ WS := zw 315 (by decide +kernel) (by decide +kernel)
theorem wc_L_told : Cond.codeWith yL_told cL_told 4 (some .int) [(0, 9, 12, 13)] ∈ WS := zw 316 rfl rfl
theorem wm_L_32 : Cond.methodLink "EmitDeskLaw" 32 yE_told ∈ WS := zw 317 (by decide +kernel) (by decide +kernel)
theorem wi_E_told : Cond.instanceMethod yE_told ∈ WS := zw 318 (by decide +kernel) (by decide +kernel)
theorem ws_E_told : Cond.selects "EmitDesk" yE_told yE_told ∈ WS := zw 319 (by decide +kernel) (by decide +kernel)
theorem wc_E_told : Cond.code yE_told cE_told 2 (some .int) ∈ WS := zw 320 rfl rfl
theorem wm_L_79 : Cond.methodLink "EmitDeskLaw" 79 yL_cell ∈ WS := zw 322 (by decide +kernel) (by decide +kernel)
theorem wt_L_cell : Cond.static yL_cell ∈ WS := zw 323 (by decide +kernel) (by decide +kernel)
theorem wc_L_cell : Cond.codeWith yL_cell cL_cell 4 (some .int) [(0, 8, 11, 30)] ∈ WS := zw 324 rfl rfl
theorem wm_L_36 : Cond.methodLink "EmitDeskLaw" 36 yE_cell ∈ WS := zw 325 (by decide +kernel) (by decide +kernel)
theorem wi_E_cell : Cond.instanceMethod yE_cell ∈ WS := zw 326 (by decide +kernel) (by decide +kernel)
theorem ws_E_cell : Cond.selects "EmitDesk" yE_cell yE_cell ∈ WS := zw 327 (by decide +kernel) (by decide +kernel)
theorem wc_E_cell : Cond.code yE_cell cE_cell 2 (some .long) ∈ WS := zw 328 rfl rfl
theorem wk_L_41 : Cond.classLink "EmitDeskLaw" 41 "EmitDeskModel" ∈ WS := zw 330 (by decide +kernel) (by decide +kernel)
theorem wo_M : Cond.instantiable "EmitDeskModel" 15 ∈ WS := zw 331 (by decide +kernel) (by decide +kernel)
theorem wm_L_43 : Cond.methodLink "EmitDeskLaw" 43 yM_init ∈ WS := zw 332 (by decide +kernel) (by decide +kernel)
theorem wi_M_init : Cond.instanceMethod yM_init ∈ WS := zw 333 (by decide +kernel) (by decide +kernel)
theorem wc_M_init : Cond.code yM_init cM_init 1 none ∈ WS := zw 334 rfl rfl
theorem wm_M_1 : Cond.methodLink "EmitDeskModel" 1 objectInit ∈ WS := zw 335 (by decide +kernel) (by decide +kernel)
theorem wf_M_9 : Cond.fieldLink "EmitDeskModel" 9 "EmitDeskModel" "op" "[I" ∈ WS := zw 336 (by decide +kernel) (by decide +kernel)
theorem wf_M_13 : Cond.fieldLink "EmitDeskModel" 13 "EmitDeskModel" "arg" "[J" ∈ WS := zw 337 (by decide +kernel) (by decide +kernel)
theorem wf_M_17 : Cond.fieldLink "EmitDeskModel" 17 "EmitDeskModel" "value" "[J" ∈ WS := zw 338 (by decide +kernel) (by decide +kernel)
theorem wf_M_20 : Cond.fieldLink "EmitDeskModel" 20 "EmitDeskModel" "stack" "[J" ∈ WS := zw 339 (by decide +kernel) (by decide +kernel)
theorem wf_M_23 : Cond.fieldLink "EmitDeskModel" 23 "EmitDeskModel" "cell" "[J" ∈ WS := zw 340 (by decide +kernel) (by decide +kernel)
theorem wf_M_26 : Cond.fieldLink "EmitDeskModel" 26 "EmitDeskModel" "key" "[J" ∈ WS := zw 341 (by decide +kernel) (by decide +kernel)
theorem wf_M_29 : Cond.fieldLink "EmitDeskModel" 29 "EmitDeskModel" "emitted" "[J" ∈ WS := zw 342 (by decide +kernel) (by decide +kernel)
theorem wf_M_40 : Cond.fieldLink "EmitDeskModel" 40 "EmitDeskModel" "codes" "I" ∈ WS := zw 343 (by decide +kernel) (by decide +kernel)
theorem wf_M_43 : Cond.fieldLink "EmitDeskModel" 43 "EmitDeskModel" "values" "I" ∈ WS := zw 344 (by decide +kernel) (by decide +kernel)
theorem wf_M_46 : Cond.fieldLink "EmitDeskModel" 46 "EmitDeskModel" "steps" "I" ∈ WS := zw 345 (by decide +kernel) (by decide +kernel)
theorem wf_M_49 : Cond.fieldLink "EmitDeskModel" 49 "EmitDeskModel" "top" "I" ∈ WS := zw 346 (by decide +kernel) (by decide +kernel)
theorem wf_M_52 : Cond.fieldLink "EmitDeskModel" 52 "EmitDeskModel" "pairs" "I" ∈ WS := zw 347 (by decide +kernel) (by decide +kernel)
theorem wf_M_55 : Cond.fieldLink "EmitDeskModel" 55 "EmitDeskModel" "taken" "I" ∈ WS := zw 348 (by decide +kernel) (by decide +kernel)
theorem wf_M_32 : Cond.fieldLink "EmitDeskModel" 32 "EmitDeskModel" "thrown" "I" ∈ WS := zw 349 (by decide +kernel) (by decide +kernel)
theorem wf_M_62 : Cond.fieldLink "EmitDeskModel" 62 "EmitDeskModel" "isTrap" "Z" ∈ WS := zw 350 (by decide +kernel) (by decide +kernel)
theorem wm_L_52 : Cond.methodLink "EmitDeskLaw" 52 yM_thrown ∈ WS := zw 382 (by decide +kernel) (by decide +kernel)
theorem wi_M_thrown : Cond.instanceMethod yM_thrown ∈ WS := zw 383 (by decide +kernel) (by decide +kernel)
theorem ws_M_thrown : Cond.selects "EmitDeskModel" yM_thrown yM_thrown ∈ WS := zw 384 (by decide +kernel) (by decide +kernel)
theorem wc_M_thrown : Cond.code yM_thrown cM_thrown 1 (some .int) ∈ WS := zw 385 rfl rfl
theorem wm_L_51 : Cond.methodLink "EmitDeskLaw" 51 yM_code ∈ WS := zw 386 (by decide +kernel) (by decide +kernel)
theorem wi_M_code : Cond.instanceMethod yM_code ∈ WS := zw 387 (by decide +kernel) (by decide +kernel)
theorem ws_M_code : Cond.selects "EmitDeskModel" yM_code yM_code ∈ WS := zw 388 (by decide +kernel) (by decide +kernel)
theorem wc_M_code : Cond.code yM_code cM_code 5 (some .int) ∈ WS := zw 389 rfl rfl
theorem wm_M_36 : Cond.methodLink "EmitDeskModel" 36 yM_in ∈ WS := zw 390 (by decide +kernel) (by decide +kernel)
theorem wt_M_in : Cond.static yM_in ∈ WS := zw 391 (by decide +kernel) (by decide +kernel)
theorem wc_M_in : Cond.code yM_in cM_in 4 (some .boolean) ∈ WS := zw 392 rfl rfl
theorem wm_L_59 : Cond.methodLink "EmitDeskLaw" 59 yM_clear ∈ WS := zw 393 (by decide +kernel) (by decide +kernel)
theorem wi_M_clear : Cond.instanceMethod yM_clear ∈ WS := zw 394 (by decide +kernel) (by decide +kernel)
theorem ws_M_clear : Cond.selects "EmitDeskModel" yM_clear yM_clear ∈ WS := zw 395 (by decide +kernel) (by decide +kernel)
theorem wc_M_clear : Cond.code yM_clear cM_clear 2 (some .int) ∈ WS := zw 396 rfl rfl
theorem wm_L_63 : Cond.methodLink "EmitDeskLaw" 63 yM_value ∈ WS := zw 397 (by decide +kernel) (by decide +kernel)
theorem wi_M_value : Cond.instanceMethod yM_value ∈ WS := zw 398 (by decide +kernel) (by decide +kernel)
theorem ws_M_value : Cond.selects "EmitDeskModel" yM_value yM_value ∈ WS := zw 399 (by decide +kernel) (by decide +kernel)
theorem wc_M_value : Cond.code yM_value cM_value 3 (some .int) ∈ WS := zw 400 rfl rfl
theorem wm_L_67 : Cond.methodLink "EmitDeskLaw" 67 yM_empty ∈ WS := zw 401 (by decide +kernel) (by decide +kernel)
theorem wi_M_empty : Cond.instanceMethod yM_empty ∈ WS := zw 402 (by decide +kernel) (by decide +kernel)
theorem ws_M_empty : Cond.selects "EmitDeskModel" yM_empty yM_empty ∈ WS := zw 403 (by decide +kernel) (by decide +kernel)
theorem wc_M_empty : Cond.code yM_empty cM_empty 2 (some .int) ∈ WS := zw 404 rfl rfl
theorem wm_L_70 : Cond.methodLink "EmitDeskLaw" 70 yM_call ∈ WS := zw 405 (by decide +kernel) (by decide +kernel)
theorem wi_M_call : Cond.instanceMethod yM_call ∈ WS := zw 406 (by decide +kernel) (by decide +kernel)
theorem ws_M_call : Cond.selects "EmitDeskModel" yM_call yM_call ∈ WS := zw 407 (by decide +kernel) (by decide +kernel)
theorem wc_M_call : Cond.code yM_call cM_call 6 (some .int) ∈ WS := zw 408 rfl rfl
theorem wm_M_58 : Cond.methodLink "EmitDeskModel" 58 yM_isDone ∈ WS := zw 409 (by decide +kernel) (by decide +kernel)
theorem wi_M_isDone : Cond.instanceMethod yM_isDone ∈ WS := zw 411 (by decide +kernel) (by decide +kernel)
theorem wc_M_isDone : Cond.code yM_isDone cM_isDone 14 (some .boolean) ∈ WS := zw 412 rfl rfl
theorem wm_L_74 : Cond.methodLink "EmitDeskLaw" 74 yM_emitted ∈ WS := zw 413 (by decide +kernel) (by decide +kernel)
theorem wi_M_emitted : Cond.instanceMethod yM_emitted ∈ WS := zw 414 (by decide +kernel) (by decide +kernel)
theorem ws_M_emitted : Cond.selects "EmitDeskModel" yM_emitted yM_emitted ∈ WS := zw 415 (by decide +kernel) (by decide +kernel)
theorem wc_M_emitted : Cond.code yM_emitted cM_emitted 3 (some .long) ∈ WS := zw 416 rfl rfl
theorem wm_L_78 : Cond.methodLink "EmitDeskLaw" 78 yM_told ∈ WS := zw 417 (by decide +kernel) (by decide +kernel)
theorem wi_M_told : Cond.instanceMethod yM_told ∈ WS := zw 418 (by decide +kernel) (by decide +kernel)
theorem ws_M_told : Cond.selects "EmitDeskModel" yM_told yM_told ∈ WS := zw 419 (by decide +kernel) (by decide +kernel)
theorem wc_M_told : Cond.code yM_told cM_told 2 (some .int) ∈ WS := zw 420 rfl rfl
theorem wm_L_81 : Cond.methodLink "EmitDeskLaw" 81 yM_cell ∈ WS := zw 421 (by decide +kernel) (by decide +kernel)
theorem wi_M_cell : Cond.instanceMethod yM_cell ∈ WS := zw 422 (by decide +kernel) (by decide +kernel)
theorem ws_M_cell : Cond.selects "EmitDeskModel" yM_cell yM_cell ∈ WS := zw 423 (by decide +kernel) (by decide +kernel)
theorem wc_M_cell : Cond.code yM_cell cM_cell 2 (some .long) ∈ WS := zw 424 rfl rfl
theorem wl_L_44 : Cond.constantLong "EmitDeskLaw" 44 4294967295 ∈ WS := zw 425 (by decide +kernel) (by decide +kernel)
theorem ws_E_goesBehindEnd : Cond.selects "EmitDesk" yE_goesBehindEnd yE_goesBehindEnd ∈ WS := zw 1 (by decide +kernel) (by decide +kernel)
theorem ws_E_begin : Cond.selects "EmitDesk" yE_begin yE_begin ∈ WS := zw 2 (by decide +kernel) (by decide +kernel)
theorem ws_E_runProgram : Cond.selects "EmitDesk" yE_runProgram yE_runProgram ∈ WS := zw 3 (by decide +kernel) (by decide +kernel)
theorem ws_E_perform : Cond.selects "EmitDesk" yE_perform yE_perform ∈ WS := zw 4 (by decide +kernel) (by decide +kernel)
theorem ws_E_push : Cond.selects "EmitDesk" yE_push yE_push ∈ WS := zw 5 (by decide +kernel) (by decide +kernel)
theorem ws_E_pushValue : Cond.selects "EmitDesk" yE_pushValue yE_pushValue ∈ WS := zw 6 (by decide +kernel) (by decide +kernel)
theorem ws_E_hasNext : Cond.selects "EmitDesk" yE_hasNext yE_hasNext ∈ WS := zw 7 (by decide +kernel) (by decide +kernel)
theorem ws_E_popCell : Cond.selects "EmitDesk" yE_popCell yE_popCell ∈ WS := zw 8 (by decide +kernel) (by decide +kernel)
theorem ws_E_pop : Cond.selects "EmitDesk" yE_pop yE_pop ∈ WS := zw 9 (by decide +kernel) (by decide +kernel)
theorem ws_E_doubleTop : Cond.selects "EmitDesk" yE_doubleTop yE_doubleTop ∈ WS := zw 10 (by decide +kernel) (by decide +kernel)
theorem ws_E_changeTwo : Cond.selects "EmitDesk" yE_changeTwo yE_changeTwo ∈ WS := zw 11 (by decide +kernel) (by decide +kernel)
theorem ws_E_goIfZero : Cond.selects "EmitDesk" yE_goIfZero yE_goIfZero ∈ WS := zw 12 (by decide +kernel) (by decide +kernel)
theorem ws_E_emitPair : Cond.selects "EmitDesk" yE_emitPair yE_emitPair ∈ WS := zw 13 (by decide +kernel) (by decide +kernel)
theorem ws_E_combine : Cond.selects "EmitDesk" yE_combine yE_combine ∈ WS := zw 14 (by decide +kernel) (by decide +kernel)
theorem ws_E_divide : Cond.selects "EmitDesk" yE_divide yE_divide ∈ WS := zw 15 (by decide +kernel) (by decide +kernel)
theorem ws_M_isDone : Cond.selects "EmitDeskModel" yM_isDone yM_isDone ∈ WS := zw 16 (by decide +kernel) (by decide +kernel)
theorem inE : ∀ w ∈ u_ws RE TE 17, w ∈ WS := by decide +kernel
theorem inM : ∀ w ∈ u_ws RM TM 15, w ∈ WS := by decide +kernel
end
section
theorem dE_init_0 : decode cE_init 0 = .ok (.aload_n 0, 1) := by decide +kernel
theorem dE_init_1 : decode cE_init 1 = .ok (.invokespecial 1, 3) := by decide +kernel
theorem dE_init_4 : decode cE_init 4 = .ok (.aload_n 0, 1) := by decide +kernel
theorem dE_init_5 : decode cE_init 5 = .ok (.bipush 40, 2) := by decide +kernel
theorem dE_init_7 : decode cE_init 7 = .ok (.newarray .int, 2) := by decide +kernel
theorem dE_init_9 : decode cE_init 9 = .ok (.putfield 9, 3) := by decide +kernel
theorem dE_init_12 : decode cE_init 12 = .ok (.aload_n 0, 1) := by decide +kernel
theorem dE_init_13 : decode cE_init 13 = .ok (.bipush 40, 2) := by decide +kernel
theorem dE_init_15 : decode cE_init 15 = .ok (.newarray .long, 2) := by decide +kernel
theorem dE_init_17 : decode cE_init 17 = .ok (.putfield 13, 3) := by decide +kernel
theorem dE_init_20 : decode cE_init 20 = .ok (.aload_n 0, 1) := by decide +kernel
theorem dE_init_21 : decode cE_init 21 = .ok (.bipush 40, 2) := by decide +kernel
theorem dE_init_23 : decode cE_init 23 = .ok (.newarray .long, 2) := by decide +kernel
theorem dE_init_25 : decode cE_init 25 = .ok (.putfield 17, 3) := by decide +kernel
theorem dE_init_28 : decode cE_init 28 = .ok (.aload_n 0, 1) := by decide +kernel
theorem dE_init_29 : decode cE_init 29 = .ok (.bipush 12, 2) := by decide +kernel
theorem dE_init_31 : decode cE_init 31 = .ok (.newarray .long, 2) := by decide +kernel
theorem dE_init_33 : decode cE_init 33 = .ok (.putfield 20, 3) := by decide +kernel
theorem dE_init_36 : decode cE_init 36 = .ok (.aload_n 0, 1) := by decide +kernel
theorem dE_init_37 : decode cE_init 37 = .ok (.iconst 4, 1) := by decide +kernel
theorem dE_init_38 : decode cE_init 38 = .ok (.newarray .long, 2) := by decide +kernel
theorem dE_init_40 : decode cE_init 40 = .ok (.putfield 23, 3) := by decide +kernel
theorem dE_init_43 : decode cE_init 43 = .ok (.aload_n 0, 1) := by decide +kernel
theorem dE_init_44 : decode cE_init 44 = .ok (.iconst 4, 1) := by decide +kernel
theorem dE_init_45 : decode cE_init 45 = .ok (.newarray .long, 2) := by decide +kernel
theorem dE_init_47 : decode cE_init 47 = .ok (.putfield 26, 3) := by decide +kernel
theorem dE_init_50 : decode cE_init 50 = .ok (.aload_n 0, 1) := by decide +kernel
theorem dE_init_51 : decode cE_init 51 = .ok (.iconst 4, 1) := by decide +kernel
theorem dE_init_52 : decode cE_init 52 = .ok (.newarray .long, 2) := by decide +kernel
theorem dE_init_54 : decode cE_init 54 = .ok (.putfield 29, 3) := by decide +kernel
theorem dE_init_57 : decode cE_init 57 = .ok (.return_, 1) := by decide +kernel
theorem dE_code_0 : decode cE_code 0 = .ok (.iload_n 1, 1) := by decide +kernel
theorem dE_code_1 : decode cE_code 1 = .ok (.lload_n 2, 1) := by decide +kernel
theorem dE_code_2 : decode cE_code 2 = .ok (.invokestatic 32, 3) := by decide +kernel
theorem dE_code_5 : decode cE_code 5 = .ok (.ifCond .ne 13, 3) := by decide +kernel
theorem dE_code_8 : decode cE_code 8 = .ok (.new 36, 3) := by decide +kernel
theorem dE_code_11 : decode cE_code 11 = .ok (.dup, 1) := by decide +kernel
theorem dE_code_12 : decode cE_code 12 = .ok (.ldc 38, 2) := by decide +kernel
theorem dE_code_14 : decode cE_code 14 = .ok (.invokespecial 40, 3) := by decide +kernel
theorem dE_code_17 : decode cE_code 17 = .ok (.athrow, 1) := by decide +kernel
theorem dE_code_18 : decode cE_code 18 = .ok (.aload_n 0, 1) := by decide +kernel
theorem dE_code_19 : decode cE_code 19 = .ok (.getfield 43, 3) := by decide +kernel
theorem dE_code_22 : decode cE_code 22 = .ok (.bipush 40, 2) := by decide +kernel
theorem dE_code_24 : decode cE_code 24 = .ok (.if_icmp .lt 13, 3) := by decide +kernel
theorem dE_code_27 : decode cE_code 27 = .ok (.new 47, 3) := by decide +kernel
theorem dE_code_30 : decode cE_code 30 = .ok (.dup, 1) := by decide +kernel
theorem dE_code_31 : decode cE_code 31 = .ok (.ldc 49, 2) := by decide +kernel
theorem dE_code_33 : decode cE_code 33 = .ok (.invokespecial 51, 3) := by decide +kernel
theorem dE_code_36 : decode cE_code 36 = .ok (.athrow, 1) := by decide +kernel
theorem dE_code_37 : decode cE_code 37 = .ok (.aload_n 0, 1) := by decide +kernel
theorem dE_code_38 : decode cE_code 38 = .ok (.getfield 9, 3) := by decide +kernel
theorem dE_code_41 : decode cE_code 41 = .ok (.aload_n 0, 1) := by decide +kernel
theorem dE_code_42 : decode cE_code 42 = .ok (.getfield 43, 3) := by decide +kernel
theorem dE_code_45 : decode cE_code 45 = .ok (.iload_n 1, 1) := by decide +kernel
theorem dE_code_46 : decode cE_code 46 = .ok (.iastore, 1) := by decide +kernel
theorem dE_code_47 : decode cE_code 47 = .ok (.aload_n 0, 1) := by decide +kernel
theorem dE_code_48 : decode cE_code 48 = .ok (.getfield 13, 3) := by decide +kernel
theorem dE_code_51 : decode cE_code 51 = .ok (.aload_n 0, 1) := by decide +kernel
theorem dE_code_52 : decode cE_code 52 = .ok (.getfield 43, 3) := by decide +kernel
theorem dE_code_55 : decode cE_code 55 = .ok (.lload_n 2, 1) := by decide +kernel
theorem dE_code_56 : decode cE_code 56 = .ok (.lastore, 1) := by decide +kernel
theorem dE_code_57 : decode cE_code 57 = .ok (.aload_n 0, 1) := by decide +kernel
theorem dE_code_58 : decode cE_code 58 = .ok (.dup, 1) := by decide +kernel
theorem dE_code_59 : decode cE_code 59 = .ok (.getfield 43, 3) := by decide +kernel
theorem dE_code_62 : decode cE_code 62 = .ok (.iconst 1, 1) := by decide +kernel
theorem dE_code_63 : decode cE_code 63 = .ok (.iadd, 1) := by decide +kernel
theorem dE_code_64 : decode cE_code 64 = .ok (.putfield 43, 3) := by decide +kernel
theorem dE_code_67 : decode cE_code 67 = .ok (.aload_n 0, 1) := by decide +kernel
theorem dE_code_68 : decode cE_code 68 = .ok (.getfield 43, 3) := by decide +kernel
theorem dE_code_71 : decode cE_code 71 = .ok (.ireturn, 1) := by decide +kernel
theorem dE_clear_0 : decode cE_clear 0 = .ok (.aload_n 0, 1) := by decide +kernel
theorem dE_clear_1 : decode cE_clear 1 = .ok (.getfield 43, 3) := by decide +kernel
theorem dE_clear_4 : decode cE_clear 4 = .ok (.istore_n 1, 1) := by decide +kernel
theorem dE_clear_5 : decode cE_clear 5 = .ok (.aload_n 0, 1) := by decide +kernel
theorem dE_clear_6 : decode cE_clear 6 = .ok (.iconst 0, 1) := by decide +kernel
theorem dE_clear_7 : decode cE_clear 7 = .ok (.putfield 43, 3) := by decide +kernel
theorem dE_clear_10 : decode cE_clear 10 = .ok (.iload_n 1, 1) := by decide +kernel
theorem dE_clear_11 : decode cE_clear 11 = .ok (.ireturn, 1) := by decide +kernel
theorem dE_value_0 : decode cE_value 0 = .ok (.aload_n 0, 1) := by decide +kernel
theorem dE_value_1 : decode cE_value 1 = .ok (.getfield 52, 3) := by decide +kernel
theorem dE_value_4 : decode cE_value 4 = .ok (.bipush 40, 2) := by decide +kernel
theorem dE_value_6 : decode cE_value 6 = .ok (.if_icmp .lt 13, 3) := by decide +kernel
theorem dE_value_9 : decode cE_value 9 = .ok (.new 47, 3) := by decide +kernel
theorem dE_value_12 : decode cE_value 12 = .ok (.dup, 1) := by decide +kernel
theorem dE_value_13 : decode cE_value 13 = .ok (.ldc 55, 2) := by decide +kernel
theorem dE_value_15 : decode cE_value 15 = .ok (.invokespecial 51, 3) := by decide +kernel
theorem dE_value_18 : decode cE_value 18 = .ok (.athrow, 1) := by decide +kernel
theorem dE_value_19 : decode cE_value 19 = .ok (.aload_n 0, 1) := by decide +kernel
theorem dE_value_20 : decode cE_value 20 = .ok (.getfield 17, 3) := by decide +kernel
theorem dE_value_23 : decode cE_value 23 = .ok (.aload_n 0, 1) := by decide +kernel
theorem dE_value_24 : decode cE_value 24 = .ok (.getfield 52, 3) := by decide +kernel
theorem dE_value_27 : decode cE_value 27 = .ok (.lload_n 1, 1) := by decide +kernel
theorem dE_value_28 : decode cE_value 28 = .ok (.lastore, 1) := by decide +kernel
theorem dE_value_29 : decode cE_value 29 = .ok (.aload_n 0, 1) := by decide +kernel
theorem dE_value_30 : decode cE_value 30 = .ok (.dup, 1) := by decide +kernel
theorem dE_value_31 : decode cE_value 31 = .ok (.getfield 52, 3) := by decide +kernel
theorem dE_value_34 : decode cE_value 34 = .ok (.iconst 1, 1) := by decide +kernel
theorem dE_value_35 : decode cE_value 35 = .ok (.iadd, 1) := by decide +kernel
theorem dE_value_36 : decode cE_value 36 = .ok (.putfield 52, 3) := by decide +kernel
theorem dE_value_39 : decode cE_value 39 = .ok (.aload_n 0, 1) := by decide +kernel
theorem dE_value_40 : decode cE_value 40 = .ok (.getfield 52, 3) := by decide +kernel
theorem dE_value_43 : decode cE_value 43 = .ok (.ireturn, 1) := by decide +kernel
theorem dE_empty_0 : decode cE_empty 0 = .ok (.aload_n 0, 1) := by decide +kernel
theorem dE_empty_1 : decode cE_empty 1 = .ok (.getfield 52, 3) := by decide +kernel
theorem dE_empty_4 : decode cE_empty 4 = .ok (.istore_n 1, 1) := by decide +kernel
theorem dE_empty_5 : decode cE_empty 5 = .ok (.aload_n 0, 1) := by decide +kernel
theorem dE_empty_6 : decode cE_empty 6 = .ok (.iconst 0, 1) := by decide +kernel
theorem dE_empty_7 : decode cE_empty 7 = .ok (.putfield 52, 3) := by decide +kernel
theorem dE_empty_10 : decode cE_empty 10 = .ok (.iload_n 1, 1) := by decide +kernel
theorem dE_empty_11 : decode cE_empty 11 = .ok (.ireturn, 1) := by decide +kernel
theorem dE_call_0 : decode cE_call 0 = .ok (.iload_n 1, 1) := by decide +kernel
theorem dE_call_1 : decode cE_call 1 = .ok (.ifCond .lt 8, 3) := by decide +kernel
theorem dE_call_4 : decode cE_call 4 = .ok (.iload_n 1, 1) := by decide +kernel
theorem dE_call_5 : decode cE_call 5 = .ok (.iconst 2, 1) := by decide +kernel
theorem dE_call_6 : decode cE_call 6 = .ok (.if_icmp .le 13, 3) := by decide +kernel
theorem dE_call_9 : decode cE_call 9 = .ok (.new 36, 3) := by decide +kernel
theorem dE_call_12 : decode cE_call 12 = .ok (.dup, 1) := by decide +kernel
theorem dE_call_13 : decode cE_call 13 = .ok (.ldc 57, 2) := by decide +kernel
theorem dE_call_15 : decode cE_call 15 = .ok (.invokespecial 40, 3) := by decide +kernel
theorem dE_call_18 : decode cE_call 18 = .ok (.athrow, 1) := by decide +kernel
theorem dE_call_19 : decode cE_call 19 = .ok (.aload_n 0, 1) := by decide +kernel
theorem dE_call_20 : decode cE_call 20 = .ok (.invokevirtual 59, 3) := by decide +kernel
theorem dE_call_23 : decode cE_call 23 = .ok (.ifCond .eq 13, 3) := by decide +kernel
theorem dE_call_26 : decode cE_call 26 = .ok (.new 36, 3) := by decide +kernel
theorem dE_call_29 : decode cE_call 29 = .ok (.dup, 1) := by decide +kernel
theorem dE_call_30 : decode cE_call 30 = .ok (.ldc 63, 2) := by decide +kernel
theorem dE_call_32 : decode cE_call 32 = .ok (.invokespecial 40, 3) := by decide +kernel
theorem dE_call_35 : decode cE_call 35 = .ok (.athrow, 1) := by decide +kernel
theorem dE_call_36 : decode cE_call 36 = .ok (.aload_n 0, 1) := by decide +kernel
theorem dE_call_37 : decode cE_call 37 = .ok (.iload_n 1, 1) := by decide +kernel
theorem dE_call_38 : decode cE_call 38 = .ok (.lload_n 2, 1) := by decide +kernel
theorem dE_call_39 : decode cE_call 39 = .ok (.invokevirtual 65, 3) := by decide +kernel
theorem dE_call_42 : decode cE_call 42 = .ok (.aload_n 0, 1) := by decide +kernel
theorem dE_call_43 : decode cE_call 43 = .ok (.invokevirtual 69, 3) := by decide +kernel
theorem dE_call_46 : decode cE_call 46 = .ok (.aload_n 0, 1) := by decide +kernel
theorem dE_call_47 : decode cE_call 47 = .ok (.getfield 72, 3) := by decide +kernel
theorem dE_call_50 : decode cE_call 50 = .ok (.ifCond .eq 13, 3) := by decide +kernel
theorem dE_call_53 : decode cE_call 53 = .ok (.new 76, 3) := by decide +kernel
theorem dE_call_56 : decode cE_call 56 = .ok (.dup, 1) := by decide +kernel
theorem dE_call_57 : decode cE_call 57 = .ok (.ldc 78, 2) := by decide +kernel
theorem dE_call_59 : decode cE_call 59 = .ok (.invokespecial 80, 3) := by decide +kernel
theorem dE_call_62 : decode cE_call 62 = .ok (.athrow, 1) := by decide +kernel
theorem dE_call_63 : decode cE_call 63 = .ok (.aload_n 0, 1) := by decide +kernel
theorem dE_call_64 : decode cE_call 64 = .ok (.getfield 81, 3) := by decide +kernel
theorem dE_call_67 : decode cE_call 67 = .ok (.ireturn, 1) := by decide +kernel
theorem dE_emitted_0 : decode cE_emitted 0 = .ok (.iload_n 1, 1) := by decide +kernel
theorem dE_emitted_1 : decode cE_emitted 1 = .ok (.ifCond .lt 11, 3) := by decide +kernel
theorem dE_emitted_4 : decode cE_emitted 4 = .ok (.iload_n 1, 1) := by decide +kernel
theorem dE_emitted_5 : decode cE_emitted 5 = .ok (.aload_n 0, 1) := by decide +kernel
theorem dE_emitted_6 : decode cE_emitted 6 = .ok (.getfield 81, 3) := by decide +kernel
theorem dE_emitted_9 : decode cE_emitted 9 = .ok (.if_icmp .lt 13, 3) := by decide +kernel
theorem dE_emitted_12 : decode cE_emitted 12 = .ok (.new 84, 3) := by decide +kernel
theorem dE_emitted_15 : decode cE_emitted 15 = .ok (.dup, 1) := by decide +kernel
theorem dE_emitted_16 : decode cE_emitted 16 = .ok (.ldc 86, 2) := by decide +kernel
theorem dE_emitted_18 : decode cE_emitted 18 = .ok (.invokespecial 88, 3) := by decide +kernel
theorem dE_emitted_21 : decode cE_emitted 21 = .ok (.athrow, 1) := by decide +kernel
theorem dE_emitted_22 : decode cE_emitted 22 = .ok (.iload_n 2, 1) := by decide +kernel
theorem dE_emitted_23 : decode cE_emitted 23 = .ok (.ifCond .eq 12, 3) := by decide +kernel
theorem dE_emitted_26 : decode cE_emitted 26 = .ok (.aload_n 0, 1) := by decide +kernel
theorem dE_emitted_27 : decode cE_emitted 27 = .ok (.getfield 29, 3) := by decide +kernel
theorem dE_emitted_30 : decode cE_emitted 30 = .ok (.iload_n 1, 1) := by decide +kernel
theorem dE_emitted_31 : decode cE_emitted 31 = .ok (.laload, 1) := by decide +kernel
theorem dE_emitted_32 : decode cE_emitted 32 = .ok (.goto 9, 3) := by decide +kernel
theorem dE_emitted_35 : decode cE_emitted 35 = .ok (.aload_n 0, 1) := by decide +kernel
theorem dE_emitted_36 : decode cE_emitted 36 = .ok (.getfield 26, 3) := by decide +kernel
theorem dE_emitted_39 : decode cE_emitted 39 = .ok (.iload_n 1, 1) := by decide +kernel
theorem dE_emitted_40 : decode cE_emitted 40 = .ok (.laload, 1) := by decide +kernel
theorem dE_emitted_41 : decode cE_emitted 41 = .ok (.lreturn, 1) := by decide +kernel
theorem dE_told_0 : decode cE_told 0 = .ok (.iload_n 1, 1) := by decide +kernel
theorem dE_told_1 : decode cE_told 1 = .ok (.tableswitch 68 0 4 #[35, 40, 45, 50, 55], 35) := by decide +kernel
theorem dE_told_36 : decode cE_told 36 = .ok (.aload_n 0, 1) := by decide +kernel
theorem dE_told_37 : decode cE_told 37 = .ok (.getfield 89, 3) := by decide +kernel
theorem dE_told_40 : decode cE_told 40 = .ok (.ireturn, 1) := by decide +kernel
theorem dE_told_41 : decode cE_told 41 = .ok (.aload_n 0, 1) := by decide +kernel
theorem dE_told_42 : decode cE_told 42 = .ok (.getfield 92, 3) := by decide +kernel
theorem dE_told_45 : decode cE_told 45 = .ok (.ireturn, 1) := by decide +kernel
theorem dE_told_46 : decode cE_told 46 = .ok (.aload_n 0, 1) := by decide +kernel
theorem dE_told_47 : decode cE_told 47 = .ok (.getfield 81, 3) := by decide +kernel
theorem dE_told_50 : decode cE_told 50 = .ok (.ireturn, 1) := by decide +kernel
theorem dE_told_51 : decode cE_told 51 = .ok (.aload_n 0, 1) := by decide +kernel
theorem dE_told_52 : decode cE_told 52 = .ok (.getfield 95, 3) := by decide +kernel
theorem dE_told_55 : decode cE_told 55 = .ok (.ireturn, 1) := by decide +kernel
theorem dE_told_56 : decode cE_told 56 = .ok (.aload_n 0, 1) := by decide +kernel
theorem dE_told_57 : decode cE_told 57 = .ok (.getfield 72, 3) := by decide +kernel
theorem dE_told_60 : decode cE_told 60 = .ok (.ifCond .eq 7, 3) := by decide +kernel
theorem dE_told_63 : decode cE_told 63 = .ok (.iconst 1, 1) := by decide +kernel
theorem dE_told_64 : decode cE_told 64 = .ok (.goto 4, 3) := by decide +kernel
theorem dE_told_67 : decode cE_told 67 = .ok (.iconst 0, 1) := by decide +kernel
theorem dE_told_68 : decode cE_told 68 = .ok (.ireturn, 1) := by decide +kernel
theorem dE_told_69 : decode cE_told 69 = .ok (.new 36, 3) := by decide +kernel
theorem dE_told_72 : decode cE_told 72 = .ok (.dup, 1) := by decide +kernel
theorem dE_told_73 : decode cE_told 73 = .ok (.ldc 98, 2) := by decide +kernel
theorem dE_told_75 : decode cE_told 75 = .ok (.invokespecial 40, 3) := by decide +kernel
theorem dE_told_78 : decode cE_told 78 = .ok (.athrow, 1) := by decide +kernel
theorem dE_cell_0 : decode cE_cell 0 = .ok (.iload_n 1, 1) := by decide +kernel
theorem dE_cell_1 : decode cE_cell 1 = .ok (.ifCond .lt 8, 3) := by decide +kernel
theorem dE_cell_4 : decode cE_cell 4 = .ok (.iload_n 1, 1) := by decide +kernel
theorem dE_cell_5 : decode cE_cell 5 = .ok (.iconst 4, 1) := by decide +kernel
theorem dE_cell_6 : decode cE_cell 6 = .ok (.if_icmp .lt 13, 3) := by decide +kernel
theorem dE_cell_9 : decode cE_cell 9 = .ok (.new 84, 3) := by decide +kernel
theorem dE_cell_12 : decode cE_cell 12 = .ok (.dup, 1) := by decide +kernel
theorem dE_cell_13 : decode cE_cell 13 = .ok (.ldc 100, 2) := by decide +kernel
theorem dE_cell_15 : decode cE_cell 15 = .ok (.invokespecial 88, 3) := by decide +kernel
theorem dE_cell_18 : decode cE_cell 18 = .ok (.athrow, 1) := by decide +kernel
theorem dE_cell_19 : decode cE_cell 19 = .ok (.aload_n 0, 1) := by decide +kernel
theorem dE_cell_20 : decode cE_cell 20 = .ok (.getfield 23, 3) := by decide +kernel
theorem dE_cell_23 : decode cE_cell 23 = .ok (.iload_n 1, 1) := by decide +kernel
theorem dE_cell_24 : decode cE_cell 24 = .ok (.laload, 1) := by decide +kernel
theorem dE_cell_25 : decode cE_cell 25 = .ok (.lreturn, 1) := by decide +kernel
theorem dE_isInstruction_0 : decode cE_isInstruction 0 = .ok (.iload_n 0, 1) := by decide +kernel
theorem dE_isInstruction_1 : decode cE_isInstruction 1 = .ok (.ifCond .lt 9, 3) := by decide +kernel
theorem dE_isInstruction_4 : decode cE_isInstruction 4 = .ok (.iload_n 0, 1) := by decide +kernel
theorem dE_isInstruction_5 : decode cE_isInstruction 5 = .ok (.bipush 18, 2) := by decide +kernel
theorem dE_isInstruction_7 : decode cE_isInstruction 7 = .ok (.if_icmp .le 5, 3) := by decide +kernel
theorem dE_isInstruction_10 : decode cE_isInstruction 10 = .ok (.iconst 0, 1) := by decide +kernel
theorem dE_isInstruction_11 : decode cE_isInstruction 11 = .ok (.ireturn, 1) := by decide +kernel
theorem dE_isInstruction_12 : decode cE_isInstruction 12 = .ok (.iload_n 0, 1) := by decide +kernel
theorem dE_isInstruction_13 : decode cE_isInstruction 13 = .ok (.iconst 4, 1) := by decide +kernel
theorem dE_isInstruction_14 : decode cE_isInstruction 14 = .ok (.if_icmp .eq 8, 3) := by decide +kernel
theorem dE_isInstruction_17 : decode cE_isInstruction 17 = .ok (.iload_n 0, 1) := by decide +kernel
theorem dE_isInstruction_18 : decode cE_isInstruction 18 = .ok (.iconst 5, 1) := by decide +kernel
theorem dE_isInstruction_19 : decode cE_isInstruction 19 = .ok (.if_icmp .ne 23, 3) := by decide +kernel
theorem dE_isInstruction_22 : decode cE_isInstruction 22 = .ok (.lload_n 1, 1) := by decide +kernel
theorem dE_isInstruction_23 : decode cE_isInstruction 23 = .ok (.lconst 0, 1) := by decide +kernel
theorem dE_isInstruction_24 : decode cE_isInstruction 24 = .ok (.lcmp, 1) := by decide +kernel
theorem dE_isInstruction_25 : decode cE_isInstruction 25 = .ok (.ifCond .lt 15, 3) := by decide +kernel
theorem dE_isInstruction_28 : decode cE_isInstruction 28 = .ok (.lload_n 1, 1) := by decide +kernel
theorem dE_isInstruction_29 : decode cE_isInstruction 29 = .ok (.ldc2_w 102, 3) := by decide +kernel
theorem dE_isInstruction_32 : decode cE_isInstruction 32 = .ok (.lcmp, 1) := by decide +kernel
theorem dE_isInstruction_33 : decode cE_isInstruction 33 = .ok (.ifCond .ge 7, 3) := by decide +kernel
theorem dE_isInstruction_36 : decode cE_isInstruction 36 = .ok (.iconst 1, 1) := by decide +kernel
theorem dE_isInstruction_37 : decode cE_isInstruction 37 = .ok (.goto 4, 3) := by decide +kernel
theorem dE_isInstruction_40 : decode cE_isInstruction 40 = .ok (.iconst 0, 1) := by decide +kernel
theorem dE_isInstruction_41 : decode cE_isInstruction 41 = .ok (.ireturn, 1) := by decide +kernel
theorem dE_isInstruction_42 : decode cE_isInstruction 42 = .ok (.iload_n 0, 1) := by decide +kernel
theorem dE_isInstruction_43 : decode cE_isInstruction 43 = .ok (.bipush 15, 2) := by decide +kernel
theorem dE_isInstruction_45 : decode cE_isInstruction 45 = .ok (.if_icmp .eq 9, 3) := by decide +kernel
theorem dE_isInstruction_48 : decode cE_isInstruction 48 = .ok (.iload_n 0, 1) := by decide +kernel
theorem dE_isInstruction_49 : decode cE_isInstruction 49 = .ok (.bipush 16, 2) := by decide +kernel
theorem dE_isInstruction_51 : decode cE_isInstruction 51 = .ok (.if_icmp .ne 23, 3) := by decide +kernel
theorem dE_isInstruction_54 : decode cE_isInstruction 54 = .ok (.lload_n 1, 1) := by decide +kernel
theorem dE_isInstruction_55 : decode cE_isInstruction 55 = .ok (.lconst 0, 1) := by decide +kernel
theorem dE_isInstruction_56 : decode cE_isInstruction 56 = .ok (.lcmp, 1) := by decide +kernel
theorem dE_isInstruction_57 : decode cE_isInstruction 57 = .ok (.ifCond .lt 15, 3) := by decide +kernel
theorem dE_isInstruction_60 : decode cE_isInstruction 60 = .ok (.lload_n 1, 1) := by decide +kernel
theorem dE_isInstruction_61 : decode cE_isInstruction 61 = .ok (.ldc2_w 104, 3) := by decide +kernel
theorem dE_isInstruction_64 : decode cE_isInstruction 64 = .ok (.lcmp, 1) := by decide +kernel
theorem dE_isInstruction_65 : decode cE_isInstruction 65 = .ok (.ifCond .gt 7, 3) := by decide +kernel
theorem dE_isInstruction_68 : decode cE_isInstruction 68 = .ok (.iconst 1, 1) := by decide +kernel
theorem dE_isInstruction_69 : decode cE_isInstruction 69 = .ok (.goto 4, 3) := by decide +kernel
theorem dE_isInstruction_72 : decode cE_isInstruction 72 = .ok (.iconst 0, 1) := by decide +kernel
theorem dE_isInstruction_73 : decode cE_isInstruction 73 = .ok (.ireturn, 1) := by decide +kernel
theorem dE_isInstruction_74 : decode cE_isInstruction 74 = .ok (.iconst 1, 1) := by decide +kernel
theorem dE_isInstruction_75 : decode cE_isInstruction 75 = .ok (.ireturn, 1) := by decide +kernel
theorem dE_goesBehindEnd_0 : decode cE_goesBehindEnd 0 = .ok (.iconst 0, 1) := by decide +kernel
theorem dE_goesBehindEnd_1 : decode cE_goesBehindEnd 1 = .ok (.istore_n 1, 1) := by decide +kernel
theorem dE_goesBehindEnd_2 : decode cE_goesBehindEnd 2 = .ok (.iload_n 1, 1) := by decide +kernel
theorem dE_goesBehindEnd_3 : decode cE_goesBehindEnd 3 = .ok (.aload_n 0, 1) := by decide +kernel
theorem dE_goesBehindEnd_4 : decode cE_goesBehindEnd 4 = .ok (.getfield 43, 3) := by decide +kernel
theorem dE_goesBehindEnd_7 : decode cE_goesBehindEnd 7 = .ok (.if_icmp .ge 58, 3) := by decide +kernel
theorem dE_goesBehindEnd_10 : decode cE_goesBehindEnd 10 = .ok (.aload_n 0, 1) := by decide +kernel
theorem dE_goesBehindEnd_11 : decode cE_goesBehindEnd 11 = .ok (.getfield 9, 3) := by decide +kernel
theorem dE_goesBehindEnd_14 : decode cE_goesBehindEnd 14 = .ok (.iload_n 1, 1) := by decide +kernel
theorem dE_goesBehindEnd_15 : decode cE_goesBehindEnd 15 = .ok (.iaload, 1) := by decide +kernel
theorem dE_goesBehindEnd_16 : decode cE_goesBehindEnd 16 = .ok (.bipush 15, 2) := by decide +kernel
theorem dE_goesBehindEnd_18 : decode cE_goesBehindEnd 18 = .ok (.if_icmp .eq 14, 3) := by decide +kernel
theorem dE_goesBehindEnd_21 : decode cE_goesBehindEnd 21 = .ok (.aload_n 0, 1) := by decide +kernel
theorem dE_goesBehindEnd_22 : decode cE_goesBehindEnd 22 = .ok (.getfield 9, 3) := by decide +kernel
theorem dE_goesBehindEnd_25 : decode cE_goesBehindEnd 25 = .ok (.iload_n 1, 1) := by decide +kernel
theorem dE_goesBehindEnd_26 : decode cE_goesBehindEnd 26 = .ok (.iaload, 1) := by decide +kernel
theorem dE_goesBehindEnd_27 : decode cE_goesBehindEnd 27 = .ok (.bipush 16, 2) := by decide +kernel
theorem dE_goesBehindEnd_29 : decode cE_goesBehindEnd 29 = .ok (.if_icmp .ne 7, 3) := by decide +kernel
theorem dE_goesBehindEnd_32 : decode cE_goesBehindEnd 32 = .ok (.iconst 1, 1) := by decide +kernel
theorem dE_goesBehindEnd_33 : decode cE_goesBehindEnd 33 = .ok (.goto 4, 3) := by decide +kernel
theorem dE_goesBehindEnd_36 : decode cE_goesBehindEnd 36 = .ok (.iconst 0, 1) := by decide +kernel
theorem dE_goesBehindEnd_37 : decode cE_goesBehindEnd 37 = .ok (.istore_n 2, 1) := by decide +kernel
theorem dE_goesBehindEnd_38 : decode cE_goesBehindEnd 38 = .ok (.iload_n 2, 1) := by decide +kernel
theorem dE_goesBehindEnd_39 : decode cE_goesBehindEnd 39 = .ok (.ifCond .eq 20, 3) := by decide +kernel
theorem dE_goesBehindEnd_42 : decode cE_goesBehindEnd 42 = .ok (.aload_n 0, 1) := by decide +kernel
theorem dE_goesBehindEnd_43 : decode cE_goesBehindEnd 43 = .ok (.getfield 13, 3) := by decide +kernel
theorem dE_goesBehindEnd_46 : decode cE_goesBehindEnd 46 = .ok (.iload_n 1, 1) := by decide +kernel
theorem dE_goesBehindEnd_47 : decode cE_goesBehindEnd 47 = .ok (.laload, 1) := by decide +kernel
theorem dE_goesBehindEnd_48 : decode cE_goesBehindEnd 48 = .ok (.aload_n 0, 1) := by decide +kernel
theorem dE_goesBehindEnd_49 : decode cE_goesBehindEnd 49 = .ok (.getfield 43, 3) := by decide +kernel
theorem dE_goesBehindEnd_52 : decode cE_goesBehindEnd 52 = .ok (.i2l, 1) := by decide +kernel
theorem dE_goesBehindEnd_53 : decode cE_goesBehindEnd 53 = .ok (.lcmp, 1) := by decide +kernel
theorem dE_goesBehindEnd_54 : decode cE_goesBehindEnd 54 = .ok (.ifCond .le 5, 3) := by decide +kernel
theorem dE_goesBehindEnd_57 : decode cE_goesBehindEnd 57 = .ok (.iconst 1, 1) := by decide +kernel
theorem dE_goesBehindEnd_58 : decode cE_goesBehindEnd 58 = .ok (.ireturn, 1) := by decide +kernel
theorem dE_goesBehindEnd_59 : decode cE_goesBehindEnd 59 = .ok (.iinc 1 1, 3) := by decide +kernel
theorem dE_goesBehindEnd_62 : decode cE_goesBehindEnd 62 = .ok (.goto (-60), 3) := by decide +kernel
theorem dE_goesBehindEnd_65 : decode cE_goesBehindEnd 65 = .ok (.iconst 0, 1) := by decide +kernel
theorem dE_goesBehindEnd_66 : decode cE_goesBehindEnd 66 = .ok (.ireturn, 1) := by decide +kernel
theorem dE_begin_0 : decode cE_begin 0 = .ok (.aload_n 0, 1) := by decide +kernel
theorem dE_begin_1 : decode cE_begin 1 = .ok (.iload_n 1, 1) := by decide +kernel
theorem dE_begin_2 : decode cE_begin 2 = .ok (.putfield 106, 3) := by decide +kernel
theorem dE_begin_5 : decode cE_begin 5 = .ok (.aload_n 0, 1) := by decide +kernel
theorem dE_begin_6 : decode cE_begin 6 = .ok (.lload_n 2, 1) := by decide +kernel
theorem dE_begin_7 : decode cE_begin 7 = .ok (.putfield 109, 3) := by decide +kernel
theorem dE_begin_10 : decode cE_begin 10 = .ok (.aload_n 0, 1) := by decide +kernel
theorem dE_begin_11 : decode cE_begin 11 = .ok (.iconst 0, 1) := by decide +kernel
theorem dE_begin_12 : decode cE_begin 12 = .ok (.putfield 92, 3) := by decide +kernel
theorem dE_begin_15 : decode cE_begin 15 = .ok (.aload_n 0, 1) := by decide +kernel
theorem dE_begin_16 : decode cE_begin 16 = .ok (.iconst 0, 1) := by decide +kernel
theorem dE_begin_17 : decode cE_begin 17 = .ok (.putfield 81, 3) := by decide +kernel
theorem dE_begin_20 : decode cE_begin 20 = .ok (.aload_n 0, 1) := by decide +kernel
theorem dE_begin_21 : decode cE_begin 21 = .ok (.iconst 0, 1) := by decide +kernel
theorem dE_begin_22 : decode cE_begin 22 = .ok (.putfield 113, 3) := by decide +kernel
theorem dE_begin_25 : decode cE_begin 25 = .ok (.aload_n 0, 1) := by decide +kernel
theorem dE_begin_26 : decode cE_begin 26 = .ok (.iconst 0, 1) := by decide +kernel
theorem dE_begin_27 : decode cE_begin 27 = .ok (.putfield 89, 3) := by decide +kernel
theorem dE_begin_30 : decode cE_begin 30 = .ok (.aload_n 0, 1) := by decide +kernel
theorem dE_begin_31 : decode cE_begin 31 = .ok (.iconst 0, 1) := by decide +kernel
theorem dE_begin_32 : decode cE_begin 32 = .ok (.putfield 95, 3) := by decide +kernel
theorem dE_begin_35 : decode cE_begin 35 = .ok (.aload_n 0, 1) := by decide +kernel
theorem dE_begin_36 : decode cE_begin 36 = .ok (.iconst 0, 1) := by decide +kernel
theorem dE_begin_37 : decode cE_begin 37 = .ok (.putfield 72, 3) := by decide +kernel
theorem dE_begin_40 : decode cE_begin 40 = .ok (.iconst 0, 1) := by decide +kernel
theorem dE_begin_41 : decode cE_begin 41 = .ok (.istore 4, 2) := by decide +kernel
theorem dE_begin_43 : decode cE_begin 43 = .ok (.iload 4, 2) := by decide +kernel
theorem dE_begin_45 : decode cE_begin 45 = .ok (.iconst 4, 1) := by decide +kernel
theorem dE_begin_46 : decode cE_begin 46 = .ok (.if_icmp .ge 17, 3) := by decide +kernel
theorem dE_begin_49 : decode cE_begin 49 = .ok (.aload_n 0, 1) := by decide +kernel
theorem dE_begin_50 : decode cE_begin 50 = .ok (.getfield 23, 3) := by decide +kernel
theorem dE_begin_53 : decode cE_begin 53 = .ok (.iload 4, 2) := by decide +kernel
theorem dE_begin_55 : decode cE_begin 55 = .ok (.lconst 0, 1) := by decide +kernel
theorem dE_begin_56 : decode cE_begin 56 = .ok (.lastore, 1) := by decide +kernel
theorem dE_begin_57 : decode cE_begin 57 = .ok (.iinc 4 1, 3) := by decide +kernel
theorem dE_begin_60 : decode cE_begin 60 = .ok (.goto (-17), 3) := by decide +kernel
theorem dE_begin_63 : decode cE_begin 63 = .ok (.return_, 1) := by decide +kernel
theorem dE_runProgram_0 : decode cE_runProgram 0 = .ok (.iconst 0, 1) := by decide +kernel
theorem dE_runProgram_1 : decode cE_runProgram 1 = .ok (.istore_n 1, 1) := by decide +kernel
theorem dE_runProgram_2 : decode cE_runProgram 2 = .ok (.iload_n 1, 1) := by decide +kernel
theorem dE_runProgram_3 : decode cE_runProgram 3 = .ok (.sipush 400, 3) := by decide +kernel
theorem dE_runProgram_6 : decode cE_runProgram 6 = .ok (.if_icmp .ge 73, 3) := by decide +kernel
theorem dE_runProgram_9 : decode cE_runProgram 9 = .ok (.aload_n 0, 1) := by decide +kernel
theorem dE_runProgram_10 : decode cE_runProgram 10 = .ok (.getfield 113, 3) := by decide +kernel
theorem dE_runProgram_13 : decode cE_runProgram 13 = .ok (.aload_n 0, 1) := by decide +kernel
theorem dE_runProgram_14 : decode cE_runProgram 14 = .ok (.getfield 43, 3) := by decide +kernel
theorem dE_runProgram_17 : decode cE_runProgram 17 = .ok (.if_icmp .ge 62, 3) := by decide +kernel
theorem dE_runProgram_20 : decode cE_runProgram 20 = .ok (.aload_n 0, 1) := by decide +kernel
theorem dE_runProgram_21 : decode cE_runProgram 21 = .ok (.getfield 72, 3) := by decide +kernel
theorem dE_runProgram_24 : decode cE_runProgram 24 = .ok (.ifCond .ne 55, 3) := by decide +kernel
theorem dE_runProgram_27 : decode cE_runProgram 27 = .ok (.aload_n 0, 1) := by decide +kernel
theorem dE_runProgram_28 : decode cE_runProgram 28 = .ok (.getfield 9, 3) := by decide +kernel
theorem dE_runProgram_31 : decode cE_runProgram 31 = .ok (.aload_n 0, 1) := by decide +kernel
theorem dE_runProgram_32 : decode cE_runProgram 32 = .ok (.getfield 113, 3) := by decide +kernel
theorem dE_runProgram_35 : decode cE_runProgram 35 = .ok (.iaload, 1) := by decide +kernel
theorem dE_runProgram_36 : decode cE_runProgram 36 = .ok (.istore_n 2, 1) := by decide +kernel
theorem dE_runProgram_37 : decode cE_runProgram 37 = .ok (.aload_n 0, 1) := by decide +kernel
theorem dE_runProgram_38 : decode cE_runProgram 38 = .ok (.getfield 13, 3) := by decide +kernel
theorem dE_runProgram_41 : decode cE_runProgram 41 = .ok (.aload_n 0, 1) := by decide +kernel
theorem dE_runProgram_42 : decode cE_runProgram 42 = .ok (.getfield 113, 3) := by decide +kernel
theorem dE_runProgram_45 : decode cE_runProgram 45 = .ok (.laload, 1) := by decide +kernel
theorem dE_runProgram_46 : decode cE_runProgram 46 = .ok (.lstore_n 3, 1) := by decide +kernel
theorem dE_runProgram_47 : decode cE_runProgram 47 = .ok (.aload_n 0, 1) := by decide +kernel
theorem dE_runProgram_48 : decode cE_runProgram 48 = .ok (.dup, 1) := by decide +kernel
theorem dE_runProgram_49 : decode cE_runProgram 49 = .ok (.getfield 113, 3) := by decide +kernel
theorem dE_runProgram_52 : decode cE_runProgram 52 = .ok (.iconst 1, 1) := by decide +kernel
theorem dE_runProgram_53 : decode cE_runProgram 53 = .ok (.iadd, 1) := by decide +kernel
theorem dE_runProgram_54 : decode cE_runProgram 54 = .ok (.putfield 113, 3) := by decide +kernel
theorem dE_runProgram_57 : decode cE_runProgram 57 = .ok (.aload_n 0, 1) := by decide +kernel
theorem dE_runProgram_58 : decode cE_runProgram 58 = .ok (.dup, 1) := by decide +kernel
theorem dE_runProgram_59 : decode cE_runProgram 59 = .ok (.getfield 89, 3) := by decide +kernel
theorem dE_runProgram_62 : decode cE_runProgram 62 = .ok (.iconst 1, 1) := by decide +kernel
theorem dE_runProgram_63 : decode cE_runProgram 63 = .ok (.iadd, 1) := by decide +kernel
theorem dE_runProgram_64 : decode cE_runProgram 64 = .ok (.putfield 89, 3) := by decide +kernel
theorem dE_runProgram_67 : decode cE_runProgram 67 = .ok (.aload_n 0, 1) := by decide +kernel
theorem dE_runProgram_68 : decode cE_runProgram 68 = .ok (.iload_n 2, 1) := by decide +kernel
theorem dE_runProgram_69 : decode cE_runProgram 69 = .ok (.lload_n 3, 1) := by decide +kernel
theorem dE_runProgram_70 : decode cE_runProgram 70 = .ok (.invokevirtual 116, 3) := by decide +kernel
theorem dE_runProgram_73 : decode cE_runProgram 73 = .ok (.iinc 1 1, 3) := by decide +kernel
theorem dE_runProgram_76 : decode cE_runProgram 76 = .ok (.goto (-74), 3) := by decide +kernel
theorem dE_runProgram_79 : decode cE_runProgram 79 = .ok (.aload_n 0, 1) := by decide +kernel
theorem dE_runProgram_80 : decode cE_runProgram 80 = .ok (.getfield 113, 3) := by decide +kernel
theorem dE_runProgram_83 : decode cE_runProgram 83 = .ok (.aload_n 0, 1) := by decide +kernel
theorem dE_runProgram_84 : decode cE_runProgram 84 = .ok (.getfield 43, 3) := by decide +kernel
theorem dE_runProgram_87 : decode cE_runProgram 87 = .ok (.if_icmp .ge 8, 3) := by decide +kernel
theorem dE_runProgram_90 : decode cE_runProgram 90 = .ok (.aload_n 0, 1) := by decide +kernel
theorem dE_runProgram_91 : decode cE_runProgram 91 = .ok (.iconst 1, 1) := by decide +kernel
theorem dE_runProgram_92 : decode cE_runProgram 92 = .ok (.putfield 72, 3) := by decide +kernel
theorem dE_runProgram_95 : decode cE_runProgram 95 = .ok (.aload_n 0, 1) := by decide +kernel
theorem dE_runProgram_96 : decode cE_runProgram 96 = .ok (.getfield 72, 3) := by decide +kernel
theorem dE_runProgram_99 : decode cE_runProgram 99 = .ok (.ifCond .eq 8, 3) := by decide +kernel
theorem dE_runProgram_102 : decode cE_runProgram 102 = .ok (.aload_n 0, 1) := by decide +kernel
theorem dE_runProgram_103 : decode cE_runProgram 103 = .ok (.iconst 0, 1) := by decide +kernel
theorem dE_runProgram_104 : decode cE_runProgram 104 = .ok (.putfield 92, 3) := by decide +kernel
theorem dE_runProgram_107 : decode cE_runProgram 107 = .ok (.return_, 1) := by decide +kernel
theorem dE_perform_0 : decode cE_perform 0 = .ok (.iload_n 1, 1) := by decide +kernel
theorem dE_perform_1 : decode cE_perform 1 = .ok (.tableswitch 217 0 18 #[91, 99, 110, 117, 136, 150, 217, 217, 217, 217, 217, 217, 159, 166, 174, 181, 190, 199, 206], 91) := by decide +kernel
theorem dE_perform_92 : decode cE_perform 92 = .ok (.aload_n 0, 1) := by decide +kernel
theorem dE_perform_93 : decode cE_perform 93 = .ok (.lload_n 2, 1) := by decide +kernel
theorem dE_perform_94 : decode cE_perform 94 = .ok (.invokevirtual 119, 3) := by decide +kernel
theorem dE_perform_97 : decode cE_perform 97 = .ok (.goto 126, 3) := by decide +kernel
theorem dE_perform_100 : decode cE_perform 100 = .ok (.aload_n 0, 1) := by decide +kernel
theorem dE_perform_101 : decode cE_perform 101 = .ok (.aload_n 0, 1) := by decide +kernel
theorem dE_perform_102 : decode cE_perform 102 = .ok (.getfield 109, 3) := by decide +kernel
theorem dE_perform_105 : decode cE_perform 105 = .ok (.invokevirtual 119, 3) := by decide +kernel
theorem dE_perform_108 : decode cE_perform 108 = .ok (.goto 115, 3) := by decide +kernel
theorem dE_perform_111 : decode cE_perform 111 = .ok (.aload_n 0, 1) := by decide +kernel
theorem dE_perform_112 : decode cE_perform 112 = .ok (.invokevirtual 123, 3) := by decide +kernel
theorem dE_perform_115 : decode cE_perform 115 = .ok (.goto 108, 3) := by decide +kernel
theorem dE_perform_118 : decode cE_perform 118 = .ok (.aload_n 0, 1) := by decide +kernel
theorem dE_perform_119 : decode cE_perform 119 = .ok (.aload_n 0, 1) := by decide +kernel
theorem dE_perform_120 : decode cE_perform 120 = .ok (.invokevirtual 126, 3) := by decide +kernel
theorem dE_perform_123 : decode cE_perform 123 = .ok (.ifCond .eq 7, 3) := by decide +kernel
theorem dE_perform_126 : decode cE_perform 126 = .ok (.lconst 1, 1) := by decide +kernel
theorem dE_perform_127 : decode cE_perform 127 = .ok (.goto 4, 3) := by decide +kernel
theorem dE_perform_130 : decode cE_perform 130 = .ok (.lconst 0, 1) := by decide +kernel
theorem dE_perform_131 : decode cE_perform 131 = .ok (.invokevirtual 119, 3) := by decide +kernel
theorem dE_perform_134 : decode cE_perform 134 = .ok (.goto 89, 3) := by decide +kernel
theorem dE_perform_137 : decode cE_perform 137 = .ok (.aload_n 0, 1) := by decide +kernel
theorem dE_perform_138 : decode cE_perform 138 = .ok (.aload_n 0, 1) := by decide +kernel
theorem dE_perform_139 : decode cE_perform 139 = .ok (.getfield 23, 3) := by decide +kernel
theorem dE_perform_142 : decode cE_perform 142 = .ok (.lload_n 2, 1) := by decide +kernel
theorem dE_perform_143 : decode cE_perform 143 = .ok (.l2i, 1) := by decide +kernel
theorem dE_perform_144 : decode cE_perform 144 = .ok (.laload, 1) := by decide +kernel
theorem dE_perform_145 : decode cE_perform 145 = .ok (.invokevirtual 119, 3) := by decide +kernel
theorem dE_perform_148 : decode cE_perform 148 = .ok (.goto 75, 3) := by decide +kernel
theorem dE_perform_151 : decode cE_perform 151 = .ok (.aload_n 0, 1) := by decide +kernel
theorem dE_perform_152 : decode cE_perform 152 = .ok (.lload_n 2, 1) := by decide +kernel
theorem dE_perform_153 : decode cE_perform 153 = .ok (.l2i, 1) := by decide +kernel
theorem dE_perform_154 : decode cE_perform 154 = .ok (.invokevirtual 129, 3) := by decide +kernel
theorem dE_perform_157 : decode cE_perform 157 = .ok (.goto 66, 3) := by decide +kernel
theorem dE_perform_160 : decode cE_perform 160 = .ok (.aload_n 0, 1) := by decide +kernel
theorem dE_perform_161 : decode cE_perform 161 = .ok (.invokevirtual 133, 3) := by decide +kernel
theorem dE_perform_164 : decode cE_perform 164 = .ok (.goto 59, 3) := by decide +kernel
theorem dE_perform_167 : decode cE_perform 167 = .ok (.aload_n 0, 1) := by decide +kernel
theorem dE_perform_168 : decode cE_perform 168 = .ok (.invokevirtual 136, 3) := by decide +kernel
theorem dE_perform_171 : decode cE_perform 171 = .ok (.pop2, 1) := by decide +kernel
theorem dE_perform_172 : decode cE_perform 172 = .ok (.goto 51, 3) := by decide +kernel
theorem dE_perform_175 : decode cE_perform 175 = .ok (.aload_n 0, 1) := by decide +kernel
theorem dE_perform_176 : decode cE_perform 176 = .ok (.invokevirtual 140, 3) := by decide +kernel
theorem dE_perform_179 : decode cE_perform 179 = .ok (.goto 44, 3) := by decide +kernel
theorem dE_perform_182 : decode cE_perform 182 = .ok (.aload_n 0, 1) := by decide +kernel
theorem dE_perform_183 : decode cE_perform 183 = .ok (.lload_n 2, 1) := by decide +kernel
theorem dE_perform_184 : decode cE_perform 184 = .ok (.l2i, 1) := by decide +kernel
theorem dE_perform_185 : decode cE_perform 185 = .ok (.putfield 113, 3) := by decide +kernel
theorem dE_perform_188 : decode cE_perform 188 = .ok (.goto 35, 3) := by decide +kernel
theorem dE_perform_191 : decode cE_perform 191 = .ok (.aload_n 0, 1) := by decide +kernel
theorem dE_perform_192 : decode cE_perform 192 = .ok (.lload_n 2, 1) := by decide +kernel
theorem dE_perform_193 : decode cE_perform 193 = .ok (.l2i, 1) := by decide +kernel
theorem dE_perform_194 : decode cE_perform 194 = .ok (.invokevirtual 143, 3) := by decide +kernel
theorem dE_perform_197 : decode cE_perform 197 = .ok (.goto 26, 3) := by decide +kernel
theorem dE_perform_200 : decode cE_perform 200 = .ok (.aload_n 0, 1) := by decide +kernel
theorem dE_perform_201 : decode cE_perform 201 = .ok (.invokevirtual 146, 3) := by decide +kernel
theorem dE_perform_204 : decode cE_perform 204 = .ok (.goto 19, 3) := by decide +kernel
theorem dE_perform_207 : decode cE_perform 207 = .ok (.aload_n 0, 1) := by decide +kernel
theorem dE_perform_208 : decode cE_perform 208 = .ok (.aload_n 0, 1) := by decide +kernel
theorem dE_perform_209 : decode cE_perform 209 = .ok (.getfield 43, 3) := by decide +kernel
theorem dE_perform_212 : decode cE_perform 212 = .ok (.putfield 113, 3) := by decide +kernel
theorem dE_perform_215 : decode cE_perform 215 = .ok (.goto 8, 3) := by decide +kernel
theorem dE_perform_218 : decode cE_perform 218 = .ok (.aload_n 0, 1) := by decide +kernel
theorem dE_perform_219 : decode cE_perform 219 = .ok (.iload_n 1, 1) := by decide +kernel
theorem dE_perform_220 : decode cE_perform 220 = .ok (.invokevirtual 149, 3) := by decide +kernel
theorem dE_perform_223 : decode cE_perform 223 = .ok (.return_, 1) := by decide +kernel
theorem dE_push_0 : decode cE_push 0 = .ok (.aload_n 0, 1) := by decide +kernel
theorem dE_push_1 : decode cE_push 1 = .ok (.getfield 92, 3) := by decide +kernel
theorem dE_push_4 : decode cE_push 4 = .ok (.bipush 12, 2) := by decide +kernel
theorem dE_push_6 : decode cE_push 6 = .ok (.if_icmp .lt 9, 3) := by decide +kernel
theorem dE_push_9 : decode cE_push 9 = .ok (.aload_n 0, 1) := by decide +kernel
theorem dE_push_10 : decode cE_push 10 = .ok (.iconst 1, 1) := by decide +kernel
theorem dE_push_11 : decode cE_push 11 = .ok (.putfield 72, 3) := by decide +kernel
theorem dE_push_14 : decode cE_push 14 = .ok (.return_, 1) := by decide +kernel
theorem dE_push_15 : decode cE_push 15 = .ok (.aload_n 0, 1) := by decide +kernel
theorem dE_push_16 : decode cE_push 16 = .ok (.getfield 20, 3) := by decide +kernel
theorem dE_push_19 : decode cE_push 19 = .ok (.aload_n 0, 1) := by decide +kernel
theorem dE_push_20 : decode cE_push 20 = .ok (.getfield 92, 3) := by decide +kernel
theorem dE_push_23 : decode cE_push 23 = .ok (.lload_n 1, 1) := by decide +kernel
theorem dE_push_24 : decode cE_push 24 = .ok (.lastore, 1) := by decide +kernel
theorem dE_push_25 : decode cE_push 25 = .ok (.aload_n 0, 1) := by decide +kernel
theorem dE_push_26 : decode cE_push 26 = .ok (.dup, 1) := by decide +kernel
theorem dE_push_27 : decode cE_push 27 = .ok (.getfield 92, 3) := by decide +kernel
theorem dE_push_30 : decode cE_push 30 = .ok (.iconst 1, 1) := by decide +kernel
theorem dE_push_31 : decode cE_push 31 = .ok (.iadd, 1) := by decide +kernel
theorem dE_push_32 : decode cE_push 32 = .ok (.putfield 92, 3) := by decide +kernel
theorem dE_push_35 : decode cE_push 35 = .ok (.return_, 1) := by decide +kernel
theorem dE_pop_0 : decode cE_pop 0 = .ok (.aload_n 0, 1) := by decide +kernel
theorem dE_pop_1 : decode cE_pop 1 = .ok (.getfield 92, 3) := by decide +kernel
theorem dE_pop_4 : decode cE_pop 4 = .ok (.ifCond .gt 10, 3) := by decide +kernel
theorem dE_pop_7 : decode cE_pop 7 = .ok (.aload_n 0, 1) := by decide +kernel
theorem dE_pop_8 : decode cE_pop 8 = .ok (.iconst 1, 1) := by decide +kernel
theorem dE_pop_9 : decode cE_pop 9 = .ok (.putfield 72, 3) := by decide +kernel
theorem dE_pop_12 : decode cE_pop 12 = .ok (.lconst 0, 1) := by decide +kernel
theorem dE_pop_13 : decode cE_pop 13 = .ok (.lreturn, 1) := by decide +kernel
theorem dE_pop_14 : decode cE_pop 14 = .ok (.aload_n 0, 1) := by decide +kernel
theorem dE_pop_15 : decode cE_pop 15 = .ok (.dup, 1) := by decide +kernel
theorem dE_pop_16 : decode cE_pop 16 = .ok (.getfield 92, 3) := by decide +kernel
theorem dE_pop_19 : decode cE_pop 19 = .ok (.iconst 1, 1) := by decide +kernel
theorem dE_pop_20 : decode cE_pop 20 = .ok (.isub, 1) := by decide +kernel
theorem dE_pop_21 : decode cE_pop 21 = .ok (.putfield 92, 3) := by decide +kernel
theorem dE_pop_24 : decode cE_pop 24 = .ok (.aload_n 0, 1) := by decide +kernel
theorem dE_pop_25 : decode cE_pop 25 = .ok (.getfield 20, 3) := by decide +kernel
theorem dE_pop_28 : decode cE_pop 28 = .ok (.aload_n 0, 1) := by decide +kernel
theorem dE_pop_29 : decode cE_pop 29 = .ok (.getfield 92, 3) := by decide +kernel
theorem dE_pop_32 : decode cE_pop 32 = .ok (.laload, 1) := by decide +kernel
theorem dE_pop_33 : decode cE_pop 33 = .ok (.lreturn, 1) := by decide +kernel
theorem dE_hasNext_0 : decode cE_hasNext 0 = .ok (.aload_n 0, 1) := by decide +kernel
theorem dE_hasNext_1 : decode cE_hasNext 1 = .ok (.getfield 106, 3) := by decide +kernel
theorem dE_hasNext_4 : decode cE_hasNext 4 = .ok (.ifCond .eq 18, 3) := by decide +kernel
theorem dE_hasNext_7 : decode cE_hasNext 7 = .ok (.aload_n 0, 1) := by decide +kernel
theorem dE_hasNext_8 : decode cE_hasNext 8 = .ok (.getfield 95, 3) := by decide +kernel
theorem dE_hasNext_11 : decode cE_hasNext 11 = .ok (.aload_n 0, 1) := by decide +kernel
theorem dE_hasNext_12 : decode cE_hasNext 12 = .ok (.getfield 52, 3) := by decide +kernel
theorem dE_hasNext_15 : decode cE_hasNext 15 = .ok (.if_icmp .ge 7, 3) := by decide +kernel
theorem dE_hasNext_18 : decode cE_hasNext 18 = .ok (.iconst 1, 1) := by decide +kernel
theorem dE_hasNext_19 : decode cE_hasNext 19 = .ok (.goto 4, 3) := by decide +kernel
theorem dE_hasNext_22 : decode cE_hasNext 22 = .ok (.iconst 0, 1) := by decide +kernel
theorem dE_hasNext_23 : decode cE_hasNext 23 = .ok (.ireturn, 1) := by decide +kernel
theorem dE_pushValue_0 : decode cE_pushValue 0 = .ok (.aload_n 0, 1) := by decide +kernel
theorem dE_pushValue_1 : decode cE_pushValue 1 = .ok (.getfield 95, 3) := by decide +kernel
theorem dE_pushValue_4 : decode cE_pushValue 4 = .ok (.aload_n 0, 1) := by decide +kernel
theorem dE_pushValue_5 : decode cE_pushValue 5 = .ok (.getfield 52, 3) := by decide +kernel
theorem dE_pushValue_8 : decode cE_pushValue 8 = .ok (.if_icmp .lt 9, 3) := by decide +kernel
theorem dE_pushValue_11 : decode cE_pushValue 11 = .ok (.aload_n 0, 1) := by decide +kernel
theorem dE_pushValue_12 : decode cE_pushValue 12 = .ok (.iconst 1, 1) := by decide +kernel
theorem dE_pushValue_13 : decode cE_pushValue 13 = .ok (.putfield 72, 3) := by decide +kernel
theorem dE_pushValue_16 : decode cE_pushValue 16 = .ok (.return_, 1) := by decide +kernel
theorem dE_pushValue_17 : decode cE_pushValue 17 = .ok (.aload_n 0, 1) := by decide +kernel
theorem dE_pushValue_18 : decode cE_pushValue 18 = .ok (.aload_n 0, 1) := by decide +kernel
theorem dE_pushValue_19 : decode cE_pushValue 19 = .ok (.getfield 17, 3) := by decide +kernel
theorem dE_pushValue_22 : decode cE_pushValue 22 = .ok (.aload_n 0, 1) := by decide +kernel
theorem dE_pushValue_23 : decode cE_pushValue 23 = .ok (.getfield 95, 3) := by decide +kernel
theorem dE_pushValue_26 : decode cE_pushValue 26 = .ok (.laload, 1) := by decide +kernel
theorem dE_pushValue_27 : decode cE_pushValue 27 = .ok (.invokevirtual 119, 3) := by decide +kernel
theorem dE_pushValue_30 : decode cE_pushValue 30 = .ok (.aload_n 0, 1) := by decide +kernel
theorem dE_pushValue_31 : decode cE_pushValue 31 = .ok (.getfield 72, 3) := by decide +kernel
theorem dE_pushValue_34 : decode cE_pushValue 34 = .ok (.ifCond .ne 20, 3) := by decide +kernel
theorem dE_pushValue_37 : decode cE_pushValue 37 = .ok (.aload_n 0, 1) := by decide +kernel
theorem dE_pushValue_38 : decode cE_pushValue 38 = .ok (.getfield 106, 3) := by decide +kernel
theorem dE_pushValue_41 : decode cE_pushValue 41 = .ok (.ifCond .eq 13, 3) := by decide +kernel
theorem dE_pushValue_44 : decode cE_pushValue 44 = .ok (.aload_n 0, 1) := by decide +kernel
theorem dE_pushValue_45 : decode cE_pushValue 45 = .ok (.dup, 1) := by decide +kernel
theorem dE_pushValue_46 : decode cE_pushValue 46 = .ok (.getfield 95, 3) := by decide +kernel
theorem dE_pushValue_49 : decode cE_pushValue 49 = .ok (.iconst 1, 1) := by decide +kernel
theorem dE_pushValue_50 : decode cE_pushValue 50 = .ok (.iadd, 1) := by decide +kernel
theorem dE_pushValue_51 : decode cE_pushValue 51 = .ok (.putfield 95, 3) := by decide +kernel
theorem dE_pushValue_54 : decode cE_pushValue 54 = .ok (.return_, 1) := by decide +kernel
theorem dE_popCell_0 : decode cE_popCell 0 = .ok (.aload_n 0, 1) := by decide +kernel
theorem dE_popCell_1 : decode cE_popCell 1 = .ok (.invokevirtual 136, 3) := by decide +kernel
theorem dE_popCell_4 : decode cE_popCell 4 = .ok (.lstore_n 2, 1) := by decide +kernel
theorem dE_popCell_5 : decode cE_popCell 5 = .ok (.aload_n 0, 1) := by decide +kernel
theorem dE_popCell_6 : decode cE_popCell 6 = .ok (.getfield 72, 3) := by decide +kernel
theorem dE_popCell_9 : decode cE_popCell 9 = .ok (.ifCond .ne 10, 3) := by decide +kernel
theorem dE_popCell_12 : decode cE_popCell 12 = .ok (.aload_n 0, 1) := by decide +kernel
theorem dE_popCell_13 : decode cE_popCell 13 = .ok (.getfield 23, 3) := by decide +kernel
theorem dE_popCell_16 : decode cE_popCell 16 = .ok (.iload_n 1, 1) := by decide +kernel
theorem dE_popCell_17 : decode cE_popCell 17 = .ok (.lload_n 2, 1) := by decide +kernel
theorem dE_popCell_18 : decode cE_popCell 18 = .ok (.lastore, 1) := by decide +kernel
theorem dE_popCell_19 : decode cE_popCell 19 = .ok (.return_, 1) := by decide +kernel
theorem dE_doubleTop_0 : decode cE_doubleTop 0 = .ok (.aload_n 0, 1) := by decide +kernel
theorem dE_doubleTop_1 : decode cE_doubleTop 1 = .ok (.invokevirtual 136, 3) := by decide +kernel
theorem dE_doubleTop_4 : decode cE_doubleTop 4 = .ok (.lstore_n 1, 1) := by decide +kernel
theorem dE_doubleTop_5 : decode cE_doubleTop 5 = .ok (.aload_n 0, 1) := by decide +kernel
theorem dE_doubleTop_6 : decode cE_doubleTop 6 = .ok (.lload_n 1, 1) := by decide +kernel
theorem dE_doubleTop_7 : decode cE_doubleTop 7 = .ok (.invokevirtual 119, 3) := by decide +kernel
theorem dE_doubleTop_10 : decode cE_doubleTop 10 = .ok (.aload_n 0, 1) := by decide +kernel
theorem dE_doubleTop_11 : decode cE_doubleTop 11 = .ok (.lload_n 1, 1) := by decide +kernel
theorem dE_doubleTop_12 : decode cE_doubleTop 12 = .ok (.invokevirtual 119, 3) := by decide +kernel
theorem dE_doubleTop_15 : decode cE_doubleTop 15 = .ok (.return_, 1) := by decide +kernel
theorem dE_changeTwo_0 : decode cE_changeTwo 0 = .ok (.aload_n 0, 1) := by decide +kernel
theorem dE_changeTwo_1 : decode cE_changeTwo 1 = .ok (.invokevirtual 136, 3) := by decide +kernel
theorem dE_changeTwo_4 : decode cE_changeTwo 4 = .ok (.lstore_n 1, 1) := by decide +kernel
theorem dE_changeTwo_5 : decode cE_changeTwo 5 = .ok (.aload_n 0, 1) := by decide +kernel
theorem dE_changeTwo_6 : decode cE_changeTwo 6 = .ok (.invokevirtual 136, 3) := by decide +kernel
theorem dE_changeTwo_9 : decode cE_changeTwo 9 = .ok (.lstore_n 3, 1) := by decide +kernel
theorem dE_changeTwo_10 : decode cE_changeTwo 10 = .ok (.aload_n 0, 1) := by decide +kernel
theorem dE_changeTwo_11 : decode cE_changeTwo 11 = .ok (.lload_n 1, 1) := by decide +kernel
theorem dE_changeTwo_12 : decode cE_changeTwo 12 = .ok (.invokevirtual 119, 3) := by decide +kernel
theorem dE_changeTwo_15 : decode cE_changeTwo 15 = .ok (.aload_n 0, 1) := by decide +kernel
theorem dE_changeTwo_16 : decode cE_changeTwo 16 = .ok (.lload_n 3, 1) := by decide +kernel
theorem dE_changeTwo_17 : decode cE_changeTwo 17 = .ok (.invokevirtual 119, 3) := by decide +kernel
theorem dE_changeTwo_20 : decode cE_changeTwo 20 = .ok (.return_, 1) := by decide +kernel
theorem dE_goIfZero_0 : decode cE_goIfZero 0 = .ok (.aload_n 0, 1) := by decide +kernel
theorem dE_goIfZero_1 : decode cE_goIfZero 1 = .ok (.invokevirtual 136, 3) := by decide +kernel
theorem dE_goIfZero_4 : decode cE_goIfZero 4 = .ok (.lconst 0, 1) := by decide +kernel
theorem dE_goIfZero_5 : decode cE_goIfZero 5 = .ok (.lcmp, 1) := by decide +kernel
theorem dE_goIfZero_6 : decode cE_goIfZero 6 = .ok (.ifCond .ne 8, 3) := by decide +kernel
theorem dE_goIfZero_9 : decode cE_goIfZero 9 = .ok (.aload_n 0, 1) := by decide +kernel
theorem dE_goIfZero_10 : decode cE_goIfZero 10 = .ok (.iload_n 1, 1) := by decide +kernel
theorem dE_goIfZero_11 : decode cE_goIfZero 11 = .ok (.putfield 113, 3) := by decide +kernel
theorem dE_goIfZero_14 : decode cE_goIfZero 14 = .ok (.return_, 1) := by decide +kernel
theorem dE_emitPair_0 : decode cE_emitPair 0 = .ok (.aload_n 0, 1) := by decide +kernel
theorem dE_emitPair_1 : decode cE_emitPair 1 = .ok (.invokevirtual 136, 3) := by decide +kernel
theorem dE_emitPair_4 : decode cE_emitPair 4 = .ok (.lstore_n 1, 1) := by decide +kernel
theorem dE_emitPair_5 : decode cE_emitPair 5 = .ok (.aload_n 0, 1) := by decide +kernel
theorem dE_emitPair_6 : decode cE_emitPair 6 = .ok (.getfield 106, 3) := by decide +kernel
theorem dE_emitPair_9 : decode cE_emitPair 9 = .ok (.iconst 1, 1) := by decide +kernel
theorem dE_emitPair_10 : decode cE_emitPair 10 = .ok (.if_icmp .ne 10, 3) := by decide +kernel
theorem dE_emitPair_13 : decode cE_emitPair 13 = .ok (.aload_n 0, 1) := by decide +kernel
theorem dE_emitPair_14 : decode cE_emitPair 14 = .ok (.getfield 109, 3) := by decide +kernel
theorem dE_emitPair_17 : decode cE_emitPair 17 = .ok (.goto 7, 3) := by decide +kernel
theorem dE_emitPair_20 : decode cE_emitPair 20 = .ok (.aload_n 0, 1) := by decide +kernel
theorem dE_emitPair_21 : decode cE_emitPair 21 = .ok (.invokevirtual 136, 3) := by decide +kernel
theorem dE_emitPair_24 : decode cE_emitPair 24 = .ok (.lstore_n 3, 1) := by decide +kernel
theorem dE_emitPair_25 : decode cE_emitPair 25 = .ok (.aload_n 0, 1) := by decide +kernel
theorem dE_emitPair_26 : decode cE_emitPair 26 = .ok (.getfield 72, 3) := by decide +kernel
theorem dE_emitPair_29 : decode cE_emitPair 29 = .ok (.ifCond .ne 11, 3) := by decide +kernel
theorem dE_emitPair_32 : decode cE_emitPair 32 = .ok (.aload_n 0, 1) := by decide +kernel
theorem dE_emitPair_33 : decode cE_emitPair 33 = .ok (.getfield 81, 3) := by decide +kernel
theorem dE_emitPair_36 : decode cE_emitPair 36 = .ok (.iconst 4, 1) := by decide +kernel
theorem dE_emitPair_37 : decode cE_emitPair 37 = .ok (.if_icmp .lt 9, 3) := by decide +kernel
theorem dE_emitPair_40 : decode cE_emitPair 40 = .ok (.aload_n 0, 1) := by decide +kernel
theorem dE_emitPair_41 : decode cE_emitPair 41 = .ok (.iconst 1, 1) := by decide +kernel
theorem dE_emitPair_42 : decode cE_emitPair 42 = .ok (.putfield 72, 3) := by decide +kernel
theorem dE_emitPair_45 : decode cE_emitPair 45 = .ok (.return_, 1) := by decide +kernel
theorem dE_emitPair_46 : decode cE_emitPair 46 = .ok (.aload_n 0, 1) := by decide +kernel
theorem dE_emitPair_47 : decode cE_emitPair 47 = .ok (.getfield 26, 3) := by decide +kernel
theorem dE_emitPair_50 : decode cE_emitPair 50 = .ok (.aload_n 0, 1) := by decide +kernel
theorem dE_emitPair_51 : decode cE_emitPair 51 = .ok (.getfield 81, 3) := by decide +kernel
theorem dE_emitPair_54 : decode cE_emitPair 54 = .ok (.lload_n 3, 1) := by decide +kernel
theorem dE_emitPair_55 : decode cE_emitPair 55 = .ok (.lastore, 1) := by decide +kernel
theorem dE_emitPair_56 : decode cE_emitPair 56 = .ok (.aload_n 0, 1) := by decide +kernel
theorem dE_emitPair_57 : decode cE_emitPair 57 = .ok (.getfield 29, 3) := by decide +kernel
theorem dE_emitPair_60 : decode cE_emitPair 60 = .ok (.aload_n 0, 1) := by decide +kernel
theorem dE_emitPair_61 : decode cE_emitPair 61 = .ok (.getfield 81, 3) := by decide +kernel
theorem dE_emitPair_64 : decode cE_emitPair 64 = .ok (.lload_n 1, 1) := by decide +kernel
theorem dE_emitPair_65 : decode cE_emitPair 65 = .ok (.lastore, 1) := by decide +kernel
theorem dE_emitPair_66 : decode cE_emitPair 66 = .ok (.aload_n 0, 1) := by decide +kernel
theorem dE_emitPair_67 : decode cE_emitPair 67 = .ok (.dup, 1) := by decide +kernel
theorem dE_emitPair_68 : decode cE_emitPair 68 = .ok (.getfield 81, 3) := by decide +kernel
theorem dE_emitPair_71 : decode cE_emitPair 71 = .ok (.iconst 1, 1) := by decide +kernel
theorem dE_emitPair_72 : decode cE_emitPair 72 = .ok (.iadd, 1) := by decide +kernel
theorem dE_emitPair_73 : decode cE_emitPair 73 = .ok (.putfield 81, 3) := by decide +kernel
theorem dE_emitPair_76 : decode cE_emitPair 76 = .ok (.return_, 1) := by decide +kernel
theorem dE_combine_0 : decode cE_combine 0 = .ok (.aload_n 0, 1) := by decide +kernel
theorem dE_combine_1 : decode cE_combine 1 = .ok (.invokevirtual 136, 3) := by decide +kernel
theorem dE_combine_4 : decode cE_combine 4 = .ok (.lstore_n 2, 1) := by decide +kernel
theorem dE_combine_5 : decode cE_combine 5 = .ok (.aload_n 0, 1) := by decide +kernel
theorem dE_combine_6 : decode cE_combine 6 = .ok (.invokevirtual 136, 3) := by decide +kernel
theorem dE_combine_9 : decode cE_combine 9 = .ok (.lstore 4, 2) := by decide +kernel
theorem dE_combine_11 : decode cE_combine 11 = .ok (.iload_n 1, 1) := by decide +kernel
theorem dE_combine_12 : decode cE_combine 12 = .ok (.tableswitch 121 6 11 #[40, 51, 62, 73, 83, 102], 40) := by decide +kernel
theorem dE_combine_52 : decode cE_combine 52 = .ok (.aload_n 0, 1) := by decide +kernel
theorem dE_combine_53 : decode cE_combine 53 = .ok (.lload 4, 2) := by decide +kernel
theorem dE_combine_55 : decode cE_combine 55 = .ok (.lload_n 2, 1) := by decide +kernel
theorem dE_combine_56 : decode cE_combine 56 = .ok (.ladd, 1) := by decide +kernel
theorem dE_combine_57 : decode cE_combine 57 = .ok (.invokevirtual 119, 3) := by decide +kernel
theorem dE_combine_60 : decode cE_combine 60 = .ok (.goto 73, 3) := by decide +kernel
theorem dE_combine_63 : decode cE_combine 63 = .ok (.aload_n 0, 1) := by decide +kernel
theorem dE_combine_64 : decode cE_combine 64 = .ok (.lload 4, 2) := by decide +kernel
theorem dE_combine_66 : decode cE_combine 66 = .ok (.lload_n 2, 1) := by decide +kernel
theorem dE_combine_67 : decode cE_combine 67 = .ok (.lsub, 1) := by decide +kernel
theorem dE_combine_68 : decode cE_combine 68 = .ok (.invokevirtual 119, 3) := by decide +kernel
theorem dE_combine_71 : decode cE_combine 71 = .ok (.goto 62, 3) := by decide +kernel
theorem dE_combine_74 : decode cE_combine 74 = .ok (.aload_n 0, 1) := by decide +kernel
theorem dE_combine_75 : decode cE_combine 75 = .ok (.lload 4, 2) := by decide +kernel
theorem dE_combine_77 : decode cE_combine 77 = .ok (.lload_n 2, 1) := by decide +kernel
theorem dE_combine_78 : decode cE_combine 78 = .ok (.lmul, 1) := by decide +kernel
theorem dE_combine_79 : decode cE_combine 79 = .ok (.invokevirtual 119, 3) := by decide +kernel
theorem dE_combine_82 : decode cE_combine 82 = .ok (.goto 51, 3) := by decide +kernel
theorem dE_combine_85 : decode cE_combine 85 = .ok (.aload_n 0, 1) := by decide +kernel
theorem dE_combine_86 : decode cE_combine 86 = .ok (.lload 4, 2) := by decide +kernel
theorem dE_combine_88 : decode cE_combine 88 = .ok (.lload_n 2, 1) := by decide +kernel
theorem dE_combine_89 : decode cE_combine 89 = .ok (.invokevirtual 152, 3) := by decide +kernel
theorem dE_combine_92 : decode cE_combine 92 = .ok (.goto 41, 3) := by decide +kernel
theorem dE_combine_95 : decode cE_combine 95 = .ok (.aload_n 0, 1) := by decide +kernel
theorem dE_combine_96 : decode cE_combine 96 = .ok (.lload 4, 2) := by decide +kernel
theorem dE_combine_98 : decode cE_combine 98 = .ok (.lload_n 2, 1) := by decide +kernel
theorem dE_combine_99 : decode cE_combine 99 = .ok (.lcmp, 1) := by decide +kernel
theorem dE_combine_100 : decode cE_combine 100 = .ok (.ifCond .ge 7, 3) := by decide +kernel
theorem dE_combine_103 : decode cE_combine 103 = .ok (.lconst 1, 1) := by decide +kernel
theorem dE_combine_104 : decode cE_combine 104 = .ok (.goto 4, 3) := by decide +kernel
theorem dE_combine_107 : decode cE_combine 107 = .ok (.lconst 0, 1) := by decide +kernel
theorem dE_combine_108 : decode cE_combine 108 = .ok (.invokevirtual 119, 3) := by decide +kernel
theorem dE_combine_111 : decode cE_combine 111 = .ok (.goto 22, 3) := by decide +kernel
theorem dE_combine_114 : decode cE_combine 114 = .ok (.aload_n 0, 1) := by decide +kernel
theorem dE_combine_115 : decode cE_combine 115 = .ok (.lload 4, 2) := by decide +kernel
theorem dE_combine_117 : decode cE_combine 117 = .ok (.lload_n 2, 1) := by decide +kernel
theorem dE_combine_118 : decode cE_combine 118 = .ok (.lcmp, 1) := by decide +kernel
theorem dE_combine_119 : decode cE_combine 119 = .ok (.ifCond .ne 7, 3) := by decide +kernel
theorem dE_combine_122 : decode cE_combine 122 = .ok (.lconst 1, 1) := by decide +kernel
theorem dE_combine_123 : decode cE_combine 123 = .ok (.goto 4, 3) := by decide +kernel
theorem dE_combine_126 : decode cE_combine 126 = .ok (.lconst 0, 1) := by decide +kernel
theorem dE_combine_127 : decode cE_combine 127 = .ok (.invokevirtual 119, 3) := by decide +kernel
theorem dE_combine_130 : decode cE_combine 130 = .ok (.goto 3, 3) := by decide +kernel
theorem dE_combine_133 : decode cE_combine 133 = .ok (.return_, 1) := by decide +kernel
theorem dE_divide_0 : decode cE_divide 0 = .ok (.lload_n 3, 1) := by decide +kernel
theorem dE_divide_1 : decode cE_divide 1 = .ok (.lconst 0, 1) := by decide +kernel
theorem dE_divide_2 : decode cE_divide 2 = .ok (.lcmp, 1) := by decide +kernel
theorem dE_divide_3 : decode cE_divide 3 = .ok (.ifCond .ne 9, 3) := by decide +kernel
theorem dE_divide_6 : decode cE_divide 6 = .ok (.aload_n 0, 1) := by decide +kernel
theorem dE_divide_7 : decode cE_divide 7 = .ok (.iconst 1, 1) := by decide +kernel
theorem dE_divide_8 : decode cE_divide 8 = .ok (.putfield 72, 3) := by decide +kernel
theorem dE_divide_11 : decode cE_divide 11 = .ok (.return_, 1) := by decide +kernel
theorem dE_divide_12 : decode cE_divide 12 = .ok (.aload_n 0, 1) := by decide +kernel
theorem dE_divide_13 : decode cE_divide 13 = .ok (.lload_n 1, 1) := by decide +kernel
theorem dE_divide_14 : decode cE_divide 14 = .ok (.lload_n 3, 1) := by decide +kernel
theorem dE_divide_15 : decode cE_divide 15 = .ok (.ldiv, 1) := by decide +kernel
theorem dE_divide_16 : decode cE_divide 16 = .ok (.invokevirtual 119, 3) := by decide +kernel
theorem dE_divide_19 : decode cE_divide 19 = .ok (.return_, 1) := by decide +kernel
end
section
theorem dM_init_0 : decode cM_init 0 = .ok (.aload_n 0, 1) := by decide +kernel
theorem dM_init_1 : decode cM_init 1 = .ok (.invokespecial 1, 3) := by decide +kernel
theorem dM_init_4 : decode cM_init 4 = .ok (.aload_n 0, 1) := by decide +kernel
theorem dM_init_5 : decode cM_init 5 = .ok (.bipush 40, 2) := by decide +kernel
theorem dM_init_7 : decode cM_init 7 = .ok (.newarray .int, 2) := by decide +kernel
theorem dM_init_9 : decode cM_init 9 = .ok (.putfield 9, 3) := by decide +kernel
theorem dM_init_12 : decode cM_init 12 = .ok (.aload_n 0, 1) := by decide +kernel
theorem dM_init_13 : decode cM_init 13 = .ok (.bipush 40, 2) := by decide +kernel
theorem dM_init_15 : decode cM_init 15 = .ok (.newarray .long, 2) := by decide +kernel
theorem dM_init_17 : decode cM_init 17 = .ok (.putfield 13, 3) := by decide +kernel
theorem dM_init_20 : decode cM_init 20 = .ok (.aload_n 0, 1) := by decide +kernel
theorem dM_init_21 : decode cM_init 21 = .ok (.bipush 40, 2) := by decide +kernel
theorem dM_init_23 : decode cM_init 23 = .ok (.newarray .long, 2) := by decide +kernel
theorem dM_init_25 : decode cM_init 25 = .ok (.putfield 17, 3) := by decide +kernel
theorem dM_init_28 : decode cM_init 28 = .ok (.aload_n 0, 1) := by decide +kernel
theorem dM_init_29 : decode cM_init 29 = .ok (.bipush 12, 2) := by decide +kernel
theorem dM_init_31 : decode cM_init 31 = .ok (.newarray .long, 2) := by decide +kernel
theorem dM_init_33 : decode cM_init 33 = .ok (.putfield 20, 3) := by decide +kernel
theorem dM_init_36 : decode cM_init 36 = .ok (.aload_n 0, 1) := by decide +kernel
theorem dM_init_37 : decode cM_init 37 = .ok (.iconst 4, 1) := by decide +kernel
theorem dM_init_38 : decode cM_init 38 = .ok (.newarray .long, 2) := by decide +kernel
theorem dM_init_40 : decode cM_init 40 = .ok (.putfield 23, 3) := by decide +kernel
theorem dM_init_43 : decode cM_init 43 = .ok (.aload_n 0, 1) := by decide +kernel
theorem dM_init_44 : decode cM_init 44 = .ok (.iconst 4, 1) := by decide +kernel
theorem dM_init_45 : decode cM_init 45 = .ok (.newarray .long, 2) := by decide +kernel
theorem dM_init_47 : decode cM_init 47 = .ok (.putfield 26, 3) := by decide +kernel
theorem dM_init_50 : decode cM_init 50 = .ok (.aload_n 0, 1) := by decide +kernel
theorem dM_init_51 : decode cM_init 51 = .ok (.iconst 4, 1) := by decide +kernel
theorem dM_init_52 : decode cM_init 52 = .ok (.newarray .long, 2) := by decide +kernel
theorem dM_init_54 : decode cM_init 54 = .ok (.putfield 29, 3) := by decide +kernel
theorem dM_init_57 : decode cM_init 57 = .ok (.return_, 1) := by decide +kernel
theorem dM_thrown_0 : decode cM_thrown 0 = .ok (.aload_n 0, 1) := by decide +kernel
theorem dM_thrown_1 : decode cM_thrown 1 = .ok (.getfield 32, 3) := by decide +kernel
theorem dM_thrown_4 : decode cM_thrown 4 = .ok (.ireturn, 1) := by decide +kernel
theorem dM_in_0 : decode cM_in 0 = .ok (.lload_n 0, 1) := by decide +kernel
theorem dM_in_1 : decode cM_in 1 = .ok (.iload_n 2, 1) := by decide +kernel
theorem dM_in_2 : decode cM_in 2 = .ok (.i2l, 1) := by decide +kernel
theorem dM_in_3 : decode cM_in 3 = .ok (.lcmp, 1) := by decide +kernel
theorem dM_in_4 : decode cM_in 4 = .ok (.ifCond .lt 14, 3) := by decide +kernel
theorem dM_in_7 : decode cM_in 7 = .ok (.lload_n 0, 1) := by decide +kernel
theorem dM_in_8 : decode cM_in 8 = .ok (.iload_n 3, 1) := by decide +kernel
theorem dM_in_9 : decode cM_in 9 = .ok (.i2l, 1) := by decide +kernel
theorem dM_in_10 : decode cM_in 10 = .ok (.lcmp, 1) := by decide +kernel
theorem dM_in_11 : decode cM_in 11 = .ok (.ifCond .gt 7, 3) := by decide +kernel
theorem dM_in_14 : decode cM_in 14 = .ok (.iconst 1, 1) := by decide +kernel
theorem dM_in_15 : decode cM_in 15 = .ok (.goto 4, 3) := by decide +kernel
theorem dM_in_18 : decode cM_in 18 = .ok (.iconst 0, 1) := by decide +kernel
theorem dM_in_19 : decode cM_in 19 = .ok (.ireturn, 1) := by decide +kernel
theorem dM_code_0 : decode cM_code 0 = .ok (.iload_n 1, 1) := by decide +kernel
theorem dM_code_1 : decode cM_code 1 = .ok (.i2l, 1) := by decide +kernel
theorem dM_code_2 : decode cM_code 2 = .ok (.iconst 0, 1) := by decide +kernel
theorem dM_code_3 : decode cM_code 3 = .ok (.bipush 18, 2) := by decide +kernel
theorem dM_code_5 : decode cM_code 5 = .ok (.invokestatic 36, 3) := by decide +kernel
theorem dM_code_8 : decode cM_code 8 = .ok (.ifCond .eq 48, 3) := by decide +kernel
theorem dM_code_11 : decode cM_code 11 = .ok (.iload_n 1, 1) := by decide +kernel
theorem dM_code_12 : decode cM_code 12 = .ok (.iconst 4, 1) := by decide +kernel
theorem dM_code_13 : decode cM_code 13 = .ok (.if_icmp .eq 8, 3) := by decide +kernel
theorem dM_code_16 : decode cM_code 16 = .ok (.iload_n 1, 1) := by decide +kernel
theorem dM_code_17 : decode cM_code 17 = .ok (.iconst 5, 1) := by decide +kernel
theorem dM_code_18 : decode cM_code 18 = .ok (.if_icmp .ne 12, 3) := by decide +kernel
theorem dM_code_21 : decode cM_code 21 = .ok (.lload_n 2, 1) := by decide +kernel
theorem dM_code_22 : decode cM_code 22 = .ok (.iconst 0, 1) := by decide +kernel
theorem dM_code_23 : decode cM_code 23 = .ok (.iconst 3, 1) := by decide +kernel
theorem dM_code_24 : decode cM_code 24 = .ok (.invokestatic 36, 3) := by decide +kernel
theorem dM_code_27 : decode cM_code 27 = .ok (.ifCond .eq 29, 3) := by decide +kernel
theorem dM_code_30 : decode cM_code 30 = .ok (.iload_n 1, 1) := by decide +kernel
theorem dM_code_31 : decode cM_code 31 = .ok (.bipush 15, 2) := by decide +kernel
theorem dM_code_33 : decode cM_code 33 = .ok (.if_icmp .eq 9, 3) := by decide +kernel
theorem dM_code_36 : decode cM_code 36 = .ok (.iload_n 1, 1) := by decide +kernel
theorem dM_code_37 : decode cM_code 37 = .ok (.bipush 16, 2) := by decide +kernel
theorem dM_code_39 : decode cM_code 39 = .ok (.if_icmp .ne 13, 3) := by decide +kernel
theorem dM_code_42 : decode cM_code 42 = .ok (.lload_n 2, 1) := by decide +kernel
theorem dM_code_43 : decode cM_code 43 = .ok (.iconst 0, 1) := by decide +kernel
theorem dM_code_44 : decode cM_code 44 = .ok (.bipush 40, 2) := by decide +kernel
theorem dM_code_46 : decode cM_code 46 = .ok (.invokestatic 36, 3) := by decide +kernel
theorem dM_code_49 : decode cM_code 49 = .ok (.ifCond .eq 7, 3) := by decide +kernel
theorem dM_code_52 : decode cM_code 52 = .ok (.iconst 1, 1) := by decide +kernel
theorem dM_code_53 : decode cM_code 53 = .ok (.goto 4, 3) := by decide +kernel
theorem dM_code_56 : decode cM_code 56 = .ok (.iconst 0, 1) := by decide +kernel
theorem dM_code_57 : decode cM_code 57 = .ok (.istore 4, 2) := by decide +kernel
theorem dM_code_59 : decode cM_code 59 = .ok (.aload_n 0, 1) := by decide +kernel
theorem dM_code_60 : decode cM_code 60 = .ok (.iload 4, 2) := by decide +kernel
theorem dM_code_62 : decode cM_code 62 = .ok (.ifCond .ne 7, 3) := by decide +kernel
theorem dM_code_65 : decode cM_code 65 = .ok (.iconst 1, 1) := by decide +kernel
theorem dM_code_66 : decode cM_code 66 = .ok (.goto 17, 3) := by decide +kernel
theorem dM_code_69 : decode cM_code 69 = .ok (.aload_n 0, 1) := by decide +kernel
theorem dM_code_70 : decode cM_code 70 = .ok (.getfield 40, 3) := by decide +kernel
theorem dM_code_73 : decode cM_code 73 = .ok (.bipush 40, 2) := by decide +kernel
theorem dM_code_75 : decode cM_code 75 = .ok (.if_icmp .ne 7, 3) := by decide +kernel
theorem dM_code_78 : decode cM_code 78 = .ok (.iconst 2, 1) := by decide +kernel
theorem dM_code_79 : decode cM_code 79 = .ok (.goto 4, 3) := by decide +kernel
theorem dM_code_82 : decode cM_code 82 = .ok (.iconst 0, 1) := by decide +kernel
theorem dM_code_83 : decode cM_code 83 = .ok (.putfield 32, 3) := by decide +kernel
theorem dM_code_86 : decode cM_code 86 = .ok (.aload_n 0, 1) := by decide +kernel
theorem dM_code_87 : decode cM_code 87 = .ok (.getfield 32, 3) := by decide +kernel
theorem dM_code_90 : decode cM_code 90 = .ok (.ifCond .le 5, 3) := by decide +kernel
theorem dM_code_93 : decode cM_code 93 = .ok (.iconst 0, 1) := by decide +kernel
theorem dM_code_94 : decode cM_code 94 = .ok (.ireturn, 1) := by decide +kernel
theorem dM_code_95 : decode cM_code 95 = .ok (.aload_n 0, 1) := by decide +kernel
theorem dM_code_96 : decode cM_code 96 = .ok (.getfield 9, 3) := by decide +kernel
theorem dM_code_99 : decode cM_code 99 = .ok (.aload_n 0, 1) := by decide +kernel
theorem dM_code_100 : decode cM_code 100 = .ok (.getfield 40, 3) := by decide +kernel
theorem dM_code_103 : decode cM_code 103 = .ok (.iload_n 1, 1) := by decide +kernel
theorem dM_code_104 : decode cM_code 104 = .ok (.iastore, 1) := by decide +kernel
theorem dM_code_105 : decode cM_code 105 = .ok (.aload_n 0, 1) := by decide +kernel
theorem dM_code_106 : decode cM_code 106 = .ok (.getfield 13, 3) := by decide +kernel
theorem dM_code_109 : decode cM_code 109 = .ok (.aload_n 0, 1) := by decide +kernel
theorem dM_code_110 : decode cM_code 110 = .ok (.getfield 40, 3) := by decide +kernel
theorem dM_code_113 : decode cM_code 113 = .ok (.lload_n 2, 1) := by decide +kernel
theorem dM_code_114 : decode cM_code 114 = .ok (.lastore, 1) := by decide +kernel
theorem dM_code_115 : decode cM_code 115 = .ok (.aload_n 0, 1) := by decide +kernel
theorem dM_code_116 : decode cM_code 116 = .ok (.dup, 1) := by decide +kernel
theorem dM_code_117 : decode cM_code 117 = .ok (.getfield 40, 3) := by decide +kernel
theorem dM_code_120 : decode cM_code 120 = .ok (.iconst 1, 1) := by decide +kernel
theorem dM_code_121 : decode cM_code 121 = .ok (.iadd, 1) := by decide +kernel
theorem dM_code_122 : decode cM_code 122 = .ok (.putfield 40, 3) := by decide +kernel
theorem dM_code_125 : decode cM_code 125 = .ok (.aload_n 0, 1) := by decide +kernel
theorem dM_code_126 : decode cM_code 126 = .ok (.getfield 40, 3) := by decide +kernel
theorem dM_code_129 : decode cM_code 129 = .ok (.ireturn, 1) := by decide +kernel
theorem dM_clear_0 : decode cM_clear 0 = .ok (.aload_n 0, 1) := by decide +kernel
theorem dM_clear_1 : decode cM_clear 1 = .ok (.iconst 0, 1) := by decide +kernel
theorem dM_clear_2 : decode cM_clear 2 = .ok (.putfield 32, 3) := by decide +kernel
theorem dM_clear_5 : decode cM_clear 5 = .ok (.aload_n 0, 1) := by decide +kernel
theorem dM_clear_6 : decode cM_clear 6 = .ok (.getfield 40, 3) := by decide +kernel
theorem dM_clear_9 : decode cM_clear 9 = .ok (.istore_n 1, 1) := by decide +kernel
theorem dM_clear_10 : decode cM_clear 10 = .ok (.aload_n 0, 1) := by decide +kernel
theorem dM_clear_11 : decode cM_clear 11 = .ok (.iconst 0, 1) := by decide +kernel
theorem dM_clear_12 : decode cM_clear 12 = .ok (.putfield 40, 3) := by decide +kernel
theorem dM_clear_15 : decode cM_clear 15 = .ok (.iload_n 1, 1) := by decide +kernel
theorem dM_clear_16 : decode cM_clear 16 = .ok (.ireturn, 1) := by decide +kernel
theorem dM_value_0 : decode cM_value 0 = .ok (.aload_n 0, 1) := by decide +kernel
theorem dM_value_1 : decode cM_value 1 = .ok (.aload_n 0, 1) := by decide +kernel
theorem dM_value_2 : decode cM_value 2 = .ok (.getfield 43, 3) := by decide +kernel
theorem dM_value_5 : decode cM_value 5 = .ok (.bipush 40, 2) := by decide +kernel
theorem dM_value_7 : decode cM_value 7 = .ok (.if_icmp .ne 7, 3) := by decide +kernel
theorem dM_value_10 : decode cM_value 10 = .ok (.iconst 1, 1) := by decide +kernel
theorem dM_value_11 : decode cM_value 11 = .ok (.goto 4, 3) := by decide +kernel
theorem dM_value_14 : decode cM_value 14 = .ok (.iconst 0, 1) := by decide +kernel
theorem dM_value_15 : decode cM_value 15 = .ok (.putfield 32, 3) := by decide +kernel
theorem dM_value_18 : decode cM_value 18 = .ok (.aload_n 0, 1) := by decide +kernel
theorem dM_value_19 : decode cM_value 19 = .ok (.getfield 32, 3) := by decide +kernel
theorem dM_value_22 : decode cM_value 22 = .ok (.ifCond .le 5, 3) := by decide +kernel
theorem dM_value_25 : decode cM_value 25 = .ok (.iconst 0, 1) := by decide +kernel
theorem dM_value_26 : decode cM_value 26 = .ok (.ireturn, 1) := by decide +kernel
theorem dM_value_27 : decode cM_value 27 = .ok (.aload_n 0, 1) := by decide +kernel
theorem dM_value_28 : decode cM_value 28 = .ok (.getfield 17, 3) := by decide +kernel
theorem dM_value_31 : decode cM_value 31 = .ok (.aload_n 0, 1) := by decide +kernel
theorem dM_value_32 : decode cM_value 32 = .ok (.getfield 43, 3) := by decide +kernel
theorem dM_value_35 : decode cM_value 35 = .ok (.lload_n 1, 1) := by decide +kernel
theorem dM_value_36 : decode cM_value 36 = .ok (.lastore, 1) := by decide +kernel
theorem dM_value_37 : decode cM_value 37 = .ok (.aload_n 0, 1) := by decide +kernel
theorem dM_value_38 : decode cM_value 38 = .ok (.dup, 1) := by decide +kernel
theorem dM_value_39 : decode cM_value 39 = .ok (.getfield 43, 3) := by decide +kernel
theorem dM_value_42 : decode cM_value 42 = .ok (.iconst 1, 1) := by decide +kernel
theorem dM_value_43 : decode cM_value 43 = .ok (.iadd, 1) := by decide +kernel
theorem dM_value_44 : decode cM_value 44 = .ok (.putfield 43, 3) := by decide +kernel
theorem dM_value_47 : decode cM_value 47 = .ok (.aload_n 0, 1) := by decide +kernel
theorem dM_value_48 : decode cM_value 48 = .ok (.getfield 43, 3) := by decide +kernel
theorem dM_value_51 : decode cM_value 51 = .ok (.ireturn, 1) := by decide +kernel
theorem dM_empty_0 : decode cM_empty 0 = .ok (.aload_n 0, 1) := by decide +kernel
theorem dM_empty_1 : decode cM_empty 1 = .ok (.iconst 0, 1) := by decide +kernel
theorem dM_empty_2 : decode cM_empty 2 = .ok (.putfield 32, 3) := by decide +kernel
theorem dM_empty_5 : decode cM_empty 5 = .ok (.aload_n 0, 1) := by decide +kernel
theorem dM_empty_6 : decode cM_empty 6 = .ok (.getfield 43, 3) := by decide +kernel
theorem dM_empty_9 : decode cM_empty 9 = .ok (.istore_n 1, 1) := by decide +kernel
theorem dM_empty_10 : decode cM_empty 10 = .ok (.aload_n 0, 1) := by decide +kernel
theorem dM_empty_11 : decode cM_empty 11 = .ok (.iconst 0, 1) := by decide +kernel
theorem dM_empty_12 : decode cM_empty 12 = .ok (.putfield 43, 3) := by decide +kernel
theorem dM_empty_15 : decode cM_empty 15 = .ok (.iload_n 1, 1) := by decide +kernel
theorem dM_empty_16 : decode cM_empty 16 = .ok (.ireturn, 1) := by decide +kernel
theorem dM_call_0 : decode cM_call 0 = .ok (.iload_n 1, 1) := by decide +kernel
theorem dM_call_1 : decode cM_call 1 = .ok (.i2l, 1) := by decide +kernel
theorem dM_call_2 : decode cM_call 2 = .ok (.iconst 0, 1) := by decide +kernel
theorem dM_call_3 : decode cM_call 3 = .ok (.iconst 2, 1) := by decide +kernel
theorem dM_call_4 : decode cM_call 4 = .ok (.invokestatic 36, 3) := by decide +kernel
theorem dM_call_7 : decode cM_call 7 = .ok (.istore 4, 2) := by decide +kernel
theorem dM_call_9 : decode cM_call 9 = .ok (.iconst 0, 1) := by decide +kernel
theorem dM_call_10 : decode cM_call 10 = .ok (.istore 5, 2) := by decide +kernel
theorem dM_call_12 : decode cM_call 12 = .ok (.iload 5, 2) := by decide +kernel
theorem dM_call_14 : decode cM_call 14 = .ok (.aload_n 0, 1) := by decide +kernel
theorem dM_call_15 : decode cM_call 15 = .ok (.getfield 40, 3) := by decide +kernel
theorem dM_call_18 : decode cM_call 18 = .ok (.if_icmp .ge 52, 3) := by decide +kernel
theorem dM_call_21 : decode cM_call 21 = .ok (.aload_n 0, 1) := by decide +kernel
theorem dM_call_22 : decode cM_call 22 = .ok (.getfield 9, 3) := by decide +kernel
theorem dM_call_25 : decode cM_call 25 = .ok (.iload 5, 2) := by decide +kernel
theorem dM_call_27 : decode cM_call 27 = .ok (.iaload, 1) := by decide +kernel
theorem dM_call_28 : decode cM_call 28 = .ok (.bipush 15, 2) := by decide +kernel
theorem dM_call_30 : decode cM_call 30 = .ok (.if_icmp .eq 15, 3) := by decide +kernel
theorem dM_call_33 : decode cM_call 33 = .ok (.aload_n 0, 1) := by decide +kernel
theorem dM_call_34 : decode cM_call 34 = .ok (.getfield 9, 3) := by decide +kernel
theorem dM_call_37 : decode cM_call 37 = .ok (.iload 5, 2) := by decide +kernel
theorem dM_call_39 : decode cM_call 39 = .ok (.iaload, 1) := by decide +kernel
theorem dM_call_40 : decode cM_call 40 = .ok (.bipush 16, 2) := by decide +kernel
theorem dM_call_42 : decode cM_call 42 = .ok (.if_icmp .ne 22, 3) := by decide +kernel
theorem dM_call_45 : decode cM_call 45 = .ok (.aload_n 0, 1) := by decide +kernel
theorem dM_call_46 : decode cM_call 46 = .ok (.getfield 13, 3) := by decide +kernel
theorem dM_call_49 : decode cM_call 49 = .ok (.iload 5, 2) := by decide +kernel
theorem dM_call_51 : decode cM_call 51 = .ok (.laload, 1) := by decide +kernel
theorem dM_call_52 : decode cM_call 52 = .ok (.aload_n 0, 1) := by decide +kernel
theorem dM_call_53 : decode cM_call 53 = .ok (.getfield 40, 3) := by decide +kernel
theorem dM_call_56 : decode cM_call 56 = .ok (.i2l, 1) := by decide +kernel
theorem dM_call_57 : decode cM_call 57 = .ok (.lcmp, 1) := by decide +kernel
theorem dM_call_58 : decode cM_call 58 = .ok (.ifCond .le 6, 3) := by decide +kernel
theorem dM_call_61 : decode cM_call 61 = .ok (.iconst 0, 1) := by decide +kernel
theorem dM_call_62 : decode cM_call 62 = .ok (.istore 4, 2) := by decide +kernel
theorem dM_call_64 : decode cM_call 64 = .ok (.iinc 5 1, 3) := by decide +kernel
theorem dM_call_67 : decode cM_call 67 = .ok (.goto (-55), 3) := by decide +kernel
theorem dM_call_70 : decode cM_call 70 = .ok (.aload_n 0, 1) := by decide +kernel
theorem dM_call_71 : decode cM_call 71 = .ok (.iload 4, 2) := by decide +kernel
theorem dM_call_73 : decode cM_call 73 = .ok (.ifCond .eq 7, 3) := by decide +kernel
theorem dM_call_76 : decode cM_call 76 = .ok (.iconst 0, 1) := by decide +kernel
theorem dM_call_77 : decode cM_call 77 = .ok (.goto 4, 3) := by decide +kernel
theorem dM_call_80 : decode cM_call 80 = .ok (.iconst 1, 1) := by decide +kernel
theorem dM_call_81 : decode cM_call 81 = .ok (.putfield 32, 3) := by decide +kernel
theorem dM_call_84 : decode cM_call 84 = .ok (.aload_n 0, 1) := by decide +kernel
theorem dM_call_85 : decode cM_call 85 = .ok (.getfield 32, 3) := by decide +kernel
theorem dM_call_88 : decode cM_call 88 = .ok (.ifCond .le 5, 3) := by decide +kernel
theorem dM_call_91 : decode cM_call 91 = .ok (.iconst 0, 1) := by decide +kernel
theorem dM_call_92 : decode cM_call 92 = .ok (.ireturn, 1) := by decide +kernel
theorem dM_call_93 : decode cM_call 93 = .ok (.aload_n 0, 1) := by decide +kernel
theorem dM_call_94 : decode cM_call 94 = .ok (.iconst 0, 1) := by decide +kernel
theorem dM_call_95 : decode cM_call 95 = .ok (.putfield 46, 3) := by decide +kernel
theorem dM_call_98 : decode cM_call 98 = .ok (.aload_n 0, 1) := by decide +kernel
theorem dM_call_99 : decode cM_call 99 = .ok (.iconst 0, 1) := by decide +kernel
theorem dM_call_100 : decode cM_call 100 = .ok (.putfield 49, 3) := by decide +kernel
theorem dM_call_103 : decode cM_call 103 = .ok (.aload_n 0, 1) := by decide +kernel
theorem dM_call_104 : decode cM_call 104 = .ok (.iconst 0, 1) := by decide +kernel
theorem dM_call_105 : decode cM_call 105 = .ok (.putfield 52, 3) := by decide +kernel
theorem dM_call_108 : decode cM_call 108 = .ok (.aload_n 0, 1) := by decide +kernel
theorem dM_call_109 : decode cM_call 109 = .ok (.iconst 0, 1) := by decide +kernel
theorem dM_call_110 : decode cM_call 110 = .ok (.putfield 55, 3) := by decide +kernel
theorem dM_call_113 : decode cM_call 113 = .ok (.iconst 0, 1) := by decide +kernel
theorem dM_call_114 : decode cM_call 114 = .ok (.istore 5, 2) := by decide +kernel
theorem dM_call_116 : decode cM_call 116 = .ok (.iload 5, 2) := by decide +kernel
theorem dM_call_118 : decode cM_call 118 = .ok (.iconst 4, 1) := by decide +kernel
theorem dM_call_119 : decode cM_call 119 = .ok (.if_icmp .ge 17, 3) := by decide +kernel
theorem dM_call_122 : decode cM_call 122 = .ok (.aload_n 0, 1) := by decide +kernel
theorem dM_call_123 : decode cM_call 123 = .ok (.getfield 23, 3) := by decide +kernel
theorem dM_call_126 : decode cM_call 126 = .ok (.iload 5, 2) := by decide +kernel
theorem dM_call_128 : decode cM_call 128 = .ok (.lconst 0, 1) := by decide +kernel
theorem dM_call_129 : decode cM_call 129 = .ok (.lastore, 1) := by decide +kernel
theorem dM_call_130 : decode cM_call 130 = .ok (.iinc 5 1, 3) := by decide +kernel
theorem dM_call_133 : decode cM_call 133 = .ok (.goto (-17), 3) := by decide +kernel
theorem dM_call_136 : decode cM_call 136 = .ok (.aload_n 0, 1) := by decide +kernel
theorem dM_call_137 : decode cM_call 137 = .ok (.aload_n 0, 1) := by decide +kernel
theorem dM_call_138 : decode cM_call 138 = .ok (.iload_n 1, 1) := by decide +kernel
theorem dM_call_139 : decode cM_call 139 = .ok (.lload_n 2, 1) := by decide +kernel
theorem dM_call_140 : decode cM_call 140 = .ok (.invokevirtual 58, 3) := by decide +kernel
theorem dM_call_143 : decode cM_call 143 = .ok (.ifCond .ne 7, 3) := by decide +kernel
theorem dM_call_146 : decode cM_call 146 = .ok (.iconst 1, 1) := by decide +kernel
theorem dM_call_147 : decode cM_call 147 = .ok (.goto 4, 3) := by decide +kernel
theorem dM_call_150 : decode cM_call 150 = .ok (.iconst 0, 1) := by decide +kernel
theorem dM_call_151 : decode cM_call 151 = .ok (.putfield 62, 3) := by decide +kernel
theorem dM_call_154 : decode cM_call 154 = .ok (.aload_n 0, 1) := by decide +kernel
theorem dM_call_155 : decode cM_call 155 = .ok (.getfield 62, 3) := by decide +kernel
theorem dM_call_158 : decode cM_call 158 = .ok (.ifCond .eq 15, 3) := by decide +kernel
theorem dM_call_161 : decode cM_call 161 = .ok (.aload_n 0, 1) := by decide +kernel
theorem dM_call_162 : decode cM_call 162 = .ok (.iconst 0, 1) := by decide +kernel
theorem dM_call_163 : decode cM_call 163 = .ok (.putfield 49, 3) := by decide +kernel
theorem dM_call_166 : decode cM_call 166 = .ok (.aload_n 0, 1) := by decide +kernel
theorem dM_call_167 : decode cM_call 167 = .ok (.iconst 2, 1) := by decide +kernel
theorem dM_call_168 : decode cM_call 168 = .ok (.putfield 32, 3) := by decide +kernel
theorem dM_call_171 : decode cM_call 171 = .ok (.iconst 0, 1) := by decide +kernel
theorem dM_call_172 : decode cM_call 172 = .ok (.ireturn, 1) := by decide +kernel
theorem dM_call_173 : decode cM_call 173 = .ok (.aload_n 0, 1) := by decide +kernel
theorem dM_call_174 : decode cM_call 174 = .ok (.getfield 52, 3) := by decide +kernel
theorem dM_call_177 : decode cM_call 177 = .ok (.ireturn, 1) := by decide +kernel
theorem dM_isDone_0 : decode cM_isDone 0 = .ok (.iconst 0, 1) := by decide +kernel
theorem dM_isDone_1 : decode cM_isDone 1 = .ok (.istore 4, 2) := by decide +kernel
theorem dM_isDone_3 : decode cM_isDone 3 = .ok (.iload 4, 2) := by decide +kernel
theorem dM_isDone_5 : decode cM_isDone 5 = .ok (.aload_n 0, 1) := by decide +kernel
theorem dM_isDone_6 : decode cM_isDone 6 = .ok (.getfield 40, 3) := by decide +kernel
theorem dM_isDone_9 : decode cM_isDone 9 = .ok (.if_icmp .ge 700, 3) := by decide +kernel
theorem dM_isDone_12 : decode cM_isDone 12 = .ok (.aload_n 0, 1) := by decide +kernel
theorem dM_isDone_13 : decode cM_isDone 13 = .ok (.getfield 46, 3) := by decide +kernel
theorem dM_isDone_16 : decode cM_isDone 16 = .ok (.sipush 400, 3) := by decide +kernel
theorem dM_isDone_19 : decode cM_isDone 19 = .ok (.if_icmp .ne 5, 3) := by decide +kernel
theorem dM_isDone_22 : decode cM_isDone 22 = .ok (.iconst 0, 1) := by decide +kernel
theorem dM_isDone_23 : decode cM_isDone 23 = .ok (.ireturn, 1) := by decide +kernel
theorem dM_isDone_24 : decode cM_isDone 24 = .ok (.aload_n 0, 1) := by decide +kernel
theorem dM_isDone_25 : decode cM_isDone 25 = .ok (.dup, 1) := by decide +kernel
theorem dM_isDone_26 : decode cM_isDone 26 = .ok (.getfield 46, 3) := by decide +kernel
theorem dM_isDone_29 : decode cM_isDone 29 = .ok (.iconst 1, 1) := by decide +kernel
theorem dM_isDone_30 : decode cM_isDone 30 = .ok (.iadd, 1) := by decide +kernel
theorem dM_isDone_31 : decode cM_isDone 31 = .ok (.putfield 46, 3) := by decide +kernel
theorem dM_isDone_34 : decode cM_isDone 34 = .ok (.aload_n 0, 1) := by decide +kernel
theorem dM_isDone_35 : decode cM_isDone 35 = .ok (.getfield 9, 3) := by decide +kernel
theorem dM_isDone_38 : decode cM_isDone 38 = .ok (.iload 4, 2) := by decide +kernel
theorem dM_isDone_40 : decode cM_isDone 40 = .ok (.iaload, 1) := by decide +kernel
theorem dM_isDone_41 : decode cM_isDone 41 = .ok (.istore 5, 2) := by decide +kernel
theorem dM_isDone_43 : decode cM_isDone 43 = .ok (.aload_n 0, 1) := by decide +kernel
theorem dM_isDone_44 : decode cM_isDone 44 = .ok (.getfield 13, 3) := by decide +kernel
theorem dM_isDone_47 : decode cM_isDone 47 = .ok (.iload 4, 2) := by decide +kernel
theorem dM_isDone_49 : decode cM_isDone 49 = .ok (.laload, 1) := by decide +kernel
theorem dM_isDone_50 : decode cM_isDone 50 = .ok (.lstore 6, 2) := by decide +kernel
theorem dM_isDone_52 : decode cM_isDone 52 = .ok (.iinc 4 1, 3) := by decide +kernel
theorem dM_isDone_55 : decode cM_isDone 55 = .ok (.iload 5, 2) := by decide +kernel
theorem dM_isDone_57 : decode cM_isDone 57 = .ok (.iconst 4, 1) := by decide +kernel
theorem dM_isDone_58 : decode cM_isDone 58 = .ok (.if_icmp .le 10, 3) := by decide +kernel
theorem dM_isDone_61 : decode cM_isDone 61 = .ok (.iload 5, 2) := by decide +kernel
theorem dM_isDone_63 : decode cM_isDone 63 = .ok (.bipush 12, 2) := by decide +kernel
theorem dM_isDone_65 : decode cM_isDone 65 = .ok (.if_icmp .ne 7, 3) := by decide +kernel
theorem dM_isDone_68 : decode cM_isDone 68 = .ok (.iconst 1, 1) := by decide +kernel
theorem dM_isDone_69 : decode cM_isDone 69 = .ok (.goto 4, 3) := by decide +kernel
theorem dM_isDone_72 : decode cM_isDone 72 = .ok (.iconst 0, 1) := by decide +kernel
theorem dM_isDone_73 : decode cM_isDone 73 = .ok (.istore 8, 2) := by decide +kernel
theorem dM_isDone_75 : decode cM_isDone 75 = .ok (.iload 5, 2) := by decide +kernel
theorem dM_isDone_77 : decode cM_isDone 77 = .ok (.bipush 6, 2) := by decide +kernel
theorem dM_isDone_79 : decode cM_isDone 79 = .ok (.if_icmp .lt 10, 3) := by decide +kernel
theorem dM_isDone_82 : decode cM_isDone 82 = .ok (.iload 5, 2) := by decide +kernel
theorem dM_isDone_84 : decode cM_isDone 84 = .ok (.bipush 11, 2) := by decide +kernel
theorem dM_isDone_86 : decode cM_isDone 86 = .ok (.if_icmp .le 22, 3) := by decide +kernel
theorem dM_isDone_89 : decode cM_isDone 89 = .ok (.iload 5, 2) := by decide +kernel
theorem dM_isDone_91 : decode cM_isDone 91 = .ok (.bipush 14, 2) := by decide +kernel
theorem dM_isDone_93 : decode cM_isDone 93 = .ok (.if_icmp .eq 15, 3) := by decide +kernel
theorem dM_isDone_96 : decode cM_isDone 96 = .ok (.iload 5, 2) := by decide +kernel
theorem dM_isDone_98 : decode cM_isDone 98 = .ok (.bipush 17, 2) := by decide +kernel
theorem dM_isDone_100 : decode cM_isDone 100 = .ok (.if_icmp .ne 12, 3) := by decide +kernel
theorem dM_isDone_103 : decode cM_isDone 103 = .ok (.iload_n 1, 1) := by decide +kernel
theorem dM_isDone_104 : decode cM_isDone 104 = .ok (.iconst 1, 1) := by decide +kernel
theorem dM_isDone_105 : decode cM_isDone 105 = .ok (.if_icmp .eq 7, 3) := by decide +kernel
theorem dM_isDone_108 : decode cM_isDone 108 = .ok (.iconst 2, 1) := by decide +kernel
theorem dM_isDone_109 : decode cM_isDone 109 = .ok (.goto 42, 3) := by decide +kernel
theorem dM_isDone_112 : decode cM_isDone 112 = .ok (.iload 5, 2) := by decide +kernel
theorem dM_isDone_114 : decode cM_isDone 114 = .ok (.iconst 5, 1) := by decide +kernel
theorem dM_isDone_115 : decode cM_isDone 115 = .ok (.if_icmp .eq 31, 3) := by decide +kernel
theorem dM_isDone_118 : decode cM_isDone 118 = .ok (.iload 5, 2) := by decide +kernel
theorem dM_isDone_120 : decode cM_isDone 120 = .ok (.bipush 12, 2) := by decide +kernel
theorem dM_isDone_122 : decode cM_isDone 122 = .ok (.if_icmp .eq 24, 3) := by decide +kernel
theorem dM_isDone_125 : decode cM_isDone 125 = .ok (.iload 5, 2) := by decide +kernel
theorem dM_isDone_127 : decode cM_isDone 127 = .ok (.bipush 13, 2) := by decide +kernel
theorem dM_isDone_129 : decode cM_isDone 129 = .ok (.if_icmp .eq 17, 3) := by decide +kernel
theorem dM_isDone_132 : decode cM_isDone 132 = .ok (.iload 5, 2) := by decide +kernel
theorem dM_isDone_134 : decode cM_isDone 134 = .ok (.bipush 16, 2) := by decide +kernel
theorem dM_isDone_136 : decode cM_isDone 136 = .ok (.if_icmp .eq 10, 3) := by decide +kernel
theorem dM_isDone_139 : decode cM_isDone 139 = .ok (.iload 5, 2) := by decide +kernel
theorem dM_isDone_141 : decode cM_isDone 141 = .ok (.bipush 17, 2) := by decide +kernel
theorem dM_isDone_143 : decode cM_isDone 143 = .ok (.if_icmp .ne 7, 3) := by decide +kernel
theorem dM_isDone_146 : decode cM_isDone 146 = .ok (.iconst 1, 1) := by decide +kernel
theorem dM_isDone_147 : decode cM_isDone 147 = .ok (.goto 4, 3) := by decide +kernel
theorem dM_isDone_150 : decode cM_isDone 150 = .ok (.iconst 0, 1) := by decide +kernel
theorem dM_isDone_151 : decode cM_isDone 151 = .ok (.istore 9, 2) := by decide +kernel
theorem dM_isDone_153 : decode cM_isDone 153 = .ok (.aload_n 0, 1) := by decide +kernel
theorem dM_isDone_154 : decode cM_isDone 154 = .ok (.getfield 49, 3) := by decide +kernel
theorem dM_isDone_157 : decode cM_isDone 157 = .ok (.iload 9, 2) := by decide +kernel
theorem dM_isDone_159 : decode cM_isDone 159 = .ok (.if_icmp .lt 17, 3) := by decide +kernel
theorem dM_isDone_162 : decode cM_isDone 162 = .ok (.iload 8, 2) := by decide +kernel
theorem dM_isDone_164 : decode cM_isDone 164 = .ok (.ifCond .eq 14, 3) := by decide +kernel
theorem dM_isDone_167 : decode cM_isDone 167 = .ok (.aload_n 0, 1) := by decide +kernel
theorem dM_isDone_168 : decode cM_isDone 168 = .ok (.getfield 49, 3) := by decide +kernel
theorem dM_isDone_171 : decode cM_isDone 171 = .ok (.bipush 12, 2) := by decide +kernel
theorem dM_isDone_173 : decode cM_isDone 173 = .ok (.if_icmp .ne 5, 3) := by decide +kernel
theorem dM_isDone_176 : decode cM_isDone 176 = .ok (.iconst 0, 1) := by decide +kernel
theorem dM_isDone_177 : decode cM_isDone 177 = .ok (.ireturn, 1) := by decide +kernel
theorem dM_isDone_178 : decode cM_isDone 178 = .ok (.iload 9, 2) := by decide +kernel
theorem dM_isDone_180 : decode cM_isDone 180 = .ok (.ifCond .le 17, 3) := by decide +kernel
theorem dM_isDone_183 : decode cM_isDone 183 = .ok (.aload_n 0, 1) := by decide +kernel
theorem dM_isDone_184 : decode cM_isDone 184 = .ok (.getfield 20, 3) := by decide +kernel
theorem dM_isDone_187 : decode cM_isDone 187 = .ok (.aload_n 0, 1) := by decide +kernel
theorem dM_isDone_188 : decode cM_isDone 188 = .ok (.getfield 49, 3) := by decide +kernel
theorem dM_isDone_191 : decode cM_isDone 191 = .ok (.iconst 1, 1) := by decide +kernel
theorem dM_isDone_192 : decode cM_isDone 192 = .ok (.isub, 1) := by decide +kernel
theorem dM_isDone_193 : decode cM_isDone 193 = .ok (.laload, 1) := by decide +kernel
theorem dM_isDone_194 : decode cM_isDone 194 = .ok (.goto 4, 3) := by decide +kernel
theorem dM_isDone_197 : decode cM_isDone 197 = .ok (.lconst 0, 1) := by decide +kernel
theorem dM_isDone_198 : decode cM_isDone 198 = .ok (.lstore 10, 2) := by decide +kernel
theorem dM_isDone_200 : decode cM_isDone 200 = .ok (.iload 9, 2) := by decide +kernel
theorem dM_isDone_202 : decode cM_isDone 202 = .ok (.iconst 1, 1) := by decide +kernel
theorem dM_isDone_203 : decode cM_isDone 203 = .ok (.if_icmp .le 17, 3) := by decide +kernel
theorem dM_isDone_206 : decode cM_isDone 206 = .ok (.aload_n 0, 1) := by decide +kernel
theorem dM_isDone_207 : decode cM_isDone 207 = .ok (.getfield 20, 3) := by decide +kernel
theorem dM_isDone_210 : decode cM_isDone 210 = .ok (.aload_n 0, 1) := by decide +kernel
theorem dM_isDone_211 : decode cM_isDone 211 = .ok (.getfield 49, 3) := by decide +kernel
theorem dM_isDone_214 : decode cM_isDone 214 = .ok (.iconst 2, 1) := by decide +kernel
theorem dM_isDone_215 : decode cM_isDone 215 = .ok (.isub, 1) := by decide +kernel
theorem dM_isDone_216 : decode cM_isDone 216 = .ok (.laload, 1) := by decide +kernel
theorem dM_isDone_217 : decode cM_isDone 217 = .ok (.goto 4, 3) := by decide +kernel
theorem dM_isDone_220 : decode cM_isDone 220 = .ok (.lconst 0, 1) := by decide +kernel
theorem dM_isDone_221 : decode cM_isDone 221 = .ok (.lstore 12, 2) := by decide +kernel
theorem dM_isDone_223 : decode cM_isDone 223 = .ok (.iload 5, 2) := by decide +kernel
theorem dM_isDone_225 : decode cM_isDone 225 = .ok (.bipush 18, 2) := by decide +kernel
theorem dM_isDone_227 : decode cM_isDone 227 = .ok (.if_icmp .ne 5, 3) := by decide +kernel
theorem dM_isDone_230 : decode cM_isDone 230 = .ok (.iconst 1, 1) := by decide +kernel
theorem dM_isDone_231 : decode cM_isDone 231 = .ok (.ireturn, 1) := by decide +kernel
theorem dM_isDone_232 : decode cM_isDone 232 = .ok (.iload 5, 2) := by decide +kernel
theorem dM_isDone_234 : decode cM_isDone 234 = .ok (.iconst 2, 1) := by decide +kernel
theorem dM_isDone_235 : decode cM_isDone 235 = .ok (.if_icmp .ne 30, 3) := by decide +kernel
theorem dM_isDone_238 : decode cM_isDone 238 = .ok (.iload_n 1, 1) := by decide +kernel
theorem dM_isDone_239 : decode cM_isDone 239 = .ok (.ifCond .ne 13, 3) := by decide +kernel
theorem dM_isDone_242 : decode cM_isDone 242 = .ok (.aload_n 0, 1) := by decide +kernel
theorem dM_isDone_243 : decode cM_isDone 243 = .ok (.getfield 43, 3) := by decide +kernel
theorem dM_isDone_246 : decode cM_isDone 246 = .ok (.ifCond .ne 19, 3) := by decide +kernel
theorem dM_isDone_249 : decode cM_isDone 249 = .ok (.goto 14, 3) := by decide +kernel
theorem dM_isDone_252 : decode cM_isDone 252 = .ok (.aload_n 0, 1) := by decide +kernel
theorem dM_isDone_253 : decode cM_isDone 253 = .ok (.getfield 55, 3) := by decide +kernel
theorem dM_isDone_256 : decode cM_isDone 256 = .ok (.aload_n 0, 1) := by decide +kernel
theorem dM_isDone_257 : decode cM_isDone 257 = .ok (.getfield 43, 3) := by decide +kernel
theorem dM_isDone_260 : decode cM_isDone 260 = .ok (.if_icmp .ne 5, 3) := by decide +kernel
theorem dM_isDone_263 : decode cM_isDone 263 = .ok (.iconst 0, 1) := by decide +kernel
theorem dM_isDone_264 : decode cM_isDone 264 = .ok (.ireturn, 1) := by decide +kernel
theorem dM_isDone_265 : decode cM_isDone 265 = .ok (.iload 5, 2) := by decide +kernel
theorem dM_isDone_267 : decode cM_isDone 267 = .ok (.bipush 9, 2) := by decide +kernel
theorem dM_isDone_269 : decode cM_isDone 269 = .ok (.if_icmp .ne 10, 3) := by decide +kernel
theorem dM_isDone_272 : decode cM_isDone 272 = .ok (.lload 10, 2) := by decide +kernel
theorem dM_isDone_274 : decode cM_isDone 274 = .ok (.lconst 0, 1) := by decide +kernel
theorem dM_isDone_275 : decode cM_isDone 275 = .ok (.lcmp, 1) := by decide +kernel
theorem dM_isDone_276 : decode cM_isDone 276 = .ok (.ifCond .eq 18, 3) := by decide +kernel
theorem dM_isDone_279 : decode cM_isDone 279 = .ok (.iload 5, 2) := by decide +kernel
theorem dM_isDone_281 : decode cM_isDone 281 = .ok (.bipush 17, 2) := by decide +kernel
theorem dM_isDone_283 : decode cM_isDone 283 = .ok (.if_icmp .ne 13, 3) := by decide +kernel
theorem dM_isDone_286 : decode cM_isDone 286 = .ok (.aload_n 0, 1) := by decide +kernel
theorem dM_isDone_287 : decode cM_isDone 287 = .ok (.getfield 52, 3) := by decide +kernel
theorem dM_isDone_290 : decode cM_isDone 290 = .ok (.iconst 4, 1) := by decide +kernel
theorem dM_isDone_291 : decode cM_isDone 291 = .ok (.if_icmp .ne 5, 3) := by decide +kernel
theorem dM_isDone_294 : decode cM_isDone 294 = .ok (.iconst 0, 1) := by decide +kernel
theorem dM_isDone_295 : decode cM_isDone 295 = .ok (.ireturn, 1) := by decide +kernel
theorem dM_isDone_296 : decode cM_isDone 296 = .ok (.iload 8, 2) := by decide +kernel
theorem dM_isDone_298 : decode cM_isDone 298 = .ok (.ifCond .eq 139, 3) := by decide +kernel
theorem dM_isDone_301 : decode cM_isDone 301 = .ok (.aload_n 0, 1) := by decide +kernel
theorem dM_isDone_302 : decode cM_isDone 302 = .ok (.getfield 20, 3) := by decide +kernel
theorem dM_isDone_305 : decode cM_isDone 305 = .ok (.aload_n 0, 1) := by decide +kernel
theorem dM_isDone_306 : decode cM_isDone 306 = .ok (.getfield 49, 3) := by decide +kernel
theorem dM_isDone_309 : decode cM_isDone 309 = .ok (.iload 5, 2) := by decide +kernel
theorem dM_isDone_311 : decode cM_isDone 311 = .ok (.ifCond .ne 8, 3) := by decide +kernel
theorem dM_isDone_314 : decode cM_isDone 314 = .ok (.lload 6, 2) := by decide +kernel
theorem dM_isDone_316 : decode cM_isDone 316 = .ok (.goto 87, 3) := by decide +kernel
theorem dM_isDone_319 : decode cM_isDone 319 = .ok (.iload 5, 2) := by decide +kernel
theorem dM_isDone_321 : decode cM_isDone 321 = .ok (.iconst 1, 1) := by decide +kernel
theorem dM_isDone_322 : decode cM_isDone 322 = .ok (.if_icmp .ne 7, 3) := by decide +kernel
theorem dM_isDone_325 : decode cM_isDone 325 = .ok (.lload_n 2, 1) := by decide +kernel
theorem dM_isDone_326 : decode cM_isDone 326 = .ok (.goto 77, 3) := by decide +kernel
theorem dM_isDone_329 : decode cM_isDone 329 = .ok (.iload 5, 2) := by decide +kernel
theorem dM_isDone_331 : decode cM_isDone 331 = .ok (.iconst 2, 1) := by decide +kernel
theorem dM_isDone_332 : decode cM_isDone 332 = .ok (.if_icmp .ne 23, 3) := by decide +kernel
theorem dM_isDone_335 : decode cM_isDone 335 = .ok (.aload_n 0, 1) := by decide +kernel
theorem dM_isDone_336 : decode cM_isDone 336 = .ok (.getfield 17, 3) := by decide +kernel
theorem dM_isDone_339 : decode cM_isDone 339 = .ok (.iload_n 1, 1) := by decide +kernel
theorem dM_isDone_340 : decode cM_isDone 340 = .ok (.ifCond .ne 7, 3) := by decide +kernel
theorem dM_isDone_343 : decode cM_isDone 343 = .ok (.iconst 0, 1) := by decide +kernel
theorem dM_isDone_344 : decode cM_isDone 344 = .ok (.goto 7, 3) := by decide +kernel
theorem dM_isDone_347 : decode cM_isDone 347 = .ok (.aload_n 0, 1) := by decide +kernel
theorem dM_isDone_348 : decode cM_isDone 348 = .ok (.getfield 55, 3) := by decide +kernel
theorem dM_isDone_351 : decode cM_isDone 351 = .ok (.laload, 1) := by decide +kernel
theorem dM_isDone_352 : decode cM_isDone 352 = .ok (.goto 51, 3) := by decide +kernel
theorem dM_isDone_355 : decode cM_isDone 355 = .ok (.iload 5, 2) := by decide +kernel
theorem dM_isDone_357 : decode cM_isDone 357 = .ok (.iconst 3, 1) := by decide +kernel
theorem dM_isDone_358 : decode cM_isDone 358 = .ok (.if_icmp .ne 26, 3) := by decide +kernel
theorem dM_isDone_361 : decode cM_isDone 361 = .ok (.iload_n 1, 1) := by decide +kernel
theorem dM_isDone_362 : decode cM_isDone 362 = .ok (.ifCond .le 18, 3) := by decide +kernel
theorem dM_isDone_365 : decode cM_isDone 365 = .ok (.aload_n 0, 1) := by decide +kernel
theorem dM_isDone_366 : decode cM_isDone 366 = .ok (.getfield 55, 3) := by decide +kernel
theorem dM_isDone_369 : decode cM_isDone 369 = .ok (.aload_n 0, 1) := by decide +kernel
theorem dM_isDone_370 : decode cM_isDone 370 = .ok (.getfield 43, 3) := by decide +kernel
theorem dM_isDone_373 : decode cM_isDone 373 = .ok (.if_icmp .ge 7, 3) := by decide +kernel
theorem dM_isDone_376 : decode cM_isDone 376 = .ok (.lconst 1, 1) := by decide +kernel
theorem dM_isDone_377 : decode cM_isDone 377 = .ok (.goto 26, 3) := by decide +kernel
theorem dM_isDone_380 : decode cM_isDone 380 = .ok (.lconst 0, 1) := by decide +kernel
theorem dM_isDone_381 : decode cM_isDone 381 = .ok (.goto 22, 3) := by decide +kernel
theorem dM_isDone_384 : decode cM_isDone 384 = .ok (.iload 5, 2) := by decide +kernel
theorem dM_isDone_386 : decode cM_isDone 386 = .ok (.iconst 4, 1) := by decide +kernel
theorem dM_isDone_387 : decode cM_isDone 387 = .ok (.if_icmp .ne 14, 3) := by decide +kernel
theorem dM_isDone_390 : decode cM_isDone 390 = .ok (.aload_n 0, 1) := by decide +kernel
theorem dM_isDone_391 : decode cM_isDone 391 = .ok (.getfield 23, 3) := by decide +kernel
theorem dM_isDone_394 : decode cM_isDone 394 = .ok (.lload 6, 2) := by decide +kernel
theorem dM_isDone_396 : decode cM_isDone 396 = .ok (.l2i, 1) := by decide +kernel
theorem dM_isDone_397 : decode cM_isDone 397 = .ok (.laload, 1) := by decide +kernel
theorem dM_isDone_398 : decode cM_isDone 398 = .ok (.goto 5, 3) := by decide +kernel
theorem dM_isDone_401 : decode cM_isDone 401 = .ok (.lload 10, 2) := by decide +kernel
theorem dM_isDone_403 : decode cM_isDone 403 = .ok (.lastore, 1) := by decide +kernel
theorem dM_isDone_404 : decode cM_isDone 404 = .ok (.aload_n 0, 1) := by decide +kernel
theorem dM_isDone_405 : decode cM_isDone 405 = .ok (.dup, 1) := by decide +kernel
theorem dM_isDone_406 : decode cM_isDone 406 = .ok (.getfield 49, 3) := by decide +kernel
theorem dM_isDone_409 : decode cM_isDone 409 = .ok (.iconst 1, 1) := by decide +kernel
theorem dM_isDone_410 : decode cM_isDone 410 = .ok (.iadd, 1) := by decide +kernel
theorem dM_isDone_411 : decode cM_isDone 411 = .ok (.putfield 49, 3) := by decide +kernel
theorem dM_isDone_414 : decode cM_isDone 414 = .ok (.iload 5, 2) := by decide +kernel
theorem dM_isDone_416 : decode cM_isDone 416 = .ok (.iconst 2, 1) := by decide +kernel
theorem dM_isDone_417 : decode cM_isDone 417 = .ok (.if_icmp .ne 289, 3) := by decide +kernel
theorem dM_isDone_420 : decode cM_isDone 420 = .ok (.iload_n 1, 1) := by decide +kernel
theorem dM_isDone_421 : decode cM_isDone 421 = .ok (.ifCond .le 285, 3) := by decide +kernel
theorem dM_isDone_424 : decode cM_isDone 424 = .ok (.aload_n 0, 1) := by decide +kernel
theorem dM_isDone_425 : decode cM_isDone 425 = .ok (.dup, 1) := by decide +kernel
theorem dM_isDone_426 : decode cM_isDone 426 = .ok (.getfield 55, 3) := by decide +kernel
theorem dM_isDone_429 : decode cM_isDone 429 = .ok (.iconst 1, 1) := by decide +kernel
theorem dM_isDone_430 : decode cM_isDone 430 = .ok (.iadd, 1) := by decide +kernel
theorem dM_isDone_431 : decode cM_isDone 431 = .ok (.putfield 55, 3) := by decide +kernel
theorem dM_isDone_434 : decode cM_isDone 434 = .ok (.goto 272, 3) := by decide +kernel
theorem dM_isDone_437 : decode cM_isDone 437 = .ok (.iload 5, 2) := by decide +kernel
theorem dM_isDone_439 : decode cM_isDone 439 = .ok (.bipush 14, 2) := by decide +kernel
theorem dM_isDone_441 : decode cM_isDone 441 = .ok (.if_icmp .ne 32, 3) := by decide +kernel
theorem dM_isDone_444 : decode cM_isDone 444 = .ok (.aload_n 0, 1) := by decide +kernel
theorem dM_isDone_445 : decode cM_isDone 445 = .ok (.getfield 20, 3) := by decide +kernel
theorem dM_isDone_448 : decode cM_isDone 448 = .ok (.aload_n 0, 1) := by decide +kernel
theorem dM_isDone_449 : decode cM_isDone 449 = .ok (.getfield 49, 3) := by decide +kernel
theorem dM_isDone_452 : decode cM_isDone 452 = .ok (.iconst 1, 1) := by decide +kernel
theorem dM_isDone_453 : decode cM_isDone 453 = .ok (.isub, 1) := by decide +kernel
theorem dM_isDone_454 : decode cM_isDone 454 = .ok (.lload 12, 2) := by decide +kernel
theorem dM_isDone_456 : decode cM_isDone 456 = .ok (.lastore, 1) := by decide +kernel
theorem dM_isDone_457 : decode cM_isDone 457 = .ok (.aload_n 0, 1) := by decide +kernel
theorem dM_isDone_458 : decode cM_isDone 458 = .ok (.getfield 20, 3) := by decide +kernel
theorem dM_isDone_461 : decode cM_isDone 461 = .ok (.aload_n 0, 1) := by decide +kernel
theorem dM_isDone_462 : decode cM_isDone 462 = .ok (.getfield 49, 3) := by decide +kernel
theorem dM_isDone_465 : decode cM_isDone 465 = .ok (.iconst 2, 1) := by decide +kernel
theorem dM_isDone_466 : decode cM_isDone 466 = .ok (.isub, 1) := by decide +kernel
theorem dM_isDone_467 : decode cM_isDone 467 = .ok (.lload 10, 2) := by decide +kernel
theorem dM_isDone_469 : decode cM_isDone 469 = .ok (.lastore, 1) := by decide +kernel
theorem dM_isDone_470 : decode cM_isDone 470 = .ok (.goto 236, 3) := by decide +kernel
theorem dM_isDone_473 : decode cM_isDone 473 = .ok (.iload 5, 2) := by decide +kernel
theorem dM_isDone_475 : decode cM_isDone 475 = .ok (.bipush 15, 2) := by decide +kernel
theorem dM_isDone_477 : decode cM_isDone 477 = .ok (.if_icmp .ne 11, 3) := by decide +kernel
theorem dM_isDone_480 : decode cM_isDone 480 = .ok (.lload 6, 2) := by decide +kernel
theorem dM_isDone_482 : decode cM_isDone 482 = .ok (.l2i, 1) := by decide +kernel
theorem dM_isDone_483 : decode cM_isDone 483 = .ok (.istore 4, 2) := by decide +kernel
theorem dM_isDone_485 : decode cM_isDone 485 = .ok (.goto 221, 3) := by decide +kernel
theorem dM_isDone_488 : decode cM_isDone 488 = .ok (.aload_n 0, 1) := by decide +kernel
theorem dM_isDone_489 : decode cM_isDone 489 = .ok (.dup, 1) := by decide +kernel
theorem dM_isDone_490 : decode cM_isDone 490 = .ok (.getfield 49, 3) := by decide +kernel
theorem dM_isDone_493 : decode cM_isDone 493 = .ok (.iload 9, 2) := by decide +kernel
theorem dM_isDone_495 : decode cM_isDone 495 = .ok (.isub, 1) := by decide +kernel
theorem dM_isDone_496 : decode cM_isDone 496 = .ok (.putfield 49, 3) := by decide +kernel
theorem dM_isDone_499 : decode cM_isDone 499 = .ok (.iload 5, 2) := by decide +kernel
theorem dM_isDone_501 : decode cM_isDone 501 = .ok (.iconst 5, 1) := by decide +kernel
theorem dM_isDone_502 : decode cM_isDone 502 = .ok (.if_icmp .ne 13, 3) := by decide +kernel
theorem dM_isDone_505 : decode cM_isDone 505 = .ok (.aload_n 0, 1) := by decide +kernel
theorem dM_isDone_506 : decode cM_isDone 506 = .ok (.getfield 23, 3) := by decide +kernel
theorem dM_isDone_509 : decode cM_isDone 509 = .ok (.lload 6, 2) := by decide +kernel
theorem dM_isDone_511 : decode cM_isDone 511 = .ok (.l2i, 1) := by decide +kernel
theorem dM_isDone_512 : decode cM_isDone 512 = .ok (.lload 10, 2) := by decide +kernel
theorem dM_isDone_514 : decode cM_isDone 514 = .ok (.lastore, 1) := by decide +kernel
theorem dM_isDone_515 : decode cM_isDone 515 = .ok (.iload 5, 2) := by decide +kernel
theorem dM_isDone_517 : decode cM_isDone 517 = .ok (.bipush 16, 2) := by decide +kernel
theorem dM_isDone_519 : decode cM_isDone 519 = .ok (.if_icmp .ne 15, 3) := by decide +kernel
theorem dM_isDone_522 : decode cM_isDone 522 = .ok (.lload 10, 2) := by decide +kernel
theorem dM_isDone_524 : decode cM_isDone 524 = .ok (.lconst 0, 1) := by decide +kernel
theorem dM_isDone_525 : decode cM_isDone 525 = .ok (.lcmp, 1) := by decide +kernel
theorem dM_isDone_526 : decode cM_isDone 526 = .ok (.ifCond .ne 8, 3) := by decide +kernel
theorem dM_isDone_529 : decode cM_isDone 529 = .ok (.lload 6, 2) := by decide +kernel
theorem dM_isDone_531 : decode cM_isDone 531 = .ok (.l2i, 1) := by decide +kernel
theorem dM_isDone_532 : decode cM_isDone 532 = .ok (.istore 4, 2) := by decide +kernel
theorem dM_isDone_534 : decode cM_isDone 534 = .ok (.iload 5, 2) := by decide +kernel
theorem dM_isDone_536 : decode cM_isDone 536 = .ok (.bipush 17, 2) := by decide +kernel
theorem dM_isDone_538 : decode cM_isDone 538 = .ok (.if_icmp .ne 44, 3) := by decide +kernel
theorem dM_isDone_541 : decode cM_isDone 541 = .ok (.aload_n 0, 1) := by decide +kernel
theorem dM_isDone_542 : decode cM_isDone 542 = .ok (.getfield 26, 3) := by decide +kernel
theorem dM_isDone_545 : decode cM_isDone 545 = .ok (.aload_n 0, 1) := by decide +kernel
theorem dM_isDone_546 : decode cM_isDone 546 = .ok (.getfield 52, 3) := by decide +kernel
theorem dM_isDone_549 : decode cM_isDone 549 = .ok (.iload_n 1, 1) := by decide +kernel
theorem dM_isDone_550 : decode cM_isDone 550 = .ok (.iconst 1, 1) := by decide +kernel
theorem dM_isDone_551 : decode cM_isDone 551 = .ok (.if_icmp .ne 7, 3) := by decide +kernel
theorem dM_isDone_554 : decode cM_isDone 554 = .ok (.lload_n 2, 1) := by decide +kernel
theorem dM_isDone_555 : decode cM_isDone 555 = .ok (.goto 5, 3) := by decide +kernel
theorem dM_isDone_558 : decode cM_isDone 558 = .ok (.lload 12, 2) := by decide +kernel
theorem dM_isDone_560 : decode cM_isDone 560 = .ok (.lastore, 1) := by decide +kernel
theorem dM_isDone_561 : decode cM_isDone 561 = .ok (.aload_n 0, 1) := by decide +kernel
theorem dM_isDone_562 : decode cM_isDone 562 = .ok (.getfield 29, 3) := by decide +kernel
theorem dM_isDone_565 : decode cM_isDone 565 = .ok (.aload_n 0, 1) := by decide +kernel
theorem dM_isDone_566 : decode cM_isDone 566 = .ok (.getfield 52, 3) := by decide +kernel
theorem dM_isDone_569 : decode cM_isDone 569 = .ok (.lload 10, 2) := by decide +kernel
theorem dM_isDone_571 : decode cM_isDone 571 = .ok (.lastore, 1) := by decide +kernel
theorem dM_isDone_572 : decode cM_isDone 572 = .ok (.aload_n 0, 1) := by decide +kernel
theorem dM_isDone_573 : decode cM_isDone 573 = .ok (.dup, 1) := by decide +kernel
theorem dM_isDone_574 : decode cM_isDone 574 = .ok (.getfield 52, 3) := by decide +kernel
theorem dM_isDone_577 : decode cM_isDone 577 = .ok (.iconst 1, 1) := by decide +kernel
theorem dM_isDone_578 : decode cM_isDone 578 = .ok (.iadd, 1) := by decide +kernel
theorem dM_isDone_579 : decode cM_isDone 579 = .ok (.putfield 52, 3) := by decide +kernel
theorem dM_isDone_582 : decode cM_isDone 582 = .ok (.iload 5, 2) := by decide +kernel
theorem dM_isDone_584 : decode cM_isDone 584 = .ok (.bipush 6, 2) := by decide +kernel
theorem dM_isDone_586 : decode cM_isDone 586 = .ok (.if_icmp .lt 120, 3) := by decide +kernel
theorem dM_isDone_589 : decode cM_isDone 589 = .ok (.iload 5, 2) := by decide +kernel
theorem dM_isDone_591 : decode cM_isDone 591 = .ok (.bipush 11, 2) := by decide +kernel
theorem dM_isDone_593 : decode cM_isDone 593 = .ok (.if_icmp .gt 113, 3) := by decide +kernel
theorem dM_isDone_596 : decode cM_isDone 596 = .ok (.aload_n 0, 1) := by decide +kernel
theorem dM_isDone_597 : decode cM_isDone 597 = .ok (.getfield 20, 3) := by decide +kernel
theorem dM_isDone_600 : decode cM_isDone 600 = .ok (.aload_n 0, 1) := by decide +kernel
theorem dM_isDone_601 : decode cM_isDone 601 = .ok (.getfield 49, 3) := by decide +kernel
theorem dM_isDone_604 : decode cM_isDone 604 = .ok (.iload 5, 2) := by decide +kernel
theorem dM_isDone_606 : decode cM_isDone 606 = .ok (.bipush 6, 2) := by decide +kernel
theorem dM_isDone_608 : decode cM_isDone 608 = .ok (.if_icmp .ne 11, 3) := by decide +kernel
theorem dM_isDone_611 : decode cM_isDone 611 = .ok (.lload 12, 2) := by decide +kernel
theorem dM_isDone_613 : decode cM_isDone 613 = .ok (.lload 10, 2) := by decide +kernel
theorem dM_isDone_615 : decode cM_isDone 615 = .ok (.ladd, 1) := by decide +kernel
theorem dM_isDone_616 : decode cM_isDone 616 = .ok (.goto 79, 3) := by decide +kernel
theorem dM_isDone_619 : decode cM_isDone 619 = .ok (.iload 5, 2) := by decide +kernel
theorem dM_isDone_621 : decode cM_isDone 621 = .ok (.bipush 7, 2) := by decide +kernel
theorem dM_isDone_623 : decode cM_isDone 623 = .ok (.if_icmp .ne 11, 3) := by decide +kernel
theorem dM_isDone_626 : decode cM_isDone 626 = .ok (.lload 12, 2) := by decide +kernel
theorem dM_isDone_628 : decode cM_isDone 628 = .ok (.lload 10, 2) := by decide +kernel
theorem dM_isDone_630 : decode cM_isDone 630 = .ok (.lsub, 1) := by decide +kernel
theorem dM_isDone_631 : decode cM_isDone 631 = .ok (.goto 64, 3) := by decide +kernel
theorem dM_isDone_634 : decode cM_isDone 634 = .ok (.iload 5, 2) := by decide +kernel
theorem dM_isDone_636 : decode cM_isDone 636 = .ok (.bipush 8, 2) := by decide +kernel
theorem dM_isDone_638 : decode cM_isDone 638 = .ok (.if_icmp .ne 11, 3) := by decide +kernel
theorem dM_isDone_641 : decode cM_isDone 641 = .ok (.lload 12, 2) := by decide +kernel
theorem dM_isDone_643 : decode cM_isDone 643 = .ok (.lload 10, 2) := by decide +kernel
theorem dM_isDone_645 : decode cM_isDone 645 = .ok (.lmul, 1) := by decide +kernel
theorem dM_isDone_646 : decode cM_isDone 646 = .ok (.goto 49, 3) := by decide +kernel
theorem dM_isDone_649 : decode cM_isDone 649 = .ok (.iload 5, 2) := by decide +kernel
theorem dM_isDone_651 : decode cM_isDone 651 = .ok (.bipush 9, 2) := by decide +kernel
theorem dM_isDone_653 : decode cM_isDone 653 = .ok (.if_icmp .ne 11, 3) := by decide +kernel
theorem dM_isDone_656 : decode cM_isDone 656 = .ok (.lload 12, 2) := by decide +kernel
theorem dM_isDone_658 : decode cM_isDone 658 = .ok (.lload 10, 2) := by decide +kernel
theorem dM_isDone_660 : decode cM_isDone 660 = .ok (.ldiv, 1) := by decide +kernel
theorem dM_isDone_661 : decode cM_isDone 661 = .ok (.goto 34, 3) := by decide +kernel
theorem dM_isDone_664 : decode cM_isDone 664 = .ok (.iload 5, 2) := by decide +kernel
theorem dM_isDone_666 : decode cM_isDone 666 = .ok (.bipush 10, 2) := by decide +kernel
theorem dM_isDone_668 : decode cM_isDone 668 = .ok (.if_icmp .ne 14, 3) := by decide +kernel
theorem dM_isDone_671 : decode cM_isDone 671 = .ok (.lload 12, 2) := by decide +kernel
theorem dM_isDone_673 : decode cM_isDone 673 = .ok (.lload 10, 2) := by decide +kernel
theorem dM_isDone_675 : decode cM_isDone 675 = .ok (.lcmp, 1) := by decide +kernel
theorem dM_isDone_676 : decode cM_isDone 676 = .ok (.ifCond .ge 18, 3) := by decide +kernel
theorem dM_isDone_679 : decode cM_isDone 679 = .ok (.goto 11, 3) := by decide +kernel
theorem dM_isDone_682 : decode cM_isDone 682 = .ok (.lload 12, 2) := by decide +kernel
theorem dM_isDone_684 : decode cM_isDone 684 = .ok (.lload 10, 2) := by decide +kernel
theorem dM_isDone_686 : decode cM_isDone 686 = .ok (.lcmp, 1) := by decide +kernel
theorem dM_isDone_687 : decode cM_isDone 687 = .ok (.ifCond .ne 7, 3) := by decide +kernel
theorem dM_isDone_690 : decode cM_isDone 690 = .ok (.lconst 1, 1) := by decide +kernel
theorem dM_isDone_691 : decode cM_isDone 691 = .ok (.goto 4, 3) := by decide +kernel
theorem dM_isDone_694 : decode cM_isDone 694 = .ok (.lconst 0, 1) := by decide +kernel
theorem dM_isDone_695 : decode cM_isDone 695 = .ok (.lastore, 1) := by decide +kernel
theorem dM_isDone_696 : decode cM_isDone 696 = .ok (.aload_n 0, 1) := by decide +kernel
theorem dM_isDone_697 : decode cM_isDone 697 = .ok (.dup, 1) := by decide +kernel
theorem dM_isDone_698 : decode cM_isDone 698 = .ok (.getfield 49, 3) := by decide +kernel
theorem dM_isDone_701 : decode cM_isDone 701 = .ok (.iconst 1, 1) := by decide +kernel
theorem dM_isDone_702 : decode cM_isDone 702 = .ok (.iadd, 1) := by decide +kernel
theorem dM_isDone_703 : decode cM_isDone 703 = .ok (.putfield 49, 3) := by decide +kernel
theorem dM_isDone_706 : decode cM_isDone 706 = .ok (.goto (-703), 3) := by decide +kernel
theorem dM_isDone_709 : decode cM_isDone 709 = .ok (.iconst 1, 1) := by decide +kernel
theorem dM_isDone_710 : decode cM_isDone 710 = .ok (.ireturn, 1) := by decide +kernel
theorem dM_emitted_0 : decode cM_emitted 0 = .ok (.aload_n 0, 1) := by decide +kernel
theorem dM_emitted_1 : decode cM_emitted 1 = .ok (.iload_n 1, 1) := by decide +kernel
theorem dM_emitted_2 : decode cM_emitted 2 = .ok (.ifCond .lt 11, 3) := by decide +kernel
theorem dM_emitted_5 : decode cM_emitted 5 = .ok (.iload_n 1, 1) := by decide +kernel
theorem dM_emitted_6 : decode cM_emitted 6 = .ok (.aload_n 0, 1) := by decide +kernel
theorem dM_emitted_7 : decode cM_emitted 7 = .ok (.getfield 52, 3) := by decide +kernel
theorem dM_emitted_10 : decode cM_emitted 10 = .ok (.if_icmp .lt 7, 3) := by decide +kernel
theorem dM_emitted_13 : decode cM_emitted 13 = .ok (.iconst 1, 1) := by decide +kernel
theorem dM_emitted_14 : decode cM_emitted 14 = .ok (.goto 4, 3) := by decide +kernel
theorem dM_emitted_17 : decode cM_emitted 17 = .ok (.iconst 0, 1) := by decide +kernel
theorem dM_emitted_18 : decode cM_emitted 18 = .ok (.putfield 32, 3) := by decide +kernel
theorem dM_emitted_21 : decode cM_emitted 21 = .ok (.aload_n 0, 1) := by decide +kernel
theorem dM_emitted_22 : decode cM_emitted 22 = .ok (.getfield 32, 3) := by decide +kernel
theorem dM_emitted_25 : decode cM_emitted 25 = .ok (.ifCond .le 5, 3) := by decide +kernel
theorem dM_emitted_28 : decode cM_emitted 28 = .ok (.lconst 0, 1) := by decide +kernel
theorem dM_emitted_29 : decode cM_emitted 29 = .ok (.lreturn, 1) := by decide +kernel
theorem dM_emitted_30 : decode cM_emitted 30 = .ok (.iload_n 2, 1) := by decide +kernel
theorem dM_emitted_31 : decode cM_emitted 31 = .ok (.ifCond .eq 12, 3) := by decide +kernel
theorem dM_emitted_34 : decode cM_emitted 34 = .ok (.aload_n 0, 1) := by decide +kernel
theorem dM_emitted_35 : decode cM_emitted 35 = .ok (.getfield 29, 3) := by decide +kernel
theorem dM_emitted_38 : decode cM_emitted 38 = .ok (.iload_n 1, 1) := by decide +kernel
theorem dM_emitted_39 : decode cM_emitted 39 = .ok (.laload, 1) := by decide +kernel
theorem dM_emitted_40 : decode cM_emitted 40 = .ok (.goto 9, 3) := by decide +kernel
theorem dM_emitted_43 : decode cM_emitted 43 = .ok (.aload_n 0, 1) := by decide +kernel
theorem dM_emitted_44 : decode cM_emitted 44 = .ok (.getfield 26, 3) := by decide +kernel
theorem dM_emitted_47 : decode cM_emitted 47 = .ok (.iload_n 1, 1) := by decide +kernel
theorem dM_emitted_48 : decode cM_emitted 48 = .ok (.laload, 1) := by decide +kernel
theorem dM_emitted_49 : decode cM_emitted 49 = .ok (.lreturn, 1) := by decide +kernel
theorem dM_told_0 : decode cM_told 0 = .ok (.aload_n 0, 1) := by decide +kernel
theorem dM_told_1 : decode cM_told 1 = .ok (.iload_n 1, 1) := by decide +kernel
theorem dM_told_2 : decode cM_told 2 = .ok (.i2l, 1) := by decide +kernel
theorem dM_told_3 : decode cM_told 3 = .ok (.iconst 0, 1) := by decide +kernel
theorem dM_told_4 : decode cM_told 4 = .ok (.iconst 4, 1) := by decide +kernel
theorem dM_told_5 : decode cM_told 5 = .ok (.invokestatic 36, 3) := by decide +kernel
theorem dM_told_8 : decode cM_told 8 = .ok (.ifCond .eq 7, 3) := by decide +kernel
theorem dM_told_11 : decode cM_told 11 = .ok (.iconst 0, 1) := by decide +kernel
theorem dM_told_12 : decode cM_told 12 = .ok (.goto 4, 3) := by decide +kernel
theorem dM_told_15 : decode cM_told 15 = .ok (.iconst 1, 1) := by decide +kernel
theorem dM_told_16 : decode cM_told 16 = .ok (.putfield 32, 3) := by decide +kernel
theorem dM_told_19 : decode cM_told 19 = .ok (.aload_n 0, 1) := by decide +kernel
theorem dM_told_20 : decode cM_told 20 = .ok (.getfield 32, 3) := by decide +kernel
theorem dM_told_23 : decode cM_told 23 = .ok (.ifCond .le 5, 3) := by decide +kernel
theorem dM_told_26 : decode cM_told 26 = .ok (.iconst 0, 1) := by decide +kernel
theorem dM_told_27 : decode cM_told 27 = .ok (.ireturn, 1) := by decide +kernel
theorem dM_told_28 : decode cM_told 28 = .ok (.iload_n 1, 1) := by decide +kernel
theorem dM_told_29 : decode cM_told 29 = .ok (.ifCond .ne 10, 3) := by decide +kernel
theorem dM_told_32 : decode cM_told 32 = .ok (.aload_n 0, 1) := by decide +kernel
theorem dM_told_33 : decode cM_told 33 = .ok (.getfield 46, 3) := by decide +kernel
theorem dM_told_36 : decode cM_told 36 = .ok (.goto 51, 3) := by decide +kernel
theorem dM_told_39 : decode cM_told 39 = .ok (.iload_n 1, 1) := by decide +kernel
theorem dM_told_40 : decode cM_told 40 = .ok (.iconst 1, 1) := by decide +kernel
theorem dM_told_41 : decode cM_told 41 = .ok (.if_icmp .ne 10, 3) := by decide +kernel
theorem dM_told_44 : decode cM_told 44 = .ok (.aload_n 0, 1) := by decide +kernel
theorem dM_told_45 : decode cM_told 45 = .ok (.getfield 49, 3) := by decide +kernel
theorem dM_told_48 : decode cM_told 48 = .ok (.goto 39, 3) := by decide +kernel
theorem dM_told_51 : decode cM_told 51 = .ok (.iload_n 1, 1) := by decide +kernel
theorem dM_told_52 : decode cM_told 52 = .ok (.iconst 2, 1) := by decide +kernel
theorem dM_told_53 : decode cM_told 53 = .ok (.if_icmp .ne 10, 3) := by decide +kernel
theorem dM_told_56 : decode cM_told 56 = .ok (.aload_n 0, 1) := by decide +kernel
theorem dM_told_57 : decode cM_told 57 = .ok (.getfield 52, 3) := by decide +kernel
theorem dM_told_60 : decode cM_told 60 = .ok (.goto 27, 3) := by decide +kernel
theorem dM_told_63 : decode cM_told 63 = .ok (.iload_n 1, 1) := by decide +kernel
theorem dM_told_64 : decode cM_told 64 = .ok (.iconst 3, 1) := by decide +kernel
theorem dM_told_65 : decode cM_told 65 = .ok (.if_icmp .ne 10, 3) := by decide +kernel
theorem dM_told_68 : decode cM_told 68 = .ok (.aload_n 0, 1) := by decide +kernel
theorem dM_told_69 : decode cM_told 69 = .ok (.getfield 55, 3) := by decide +kernel
theorem dM_told_72 : decode cM_told 72 = .ok (.goto 15, 3) := by decide +kernel
theorem dM_told_75 : decode cM_told 75 = .ok (.aload_n 0, 1) := by decide +kernel
theorem dM_told_76 : decode cM_told 76 = .ok (.getfield 62, 3) := by decide +kernel
theorem dM_told_79 : decode cM_told 79 = .ok (.ifCond .eq 7, 3) := by decide +kernel
theorem dM_told_82 : decode cM_told 82 = .ok (.iconst 1, 1) := by decide +kernel
theorem dM_told_83 : decode cM_told 83 = .ok (.goto 4, 3) := by decide +kernel
theorem dM_told_86 : decode cM_told 86 = .ok (.iconst 0, 1) := by decide +kernel
theorem dM_told_87 : decode cM_told 87 = .ok (.ireturn, 1) := by decide +kernel
theorem dM_cell_0 : decode cM_cell 0 = .ok (.aload_n 0, 1) := by decide +kernel
theorem dM_cell_1 : decode cM_cell 1 = .ok (.iload_n 1, 1) := by decide +kernel
theorem dM_cell_2 : decode cM_cell 2 = .ok (.i2l, 1) := by decide +kernel
theorem dM_cell_3 : decode cM_cell 3 = .ok (.iconst 0, 1) := by decide +kernel
theorem dM_cell_4 : decode cM_cell 4 = .ok (.iconst 3, 1) := by decide +kernel
theorem dM_cell_5 : decode cM_cell 5 = .ok (.invokestatic 36, 3) := by decide +kernel
theorem dM_cell_8 : decode cM_cell 8 = .ok (.ifCond .eq 7, 3) := by decide +kernel
theorem dM_cell_11 : decode cM_cell 11 = .ok (.iconst 0, 1) := by decide +kernel
theorem dM_cell_12 : decode cM_cell 12 = .ok (.goto 4, 3) := by decide +kernel
theorem dM_cell_15 : decode cM_cell 15 = .ok (.iconst 1, 1) := by decide +kernel
theorem dM_cell_16 : decode cM_cell 16 = .ok (.putfield 32, 3) := by decide +kernel
theorem dM_cell_19 : decode cM_cell 19 = .ok (.aload_n 0, 1) := by decide +kernel
theorem dM_cell_20 : decode cM_cell 20 = .ok (.getfield 32, 3) := by decide +kernel
theorem dM_cell_23 : decode cM_cell 23 = .ok (.ifCond .le 7, 3) := by decide +kernel
theorem dM_cell_26 : decode cM_cell 26 = .ok (.lconst 0, 1) := by decide +kernel
theorem dM_cell_27 : decode cM_cell 27 = .ok (.goto 9, 3) := by decide +kernel
theorem dM_cell_30 : decode cM_cell 30 = .ok (.aload_n 0, 1) := by decide +kernel
theorem dM_cell_31 : decode cM_cell 31 = .ok (.getfield 23, 3) := by decide +kernel
theorem dM_cell_34 : decode cM_cell 34 = .ok (.iload_n 1, 1) := by decide +kernel
theorem dM_cell_35 : decode cM_cell 35 = .ok (.laload, 1) := by decide +kernel
theorem dM_cell_36 : decode cM_cell 36 = .ok (.lreturn, 1) := by decide +kernel
end
section
theorem dL_code_0 : decode cL_code 0 = .ok (.aload 4, 2) := by decide +kernel
theorem dL_code_2 : decode cL_code 2 = .ok (.iconst 0, 1) := by decide +kernel
theorem dL_code_3 : decode cL_code 3 = .ok (.aload_n 0, 1) := by decide +kernel
theorem dL_code_4 : decode cL_code 4 = .ok (.iload_n 1, 1) := by decide +kernel
theorem dL_code_5 : decode cL_code 5 = .ok (.lload_n 2, 1) := by decide +kernel
theorem dL_code_6 : decode cL_code 6 = .ok (.invokevirtual 7, 3) := by decide +kernel
theorem dL_code_9 : decode cL_code 9 = .ok (.i2l, 1) := by decide +kernel
theorem dL_code_10 : decode cL_code 10 = .ok (.lastore, 1) := by decide +kernel
theorem dL_code_11 : decode cL_code 11 = .ok (.goto 11, 3) := by decide +kernel
theorem dL_code_14 : decode cL_code 14 = .ok (.astore 5, 2) := by decide +kernel
theorem dL_code_16 : decode cL_code 16 = .ok (.iconst 1, 1) := by decide +kernel
theorem dL_code_17 : decode cL_code 17 = .ok (.ireturn, 1) := by decide +kernel
theorem dL_code_18 : decode cL_code 18 = .ok (.astore 5, 2) := by decide +kernel
theorem dL_code_20 : decode cL_code 20 = .ok (.iconst 2, 1) := by decide +kernel
theorem dL_code_21 : decode cL_code 21 = .ok (.ireturn, 1) := by decide +kernel
theorem dL_code_22 : decode cL_code 22 = .ok (.iconst 0, 1) := by decide +kernel
theorem dL_code_23 : decode cL_code 23 = .ok (.ireturn, 1) := by decide +kernel
theorem dL_value_0 : decode cL_value 0 = .ok (.aload_n 3, 1) := by decide +kernel
theorem dL_value_1 : decode cL_value 1 = .ok (.iconst 0, 1) := by decide +kernel
theorem dL_value_2 : decode cL_value 2 = .ok (.aload_n 0, 1) := by decide +kernel
theorem dL_value_3 : decode cL_value 3 = .ok (.lload_n 1, 1) := by decide +kernel
theorem dL_value_4 : decode cL_value 4 = .ok (.invokevirtual 17, 3) := by decide +kernel
theorem dL_value_7 : decode cL_value 7 = .ok (.i2l, 1) := by decide +kernel
theorem dL_value_8 : decode cL_value 8 = .ok (.lastore, 1) := by decide +kernel
theorem dL_value_9 : decode cL_value 9 = .ok (.goto 7, 3) := by decide +kernel
theorem dL_value_12 : decode cL_value 12 = .ok (.astore 4, 2) := by decide +kernel
theorem dL_value_14 : decode cL_value 14 = .ok (.iconst 1, 1) := by decide +kernel
theorem dL_value_15 : decode cL_value 15 = .ok (.ireturn, 1) := by decide +kernel
theorem dL_value_16 : decode cL_value 16 = .ok (.iconst 0, 1) := by decide +kernel
theorem dL_value_17 : decode cL_value 17 = .ok (.ireturn, 1) := by decide +kernel
theorem dL_call_0 : decode cL_call 0 = .ok (.aload 4, 2) := by decide +kernel
theorem dL_call_2 : decode cL_call 2 = .ok (.iconst 0, 1) := by decide +kernel
theorem dL_call_3 : decode cL_call 3 = .ok (.aload_n 0, 1) := by decide +kernel
theorem dL_call_4 : decode cL_call 4 = .ok (.iload_n 1, 1) := by decide +kernel
theorem dL_call_5 : decode cL_call 5 = .ok (.lload_n 2, 1) := by decide +kernel
theorem dL_call_6 : decode cL_call 6 = .ok (.invokevirtual 21, 3) := by decide +kernel
theorem dL_call_9 : decode cL_call 9 = .ok (.i2l, 1) := by decide +kernel
theorem dL_call_10 : decode cL_call 10 = .ok (.lastore, 1) := by decide +kernel
theorem dL_call_11 : decode cL_call 11 = .ok (.goto 11, 3) := by decide +kernel
theorem dL_call_14 : decode cL_call 14 = .ok (.astore 5, 2) := by decide +kernel
theorem dL_call_16 : decode cL_call 16 = .ok (.iconst 1, 1) := by decide +kernel
theorem dL_call_17 : decode cL_call 17 = .ok (.ireturn, 1) := by decide +kernel
theorem dL_call_18 : decode cL_call 18 = .ok (.astore 5, 2) := by decide +kernel
theorem dL_call_20 : decode cL_call 20 = .ok (.iconst 2, 1) := by decide +kernel
theorem dL_call_21 : decode cL_call 21 = .ok (.ireturn, 1) := by decide +kernel
theorem dL_call_22 : decode cL_call 22 = .ok (.iconst 0, 1) := by decide +kernel
theorem dL_call_23 : decode cL_call 23 = .ok (.ireturn, 1) := by decide +kernel
theorem dL_emitted_0 : decode cL_emitted 0 = .ok (.aload_n 3, 1) := by decide +kernel
theorem dL_emitted_1 : decode cL_emitted 1 = .ok (.iconst 0, 1) := by decide +kernel
theorem dL_emitted_2 : decode cL_emitted 2 = .ok (.aload_n 0, 1) := by decide +kernel
theorem dL_emitted_3 : decode cL_emitted 3 = .ok (.iload_n 1, 1) := by decide +kernel
theorem dL_emitted_4 : decode cL_emitted 4 = .ok (.iload_n 2, 1) := by decide +kernel
theorem dL_emitted_5 : decode cL_emitted 5 = .ok (.invokevirtual 26, 3) := by decide +kernel
theorem dL_emitted_8 : decode cL_emitted 8 = .ok (.lastore, 1) := by decide +kernel
theorem dL_emitted_9 : decode cL_emitted 9 = .ok (.goto 7, 3) := by decide +kernel
theorem dL_emitted_12 : decode cL_emitted 12 = .ok (.astore 4, 2) := by decide +kernel
theorem dL_emitted_14 : decode cL_emitted 14 = .ok (.iconst 1, 1) := by decide +kernel
theorem dL_emitted_15 : decode cL_emitted 15 = .ok (.ireturn, 1) := by decide +kernel
theorem dL_emitted_16 : decode cL_emitted 16 = .ok (.iconst 0, 1) := by decide +kernel
theorem dL_emitted_17 : decode cL_emitted 17 = .ok (.ireturn, 1) := by decide +kernel
theorem dL_told_0 : decode cL_told 0 = .ok (.aload_n 2, 1) := by decide +kernel
theorem dL_told_1 : decode cL_told 1 = .ok (.iconst 0, 1) := by decide +kernel
theorem dL_told_2 : decode cL_told 2 = .ok (.aload_n 0, 1) := by decide +kernel
theorem dL_told_3 : decode cL_told 3 = .ok (.iload_n 1, 1) := by decide +kernel
theorem dL_told_4 : decode cL_told 4 = .ok (.invokevirtual 32, 3) := by decide +kernel
theorem dL_told_7 : decode cL_told 7 = .ok (.i2l, 1) := by decide +kernel
theorem dL_told_8 : decode cL_told 8 = .ok (.lastore, 1) := by decide +kernel
theorem dL_told_9 : decode cL_told 9 = .ok (.goto 6, 3) := by decide +kernel
theorem dL_told_12 : decode cL_told 12 = .ok (.astore_n 3, 1) := by decide +kernel
theorem dL_told_13 : decode cL_told 13 = .ok (.iconst 1, 1) := by decide +kernel
theorem dL_told_14 : decode cL_told 14 = .ok (.ireturn, 1) := by decide +kernel
theorem dL_told_15 : decode cL_told 15 = .ok (.iconst 0, 1) := by decide +kernel
theorem dL_told_16 : decode cL_told 16 = .ok (.ireturn, 1) := by decide +kernel
theorem dL_cell_0 : decode cL_cell 0 = .ok (.aload_n 2, 1) := by decide +kernel
theorem dL_cell_1 : decode cL_cell 1 = .ok (.iconst 0, 1) := by decide +kernel
theorem dL_cell_2 : decode cL_cell 2 = .ok (.aload_n 0, 1) := by decide +kernel
theorem dL_cell_3 : decode cL_cell 3 = .ok (.iload_n 1, 1) := by decide +kernel
theorem dL_cell_4 : decode cL_cell 4 = .ok (.invokevirtual 36, 3) := by decide +kernel
theorem dL_cell_7 : decode cL_cell 7 = .ok (.lastore, 1) := by decide +kernel
theorem dL_cell_8 : decode cL_cell 8 = .ok (.goto 6, 3) := by decide +kernel
theorem dL_cell_11 : decode cL_cell 11 = .ok (.astore_n 3, 1) := by decide +kernel
theorem dL_cell_12 : decode cL_cell 12 = .ok (.iconst 1, 1) := by decide +kernel
theorem dL_cell_13 : decode cL_cell 13 = .ok (.ireturn, 1) := by decide +kernel
theorem dL_cell_14 : decode cL_cell 14 = .ok (.iconst 0, 1) := by decide +kernel
theorem dL_cell_15 : decode cL_cell 15 = .ok (.ireturn, 1) := by decide +kernel
theorem dL_law_0 : decode cL_law 0 = .ok (.new 8, 3) := by decide +kernel
theorem dL_law_3 : decode cL_law 3 = .ok (.dup, 1) := by decide +kernel
theorem dL_law_4 : decode cL_law 4 = .ok (.invokespecial 40, 3) := by decide +kernel
theorem dL_law_7 : decode cL_law 7 = .ok (.astore_n 1, 1) := by decide +kernel
theorem dL_law_8 : decode cL_law 8 = .ok (.new 41, 3) := by decide +kernel
theorem dL_law_11 : decode cL_law 11 = .ok (.dup, 1) := by decide +kernel
theorem dL_law_12 : decode cL_law 12 = .ok (.invokespecial 43, 3) := by decide +kernel
theorem dL_law_15 : decode cL_law 15 = .ok (.astore_n 2, 1) := by decide +kernel
theorem dL_law_16 : decode cL_law 16 = .ok (.iconst 1, 1) := by decide +kernel
theorem dL_law_17 : decode cL_law 17 = .ok (.newarray .long, 2) := by decide +kernel
theorem dL_law_19 : decode cL_law 19 = .ok (.astore_n 3, 1) := by decide +kernel
theorem dL_law_20 : decode cL_law 20 = .ok (.iconst 0, 1) := by decide +kernel
theorem dL_law_21 : decode cL_law 21 = .ok (.istore 4, 2) := by decide +kernel
theorem dL_law_23 : decode cL_law 23 = .ok (.iload 4, 2) := by decide +kernel
theorem dL_law_25 : decode cL_law 25 = .ok (.aload_n 0, 1) := by decide +kernel
theorem dL_law_26 : decode cL_law 26 = .ok (.arraylength, 1) := by decide +kernel
theorem dL_law_27 : decode cL_law 27 = .ok (.iconst 4, 1) := by decide +kernel
theorem dL_law_28 : decode cL_law 28 = .ok (.isub, 1) := by decide +kernel
theorem dL_law_29 : decode cL_law 29 = .ok (.if_icmp .gt 569, 3) := by decide +kernel
theorem dL_law_32 : decode cL_law 32 = .ok (.aload_n 0, 1) := by decide +kernel
theorem dL_law_33 : decode cL_law 33 = .ok (.iload 4, 2) := by decide +kernel
theorem dL_law_35 : decode cL_law 35 = .ok (.iaload, 1) := by decide +kernel
theorem dL_law_36 : decode cL_law 36 = .ok (.bipush 7, 2) := by decide +kernel
theorem dL_law_38 : decode cL_law 38 = .ok (.iand, 1) := by decide +kernel
theorem dL_law_39 : decode cL_law 39 = .ok (.tableswitch 553 0 7 #[45, 145, 158, 246, 259, 359, 442, 498], 45) := by decide +kernel
theorem dL_law_84 : decode cL_law 84 = .ok (.aload_n 1, 1) := by decide +kernel
theorem dL_law_85 : decode cL_law 85 = .ok (.aload_n 0, 1) := by decide +kernel
theorem dL_law_86 : decode cL_law 86 = .ok (.iload 4, 2) := by decide +kernel
theorem dL_law_88 : decode cL_law 88 = .ok (.iconst 1, 1) := by decide +kernel
theorem dL_law_89 : decode cL_law 89 = .ok (.iadd, 1) := by decide +kernel
theorem dL_law_90 : decode cL_law 90 = .ok (.iaload, 1) := by decide +kernel
theorem dL_law_91 : decode cL_law 91 = .ok (.aload_n 0, 1) := by decide +kernel
theorem dL_law_92 : decode cL_law 92 = .ok (.iload 4, 2) := by decide +kernel
theorem dL_law_94 : decode cL_law 94 = .ok (.iconst 2, 1) := by decide +kernel
theorem dL_law_95 : decode cL_law 95 = .ok (.iadd, 1) := by decide +kernel
theorem dL_law_96 : decode cL_law 96 = .ok (.iaload, 1) := by decide +kernel
theorem dL_law_97 : decode cL_law 97 = .ok (.i2l, 1) := by decide +kernel
theorem dL_law_98 : decode cL_law 98 = .ok (.bipush 32, 2) := by decide +kernel
theorem dL_law_100 : decode cL_law 100 = .ok (.lshl, 1) := by decide +kernel
theorem dL_law_101 : decode cL_law 101 = .ok (.aload_n 0, 1) := by decide +kernel
theorem dL_law_102 : decode cL_law 102 = .ok (.iload 4, 2) := by decide +kernel
theorem dL_law_104 : decode cL_law 104 = .ok (.iconst 3, 1) := by decide +kernel
theorem dL_law_105 : decode cL_law 105 = .ok (.iadd, 1) := by decide +kernel
theorem dL_law_106 : decode cL_law 106 = .ok (.iaload, 1) := by decide +kernel
theorem dL_law_107 : decode cL_law 107 = .ok (.i2l, 1) := by decide +kernel
theorem dL_law_108 : decode cL_law 108 = .ok (.ldc2_w 44, 3) := by decide +kernel
theorem dL_law_111 : decode cL_law 111 = .ok (.land, 1) := by decide +kernel
theorem dL_law_112 : decode cL_law 112 = .ok (.lor, 1) := by decide +kernel
theorem dL_law_113 : decode cL_law 113 = .ok (.aload_n 3, 1) := by decide +kernel
theorem dL_law_114 : decode cL_law 114 = .ok (.invokestatic 46, 3) := by decide +kernel
theorem dL_law_117 : decode cL_law 117 = .ok (.istore 5, 2) := by decide +kernel
theorem dL_law_119 : decode cL_law 119 = .ok (.aload_n 2, 1) := by decide +kernel
theorem dL_law_120 : decode cL_law 120 = .ok (.aload_n 0, 1) := by decide +kernel
theorem dL_law_121 : decode cL_law 121 = .ok (.iload 4, 2) := by decide +kernel
theorem dL_law_123 : decode cL_law 123 = .ok (.iconst 1, 1) := by decide +kernel
theorem dL_law_124 : decode cL_law 124 = .ok (.iadd, 1) := by decide +kernel
theorem dL_law_125 : decode cL_law 125 = .ok (.iaload, 1) := by decide +kernel
theorem dL_law_126 : decode cL_law 126 = .ok (.aload_n 0, 1) := by decide +kernel
theorem dL_law_127 : decode cL_law 127 = .ok (.iload 4, 2) := by decide +kernel
theorem dL_law_129 : decode cL_law 129 = .ok (.iconst 2, 1) := by decide +kernel
theorem dL_law_130 : decode cL_law 130 = .ok (.iadd, 1) := by decide +kernel
theorem dL_law_131 : decode cL_law 131 = .ok (.iaload, 1) := by decide +kernel
theorem dL_law_132 : decode cL_law 132 = .ok (.i2l, 1) := by decide +kernel
theorem dL_law_133 : decode cL_law 133 = .ok (.bipush 32, 2) := by decide +kernel
theorem dL_law_135 : decode cL_law 135 = .ok (.lshl, 1) := by decide +kernel
theorem dL_law_136 : decode cL_law 136 = .ok (.aload_n 0, 1) := by decide +kernel
theorem dL_law_137 : decode cL_law 137 = .ok (.iload 4, 2) := by decide +kernel
theorem dL_law_139 : decode cL_law 139 = .ok (.iconst 3, 1) := by decide +kernel
theorem dL_law_140 : decode cL_law 140 = .ok (.iadd, 1) := by decide +kernel
theorem dL_law_141 : decode cL_law 141 = .ok (.iaload, 1) := by decide +kernel
theorem dL_law_142 : decode cL_law 142 = .ok (.i2l, 1) := by decide +kernel
theorem dL_law_143 : decode cL_law 143 = .ok (.ldc2_w 44, 3) := by decide +kernel
theorem dL_law_146 : decode cL_law 146 = .ok (.land, 1) := by decide +kernel
theorem dL_law_147 : decode cL_law 147 = .ok (.lor, 1) := by decide +kernel
theorem dL_law_148 : decode cL_law 148 = .ok (.invokevirtual 51, 3) := by decide +kernel
theorem dL_law_151 : decode cL_law 151 = .ok (.istore 6, 2) := by decide +kernel
theorem dL_law_153 : decode cL_law 153 = .ok (.aload_n 2, 1) := by decide +kernel
theorem dL_law_154 : decode cL_law 154 = .ok (.invokevirtual 52, 3) := by decide +kernel
theorem dL_law_157 : decode cL_law 157 = .ok (.iload 5, 2) := by decide +kernel
theorem dL_law_159 : decode cL_law 159 = .ok (.if_icmp .eq 5, 3) := by decide +kernel
theorem dL_law_162 : decode cL_law 162 = .ok (.iconst 0, 1) := by decide +kernel
theorem dL_law_163 : decode cL_law 163 = .ok (.ireturn, 1) := by decide +kernel
theorem dL_law_164 : decode cL_law 164 = .ok (.iload 5, 2) := by decide +kernel
theorem dL_law_166 : decode cL_law 166 = .ok (.ifCond .ne 15, 3) := by decide +kernel
theorem dL_law_169 : decode cL_law 169 = .ok (.aload_n 3, 1) := by decide +kernel
theorem dL_law_170 : decode cL_law 170 = .ok (.iconst 0, 1) := by decide +kernel
theorem dL_law_171 : decode cL_law 171 = .ok (.laload, 1) := by decide +kernel
theorem dL_law_172 : decode cL_law 172 = .ok (.iload 6, 2) := by decide +kernel
theorem dL_law_174 : decode cL_law 174 = .ok (.i2l, 1) := by decide +kernel
theorem dL_law_175 : decode cL_law 175 = .ok (.lcmp, 1) := by decide +kernel
theorem dL_law_176 : decode cL_law 176 = .ok (.ifCond .eq 5, 3) := by decide +kernel
theorem dL_law_179 : decode cL_law 179 = .ok (.iconst 0, 1) := by decide +kernel
theorem dL_law_180 : decode cL_law 180 = .ok (.ireturn, 1) := by decide +kernel
theorem dL_law_181 : decode cL_law 181 = .ok (.goto 411, 3) := by decide +kernel
theorem dL_law_184 : decode cL_law 184 = .ok (.aload_n 1, 1) := by decide +kernel
theorem dL_law_185 : decode cL_law 185 = .ok (.invokevirtual 56, 3) := by decide +kernel
theorem dL_law_188 : decode cL_law 188 = .ok (.aload_n 2, 1) := by decide +kernel
theorem dL_law_189 : decode cL_law 189 = .ok (.invokevirtual 59, 3) := by decide +kernel
theorem dL_law_192 : decode cL_law 192 = .ok (.if_icmp .eq 400, 3) := by decide +kernel
theorem dL_law_195 : decode cL_law 195 = .ok (.iconst 0, 1) := by decide +kernel
theorem dL_law_196 : decode cL_law 196 = .ok (.ireturn, 1) := by decide +kernel
theorem dL_law_197 : decode cL_law 197 = .ok (.aload_n 1, 1) := by decide +kernel
theorem dL_law_198 : decode cL_law 198 = .ok (.aload_n 0, 1) := by decide +kernel
theorem dL_law_199 : decode cL_law 199 = .ok (.iload 4, 2) := by decide +kernel
theorem dL_law_201 : decode cL_law 201 = .ok (.iconst 1, 1) := by decide +kernel
theorem dL_law_202 : decode cL_law 202 = .ok (.iadd, 1) := by decide +kernel
theorem dL_law_203 : decode cL_law 203 = .ok (.iaload, 1) := by decide +kernel
theorem dL_law_204 : decode cL_law 204 = .ok (.i2l, 1) := by decide +kernel
theorem dL_law_205 : decode cL_law 205 = .ok (.bipush 32, 2) := by decide +kernel
theorem dL_law_207 : decode cL_law 207 = .ok (.lshl, 1) := by decide +kernel
theorem dL_law_208 : decode cL_law 208 = .ok (.aload_n 0, 1) := by decide +kernel
theorem dL_law_209 : decode cL_law 209 = .ok (.iload 4, 2) := by decide +kernel
theorem dL_law_211 : decode cL_law 211 = .ok (.iconst 2, 1) := by decide +kernel
theorem dL_law_212 : decode cL_law 212 = .ok (.iadd, 1) := by decide +kernel
theorem dL_law_213 : decode cL_law 213 = .ok (.iaload, 1) := by decide +kernel
theorem dL_law_214 : decode cL_law 214 = .ok (.i2l, 1) := by decide +kernel
theorem dL_law_215 : decode cL_law 215 = .ok (.ldc2_w 44, 3) := by decide +kernel
theorem dL_law_218 : decode cL_law 218 = .ok (.land, 1) := by decide +kernel
theorem dL_law_219 : decode cL_law 219 = .ok (.lor, 1) := by decide +kernel
theorem dL_law_220 : decode cL_law 220 = .ok (.aload_n 3, 1) := by decide +kernel
theorem dL_law_221 : decode cL_law 221 = .ok (.invokestatic 60, 3) := by decide +kernel
theorem dL_law_224 : decode cL_law 224 = .ok (.istore 5, 2) := by decide +kernel
theorem dL_law_226 : decode cL_law 226 = .ok (.aload_n 2, 1) := by decide +kernel
theorem dL_law_227 : decode cL_law 227 = .ok (.aload_n 0, 1) := by decide +kernel
theorem dL_law_228 : decode cL_law 228 = .ok (.iload 4, 2) := by decide +kernel
theorem dL_law_230 : decode cL_law 230 = .ok (.iconst 1, 1) := by decide +kernel
theorem dL_law_231 : decode cL_law 231 = .ok (.iadd, 1) := by decide +kernel
theorem dL_law_232 : decode cL_law 232 = .ok (.iaload, 1) := by decide +kernel
theorem dL_law_233 : decode cL_law 233 = .ok (.i2l, 1) := by decide +kernel
theorem dL_law_234 : decode cL_law 234 = .ok (.bipush 32, 2) := by decide +kernel
theorem dL_law_236 : decode cL_law 236 = .ok (.lshl, 1) := by decide +kernel
theorem dL_law_237 : decode cL_law 237 = .ok (.aload_n 0, 1) := by decide +kernel
theorem dL_law_238 : decode cL_law 238 = .ok (.iload 4, 2) := by decide +kernel
theorem dL_law_240 : decode cL_law 240 = .ok (.iconst 2, 1) := by decide +kernel
theorem dL_law_241 : decode cL_law 241 = .ok (.iadd, 1) := by decide +kernel
theorem dL_law_242 : decode cL_law 242 = .ok (.iaload, 1) := by decide +kernel
theorem dL_law_243 : decode cL_law 243 = .ok (.i2l, 1) := by decide +kernel
theorem dL_law_244 : decode cL_law 244 = .ok (.ldc2_w 44, 3) := by decide +kernel
theorem dL_law_247 : decode cL_law 247 = .ok (.land, 1) := by decide +kernel
theorem dL_law_248 : decode cL_law 248 = .ok (.lor, 1) := by decide +kernel
theorem dL_law_249 : decode cL_law 249 = .ok (.invokevirtual 63, 3) := by decide +kernel
theorem dL_law_252 : decode cL_law 252 = .ok (.istore 6, 2) := by decide +kernel
theorem dL_law_254 : decode cL_law 254 = .ok (.aload_n 2, 1) := by decide +kernel
theorem dL_law_255 : decode cL_law 255 = .ok (.invokevirtual 52, 3) := by decide +kernel
theorem dL_law_258 : decode cL_law 258 = .ok (.iload 5, 2) := by decide +kernel
theorem dL_law_260 : decode cL_law 260 = .ok (.if_icmp .eq 5, 3) := by decide +kernel
theorem dL_law_263 : decode cL_law 263 = .ok (.iconst 0, 1) := by decide +kernel
theorem dL_law_264 : decode cL_law 264 = .ok (.ireturn, 1) := by decide +kernel
theorem dL_law_265 : decode cL_law 265 = .ok (.iload 5, 2) := by decide +kernel
theorem dL_law_267 : decode cL_law 267 = .ok (.ifCond .ne 15, 3) := by decide +kernel
theorem dL_law_270 : decode cL_law 270 = .ok (.aload_n 3, 1) := by decide +kernel
theorem dL_law_271 : decode cL_law 271 = .ok (.iconst 0, 1) := by decide +kernel
theorem dL_law_272 : decode cL_law 272 = .ok (.laload, 1) := by decide +kernel
theorem dL_law_273 : decode cL_law 273 = .ok (.iload 6, 2) := by decide +kernel
theorem dL_law_275 : decode cL_law 275 = .ok (.i2l, 1) := by decide +kernel
theorem dL_law_276 : decode cL_law 276 = .ok (.lcmp, 1) := by decide +kernel
theorem dL_law_277 : decode cL_law 277 = .ok (.ifCond .eq 5, 3) := by decide +kernel
theorem dL_law_280 : decode cL_law 280 = .ok (.iconst 0, 1) := by decide +kernel
theorem dL_law_281 : decode cL_law 281 = .ok (.ireturn, 1) := by decide +kernel
theorem dL_law_282 : decode cL_law 282 = .ok (.goto 310, 3) := by decide +kernel
theorem dL_law_285 : decode cL_law 285 = .ok (.aload_n 1, 1) := by decide +kernel
theorem dL_law_286 : decode cL_law 286 = .ok (.invokevirtual 64, 3) := by decide +kernel
theorem dL_law_289 : decode cL_law 289 = .ok (.aload_n 2, 1) := by decide +kernel
theorem dL_law_290 : decode cL_law 290 = .ok (.invokevirtual 67, 3) := by decide +kernel
theorem dL_law_293 : decode cL_law 293 = .ok (.if_icmp .eq 299, 3) := by decide +kernel
theorem dL_law_296 : decode cL_law 296 = .ok (.iconst 0, 1) := by decide +kernel
theorem dL_law_297 : decode cL_law 297 = .ok (.ireturn, 1) := by decide +kernel
theorem dL_law_298 : decode cL_law 298 = .ok (.aload_n 1, 1) := by decide +kernel
theorem dL_law_299 : decode cL_law 299 = .ok (.aload_n 0, 1) := by decide +kernel
theorem dL_law_300 : decode cL_law 300 = .ok (.iload 4, 2) := by decide +kernel
theorem dL_law_302 : decode cL_law 302 = .ok (.iconst 1, 1) := by decide +kernel
theorem dL_law_303 : decode cL_law 303 = .ok (.iadd, 1) := by decide +kernel
theorem dL_law_304 : decode cL_law 304 = .ok (.iaload, 1) := by decide +kernel
theorem dL_law_305 : decode cL_law 305 = .ok (.aload_n 0, 1) := by decide +kernel
theorem dL_law_306 : decode cL_law 306 = .ok (.iload 4, 2) := by decide +kernel
theorem dL_law_308 : decode cL_law 308 = .ok (.iconst 2, 1) := by decide +kernel
theorem dL_law_309 : decode cL_law 309 = .ok (.iadd, 1) := by decide +kernel
theorem dL_law_310 : decode cL_law 310 = .ok (.iaload, 1) := by decide +kernel
theorem dL_law_311 : decode cL_law 311 = .ok (.i2l, 1) := by decide +kernel
theorem dL_law_312 : decode cL_law 312 = .ok (.bipush 32, 2) := by decide +kernel
theorem dL_law_314 : decode cL_law 314 = .ok (.lshl, 1) := by decide +kernel
theorem dL_law_315 : decode cL_law 315 = .ok (.aload_n 0, 1) := by decide +kernel
theorem dL_law_316 : decode cL_law 316 = .ok (.iload 4, 2) := by decide +kernel
theorem dL_law_318 : decode cL_law 318 = .ok (.iconst 3, 1) := by decide +kernel
theorem dL_law_319 : decode cL_law 319 = .ok (.iadd, 1) := by decide +kernel
theorem dL_law_320 : decode cL_law 320 = .ok (.iaload, 1) := by decide +kernel
theorem dL_law_321 : decode cL_law 321 = .ok (.i2l, 1) := by decide +kernel
theorem dL_law_322 : decode cL_law 322 = .ok (.ldc2_w 44, 3) := by decide +kernel
theorem dL_law_325 : decode cL_law 325 = .ok (.land, 1) := by decide +kernel
theorem dL_law_326 : decode cL_law 326 = .ok (.lor, 1) := by decide +kernel
theorem dL_law_327 : decode cL_law 327 = .ok (.aload_n 3, 1) := by decide +kernel
theorem dL_law_328 : decode cL_law 328 = .ok (.invokestatic 68, 3) := by decide +kernel
theorem dL_law_331 : decode cL_law 331 = .ok (.istore 5, 2) := by decide +kernel
theorem dL_law_333 : decode cL_law 333 = .ok (.aload_n 2, 1) := by decide +kernel
theorem dL_law_334 : decode cL_law 334 = .ok (.aload_n 0, 1) := by decide +kernel
theorem dL_law_335 : decode cL_law 335 = .ok (.iload 4, 2) := by decide +kernel
theorem dL_law_337 : decode cL_law 337 = .ok (.iconst 1, 1) := by decide +kernel
theorem dL_law_338 : decode cL_law 338 = .ok (.iadd, 1) := by decide +kernel
theorem dL_law_339 : decode cL_law 339 = .ok (.iaload, 1) := by decide +kernel
theorem dL_law_340 : decode cL_law 340 = .ok (.aload_n 0, 1) := by decide +kernel
theorem dL_law_341 : decode cL_law 341 = .ok (.iload 4, 2) := by decide +kernel
theorem dL_law_343 : decode cL_law 343 = .ok (.iconst 2, 1) := by decide +kernel
theorem dL_law_344 : decode cL_law 344 = .ok (.iadd, 1) := by decide +kernel
theorem dL_law_345 : decode cL_law 345 = .ok (.iaload, 1) := by decide +kernel
theorem dL_law_346 : decode cL_law 346 = .ok (.i2l, 1) := by decide +kernel
theorem dL_law_347 : decode cL_law 347 = .ok (.bipush 32, 2) := by decide +kernel
theorem dL_law_349 : decode cL_law 349 = .ok (.lshl, 1) := by decide +kernel
theorem dL_law_350 : decode cL_law 350 = .ok (.aload_n 0, 1) := by decide +kernel
theorem dL_law_351 : decode cL_law 351 = .ok (.iload 4, 2) := by decide +kernel
theorem dL_law_353 : decode cL_law 353 = .ok (.iconst 3, 1) := by decide +kernel
theorem dL_law_354 : decode cL_law 354 = .ok (.iadd, 1) := by decide +kernel
theorem dL_law_355 : decode cL_law 355 = .ok (.iaload, 1) := by decide +kernel
theorem dL_law_356 : decode cL_law 356 = .ok (.i2l, 1) := by decide +kernel
theorem dL_law_357 : decode cL_law 357 = .ok (.ldc2_w 44, 3) := by decide +kernel
theorem dL_law_360 : decode cL_law 360 = .ok (.land, 1) := by decide +kernel
theorem dL_law_361 : decode cL_law 361 = .ok (.lor, 1) := by decide +kernel
theorem dL_law_362 : decode cL_law 362 = .ok (.invokevirtual 70, 3) := by decide +kernel
theorem dL_law_365 : decode cL_law 365 = .ok (.istore 6, 2) := by decide +kernel
theorem dL_law_367 : decode cL_law 367 = .ok (.aload_n 2, 1) := by decide +kernel
theorem dL_law_368 : decode cL_law 368 = .ok (.invokevirtual 52, 3) := by decide +kernel
theorem dL_law_371 : decode cL_law 371 = .ok (.iload 5, 2) := by decide +kernel
theorem dL_law_373 : decode cL_law 373 = .ok (.if_icmp .eq 5, 3) := by decide +kernel
theorem dL_law_376 : decode cL_law 376 = .ok (.iconst 0, 1) := by decide +kernel
theorem dL_law_377 : decode cL_law 377 = .ok (.ireturn, 1) := by decide +kernel
theorem dL_law_378 : decode cL_law 378 = .ok (.iload 5, 2) := by decide +kernel
theorem dL_law_380 : decode cL_law 380 = .ok (.ifCond .ne 15, 3) := by decide +kernel
theorem dL_law_383 : decode cL_law 383 = .ok (.aload_n 3, 1) := by decide +kernel
theorem dL_law_384 : decode cL_law 384 = .ok (.iconst 0, 1) := by decide +kernel
theorem dL_law_385 : decode cL_law 385 = .ok (.laload, 1) := by decide +kernel
theorem dL_law_386 : decode cL_law 386 = .ok (.iload 6, 2) := by decide +kernel
theorem dL_law_388 : decode cL_law 388 = .ok (.i2l, 1) := by decide +kernel
theorem dL_law_389 : decode cL_law 389 = .ok (.lcmp, 1) := by decide +kernel
theorem dL_law_390 : decode cL_law 390 = .ok (.ifCond .eq 5, 3) := by decide +kernel
theorem dL_law_393 : decode cL_law 393 = .ok (.iconst 0, 1) := by decide +kernel
theorem dL_law_394 : decode cL_law 394 = .ok (.ireturn, 1) := by decide +kernel
theorem dL_law_395 : decode cL_law 395 = .ok (.goto 197, 3) := by decide +kernel
theorem dL_law_398 : decode cL_law 398 = .ok (.aload_n 1, 1) := by decide +kernel
theorem dL_law_399 : decode cL_law 399 = .ok (.aload_n 0, 1) := by decide +kernel
theorem dL_law_400 : decode cL_law 400 = .ok (.iload 4, 2) := by decide +kernel
theorem dL_law_402 : decode cL_law 402 = .ok (.iconst 1, 1) := by decide +kernel
theorem dL_law_403 : decode cL_law 403 = .ok (.iadd, 1) := by decide +kernel
theorem dL_law_404 : decode cL_law 404 = .ok (.iaload, 1) := by decide +kernel
theorem dL_law_405 : decode cL_law 405 = .ok (.aload_n 0, 1) := by decide +kernel
theorem dL_law_406 : decode cL_law 406 = .ok (.iload 4, 2) := by decide +kernel
theorem dL_law_408 : decode cL_law 408 = .ok (.iconst 2, 1) := by decide +kernel
theorem dL_law_409 : decode cL_law 409 = .ok (.iadd, 1) := by decide +kernel
theorem dL_law_410 : decode cL_law 410 = .ok (.iaload, 1) := by decide +kernel
theorem dL_law_411 : decode cL_law 411 = .ok (.ifCond .eq 7, 3) := by decide +kernel
theorem dL_law_414 : decode cL_law 414 = .ok (.iconst 1, 1) := by decide +kernel
theorem dL_law_415 : decode cL_law 415 = .ok (.goto 4, 3) := by decide +kernel
theorem dL_law_418 : decode cL_law 418 = .ok (.iconst 0, 1) := by decide +kernel
theorem dL_law_419 : decode cL_law 419 = .ok (.aload_n 3, 1) := by decide +kernel
theorem dL_law_420 : decode cL_law 420 = .ok (.invokestatic 71, 3) := by decide +kernel
theorem dL_law_423 : decode cL_law 423 = .ok (.istore 5, 2) := by decide +kernel
theorem dL_law_425 : decode cL_law 425 = .ok (.aload_n 2, 1) := by decide +kernel
theorem dL_law_426 : decode cL_law 426 = .ok (.aload_n 0, 1) := by decide +kernel
theorem dL_law_427 : decode cL_law 427 = .ok (.iload 4, 2) := by decide +kernel
theorem dL_law_429 : decode cL_law 429 = .ok (.iconst 1, 1) := by decide +kernel
theorem dL_law_430 : decode cL_law 430 = .ok (.iadd, 1) := by decide +kernel
theorem dL_law_431 : decode cL_law 431 = .ok (.iaload, 1) := by decide +kernel
theorem dL_law_432 : decode cL_law 432 = .ok (.aload_n 0, 1) := by decide +kernel
theorem dL_law_433 : decode cL_law 433 = .ok (.iload 4, 2) := by decide +kernel
theorem dL_law_435 : decode cL_law 435 = .ok (.iconst 2, 1) := by decide +kernel
theorem dL_law_436 : decode cL_law 436 = .ok (.iadd, 1) := by decide +kernel
theorem dL_law_437 : decode cL_law 437 = .ok (.iaload, 1) := by decide +kernel
theorem dL_law_438 : decode cL_law 438 = .ok (.ifCond .eq 7, 3) := by decide +kernel
theorem dL_law_441 : decode cL_law 441 = .ok (.iconst 1, 1) := by decide +kernel
theorem dL_law_442 : decode cL_law 442 = .ok (.goto 4, 3) := by decide +kernel
theorem dL_law_445 : decode cL_law 445 = .ok (.iconst 0, 1) := by decide +kernel
theorem dL_law_446 : decode cL_law 446 = .ok (.invokevirtual 74, 3) := by decide +kernel
theorem dL_law_449 : decode cL_law 449 = .ok (.lstore 6, 2) := by decide +kernel
theorem dL_law_451 : decode cL_law 451 = .ok (.aload_n 2, 1) := by decide +kernel
theorem dL_law_452 : decode cL_law 452 = .ok (.invokevirtual 52, 3) := by decide +kernel
theorem dL_law_455 : decode cL_law 455 = .ok (.iload 5, 2) := by decide +kernel
theorem dL_law_457 : decode cL_law 457 = .ok (.if_icmp .eq 5, 3) := by decide +kernel
theorem dL_law_460 : decode cL_law 460 = .ok (.iconst 0, 1) := by decide +kernel
theorem dL_law_461 : decode cL_law 461 = .ok (.ireturn, 1) := by decide +kernel
theorem dL_law_462 : decode cL_law 462 = .ok (.iload 5, 2) := by decide +kernel
theorem dL_law_464 : decode cL_law 464 = .ok (.ifCond .ne 14, 3) := by decide +kernel
theorem dL_law_467 : decode cL_law 467 = .ok (.aload_n 3, 1) := by decide +kernel
theorem dL_law_468 : decode cL_law 468 = .ok (.iconst 0, 1) := by decide +kernel
theorem dL_law_469 : decode cL_law 469 = .ok (.laload, 1) := by decide +kernel
theorem dL_law_470 : decode cL_law 470 = .ok (.lload 6, 2) := by decide +kernel
theorem dL_law_472 : decode cL_law 472 = .ok (.lcmp, 1) := by decide +kernel
theorem dL_law_473 : decode cL_law 473 = .ok (.ifCond .eq 5, 3) := by decide +kernel
theorem dL_law_476 : decode cL_law 476 = .ok (.iconst 0, 1) := by decide +kernel
theorem dL_law_477 : decode cL_law 477 = .ok (.ireturn, 1) := by decide +kernel
theorem dL_law_478 : decode cL_law 478 = .ok (.goto 114, 3) := by decide +kernel
theorem dL_law_481 : decode cL_law 481 = .ok (.aload_n 1, 1) := by decide +kernel
theorem dL_law_482 : decode cL_law 482 = .ok (.aload_n 0, 1) := by decide +kernel
theorem dL_law_483 : decode cL_law 483 = .ok (.iload 4, 2) := by decide +kernel
theorem dL_law_485 : decode cL_law 485 = .ok (.iconst 1, 1) := by decide +kernel
theorem dL_law_486 : decode cL_law 486 = .ok (.iadd, 1) := by decide +kernel
theorem dL_law_487 : decode cL_law 487 = .ok (.iaload, 1) := by decide +kernel
theorem dL_law_488 : decode cL_law 488 = .ok (.aload_n 3, 1) := by decide +kernel
theorem dL_law_489 : decode cL_law 489 = .ok (.invokestatic 75, 3) := by decide +kernel
theorem dL_law_492 : decode cL_law 492 = .ok (.istore 5, 2) := by decide +kernel
theorem dL_law_494 : decode cL_law 494 = .ok (.aload_n 2, 1) := by decide +kernel
theorem dL_law_495 : decode cL_law 495 = .ok (.aload_n 0, 1) := by decide +kernel
theorem dL_law_496 : decode cL_law 496 = .ok (.iload 4, 2) := by decide +kernel
theorem dL_law_498 : decode cL_law 498 = .ok (.iconst 1, 1) := by decide +kernel
theorem dL_law_499 : decode cL_law 499 = .ok (.iadd, 1) := by decide +kernel
theorem dL_law_500 : decode cL_law 500 = .ok (.iaload, 1) := by decide +kernel
theorem dL_law_501 : decode cL_law 501 = .ok (.invokevirtual 78, 3) := by decide +kernel
theorem dL_law_504 : decode cL_law 504 = .ok (.istore 6, 2) := by decide +kernel
theorem dL_law_506 : decode cL_law 506 = .ok (.aload_n 2, 1) := by decide +kernel
theorem dL_law_507 : decode cL_law 507 = .ok (.invokevirtual 52, 3) := by decide +kernel
theorem dL_law_510 : decode cL_law 510 = .ok (.iload 5, 2) := by decide +kernel
theorem dL_law_512 : decode cL_law 512 = .ok (.if_icmp .eq 5, 3) := by decide +kernel
theorem dL_law_515 : decode cL_law 515 = .ok (.iconst 0, 1) := by decide +kernel
theorem dL_law_516 : decode cL_law 516 = .ok (.ireturn, 1) := by decide +kernel
theorem dL_law_517 : decode cL_law 517 = .ok (.iload 5, 2) := by decide +kernel
theorem dL_law_519 : decode cL_law 519 = .ok (.ifCond .ne 15, 3) := by decide +kernel
theorem dL_law_522 : decode cL_law 522 = .ok (.aload_n 3, 1) := by decide +kernel
theorem dL_law_523 : decode cL_law 523 = .ok (.iconst 0, 1) := by decide +kernel
theorem dL_law_524 : decode cL_law 524 = .ok (.laload, 1) := by decide +kernel
theorem dL_law_525 : decode cL_law 525 = .ok (.iload 6, 2) := by decide +kernel
theorem dL_law_527 : decode cL_law 527 = .ok (.i2l, 1) := by decide +kernel
theorem dL_law_528 : decode cL_law 528 = .ok (.lcmp, 1) := by decide +kernel
theorem dL_law_529 : decode cL_law 529 = .ok (.ifCond .eq 5, 3) := by decide +kernel
theorem dL_law_532 : decode cL_law 532 = .ok (.iconst 0, 1) := by decide +kernel
theorem dL_law_533 : decode cL_law 533 = .ok (.ireturn, 1) := by decide +kernel
theorem dL_law_534 : decode cL_law 534 = .ok (.goto 58, 3) := by decide +kernel
theorem dL_law_537 : decode cL_law 537 = .ok (.aload_n 1, 1) := by decide +kernel
theorem dL_law_538 : decode cL_law 538 = .ok (.aload_n 0, 1) := by decide +kernel
theorem dL_law_539 : decode cL_law 539 = .ok (.iload 4, 2) := by decide +kernel
theorem dL_law_541 : decode cL_law 541 = .ok (.iconst 1, 1) := by decide +kernel
theorem dL_law_542 : decode cL_law 542 = .ok (.iadd, 1) := by decide +kernel
theorem dL_law_543 : decode cL_law 543 = .ok (.iaload, 1) := by decide +kernel
theorem dL_law_544 : decode cL_law 544 = .ok (.aload_n 3, 1) := by decide +kernel
theorem dL_law_545 : decode cL_law 545 = .ok (.invokestatic 79, 3) := by decide +kernel
theorem dL_law_548 : decode cL_law 548 = .ok (.istore 5, 2) := by decide +kernel
theorem dL_law_550 : decode cL_law 550 = .ok (.aload_n 2, 1) := by decide +kernel
theorem dL_law_551 : decode cL_law 551 = .ok (.aload_n 0, 1) := by decide +kernel
theorem dL_law_552 : decode cL_law 552 = .ok (.iload 4, 2) := by decide +kernel
theorem dL_law_554 : decode cL_law 554 = .ok (.iconst 1, 1) := by decide +kernel
theorem dL_law_555 : decode cL_law 555 = .ok (.iadd, 1) := by decide +kernel
theorem dL_law_556 : decode cL_law 556 = .ok (.iaload, 1) := by decide +kernel
theorem dL_law_557 : decode cL_law 557 = .ok (.invokevirtual 81, 3) := by decide +kernel
theorem dL_law_560 : decode cL_law 560 = .ok (.lstore 6, 2) := by decide +kernel
theorem dL_law_562 : decode cL_law 562 = .ok (.aload_n 2, 1) := by decide +kernel
theorem dL_law_563 : decode cL_law 563 = .ok (.invokevirtual 52, 3) := by decide +kernel
theorem dL_law_566 : decode cL_law 566 = .ok (.iload 5, 2) := by decide +kernel
theorem dL_law_568 : decode cL_law 568 = .ok (.if_icmp .eq 5, 3) := by decide +kernel
theorem dL_law_571 : decode cL_law 571 = .ok (.iconst 0, 1) := by decide +kernel
theorem dL_law_572 : decode cL_law 572 = .ok (.ireturn, 1) := by decide +kernel
theorem dL_law_573 : decode cL_law 573 = .ok (.iload 5, 2) := by decide +kernel
theorem dL_law_575 : decode cL_law 575 = .ok (.ifCond .ne 14, 3) := by decide +kernel
theorem dL_law_578 : decode cL_law 578 = .ok (.aload_n 3, 1) := by decide +kernel
theorem dL_law_579 : decode cL_law 579 = .ok (.iconst 0, 1) := by decide +kernel
theorem dL_law_580 : decode cL_law 580 = .ok (.laload, 1) := by decide +kernel
theorem dL_law_581 : decode cL_law 581 = .ok (.lload 6, 2) := by decide +kernel
theorem dL_law_583 : decode cL_law 583 = .ok (.lcmp, 1) := by decide +kernel
theorem dL_law_584 : decode cL_law 584 = .ok (.ifCond .eq 5, 3) := by decide +kernel
theorem dL_law_587 : decode cL_law 587 = .ok (.iconst 0, 1) := by decide +kernel
theorem dL_law_588 : decode cL_law 588 = .ok (.ireturn, 1) := by decide +kernel
theorem dL_law_589 : decode cL_law 589 = .ok (.goto 3, 3) := by decide +kernel
theorem dL_law_592 : decode cL_law 592 = .ok (.iinc 4 4, 3) := by decide +kernel
theorem dL_law_595 : decode cL_law 595 = .ok (.goto (-572), 3) := by decide +kernel
theorem dL_law_598 : decode cL_law 598 = .ok (.iconst 1, 1) := by decide +kernel
theorem dL_law_599 : decode cL_law 599 = .ok (.ireturn, 1) := by decide +kernel
end
section
/-! rows of my own that hold for every class here: values on the stack, comparisons of numbers, worlds side by side, entries, calls and returns -/
section ZA
variable {p : Program} {l : Launch} {e : Env} {R : Room} {s : State} {m : MethodId} {args : Array Value} {below : List Frame} {meth : Method} {c : Code} {H : Heap} {locs : List Loc} {cells slots : Nat} {Q : State → Prop}
variable {cc : ByteArray} {pc : Nat} {ls : Array Slot} {rest : List Value}
theorem zti {x y : Int32} (h : x = y) (k : W p l e R s m args below meth c H locs cells slots Q (F0 m pc ls (.int y :: rest))) : W p l e R s m args below meth c H locs cells slots Q (F0 m pc ls (.int x :: rest)) := by rw [h]; exact k
theorem ztl {x y : Int64} (h : x = y) (k : W p l e R s m args below meth c H locs cells slots Q (F0 m pc ls (.long y :: rest))) : W p l e R s m args below meth c H locs cells slots Q (F0 m pc ls (.long x :: rest)) := by rw [h]; exact k
theorem zc_eq (hx : p.tables.exec = Jvm.exec) (hb : c.code = cc) {x y : Nat} {off : Int} {tgt : Nat} (hdg : decode cc pc = .ok (.if_icmp .eq off, 3)) (ht : (pc : Int) + off = (tgt : Int)) (bx : x < 2 ^ 31) (by' : y < 2 ^ 31)
    (kt : x = y → W p l e R s m args below meth c H locs cells slots Q (F0 m tgt ls rest)) (kf : x ≠ y → W p l e R s m args below meth c H locs cells slots Q (F0 m (pc + 3) ls rest)) : W p l e R s m args below meth c H locs cells slots Q (F0 m pc ls (.int (nI y) :: .int (nI x) :: rest)) :=
  lv_icmp_eq hx hb hdg ht (fun h => kt ((nI_eq bx by').mp h)) (fun h => kf (fun q => h ((nI_eq bx by').mpr q)))
theorem zc_ne (hx : p.tables.exec = Jvm.exec) (hb : c.code = cc) {x y : Nat} {off : Int} {tgt : Nat} (hdg : decode cc pc = .ok (.if_icmp .ne off, 3)) (ht : (pc : Int) + off = (tgt : Int)) (bx : x < 2 ^ 31) (by' : y < 2 ^ 31)
    (kt : x ≠ y → W p l e R s m args below meth c H locs cells slots Q (F0 m tgt ls rest)) (kf : x = y → W p l e R s m args below meth c H locs cells slots Q (F0 m (pc + 3) ls rest)) : W p l e R s m args below meth c H locs cells slots Q (F0 m pc ls (.int (nI y) :: .int (nI x) :: rest)) :=
  lv_icmp_ne hx hb hdg ht (fun h => kt (fun q => h ((nI_eq bx by').mpr q))) (fun h => kf ((nI_eq bx by').mp h))
theorem zc_lt (hx : p.tables.exec = Jvm.exec) (hb : c.code = cc) {x y : Nat} {off : Int} {tgt : Nat} (hdg : decode cc pc = .ok (.if_icmp .lt off, 3)) (ht : (pc : Int) + off = (tgt : Int)) (bx : x < 2 ^ 31) (by' : y < 2 ^ 31)
    (kt : x < y → W p l e R s m args below meth c H locs cells slots Q (F0 m tgt ls rest)) (kf : y ≤ x → W p l e R s m args below meth c H locs cells slots Q (F0 m (pc + 3) ls rest)) : W p l e R s m args below meth c H locs cells slots Q (F0 m pc ls (.int (nI y) :: .int (nI x) :: rest)) :=
  lv_icmp_lt hx hb hdg ht (fun h => kt ((nI_ltI bx by').mp h)) (fun h => kf (Nat.le_of_not_lt (fun q => h ((nI_ltI bx by').mpr q))))
theorem zc_ge (hx : p.tables.exec = Jvm.exec) (hb : c.code = cc) {x y : Nat} {off : Int} {tgt : Nat} (hdg : decode cc pc = .ok (.if_icmp .ge off, 3)) (ht : (pc : Int) + off = (tgt : Int)) (bx : x < 2 ^ 31) (by' : y < 2 ^ 31)
    (kt : y ≤ x → W p l e R s m args below meth c H locs cells slots Q (F0 m tgt ls rest)) (kf : x < y → W p l e R s m args below meth c H locs cells slots Q (F0 m (pc + 3) ls rest)) : W p l e R s m args below meth c H locs cells slots Q (F0 m pc ls (.int (nI y) :: .int (nI x) :: rest)) :=
  lv_icmp_ge hx hb hdg ht (fun h => kt ((nI_leI by' bx).mp h)) (fun h => kf (Nat.lt_of_not_le (fun q => h ((nI_leI by' bx).mpr q))))
theorem zc_gt (hx : p.tables.exec = Jvm.exec) (hb : c.code = cc) {x y : Nat} {off : Int} {tgt : Nat} (hdg : decode cc pc = .ok (.if_icmp .gt off, 3)) (ht : (pc : Int) + off = (tgt : Int)) (bx : x < 2 ^ 31) (by' : y < 2 ^ 31)
    (kt : y < x → W p l e R s m args below meth c H locs cells slots Q (F0 m tgt ls rest)) (kf : x ≤ y → W p l e R s m args below meth c H locs cells slots Q (F0 m (pc + 3) ls rest)) : W p l e R s m args below meth c H locs cells slots Q (F0 m pc ls (.int (nI y) :: .int (nI x) :: rest)) :=
  lv_icmp_gt hx hb hdg ht (fun h => kt ((nI_ltI by' bx).mp h)) (fun h => kf (Nat.le_of_not_lt (fun q => h ((nI_ltI by' bx).mpr q))))
theorem zc_le (hx : p.tables.exec = Jvm.exec) (hb : c.code = cc) {x y : Nat} {off : Int} {tgt : Nat} (hdg : decode cc pc = .ok (.if_icmp .le off, 3)) (ht : (pc : Int) + off = (tgt : Int)) (bx : x < 2 ^ 31) (by' : y < 2 ^ 31)
    (kt : x ≤ y → W p l e R s m args below meth c H locs cells slots Q (F0 m tgt ls rest)) (kf : y < x → W p l e R s m args below meth c H locs cells slots Q (F0 m (pc + 3) ls rest)) : W p l e R s m args below meth c H locs cells slots Q (F0 m pc ls (.int (nI y) :: .int (nI x) :: rest)) :=
  lv_icmp_le hx hb hdg ht (fun h => kt ((nI_leI bx by').mp h)) (fun h => kf (Nat.lt_of_not_le (fun q => h ((nI_leI bx by').mpr q))))
theorem zi_eq (hx : p.tables.exec = Jvm.exec) (hb : c.code = cc) {x : Nat} {off : Int} {tgt : Nat} (hdg : decode cc pc = .ok (.ifCond .eq off, 3)) (ht : (pc : Int) + off = (tgt : Int)) (bx : x < 2 ^ 31)
    (kt : x = 0 → W p l e R s m args below meth c H locs cells slots Q (F0 m tgt ls rest)) (kf : x ≠ 0 → W p l e R s m args below meth c H locs cells slots Q (F0 m (pc + 3) ls rest)) : W p l e R s m args below meth c H locs cells slots Q (F0 m pc ls (.int (nI x) :: rest)) :=
  lv_if_eq hx hb hdg ht (fun h => kt ((nI_eq bx (by decide)).mp (h.trans nI_0.symm))) (fun h => kf (fun q => h (by rw [q]; rfl)))
theorem zi_ne (hx : p.tables.exec = Jvm.exec) (hb : c.code = cc) {x : Nat} {off : Int} {tgt : Nat} (hdg : decode cc pc = .ok (.ifCond .ne off, 3)) (ht : (pc : Int) + off = (tgt : Int)) (bx : x < 2 ^ 31)
    (kt : x ≠ 0 → W p l e R s m args below meth c H locs cells slots Q (F0 m tgt ls rest)) (kf : x = 0 → W p l e R s m args below meth c H locs cells slots Q (F0 m (pc + 3) ls rest)) : W p l e R s m args below meth c H locs cells slots Q (F0 m pc ls (.int (nI x) :: rest)) :=
  lv_if_ne hx hb hdg ht (fun h => kt (fun q => h (by rw [q]; rfl))) (fun h => kf ((nI_eq bx (by decide)).mp (h.trans nI_0.symm)))
theorem zi_le (hx : p.tables.exec = Jvm.exec) (hb : c.code = cc) {x : Nat} {off : Int} {tgt : Nat} (hdg : decode cc pc = .ok (.ifCond .le off, 3)) (ht : (pc : Int) + off = (tgt : Int)) (bx : x < 2 ^ 31)
    (kt : x = 0 → W p l e R s m args below meth c H locs cells slots Q (F0 m tgt ls rest)) (kf : 0 < x → W p l e R s m args below meth c H locs cells slots Q (F0 m (pc + 3) ls rest)) : W p l e R s m args below meth c H locs cells slots Q (F0 m pc ls (.int (nI x) :: rest)) :=
  lv_if_le hx hb hdg ht (fun h => kt (Nat.le_zero.mp ((nI_leI bx (by decide)).mp (show nI x ≤ nI 0 from h)))) (fun h => kf (Nat.pos_of_ne_zero (fun q => h (by rw [q]; decide))))
theorem zi_gt (hx : p.tables.exec = Jvm.exec) (hb : c.code = cc) {x : Nat} {off : Int} {tgt : Nat} (hdg : decode cc pc = .ok (.ifCond .gt off, 3)) (ht : (pc : Int) + off = (tgt : Int)) (bx : x < 2 ^ 31)
    (kt : 0 < x → W p l e R s m args below meth c H locs cells slots Q (F0 m tgt ls rest)) (kf : x = 0 → W p l e R s m args below meth c H locs cells slots Q (F0 m (pc + 3) ls rest)) : W p l e R s m args below meth c H locs cells slots Q (F0 m pc ls (.int (nI x) :: rest)) :=
  lv_if_gt hx hb hdg ht (fun h => kt ((nI_ltI (by decide) bx).mp (show nI 0 < nI x from h))) (fun h => kf (Nat.eq_zero_of_not_pos (fun q => h (show nI 0 < nI x from (nI_ltI (by decide) bx).mpr q))))
theorem zl_eq (hx : p.tables.exec = Jvm.exec) (hb : c.code = cc) {x y : Int64} {off : Int} {tgt : Nat} (hdg : decode cc pc = .ok (.ifCond .eq off, 3)) (ht : (pc : Int) + off = (tgt : Int))
    (kt : x = y → W p l e R s m args below meth c H locs cells slots Q (F0 m tgt ls rest)) (kf : ¬ x = y → W p l e R s m args below meth c H locs cells slots Q (F0 m (pc + 3) ls rest)) : W p l e R s m args below meth c H locs cells slots Q (F0 m pc ls (.int (lg_cmp x y) :: rest)) :=
  lv_if_eq hx hb hdg ht (fun h => kt ((lg_cmp_eq x y).mp h)) (fun h => kf (fun q => h ((lg_cmp_eq x y).mpr q)))
theorem zl_ne (hx : p.tables.exec = Jvm.exec) (hb : c.code = cc) {x y : Int64} {off : Int} {tgt : Nat} (hdg : decode cc pc = .ok (.ifCond .ne off, 3)) (ht : (pc : Int) + off = (tgt : Int))
    (kt : ¬ x = y → W p l e R s m args below meth c H locs cells slots Q (F0 m tgt ls rest)) (kf : x = y → W p l e R s m args below meth c H locs cells slots Q (F0 m (pc + 3) ls rest)) : W p l e R s m args below meth c H locs cells slots Q (F0 m pc ls (.int (lg_cmp x y) :: rest)) :=
  lv_if_ne hx hb hdg ht (fun h => kt (fun q => h ((lg_cmp_eq x y).mpr q))) (fun h => kf ((lg_cmp_eq x y).mp h))
theorem zl_lt (hx : p.tables.exec = Jvm.exec) (hb : c.code = cc) {x y : Int64} {off : Int} {tgt : Nat} (hdg : decode cc pc = .ok (.ifCond .lt off, 3)) (ht : (pc : Int) + off = (tgt : Int))
    (kt : x < y → W p l e R s m args below meth c H locs cells slots Q (F0 m tgt ls rest)) (kf : ¬ x < y → W p l e R s m args below meth c H locs cells slots Q (F0 m (pc + 3) ls rest)) : W p l e R s m args below meth c H locs cells slots Q (F0 m pc ls (.int (lg_cmp x y) :: rest)) :=
  lv_if_lt hx hb hdg ht (fun h => kt ((lg_cmp_lt x y).mp h)) (fun h => kf (fun q => h ((lg_cmp_lt x y).mpr q)))
theorem zl_ge (hx : p.tables.exec = Jvm.exec) (hb : c.code = cc) {x y : Int64} {off : Int} {tgt : Nat} (hdg : decode cc pc = .ok (.ifCond .ge off, 3)) (ht : (pc : Int) + off = (tgt : Int))
    (kt : y ≤ x → W p l e R s m args below meth c H locs cells slots Q (F0 m tgt ls rest)) (kf : ¬ y ≤ x → W p l e R s m args below meth c H locs cells slots Q (F0 m (pc + 3) ls rest)) : W p l e R s m args below meth c H locs cells slots Q (F0 m pc ls (.int (lg_cmp x y) :: rest)) :=
  lv_if_ge hx hb hdg ht (fun h => kt ((lg_cmp_ge x y).mp h)) (fun h => kf (fun q => h ((lg_cmp_ge x y).mpr q)))
theorem zl_gt (hx : p.tables.exec = Jvm.exec) (hb : c.code = cc) {x y : Int64} {off : Int} {tgt : Nat} (hdg : decode cc pc = .ok (.ifCond .gt off, 3)) (ht : (pc : Int) + off = (tgt : Int))
    (kt : y < x → W p l e R s m args below meth c H locs cells slots Q (F0 m tgt ls rest)) (kf : ¬ y < x → W p l e R s m args below meth c H locs cells slots Q (F0 m (pc + 3) ls rest)) : W p l e R s m args below meth c H locs cells slots Q (F0 m pc ls (.int (lg_cmp x y) :: rest)) :=
  lv_if_gt hx hb hdg ht (fun h => kt ((lg_cmp_gt x y).mp h)) (fun h => kf (fun q => h ((lg_cmp_gt x y).mpr q)))
theorem zl_le (hx : p.tables.exec = Jvm.exec) (hb : c.code = cc) {x y : Int64} {off : Int} {tgt : Nat} (hdg : decode cc pc = .ok (.ifCond .le off, 3)) (ht : (pc : Int) + off = (tgt : Int))
    (kt : x ≤ y → W p l e R s m args below meth c H locs cells slots Q (F0 m tgt ls rest)) (kf : ¬ x ≤ y → W p l e R s m args below meth c H locs cells slots Q (F0 m (pc + 3) ls rest)) : W p l e R s m args below meth c H locs cells slots Q (F0 m pc ls (.int (lg_cmp x y) :: rest)) :=
  lv_if_le hx hb hdg ht (fun h => kt ((lg_cmp_le x y).mp h)) (fun h => kf (fun q => h ((lg_cmp_le x y).mpr q)))
end ZA
theorem zsub {a : Nat} (b : Nat) (h : b ≤ a) : nI a - nI b = nI (a - b) := pk_sub h
theorem dcE : ∀ k, k < 17 → (TE k).1 = RE := by decide +kernel
theorem dcM : ∀ k, k < 15 → (TM k).1 = RM := by decide +kernel
section ZF
variable {p : Program} {l : Launch} {e : Env} {R : Room} {s : State} {m : MethodId} {args : Array Value} {below : List Frame} {meth : Method} {c : Code} {H : Heap} {locs : List Loc} {cells slots : Nat} {Q : State → Prop}
variable {cc : ByteArray} {pc : Nat} {ls : Array Slot} {rest : List Value} {D : va_G} {A : Nat → Prop} {a : Nat} {tys : List (ClassId × FieldType)} {ws : va_W} {H0 : Heap}
theorem zGetE (hx : p.tables.exec = Jvm.exec) (hb : c.code = cc) (hw : ∀ w ∈ WS, w.before args s = true) (hown : s.vm.findClass RE = some m.cls) (hK : va_K D vwCl tys s) (hP : va_P D vwCl ws H) (q0 : Nat) {fs : List Value} (he : ws[q0]? = some (a, .inr (0, fs))) (k : Nat) (hk : k < 17) {index : Nat} (hl : Cond.fieldLink RE index RE (TE k).2.1 (TE k).2.2.1 ∈ WS) {v : Value} (hv : fs[k]? = some v) (hdg : decode cc pc = .ok (.getfield index, 3))
    (kk : W p l e R s m args below meth c H locs cells slots Q (F0 m (pc + 3) ls (v :: rest))) : W p l e R s m args below meth c H locs cells slots Q (F0 m pc ls (.ref a :: rest)) :=
  va_get (C := RE) (T := TE) (N := 17) (own := RE) (ref := RE) hx hb hw inE hown hK hP q0 he rfl k hk (hw _ hl) (fun _ h => (dcE k hk) ▸ h) hv hdg kk
theorem zPutE (hx : p.tables.exec = Jvm.exec) (hb : c.code = cc) (hw : ∀ w ∈ WS, w.before args s = true) (hown : s.vm.findClass RE = some m.cls) (hK : va_K D vwCl tys s) (hP : va_P D vwCl ws H) (hD : va_D A ws) (hS : va_S A H0 H locs) (q0 : Nat) {fs : List Value} (he : ws[q0]? = some (a, .inr (0, fs))) (k : Nat) (hk : k < 17) {index : Nat} (hl : Cond.fieldLink RE index RE (TE k).2.1 (TE k).2.2.1 ∈ WS) (hfin : (TE k).2.2.2 = false) {v : Value} (hn : narrow (tyE k) v = v) (hfit : fits (tyE k) v = true) (hlen : k < fs.length) (hdg : decode cc pc = .ok (.putfield index, 3))
    (kk : ∀ (H1 : Heap) (locs1 : List Loc), va_P D vwCl (ws.set q0 (a, .inr (0, fs.set k v))) H1 → va_D A (ws.set q0 (a, .inr (0, fs.set k v))) → va_S A H0 H1 locs1 → W p l e R s m args below meth c H1 locs1 cells slots Q (F0 m (pc + 3) ls rest)) : W p l e R s m args below meth c H locs cells slots Q (F0 m pc ls (v :: .ref a :: rest)) :=
  va_put (C := RE) (T := TE) (N := 17) (own := RE) (ref := RE) hx hb hw inE tyE tyE_ok nmE hown hK hP hD hS q0 he rfl k hk (hw _ hl) (fun _ h => (dcE k hk) ▸ h) hfin (tyE_ok k hk) hn hfit hlen hdg kk
theorem zPutFE (hx : p.tables.exec = Jvm.exec) (hb : c.code = cc) (hw : ∀ w ∈ WS, w.before args s = true) (hown : s.vm.findClass RE = some m.cls) (hin : meth.name = "<init>") (hK : va_K D vwCl tys s) (hP : va_P D vwCl ws H) (hD : va_D A ws) (hS : va_S A H0 H locs) (q0 : Nat) {fs : List Value} (he : ws[q0]? = some (a, .inr (0, fs))) (k : Nat) (hk : k < 17) {index : Nat} (hl : Cond.fieldLink RE index RE (TE k).2.1 (TE k).2.2.1 ∈ WS) (hfin : (TE k).2.2.2 = true) (hdc : (TE k).1 = RE) {v : Value} (hn : narrow (tyE k) v = v) (hfit : fits (tyE k) v = true) (hlen : k < fs.length) (hdg : decode cc pc = .ok (.putfield index, 3))
    (kk : ∀ (H1 : Heap) (locs1 : List Loc), va_P D vwCl (ws.set q0 (a, .inr (0, fs.set k v))) H1 → va_D A (ws.set q0 (a, .inr (0, fs.set k v))) → va_S A H0 H1 locs1 → W p l e R s m args below meth c H1 locs1 cells slots Q (F0 m (pc + 3) ls rest)) : W p l e R s m args below meth c H locs cells slots Q (F0 m pc ls (v :: .ref a :: rest)) :=
  va_putF (C := RE) (T := TE) (N := 17) (own := RE) (ref := RE) hx hb hw inE tyE tyE_ok nmE hown hK hP hD hS q0 he rfl k hk (hw _ hl) (fun _ h => (dcE k hk) ▸ h) hfin hin hdc (tyE_ok k hk) hn hfit hlen hdg kk
theorem zGetM (hx : p.tables.exec = Jvm.exec) (hb : c.code = cc) (hw : ∀ w ∈ WS, w.before args s = true) (hown : s.vm.findClass RM = some m.cls) (hK : va_K D vwCl tys s) (hP : va_P D vwCl ws H) (q0 : Nat) {fs : List Value} (he : ws[q0]? = some (a, .inr (1, fs))) (k : Nat) (hk : k < 15) {index : Nat} (hl : Cond.fieldLink RM index RM (TM k).2.1 (TM k).2.2.1 ∈ WS) {v : Value} (hv : fs[k]? = some v) (hdg : decode cc pc = .ok (.getfield index, 3))
    (kk : W p l e R s m args below meth c H locs cells slots Q (F0 m (pc + 3) ls (v :: rest))) : W p l e R s m args below meth c H locs cells slots Q (F0 m pc ls (.ref a :: rest)) :=
  va_get (C := RM) (T := TM) (N := 15) (own := RM) (ref := RM) hx hb hw inM hown hK hP q0 he rfl k hk (hw _ hl) (fun _ h => (dcM k hk) ▸ h) hv hdg kk
theorem zPutM (hx : p.tables.exec = Jvm.exec) (hb : c.code = cc) (hw : ∀ w ∈ WS, w.before args s = true) (hown : s.vm.findClass RM = some m.cls) (hK : va_K D vwCl tys s) (hP : va_P D vwCl ws H) (hD : va_D A ws) (hS : va_S A H0 H locs) (q0 : Nat) {fs : List Value} (he : ws[q0]? = some (a, .inr (1, fs))) (k : Nat) (hk : k < 15) {index : Nat} (hl : Cond.fieldLink RM index RM (TM k).2.1 (TM k).2.2.1 ∈ WS) (hfin : (TM k).2.2.2 = false) {v : Value} (hn : narrow (tyM k) v = v) (hfit : fits (tyM k) v = true) (hlen : k < fs.length) (hdg : decode cc pc = .ok (.putfield index, 3))
    (kk : ∀ (H1 : Heap) (locs1 : List Loc), va_P D vwCl (ws.set q0 (a, .inr (1, fs.set k v))) H1 → va_D A (ws.set q0 (a, .inr (1, fs.set k v))) → va_S A H0 H1 locs1 → W p l e R s m args below meth c H1 locs1 cells slots Q (F0 m (pc + 3) ls rest)) : W p l e R s m args below meth c H locs cells slots Q (F0 m pc ls (v :: .ref a :: rest)) :=
  va_put (C := RM) (T := TM) (N := 15) (own := RM) (ref := RM) hx hb hw inM tyM tyM_ok nmM hown hK hP hD hS q0 he rfl k hk (hw _ hl) (fun _ h => (dcM k hk) ▸ h) hfin (tyM_ok k hk) hn hfit hlen hdg kk
theorem zPutFM (hx : p.tables.exec = Jvm.exec) (hb : c.code = cc) (hw : ∀ w ∈ WS, w.before args s = true) (hown : s.vm.findClass RM = some m.cls) (hin : meth.name = "<init>") (hK : va_K D vwCl tys s) (hP : va_P D vwCl ws H) (hD : va_D A ws) (hS : va_S A H0 H locs) (q0 : Nat) {fs : List Value} (he : ws[q0]? = some (a, .inr (1, fs))) (k : Nat) (hk : k < 15) {index : Nat} (hl : Cond.fieldLink RM index RM (TM k).2.1 (TM k).2.2.1 ∈ WS) (hfin : (TM k).2.2.2 = true) (hdc : (TM k).1 = RM) {v : Value} (hn : narrow (tyM k) v = v) (hfit : fits (tyM k) v = true) (hlen : k < fs.length) (hdg : decode cc pc = .ok (.putfield index, 3))
    (kk : ∀ (H1 : Heap) (locs1 : List Loc), va_P D vwCl (ws.set q0 (a, .inr (1, fs.set k v))) H1 → va_D A (ws.set q0 (a, .inr (1, fs.set k v))) → va_S A H0 H1 locs1 → W p l e R s m args below meth c H1 locs1 cells slots Q (F0 m (pc + 3) ls rest)) : W p l e R s m args below meth c H locs cells slots Q (F0 m pc ls (v :: .ref a :: rest)) :=
  va_putF (C := RM) (T := TM) (N := 15) (own := RM) (ref := RM) hx hb hw inM tyM tyM_ok nmM hown hK hP hD hS q0 he rfl k hk (hw _ hl) (fun _ h => (dcM k hk) ▸ h) hfin hin hdc (tyM_ok k hk) hn hfit hlen hdg kk
theorem zIald (hx : p.tables.exec = Jvm.exec) (hb : c.code = cc) (hK : va_K D vwCl tys s) (hP : va_P D vwCl ws H) (q0 t0 : Nat) {cA : ClassId} {n : Nat} {f : Nat → Int32} (ha : ws[q0]? = some (a, .inl (cA, n, .inl f))) (ht : tys[t0]? = some (cA, .int)) {j : Nat} (hj : j < n) (hn : n < 2 ^ 31) (hdg : decode cc pc = .ok (.iaload, 1))
    (kk : W p l e R s m args below meth c H locs cells slots Q (F0 m (pc + 1) ls (.int (f j) :: rest))) : W p l e R s m args below meth c H locs cells slots Q (F0 m pc ls (.int (nI j) :: .ref a :: rest)) :=
  va_iald hx hb hK hP q0 t0 ha ht (vp_in_nI hj hn) hdg (by rw [nI_clamp (by omega)]; exact kk)
theorem zLald (hx : p.tables.exec = Jvm.exec) (hb : c.code = cc) (hK : va_K D vwCl tys s) (hP : va_P D vwCl ws H) (q0 t0 : Nat) {cA : ClassId} {n : Nat} {f : Nat → Int64} (ha : ws[q0]? = some (a, .inl (cA, n, .inr (.inl f)))) (ht : tys[t0]? = some (cA, .long)) {j : Nat} (hj : j < n) (hn : n < 2 ^ 31) (hdg : decode cc pc = .ok (.laload, 1))
    (kk : W p l e R s m args below meth c H locs cells slots Q (F0 m (pc + 1) ls (.long (f j) :: rest))) : W p l e R s m args below meth c H locs cells slots Q (F0 m pc ls (.int (nI j) :: .ref a :: rest)) :=
  va_lald hx hb hK hP q0 t0 ha ht (vp_in_nI hj hn) hdg (by rw [nI_clamp (by omega)]; exact kk)
theorem zIast (hx : p.tables.exec = Jvm.exec) (hb : c.code = cc) (hK : va_K D vwCl tys s) (hP : va_P D vwCl ws H) (hD : va_D A ws) (hS : va_S A H0 H locs) (q0 t0 : Nat) {cA : ClassId} {n : Nat} {f : Nat → Int32} (ha : ws[q0]? = some (a, .inl (cA, n, .inl f))) (ht : tys[t0]? = some (cA, .int)) {j : Nat} {x : Int32} (hj : j < n) (hn : n < 2 ^ 31) (hdg : decode cc pc = .ok (.iastore, 1))
    (kk : ∀ (H1 : Heap) (locs1 : List Loc), va_P D vwCl (ws.set q0 (a, .inl (cA, n, .inl (upd f j x)))) H1 → va_D A (ws.set q0 (a, .inl (cA, n, .inl (upd f j x)))) → va_S A H0 H1 locs1 → W p l e R s m args below meth c H1 locs1 cells slots Q (F0 m (pc + 1) ls rest)) : W p l e R s m args below meth c H locs cells slots Q (F0 m pc ls (.int x :: .int (nI j) :: .ref a :: rest)) :=
  va_iast hx hb hK hP hD hS q0 t0 ha ht (vp_in_nI hj hn) hdg (by rw [nI_clamp (by omega)]; exact kk)
theorem zLast (hx : p.tables.exec = Jvm.exec) (hb : c.code = cc) (hK : va_K D vwCl tys s) (hP : va_P D vwCl ws H) (hD : va_D A ws) (hS : va_S A H0 H locs) (q0 t0 : Nat) {cA : ClassId} {n : Nat} {f : Nat → Int64} (ha : ws[q0]? = some (a, .inl (cA, n, .inr (.inl f)))) (ht : tys[t0]? = some (cA, .long)) {j : Nat} {x : Int64} (hj : j < n) (hn : n < 2 ^ 31) (hdg : decode cc pc = .ok (.lastore, 1))
    (kk : ∀ (H1 : Heap) (locs1 : List Loc), va_P D vwCl (ws.set q0 (a, .inl (cA, n, .inr (.inl (vp_updL f j x))))) H1 → va_D A (ws.set q0 (a, .inl (cA, n, .inr (.inl (vp_updL f j x))))) → va_S A H0 H1 locs1 → W p l e R s m args below meth c H1 locs1 cells slots Q (F0 m (pc + 1) ls rest)) : W p l e R s m args below meth c H locs cells slots Q (F0 m pc ls (.long x :: .int (nI j) :: .ref a :: rest)) :=
  va_last hx hb hK hP hD hS q0 t0 ha ht (vp_in_nI hj hn) hdg (by rw [nI_clamp (by omega)]; exact kk)
end ZF
end
section
/-! worlds side by side; a method's entry, its returns; calls: the callee's cells w stand among the caller's (wa ++ (w ++ wb)), the rest stays -/
def zP (D : va_G) (tys : List (ClassId × FieldType)) (sz : Nat) (w : va_W) (U : State) : Prop := U.heap.size = sz ∧ va_P D vwCl w U.heap ∧ va_K D vwCl tys U ∧ va_D (fun _ => True) w
def zB (D : va_G) (tys : List (ClassId × FieldType)) (A : Nat → Prop) (w : va_W) (t : State) : Prop := va_P D vwCl w t.heap ∧ va_K D vwCl tys t ∧ va_D A w
theorem zBlind {argl : List Value} {D : va_G} {tys : List (ClassId × FieldType)} {sz : Nat} {w : va_W} : FrameBlind (va_Pc argl (zP D tys sz w)) := fun a U g mk q => by
  obtain ⟨q0, q1, qP, qK, qD⟩ := q
  exact ⟨q0, q1, qP, va_K.moved (u := U) (U := U.calling g mk a) (Vm.Alike.refl U.vm) qK, qD⟩
theorem zg_l {x y : va_W} {k : Nat} {q : Nat × va_E} (h : x[k]? = some q) : (x ++ y)[k]? = some q := by
  rw [List.getElem?_append_left (List.getElem?_eq_some_iff.mp h).1]; exact h
theorem zg_r {x y : va_W} {k : Nat} {q : Nat × va_E} (h : y[k]? = some q) : (x ++ y)[x.length + k]? = some q := by
  rw [List.getElem?_append_right (Nat.le_add_right _ _), Nat.add_sub_cancel_left]; exact h
section ZW
variable {D : va_G} {cl : List vw_C} {A : Nat → Prop} {x y w wa wb w1 : va_W} {H H1 : Heap}
theorem zP_l (hP : va_P D cl (x ++ y) H) : va_P D cl x H := fun k q h => hP k q (zg_l h)
theorem zP_r (hP : va_P D cl (x ++ y) H) : va_P D cl y H := fun _ q h => hP _ q (zg_r h)
theorem zD_l (hD : va_D A (x ++ y)) : va_D A x := ⟨fun i j p q hi hj e => hD.1 i j p q (zg_l hi) (zg_l hj) e, fun k q h => hD.2 k q (zg_l h)⟩
theorem zD_r (hD : va_D A (x ++ y)) : va_D A y := ⟨fun i j p q hi hj e => by
  have h9 := hD.1 _ _ p q (zg_r (x := x) hi) (zg_r hj) e
  omega, fun _ q h => hD.2 _ q (zg_r h)⟩
theorem zD_x (hD : va_D A (x ++ y)) {i j : Nat} {p q : Nat × va_E} (hi : x[i]? = some p) (hj : y[j]? = some q) : p.1 ≠ q.1 := fun e => by
  have h9 := hD.1 _ _ p q (zg_l hi) (zg_r hj) e
  have h8 := (List.getElem?_eq_some_iff.mp hi).1
  omega
theorem zFree {H0 : Heap} {locs : List Loc} (hD : va_D A (wa ++ (w ++ wb))) (hS : va_S A H0 H locs) (hA : ∀ q, H0.size ≤ q → A q) : ∀ q, va_A w H.size q → A q := by
  intro q h
  rcases h with ⟨k, e, h⟩ | h
  · exact (zD_l (zD_r hD)).2 k (q, e) h
  · exact hA q (Nat.le_trans hS.1 h)
theorem zFrame (hP : va_P D cl (wa ++ (w ++ wb)) H) (hD : va_D A (wa ++ (w ++ wb))) (hk : ∀ q : Nat, q < H.size → ¬ va_A w H.size q → H1[q]? = H[q]?) (hF : ∀ q, va_A w H.size q → A q) (hP1 : va_P D cl w1 H1) (hD1 : va_D (va_A w H.size) w1) : va_P D cl (wa ++ (w1 ++ wb)) H1 ∧ va_D A (wa ++ (w1 ++ wb)) := by
  have hPa := zP_l hP
  have hPb := zP_r (zP_r hP)
  have nA : ∀ (k : Nat) (q : Nat × va_E), wa[k]? = some q → ¬ va_A w H.size q.1 := by
    intro k q h hq
    rcases hq with ⟨j, e, hj⟩ | hj
    · exact zD_x hD h (zg_l hj) rfl
    · have := (hPa k q h).lt
      omega
  have nB : ∀ (k : Nat) (q : Nat × va_E), wb[k]? = some q → ¬ va_A w H.size q.1 := by
    intro k q h hq
    rcases hq with ⟨j, e, hj⟩ | hj
    · exact zD_x (zD_r hD) hj h rfl
    · have := (hPb k q h).lt
      omega
  refine ⟨(hPa.kept (fun k q h => hk q.1 (hPa k q h).lt (nA k q h))).app (hP1.app (hPb.kept (fun k q h => hk q.1 (hPb k q h).lt (nB k q h)))), va_D.app (zD_l hD) (va_D.app (hD1.weaken (fun _ q _ h => hF q.1 h)) (zD_r (zD_r hD)) (fun i j p q hi hj e => nB j q hj (by rw [← e]; exact hD1.2 i p hi))) (fun i j p q hi hj e => ?_)⟩
  by_cases hl : j < w1.length
  · rw [List.getElem?_append_left hl] at hj
    exact nA i p hi (by rw [e]; exact hD1.2 j q hj)
  · rw [List.getElem?_append_right (by omega)] at hj
    exact zD_x hD hi (zg_r (x := w) hj) e
end ZW
theorem zEnt {l : Launch} {y : MethodName} {cc : ByteArray} {maxL : Nat} {ret : Option FieldType} {rm : Room} {argl : List Value} {D : va_G} {tys : List (ClassId × FieldType)} {sz : Nat} {w : va_W} {Qc : (Nat → Prop) → Array Value → State → Outcome → State → Prop} {mc ms : Nat} (hy : plainName y.cls = true) (hlen : (lg_sl argl).length ≤ maxL)
    (body : ∀ (p : Program) (e : Env) (s : State) (m : MethodId) (below : List Frame) (meth : Method) (c : Code) (ls : Array Slot) (A : Nat → Prop), p.tables.exec = Jvm.exec → c.code = cc → meth.sig.returnType = ret → meth.locks = false → c.maxLocals = maxL → meth.name = y.name → (∀ w ∈ WS, w.before argl.toArray s = true) → s.vm.findClass y.cls = some m.cls → s.heap.size = sz → va_P D vwCl w s.heap → va_K D vwCl tys s → va_D A w → (∀ q, s.heap.size ≤ q → A q) → lv_has ls maxL (lv_args 0 argl) →
      W p l e rm s m argl.toArray below meth c s.heap [] 0 0 (MQ below (Qc A) argl.toArray s mc ms A) (F0 m 0 ls [])) :
    Met l y (.code y cc maxL ret :: WS) rm (va_Pc argl (zP D tys sz w)) (Qc (va_A w sz)) mc ms (va_A w sz) := by
  refine Met.ofW (cc := cc) (maxL := maxL) (ret := ret) hy rfl ?_
  intro p e s m args below meth c s₁ B hml hv
  obtain ⟨rfl, hsz, hP, hK, hD0⟩ := hv
  have hts := atoms_spec (ws := .code y cc maxL ret :: WS) B.pre
  have hl := lv_entry argl (n := maxL) hlen
  rw [lg_entry_eq]
  exact body p e s m below meth c _ (va_A w sz) B.exec B.bytes B.returns B.notSynchronized hml (name_of_methodNamed B.named B.method).1 (fun w h => hts w (List.mem_cons_of_mem _ h)) (findClass_of_methodNamed B.named) hsz hP hK hD0.self (fun q h => Or.inr (hsz ▸ h)) hl
section ZR
variable {p : Program} {l : Launch} {e : Env} {R : Room} {s : State} {m : MethodId} {args : Array Value} {below : List Frame} {meth : Method} {c : Code} {H : Heap} {locs : List Loc} {cells slots : Nat} {Q : State → Prop}
variable {cc : ByteArray} {pc : Nat} {ls : Array Slot} {D : va_G} {A : Nat → Prop} {tys : List (ClassId × FieldType)}
theorem zVret {S : Type} {post : S → Prop} {w' : S → va_W} (u : S) (hx : p.tables.exec = Jvm.exec) (hb : c.code = cc) (hr : meth.sig.returnType = none) (hlk : meth.locks = false) (hS : va_S A s.heap H locs) (hK : va_K D vwCl tys s) (hp : post u) (hP : va_P D vwCl (w' u) H) (hD : va_D A (w' u)) (hdg : decode cc pc = .ok (.return_, 1)) :
    W p l e R s m args below meth c H locs cells slots (MQ below (va_Qv post (fun u t => zB D tys A (w' u) t) A) args s cells slots A) (F0 m pc ls []) :=
  W.vret hx hb hr (fun t ht hW => ⟨⟨u, rfl, hp, by rw [ht]; exact hP, va_K.moved hW.alike hK, hD⟩, hS.F ht⟩) hS.2.2 hdg hlk
theorem zIret {S : Type} {post : Int32 → S → Prop} {w' : S → va_W} {v : Int32} (u : S) (hx : p.tables.exec = Jvm.exec) (hb : c.code = cc) (hr : meth.sig.returnType = some .int) (hlk : meth.locks = false) (hS : va_S A s.heap H locs) (hK : va_K D vwCl tys s) (hp : post v u) (hP : va_P D vwCl (w' u) H) (hD : va_D A (w' u)) (hdg : decode cc pc = .ok (.ireturn, 1)) :
    W p l e R s m args below meth c H locs cells slots (MQ below (va_Qi post (fun u t => zB D tys A (w' u) t) A) args s cells slots A) (F0 m pc ls [.int v]) :=
  W.iret hx hb hr (fun t ht hW => ⟨⟨v, u, rfl, hp, by rw [ht]; exact hP, va_K.moved hW.alike hK, hD⟩, hS.F ht⟩) hS.2.2 hdg hlk
theorem zZret {S : Type} {post : Int32 → S → Prop} {w' : S → va_W} {v : Int32} (u : S) (hx : p.tables.exec = Jvm.exec) (hb : c.code = cc) (hr : meth.sig.returnType = some .boolean) (hn : narrow .boolean (.int v) = .int v) (hlk : meth.locks = false) (hS : va_S A s.heap H locs) (hK : va_K D vwCl tys s) (hp : post v u) (hP : va_P D vwCl (w' u) H) (hD : va_D A (w' u)) (hdg : decode cc pc = .ok (.ireturn, 1)) :
    W p l e R s m args below meth c H locs cells slots (MQ below (va_Qi post (fun u t => zB D tys A (w' u) t) A) args s cells slots A) (F0 m pc ls [.int v]) :=
  W.zret hx hb hr hn (fun t ht hW => ⟨⟨v, u, rfl, hp, by rw [ht]; exact hP, va_K.moved hW.alike hK, hD⟩, hS.F ht⟩) hS.2.2 hdg hlk
theorem zLret {S : Type} {post : Int64 → S → Prop} {w' : S → va_W} {v : Int64} (u : S) (hx : p.tables.exec = Jvm.exec) (hb : c.code = cc) (hr : meth.sig.returnType = some .long) (hlk : meth.locks = false) (hS : va_S A s.heap H locs) (hK : va_K D vwCl tys s) (hp : post v u) (hP : va_P D vwCl (w' u) H) (hD : va_D A (w' u)) (hdg : decode cc pc = .ok (.lreturn, 1)) :
    W p l e R s m args below meth c H locs cells slots (MQ below (va_Ql post (fun u t => zB D tys A (w' u) t) A) args s cells slots A) (F0 m pc ls [.long v]) :=
  W.lret hx hb hr (fun t ht hW => ⟨⟨v, u, rfl, hp, by rw [ht]; exact hP, va_K.moved hW.alike hK, hD⟩, hS.F ht⟩) hS.2.2 hdg hlk
end ZR
section ZC
variable {p : Program} {l : Launch} {e : Env} {R : Room} {s : State} {m : MethodId} {args : Array Value} {below : List Frame} {meth : Method} {c : Code} {H : Heap} {locs : List Loc} {cells slots : Nat} {Q : State → Prop}
variable {cc : ByteArray} {pc : Nat} {ls : Array Slot} {rest st0 : List Value} {D : va_G} {A : Nat → Prop} {tys : List (ClassId × FieldType)} {H0 : Heap} {w wa wb : va_W} {a : Array Value} {mc ms : Nat}
theorem zAftv {S : Type} {post : S → Prop} {w' : S → va_W} (hr : va_Run p l e R s m args below meth c H locs cells slots mc ms (F0 m pc ls st0) rest (va_Qv post (fun u t => zB D tys (va_A w H.size) (w' u) t) (va_A w H.size) a) (va_A w H.size)) (hP : va_P D vwCl (wa ++ (w ++ wb)) H) (hD : va_D A (wa ++ (w ++ wb))) (hS : va_S A H0 H locs) (hA : ∀ q, H0.size ≤ q → A q)
    (kk : ∀ (u : S) (H1 : Heap) (locs1 : List Loc), post u → va_P D vwCl (wa ++ (w' u ++ wb)) H1 → va_D A (wa ++ (w' u ++ wb)) → va_S A H0 H1 locs1 → W p l e R s m args below meth c H1 locs1 (cells + mc) (slots + ms) Q (F0 m (pc + 3) ls rest)) : W p l e R s m args below meth c H locs cells slots Q (F0 m pc ls st0) := by
  have hF := zFree hD hS hA
  refine va_callv hr hS (fun q _ h => hF q h) hF (fun u t H1 locs1 ht hvm hpo hB hz1 hk1 hS1 => ?_)
  obtain ⟨hP1, -, hD1⟩ := hB
  rw [ht] at hP1
  obtain ⟨q1, q2⟩ := zFrame hP hD hk1 hF hP1 hD1
  exact kk u H1 locs1 hpo q1 q2 hS1
theorem zAfti {S : Type} {post : Int32 → S → Prop} {w' : S → va_W} (hr : va_Run p l e R s m args below meth c H locs cells slots mc ms (F0 m pc ls st0) rest (va_Qi post (fun u t => zB D tys (va_A w H.size) (w' u) t) (va_A w H.size) a) (va_A w H.size)) (hP : va_P D vwCl (wa ++ (w ++ wb)) H) (hD : va_D A (wa ++ (w ++ wb))) (hS : va_S A H0 H locs) (hA : ∀ q, H0.size ≤ q → A q)
    (kk : ∀ (r : Int32) (u : S) (H1 : Heap) (locs1 : List Loc), post r u → va_P D vwCl (wa ++ (w' u ++ wb)) H1 → va_D A (wa ++ (w' u ++ wb)) → va_S A H0 H1 locs1 → W p l e R s m args below meth c H1 locs1 (cells + mc) (slots + ms) Q (F0 m (pc + 3) ls (.int r :: rest))) : W p l e R s m args below meth c H locs cells slots Q (F0 m pc ls st0) := by
  have hF := zFree hD hS hA
  refine va_calli hr hS (fun q _ h => hF q h) hF (fun r u t H1 locs1 ht hvm hpo hB hz1 hk1 hS1 => ?_)
  obtain ⟨hP1, -, hD1⟩ := hB
  rw [ht] at hP1
  obtain ⟨q1, q2⟩ := zFrame hP hD hk1 hF hP1 hD1
  exact kk r u H1 locs1 hpo q1 q2 hS1
theorem zAftl {S : Type} {post : Int64 → S → Prop} {w' : S → va_W} (hr : va_Run p l e R s m args below meth c H locs cells slots mc ms (F0 m pc ls st0) rest (va_Ql post (fun u t => zB D tys (va_A w H.size) (w' u) t) (va_A w H.size) a) (va_A w H.size)) (hP : va_P D vwCl (wa ++ (w ++ wb)) H) (hD : va_D A (wa ++ (w ++ wb))) (hS : va_S A H0 H locs) (hA : ∀ q, H0.size ≤ q → A q)
    (kk : ∀ (r : Int64) (u : S) (H1 : Heap) (locs1 : List Loc), post r u → va_P D vwCl (wa ++ (w' u ++ wb)) H1 → va_D A (wa ++ (w' u ++ wb)) → va_S A H0 H1 locs1 → W p l e R s m args below meth c H1 locs1 (cells + mc) (slots + ms) Q (F0 m (pc + 3) ls (.long r :: rest))) : W p l e R s m args below meth c H locs cells slots Q (F0 m pc ls st0) := by
  have hF := zFree hD hS hA
  refine va_calll hr hS (fun q _ h => hF q h) hF (fun r u t H1 locs1 ht hvm hpo hB hz1 hk1 hS1 => ?_)
  obtain ⟨hP1, -, hD1⟩ := hB
  rw [ht] at hP1
  obtain ⟨q1, q2⟩ := zFrame hP hD hk1 hF hP1 hD1
  exact kk r u H1 locs1 hpo q1 q2 hS1
variable {y : MethodName} {bytes : ByteArray} {maxL nL n index : Nat} {ret : Option FieldType} {rm : Room} {Qc : Array Value → State → Outcome → State → Prop} {own C : String} {b : Addr} {As : List Value} {free : Addr → Prop}
theorem zPreS (hKc : va_K D vwCl tys s) (hP : va_P D vwCl (wa ++ (w ++ wb)) H) (hD : va_D A (wa ++ (w ++ wb))) : PreS s H (va_Pc As (zP D tys H.size w)) As :=
  ⟨zBlind, fun U hU hW => ⟨rfl, by rw [hU], by rw [hU]; exact zP_l (zP_r hP), va_K.moved hW.alike hKc, (zD_l (zD_r hD)).weaken (fun _ _ _ _ => trivial)⟩⟩
/-- an instance method's call by its contract -/
theorem zRunV (S0 : CallFix p m c cc nL s args WS own) (hM : Met l y (.code y bytes maxL ret :: WS) rm (va_Pc (.ref b :: As) (zP D tys H.size w)) Qc mc ms free) (h1 : Cond.methodLink own index y ∈ WS) (h2 : Cond.instanceMethod y ∈ WS) (h3 : Cond.selects y.cls y y ∈ WS) (h4 : Cond.initialized y.cls ∈ WS) (h5 : Cond.code y bytes maxL ret ∈ WS)
    (hrc : rm.cells = mc ∧ rm.slots = ms) (hd : y.cls ≠ "java/lang/invoke/MethodHandle" ∧ y.cls ≠ "java/lang/invoke/VarHandle" ∧ (parseMethodDescriptor y.desc).map (fun d => d.parameters.length) = some As.length) (hR : rm.frames + 1 ≤ R.frames ∧ 8 + (maxL + 11) + rm.locals ≤ R.locals)
    (hKc : va_K D vwCl tys s) (hP : va_P D vwCl (wa ++ (w ++ wb)) H) (hD : va_D A (wa ++ (w ++ wb))) (ci : Nat) {q : vw_C} (hc : vwCl[ci]? = some q) (hq : q.1 = y.cls) {fs : List Value} (he : w[0]? = some (b, .inr (ci, fs))) (hsize : ls.size = nL) (hst : st0 = As.reverse ++ .ref b :: rest) (hWt : (rest.map fun v => v.category).sum ≤ 8) (hdg : decode cc pc = .ok (.invokevirtual index, 3)) (hf : cells + mc ≤ R.cells ∧ slots + ms ≤ R.slots) :
    va_Run p l e R s m args below meth c H locs cells slots mc ms (F0 m pc ls st0) rest (Qc (Value.ref b :: As).toArray) free := by
  have hp := zPreS (As := .ref b :: As) hKc hP hD
  have hrv := va_recv hKc (zP_l (zP_r hP)) hc he
  rw [hq] at hrv
  have ht : ∀ w ∈ WS, w.before args s = true := S0.2.2.2.2
  have cb : CallB R s args own index y bytes maxL ret (.code y bytes maxL ret :: WS) rm mc ms As.length := callB_of As.length ht (WSg h5) rfl hrc.1 hrc.2 (ht _ h4) (ht _ h1) hd hR
  exact va_runV (C := y.cls) S0 hM ⟨cb, ht _ h2, ht _ h3⟩ ⟨hp.1, hrv, hp.2⟩ rfl rfl hsize hst (lv_room hWt) hdg hf
/-- a static method's call by its contract -/
theorem zRunS (S0 : CallFix p m c cc nL s args WS own) (hM : Met l y (.code y bytes maxL ret :: WS) rm (va_Pc As (zP D tys H.size w)) Qc mc ms free) (h1 : Cond.methodLink own index y ∈ WS) (h2 : Cond.static y ∈ WS) (h4 : Cond.initialized y.cls ∈ WS) (h5 : Cond.code y bytes maxL ret ∈ WS)
    (hrc : rm.cells = mc ∧ rm.slots = ms) (hd : y.cls ≠ "java/lang/invoke/MethodHandle" ∧ y.cls ≠ "java/lang/invoke/VarHandle" ∧ (parseMethodDescriptor y.desc).map (fun d => d.parameters.length) = some As.length) (hR : rm.frames + 1 ≤ R.frames ∧ 8 + (maxL + 11) + rm.locals ≤ R.locals)
    (hKc : va_K D vwCl tys s) (hP : va_P D vwCl (wa ++ (w ++ wb)) H) (hD : va_D A (wa ++ (w ++ wb))) (hsize : ls.size = nL) (hst : st0 = As.reverse ++ rest) (hWt : (rest.map fun v => v.category).sum ≤ 8) (hdg : decode cc pc = .ok (.invokestatic index, 3)) (hf : cells + mc ≤ R.cells ∧ slots + ms ≤ R.slots) :
    va_Run p l e R s m args below meth c H locs cells slots mc ms (F0 m pc ls st0) rest (Qc As.toArray) free := by
  have hp := zPreS (As := As) hKc hP hD
  have ht : ∀ w ∈ WS, w.before args s = true := S0.2.2.2.2
  have cb : CallB R s args own index y bytes maxL ret (.code y bytes maxL ret :: WS) rm mc ms As.length := callB_of As.length ht (WSg h5) rfl hrc.1 hrc.2 (ht _ h4) (ht _ h1) hd hR
  exact va_runS S0 hM ⟨cb, ht _ h2⟩ hp rfl rfl hsize hst (lv_room hWt) hdg hf
/-- a constructor's call by its contract -/
theorem zRunI (S0 : CallFix p m c cc nL s args WS own) (hM : Met l y (.code y bytes maxL none :: WS) rm (va_Pc (.ref b :: As) (zP D tys H.size w)) Qc mc ms free) (h1 : Cond.methodLink own index y ∈ WS) (h2 : Cond.instanceMethod y ∈ WS) (h4 : Cond.initialized y.cls ∈ WS) (h5 : Cond.code y bytes maxL none ∈ WS) (hy1 : y.name = "<init>")
    (hrc : rm.cells = mc ∧ rm.slots = ms) (hd : y.cls ≠ "java/lang/invoke/MethodHandle" ∧ y.cls ≠ "java/lang/invoke/VarHandle" ∧ (parseMethodDescriptor y.desc).map (fun d => d.parameters.length) = some As.length) (hR : rm.frames + 1 ≤ R.frames ∧ 8 + (maxL + 11) + rm.locals ≤ R.locals)
    (hKc : va_K D vwCl tys s) (hP : va_P D vwCl (wa ++ (w ++ wb)) H) (hD : va_D A (wa ++ (w ++ wb))) (hsize : ls.size = nL) (hst : st0 = As.reverse ++ .ref b :: rest) (hWt : (rest.map fun v => v.category).sum ≤ 8) (hdg : decode cc pc = .ok (.invokespecial index, 3)) (hf : cells + mc ≤ R.cells ∧ slots + ms ≤ R.slots) :
    va_Run p l e R s m args below meth c H locs cells slots mc ms (F0 m pc ls st0) rest (Qc (Value.ref b :: As).toArray) free := by
  have hp := zPreS (As := .ref b :: As) hKc hP hD
  have ht : ∀ w ∈ WS, w.before args s = true := S0.2.2.2.2
  have cb : CallB R s args own index y bytes maxL none (.code y bytes maxL none :: WS) rm mc ms As.length := callB_of As.length ht (WSg h5) rfl hrc.1 hrc.2 (ht _ h4) (ht _ h1) hd hR
  exact va_runI S0 hM ⟨cb, hy1, ht _ h2⟩ hp rfl rfl hsize hst (lv_room hWt) hdg hf
end ZC
end
section
/-! EmitDesk: its world by components; what its small methods do to them -/
abbrev rmk (f lo : Nat) : Room := { frames := f, cells := 0, slots := 0, locals := lo }
abbrev eW (A : Nat → Nat) (C : Nat → ClassId) (n : Nat) (ops : Nat → Int32) (nums : Nat → Int64) (vc : Nat) (vals : Nat → Int64) (d : Nat) (st ce pk pv : Nat → Int64) (pr w : Nat) (key : Int64) (pl dn tk tr : Nat) : va_W :=
  [(A 0, .inr (0, [.ref (A 1), .ref (A 2), .int (nI n), .ref (A 3), .int (nI vc), .ref (A 4), .int (nI d), .ref (A 5), .ref (A 6), .ref (A 7), .int (nI pr), .int (nI w), .long key, .int (nI pl), .int (nI dn), .int (nI tk), .int (nI tr)])),
   (A 1, .inl (C 1, 40, .inl ops)), (A 2, .inl (C 2, 40, .inr (.inl nums))), (A 3, .inl (C 3, 40, .inr (.inl vals))), (A 4, .inl (C 4, 12, .inr (.inl st))), (A 5, .inl (C 5, 4, .inr (.inl ce))), (A 6, .inl (C 6, 4, .inr (.inl pk))), (A 7, .inl (C 7, 4, .inr (.inl pv)))]
abbrev eT (C : Nat → ClassId) : List (ClassId × FieldType) := [(C 1, .int), (C 2, .long), (C 3, .long), (C 4, .long), (C 5, .long), (C 6, .long), (C 7, .long)]
section ZC0
variable {p : Program} {l : Launch} {e : Env} {R : Room} {s : State} {m : MethodId} {args : Array Value} {below : List Frame} {meth : Method} {c : Code} {H : Heap} {locs : List Loc} {cells slots : Nat} {Q : State → Prop}
variable {cc : ByteArray} {pc : Nat} {ls : Array Slot} {rest st0 : List Value} {D : va_G} {A : Nat → Prop} {tys : List (ClassId × FieldType)} {H0 : Heap} {w : va_W} {a : Array Value} {mc ms : Nat}
theorem zAftv0 {S : Type} {post : S → Prop} {w' : S → va_W} (hr : va_Run p l e R s m args below meth c H locs cells slots mc ms (F0 m pc ls st0) rest (va_Qv post (fun u t => zB D tys (va_A w H.size) (w' u) t) (va_A w H.size) a) (va_A w H.size)) (hP : va_P D vwCl w H) (hD : va_D A w) (hS : va_S A H0 H locs) (hA : ∀ q, H0.size ≤ q → A q)
    (kk : ∀ (u : S) (H1 : Heap) (locs1 : List Loc), post u → va_P D vwCl (w' u) H1 → va_D A (w' u) → va_S A H0 H1 locs1 → W p l e R s m args below meth c H1 locs1 (cells + mc) (slots + ms) Q (F0 m (pc + 3) ls rest)) : W p l e R s m args below meth c H locs cells slots Q (F0 m pc ls st0) :=
  zAftv (wa := []) (wb := []) hr (by simpa using hP) (by simpa using hD) hS hA (fun u H1 locs1 hp h1 h2 h3 => kk u H1 locs1 hp (by simpa using h1) (by simpa using h2) h3)
theorem zAfti0 {S : Type} {post : Int32 → S → Prop} {w' : S → va_W} (hr : va_Run p l e R s m args below meth c H locs cells slots mc ms (F0 m pc ls st0) rest (va_Qi post (fun u t => zB D tys (va_A w H.size) (w' u) t) (va_A w H.size) a) (va_A w H.size)) (hP : va_P D vwCl w H) (hD : va_D A w) (hS : va_S A H0 H locs) (hA : ∀ q, H0.size ≤ q → A q)
    (kk : ∀ (r : Int32) (u : S) (H1 : Heap) (locs1 : List Loc), post r u → va_P D vwCl (w' u) H1 → va_D A (w' u) → va_S A H0 H1 locs1 → W p l e R s m args below meth c H1 locs1 (cells + mc) (slots + ms) Q (F0 m (pc + 3) ls (.int r :: rest))) : W p l e R s m args below meth c H locs cells slots Q (F0 m pc ls st0) :=
  zAfti (wa := []) (wb := []) hr (by simpa using hP) (by simpa using hD) hS hA (fun r u H1 locs1 hp h1 h2 h3 => kk r u H1 locs1 hp (by simpa using h1) (by simpa using h2) h3)
theorem zAftl0 {S : Type} {post : Int64 → S → Prop} {w' : S → va_W} (hr : va_Run p l e R s m args below meth c H locs cells slots mc ms (F0 m pc ls st0) rest (va_Ql post (fun u t => zB D tys (va_A w H.size) (w' u) t) (va_A w H.size) a) (va_A w H.size)) (hP : va_P D vwCl w H) (hD : va_D A w) (hS : va_S A H0 H locs) (hA : ∀ q, H0.size ≤ q → A q)
    (kk : ∀ (r : Int64) (u : S) (H1 : Heap) (locs1 : List Loc), post r u → va_P D vwCl (w' u) H1 → va_D A (w' u) → va_S A H0 H1 locs1 → W p l e R s m args below meth c H1 locs1 (cells + mc) (slots + ms) Q (F0 m (pc + 3) ls (.long r :: rest))) : W p l e R s m args below meth c H locs cells slots Q (F0 m pc ls st0) :=
  zAftl (wa := []) (wb := []) hr (by simpa using hP) (by simpa using hD) hS hA (fun r u H1 locs1 hp h1 h2 h3 => kk r u H1 locs1 hp (by simpa using h1) (by simpa using h2) h3)
variable {y : MethodName} {bytes : ByteArray} {maxL nL index : Nat} {ret : Option FieldType} {rm : Room} {Qc : Array Value → State → Outcome → State → Prop} {own : String} {b : Addr} {As : List Value} {free : Addr → Prop}
theorem zRunV0 (S0 : CallFix p m c cc nL s args WS own) (hM : Met l y (.code y bytes maxL ret :: WS) rm (va_Pc (.ref b :: As) (zP D tys H.size w)) Qc mc ms free) (h1 : Cond.methodLink own index y ∈ WS) (h2 : Cond.instanceMethod y ∈ WS) (h3 : Cond.selects y.cls y y ∈ WS) (h4 : Cond.initialized y.cls ∈ WS) (h5 : Cond.code y bytes maxL ret ∈ WS)
    (hrc : rm.cells = mc ∧ rm.slots = ms) (hd : y.cls ≠ "java/lang/invoke/MethodHandle" ∧ y.cls ≠ "java/lang/invoke/VarHandle" ∧ (parseMethodDescriptor y.desc).map (fun d => d.parameters.length) = some As.length) (hR : rm.frames + 1 ≤ R.frames ∧ 8 + (maxL + 11) + rm.locals ≤ R.locals)
    (hKc : va_K D vwCl tys s) (hP : va_P D vwCl w H) (hD : va_D A w) (ci : Nat) {q : vw_C} (hc : vwCl[ci]? = some q) (hq : q.1 = y.cls) {fs : List Value} (he : w[0]? = some (b, .inr (ci, fs))) (hsize : ls.size = nL) (hst : st0 = As.reverse ++ .ref b :: rest) (hWt : (rest.map fun v => v.category).sum ≤ 8) (hdg : decode cc pc = .ok (.invokevirtual index, 3)) (hf : cells + mc ≤ R.cells ∧ slots + ms ≤ R.slots) :
    va_Run p l e R s m args below meth c H locs cells slots mc ms (F0 m pc ls st0) rest (Qc (Value.ref b :: As).toArray) free :=
  zRunV (wa := []) (wb := []) (A := A) S0 hM h1 h2 h3 h4 h5 hrc hd hR hKc (by simpa using hP) (by simpa using hD) ci hc hq he hsize hst hWt hdg hf
end ZC0
def pD (d : Nat) : Nat := if d < 12 then d + 1 else d
def pS (x : Int64) (d : Nat) (st : Nat → Int64) : Nat → Int64 := if d < 12 then vp_updL st d x else st
def pT (d tr : Nat) : Nat := if d < 12 then tr else 1
def qT (d tr : Nat) : Nat := if 0 < d then tr else 1
def qV (d : Nat) (st : Nat → Int64) : Int64 := if 0 < d then st (d - 1) else 0
theorem pD_le {d : Nat} (h : d ≤ 12) : pD d ≤ 12 := by unfold pD; split <;> omega
theorem pT_le {d tr : Nat} (h : tr ≤ 1) : pT d tr ≤ 1 := by unfold pT; split <;> omega
theorem qT_le {d tr : Nat} (h : tr ≤ 1) : qT d tr ≤ 1 := by unfold qT; split <;> omega

set_option maxRecDepth 20000 in
set_option maxHeartbeats 4000000 in
theorem c_push (l : Launch) (D : va_G) (A : Nat → Nat) (C : Nat → ClassId) (sz : Nat) (n : Nat) (ops : Nat → Int32) (nums : Nat → Int64) (vc : Nat) (vals : Nat → Int64) (d : Nat) (st : Nat → Int64) (ce : Nat → Int64) (pk : Nat → Int64) (pv : Nat → Int64) (pr : Nat) (w : Nat) (key : Int64) (pl : Nat) (dn : Nat) (tk : Nat) (tr : Nat) (x : Int64) (hd : d ≤ 12) : Met l yE_push (.code yE_push cE_push 3 none :: WS) (rmk 0 0) (va_Pc [.ref (A 0), .long x] (zP D (eT C) sz (eW A C n ops nums vc vals d st ce pk pv pr w key pl dn tk tr))) (va_Qv (fun _ : Unit => True) (fun (_ : Unit) t => zB D (eT C) (va_A (eW A C n ops nums vc vals d st ce pk pv pr w key pl dn tk tr) sz) (eW A C n ops nums vc vals (pD d) (pS x d st) ce pk pv pr w key pl dn tk (pT d tr)) t) (va_A (eW A C n ops nums vc vals d st ce pk pv pr w key pl dn tk tr) sz)) 0 0 (va_A (eW A C n ops nums vc vals d st ce pk pv pr w key pl dn tk tr) sz) := by
  refine zEnt (Qc := fun F => (va_Qv (fun _ : Unit => True) (fun (_ : Unit) t => zB D (eT C) F (eW A C n ops nums vc vals (pD d) (pS x d st) ce pk pv pr w key pl dn tk (pT d tr)) t) F)) (by decide) (Nat.le_of_ble_eq_true rfl) (fun p e s m below meth c ls F hx hb hr hlk hml hnm hw hown hsz hP hK hD hA hl => ?_)
  have hS : va_S F s.heap s.heap [] := va_S.rf
  have hown : s.vm.findClass RE = some m.cls := hown
  have hl : lv_has ls 3 [(0, .ref (A 0)), (1, .long x)] := hl
  refine lv_aload_n hx hb dE_push_0 rfl (lv_at hl 0 rfl) ?_
  refine zGetE hx hb hw hown hK hP 0 rfl 6 (by decide) wf_E_92 rfl dE_push_1 ?_
  refine lv_bipush (v := nI 12) hx hb dE_push_4 (by decide) ?_
  refine zc_lt (tgt := 15) hx hb dE_push_6 rfl (by omega) (by omega) (fun h6 => ?_) (fun h6 => ?_)
  · refine lv_aload_n hx hb dE_push_15 rfl (lv_at hl 0 rfl) ?_
    refine zGetE hx hb hw hown hK hP 0 rfl 5 (by decide) wf_E_20 rfl dE_push_16 ?_
    refine lv_aload_n hx hb dE_push_19 rfl (lv_at hl 0 rfl) ?_
    refine zGetE hx hb hw hown hK hP 0 rfl 6 (by decide) wf_E_92 rfl dE_push_20 ?_
    refine lv_lload_n hx hb dE_push_23 rfl (lv_at hl 1 rfl) ?_
    refine zLast hx hb hK hP hD hS 4 3 rfl rfl (by omega) (by decide) dE_push_24 (fun H locs hP hD hS => ?_)
    replace hP : va_P D vwCl (eW A C n ops nums vc vals d (vp_updL st d x) ce pk pv pr w key pl dn tk tr) H := hP
    replace hD : va_D F (eW A C n ops nums vc vals d (vp_updL st d x) ce pk pv pr w key pl dn tk tr) := hD
    refine lv_aload_n hx hb dE_push_25 rfl (lv_at hl 0 rfl) ?_
    refine lv_dup hx hb dE_push_26 rfl ?_
    refine zGetE hx hb hw hown hK hP 0 rfl 6 (by decide) wf_E_92 rfl dE_push_27 ?_
    refine lv_iconst (v := nI 1) hx hb dE_push_30 (by decide) ?_
    refine lv_iadd hx hb dE_push_31 ?_
    refine zti (nI_add _ _) ?_
    refine zPutE hx hb hw hown hK hP hD hS 0 rfl 6 (by decide) wf_E_92 rfl rfl rfl (Nat.le_of_ble_eq_true rfl) dE_push_32 (fun H locs hP hD hS => ?_)
    replace hP : va_P D vwCl (eW A C n ops nums vc vals (d + 1) (vp_updL st d x) ce pk pv pr w key pl dn tk tr) H := hP
    replace hD : va_D F (eW A C n ops nums vc vals (d + 1) (vp_updL st d x) ce pk pv pr w key pl dn tk tr) := hD
    replace hP : va_P D vwCl (eW A C n ops nums vc vals (pD d) (pS x d st) ce pk pv pr w key pl dn tk (pT d tr)) H := by (first | rw [show pD d = d + 1 from if_pos (by omega), show pS x d st = vp_updL st d x from if_pos (by omega), show pT d tr = tr from if_pos (by omega)] | rw [show pD d = d from if_neg (by omega), show pS x d st = st from if_neg (by omega), show pT d tr = 1 from if_neg (by omega)]); exact hP
    replace hD : va_D F (eW A C n ops nums vc vals (pD d) (pS x d st) ce pk pv pr w key pl dn tk (pT d tr)) := by (first | rw [show pD d = d + 1 from if_pos (by omega), show pS x d st = vp_updL st d x from if_pos (by omega), show pT d tr = tr from if_pos (by omega)] | rw [show pD d = d from if_neg (by omega), show pS x d st = st from if_neg (by omega), show pT d tr = 1 from if_neg (by omega)]); exact hD
    exact zVret (w' := fun (_ : Unit) => (eW A C n ops nums vc vals (pD d) (pS x d st) ce pk pv pr w key pl dn tk (pT d tr))) () hx hb hr hlk hS hK trivial hP hD dE_push_35
  · refine lv_aload_n hx hb dE_push_9 rfl (lv_at hl 0 rfl) ?_
    refine lv_iconst (v := nI 1) hx hb dE_push_10 (by decide) ?_
    refine zPutE hx hb hw hown hK hP hD hS 0 rfl 16 (by decide) wf_E_72 rfl rfl rfl (Nat.le_of_ble_eq_true rfl) dE_push_11 (fun H locs hP hD hS => ?_)
    replace hP : va_P D vwCl (eW A C n ops nums vc vals d st ce pk pv pr w key pl dn tk 1) H := hP
    replace hD : va_D F (eW A C n ops nums vc vals d st ce pk pv pr w key pl dn tk 1) := hD
    replace hP : va_P D vwCl (eW A C n ops nums vc vals (pD d) (pS x d st) ce pk pv pr w key pl dn tk (pT d tr)) H := by (first | rw [show pD d = d + 1 from if_pos (by omega), show pS x d st = vp_updL st d x from if_pos (by omega), show pT d tr = tr from if_pos (by omega)] | rw [show pD d = d from if_neg (by omega), show pS x d st = st from if_neg (by omega), show pT d tr = 1 from if_neg (by omega)]); exact hP
    replace hD : va_D F (eW A C n ops nums vc vals (pD d) (pS x d st) ce pk pv pr w key pl dn tk (pT d tr)) := by (first | rw [show pD d = d + 1 from if_pos (by omega), show pS x d st = vp_updL st d x from if_pos (by omega), show pT d tr = tr from if_pos (by omega)] | rw [show pD d = d from if_neg (by omega), show pS x d st = st from if_neg (by omega), show pT d tr = 1 from if_neg (by omega)]); exact hD
    exact zVret (w' := fun (_ : Unit) => (eW A C n ops nums vc vals (pD d) (pS x d st) ce pk pv pr w key pl dn tk (pT d tr))) () hx hb hr hlk hS hK trivial hP hD dE_push_14

set_option maxRecDepth 20000 in
set_option maxHeartbeats 4000000 in
theorem c_pop (l : Launch) (D : va_G) (A : Nat → Nat) (C : Nat → ClassId) (sz : Nat) (n : Nat) (ops : Nat → Int32) (nums : Nat → Int64) (vc : Nat) (vals : Nat → Int64) (d : Nat) (st : Nat → Int64) (ce : Nat → Int64) (pk : Nat → Int64) (pv : Nat → Int64) (pr : Nat) (w : Nat) (key : Int64) (pl : Nat) (dn : Nat) (tk : Nat) (tr : Nat) (hd : d ≤ 12) : Met l yE_pop (.code yE_pop cE_pop 1 (some .long) :: WS) (rmk 0 0) (va_Pc [.ref (A 0)] (zP D (eT C) sz (eW A C n ops nums vc vals d st ce pk pv pr w key pl dn tk tr))) (va_Ql (fun (r : Int64) (_ : Unit) => r = qV d st) (fun (_ : Unit) t => zB D (eT C) (va_A (eW A C n ops nums vc vals d st ce pk pv pr w key pl dn tk tr) sz) (eW A C n ops nums vc vals (d - 1) st ce pk pv pr w key pl dn tk (qT d tr)) t) (va_A (eW A C n ops nums vc vals d st ce pk pv pr w key pl dn tk tr) sz)) 0 0 (va_A (eW A C n ops nums vc vals d st ce pk pv pr w key pl dn tk tr) sz) := by
  refine zEnt (Qc := fun F => (va_Ql (fun (r : Int64) (_ : Unit) => r = qV d st) (fun (_ : Unit) t => zB D (eT C) F (eW A C n ops nums vc vals (d - 1) st ce pk pv pr w key pl dn tk (qT d tr)) t) F)) (by decide) (Nat.le_of_ble_eq_true rfl) (fun p e s m below meth c ls F hx hb hr hlk hml hnm hw hown hsz hP hK hD hA hl => ?_)
  have hS : va_S F s.heap s.heap [] := va_S.rf
  have hown : s.vm.findClass RE = some m.cls := hown
  have hl : lv_has ls 1 [(0, .ref (A 0))] := hl
  refine lv_aload_n hx hb dE_pop_0 rfl (lv_at hl 0 rfl) ?_
  refine zGetE hx hb hw hown hK hP 0 rfl 6 (by decide) wf_E_92 rfl dE_pop_1 ?_
  refine zi_gt (tgt := 14) hx hb dE_pop_4 rfl (by omega) (fun h4 => ?_) (fun h4 => ?_)
  · refine lv_aload_n hx hb dE_pop_14 rfl (lv_at hl 0 rfl) ?_
    refine lv_dup hx hb dE_pop_15 rfl ?_
    refine zGetE hx hb hw hown hK hP 0 rfl 6 (by decide) wf_E_92 rfl dE_pop_16 ?_
    refine lv_iconst (v := nI 1) hx hb dE_pop_19 (by decide) ?_
    refine lv_isub hx hb dE_pop_20 ?_
    refine zti (zsub _ (by omega)) ?_
    refine zPutE hx hb hw hown hK hP hD hS 0 rfl 6 (by decide) wf_E_92 rfl rfl rfl (Nat.le_of_ble_eq_true rfl) dE_pop_21 (fun H locs hP hD hS => ?_)
    replace hP : va_P D vwCl (eW A C n ops nums vc vals (d - 1) st ce pk pv pr w key pl dn tk tr) H := hP
    replace hD : va_D F (eW A C n ops nums vc vals (d - 1) st ce pk pv pr w key pl dn tk tr) := hD
    refine lv_aload_n hx hb dE_pop_24 rfl (lv_at hl 0 rfl) ?_
    refine zGetE hx hb hw hown hK hP 0 rfl 5 (by decide) wf_E_20 rfl dE_pop_25 ?_
    refine lv_aload_n hx hb dE_pop_28 rfl (lv_at hl 0 rfl) ?_
    refine zGetE hx hb hw hown hK hP 0 rfl 6 (by decide) wf_E_92 rfl dE_pop_29 ?_
    refine zLald hx hb hK hP 4 3 rfl rfl (by omega) (by decide) dE_pop_32 ?_
    replace hP : va_P D vwCl (eW A C n ops nums vc vals (d - 1) st ce pk pv pr w key pl dn tk (qT d tr)) H := by (first | rw [show qT d tr = tr from if_pos (by omega)] | rw [show qT d tr = 1 from if_neg (by omega), show d - 1 = d by omega]); exact hP
    replace hD : va_D F (eW A C n ops nums vc vals (d - 1) st ce pk pv pr w key pl dn tk (qT d tr)) := by (first | rw [show qT d tr = tr from if_pos (by omega)] | rw [show qT d tr = 1 from if_neg (by omega), show d - 1 = d by omega]); exact hD
    exact zLret (w' := fun (_ : Unit) => (eW A C n ops nums vc vals (d - 1) st ce pk pv pr w key pl dn tk (qT d tr))) () hx hb hr hlk hS hK (by first | exact (if_pos (by omega)).symm | exact (if_neg (by omega)).symm) hP hD dE_pop_33
  · refine lv_aload_n hx hb dE_pop_7 rfl (lv_at hl 0 rfl) ?_
    refine lv_iconst (v := nI 1) hx hb dE_pop_8 (by decide) ?_
    refine zPutE hx hb hw hown hK hP hD hS 0 rfl 16 (by decide) wf_E_72 rfl rfl rfl (Nat.le_of_ble_eq_true rfl) dE_pop_9 (fun H locs hP hD hS => ?_)
    replace hP : va_P D vwCl (eW A C n ops nums vc vals d st ce pk pv pr w key pl dn tk 1) H := hP
    replace hD : va_D F (eW A C n ops nums vc vals d st ce pk pv pr w key pl dn tk 1) := hD
    refine lv_lconst (v := 0) hx hb dE_pop_12 (by decide) ?_
    replace hP : va_P D vwCl (eW A C n ops nums vc vals (d - 1) st ce pk pv pr w key pl dn tk (qT d tr)) H := by (first | rw [show qT d tr = tr from if_pos (by omega)] | rw [show qT d tr = 1 from if_neg (by omega), show d - 1 = d by omega]); exact hP
    replace hD : va_D F (eW A C n ops nums vc vals (d - 1) st ce pk pv pr w key pl dn tk (qT d tr)) := by (first | rw [show qT d tr = tr from if_pos (by omega)] | rw [show qT d tr = 1 from if_neg (by omega), show d - 1 = d by omega]); exact hD
    exact zLret (w' := fun (_ : Unit) => (eW A C n ops nums vc vals (d - 1) st ce pk pv pr w key pl dn tk (qT d tr))) () hx hb hr hlk hS hK (by first | exact (if_pos (by omega)).symm | exact (if_neg (by omega)).symm) hP hD dE_pop_13
end
section
/-! EmitDesk: push and pop where they go and where not; the methods that perform calls, each where it goes and where it traps -/
set_option maxRecDepth 20000 in
set_option maxHeartbeats 4000000 in
theorem c_push_ok (l : Launch) (D : va_G) (A : Nat → Nat) (C : Nat → ClassId) (sz : Nat) (n : Nat) (ops : Nat → Int32) (nums : Nat → Int64) (vc : Nat) (vals : Nat → Int64) (d : Nat) (st : Nat → Int64) (ce : Nat → Int64) (pk : Nat → Int64) (pv : Nat → Int64) (pr : Nat) (w : Nat) (key : Int64) (pl : Nat) (dn : Nat) (tk : Nat) (tr : Nat) (x : Int64) (hd : d < 12) : Met l yE_push (.code yE_push cE_push 3 none :: WS) (rmk 0 0) (va_Pc [.ref (A 0), .long x] (zP D (eT C) sz (eW A C n ops nums vc vals d st ce pk pv pr w key pl dn tk tr))) (va_Qv (fun _ : Unit => True) (fun (_ : Unit) t => zB D (eT C) (va_A (eW A C n ops nums vc vals d st ce pk pv pr w key pl dn tk tr) sz) (eW A C n ops nums vc vals (d + 1) (vp_updL st d x) ce pk pv pr w key pl dn tk tr) t) (va_A (eW A C n ops nums vc vals d st ce pk pv pr w key pl dn tk tr) sz)) 0 0 (va_A (eW A C n ops nums vc vals d st ce pk pv pr w key pl dn tk tr) sz) := by
  refine zEnt (Qc := fun F => (va_Qv (fun _ : Unit => True) (fun (_ : Unit) t => zB D (eT C) F (eW A C n ops nums vc vals (d + 1) (vp_updL st d x) ce pk pv pr w key pl dn tk tr) t) F)) (by decide) (Nat.le_of_ble_eq_true rfl) (fun p e s m below meth c ls F hx hb hr hlk hml hnm hw hown hsz hP hK hD hA hl => ?_)
  have hS : va_S F s.heap s.heap [] := va_S.rf
  have hown : s.vm.findClass RE = some m.cls := hown
  have hl : lv_has ls 3 [(0, .ref (A 0)), (1, .long x)] := hl
  refine lv_aload_n hx hb dE_push_0 rfl (lv_at hl 0 rfl) ?_
  refine zGetE hx hb hw hown hK hP 0 rfl 6 (by decide) wf_E_92 rfl dE_push_1 ?_
  refine lv_bipush (v := nI 12) hx hb dE_push_4 (by decide) ?_
  refine zc_lt (tgt := 15) hx hb dE_push_6 rfl (by omega) (by omega) (fun _ => ?_) (fun q => absurd q (by omega))
  refine lv_aload_n hx hb dE_push_15 rfl (lv_at hl 0 rfl) ?_
  refine zGetE hx hb hw hown hK hP 0 rfl 5 (by decide) wf_E_20 rfl dE_push_16 ?_
  refine lv_aload_n hx hb dE_push_19 rfl (lv_at hl 0 rfl) ?_
  refine zGetE hx hb hw hown hK hP 0 rfl 6 (by decide) wf_E_92 rfl dE_push_20 ?_
  refine lv_lload_n hx hb dE_push_23 rfl (lv_at hl 1 rfl) ?_
  refine zLast hx hb hK hP hD hS 4 3 rfl rfl (by omega) (by decide) dE_push_24 (fun H locs hP hD hS => ?_)
  replace hP : va_P D vwCl (eW A C n ops nums vc vals d (vp_updL st d x) ce pk pv pr w key pl dn tk tr) H := hP
  replace hD : va_D F (eW A C n ops nums vc vals d (vp_updL st d x) ce pk pv pr w key pl dn tk tr) := hD
  refine lv_aload_n hx hb dE_push_25 rfl (lv_at hl 0 rfl) ?_
  refine lv_dup hx hb dE_push_26 rfl ?_
  refine zGetE hx hb hw hown hK hP 0 rfl 6 (by decide) wf_E_92 rfl dE_push_27 ?_
  refine lv_iconst (v := nI 1) hx hb dE_push_30 (by decide) ?_
  refine lv_iadd hx hb dE_push_31 ?_
  refine zti (nI_add _ _) ?_
  refine zPutE hx hb hw hown hK hP hD hS 0 rfl 6 (by decide) wf_E_92 rfl rfl rfl (Nat.le_of_ble_eq_true rfl) dE_push_32 (fun H locs hP hD hS => ?_)
  replace hP : va_P D vwCl (eW A C n ops nums vc vals (d + 1) (vp_updL st d x) ce pk pv pr w key pl dn tk tr) H := hP
  replace hD : va_D F (eW A C n ops nums vc vals (d + 1) (vp_updL st d x) ce pk pv pr w key pl dn tk tr) := hD
  exact zVret (w' := fun (_ : Unit) => (eW A C n ops nums vc vals (d + 1) (vp_updL st d x) ce pk pv pr w key pl dn tk tr)) () hx hb hr hlk hS hK trivial hP hD dE_push_35

set_option maxRecDepth 20000 in
set_option maxHeartbeats 4000000 in
theorem c_pop_ok (l : Launch) (D : va_G) (A : Nat → Nat) (C : Nat → ClassId) (sz : Nat) (n : Nat) (ops : Nat → Int32) (nums : Nat → Int64) (vc : Nat) (vals : Nat → Int64) (d : Nat) (st : Nat → Int64) (ce : Nat → Int64) (pk : Nat → Int64) (pv : Nat → Int64) (pr : Nat) (w : Nat) (key : Int64) (pl : Nat) (dn : Nat) (tk : Nat) (tr : Nat) (hd : d < 12) : Met l yE_pop (.code yE_pop cE_pop 1 (some .long) :: WS) (rmk 0 0) (va_Pc [.ref (A 0)] (zP D (eT C) sz (eW A C n ops nums vc vals (d + 1) st ce pk pv pr w key pl dn tk tr))) (va_Ql (fun (r : Int64) (_ : Unit) => r = st d) (fun (_ : Unit) t => zB D (eT C) (va_A (eW A C n ops nums vc vals (d + 1) st ce pk pv pr w key pl dn tk tr) sz) (eW A C n ops nums vc vals d st ce pk pv pr w key pl dn tk tr) t) (va_A (eW A C n ops nums vc vals (d + 1) st ce pk pv pr w key pl dn tk tr) sz)) 0 0 (va_A (eW A C n ops nums vc vals (d + 1) st ce pk pv pr w key pl dn tk tr) sz) := by
  refine zEnt (Qc := fun F => (va_Ql (fun (r : Int64) (_ : Unit) => r = st d) (fun (_ : Unit) t => zB D (eT C) F (eW A C n ops nums vc vals d st ce pk pv pr w key pl dn tk tr) t) F)) (by decide) (Nat.le_of_ble_eq_true rfl) (fun p e s m below meth c ls F hx hb hr hlk hml hnm hw hown hsz hP hK hD hA hl => ?_)
  have hS : va_S F s.heap s.heap [] := va_S.rf
  have hown : s.vm.findClass RE = some m.cls := hown
  have hl : lv_has ls 1 [(0, .ref (A 0))] := hl
  refine lv_aload_n hx hb dE_pop_0 rfl (lv_at hl 0 rfl) ?_
  refine zGetE hx hb hw hown hK hP 0 rfl 6 (by decide) wf_E_92 rfl dE_pop_1 ?_
  refine zi_gt (tgt := 14) hx hb dE_pop_4 rfl (by omega) (fun _ => ?_) (fun q => absurd q (by omega))
  refine lv_aload_n hx hb dE_pop_14 rfl (lv_at hl 0 rfl) ?_
  refine lv_dup hx hb dE_pop_15 rfl ?_
  refine zGetE hx hb hw hown hK hP 0 rfl 6 (by decide) wf_E_92 rfl dE_pop_16 ?_
  refine lv_iconst (v := nI 1) hx hb dE_pop_19 (by decide) ?_
  refine lv_isub hx hb dE_pop_20 ?_
  refine zti (zsub _ (by omega)) ?_
  refine zPutE hx hb hw hown hK hP hD hS 0 rfl 6 (by decide) wf_E_92 rfl rfl rfl (Nat.le_of_ble_eq_true rfl) dE_pop_21 (fun H locs hP hD hS => ?_)
  replace hP : va_P D vwCl (eW A C n ops nums vc vals ((d + 1) - 1) st ce pk pv pr w key pl dn tk tr) H := hP
  replace hD : va_D F (eW A C n ops nums vc vals ((d + 1) - 1) st ce pk pv pr w key pl dn tk tr) := hD
  refine lv_aload_n hx hb dE_pop_24 rfl (lv_at hl 0 rfl) ?_
  refine zGetE hx hb hw hown hK hP 0 rfl 5 (by decide) wf_E_20 rfl dE_pop_25 ?_
  refine lv_aload_n hx hb dE_pop_28 rfl (lv_at hl 0 rfl) ?_
  refine zGetE hx hb hw hown hK hP 0 rfl 6 (by decide) wf_E_92 rfl dE_pop_29 ?_
  refine zLald hx hb hK hP 4 3 rfl rfl (by omega) (by decide) dE_pop_32 ?_
  exact zLret (w' := fun (_ : Unit) => (eW A C n ops nums vc vals d st ce pk pv pr w key pl dn tk tr)) () hx hb hr hlk hS hK rfl hP hD dE_pop_33

def hN (w tk vc : Nat) : Nat := if w ≠ 0 ∧ tk < vc then 1 else 0
set_option maxRecDepth 20000 in
set_option maxHeartbeats 4000000 in
theorem c_hasNext (l : Launch) (D : va_G) (A : Nat → Nat) (C : Nat → ClassId) (sz : Nat) (n : Nat) (ops : Nat → Int32) (nums : Nat → Int64) (vc : Nat) (vals : Nat → Int64) (d : Nat) (st : Nat → Int64) (ce : Nat → Int64) (pk : Nat → Int64) (pv : Nat → Int64) (pr : Nat) (w : Nat) (key : Int64) (pl : Nat) (dn : Nat) (tk : Nat) (tr : Nat) (hw2 : w ≤ 2) (hvc : vc ≤ 40) (htk : tk ≤ 40) : Met l yE_hasNext (.code yE_hasNext cE_hasNext 1 (some .boolean) :: WS) (rmk 0 0) (va_Pc [.ref (A 0)] (zP D (eT C) sz (eW A C n ops nums vc vals d st ce pk pv pr w key pl dn tk tr))) (va_Qi (fun (r : Int32) (_ : Unit) => r = nI (hN w tk vc)) (fun (_ : Unit) t => zB D (eT C) (va_A (eW A C n ops nums vc vals d st ce pk pv pr w key pl dn tk tr) sz) (eW A C n ops nums vc vals d st ce pk pv pr w key pl dn tk tr) t) (va_A (eW A C n ops nums vc vals d st ce pk pv pr w key pl dn tk tr) sz)) 0 0 (va_A (eW A C n ops nums vc vals d st ce pk pv pr w key pl dn tk tr) sz) := by
  refine zEnt (Qc := fun F => (va_Qi (fun (r : Int32) (_ : Unit) => r = nI (hN w tk vc)) (fun (_ : Unit) t => zB D (eT C) F (eW A C n ops nums vc vals d st ce pk pv pr w key pl dn tk tr) t) F)) (by decide) (Nat.le_of_ble_eq_true rfl) (fun p e s m below meth c ls F hx hb hr hlk hml hnm hw hown hsz hP hK hD hA hl => ?_)
  have hS : va_S F s.heap s.heap [] := va_S.rf
  have hown : s.vm.findClass RE = some m.cls := hown
  have hl : lv_has ls 1 [(0, .ref (A 0))] := hl
  refine lv_aload_n hx hb dE_hasNext_0 rfl (lv_at hl 0 rfl) ?_
  refine zGetE hx hb hw hown hK hP 0 rfl 11 (by decide) wf_E_106 rfl dE_hasNext_1 ?_
  refine zi_eq (tgt := 22) hx hb dE_hasNext_4 rfl (by omega) (fun h4 => ?_) (fun h4 => ?_)
  · refine lv_iconst (v := nI 0) hx hb dE_hasNext_22 (by decide) ?_
    exact zZret (w' := fun (_ : Unit) => (eW A C n ops nums vc vals d st ce pk pv pr w key pl dn tk tr)) () hx hb hr (by decide) hlk hS hK (congrArg nI (by unfold hN; split <;> omega)) hP hD dE_hasNext_23
  · refine lv_aload_n hx hb dE_hasNext_7 rfl (lv_at hl 0 rfl) ?_
    refine zGetE hx hb hw hown hK hP 0 rfl 15 (by decide) wf_E_95 rfl dE_hasNext_8 ?_
    refine lv_aload_n hx hb dE_hasNext_11 rfl (lv_at hl 0 rfl) ?_
    refine zGetE hx hb hw hown hK hP 0 rfl 4 (by decide) wf_E_52 rfl dE_hasNext_12 ?_
    refine zc_ge (tgt := 22) hx hb dE_hasNext_15 rfl (by omega) (by omega) (fun h15 => ?_) (fun h15 => ?_)
    · refine lv_iconst (v := nI 0) hx hb dE_hasNext_22 (by decide) ?_
      exact zZret (w' := fun (_ : Unit) => (eW A C n ops nums vc vals d st ce pk pv pr w key pl dn tk tr)) () hx hb hr (by decide) hlk hS hK (congrArg nI (by unfold hN; split <;> omega)) hP hD dE_hasNext_23
    · refine lv_iconst (v := nI 1) hx hb dE_hasNext_18 (by decide) ?_
      refine lv_goto (tgt := 23) hx hb dE_hasNext_19 rfl ?_
      exact zZret (w' := fun (_ : Unit) => (eW A C n ops nums vc vals d st ce pk pv pr w key pl dn tk tr)) () hx hb hr (by decide) hlk hS hK (congrArg nI (by unfold hN; split <;> omega)) hP hD dE_hasNext_23

set_option maxRecDepth 20000 in
set_option maxHeartbeats 4000000 in
theorem c_pushValue0_ok (l : Launch) (D : va_G) (A : Nat → Nat) (C : Nat → ClassId) (sz : Nat) (n : Nat) (ops : Nat → Int32) (nums : Nat → Int64) (vc : Nat) (vals : Nat → Int64) (d : Nat) (st : Nat → Int64) (ce : Nat → Int64) (pk : Nat → Int64) (pv : Nat → Int64) (pr : Nat) (w : Nat) (key : Int64) (pl : Nat) (dn : Nat) (tk : Nat) (tr : Nat) (hd : d < 12) (hvc : vc ≤ 40) (htk : tk < vc) : Met l yE_pushValue (.code yE_pushValue cE_pushValue 1 none :: WS) (rmk 1 22) (va_Pc [.ref (A 0)] (zP D (eT C) sz (eW A C n ops nums vc vals d st ce pk pv pr 0 key pl dn tk 0))) (va_Qv (fun _ : Unit => True) (fun (_ : Unit) t => zB D (eT C) (va_A (eW A C n ops nums vc vals d st ce pk pv pr 0 key pl dn tk 0) sz) (eW A C n ops nums vc vals (d + 1) (vp_updL st d (vals tk)) ce pk pv pr 0 key pl dn tk 0) t) (va_A (eW A C n ops nums vc vals d st ce pk pv pr 0 key pl dn tk 0) sz)) 0 0 (va_A (eW A C n ops nums vc vals d st ce pk pv pr 0 key pl dn tk 0) sz) := by
  refine zEnt (Qc := fun F => (va_Qv (fun _ : Unit => True) (fun (_ : Unit) t => zB D (eT C) F (eW A C n ops nums vc vals (d + 1) (vp_updL st d (vals tk)) ce pk pv pr 0 key pl dn tk 0) t) F)) (by decide) (Nat.le_of_ble_eq_true rfl) (fun p e s m below meth c ls F hx hb hr hlk hml hnm hw hown hsz hP hK hD hA hl => ?_)
  have hS : va_S F s.heap s.heap [] := va_S.rf
  have hown : s.vm.findClass RE = some m.cls := hown
  have hl : lv_has ls 1 [(0, .ref (A 0))] := hl
  refine lv_aload_n hx hb dE_pushValue_0 rfl (lv_at hl 0 rfl) ?_
  refine zGetE hx hb hw hown hK hP 0 rfl 15 (by decide) wf_E_95 rfl dE_pushValue_1 ?_
  refine lv_aload_n hx hb dE_pushValue_4 rfl (lv_at hl 0 rfl) ?_
  refine zGetE hx hb hw hown hK hP 0 rfl 4 (by decide) wf_E_52 rfl dE_pushValue_5 ?_
  refine zc_lt (tgt := 17) hx hb dE_pushValue_8 rfl (by omega) (by omega) (fun _ => ?_) (fun q => absurd q (by omega))
  refine lv_aload_n hx hb dE_pushValue_17 rfl (lv_at hl 0 rfl) ?_
  refine lv_aload_n hx hb dE_pushValue_18 rfl (lv_at hl 0 rfl) ?_
  refine zGetE hx hb hw hown hK hP 0 rfl 3 (by decide) wf_E_17 rfl dE_pushValue_19 ?_
  refine lv_aload_n hx hb dE_pushValue_22 rfl (lv_at hl 0 rfl) ?_
  refine zGetE hx hb hw hown hK hP 0 rfl 15 (by decide) wf_E_95 rfl dE_pushValue_23 ?_
  refine zLald hx hb hK hP 3 2 rfl rfl (by omega) (by decide) dE_pushValue_26 ?_
  refine zAftv0 (zRunV0 ⟨hx, hb, hml, hown, hw⟩ (c_push_ok l D A C _ n ops nums vc vals d st ce pk pv pr 0 key pl dn tk 0 (vals tk) (by omega)) wm_E_119 wi_E_push ws_E_push wn_E wc_E_push ⟨rfl, rfl⟩ wd_E_push ⟨by decide, by decide⟩ hK hP hD 0 rfl rfl rfl hl.1 rfl (Nat.le_of_ble_eq_true rfl) dE_pushValue_27 ⟨by decide, by decide⟩) hP hD hS hA (fun u H locs hp hP hD hS => ?_)
  replace hP : va_P D vwCl (eW A C n ops nums vc vals (d + 1) (vp_updL st d (vals tk)) ce pk pv pr 0 key pl dn tk 0) H := hP
  replace hD : va_D F (eW A C n ops nums vc vals (d + 1) (vp_updL st d (vals tk)) ce pk pv pr 0 key pl dn tk 0) := hD
  refine lv_aload_n hx hb dE_pushValue_30 rfl (lv_at hl 0 rfl) ?_
  refine zGetE hx hb hw hown hK hP 0 rfl 16 (by decide) wf_E_72 rfl dE_pushValue_31 ?_
  refine zi_ne (tgt := 54) hx hb dE_pushValue_34 rfl (by omega) (fun q => absurd q (by omega)) (fun _ => ?_)
  refine lv_aload_n hx hb dE_pushValue_37 rfl (lv_at hl 0 rfl) ?_
  refine zGetE hx hb hw hown hK hP 0 rfl 11 (by decide) wf_E_106 rfl dE_pushValue_38 ?_
  refine zi_eq (tgt := 54) hx hb dE_pushValue_41 rfl (by omega) (fun _ => ?_) (fun q => absurd q (by omega))
  exact zVret (w' := fun (_ : Unit) => (eW A C n ops nums vc vals (d + 1) (vp_updL st d (vals tk)) ce pk pv pr 0 key pl dn tk 0)) () hx hb hr hlk hS hK trivial hP hD dE_pushValue_54

set_option maxRecDepth 20000 in
set_option maxHeartbeats 4000000 in
theorem c_pushValue1_ok (l : Launch) (D : va_G) (A : Nat → Nat) (C : Nat → ClassId) (sz : Nat) (n : Nat) (ops : Nat → Int32) (nums : Nat → Int64) (vc : Nat) (vals : Nat → Int64) (d : Nat) (st : Nat → Int64) (ce : Nat → Int64) (pk : Nat → Int64) (pv : Nat → Int64) (pr : Nat) (w : Nat) (key : Int64) (pl : Nat) (dn : Nat) (tk : Nat) (tr : Nat) (hd : d < 12) (hvc : vc ≤ 40) (htk : tk < vc) (hw1 : 0 < w) (hw2 : w ≤ 2) : Met l yE_pushValue (.code yE_pushValue cE_pushValue 1 none :: WS) (rmk 1 22) (va_Pc [.ref (A 0)] (zP D (eT C) sz (eW A C n ops nums vc vals d st ce pk pv pr w key pl dn tk 0))) (va_Qv (fun _ : Unit => True) (fun (_ : Unit) t => zB D (eT C) (va_A (eW A C n ops nums vc vals d st ce pk pv pr w key pl dn tk 0) sz) (eW A C n ops nums vc vals (d + 1) (vp_updL st d (vals tk)) ce pk pv pr w key pl dn (tk + 1) 0) t) (va_A (eW A C n ops nums vc vals d st ce pk pv pr w key pl dn tk 0) sz)) 0 0 (va_A (eW A C n ops nums vc vals d st ce pk pv pr w key pl dn tk 0) sz) := by
  refine zEnt (Qc := fun F => (va_Qv (fun _ : Unit => True) (fun (_ : Unit) t => zB D (eT C) F (eW A C n ops nums vc vals (d + 1) (vp_updL st d (vals tk)) ce pk pv pr w key pl dn (tk + 1) 0) t) F)) (by decide) (Nat.le_of_ble_eq_true rfl) (fun p e s m below meth c ls F hx hb hr hlk hml hnm hw hown hsz hP hK hD hA hl => ?_)
  have hS : va_S F s.heap s.heap [] := va_S.rf
  have hown : s.vm.findClass RE = some m.cls := hown
  have hl : lv_has ls 1 [(0, .ref (A 0))] := hl
  refine lv_aload_n hx hb dE_pushValue_0 rfl (lv_at hl 0 rfl) ?_
  refine zGetE hx hb hw hown hK hP 0 rfl 15 (by decide) wf_E_95 rfl dE_pushValue_1 ?_
  refine lv_aload_n hx hb dE_pushValue_4 rfl (lv_at hl 0 rfl) ?_
  refine zGetE hx hb hw hown hK hP 0 rfl 4 (by decide) wf_E_52 rfl dE_pushValue_5 ?_
  refine zc_lt (tgt := 17) hx hb dE_pushValue_8 rfl (by omega) (by omega) (fun _ => ?_) (fun q => absurd q (by omega))
  refine lv_aload_n hx hb dE_pushValue_17 rfl (lv_at hl 0 rfl) ?_
  refine lv_aload_n hx hb dE_pushValue_18 rfl (lv_at hl 0 rfl) ?_
  refine zGetE hx hb hw hown hK hP 0 rfl 3 (by decide) wf_E_17 rfl dE_pushValue_19 ?_
  refine lv_aload_n hx hb dE_pushValue_22 rfl (lv_at hl 0 rfl) ?_
  refine zGetE hx hb hw hown hK hP 0 rfl 15 (by decide) wf_E_95 rfl dE_pushValue_23 ?_
  refine zLald hx hb hK hP 3 2 rfl rfl (by omega) (by decide) dE_pushValue_26 ?_
  refine zAftv0 (zRunV0 ⟨hx, hb, hml, hown, hw⟩ (c_push_ok l D A C _ n ops nums vc vals d st ce pk pv pr w key pl dn tk 0 (vals tk) (by omega)) wm_E_119 wi_E_push ws_E_push wn_E wc_E_push ⟨rfl, rfl⟩ wd_E_push ⟨by decide, by decide⟩ hK hP hD 0 rfl rfl rfl hl.1 rfl (Nat.le_of_ble_eq_true rfl) dE_pushValue_27 ⟨by decide, by decide⟩) hP hD hS hA (fun u H locs hp hP hD hS => ?_)
  replace hP : va_P D vwCl (eW A C n ops nums vc vals (d + 1) (vp_updL st d (vals tk)) ce pk pv pr w key pl dn tk 0) H := hP
  replace hD : va_D F (eW A C n ops nums vc vals (d + 1) (vp_updL st d (vals tk)) ce pk pv pr w key pl dn tk 0) := hD
  refine lv_aload_n hx hb dE_pushValue_30 rfl (lv_at hl 0 rfl) ?_
  refine zGetE hx hb hw hown hK hP 0 rfl 16 (by decide) wf_E_72 rfl dE_pushValue_31 ?_
  refine zi_ne (tgt := 54) hx hb dE_pushValue_34 rfl (by omega) (fun q => absurd q (by omega)) (fun _ => ?_)
  refine lv_aload_n hx hb dE_pushValue_37 rfl (lv_at hl 0 rfl) ?_
  refine zGetE hx hb hw hown hK hP 0 rfl 11 (by decide) wf_E_106 rfl dE_pushValue_38 ?_
  refine zi_eq (tgt := 54) hx hb dE_pushValue_41 rfl (by omega) (fun q => absurd q (by omega)) (fun _ => ?_)
  refine lv_aload_n hx hb dE_pushValue_44 rfl (lv_at hl 0 rfl) ?_
  refine lv_dup hx hb dE_pushValue_45 rfl ?_
  refine zGetE hx hb hw hown hK hP 0 rfl 15 (by decide) wf_E_95 rfl dE_pushValue_46 ?_
  refine lv_iconst (v := nI 1) hx hb dE_pushValue_49 (by decide) ?_
  refine lv_iadd hx hb dE_pushValue_50 ?_
  refine zti (nI_add _ _) ?_
  refine zPutE hx hb hw hown hK hP hD hS 0 rfl 15 (by decide) wf_E_95 rfl rfl rfl (Nat.le_of_ble_eq_true rfl) dE_pushValue_51 (fun H locs hP hD hS => ?_)
  replace hP : va_P D vwCl (eW A C n ops nums vc vals (d + 1) (vp_updL st d (vals tk)) ce pk pv pr w key pl dn (tk + 1) 0) H := hP
  replace hD : va_D F (eW A C n ops nums vc vals (d + 1) (vp_updL st d (vals tk)) ce pk pv pr w key pl dn (tk + 1) 0) := hD
  exact zVret (w' := fun (_ : Unit) => (eW A C n ops nums vc vals (d + 1) (vp_updL st d (vals tk)) ce pk pv pr w key pl dn (tk + 1) 0)) () hx hb hr hlk hS hK trivial hP hD dE_pushValue_54

set_option maxRecDepth 20000 in
set_option maxHeartbeats 4000000 in
theorem c_pushValue_none (l : Launch) (D : va_G) (A : Nat → Nat) (C : Nat → ClassId) (sz : Nat) (n : Nat) (ops : Nat → Int32) (nums : Nat → Int64) (vc : Nat) (vals : Nat → Int64) (d : Nat) (st : Nat → Int64) (ce : Nat → Int64) (pk : Nat → Int64) (pv : Nat → Int64) (pr : Nat) (w : Nat) (key : Int64) (pl : Nat) (dn : Nat) (tk : Nat) (tr : Nat) (hd : d ≤ 12) (hpl : pl ≤ 40) (hvc : vc ≤ 40) (htk : vc ≤ tk) (htk2 : tk ≤ 40) : Met l yE_pushValue (.code yE_pushValue cE_pushValue 1 none :: WS) (rmk 1 22) (va_Pc [.ref (A 0)] (zP D (eT C) sz (eW A C n ops nums vc vals d st ce pk pv pr w key pl dn tk 0))) (va_Qv (fun u : Nat × (Nat → Int64) × Nat => u.1 ≤ 12 ∧ u.2.2 ≤ 40) (fun (u : Nat × (Nat → Int64) × Nat) t => zB D (eT C) (va_A (eW A C n ops nums vc vals d st ce pk pv pr w key pl dn tk 0) sz) (eW A C n ops nums vc vals u.1 u.2.1 ce pk pv pr w key u.2.2 dn tk 1) t) (va_A (eW A C n ops nums vc vals d st ce pk pv pr w key pl dn tk 0) sz)) 0 0 (va_A (eW A C n ops nums vc vals d st ce pk pv pr w key pl dn tk 0) sz) := by
  refine zEnt (Qc := fun F => (va_Qv (fun u : Nat × (Nat → Int64) × Nat => u.1 ≤ 12 ∧ u.2.2 ≤ 40) (fun (u : Nat × (Nat → Int64) × Nat) t => zB D (eT C) F (eW A C n ops nums vc vals u.1 u.2.1 ce pk pv pr w key u.2.2 dn tk 1) t) F)) (by decide) (Nat.le_of_ble_eq_true rfl) (fun p e s m below meth c ls F hx hb hr hlk hml hnm hw hown hsz hP hK hD hA hl => ?_)
  have hS : va_S F s.heap s.heap [] := va_S.rf
  have hown : s.vm.findClass RE = some m.cls := hown
  have hl : lv_has ls 1 [(0, .ref (A 0))] := hl
  refine lv_aload_n hx hb dE_pushValue_0 rfl (lv_at hl 0 rfl) ?_
  refine zGetE hx hb hw hown hK hP 0 rfl 15 (by decide) wf_E_95 rfl dE_pushValue_1 ?_
  refine lv_aload_n hx hb dE_pushValue_4 rfl (lv_at hl 0 rfl) ?_
  refine zGetE hx hb hw hown hK hP 0 rfl 4 (by decide) wf_E_52 rfl dE_pushValue_5 ?_
  refine zc_lt (tgt := 17) hx hb dE_pushValue_8 rfl (by omega) (by omega) (fun q => absurd q (by omega)) (fun _ => ?_)
  refine lv_aload_n hx hb dE_pushValue_11 rfl (lv_at hl 0 rfl) ?_
  refine lv_iconst (v := nI 1) hx hb dE_pushValue_12 (by decide) ?_
  refine zPutE hx hb hw hown hK hP hD hS 0 rfl 16 (by decide) wf_E_72 rfl rfl rfl (Nat.le_of_ble_eq_true rfl) dE_pushValue_13 (fun H locs hP hD hS => ?_)
  replace hP : va_P D vwCl (eW A C n ops nums vc vals d st ce pk pv pr w key pl dn tk 1) H := hP
  replace hD : va_D F (eW A C n ops nums vc vals d st ce pk pv pr w key pl dn tk 1) := hD
  exact zVret (w' := fun (u : Nat × (Nat → Int64) × Nat) => (eW A C n ops nums vc vals u.1 u.2.1 ce pk pv pr w key u.2.2 dn tk 1)) (d, st, pl) hx hb hr hlk hS hK ⟨by omega, by omega⟩ hP hD dE_pushValue_16

set_option maxRecDepth 20000 in
set_option maxHeartbeats 4000000 in
theorem c_pushValue_full (l : Launch) (D : va_G) (A : Nat → Nat) (C : Nat → ClassId) (sz : Nat) (n : Nat) (ops : Nat → Int32) (nums : Nat → Int64) (vc : Nat) (vals : Nat → Int64) (d : Nat) (st : Nat → Int64) (ce : Nat → Int64) (pk : Nat → Int64) (pv : Nat → Int64) (pr : Nat) (w : Nat) (key : Int64) (pl : Nat) (dn : Nat) (tk : Nat) (tr : Nat) (hd : d ≤ 12) (hpl : pl ≤ 40) (hvc : vc ≤ 40) (htk : tk < vc) (hf : d = 12) : Met l yE_pushValue (.code yE_pushValue cE_pushValue 1 none :: WS) (rmk 1 22) (va_Pc [.ref (A 0)] (zP D (eT C) sz (eW A C n ops nums vc vals d st ce pk pv pr w key pl dn tk 0))) (va_Qv (fun u : Nat × (Nat → Int64) × Nat => u.1 ≤ 12 ∧ u.2.2 ≤ 40) (fun (u : Nat × (Nat → Int64) × Nat) t => zB D (eT C) (va_A (eW A C n ops nums vc vals d st ce pk pv pr w key pl dn tk 0) sz) (eW A C n ops nums vc vals u.1 u.2.1 ce pk pv pr w key u.2.2 dn tk 1) t) (va_A (eW A C n ops nums vc vals d st ce pk pv pr w key pl dn tk 0) sz)) 0 0 (va_A (eW A C n ops nums vc vals d st ce pk pv pr w key pl dn tk 0) sz) := by
  refine zEnt (Qc := fun F => (va_Qv (fun u : Nat × (Nat → Int64) × Nat => u.1 ≤ 12 ∧ u.2.2 ≤ 40) (fun (u : Nat × (Nat → Int64) × Nat) t => zB D (eT C) F (eW A C n ops nums vc vals u.1 u.2.1 ce pk pv pr w key u.2.2 dn tk 1) t) F)) (by decide) (Nat.le_of_ble_eq_true rfl) (fun p e s m below meth c ls F hx hb hr hlk hml hnm hw hown hsz hP hK hD hA hl => ?_)
  have hS : va_S F s.heap s.heap [] := va_S.rf
  have hown : s.vm.findClass RE = some m.cls := hown
  have hl : lv_has ls 1 [(0, .ref (A 0))] := hl
  refine lv_aload_n hx hb dE_pushValue_0 rfl (lv_at hl 0 rfl) ?_
  refine zGetE hx hb hw hown hK hP 0 rfl 15 (by decide) wf_E_95 rfl dE_pushValue_1 ?_
  refine lv_aload_n hx hb dE_pushValue_4 rfl (lv_at hl 0 rfl) ?_
  refine zGetE hx hb hw hown hK hP 0 rfl 4 (by decide) wf_E_52 rfl dE_pushValue_5 ?_
  refine zc_lt (tgt := 17) hx hb dE_pushValue_8 rfl (by omega) (by omega) (fun _ => ?_) (fun q => absurd q (by omega))
  refine lv_aload_n hx hb dE_pushValue_17 rfl (lv_at hl 0 rfl) ?_
  refine lv_aload_n hx hb dE_pushValue_18 rfl (lv_at hl 0 rfl) ?_
  refine zGetE hx hb hw hown hK hP 0 rfl 3 (by decide) wf_E_17 rfl dE_pushValue_19 ?_
  refine lv_aload_n hx hb dE_pushValue_22 rfl (lv_at hl 0 rfl) ?_
  refine zGetE hx hb hw hown hK hP 0 rfl 15 (by decide) wf_E_95 rfl dE_pushValue_23 ?_
  refine zLald hx hb hK hP 3 2 rfl rfl (by omega) (by decide) dE_pushValue_26 ?_
  refine zAftv0 (zRunV0 ⟨hx, hb, hml, hown, hw⟩ (c_push l D A C _ n ops nums vc vals d st ce pk pv pr w key pl dn tk 0 (vals tk) (by omega)) wm_E_119 wi_E_push ws_E_push wn_E wc_E_push ⟨rfl, rfl⟩ wd_E_push ⟨by decide, by decide⟩ hK hP hD 0 rfl rfl rfl hl.1 rfl (Nat.le_of_ble_eq_true rfl) dE_pushValue_27 ⟨by decide, by decide⟩) hP hD hS hA (fun u H locs hp hP hD hS => ?_)
  replace hP : va_P D vwCl (eW A C n ops nums vc vals (pD d) (pS (vals tk) d st) ce pk pv pr w key pl dn tk (pT d 0)) H := hP
  replace hD : va_D F (eW A C n ops nums vc vals (pD d) (pS (vals tk) d st) ce pk pv pr w key pl dn tk (pT d 0)) := hD
  refine lv_aload_n hx hb dE_pushValue_30 rfl (lv_at hl 0 rfl) ?_
  refine zGetE hx hb hw hown hK hP 0 rfl 16 (by decide) wf_E_72 rfl dE_pushValue_31 ?_
  refine zi_ne (tgt := 54) hx hb dE_pushValue_34 rfl (by simp only [pT, qT, pD, hN]; (repeat' split) <;> omega) (fun _ => ?_) (fun q => absurd q (by simp only [pT]; (repeat' split) <;> omega))
  have e9 : (pT d 0) = 1 := by simp only [pT, qT, pD]; (repeat' split) <;> omega
  rw [e9] at hP hD
  exact zVret (w' := fun (u : Nat × (Nat → Int64) × Nat) => (eW A C n ops nums vc vals u.1 u.2.1 ce pk pv pr w key u.2.2 dn tk 1)) (pD d, pS (vals tk) d st, pl) hx hb hr hlk hS hK ⟨by simp only [pD]; (repeat' split) <;> omega, by omega⟩ hP hD dE_pushValue_54

set_option maxRecDepth 20000 in
set_option maxHeartbeats 4000000 in
theorem c_popCell_ok (l : Launch) (D : va_G) (A : Nat → Nat) (C : Nat → ClassId) (sz : Nat) (n : Nat) (ops : Nat → Int32) (nums : Nat → Int64) (vc : Nat) (vals : Nat → Int64) (d : Nat) (st : Nat → Int64) (ce : Nat → Int64) (pk : Nat → Int64) (pv : Nat → Int64) (pr : Nat) (w : Nat) (key : Int64) (pl : Nat) (dn : Nat) (tk : Nat) (tr : Nat) (j : Nat) (hd : d < 12) (hj : j < 4) : Met l yE_popCell (.code yE_popCell cE_popCell 4 none :: WS) (rmk 1 22) (va_Pc [.ref (A 0), .int (nI j)] (zP D (eT C) sz (eW A C n ops nums vc vals (d + 1) st ce pk pv pr w key pl dn tk 0))) (va_Qv (fun _ : Unit => True) (fun (_ : Unit) t => zB D (eT C) (va_A (eW A C n ops nums vc vals (d + 1) st ce pk pv pr w key pl dn tk 0) sz) (eW A C n ops nums vc vals d st (vp_updL ce j (st d)) pk pv pr w key pl dn tk 0) t) (va_A (eW A C n ops nums vc vals (d + 1) st ce pk pv pr w key pl dn tk 0) sz)) 0 0 (va_A (eW A C n ops nums vc vals (d + 1) st ce pk pv pr w key pl dn tk 0) sz) := by
  refine zEnt (Qc := fun F => (va_Qv (fun _ : Unit => True) (fun (_ : Unit) t => zB D (eT C) F (eW A C n ops nums vc vals d st (vp_updL ce j (st d)) pk pv pr w key pl dn tk 0) t) F)) (by decide) (Nat.le_of_ble_eq_true rfl) (fun p e s m below meth c ls F hx hb hr hlk hml hnm hw hown hsz hP hK hD hA hl => ?_)
  have hS : va_S F s.heap s.heap [] := va_S.rf
  have hown : s.vm.findClass RE = some m.cls := hown
  have hl : lv_has ls 4 [(0, .ref (A 0)), (1, .int (nI j))] := hl
  refine lv_aload_n hx hb dE_popCell_0 rfl (lv_at hl 0 rfl) ?_
  refine zAftl0 (zRunV0 ⟨hx, hb, hml, hown, hw⟩ (c_pop_ok l D A C _ n ops nums vc vals d st ce pk pv pr w key pl dn tk 0 (by omega)) wm_E_136 wi_E_pop ws_E_pop wn_E wc_E_pop ⟨rfl, rfl⟩ wd_E_pop ⟨by decide, by decide⟩ hK hP hD 0 rfl rfl rfl hl.1 rfl (Nat.le_of_ble_eq_true rfl) dE_popCell_1 ⟨by decide, by decide⟩) hP hD hS hA (fun r u H locs hp hP hD hS => ?_)
  replace hP : va_P D vwCl (eW A C n ops nums vc vals d st ce pk pv pr w key pl dn tk 0) H := hP
  replace hD : va_D F (eW A C n ops nums vc vals d st ce pk pv pr w key pl dn tk 0) := hD
  subst hp
  refine lv_lstore_n hx hb dE_popCell_4 rfl hl (by decide) rfl (fun ls hl => ?_)
  have hl : lv_has ls 4 [(2, .long (st d)), (0, .ref (A 0)), (1, .int (nI j))] := hl
  refine lv_aload_n hx hb dE_popCell_5 rfl (lv_at hl 1 rfl) ?_
  refine zGetE hx hb hw hown hK hP 0 rfl 16 (by decide) wf_E_72 rfl dE_popCell_6 ?_
  refine zi_ne (tgt := 19) hx hb dE_popCell_9 rfl (by omega) (fun q => absurd q (by omega)) (fun _ => ?_)
  refine lv_aload_n hx hb dE_popCell_12 rfl (lv_at hl 1 rfl) ?_
  refine zGetE hx hb hw hown hK hP 0 rfl 7 (by decide) wf_E_23 rfl dE_popCell_13 ?_
  refine lv_iload_n hx hb dE_popCell_16 rfl (lv_at hl 2 rfl) ?_
  refine lv_lload_n hx hb dE_popCell_17 rfl (lv_at hl 0 rfl) ?_
  refine zLast hx hb hK hP hD hS 5 4 rfl rfl (by omega) (by decide) dE_popCell_18 (fun H locs hP hD hS => ?_)
  replace hP : va_P D vwCl (eW A C n ops nums vc vals d st (vp_updL ce j (st d)) pk pv pr w key pl dn tk 0) H := hP
  replace hD : va_D F (eW A C n ops nums vc vals d st (vp_updL ce j (st d)) pk pv pr w key pl dn tk 0) := hD
  exact zVret (w' := fun (_ : Unit) => (eW A C n ops nums vc vals d st (vp_updL ce j (st d)) pk pv pr w key pl dn tk 0)) () hx hb hr hlk hS hK trivial hP hD dE_popCell_19

set_option maxRecDepth 20000 in
set_option maxHeartbeats 4000000 in
theorem c_popCell_trap (l : Launch) (D : va_G) (A : Nat → Nat) (C : Nat → ClassId) (sz : Nat) (n : Nat) (ops : Nat → Int32) (nums : Nat → Int64) (vc : Nat) (vals : Nat → Int64) (d : Nat) (st : Nat → Int64) (ce : Nat → Int64) (pk : Nat → Int64) (pv : Nat → Int64) (pr : Nat) (w : Nat) (key : Int64) (pl : Nat) (dn : Nat) (tk : Nat) (tr : Nat) (j : Nat) (hd : d ≤ 12) (hpl : pl ≤ 40) (hj : j < 4) (h0 : d = 0) : Met l yE_popCell (.code yE_popCell cE_popCell 4 none :: WS) (rmk 1 22) (va_Pc [.ref (A 0), .int (nI j)] (zP D (eT C) sz (eW A C n ops nums vc vals d st ce pk pv pr w key pl dn tk 0))) (va_Qv (fun u : Nat × (Nat → Int64) × Nat => u.1 ≤ 12 ∧ u.2.2 ≤ 40) (fun (u : Nat × (Nat → Int64) × Nat) t => zB D (eT C) (va_A (eW A C n ops nums vc vals d st ce pk pv pr w key pl dn tk 0) sz) (eW A C n ops nums vc vals u.1 u.2.1 ce pk pv pr w key u.2.2 dn tk 1) t) (va_A (eW A C n ops nums vc vals d st ce pk pv pr w key pl dn tk 0) sz)) 0 0 (va_A (eW A C n ops nums vc vals d st ce pk pv pr w key pl dn tk 0) sz) := by
  refine zEnt (Qc := fun F => (va_Qv (fun u : Nat × (Nat → Int64) × Nat => u.1 ≤ 12 ∧ u.2.2 ≤ 40) (fun (u : Nat × (Nat → Int64) × Nat) t => zB D (eT C) F (eW A C n ops nums vc vals u.1 u.2.1 ce pk pv pr w key u.2.2 dn tk 1) t) F)) (by decide) (Nat.le_of_ble_eq_true rfl) (fun p e s m below meth c ls F hx hb hr hlk hml hnm hw hown hsz hP hK hD hA hl => ?_)
  have hS : va_S F s.heap s.heap [] := va_S.rf
  have hown : s.vm.findClass RE = some m.cls := hown
  have hl : lv_has ls 4 [(0, .ref (A 0)), (1, .int (nI j))] := hl
  refine lv_aload_n hx hb dE_popCell_0 rfl (lv_at hl 0 rfl) ?_
  refine zAftl0 (zRunV0 ⟨hx, hb, hml, hown, hw⟩ (c_pop l D A C _ n ops nums vc vals d st ce pk pv pr w key pl dn tk 0 (by omega)) wm_E_136 wi_E_pop ws_E_pop wn_E wc_E_pop ⟨rfl, rfl⟩ wd_E_pop ⟨by decide, by decide⟩ hK hP hD 0 rfl rfl rfl hl.1 rfl (Nat.le_of_ble_eq_true rfl) dE_popCell_1 ⟨by decide, by decide⟩) hP hD hS hA (fun r u H locs hp hP hD hS => ?_)
  replace hP : va_P D vwCl (eW A C n ops nums vc vals (d - 1) st ce pk pv pr w key pl dn tk (qT d 0)) H := hP
  replace hD : va_D F (eW A C n ops nums vc vals (d - 1) st ce pk pv pr w key pl dn tk (qT d 0)) := hD
  subst hp
  refine lv_lstore_n hx hb dE_popCell_4 rfl hl (by decide) rfl (fun ls hl => ?_)
  have hl : lv_has ls 4 [(2, .long (qV d st)), (0, .ref (A 0)), (1, .int (nI j))] := hl
  refine lv_aload_n hx hb dE_popCell_5 rfl (lv_at hl 1 rfl) ?_
  refine zGetE hx hb hw hown hK hP 0 rfl 16 (by decide) wf_E_72 rfl dE_popCell_6 ?_
  refine zi_ne (tgt := 19) hx hb dE_popCell_9 rfl (by simp only [pT, qT, pD, hN]; (repeat' split) <;> omega) (fun _ => ?_) (fun q => absurd q (by simp only [qT]; (repeat' split) <;> omega))
  have e9 : (qT d 0) = 1 := by simp only [pT, qT, pD]; (repeat' split) <;> omega
  rw [e9] at hP hD
  exact zVret (w' := fun (u : Nat × (Nat → Int64) × Nat) => (eW A C n ops nums vc vals u.1 u.2.1 ce pk pv pr w key u.2.2 dn tk 1)) (d - 1, st, pl) hx hb hr hlk hS hK ⟨by omega, by omega⟩ hP hD dE_popCell_19

set_option maxRecDepth 20000 in
set_option maxHeartbeats 4000000 in
theorem c_doubleTop_ok (l : Launch) (D : va_G) (A : Nat → Nat) (C : Nat → ClassId) (sz : Nat) (n : Nat) (ops : Nat → Int32) (nums : Nat → Int64) (vc : Nat) (vals : Nat → Int64) (d : Nat) (st : Nat → Int64) (ce : Nat → Int64) (pk : Nat → Int64) (pv : Nat → Int64) (pr : Nat) (w : Nat) (key : Int64) (pl : Nat) (dn : Nat) (tk : Nat) (tr : Nat) (hd : d < 11) : Met l yE_doubleTop (.code yE_doubleTop cE_doubleTop 3 none :: WS) (rmk 1 22) (va_Pc [.ref (A 0)] (zP D (eT C) sz (eW A C n ops nums vc vals (d + 1) st ce pk pv pr w key pl dn tk 0))) (va_Qv (fun _ : Unit => True) (fun (_ : Unit) t => zB D (eT C) (va_A (eW A C n ops nums vc vals (d + 1) st ce pk pv pr w key pl dn tk 0) sz) (eW A C n ops nums vc vals (d + 1 + 1) (vp_updL (vp_updL st d (st d)) (d + 1) (st d)) ce pk pv pr w key pl dn tk 0) t) (va_A (eW A C n ops nums vc vals (d + 1) st ce pk pv pr w key pl dn tk 0) sz)) 0 0 (va_A (eW A C n ops nums vc vals (d + 1) st ce pk pv pr w key pl dn tk 0) sz) := by
  refine zEnt (Qc := fun F => (va_Qv (fun _ : Unit => True) (fun (_ : Unit) t => zB D (eT C) F (eW A C n ops nums vc vals (d + 1 + 1) (vp_updL (vp_updL st d (st d)) (d + 1) (st d)) ce pk pv pr w key pl dn tk 0) t) F)) (by decide) (Nat.le_of_ble_eq_true rfl) (fun p e s m below meth c ls F hx hb hr hlk hml hnm hw hown hsz hP hK hD hA hl => ?_)
  have hS : va_S F s.heap s.heap [] := va_S.rf
  have hown : s.vm.findClass RE = some m.cls := hown
  have hl : lv_has ls 3 [(0, .ref (A 0))] := hl
  refine lv_aload_n hx hb dE_doubleTop_0 rfl (lv_at hl 0 rfl) ?_
  refine zAftl0 (zRunV0 ⟨hx, hb, hml, hown, hw⟩ (c_pop_ok l D A C _ n ops nums vc vals d st ce pk pv pr w key pl dn tk 0 (by omega)) wm_E_136 wi_E_pop ws_E_pop wn_E wc_E_pop ⟨rfl, rfl⟩ wd_E_pop ⟨by decide, by decide⟩ hK hP hD 0 rfl rfl rfl hl.1 rfl (Nat.le_of_ble_eq_true rfl) dE_doubleTop_1 ⟨by decide, by decide⟩) hP hD hS hA (fun r u H locs hp hP hD hS => ?_)
  replace hP : va_P D vwCl (eW A C n ops nums vc vals d st ce pk pv pr w key pl dn tk 0) H := hP
  replace hD : va_D F (eW A C n ops nums vc vals d st ce pk pv pr w key pl dn tk 0) := hD
  subst hp
  refine lv_lstore_n hx hb dE_doubleTop_4 rfl hl (by decide) rfl (fun ls hl => ?_)
  have hl : lv_has ls 3 [(1, .long (st d)), (0, .ref (A 0))] := hl
  refine lv_aload_n hx hb dE_doubleTop_5 rfl (lv_at hl 1 rfl) ?_
  refine lv_lload_n hx hb dE_doubleTop_6 rfl (lv_at hl 0 rfl) ?_
  refine zAftv0 (zRunV0 ⟨hx, hb, hml, hown, hw⟩ (c_push_ok l D A C _ n ops nums vc vals d st ce pk pv pr w key pl dn tk 0 (st d) (by omega)) wm_E_119 wi_E_push ws_E_push wn_E wc_E_push ⟨rfl, rfl⟩ wd_E_push ⟨by decide, by decide⟩ hK hP hD 0 rfl rfl rfl hl.1 rfl (Nat.le_of_ble_eq_true rfl) dE_doubleTop_7 ⟨by decide, by decide⟩) hP hD hS hA (fun u H locs hp hP hD hS => ?_)
  replace hP : va_P D vwCl (eW A C n ops nums vc vals (d + 1) (vp_updL st d (st d)) ce pk pv pr w key pl dn tk 0) H := hP
  replace hD : va_D F (eW A C n ops nums vc vals (d + 1) (vp_updL st d (st d)) ce pk pv pr w key pl dn tk 0) := hD
  refine lv_aload_n hx hb dE_doubleTop_10 rfl (lv_at hl 1 rfl) ?_
  refine lv_lload_n hx hb dE_doubleTop_11 rfl (lv_at hl 0 rfl) ?_
  refine zAftv0 (zRunV0 ⟨hx, hb, hml, hown, hw⟩ (c_push_ok l D A C _ n ops nums vc vals (d + 1) (vp_updL st d (st d)) ce pk pv pr w key pl dn tk 0 (st d) (by omega)) wm_E_119 wi_E_push ws_E_push wn_E wc_E_push ⟨rfl, rfl⟩ wd_E_push ⟨by decide, by decide⟩ hK hP hD 0 rfl rfl rfl hl.1 rfl (Nat.le_of_ble_eq_true rfl) dE_doubleTop_12 ⟨by decide, by decide⟩) hP hD hS hA (fun u H locs hp hP hD hS => ?_)
  replace hP : va_P D vwCl (eW A C n ops nums vc vals (d + 1 + 1) (vp_updL (vp_updL st d (st d)) (d + 1) (st d)) ce pk pv pr w key pl dn tk 0) H := hP
  replace hD : va_D F (eW A C n ops nums vc vals (d + 1 + 1) (vp_updL (vp_updL st d (st d)) (d + 1) (st d)) ce pk pv pr w key pl dn tk 0) := hD
  exact zVret (w' := fun (_ : Unit) => (eW A C n ops nums vc vals (d + 1 + 1) (vp_updL (vp_updL st d (st d)) (d + 1) (st d)) ce pk pv pr w key pl dn tk 0)) () hx hb hr hlk hS hK trivial hP hD dE_doubleTop_15

set_option maxRecDepth 20000 in
set_option maxHeartbeats 4000000 in
theorem c_doubleTop_trap (l : Launch) (D : va_G) (A : Nat → Nat) (C : Nat → ClassId) (sz : Nat) (n : Nat) (ops : Nat → Int32) (nums : Nat → Int64) (vc : Nat) (vals : Nat → Int64) (d : Nat) (st : Nat → Int64) (ce : Nat → Int64) (pk : Nat → Int64) (pv : Nat → Int64) (pr : Nat) (w : Nat) (key : Int64) (pl : Nat) (dn : Nat) (tk : Nat) (tr : Nat) (hd : d ≤ 12) (hpl : pl ≤ 40) (h0 : d = 0 ∨ d = 12) : Met l yE_doubleTop (.code yE_doubleTop cE_doubleTop 3 none :: WS) (rmk 1 22) (va_Pc [.ref (A 0)] (zP D (eT C) sz (eW A C n ops nums vc vals d st ce pk pv pr w key pl dn tk 0))) (va_Qv (fun u : Nat × (Nat → Int64) × Nat => u.1 ≤ 12 ∧ u.2.2 ≤ 40) (fun (u : Nat × (Nat → Int64) × Nat) t => zB D (eT C) (va_A (eW A C n ops nums vc vals d st ce pk pv pr w key pl dn tk 0) sz) (eW A C n ops nums vc vals u.1 u.2.1 ce pk pv pr w key u.2.2 dn tk 1) t) (va_A (eW A C n ops nums vc vals d st ce pk pv pr w key pl dn tk 0) sz)) 0 0 (va_A (eW A C n ops nums vc vals d st ce pk pv pr w key pl dn tk 0) sz) := by
  refine zEnt (Qc := fun F => (va_Qv (fun u : Nat × (Nat → Int64) × Nat => u.1 ≤ 12 ∧ u.2.2 ≤ 40) (fun (u : Nat × (Nat → Int64) × Nat) t => zB D (eT C) F (eW A C n ops nums vc vals u.1 u.2.1 ce pk pv pr w key u.2.2 dn tk 1) t) F)) (by decide) (Nat.le_of_ble_eq_true rfl) (fun p e s m below meth c ls F hx hb hr hlk hml hnm hw hown hsz hP hK hD hA hl => ?_)
  have hS : va_S F s.heap s.heap [] := va_S.rf
  have hown : s.vm.findClass RE = some m.cls := hown
  have hl : lv_has ls 3 [(0, .ref (A 0))] := hl
  refine lv_aload_n hx hb dE_doubleTop_0 rfl (lv_at hl 0 rfl) ?_
  refine zAftl0 (zRunV0 ⟨hx, hb, hml, hown, hw⟩ (c_pop l D A C _ n ops nums vc vals d st ce pk pv pr w key pl dn tk 0 (by omega)) wm_E_136 wi_E_pop ws_E_pop wn_E wc_E_pop ⟨rfl, rfl⟩ wd_E_pop ⟨by decide, by decide⟩ hK hP hD 0 rfl rfl rfl hl.1 rfl (Nat.le_of_ble_eq_true rfl) dE_doubleTop_1 ⟨by decide, by decide⟩) hP hD hS hA (fun r u H locs hp hP hD hS => ?_)
  replace hP : va_P D vwCl (eW A C n ops nums vc vals (d - 1) st ce pk pv pr w key pl dn tk (qT d 0)) H := hP
  replace hD : va_D F (eW A C n ops nums vc vals (d - 1) st ce pk pv pr w key pl dn tk (qT d 0)) := hD
  subst hp
  refine lv_lstore_n hx hb dE_doubleTop_4 rfl hl (by decide) rfl (fun ls hl => ?_)
  have hl : lv_has ls 3 [(1, .long (qV d st)), (0, .ref (A 0))] := hl
  refine lv_aload_n hx hb dE_doubleTop_5 rfl (lv_at hl 1 rfl) ?_
  refine lv_lload_n hx hb dE_doubleTop_6 rfl (lv_at hl 0 rfl) ?_
  refine zAftv0 (zRunV0 ⟨hx, hb, hml, hown, hw⟩ (c_push l D A C _ n ops nums vc vals (d - 1) st ce pk pv pr w key pl dn tk (qT d 0) (qV d st) (by omega)) wm_E_119 wi_E_push ws_E_push wn_E wc_E_push ⟨rfl, rfl⟩ wd_E_push ⟨by decide, by decide⟩ hK hP hD 0 rfl rfl rfl hl.1 rfl (Nat.le_of_ble_eq_true rfl) dE_doubleTop_7 ⟨by decide, by decide⟩) hP hD hS hA (fun u H locs hp hP hD hS => ?_)
  replace hP : va_P D vwCl (eW A C n ops nums vc vals (pD (d - 1)) (pS (qV d st) (d - 1) st) ce pk pv pr w key pl dn tk (pT (d - 1) (qT d 0))) H := hP
  replace hD : va_D F (eW A C n ops nums vc vals (pD (d - 1)) (pS (qV d st) (d - 1) st) ce pk pv pr w key pl dn tk (pT (d - 1) (qT d 0))) := hD
  refine lv_aload_n hx hb dE_doubleTop_10 rfl (lv_at hl 1 rfl) ?_
  refine lv_lload_n hx hb dE_doubleTop_11 rfl (lv_at hl 0 rfl) ?_
  refine zAftv0 (zRunV0 ⟨hx, hb, hml, hown, hw⟩ (c_push l D A C _ n ops nums vc vals (pD (d - 1)) (pS (qV d st) (d - 1) st) ce pk pv pr w key pl dn tk (pT (d - 1) (qT d 0)) (qV d st) (by simp only [pD]; (repeat' split) <;> omega)) wm_E_119 wi_E_push ws_E_push wn_E wc_E_push ⟨rfl, rfl⟩ wd_E_push ⟨by decide, by decide⟩ hK hP hD 0 rfl rfl rfl hl.1 rfl (Nat.le_of_ble_eq_true rfl) dE_doubleTop_12 ⟨by decide, by decide⟩) hP hD hS hA (fun u H locs hp hP hD hS => ?_)
  replace hP : va_P D vwCl (eW A C n ops nums vc vals (pD (pD (d - 1))) (pS (qV d st) (pD (d - 1)) (pS (qV d st) (d - 1) st)) ce pk pv pr w key pl dn tk (pT (pD (d - 1)) (pT (d - 1) (qT d 0)))) H := hP
  replace hD : va_D F (eW A C n ops nums vc vals (pD (pD (d - 1))) (pS (qV d st) (pD (d - 1)) (pS (qV d st) (d - 1) st)) ce pk pv pr w key pl dn tk (pT (pD (d - 1)) (pT (d - 1) (qT d 0)))) := hD
  have e9 : (pT (pD (d - 1)) (pT (d - 1) (qT d 0))) = 1 := by simp only [pT, qT, pD]; (repeat' split) <;> omega
  rw [e9] at hP hD
  exact zVret (w' := fun (u : Nat × (Nat → Int64) × Nat) => (eW A C n ops nums vc vals u.1 u.2.1 ce pk pv pr w key u.2.2 dn tk 1)) (pD (pD (d - 1)), pS (qV d st) (pD (d - 1)) (pS (qV d st) (d - 1) st), pl) hx hb hr hlk hS hK ⟨by simp only [pD]; (repeat' split) <;> omega, by omega⟩ hP hD dE_doubleTop_15

set_option maxRecDepth 20000 in
set_option maxHeartbeats 4000000 in
theorem c_changeTwo_ok (l : Launch) (D : va_G) (A : Nat → Nat) (C : Nat → ClassId) (sz : Nat) (n : Nat) (ops : Nat → Int32) (nums : Nat → Int64) (vc : Nat) (vals : Nat → Int64) (d : Nat) (st : Nat → Int64) (ce : Nat → Int64) (pk : Nat → Int64) (pv : Nat → Int64) (pr : Nat) (w : Nat) (key : Int64) (pl : Nat) (dn : Nat) (tk : Nat) (tr : Nat) (hd : d < 11) : Met l yE_changeTwo (.code yE_changeTwo cE_changeTwo 5 none :: WS) (rmk 1 22) (va_Pc [.ref (A 0)] (zP D (eT C) sz (eW A C n ops nums vc vals (d + 1 + 1) st ce pk pv pr w key pl dn tk 0))) (va_Qv (fun _ : Unit => True) (fun (_ : Unit) t => zB D (eT C) (va_A (eW A C n ops nums vc vals (d + 1 + 1) st ce pk pv pr w key pl dn tk 0) sz) (eW A C n ops nums vc vals (d + 1 + 1) (vp_updL (vp_updL st d (st (d + 1))) (d + 1) (st d)) ce pk pv pr w key pl dn tk 0) t) (va_A (eW A C n ops nums vc vals (d + 1 + 1) st ce pk pv pr w key pl dn tk 0) sz)) 0 0 (va_A (eW A C n ops nums vc vals (d + 1 + 1) st ce pk pv pr w key pl dn tk 0) sz) := by
  refine zEnt (Qc := fun F => (va_Qv (fun _ : Unit => True) (fun (_ : Unit) t => zB D (eT C) F (eW A C n ops nums vc vals (d + 1 + 1) (vp_updL (vp_updL st d (st (d + 1))) (d + 1) (st d)) ce pk pv pr w key pl dn tk 0) t) F)) (by decide) (Nat.le_of_ble_eq_true rfl) (fun p e s m below meth c ls F hx hb hr hlk hml hnm hw hown hsz hP hK hD hA hl => ?_)
  have hS : va_S F s.heap s.heap [] := va_S.rf
  have hown : s.vm.findClass RE = some m.cls := hown
  have hl : lv_has ls 5 [(0, .ref (A 0))] := hl
  refine lv_aload_n hx hb dE_changeTwo_0 rfl (lv_at hl 0 rfl) ?_
  refine zAftl0 (zRunV0 ⟨hx, hb, hml, hown, hw⟩ (c_pop_ok l D A C _ n ops nums vc vals (d + 1) st ce pk pv pr w key pl dn tk 0 (by omega)) wm_E_136 wi_E_pop ws_E_pop wn_E wc_E_pop ⟨rfl, rfl⟩ wd_E_pop ⟨by decide, by decide⟩ hK hP hD 0 rfl rfl rfl hl.1 rfl (Nat.le_of_ble_eq_true rfl) dE_changeTwo_1 ⟨by decide, by decide⟩) hP hD hS hA (fun r u H locs hp hP hD hS => ?_)
  replace hP : va_P D vwCl (eW A C n ops nums vc vals (d + 1) st ce pk pv pr w key pl dn tk 0) H := hP
  replace hD : va_D F (eW A C n ops nums vc vals (d + 1) st ce pk pv pr w key pl dn tk 0) := hD
  subst hp
  refine lv_lstore_n hx hb dE_changeTwo_4 rfl hl (by decide) rfl (fun ls hl => ?_)
  have hl : lv_has ls 5 [(1, .long (st (d + 1))), (0, .ref (A 0))] := hl
  refine lv_aload_n hx hb dE_changeTwo_5 rfl (lv_at hl 1 rfl) ?_
  refine zAftl0 (zRunV0 ⟨hx, hb, hml, hown, hw⟩ (c_pop_ok l D A C _ n ops nums vc vals d st ce pk pv pr w key pl dn tk 0 (by omega)) wm_E_136 wi_E_pop ws_E_pop wn_E wc_E_pop ⟨rfl, rfl⟩ wd_E_pop ⟨by decide, by decide⟩ hK hP hD 0 rfl rfl rfl hl.1 rfl (Nat.le_of_ble_eq_true rfl) dE_changeTwo_6 ⟨by decide, by decide⟩) hP hD hS hA (fun r u H locs hp hP hD hS => ?_)
  replace hP : va_P D vwCl (eW A C n ops nums vc vals d st ce pk pv pr w key pl dn tk 0) H := hP
  replace hD : va_D F (eW A C n ops nums vc vals d st ce pk pv pr w key pl dn tk 0) := hD
  subst hp
  refine lv_lstore_n hx hb dE_changeTwo_9 rfl hl (by decide) rfl (fun ls hl => ?_)
  have hl : lv_has ls 5 [(3, .long (st d)), (1, .long (st (d + 1))), (0, .ref (A 0))] := hl
  refine lv_aload_n hx hb dE_changeTwo_10 rfl (lv_at hl 2 rfl) ?_
  refine lv_lload_n hx hb dE_changeTwo_11 rfl (lv_at hl 1 rfl) ?_
  refine zAftv0 (zRunV0 ⟨hx, hb, hml, hown, hw⟩ (c_push_ok l D A C _ n ops nums vc vals d st ce pk pv pr w key pl dn tk 0 (st (d + 1)) (by omega)) wm_E_119 wi_E_push ws_E_push wn_E wc_E_push ⟨rfl, rfl⟩ wd_E_push ⟨by decide, by decide⟩ hK hP hD 0 rfl rfl rfl hl.1 rfl (Nat.le_of_ble_eq_true rfl) dE_changeTwo_12 ⟨by decide, by decide⟩) hP hD hS hA (fun u H locs hp hP hD hS => ?_)
  replace hP : va_P D vwCl (eW A C n ops nums vc vals (d + 1) (vp_updL st d (st (d + 1))) ce pk pv pr w key pl dn tk 0) H := hP
  replace hD : va_D F (eW A C n ops nums vc vals (d + 1) (vp_updL st d (st (d + 1))) ce pk pv pr w key pl dn tk 0) := hD
  refine lv_aload_n hx hb dE_changeTwo_15 rfl (lv_at hl 2 rfl) ?_
  refine lv_lload_n hx hb dE_changeTwo_16 rfl (lv_at hl 0 rfl) ?_
  refine zAftv0 (zRunV0 ⟨hx, hb, hml, hown, hw⟩ (c_push_ok l D A C _ n ops nums vc vals (d + 1) (vp_updL st d (st (d + 1))) ce pk pv pr w key pl dn tk 0 (st d) (by omega)) wm_E_119 wi_E_push ws_E_push wn_E wc_E_push ⟨rfl, rfl⟩ wd_E_push ⟨by decide, by decide⟩ hK hP hD 0 rfl rfl rfl hl.1 rfl (Nat.le_of_ble_eq_true rfl) dE_changeTwo_17 ⟨by decide, by decide⟩) hP hD hS hA (fun u H locs hp hP hD hS => ?_)
  replace hP : va_P D vwCl (eW A C n ops nums vc vals (d + 1 + 1) (vp_updL (vp_updL st d (st (d + 1))) (d + 1) (st d)) ce pk pv pr w key pl dn tk 0) H := hP
  replace hD : va_D F (eW A C n ops nums vc vals (d + 1 + 1) (vp_updL (vp_updL st d (st (d + 1))) (d + 1) (st d)) ce pk pv pr w key pl dn tk 0) := hD
  exact zVret (w' := fun (_ : Unit) => (eW A C n ops nums vc vals (d + 1 + 1) (vp_updL (vp_updL st d (st (d + 1))) (d + 1) (st d)) ce pk pv pr w key pl dn tk 0)) () hx hb hr hlk hS hK trivial hP hD dE_changeTwo_20

set_option maxRecDepth 20000 in
set_option maxHeartbeats 4000000 in
theorem c_changeTwo_trap (l : Launch) (D : va_G) (A : Nat → Nat) (C : Nat → ClassId) (sz : Nat) (n : Nat) (ops : Nat → Int32) (nums : Nat → Int64) (vc : Nat) (vals : Nat → Int64) (d : Nat) (st : Nat → Int64) (ce : Nat → Int64) (pk : Nat → Int64) (pv : Nat → Int64) (pr : Nat) (w : Nat) (key : Int64) (pl : Nat) (dn : Nat) (tk : Nat) (tr : Nat) (hd : d ≤ 12) (hpl : pl ≤ 40) (h0 : d < 2) : Met l yE_changeTwo (.code yE_changeTwo cE_changeTwo 5 none :: WS) (rmk 1 22) (va_Pc [.ref (A 0)] (zP D (eT C) sz (eW A C n ops nums vc vals d st ce pk pv pr w key pl dn tk 0))) (va_Qv (fun u : Nat × (Nat → Int64) × Nat => u.1 ≤ 12 ∧ u.2.2 ≤ 40) (fun (u : Nat × (Nat → Int64) × Nat) t => zB D (eT C) (va_A (eW A C n ops nums vc vals d st ce pk pv pr w key pl dn tk 0) sz) (eW A C n ops nums vc vals u.1 u.2.1 ce pk pv pr w key u.2.2 dn tk 1) t) (va_A (eW A C n ops nums vc vals d st ce pk pv pr w key pl dn tk 0) sz)) 0 0 (va_A (eW A C n ops nums vc vals d st ce pk pv pr w key pl dn tk 0) sz) := by
  refine zEnt (Qc := fun F => (va_Qv (fun u : Nat × (Nat → Int64) × Nat => u.1 ≤ 12 ∧ u.2.2 ≤ 40) (fun (u : Nat × (Nat → Int64) × Nat) t => zB D (eT C) F (eW A C n ops nums vc vals u.1 u.2.1 ce pk pv pr w key u.2.2 dn tk 1) t) F)) (by decide) (Nat.le_of_ble_eq_true rfl) (fun p e s m below meth c ls F hx hb hr hlk hml hnm hw hown hsz hP hK hD hA hl => ?_)
  have hS : va_S F s.heap s.heap [] := va_S.rf
  have hown : s.vm.findClass RE = some m.cls := hown
  have hl : lv_has ls 5 [(0, .ref (A 0))] := hl
  refine lv_aload_n hx hb dE_changeTwo_0 rfl (lv_at hl 0 rfl) ?_
  refine zAftl0 (zRunV0 ⟨hx, hb, hml, hown, hw⟩ (c_pop l D A C _ n ops nums vc vals d st ce pk pv pr w key pl dn tk 0 (by omega)) wm_E_136 wi_E_pop ws_E_pop wn_E wc_E_pop ⟨rfl, rfl⟩ wd_E_pop ⟨by decide, by decide⟩ hK hP hD 0 rfl rfl rfl hl.1 rfl (Nat.le_of_ble_eq_true rfl) dE_changeTwo_1 ⟨by decide, by decide⟩) hP hD hS hA (fun r u H locs hp hP hD hS => ?_)
  replace hP : va_P D vwCl (eW A C n ops nums vc vals (d - 1) st ce pk pv pr w key pl dn tk (qT d 0)) H := hP
  replace hD : va_D F (eW A C n ops nums vc vals (d - 1) st ce pk pv pr w key pl dn tk (qT d 0)) := hD
  subst hp
  refine lv_lstore_n hx hb dE_changeTwo_4 rfl hl (by decide) rfl (fun ls hl => ?_)
  have hl : lv_has ls 5 [(1, .long (qV d st)), (0, .ref (A 0))] := hl
  refine lv_aload_n hx hb dE_changeTwo_5 rfl (lv_at hl 1 rfl) ?_
  refine zAftl0 (zRunV0 ⟨hx, hb, hml, hown, hw⟩ (c_pop l D A C _ n ops nums vc vals (d - 1) st ce pk pv pr w key pl dn tk (qT d 0) (by omega)) wm_E_136 wi_E_pop ws_E_pop wn_E wc_E_pop ⟨rfl, rfl⟩ wd_E_pop ⟨by decide, by decide⟩ hK hP hD 0 rfl rfl rfl hl.1 rfl (Nat.le_of_ble_eq_true rfl) dE_changeTwo_6 ⟨by decide, by decide⟩) hP hD hS hA (fun r u H locs hp hP hD hS => ?_)
  replace hP : va_P D vwCl (eW A C n ops nums vc vals (d - 1 - 1) st ce pk pv pr w key pl dn tk (qT (d - 1) (qT d 0))) H := hP
  replace hD : va_D F (eW A C n ops nums vc vals (d - 1 - 1) st ce pk pv pr w key pl dn tk (qT (d - 1) (qT d 0))) := hD
  subst hp
  refine lv_lstore_n hx hb dE_changeTwo_9 rfl hl (by decide) rfl (fun ls hl => ?_)
  have hl : lv_has ls 5 [(3, .long (qV (d - 1) st)), (1, .long (qV d st)), (0, .ref (A 0))] := hl
  refine lv_aload_n hx hb dE_changeTwo_10 rfl (lv_at hl 2 rfl) ?_
  refine lv_lload_n hx hb dE_changeTwo_11 rfl (lv_at hl 1 rfl) ?_
  refine zAftv0 (zRunV0 ⟨hx, hb, hml, hown, hw⟩ (c_push l D A C _ n ops nums vc vals (d - 1 - 1) st ce pk pv pr w key pl dn tk (qT (d - 1) (qT d 0)) (qV d st) (by omega)) wm_E_119 wi_E_push ws_E_push wn_E wc_E_push ⟨rfl, rfl⟩ wd_E_push ⟨by decide, by decide⟩ hK hP hD 0 rfl rfl rfl hl.1 rfl (Nat.le_of_ble_eq_true rfl) dE_changeTwo_12 ⟨by decide, by decide⟩) hP hD hS hA (fun u H locs hp hP hD hS => ?_)
  replace hP : va_P D vwCl (eW A C n ops nums vc vals (pD (d - 1 - 1)) (pS (qV d st) (d - 1 - 1) st) ce pk pv pr w key pl dn tk (pT (d - 1 - 1) (qT (d - 1) (qT d 0)))) H := hP
  replace hD : va_D F (eW A C n ops nums vc vals (pD (d - 1 - 1)) (pS (qV d st) (d - 1 - 1) st) ce pk pv pr w key pl dn tk (pT (d - 1 - 1) (qT (d - 1) (qT d 0)))) := hD
  refine lv_aload_n hx hb dE_changeTwo_15 rfl (lv_at hl 2 rfl) ?_
  refine lv_lload_n hx hb dE_changeTwo_16 rfl (lv_at hl 0 rfl) ?_
  refine zAftv0 (zRunV0 ⟨hx, hb, hml, hown, hw⟩ (c_push l D A C _ n ops nums vc vals (pD (d - 1 - 1)) (pS (qV d st) (d - 1 - 1) st) ce pk pv pr w key pl dn tk (pT (d - 1 - 1) (qT (d - 1) (qT d 0))) (qV (d - 1) st) (by simp only [pD]; (repeat' split) <;> omega)) wm_E_119 wi_E_push ws_E_push wn_E wc_E_push ⟨rfl, rfl⟩ wd_E_push ⟨by decide, by decide⟩ hK hP hD 0 rfl rfl rfl hl.1 rfl (Nat.le_of_ble_eq_true rfl) dE_changeTwo_17 ⟨by decide, by decide⟩) hP hD hS hA (fun u H locs hp hP hD hS => ?_)
  replace hP : va_P D vwCl (eW A C n ops nums vc vals (pD (pD (d - 1 - 1))) (pS (qV (d - 1) st) (pD (d - 1 - 1)) (pS (qV d st) (d - 1 - 1) st)) ce pk pv pr w key pl dn tk (pT (pD (d - 1 - 1)) (pT (d - 1 - 1) (qT (d - 1) (qT d 0))))) H := hP
  replace hD : va_D F (eW A C n ops nums vc vals (pD (pD (d - 1 - 1))) (pS (qV (d - 1) st) (pD (d - 1 - 1)) (pS (qV d st) (d - 1 - 1) st)) ce pk pv pr w key pl dn tk (pT (pD (d - 1 - 1)) (pT (d - 1 - 1) (qT (d - 1) (qT d 0))))) := hD
  have e9 : (pT (pD (d - 1 - 1)) (pT (d - 1 - 1) (qT (d - 1) (qT d 0)))) = 1 := by simp only [pT, qT, pD]; (repeat' split) <;> omega
  rw [e9] at hP hD
  exact zVret (w' := fun (u : Nat × (Nat → Int64) × Nat) => (eW A C n ops nums vc vals u.1 u.2.1 ce pk pv pr w key u.2.2 dn tk 1)) (pD (pD (d - 1 - 1)), pS (qV (d - 1) st) (pD (d - 1 - 1)) (pS (qV d st) (d - 1 - 1) st), pl) hx hb hr hlk hS hK ⟨by simp only [pD]; (repeat' split) <;> omega, by omega⟩ hP hD dE_changeTwo_20

set_option maxRecDepth 20000 in
set_option maxHeartbeats 4000000 in
theorem c_goIfZeroY_ok (l : Launch) (D : va_G) (A : Nat → Nat) (C : Nat → ClassId) (sz : Nat) (n : Nat) (ops : Nat → Int32) (nums : Nat → Int64) (vc : Nat) (vals : Nat → Int64) (d : Nat) (st : Nat → Int64) (ce : Nat → Int64) (pk : Nat → Int64) (pv : Nat → Int64) (pr : Nat) (w : Nat) (key : Int64) (pl : Nat) (dn : Nat) (tk : Nat) (tr : Nat) (j : Nat) (hd : d < 12) (hz : st d = 0) : Met l yE_goIfZero (.code yE_goIfZero cE_goIfZero 2 none :: WS) (rmk 1 22) (va_Pc [.ref (A 0), .int (nI j)] (zP D (eT C) sz (eW A C n ops nums vc vals (d + 1) st ce pk pv pr w key pl dn tk 0))) (va_Qv (fun _ : Unit => True) (fun (_ : Unit) t => zB D (eT C) (va_A (eW A C n ops nums vc vals (d + 1) st ce pk pv pr w key pl dn tk 0) sz) (eW A C n ops nums vc vals d st ce pk pv pr w key j dn tk 0) t) (va_A (eW A C n ops nums vc vals (d + 1) st ce pk pv pr w key pl dn tk 0) sz)) 0 0 (va_A (eW A C n ops nums vc vals (d + 1) st ce pk pv pr w key pl dn tk 0) sz) := by
  refine zEnt (Qc := fun F => (va_Qv (fun _ : Unit => True) (fun (_ : Unit) t => zB D (eT C) F (eW A C n ops nums vc vals d st ce pk pv pr w key j dn tk 0) t) F)) (by decide) (Nat.le_of_ble_eq_true rfl) (fun p e s m below meth c ls F hx hb hr hlk hml hnm hw hown hsz hP hK hD hA hl => ?_)
  have hS : va_S F s.heap s.heap [] := va_S.rf
  have hown : s.vm.findClass RE = some m.cls := hown
  have hl : lv_has ls 2 [(0, .ref (A 0)), (1, .int (nI j))] := hl
  refine lv_aload_n hx hb dE_goIfZero_0 rfl (lv_at hl 0 rfl) ?_
  refine zAftl0 (zRunV0 ⟨hx, hb, hml, hown, hw⟩ (c_pop_ok l D A C _ n ops nums vc vals d st ce pk pv pr w key pl dn tk 0 (by omega)) wm_E_136 wi_E_pop ws_E_pop wn_E wc_E_pop ⟨rfl, rfl⟩ wd_E_pop ⟨by decide, by decide⟩ hK hP hD 0 rfl rfl rfl hl.1 rfl (Nat.le_of_ble_eq_true rfl) dE_goIfZero_1 ⟨by decide, by decide⟩) hP hD hS hA (fun r u H locs hp hP hD hS => ?_)
  replace hP : va_P D vwCl (eW A C n ops nums vc vals d st ce pk pv pr w key pl dn tk 0) H := hP
  replace hD : va_D F (eW A C n ops nums vc vals d st ce pk pv pr w key pl dn tk 0) := hD
  subst hp
  refine lv_lconst (v := 0) hx hb dE_goIfZero_4 (by decide) ?_
  refine W.lcmp hx hb dE_goIfZero_5 ?_
  refine zl_ne (tgt := 14) hx hb dE_goIfZero_6 rfl (fun q => absurd q (by exact fun q => q hz)) (fun _ => ?_)
  refine lv_aload_n hx hb dE_goIfZero_9 rfl (lv_at hl 0 rfl) ?_
  refine lv_iload_n hx hb dE_goIfZero_10 rfl (lv_at hl 1 rfl) ?_
  refine zPutE hx hb hw hown hK hP hD hS 0 rfl 13 (by decide) wf_E_113 rfl rfl rfl (Nat.le_of_ble_eq_true rfl) dE_goIfZero_11 (fun H locs hP hD hS => ?_)
  replace hP : va_P D vwCl (eW A C n ops nums vc vals d st ce pk pv pr w key j dn tk 0) H := hP
  replace hD : va_D F (eW A C n ops nums vc vals d st ce pk pv pr w key j dn tk 0) := hD
  exact zVret (w' := fun (_ : Unit) => (eW A C n ops nums vc vals d st ce pk pv pr w key j dn tk 0)) () hx hb hr hlk hS hK trivial hP hD dE_goIfZero_14

set_option maxRecDepth 20000 in
set_option maxHeartbeats 4000000 in
theorem c_goIfZeroN_ok (l : Launch) (D : va_G) (A : Nat → Nat) (C : Nat → ClassId) (sz : Nat) (n : Nat) (ops : Nat → Int32) (nums : Nat → Int64) (vc : Nat) (vals : Nat → Int64) (d : Nat) (st : Nat → Int64) (ce : Nat → Int64) (pk : Nat → Int64) (pv : Nat → Int64) (pr : Nat) (w : Nat) (key : Int64) (pl : Nat) (dn : Nat) (tk : Nat) (tr : Nat) (j : Nat) (hd : d < 12) (hz : ¬ st d = 0) : Met l yE_goIfZero (.code yE_goIfZero cE_goIfZero 2 none :: WS) (rmk 1 22) (va_Pc [.ref (A 0), .int (nI j)] (zP D (eT C) sz (eW A C n ops nums vc vals (d + 1) st ce pk pv pr w key pl dn tk 0))) (va_Qv (fun _ : Unit => True) (fun (_ : Unit) t => zB D (eT C) (va_A (eW A C n ops nums vc vals (d + 1) st ce pk pv pr w key pl dn tk 0) sz) (eW A C n ops nums vc vals d st ce pk pv pr w key pl dn tk 0) t) (va_A (eW A C n ops nums vc vals (d + 1) st ce pk pv pr w key pl dn tk 0) sz)) 0 0 (va_A (eW A C n ops nums vc vals (d + 1) st ce pk pv pr w key pl dn tk 0) sz) := by
  refine zEnt (Qc := fun F => (va_Qv (fun _ : Unit => True) (fun (_ : Unit) t => zB D (eT C) F (eW A C n ops nums vc vals d st ce pk pv pr w key pl dn tk 0) t) F)) (by decide) (Nat.le_of_ble_eq_true rfl) (fun p e s m below meth c ls F hx hb hr hlk hml hnm hw hown hsz hP hK hD hA hl => ?_)
  have hS : va_S F s.heap s.heap [] := va_S.rf
  have hown : s.vm.findClass RE = some m.cls := hown
  have hl : lv_has ls 2 [(0, .ref (A 0)), (1, .int (nI j))] := hl
  refine lv_aload_n hx hb dE_goIfZero_0 rfl (lv_at hl 0 rfl) ?_
  refine zAftl0 (zRunV0 ⟨hx, hb, hml, hown, hw⟩ (c_pop_ok l D A C _ n ops nums vc vals d st ce pk pv pr w key pl dn tk 0 (by omega)) wm_E_136 wi_E_pop ws_E_pop wn_E wc_E_pop ⟨rfl, rfl⟩ wd_E_pop ⟨by decide, by decide⟩ hK hP hD 0 rfl rfl rfl hl.1 rfl (Nat.le_of_ble_eq_true rfl) dE_goIfZero_1 ⟨by decide, by decide⟩) hP hD hS hA (fun r u H locs hp hP hD hS => ?_)
  replace hP : va_P D vwCl (eW A C n ops nums vc vals d st ce pk pv pr w key pl dn tk 0) H := hP
  replace hD : va_D F (eW A C n ops nums vc vals d st ce pk pv pr w key pl dn tk 0) := hD
  subst hp
  refine lv_lconst (v := 0) hx hb dE_goIfZero_4 (by decide) ?_
  refine W.lcmp hx hb dE_goIfZero_5 ?_
  refine zl_ne (tgt := 14) hx hb dE_goIfZero_6 rfl (fun _ => ?_) (fun q => absurd q (by exact hz))
  exact zVret (w' := fun (_ : Unit) => (eW A C n ops nums vc vals d st ce pk pv pr w key pl dn tk 0)) () hx hb hr hlk hS hK trivial hP hD dE_goIfZero_14

set_option maxRecDepth 20000 in
set_option maxHeartbeats 4000000 in
theorem c_goIfZero_trap (l : Launch) (D : va_G) (A : Nat → Nat) (C : Nat → ClassId) (sz : Nat) (n : Nat) (ops : Nat → Int32) (nums : Nat → Int64) (vc : Nat) (vals : Nat → Int64) (d : Nat) (st : Nat → Int64) (ce : Nat → Int64) (pk : Nat → Int64) (pv : Nat → Int64) (pr : Nat) (w : Nat) (key : Int64) (pl : Nat) (dn : Nat) (tk : Nat) (tr : Nat) (j : Nat) (hd : d ≤ 12) (hpl : pl ≤ 40) (hj : j ≤ 40) (h0 : d = 0) : Met l yE_goIfZero (.code yE_goIfZero cE_goIfZero 2 none :: WS) (rmk 1 22) (va_Pc [.ref (A 0), .int (nI j)] (zP D (eT C) sz (eW A C n ops nums vc vals d st ce pk pv pr w key pl dn tk 0))) (va_Qv (fun u : Nat × (Nat → Int64) × Nat => u.1 ≤ 12 ∧ u.2.2 ≤ 40) (fun (u : Nat × (Nat → Int64) × Nat) t => zB D (eT C) (va_A (eW A C n ops nums vc vals d st ce pk pv pr w key pl dn tk 0) sz) (eW A C n ops nums vc vals u.1 u.2.1 ce pk pv pr w key u.2.2 dn tk 1) t) (va_A (eW A C n ops nums vc vals d st ce pk pv pr w key pl dn tk 0) sz)) 0 0 (va_A (eW A C n ops nums vc vals d st ce pk pv pr w key pl dn tk 0) sz) := by
  refine zEnt (Qc := fun F => (va_Qv (fun u : Nat × (Nat → Int64) × Nat => u.1 ≤ 12 ∧ u.2.2 ≤ 40) (fun (u : Nat × (Nat → Int64) × Nat) t => zB D (eT C) F (eW A C n ops nums vc vals u.1 u.2.1 ce pk pv pr w key u.2.2 dn tk 1) t) F)) (by decide) (Nat.le_of_ble_eq_true rfl) (fun p e s m below meth c ls F hx hb hr hlk hml hnm hw hown hsz hP hK hD hA hl => ?_)
  have hS : va_S F s.heap s.heap [] := va_S.rf
  have hown : s.vm.findClass RE = some m.cls := hown
  have hl : lv_has ls 2 [(0, .ref (A 0)), (1, .int (nI j))] := hl
  refine lv_aload_n hx hb dE_goIfZero_0 rfl (lv_at hl 0 rfl) ?_
  refine zAftl0 (zRunV0 ⟨hx, hb, hml, hown, hw⟩ (c_pop l D A C _ n ops nums vc vals d st ce pk pv pr w key pl dn tk 0 (by omega)) wm_E_136 wi_E_pop ws_E_pop wn_E wc_E_pop ⟨rfl, rfl⟩ wd_E_pop ⟨by decide, by decide⟩ hK hP hD 0 rfl rfl rfl hl.1 rfl (Nat.le_of_ble_eq_true rfl) dE_goIfZero_1 ⟨by decide, by decide⟩) hP hD hS hA (fun r u H locs hp hP hD hS => ?_)
  replace hP : va_P D vwCl (eW A C n ops nums vc vals (d - 1) st ce pk pv pr w key pl dn tk (qT d 0)) H := hP
  replace hD : va_D F (eW A C n ops nums vc vals (d - 1) st ce pk pv pr w key pl dn tk (qT d 0)) := hD
  subst hp
  refine lv_lconst (v := 0) hx hb dE_goIfZero_4 (by decide) ?_
  refine W.lcmp hx hb dE_goIfZero_5 ?_
  refine zl_ne (tgt := 14) hx hb dE_goIfZero_6 rfl (fun h6 => ?_) (fun h6 => ?_)
  · have e9 : (qT d 0) = 1 := by simp only [pT, qT, pD]; (repeat' split) <;> omega
    rw [e9] at hP hD
    exact zVret (w' := fun (u : Nat × (Nat → Int64) × Nat) => (eW A C n ops nums vc vals u.1 u.2.1 ce pk pv pr w key u.2.2 dn tk 1)) (d - 1, st, pl) hx hb hr hlk hS hK ⟨by omega, by omega⟩ hP hD dE_goIfZero_14
  · refine lv_aload_n hx hb dE_goIfZero_9 rfl (lv_at hl 0 rfl) ?_
    refine lv_iload_n hx hb dE_goIfZero_10 rfl (lv_at hl 1 rfl) ?_
    refine zPutE hx hb hw hown hK hP hD hS 0 rfl 13 (by decide) wf_E_113 rfl rfl rfl (Nat.le_of_ble_eq_true rfl) dE_goIfZero_11 (fun H locs hP hD hS => ?_)
    replace hP : va_P D vwCl (eW A C n ops nums vc vals (d - 1) st ce pk pv pr w key j dn tk (qT d 0)) H := hP
    replace hD : va_D F (eW A C n ops nums vc vals (d - 1) st ce pk pv pr w key j dn tk (qT d 0)) := hD
    have e9 : (qT d 0) = 1 := by simp only [pT, qT, pD]; (repeat' split) <;> omega
    rw [e9] at hP hD
    exact zVret (w' := fun (u : Nat × (Nat → Int64) × Nat) => (eW A C n ops nums vc vals u.1 u.2.1 ce pk pv pr w key u.2.2 dn tk 1)) (d - 1, st, j) hx hb hr hlk hS hK ⟨by omega, by omega⟩ hP hD dE_goIfZero_14

set_option maxRecDepth 20000 in
set_option maxHeartbeats 4000000 in
theorem c_emitPair1_ok (l : Launch) (D : va_G) (A : Nat → Nat) (C : Nat → ClassId) (sz : Nat) (n : Nat) (ops : Nat → Int32) (nums : Nat → Int64) (vc : Nat) (vals : Nat → Int64) (d : Nat) (st : Nat → Int64) (ce : Nat → Int64) (pk : Nat → Int64) (pv : Nat → Int64) (pr : Nat) (w : Nat) (key : Int64) (pl : Nat) (dn : Nat) (tk : Nat) (tr : Nat) (hd : d < 12) (hp : pr < 4) : Met l yE_emitPair (.code yE_emitPair cE_emitPair 5 none :: WS) (rmk 1 22) (va_Pc [.ref (A 0)] (zP D (eT C) sz (eW A C n ops nums vc vals (d + 1) st ce pk pv pr 1 key pl dn tk 0))) (va_Qv (fun _ : Unit => True) (fun (_ : Unit) t => zB D (eT C) (va_A (eW A C n ops nums vc vals (d + 1) st ce pk pv pr 1 key pl dn tk 0) sz) (eW A C n ops nums vc vals d st ce (vp_updL pk pr key) (vp_updL pv pr (st d)) (pr + 1) 1 key pl dn tk 0) t) (va_A (eW A C n ops nums vc vals (d + 1) st ce pk pv pr 1 key pl dn tk 0) sz)) 0 0 (va_A (eW A C n ops nums vc vals (d + 1) st ce pk pv pr 1 key pl dn tk 0) sz) := by
  refine zEnt (Qc := fun F => (va_Qv (fun _ : Unit => True) (fun (_ : Unit) t => zB D (eT C) F (eW A C n ops nums vc vals d st ce (vp_updL pk pr key) (vp_updL pv pr (st d)) (pr + 1) 1 key pl dn tk 0) t) F)) (by decide) (Nat.le_of_ble_eq_true rfl) (fun p e s m below meth c ls F hx hb hr hlk hml hnm hw hown hsz hP hK hD hA hl => ?_)
  have hS : va_S F s.heap s.heap [] := va_S.rf
  have hown : s.vm.findClass RE = some m.cls := hown
  have hl : lv_has ls 5 [(0, .ref (A 0))] := hl
  refine lv_aload_n hx hb dE_emitPair_0 rfl (lv_at hl 0 rfl) ?_
  refine zAftl0 (zRunV0 ⟨hx, hb, hml, hown, hw⟩ (c_pop_ok l D A C _ n ops nums vc vals d st ce pk pv pr 1 key pl dn tk 0 (by omega)) wm_E_136 wi_E_pop ws_E_pop wn_E wc_E_pop ⟨rfl, rfl⟩ wd_E_pop ⟨by decide, by decide⟩ hK hP hD 0 rfl rfl rfl hl.1 rfl (Nat.le_of_ble_eq_true rfl) dE_emitPair_1 ⟨by decide, by decide⟩) hP hD hS hA (fun r u H locs hp hP hD hS => ?_)
  replace hP : va_P D vwCl (eW A C n ops nums vc vals d st ce pk pv pr 1 key pl dn tk 0) H := hP
  replace hD : va_D F (eW A C n ops nums vc vals d st ce pk pv pr 1 key pl dn tk 0) := hD
  subst hp
  refine lv_lstore_n hx hb dE_emitPair_4 rfl hl (by decide) rfl (fun ls hl => ?_)
  have hl : lv_has ls 5 [(1, .long (st d)), (0, .ref (A 0))] := hl
  refine lv_aload_n hx hb dE_emitPair_5 rfl (lv_at hl 1 rfl) ?_
  refine zGetE hx hb hw hown hK hP 0 rfl 11 (by decide) wf_E_106 rfl dE_emitPair_6 ?_
  refine lv_iconst (v := nI 1) hx hb dE_emitPair_9 (by decide) ?_
  refine zc_ne (tgt := 20) hx hb dE_emitPair_10 rfl (by omega) (by omega) (fun q => absurd q (by omega)) (fun _ => ?_)
  refine lv_aload_n hx hb dE_emitPair_13 rfl (lv_at hl 1 rfl) ?_
  refine zGetE hx hb hw hown hK hP 0 rfl 12 (by decide) wf_E_109 rfl dE_emitPair_14 ?_
  refine lv_goto (tgt := 24) hx hb dE_emitPair_17 rfl ?_
  refine lv_lstore_n hx hb dE_emitPair_24 rfl hl (by decide) rfl (fun ls hl => ?_)
  have hl : lv_has ls 5 [(3, .long key), (1, .long (st d)), (0, .ref (A 0))] := hl
  refine lv_aload_n hx hb dE_emitPair_25 rfl (lv_at hl 2 rfl) ?_
  refine zGetE hx hb hw hown hK hP 0 rfl 16 (by decide) wf_E_72 rfl dE_emitPair_26 ?_
  refine zi_ne (tgt := 40) hx hb dE_emitPair_29 rfl (by omega) (fun q => absurd q (by omega)) (fun _ => ?_)
  refine lv_aload_n hx hb dE_emitPair_32 rfl (lv_at hl 2 rfl) ?_
  refine zGetE hx hb hw hown hK hP 0 rfl 10 (by decide) wf_E_81 rfl dE_emitPair_33 ?_
  refine lv_iconst (v := nI 4) hx hb dE_emitPair_36 (by decide) ?_
  refine zc_lt (tgt := 46) hx hb dE_emitPair_37 rfl (by omega) (by omega) (fun _ => ?_) (fun q => absurd q (by omega))
  refine lv_aload_n hx hb dE_emitPair_46 rfl (lv_at hl 2 rfl) ?_
  refine zGetE hx hb hw hown hK hP 0 rfl 8 (by decide) wf_E_26 rfl dE_emitPair_47 ?_
  refine lv_aload_n hx hb dE_emitPair_50 rfl (lv_at hl 2 rfl) ?_
  refine zGetE hx hb hw hown hK hP 0 rfl 10 (by decide) wf_E_81 rfl dE_emitPair_51 ?_
  refine lv_lload_n hx hb dE_emitPair_54 rfl (lv_at hl 0 rfl) ?_
  refine zLast hx hb hK hP hD hS 6 5 rfl rfl (by omega) (by decide) dE_emitPair_55 (fun H locs hP hD hS => ?_)
  replace hP : va_P D vwCl (eW A C n ops nums vc vals d st ce (vp_updL pk pr key) pv pr 1 key pl dn tk 0) H := hP
  replace hD : va_D F (eW A C n ops nums vc vals d st ce (vp_updL pk pr key) pv pr 1 key pl dn tk 0) := hD
  refine lv_aload_n hx hb dE_emitPair_56 rfl (lv_at hl 2 rfl) ?_
  refine zGetE hx hb hw hown hK hP 0 rfl 9 (by decide) wf_E_29 rfl dE_emitPair_57 ?_
  refine lv_aload_n hx hb dE_emitPair_60 rfl (lv_at hl 2 rfl) ?_
  refine zGetE hx hb hw hown hK hP 0 rfl 10 (by decide) wf_E_81 rfl dE_emitPair_61 ?_
  refine lv_lload_n hx hb dE_emitPair_64 rfl (lv_at hl 1 rfl) ?_
  refine zLast hx hb hK hP hD hS 7 6 rfl rfl (by omega) (by decide) dE_emitPair_65 (fun H locs hP hD hS => ?_)
  replace hP : va_P D vwCl (eW A C n ops nums vc vals d st ce (vp_updL pk pr key) (vp_updL pv pr (st d)) pr 1 key pl dn tk 0) H := hP
  replace hD : va_D F (eW A C n ops nums vc vals d st ce (vp_updL pk pr key) (vp_updL pv pr (st d)) pr 1 key pl dn tk 0) := hD
  refine lv_aload_n hx hb dE_emitPair_66 rfl (lv_at hl 2 rfl) ?_
  refine lv_dup hx hb dE_emitPair_67 rfl ?_
  refine zGetE hx hb hw hown hK hP 0 rfl 10 (by decide) wf_E_81 rfl dE_emitPair_68 ?_
  refine lv_iconst (v := nI 1) hx hb dE_emitPair_71 (by decide) ?_
  refine lv_iadd hx hb dE_emitPair_72 ?_
  refine zti (nI_add _ _) ?_
  refine zPutE hx hb hw hown hK hP hD hS 0 rfl 10 (by decide) wf_E_81 rfl rfl rfl (Nat.le_of_ble_eq_true rfl) dE_emitPair_73 (fun H locs hP hD hS => ?_)
  replace hP : va_P D vwCl (eW A C n ops nums vc vals d st ce (vp_updL pk pr key) (vp_updL pv pr (st d)) (pr + 1) 1 key pl dn tk 0) H := hP
  replace hD : va_D F (eW A C n ops nums vc vals d st ce (vp_updL pk pr key) (vp_updL pv pr (st d)) (pr + 1) 1 key pl dn tk 0) := hD
  exact zVret (w' := fun (_ : Unit) => (eW A C n ops nums vc vals d st ce (vp_updL pk pr key) (vp_updL pv pr (st d)) (pr + 1) 1 key pl dn tk 0)) () hx hb hr hlk hS hK trivial hP hD dE_emitPair_76

set_option maxRecDepth 20000 in
set_option maxHeartbeats 4000000 in
theorem c_emitPair2_ok (l : Launch) (D : va_G) (A : Nat → Nat) (C : Nat → ClassId) (sz : Nat) (n : Nat) (ops : Nat → Int32) (nums : Nat → Int64) (vc : Nat) (vals : Nat → Int64) (d : Nat) (st : Nat → Int64) (ce : Nat → Int64) (pk : Nat → Int64) (pv : Nat → Int64) (pr : Nat) (w : Nat) (key : Int64) (pl : Nat) (dn : Nat) (tk : Nat) (tr : Nat) (hd : d < 11) (hp : pr < 4) (hw1 : w ≠ 1) (hw2 : w ≤ 2) : Met l yE_emitPair (.code yE_emitPair cE_emitPair 5 none :: WS) (rmk 1 22) (va_Pc [.ref (A 0)] (zP D (eT C) sz (eW A C n ops nums vc vals (d + 1 + 1) st ce pk pv pr w key pl dn tk 0))) (va_Qv (fun _ : Unit => True) (fun (_ : Unit) t => zB D (eT C) (va_A (eW A C n ops nums vc vals (d + 1 + 1) st ce pk pv pr w key pl dn tk 0) sz) (eW A C n ops nums vc vals d st ce (vp_updL pk pr (st d)) (vp_updL pv pr (st (d + 1))) (pr + 1) w key pl dn tk 0) t) (va_A (eW A C n ops nums vc vals (d + 1 + 1) st ce pk pv pr w key pl dn tk 0) sz)) 0 0 (va_A (eW A C n ops nums vc vals (d + 1 + 1) st ce pk pv pr w key pl dn tk 0) sz) := by
  refine zEnt (Qc := fun F => (va_Qv (fun _ : Unit => True) (fun (_ : Unit) t => zB D (eT C) F (eW A C n ops nums vc vals d st ce (vp_updL pk pr (st d)) (vp_updL pv pr (st (d + 1))) (pr + 1) w key pl dn tk 0) t) F)) (by decide) (Nat.le_of_ble_eq_true rfl) (fun p e s m below meth c ls F hx hb hr hlk hml hnm hw hown hsz hP hK hD hA hl => ?_)
  have hS : va_S F s.heap s.heap [] := va_S.rf
  have hown : s.vm.findClass RE = some m.cls := hown
  have hl : lv_has ls 5 [(0, .ref (A 0))] := hl
  refine lv_aload_n hx hb dE_emitPair_0 rfl (lv_at hl 0 rfl) ?_
  refine zAftl0 (zRunV0 ⟨hx, hb, hml, hown, hw⟩ (c_pop_ok l D A C _ n ops nums vc vals (d + 1) st ce pk pv pr w key pl dn tk 0 (by omega)) wm_E_136 wi_E_pop ws_E_pop wn_E wc_E_pop ⟨rfl, rfl⟩ wd_E_pop ⟨by decide, by decide⟩ hK hP hD 0 rfl rfl rfl hl.1 rfl (Nat.le_of_ble_eq_true rfl) dE_emitPair_1 ⟨by decide, by decide⟩) hP hD hS hA (fun r u H locs hp hP hD hS => ?_)
  replace hP : va_P D vwCl (eW A C n ops nums vc vals (d + 1) st ce pk pv pr w key pl dn tk 0) H := hP
  replace hD : va_D F (eW A C n ops nums vc vals (d + 1) st ce pk pv pr w key pl dn tk 0) := hD
  subst hp
  refine lv_lstore_n hx hb dE_emitPair_4 rfl hl (by decide) rfl (fun ls hl => ?_)
  have hl : lv_has ls 5 [(1, .long (st (d + 1))), (0, .ref (A 0))] := hl
  refine lv_aload_n hx hb dE_emitPair_5 rfl (lv_at hl 1 rfl) ?_
  refine zGetE hx hb hw hown hK hP 0 rfl 11 (by decide) wf_E_106 rfl dE_emitPair_6 ?_
  refine lv_iconst (v := nI 1) hx hb dE_emitPair_9 (by decide) ?_
  refine zc_ne (tgt := 20) hx hb dE_emitPair_10 rfl (by omega) (by omega) (fun _ => ?_) (fun q => absurd q (by omega))
  refine lv_aload_n hx hb dE_emitPair_20 rfl (lv_at hl 1 rfl) ?_
  refine zAftl0 (zRunV0 ⟨hx, hb, hml, hown, hw⟩ (c_pop_ok l D A C _ n ops nums vc vals d st ce pk pv pr w key pl dn tk 0 (by omega)) wm_E_136 wi_E_pop ws_E_pop wn_E wc_E_pop ⟨rfl, rfl⟩ wd_E_pop ⟨by decide, by decide⟩ hK hP hD 0 rfl rfl rfl hl.1 rfl (Nat.le_of_ble_eq_true rfl) dE_emitPair_21 ⟨by decide, by decide⟩) hP hD hS hA (fun r u H locs hp hP hD hS => ?_)
  replace hP : va_P D vwCl (eW A C n ops nums vc vals d st ce pk pv pr w key pl dn tk 0) H := hP
  replace hD : va_D F (eW A C n ops nums vc vals d st ce pk pv pr w key pl dn tk 0) := hD
  subst hp
  refine lv_lstore_n hx hb dE_emitPair_24 rfl hl (by decide) rfl (fun ls hl => ?_)
  have hl : lv_has ls 5 [(3, .long (st d)), (1, .long (st (d + 1))), (0, .ref (A 0))] := hl
  refine lv_aload_n hx hb dE_emitPair_25 rfl (lv_at hl 2 rfl) ?_
  refine zGetE hx hb hw hown hK hP 0 rfl 16 (by decide) wf_E_72 rfl dE_emitPair_26 ?_
  refine zi_ne (tgt := 40) hx hb dE_emitPair_29 rfl (by omega) (fun q => absurd q (by omega)) (fun _ => ?_)
  refine lv_aload_n hx hb dE_emitPair_32 rfl (lv_at hl 2 rfl) ?_
  refine zGetE hx hb hw hown hK hP 0 rfl 10 (by decide) wf_E_81 rfl dE_emitPair_33 ?_
  refine lv_iconst (v := nI 4) hx hb dE_emitPair_36 (by decide) ?_
  refine zc_lt (tgt := 46) hx hb dE_emitPair_37 rfl (by omega) (by omega) (fun _ => ?_) (fun q => absurd q (by omega))
  refine lv_aload_n hx hb dE_emitPair_46 rfl (lv_at hl 2 rfl) ?_
  refine zGetE hx hb hw hown hK hP 0 rfl 8 (by decide) wf_E_26 rfl dE_emitPair_47 ?_
  refine lv_aload_n hx hb dE_emitPair_50 rfl (lv_at hl 2 rfl) ?_
  refine zGetE hx hb hw hown hK hP 0 rfl 10 (by decide) wf_E_81 rfl dE_emitPair_51 ?_
  refine lv_lload_n hx hb dE_emitPair_54 rfl (lv_at hl 0 rfl) ?_
  refine zLast hx hb hK hP hD hS 6 5 rfl rfl (by omega) (by decide) dE_emitPair_55 (fun H locs hP hD hS => ?_)
  replace hP : va_P D vwCl (eW A C n ops nums vc vals d st ce (vp_updL pk pr (st d)) pv pr w key pl dn tk 0) H := hP
  replace hD : va_D F (eW A C n ops nums vc vals d st ce (vp_updL pk pr (st d)) pv pr w key pl dn tk 0) := hD
  refine lv_aload_n hx hb dE_emitPair_56 rfl (lv_at hl 2 rfl) ?_
  refine zGetE hx hb hw hown hK hP 0 rfl 9 (by decide) wf_E_29 rfl dE_emitPair_57 ?_
  refine lv_aload_n hx hb dE_emitPair_60 rfl (lv_at hl 2 rfl) ?_
  refine zGetE hx hb hw hown hK hP 0 rfl 10 (by decide) wf_E_81 rfl dE_emitPair_61 ?_
  refine lv_lload_n hx hb dE_emitPair_64 rfl (lv_at hl 1 rfl) ?_
  refine zLast hx hb hK hP hD hS 7 6 rfl rfl (by omega) (by decide) dE_emitPair_65 (fun H locs hP hD hS => ?_)
  replace hP : va_P D vwCl (eW A C n ops nums vc vals d st ce (vp_updL pk pr (st d)) (vp_updL pv pr (st (d + 1))) pr w key pl dn tk 0) H := hP
  replace hD : va_D F (eW A C n ops nums vc vals d st ce (vp_updL pk pr (st d)) (vp_updL pv pr (st (d + 1))) pr w key pl dn tk 0) := hD
  refine lv_aload_n hx hb dE_emitPair_66 rfl (lv_at hl 2 rfl) ?_
  refine lv_dup hx hb dE_emitPair_67 rfl ?_
  refine zGetE hx hb hw hown hK hP 0 rfl 10 (by decide) wf_E_81 rfl dE_emitPair_68 ?_
  refine lv_iconst (v := nI 1) hx hb dE_emitPair_71 (by decide) ?_
  refine lv_iadd hx hb dE_emitPair_72 ?_
  refine zti (nI_add _ _) ?_
  refine zPutE hx hb hw hown hK hP hD hS 0 rfl 10 (by decide) wf_E_81 rfl rfl rfl (Nat.le_of_ble_eq_true rfl) dE_emitPair_73 (fun H locs hP hD hS => ?_)
  replace hP : va_P D vwCl (eW A C n ops nums vc vals d st ce (vp_updL pk pr (st d)) (vp_updL pv pr (st (d + 1))) (pr + 1) w key pl dn tk 0) H := hP
  replace hD : va_D F (eW A C n ops nums vc vals d st ce (vp_updL pk pr (st d)) (vp_updL pv pr (st (d + 1))) (pr + 1) w key pl dn tk 0) := hD
  exact zVret (w' := fun (_ : Unit) => (eW A C n ops nums vc vals d st ce (vp_updL pk pr (st d)) (vp_updL pv pr (st (d + 1))) (pr + 1) w key pl dn tk 0)) () hx hb hr hlk hS hK trivial hP hD dE_emitPair_76

set_option maxRecDepth 20000 in
set_option maxHeartbeats 4000000 in
theorem c_emitPair1_low (l : Launch) (D : va_G) (A : Nat → Nat) (C : Nat → ClassId) (sz : Nat) (n : Nat) (ops : Nat → Int32) (nums : Nat → Int64) (vc : Nat) (vals : Nat → Int64) (d : Nat) (st : Nat → Int64) (ce : Nat → Int64) (pk : Nat → Int64) (pv : Nat → Int64) (pr : Nat) (w : Nat) (key : Int64) (pl : Nat) (dn : Nat) (tk : Nat) (tr : Nat) (hd : d ≤ 12) (hpl : pl ≤ 40) (h0 : d = 0) : Met l yE_emitPair (.code yE_emitPair cE_emitPair 5 none :: WS) (rmk 1 22) (va_Pc [.ref (A 0)] (zP D (eT C) sz (eW A C n ops nums vc vals d st ce pk pv pr 1 key pl dn tk 0))) (va_Qv (fun u : Nat × (Nat → Int64) × Nat => u.1 ≤ 12 ∧ u.2.2 ≤ 40) (fun (u : Nat × (Nat → Int64) × Nat) t => zB D (eT C) (va_A (eW A C n ops nums vc vals d st ce pk pv pr 1 key pl dn tk 0) sz) (eW A C n ops nums vc vals u.1 u.2.1 ce pk pv pr 1 key u.2.2 dn tk 1) t) (va_A (eW A C n ops nums vc vals d st ce pk pv pr 1 key pl dn tk 0) sz)) 0 0 (va_A (eW A C n ops nums vc vals d st ce pk pv pr 1 key pl dn tk 0) sz) := by
  refine zEnt (Qc := fun F => (va_Qv (fun u : Nat × (Nat → Int64) × Nat => u.1 ≤ 12 ∧ u.2.2 ≤ 40) (fun (u : Nat × (Nat → Int64) × Nat) t => zB D (eT C) F (eW A C n ops nums vc vals u.1 u.2.1 ce pk pv pr 1 key u.2.2 dn tk 1) t) F)) (by decide) (Nat.le_of_ble_eq_true rfl) (fun p e s m below meth c ls F hx hb hr hlk hml hnm hw hown hsz hP hK hD hA hl => ?_)
  have hS : va_S F s.heap s.heap [] := va_S.rf
  have hown : s.vm.findClass RE = some m.cls := hown
  have hl : lv_has ls 5 [(0, .ref (A 0))] := hl
  refine lv_aload_n hx hb dE_emitPair_0 rfl (lv_at hl 0 rfl) ?_
  refine zAftl0 (zRunV0 ⟨hx, hb, hml, hown, hw⟩ (c_pop l D A C _ n ops nums vc vals d st ce pk pv pr 1 key pl dn tk 0 (by omega)) wm_E_136 wi_E_pop ws_E_pop wn_E wc_E_pop ⟨rfl, rfl⟩ wd_E_pop ⟨by decide, by decide⟩ hK hP hD 0 rfl rfl rfl hl.1 rfl (Nat.le_of_ble_eq_true rfl) dE_emitPair_1 ⟨by decide, by decide⟩) hP hD hS hA (fun r u H locs hp hP hD hS => ?_)
  replace hP : va_P D vwCl (eW A C n ops nums vc vals (d - 1) st ce pk pv pr 1 key pl dn tk (qT d 0)) H := hP
  replace hD : va_D F (eW A C n ops nums vc vals (d - 1) st ce pk pv pr 1 key pl dn tk (qT d 0)) := hD
  subst hp
  refine lv_lstore_n hx hb dE_emitPair_4 rfl hl (by decide) rfl (fun ls hl => ?_)
  have hl : lv_has ls 5 [(1, .long (qV d st)), (0, .ref (A 0))] := hl
  refine lv_aload_n hx hb dE_emitPair_5 rfl (lv_at hl 1 rfl) ?_
  refine zGetE hx hb hw hown hK hP 0 rfl 11 (by decide) wf_E_106 rfl dE_emitPair_6 ?_
  refine lv_iconst (v := nI 1) hx hb dE_emitPair_9 (by decide) ?_
  refine zc_ne (tgt := 20) hx hb dE_emitPair_10 rfl (by omega) (by omega) (fun q => absurd q (by omega)) (fun _ => ?_)
  refine lv_aload_n hx hb dE_emitPair_13 rfl (lv_at hl 1 rfl) ?_
  refine zGetE hx hb hw hown hK hP 0 rfl 12 (by decide) wf_E_109 rfl dE_emitPair_14 ?_
  refine lv_goto (tgt := 24) hx hb dE_emitPair_17 rfl ?_
  refine lv_lstore_n hx hb dE_emitPair_24 rfl hl (by decide) rfl (fun ls hl => ?_)
  have hl : lv_has ls 5 [(3, .long key), (1, .long (qV d st)), (0, .ref (A 0))] := hl
  refine lv_aload_n hx hb dE_emitPair_25 rfl (lv_at hl 2 rfl) ?_
  refine zGetE hx hb hw hown hK hP 0 rfl 16 (by decide) wf_E_72 rfl dE_emitPair_26 ?_
  refine zi_ne (tgt := 40) hx hb dE_emitPair_29 rfl (by simp only [pT, qT, pD, hN]; (repeat' split) <;> omega) (fun _ => ?_) (fun q => absurd q (by simp only [qT]; (repeat' split) <;> omega))
  refine lv_aload_n hx hb dE_emitPair_40 rfl (lv_at hl 2 rfl) ?_
  refine lv_iconst (v := nI 1) hx hb dE_emitPair_41 (by decide) ?_
  refine zPutE hx hb hw hown hK hP hD hS 0 rfl 16 (by decide) wf_E_72 rfl rfl rfl (Nat.le_of_ble_eq_true rfl) dE_emitPair_42 (fun H locs hP hD hS => ?_)
  replace hP : va_P D vwCl (eW A C n ops nums vc vals (d - 1) st ce pk pv pr 1 key pl dn tk 1) H := hP
  replace hD : va_D F (eW A C n ops nums vc vals (d - 1) st ce pk pv pr 1 key pl dn tk 1) := hD
  exact zVret (w' := fun (u : Nat × (Nat → Int64) × Nat) => (eW A C n ops nums vc vals u.1 u.2.1 ce pk pv pr 1 key u.2.2 dn tk 1)) (d - 1, st, pl) hx hb hr hlk hS hK ⟨by omega, by omega⟩ hP hD dE_emitPair_45

set_option maxRecDepth 20000 in
set_option maxHeartbeats 4000000 in
theorem c_emitPair2_low (l : Launch) (D : va_G) (A : Nat → Nat) (C : Nat → ClassId) (sz : Nat) (n : Nat) (ops : Nat → Int32) (nums : Nat → Int64) (vc : Nat) (vals : Nat → Int64) (d : Nat) (st : Nat → Int64) (ce : Nat → Int64) (pk : Nat → Int64) (pv : Nat → Int64) (pr : Nat) (w : Nat) (key : Int64) (pl : Nat) (dn : Nat) (tk : Nat) (tr : Nat) (hd : d ≤ 12) (hpl : pl ≤ 40) (h0 : d < 2) (hw1 : w ≠ 1) (hw2 : w ≤ 2) : Met l yE_emitPair (.code yE_emitPair cE_emitPair 5 none :: WS) (rmk 1 22) (va_Pc [.ref (A 0)] (zP D (eT C) sz (eW A C n ops nums vc vals d st ce pk pv pr w key pl dn tk 0))) (va_Qv (fun u : Nat × (Nat → Int64) × Nat => u.1 ≤ 12 ∧ u.2.2 ≤ 40) (fun (u : Nat × (Nat → Int64) × Nat) t => zB D (eT C) (va_A (eW A C n ops nums vc vals d st ce pk pv pr w key pl dn tk 0) sz) (eW A C n ops nums vc vals u.1 u.2.1 ce pk pv pr w key u.2.2 dn tk 1) t) (va_A (eW A C n ops nums vc vals d st ce pk pv pr w key pl dn tk 0) sz)) 0 0 (va_A (eW A C n ops nums vc vals d st ce pk pv pr w key pl dn tk 0) sz) := by
  refine zEnt (Qc := fun F => (va_Qv (fun u : Nat × (Nat → Int64) × Nat => u.1 ≤ 12 ∧ u.2.2 ≤ 40) (fun (u : Nat × (Nat → Int64) × Nat) t => zB D (eT C) F (eW A C n ops nums vc vals u.1 u.2.1 ce pk pv pr w key u.2.2 dn tk 1) t) F)) (by decide) (Nat.le_of_ble_eq_true rfl) (fun p e s m below meth c ls F hx hb hr hlk hml hnm hw hown hsz hP hK hD hA hl => ?_)
  have hS : va_S F s.heap s.heap [] := va_S.rf
  have hown : s.vm.findClass RE = some m.cls := hown
  have hl : lv_has ls 5 [(0, .ref (A 0))] := hl
  refine lv_aload_n hx hb dE_emitPair_0 rfl (lv_at hl 0 rfl) ?_
  refine zAftl0 (zRunV0 ⟨hx, hb, hml, hown, hw⟩ (c_pop l D A C _ n ops nums vc vals d st ce pk pv pr w key pl dn tk 0 (by omega)) wm_E_136 wi_E_pop ws_E_pop wn_E wc_E_pop ⟨rfl, rfl⟩ wd_E_pop ⟨by decide, by decide⟩ hK hP hD 0 rfl rfl rfl hl.1 rfl (Nat.le_of_ble_eq_true rfl) dE_emitPair_1 ⟨by decide, by decide⟩) hP hD hS hA (fun r u H locs hp hP hD hS => ?_)
  replace hP : va_P D vwCl (eW A C n ops nums vc vals (d - 1) st ce pk pv pr w key pl dn tk (qT d 0)) H := hP
  replace hD : va_D F (eW A C n ops nums vc vals (d - 1) st ce pk pv pr w key pl dn tk (qT d 0)) := hD
  subst hp
  refine lv_lstore_n hx hb dE_emitPair_4 rfl hl (by decide) rfl (fun ls hl => ?_)
  have hl : lv_has ls 5 [(1, .long (qV d st)), (0, .ref (A 0))] := hl
  refine lv_aload_n hx hb dE_emitPair_5 rfl (lv_at hl 1 rfl) ?_
  refine zGetE hx hb hw hown hK hP 0 rfl 11 (by decide) wf_E_106 rfl dE_emitPair_6 ?_
  refine lv_iconst (v := nI 1) hx hb dE_emitPair_9 (by decide) ?_
  refine zc_ne (tgt := 20) hx hb dE_emitPair_10 rfl (by omega) (by omega) (fun _ => ?_) (fun q => absurd q (by omega))
  refine lv_aload_n hx hb dE_emitPair_20 rfl (lv_at hl 1 rfl) ?_
  refine zAftl0 (zRunV0 ⟨hx, hb, hml, hown, hw⟩ (c_pop l D A C _ n ops nums vc vals (d - 1) st ce pk pv pr w key pl dn tk (qT d 0) (by omega)) wm_E_136 wi_E_pop ws_E_pop wn_E wc_E_pop ⟨rfl, rfl⟩ wd_E_pop ⟨by decide, by decide⟩ hK hP hD 0 rfl rfl rfl hl.1 rfl (Nat.le_of_ble_eq_true rfl) dE_emitPair_21 ⟨by decide, by decide⟩) hP hD hS hA (fun r u H locs hp hP hD hS => ?_)
  replace hP : va_P D vwCl (eW A C n ops nums vc vals (d - 1 - 1) st ce pk pv pr w key pl dn tk (qT (d - 1) (qT d 0))) H := hP
  replace hD : va_D F (eW A C n ops nums vc vals (d - 1 - 1) st ce pk pv pr w key pl dn tk (qT (d - 1) (qT d 0))) := hD
  subst hp
  refine lv_lstore_n hx hb dE_emitPair_24 rfl hl (by decide) rfl (fun ls hl => ?_)
  have hl : lv_has ls 5 [(3, .long (qV (d - 1) st)), (1, .long (qV d st)), (0, .ref (A 0))] := hl
  refine lv_aload_n hx hb dE_emitPair_25 rfl (lv_at hl 2 rfl) ?_
  refine zGetE hx hb hw hown hK hP 0 rfl 16 (by decide) wf_E_72 rfl dE_emitPair_26 ?_
  refine zi_ne (tgt := 40) hx hb dE_emitPair_29 rfl (by simp only [pT, qT, pD, hN]; (repeat' split) <;> omega) (fun _ => ?_) (fun q => absurd q (by simp only [qT]; (repeat' split) <;> omega))
  refine lv_aload_n hx hb dE_emitPair_40 rfl (lv_at hl 2 rfl) ?_
  refine lv_iconst (v := nI 1) hx hb dE_emitPair_41 (by decide) ?_
  refine zPutE hx hb hw hown hK hP hD hS 0 rfl 16 (by decide) wf_E_72 rfl rfl rfl (Nat.le_of_ble_eq_true rfl) dE_emitPair_42 (fun H locs hP hD hS => ?_)
  replace hP : va_P D vwCl (eW A C n ops nums vc vals (d - 1 - 1) st ce pk pv pr w key pl dn tk 1) H := hP
  replace hD : va_D F (eW A C n ops nums vc vals (d - 1 - 1) st ce pk pv pr w key pl dn tk 1) := hD
  exact zVret (w' := fun (u : Nat × (Nat → Int64) × Nat) => (eW A C n ops nums vc vals u.1 u.2.1 ce pk pv pr w key u.2.2 dn tk 1)) (d - 1 - 1, st, pl) hx hb hr hlk hS hK ⟨by omega, by omega⟩ hP hD dE_emitPair_45

set_option maxRecDepth 20000 in
set_option maxHeartbeats 4000000 in
theorem c_emitPair1_full (l : Launch) (D : va_G) (A : Nat → Nat) (C : Nat → ClassId) (sz : Nat) (n : Nat) (ops : Nat → Int32) (nums : Nat → Int64) (vc : Nat) (vals : Nat → Int64) (d : Nat) (st : Nat → Int64) (ce : Nat → Int64) (pk : Nat → Int64) (pv : Nat → Int64) (pr : Nat) (w : Nat) (key : Int64) (pl : Nat) (dn : Nat) (tk : Nat) (tr : Nat) (hd : d ≤ 12) (hpl : pl ≤ 40) (hd1 : d < 12) (hp : pr = 4) : Met l yE_emitPair (.code yE_emitPair cE_emitPair 5 none :: WS) (rmk 1 22) (va_Pc [.ref (A 0)] (zP D (eT C) sz (eW A C n ops nums vc vals (d + 1) st ce pk pv pr 1 key pl dn tk 0))) (va_Qv (fun u : Nat × (Nat → Int64) × Nat => u.1 ≤ 12 ∧ u.2.2 ≤ 40) (fun (u : Nat × (Nat → Int64) × Nat) t => zB D (eT C) (va_A (eW A C n ops nums vc vals (d + 1) st ce pk pv pr 1 key pl dn tk 0) sz) (eW A C n ops nums vc vals u.1 u.2.1 ce pk pv pr 1 key u.2.2 dn tk 1) t) (va_A (eW A C n ops nums vc vals (d + 1) st ce pk pv pr 1 key pl dn tk 0) sz)) 0 0 (va_A (eW A C n ops nums vc vals (d + 1) st ce pk pv pr 1 key pl dn tk 0) sz) := by
  refine zEnt (Qc := fun F => (va_Qv (fun u : Nat × (Nat → Int64) × Nat => u.1 ≤ 12 ∧ u.2.2 ≤ 40) (fun (u : Nat × (Nat → Int64) × Nat) t => zB D (eT C) F (eW A C n ops nums vc vals u.1 u.2.1 ce pk pv pr 1 key u.2.2 dn tk 1) t) F)) (by decide) (Nat.le_of_ble_eq_true rfl) (fun p e s m below meth c ls F hx hb hr hlk hml hnm hw hown hsz hP hK hD hA hl => ?_)
  have hS : va_S F s.heap s.heap [] := va_S.rf
  have hown : s.vm.findClass RE = some m.cls := hown
  have hl : lv_has ls 5 [(0, .ref (A 0))] := hl
  refine lv_aload_n hx hb dE_emitPair_0 rfl (lv_at hl 0 rfl) ?_
  refine zAftl0 (zRunV0 ⟨hx, hb, hml, hown, hw⟩ (c_pop_ok l D A C _ n ops nums vc vals d st ce pk pv pr 1 key pl dn tk 0 (by omega)) wm_E_136 wi_E_pop ws_E_pop wn_E wc_E_pop ⟨rfl, rfl⟩ wd_E_pop ⟨by decide, by decide⟩ hK hP hD 0 rfl rfl rfl hl.1 rfl (Nat.le_of_ble_eq_true rfl) dE_emitPair_1 ⟨by decide, by decide⟩) hP hD hS hA (fun r u H locs hp hP hD hS => ?_)
  replace hP : va_P D vwCl (eW A C n ops nums vc vals d st ce pk pv pr 1 key pl dn tk 0) H := hP
  replace hD : va_D F (eW A C n ops nums vc vals d st ce pk pv pr 1 key pl dn tk 0) := hD
  subst hp
  refine lv_lstore_n hx hb dE_emitPair_4 rfl hl (by decide) rfl (fun ls hl => ?_)
  have hl : lv_has ls 5 [(1, .long (st d)), (0, .ref (A 0))] := hl
  refine lv_aload_n hx hb dE_emitPair_5 rfl (lv_at hl 1 rfl) ?_
  refine zGetE hx hb hw hown hK hP 0 rfl 11 (by decide) wf_E_106 rfl dE_emitPair_6 ?_
  refine lv_iconst (v := nI 1) hx hb dE_emitPair_9 (by decide) ?_
  refine zc_ne (tgt := 20) hx hb dE_emitPair_10 rfl (by omega) (by omega) (fun q => absurd q (by omega)) (fun _ => ?_)
  refine lv_aload_n hx hb dE_emitPair_13 rfl (lv_at hl 1 rfl) ?_
  refine zGetE hx hb hw hown hK hP 0 rfl 12 (by decide) wf_E_109 rfl dE_emitPair_14 ?_
  refine lv_goto (tgt := 24) hx hb dE_emitPair_17 rfl ?_
  refine lv_lstore_n hx hb dE_emitPair_24 rfl hl (by decide) rfl (fun ls hl => ?_)
  have hl : lv_has ls 5 [(3, .long key), (1, .long (st d)), (0, .ref (A 0))] := hl
  refine lv_aload_n hx hb dE_emitPair_25 rfl (lv_at hl 2 rfl) ?_
  refine zGetE hx hb hw hown hK hP 0 rfl 16 (by decide) wf_E_72 rfl dE_emitPair_26 ?_
  refine zi_ne (tgt := 40) hx hb dE_emitPair_29 rfl (by omega) (fun q => absurd q (by omega)) (fun _ => ?_)
  refine lv_aload_n hx hb dE_emitPair_32 rfl (lv_at hl 2 rfl) ?_
  refine zGetE hx hb hw hown hK hP 0 rfl 10 (by decide) wf_E_81 rfl dE_emitPair_33 ?_
  refine lv_iconst (v := nI 4) hx hb dE_emitPair_36 (by decide) ?_
  refine zc_lt (tgt := 46) hx hb dE_emitPair_37 rfl (by omega) (by omega) (fun q => absurd q (by omega)) (fun _ => ?_)
  refine lv_aload_n hx hb dE_emitPair_40 rfl (lv_at hl 2 rfl) ?_
  refine lv_iconst (v := nI 1) hx hb dE_emitPair_41 (by decide) ?_
  refine zPutE hx hb hw hown hK hP hD hS 0 rfl 16 (by decide) wf_E_72 rfl rfl rfl (Nat.le_of_ble_eq_true rfl) dE_emitPair_42 (fun H locs hP hD hS => ?_)
  replace hP : va_P D vwCl (eW A C n ops nums vc vals d st ce pk pv pr 1 key pl dn tk 1) H := hP
  replace hD : va_D F (eW A C n ops nums vc vals d st ce pk pv pr 1 key pl dn tk 1) := hD
  exact zVret (w' := fun (u : Nat × (Nat → Int64) × Nat) => (eW A C n ops nums vc vals u.1 u.2.1 ce pk pv pr 1 key u.2.2 dn tk 1)) (d, st, pl) hx hb hr hlk hS hK ⟨by omega, by omega⟩ hP hD dE_emitPair_45

set_option maxRecDepth 20000 in
set_option maxHeartbeats 4000000 in
theorem c_emitPair2_full (l : Launch) (D : va_G) (A : Nat → Nat) (C : Nat → ClassId) (sz : Nat) (n : Nat) (ops : Nat → Int32) (nums : Nat → Int64) (vc : Nat) (vals : Nat → Int64) (d : Nat) (st : Nat → Int64) (ce : Nat → Int64) (pk : Nat → Int64) (pv : Nat → Int64) (pr : Nat) (w : Nat) (key : Int64) (pl : Nat) (dn : Nat) (tk : Nat) (tr : Nat) (hd : d ≤ 12) (hpl : pl ≤ 40) (hd1 : d < 11) (hp : pr = 4) (hw1 : w ≠ 1) (hw2 : w ≤ 2) : Met l yE_emitPair (.code yE_emitPair cE_emitPair 5 none :: WS) (rmk 1 22) (va_Pc [.ref (A 0)] (zP D (eT C) sz (eW A C n ops nums vc vals (d + 1 + 1) st ce pk pv pr w key pl dn tk 0))) (va_Qv (fun u : Nat × (Nat → Int64) × Nat => u.1 ≤ 12 ∧ u.2.2 ≤ 40) (fun (u : Nat × (Nat → Int64) × Nat) t => zB D (eT C) (va_A (eW A C n ops nums vc vals (d + 1 + 1) st ce pk pv pr w key pl dn tk 0) sz) (eW A C n ops nums vc vals u.1 u.2.1 ce pk pv pr w key u.2.2 dn tk 1) t) (va_A (eW A C n ops nums vc vals (d + 1 + 1) st ce pk pv pr w key pl dn tk 0) sz)) 0 0 (va_A (eW A C n ops nums vc vals (d + 1 + 1) st ce pk pv pr w key pl dn tk 0) sz) := by
  refine zEnt (Qc := fun F => (va_Qv (fun u : Nat × (Nat → Int64) × Nat => u.1 ≤ 12 ∧ u.2.2 ≤ 40) (fun (u : Nat × (Nat → Int64) × Nat) t => zB D (eT C) F (eW A C n ops nums vc vals u.1 u.2.1 ce pk pv pr w key u.2.2 dn tk 1) t) F)) (by decide) (Nat.le_of_ble_eq_true rfl) (fun p e s m below meth c ls F hx hb hr hlk hml hnm hw hown hsz hP hK hD hA hl => ?_)
  have hS : va_S F s.heap s.heap [] := va_S.rf
  have hown : s.vm.findClass RE = some m.cls := hown
  have hl : lv_has ls 5 [(0, .ref (A 0))] := hl
  refine lv_aload_n hx hb dE_emitPair_0 rfl (lv_at hl 0 rfl) ?_
  refine zAftl0 (zRunV0 ⟨hx, hb, hml, hown, hw⟩ (c_pop_ok l D A C _ n ops nums vc vals (d + 1) st ce pk pv pr w key pl dn tk 0 (by omega)) wm_E_136 wi_E_pop ws_E_pop wn_E wc_E_pop ⟨rfl, rfl⟩ wd_E_pop ⟨by decide, by decide⟩ hK hP hD 0 rfl rfl rfl hl.1 rfl (Nat.le_of_ble_eq_true rfl) dE_emitPair_1 ⟨by decide, by decide⟩) hP hD hS hA (fun r u H locs hp hP hD hS => ?_)
  replace hP : va_P D vwCl (eW A C n ops nums vc vals (d + 1) st ce pk pv pr w key pl dn tk 0) H := hP
  replace hD : va_D F (eW A C n ops nums vc vals (d + 1) st ce pk pv pr w key pl dn tk 0) := hD
  subst hp
  refine lv_lstore_n hx hb dE_emitPair_4 rfl hl (by decide) rfl (fun ls hl => ?_)
  have hl : lv_has ls 5 [(1, .long (st (d + 1))), (0, .ref (A 0))] := hl
  refine lv_aload_n hx hb dE_emitPair_5 rfl (lv_at hl 1 rfl) ?_
  refine zGetE hx hb hw hown hK hP 0 rfl 11 (by decide) wf_E_106 rfl dE_emitPair_6 ?_
  refine lv_iconst (v := nI 1) hx hb dE_emitPair_9 (by decide) ?_
  refine zc_ne (tgt := 20) hx hb dE_emitPair_10 rfl (by omega) (by omega) (fun _ => ?_) (fun q => absurd q (by omega))
  refine lv_aload_n hx hb dE_emitPair_20 rfl (lv_at hl 1 rfl) ?_
  refine zAftl0 (zRunV0 ⟨hx, hb, hml, hown, hw⟩ (c_pop_ok l D A C _ n ops nums vc vals d st ce pk pv pr w key pl dn tk 0 (by omega)) wm_E_136 wi_E_pop ws_E_pop wn_E wc_E_pop ⟨rfl, rfl⟩ wd_E_pop ⟨by decide, by decide⟩ hK hP hD 0 rfl rfl rfl hl.1 rfl (Nat.le_of_ble_eq_true rfl) dE_emitPair_21 ⟨by decide, by decide⟩) hP hD hS hA (fun r u H locs hp hP hD hS => ?_)
  replace hP : va_P D vwCl (eW A C n ops nums vc vals d st ce pk pv pr w key pl dn tk 0) H := hP
  replace hD : va_D F (eW A C n ops nums vc vals d st ce pk pv pr w key pl dn tk 0) := hD
  subst hp
  refine lv_lstore_n hx hb dE_emitPair_24 rfl hl (by decide) rfl (fun ls hl => ?_)
  have hl : lv_has ls 5 [(3, .long (st d)), (1, .long (st (d + 1))), (0, .ref (A 0))] := hl
  refine lv_aload_n hx hb dE_emitPair_25 rfl (lv_at hl 2 rfl) ?_
  refine zGetE hx hb hw hown hK hP 0 rfl 16 (by decide) wf_E_72 rfl dE_emitPair_26 ?_
  refine zi_ne (tgt := 40) hx hb dE_emitPair_29 rfl (by omega) (fun q => absurd q (by omega)) (fun _ => ?_)
  refine lv_aload_n hx hb dE_emitPair_32 rfl (lv_at hl 2 rfl) ?_
  refine zGetE hx hb hw hown hK hP 0 rfl 10 (by decide) wf_E_81 rfl dE_emitPair_33 ?_
  refine lv_iconst (v := nI 4) hx hb dE_emitPair_36 (by decide) ?_
  refine zc_lt (tgt := 46) hx hb dE_emitPair_37 rfl (by omega) (by omega) (fun q => absurd q (by omega)) (fun _ => ?_)
  refine lv_aload_n hx hb dE_emitPair_40 rfl (lv_at hl 2 rfl) ?_
  refine lv_iconst (v := nI 1) hx hb dE_emitPair_41 (by decide) ?_
  refine zPutE hx hb hw hown hK hP hD hS 0 rfl 16 (by decide) wf_E_72 rfl rfl rfl (Nat.le_of_ble_eq_true rfl) dE_emitPair_42 (fun H locs hP hD hS => ?_)
  replace hP : va_P D vwCl (eW A C n ops nums vc vals d st ce pk pv pr w key pl dn tk 1) H := hP
  replace hD : va_D F (eW A C n ops nums vc vals d st ce pk pv pr w key pl dn tk 1) := hD
  exact zVret (w' := fun (u : Nat × (Nat → Int64) × Nat) => (eW A C n ops nums vc vals u.1 u.2.1 ce pk pv pr w key u.2.2 dn tk 1)) (d, st, pl) hx hb hr hlk hS hK ⟨by omega, by omega⟩ hP hD dE_emitPair_45

set_option maxRecDepth 20000 in
set_option maxHeartbeats 4000000 in
theorem c_divide_ok (l : Launch) (D : va_G) (A : Nat → Nat) (C : Nat → ClassId) (sz : Nat) (n : Nat) (ops : Nat → Int32) (nums : Nat → Int64) (vc : Nat) (vals : Nat → Int64) (d : Nat) (st : Nat → Int64) (ce : Nat → Int64) (pk : Nat → Int64) (pv : Nat → Int64) (pr : Nat) (w : Nat) (key : Int64) (pl : Nat) (dn : Nat) (tk : Nat) (tr : Nat) (x : Int64) (y : Int64) (hd : d < 12) (hy : ¬ y = 0) : Met l yE_divide (.code yE_divide cE_divide 5 none :: WS) (rmk 1 22) (va_Pc [.ref (A 0), .long x, .long y] (zP D (eT C) sz (eW A C n ops nums vc vals d st ce pk pv pr w key pl dn tk 0))) (va_Qv (fun _ : Unit => True) (fun (_ : Unit) t => zB D (eT C) (va_A (eW A C n ops nums vc vals d st ce pk pv pr w key pl dn tk 0) sz) (eW A C n ops nums vc vals (d + 1) (vp_updL st d (x / y)) ce pk pv pr w key pl dn tk 0) t) (va_A (eW A C n ops nums vc vals d st ce pk pv pr w key pl dn tk 0) sz)) 0 0 (va_A (eW A C n ops nums vc vals d st ce pk pv pr w key pl dn tk 0) sz) := by
  refine zEnt (Qc := fun F => (va_Qv (fun _ : Unit => True) (fun (_ : Unit) t => zB D (eT C) F (eW A C n ops nums vc vals (d + 1) (vp_updL st d (x / y)) ce pk pv pr w key pl dn tk 0) t) F)) (by decide) (Nat.le_of_ble_eq_true rfl) (fun p e s m below meth c ls F hx hb hr hlk hml hnm hw hown hsz hP hK hD hA hl => ?_)
  have hS : va_S F s.heap s.heap [] := va_S.rf
  have hown : s.vm.findClass RE = some m.cls := hown
  have hl : lv_has ls 5 [(0, .ref (A 0)), (1, .long x), (3, .long y)] := hl
  refine lv_lload_n hx hb dE_divide_0 rfl (lv_at hl 2 rfl) ?_
  refine lv_lconst (v := 0) hx hb dE_divide_1 (by decide) ?_
  refine W.lcmp hx hb dE_divide_2 ?_
  refine zl_ne (tgt := 12) hx hb dE_divide_3 rfl (fun _ => ?_) (fun q => absurd q (by exact hy))
  refine lv_aload_n hx hb dE_divide_12 rfl (lv_at hl 0 rfl) ?_
  refine lv_lload_n hx hb dE_divide_13 rfl (lv_at hl 1 rfl) ?_
  refine lv_lload_n hx hb dE_divide_14 rfl (lv_at hl 2 rfl) ?_
  refine lv_ldiv hx hb dE_divide_15 hy ?_
  refine zAftv0 (zRunV0 ⟨hx, hb, hml, hown, hw⟩ (c_push_ok l D A C _ n ops nums vc vals d st ce pk pv pr w key pl dn tk 0 (x / y) (by omega)) wm_E_119 wi_E_push ws_E_push wn_E wc_E_push ⟨rfl, rfl⟩ wd_E_push ⟨by decide, by decide⟩ hK hP hD 0 rfl rfl rfl hl.1 rfl (Nat.le_of_ble_eq_true rfl) dE_divide_16 ⟨by decide, by decide⟩) hP hD hS hA (fun u H locs hp hP hD hS => ?_)
  replace hP : va_P D vwCl (eW A C n ops nums vc vals (d + 1) (vp_updL st d (x / y)) ce pk pv pr w key pl dn tk 0) H := hP
  replace hD : va_D F (eW A C n ops nums vc vals (d + 1) (vp_updL st d (x / y)) ce pk pv pr w key pl dn tk 0) := hD
  exact zVret (w' := fun (_ : Unit) => (eW A C n ops nums vc vals (d + 1) (vp_updL st d (x / y)) ce pk pv pr w key pl dn tk 0)) () hx hb hr hlk hS hK trivial hP hD dE_divide_19

set_option maxRecDepth 20000 in
set_option maxHeartbeats 4000000 in
theorem c_divide_zero (l : Launch) (D : va_G) (A : Nat → Nat) (C : Nat → ClassId) (sz : Nat) (n : Nat) (ops : Nat → Int32) (nums : Nat → Int64) (vc : Nat) (vals : Nat → Int64) (d : Nat) (st : Nat → Int64) (ce : Nat → Int64) (pk : Nat → Int64) (pv : Nat → Int64) (pr : Nat) (w : Nat) (key : Int64) (pl : Nat) (dn : Nat) (tk : Nat) (tr : Nat) (x : Int64) (y : Int64) (hy : y = 0) : Met l yE_divide (.code yE_divide cE_divide 5 none :: WS) (rmk 1 22) (va_Pc [.ref (A 0), .long x, .long y] (zP D (eT C) sz (eW A C n ops nums vc vals d st ce pk pv pr w key pl dn tk tr))) (va_Qv (fun _ : Unit => True) (fun (_ : Unit) t => zB D (eT C) (va_A (eW A C n ops nums vc vals d st ce pk pv pr w key pl dn tk tr) sz) (eW A C n ops nums vc vals d st ce pk pv pr w key pl dn tk 1) t) (va_A (eW A C n ops nums vc vals d st ce pk pv pr w key pl dn tk tr) sz)) 0 0 (va_A (eW A C n ops nums vc vals d st ce pk pv pr w key pl dn tk tr) sz) := by
  refine zEnt (Qc := fun F => (va_Qv (fun _ : Unit => True) (fun (_ : Unit) t => zB D (eT C) F (eW A C n ops nums vc vals d st ce pk pv pr w key pl dn tk 1) t) F)) (by decide) (Nat.le_of_ble_eq_true rfl) (fun p e s m below meth c ls F hx hb hr hlk hml hnm hw hown hsz hP hK hD hA hl => ?_)
  have hS : va_S F s.heap s.heap [] := va_S.rf
  have hown : s.vm.findClass RE = some m.cls := hown
  have hl : lv_has ls 5 [(0, .ref (A 0)), (1, .long x), (3, .long y)] := hl
  refine lv_lload_n hx hb dE_divide_0 rfl (lv_at hl 2 rfl) ?_
  refine lv_lconst (v := 0) hx hb dE_divide_1 (by decide) ?_
  refine W.lcmp hx hb dE_divide_2 ?_
  refine zl_ne (tgt := 12) hx hb dE_divide_3 rfl (fun q => absurd q (by exact fun q => q hy)) (fun _ => ?_)
  refine lv_aload_n hx hb dE_divide_6 rfl (lv_at hl 0 rfl) ?_
  refine lv_iconst (v := nI 1) hx hb dE_divide_7 (by decide) ?_
  refine zPutE hx hb hw hown hK hP hD hS 0 rfl 16 (by decide) wf_E_72 rfl rfl rfl (Nat.le_of_ble_eq_true rfl) dE_divide_8 (fun H locs hP hD hS => ?_)
  replace hP : va_P D vwCl (eW A C n ops nums vc vals d st ce pk pv pr w key pl dn tk 1) H := hP
  replace hD : va_D F (eW A C n ops nums vc vals d st ce pk pv pr w key pl dn tk 1) := hD
  exact zVret (w' := fun (_ : Unit) => (eW A C n ops nums vc vals d st ce pk pv pr w key pl dn tk 1)) () hx hb hr hlk hS hK trivial hP hD dE_divide_11

set_option maxRecDepth 20000 in
set_option maxHeartbeats 4000000 in
theorem c_divide_any (l : Launch) (D : va_G) (A : Nat → Nat) (C : Nat → ClassId) (sz : Nat) (n : Nat) (ops : Nat → Int32) (nums : Nat → Int64) (vc : Nat) (vals : Nat → Int64) (d : Nat) (st : Nat → Int64) (ce : Nat → Int64) (pk : Nat → Int64) (pv : Nat → Int64) (pr : Nat) (w : Nat) (key : Int64) (pl : Nat) (dn : Nat) (tk : Nat) (tr : Nat) (x : Int64) (y : Int64) (hd : d ≤ 12) (hy : ¬ y = 0) : Met l yE_divide (.code yE_divide cE_divide 5 none :: WS) (rmk 1 22) (va_Pc [.ref (A 0), .long x, .long y] (zP D (eT C) sz (eW A C n ops nums vc vals d st ce pk pv pr w key pl dn tk tr))) (va_Qv (fun _ : Unit => True) (fun (_ : Unit) t => zB D (eT C) (va_A (eW A C n ops nums vc vals d st ce pk pv pr w key pl dn tk tr) sz) (eW A C n ops nums vc vals (pD d) (pS (x / y) d st) ce pk pv pr w key pl dn tk (pT d tr)) t) (va_A (eW A C n ops nums vc vals d st ce pk pv pr w key pl dn tk tr) sz)) 0 0 (va_A (eW A C n ops nums vc vals d st ce pk pv pr w key pl dn tk tr) sz) := by
  refine zEnt (Qc := fun F => (va_Qv (fun _ : Unit => True) (fun (_ : Unit) t => zB D (eT C) F (eW A C n ops nums vc vals (pD d) (pS (x / y) d st) ce pk pv pr w key pl dn tk (pT d tr)) t) F)) (by decide) (Nat.le_of_ble_eq_true rfl) (fun p e s m below meth c ls F hx hb hr hlk hml hnm hw hown hsz hP hK hD hA hl => ?_)
  have hS : va_S F s.heap s.heap [] := va_S.rf
  have hown : s.vm.findClass RE = some m.cls := hown
  have hl : lv_has ls 5 [(0, .ref (A 0)), (1, .long x), (3, .long y)] := hl
  refine lv_lload_n hx hb dE_divide_0 rfl (lv_at hl 2 rfl) ?_
  refine lv_lconst (v := 0) hx hb dE_divide_1 (by decide) ?_
  refine W.lcmp hx hb dE_divide_2 ?_
  refine zl_ne (tgt := 12) hx hb dE_divide_3 rfl (fun _ => ?_) (fun q => absurd q (by exact hy))
  refine lv_aload_n hx hb dE_divide_12 rfl (lv_at hl 0 rfl) ?_
  refine lv_lload_n hx hb dE_divide_13 rfl (lv_at hl 1 rfl) ?_
  refine lv_lload_n hx hb dE_divide_14 rfl (lv_at hl 2 rfl) ?_
  refine lv_ldiv hx hb dE_divide_15 hy ?_
  refine zAftv0 (zRunV0 ⟨hx, hb, hml, hown, hw⟩ (c_push l D A C _ n ops nums vc vals d st ce pk pv pr w key pl dn tk tr (x / y) (by omega)) wm_E_119 wi_E_push ws_E_push wn_E wc_E_push ⟨rfl, rfl⟩ wd_E_push ⟨by decide, by decide⟩ hK hP hD 0 rfl rfl rfl hl.1 rfl (Nat.le_of_ble_eq_true rfl) dE_divide_16 ⟨by decide, by decide⟩) hP hD hS hA (fun u H locs hp hP hD hS => ?_)
  replace hP : va_P D vwCl (eW A C n ops nums vc vals (pD d) (pS (x / y) d st) ce pk pv pr w key pl dn tk (pT d tr)) H := hP
  replace hD : va_D F (eW A C n ops nums vc vals (pD d) (pS (x / y) d st) ce pk pv pr w key pl dn tk (pT d tr)) := hD
  exact zVret (w' := fun (_ : Unit) => (eW A C n ops nums vc vals (pD d) (pS (x / y) d st) ce pk pv pr w key pl dn tk (pT d tr))) () hx hb hr hlk hS hK trivial hP hD dE_divide_19
end
section
/-! EmitDesk: combine and perform, an INSTRUCTION a contract, where it goes and where it traps -/
set_option maxRecDepth 20000 in
set_option maxHeartbeats 4000000 in
theorem c_combine6_ok (l : Launch) (D : va_G) (A : Nat → Nat) (C : Nat → ClassId) (sz : Nat) (n : Nat) (ops : Nat → Int32) (nums : Nat → Int64) (vc : Nat) (vals : Nat → Int64) (d : Nat) (st : Nat → Int64) (ce : Nat → Int64) (pk : Nat → Int64) (pv : Nat → Int64) (pr : Nat) (w : Nat) (key : Int64) (pl : Nat) (dn : Nat) (tk : Nat) (tr : Nat) (hd : d < 11) : Met l yE_combine (.code yE_combine cE_combine 6 none :: WS) (rmk 2 46) (va_Pc [.ref (A 0), .int (nI 6)] (zP D (eT C) sz (eW A C n ops nums vc vals (d + 1 + 1) st ce pk pv pr w key pl dn tk 0))) (va_Qv (fun _ : Unit => True) (fun (_ : Unit) t => zB D (eT C) (va_A (eW A C n ops nums vc vals (d + 1 + 1) st ce pk pv pr w key pl dn tk 0) sz) (eW A C n ops nums vc vals (d + 1) (vp_updL st d (st d + st (d + 1))) ce pk pv pr w key pl dn tk 0) t) (va_A (eW A C n ops nums vc vals (d + 1 + 1) st ce pk pv pr w key pl dn tk 0) sz)) 0 0 (va_A (eW A C n ops nums vc vals (d + 1 + 1) st ce pk pv pr w key pl dn tk 0) sz) := by
  refine zEnt (Qc := fun F => (va_Qv (fun _ : Unit => True) (fun (_ : Unit) t => zB D (eT C) F (eW A C n ops nums vc vals (d + 1) (vp_updL st d (st d + st (d + 1))) ce pk pv pr w key pl dn tk 0) t) F)) (by decide) (Nat.le_of_ble_eq_true rfl) (fun p e s m below meth c ls F hx hb hr hlk hml hnm hw hown hsz hP hK hD hA hl => ?_)
  have hS : va_S F s.heap s.heap [] := va_S.rf
  have hown : s.vm.findClass RE = some m.cls := hown
  have hl : lv_has ls 6 [(0, .ref (A 0)), (1, .int (nI 6))] := hl
  refine lv_aload_n hx hb dE_combine_0 rfl (lv_at hl 0 rfl) ?_
  refine zAftl0 (zRunV0 ⟨hx, hb, hml, hown, hw⟩ (c_pop_ok l D A C _ n ops nums vc vals (d + 1) st ce pk pv pr w key pl dn tk 0 (by omega)) wm_E_136 wi_E_pop ws_E_pop wn_E wc_E_pop ⟨rfl, rfl⟩ wd_E_pop ⟨by decide, by decide⟩ hK hP hD 0 rfl rfl rfl hl.1 rfl (Nat.le_of_ble_eq_true rfl) dE_combine_1 ⟨by decide, by decide⟩) hP hD hS hA (fun r u H locs hp hP hD hS => ?_)
  replace hP : va_P D vwCl (eW A C n ops nums vc vals (d + 1) st ce pk pv pr w key pl dn tk 0) H := hP
  replace hD : va_D F (eW A C n ops nums vc vals (d + 1) st ce pk pv pr w key pl dn tk 0) := hD
  subst hp
  refine lv_lstore_n hx hb dE_combine_4 rfl hl (by decide) rfl (fun ls hl => ?_)
  have hl : lv_has ls 6 [(2, .long (st (d + 1))), (0, .ref (A 0)), (1, .int (nI 6))] := hl
  refine lv_aload_n hx hb dE_combine_5 rfl (lv_at hl 1 rfl) ?_
  refine zAftl0 (zRunV0 ⟨hx, hb, hml, hown, hw⟩ (c_pop_ok l D A C _ n ops nums vc vals d st ce pk pv pr w key pl dn tk 0 (by omega)) wm_E_136 wi_E_pop ws_E_pop wn_E wc_E_pop ⟨rfl, rfl⟩ wd_E_pop ⟨by decide, by decide⟩ hK hP hD 0 rfl rfl rfl hl.1 rfl (Nat.le_of_ble_eq_true rfl) dE_combine_6 ⟨by decide, by decide⟩) hP hD hS hA (fun r u H locs hp hP hD hS => ?_)
  replace hP : va_P D vwCl (eW A C n ops nums vc vals d st ce pk pv pr w key pl dn tk 0) H := hP
  replace hD : va_D F (eW A C n ops nums vc vals d st ce pk pv pr w key pl dn tk 0) := hD
  subst hp
  refine lv_lstore hx hb dE_combine_9 hl (by decide) rfl (fun ls hl => ?_)
  have hl : lv_has ls 6 [(4, .long (st d)), (2, .long (st (d + 1))), (0, .ref (A 0)), (1, .int (nI 6))] := hl
  refine lv_iload_n hx hb dE_combine_11 rfl (lv_at hl 3 rfl) ?_
  refine lv_tableIn (off := 40) (tgt := 52) hx hb dE_combine_12 (by decide) (by decide) (by decide) rfl ?_
  refine lv_aload_n hx hb dE_combine_52 rfl (lv_at hl 2 rfl) ?_
  refine lv_lload hx hb dE_combine_53 (lv_at hl 0 rfl) ?_
  refine lv_lload_n hx hb dE_combine_55 rfl (lv_at hl 1 rfl) ?_
  refine lv_ladd hx hb dE_combine_56 ?_
  refine zAftv0 (zRunV0 ⟨hx, hb, hml, hown, hw⟩ (c_push_ok l D A C _ n ops nums vc vals d st ce pk pv pr w key pl dn tk 0 ((st d) + (st (d + 1))) (by omega)) wm_E_119 wi_E_push ws_E_push wn_E wc_E_push ⟨rfl, rfl⟩ wd_E_push ⟨by decide, by decide⟩ hK hP hD 0 rfl rfl rfl hl.1 rfl (Nat.le_of_ble_eq_true rfl) dE_combine_57 ⟨by decide, by decide⟩) hP hD hS hA (fun u H locs hp hP hD hS => ?_)
  replace hP : va_P D vwCl (eW A C n ops nums vc vals (d + 1) (vp_updL st d ((st d) + (st (d + 1)))) ce pk pv pr w key pl dn tk 0) H := hP
  replace hD : va_D F (eW A C n ops nums vc vals (d + 1) (vp_updL st d ((st d) + (st (d + 1)))) ce pk pv pr w key pl dn tk 0) := hD
  refine lv_goto (tgt := 133) hx hb dE_combine_60 rfl ?_
  exact zVret (w' := fun (_ : Unit) => (eW A C n ops nums vc vals (d + 1) (vp_updL st d (st d + st (d + 1))) ce pk pv pr w key pl dn tk 0)) () hx hb hr hlk hS hK trivial hP hD dE_combine_133

set_option maxRecDepth 20000 in
set_option maxHeartbeats 4000000 in
theorem c_combine7_ok (l : Launch) (D : va_G) (A : Nat → Nat) (C : Nat → ClassId) (sz : Nat) (n : Nat) (ops : Nat → Int32) (nums : Nat → Int64) (vc : Nat) (vals : Nat → Int64) (d : Nat) (st : Nat → Int64) (ce : Nat → Int64) (pk : Nat → Int64) (pv : Nat → Int64) (pr : Nat) (w : Nat) (key : Int64) (pl : Nat) (dn : Nat) (tk : Nat) (tr : Nat) (hd : d < 11) : Met l yE_combine (.code yE_combine cE_combine 6 none :: WS) (rmk 2 46) (va_Pc [.ref (A 0), .int (nI 7)] (zP D (eT C) sz (eW A C n ops nums vc vals (d + 1 + 1) st ce pk pv pr w key pl dn tk 0))) (va_Qv (fun _ : Unit => True) (fun (_ : Unit) t => zB D (eT C) (va_A (eW A C n ops nums vc vals (d + 1 + 1) st ce pk pv pr w key pl dn tk 0) sz) (eW A C n ops nums vc vals (d + 1) (vp_updL st d (st d - st (d + 1))) ce pk pv pr w key pl dn tk 0) t) (va_A (eW A C n ops nums vc vals (d + 1 + 1) st ce pk pv pr w key pl dn tk 0) sz)) 0 0 (va_A (eW A C n ops nums vc vals (d + 1 + 1) st ce pk pv pr w key pl dn tk 0) sz) := by
  refine zEnt (Qc := fun F => (va_Qv (fun _ : Unit => True) (fun (_ : Unit) t => zB D (eT C) F (eW A C n ops nums vc vals (d + 1) (vp_updL st d (st d - st (d + 1))) ce pk pv pr w key pl dn tk 0) t) F)) (by decide) (Nat.le_of_ble_eq_true rfl) (fun p e s m below meth c ls F hx hb hr hlk hml hnm hw hown hsz hP hK hD hA hl => ?_)
  have hS : va_S F s.heap s.heap [] := va_S.rf
  have hown : s.vm.findClass RE = some m.cls := hown
  have hl : lv_has ls 6 [(0, .ref (A 0)), (1, .int (nI 7))] := hl
  refine lv_aload_n hx hb dE_combine_0 rfl (lv_at hl 0 rfl) ?_
  refine zAftl0 (zRunV0 ⟨hx, hb, hml, hown, hw⟩ (c_pop_ok l D A C _ n ops nums vc vals (d + 1) st ce pk pv pr w key pl dn tk 0 (by omega)) wm_E_136 wi_E_pop ws_E_pop wn_E wc_E_pop ⟨rfl, rfl⟩ wd_E_pop ⟨by decide, by decide⟩ hK hP hD 0 rfl rfl rfl hl.1 rfl (Nat.le_of_ble_eq_true rfl) dE_combine_1 ⟨by decide, by decide⟩) hP hD hS hA (fun r u H locs hp hP hD hS => ?_)
  replace hP : va_P D vwCl (eW A C n ops nums vc vals (d + 1) st ce pk pv pr w key pl dn tk 0) H := hP
  replace hD : va_D F (eW A C n ops nums vc vals (d + 1) st ce pk pv pr w key pl dn tk 0) := hD
  subst hp
  refine lv_lstore_n hx hb dE_combine_4 rfl hl (by decide) rfl (fun ls hl => ?_)
  have hl : lv_has ls 6 [(2, .long (st (d + 1))), (0, .ref (A 0)), (1, .int (nI 7))] := hl
  refine lv_aload_n hx hb dE_combine_5 rfl (lv_at hl 1 rfl) ?_
  refine zAftl0 (zRunV0 ⟨hx, hb, hml, hown, hw⟩ (c_pop_ok l D A C _ n ops nums vc vals d st ce pk pv pr w key pl dn tk 0 (by omega)) wm_E_136 wi_E_pop ws_E_pop wn_E wc_E_pop ⟨rfl, rfl⟩ wd_E_pop ⟨by decide, by decide⟩ hK hP hD 0 rfl rfl rfl hl.1 rfl (Nat.le_of_ble_eq_true rfl) dE_combine_6 ⟨by decide, by decide⟩) hP hD hS hA (fun r u H locs hp hP hD hS => ?_)
  replace hP : va_P D vwCl (eW A C n ops nums vc vals d st ce pk pv pr w key pl dn tk 0) H := hP
  replace hD : va_D F (eW A C n ops nums vc vals d st ce pk pv pr w key pl dn tk 0) := hD
  subst hp
  refine lv_lstore hx hb dE_combine_9 hl (by decide) rfl (fun ls hl => ?_)
  have hl : lv_has ls 6 [(4, .long (st d)), (2, .long (st (d + 1))), (0, .ref (A 0)), (1, .int (nI 7))] := hl
  refine lv_iload_n hx hb dE_combine_11 rfl (lv_at hl 3 rfl) ?_
  refine lv_tableIn (off := 51) (tgt := 63) hx hb dE_combine_12 (by decide) (by decide) (by decide) rfl ?_
  refine lv_aload_n hx hb dE_combine_63 rfl (lv_at hl 2 rfl) ?_
  refine lv_lload hx hb dE_combine_64 (lv_at hl 0 rfl) ?_
  refine lv_lload_n hx hb dE_combine_66 rfl (lv_at hl 1 rfl) ?_
  refine lv_lsub hx hb dE_combine_67 ?_
  refine zAftv0 (zRunV0 ⟨hx, hb, hml, hown, hw⟩ (c_push_ok l D A C _ n ops nums vc vals d st ce pk pv pr w key pl dn tk 0 ((st d) - (st (d + 1))) (by omega)) wm_E_119 wi_E_push ws_E_push wn_E wc_E_push ⟨rfl, rfl⟩ wd_E_push ⟨by decide, by decide⟩ hK hP hD 0 rfl rfl rfl hl.1 rfl (Nat.le_of_ble_eq_true rfl) dE_combine_68 ⟨by decide, by decide⟩) hP hD hS hA (fun u H locs hp hP hD hS => ?_)
  replace hP : va_P D vwCl (eW A C n ops nums vc vals (d + 1) (vp_updL st d ((st d) - (st (d + 1)))) ce pk pv pr w key pl dn tk 0) H := hP
  replace hD : va_D F (eW A C n ops nums vc vals (d + 1) (vp_updL st d ((st d) - (st (d + 1)))) ce pk pv pr w key pl dn tk 0) := hD
  refine lv_goto (tgt := 133) hx hb dE_combine_71 rfl ?_
  exact zVret (w' := fun (_ : Unit) => (eW A C n ops nums vc vals (d + 1) (vp_updL st d (st d - st (d + 1))) ce pk pv pr w key pl dn tk 0)) () hx hb hr hlk hS hK trivial hP hD dE_combine_133

set_option maxRecDepth 20000 in
set_option maxHeartbeats 4000000 in
theorem c_combine8_ok (l : Launch) (D : va_G) (A : Nat → Nat) (C : Nat → ClassId) (sz : Nat) (n : Nat) (ops : Nat → Int32) (nums : Nat → Int64) (vc : Nat) (vals : Nat → Int64) (d : Nat) (st : Nat → Int64) (ce : Nat → Int64) (pk : Nat → Int64) (pv : Nat → Int64) (pr : Nat) (w : Nat) (key : Int64) (pl : Nat) (dn : Nat) (tk : Nat) (tr : Nat) (hd : d < 11) : Met l yE_combine (.code yE_combine cE_combine 6 none :: WS) (rmk 2 46) (va_Pc [.ref (A 0), .int (nI 8)] (zP D (eT C) sz (eW A C n ops nums vc vals (d + 1 + 1) st ce pk pv pr w key pl dn tk 0))) (va_Qv (fun _ : Unit => True) (fun (_ : Unit) t => zB D (eT C) (va_A (eW A C n ops nums vc vals (d + 1 + 1) st ce pk pv pr w key pl dn tk 0) sz) (eW A C n ops nums vc vals (d + 1) (vp_updL st d (st d * st (d + 1))) ce pk pv pr w key pl dn tk 0) t) (va_A (eW A C n ops nums vc vals (d + 1 + 1) st ce pk pv pr w key pl dn tk 0) sz)) 0 0 (va_A (eW A C n ops nums vc vals (d + 1 + 1) st ce pk pv pr w key pl dn tk 0) sz) := by
  refine zEnt (Qc := fun F => (va_Qv (fun _ : Unit => True) (fun (_ : Unit) t => zB D (eT C) F (eW A C n ops nums vc vals (d + 1) (vp_updL st d (st d * st (d + 1))) ce pk pv pr w key pl dn tk 0) t) F)) (by decide) (Nat.le_of_ble_eq_true rfl) (fun p e s m below meth c ls F hx hb hr hlk hml hnm hw hown hsz hP hK hD hA hl => ?_)
  have hS : va_S F s.heap s.heap [] := va_S.rf
  have hown : s.vm.findClass RE = some m.cls := hown
  have hl : lv_has ls 6 [(0, .ref (A 0)), (1, .int (nI 8))] := hl
  refine lv_aload_n hx hb dE_combine_0 rfl (lv_at hl 0 rfl) ?_
  refine zAftl0 (zRunV0 ⟨hx, hb, hml, hown, hw⟩ (c_pop_ok l D A C _ n ops nums vc vals (d + 1) st ce pk pv pr w key pl dn tk 0 (by omega)) wm_E_136 wi_E_pop ws_E_pop wn_E wc_E_pop ⟨rfl, rfl⟩ wd_E_pop ⟨by decide, by decide⟩ hK hP hD 0 rfl rfl rfl hl.1 rfl (Nat.le_of_ble_eq_true rfl) dE_combine_1 ⟨by decide, by decide⟩) hP hD hS hA (fun r u H locs hp hP hD hS => ?_)
  replace hP : va_P D vwCl (eW A C n ops nums vc vals (d + 1) st ce pk pv pr w key pl dn tk 0) H := hP
  replace hD : va_D F (eW A C n ops nums vc vals (d + 1) st ce pk pv pr w key pl dn tk 0) := hD
  subst hp
  refine lv_lstore_n hx hb dE_combine_4 rfl hl (by decide) rfl (fun ls hl => ?_)
  have hl : lv_has ls 6 [(2, .long (st (d + 1))), (0, .ref (A 0)), (1, .int (nI 8))] := hl
  refine lv_aload_n hx hb dE_combine_5 rfl (lv_at hl 1 rfl) ?_
  refine zAftl0 (zRunV0 ⟨hx, hb, hml, hown, hw⟩ (c_pop_ok l D A C _ n ops nums vc vals d st ce pk pv pr w key pl dn tk 0 (by omega)) wm_E_136 wi_E_pop ws_E_pop wn_E wc_E_pop ⟨rfl, rfl⟩ wd_E_pop ⟨by decide, by decide⟩ hK hP hD 0 rfl rfl rfl hl.1 rfl (Nat.le_of_ble_eq_true rfl) dE_combine_6 ⟨by decide, by decide⟩) hP hD hS hA (fun r u H locs hp hP hD hS => ?_)
  replace hP : va_P D vwCl (eW A C n ops nums vc vals d st ce pk pv pr w key pl dn tk 0) H := hP
  replace hD : va_D F (eW A C n ops nums vc vals d st ce pk pv pr w key pl dn tk 0) := hD
  subst hp
  refine lv_lstore hx hb dE_combine_9 hl (by decide) rfl (fun ls hl => ?_)
  have hl : lv_has ls 6 [(4, .long (st d)), (2, .long (st (d + 1))), (0, .ref (A 0)), (1, .int (nI 8))] := hl
  refine lv_iload_n hx hb dE_combine_11 rfl (lv_at hl 3 rfl) ?_
  refine lv_tableIn (off := 62) (tgt := 74) hx hb dE_combine_12 (by decide) (by decide) (by decide) rfl ?_
  refine lv_aload_n hx hb dE_combine_74 rfl (lv_at hl 2 rfl) ?_
  refine lv_lload hx hb dE_combine_75 (lv_at hl 0 rfl) ?_
  refine lv_lload_n hx hb dE_combine_77 rfl (lv_at hl 1 rfl) ?_
  refine lv_lmul hx hb dE_combine_78 ?_
  refine zAftv0 (zRunV0 ⟨hx, hb, hml, hown, hw⟩ (c_push_ok l D A C _ n ops nums vc vals d st ce pk pv pr w key pl dn tk 0 ((st d) * (st (d + 1))) (by omega)) wm_E_119 wi_E_push ws_E_push wn_E wc_E_push ⟨rfl, rfl⟩ wd_E_push ⟨by decide, by decide⟩ hK hP hD 0 rfl rfl rfl hl.1 rfl (Nat.le_of_ble_eq_true rfl) dE_combine_79 ⟨by decide, by decide⟩) hP hD hS hA (fun u H locs hp hP hD hS => ?_)
  replace hP : va_P D vwCl (eW A C n ops nums vc vals (d + 1) (vp_updL st d ((st d) * (st (d + 1)))) ce pk pv pr w key pl dn tk 0) H := hP
  replace hD : va_D F (eW A C n ops nums vc vals (d + 1) (vp_updL st d ((st d) * (st (d + 1)))) ce pk pv pr w key pl dn tk 0) := hD
  refine lv_goto (tgt := 133) hx hb dE_combine_82 rfl ?_
  exact zVret (w' := fun (_ : Unit) => (eW A C n ops nums vc vals (d + 1) (vp_updL st d (st d * st (d + 1))) ce pk pv pr w key pl dn tk 0)) () hx hb hr hlk hS hK trivial hP hD dE_combine_133

set_option maxRecDepth 20000 in
set_option maxHeartbeats 4000000 in
theorem c_combine9_ok (l : Launch) (D : va_G) (A : Nat → Nat) (C : Nat → ClassId) (sz : Nat) (n : Nat) (ops : Nat → Int32) (nums : Nat → Int64) (vc : Nat) (vals : Nat → Int64) (d : Nat) (st : Nat → Int64) (ce : Nat → Int64) (pk : Nat → Int64) (pv : Nat → Int64) (pr : Nat) (w : Nat) (key : Int64) (pl : Nat) (dn : Nat) (tk : Nat) (tr : Nat) (hd : d < 11) (hy : ¬ st (d + 1) = 0) : Met l yE_combine (.code yE_combine cE_combine 6 none :: WS) (rmk 2 46) (va_Pc [.ref (A 0), .int (nI 9)] (zP D (eT C) sz (eW A C n ops nums vc vals (d + 1 + 1) st ce pk pv pr w key pl dn tk 0))) (va_Qv (fun _ : Unit => True) (fun (_ : Unit) t => zB D (eT C) (va_A (eW A C n ops nums vc vals (d + 1 + 1) st ce pk pv pr w key pl dn tk 0) sz) (eW A C n ops nums vc vals (d + 1) (vp_updL st d (st d / st (d + 1))) ce pk pv pr w key pl dn tk 0) t) (va_A (eW A C n ops nums vc vals (d + 1 + 1) st ce pk pv pr w key pl dn tk 0) sz)) 0 0 (va_A (eW A C n ops nums vc vals (d + 1 + 1) st ce pk pv pr w key pl dn tk 0) sz) := by
  refine zEnt (Qc := fun F => (va_Qv (fun _ : Unit => True) (fun (_ : Unit) t => zB D (eT C) F (eW A C n ops nums vc vals (d + 1) (vp_updL st d (st d / st (d + 1))) ce pk pv pr w key pl dn tk 0) t) F)) (by decide) (Nat.le_of_ble_eq_true rfl) (fun p e s m below meth c ls F hx hb hr hlk hml hnm hw hown hsz hP hK hD hA hl => ?_)
  have hS : va_S F s.heap s.heap [] := va_S.rf
  have hown : s.vm.findClass RE = some m.cls := hown
  have hl : lv_has ls 6 [(0, .ref (A 0)), (1, .int (nI 9))] := hl
  refine lv_aload_n hx hb dE_combine_0 rfl (lv_at hl 0 rfl) ?_
  refine zAftl0 (zRunV0 ⟨hx, hb, hml, hown, hw⟩ (c_pop_ok l D A C _ n ops nums vc vals (d + 1) st ce pk pv pr w key pl dn tk 0 (by omega)) wm_E_136 wi_E_pop ws_E_pop wn_E wc_E_pop ⟨rfl, rfl⟩ wd_E_pop ⟨by decide, by decide⟩ hK hP hD 0 rfl rfl rfl hl.1 rfl (Nat.le_of_ble_eq_true rfl) dE_combine_1 ⟨by decide, by decide⟩) hP hD hS hA (fun r u H locs hp hP hD hS => ?_)
  replace hP : va_P D vwCl (eW A C n ops nums vc vals (d + 1) st ce pk pv pr w key pl dn tk 0) H := hP
  replace hD : va_D F (eW A C n ops nums vc vals (d + 1) st ce pk pv pr w key pl dn tk 0) := hD
  subst hp
  refine lv_lstore_n hx hb dE_combine_4 rfl hl (by decide) rfl (fun ls hl => ?_)
  have hl : lv_has ls 6 [(2, .long (st (d + 1))), (0, .ref (A 0)), (1, .int (nI 9))] := hl
  refine lv_aload_n hx hb dE_combine_5 rfl (lv_at hl 1 rfl) ?_
  refine zAftl0 (zRunV0 ⟨hx, hb, hml, hown, hw⟩ (c_pop_ok l D A C _ n ops nums vc vals d st ce pk pv pr w key pl dn tk 0 (by omega)) wm_E_136 wi_E_pop ws_E_pop wn_E wc_E_pop ⟨rfl, rfl⟩ wd_E_pop ⟨by decide, by decide⟩ hK hP hD 0 rfl rfl rfl hl.1 rfl (Nat.le_of_ble_eq_true rfl) dE_combine_6 ⟨by decide, by decide⟩) hP hD hS hA (fun r u H locs hp hP hD hS => ?_)
  replace hP : va_P D vwCl (eW A C n ops nums vc vals d st ce pk pv pr w key pl dn tk 0) H := hP
  replace hD : va_D F (eW A C n ops nums vc vals d st ce pk pv pr w key pl dn tk 0) := hD
  subst hp
  refine lv_lstore hx hb dE_combine_9 hl (by decide) rfl (fun ls hl => ?_)
  have hl : lv_has ls 6 [(4, .long (st d)), (2, .long (st (d + 1))), (0, .ref (A 0)), (1, .int (nI 9))] := hl
  refine lv_iload_n hx hb dE_combine_11 rfl (lv_at hl 3 rfl) ?_
  refine lv_tableIn (off := 73) (tgt := 85) hx hb dE_combine_12 (by decide) (by decide) (by decide) rfl ?_
  refine lv_aload_n hx hb dE_combine_85 rfl (lv_at hl 2 rfl) ?_
  refine lv_lload hx hb dE_combine_86 (lv_at hl 0 rfl) ?_
  refine lv_lload_n hx hb dE_combine_88 rfl (lv_at hl 1 rfl) ?_
  refine zAftv0 (zRunV0 ⟨hx, hb, hml, hown, hw⟩ (c_divide_ok l D A C _ n ops nums vc vals d st ce pk pv pr w key pl dn tk 0 (st d) (st (d + 1)) (by omega) hy) wm_E_152 wi_E_divide ws_E_divide wn_E wc_E_divide ⟨rfl, rfl⟩ wd_E_divide ⟨by decide, by decide⟩ hK hP hD 0 rfl rfl rfl hl.1 rfl (Nat.le_of_ble_eq_true rfl) dE_combine_89 ⟨by decide, by decide⟩) hP hD hS hA (fun u H locs hp hP hD hS => ?_)
  replace hP : va_P D vwCl (eW A C n ops nums vc vals (d + 1) (vp_updL st d ((st d) / (st (d + 1)))) ce pk pv pr w key pl dn tk 0) H := hP
  replace hD : va_D F (eW A C n ops nums vc vals (d + 1) (vp_updL st d ((st d) / (st (d + 1)))) ce pk pv pr w key pl dn tk 0) := hD
  refine lv_goto (tgt := 133) hx hb dE_combine_92 rfl ?_
  exact zVret (w' := fun (_ : Unit) => (eW A C n ops nums vc vals (d + 1) (vp_updL st d (st d / st (d + 1))) ce pk pv pr w key pl dn tk 0)) () hx hb hr hlk hS hK trivial hP hD dE_combine_133

set_option maxRecDepth 20000 in
set_option maxHeartbeats 4000000 in
theorem c_combine10_ok (l : Launch) (D : va_G) (A : Nat → Nat) (C : Nat → ClassId) (sz : Nat) (n : Nat) (ops : Nat → Int32) (nums : Nat → Int64) (vc : Nat) (vals : Nat → Int64) (d : Nat) (st : Nat → Int64) (ce : Nat → Int64) (pk : Nat → Int64) (pv : Nat → Int64) (pr : Nat) (w : Nat) (key : Int64) (pl : Nat) (dn : Nat) (tk : Nat) (tr : Nat) (hd : d < 11) : Met l yE_combine (.code yE_combine cE_combine 6 none :: WS) (rmk 2 46) (va_Pc [.ref (A 0), .int (nI 10)] (zP D (eT C) sz (eW A C n ops nums vc vals (d + 1 + 1) st ce pk pv pr w key pl dn tk 0))) (va_Qv (fun _ : Unit => True) (fun (_ : Unit) t => zB D (eT C) (va_A (eW A C n ops nums vc vals (d + 1 + 1) st ce pk pv pr w key pl dn tk 0) sz) (eW A C n ops nums vc vals (d + 1) (vp_updL st d (if st (d + 1) ≤ st d then 0 else 1)) ce pk pv pr w key pl dn tk 0) t) (va_A (eW A C n ops nums vc vals (d + 1 + 1) st ce pk pv pr w key pl dn tk 0) sz)) 0 0 (va_A (eW A C n ops nums vc vals (d + 1 + 1) st ce pk pv pr w key pl dn tk 0) sz) := by
  refine zEnt (Qc := fun F => (va_Qv (fun _ : Unit => True) (fun (_ : Unit) t => zB D (eT C) F (eW A C n ops nums vc vals (d + 1) (vp_updL st d (if st (d + 1) ≤ st d then 0 else 1)) ce pk pv pr w key pl dn tk 0) t) F)) (by decide) (Nat.le_of_ble_eq_true rfl) (fun p e s m below meth c ls F hx hb hr hlk hml hnm hw hown hsz hP hK hD hA hl => ?_)
  have hS : va_S F s.heap s.heap [] := va_S.rf
  have hown : s.vm.findClass RE = some m.cls := hown
  have hl : lv_has ls 6 [(0, .ref (A 0)), (1, .int (nI 10))] := hl
  refine lv_aload_n hx hb dE_combine_0 rfl (lv_at hl 0 rfl) ?_
  refine zAftl0 (zRunV0 ⟨hx, hb, hml, hown, hw⟩ (c_pop_ok l D A C _ n ops nums vc vals (d + 1) st ce pk pv pr w key pl dn tk 0 (by omega)) wm_E_136 wi_E_pop ws_E_pop wn_E wc_E_pop ⟨rfl, rfl⟩ wd_E_pop ⟨by decide, by decide⟩ hK hP hD 0 rfl rfl rfl hl.1 rfl (Nat.le_of_ble_eq_true rfl) dE_combine_1 ⟨by decide, by decide⟩) hP hD hS hA (fun r u H locs hp hP hD hS => ?_)
  replace hP : va_P D vwCl (eW A C n ops nums vc vals (d + 1) st ce pk pv pr w key pl dn tk 0) H := hP
  replace hD : va_D F (eW A C n ops nums vc vals (d + 1) st ce pk pv pr w key pl dn tk 0) := hD
  subst hp
  refine lv_lstore_n hx hb dE_combine_4 rfl hl (by decide) rfl (fun ls hl => ?_)
  have hl : lv_has ls 6 [(2, .long (st (d + 1))), (0, .ref (A 0)), (1, .int (nI 10))] := hl
  refine lv_aload_n hx hb dE_combine_5 rfl (lv_at hl 1 rfl) ?_
  refine zAftl0 (zRunV0 ⟨hx, hb, hml, hown, hw⟩ (c_pop_ok l D A C _ n ops nums vc vals d st ce pk pv pr w key pl dn tk 0 (by omega)) wm_E_136 wi_E_pop ws_E_pop wn_E wc_E_pop ⟨rfl, rfl⟩ wd_E_pop ⟨by decide, by decide⟩ hK hP hD 0 rfl rfl rfl hl.1 rfl (Nat.le_of_ble_eq_true rfl) dE_combine_6 ⟨by decide, by decide⟩) hP hD hS hA (fun r u H locs hp hP hD hS => ?_)
  replace hP : va_P D vwCl (eW A C n ops nums vc vals d st ce pk pv pr w key pl dn tk 0) H := hP
  replace hD : va_D F (eW A C n ops nums vc vals d st ce pk pv pr w key pl dn tk 0) := hD
  subst hp
  refine lv_lstore hx hb dE_combine_9 hl (by decide) rfl (fun ls hl => ?_)
  have hl : lv_has ls 6 [(4, .long (st d)), (2, .long (st (d + 1))), (0, .ref (A 0)), (1, .int (nI 10))] := hl
  refine lv_iload_n hx hb dE_combine_11 rfl (lv_at hl 3 rfl) ?_
  refine lv_tableIn (off := 83) (tgt := 95) hx hb dE_combine_12 (by decide) (by decide) (by decide) rfl ?_
  refine lv_aload_n hx hb dE_combine_95 rfl (lv_at hl 2 rfl) ?_
  refine lv_lload hx hb dE_combine_96 (lv_at hl 0 rfl) ?_
  refine lv_lload_n hx hb dE_combine_98 rfl (lv_at hl 1 rfl) ?_
  refine W.lcmp hx hb dE_combine_99 ?_
  refine zl_ge (tgt := 107) hx hb dE_combine_100 rfl (fun h100 => ?_) (fun h100 => ?_)
  · refine lv_lconst (v := 0) hx hb dE_combine_107 (by decide) ?_
    refine zAftv0 (zRunV0 ⟨hx, hb, hml, hown, hw⟩ (c_push_ok l D A C _ n ops nums vc vals d st ce pk pv pr w key pl dn tk 0 (0 : Int64) (by omega)) wm_E_119 wi_E_push ws_E_push wn_E wc_E_push ⟨rfl, rfl⟩ wd_E_push ⟨by decide, by decide⟩ hK hP hD 0 rfl rfl rfl hl.1 rfl (Nat.le_of_ble_eq_true rfl) dE_combine_108 ⟨by decide, by decide⟩) hP hD hS hA (fun u H locs hp hP hD hS => ?_)
    replace hP : va_P D vwCl (eW A C n ops nums vc vals (d + 1) (vp_updL st d (0 : Int64)) ce pk pv pr w key pl dn tk 0) H := hP
    replace hD : va_D F (eW A C n ops nums vc vals (d + 1) (vp_updL st d (0 : Int64)) ce pk pv pr w key pl dn tk 0) := hD
    refine lv_goto (tgt := 133) hx hb dE_combine_111 rfl ?_
    replace hP : va_P D vwCl (eW A C n ops nums vc vals (d + 1) (vp_updL st d (if st (d + 1) ≤ st d then 0 else 1)) ce pk pv pr w key pl dn tk 0) H := by (first | rw [if_pos h100] | rw [if_neg h100]); exact hP
    replace hD : va_D F (eW A C n ops nums vc vals (d + 1) (vp_updL st d (if st (d + 1) ≤ st d then 0 else 1)) ce pk pv pr w key pl dn tk 0) := by (first | rw [if_pos h100] | rw [if_neg h100]); exact hD
    exact zVret (w' := fun (_ : Unit) => (eW A C n ops nums vc vals (d + 1) (vp_updL st d (if st (d + 1) ≤ st d then 0 else 1)) ce pk pv pr w key pl dn tk 0)) () hx hb hr hlk hS hK trivial hP hD dE_combine_133
  · refine lv_lconst (v := 1) hx hb dE_combine_103 (by decide) ?_
    refine lv_goto (tgt := 108) hx hb dE_combine_104 rfl ?_
    refine zAftv0 (zRunV0 ⟨hx, hb, hml, hown, hw⟩ (c_push_ok l D A C _ n ops nums vc vals d st ce pk pv pr w key pl dn tk 0 (1 : Int64) (by omega)) wm_E_119 wi_E_push ws_E_push wn_E wc_E_push ⟨rfl, rfl⟩ wd_E_push ⟨by decide, by decide⟩ hK hP hD 0 rfl rfl rfl hl.1 rfl (Nat.le_of_ble_eq_true rfl) dE_combine_108 ⟨by decide, by decide⟩) hP hD hS hA (fun u H locs hp hP hD hS => ?_)
    replace hP : va_P D vwCl (eW A C n ops nums vc vals (d + 1) (vp_updL st d (1 : Int64)) ce pk pv pr w key pl dn tk 0) H := hP
    replace hD : va_D F (eW A C n ops nums vc vals (d + 1) (vp_updL st d (1 : Int64)) ce pk pv pr w key pl dn tk 0) := hD
    refine lv_goto (tgt := 133) hx hb dE_combine_111 rfl ?_
    replace hP : va_P D vwCl (eW A C n ops nums vc vals (d + 1) (vp_updL st d (if st (d + 1) ≤ st d then 0 else 1)) ce pk pv pr w key pl dn tk 0) H := by (first | rw [if_pos h100] | rw [if_neg h100]); exact hP
    replace hD : va_D F (eW A C n ops nums vc vals (d + 1) (vp_updL st d (if st (d + 1) ≤ st d then 0 else 1)) ce pk pv pr w key pl dn tk 0) := by (first | rw [if_pos h100] | rw [if_neg h100]); exact hD
    exact zVret (w' := fun (_ : Unit) => (eW A C n ops nums vc vals (d + 1) (vp_updL st d (if st (d + 1) ≤ st d then 0 else 1)) ce pk pv pr w key pl dn tk 0)) () hx hb hr hlk hS hK trivial hP hD dE_combine_133

set_option maxRecDepth 20000 in
set_option maxHeartbeats 4000000 in
theorem c_combine11_ok (l : Launch) (D : va_G) (A : Nat → Nat) (C : Nat → ClassId) (sz : Nat) (n : Nat) (ops : Nat → Int32) (nums : Nat → Int64) (vc : Nat) (vals : Nat → Int64) (d : Nat) (st : Nat → Int64) (ce : Nat → Int64) (pk : Nat → Int64) (pv : Nat → Int64) (pr : Nat) (w : Nat) (key : Int64) (pl : Nat) (dn : Nat) (tk : Nat) (tr : Nat) (hd : d < 11) : Met l yE_combine (.code yE_combine cE_combine 6 none :: WS) (rmk 2 46) (va_Pc [.ref (A 0), .int (nI 11)] (zP D (eT C) sz (eW A C n ops nums vc vals (d + 1 + 1) st ce pk pv pr w key pl dn tk 0))) (va_Qv (fun _ : Unit => True) (fun (_ : Unit) t => zB D (eT C) (va_A (eW A C n ops nums vc vals (d + 1 + 1) st ce pk pv pr w key pl dn tk 0) sz) (eW A C n ops nums vc vals (d + 1) (vp_updL st d (if st d = st (d + 1) then 1 else 0)) ce pk pv pr w key pl dn tk 0) t) (va_A (eW A C n ops nums vc vals (d + 1 + 1) st ce pk pv pr w key pl dn tk 0) sz)) 0 0 (va_A (eW A C n ops nums vc vals (d + 1 + 1) st ce pk pv pr w key pl dn tk 0) sz) := by
  refine zEnt (Qc := fun F => (va_Qv (fun _ : Unit => True) (fun (_ : Unit) t => zB D (eT C) F (eW A C n ops nums vc vals (d + 1) (vp_updL st d (if st d = st (d + 1) then 1 else 0)) ce pk pv pr w key pl dn tk 0) t) F)) (by decide) (Nat.le_of_ble_eq_true rfl) (fun p e s m below meth c ls F hx hb hr hlk hml hnm hw hown hsz hP hK hD hA hl => ?_)
  have hS : va_S F s.heap s.heap [] := va_S.rf
  have hown : s.vm.findClass RE = some m.cls := hown
  have hl : lv_has ls 6 [(0, .ref (A 0)), (1, .int (nI 11))] := hl
  refine lv_aload_n hx hb dE_combine_0 rfl (lv_at hl 0 rfl) ?_
  refine zAftl0 (zRunV0 ⟨hx, hb, hml, hown, hw⟩ (c_pop_ok l D A C _ n ops nums vc vals (d + 1) st ce pk pv pr w key pl dn tk 0 (by omega)) wm_E_136 wi_E_pop ws_E_pop wn_E wc_E_pop ⟨rfl, rfl⟩ wd_E_pop ⟨by decide, by decide⟩ hK hP hD 0 rfl rfl rfl hl.1 rfl (Nat.le_of_ble_eq_true rfl) dE_combine_1 ⟨by decide, by decide⟩) hP hD hS hA (fun r u H locs hp hP hD hS => ?_)
  replace hP : va_P D vwCl (eW A C n ops nums vc vals (d + 1) st ce pk pv pr w key pl dn tk 0) H := hP
  replace hD : va_D F (eW A C n ops nums vc vals (d + 1) st ce pk pv pr w key pl dn tk 0) := hD
  subst hp
  refine lv_lstore_n hx hb dE_combine_4 rfl hl (by decide) rfl (fun ls hl => ?_)
  have hl : lv_has ls 6 [(2, .long (st (d + 1))), (0, .ref (A 0)), (1, .int (nI 11))] := hl
  refine lv_aload_n hx hb dE_combine_5 rfl (lv_at hl 1 rfl) ?_
  refine zAftl0 (zRunV0 ⟨hx, hb, hml, hown, hw⟩ (c_pop_ok l D A C _ n ops nums vc vals d st ce pk pv pr w key pl dn tk 0 (by omega)) wm_E_136 wi_E_pop ws_E_pop wn_E wc_E_pop ⟨rfl, rfl⟩ wd_E_pop ⟨by decide, by decide⟩ hK hP hD 0 rfl rfl rfl hl.1 rfl (Nat.le_of_ble_eq_true rfl) dE_combine_6 ⟨by decide, by decide⟩) hP hD hS hA (fun r u H locs hp hP hD hS => ?_)
  replace hP : va_P D vwCl (eW A C n ops nums vc vals d st ce pk pv pr w key pl dn tk 0) H := hP
  replace hD : va_D F (eW A C n ops nums vc vals d st ce pk pv pr w key pl dn tk 0) := hD
  subst hp
  refine lv_lstore hx hb dE_combine_9 hl (by decide) rfl (fun ls hl => ?_)
  have hl : lv_has ls 6 [(4, .long (st d)), (2, .long (st (d + 1))), (0, .ref (A 0)), (1, .int (nI 11))] := hl
  refine lv_iload_n hx hb dE_combine_11 rfl (lv_at hl 3 rfl) ?_
  refine lv_tableIn (off := 102) (tgt := 114) hx hb dE_combine_12 (by decide) (by decide) (by decide) rfl ?_
  refine lv_aload_n hx hb dE_combine_114 rfl (lv_at hl 2 rfl) ?_
  refine lv_lload hx hb dE_combine_115 (lv_at hl 0 rfl) ?_
  refine lv_lload_n hx hb dE_combine_117 rfl (lv_at hl 1 rfl) ?_
  refine W.lcmp hx hb dE_combine_118 ?_
  refine zl_ne (tgt := 126) hx hb dE_combine_119 rfl (fun h119 => ?_) (fun h119 => ?_)
  · refine lv_lconst (v := 0) hx hb dE_combine_126 (by decide) ?_
    refine zAftv0 (zRunV0 ⟨hx, hb, hml, hown, hw⟩ (c_push_ok l D A C _ n ops nums vc vals d st ce pk pv pr w key pl dn tk 0 (0 : Int64) (by omega)) wm_E_119 wi_E_push ws_E_push wn_E wc_E_push ⟨rfl, rfl⟩ wd_E_push ⟨by decide, by decide⟩ hK hP hD 0 rfl rfl rfl hl.1 rfl (Nat.le_of_ble_eq_true rfl) dE_combine_127 ⟨by decide, by decide⟩) hP hD hS hA (fun u H locs hp hP hD hS => ?_)
    replace hP : va_P D vwCl (eW A C n ops nums vc vals (d + 1) (vp_updL st d (0 : Int64)) ce pk pv pr w key pl dn tk 0) H := hP
    replace hD : va_D F (eW A C n ops nums vc vals (d + 1) (vp_updL st d (0 : Int64)) ce pk pv pr w key pl dn tk 0) := hD
    refine lv_goto (tgt := 133) hx hb dE_combine_130 rfl ?_
    replace hP : va_P D vwCl (eW A C n ops nums vc vals (d + 1) (vp_updL st d (if st d = st (d + 1) then 1 else 0)) ce pk pv pr w key pl dn tk 0) H := by (first | rw [if_neg h119] | rw [if_pos h119]); exact hP
    replace hD : va_D F (eW A C n ops nums vc vals (d + 1) (vp_updL st d (if st d = st (d + 1) then 1 else 0)) ce pk pv pr w key pl dn tk 0) := by (first | rw [if_neg h119] | rw [if_pos h119]); exact hD
    exact zVret (w' := fun (_ : Unit) => (eW A C n ops nums vc vals (d + 1) (vp_updL st d (if st d = st (d + 1) then 1 else 0)) ce pk pv pr w key pl dn tk 0)) () hx hb hr hlk hS hK trivial hP hD dE_combine_133
  · refine lv_lconst (v := 1) hx hb dE_combine_122 (by decide) ?_
    refine lv_goto (tgt := 127) hx hb dE_combine_123 rfl ?_
    refine zAftv0 (zRunV0 ⟨hx, hb, hml, hown, hw⟩ (c_push_ok l D A C _ n ops nums vc vals d st ce pk pv pr w key pl dn tk 0 (1 : Int64) (by omega)) wm_E_119 wi_E_push ws_E_push wn_E wc_E_push ⟨rfl, rfl⟩ wd_E_push ⟨by decide, by decide⟩ hK hP hD 0 rfl rfl rfl hl.1 rfl (Nat.le_of_ble_eq_true rfl) dE_combine_127 ⟨by decide, by decide⟩) hP hD hS hA (fun u H locs hp hP hD hS => ?_)
    replace hP : va_P D vwCl (eW A C n ops nums vc vals (d + 1) (vp_updL st d (1 : Int64)) ce pk pv pr w key pl dn tk 0) H := hP
    replace hD : va_D F (eW A C n ops nums vc vals (d + 1) (vp_updL st d (1 : Int64)) ce pk pv pr w key pl dn tk 0) := hD
    refine lv_goto (tgt := 133) hx hb dE_combine_130 rfl ?_
    replace hP : va_P D vwCl (eW A C n ops nums vc vals (d + 1) (vp_updL st d (if st d = st (d + 1) then 1 else 0)) ce pk pv pr w key pl dn tk 0) H := by (first | rw [if_neg h119] | rw [if_pos h119]); exact hP
    replace hD : va_D F (eW A C n ops nums vc vals (d + 1) (vp_updL st d (if st d = st (d + 1) then 1 else 0)) ce pk pv pr w key pl dn tk 0) := by (first | rw [if_neg h119] | rw [if_pos h119]); exact hD
    exact zVret (w' := fun (_ : Unit) => (eW A C n ops nums vc vals (d + 1) (vp_updL st d (if st d = st (d + 1) then 1 else 0)) ce pk pv pr w key pl dn tk 0)) () hx hb hr hlk hS hK trivial hP hD dE_combine_133

set_option maxRecDepth 20000 in
set_option maxHeartbeats 4000000 in
theorem c_combine6_low (l : Launch) (D : va_G) (A : Nat → Nat) (C : Nat → ClassId) (sz : Nat) (n : Nat) (ops : Nat → Int32) (nums : Nat → Int64) (vc : Nat) (vals : Nat → Int64) (d : Nat) (st : Nat → Int64) (ce : Nat → Int64) (pk : Nat → Int64) (pv : Nat → Int64) (pr : Nat) (w : Nat) (key : Int64) (pl : Nat) (dn : Nat) (tk : Nat) (tr : Nat) (hd : d ≤ 12) (hpl : pl ≤ 40) (h0 : d < 2) : Met l yE_combine (.code yE_combine cE_combine 6 none :: WS) (rmk 2 46) (va_Pc [.ref (A 0), .int (nI 6)] (zP D (eT C) sz (eW A C n ops nums vc vals d st ce pk pv pr w key pl dn tk 0))) (va_Qv (fun u : Nat × (Nat → Int64) × Nat => u.1 ≤ 12 ∧ u.2.2 ≤ 40) (fun (u : Nat × (Nat → Int64) × Nat) t => zB D (eT C) (va_A (eW A C n ops nums vc vals d st ce pk pv pr w key pl dn tk 0) sz) (eW A C n ops nums vc vals u.1 u.2.1 ce pk pv pr w key u.2.2 dn tk 1) t) (va_A (eW A C n ops nums vc vals d st ce pk pv pr w key pl dn tk 0) sz)) 0 0 (va_A (eW A C n ops nums vc vals d st ce pk pv pr w key pl dn tk 0) sz) := by
  refine zEnt (Qc := fun F => (va_Qv (fun u : Nat × (Nat → Int64) × Nat => u.1 ≤ 12 ∧ u.2.2 ≤ 40) (fun (u : Nat × (Nat → Int64) × Nat) t => zB D (eT C) F (eW A C n ops nums vc vals u.1 u.2.1 ce pk pv pr w key u.2.2 dn tk 1) t) F)) (by decide) (Nat.le_of_ble_eq_true rfl) (fun p e s m below meth c ls F hx hb hr hlk hml hnm hw hown hsz hP hK hD hA hl => ?_)
  have hS : va_S F s.heap s.heap [] := va_S.rf
  have hown : s.vm.findClass RE = some m.cls := hown
  have hl : lv_has ls 6 [(0, .ref (A 0)), (1, .int (nI 6))] := hl
  refine lv_aload_n hx hb dE_combine_0 rfl (lv_at hl 0 rfl) ?_
  refine zAftl0 (zRunV0 ⟨hx, hb, hml, hown, hw⟩ (c_pop l D A C _ n ops nums vc vals d st ce pk pv pr w key pl dn tk 0 (by omega)) wm_E_136 wi_E_pop ws_E_pop wn_E wc_E_pop ⟨rfl, rfl⟩ wd_E_pop ⟨by decide, by decide⟩ hK hP hD 0 rfl rfl rfl hl.1 rfl (Nat.le_of_ble_eq_true rfl) dE_combine_1 ⟨by decide, by decide⟩) hP hD hS hA (fun r u H locs hp hP hD hS => ?_)
  replace hP : va_P D vwCl (eW A C n ops nums vc vals (d - 1) st ce pk pv pr w key pl dn tk (qT d 0)) H := hP
  replace hD : va_D F (eW A C n ops nums vc vals (d - 1) st ce pk pv pr w key pl dn tk (qT d 0)) := hD
  subst hp
  refine lv_lstore_n hx hb dE_combine_4 rfl hl (by decide) rfl (fun ls hl => ?_)
  have hl : lv_has ls 6 [(2, .long (qV d st)), (0, .ref (A 0)), (1, .int (nI 6))] := hl
  refine lv_aload_n hx hb dE_combine_5 rfl (lv_at hl 1 rfl) ?_
  refine zAftl0 (zRunV0 ⟨hx, hb, hml, hown, hw⟩ (c_pop l D A C _ n ops nums vc vals (d - 1) st ce pk pv pr w key pl dn tk (qT d 0) (by omega)) wm_E_136 wi_E_pop ws_E_pop wn_E wc_E_pop ⟨rfl, rfl⟩ wd_E_pop ⟨by decide, by decide⟩ hK hP hD 0 rfl rfl rfl hl.1 rfl (Nat.le_of_ble_eq_true rfl) dE_combine_6 ⟨by decide, by decide⟩) hP hD hS hA (fun r u H locs hp hP hD hS => ?_)
  replace hP : va_P D vwCl (eW A C n ops nums vc vals (d - 1 - 1) st ce pk pv pr w key pl dn tk (qT (d - 1) (qT d 0))) H := hP
  replace hD : va_D F (eW A C n ops nums vc vals (d - 1 - 1) st ce pk pv pr w key pl dn tk (qT (d - 1) (qT d 0))) := hD
  subst hp
  refine lv_lstore hx hb dE_combine_9 hl (by decide) rfl (fun ls hl => ?_)
  have hl : lv_has ls 6 [(4, .long (qV (d - 1) st)), (2, .long (qV d st)), (0, .ref (A 0)), (1, .int (nI 6))] := hl
  refine lv_iload_n hx hb dE_combine_11 rfl (lv_at hl 3 rfl) ?_
  refine lv_tableIn (off := 40) (tgt := 52) hx hb dE_combine_12 (by decide) (by decide) (by decide) rfl ?_
  refine lv_aload_n hx hb dE_combine_52 rfl (lv_at hl 2 rfl) ?_
  refine lv_lload hx hb dE_combine_53 (lv_at hl 0 rfl) ?_
  refine lv_lload_n hx hb dE_combine_55 rfl (lv_at hl 1 rfl) ?_
  refine lv_ladd hx hb dE_combine_56 ?_
  refine zAftv0 (zRunV0 ⟨hx, hb, hml, hown, hw⟩ (c_push l D A C _ n ops nums vc vals (d - 1 - 1) st ce pk pv pr w key pl dn tk (qT (d - 1) (qT d 0)) ((qV (d - 1) st) + (qV d st)) (by omega)) wm_E_119 wi_E_push ws_E_push wn_E wc_E_push ⟨rfl, rfl⟩ wd_E_push ⟨by decide, by decide⟩ hK hP hD 0 rfl rfl rfl hl.1 rfl (Nat.le_of_ble_eq_true rfl) dE_combine_57 ⟨by decide, by decide⟩) hP hD hS hA (fun u H locs hp hP hD hS => ?_)
  replace hP : va_P D vwCl (eW A C n ops nums vc vals (pD (d - 1 - 1)) (pS ((qV (d - 1) st) + (qV d st)) (d - 1 - 1) st) ce pk pv pr w key pl dn tk (pT (d - 1 - 1) (qT (d - 1) (qT d 0)))) H := hP
  replace hD : va_D F (eW A C n ops nums vc vals (pD (d - 1 - 1)) (pS ((qV (d - 1) st) + (qV d st)) (d - 1 - 1) st) ce pk pv pr w key pl dn tk (pT (d - 1 - 1) (qT (d - 1) (qT d 0)))) := hD
  refine lv_goto (tgt := 133) hx hb dE_combine_60 rfl ?_
  have e9 : (pT (d - 1 - 1) (qT (d - 1) (qT d 0))) = 1 := by simp only [pT, qT, pD]; (repeat' split) <;> omega
  rw [e9] at hP hD
  exact zVret (w' := fun (u : Nat × (Nat → Int64) × Nat) => (eW A C n ops nums vc vals u.1 u.2.1 ce pk pv pr w key u.2.2 dn tk 1)) (pD (d - 1 - 1), pS ((qV (d - 1) st) + (qV d st)) (d - 1 - 1) st, pl) hx hb hr hlk hS hK ⟨by simp only [pD]; (repeat' split) <;> omega, by omega⟩ hP hD dE_combine_133

set_option maxRecDepth 20000 in
set_option maxHeartbeats 4000000 in
theorem c_combine7_low (l : Launch) (D : va_G) (A : Nat → Nat) (C : Nat → ClassId) (sz : Nat) (n : Nat) (ops : Nat → Int32) (nums : Nat → Int64) (vc : Nat) (vals : Nat → Int64) (d : Nat) (st : Nat → Int64) (ce : Nat → Int64) (pk : Nat → Int64) (pv : Nat → Int64) (pr : Nat) (w : Nat) (key : Int64) (pl : Nat) (dn : Nat) (tk : Nat) (tr : Nat) (hd : d ≤ 12) (hpl : pl ≤ 40) (h0 : d < 2) : Met l yE_combine (.code yE_combine cE_combine 6 none :: WS) (rmk 2 46) (va_Pc [.ref (A 0), .int (nI 7)] (zP D (eT C) sz (eW A C n ops nums vc vals d st ce pk pv pr w key pl dn tk 0))) (va_Qv (fun u : Nat × (Nat → Int64) × Nat => u.1 ≤ 12 ∧ u.2.2 ≤ 40) (fun (u : Nat × (Nat → Int64) × Nat) t => zB D (eT C) (va_A (eW A C n ops nums vc vals d st ce pk pv pr w key pl dn tk 0) sz) (eW A C n ops nums vc vals u.1 u.2.1 ce pk pv pr w key u.2.2 dn tk 1) t) (va_A (eW A C n ops nums vc vals d st ce pk pv pr w key pl dn tk 0) sz)) 0 0 (va_A (eW A C n ops nums vc vals d st ce pk pv pr w key pl dn tk 0) sz) := by
  refine zEnt (Qc := fun F => (va_Qv (fun u : Nat × (Nat → Int64) × Nat => u.1 ≤ 12 ∧ u.2.2 ≤ 40) (fun (u : Nat × (Nat → Int64) × Nat) t => zB D (eT C) F (eW A C n ops nums vc vals u.1 u.2.1 ce pk pv pr w key u.2.2 dn tk 1) t) F)) (by decide) (Nat.le_of_ble_eq_true rfl) (fun p e s m below meth c ls F hx hb hr hlk hml hnm hw hown hsz hP hK hD hA hl => ?_)
  have hS : va_S F s.heap s.heap [] := va_S.rf
  have hown : s.vm.findClass RE = some m.cls := hown
  have hl : lv_has ls 6 [(0, .ref (A 0)), (1, .int (nI 7))] := hl
  refine lv_aload_n hx hb dE_combine_0 rfl (lv_at hl 0 rfl) ?_
  refine zAftl0 (zRunV0 ⟨hx, hb, hml, hown, hw⟩ (c_pop l D A C _ n ops nums vc vals d st ce pk pv pr w key pl dn tk 0 (by omega)) wm_E_136 wi_E_pop ws_E_pop wn_E wc_E_pop ⟨rfl, rfl⟩ wd_E_pop ⟨by decide, by decide⟩ hK hP hD 0 rfl rfl rfl hl.1 rfl (Nat.le_of_ble_eq_true rfl) dE_combine_1 ⟨by decide, by decide⟩) hP hD hS hA (fun r u H locs hp hP hD hS => ?_)
  replace hP : va_P D vwCl (eW A C n ops nums vc vals (d - 1) st ce pk pv pr w key pl dn tk (qT d 0)) H := hP
  replace hD : va_D F (eW A C n ops nums vc vals (d - 1) st ce pk pv pr w key pl dn tk (qT d 0)) := hD
  subst hp
  refine lv_lstore_n hx hb dE_combine_4 rfl hl (by decide) rfl (fun ls hl => ?_)
  have hl : lv_has ls 6 [(2, .long (qV d st)), (0, .ref (A 0)), (1, .int (nI 7))] := hl
  refine lv_aload_n hx hb dE_combine_5 rfl (lv_at hl 1 rfl) ?_
  refine zAftl0 (zRunV0 ⟨hx, hb, hml, hown, hw⟩ (c_pop l D A C _ n ops nums vc vals (d - 1) st ce pk pv pr w key pl dn tk (qT d 0) (by omega)) wm_E_136 wi_E_pop ws_E_pop wn_E wc_E_pop ⟨rfl, rfl⟩ wd_E_pop ⟨by decide, by decide⟩ hK hP hD 0 rfl rfl rfl hl.1 rfl (Nat.le_of_ble_eq_true rfl) dE_combine_6 ⟨by decide, by decide⟩) hP hD hS hA (fun r u H locs hp hP hD hS => ?_)
  replace hP : va_P D vwCl (eW A C n ops nums vc vals (d - 1 - 1) st ce pk pv pr w key pl dn tk (qT (d - 1) (qT d 0))) H := hP
  replace hD : va_D F (eW A C n ops nums vc vals (d - 1 - 1) st ce pk pv pr w key pl dn tk (qT (d - 1) (qT d 0))) := hD
  subst hp
  refine lv_lstore hx hb dE_combine_9 hl (by decide) rfl (fun ls hl => ?_)
  have hl : lv_has ls 6 [(4, .long (qV (d - 1) st)), (2, .long (qV d st)), (0, .ref (A 0)), (1, .int (nI 7))] := hl
  refine lv_iload_n hx hb dE_combine_11 rfl (lv_at hl 3 rfl) ?_
  refine lv_tableIn (off := 51) (tgt := 63) hx hb dE_combine_12 (by decide) (by decide) (by decide) rfl ?_
  refine lv_aload_n hx hb dE_combine_63 rfl (lv_at hl 2 rfl) ?_
  refine lv_lload hx hb dE_combine_64 (lv_at hl 0 rfl) ?_
  refine lv_lload_n hx hb dE_combine_66 rfl (lv_at hl 1 rfl) ?_
  refine lv_lsub hx hb dE_combine_67 ?_
  refine zAftv0 (zRunV0 ⟨hx, hb, hml, hown, hw⟩ (c_push l D A C _ n ops nums vc vals (d - 1 - 1) st ce pk pv pr w key pl dn tk (qT (d - 1) (qT d 0)) ((qV (d - 1) st) - (qV d st)) (by omega)) wm_E_119 wi_E_push ws_E_push wn_E wc_E_push ⟨rfl, rfl⟩ wd_E_push ⟨by decide, by decide⟩ hK hP hD 0 rfl rfl rfl hl.1 rfl (Nat.le_of_ble_eq_true rfl) dE_combine_68 ⟨by decide, by decide⟩) hP hD hS hA (fun u H locs hp hP hD hS => ?_)
  replace hP : va_P D vwCl (eW A C n ops nums vc vals (pD (d - 1 - 1)) (pS ((qV (d - 1) st) - (qV d st)) (d - 1 - 1) st) ce pk pv pr w key pl dn tk (pT (d - 1 - 1) (qT (d - 1) (qT d 0)))) H := hP
  replace hD : va_D F (eW A C n ops nums vc vals (pD (d - 1 - 1)) (pS ((qV (d - 1) st) - (qV d st)) (d - 1 - 1) st) ce pk pv pr w key pl dn tk (pT (d - 1 - 1) (qT (d - 1) (qT d 0)))) := hD
  refine lv_goto (tgt := 133) hx hb dE_combine_71 rfl ?_
  have e9 : (pT (d - 1 - 1) (qT (d - 1) (qT d 0))) = 1 := by simp only [pT, qT, pD]; (repeat' split) <;> omega
  rw [e9] at hP hD
  exact zVret (w' := fun (u : Nat × (Nat → Int64) × Nat) => (eW A C n ops nums vc vals u.1 u.2.1 ce pk pv pr w key u.2.2 dn tk 1)) (pD (d - 1 - 1), pS ((qV (d - 1) st) - (qV d st)) (d - 1 - 1) st, pl) hx hb hr hlk hS hK ⟨by simp only [pD]; (repeat' split) <;> omega, by omega⟩ hP hD dE_combine_133

set_option maxRecDepth 20000 in
set_option maxHeartbeats 4000000 in
theorem c_combine8_low (l : Launch) (D : va_G) (A : Nat → Nat) (C : Nat → ClassId) (sz : Nat) (n : Nat) (ops : Nat → Int32) (nums : Nat → Int64) (vc : Nat) (vals : Nat → Int64) (d : Nat) (st : Nat → Int64) (ce : Nat → Int64) (pk : Nat → Int64) (pv : Nat → Int64) (pr : Nat) (w : Nat) (key : Int64) (pl : Nat) (dn : Nat) (tk : Nat) (tr : Nat) (hd : d ≤ 12) (hpl : pl ≤ 40) (h0 : d < 2) : Met l yE_combine (.code yE_combine cE_combine 6 none :: WS) (rmk 2 46) (va_Pc [.ref (A 0), .int (nI 8)] (zP D (eT C) sz (eW A C n ops nums vc vals d st ce pk pv pr w key pl dn tk 0))) (va_Qv (fun u : Nat × (Nat → Int64) × Nat => u.1 ≤ 12 ∧ u.2.2 ≤ 40) (fun (u : Nat × (Nat → Int64) × Nat) t => zB D (eT C) (va_A (eW A C n ops nums vc vals d st ce pk pv pr w key pl dn tk 0) sz) (eW A C n ops nums vc vals u.1 u.2.1 ce pk pv pr w key u.2.2 dn tk 1) t) (va_A (eW A C n ops nums vc vals d st ce pk pv pr w key pl dn tk 0) sz)) 0 0 (va_A (eW A C n ops nums vc vals d st ce pk pv pr w key pl dn tk 0) sz) := by
  refine zEnt (Qc := fun F => (va_Qv (fun u : Nat × (Nat → Int64) × Nat => u.1 ≤ 12 ∧ u.2.2 ≤ 40) (fun (u : Nat × (Nat → Int64) × Nat) t => zB D (eT C) F (eW A C n ops nums vc vals u.1 u.2.1 ce pk pv pr w key u.2.2 dn tk 1) t) F)) (by decide) (Nat.le_of_ble_eq_true rfl) (fun p e s m below meth c ls F hx hb hr hlk hml hnm hw hown hsz hP hK hD hA hl => ?_)
  have hS : va_S F s.heap s.heap [] := va_S.rf
  have hown : s.vm.findClass RE = some m.cls := hown
  have hl : lv_has ls 6 [(0, .ref (A 0)), (1, .int (nI 8))] := hl
  refine lv_aload_n hx hb dE_combine_0 rfl (lv_at hl 0 rfl) ?_
  refine zAftl0 (zRunV0 ⟨hx, hb, hml, hown, hw⟩ (c_pop l D A C _ n ops nums vc vals d st ce pk pv pr w key pl dn tk 0 (by omega)) wm_E_136 wi_E_pop ws_E_pop wn_E wc_E_pop ⟨rfl, rfl⟩ wd_E_pop ⟨by decide, by decide⟩ hK hP hD 0 rfl rfl rfl hl.1 rfl (Nat.le_of_ble_eq_true rfl) dE_combine_1 ⟨by decide, by decide⟩) hP hD hS hA (fun r u H locs hp hP hD hS => ?_)
  replace hP : va_P D vwCl (eW A C n ops nums vc vals (d - 1) st ce pk pv pr w key pl dn tk (qT d 0)) H := hP
  replace hD : va_D F (eW A C n ops nums vc vals (d - 1) st ce pk pv pr w key pl dn tk (qT d 0)) := hD
  subst hp
  refine lv_lstore_n hx hb dE_combine_4 rfl hl (by decide) rfl (fun ls hl => ?_)
  have hl : lv_has ls 6 [(2, .long (qV d st)), (0, .ref (A 0)), (1, .int (nI 8))] := hl
  refine lv_aload_n hx hb dE_combine_5 rfl (lv_at hl 1 rfl) ?_
  refine zAftl0 (zRunV0 ⟨hx, hb, hml, hown, hw⟩ (c_pop l D A C _ n ops nums vc vals (d - 1) st ce pk pv pr w key pl dn tk (qT d 0) (by omega)) wm_E_136 wi_E_pop ws_E_pop wn_E wc_E_pop ⟨rfl, rfl⟩ wd_E_pop ⟨by decide, by decide⟩ hK hP hD 0 rfl rfl rfl hl.1 rfl (Nat.le_of_ble_eq_true rfl) dE_combine_6 ⟨by decide, by decide⟩) hP hD hS hA (fun r u H locs hp hP hD hS => ?_)
  replace hP : va_P D vwCl (eW A C n ops nums vc vals (d - 1 - 1) st ce pk pv pr w key pl dn tk (qT (d - 1) (qT d 0))) H := hP
  replace hD : va_D F (eW A C n ops nums vc vals (d - 1 - 1) st ce pk pv pr w key pl dn tk (qT (d - 1) (qT d 0))) := hD
  subst hp
  refine lv_lstore hx hb dE_combine_9 hl (by decide) rfl (fun ls hl => ?_)
  have hl : lv_has ls 6 [(4, .long (qV (d - 1) st)), (2, .long (qV d st)), (0, .ref (A 0)), (1, .int (nI 8))] := hl
  refine lv_iload_n hx hb dE_combine_11 rfl (lv_at hl 3 rfl) ?_
  refine lv_tableIn (off := 62) (tgt := 74) hx hb dE_combine_12 (by decide) (by decide) (by decide) rfl ?_
  refine lv_aload_n hx hb dE_combine_74 rfl (lv_at hl 2 rfl) ?_
  refine lv_lload hx hb dE_combine_75 (lv_at hl 0 rfl) ?_
  refine lv_lload_n hx hb dE_combine_77 rfl (lv_at hl 1 rfl) ?_
  refine lv_lmul hx hb dE_combine_78 ?_
  refine zAftv0 (zRunV0 ⟨hx, hb, hml, hown, hw⟩ (c_push l D A C _ n ops nums vc vals (d - 1 - 1) st ce pk pv pr w key pl dn tk (qT (d - 1) (qT d 0)) ((qV (d - 1) st) * (qV d st)) (by omega)) wm_E_119 wi_E_push ws_E_push wn_E wc_E_push ⟨rfl, rfl⟩ wd_E_push ⟨by decide, by decide⟩ hK hP hD 0 rfl rfl rfl hl.1 rfl (Nat.le_of_ble_eq_true rfl) dE_combine_79 ⟨by decide, by decide⟩) hP hD hS hA (fun u H locs hp hP hD hS => ?_)
  replace hP : va_P D vwCl (eW A C n ops nums vc vals (pD (d - 1 - 1)) (pS ((qV (d - 1) st) * (qV d st)) (d - 1 - 1) st) ce pk pv pr w key pl dn tk (pT (d - 1 - 1) (qT (d - 1) (qT d 0)))) H := hP
  replace hD : va_D F (eW A C n ops nums vc vals (pD (d - 1 - 1)) (pS ((qV (d - 1) st) * (qV d st)) (d - 1 - 1) st) ce pk pv pr w key pl dn tk (pT (d - 1 - 1) (qT (d - 1) (qT d 0)))) := hD
  refine lv_goto (tgt := 133) hx hb dE_combine_82 rfl ?_
  have e9 : (pT (d - 1 - 1) (qT (d - 1) (qT d 0))) = 1 := by simp only [pT, qT, pD]; (repeat' split) <;> omega
  rw [e9] at hP hD
  exact zVret (w' := fun (u : Nat × (Nat → Int64) × Nat) => (eW A C n ops nums vc vals u.1 u.2.1 ce pk pv pr w key u.2.2 dn tk 1)) (pD (d - 1 - 1), pS ((qV (d - 1) st) * (qV d st)) (d - 1 - 1) st, pl) hx hb hr hlk hS hK ⟨by simp only [pD]; (repeat' split) <;> omega, by omega⟩ hP hD dE_combine_133

set_option maxRecDepth 20000 in
set_option maxHeartbeats 4000000 in
theorem c_combine10_low (l : Launch) (D : va_G) (A : Nat → Nat) (C : Nat → ClassId) (sz : Nat) (n : Nat) (ops : Nat → Int32) (nums : Nat → Int64) (vc : Nat) (vals : Nat → Int64) (d : Nat) (st : Nat → Int64) (ce : Nat → Int64) (pk : Nat → Int64) (pv : Nat → Int64) (pr : Nat) (w : Nat) (key : Int64) (pl : Nat) (dn : Nat) (tk : Nat) (tr : Nat) (hd : d ≤ 12) (hpl : pl ≤ 40) (h0 : d < 2) : Met l yE_combine (.code yE_combine cE_combine 6 none :: WS) (rmk 2 46) (va_Pc [.ref (A 0), .int (nI 10)] (zP D (eT C) sz (eW A C n ops nums vc vals d st ce pk pv pr w key pl dn tk 0))) (va_Qv (fun u : Nat × (Nat → Int64) × Nat => u.1 ≤ 12 ∧ u.2.2 ≤ 40) (fun (u : Nat × (Nat → Int64) × Nat) t => zB D (eT C) (va_A (eW A C n ops nums vc vals d st ce pk pv pr w key pl dn tk 0) sz) (eW A C n ops nums vc vals u.1 u.2.1 ce pk pv pr w key u.2.2 dn tk 1) t) (va_A (eW A C n ops nums vc vals d st ce pk pv pr w key pl dn tk 0) sz)) 0 0 (va_A (eW A C n ops nums vc vals d st ce pk pv pr w key pl dn tk 0) sz) := by
  refine zEnt (Qc := fun F => (va_Qv (fun u : Nat × (Nat → Int64) × Nat => u.1 ≤ 12 ∧ u.2.2 ≤ 40) (fun (u : Nat × (Nat → Int64) × Nat) t => zB D (eT C) F (eW A C n ops nums vc vals u.1 u.2.1 ce pk pv pr w key u.2.2 dn tk 1) t) F)) (by decide) (Nat.le_of_ble_eq_true rfl) (fun p e s m below meth c ls F hx hb hr hlk hml hnm hw hown hsz hP hK hD hA hl => ?_)
  have hS : va_S F s.heap s.heap [] := va_S.rf
  have hown : s.vm.findClass RE = some m.cls := hown
  have hl : lv_has ls 6 [(0, .ref (A 0)), (1, .int (nI 10))] := hl
  refine lv_aload_n hx hb dE_combine_0 rfl (lv_at hl 0 rfl) ?_
  refine zAftl0 (zRunV0 ⟨hx, hb, hml, hown, hw⟩ (c_pop l D A C _ n ops nums vc vals d st ce pk pv pr w key pl dn tk 0 (by omega)) wm_E_136 wi_E_pop ws_E_pop wn_E wc_E_pop ⟨rfl, rfl⟩ wd_E_pop ⟨by decide, by decide⟩ hK hP hD 0 rfl rfl rfl hl.1 rfl (Nat.le_of_ble_eq_true rfl) dE_combine_1 ⟨by decide, by decide⟩) hP hD hS hA (fun r u H locs hp hP hD hS => ?_)
  replace hP : va_P D vwCl (eW A C n ops nums vc vals (d - 1) st ce pk pv pr w key pl dn tk (qT d 0)) H := hP
  replace hD : va_D F (eW A C n ops nums vc vals (d - 1) st ce pk pv pr w key pl dn tk (qT d 0)) := hD
  subst hp
  refine lv_lstore_n hx hb dE_combine_4 rfl hl (by decide) rfl (fun ls hl => ?_)
  have hl : lv_has ls 6 [(2, .long (qV d st)), (0, .ref (A 0)), (1, .int (nI 10))] := hl
  refine lv_aload_n hx hb dE_combine_5 rfl (lv_at hl 1 rfl) ?_
  refine zAftl0 (zRunV0 ⟨hx, hb, hml, hown, hw⟩ (c_pop l D A C _ n ops nums vc vals (d - 1) st ce pk pv pr w key pl dn tk (qT d 0) (by omega)) wm_E_136 wi_E_pop ws_E_pop wn_E wc_E_pop ⟨rfl, rfl⟩ wd_E_pop ⟨by decide, by decide⟩ hK hP hD 0 rfl rfl rfl hl.1 rfl (Nat.le_of_ble_eq_true rfl) dE_combine_6 ⟨by decide, by decide⟩) hP hD hS hA (fun r u H locs hp hP hD hS => ?_)
  replace hP : va_P D vwCl (eW A C n ops nums vc vals (d - 1 - 1) st ce pk pv pr w key pl dn tk (qT (d - 1) (qT d 0))) H := hP
  replace hD : va_D F (eW A C n ops nums vc vals (d - 1 - 1) st ce pk pv pr w key pl dn tk (qT (d - 1) (qT d 0))) := hD
  subst hp
  refine lv_lstore hx hb dE_combine_9 hl (by decide) rfl (fun ls hl => ?_)
  have hl : lv_has ls 6 [(4, .long (qV (d - 1) st)), (2, .long (qV d st)), (0, .ref (A 0)), (1, .int (nI 10))] := hl
  refine lv_iload_n hx hb dE_combine_11 rfl (lv_at hl 3 rfl) ?_
  refine lv_tableIn (off := 83) (tgt := 95) hx hb dE_combine_12 (by decide) (by decide) (by decide) rfl ?_
  refine lv_aload_n hx hb dE_combine_95 rfl (lv_at hl 2 rfl) ?_
  refine lv_lload hx hb dE_combine_96 (lv_at hl 0 rfl) ?_
  refine lv_lload_n hx hb dE_combine_98 rfl (lv_at hl 1 rfl) ?_
  refine W.lcmp hx hb dE_combine_99 ?_
  refine zl_ge (tgt := 107) hx hb dE_combine_100 rfl (fun h100 => ?_) (fun h100 => ?_)
  · refine lv_lconst (v := 0) hx hb dE_combine_107 (by decide) ?_
    refine zAftv0 (zRunV0 ⟨hx, hb, hml, hown, hw⟩ (c_push l D A C _ n ops nums vc vals (d - 1 - 1) st ce pk pv pr w key pl dn tk (qT (d - 1) (qT d 0)) (0 : Int64) (by omega)) wm_E_119 wi_E_push ws_E_push wn_E wc_E_push ⟨rfl, rfl⟩ wd_E_push ⟨by decide, by decide⟩ hK hP hD 0 rfl rfl rfl hl.1 rfl (Nat.le_of_ble_eq_true rfl) dE_combine_108 ⟨by decide, by decide⟩) hP hD hS hA (fun u H locs hp hP hD hS => ?_)
    replace hP : va_P D vwCl (eW A C n ops nums vc vals (pD (d - 1 - 1)) (pS (0 : Int64) (d - 1 - 1) st) ce pk pv pr w key pl dn tk (pT (d - 1 - 1) (qT (d - 1) (qT d 0)))) H := hP
    replace hD : va_D F (eW A C n ops nums vc vals (pD (d - 1 - 1)) (pS (0 : Int64) (d - 1 - 1) st) ce pk pv pr w key pl dn tk (pT (d - 1 - 1) (qT (d - 1) (qT d 0)))) := hD
    refine lv_goto (tgt := 133) hx hb dE_combine_111 rfl ?_
    have e9 : (pT (d - 1 - 1) (qT (d - 1) (qT d 0))) = 1 := by simp only [pT, qT, pD]; (repeat' split) <;> omega
    rw [e9] at hP hD
    exact zVret (w' := fun (u : Nat × (Nat → Int64) × Nat) => (eW A C n ops nums vc vals u.1 u.2.1 ce pk pv pr w key u.2.2 dn tk 1)) (pD (d - 1 - 1), pS (0 : Int64) (d - 1 - 1) st, pl) hx hb hr hlk hS hK ⟨by simp only [pD]; (repeat' split) <;> omega, by omega⟩ hP hD dE_combine_133
  · refine lv_lconst (v := 1) hx hb dE_combine_103 (by decide) ?_
    refine lv_goto (tgt := 108) hx hb dE_combine_104 rfl ?_
    refine zAftv0 (zRunV0 ⟨hx, hb, hml, hown, hw⟩ (c_push l D A C _ n ops nums vc vals (d - 1 - 1) st ce pk pv pr w key pl dn tk (qT (d - 1) (qT d 0)) (1 : Int64) (by omega)) wm_E_119 wi_E_push ws_E_push wn_E wc_E_push ⟨rfl, rfl⟩ wd_E_push ⟨by decide, by decide⟩ hK hP hD 0 rfl rfl rfl hl.1 rfl (Nat.le_of_ble_eq_true rfl) dE_combine_108 ⟨by decide, by decide⟩) hP hD hS hA (fun u H locs hp hP hD hS => ?_)
    replace hP : va_P D vwCl (eW A C n ops nums vc vals (pD (d - 1 - 1)) (pS (1 : Int64) (d - 1 - 1) st) ce pk pv pr w key pl dn tk (pT (d - 1 - 1) (qT (d - 1) (qT d 0)))) H := hP
    replace hD : va_D F (eW A C n ops nums vc vals (pD (d - 1 - 1)) (pS (1 : Int64) (d - 1 - 1) st) ce pk pv pr w key pl dn tk (pT (d - 1 - 1) (qT (d - 1) (qT d 0)))) := hD
    refine lv_goto (tgt := 133) hx hb dE_combine_111 rfl ?_
    have e9 : (pT (d - 1 - 1) (qT (d - 1) (qT d 0))) = 1 := by simp only [pT, qT, pD]; (repeat' split) <;> omega
    rw [e9] at hP hD
    exact zVret (w' := fun (u : Nat × (Nat → Int64) × Nat) => (eW A C n ops nums vc vals u.1 u.2.1 ce pk pv pr w key u.2.2 dn tk 1)) (pD (d - 1 - 1), pS (1 : Int64) (d - 1 - 1) st, pl) hx hb hr hlk hS hK ⟨by simp only [pD]; (repeat' split) <;> omega, by omega⟩ hP hD dE_combine_133

set_option maxRecDepth 20000 in
set_option maxHeartbeats 4000000 in
theorem c_combine11_low (l : Launch) (D : va_G) (A : Nat → Nat) (C : Nat → ClassId) (sz : Nat) (n : Nat) (ops : Nat → Int32) (nums : Nat → Int64) (vc : Nat) (vals : Nat → Int64) (d : Nat) (st : Nat → Int64) (ce : Nat → Int64) (pk : Nat → Int64) (pv : Nat → Int64) (pr : Nat) (w : Nat) (key : Int64) (pl : Nat) (dn : Nat) (tk : Nat) (tr : Nat) (hd : d ≤ 12) (hpl : pl ≤ 40) (h0 : d < 2) : Met l yE_combine (.code yE_combine cE_combine 6 none :: WS) (rmk 2 46) (va_Pc [.ref (A 0), .int (nI 11)] (zP D (eT C) sz (eW A C n ops nums vc vals d st ce pk pv pr w key pl dn tk 0))) (va_Qv (fun u : Nat × (Nat → Int64) × Nat => u.1 ≤ 12 ∧ u.2.2 ≤ 40) (fun (u : Nat × (Nat → Int64) × Nat) t => zB D (eT C) (va_A (eW A C n ops nums vc vals d st ce pk pv pr w key pl dn tk 0) sz) (eW A C n ops nums vc vals u.1 u.2.1 ce pk pv pr w key u.2.2 dn tk 1) t) (va_A (eW A C n ops nums vc vals d st ce pk pv pr w key pl dn tk 0) sz)) 0 0 (va_A (eW A C n ops nums vc vals d st ce pk pv pr w key pl dn tk 0) sz) := by
  refine zEnt (Qc := fun F => (va_Qv (fun u : Nat × (Nat → Int64) × Nat => u.1 ≤ 12 ∧ u.2.2 ≤ 40) (fun (u : Nat × (Nat → Int64) × Nat) t => zB D (eT C) F (eW A C n ops nums vc vals u.1 u.2.1 ce pk pv pr w key u.2.2 dn tk 1) t) F)) (by decide) (Nat.le_of_ble_eq_true rfl) (fun p e s m below meth c ls F hx hb hr hlk hml hnm hw hown hsz hP hK hD hA hl => ?_)
  have hS : va_S F s.heap s.heap [] := va_S.rf
  have hown : s.vm.findClass RE = some m.cls := hown
  have hl : lv_has ls 6 [(0, .ref (A 0)), (1, .int (nI 11))] := hl
  refine lv_aload_n hx hb dE_combine_0 rfl (lv_at hl 0 rfl) ?_
  refine zAftl0 (zRunV0 ⟨hx, hb, hml, hown, hw⟩ (c_pop l D A C _ n ops nums vc vals d st ce pk pv pr w key pl dn tk 0 (by omega)) wm_E_136 wi_E_pop ws_E_pop wn_E wc_E_pop ⟨rfl, rfl⟩ wd_E_pop ⟨by decide, by decide⟩ hK hP hD 0 rfl rfl rfl hl.1 rfl (Nat.le_of_ble_eq_true rfl) dE_combine_1 ⟨by decide, by decide⟩) hP hD hS hA (fun r u H locs hp hP hD hS => ?_)
  replace hP : va_P D vwCl (eW A C n ops nums vc vals (d - 1) st ce pk pv pr w key pl dn tk (qT d 0)) H := hP
  replace hD : va_D F (eW A C n ops nums vc vals (d - 1) st ce pk pv pr w key pl dn tk (qT d 0)) := hD
  subst hp
  refine lv_lstore_n hx hb dE_combine_4 rfl hl (by decide) rfl (fun ls hl => ?_)
  have hl : lv_has ls 6 [(2, .long (qV d st)), (0, .ref (A 0)), (1, .int (nI 11))] := hl
  refine lv_aload_n hx hb dE_combine_5 rfl (lv_at hl 1 rfl) ?_
  refine zAftl0 (zRunV0 ⟨hx, hb, hml, hown, hw⟩ (c_pop l D A C _ n ops nums vc vals (d - 1) st ce pk pv pr w key pl dn tk (qT d 0) (by omega)) wm_E_136 wi_E_pop ws_E_pop wn_E wc_E_pop ⟨rfl, rfl⟩ wd_E_pop ⟨by decide, by decide⟩ hK hP hD 0 rfl rfl rfl hl.1 rfl (Nat.le_of_ble_eq_true rfl) dE_combine_6 ⟨by decide, by decide⟩) hP hD hS hA (fun r u H locs hp hP hD hS => ?_)
  replace hP : va_P D vwCl (eW A C n ops nums vc vals (d - 1 - 1) st ce pk pv pr w key pl dn tk (qT (d - 1) (qT d 0))) H := hP
  replace hD : va_D F (eW A C n ops nums vc vals (d - 1 - 1) st ce pk pv pr w key pl dn tk (qT (d - 1) (qT d 0))) := hD
  subst hp
  refine lv_lstore hx hb dE_combine_9 hl (by decide) rfl (fun ls hl => ?_)
  have hl : lv_has ls 6 [(4, .long (qV (d - 1) st)), (2, .long (qV d st)), (0, .ref (A 0)), (1, .int (nI 11))] := hl
  refine lv_iload_n hx hb dE_combine_11 rfl (lv_at hl 3 rfl) ?_
  refine lv_tableIn (off := 102) (tgt := 114) hx hb dE_combine_12 (by decide) (by decide) (by decide) rfl ?_
  refine lv_aload_n hx hb dE_combine_114 rfl (lv_at hl 2 rfl) ?_
  refine lv_lload hx hb dE_combine_115 (lv_at hl 0 rfl) ?_
  refine lv_lload_n hx hb dE_combine_117 rfl (lv_at hl 1 rfl) ?_
  refine W.lcmp hx hb dE_combine_118 ?_
  refine zl_ne (tgt := 126) hx hb dE_combine_119 rfl (fun h119 => ?_) (fun h119 => ?_)
  · refine lv_lconst (v := 0) hx hb dE_combine_126 (by decide) ?_
    refine zAftv0 (zRunV0 ⟨hx, hb, hml, hown, hw⟩ (c_push l D A C _ n ops nums vc vals (d - 1 - 1) st ce pk pv pr w key pl dn tk (qT (d - 1) (qT d 0)) (0 : Int64) (by omega)) wm_E_119 wi_E_push ws_E_push wn_E wc_E_push ⟨rfl, rfl⟩ wd_E_push ⟨by decide, by decide⟩ hK hP hD 0 rfl rfl rfl hl.1 rfl (Nat.le_of_ble_eq_true rfl) dE_combine_127 ⟨by decide, by decide⟩) hP hD hS hA (fun u H locs hp hP hD hS => ?_)
    replace hP : va_P D vwCl (eW A C n ops nums vc vals (pD (d - 1 - 1)) (pS (0 : Int64) (d - 1 - 1) st) ce pk pv pr w key pl dn tk (pT (d - 1 - 1) (qT (d - 1) (qT d 0)))) H := hP
    replace hD : va_D F (eW A C n ops nums vc vals (pD (d - 1 - 1)) (pS (0 : Int64) (d - 1 - 1) st) ce pk pv pr w key pl dn tk (pT (d - 1 - 1) (qT (d - 1) (qT d 0)))) := hD
    refine lv_goto (tgt := 133) hx hb dE_combine_130 rfl ?_
    have e9 : (pT (d - 1 - 1) (qT (d - 1) (qT d 0))) = 1 := by simp only [pT, qT, pD]; (repeat' split) <;> omega
    rw [e9] at hP hD
    exact zVret (w' := fun (u : Nat × (Nat → Int64) × Nat) => (eW A C n ops nums vc vals u.1 u.2.1 ce pk pv pr w key u.2.2 dn tk 1)) (pD (d - 1 - 1), pS (0 : Int64) (d - 1 - 1) st, pl) hx hb hr hlk hS hK ⟨by simp only [pD]; (repeat' split) <;> omega, by omega⟩ hP hD dE_combine_133
  · refine lv_lconst (v := 1) hx hb dE_combine_122 (by decide) ?_
    refine lv_goto (tgt := 127) hx hb dE_combine_123 rfl ?_
    refine zAftv0 (zRunV0 ⟨hx, hb, hml, hown, hw⟩ (c_push l D A C _ n ops nums vc vals (d - 1 - 1) st ce pk pv pr w key pl dn tk (qT (d - 1) (qT d 0)) (1 : Int64) (by omega)) wm_E_119 wi_E_push ws_E_push wn_E wc_E_push ⟨rfl, rfl⟩ wd_E_push ⟨by decide, by decide⟩ hK hP hD 0 rfl rfl rfl hl.1 rfl (Nat.le_of_ble_eq_true rfl) dE_combine_127 ⟨by decide, by decide⟩) hP hD hS hA (fun u H locs hp hP hD hS => ?_)
    replace hP : va_P D vwCl (eW A C n ops nums vc vals (pD (d - 1 - 1)) (pS (1 : Int64) (d - 1 - 1) st) ce pk pv pr w key pl dn tk (pT (d - 1 - 1) (qT (d - 1) (qT d 0)))) H := hP
    replace hD : va_D F (eW A C n ops nums vc vals (pD (d - 1 - 1)) (pS (1 : Int64) (d - 1 - 1) st) ce pk pv pr w key pl dn tk (pT (d - 1 - 1) (qT (d - 1) (qT d 0)))) := hD
    refine lv_goto (tgt := 133) hx hb dE_combine_130 rfl ?_
    have e9 : (pT (d - 1 - 1) (qT (d - 1) (qT d 0))) = 1 := by simp only [pT, qT, pD]; (repeat' split) <;> omega
    rw [e9] at hP hD
    exact zVret (w' := fun (u : Nat × (Nat → Int64) × Nat) => (eW A C n ops nums vc vals u.1 u.2.1 ce pk pv pr w key u.2.2 dn tk 1)) (pD (d - 1 - 1), pS (1 : Int64) (d - 1 - 1) st, pl) hx hb hr hlk hS hK ⟨by simp only [pD]; (repeat' split) <;> omega, by omega⟩ hP hD dE_combine_133

set_option maxRecDepth 20000 in
set_option maxHeartbeats 4000000 in
theorem c_combine9_low (l : Launch) (D : va_G) (A : Nat → Nat) (C : Nat → ClassId) (sz : Nat) (n : Nat) (ops : Nat → Int32) (nums : Nat → Int64) (vc : Nat) (vals : Nat → Int64) (d : Nat) (st : Nat → Int64) (ce : Nat → Int64) (pk : Nat → Int64) (pv : Nat → Int64) (pr : Nat) (w : Nat) (key : Int64) (pl : Nat) (dn : Nat) (tk : Nat) (tr : Nat) (hd : d ≤ 12) (hpl : pl ≤ 40) (h0 : d < 2) : Met l yE_combine (.code yE_combine cE_combine 6 none :: WS) (rmk 2 46) (va_Pc [.ref (A 0), .int (nI 9)] (zP D (eT C) sz (eW A C n ops nums vc vals d st ce pk pv pr w key pl dn tk 0))) (va_Qv (fun u : Nat × (Nat → Int64) × Nat => u.1 ≤ 12 ∧ u.2.2 ≤ 40) (fun (u : Nat × (Nat → Int64) × Nat) t => zB D (eT C) (va_A (eW A C n ops nums vc vals d st ce pk pv pr w key pl dn tk 0) sz) (eW A C n ops nums vc vals u.1 u.2.1 ce pk pv pr w key u.2.2 dn tk 1) t) (va_A (eW A C n ops nums vc vals d st ce pk pv pr w key pl dn tk 0) sz)) 0 0 (va_A (eW A C n ops nums vc vals d st ce pk pv pr w key pl dn tk 0) sz) := by
  refine zEnt (Qc := fun F => (va_Qv (fun u : Nat × (Nat → Int64) × Nat => u.1 ≤ 12 ∧ u.2.2 ≤ 40) (fun (u : Nat × (Nat → Int64) × Nat) t => zB D (eT C) F (eW A C n ops nums vc vals u.1 u.2.1 ce pk pv pr w key u.2.2 dn tk 1) t) F)) (by decide) (Nat.le_of_ble_eq_true rfl) (fun p e s m below meth c ls F hx hb hr hlk hml hnm hw hown hsz hP hK hD hA hl => ?_)
  have hS : va_S F s.heap s.heap [] := va_S.rf
  have hown : s.vm.findClass RE = some m.cls := hown
  have hl : lv_has ls 6 [(0, .ref (A 0)), (1, .int (nI 9))] := hl
  refine lv_aload_n hx hb dE_combine_0 rfl (lv_at hl 0 rfl) ?_
  refine zAftl0 (zRunV0 ⟨hx, hb, hml, hown, hw⟩ (c_pop l D A C _ n ops nums vc vals d st ce pk pv pr w key pl dn tk 0 (by omega)) wm_E_136 wi_E_pop ws_E_pop wn_E wc_E_pop ⟨rfl, rfl⟩ wd_E_pop ⟨by decide, by decide⟩ hK hP hD 0 rfl rfl rfl hl.1 rfl (Nat.le_of_ble_eq_true rfl) dE_combine_1 ⟨by decide, by decide⟩) hP hD hS hA (fun r u H locs hp hP hD hS => ?_)
  replace hP : va_P D vwCl (eW A C n ops nums vc vals (d - 1) st ce pk pv pr w key pl dn tk (qT d 0)) H := hP
  replace hD : va_D F (eW A C n ops nums vc vals (d - 1) st ce pk pv pr w key pl dn tk (qT d 0)) := hD
  subst hp
  refine lv_lstore_n hx hb dE_combine_4 rfl hl (by decide) rfl (fun ls hl => ?_)
  have hl : lv_has ls 6 [(2, .long (qV d st)), (0, .ref (A 0)), (1, .int (nI 9))] := hl
  refine lv_aload_n hx hb dE_combine_5 rfl (lv_at hl 1 rfl) ?_
  refine zAftl0 (zRunV0 ⟨hx, hb, hml, hown, hw⟩ (c_pop l D A C _ n ops nums vc vals (d - 1) st ce pk pv pr w key pl dn tk (qT d 0) (by omega)) wm_E_136 wi_E_pop ws_E_pop wn_E wc_E_pop ⟨rfl, rfl⟩ wd_E_pop ⟨by decide, by decide⟩ hK hP hD 0 rfl rfl rfl hl.1 rfl (Nat.le_of_ble_eq_true rfl) dE_combine_6 ⟨by decide, by decide⟩) hP hD hS hA (fun r u H locs hp hP hD hS => ?_)
  replace hP : va_P D vwCl (eW A C n ops nums vc vals (d - 1 - 1) st ce pk pv pr w key pl dn tk (qT (d - 1) (qT d 0))) H := hP
  replace hD : va_D F (eW A C n ops nums vc vals (d - 1 - 1) st ce pk pv pr w key pl dn tk (qT (d - 1) (qT d 0))) := hD
  subst hp
  refine lv_lstore hx hb dE_combine_9 hl (by decide) rfl (fun ls hl => ?_)
  have hl : lv_has ls 6 [(4, .long (qV (d - 1) st)), (2, .long (qV d st)), (0, .ref (A 0)), (1, .int (nI 9))] := hl
  refine lv_iload_n hx hb dE_combine_11 rfl (lv_at hl 3 rfl) ?_
  refine lv_tableIn (off := 73) (tgt := 85) hx hb dE_combine_12 (by decide) (by decide) (by decide) rfl ?_
  refine lv_aload_n hx hb dE_combine_85 rfl (lv_at hl 2 rfl) ?_
  refine lv_lload hx hb dE_combine_86 (lv_at hl 0 rfl) ?_
  refine lv_lload_n hx hb dE_combine_88 rfl (lv_at hl 1 rfl) ?_
  by_cases hy : (qV d st) = 0
  · refine zAftv0 (zRunV0 ⟨hx, hb, hml, hown, hw⟩ (c_divide_zero l D A C _ n ops nums vc vals (d - 1 - 1) st ce pk pv pr w key pl dn tk (qT (d - 1) (qT d 0)) (qV (d - 1) st) (qV d st) hy) wm_E_152 wi_E_divide ws_E_divide wn_E wc_E_divide ⟨rfl, rfl⟩ wd_E_divide ⟨by decide, by decide⟩ hK hP hD 0 rfl rfl rfl hl.1 rfl (Nat.le_of_ble_eq_true rfl) dE_combine_89 ⟨by decide, by decide⟩) hP hD hS hA (fun u H locs hp hP hD hS => ?_)
    replace hP : va_P D vwCl (eW A C n ops nums vc vals (d - 1 - 1) st ce pk pv pr w key pl dn tk 1) H := hP
    replace hD : va_D F (eW A C n ops nums vc vals (d - 1 - 1) st ce pk pv pr w key pl dn tk 1) := hD
    refine lv_goto (tgt := 133) hx hb dE_combine_92 rfl ?_
    exact zVret (w' := fun (u : Nat × (Nat → Int64) × Nat) => (eW A C n ops nums vc vals u.1 u.2.1 ce pk pv pr w key u.2.2 dn tk 1)) (d - 1 - 1, st, pl) hx hb hr hlk hS hK ⟨by omega, by omega⟩ hP hD dE_combine_133
  · refine zAftv0 (zRunV0 ⟨hx, hb, hml, hown, hw⟩ (c_divide_any l D A C _ n ops nums vc vals (d - 1 - 1) st ce pk pv pr w key pl dn tk (qT (d - 1) (qT d 0)) (qV (d - 1) st) (qV d st) (by omega) hy) wm_E_152 wi_E_divide ws_E_divide wn_E wc_E_divide ⟨rfl, rfl⟩ wd_E_divide ⟨by decide, by decide⟩ hK hP hD 0 rfl rfl rfl hl.1 rfl (Nat.le_of_ble_eq_true rfl) dE_combine_89 ⟨by decide, by decide⟩) hP hD hS hA (fun u H locs hp hP hD hS => ?_)
    replace hP : va_P D vwCl (eW A C n ops nums vc vals (pD (d - 1 - 1)) (pS ((qV (d - 1) st) / (qV d st)) (d - 1 - 1) st) ce pk pv pr w key pl dn tk (pT (d - 1 - 1) (qT (d - 1) (qT d 0)))) H := hP
    replace hD : va_D F (eW A C n ops nums vc vals (pD (d - 1 - 1)) (pS ((qV (d - 1) st) / (qV d st)) (d - 1 - 1) st) ce pk pv pr w key pl dn tk (pT (d - 1 - 1) (qT (d - 1) (qT d 0)))) := hD
    refine lv_goto (tgt := 133) hx hb dE_combine_92 rfl ?_
    have e9 : (pT (d - 1 - 1) (qT (d - 1) (qT d 0))) = 1 := by simp only [pT, qT, pD]; (repeat' split) <;> omega
    rw [e9] at hP hD
    exact zVret (w' := fun (u : Nat × (Nat → Int64) × Nat) => (eW A C n ops nums vc vals u.1 u.2.1 ce pk pv pr w key u.2.2 dn tk 1)) (pD (d - 1 - 1), pS ((qV (d - 1) st) / (qV d st)) (d - 1 - 1) st, pl) hx hb hr hlk hS hK ⟨by simp only [pD]; (repeat' split) <;> omega, by omega⟩ hP hD dE_combine_133

set_option maxRecDepth 20000 in
set_option maxHeartbeats 4000000 in
theorem c_combine9_zero (l : Launch) (D : va_G) (A : Nat → Nat) (C : Nat → ClassId) (sz : Nat) (n : Nat) (ops : Nat → Int32) (nums : Nat → Int64) (vc : Nat) (vals : Nat → Int64) (d : Nat) (st : Nat → Int64) (ce : Nat → Int64) (pk : Nat → Int64) (pv : Nat → Int64) (pr : Nat) (w : Nat) (key : Int64) (pl : Nat) (dn : Nat) (tk : Nat) (tr : Nat) (hd : d ≤ 12) (hpl : pl ≤ 40) (hd1 : d < 11) (hy : st (d + 1) = 0) : Met l yE_combine (.code yE_combine cE_combine 6 none :: WS) (rmk 2 46) (va_Pc [.ref (A 0), .int (nI 9)] (zP D (eT C) sz (eW A C n ops nums vc vals (d + 1 + 1) st ce pk pv pr w key pl dn tk 0))) (va_Qv (fun u : Nat × (Nat → Int64) × Nat => u.1 ≤ 12 ∧ u.2.2 ≤ 40) (fun (u : Nat × (Nat → Int64) × Nat) t => zB D (eT C) (va_A (eW A C n ops nums vc vals (d + 1 + 1) st ce pk pv pr w key pl dn tk 0) sz) (eW A C n ops nums vc vals u.1 u.2.1 ce pk pv pr w key u.2.2 dn tk 1) t) (va_A (eW A C n ops nums vc vals (d + 1 + 1) st ce pk pv pr w key pl dn tk 0) sz)) 0 0 (va_A (eW A C n ops nums vc vals (d + 1 + 1) st ce pk pv pr w key pl dn tk 0) sz) := by
  refine zEnt (Qc := fun F => (va_Qv (fun u : Nat × (Nat → Int64) × Nat => u.1 ≤ 12 ∧ u.2.2 ≤ 40) (fun (u : Nat × (Nat → Int64) × Nat) t => zB D (eT C) F (eW A C n ops nums vc vals u.1 u.2.1 ce pk pv pr w key u.2.2 dn tk 1) t) F)) (by decide) (Nat.le_of_ble_eq_true rfl) (fun p e s m below meth c ls F hx hb hr hlk hml hnm hw hown hsz hP hK hD hA hl => ?_)
  have hS : va_S F s.heap s.heap [] := va_S.rf
  have hown : s.vm.findClass RE = some m.cls := hown
  have hl : lv_has ls 6 [(0, .ref (A 0)), (1, .int (nI 9))] := hl
  refine lv_aload_n hx hb dE_combine_0 rfl (lv_at hl 0 rfl) ?_
  refine zAftl0 (zRunV0 ⟨hx, hb, hml, hown, hw⟩ (c_pop_ok l D A C _ n ops nums vc vals (d + 1) st ce pk pv pr w key pl dn tk 0 (by omega)) wm_E_136 wi_E_pop ws_E_pop wn_E wc_E_pop ⟨rfl, rfl⟩ wd_E_pop ⟨by decide, by decide⟩ hK hP hD 0 rfl rfl rfl hl.1 rfl (Nat.le_of_ble_eq_true rfl) dE_combine_1 ⟨by decide, by decide⟩) hP hD hS hA (fun r u H locs hp hP hD hS => ?_)
  replace hP : va_P D vwCl (eW A C n ops nums vc vals (d + 1) st ce pk pv pr w key pl dn tk 0) H := hP
  replace hD : va_D F (eW A C n ops nums vc vals (d + 1) st ce pk pv pr w key pl dn tk 0) := hD
  subst hp
  refine lv_lstore_n hx hb dE_combine_4 rfl hl (by decide) rfl (fun ls hl => ?_)
  have hl : lv_has ls 6 [(2, .long (st (d + 1))), (0, .ref (A 0)), (1, .int (nI 9))] := hl
  refine lv_aload_n hx hb dE_combine_5 rfl (lv_at hl 1 rfl) ?_
  refine zAftl0 (zRunV0 ⟨hx, hb, hml, hown, hw⟩ (c_pop_ok l D A C _ n ops nums vc vals d st ce pk pv pr w key pl dn tk 0 (by omega)) wm_E_136 wi_E_pop ws_E_pop wn_E wc_E_pop ⟨rfl, rfl⟩ wd_E_pop ⟨by decide, by decide⟩ hK hP hD 0 rfl rfl rfl hl.1 rfl (Nat.le_of_ble_eq_true rfl) dE_combine_6 ⟨by decide, by decide⟩) hP hD hS hA (fun r u H locs hp hP hD hS => ?_)
  replace hP : va_P D vwCl (eW A C n ops nums vc vals d st ce pk pv pr w key pl dn tk 0) H := hP
  replace hD : va_D F (eW A C n ops nums vc vals d st ce pk pv pr w key pl dn tk 0) := hD
  subst hp
  refine lv_lstore hx hb dE_combine_9 hl (by decide) rfl (fun ls hl => ?_)
  have hl : lv_has ls 6 [(4, .long (st d)), (2, .long (st (d + 1))), (0, .ref (A 0)), (1, .int (nI 9))] := hl
  refine lv_iload_n hx hb dE_combine_11 rfl (lv_at hl 3 rfl) ?_
  refine lv_tableIn (off := 73) (tgt := 85) hx hb dE_combine_12 (by decide) (by decide) (by decide) rfl ?_
  refine lv_aload_n hx hb dE_combine_85 rfl (lv_at hl 2 rfl) ?_
  refine lv_lload hx hb dE_combine_86 (lv_at hl 0 rfl) ?_
  refine lv_lload_n hx hb dE_combine_88 rfl (lv_at hl 1 rfl) ?_
  refine zAftv0 (zRunV0 ⟨hx, hb, hml, hown, hw⟩ (c_divide_zero l D A C _ n ops nums vc vals d st ce pk pv pr w key pl dn tk 0 (st d) (st (d + 1)) hy) wm_E_152 wi_E_divide ws_E_divide wn_E wc_E_divide ⟨rfl, rfl⟩ wd_E_divide ⟨by decide, by decide⟩ hK hP hD 0 rfl rfl rfl hl.1 rfl (Nat.le_of_ble_eq_true rfl) dE_combine_89 ⟨by decide, by decide⟩) hP hD hS hA (fun u H locs hp hP hD hS => ?_)
  replace hP : va_P D vwCl (eW A C n ops nums vc vals d st ce pk pv pr w key pl dn tk 1) H := hP
  replace hD : va_D F (eW A C n ops nums vc vals d st ce pk pv pr w key pl dn tk 1) := hD
  refine lv_goto (tgt := 133) hx hb dE_combine_92 rfl ?_
  exact zVret (w' := fun (u : Nat × (Nat → Int64) × Nat) => (eW A C n ops nums vc vals u.1 u.2.1 ce pk pv pr w key u.2.2 dn tk 1)) (d, st, pl) hx hb hr hlk hS hK ⟨by omega, by omega⟩ hP hD dE_combine_133
end
section
/-! EmitDesk: perform, an INSTRUCTION a contract, where it goes and where it traps -/
set_option maxRecDepth 20000 in
set_option maxHeartbeats 4000000 in
theorem c_perform0_ok (l : Launch) (D : va_G) (A : Nat → Nat) (C : Nat → ClassId) (sz : Nat) (n : Nat) (ops : Nat → Int32) (nums : Nat → Int64) (vc : Nat) (vals : Nat → Int64) (d : Nat) (st : Nat → Int64) (ce : Nat → Int64) (pk : Nat → Int64) (pv : Nat → Int64) (pr : Nat) (w : Nat) (key : Int64) (pl : Nat) (dn : Nat) (tk : Nat) (tr : Nat) (x : Int64) (hd : d < 12) : Met l yE_perform (.code yE_perform cE_perform 4 none :: WS) (rmk 3 71) (va_Pc [.ref (A 0), .int (nI 0), .long x] (zP D (eT C) sz (eW A C n ops nums vc vals d st ce pk pv pr w key pl dn tk 0))) (va_Qv (fun _ : Unit => True) (fun (_ : Unit) t => zB D (eT C) (va_A (eW A C n ops nums vc vals d st ce pk pv pr w key pl dn tk 0) sz) (eW A C n ops nums vc vals (d + 1) (vp_updL st d x) ce pk pv pr w key pl dn tk 0) t) (va_A (eW A C n ops nums vc vals d st ce pk pv pr w key pl dn tk 0) sz)) 0 0 (va_A (eW A C n ops nums vc vals d st ce pk pv pr w key pl dn tk 0) sz) := by
  refine zEnt (Qc := fun F => (va_Qv (fun _ : Unit => True) (fun (_ : Unit) t => zB D (eT C) F (eW A C n ops nums vc vals (d + 1) (vp_updL st d x) ce pk pv pr w key pl dn tk 0) t) F)) (by decide) (Nat.le_of_ble_eq_true rfl) (fun p e s m below meth c ls F hx hb hr hlk hml hnm hw hown hsz hP hK hD hA hl => ?_)
  have hS : va_S F s.heap s.heap [] := va_S.rf
  have hown : s.vm.findClass RE = some m.cls := hown
  have hl : lv_has ls 4 [(0, .ref (A 0)), (1, .int (nI 0)), (2, .long x)] := hl
  refine lv_iload_n hx hb dE_perform_0 rfl (lv_at hl 1 rfl) ?_
  refine lv_tableIn (off := 91) (tgt := 92) hx hb dE_perform_1 (by decide) (by decide) (by decide) rfl ?_
  refine lv_aload_n hx hb dE_perform_92 rfl (lv_at hl 0 rfl) ?_
  refine lv_lload_n hx hb dE_perform_93 rfl (lv_at hl 2 rfl) ?_
  refine zAftv0 (zRunV0 ⟨hx, hb, hml, hown, hw⟩ (c_push_ok l D A C _ n ops nums vc vals d st ce pk pv pr w key pl dn tk 0 x (by omega)) wm_E_119 wi_E_push ws_E_push wn_E wc_E_push ⟨rfl, rfl⟩ wd_E_push ⟨by decide, by decide⟩ hK hP hD 0 rfl rfl rfl hl.1 rfl (Nat.le_of_ble_eq_true rfl) dE_perform_94 ⟨by decide, by decide⟩) hP hD hS hA (fun u H locs hp hP hD hS => ?_)
  replace hP : va_P D vwCl (eW A C n ops nums vc vals (d + 1) (vp_updL st d x) ce pk pv pr w key pl dn tk 0) H := hP
  replace hD : va_D F (eW A C n ops nums vc vals (d + 1) (vp_updL st d x) ce pk pv pr w key pl dn tk 0) := hD
  refine lv_goto (tgt := 223) hx hb dE_perform_97 rfl ?_
  exact zVret (w' := fun (_ : Unit) => (eW A C n ops nums vc vals (d + 1) (vp_updL st d x) ce pk pv pr w key pl dn tk 0)) () hx hb hr hlk hS hK trivial hP hD dE_perform_223

set_option maxRecDepth 20000 in
set_option maxHeartbeats 4000000 in
theorem c_perform1_ok (l : Launch) (D : va_G) (A : Nat → Nat) (C : Nat → ClassId) (sz : Nat) (n : Nat) (ops : Nat → Int32) (nums : Nat → Int64) (vc : Nat) (vals : Nat → Int64) (d : Nat) (st : Nat → Int64) (ce : Nat → Int64) (pk : Nat → Int64) (pv : Nat → Int64) (pr : Nat) (w : Nat) (key : Int64) (pl : Nat) (dn : Nat) (tk : Nat) (tr : Nat) (x : Int64) (hd : d < 12) : Met l yE_perform (.code yE_perform cE_perform 4 none :: WS) (rmk 3 71) (va_Pc [.ref (A 0), .int (nI 1), .long x] (zP D (eT C) sz (eW A C n ops nums vc vals d st ce pk pv pr w key pl dn tk 0))) (va_Qv (fun _ : Unit => True) (fun (_ : Unit) t => zB D (eT C) (va_A (eW A C n ops nums vc vals d st ce pk pv pr w key pl dn tk 0) sz) (eW A C n ops nums vc vals (d + 1) (vp_updL st d key) ce pk pv pr w key pl dn tk 0) t) (va_A (eW A C n ops nums vc vals d st ce pk pv pr w key pl dn tk 0) sz)) 0 0 (va_A (eW A C n ops nums vc vals d st ce pk pv pr w key pl dn tk 0) sz) := by
  refine zEnt (Qc := fun F => (va_Qv (fun _ : Unit => True) (fun (_ : Unit) t => zB D (eT C) F (eW A C n ops nums vc vals (d + 1) (vp_updL st d key) ce pk pv pr w key pl dn tk 0) t) F)) (by decide) (Nat.le_of_ble_eq_true rfl) (fun p e s m below meth c ls F hx hb hr hlk hml hnm hw hown hsz hP hK hD hA hl => ?_)
  have hS : va_S F s.heap s.heap [] := va_S.rf
  have hown : s.vm.findClass RE = some m.cls := hown
  have hl : lv_has ls 4 [(0, .ref (A 0)), (1, .int (nI 1)), (2, .long x)] := hl
  refine lv_iload_n hx hb dE_perform_0 rfl (lv_at hl 1 rfl) ?_
  refine lv_tableIn (off := 99) (tgt := 100) hx hb dE_perform_1 (by decide) (by decide) (by decide) rfl ?_
  refine lv_aload_n hx hb dE_perform_100 rfl (lv_at hl 0 rfl) ?_
  refine lv_aload_n hx hb dE_perform_101 rfl (lv_at hl 0 rfl) ?_
  refine zGetE hx hb hw hown hK hP 0 rfl 12 (by decide) wf_E_109 rfl dE_perform_102 ?_
  refine zAftv0 (zRunV0 ⟨hx, hb, hml, hown, hw⟩ (c_push_ok l D A C _ n ops nums vc vals d st ce pk pv pr w key pl dn tk 0 key (by omega)) wm_E_119 wi_E_push ws_E_push wn_E wc_E_push ⟨rfl, rfl⟩ wd_E_push ⟨by decide, by decide⟩ hK hP hD 0 rfl rfl rfl hl.1 rfl (Nat.le_of_ble_eq_true rfl) dE_perform_105 ⟨by decide, by decide⟩) hP hD hS hA (fun u H locs hp hP hD hS => ?_)
  replace hP : va_P D vwCl (eW A C n ops nums vc vals (d + 1) (vp_updL st d key) ce pk pv pr w key pl dn tk 0) H := hP
  replace hD : va_D F (eW A C n ops nums vc vals (d + 1) (vp_updL st d key) ce pk pv pr w key pl dn tk 0) := hD
  refine lv_goto (tgt := 223) hx hb dE_perform_108 rfl ?_
  exact zVret (w' := fun (_ : Unit) => (eW A C n ops nums vc vals (d + 1) (vp_updL st d key) ce pk pv pr w key pl dn tk 0)) () hx hb hr hlk hS hK trivial hP hD dE_perform_223

set_option maxRecDepth 20000 in
set_option maxHeartbeats 4000000 in
theorem c_perform2w0_ok (l : Launch) (D : va_G) (A : Nat → Nat) (C : Nat → ClassId) (sz : Nat) (n : Nat) (ops : Nat → Int32) (nums : Nat → Int64) (vc : Nat) (vals : Nat → Int64) (d : Nat) (st : Nat → Int64) (ce : Nat → Int64) (pk : Nat → Int64) (pv : Nat → Int64) (pr : Nat) (w : Nat) (key : Int64) (pl : Nat) (dn : Nat) (tk : Nat) (tr : Nat) (x : Int64) (hd : d < 12) (hvc : vc ≤ 40) (htk : tk < vc) : Met l yE_perform (.code yE_perform cE_perform 4 none :: WS) (rmk 3 71) (va_Pc [.ref (A 0), .int (nI 2), .long x] (zP D (eT C) sz (eW A C n ops nums vc vals d st ce pk pv pr 0 key pl dn tk 0))) (va_Qv (fun _ : Unit => True) (fun (_ : Unit) t => zB D (eT C) (va_A (eW A C n ops nums vc vals d st ce pk pv pr 0 key pl dn tk 0) sz) (eW A C n ops nums vc vals (d + 1) (vp_updL st d (vals tk)) ce pk pv pr 0 key pl dn tk 0) t) (va_A (eW A C n ops nums vc vals d st ce pk pv pr 0 key pl dn tk 0) sz)) 0 0 (va_A (eW A C n ops nums vc vals d st ce pk pv pr 0 key pl dn tk 0) sz) := by
  refine zEnt (Qc := fun F => (va_Qv (fun _ : Unit => True) (fun (_ : Unit) t => zB D (eT C) F (eW A C n ops nums vc vals (d + 1) (vp_updL st d (vals tk)) ce pk pv pr 0 key pl dn tk 0) t) F)) (by decide) (Nat.le_of_ble_eq_true rfl) (fun p e s m below meth c ls F hx hb hr hlk hml hnm hw hown hsz hP hK hD hA hl => ?_)
  have hS : va_S F s.heap s.heap [] := va_S.rf
  have hown : s.vm.findClass RE = some m.cls := hown
  have hl : lv_has ls 4 [(0, .ref (A 0)), (1, .int (nI 2)), (2, .long x)] := hl
  refine lv_iload_n hx hb dE_perform_0 rfl (lv_at hl 1 rfl) ?_
  refine lv_tableIn (off := 110) (tgt := 111) hx hb dE_perform_1 (by decide) (by decide) (by decide) rfl ?_
  refine lv_aload_n hx hb dE_perform_111 rfl (lv_at hl 0 rfl) ?_
  refine zAftv0 (zRunV0 ⟨hx, hb, hml, hown, hw⟩ (c_pushValue0_ok l D A C _ n ops nums vc vals d st ce pk pv pr 0 key pl dn tk 0 hd hvc htk) wm_E_123 wi_E_pushValue ws_E_pushValue wn_E wc_E_pushValue ⟨rfl, rfl⟩ wd_E_pushValue ⟨by decide, by decide⟩ hK hP hD 0 rfl rfl rfl hl.1 rfl (Nat.le_of_ble_eq_true rfl) dE_perform_112 ⟨by decide, by decide⟩) hP hD hS hA (fun u H locs hp hP hD hS => ?_)
  replace hP : va_P D vwCl (eW A C n ops nums vc vals (d + 1) (vp_updL st d (vals tk)) ce pk pv pr 0 key pl dn tk 0) H := hP
  replace hD : va_D F (eW A C n ops nums vc vals (d + 1) (vp_updL st d (vals tk)) ce pk pv pr 0 key pl dn tk 0) := hD
  refine lv_goto (tgt := 223) hx hb dE_perform_115 rfl ?_
  exact zVret (w' := fun (_ : Unit) => (eW A C n ops nums vc vals (d + 1) (vp_updL st d (vals tk)) ce pk pv pr 0 key pl dn tk 0)) () hx hb hr hlk hS hK trivial hP hD dE_perform_223

set_option maxRecDepth 20000 in
set_option maxHeartbeats 4000000 in
theorem c_perform2w1_ok (l : Launch) (D : va_G) (A : Nat → Nat) (C : Nat → ClassId) (sz : Nat) (n : Nat) (ops : Nat → Int32) (nums : Nat → Int64) (vc : Nat) (vals : Nat → Int64) (d : Nat) (st : Nat → Int64) (ce : Nat → Int64) (pk : Nat → Int64) (pv : Nat → Int64) (pr : Nat) (w : Nat) (key : Int64) (pl : Nat) (dn : Nat) (tk : Nat) (tr : Nat) (x : Int64) (hd : d < 12) (hvc : vc ≤ 40) (htk : tk < vc) (hw1 : 0 < w) (hw2 : w ≤ 2) : Met l yE_perform (.code yE_perform cE_perform 4 none :: WS) (rmk 3 71) (va_Pc [.ref (A 0), .int (nI 2), .long x] (zP D (eT C) sz (eW A C n ops nums vc vals d st ce pk pv pr w key pl dn tk 0))) (va_Qv (fun _ : Unit => True) (fun (_ : Unit) t => zB D (eT C) (va_A (eW A C n ops nums vc vals d st ce pk pv pr w key pl dn tk 0) sz) (eW A C n ops nums vc vals (d + 1) (vp_updL st d (vals tk)) ce pk pv pr w key pl dn (tk + 1) 0) t) (va_A (eW A C n ops nums vc vals d st ce pk pv pr w key pl dn tk 0) sz)) 0 0 (va_A (eW A C n ops nums vc vals d st ce pk pv pr w key pl dn tk 0) sz) := by
  refine zEnt (Qc := fun F => (va_Qv (fun _ : Unit => True) (fun (_ : Unit) t => zB D (eT C) F (eW A C n ops nums vc vals (d + 1) (vp_updL st d (vals tk)) ce pk pv pr w key pl dn (tk + 1) 0) t) F)) (by decide) (Nat.le_of_ble_eq_true rfl) (fun p e s m below meth c ls F hx hb hr hlk hml hnm hw hown hsz hP hK hD hA hl => ?_)
  have hS : va_S F s.heap s.heap [] := va_S.rf
  have hown : s.vm.findClass RE = some m.cls := hown
  have hl : lv_has ls 4 [(0, .ref (A 0)), (1, .int (nI 2)), (2, .long x)] := hl
  refine lv_iload_n hx hb dE_perform_0 rfl (lv_at hl 1 rfl) ?_
  refine lv_tableIn (off := 110) (tgt := 111) hx hb dE_perform_1 (by decide) (by decide) (by decide) rfl ?_
  refine lv_aload_n hx hb dE_perform_111 rfl (lv_at hl 0 rfl) ?_
  refine zAftv0 (zRunV0 ⟨hx, hb, hml, hown, hw⟩ (c_pushValue1_ok l D A C _ n ops nums vc vals d st ce pk pv pr w key pl dn tk 0 hd hvc htk hw1 hw2) wm_E_123 wi_E_pushValue ws_E_pushValue wn_E wc_E_pushValue ⟨rfl, rfl⟩ wd_E_pushValue ⟨by decide, by decide⟩ hK hP hD 0 rfl rfl rfl hl.1 rfl (Nat.le_of_ble_eq_true rfl) dE_perform_112 ⟨by decide, by decide⟩) hP hD hS hA (fun u H locs hp hP hD hS => ?_)
  replace hP : va_P D vwCl (eW A C n ops nums vc vals (d + 1) (vp_updL st d (vals tk)) ce pk pv pr w key pl dn (tk + 1) 0) H := hP
  replace hD : va_D F (eW A C n ops nums vc vals (d + 1) (vp_updL st d (vals tk)) ce pk pv pr w key pl dn (tk + 1) 0) := hD
  refine lv_goto (tgt := 223) hx hb dE_perform_115 rfl ?_
  exact zVret (w' := fun (_ : Unit) => (eW A C n ops nums vc vals (d + 1) (vp_updL st d (vals tk)) ce pk pv pr w key pl dn (tk + 1) 0)) () hx hb hr hlk hS hK trivial hP hD dE_perform_223

set_option maxRecDepth 20000 in
set_option maxHeartbeats 4000000 in
theorem c_perform3_ok (l : Launch) (D : va_G) (A : Nat → Nat) (C : Nat → ClassId) (sz : Nat) (n : Nat) (ops : Nat → Int32) (nums : Nat → Int64) (vc : Nat) (vals : Nat → Int64) (d : Nat) (st : Nat → Int64) (ce : Nat → Int64) (pk : Nat → Int64) (pv : Nat → Int64) (pr : Nat) (w : Nat) (key : Int64) (pl : Nat) (dn : Nat) (tk : Nat) (tr : Nat) (x : Int64) (hd : d < 12) (hw2 : w ≤ 2) (hvc : vc ≤ 40) (htk : tk ≤ 40) : Met l yE_perform (.code yE_perform cE_perform 4 none :: WS) (rmk 3 71) (va_Pc [.ref (A 0), .int (nI 3), .long x] (zP D (eT C) sz (eW A C n ops nums vc vals d st ce pk pv pr w key pl dn tk 0))) (va_Qv (fun _ : Unit => True) (fun (_ : Unit) t => zB D (eT C) (va_A (eW A C n ops nums vc vals d st ce pk pv pr w key pl dn tk 0) sz) (eW A C n ops nums vc vals (d + 1) (vp_updL st d (if w ≠ 0 ∧ tk < vc then 1 else 0)) ce pk pv pr w key pl dn tk 0) t) (va_A (eW A C n ops nums vc vals d st ce pk pv pr w key pl dn tk 0) sz)) 0 0 (va_A (eW A C n ops nums vc vals d st ce pk pv pr w key pl dn tk 0) sz) := by
  refine zEnt (Qc := fun F => (va_Qv (fun _ : Unit => True) (fun (_ : Unit) t => zB D (eT C) F (eW A C n ops nums vc vals (d + 1) (vp_updL st d (if w ≠ 0 ∧ tk < vc then 1 else 0)) ce pk pv pr w key pl dn tk 0) t) F)) (by decide) (Nat.le_of_ble_eq_true rfl) (fun p e s m below meth c ls F hx hb hr hlk hml hnm hw hown hsz hP hK hD hA hl => ?_)
  have hS : va_S F s.heap s.heap [] := va_S.rf
  have hown : s.vm.findClass RE = some m.cls := hown
  have hl : lv_has ls 4 [(0, .ref (A 0)), (1, .int (nI 3)), (2, .long x)] := hl
  refine lv_iload_n hx hb dE_perform_0 rfl (lv_at hl 1 rfl) ?_
  refine lv_tableIn (off := 117) (tgt := 118) hx hb dE_perform_1 (by decide) (by decide) (by decide) rfl ?_
  refine lv_aload_n hx hb dE_perform_118 rfl (lv_at hl 0 rfl) ?_
  refine lv_aload_n hx hb dE_perform_119 rfl (lv_at hl 0 rfl) ?_
  refine zAfti0 (zRunV0 ⟨hx, hb, hml, hown, hw⟩ (c_hasNext l D A C _ n ops nums vc vals d st ce pk pv pr w key pl dn tk 0 hw2 hvc htk) wm_E_126 wi_E_hasNext ws_E_hasNext wn_E wc_E_hasNext ⟨rfl, rfl⟩ wd_E_hasNext ⟨by decide, by decide⟩ hK hP hD 0 rfl rfl rfl hl.1 rfl (Nat.le_of_ble_eq_true rfl) dE_perform_120 ⟨by decide, by decide⟩) hP hD hS hA (fun r u H locs hp hP hD hS => ?_)
  replace hP : va_P D vwCl (eW A C n ops nums vc vals d st ce pk pv pr w key pl dn tk 0) H := hP
  replace hD : va_D F (eW A C n ops nums vc vals d st ce pk pv pr w key pl dn tk 0) := hD
  subst hp
  refine zi_eq (tgt := 130) hx hb dE_perform_123 rfl (by simp only [pT, qT, pD, hN]; (repeat' split) <;> omega) (fun h123 => ?_) (fun h123 => ?_)
  · refine lv_lconst (v := 0) hx hb dE_perform_130 (by decide) ?_
    refine zAftv0 (zRunV0 ⟨hx, hb, hml, hown, hw⟩ (c_push_ok l D A C _ n ops nums vc vals d st ce pk pv pr w key pl dn tk 0 (0 : Int64) (by omega)) wm_E_119 wi_E_push ws_E_push wn_E wc_E_push ⟨rfl, rfl⟩ wd_E_push ⟨by decide, by decide⟩ hK hP hD 0 rfl rfl rfl hl.1 rfl (Nat.le_of_ble_eq_true rfl) dE_perform_131 ⟨by decide, by decide⟩) hP hD hS hA (fun u H locs hp hP hD hS => ?_)
    replace hP : va_P D vwCl (eW A C n ops nums vc vals (d + 1) (vp_updL st d (0 : Int64)) ce pk pv pr w key pl dn tk 0) H := hP
    replace hD : va_D F (eW A C n ops nums vc vals (d + 1) (vp_updL st d (0 : Int64)) ce pk pv pr w key pl dn tk 0) := hD
    refine lv_goto (tgt := 223) hx hb dE_perform_134 rfl ?_
    replace hP : va_P D vwCl (eW A C n ops nums vc vals (d + 1) (vp_updL st d (if w ≠ 0 ∧ tk < vc then 1 else 0)) ce pk pv pr w key pl dn tk 0) H := by (first | (rw [if_neg (fun q => by rw [show hN w tk vc = 1 from if_pos q] at h123; exact absurd h123 (by decide))]; done) | rw [if_neg (fun q => by rw [show hN w tk vc = 1 from if_pos q] at h123; exact absurd h123 (by decide))] | rw [if_pos (Classical.byContradiction (fun q => h123 (if_neg q)))]); exact hP
    replace hD : va_D F (eW A C n ops nums vc vals (d + 1) (vp_updL st d (if w ≠ 0 ∧ tk < vc then 1 else 0)) ce pk pv pr w key pl dn tk 0) := by (first | (rw [if_neg (fun q => by rw [show hN w tk vc = 1 from if_pos q] at h123; exact absurd h123 (by decide))]; done) | rw [if_neg (fun q => by rw [show hN w tk vc = 1 from if_pos q] at h123; exact absurd h123 (by decide))] | rw [if_pos (Classical.byContradiction (fun q => h123 (if_neg q)))]); exact hD
    exact zVret (w' := fun (_ : Unit) => (eW A C n ops nums vc vals (d + 1) (vp_updL st d (if w ≠ 0 ∧ tk < vc then 1 else 0)) ce pk pv pr w key pl dn tk 0)) () hx hb hr hlk hS hK trivial hP hD dE_perform_223
  · refine lv_lconst (v := 1) hx hb dE_perform_126 (by decide) ?_
    refine lv_goto (tgt := 131) hx hb dE_perform_127 rfl ?_
    refine zAftv0 (zRunV0 ⟨hx, hb, hml, hown, hw⟩ (c_push_ok l D A C _ n ops nums vc vals d st ce pk pv pr w key pl dn tk 0 (1 : Int64) (by omega)) wm_E_119 wi_E_push ws_E_push wn_E wc_E_push ⟨rfl, rfl⟩ wd_E_push ⟨by decide, by decide⟩ hK hP hD 0 rfl rfl rfl hl.1 rfl (Nat.le_of_ble_eq_true rfl) dE_perform_131 ⟨by decide, by decide⟩) hP hD hS hA (fun u H locs hp hP hD hS => ?_)
    replace hP : va_P D vwCl (eW A C n ops nums vc vals (d + 1) (vp_updL st d (1 : Int64)) ce pk pv pr w key pl dn tk 0) H := hP
    replace hD : va_D F (eW A C n ops nums vc vals (d + 1) (vp_updL st d (1 : Int64)) ce pk pv pr w key pl dn tk 0) := hD
    refine lv_goto (tgt := 223) hx hb dE_perform_134 rfl ?_
    replace hP : va_P D vwCl (eW A C n ops nums vc vals (d + 1) (vp_updL st d (if w ≠ 0 ∧ tk < vc then 1 else 0)) ce pk pv pr w key pl dn tk 0) H := by (first | (rw [if_neg (fun q => by rw [show hN w tk vc = 1 from if_pos q] at h123; exact absurd h123 (by decide))]; done) | rw [if_neg (fun q => by rw [show hN w tk vc = 1 from if_pos q] at h123; exact absurd h123 (by decide))] | rw [if_pos (Classical.byContradiction (fun q => h123 (if_neg q)))]); exact hP
    replace hD : va_D F (eW A C n ops nums vc vals (d + 1) (vp_updL st d (if w ≠ 0 ∧ tk < vc then 1 else 0)) ce pk pv pr w key pl dn tk 0) := by (first | (rw [if_neg (fun q => by rw [show hN w tk vc = 1 from if_pos q] at h123; exact absurd h123 (by decide))]; done) | rw [if_neg (fun q => by rw [show hN w tk vc = 1 from if_pos q] at h123; exact absurd h123 (by decide))] | rw [if_pos (Classical.byContradiction (fun q => h123 (if_neg q)))]); exact hD
    exact zVret (w' := fun (_ : Unit) => (eW A C n ops nums vc vals (d + 1) (vp_updL st d (if w ≠ 0 ∧ tk < vc then 1 else 0)) ce pk pv pr w key pl dn tk 0)) () hx hb hr hlk hS hK trivial hP hD dE_perform_223

set_option maxRecDepth 20000 in
set_option maxHeartbeats 4000000 in
theorem c_perform4_ok (l : Launch) (D : va_G) (A : Nat → Nat) (C : Nat → ClassId) (sz : Nat) (n : Nat) (ops : Nat → Int32) (nums : Nat → Int64) (vc : Nat) (vals : Nat → Int64) (d : Nat) (st : Nat → Int64) (ce : Nat → Int64) (pk : Nat → Int64) (pv : Nat → Int64) (pr : Nat) (w : Nat) (key : Int64) (pl : Nat) (dn : Nat) (tk : Nat) (tr : Nat) (j : Nat) (hd : d < 12) (hj : j < 4) : Met l yE_perform (.code yE_perform cE_perform 4 none :: WS) (rmk 3 71) (va_Pc [.ref (A 0), .int (nI 4), .long (lN j)] (zP D (eT C) sz (eW A C n ops nums vc vals d st ce pk pv pr w key pl dn tk 0))) (va_Qv (fun _ : Unit => True) (fun (_ : Unit) t => zB D (eT C) (va_A (eW A C n ops nums vc vals d st ce pk pv pr w key pl dn tk 0) sz) (eW A C n ops nums vc vals (d + 1) (vp_updL st d (ce j)) ce pk pv pr w key pl dn tk 0) t) (va_A (eW A C n ops nums vc vals d st ce pk pv pr w key pl dn tk 0) sz)) 0 0 (va_A (eW A C n ops nums vc vals d st ce pk pv pr w key pl dn tk 0) sz) := by
  refine zEnt (Qc := fun F => (va_Qv (fun _ : Unit => True) (fun (_ : Unit) t => zB D (eT C) F (eW A C n ops nums vc vals (d + 1) (vp_updL st d (ce j)) ce pk pv pr w key pl dn tk 0) t) F)) (by decide) (Nat.le_of_ble_eq_true rfl) (fun p e s m below meth c ls F hx hb hr hlk hml hnm hw hown hsz hP hK hD hA hl => ?_)
  have hS : va_S F s.heap s.heap [] := va_S.rf
  have hown : s.vm.findClass RE = some m.cls := hown
  have hl : lv_has ls 4 [(0, .ref (A 0)), (1, .int (nI 4)), (2, .long (lN j))] := hl
  refine lv_iload_n hx hb dE_perform_0 rfl (lv_at hl 1 rfl) ?_
  refine lv_tableIn (off := 136) (tgt := 137) hx hb dE_perform_1 (by decide) (by decide) (by decide) rfl ?_
  refine lv_aload_n hx hb dE_perform_137 rfl (lv_at hl 0 rfl) ?_
  refine lv_aload_n hx hb dE_perform_138 rfl (lv_at hl 0 rfl) ?_
  refine zGetE hx hb hw hown hK hP 0 rfl 7 (by decide) wf_E_23 rfl dE_perform_139 ?_
  refine lv_lload_n hx hb dE_perform_142 rfl (lv_at hl 2 rfl) ?_
  refine lv_l2i hx hb dE_perform_143 (lN_i _) ?_
  refine zLald hx hb hK hP 5 4 rfl rfl (by omega) (by decide) dE_perform_144 ?_
  refine zAftv0 (zRunV0 ⟨hx, hb, hml, hown, hw⟩ (c_push_ok l D A C _ n ops nums vc vals d st ce pk pv pr w key pl dn tk 0 (ce j) (by omega)) wm_E_119 wi_E_push ws_E_push wn_E wc_E_push ⟨rfl, rfl⟩ wd_E_push ⟨by decide, by decide⟩ hK hP hD 0 rfl rfl rfl hl.1 rfl (Nat.le_of_ble_eq_true rfl) dE_perform_145 ⟨by decide, by decide⟩) hP hD hS hA (fun u H locs hp hP hD hS => ?_)
  replace hP : va_P D vwCl (eW A C n ops nums vc vals (d + 1) (vp_updL st d (ce j)) ce pk pv pr w key pl dn tk 0) H := hP
  replace hD : va_D F (eW A C n ops nums vc vals (d + 1) (vp_updL st d (ce j)) ce pk pv pr w key pl dn tk 0) := hD
  refine lv_goto (tgt := 223) hx hb dE_perform_148 rfl ?_
  exact zVret (w' := fun (_ : Unit) => (eW A C n ops nums vc vals (d + 1) (vp_updL st d (ce j)) ce pk pv pr w key pl dn tk 0)) () hx hb hr hlk hS hK trivial hP hD dE_perform_223

set_option maxRecDepth 20000 in
set_option maxHeartbeats 4000000 in
theorem c_perform5_ok (l : Launch) (D : va_G) (A : Nat → Nat) (C : Nat → ClassId) (sz : Nat) (n : Nat) (ops : Nat → Int32) (nums : Nat → Int64) (vc : Nat) (vals : Nat → Int64) (d : Nat) (st : Nat → Int64) (ce : Nat → Int64) (pk : Nat → Int64) (pv : Nat → Int64) (pr : Nat) (w : Nat) (key : Int64) (pl : Nat) (dn : Nat) (tk : Nat) (tr : Nat) (j : Nat) (hd : d < 12) (hj : j < 4) : Met l yE_perform (.code yE_perform cE_perform 4 none :: WS) (rmk 3 71) (va_Pc [.ref (A 0), .int (nI 5), .long (lN j)] (zP D (eT C) sz (eW A C n ops nums vc vals (d + 1) st ce pk pv pr w key pl dn tk 0))) (va_Qv (fun _ : Unit => True) (fun (_ : Unit) t => zB D (eT C) (va_A (eW A C n ops nums vc vals (d + 1) st ce pk pv pr w key pl dn tk 0) sz) (eW A C n ops nums vc vals d st (vp_updL ce j (st d)) pk pv pr w key pl dn tk 0) t) (va_A (eW A C n ops nums vc vals (d + 1) st ce pk pv pr w key pl dn tk 0) sz)) 0 0 (va_A (eW A C n ops nums vc vals (d + 1) st ce pk pv pr w key pl dn tk 0) sz) := by
  refine zEnt (Qc := fun F => (va_Qv (fun _ : Unit => True) (fun (_ : Unit) t => zB D (eT C) F (eW A C n ops nums vc vals d st (vp_updL ce j (st d)) pk pv pr w key pl dn tk 0) t) F)) (by decide) (Nat.le_of_ble_eq_true rfl) (fun p e s m below meth c ls F hx hb hr hlk hml hnm hw hown hsz hP hK hD hA hl => ?_)
  have hS : va_S F s.heap s.heap [] := va_S.rf
  have hown : s.vm.findClass RE = some m.cls := hown
  have hl : lv_has ls 4 [(0, .ref (A 0)), (1, .int (nI 5)), (2, .long (lN j))] := hl
  refine lv_iload_n hx hb dE_perform_0 rfl (lv_at hl 1 rfl) ?_
  refine lv_tableIn (off := 150) (tgt := 151) hx hb dE_perform_1 (by decide) (by decide) (by decide) rfl ?_
  refine lv_aload_n hx hb dE_perform_151 rfl (lv_at hl 0 rfl) ?_
  refine lv_lload_n hx hb dE_perform_152 rfl (lv_at hl 2 rfl) ?_
  refine lv_l2i hx hb dE_perform_153 (lN_i _) ?_
  refine zAftv0 (zRunV0 ⟨hx, hb, hml, hown, hw⟩ (c_popCell_ok l D A C _ n ops nums vc vals d st ce pk pv pr w key pl dn tk 0 j hd hj) wm_E_129 wi_E_popCell ws_E_popCell wn_E wc_E_popCell ⟨rfl, rfl⟩ wd_E_popCell ⟨by decide, by decide⟩ hK hP hD 0 rfl rfl rfl hl.1 rfl (Nat.le_of_ble_eq_true rfl) dE_perform_154 ⟨by decide, by decide⟩) hP hD hS hA (fun u H locs hp hP hD hS => ?_)
  replace hP : va_P D vwCl (eW A C n ops nums vc vals d st (vp_updL ce j (st d)) pk pv pr w key pl dn tk 0) H := hP
  replace hD : va_D F (eW A C n ops nums vc vals d st (vp_updL ce j (st d)) pk pv pr w key pl dn tk 0) := hD
  refine lv_goto (tgt := 223) hx hb dE_perform_157 rfl ?_
  exact zVret (w' := fun (_ : Unit) => (eW A C n ops nums vc vals d st (vp_updL ce j (st d)) pk pv pr w key pl dn tk 0)) () hx hb hr hlk hS hK trivial hP hD dE_perform_223

set_option maxRecDepth 20000 in
set_option maxHeartbeats 4000000 in
theorem c_perform6_ok (l : Launch) (D : va_G) (A : Nat → Nat) (C : Nat → ClassId) (sz : Nat) (n : Nat) (ops : Nat → Int32) (nums : Nat → Int64) (vc : Nat) (vals : Nat → Int64) (d : Nat) (st : Nat → Int64) (ce : Nat → Int64) (pk : Nat → Int64) (pv : Nat → Int64) (pr : Nat) (w : Nat) (key : Int64) (pl : Nat) (dn : Nat) (tk : Nat) (tr : Nat) (x : Int64) (hd : d < 11) : Met l yE_perform (.code yE_perform cE_perform 4 none :: WS) (rmk 3 71) (va_Pc [.ref (A 0), .int (nI 6), .long x] (zP D (eT C) sz (eW A C n ops nums vc vals (d + 1 + 1) st ce pk pv pr w key pl dn tk 0))) (va_Qv (fun _ : Unit => True) (fun (_ : Unit) t => zB D (eT C) (va_A (eW A C n ops nums vc vals (d + 1 + 1) st ce pk pv pr w key pl dn tk 0) sz) (eW A C n ops nums vc vals (d + 1) (vp_updL st d (st d + st (d + 1))) ce pk pv pr w key pl dn tk 0) t) (va_A (eW A C n ops nums vc vals (d + 1 + 1) st ce pk pv pr w key pl dn tk 0) sz)) 0 0 (va_A (eW A C n ops nums vc vals (d + 1 + 1) st ce pk pv pr w key pl dn tk 0) sz) := by
  refine zEnt (Qc := fun F => (va_Qv (fun _ : Unit => True) (fun (_ : Unit) t => zB D (eT C) F (eW A C n ops nums vc vals (d + 1) (vp_updL st d (st d + st (d + 1))) ce pk pv pr w key pl dn tk 0) t) F)) (by decide) (Nat.le_of_ble_eq_true rfl) (fun p e s m below meth c ls F hx hb hr hlk hml hnm hw hown hsz hP hK hD hA hl => ?_)
  have hS : va_S F s.heap s.heap [] := va_S.rf
  have hown : s.vm.findClass RE = some m.cls := hown
  have hl : lv_has ls 4 [(0, .ref (A 0)), (1, .int (nI 6)), (2, .long x)] := hl
  refine lv_iload_n hx hb dE_perform_0 rfl (lv_at hl 1 rfl) ?_
  refine lv_tableIn (off := 217) (tgt := 218) hx hb dE_perform_1 (by decide) (by decide) (by decide) rfl ?_
  refine lv_aload_n hx hb dE_perform_218 rfl (lv_at hl 0 rfl) ?_
  refine lv_iload_n hx hb dE_perform_219 rfl (lv_at hl 1 rfl) ?_
  refine zAftv0 (zRunV0 ⟨hx, hb, hml, hown, hw⟩ (c_combine6_ok l D A C _ n ops nums vc vals d st ce pk pv pr w key pl dn tk 0 hd) wm_E_149 wi_E_combine ws_E_combine wn_E wc_E_combine ⟨rfl, rfl⟩ wd_E_combine ⟨by decide, by decide⟩ hK hP hD 0 rfl rfl rfl hl.1 rfl (Nat.le_of_ble_eq_true rfl) dE_perform_220 ⟨by decide, by decide⟩) hP hD hS hA (fun u H locs hp hP hD hS => ?_)
  replace hP : va_P D vwCl (eW A C n ops nums vc vals (d + 1) (vp_updL st d (st d + st (d + 1))) ce pk pv pr w key pl dn tk 0) H := hP
  replace hD : va_D F (eW A C n ops nums vc vals (d + 1) (vp_updL st d (st d + st (d + 1))) ce pk pv pr w key pl dn tk 0) := hD
  exact zVret (w' := fun (_ : Unit) => (eW A C n ops nums vc vals (d + 1) (vp_updL st d (st d + st (d + 1))) ce pk pv pr w key pl dn tk 0)) () hx hb hr hlk hS hK trivial hP hD dE_perform_223

set_option maxRecDepth 20000 in
set_option maxHeartbeats 4000000 in
theorem c_perform7_ok (l : Launch) (D : va_G) (A : Nat → Nat) (C : Nat → ClassId) (sz : Nat) (n : Nat) (ops : Nat → Int32) (nums : Nat → Int64) (vc : Nat) (vals : Nat → Int64) (d : Nat) (st : Nat → Int64) (ce : Nat → Int64) (pk : Nat → Int64) (pv : Nat → Int64) (pr : Nat) (w : Nat) (key : Int64) (pl : Nat) (dn : Nat) (tk : Nat) (tr : Nat) (x : Int64) (hd : d < 11) : Met l yE_perform (.code yE_perform cE_perform 4 none :: WS) (rmk 3 71) (va_Pc [.ref (A 0), .int (nI 7), .long x] (zP D (eT C) sz (eW A C n ops nums vc vals (d + 1 + 1) st ce pk pv pr w key pl dn tk 0))) (va_Qv (fun _ : Unit => True) (fun (_ : Unit) t => zB D (eT C) (va_A (eW A C n ops nums vc vals (d + 1 + 1) st ce pk pv pr w key pl dn tk 0) sz) (eW A C n ops nums vc vals (d + 1) (vp_updL st d (st d - st (d + 1))) ce pk pv pr w key pl dn tk 0) t) (va_A (eW A C n ops nums vc vals (d + 1 + 1) st ce pk pv pr w key pl dn tk 0) sz)) 0 0 (va_A (eW A C n ops nums vc vals (d + 1 + 1) st ce pk pv pr w key pl dn tk 0) sz) := by
  refine zEnt (Qc := fun F => (va_Qv (fun _ : Unit => True) (fun (_ : Unit) t => zB D (eT C) F (eW A C n ops nums vc vals (d + 1) (vp_updL st d (st d - st (d + 1))) ce pk pv pr w key pl dn tk 0) t) F)) (by decide) (Nat.le_of_ble_eq_true rfl) (fun p e s m below meth c ls F hx hb hr hlk hml hnm hw hown hsz hP hK hD hA hl => ?_)
  have hS : va_S F s.heap s.heap [] := va_S.rf
  have hown : s.vm.findClass RE = some m.cls := hown
  have hl : lv_has ls 4 [(0, .ref (A 0)), (1, .int (nI 7)), (2, .long x)] := hl
  refine lv_iload_n hx hb dE_perform_0 rfl (lv_at hl 1 rfl) ?_
  refine lv_tableIn (off := 217) (tgt := 218) hx hb dE_perform_1 (by decide) (by decide) (by decide) rfl ?_
  refine lv_aload_n hx hb dE_perform_218 rfl (lv_at hl 0 rfl) ?_
  refine lv_iload_n hx hb dE_perform_219 rfl (lv_at hl 1 rfl) ?_
  refine zAftv0 (zRunV0 ⟨hx, hb, hml, hown, hw⟩ (c_combine7_ok l D A C _ n ops nums vc vals d st ce pk pv pr w key pl dn tk 0 hd) wm_E_149 wi_E_combine ws_E_combine wn_E wc_E_combine ⟨rfl, rfl⟩ wd_E_combine ⟨by decide, by decide⟩ hK hP hD 0 rfl rfl rfl hl.1 rfl (Nat.le_of_ble_eq_true rfl) dE_perform_220 ⟨by decide, by decide⟩) hP hD hS hA (fun u H locs hp hP hD hS => ?_)
  replace hP : va_P D vwCl (eW A C n ops nums vc vals (d + 1) (vp_updL st d (st d - st (d + 1))) ce pk pv pr w key pl dn tk 0) H := hP
  replace hD : va_D F (eW A C n ops nums vc vals (d + 1) (vp_updL st d (st d - st (d + 1))) ce pk pv pr w key pl dn tk 0) := hD
  exact zVret (w' := fun (_ : Unit) => (eW A C n ops nums vc vals (d + 1) (vp_updL st d (st d - st (d + 1))) ce pk pv pr w key pl dn tk 0)) () hx hb hr hlk hS hK trivial hP hD dE_perform_223

set_option maxRecDepth 20000 in
set_option maxHeartbeats 4000000 in
theorem c_perform8_ok (l : Launch) (D : va_G) (A : Nat → Nat) (C : Nat → ClassId) (sz : Nat) (n : Nat) (ops : Nat → Int32) (nums : Nat → Int64) (vc : Nat) (vals : Nat → Int64) (d : Nat) (st : Nat → Int64) (ce : Nat → Int64) (pk : Nat → Int64) (pv : Nat → Int64) (pr : Nat) (w : Nat) (key : Int64) (pl : Nat) (dn : Nat) (tk : Nat) (tr : Nat) (x : Int64) (hd : d < 11) : Met l yE_perform (.code yE_perform cE_perform 4 none :: WS) (rmk 3 71) (va_Pc [.ref (A 0), .int (nI 8), .long x] (zP D (eT C) sz (eW A C n ops nums vc vals (d + 1 + 1) st ce pk pv pr w key pl dn tk 0))) (va_Qv (fun _ : Unit => True) (fun (_ : Unit) t => zB D (eT C) (va_A (eW A C n ops nums vc vals (d + 1 + 1) st ce pk pv pr w key pl dn tk 0) sz) (eW A C n ops nums vc vals (d + 1) (vp_updL st d (st d * st (d + 1))) ce pk pv pr w key pl dn tk 0) t) (va_A (eW A C n ops nums vc vals (d + 1 + 1) st ce pk pv pr w key pl dn tk 0) sz)) 0 0 (va_A (eW A C n ops nums vc vals (d + 1 + 1) st ce pk pv pr w key pl dn tk 0) sz) := by
  refine zEnt (Qc := fun F => (va_Qv (fun _ : Unit => True) (fun (_ : Unit) t => zB D (eT C) F (eW A C n ops nums vc vals (d + 1) (vp_updL st d (st d * st (d + 1))) ce pk pv pr w key pl dn tk 0) t) F)) (by decide) (Nat.le_of_ble_eq_true rfl) (fun p e s m below meth c ls F hx hb hr hlk hml hnm hw hown hsz hP hK hD hA hl => ?_)
  have hS : va_S F s.heap s.heap [] := va_S.rf
  have hown : s.vm.findClass RE = some m.cls := hown
  have hl : lv_has ls 4 [(0, .ref (A 0)), (1, .int (nI 8)), (2, .long x)] := hl
  refine lv_iload_n hx hb dE_perform_0 rfl (lv_at hl 1 rfl) ?_
  refine lv_tableIn (off := 217) (tgt := 218) hx hb dE_perform_1 (by decide) (by decide) (by decide) rfl ?_
  refine lv_aload_n hx hb dE_perform_218 rfl (lv_at hl 0 rfl) ?_
  refine lv_iload_n hx hb dE_perform_219 rfl (lv_at hl 1 rfl) ?_
  refine zAftv0 (zRunV0 ⟨hx, hb, hml, hown, hw⟩ (c_combine8_ok l D A C _ n ops nums vc vals d st ce pk pv pr w key pl dn tk 0 hd) wm_E_149 wi_E_combine ws_E_combine wn_E wc_E_combine ⟨rfl, rfl⟩ wd_E_combine ⟨by decide, by decide⟩ hK hP hD 0 rfl rfl rfl hl.1 rfl (Nat.le_of_ble_eq_true rfl) dE_perform_220 ⟨by decide, by decide⟩) hP hD hS hA (fun u H locs hp hP hD hS => ?_)
  replace hP : va_P D vwCl (eW A C n ops nums vc vals (d + 1) (vp_updL st d (st d * st (d + 1))) ce pk pv pr w key pl dn tk 0) H := hP
  replace hD : va_D F (eW A C n ops nums vc vals (d + 1) (vp_updL st d (st d * st (d + 1))) ce pk pv pr w key pl dn tk 0) := hD
  exact zVret (w' := fun (_ : Unit) => (eW A C n ops nums vc vals (d + 1) (vp_updL st d (st d * st (d + 1))) ce pk pv pr w key pl dn tk 0)) () hx hb hr hlk hS hK trivial hP hD dE_perform_223

set_option maxRecDepth 20000 in
set_option maxHeartbeats 4000000 in
theorem c_perform9_ok (l : Launch) (D : va_G) (A : Nat → Nat) (C : Nat → ClassId) (sz : Nat) (n : Nat) (ops : Nat → Int32) (nums : Nat → Int64) (vc : Nat) (vals : Nat → Int64) (d : Nat) (st : Nat → Int64) (ce : Nat → Int64) (pk : Nat → Int64) (pv : Nat → Int64) (pr : Nat) (w : Nat) (key : Int64) (pl : Nat) (dn : Nat) (tk : Nat) (tr : Nat) (x : Int64) (hd : d < 11) (hy : ¬ st (d + 1) = 0) : Met l yE_perform (.code yE_perform cE_perform 4 none :: WS) (rmk 3 71) (va_Pc [.ref (A 0), .int (nI 9), .long x] (zP D (eT C) sz (eW A C n ops nums vc vals (d + 1 + 1) st ce pk pv pr w key pl dn tk 0))) (va_Qv (fun _ : Unit => True) (fun (_ : Unit) t => zB D (eT C) (va_A (eW A C n ops nums vc vals (d + 1 + 1) st ce pk pv pr w key pl dn tk 0) sz) (eW A C n ops nums vc vals (d + 1) (vp_updL st d (st d / st (d + 1))) ce pk pv pr w key pl dn tk 0) t) (va_A (eW A C n ops nums vc vals (d + 1 + 1) st ce pk pv pr w key pl dn tk 0) sz)) 0 0 (va_A (eW A C n ops nums vc vals (d + 1 + 1) st ce pk pv pr w key pl dn tk 0) sz) := by
  refine zEnt (Qc := fun F => (va_Qv (fun _ : Unit => True) (fun (_ : Unit) t => zB D (eT C) F (eW A C n ops nums vc vals (d + 1) (vp_updL st d (st d / st (d + 1))) ce pk pv pr w key pl dn tk 0) t) F)) (by decide) (Nat.le_of_ble_eq_true rfl) (fun p e s m below meth c ls F hx hb hr hlk hml hnm hw hown hsz hP hK hD hA hl => ?_)
  have hS : va_S F s.heap s.heap [] := va_S.rf
  have hown : s.vm.findClass RE = some m.cls := hown
  have hl : lv_has ls 4 [(0, .ref (A 0)), (1, .int (nI 9)), (2, .long x)] := hl
  refine lv_iload_n hx hb dE_perform_0 rfl (lv_at hl 1 rfl) ?_
  refine lv_tableIn (off := 217) (tgt := 218) hx hb dE_perform_1 (by decide) (by decide) (by decide) rfl ?_
  refine lv_aload_n hx hb dE_perform_218 rfl (lv_at hl 0 rfl) ?_
  refine lv_iload_n hx hb dE_perform_219 rfl (lv_at hl 1 rfl) ?_
  refine zAftv0 (zRunV0 ⟨hx, hb, hml, hown, hw⟩ (c_combine9_ok l D A C _ n ops nums vc vals d st ce pk pv pr w key pl dn tk 0 hd hy) wm_E_149 wi_E_combine ws_E_combine wn_E wc_E_combine ⟨rfl, rfl⟩ wd_E_combine ⟨by decide, by decide⟩ hK hP hD 0 rfl rfl rfl hl.1 rfl (Nat.le_of_ble_eq_true rfl) dE_perform_220 ⟨by decide, by decide⟩) hP hD hS hA (fun u H locs hp hP hD hS => ?_)
  replace hP : va_P D vwCl (eW A C n ops nums vc vals (d + 1) (vp_updL st d (st d / st (d + 1))) ce pk pv pr w key pl dn tk 0) H := hP
  replace hD : va_D F (eW A C n ops nums vc vals (d + 1) (vp_updL st d (st d / st (d + 1))) ce pk pv pr w key pl dn tk 0) := hD
  exact zVret (w' := fun (_ : Unit) => (eW A C n ops nums vc vals (d + 1) (vp_updL st d (st d / st (d + 1))) ce pk pv pr w key pl dn tk 0)) () hx hb hr hlk hS hK trivial hP hD dE_perform_223

set_option maxRecDepth 20000 in
set_option maxHeartbeats 4000000 in
theorem c_perform10_ok (l : Launch) (D : va_G) (A : Nat → Nat) (C : Nat → ClassId) (sz : Nat) (n : Nat) (ops : Nat → Int32) (nums : Nat → Int64) (vc : Nat) (vals : Nat → Int64) (d : Nat) (st : Nat → Int64) (ce : Nat → Int64) (pk : Nat → Int64) (pv : Nat → Int64) (pr : Nat) (w : Nat) (key : Int64) (pl : Nat) (dn : Nat) (tk : Nat) (tr : Nat) (x : Int64) (hd : d < 11) : Met l yE_perform (.code yE_perform cE_perform 4 none :: WS) (rmk 3 71) (va_Pc [.ref (A 0), .int (nI 10), .long x] (zP D (eT C) sz (eW A C n ops nums vc vals (d + 1 + 1) st ce pk pv pr w key pl dn tk 0))) (va_Qv (fun _ : Unit => True) (fun (_ : Unit) t => zB D (eT C) (va_A (eW A C n ops nums vc vals (d + 1 + 1) st ce pk pv pr w key pl dn tk 0) sz) (eW A C n ops nums vc vals (d + 1) (vp_updL st d (if st (d + 1) ≤ st d then 0 else 1)) ce pk pv pr w key pl dn tk 0) t) (va_A (eW A C n ops nums vc vals (d + 1 + 1) st ce pk pv pr w key pl dn tk 0) sz)) 0 0 (va_A (eW A C n ops nums vc vals (d + 1 + 1) st ce pk pv pr w key pl dn tk 0) sz) := by
  refine zEnt (Qc := fun F => (va_Qv (fun _ : Unit => True) (fun (_ : Unit) t => zB D (eT C) F (eW A C n ops nums vc vals (d + 1) (vp_updL st d (if st (d + 1) ≤ st d then 0 else 1)) ce pk pv pr w key pl dn tk 0) t) F)) (by decide) (Nat.le_of_ble_eq_true rfl) (fun p e s m below meth c ls F hx hb hr hlk hml hnm hw hown hsz hP hK hD hA hl => ?_)
  have hS : va_S F s.heap s.heap [] := va_S.rf
  have hown : s.vm.findClass RE = some m.cls := hown
  have hl : lv_has ls 4 [(0, .ref (A 0)), (1, .int (nI 10)), (2, .long x)] := hl
  refine lv_iload_n hx hb dE_perform_0 rfl (lv_at hl 1 rfl) ?_
  refine lv_tableIn (off := 217) (tgt := 218) hx hb dE_perform_1 (by decide) (by decide) (by decide) rfl ?_
  refine lv_aload_n hx hb dE_perform_218 rfl (lv_at hl 0 rfl) ?_
  refine lv_iload_n hx hb dE_perform_219 rfl (lv_at hl 1 rfl) ?_
  refine zAftv0 (zRunV0 ⟨hx, hb, hml, hown, hw⟩ (c_combine10_ok l D A C _ n ops nums vc vals d st ce pk pv pr w key pl dn tk 0 hd) wm_E_149 wi_E_combine ws_E_combine wn_E wc_E_combine ⟨rfl, rfl⟩ wd_E_combine ⟨by decide, by decide⟩ hK hP hD 0 rfl rfl rfl hl.1 rfl (Nat.le_of_ble_eq_true rfl) dE_perform_220 ⟨by decide, by decide⟩) hP hD hS hA (fun u H locs hp hP hD hS => ?_)
  replace hP : va_P D vwCl (eW A C n ops nums vc vals (d + 1) (vp_updL st d (if st (d + 1) ≤ st d then 0 else 1)) ce pk pv pr w key pl dn tk 0) H := hP
  replace hD : va_D F (eW A C n ops nums vc vals (d + 1) (vp_updL st d (if st (d + 1) ≤ st d then 0 else 1)) ce pk pv pr w key pl dn tk 0) := hD
  exact zVret (w' := fun (_ : Unit) => (eW A C n ops nums vc vals (d + 1) (vp_updL st d (if st (d + 1) ≤ st d then 0 else 1)) ce pk pv pr w key pl dn tk 0)) () hx hb hr hlk hS hK trivial hP hD dE_perform_223

set_option maxRecDepth 20000 in
set_option maxHeartbeats 4000000 in
theorem c_perform11_ok (l : Launch) (D : va_G) (A : Nat → Nat) (C : Nat → ClassId) (sz : Nat) (n : Nat) (ops : Nat → Int32) (nums : Nat → Int64) (vc : Nat) (vals : Nat → Int64) (d : Nat) (st : Nat → Int64) (ce : Nat → Int64) (pk : Nat → Int64) (pv : Nat → Int64) (pr : Nat) (w : Nat) (key : Int64) (pl : Nat) (dn : Nat) (tk : Nat) (tr : Nat) (x : Int64) (hd : d < 11) : Met l yE_perform (.code yE_perform cE_perform 4 none :: WS) (rmk 3 71) (va_Pc [.ref (A 0), .int (nI 11), .long x] (zP D (eT C) sz (eW A C n ops nums vc vals (d + 1 + 1) st ce pk pv pr w key pl dn tk 0))) (va_Qv (fun _ : Unit => True) (fun (_ : Unit) t => zB D (eT C) (va_A (eW A C n ops nums vc vals (d + 1 + 1) st ce pk pv pr w key pl dn tk 0) sz) (eW A C n ops nums vc vals (d + 1) (vp_updL st d (if st d = st (d + 1) then 1 else 0)) ce pk pv pr w key pl dn tk 0) t) (va_A (eW A C n ops nums vc vals (d + 1 + 1) st ce pk pv pr w key pl dn tk 0) sz)) 0 0 (va_A (eW A C n ops nums vc vals (d + 1 + 1) st ce pk pv pr w key pl dn tk 0) sz) := by
  refine zEnt (Qc := fun F => (va_Qv (fun _ : Unit => True) (fun (_ : Unit) t => zB D (eT C) F (eW A C n ops nums vc vals (d + 1) (vp_updL st d (if st d = st (d + 1) then 1 else 0)) ce pk pv pr w key pl dn tk 0) t) F)) (by decide) (Nat.le_of_ble_eq_true rfl) (fun p e s m below meth c ls F hx hb hr hlk hml hnm hw hown hsz hP hK hD hA hl => ?_)
  have hS : va_S F s.heap s.heap [] := va_S.rf
  have hown : s.vm.findClass RE = some m.cls := hown
  have hl : lv_has ls 4 [(0, .ref (A 0)), (1, .int (nI 11)), (2, .long x)] := hl
  refine lv_iload_n hx hb dE_perform_0 rfl (lv_at hl 1 rfl) ?_
  refine lv_tableIn (off := 217) (tgt := 218) hx hb dE_perform_1 (by decide) (by decide) (by decide) rfl ?_
  refine lv_aload_n hx hb dE_perform_218 rfl (lv_at hl 0 rfl) ?_
  refine lv_iload_n hx hb dE_perform_219 rfl (lv_at hl 1 rfl) ?_
  refine zAftv0 (zRunV0 ⟨hx, hb, hml, hown, hw⟩ (c_combine11_ok l D A C _ n ops nums vc vals d st ce pk pv pr w key pl dn tk 0 hd) wm_E_149 wi_E_combine ws_E_combine wn_E wc_E_combine ⟨rfl, rfl⟩ wd_E_combine ⟨by decide, by decide⟩ hK hP hD 0 rfl rfl rfl hl.1 rfl (Nat.le_of_ble_eq_true rfl) dE_perform_220 ⟨by decide, by decide⟩) hP hD hS hA (fun u H locs hp hP hD hS => ?_)
  replace hP : va_P D vwCl (eW A C n ops nums vc vals (d + 1) (vp_updL st d (if st d = st (d + 1) then 1 else 0)) ce pk pv pr w key pl dn tk 0) H := hP
  replace hD : va_D F (eW A C n ops nums vc vals (d + 1) (vp_updL st d (if st d = st (d + 1) then 1 else 0)) ce pk pv pr w key pl dn tk 0) := hD
  exact zVret (w' := fun (_ : Unit) => (eW A C n ops nums vc vals (d + 1) (vp_updL st d (if st d = st (d + 1) then 1 else 0)) ce pk pv pr w key pl dn tk 0)) () hx hb hr hlk hS hK trivial hP hD dE_perform_223

set_option maxRecDepth 20000 in
set_option maxHeartbeats 4000000 in
theorem c_perform12_ok (l : Launch) (D : va_G) (A : Nat → Nat) (C : Nat → ClassId) (sz : Nat) (n : Nat) (ops : Nat → Int32) (nums : Nat → Int64) (vc : Nat) (vals : Nat → Int64) (d : Nat) (st : Nat → Int64) (ce : Nat → Int64) (pk : Nat → Int64) (pv : Nat → Int64) (pr : Nat) (w : Nat) (key : Int64) (pl : Nat) (dn : Nat) (tk : Nat) (tr : Nat) (x : Int64) (hd : d < 11) : Met l yE_perform (.code yE_perform cE_perform 4 none :: WS) (rmk 3 71) (va_Pc [.ref (A 0), .int (nI 12), .long x] (zP D (eT C) sz (eW A C n ops nums vc vals (d + 1) st ce pk pv pr w key pl dn tk 0))) (va_Qv (fun _ : Unit => True) (fun (_ : Unit) t => zB D (eT C) (va_A (eW A C n ops nums vc vals (d + 1) st ce pk pv pr w key pl dn tk 0) sz) (eW A C n ops nums vc vals (d + 1 + 1) (vp_updL (vp_updL st d (st d)) (d + 1) (st d)) ce pk pv pr w key pl dn tk 0) t) (va_A (eW A C n ops nums vc vals (d + 1) st ce pk pv pr w key pl dn tk 0) sz)) 0 0 (va_A (eW A C n ops nums vc vals (d + 1) st ce pk pv pr w key pl dn tk 0) sz) := by
  refine zEnt (Qc := fun F => (va_Qv (fun _ : Unit => True) (fun (_ : Unit) t => zB D (eT C) F (eW A C n ops nums vc vals (d + 1 + 1) (vp_updL (vp_updL st d (st d)) (d + 1) (st d)) ce pk pv pr w key pl dn tk 0) t) F)) (by decide) (Nat.le_of_ble_eq_true rfl) (fun p e s m below meth c ls F hx hb hr hlk hml hnm hw hown hsz hP hK hD hA hl => ?_)
  have hS : va_S F s.heap s.heap [] := va_S.rf
  have hown : s.vm.findClass RE = some m.cls := hown
  have hl : lv_has ls 4 [(0, .ref (A 0)), (1, .int (nI 12)), (2, .long x)] := hl
  refine lv_iload_n hx hb dE_perform_0 rfl (lv_at hl 1 rfl) ?_
  refine lv_tableIn (off := 159) (tgt := 160) hx hb dE_perform_1 (by decide) (by decide) (by decide) rfl ?_
  refine lv_aload_n hx hb dE_perform_160 rfl (lv_at hl 0 rfl) ?_
  refine zAftv0 (zRunV0 ⟨hx, hb, hml, hown, hw⟩ (c_doubleTop_ok l D A C _ n ops nums vc vals d st ce pk pv pr w key pl dn tk 0 hd) wm_E_133 wi_E_doubleTop ws_E_doubleTop wn_E wc_E_doubleTop ⟨rfl, rfl⟩ wd_E_doubleTop ⟨by decide, by decide⟩ hK hP hD 0 rfl rfl rfl hl.1 rfl (Nat.le_of_ble_eq_true rfl) dE_perform_161 ⟨by decide, by decide⟩) hP hD hS hA (fun u H locs hp hP hD hS => ?_)
  replace hP : va_P D vwCl (eW A C n ops nums vc vals (d + 1 + 1) (vp_updL (vp_updL st d (st d)) (d + 1) (st d)) ce pk pv pr w key pl dn tk 0) H := hP
  replace hD : va_D F (eW A C n ops nums vc vals (d + 1 + 1) (vp_updL (vp_updL st d (st d)) (d + 1) (st d)) ce pk pv pr w key pl dn tk 0) := hD
  refine lv_goto (tgt := 223) hx hb dE_perform_164 rfl ?_
  exact zVret (w' := fun (_ : Unit) => (eW A C n ops nums vc vals (d + 1 + 1) (vp_updL (vp_updL st d (st d)) (d + 1) (st d)) ce pk pv pr w key pl dn tk 0)) () hx hb hr hlk hS hK trivial hP hD dE_perform_223

set_option maxRecDepth 20000 in
set_option maxHeartbeats 4000000 in
theorem c_perform13_ok (l : Launch) (D : va_G) (A : Nat → Nat) (C : Nat → ClassId) (sz : Nat) (n : Nat) (ops : Nat → Int32) (nums : Nat → Int64) (vc : Nat) (vals : Nat → Int64) (d : Nat) (st : Nat → Int64) (ce : Nat → Int64) (pk : Nat → Int64) (pv : Nat → Int64) (pr : Nat) (w : Nat) (key : Int64) (pl : Nat) (dn : Nat) (tk : Nat) (tr : Nat) (x : Int64) (hd : d < 12) : Met l yE_perform (.code yE_perform cE_perform 4 none :: WS) (rmk 3 71) (va_Pc [.ref (A 0), .int (nI 13), .long x] (zP D (eT C) sz (eW A C n ops nums vc vals (d + 1) st ce pk pv pr w key pl dn tk 0))) (va_Qv (fun _ : Unit => True) (fun (_ : Unit) t => zB D (eT C) (va_A (eW A C n ops nums vc vals (d + 1) st ce pk pv pr w key pl dn tk 0) sz) (eW A C n ops nums vc vals d st ce pk pv pr w key pl dn tk 0) t) (va_A (eW A C n ops nums vc vals (d + 1) st ce pk pv pr w key pl dn tk 0) sz)) 0 0 (va_A (eW A C n ops nums vc vals (d + 1) st ce pk pv pr w key pl dn tk 0) sz) := by
  refine zEnt (Qc := fun F => (va_Qv (fun _ : Unit => True) (fun (_ : Unit) t => zB D (eT C) F (eW A C n ops nums vc vals d st ce pk pv pr w key pl dn tk 0) t) F)) (by decide) (Nat.le_of_ble_eq_true rfl) (fun p e s m below meth c ls F hx hb hr hlk hml hnm hw hown hsz hP hK hD hA hl => ?_)
  have hS : va_S F s.heap s.heap [] := va_S.rf
  have hown : s.vm.findClass RE = some m.cls := hown
  have hl : lv_has ls 4 [(0, .ref (A 0)), (1, .int (nI 13)), (2, .long x)] := hl
  refine lv_iload_n hx hb dE_perform_0 rfl (lv_at hl 1 rfl) ?_
  refine lv_tableIn (off := 166) (tgt := 167) hx hb dE_perform_1 (by decide) (by decide) (by decide) rfl ?_
  refine lv_aload_n hx hb dE_perform_167 rfl (lv_at hl 0 rfl) ?_
  refine zAftl0 (zRunV0 ⟨hx, hb, hml, hown, hw⟩ (c_pop_ok l D A C _ n ops nums vc vals d st ce pk pv pr w key pl dn tk 0 (by omega)) wm_E_136 wi_E_pop ws_E_pop wn_E wc_E_pop ⟨rfl, rfl⟩ wd_E_pop ⟨by decide, by decide⟩ hK hP hD 0 rfl rfl rfl hl.1 rfl (Nat.le_of_ble_eq_true rfl) dE_perform_168 ⟨by decide, by decide⟩) hP hD hS hA (fun r u H locs hp hP hD hS => ?_)
  replace hP : va_P D vwCl (eW A C n ops nums vc vals d st ce pk pv pr w key pl dn tk 0) H := hP
  replace hD : va_D F (eW A C n ops nums vc vals d st ce pk pv pr w key pl dn tk 0) := hD
  subst hp
  refine lv_pop2_2 hx hb dE_perform_171 rfl ?_
  refine lv_goto (tgt := 223) hx hb dE_perform_172 rfl ?_
  exact zVret (w' := fun (_ : Unit) => (eW A C n ops nums vc vals d st ce pk pv pr w key pl dn tk 0)) () hx hb hr hlk hS hK trivial hP hD dE_perform_223

set_option maxRecDepth 20000 in
set_option maxHeartbeats 4000000 in
theorem c_perform14_ok (l : Launch) (D : va_G) (A : Nat → Nat) (C : Nat → ClassId) (sz : Nat) (n : Nat) (ops : Nat → Int32) (nums : Nat → Int64) (vc : Nat) (vals : Nat → Int64) (d : Nat) (st : Nat → Int64) (ce : Nat → Int64) (pk : Nat → Int64) (pv : Nat → Int64) (pr : Nat) (w : Nat) (key : Int64) (pl : Nat) (dn : Nat) (tk : Nat) (tr : Nat) (x : Int64) (hd : d < 11) : Met l yE_perform (.code yE_perform cE_perform 4 none :: WS) (rmk 3 71) (va_Pc [.ref (A 0), .int (nI 14), .long x] (zP D (eT C) sz (eW A C n ops nums vc vals (d + 1 + 1) st ce pk pv pr w key pl dn tk 0))) (va_Qv (fun _ : Unit => True) (fun (_ : Unit) t => zB D (eT C) (va_A (eW A C n ops nums vc vals (d + 1 + 1) st ce pk pv pr w key pl dn tk 0) sz) (eW A C n ops nums vc vals (d + 1 + 1) (vp_updL (vp_updL st d (st (d + 1))) (d + 1) (st d)) ce pk pv pr w key pl dn tk 0) t) (va_A (eW A C n ops nums vc vals (d + 1 + 1) st ce pk pv pr w key pl dn tk 0) sz)) 0 0 (va_A (eW A C n ops nums vc vals (d + 1 + 1) st ce pk pv pr w key pl dn tk 0) sz) := by
  refine zEnt (Qc := fun F => (va_Qv (fun _ : Unit => True) (fun (_ : Unit) t => zB D (eT C) F (eW A C n ops nums vc vals (d + 1 + 1) (vp_updL (vp_updL st d (st (d + 1))) (d + 1) (st d)) ce pk pv pr w key pl dn tk 0) t) F)) (by decide) (Nat.le_of_ble_eq_true rfl) (fun p e s m below meth c ls F hx hb hr hlk hml hnm hw hown hsz hP hK hD hA hl => ?_)
  have hS : va_S F s.heap s.heap [] := va_S.rf
  have hown : s.vm.findClass RE = some m.cls := hown
  have hl : lv_has ls 4 [(0, .ref (A 0)), (1, .int (nI 14)), (2, .long x)] := hl
  refine lv_iload_n hx hb dE_perform_0 rfl (lv_at hl 1 rfl) ?_
  refine lv_tableIn (off := 174) (tgt := 175) hx hb dE_perform_1 (by decide) (by decide) (by decide) rfl ?_
  refine lv_aload_n hx hb dE_perform_175 rfl (lv_at hl 0 rfl) ?_
  refine zAftv0 (zRunV0 ⟨hx, hb, hml, hown, hw⟩ (c_changeTwo_ok l D A C _ n ops nums vc vals d st ce pk pv pr w key pl dn tk 0 hd) wm_E_140 wi_E_changeTwo ws_E_changeTwo wn_E wc_E_changeTwo ⟨rfl, rfl⟩ wd_E_changeTwo ⟨by decide, by decide⟩ hK hP hD 0 rfl rfl rfl hl.1 rfl (Nat.le_of_ble_eq_true rfl) dE_perform_176 ⟨by decide, by decide⟩) hP hD hS hA (fun u H locs hp hP hD hS => ?_)
  replace hP : va_P D vwCl (eW A C n ops nums vc vals (d + 1 + 1) (vp_updL (vp_updL st d (st (d + 1))) (d + 1) (st d)) ce pk pv pr w key pl dn tk 0) H := hP
  replace hD : va_D F (eW A C n ops nums vc vals (d + 1 + 1) (vp_updL (vp_updL st d (st (d + 1))) (d + 1) (st d)) ce pk pv pr w key pl dn tk 0) := hD
  refine lv_goto (tgt := 223) hx hb dE_perform_179 rfl ?_
  exact zVret (w' := fun (_ : Unit) => (eW A C n ops nums vc vals (d + 1 + 1) (vp_updL (vp_updL st d (st (d + 1))) (d + 1) (st d)) ce pk pv pr w key pl dn tk 0)) () hx hb hr hlk hS hK trivial hP hD dE_perform_223

set_option maxRecDepth 20000 in
set_option maxHeartbeats 4000000 in
theorem c_perform15_ok (l : Launch) (D : va_G) (A : Nat → Nat) (C : Nat → ClassId) (sz : Nat) (n : Nat) (ops : Nat → Int32) (nums : Nat → Int64) (vc : Nat) (vals : Nat → Int64) (d : Nat) (st : Nat → Int64) (ce : Nat → Int64) (pk : Nat → Int64) (pv : Nat → Int64) (pr : Nat) (w : Nat) (key : Int64) (pl : Nat) (dn : Nat) (tk : Nat) (tr : Nat) (j : Nat) : Met l yE_perform (.code yE_perform cE_perform 4 none :: WS) (rmk 3 71) (va_Pc [.ref (A 0), .int (nI 15), .long (lN j)] (zP D (eT C) sz (eW A C n ops nums vc vals d st ce pk pv pr w key pl dn tk 0))) (va_Qv (fun _ : Unit => True) (fun (_ : Unit) t => zB D (eT C) (va_A (eW A C n ops nums vc vals d st ce pk pv pr w key pl dn tk 0) sz) (eW A C n ops nums vc vals d st ce pk pv pr w key j dn tk 0) t) (va_A (eW A C n ops nums vc vals d st ce pk pv pr w key pl dn tk 0) sz)) 0 0 (va_A (eW A C n ops nums vc vals d st ce pk pv pr w key pl dn tk 0) sz) := by
  refine zEnt (Qc := fun F => (va_Qv (fun _ : Unit => True) (fun (_ : Unit) t => zB D (eT C) F (eW A C n ops nums vc vals d st ce pk pv pr w key j dn tk 0) t) F)) (by decide) (Nat.le_of_ble_eq_true rfl) (fun p e s m below meth c ls F hx hb hr hlk hml hnm hw hown hsz hP hK hD hA hl => ?_)
  have hS : va_S F s.heap s.heap [] := va_S.rf
  have hown : s.vm.findClass RE = some m.cls := hown
  have hl : lv_has ls 4 [(0, .ref (A 0)), (1, .int (nI 15)), (2, .long (lN j))] := hl
  refine lv_iload_n hx hb dE_perform_0 rfl (lv_at hl 1 rfl) ?_
  refine lv_tableIn (off := 181) (tgt := 182) hx hb dE_perform_1 (by decide) (by decide) (by decide) rfl ?_
  refine lv_aload_n hx hb dE_perform_182 rfl (lv_at hl 0 rfl) ?_
  refine lv_lload_n hx hb dE_perform_183 rfl (lv_at hl 2 rfl) ?_
  refine lv_l2i hx hb dE_perform_184 (lN_i _) ?_
  refine zPutE hx hb hw hown hK hP hD hS 0 rfl 13 (by decide) wf_E_113 rfl rfl rfl (Nat.le_of_ble_eq_true rfl) dE_perform_185 (fun H locs hP hD hS => ?_)
  replace hP : va_P D vwCl (eW A C n ops nums vc vals d st ce pk pv pr w key j dn tk 0) H := hP
  replace hD : va_D F (eW A C n ops nums vc vals d st ce pk pv pr w key j dn tk 0) := hD
  refine lv_goto (tgt := 223) hx hb dE_perform_188 rfl ?_
  exact zVret (w' := fun (_ : Unit) => (eW A C n ops nums vc vals d st ce pk pv pr w key j dn tk 0)) () hx hb hr hlk hS hK trivial hP hD dE_perform_223

set_option maxRecDepth 20000 in
set_option maxHeartbeats 4000000 in
theorem c_perform16Y_ok (l : Launch) (D : va_G) (A : Nat → Nat) (C : Nat → ClassId) (sz : Nat) (n : Nat) (ops : Nat → Int32) (nums : Nat → Int64) (vc : Nat) (vals : Nat → Int64) (d : Nat) (st : Nat → Int64) (ce : Nat → Int64) (pk : Nat → Int64) (pv : Nat → Int64) (pr : Nat) (w : Nat) (key : Int64) (pl : Nat) (dn : Nat) (tk : Nat) (tr : Nat) (j : Nat) (hd : d < 12) (hz : st d = 0) : Met l yE_perform (.code yE_perform cE_perform 4 none :: WS) (rmk 3 71) (va_Pc [.ref (A 0), .int (nI 16), .long (lN j)] (zP D (eT C) sz (eW A C n ops nums vc vals (d + 1) st ce pk pv pr w key pl dn tk 0))) (va_Qv (fun _ : Unit => True) (fun (_ : Unit) t => zB D (eT C) (va_A (eW A C n ops nums vc vals (d + 1) st ce pk pv pr w key pl dn tk 0) sz) (eW A C n ops nums vc vals d st ce pk pv pr w key j dn tk 0) t) (va_A (eW A C n ops nums vc vals (d + 1) st ce pk pv pr w key pl dn tk 0) sz)) 0 0 (va_A (eW A C n ops nums vc vals (d + 1) st ce pk pv pr w key pl dn tk 0) sz) := by
  refine zEnt (Qc := fun F => (va_Qv (fun _ : Unit => True) (fun (_ : Unit) t => zB D (eT C) F (eW A C n ops nums vc vals d st ce pk pv pr w key j dn tk 0) t) F)) (by decide) (Nat.le_of_ble_eq_true rfl) (fun p e s m below meth c ls F hx hb hr hlk hml hnm hw hown hsz hP hK hD hA hl => ?_)
  have hS : va_S F s.heap s.heap [] := va_S.rf
  have hown : s.vm.findClass RE = some m.cls := hown
  have hl : lv_has ls 4 [(0, .ref (A 0)), (1, .int (nI 16)), (2, .long (lN j))] := hl
  refine lv_iload_n hx hb dE_perform_0 rfl (lv_at hl 1 rfl) ?_
  refine lv_tableIn (off := 190) (tgt := 191) hx hb dE_perform_1 (by decide) (by decide) (by decide) rfl ?_
  refine lv_aload_n hx hb dE_perform_191 rfl (lv_at hl 0 rfl) ?_
  refine lv_lload_n hx hb dE_perform_192 rfl (lv_at hl 2 rfl) ?_
  refine lv_l2i hx hb dE_perform_193 (lN_i _) ?_
  refine zAftv0 (zRunV0 ⟨hx, hb, hml, hown, hw⟩ (c_goIfZeroY_ok l D A C _ n ops nums vc vals d st ce pk pv pr w key pl dn tk 0 j hd hz) wm_E_143 wi_E_goIfZero ws_E_goIfZero wn_E wc_E_goIfZero ⟨rfl, rfl⟩ wd_E_goIfZero ⟨by decide, by decide⟩ hK hP hD 0 rfl rfl rfl hl.1 rfl (Nat.le_of_ble_eq_true rfl) dE_perform_194 ⟨by decide, by decide⟩) hP hD hS hA (fun u H locs hp hP hD hS => ?_)
  replace hP : va_P D vwCl (eW A C n ops nums vc vals d st ce pk pv pr w key j dn tk 0) H := hP
  replace hD : va_D F (eW A C n ops nums vc vals d st ce pk pv pr w key j dn tk 0) := hD
  refine lv_goto (tgt := 223) hx hb dE_perform_197 rfl ?_
  exact zVret (w' := fun (_ : Unit) => (eW A C n ops nums vc vals d st ce pk pv pr w key j dn tk 0)) () hx hb hr hlk hS hK trivial hP hD dE_perform_223

set_option maxRecDepth 20000 in
set_option maxHeartbeats 4000000 in
theorem c_perform16N_ok (l : Launch) (D : va_G) (A : Nat → Nat) (C : Nat → ClassId) (sz : Nat) (n : Nat) (ops : Nat → Int32) (nums : Nat → Int64) (vc : Nat) (vals : Nat → Int64) (d : Nat) (st : Nat → Int64) (ce : Nat → Int64) (pk : Nat → Int64) (pv : Nat → Int64) (pr : Nat) (w : Nat) (key : Int64) (pl : Nat) (dn : Nat) (tk : Nat) (tr : Nat) (j : Nat) (hd : d < 12) (hz : ¬ st d = 0) : Met l yE_perform (.code yE_perform cE_perform 4 none :: WS) (rmk 3 71) (va_Pc [.ref (A 0), .int (nI 16), .long (lN j)] (zP D (eT C) sz (eW A C n ops nums vc vals (d + 1) st ce pk pv pr w key pl dn tk 0))) (va_Qv (fun _ : Unit => True) (fun (_ : Unit) t => zB D (eT C) (va_A (eW A C n ops nums vc vals (d + 1) st ce pk pv pr w key pl dn tk 0) sz) (eW A C n ops nums vc vals d st ce pk pv pr w key pl dn tk 0) t) (va_A (eW A C n ops nums vc vals (d + 1) st ce pk pv pr w key pl dn tk 0) sz)) 0 0 (va_A (eW A C n ops nums vc vals (d + 1) st ce pk pv pr w key pl dn tk 0) sz) := by
  refine zEnt (Qc := fun F => (va_Qv (fun _ : Unit => True) (fun (_ : Unit) t => zB D (eT C) F (eW A C n ops nums vc vals d st ce pk pv pr w key pl dn tk 0) t) F)) (by decide) (Nat.le_of_ble_eq_true rfl) (fun p e s m below meth c ls F hx hb hr hlk hml hnm hw hown hsz hP hK hD hA hl => ?_)
  have hS : va_S F s.heap s.heap [] := va_S.rf
  have hown : s.vm.findClass RE = some m.cls := hown
  have hl : lv_has ls 4 [(0, .ref (A 0)), (1, .int (nI 16)), (2, .long (lN j))] := hl
  refine lv_iload_n hx hb dE_perform_0 rfl (lv_at hl 1 rfl) ?_
  refine lv_tableIn (off := 190) (tgt := 191) hx hb dE_perform_1 (by decide) (by decide) (by decide) rfl ?_
  refine lv_aload_n hx hb dE_perform_191 rfl (lv_at hl 0 rfl) ?_
  refine lv_lload_n hx hb dE_perform_192 rfl (lv_at hl 2 rfl) ?_
  refine lv_l2i hx hb dE_perform_193 (lN_i _) ?_
  refine zAftv0 (zRunV0 ⟨hx, hb, hml, hown, hw⟩ (c_goIfZeroN_ok l D A C _ n ops nums vc vals d st ce pk pv pr w key pl dn tk 0 j hd hz) wm_E_143 wi_E_goIfZero ws_E_goIfZero wn_E wc_E_goIfZero ⟨rfl, rfl⟩ wd_E_goIfZero ⟨by decide, by decide⟩ hK hP hD 0 rfl rfl rfl hl.1 rfl (Nat.le_of_ble_eq_true rfl) dE_perform_194 ⟨by decide, by decide⟩) hP hD hS hA (fun u H locs hp hP hD hS => ?_)
  replace hP : va_P D vwCl (eW A C n ops nums vc vals d st ce pk pv pr w key pl dn tk 0) H := hP
  replace hD : va_D F (eW A C n ops nums vc vals d st ce pk pv pr w key pl dn tk 0) := hD
  refine lv_goto (tgt := 223) hx hb dE_perform_197 rfl ?_
  exact zVret (w' := fun (_ : Unit) => (eW A C n ops nums vc vals d st ce pk pv pr w key pl dn tk 0)) () hx hb hr hlk hS hK trivial hP hD dE_perform_223

set_option maxRecDepth 20000 in
set_option maxHeartbeats 4000000 in
theorem c_perform17a_ok (l : Launch) (D : va_G) (A : Nat → Nat) (C : Nat → ClassId) (sz : Nat) (n : Nat) (ops : Nat → Int32) (nums : Nat → Int64) (vc : Nat) (vals : Nat → Int64) (d : Nat) (st : Nat → Int64) (ce : Nat → Int64) (pk : Nat → Int64) (pv : Nat → Int64) (pr : Nat) (w : Nat) (key : Int64) (pl : Nat) (dn : Nat) (tk : Nat) (tr : Nat) (x : Int64) (hd : d < 12) (hp : pr < 4) : Met l yE_perform (.code yE_perform cE_perform 4 none :: WS) (rmk 3 71) (va_Pc [.ref (A 0), .int (nI 17), .long x] (zP D (eT C) sz (eW A C n ops nums vc vals (d + 1) st ce pk pv pr 1 key pl dn tk 0))) (va_Qv (fun _ : Unit => True) (fun (_ : Unit) t => zB D (eT C) (va_A (eW A C n ops nums vc vals (d + 1) st ce pk pv pr 1 key pl dn tk 0) sz) (eW A C n ops nums vc vals d st ce (vp_updL pk pr key) (vp_updL pv pr (st d)) (pr + 1) 1 key pl dn tk 0) t) (va_A (eW A C n ops nums vc vals (d + 1) st ce pk pv pr 1 key pl dn tk 0) sz)) 0 0 (va_A (eW A C n ops nums vc vals (d + 1) st ce pk pv pr 1 key pl dn tk 0) sz) := by
  refine zEnt (Qc := fun F => (va_Qv (fun _ : Unit => True) (fun (_ : Unit) t => zB D (eT C) F (eW A C n ops nums vc vals d st ce (vp_updL pk pr key) (vp_updL pv pr (st d)) (pr + 1) 1 key pl dn tk 0) t) F)) (by decide) (Nat.le_of_ble_eq_true rfl) (fun p e s m below meth c ls F hx hb hr hlk hml hnm hw hown hsz hP hK hD hA hl => ?_)
  have hS : va_S F s.heap s.heap [] := va_S.rf
  have hown : s.vm.findClass RE = some m.cls := hown
  have hl : lv_has ls 4 [(0, .ref (A 0)), (1, .int (nI 17)), (2, .long x)] := hl
  refine lv_iload_n hx hb dE_perform_0 rfl (lv_at hl 1 rfl) ?_
  refine lv_tableIn (off := 199) (tgt := 200) hx hb dE_perform_1 (by decide) (by decide) (by decide) rfl ?_
  refine lv_aload_n hx hb dE_perform_200 rfl (lv_at hl 0 rfl) ?_
  refine zAftv0 (zRunV0 ⟨hx, hb, hml, hown, hw⟩ (c_emitPair1_ok l D A C _ n ops nums vc vals d st ce pk pv pr 1 key pl dn tk 0 hd hp) wm_E_146 wi_E_emitPair ws_E_emitPair wn_E wc_E_emitPair ⟨rfl, rfl⟩ wd_E_emitPair ⟨by decide, by decide⟩ hK hP hD 0 rfl rfl rfl hl.1 rfl (Nat.le_of_ble_eq_true rfl) dE_perform_201 ⟨by decide, by decide⟩) hP hD hS hA (fun u H locs hp hP hD hS => ?_)
  replace hP : va_P D vwCl (eW A C n ops nums vc vals d st ce (vp_updL pk pr key) (vp_updL pv pr (st d)) (pr + 1) 1 key pl dn tk 0) H := hP
  replace hD : va_D F (eW A C n ops nums vc vals d st ce (vp_updL pk pr key) (vp_updL pv pr (st d)) (pr + 1) 1 key pl dn tk 0) := hD
  refine lv_goto (tgt := 223) hx hb dE_perform_204 rfl ?_
  exact zVret (w' := fun (_ : Unit) => (eW A C n ops nums vc vals d st ce (vp_updL pk pr key) (vp_updL pv pr (st d)) (pr + 1) 1 key pl dn tk 0)) () hx hb hr hlk hS hK trivial hP hD dE_perform_223

set_option maxRecDepth 20000 in
set_option maxHeartbeats 4000000 in
theorem c_perform17b_ok (l : Launch) (D : va_G) (A : Nat → Nat) (C : Nat → ClassId) (sz : Nat) (n : Nat) (ops : Nat → Int32) (nums : Nat → Int64) (vc : Nat) (vals : Nat → Int64) (d : Nat) (st : Nat → Int64) (ce : Nat → Int64) (pk : Nat → Int64) (pv : Nat → Int64) (pr : Nat) (w : Nat) (key : Int64) (pl : Nat) (dn : Nat) (tk : Nat) (tr : Nat) (x : Int64) (hd : d < 11) (hp : pr < 4) (hw1 : w ≠ 1) (hw2 : w ≤ 2) : Met l yE_perform (.code yE_perform cE_perform 4 none :: WS) (rmk 3 71) (va_Pc [.ref (A 0), .int (nI 17), .long x] (zP D (eT C) sz (eW A C n ops nums vc vals (d + 1 + 1) st ce pk pv pr w key pl dn tk 0))) (va_Qv (fun _ : Unit => True) (fun (_ : Unit) t => zB D (eT C) (va_A (eW A C n ops nums vc vals (d + 1 + 1) st ce pk pv pr w key pl dn tk 0) sz) (eW A C n ops nums vc vals d st ce (vp_updL pk pr (st d)) (vp_updL pv pr (st (d + 1))) (pr + 1) w key pl dn tk 0) t) (va_A (eW A C n ops nums vc vals (d + 1 + 1) st ce pk pv pr w key pl dn tk 0) sz)) 0 0 (va_A (eW A C n ops nums vc vals (d + 1 + 1) st ce pk pv pr w key pl dn tk 0) sz) := by
  refine zEnt (Qc := fun F => (va_Qv (fun _ : Unit => True) (fun (_ : Unit) t => zB D (eT C) F (eW A C n ops nums vc vals d st ce (vp_updL pk pr (st d)) (vp_updL pv pr (st (d + 1))) (pr + 1) w key pl dn tk 0) t) F)) (by decide) (Nat.le_of_ble_eq_true rfl) (fun p e s m below meth c ls F hx hb hr hlk hml hnm hw hown hsz hP hK hD hA hl => ?_)
  have hS : va_S F s.heap s.heap [] := va_S.rf
  have hown : s.vm.findClass RE = some m.cls := hown
  have hl : lv_has ls 4 [(0, .ref (A 0)), (1, .int (nI 17)), (2, .long x)] := hl
  refine lv_iload_n hx hb dE_perform_0 rfl (lv_at hl 1 rfl) ?_
  refine lv_tableIn (off := 199) (tgt := 200) hx hb dE_perform_1 (by decide) (by decide) (by decide) rfl ?_
  refine lv_aload_n hx hb dE_perform_200 rfl (lv_at hl 0 rfl) ?_
  refine zAftv0 (zRunV0 ⟨hx, hb, hml, hown, hw⟩ (c_emitPair2_ok l D A C _ n ops nums vc vals d st ce pk pv pr w key pl dn tk 0 hd hp hw1 hw2) wm_E_146 wi_E_emitPair ws_E_emitPair wn_E wc_E_emitPair ⟨rfl, rfl⟩ wd_E_emitPair ⟨by decide, by decide⟩ hK hP hD 0 rfl rfl rfl hl.1 rfl (Nat.le_of_ble_eq_true rfl) dE_perform_201 ⟨by decide, by decide⟩) hP hD hS hA (fun u H locs hp hP hD hS => ?_)
  replace hP : va_P D vwCl (eW A C n ops nums vc vals d st ce (vp_updL pk pr (st d)) (vp_updL pv pr (st (d + 1))) (pr + 1) w key pl dn tk 0) H := hP
  replace hD : va_D F (eW A C n ops nums vc vals d st ce (vp_updL pk pr (st d)) (vp_updL pv pr (st (d + 1))) (pr + 1) w key pl dn tk 0) := hD
  refine lv_goto (tgt := 223) hx hb dE_perform_204 rfl ?_
  exact zVret (w' := fun (_ : Unit) => (eW A C n ops nums vc vals d st ce (vp_updL pk pr (st d)) (vp_updL pv pr (st (d + 1))) (pr + 1) w key pl dn tk 0)) () hx hb hr hlk hS hK trivial hP hD dE_perform_223

set_option maxRecDepth 20000 in
set_option maxHeartbeats 4000000 in
theorem c_perform18_ok (l : Launch) (D : va_G) (A : Nat → Nat) (C : Nat → ClassId) (sz : Nat) (n : Nat) (ops : Nat → Int32) (nums : Nat → Int64) (vc : Nat) (vals : Nat → Int64) (d : Nat) (st : Nat → Int64) (ce : Nat → Int64) (pk : Nat → Int64) (pv : Nat → Int64) (pr : Nat) (w : Nat) (key : Int64) (pl : Nat) (dn : Nat) (tk : Nat) (tr : Nat) (x : Int64) : Met l yE_perform (.code yE_perform cE_perform 4 none :: WS) (rmk 3 71) (va_Pc [.ref (A 0), .int (nI 18), .long x] (zP D (eT C) sz (eW A C n ops nums vc vals d st ce pk pv pr w key pl dn tk 0))) (va_Qv (fun _ : Unit => True) (fun (_ : Unit) t => zB D (eT C) (va_A (eW A C n ops nums vc vals d st ce pk pv pr w key pl dn tk 0) sz) (eW A C n ops nums vc vals d st ce pk pv pr w key n dn tk 0) t) (va_A (eW A C n ops nums vc vals d st ce pk pv pr w key pl dn tk 0) sz)) 0 0 (va_A (eW A C n ops nums vc vals d st ce pk pv pr w key pl dn tk 0) sz) := by
  refine zEnt (Qc := fun F => (va_Qv (fun _ : Unit => True) (fun (_ : Unit) t => zB D (eT C) F (eW A C n ops nums vc vals d st ce pk pv pr w key n dn tk 0) t) F)) (by decide) (Nat.le_of_ble_eq_true rfl) (fun p e s m below meth c ls F hx hb hr hlk hml hnm hw hown hsz hP hK hD hA hl => ?_)
  have hS : va_S F s.heap s.heap [] := va_S.rf
  have hown : s.vm.findClass RE = some m.cls := hown
  have hl : lv_has ls 4 [(0, .ref (A 0)), (1, .int (nI 18)), (2, .long x)] := hl
  refine lv_iload_n hx hb dE_perform_0 rfl (lv_at hl 1 rfl) ?_
  refine lv_tableIn (off := 206) (tgt := 207) hx hb dE_perform_1 (by decide) (by decide) (by decide) rfl ?_
  refine lv_aload_n hx hb dE_perform_207 rfl (lv_at hl 0 rfl) ?_
  refine lv_aload_n hx hb dE_perform_208 rfl (lv_at hl 0 rfl) ?_
  refine zGetE hx hb hw hown hK hP 0 rfl 2 (by decide) wf_E_43 rfl dE_perform_209 ?_
  refine zPutE hx hb hw hown hK hP hD hS 0 rfl 13 (by decide) wf_E_113 rfl rfl rfl (Nat.le_of_ble_eq_true rfl) dE_perform_212 (fun H locs hP hD hS => ?_)
  replace hP : va_P D vwCl (eW A C n ops nums vc vals d st ce pk pv pr w key n dn tk 0) H := hP
  replace hD : va_D F (eW A C n ops nums vc vals d st ce pk pv pr w key n dn tk 0) := hD
  refine lv_goto (tgt := 223) hx hb dE_perform_215 rfl ?_
  exact zVret (w' := fun (_ : Unit) => (eW A C n ops nums vc vals d st ce pk pv pr w key n dn tk 0)) () hx hb hr hlk hS hK trivial hP hD dE_perform_223

set_option maxRecDepth 20000 in
set_option maxHeartbeats 4000000 in
theorem c_perform0_full (l : Launch) (D : va_G) (A : Nat → Nat) (C : Nat → ClassId) (sz : Nat) (n : Nat) (ops : Nat → Int32) (nums : Nat → Int64) (vc : Nat) (vals : Nat → Int64) (d : Nat) (st : Nat → Int64) (ce : Nat → Int64) (pk : Nat → Int64) (pv : Nat → Int64) (pr : Nat) (w : Nat) (key : Int64) (pl : Nat) (dn : Nat) (tk : Nat) (tr : Nat) (x : Int64) (hd : d ≤ 12) (hpl : pl ≤ 40) (hf : d = 12) : Met l yE_perform (.code yE_perform cE_perform 4 none :: WS) (rmk 3 71) (va_Pc [.ref (A 0), .int (nI 0), .long x] (zP D (eT C) sz (eW A C n ops nums vc vals d st ce pk pv pr w key pl dn tk 0))) (va_Qv (fun u : Nat × (Nat → Int64) × Nat => u.1 ≤ 12 ∧ u.2.2 ≤ 40) (fun (u : Nat × (Nat → Int64) × Nat) t => zB D (eT C) (va_A (eW A C n ops nums vc vals d st ce pk pv pr w key pl dn tk 0) sz) (eW A C n ops nums vc vals u.1 u.2.1 ce pk pv pr w key u.2.2 dn tk 1) t) (va_A (eW A C n ops nums vc vals d st ce pk pv pr w key pl dn tk 0) sz)) 0 0 (va_A (eW A C n ops nums vc vals d st ce pk pv pr w key pl dn tk 0) sz) := by
  refine zEnt (Qc := fun F => (va_Qv (fun u : Nat × (Nat → Int64) × Nat => u.1 ≤ 12 ∧ u.2.2 ≤ 40) (fun (u : Nat × (Nat → Int64) × Nat) t => zB D (eT C) F (eW A C n ops nums vc vals u.1 u.2.1 ce pk pv pr w key u.2.2 dn tk 1) t) F)) (by decide) (Nat.le_of_ble_eq_true rfl) (fun p e s m below meth c ls F hx hb hr hlk hml hnm hw hown hsz hP hK hD hA hl => ?_)
  have hS : va_S F s.heap s.heap [] := va_S.rf
  have hown : s.vm.findClass RE = some m.cls := hown
  have hl : lv_has ls 4 [(0, .ref (A 0)), (1, .int (nI 0)), (2, .long x)] := hl
  refine lv_iload_n hx hb dE_perform_0 rfl (lv_at hl 1 rfl) ?_
  refine lv_tableIn (off := 91) (tgt := 92) hx hb dE_perform_1 (by decide) (by decide) (by decide) rfl ?_
  refine lv_aload_n hx hb dE_perform_92 rfl (lv_at hl 0 rfl) ?_
  refine lv_lload_n hx hb dE_perform_93 rfl (lv_at hl 2 rfl) ?_
  refine zAftv0 (zRunV0 ⟨hx, hb, hml, hown, hw⟩ (c_push l D A C _ n ops nums vc vals d st ce pk pv pr w key pl dn tk 0 x (by omega)) wm_E_119 wi_E_push ws_E_push wn_E wc_E_push ⟨rfl, rfl⟩ wd_E_push ⟨by decide, by decide⟩ hK hP hD 0 rfl rfl rfl hl.1 rfl (Nat.le_of_ble_eq_true rfl) dE_perform_94 ⟨by decide, by decide⟩) hP hD hS hA (fun u H locs hp hP hD hS => ?_)
  replace hP : va_P D vwCl (eW A C n ops nums vc vals (pD d) (pS x d st) ce pk pv pr w key pl dn tk (pT d 0)) H := hP
  replace hD : va_D F (eW A C n ops nums vc vals (pD d) (pS x d st) ce pk pv pr w key pl dn tk (pT d 0)) := hD
  refine lv_goto (tgt := 223) hx hb dE_perform_97 rfl ?_
  have e9 : (pT d 0) = 1 := by simp only [pT, qT, pD]; (repeat' split) <;> omega
  rw [e9] at hP hD
  exact zVret (w' := fun (u : Nat × (Nat → Int64) × Nat) => (eW A C n ops nums vc vals u.1 u.2.1 ce pk pv pr w key u.2.2 dn tk 1)) (pD d, pS x d st, pl) hx hb hr hlk hS hK ⟨by simp only [pD]; (repeat' split) <;> omega, by omega⟩ hP hD dE_perform_223

set_option maxRecDepth 20000 in
set_option maxHeartbeats 4000000 in
theorem c_perform1_full (l : Launch) (D : va_G) (A : Nat → Nat) (C : Nat → ClassId) (sz : Nat) (n : Nat) (ops : Nat → Int32) (nums : Nat → Int64) (vc : Nat) (vals : Nat → Int64) (d : Nat) (st : Nat → Int64) (ce : Nat → Int64) (pk : Nat → Int64) (pv : Nat → Int64) (pr : Nat) (w : Nat) (key : Int64) (pl : Nat) (dn : Nat) (tk : Nat) (tr : Nat) (x : Int64) (hd : d ≤ 12) (hpl : pl ≤ 40) (hf : d = 12) : Met l yE_perform (.code yE_perform cE_perform 4 none :: WS) (rmk 3 71) (va_Pc [.ref (A 0), .int (nI 1), .long x] (zP D (eT C) sz (eW A C n ops nums vc vals d st ce pk pv pr w key pl dn tk 0))) (va_Qv (fun u : Nat × (Nat → Int64) × Nat => u.1 ≤ 12 ∧ u.2.2 ≤ 40) (fun (u : Nat × (Nat → Int64) × Nat) t => zB D (eT C) (va_A (eW A C n ops nums vc vals d st ce pk pv pr w key pl dn tk 0) sz) (eW A C n ops nums vc vals u.1 u.2.1 ce pk pv pr w key u.2.2 dn tk 1) t) (va_A (eW A C n ops nums vc vals d st ce pk pv pr w key pl dn tk 0) sz)) 0 0 (va_A (eW A C n ops nums vc vals d st ce pk pv pr w key pl dn tk 0) sz) := by
  refine zEnt (Qc := fun F => (va_Qv (fun u : Nat × (Nat → Int64) × Nat => u.1 ≤ 12 ∧ u.2.2 ≤ 40) (fun (u : Nat × (Nat → Int64) × Nat) t => zB D (eT C) F (eW A C n ops nums vc vals u.1 u.2.1 ce pk pv pr w key u.2.2 dn tk 1) t) F)) (by decide) (Nat.le_of_ble_eq_true rfl) (fun p e s m below meth c ls F hx hb hr hlk hml hnm hw hown hsz hP hK hD hA hl => ?_)
  have hS : va_S F s.heap s.heap [] := va_S.rf
  have hown : s.vm.findClass RE = some m.cls := hown
  have hl : lv_has ls 4 [(0, .ref (A 0)), (1, .int (nI 1)), (2, .long x)] := hl
  refine lv_iload_n hx hb dE_perform_0 rfl (lv_at hl 1 rfl) ?_
  refine lv_tableIn (off := 99) (tgt := 100) hx hb dE_perform_1 (by decide) (by decide) (by decide) rfl ?_
  refine lv_aload_n hx hb dE_perform_100 rfl (lv_at hl 0 rfl) ?_
  refine lv_aload_n hx hb dE_perform_101 rfl (lv_at hl 0 rfl) ?_
  refine zGetE hx hb hw hown hK hP 0 rfl 12 (by decide) wf_E_109 rfl dE_perform_102 ?_
  refine zAftv0 (zRunV0 ⟨hx, hb, hml, hown, hw⟩ (c_push l D A C _ n ops nums vc vals d st ce pk pv pr w key pl dn tk 0 key (by omega)) wm_E_119 wi_E_push ws_E_push wn_E wc_E_push ⟨rfl, rfl⟩ wd_E_push ⟨by decide, by decide⟩ hK hP hD 0 rfl rfl rfl hl.1 rfl (Nat.le_of_ble_eq_true rfl) dE_perform_105 ⟨by decide, by decide⟩) hP hD hS hA (fun u H locs hp hP hD hS => ?_)
  replace hP : va_P D vwCl (eW A C n ops nums vc vals (pD d) (pS key d st) ce pk pv pr w key pl dn tk (pT d 0)) H := hP
  replace hD : va_D F (eW A C n ops nums vc vals (pD d) (pS key d st) ce pk pv pr w key pl dn tk (pT d 0)) := hD
  refine lv_goto (tgt := 223) hx hb dE_perform_108 rfl ?_
  have e9 : (pT d 0) = 1 := by simp only [pT, qT, pD]; (repeat' split) <;> omega
  rw [e9] at hP hD
  exact zVret (w' := fun (u : Nat × (Nat → Int64) × Nat) => (eW A C n ops nums vc vals u.1 u.2.1 ce pk pv pr w key u.2.2 dn tk 1)) (pD d, pS key d st, pl) hx hb hr hlk hS hK ⟨by simp only [pD]; (repeat' split) <;> omega, by omega⟩ hP hD dE_perform_223

set_option maxRecDepth 20000 in
set_option maxHeartbeats 4000000 in
theorem c_perform2_none (l : Launch) (D : va_G) (A : Nat → Nat) (C : Nat → ClassId) (sz : Nat) (n : Nat) (ops : Nat → Int32) (nums : Nat → Int64) (vc : Nat) (vals : Nat → Int64) (d : Nat) (st : Nat → Int64) (ce : Nat → Int64) (pk : Nat → Int64) (pv : Nat → Int64) (pr : Nat) (w : Nat) (key : Int64) (pl : Nat) (dn : Nat) (tk : Nat) (tr : Nat) (x : Int64) (hd : d ≤ 12) (hpl : pl ≤ 40) (hvc : vc ≤ 40) (htk : vc ≤ tk) (htk2 : tk ≤ 40) : Met l yE_perform (.code yE_perform cE_perform 4 none :: WS) (rmk 3 71) (va_Pc [.ref (A 0), .int (nI 2), .long x] (zP D (eT C) sz (eW A C n ops nums vc vals d st ce pk pv pr w key pl dn tk 0))) (va_Qv (fun u : Nat × (Nat → Int64) × Nat => u.1 ≤ 12 ∧ u.2.2 ≤ 40) (fun (u : Nat × (Nat → Int64) × Nat) t => zB D (eT C) (va_A (eW A C n ops nums vc vals d st ce pk pv pr w key pl dn tk 0) sz) (eW A C n ops nums vc vals u.1 u.2.1 ce pk pv pr w key u.2.2 dn tk 1) t) (va_A (eW A C n ops nums vc vals d st ce pk pv pr w key pl dn tk 0) sz)) 0 0 (va_A (eW A C n ops nums vc vals d st ce pk pv pr w key pl dn tk 0) sz) := by
  refine zEnt (Qc := fun F => (va_Qv (fun u : Nat × (Nat → Int64) × Nat => u.1 ≤ 12 ∧ u.2.2 ≤ 40) (fun (u : Nat × (Nat → Int64) × Nat) t => zB D (eT C) F (eW A C n ops nums vc vals u.1 u.2.1 ce pk pv pr w key u.2.2 dn tk 1) t) F)) (by decide) (Nat.le_of_ble_eq_true rfl) (fun p e s m below meth c ls F hx hb hr hlk hml hnm hw hown hsz hP hK hD hA hl => ?_)
  have hS : va_S F s.heap s.heap [] := va_S.rf
  have hown : s.vm.findClass RE = some m.cls := hown
  have hl : lv_has ls 4 [(0, .ref (A 0)), (1, .int (nI 2)), (2, .long x)] := hl
  refine lv_iload_n hx hb dE_perform_0 rfl (lv_at hl 1 rfl) ?_
  refine lv_tableIn (off := 110) (tgt := 111) hx hb dE_perform_1 (by decide) (by decide) (by decide) rfl ?_
  refine lv_aload_n hx hb dE_perform_111 rfl (lv_at hl 0 rfl) ?_
  refine zAftv0 (zRunV0 ⟨hx, hb, hml, hown, hw⟩ (c_pushValue_none l D A C _ n ops nums vc vals d st ce pk pv pr w key pl dn tk 0 hd hpl hvc htk htk2) wm_E_123 wi_E_pushValue ws_E_pushValue wn_E wc_E_pushValue ⟨rfl, rfl⟩ wd_E_pushValue ⟨by decide, by decide⟩ hK hP hD 0 rfl rfl rfl hl.1 rfl (Nat.le_of_ble_eq_true rfl) dE_perform_112 ⟨by decide, by decide⟩) hP hD hS hA (fun u H locs hp hP hD hS => ?_)
  replace hP : va_P D vwCl (eW A C n ops nums vc vals u.1 u.2.1 ce pk pv pr w key u.2.2 dn tk 1) H := hP
  replace hD : va_D F (eW A C n ops nums vc vals u.1 u.2.1 ce pk pv pr w key u.2.2 dn tk 1) := hD
  obtain ⟨hu1, hu2⟩ := hp
  refine lv_goto (tgt := 223) hx hb dE_perform_115 rfl ?_
  exact zVret (w' := fun (u : Nat × (Nat → Int64) × Nat) => (eW A C n ops nums vc vals u.1 u.2.1 ce pk pv pr w key u.2.2 dn tk 1)) (u.1, u.2.1, u.2.2) hx hb hr hlk hS hK ⟨by omega, by omega⟩ hP hD dE_perform_223

set_option maxRecDepth 20000 in
set_option maxHeartbeats 4000000 in
theorem c_perform2_full (l : Launch) (D : va_G) (A : Nat → Nat) (C : Nat → ClassId) (sz : Nat) (n : Nat) (ops : Nat → Int32) (nums : Nat → Int64) (vc : Nat) (vals : Nat → Int64) (d : Nat) (st : Nat → Int64) (ce : Nat → Int64) (pk : Nat → Int64) (pv : Nat → Int64) (pr : Nat) (w : Nat) (key : Int64) (pl : Nat) (dn : Nat) (tk : Nat) (tr : Nat) (x : Int64) (hd : d ≤ 12) (hpl : pl ≤ 40) (hvc : vc ≤ 40) (htk : tk < vc) (hf : d = 12) : Met l yE_perform (.code yE_perform cE_perform 4 none :: WS) (rmk 3 71) (va_Pc [.ref (A 0), .int (nI 2), .long x] (zP D (eT C) sz (eW A C n ops nums vc vals d st ce pk pv pr w key pl dn tk 0))) (va_Qv (fun u : Nat × (Nat → Int64) × Nat => u.1 ≤ 12 ∧ u.2.2 ≤ 40) (fun (u : Nat × (Nat → Int64) × Nat) t => zB D (eT C) (va_A (eW A C n ops nums vc vals d st ce pk pv pr w key pl dn tk 0) sz) (eW A C n ops nums vc vals u.1 u.2.1 ce pk pv pr w key u.2.2 dn tk 1) t) (va_A (eW A C n ops nums vc vals d st ce pk pv pr w key pl dn tk 0) sz)) 0 0 (va_A (eW A C n ops nums vc vals d st ce pk pv pr w key pl dn tk 0) sz) := by
  refine zEnt (Qc := fun F => (va_Qv (fun u : Nat × (Nat → Int64) × Nat => u.1 ≤ 12 ∧ u.2.2 ≤ 40) (fun (u : Nat × (Nat → Int64) × Nat) t => zB D (eT C) F (eW A C n ops nums vc vals u.1 u.2.1 ce pk pv pr w key u.2.2 dn tk 1) t) F)) (by decide) (Nat.le_of_ble_eq_true rfl) (fun p e s m below meth c ls F hx hb hr hlk hml hnm hw hown hsz hP hK hD hA hl => ?_)
  have hS : va_S F s.heap s.heap [] := va_S.rf
  have hown : s.vm.findClass RE = some m.cls := hown
  have hl : lv_has ls 4 [(0, .ref (A 0)), (1, .int (nI 2)), (2, .long x)] := hl
  refine lv_iload_n hx hb dE_perform_0 rfl (lv_at hl 1 rfl) ?_
  refine lv_tableIn (off := 110) (tgt := 111) hx hb dE_perform_1 (by decide) (by decide) (by decide) rfl ?_
  refine lv_aload_n hx hb dE_perform_111 rfl (lv_at hl 0 rfl) ?_
  refine zAftv0 (zRunV0 ⟨hx, hb, hml, hown, hw⟩ (c_pushValue_full l D A C _ n ops nums vc vals d st ce pk pv pr w key pl dn tk 0 hd hpl hvc htk hf) wm_E_123 wi_E_pushValue ws_E_pushValue wn_E wc_E_pushValue ⟨rfl, rfl⟩ wd_E_pushValue ⟨by decide, by decide⟩ hK hP hD 0 rfl rfl rfl hl.1 rfl (Nat.le_of_ble_eq_true rfl) dE_perform_112 ⟨by decide, by decide⟩) hP hD hS hA (fun u H locs hp hP hD hS => ?_)
  replace hP : va_P D vwCl (eW A C n ops nums vc vals u.1 u.2.1 ce pk pv pr w key u.2.2 dn tk 1) H := hP
  replace hD : va_D F (eW A C n ops nums vc vals u.1 u.2.1 ce pk pv pr w key u.2.2 dn tk 1) := hD
  obtain ⟨hu1, hu2⟩ := hp
  refine lv_goto (tgt := 223) hx hb dE_perform_115 rfl ?_
  exact zVret (w' := fun (u : Nat × (Nat → Int64) × Nat) => (eW A C n ops nums vc vals u.1 u.2.1 ce pk pv pr w key u.2.2 dn tk 1)) (u.1, u.2.1, u.2.2) hx hb hr hlk hS hK ⟨by omega, by omega⟩ hP hD dE_perform_223

set_option maxRecDepth 20000 in
set_option maxHeartbeats 4000000 in
theorem c_perform3_full (l : Launch) (D : va_G) (A : Nat → Nat) (C : Nat → ClassId) (sz : Nat) (n : Nat) (ops : Nat → Int32) (nums : Nat → Int64) (vc : Nat) (vals : Nat → Int64) (d : Nat) (st : Nat → Int64) (ce : Nat → Int64) (pk : Nat → Int64) (pv : Nat → Int64) (pr : Nat) (w : Nat) (key : Int64) (pl : Nat) (dn : Nat) (tk : Nat) (tr : Nat) (x : Int64) (hd : d ≤ 12) (hpl : pl ≤ 40) (hf : d = 12) (hw2 : w ≤ 2) (hvc : vc ≤ 40) (htk : tk ≤ 40) : Met l yE_perform (.code yE_perform cE_perform 4 none :: WS) (rmk 3 71) (va_Pc [.ref (A 0), .int (nI 3), .long x] (zP D (eT C) sz (eW A C n ops nums vc vals d st ce pk pv pr w key pl dn tk 0))) (va_Qv (fun u : Nat × (Nat → Int64) × Nat => u.1 ≤ 12 ∧ u.2.2 ≤ 40) (fun (u : Nat × (Nat → Int64) × Nat) t => zB D (eT C) (va_A (eW A C n ops nums vc vals d st ce pk pv pr w key pl dn tk 0) sz) (eW A C n ops nums vc vals u.1 u.2.1 ce pk pv pr w key u.2.2 dn tk 1) t) (va_A (eW A C n ops nums vc vals d st ce pk pv pr w key pl dn tk 0) sz)) 0 0 (va_A (eW A C n ops nums vc vals d st ce pk pv pr w key pl dn tk 0) sz) := by
  refine zEnt (Qc := fun F => (va_Qv (fun u : Nat × (Nat → Int64) × Nat => u.1 ≤ 12 ∧ u.2.2 ≤ 40) (fun (u : Nat × (Nat → Int64) × Nat) t => zB D (eT C) F (eW A C n ops nums vc vals u.1 u.2.1 ce pk pv pr w key u.2.2 dn tk 1) t) F)) (by decide) (Nat.le_of_ble_eq_true rfl) (fun p e s m below meth c ls F hx hb hr hlk hml hnm hw hown hsz hP hK hD hA hl => ?_)
  have hS : va_S F s.heap s.heap [] := va_S.rf
  have hown : s.vm.findClass RE = some m.cls := hown
  have hl : lv_has ls 4 [(0, .ref (A 0)), (1, .int (nI 3)), (2, .long x)] := hl
  refine lv_iload_n hx hb dE_perform_0 rfl (lv_at hl 1 rfl) ?_
  refine lv_tableIn (off := 117) (tgt := 118) hx hb dE_perform_1 (by decide) (by decide) (by decide) rfl ?_
  refine lv_aload_n hx hb dE_perform_118 rfl (lv_at hl 0 rfl) ?_
  refine lv_aload_n hx hb dE_perform_119 rfl (lv_at hl 0 rfl) ?_
  refine zAfti0 (zRunV0 ⟨hx, hb, hml, hown, hw⟩ (c_hasNext l D A C _ n ops nums vc vals d st ce pk pv pr w key pl dn tk 0 hw2 hvc htk) wm_E_126 wi_E_hasNext ws_E_hasNext wn_E wc_E_hasNext ⟨rfl, rfl⟩ wd_E_hasNext ⟨by decide, by decide⟩ hK hP hD 0 rfl rfl rfl hl.1 rfl (Nat.le_of_ble_eq_true rfl) dE_perform_120 ⟨by decide, by decide⟩) hP hD hS hA (fun r u H locs hp hP hD hS => ?_)
  replace hP : va_P D vwCl (eW A C n ops nums vc vals d st ce pk pv pr w key pl dn tk 0) H := hP
  replace hD : va_D F (eW A C n ops nums vc vals d st ce pk pv pr w key pl dn tk 0) := hD
  subst hp
  refine zi_eq (tgt := 130) hx hb dE_perform_123 rfl (by simp only [pT, qT, pD, hN]; (repeat' split) <;> omega) (fun h123 => ?_) (fun h123 => ?_)
  · refine lv_lconst (v := 0) hx hb dE_perform_130 (by decide) ?_
    refine zAftv0 (zRunV0 ⟨hx, hb, hml, hown, hw⟩ (c_push l D A C _ n ops nums vc vals d st ce pk pv pr w key pl dn tk 0 (0 : Int64) (by omega)) wm_E_119 wi_E_push ws_E_push wn_E wc_E_push ⟨rfl, rfl⟩ wd_E_push ⟨by decide, by decide⟩ hK hP hD 0 rfl rfl rfl hl.1 rfl (Nat.le_of_ble_eq_true rfl) dE_perform_131 ⟨by decide, by decide⟩) hP hD hS hA (fun u H locs hp hP hD hS => ?_)
    replace hP : va_P D vwCl (eW A C n ops nums vc vals (pD d) (pS (0 : Int64) d st) ce pk pv pr w key pl dn tk (pT d 0)) H := hP
    replace hD : va_D F (eW A C n ops nums vc vals (pD d) (pS (0 : Int64) d st) ce pk pv pr w key pl dn tk (pT d 0)) := hD
    refine lv_goto (tgt := 223) hx hb dE_perform_134 rfl ?_
    have e9 : (pT d 0) = 1 := by simp only [pT, qT, pD]; (repeat' split) <;> omega
    rw [e9] at hP hD
    exact zVret (w' := fun (u : Nat × (Nat → Int64) × Nat) => (eW A C n ops nums vc vals u.1 u.2.1 ce pk pv pr w key u.2.2 dn tk 1)) (pD d, pS (0 : Int64) d st, pl) hx hb hr hlk hS hK ⟨by simp only [pD]; (repeat' split) <;> omega, by omega⟩ hP hD dE_perform_223
  · refine lv_lconst (v := 1) hx hb dE_perform_126 (by decide) ?_
    refine lv_goto (tgt := 131) hx hb dE_perform_127 rfl ?_
    refine zAftv0 (zRunV0 ⟨hx, hb, hml, hown, hw⟩ (c_push l D A C _ n ops nums vc vals d st ce pk pv pr w key pl dn tk 0 (1 : Int64) (by omega)) wm_E_119 wi_E_push ws_E_push wn_E wc_E_push ⟨rfl, rfl⟩ wd_E_push ⟨by decide, by decide⟩ hK hP hD 0 rfl rfl rfl hl.1 rfl (Nat.le_of_ble_eq_true rfl) dE_perform_131 ⟨by decide, by decide⟩) hP hD hS hA (fun u H locs hp hP hD hS => ?_)
    replace hP : va_P D vwCl (eW A C n ops nums vc vals (pD d) (pS (1 : Int64) d st) ce pk pv pr w key pl dn tk (pT d 0)) H := hP
    replace hD : va_D F (eW A C n ops nums vc vals (pD d) (pS (1 : Int64) d st) ce pk pv pr w key pl dn tk (pT d 0)) := hD
    refine lv_goto (tgt := 223) hx hb dE_perform_134 rfl ?_
    have e9 : (pT d 0) = 1 := by simp only [pT, qT, pD]; (repeat' split) <;> omega
    rw [e9] at hP hD
    exact zVret (w' := fun (u : Nat × (Nat → Int64) × Nat) => (eW A C n ops nums vc vals u.1 u.2.1 ce pk pv pr w key u.2.2 dn tk 1)) (pD d, pS (1 : Int64) d st, pl) hx hb hr hlk hS hK ⟨by simp only [pD]; (repeat' split) <;> omega, by omega⟩ hP hD dE_perform_223

set_option maxRecDepth 20000 in
set_option maxHeartbeats 4000000 in
theorem c_perform4_full (l : Launch) (D : va_G) (A : Nat → Nat) (C : Nat → ClassId) (sz : Nat) (n : Nat) (ops : Nat → Int32) (nums : Nat → Int64) (vc : Nat) (vals : Nat → Int64) (d : Nat) (st : Nat → Int64) (ce : Nat → Int64) (pk : Nat → Int64) (pv : Nat → Int64) (pr : Nat) (w : Nat) (key : Int64) (pl : Nat) (dn : Nat) (tk : Nat) (tr : Nat) (j : Nat) (hd : d ≤ 12) (hpl : pl ≤ 40) (hf : d = 12) (hj : j < 4) : Met l yE_perform (.code yE_perform cE_perform 4 none :: WS) (rmk 3 71) (va_Pc [.ref (A 0), .int (nI 4), .long (lN j)] (zP D (eT C) sz (eW A C n ops nums vc vals d st ce pk pv pr w key pl dn tk 0))) (va_Qv (fun u : Nat × (Nat → Int64) × Nat => u.1 ≤ 12 ∧ u.2.2 ≤ 40) (fun (u : Nat × (Nat → Int64) × Nat) t => zB D (eT C) (va_A (eW A C n ops nums vc vals d st ce pk pv pr w key pl dn tk 0) sz) (eW A C n ops nums vc vals u.1 u.2.1 ce pk pv pr w key u.2.2 dn tk 1) t) (va_A (eW A C n ops nums vc vals d st ce pk pv pr w key pl dn tk 0) sz)) 0 0 (va_A (eW A C n ops nums vc vals d st ce pk pv pr w key pl dn tk 0) sz) := by
  refine zEnt (Qc := fun F => (va_Qv (fun u : Nat × (Nat → Int64) × Nat => u.1 ≤ 12 ∧ u.2.2 ≤ 40) (fun (u : Nat × (Nat → Int64) × Nat) t => zB D (eT C) F (eW A C n ops nums vc vals u.1 u.2.1 ce pk pv pr w key u.2.2 dn tk 1) t) F)) (by decide) (Nat.le_of_ble_eq_true rfl) (fun p e s m below meth c ls F hx hb hr hlk hml hnm hw hown hsz hP hK hD hA hl => ?_)
  have hS : va_S F s.heap s.heap [] := va_S.rf
  have hown : s.vm.findClass RE = some m.cls := hown
  have hl : lv_has ls 4 [(0, .ref (A 0)), (1, .int (nI 4)), (2, .long (lN j))] := hl
  refine lv_iload_n hx hb dE_perform_0 rfl (lv_at hl 1 rfl) ?_
  refine lv_tableIn (off := 136) (tgt := 137) hx hb dE_perform_1 (by decide) (by decide) (by decide) rfl ?_
  refine lv_aload_n hx hb dE_perform_137 rfl (lv_at hl 0 rfl) ?_
  refine lv_aload_n hx hb dE_perform_138 rfl (lv_at hl 0 rfl) ?_
  refine zGetE hx hb hw hown hK hP 0 rfl 7 (by decide) wf_E_23 rfl dE_perform_139 ?_
  refine lv_lload_n hx hb dE_perform_142 rfl (lv_at hl 2 rfl) ?_
  refine lv_l2i hx hb dE_perform_143 (lN_i _) ?_
  refine zLald hx hb hK hP 5 4 rfl rfl (by omega) (by decide) dE_perform_144 ?_
  refine zAftv0 (zRunV0 ⟨hx, hb, hml, hown, hw⟩ (c_push l D A C _ n ops nums vc vals d st ce pk pv pr w key pl dn tk 0 (ce j) (by omega)) wm_E_119 wi_E_push ws_E_push wn_E wc_E_push ⟨rfl, rfl⟩ wd_E_push ⟨by decide, by decide⟩ hK hP hD 0 rfl rfl rfl hl.1 rfl (Nat.le_of_ble_eq_true rfl) dE_perform_145 ⟨by decide, by decide⟩) hP hD hS hA (fun u H locs hp hP hD hS => ?_)
  replace hP : va_P D vwCl (eW A C n ops nums vc vals (pD d) (pS (ce j) d st) ce pk pv pr w key pl dn tk (pT d 0)) H := hP
  replace hD : va_D F (eW A C n ops nums vc vals (pD d) (pS (ce j) d st) ce pk pv pr w key pl dn tk (pT d 0)) := hD
  refine lv_goto (tgt := 223) hx hb dE_perform_148 rfl ?_
  have e9 : (pT d 0) = 1 := by simp only [pT, qT, pD]; (repeat' split) <;> omega
  rw [e9] at hP hD
  exact zVret (w' := fun (u : Nat × (Nat → Int64) × Nat) => (eW A C n ops nums vc vals u.1 u.2.1 ce pk pv pr w key u.2.2 dn tk 1)) (pD d, pS (ce j) d st, pl) hx hb hr hlk hS hK ⟨by simp only [pD]; (repeat' split) <;> omega, by omega⟩ hP hD dE_perform_223

set_option maxRecDepth 20000 in
set_option maxHeartbeats 4000000 in
theorem c_perform5_low (l : Launch) (D : va_G) (A : Nat → Nat) (C : Nat → ClassId) (sz : Nat) (n : Nat) (ops : Nat → Int32) (nums : Nat → Int64) (vc : Nat) (vals : Nat → Int64) (d : Nat) (st : Nat → Int64) (ce : Nat → Int64) (pk : Nat → Int64) (pv : Nat → Int64) (pr : Nat) (w : Nat) (key : Int64) (pl : Nat) (dn : Nat) (tk : Nat) (tr : Nat) (j : Nat) (hd : d ≤ 12) (hpl : pl ≤ 40) (hj : j < 4) (h0 : d = 0) : Met l yE_perform (.code yE_perform cE_perform 4 none :: WS) (rmk 3 71) (va_Pc [.ref (A 0), .int (nI 5), .long (lN j)] (zP D (eT C) sz (eW A C n ops nums vc vals d st ce pk pv pr w key pl dn tk 0))) (va_Qv (fun u : Nat × (Nat → Int64) × Nat => u.1 ≤ 12 ∧ u.2.2 ≤ 40) (fun (u : Nat × (Nat → Int64) × Nat) t => zB D (eT C) (va_A (eW A C n ops nums vc vals d st ce pk pv pr w key pl dn tk 0) sz) (eW A C n ops nums vc vals u.1 u.2.1 ce pk pv pr w key u.2.2 dn tk 1) t) (va_A (eW A C n ops nums vc vals d st ce pk pv pr w key pl dn tk 0) sz)) 0 0 (va_A (eW A C n ops nums vc vals d st ce pk pv pr w key pl dn tk 0) sz) := by
  refine zEnt (Qc := fun F => (va_Qv (fun u : Nat × (Nat → Int64) × Nat => u.1 ≤ 12 ∧ u.2.2 ≤ 40) (fun (u : Nat × (Nat → Int64) × Nat) t => zB D (eT C) F (eW A C n ops nums vc vals u.1 u.2.1 ce pk pv pr w key u.2.2 dn tk 1) t) F)) (by decide) (Nat.le_of_ble_eq_true rfl) (fun p e s m below meth c ls F hx hb hr hlk hml hnm hw hown hsz hP hK hD hA hl => ?_)
  have hS : va_S F s.heap s.heap [] := va_S.rf
  have hown : s.vm.findClass RE = some m.cls := hown
  have hl : lv_has ls 4 [(0, .ref (A 0)), (1, .int (nI 5)), (2, .long (lN j))] := hl
  refine lv_iload_n hx hb dE_perform_0 rfl (lv_at hl 1 rfl) ?_
  refine lv_tableIn (off := 150) (tgt := 151) hx hb dE_perform_1 (by decide) (by decide) (by decide) rfl ?_
  refine lv_aload_n hx hb dE_perform_151 rfl (lv_at hl 0 rfl) ?_
  refine lv_lload_n hx hb dE_perform_152 rfl (lv_at hl 2 rfl) ?_
  refine lv_l2i hx hb dE_perform_153 (lN_i _) ?_
  refine zAftv0 (zRunV0 ⟨hx, hb, hml, hown, hw⟩ (c_popCell_trap l D A C _ n ops nums vc vals d st ce pk pv pr w key pl dn tk 0 j hd hpl hj h0) wm_E_129 wi_E_popCell ws_E_popCell wn_E wc_E_popCell ⟨rfl, rfl⟩ wd_E_popCell ⟨by decide, by decide⟩ hK hP hD 0 rfl rfl rfl hl.1 rfl (Nat.le_of_ble_eq_true rfl) dE_perform_154 ⟨by decide, by decide⟩) hP hD hS hA (fun u H locs hp hP hD hS => ?_)
  replace hP : va_P D vwCl (eW A C n ops nums vc vals u.1 u.2.1 ce pk pv pr w key u.2.2 dn tk 1) H := hP
  replace hD : va_D F (eW A C n ops nums vc vals u.1 u.2.1 ce pk pv pr w key u.2.2 dn tk 1) := hD
  obtain ⟨hu1, hu2⟩ := hp
  refine lv_goto (tgt := 223) hx hb dE_perform_157 rfl ?_
  exact zVret (w' := fun (u : Nat × (Nat → Int64) × Nat) => (eW A C n ops nums vc vals u.1 u.2.1 ce pk pv pr w key u.2.2 dn tk 1)) (u.1, u.2.1, u.2.2) hx hb hr hlk hS hK ⟨by omega, by omega⟩ hP hD dE_perform_223

set_option maxRecDepth 20000 in
set_option maxHeartbeats 4000000 in
theorem c_perform6_low (l : Launch) (D : va_G) (A : Nat → Nat) (C : Nat → ClassId) (sz : Nat) (n : Nat) (ops : Nat → Int32) (nums : Nat → Int64) (vc : Nat) (vals : Nat → Int64) (d : Nat) (st : Nat → Int64) (ce : Nat → Int64) (pk : Nat → Int64) (pv : Nat → Int64) (pr : Nat) (w : Nat) (key : Int64) (pl : Nat) (dn : Nat) (tk : Nat) (tr : Nat) (x : Int64) (hd : d ≤ 12) (hpl : pl ≤ 40) (h0 : d < 2) : Met l yE_perform (.code yE_perform cE_perform 4 none :: WS) (rmk 3 71) (va_Pc [.ref (A 0), .int (nI 6), .long x] (zP D (eT C) sz (eW A C n ops nums vc vals d st ce pk pv pr w key pl dn tk 0))) (va_Qv (fun u : Nat × (Nat → Int64) × Nat => u.1 ≤ 12 ∧ u.2.2 ≤ 40) (fun (u : Nat × (Nat → Int64) × Nat) t => zB D (eT C) (va_A (eW A C n ops nums vc vals d st ce pk pv pr w key pl dn tk 0) sz) (eW A C n ops nums vc vals u.1 u.2.1 ce pk pv pr w key u.2.2 dn tk 1) t) (va_A (eW A C n ops nums vc vals d st ce pk pv pr w key pl dn tk 0) sz)) 0 0 (va_A (eW A C n ops nums vc vals d st ce pk pv pr w key pl dn tk 0) sz) := by
  refine zEnt (Qc := fun F => (va_Qv (fun u : Nat × (Nat → Int64) × Nat => u.1 ≤ 12 ∧ u.2.2 ≤ 40) (fun (u : Nat × (Nat → Int64) × Nat) t => zB D (eT C) F (eW A C n ops nums vc vals u.1 u.2.1 ce pk pv pr w key u.2.2 dn tk 1) t) F)) (by decide) (Nat.le_of_ble_eq_true rfl) (fun p e s m below meth c ls F hx hb hr hlk hml hnm hw hown hsz hP hK hD hA hl => ?_)
  have hS : va_S F s.heap s.heap [] := va_S.rf
  have hown : s.vm.findClass RE = some m.cls := hown
  have hl : lv_has ls 4 [(0, .ref (A 0)), (1, .int (nI 6)), (2, .long x)] := hl
  refine lv_iload_n hx hb dE_perform_0 rfl (lv_at hl 1 rfl) ?_
  refine lv_tableIn (off := 217) (tgt := 218) hx hb dE_perform_1 (by decide) (by decide) (by decide) rfl ?_
  refine lv_aload_n hx hb dE_perform_218 rfl (lv_at hl 0 rfl) ?_
  refine lv_iload_n hx hb dE_perform_219 rfl (lv_at hl 1 rfl) ?_
  refine zAftv0 (zRunV0 ⟨hx, hb, hml, hown, hw⟩ (c_combine6_low l D A C _ n ops nums vc vals d st ce pk pv pr w key pl dn tk 0 hd hpl h0) wm_E_149 wi_E_combine ws_E_combine wn_E wc_E_combine ⟨rfl, rfl⟩ wd_E_combine ⟨by decide, by decide⟩ hK hP hD 0 rfl rfl rfl hl.1 rfl (Nat.le_of_ble_eq_true rfl) dE_perform_220 ⟨by decide, by decide⟩) hP hD hS hA (fun u H locs hp hP hD hS => ?_)
  replace hP : va_P D vwCl (eW A C n ops nums vc vals u.1 u.2.1 ce pk pv pr w key u.2.2 dn tk 1) H := hP
  replace hD : va_D F (eW A C n ops nums vc vals u.1 u.2.1 ce pk pv pr w key u.2.2 dn tk 1) := hD
  obtain ⟨hu1, hu2⟩ := hp
  exact zVret (w' := fun (u : Nat × (Nat → Int64) × Nat) => (eW A C n ops nums vc vals u.1 u.2.1 ce pk pv pr w key u.2.2 dn tk 1)) (u.1, u.2.1, u.2.2) hx hb hr hlk hS hK ⟨by omega, by omega⟩ hP hD dE_perform_223

set_option maxRecDepth 20000 in
set_option maxHeartbeats 4000000 in
theorem c_perform7_low (l : Launch) (D : va_G) (A : Nat → Nat) (C : Nat → ClassId) (sz : Nat) (n : Nat) (ops : Nat → Int32) (nums : Nat → Int64) (vc : Nat) (vals : Nat → Int64) (d : Nat) (st : Nat → Int64) (ce : Nat → Int64) (pk : Nat → Int64) (pv : Nat → Int64) (pr : Nat) (w : Nat) (key : Int64) (pl : Nat) (dn : Nat) (tk : Nat) (tr : Nat) (x : Int64) (hd : d ≤ 12) (hpl : pl ≤ 40) (h0 : d < 2) : Met l yE_perform (.code yE_perform cE_perform 4 none :: WS) (rmk 3 71) (va_Pc [.ref (A 0), .int (nI 7), .long x] (zP D (eT C) sz (eW A C n ops nums vc vals d st ce pk pv pr w key pl dn tk 0))) (va_Qv (fun u : Nat × (Nat → Int64) × Nat => u.1 ≤ 12 ∧ u.2.2 ≤ 40) (fun (u : Nat × (Nat → Int64) × Nat) t => zB D (eT C) (va_A (eW A C n ops nums vc vals d st ce pk pv pr w key pl dn tk 0) sz) (eW A C n ops nums vc vals u.1 u.2.1 ce pk pv pr w key u.2.2 dn tk 1) t) (va_A (eW A C n ops nums vc vals d st ce pk pv pr w key pl dn tk 0) sz)) 0 0 (va_A (eW A C n ops nums vc vals d st ce pk pv pr w key pl dn tk 0) sz) := by
  refine zEnt (Qc := fun F => (va_Qv (fun u : Nat × (Nat → Int64) × Nat => u.1 ≤ 12 ∧ u.2.2 ≤ 40) (fun (u : Nat × (Nat → Int64) × Nat) t => zB D (eT C) F (eW A C n ops nums vc vals u.1 u.2.1 ce pk pv pr w key u.2.2 dn tk 1) t) F)) (by decide) (Nat.le_of_ble_eq_true rfl) (fun p e s m below meth c ls F hx hb hr hlk hml hnm hw hown hsz hP hK hD hA hl => ?_)
  have hS : va_S F s.heap s.heap [] := va_S.rf
  have hown : s.vm.findClass RE = some m.cls := hown
  have hl : lv_has ls 4 [(0, .ref (A 0)), (1, .int (nI 7)), (2, .long x)] := hl
  refine lv_iload_n hx hb dE_perform_0 rfl (lv_at hl 1 rfl) ?_
  refine lv_tableIn (off := 217) (tgt := 218) hx hb dE_perform_1 (by decide) (by decide) (by decide) rfl ?_
  refine lv_aload_n hx hb dE_perform_218 rfl (lv_at hl 0 rfl) ?_
  refine lv_iload_n hx hb dE_perform_219 rfl (lv_at hl 1 rfl) ?_
  refine zAftv0 (zRunV0 ⟨hx, hb, hml, hown, hw⟩ (c_combine7_low l D A C _ n ops nums vc vals d st ce pk pv pr w key pl dn tk 0 hd hpl h0) wm_E_149 wi_E_combine ws_E_combine wn_E wc_E_combine ⟨rfl, rfl⟩ wd_E_combine ⟨by decide, by decide⟩ hK hP hD 0 rfl rfl rfl hl.1 rfl (Nat.le_of_ble_eq_true rfl) dE_perform_220 ⟨by decide, by decide⟩) hP hD hS hA (fun u H locs hp hP hD hS => ?_)
  replace hP : va_P D vwCl (eW A C n ops nums vc vals u.1 u.2.1 ce pk pv pr w key u.2.2 dn tk 1) H := hP
  replace hD : va_D F (eW A C n ops nums vc vals u.1 u.2.1 ce pk pv pr w key u.2.2 dn tk 1) := hD
  obtain ⟨hu1, hu2⟩ := hp
  exact zVret (w' := fun (u : Nat × (Nat → Int64) × Nat) => (eW A C n ops nums vc vals u.1 u.2.1 ce pk pv pr w key u.2.2 dn tk 1)) (u.1, u.2.1, u.2.2) hx hb hr hlk hS hK ⟨by omega, by omega⟩ hP hD dE_perform_223

set_option maxRecDepth 20000 in
set_option maxHeartbeats 4000000 in
theorem c_perform8_low (l : Launch) (D : va_G) (A : Nat → Nat) (C : Nat → ClassId) (sz : Nat) (n : Nat) (ops : Nat → Int32) (nums : Nat → Int64) (vc : Nat) (vals : Nat → Int64) (d : Nat) (st : Nat → Int64) (ce : Nat → Int64) (pk : Nat → Int64) (pv : Nat → Int64) (pr : Nat) (w : Nat) (key : Int64) (pl : Nat) (dn : Nat) (tk : Nat) (tr : Nat) (x : Int64) (hd : d ≤ 12) (hpl : pl ≤ 40) (h0 : d < 2) : Met l yE_perform (.code yE_perform cE_perform 4 none :: WS) (rmk 3 71) (va_Pc [.ref (A 0), .int (nI 8), .long x] (zP D (eT C) sz (eW A C n ops nums vc vals d st ce pk pv pr w key pl dn tk 0))) (va_Qv (fun u : Nat × (Nat → Int64) × Nat => u.1 ≤ 12 ∧ u.2.2 ≤ 40) (fun (u : Nat × (Nat → Int64) × Nat) t => zB D (eT C) (va_A (eW A C n ops nums vc vals d st ce pk pv pr w key pl dn tk 0) sz) (eW A C n ops nums vc vals u.1 u.2.1 ce pk pv pr w key u.2.2 dn tk 1) t) (va_A (eW A C n ops nums vc vals d st ce pk pv pr w key pl dn tk 0) sz)) 0 0 (va_A (eW A C n ops nums vc vals d st ce pk pv pr w key pl dn tk 0) sz) := by
  refine zEnt (Qc := fun F => (va_Qv (fun u : Nat × (Nat → Int64) × Nat => u.1 ≤ 12 ∧ u.2.2 ≤ 40) (fun (u : Nat × (Nat → Int64) × Nat) t => zB D (eT C) F (eW A C n ops nums vc vals u.1 u.2.1 ce pk pv pr w key u.2.2 dn tk 1) t) F)) (by decide) (Nat.le_of_ble_eq_true rfl) (fun p e s m below meth c ls F hx hb hr hlk hml hnm hw hown hsz hP hK hD hA hl => ?_)
  have hS : va_S F s.heap s.heap [] := va_S.rf
  have hown : s.vm.findClass RE = some m.cls := hown
  have hl : lv_has ls 4 [(0, .ref (A 0)), (1, .int (nI 8)), (2, .long x)] := hl
  refine lv_iload_n hx hb dE_perform_0 rfl (lv_at hl 1 rfl) ?_
  refine lv_tableIn (off := 217) (tgt := 218) hx hb dE_perform_1 (by decide) (by decide) (by decide) rfl ?_
  refine lv_aload_n hx hb dE_perform_218 rfl (lv_at hl 0 rfl) ?_
  refine lv_iload_n hx hb dE_perform_219 rfl (lv_at hl 1 rfl) ?_
  refine zAftv0 (zRunV0 ⟨hx, hb, hml, hown, hw⟩ (c_combine8_low l D A C _ n ops nums vc vals d st ce pk pv pr w key pl dn tk 0 hd hpl h0) wm_E_149 wi_E_combine ws_E_combine wn_E wc_E_combine ⟨rfl, rfl⟩ wd_E_combine ⟨by decide, by decide⟩ hK hP hD 0 rfl rfl rfl hl.1 rfl (Nat.le_of_ble_eq_true rfl) dE_perform_220 ⟨by decide, by decide⟩) hP hD hS hA (fun u H locs hp hP hD hS => ?_)
  replace hP : va_P D vwCl (eW A C n ops nums vc vals u.1 u.2.1 ce pk pv pr w key u.2.2 dn tk 1) H := hP
  replace hD : va_D F (eW A C n ops nums vc vals u.1 u.2.1 ce pk pv pr w key u.2.2 dn tk 1) := hD
  obtain ⟨hu1, hu2⟩ := hp
  exact zVret (w' := fun (u : Nat × (Nat → Int64) × Nat) => (eW A C n ops nums vc vals u.1 u.2.1 ce pk pv pr w key u.2.2 dn tk 1)) (u.1, u.2.1, u.2.2) hx hb hr hlk hS hK ⟨by omega, by omega⟩ hP hD dE_perform_223

set_option maxRecDepth 20000 in
set_option maxHeartbeats 4000000 in
theorem c_perform9_low (l : Launch) (D : va_G) (A : Nat → Nat) (C : Nat → ClassId) (sz : Nat) (n : Nat) (ops : Nat → Int32) (nums : Nat → Int64) (vc : Nat) (vals : Nat → Int64) (d : Nat) (st : Nat → Int64) (ce : Nat → Int64) (pk : Nat → Int64) (pv : Nat → Int64) (pr : Nat) (w : Nat) (key : Int64) (pl : Nat) (dn : Nat) (tk : Nat) (tr : Nat) (x : Int64) (hd : d ≤ 12) (hpl : pl ≤ 40) (h0 : d < 2) : Met l yE_perform (.code yE_perform cE_perform 4 none :: WS) (rmk 3 71) (va_Pc [.ref (A 0), .int (nI 9), .long x] (zP D (eT C) sz (eW A C n ops nums vc vals d st ce pk pv pr w key pl dn tk 0))) (va_Qv (fun u : Nat × (Nat → Int64) × Nat => u.1 ≤ 12 ∧ u.2.2 ≤ 40) (fun (u : Nat × (Nat → Int64) × Nat) t => zB D (eT C) (va_A (eW A C n ops nums vc vals d st ce pk pv pr w key pl dn tk 0) sz) (eW A C n ops nums vc vals u.1 u.2.1 ce pk pv pr w key u.2.2 dn tk 1) t) (va_A (eW A C n ops nums vc vals d st ce pk pv pr w key pl dn tk 0) sz)) 0 0 (va_A (eW A C n ops nums vc vals d st ce pk pv pr w key pl dn tk 0) sz) := by
  refine zEnt (Qc := fun F => (va_Qv (fun u : Nat × (Nat → Int64) × Nat => u.1 ≤ 12 ∧ u.2.2 ≤ 40) (fun (u : Nat × (Nat → Int64) × Nat) t => zB D (eT C) F (eW A C n ops nums vc vals u.1 u.2.1 ce pk pv pr w key u.2.2 dn tk 1) t) F)) (by decide) (Nat.le_of_ble_eq_true rfl) (fun p e s m below meth c ls F hx hb hr hlk hml hnm hw hown hsz hP hK hD hA hl => ?_)
  have hS : va_S F s.heap s.heap [] := va_S.rf
  have hown : s.vm.findClass RE = some m.cls := hown
  have hl : lv_has ls 4 [(0, .ref (A 0)), (1, .int (nI 9)), (2, .long x)] := hl
  refine lv_iload_n hx hb dE_perform_0 rfl (lv_at hl 1 rfl) ?_
  refine lv_tableIn (off := 217) (tgt := 218) hx hb dE_perform_1 (by decide) (by decide) (by decide) rfl ?_
  refine lv_aload_n hx hb dE_perform_218 rfl (lv_at hl 0 rfl) ?_
  refine lv_iload_n hx hb dE_perform_219 rfl (lv_at hl 1 rfl) ?_
  refine zAftv0 (zRunV0 ⟨hx, hb, hml, hown, hw⟩ (c_combine9_low l D A C _ n ops nums vc vals d st ce pk pv pr w key pl dn tk 0 hd hpl h0) wm_E_149 wi_E_combine ws_E_combine wn_E wc_E_combine ⟨rfl, rfl⟩ wd_E_combine ⟨by decide, by decide⟩ hK hP hD 0 rfl rfl rfl hl.1 rfl (Nat.le_of_ble_eq_true rfl) dE_perform_220 ⟨by decide, by decide⟩) hP hD hS hA (fun u H locs hp hP hD hS => ?_)
  replace hP : va_P D vwCl (eW A C n ops nums vc vals u.1 u.2.1 ce pk pv pr w key u.2.2 dn tk 1) H := hP
  replace hD : va_D F (eW A C n ops nums vc vals u.1 u.2.1 ce pk pv pr w key u.2.2 dn tk 1) := hD
  obtain ⟨hu1, hu2⟩ := hp
  exact zVret (w' := fun (u : Nat × (Nat → Int64) × Nat) => (eW A C n ops nums vc vals u.1 u.2.1 ce pk pv pr w key u.2.2 dn tk 1)) (u.1, u.2.1, u.2.2) hx hb hr hlk hS hK ⟨by omega, by omega⟩ hP hD dE_perform_223

set_option maxRecDepth 20000 in
set_option maxHeartbeats 4000000 in
theorem c_perform10_low (l : Launch) (D : va_G) (A : Nat → Nat) (C : Nat → ClassId) (sz : Nat) (n : Nat) (ops : Nat → Int32) (nums : Nat → Int64) (vc : Nat) (vals : Nat → Int64) (d : Nat) (st : Nat → Int64) (ce : Nat → Int64) (pk : Nat → Int64) (pv : Nat → Int64) (pr : Nat) (w : Nat) (key : Int64) (pl : Nat) (dn : Nat) (tk : Nat) (tr : Nat) (x : Int64) (hd : d ≤ 12) (hpl : pl ≤ 40) (h0 : d < 2) : Met l yE_perform (.code yE_perform cE_perform 4 none :: WS) (rmk 3 71) (va_Pc [.ref (A 0), .int (nI 10), .long x] (zP D (eT C) sz (eW A C n ops nums vc vals d st ce pk pv pr w key pl dn tk 0))) (va_Qv (fun u : Nat × (Nat → Int64) × Nat => u.1 ≤ 12 ∧ u.2.2 ≤ 40) (fun (u : Nat × (Nat → Int64) × Nat) t => zB D (eT C) (va_A (eW A C n ops nums vc vals d st ce pk pv pr w key pl dn tk 0) sz) (eW A C n ops nums vc vals u.1 u.2.1 ce pk pv pr w key u.2.2 dn tk 1) t) (va_A (eW A C n ops nums vc vals d st ce pk pv pr w key pl dn tk 0) sz)) 0 0 (va_A (eW A C n ops nums vc vals d st ce pk pv pr w key pl dn tk 0) sz) := by
  refine zEnt (Qc := fun F => (va_Qv (fun u : Nat × (Nat → Int64) × Nat => u.1 ≤ 12 ∧ u.2.2 ≤ 40) (fun (u : Nat × (Nat → Int64) × Nat) t => zB D (eT C) F (eW A C n ops nums vc vals u.1 u.2.1 ce pk pv pr w key u.2.2 dn tk 1) t) F)) (by decide) (Nat.le_of_ble_eq_true rfl) (fun p e s m below meth c ls F hx hb hr hlk hml hnm hw hown hsz hP hK hD hA hl => ?_)
  have hS : va_S F s.heap s.heap [] := va_S.rf
  have hown : s.vm.findClass RE = some m.cls := hown
  have hl : lv_has ls 4 [(0, .ref (A 0)), (1, .int (nI 10)), (2, .long x)] := hl
  refine lv_iload_n hx hb dE_perform_0 rfl (lv_at hl 1 rfl) ?_
  refine lv_tableIn (off := 217) (tgt := 218) hx hb dE_perform_1 (by decide) (by decide) (by decide) rfl ?_
  refine lv_aload_n hx hb dE_perform_218 rfl (lv_at hl 0 rfl) ?_
  refine lv_iload_n hx hb dE_perform_219 rfl (lv_at hl 1 rfl) ?_
  refine zAftv0 (zRunV0 ⟨hx, hb, hml, hown, hw⟩ (c_combine10_low l D A C _ n ops nums vc vals d st ce pk pv pr w key pl dn tk 0 hd hpl h0) wm_E_149 wi_E_combine ws_E_combine wn_E wc_E_combine ⟨rfl, rfl⟩ wd_E_combine ⟨by decide, by decide⟩ hK hP hD 0 rfl rfl rfl hl.1 rfl (Nat.le_of_ble_eq_true rfl) dE_perform_220 ⟨by decide, by decide⟩) hP hD hS hA (fun u H locs hp hP hD hS => ?_)
  replace hP : va_P D vwCl (eW A C n ops nums vc vals u.1 u.2.1 ce pk pv pr w key u.2.2 dn tk 1) H := hP
  replace hD : va_D F (eW A C n ops nums vc vals u.1 u.2.1 ce pk pv pr w key u.2.2 dn tk 1) := hD
  obtain ⟨hu1, hu2⟩ := hp
  exact zVret (w' := fun (u : Nat × (Nat → Int64) × Nat) => (eW A C n ops nums vc vals u.1 u.2.1 ce pk pv pr w key u.2.2 dn tk 1)) (u.1, u.2.1, u.2.2) hx hb hr hlk hS hK ⟨by omega, by omega⟩ hP hD dE_perform_223

set_option maxRecDepth 20000 in
set_option maxHeartbeats 4000000 in
theorem c_perform11_low (l : Launch) (D : va_G) (A : Nat → Nat) (C : Nat → ClassId) (sz : Nat) (n : Nat) (ops : Nat → Int32) (nums : Nat → Int64) (vc : Nat) (vals : Nat → Int64) (d : Nat) (st : Nat → Int64) (ce : Nat → Int64) (pk : Nat → Int64) (pv : Nat → Int64) (pr : Nat) (w : Nat) (key : Int64) (pl : Nat) (dn : Nat) (tk : Nat) (tr : Nat) (x : Int64) (hd : d ≤ 12) (hpl : pl ≤ 40) (h0 : d < 2) : Met l yE_perform (.code yE_perform cE_perform 4 none :: WS) (rmk 3 71) (va_Pc [.ref (A 0), .int (nI 11), .long x] (zP D (eT C) sz (eW A C n ops nums vc vals d st ce pk pv pr w key pl dn tk 0))) (va_Qv (fun u : Nat × (Nat → Int64) × Nat => u.1 ≤ 12 ∧ u.2.2 ≤ 40) (fun (u : Nat × (Nat → Int64) × Nat) t => zB D (eT C) (va_A (eW A C n ops nums vc vals d st ce pk pv pr w key pl dn tk 0) sz) (eW A C n ops nums vc vals u.1 u.2.1 ce pk pv pr w key u.2.2 dn tk 1) t) (va_A (eW A C n ops nums vc vals d st ce pk pv pr w key pl dn tk 0) sz)) 0 0 (va_A (eW A C n ops nums vc vals d st ce pk pv pr w key pl dn tk 0) sz) := by
  refine zEnt (Qc := fun F => (va_Qv (fun u : Nat × (Nat → Int64) × Nat => u.1 ≤ 12 ∧ u.2.2 ≤ 40) (fun (u : Nat × (Nat → Int64) × Nat) t => zB D (eT C) F (eW A C n ops nums vc vals u.1 u.2.1 ce pk pv pr w key u.2.2 dn tk 1) t) F)) (by decide) (Nat.le_of_ble_eq_true rfl) (fun p e s m below meth c ls F hx hb hr hlk hml hnm hw hown hsz hP hK hD hA hl => ?_)
  have hS : va_S F s.heap s.heap [] := va_S.rf
  have hown : s.vm.findClass RE = some m.cls := hown
  have hl : lv_has ls 4 [(0, .ref (A 0)), (1, .int (nI 11)), (2, .long x)] := hl
  refine lv_iload_n hx hb dE_perform_0 rfl (lv_at hl 1 rfl) ?_
  refine lv_tableIn (off := 217) (tgt := 218) hx hb dE_perform_1 (by decide) (by decide) (by decide) rfl ?_
  refine lv_aload_n hx hb dE_perform_218 rfl (lv_at hl 0 rfl) ?_
  refine lv_iload_n hx hb dE_perform_219 rfl (lv_at hl 1 rfl) ?_
  refine zAftv0 (zRunV0 ⟨hx, hb, hml, hown, hw⟩ (c_combine11_low l D A C _ n ops nums vc vals d st ce pk pv pr w key pl dn tk 0 hd hpl h0) wm_E_149 wi_E_combine ws_E_combine wn_E wc_E_combine ⟨rfl, rfl⟩ wd_E_combine ⟨by decide, by decide⟩ hK hP hD 0 rfl rfl rfl hl.1 rfl (Nat.le_of_ble_eq_true rfl) dE_perform_220 ⟨by decide, by decide⟩) hP hD hS hA (fun u H locs hp hP hD hS => ?_)
  replace hP : va_P D vwCl (eW A C n ops nums vc vals u.1 u.2.1 ce pk pv pr w key u.2.2 dn tk 1) H := hP
  replace hD : va_D F (eW A C n ops nums vc vals u.1 u.2.1 ce pk pv pr w key u.2.2 dn tk 1) := hD
  obtain ⟨hu1, hu2⟩ := hp
  exact zVret (w' := fun (u : Nat × (Nat → Int64) × Nat) => (eW A C n ops nums vc vals u.1 u.2.1 ce pk pv pr w key u.2.2 dn tk 1)) (u.1, u.2.1, u.2.2) hx hb hr hlk hS hK ⟨by omega, by omega⟩ hP hD dE_perform_223

set_option maxRecDepth 20000 in
set_option maxHeartbeats 4000000 in
theorem c_perform9_zero (l : Launch) (D : va_G) (A : Nat → Nat) (C : Nat → ClassId) (sz : Nat) (n : Nat) (ops : Nat → Int32) (nums : Nat → Int64) (vc : Nat) (vals : Nat → Int64) (d : Nat) (st : Nat → Int64) (ce : Nat → Int64) (pk : Nat → Int64) (pv : Nat → Int64) (pr : Nat) (w : Nat) (key : Int64) (pl : Nat) (dn : Nat) (tk : Nat) (tr : Nat) (x : Int64) (hd : d ≤ 12) (hpl : pl ≤ 40) (hd1 : d < 11) (hy : st (d + 1) = 0) : Met l yE_perform (.code yE_perform cE_perform 4 none :: WS) (rmk 3 71) (va_Pc [.ref (A 0), .int (nI 9), .long x] (zP D (eT C) sz (eW A C n ops nums vc vals (d + 1 + 1) st ce pk pv pr w key pl dn tk 0))) (va_Qv (fun u : Nat × (Nat → Int64) × Nat => u.1 ≤ 12 ∧ u.2.2 ≤ 40) (fun (u : Nat × (Nat → Int64) × Nat) t => zB D (eT C) (va_A (eW A C n ops nums vc vals (d + 1 + 1) st ce pk pv pr w key pl dn tk 0) sz) (eW A C n ops nums vc vals u.1 u.2.1 ce pk pv pr w key u.2.2 dn tk 1) t) (va_A (eW A C n ops nums vc vals (d + 1 + 1) st ce pk pv pr w key pl dn tk 0) sz)) 0 0 (va_A (eW A C n ops nums vc vals (d + 1 + 1) st ce pk pv pr w key pl dn tk 0) sz) := by
  refine zEnt (Qc := fun F => (va_Qv (fun u : Nat × (Nat → Int64) × Nat => u.1 ≤ 12 ∧ u.2.2 ≤ 40) (fun (u : Nat × (Nat → Int64) × Nat) t => zB D (eT C) F (eW A C n ops nums vc vals u.1 u.2.1 ce pk pv pr w key u.2.2 dn tk 1) t) F)) (by decide) (Nat.le_of_ble_eq_true rfl) (fun p e s m below meth c ls F hx hb hr hlk hml hnm hw hown hsz hP hK hD hA hl => ?_)
  have hS : va_S F s.heap s.heap [] := va_S.rf
  have hown : s.vm.findClass RE = some m.cls := hown
  have hl : lv_has ls 4 [(0, .ref (A 0)), (1, .int (nI 9)), (2, .long x)] := hl
  refine lv_iload_n hx hb dE_perform_0 rfl (lv_at hl 1 rfl) ?_
  refine lv_tableIn (off := 217) (tgt := 218) hx hb dE_perform_1 (by decide) (by decide) (by decide) rfl ?_
  refine lv_aload_n hx hb dE_perform_218 rfl (lv_at hl 0 rfl) ?_
  refine lv_iload_n hx hb dE_perform_219 rfl (lv_at hl 1 rfl) ?_
  refine zAftv0 (zRunV0 ⟨hx, hb, hml, hown, hw⟩ (c_combine9_zero l D A C _ n ops nums vc vals d st ce pk pv pr w key pl dn tk 0 (by omega) hpl hd1 hy) wm_E_149 wi_E_combine ws_E_combine wn_E wc_E_combine ⟨rfl, rfl⟩ wd_E_combine ⟨by decide, by decide⟩ hK hP hD 0 rfl rfl rfl hl.1 rfl (Nat.le_of_ble_eq_true rfl) dE_perform_220 ⟨by decide, by decide⟩) hP hD hS hA (fun u H locs hp hP hD hS => ?_)
  replace hP : va_P D vwCl (eW A C n ops nums vc vals u.1 u.2.1 ce pk pv pr w key u.2.2 dn tk 1) H := hP
  replace hD : va_D F (eW A C n ops nums vc vals u.1 u.2.1 ce pk pv pr w key u.2.2 dn tk 1) := hD
  obtain ⟨hu1, hu2⟩ := hp
  exact zVret (w' := fun (u : Nat × (Nat → Int64) × Nat) => (eW A C n ops nums vc vals u.1 u.2.1 ce pk pv pr w key u.2.2 dn tk 1)) (u.1, u.2.1, u.2.2) hx hb hr hlk hS hK ⟨by omega, by omega⟩ hP hD dE_perform_223

set_option maxRecDepth 20000 in
set_option maxHeartbeats 4000000 in
theorem c_perform12_trap (l : Launch) (D : va_G) (A : Nat → Nat) (C : Nat → ClassId) (sz : Nat) (n : Nat) (ops : Nat → Int32) (nums : Nat → Int64) (vc : Nat) (vals : Nat → Int64) (d : Nat) (st : Nat → Int64) (ce : Nat → Int64) (pk : Nat → Int64) (pv : Nat → Int64) (pr : Nat) (w : Nat) (key : Int64) (pl : Nat) (dn : Nat) (tk : Nat) (tr : Nat) (x : Int64) (hd : d ≤ 12) (hpl : pl ≤ 40) (h0 : d = 0 ∨ d = 12) : Met l yE_perform (.code yE_perform cE_perform 4 none :: WS) (rmk 3 71) (va_Pc [.ref (A 0), .int (nI 12), .long x] (zP D (eT C) sz (eW A C n ops nums vc vals d st ce pk pv pr w key pl dn tk 0))) (va_Qv (fun u : Nat × (Nat → Int64) × Nat => u.1 ≤ 12 ∧ u.2.2 ≤ 40) (fun (u : Nat × (Nat → Int64) × Nat) t => zB D (eT C) (va_A (eW A C n ops nums vc vals d st ce pk pv pr w key pl dn tk 0) sz) (eW A C n ops nums vc vals u.1 u.2.1 ce pk pv pr w key u.2.2 dn tk 1) t) (va_A (eW A C n ops nums vc vals d st ce pk pv pr w key pl dn tk 0) sz)) 0 0 (va_A (eW A C n ops nums vc vals d st ce pk pv pr w key pl dn tk 0) sz) := by
  refine zEnt (Qc := fun F => (va_Qv (fun u : Nat × (Nat → Int64) × Nat => u.1 ≤ 12 ∧ u.2.2 ≤ 40) (fun (u : Nat × (Nat → Int64) × Nat) t => zB D (eT C) F (eW A C n ops nums vc vals u.1 u.2.1 ce pk pv pr w key u.2.2 dn tk 1) t) F)) (by decide) (Nat.le_of_ble_eq_true rfl) (fun p e s m below meth c ls F hx hb hr hlk hml hnm hw hown hsz hP hK hD hA hl => ?_)
  have hS : va_S F s.heap s.heap [] := va_S.rf
  have hown : s.vm.findClass RE = some m.cls := hown
  have hl : lv_has ls 4 [(0, .ref (A 0)), (1, .int (nI 12)), (2, .long x)] := hl
  refine lv_iload_n hx hb dE_perform_0 rfl (lv_at hl 1 rfl) ?_
  refine lv_tableIn (off := 159) (tgt := 160) hx hb dE_perform_1 (by decide) (by decide) (by decide) rfl ?_
  refine lv_aload_n hx hb dE_perform_160 rfl (lv_at hl 0 rfl) ?_
  refine zAftv0 (zRunV0 ⟨hx, hb, hml, hown, hw⟩ (c_doubleTop_trap l D A C _ n ops nums vc vals d st ce pk pv pr w key pl dn tk 0 hd hpl h0) wm_E_133 wi_E_doubleTop ws_E_doubleTop wn_E wc_E_doubleTop ⟨rfl, rfl⟩ wd_E_doubleTop ⟨by decide, by decide⟩ hK hP hD 0 rfl rfl rfl hl.1 rfl (Nat.le_of_ble_eq_true rfl) dE_perform_161 ⟨by decide, by decide⟩) hP hD hS hA (fun u H locs hp hP hD hS => ?_)
  replace hP : va_P D vwCl (eW A C n ops nums vc vals u.1 u.2.1 ce pk pv pr w key u.2.2 dn tk 1) H := hP
  replace hD : va_D F (eW A C n ops nums vc vals u.1 u.2.1 ce pk pv pr w key u.2.2 dn tk 1) := hD
  obtain ⟨hu1, hu2⟩ := hp
  refine lv_goto (tgt := 223) hx hb dE_perform_164 rfl ?_
  exact zVret (w' := fun (u : Nat × (Nat → Int64) × Nat) => (eW A C n ops nums vc vals u.1 u.2.1 ce pk pv pr w key u.2.2 dn tk 1)) (u.1, u.2.1, u.2.2) hx hb hr hlk hS hK ⟨by omega, by omega⟩ hP hD dE_perform_223

set_option maxRecDepth 20000 in
set_option maxHeartbeats 4000000 in
theorem c_perform13_low (l : Launch) (D : va_G) (A : Nat → Nat) (C : Nat → ClassId) (sz : Nat) (n : Nat) (ops : Nat → Int32) (nums : Nat → Int64) (vc : Nat) (vals : Nat → Int64) (d : Nat) (st : Nat → Int64) (ce : Nat → Int64) (pk : Nat → Int64) (pv : Nat → Int64) (pr : Nat) (w : Nat) (key : Int64) (pl : Nat) (dn : Nat) (tk : Nat) (tr : Nat) (x : Int64) (hd : d ≤ 12) (hpl : pl ≤ 40) (h0 : d = 0) : Met l yE_perform (.code yE_perform cE_perform 4 none :: WS) (rmk 3 71) (va_Pc [.ref (A 0), .int (nI 13), .long x] (zP D (eT C) sz (eW A C n ops nums vc vals d st ce pk pv pr w key pl dn tk 0))) (va_Qv (fun u : Nat × (Nat → Int64) × Nat => u.1 ≤ 12 ∧ u.2.2 ≤ 40) (fun (u : Nat × (Nat → Int64) × Nat) t => zB D (eT C) (va_A (eW A C n ops nums vc vals d st ce pk pv pr w key pl dn tk 0) sz) (eW A C n ops nums vc vals u.1 u.2.1 ce pk pv pr w key u.2.2 dn tk 1) t) (va_A (eW A C n ops nums vc vals d st ce pk pv pr w key pl dn tk 0) sz)) 0 0 (va_A (eW A C n ops nums vc vals d st ce pk pv pr w key pl dn tk 0) sz) := by
  refine zEnt (Qc := fun F => (va_Qv (fun u : Nat × (Nat → Int64) × Nat => u.1 ≤ 12 ∧ u.2.2 ≤ 40) (fun (u : Nat × (Nat → Int64) × Nat) t => zB D (eT C) F (eW A C n ops nums vc vals u.1 u.2.1 ce pk pv pr w key u.2.2 dn tk 1) t) F)) (by decide) (Nat.le_of_ble_eq_true rfl) (fun p e s m below meth c ls F hx hb hr hlk hml hnm hw hown hsz hP hK hD hA hl => ?_)
  have hS : va_S F s.heap s.heap [] := va_S.rf
  have hown : s.vm.findClass RE = some m.cls := hown
  have hl : lv_has ls 4 [(0, .ref (A 0)), (1, .int (nI 13)), (2, .long x)] := hl
  refine lv_iload_n hx hb dE_perform_0 rfl (lv_at hl 1 rfl) ?_
  refine lv_tableIn (off := 166) (tgt := 167) hx hb dE_perform_1 (by decide) (by decide) (by decide) rfl ?_
  refine lv_aload_n hx hb dE_perform_167 rfl (lv_at hl 0 rfl) ?_
  refine zAftl0 (zRunV0 ⟨hx, hb, hml, hown, hw⟩ (c_pop l D A C _ n ops nums vc vals d st ce pk pv pr w key pl dn tk 0 (by omega)) wm_E_136 wi_E_pop ws_E_pop wn_E wc_E_pop ⟨rfl, rfl⟩ wd_E_pop ⟨by decide, by decide⟩ hK hP hD 0 rfl rfl rfl hl.1 rfl (Nat.le_of_ble_eq_true rfl) dE_perform_168 ⟨by decide, by decide⟩) hP hD hS hA (fun r u H locs hp hP hD hS => ?_)
  replace hP : va_P D vwCl (eW A C n ops nums vc vals (d - 1) st ce pk pv pr w key pl dn tk (qT d 0)) H := hP
  replace hD : va_D F (eW A C n ops nums vc vals (d - 1) st ce pk pv pr w key pl dn tk (qT d 0)) := hD
  subst hp
  refine lv_pop2_2 hx hb dE_perform_171 rfl ?_
  refine lv_goto (tgt := 223) hx hb dE_perform_172 rfl ?_
  have e9 : (qT d 0) = 1 := by simp only [pT, qT, pD]; (repeat' split) <;> omega
  rw [e9] at hP hD
  exact zVret (w' := fun (u : Nat × (Nat → Int64) × Nat) => (eW A C n ops nums vc vals u.1 u.2.1 ce pk pv pr w key u.2.2 dn tk 1)) (d - 1, st, pl) hx hb hr hlk hS hK ⟨by omega, by omega⟩ hP hD dE_perform_223

set_option maxRecDepth 20000 in
set_option maxHeartbeats 4000000 in
theorem c_perform14_low (l : Launch) (D : va_G) (A : Nat → Nat) (C : Nat → ClassId) (sz : Nat) (n : Nat) (ops : Nat → Int32) (nums : Nat → Int64) (vc : Nat) (vals : Nat → Int64) (d : Nat) (st : Nat → Int64) (ce : Nat → Int64) (pk : Nat → Int64) (pv : Nat → Int64) (pr : Nat) (w : Nat) (key : Int64) (pl : Nat) (dn : Nat) (tk : Nat) (tr : Nat) (x : Int64) (hd : d ≤ 12) (hpl : pl ≤ 40) (h0 : d < 2) : Met l yE_perform (.code yE_perform cE_perform 4 none :: WS) (rmk 3 71) (va_Pc [.ref (A 0), .int (nI 14), .long x] (zP D (eT C) sz (eW A C n ops nums vc vals d st ce pk pv pr w key pl dn tk 0))) (va_Qv (fun u : Nat × (Nat → Int64) × Nat => u.1 ≤ 12 ∧ u.2.2 ≤ 40) (fun (u : Nat × (Nat → Int64) × Nat) t => zB D (eT C) (va_A (eW A C n ops nums vc vals d st ce pk pv pr w key pl dn tk 0) sz) (eW A C n ops nums vc vals u.1 u.2.1 ce pk pv pr w key u.2.2 dn tk 1) t) (va_A (eW A C n ops nums vc vals d st ce pk pv pr w key pl dn tk 0) sz)) 0 0 (va_A (eW A C n ops nums vc vals d st ce pk pv pr w key pl dn tk 0) sz) := by
  refine zEnt (Qc := fun F => (va_Qv (fun u : Nat × (Nat → Int64) × Nat => u.1 ≤ 12 ∧ u.2.2 ≤ 40) (fun (u : Nat × (Nat → Int64) × Nat) t => zB D (eT C) F (eW A C n ops nums vc vals u.1 u.2.1 ce pk pv pr w key u.2.2 dn tk 1) t) F)) (by decide) (Nat.le_of_ble_eq_true rfl) (fun p e s m below meth c ls F hx hb hr hlk hml hnm hw hown hsz hP hK hD hA hl => ?_)
  have hS : va_S F s.heap s.heap [] := va_S.rf
  have hown : s.vm.findClass RE = some m.cls := hown
  have hl : lv_has ls 4 [(0, .ref (A 0)), (1, .int (nI 14)), (2, .long x)] := hl
  refine lv_iload_n hx hb dE_perform_0 rfl (lv_at hl 1 rfl) ?_
  refine lv_tableIn (off := 174) (tgt := 175) hx hb dE_perform_1 (by decide) (by decide) (by decide) rfl ?_
  refine lv_aload_n hx hb dE_perform_175 rfl (lv_at hl 0 rfl) ?_
  refine zAftv0 (zRunV0 ⟨hx, hb, hml, hown, hw⟩ (c_changeTwo_trap l D A C _ n ops nums vc vals d st ce pk pv pr w key pl dn tk 0 hd hpl h0) wm_E_140 wi_E_changeTwo ws_E_changeTwo wn_E wc_E_changeTwo ⟨rfl, rfl⟩ wd_E_changeTwo ⟨by decide, by decide⟩ hK hP hD 0 rfl rfl rfl hl.1 rfl (Nat.le_of_ble_eq_true rfl) dE_perform_176 ⟨by decide, by decide⟩) hP hD hS hA (fun u H locs hp hP hD hS => ?_)
  replace hP : va_P D vwCl (eW A C n ops nums vc vals u.1 u.2.1 ce pk pv pr w key u.2.2 dn tk 1) H := hP
  replace hD : va_D F (eW A C n ops nums vc vals u.1 u.2.1 ce pk pv pr w key u.2.2 dn tk 1) := hD
  obtain ⟨hu1, hu2⟩ := hp
  refine lv_goto (tgt := 223) hx hb dE_perform_179 rfl ?_
  exact zVret (w' := fun (u : Nat × (Nat → Int64) × Nat) => (eW A C n ops nums vc vals u.1 u.2.1 ce pk pv pr w key u.2.2 dn tk 1)) (u.1, u.2.1, u.2.2) hx hb hr hlk hS hK ⟨by omega, by omega⟩ hP hD dE_perform_223

set_option maxRecDepth 20000 in
set_option maxHeartbeats 4000000 in
theorem c_perform16_low (l : Launch) (D : va_G) (A : Nat → Nat) (C : Nat → ClassId) (sz : Nat) (n : Nat) (ops : Nat → Int32) (nums : Nat → Int64) (vc : Nat) (vals : Nat → Int64) (d : Nat) (st : Nat → Int64) (ce : Nat → Int64) (pk : Nat → Int64) (pv : Nat → Int64) (pr : Nat) (w : Nat) (key : Int64) (pl : Nat) (dn : Nat) (tk : Nat) (tr : Nat) (j : Nat) (hd : d ≤ 12) (hpl : pl ≤ 40) (hj : j ≤ 40) (h0 : d = 0) : Met l yE_perform (.code yE_perform cE_perform 4 none :: WS) (rmk 3 71) (va_Pc [.ref (A 0), .int (nI 16), .long (lN j)] (zP D (eT C) sz (eW A C n ops nums vc vals d st ce pk pv pr w key pl dn tk 0))) (va_Qv (fun u : Nat × (Nat → Int64) × Nat => u.1 ≤ 12 ∧ u.2.2 ≤ 40) (fun (u : Nat × (Nat → Int64) × Nat) t => zB D (eT C) (va_A (eW A C n ops nums vc vals d st ce pk pv pr w key pl dn tk 0) sz) (eW A C n ops nums vc vals u.1 u.2.1 ce pk pv pr w key u.2.2 dn tk 1) t) (va_A (eW A C n ops nums vc vals d st ce pk pv pr w key pl dn tk 0) sz)) 0 0 (va_A (eW A C n ops nums vc vals d st ce pk pv pr w key pl dn tk 0) sz) := by
  refine zEnt (Qc := fun F => (va_Qv (fun u : Nat × (Nat → Int64) × Nat => u.1 ≤ 12 ∧ u.2.2 ≤ 40) (fun (u : Nat × (Nat → Int64) × Nat) t => zB D (eT C) F (eW A C n ops nums vc vals u.1 u.2.1 ce pk pv pr w key u.2.2 dn tk 1) t) F)) (by decide) (Nat.le_of_ble_eq_true rfl) (fun p e s m below meth c ls F hx hb hr hlk hml hnm hw hown hsz hP hK hD hA hl => ?_)
  have hS : va_S F s.heap s.heap [] := va_S.rf
  have hown : s.vm.findClass RE = some m.cls := hown
  have hl : lv_has ls 4 [(0, .ref (A 0)), (1, .int (nI 16)), (2, .long (lN j))] := hl
  refine lv_iload_n hx hb dE_perform_0 rfl (lv_at hl 1 rfl) ?_
  refine lv_tableIn (off := 190) (tgt := 191) hx hb dE_perform_1 (by decide) (by decide) (by decide) rfl ?_
  refine lv_aload_n hx hb dE_perform_191 rfl (lv_at hl 0 rfl) ?_
  refine lv_lload_n hx hb dE_perform_192 rfl (lv_at hl 2 rfl) ?_
  refine lv_l2i hx hb dE_perform_193 (lN_i _) ?_
  refine zAftv0 (zRunV0 ⟨hx, hb, hml, hown, hw⟩ (c_goIfZero_trap l D A C _ n ops nums vc vals d st ce pk pv pr w key pl dn tk 0 j hd hpl hj h0) wm_E_143 wi_E_goIfZero ws_E_goIfZero wn_E wc_E_goIfZero ⟨rfl, rfl⟩ wd_E_goIfZero ⟨by decide, by decide⟩ hK hP hD 0 rfl rfl rfl hl.1 rfl (Nat.le_of_ble_eq_true rfl) dE_perform_194 ⟨by decide, by decide⟩) hP hD hS hA (fun u H locs hp hP hD hS => ?_)
  replace hP : va_P D vwCl (eW A C n ops nums vc vals u.1 u.2.1 ce pk pv pr w key u.2.2 dn tk 1) H := hP
  replace hD : va_D F (eW A C n ops nums vc vals u.1 u.2.1 ce pk pv pr w key u.2.2 dn tk 1) := hD
  obtain ⟨hu1, hu2⟩ := hp
  refine lv_goto (tgt := 223) hx hb dE_perform_197 rfl ?_
  exact zVret (w' := fun (u : Nat × (Nat → Int64) × Nat) => (eW A C n ops nums vc vals u.1 u.2.1 ce pk pv pr w key u.2.2 dn tk 1)) (u.1, u.2.1, u.2.2) hx hb hr hlk hS hK ⟨by omega, by omega⟩ hP hD dE_perform_223

set_option maxRecDepth 20000 in
set_option maxHeartbeats 4000000 in
theorem c_perform17a_low (l : Launch) (D : va_G) (A : Nat → Nat) (C : Nat → ClassId) (sz : Nat) (n : Nat) (ops : Nat → Int32) (nums : Nat → Int64) (vc : Nat) (vals : Nat → Int64) (d : Nat) (st : Nat → Int64) (ce : Nat → Int64) (pk : Nat → Int64) (pv : Nat → Int64) (pr : Nat) (w : Nat) (key : Int64) (pl : Nat) (dn : Nat) (tk : Nat) (tr : Nat) (x : Int64) (hd : d ≤ 12) (hpl : pl ≤ 40) (h0 : d = 0) : Met l yE_perform (.code yE_perform cE_perform 4 none :: WS) (rmk 3 71) (va_Pc [.ref (A 0), .int (nI 17), .long x] (zP D (eT C) sz (eW A C n ops nums vc vals d st ce pk pv pr 1 key pl dn tk 0))) (va_Qv (fun u : Nat × (Nat → Int64) × Nat => u.1 ≤ 12 ∧ u.2.2 ≤ 40) (fun (u : Nat × (Nat → Int64) × Nat) t => zB D (eT C) (va_A (eW A C n ops nums vc vals d st ce pk pv pr 1 key pl dn tk 0) sz) (eW A C n ops nums vc vals u.1 u.2.1 ce pk pv pr 1 key u.2.2 dn tk 1) t) (va_A (eW A C n ops nums vc vals d st ce pk pv pr 1 key pl dn tk 0) sz)) 0 0 (va_A (eW A C n ops nums vc vals d st ce pk pv pr 1 key pl dn tk 0) sz) := by
  refine zEnt (Qc := fun F => (va_Qv (fun u : Nat × (Nat → Int64) × Nat => u.1 ≤ 12 ∧ u.2.2 ≤ 40) (fun (u : Nat × (Nat → Int64) × Nat) t => zB D (eT C) F (eW A C n ops nums vc vals u.1 u.2.1 ce pk pv pr 1 key u.2.2 dn tk 1) t) F)) (by decide) (Nat.le_of_ble_eq_true rfl) (fun p e s m below meth c ls F hx hb hr hlk hml hnm hw hown hsz hP hK hD hA hl => ?_)
  have hS : va_S F s.heap s.heap [] := va_S.rf
  have hown : s.vm.findClass RE = some m.cls := hown
  have hl : lv_has ls 4 [(0, .ref (A 0)), (1, .int (nI 17)), (2, .long x)] := hl
  refine lv_iload_n hx hb dE_perform_0 rfl (lv_at hl 1 rfl) ?_
  refine lv_tableIn (off := 199) (tgt := 200) hx hb dE_perform_1 (by decide) (by decide) (by decide) rfl ?_
  refine lv_aload_n hx hb dE_perform_200 rfl (lv_at hl 0 rfl) ?_
  refine zAftv0 (zRunV0 ⟨hx, hb, hml, hown, hw⟩ (c_emitPair1_low l D A C _ n ops nums vc vals d st ce pk pv pr 1 key pl dn tk 0 hd hpl h0) wm_E_146 wi_E_emitPair ws_E_emitPair wn_E wc_E_emitPair ⟨rfl, rfl⟩ wd_E_emitPair ⟨by decide, by decide⟩ hK hP hD 0 rfl rfl rfl hl.1 rfl (Nat.le_of_ble_eq_true rfl) dE_perform_201 ⟨by decide, by decide⟩) hP hD hS hA (fun u H locs hp hP hD hS => ?_)
  replace hP : va_P D vwCl (eW A C n ops nums vc vals u.1 u.2.1 ce pk pv pr 1 key u.2.2 dn tk 1) H := hP
  replace hD : va_D F (eW A C n ops nums vc vals u.1 u.2.1 ce pk pv pr 1 key u.2.2 dn tk 1) := hD
  obtain ⟨hu1, hu2⟩ := hp
  refine lv_goto (tgt := 223) hx hb dE_perform_204 rfl ?_
  exact zVret (w' := fun (u : Nat × (Nat → Int64) × Nat) => (eW A C n ops nums vc vals u.1 u.2.1 ce pk pv pr 1 key u.2.2 dn tk 1)) (u.1, u.2.1, u.2.2) hx hb hr hlk hS hK ⟨by omega, by omega⟩ hP hD dE_perform_223

set_option maxRecDepth 20000 in
set_option maxHeartbeats 4000000 in
theorem c_perform17b_low (l : Launch) (D : va_G) (A : Nat → Nat) (C : Nat → ClassId) (sz : Nat) (n : Nat) (ops : Nat → Int32) (nums : Nat → Int64) (vc : Nat) (vals : Nat → Int64) (d : Nat) (st : Nat → Int64) (ce : Nat → Int64) (pk : Nat → Int64) (pv : Nat → Int64) (pr : Nat) (w : Nat) (key : Int64) (pl : Nat) (dn : Nat) (tk : Nat) (tr : Nat) (x : Int64) (hd : d ≤ 12) (hpl : pl ≤ 40) (h0 : d < 2) (hw1 : w ≠ 1) (hw2 : w ≤ 2) : Met l yE_perform (.code yE_perform cE_perform 4 none :: WS) (rmk 3 71) (va_Pc [.ref (A 0), .int (nI 17), .long x] (zP D (eT C) sz (eW A C n ops nums vc vals d st ce pk pv pr w key pl dn tk 0))) (va_Qv (fun u : Nat × (Nat → Int64) × Nat => u.1 ≤ 12 ∧ u.2.2 ≤ 40) (fun (u : Nat × (Nat → Int64) × Nat) t => zB D (eT C) (va_A (eW A C n ops nums vc vals d st ce pk pv pr w key pl dn tk 0) sz) (eW A C n ops nums vc vals u.1 u.2.1 ce pk pv pr w key u.2.2 dn tk 1) t) (va_A (eW A C n ops nums vc vals d st ce pk pv pr w key pl dn tk 0) sz)) 0 0 (va_A (eW A C n ops nums vc vals d st ce pk pv pr w key pl dn tk 0) sz) := by
  refine zEnt (Qc := fun F => (va_Qv (fun u : Nat × (Nat → Int64) × Nat => u.1 ≤ 12 ∧ u.2.2 ≤ 40) (fun (u : Nat × (Nat → Int64) × Nat) t => zB D (eT C) F (eW A C n ops nums vc vals u.1 u.2.1 ce pk pv pr w key u.2.2 dn tk 1) t) F)) (by decide) (Nat.le_of_ble_eq_true rfl) (fun p e s m below meth c ls F hx hb hr hlk hml hnm hw hown hsz hP hK hD hA hl => ?_)
  have hS : va_S F s.heap s.heap [] := va_S.rf
  have hown : s.vm.findClass RE = some m.cls := hown
  have hl : lv_has ls 4 [(0, .ref (A 0)), (1, .int (nI 17)), (2, .long x)] := hl
  refine lv_iload_n hx hb dE_perform_0 rfl (lv_at hl 1 rfl) ?_
  refine lv_tableIn (off := 199) (tgt := 200) hx hb dE_perform_1 (by decide) (by decide) (by decide) rfl ?_
  refine lv_aload_n hx hb dE_perform_200 rfl (lv_at hl 0 rfl) ?_
  refine zAftv0 (zRunV0 ⟨hx, hb, hml, hown, hw⟩ (c_emitPair2_low l D A C _ n ops nums vc vals d st ce pk pv pr w key pl dn tk 0 hd hpl h0 hw1 hw2) wm_E_146 wi_E_emitPair ws_E_emitPair wn_E wc_E_emitPair ⟨rfl, rfl⟩ wd_E_emitPair ⟨by decide, by decide⟩ hK hP hD 0 rfl rfl rfl hl.1 rfl (Nat.le_of_ble_eq_true rfl) dE_perform_201 ⟨by decide, by decide⟩) hP hD hS hA (fun u H locs hp hP hD hS => ?_)
  replace hP : va_P D vwCl (eW A C n ops nums vc vals u.1 u.2.1 ce pk pv pr w key u.2.2 dn tk 1) H := hP
  replace hD : va_D F (eW A C n ops nums vc vals u.1 u.2.1 ce pk pv pr w key u.2.2 dn tk 1) := hD
  obtain ⟨hu1, hu2⟩ := hp
  refine lv_goto (tgt := 223) hx hb dE_perform_204 rfl ?_
  exact zVret (w' := fun (u : Nat × (Nat → Int64) × Nat) => (eW A C n ops nums vc vals u.1 u.2.1 ce pk pv pr w key u.2.2 dn tk 1)) (u.1, u.2.1, u.2.2) hx hb hr hlk hS hK ⟨by omega, by omega⟩ hP hD dE_perform_223

set_option maxRecDepth 20000 in
set_option maxHeartbeats 4000000 in
theorem c_perform17a_full (l : Launch) (D : va_G) (A : Nat → Nat) (C : Nat → ClassId) (sz : Nat) (n : Nat) (ops : Nat → Int32) (nums : Nat → Int64) (vc : Nat) (vals : Nat → Int64) (d : Nat) (st : Nat → Int64) (ce : Nat → Int64) (pk : Nat → Int64) (pv : Nat → Int64) (pr : Nat) (w : Nat) (key : Int64) (pl : Nat) (dn : Nat) (tk : Nat) (tr : Nat) (x : Int64) (hd : d ≤ 12) (hpl : pl ≤ 40) (hd1 : d < 12) (hp : pr = 4) : Met l yE_perform (.code yE_perform cE_perform 4 none :: WS) (rmk 3 71) (va_Pc [.ref (A 0), .int (nI 17), .long x] (zP D (eT C) sz (eW A C n ops nums vc vals (d + 1) st ce pk pv pr 1 key pl dn tk 0))) (va_Qv (fun u : Nat × (Nat → Int64) × Nat => u.1 ≤ 12 ∧ u.2.2 ≤ 40) (fun (u : Nat × (Nat → Int64) × Nat) t => zB D (eT C) (va_A (eW A C n ops nums vc vals (d + 1) st ce pk pv pr 1 key pl dn tk 0) sz) (eW A C n ops nums vc vals u.1 u.2.1 ce pk pv pr 1 key u.2.2 dn tk 1) t) (va_A (eW A C n ops nums vc vals (d + 1) st ce pk pv pr 1 key pl dn tk 0) sz)) 0 0 (va_A (eW A C n ops nums vc vals (d + 1) st ce pk pv pr 1 key pl dn tk 0) sz) := by
  refine zEnt (Qc := fun F => (va_Qv (fun u : Nat × (Nat → Int64) × Nat => u.1 ≤ 12 ∧ u.2.2 ≤ 40) (fun (u : Nat × (Nat → Int64) × Nat) t => zB D (eT C) F (eW A C n ops nums vc vals u.1 u.2.1 ce pk pv pr 1 key u.2.2 dn tk 1) t) F)) (by decide) (Nat.le_of_ble_eq_true rfl) (fun p e s m below meth c ls F hx hb hr hlk hml hnm hw hown hsz hP hK hD hA hl => ?_)
  have hS : va_S F s.heap s.heap [] := va_S.rf
  have hown : s.vm.findClass RE = some m.cls := hown
  have hl : lv_has ls 4 [(0, .ref (A 0)), (1, .int (nI 17)), (2, .long x)] := hl
  refine lv_iload_n hx hb dE_perform_0 rfl (lv_at hl 1 rfl) ?_
  refine lv_tableIn (off := 199) (tgt := 200) hx hb dE_perform_1 (by decide) (by decide) (by decide) rfl ?_
  refine lv_aload_n hx hb dE_perform_200 rfl (lv_at hl 0 rfl) ?_
  refine zAftv0 (zRunV0 ⟨hx, hb, hml, hown, hw⟩ (c_emitPair1_full l D A C _ n ops nums vc vals d st ce pk pv pr 1 key pl dn tk 0 (by omega) hpl hd1 hp) wm_E_146 wi_E_emitPair ws_E_emitPair wn_E wc_E_emitPair ⟨rfl, rfl⟩ wd_E_emitPair ⟨by decide, by decide⟩ hK hP hD 0 rfl rfl rfl hl.1 rfl (Nat.le_of_ble_eq_true rfl) dE_perform_201 ⟨by decide, by decide⟩) hP hD hS hA (fun u H locs hp hP hD hS => ?_)
  replace hP : va_P D vwCl (eW A C n ops nums vc vals u.1 u.2.1 ce pk pv pr 1 key u.2.2 dn tk 1) H := hP
  replace hD : va_D F (eW A C n ops nums vc vals u.1 u.2.1 ce pk pv pr 1 key u.2.2 dn tk 1) := hD
  obtain ⟨hu1, hu2⟩ := hp
  refine lv_goto (tgt := 223) hx hb dE_perform_204 rfl ?_
  exact zVret (w' := fun (u : Nat × (Nat → Int64) × Nat) => (eW A C n ops nums vc vals u.1 u.2.1 ce pk pv pr 1 key u.2.2 dn tk 1)) (u.1, u.2.1, u.2.2) hx hb hr hlk hS hK ⟨by omega, by omega⟩ hP hD dE_perform_223

set_option maxRecDepth 20000 in
set_option maxHeartbeats 4000000 in
theorem c_perform17b_full (l : Launch) (D : va_G) (A : Nat → Nat) (C : Nat → ClassId) (sz : Nat) (n : Nat) (ops : Nat → Int32) (nums : Nat → Int64) (vc : Nat) (vals : Nat → Int64) (d : Nat) (st : Nat → Int64) (ce : Nat → Int64) (pk : Nat → Int64) (pv : Nat → Int64) (pr : Nat) (w : Nat) (key : Int64) (pl : Nat) (dn : Nat) (tk : Nat) (tr : Nat) (x : Int64) (hd : d ≤ 12) (hpl : pl ≤ 40) (hd1 : d < 11) (hp : pr = 4) (hw1 : w ≠ 1) (hw2 : w ≤ 2) : Met l yE_perform (.code yE_perform cE_perform 4 none :: WS) (rmk 3 71) (va_Pc [.ref (A 0), .int (nI 17), .long x] (zP D (eT C) sz (eW A C n ops nums vc vals (d + 1 + 1) st ce pk pv pr w key pl dn tk 0))) (va_Qv (fun u : Nat × (Nat → Int64) × Nat => u.1 ≤ 12 ∧ u.2.2 ≤ 40) (fun (u : Nat × (Nat → Int64) × Nat) t => zB D (eT C) (va_A (eW A C n ops nums vc vals (d + 1 + 1) st ce pk pv pr w key pl dn tk 0) sz) (eW A C n ops nums vc vals u.1 u.2.1 ce pk pv pr w key u.2.2 dn tk 1) t) (va_A (eW A C n ops nums vc vals (d + 1 + 1) st ce pk pv pr w key pl dn tk 0) sz)) 0 0 (va_A (eW A C n ops nums vc vals (d + 1 + 1) st ce pk pv pr w key pl dn tk 0) sz) := by
  refine zEnt (Qc := fun F => (va_Qv (fun u : Nat × (Nat → Int64) × Nat => u.1 ≤ 12 ∧ u.2.2 ≤ 40) (fun (u : Nat × (Nat → Int64) × Nat) t => zB D (eT C) F (eW A C n ops nums vc vals u.1 u.2.1 ce pk pv pr w key u.2.2 dn tk 1) t) F)) (by decide) (Nat.le_of_ble_eq_true rfl) (fun p e s m below meth c ls F hx hb hr hlk hml hnm hw hown hsz hP hK hD hA hl => ?_)
  have hS : va_S F s.heap s.heap [] := va_S.rf
  have hown : s.vm.findClass RE = some m.cls := hown
  have hl : lv_has ls 4 [(0, .ref (A 0)), (1, .int (nI 17)), (2, .long x)] := hl
  refine lv_iload_n hx hb dE_perform_0 rfl (lv_at hl 1 rfl) ?_
  refine lv_tableIn (off := 199) (tgt := 200) hx hb dE_perform_1 (by decide) (by decide) (by decide) rfl ?_
  refine lv_aload_n hx hb dE_perform_200 rfl (lv_at hl 0 rfl) ?_
  refine zAftv0 (zRunV0 ⟨hx, hb, hml, hown, hw⟩ (c_emitPair2_full l D A C _ n ops nums vc vals d st ce pk pv pr w key pl dn tk 0 (by omega) hpl hd1 hp hw1 hw2) wm_E_146 wi_E_emitPair ws_E_emitPair wn_E wc_E_emitPair ⟨rfl, rfl⟩ wd_E_emitPair ⟨by decide, by decide⟩ hK hP hD 0 rfl rfl rfl hl.1 rfl (Nat.le_of_ble_eq_true rfl) dE_perform_201 ⟨by decide, by decide⟩) hP hD hS hA (fun u H locs hp hP hD hS => ?_)
  replace hP : va_P D vwCl (eW A C n ops nums vc vals u.1 u.2.1 ce pk pv pr w key u.2.2 dn tk 1) H := hP
  replace hD : va_D F (eW A C n ops nums vc vals u.1 u.2.1 ce pk pv pr w key u.2.2 dn tk 1) := hD
  obtain ⟨hu1, hu2⟩ := hp
  refine lv_goto (tgt := 223) hx hb dE_perform_204 rfl ?_
  exact zVret (w' := fun (u : Nat × (Nat → Int64) × Nat) => (eW A C n ops nums vc vals u.1 u.2.1 ce pk pv pr w key u.2.2 dn tk 1)) (u.1, u.2.1, u.2.2) hx hb hr hlk hS hK ⟨by omega, by omega⟩ hP hD dE_perform_223
end
section
/-! the machine as mathematics: one INSTRUCTION (none: a trap), a run of so many at most -/
abbrev RS : Type := Nat × Nat × (Nat → Int64) × (Nat → Int64) × (Nat → Int64) × (Nat → Int64) × Nat × Nat
def ixL (a : Int64) : Nat := a.toInt.toNat
def oN (x : Int32) : Nat := x.toInt.toNat
/-- place (behind the INSTRUCTION), depth, stack, cells, keys, values, pairs, taken -/
def stp (n vc : Nat) (vals : Nat → Int64) (w : Nat) (key : Int64) (o : Nat) (x : Int64) (pl d : Nat) (st ce pk pv : Nat → Int64) (pr tk : Nat) : Option RS := match o with
  | 0 => if d < 12 then some (pl, d + 1, vp_updL st d x, ce, pk, pv, pr, tk) else none
  | 1 => if d < 12 then some (pl, d + 1, vp_updL st d key, ce, pk, pv, pr, tk) else none
  | 2 => if tk < vc ∧ d < 12 then some (pl, d + 1, vp_updL st d (vals tk), ce, pk, pv, pr, if w = 0 then tk else tk + 1) else none
  | 3 => if d < 12 then some (pl, d + 1, vp_updL st d (if w ≠ 0 ∧ tk < vc then 1 else 0), ce, pk, pv, pr, tk) else none
  | 4 => if d < 12 then some (pl, d + 1, vp_updL st d (ce (ixL x)), ce, pk, pv, pr, tk) else none
  | 5 => if 1 ≤ d then some (pl, d - 1, st, vp_updL ce (ixL x) (st (d - 1)), pk, pv, pr, tk) else none
  | 6 => if 2 ≤ d then some (pl, d - 1, vp_updL st (d - 2) (st (d - 2) + st (d - 1)), ce, pk, pv, pr, tk) else none
  | 7 => if 2 ≤ d then some (pl, d - 1, vp_updL st (d - 2) (st (d - 2) - st (d - 1)), ce, pk, pv, pr, tk) else none
  | 8 => if 2 ≤ d then some (pl, d - 1, vp_updL st (d - 2) (st (d - 2) * st (d - 1)), ce, pk, pv, pr, tk) else none
  | 9 => if 2 ≤ d ∧ ¬ st (d - 1) = 0 then some (pl, d - 1, vp_updL st (d - 2) (st (d - 2) / st (d - 1)), ce, pk, pv, pr, tk) else none
  | 10 => if 2 ≤ d then some (pl, d - 1, vp_updL st (d - 2) (if st (d - 1) ≤ st (d - 2) then 0 else 1), ce, pk, pv, pr, tk) else none
  | 11 => if 2 ≤ d then some (pl, d - 1, vp_updL st (d - 2) (if st (d - 2) = st (d - 1) then 1 else 0), ce, pk, pv, pr, tk) else none
  | 12 => if 1 ≤ d ∧ d < 12 then some (pl, d + 1, vp_updL (vp_updL st (d - 1) (st (d - 1))) d (st (d - 1)), ce, pk, pv, pr, tk) else none
  | 13 => if 1 ≤ d then some (pl, d - 1, st, ce, pk, pv, pr, tk) else none
  | 14 => if 2 ≤ d then some (pl, d, vp_updL (vp_updL st (d - 2) (st (d - 1))) (d - 1) (st (d - 2)), ce, pk, pv, pr, tk) else none
  | 15 => some (ixL x, d, st, ce, pk, pv, pr, tk)
  | 16 => if 1 ≤ d then some (if st (d - 1) = 0 then ixL x else pl, d - 1, st, ce, pk, pv, pr, tk) else none
  | 17 => if w = 1 then (if 1 ≤ d ∧ pr < 4 then some (pl, d - 1, st, ce, vp_updL pk pr key, vp_updL pv pr (st (d - 1)), pr + 1, tk) else none) else (if 2 ≤ d ∧ pr < 4 then some (pl, d - 2, st, ce, vp_updL pk pr (st (d - 2)), vp_updL pv pr (st (d - 1)), pr + 1, tk) else none)
  | 18 => some (n, d, st, ce, pk, pv, pr, tk)
  | _ => none
/-- what code lets in -/
def okI (o : Nat) (x : Int64) : Prop := o ≤ 18 ∧ (o = 4 ∨ o = 5 → 0 ≤ x.toInt ∧ x.toInt ≤ 3) ∧ (o = 15 ∨ o = 16 → 0 ≤ x.toInt ∧ x.toInt ≤ 40)
theorem lN_ix {x : Int64} (h : 0 ≤ x.toInt) : lN (ixL x) = x := by
  have h3 : x.toInt < 2 ^ 63 := Int64.toInt_lt x
  apply Int64.toInt_inj.mp
  rw [pk_lT (by unfold ixL; omega)]
  unfold ixL
  omega

set_option maxHeartbeats 4000000 in
theorem perf_ok (l : Launch) (D : va_G) (A : Nat → Nat) (C : Nat → ClassId) (sz : Nat) (n : Nat) (ops : Nat → Int32) (nums : Nat → Int64) (vc : Nat) (vals : Nat → Int64) (d : Nat) (st ce pk pv : Nat → Int64) (pr w : Nat) (key : Int64) (pl dn tk : Nat) (o : Nat) (x : Int64) (ho : okI o x) (hd : d ≤ 12) (hvc : vc ≤ 40) (htk : tk ≤ vc) (hw2 : w ≤ 2) (hpr : pr ≤ 4) (hpl : pl ≤ 40) {pl' d' : Nat} {st' ce' pk' pv' : Nat → Int64} {pr' tk' : Nat} (h : stp n vc vals w key o x pl d st ce pk pv pr tk = some (pl', d', st', ce', pk', pv', pr', tk')) :
    Met l yE_perform (.code yE_perform cE_perform 4 none :: WS) (rmk 3 71) (va_Pc [.ref (A 0), .int (nI o), .long x] (zP D (eT C) sz (eW A C n ops nums vc vals d st ce pk pv pr w key pl dn tk 0))) (va_Qv (fun _ : Unit => True) (fun (_ : Unit) t => zB D (eT C) (va_A (eW A C n ops nums vc vals d st ce pk pv pr w key pl dn tk 0) sz) (eW A C n ops nums vc vals d' st' ce' pk' pv' pr' w key pl' dn tk' 0) t) (va_A (eW A C n ops nums vc vals d st ce pk pv pr w key pl dn tk 0) sz)) 0 0 (va_A (eW A C n ops nums vc vals d st ce pk pv pr w key pl dn tk 0) sz) := by
  obtain ⟨ho1, ho2, ho3⟩ := ho
  rcases (show o = 0 ∨ o = 1 ∨ o = 2 ∨ o = 3 ∨ o = 4 ∨ o = 5 ∨ o = 6 ∨ o = 7 ∨ o = 8 ∨ o = 9 ∨ o = 10 ∨ o = 11 ∨ o = 12 ∨ o = 13 ∨ o = 14 ∨ o = 15 ∨ o = 16 ∨ o = 17 ∨ o = 18 by omega) with rfl | rfl | rfl | rfl | rfl | rfl | rfl | rfl | rfl | rfl | rfl | rfl | rfl | rfl | rfl | rfl | rfl | rfl | rfl
  · simp only [stp] at h
    split at h
    · rename_i g
      cases h
      exact c_perform0_ok l D A C sz n ops nums vc vals d st ce pk pv pr w key pl dn tk 0 x g
    · cases h
  · simp only [stp] at h
    split at h
    · rename_i g
      cases h
      exact c_perform1_ok l D A C sz n ops nums vc vals d st ce pk pv pr w key pl dn tk 0 x g
    · cases h
  · simp only [stp] at h
    split at h
    · rename_i g
      by_cases hw0 : w = 0
      · subst hw0
        rw [if_pos rfl] at h
        cases h
        exact c_perform2w0_ok l D A C sz n ops nums vc vals d st ce pk pv pr 0 key pl dn tk 0 x g.2 hvc g.1
      · rw [if_neg hw0] at h
        cases h
        exact c_perform2w1_ok l D A C sz n ops nums vc vals d st ce pk pv pr w key pl dn tk 0 x g.2 hvc g.1 (by omega) hw2
    · cases h
  · simp only [stp] at h
    split at h
    · rename_i g
      cases h
      exact c_perform3_ok l D A C sz n ops nums vc vals d st ce pk pv pr w key pl dn tk 0 x g hw2 hvc (by omega)
    · cases h
  · simp only [stp] at h
    obtain ⟨q1, q2⟩ := ho2 (by omega)
    split at h
    · rename_i g
      cases h
      have e := c_perform4_ok l D A C sz n ops nums vc vals d st ce pk pv pr w key pl dn tk 0 (ixL x) g (by unfold ixL; omega)
      rw [lN_ix q1] at e
      exact e
    · cases h
  · simp only [stp] at h
    obtain ⟨q1, q2⟩ := ho2 (by omega)
    split at h
    · rename_i g
      obtain ⟨k, rfl⟩ : ∃ k, d = k + 1 := ⟨d - 1, by omega⟩
      cases h
      have e := c_perform5_ok l D A C sz n ops nums vc vals k st ce pk pv pr w key pl dn tk 0 (ixL x) (by omega) (by unfold ixL; omega)
      rw [lN_ix q1] at e
      exact e
    · cases h
  · simp only [stp] at h
    split at h
    · rename_i g
      obtain ⟨k, rfl⟩ : ∃ k, d = k + 1 + 1 := ⟨d - 2, by omega⟩
      cases h
      exact c_perform6_ok l D A C sz n ops nums vc vals k st ce pk pv pr w key pl dn tk 0 x (by omega)
    · cases h
  · simp only [stp] at h
    split at h
    · rename_i g
      obtain ⟨k, rfl⟩ : ∃ k, d = k + 1 + 1 := ⟨d - 2, by omega⟩
      cases h
      exact c_perform7_ok l D A C sz n ops nums vc vals k st ce pk pv pr w key pl dn tk 0 x (by omega)
    · cases h
  · simp only [stp] at h
    split at h
    · rename_i g
      obtain ⟨k, rfl⟩ : ∃ k, d = k + 1 + 1 := ⟨d - 2, by omega⟩
      cases h
      exact c_perform8_ok l D A C sz n ops nums vc vals k st ce pk pv pr w key pl dn tk 0 x (by omega)
    · cases h
  · simp only [stp] at h
    split at h
    · rename_i g
      obtain ⟨k, rfl⟩ : ∃ k, d = k + 1 + 1 := ⟨d - 2, by omega⟩
      cases h
      exact c_perform9_ok l D A C sz n ops nums vc vals k st ce pk pv pr w key pl dn tk 0 x (by omega) g.2
    · cases h
  · simp only [stp] at h
    split at h
    · rename_i g
      obtain ⟨k, rfl⟩ : ∃ k, d = k + 1 + 1 := ⟨d - 2, by omega⟩
      cases h
      exact c_perform10_ok l D A C sz n ops nums vc vals k st ce pk pv pr w key pl dn tk 0 x (by omega)
    · cases h
  · simp only [stp] at h
    split at h
    · rename_i g
      obtain ⟨k, rfl⟩ : ∃ k, d = k + 1 + 1 := ⟨d - 2, by omega⟩
      cases h
      exact c_perform11_ok l D A C sz n ops nums vc vals k st ce pk pv pr w key pl dn tk 0 x (by omega)
    · cases h
  · simp only [stp] at h
    split at h
    · rename_i g
      obtain ⟨k, rfl⟩ : ∃ k, d = k + 1 := ⟨d - 1, by omega⟩
      cases h
      exact c_perform12_ok l D A C sz n ops nums vc vals k st ce pk pv pr w key pl dn tk 0 x (by omega)
    · cases h
  · simp only [stp] at h
    split at h
    · rename_i g
      obtain ⟨k, rfl⟩ : ∃ k, d = k + 1 := ⟨d - 1, by omega⟩
      cases h
      exact c_perform13_ok l D A C sz n ops nums vc vals k st ce pk pv pr w key pl dn tk 0 x (by omega)
    · cases h
  · simp only [stp] at h
    split at h
    · rename_i g
      obtain ⟨k, rfl⟩ : ∃ k, d = k + 1 + 1 := ⟨d - 2, by omega⟩
      cases h
      exact c_perform14_ok l D A C sz n ops nums vc vals k st ce pk pv pr w key pl dn tk 0 x (by omega)
    · cases h
  · simp only [stp] at h
    obtain ⟨q1, q2⟩ := ho3 (by omega)
    cases h
    have e := c_perform15_ok l D A C sz n ops nums vc vals d st ce pk pv pr w key pl dn tk 0 (ixL x)
    rw [lN_ix q1] at e
    exact e
  · simp only [stp] at h
    obtain ⟨q1, q2⟩ := ho3 (by omega)
    split at h
    · rename_i g
      obtain ⟨k, rfl⟩ : ∃ k, d = k + 1 := ⟨d - 1, by omega⟩
      by_cases hz : st (k + 1 - 1) = 0
      · rw [if_pos hz] at h
        cases h
        have e := c_perform16Y_ok l D A C sz n ops nums vc vals k st ce pk pv pr w key pl dn tk 0 (ixL x) (by omega) hz
        rw [lN_ix q1] at e
        exact e
      · rw [if_neg hz] at h
        cases h
        have e := c_perform16N_ok l D A C sz n ops nums vc vals k st ce pk pv pr w key pl dn tk 0 (ixL x) (by omega) hz
        rw [lN_ix q1] at e
        exact e
    · cases h
  · simp only [stp] at h
    by_cases hw1 : w = 1
    · subst hw1
      rw [if_pos rfl] at h
      split at h
      · rename_i g
        obtain ⟨k, rfl⟩ : ∃ k, d = k + 1 := ⟨d - 1, by omega⟩
        cases h
        exact c_perform17a_ok l D A C sz n ops nums vc vals k st ce pk pv pr 1 key pl dn tk 0 x (by omega) g.2
      · cases h
    · rw [if_neg hw1] at h
      split at h
      · rename_i g
        obtain ⟨k, rfl⟩ : ∃ k, d = k + 1 + 1 := ⟨d - 2, by omega⟩
        cases h
        exact c_perform17b_ok l D A C sz n ops nums vc vals k st ce pk pv pr w key pl dn tk 0 x (by omega) g.2 hw1 hw2
      · cases h
  · simp only [stp] at h
    cases h
    exact c_perform18_ok l D A C sz n ops nums vc vals d st ce pk pv pr w key pl dn tk 0 x
set_option maxHeartbeats 4000000 in
theorem perf_trap (l : Launch) (D : va_G) (A : Nat → Nat) (C : Nat → ClassId) (sz : Nat) (n : Nat) (ops : Nat → Int32) (nums : Nat → Int64) (vc : Nat) (vals : Nat → Int64) (d : Nat) (st ce pk pv : Nat → Int64) (pr w : Nat) (key : Int64) (pl dn tk : Nat) (o : Nat) (x : Int64) (ho : okI o x) (hd : d ≤ 12) (hvc : vc ≤ 40) (htk : tk ≤ vc) (hw2 : w ≤ 2) (hpr : pr ≤ 4) (hpl : pl ≤ 40) (h : stp n vc vals w key o x pl d st ce pk pv pr tk = none) :
    Met l yE_perform (.code yE_perform cE_perform 4 none :: WS) (rmk 3 71) (va_Pc [.ref (A 0), .int (nI o), .long x] (zP D (eT C) sz (eW A C n ops nums vc vals d st ce pk pv pr w key pl dn tk 0))) (va_Qv (fun u : Nat × (Nat → Int64) × Nat => u.1 ≤ 12 ∧ u.2.2 ≤ 40) (fun (u : Nat × (Nat → Int64) × Nat) t => zB D (eT C) (va_A (eW A C n ops nums vc vals d st ce pk pv pr w key pl dn tk 0) sz) (eW A C n ops nums vc vals u.1 u.2.1 ce pk pv pr w key u.2.2 dn tk 1) t) (va_A (eW A C n ops nums vc vals d st ce pk pv pr w key pl dn tk 0) sz)) 0 0 (va_A (eW A C n ops nums vc vals d st ce pk pv pr w key pl dn tk 0) sz) := by
  obtain ⟨ho1, ho2, ho3⟩ := ho
  rcases (show o = 0 ∨ o = 1 ∨ o = 2 ∨ o = 3 ∨ o = 4 ∨ o = 5 ∨ o = 6 ∨ o = 7 ∨ o = 8 ∨ o = 9 ∨ o = 10 ∨ o = 11 ∨ o = 12 ∨ o = 13 ∨ o = 14 ∨ o = 15 ∨ o = 16 ∨ o = 17 ∨ o = 18 by omega) with rfl | rfl | rfl | rfl | rfl | rfl | rfl | rfl | rfl | rfl | rfl | rfl | rfl | rfl | rfl | rfl | rfl | rfl | rfl
  · simp only [stp] at h
    split at h
    · cases h
    · exact c_perform0_full l D A C sz n ops nums vc vals d st ce pk pv pr w key pl dn tk 0 x hd hpl (by omega)
  · simp only [stp] at h
    split at h
    · cases h
    · exact c_perform1_full l D A C sz n ops nums vc vals d st ce pk pv pr w key pl dn tk 0 x hd hpl (by omega)
  · simp only [stp] at h
    split at h
    · cases h
    · rename_i g
      by_cases ht : tk < vc
      · exact c_perform2_full l D A C sz n ops nums vc vals d st ce pk pv pr w key pl dn tk 0 x hd hpl hvc ht (by omega)
      · exact c_perform2_none l D A C sz n ops nums vc vals d st ce pk pv pr w key pl dn tk 0 x hd hpl hvc (by omega) (by omega)
  · simp only [stp] at h
    split at h
    · cases h
    · exact c_perform3_full l D A C sz n ops nums vc vals d st ce pk pv pr w key pl dn tk 0 x hd hpl (by omega) hw2 hvc (by omega)
  · simp only [stp] at h
    obtain ⟨q1, q2⟩ := ho2 (by omega)
    split at h
    · cases h
    · have e := c_perform4_full l D A C sz n ops nums vc vals d st ce pk pv pr w key pl dn tk 0 (ixL x) hd hpl (by omega) (by unfold ixL; omega)
      rw [lN_ix q1] at e
      exact e
  · simp only [stp] at h
    obtain ⟨q1, q2⟩ := ho2 (by omega)
    split at h
    · cases h
    · have e := c_perform5_low l D A C sz n ops nums vc vals d st ce pk pv pr w key pl dn tk 0 (ixL x) hd hpl (by unfold ixL; omega) (by omega)
      rw [lN_ix q1] at e
      exact e
  · simp only [stp] at h
    split at h
    · cases h
    · exact c_perform6_low l D A C sz n ops nums vc vals d st ce pk pv pr w key pl dn tk 0 x hd hpl (by omega)
  · simp only [stp] at h
    split at h
    · cases h
    · exact c_perform7_low l D A C sz n ops nums vc vals d st ce pk pv pr w key pl dn tk 0 x hd hpl (by omega)
  · simp only [stp] at h
    split at h
    · cases h
    · exact c_perform8_low l D A C sz n ops nums vc vals d st ce pk pv pr w key pl dn tk 0 x hd hpl (by omega)
  · simp only [stp] at h
    split at h
    · cases h
    · rename_i g
      by_cases h2 : 2 ≤ d
      · obtain ⟨k, rfl⟩ : ∃ k, d = k + 1 + 1 := ⟨d - 2, by omega⟩
        exact c_perform9_zero l D A C sz n ops nums vc vals k st ce pk pv pr w key pl dn tk 0 x (by omega) hpl (by omega) (Classical.byContradiction (fun q => g ⟨h2, q⟩))
      · exact c_perform9_low l D A C sz n ops nums vc vals d st ce pk pv pr w key pl dn tk 0 x hd hpl (by omega)
  · simp only [stp] at h
    split at h
    · cases h
    · exact c_perform10_low l D A C sz n ops nums vc vals d st ce pk pv pr w key pl dn tk 0 x hd hpl (by omega)
  · simp only [stp] at h
    split at h
    · cases h
    · exact c_perform11_low l D A C sz n ops nums vc vals d st ce pk pv pr w key pl dn tk 0 x hd hpl (by omega)
  · simp only [stp] at h
    split at h
    · cases h
    · exact c_perform12_trap l D A C sz n ops nums vc vals d st ce pk pv pr w key pl dn tk 0 x hd hpl (by omega)
  · simp only [stp] at h
    split at h
    · cases h
    · exact c_perform13_low l D A C sz n ops nums vc vals d st ce pk pv pr w key pl dn tk 0 x hd hpl (by omega)
  · simp only [stp] at h
    split at h
    · cases h
    · exact c_perform14_low l D A C sz n ops nums vc vals d st ce pk pv pr w key pl dn tk 0 x hd hpl (by omega)
  · simp only [stp] at h
    cases h
  · simp only [stp] at h
    obtain ⟨q1, q2⟩ := ho3 (by omega)
    split at h
    · cases h
    · have e := c_perform16_low l D A C sz n ops nums vc vals d st ce pk pv pr w key pl dn tk 0 (ixL x) hd hpl (by unfold ixL; omega) (by omega)
      rw [lN_ix q1] at e
      exact e
  · simp only [stp] at h
    by_cases hw1 : w = 1
    · subst hw1
      rw [if_pos rfl] at h
      split at h
      · cases h
      · by_cases h1 : 1 ≤ d
        · obtain ⟨k, rfl⟩ : ∃ k, d = k + 1 := ⟨d - 1, by omega⟩
          exact c_perform17a_full l D A C sz n ops nums vc vals k st ce pk pv pr 1 key pl dn tk 0 x (by omega) hpl (by omega) (by omega)
        · exact c_perform17a_low l D A C sz n ops nums vc vals d st ce pk pv pr 1 key pl dn tk 0 x hd hpl (by omega)
    · rw [if_neg hw1] at h
      split at h
      · cases h
      · by_cases h2 : 2 ≤ d
        · obtain ⟨k, rfl⟩ : ∃ k, d = k + 1 + 1 := ⟨d - 2, by omega⟩
          exact c_perform17b_full l D A C sz n ops nums vc vals k st ce pk pv pr w key pl dn tk 0 x (by omega) hpl (by omega) (by omega) hw1 hw2
        · exact c_perform17b_low l D A C sz n ops nums vc vals d st ce pk pv pr w key pl dn tk 0 x hd hpl (by omega) hw1 hw2
  · simp only [stp] at h
    cases h
end
section
/-! the run as mathematics, and runProgram held against it -/
def runR (n vc : Nat) (vals : Nat → Int64) (w : Nat) (key : Int64) (ops : Nat → Int32) (nums : Nat → Int64) : Nat → RS → Nat × Nat × RS
  | 0, r => if r.1 < n then (0, 1, r) else (0, 0, r)
  | f + 1, r => if r.1 < n then
      (match stp n vc vals w key (oN (ops r.1)) (nums r.1) (r.1 + 1) r.2.1 r.2.2.1 r.2.2.2.1 r.2.2.2.2.1 r.2.2.2.2.2.1 r.2.2.2.2.2.2.1 r.2.2.2.2.2.2.2 with
        | none => (1, 1, r)
        | some r' => ((runR n vc vals w key ops nums f r').1 + 1, (runR n vc vals w key ops nums f r').2))
      else (0, 0, r)
section ZRR
variable {n vc : Nat} {vals : Nat → Int64} {w : Nat} {key : Int64} {ops : Nat → Int32} {nums : Nat → Int64} {pl d : Nat} {st ce pk pv : Nat → Int64} {pr tk f : Nat}
theorem runR_end (h : n ≤ pl) : runR n vc vals w key ops nums f (pl, d, st, ce, pk, pv, pr, tk) = (0, 0, (pl, d, st, ce, pk, pv, pr, tk)) := by
  cases f with
  | zero => exact if_neg (by show ¬ pl < n; omega)
  | succ f => exact if_neg (by show ¬ pl < n; omega)
theorem runR_long (h : pl < n) : runR n vc vals w key ops nums 0 (pl, d, st, ce, pk, pv, pr, tk) = (0, 1, (pl, d, st, ce, pk, pv, pr, tk)) := if_pos h
theorem runR_trap (h : pl < n) (hs : stp n vc vals w key (oN (ops pl)) (nums pl) (pl + 1) d st ce pk pv pr tk = none) : runR n vc vals w key ops nums (f + 1) (pl, d, st, ce, pk, pv, pr, tk) = (1, 1, (pl, d, st, ce, pk, pv, pr, tk)) := by
  rw [runR, if_pos h]
  simp only [hs]
theorem runR_go {r : RS} (h : pl < n) (hs : stp n vc vals w key (oN (ops pl)) (nums pl) (pl + 1) d st ce pk pv pr tk = some r) : runR n vc vals w key ops nums (f + 1) (pl, d, st, ce, pk, pv, pr, tk) = ((runR n vc vals w key ops nums f r).1 + 1, (runR n vc vals w key ops nums f r).2) := by
  rw [runR, if_pos h]
  simp only [hs]
end ZRR
def dF (t d : Nat) : Nat := match t with
  | 0 => d
  | _ => 0
/-- the PROGRAM's INSTRUCTIONS are such as code lets in -/
def PI (n : Nat) (ops : Nat → Int32) (nums : Nat → Int64) : Prop := n ≤ 40 ∧ ∀ i, i < n → okI (oN (ops i)) (nums i) ∧ ops i = nI (oN (ops i))
abbrev RI (vc w pl d pr tk : Nat) : Prop := pl ≤ 40 ∧ d ≤ 12 ∧ pr ≤ 4 ∧ tk ≤ vc ∧ (w = 0 → tk = 0)
set_option maxHeartbeats 4000000 in
theorem stp_inv {n vc : Nat} {vals : Nat → Int64} {w : Nat} {key : Int64} {o : Nat} {x : Int64} {pl d : Nat} {st ce pk pv : Nat → Int64} {pr tk : Nat} {pl' d' : Nat} {st' ce' pk' pv' : Nat → Int64} {pr' tk' : Nat} (hn : n ≤ 40) (ho : okI o x) (hi : RI vc w pl d pr tk) (h : stp n vc vals w key o x pl d st ce pk pv pr tk = some (pl', d', st', ce', pk', pv', pr', tk')) : RI vc w pl' d' pr' tk' := by
  obtain ⟨ho1, ho2, ho3⟩ := ho
  obtain ⟨i1, i2, i3, i4, i5⟩ := hi
  have q9 : o = 15 ∨ o = 16 → ixL x ≤ 40 := fun g => by
    have q := ho3 g
    unfold ixL
    omega
  rcases (show o = 0 ∨ o = 1 ∨ o = 2 ∨ o = 3 ∨ o = 4 ∨ o = 5 ∨ o = 6 ∨ o = 7 ∨ o = 8 ∨ o = 9 ∨ o = 10 ∨ o = 11 ∨ o = 12 ∨ o = 13 ∨ o = 14 ∨ o = 15 ∨ o = 16 ∨ o = 17 ∨ o = 18 by omega) with rfl | rfl | rfl | rfl | rfl | rfl | rfl | rfl | rfl | rfl | rfl | rfl | rfl | rfl | rfl | rfl | rfl | rfl | rfl <;> simp only [stp] at h
  all_goals (repeat' split at h)
  all_goals first | (cases h; done) | (cases h; refine ⟨?_, ?_, ?_, ?_, ?_⟩ <;> (repeat' split) <;> omega)
abbrev RP : Type := (Nat → Int64) × Nat
abbrev fW (A : Nat → Nat) (C : Nat → ClassId) (n : Nat) (ops : Nat → Int32) (nums : Nat → Int64) (vc : Nat) (vals : Nat → Int64) (w : Nat) (key : Int64) (dn : Nat) (q : Nat × Nat × RS) (u : RP) : va_W :=
  eW A C n ops nums vc vals (dF q.2.1 q.2.2.2.1) u.1 q.2.2.2.2.2.1 q.2.2.2.2.2.2.1 q.2.2.2.2.2.2.2.1 q.2.2.2.2.2.2.2.2.1 w key u.2 (dn + q.1) q.2.2.2.2.2.2.2.2.2 q.2.1
theorem fW_go {A : Nat → Nat} {C : Nat → ClassId} {n : Nat} {ops : Nat → Int32} {nums : Nat → Int64} {vc : Nat} {vals : Nat → Int64} {w : Nat} {key : Int64} {dn : Nat} {q : Nat × Nat × RS} {u : RP} : fW A C n ops nums vc vals w key (dn + 1) q u = fW A C n ops nums vc vals w key dn (q.1 + 1, q.2) u := by
  show eW _ _ _ _ _ _ _ _ _ _ _ _ _ _ _ _ (dn + 1 + q.1) _ _ = _
  rw [show dn + 1 + q.1 = dn + (q.1 + 1) by omega]

set_option maxHeartbeats 4000000 in
theorem runX1 {p : Program} {l : Launch} {e : Env} {s : State} {m : MethodId} {args : Array Value} {below : List Frame} {meth : Method} {c : Code} {F : Nat → Prop} {D : va_G} {A : Nat → Nat} {C : Nat → ClassId} (hx : p.tables.exec = Jvm.exec) (hb : c.code = cE_runProgram) (hr : meth.sig.returnType = none) (hlk : meth.locks = false) (hml : c.maxLocals = 5) (hw : ∀ w ∈ WS, w.before args s = true) (hown : s.vm.findClass RE = some m.cls) (hK : va_K D vwCl (eT C) s) (hA : ∀ q, s.heap.size ≤ q → F q) {ls : Array Slot} {H : Heap} {locs : List Loc} {n : Nat} {ops : Nat → Int32} {nums : Nat → Int64} {vc : Nat} {vals : Nat → Int64} {d : Nat} {st ce pk pv : Nat → Int64} {pr w : Nat} {key : Int64} {pl dn tk : Nat} {pl0 d0 : Nat} {st0 : Nat → Int64} (hn : n ≤ 40) (hpl : pl ≤ 40) (hP : va_P D vwCl (eW A C n ops nums vc vals d st ce pk pv pr w key pl dn tk 1) H) (hD : va_D F (eW A C n ops nums vc vals d st ce pk pv pr w key pl dn tk 1)) (hS : va_S F s.heap H locs) (hl : lv_has ls 5 [(0, .ref (A 0))]) : W p l e (rmk 4 94) s m args below meth c H locs 0 0 (MQ below (va_Qv (fun _ : RP => True) (fun (u : RP) t => zB D (eT C) F (fW A C n ops nums vc vals w key dn (0, 1, (pl0, d0, st0, ce, pk, pv, pr, tk)) u) t) F) args s 0 0 F) (F0 m 79 ls []) := by
  refine lv_aload_n hx hb dE_runProgram_79 rfl (lv_at hl 0 rfl) ?_
  refine zGetE hx hb hw hown hK hP 0 rfl 13 (by decide) wf_E_113 rfl dE_runProgram_80 ?_
  refine lv_aload_n hx hb dE_runProgram_83 rfl (lv_at hl 0 rfl) ?_
  refine zGetE hx hb hw hown hK hP 0 rfl 2 (by decide) wf_E_43 rfl dE_runProgram_84 ?_
  refine zc_ge (tgt := 95) hx hb dE_runProgram_87 rfl (by omega) (by omega) (fun h87 => ?_) (fun h87 => ?_)
  · refine lv_aload_n hx hb dE_runProgram_95 rfl (lv_at hl 0 rfl) ?_
    refine zGetE hx hb hw hown hK hP 0 rfl 16 (by decide) wf_E_72 rfl dE_runProgram_96 ?_
    refine zi_eq (tgt := 107) hx hb dE_runProgram_99 rfl (by omega) (fun q => absurd q (by omega)) (fun _ => ?_)
    refine lv_aload_n hx hb dE_runProgram_102 rfl (lv_at hl 0 rfl) ?_
    refine lv_iconst (v := nI 0) hx hb dE_runProgram_103 (by decide) ?_
    refine zPutE hx hb hw hown hK hP hD hS 0 rfl 6 (by decide) wf_E_92 rfl rfl rfl (Nat.le_of_ble_eq_true rfl) dE_runProgram_104 (fun H locs hP hD hS => ?_)
    replace hP : va_P D vwCl (eW A C n ops nums vc vals 0 st ce pk pv pr w key pl dn tk 1) H := hP
    replace hD : va_D F (eW A C n ops nums vc vals 0 st ce pk pv pr w key pl dn tk 1) := hD
    exact zVret (w' := fun (u : RP) => fW A C n ops nums vc vals w key dn (0, 1, (pl0, d0, st0, ce, pk, pv, pr, tk)) u) (st, pl) hx hb hr hlk hS hK trivial hP hD dE_runProgram_107
  · refine lv_aload_n hx hb dE_runProgram_90 rfl (lv_at hl 0 rfl) ?_
    refine lv_iconst (v := nI 1) hx hb dE_runProgram_91 (by decide) ?_
    refine zPutE hx hb hw hown hK hP hD hS 0 rfl 16 (by decide) wf_E_72 rfl rfl rfl (Nat.le_of_ble_eq_true rfl) dE_runProgram_92 (fun H locs hP hD hS => ?_)
    replace hP : va_P D vwCl (eW A C n ops nums vc vals d st ce pk pv pr w key pl dn tk 1) H := hP
    replace hD : va_D F (eW A C n ops nums vc vals d st ce pk pv pr w key pl dn tk 1) := hD
    refine lv_aload_n hx hb dE_runProgram_95 rfl (lv_at hl 0 rfl) ?_
    refine zGetE hx hb hw hown hK hP 0 rfl 16 (by decide) wf_E_72 rfl dE_runProgram_96 ?_
    refine zi_eq (tgt := 107) hx hb dE_runProgram_99 rfl (by omega) (fun q => absurd q (by omega)) (fun _ => ?_)
    refine lv_aload_n hx hb dE_runProgram_102 rfl (lv_at hl 0 rfl) ?_
    refine lv_iconst (v := nI 0) hx hb dE_runProgram_103 (by decide) ?_
    refine zPutE hx hb hw hown hK hP hD hS 0 rfl 6 (by decide) wf_E_92 rfl rfl rfl (Nat.le_of_ble_eq_true rfl) dE_runProgram_104 (fun H locs hP hD hS => ?_)
    replace hP : va_P D vwCl (eW A C n ops nums vc vals 0 st ce pk pv pr w key pl dn tk 1) H := hP
    replace hD : va_D F (eW A C n ops nums vc vals 0 st ce pk pv pr w key pl dn tk 1) := hD
    exact zVret (w' := fun (u : RP) => fW A C n ops nums vc vals w key dn (0, 1, (pl0, d0, st0, ce, pk, pv, pr, tk)) u) (st, pl) hx hb hr hlk hS hK trivial hP hD dE_runProgram_107
set_option maxHeartbeats 4000000 in
theorem runX2 {p : Program} {l : Launch} {e : Env} {s : State} {m : MethodId} {args : Array Value} {below : List Frame} {meth : Method} {c : Code} {F : Nat → Prop} {D : va_G} {A : Nat → Nat} {C : Nat → ClassId} (hx : p.tables.exec = Jvm.exec) (hb : c.code = cE_runProgram) (hr : meth.sig.returnType = none) (hlk : meth.locks = false) (hml : c.maxLocals = 5) (hw : ∀ w ∈ WS, w.before args s = true) (hown : s.vm.findClass RE = some m.cls) (hK : va_K D vwCl (eT C) s) (hA : ∀ q, s.heap.size ≤ q → F q) {ls : Array Slot} {H : Heap} {locs : List Loc} {n : Nat} {ops : Nat → Int32} {nums : Nat → Int64} {vc : Nat} {vals : Nat → Int64} {d : Nat} {st ce pk pv : Nat → Int64} {pr w : Nat} {key : Int64} {pl dn tk : Nat} (hn : n ≤ 40) (h : pl < n) (hP : va_P D vwCl (eW A C n ops nums vc vals d st ce pk pv pr w key pl dn tk 0) H) (hD : va_D F (eW A C n ops nums vc vals d st ce pk pv pr w key pl dn tk 0)) (hS : va_S F s.heap H locs) (hl : lv_has ls 5 [(0, .ref (A 0))]) : W p l e (rmk 4 94) s m args below meth c H locs 0 0 (MQ below (va_Qv (fun _ : RP => True) (fun (u : RP) t => zB D (eT C) F (fW A C n ops nums vc vals w key dn (0, 1, (pl, d, st, ce, pk, pv, pr, tk)) u) t) F) args s 0 0 F) (F0 m 79 ls []) := by
  refine lv_aload_n hx hb dE_runProgram_79 rfl (lv_at hl 0 rfl) ?_
  refine zGetE hx hb hw hown hK hP 0 rfl 13 (by decide) wf_E_113 rfl dE_runProgram_80 ?_
  refine lv_aload_n hx hb dE_runProgram_83 rfl (lv_at hl 0 rfl) ?_
  refine zGetE hx hb hw hown hK hP 0 rfl 2 (by decide) wf_E_43 rfl dE_runProgram_84 ?_
  refine zc_ge (tgt := 95) hx hb dE_runProgram_87 rfl (by omega) (by omega) (fun q => absurd q (by omega)) (fun _ => ?_)
  refine lv_aload_n hx hb dE_runProgram_90 rfl (lv_at hl 0 rfl) ?_
  refine lv_iconst (v := nI 1) hx hb dE_runProgram_91 (by decide) ?_
  refine zPutE hx hb hw hown hK hP hD hS 0 rfl 16 (by decide) wf_E_72 rfl rfl rfl (Nat.le_of_ble_eq_true rfl) dE_runProgram_92 (fun H locs hP hD hS => ?_)
  replace hP : va_P D vwCl (eW A C n ops nums vc vals d st ce pk pv pr w key pl dn tk 1) H := hP
  replace hD : va_D F (eW A C n ops nums vc vals d st ce pk pv pr w key pl dn tk 1) := hD
  refine lv_aload_n hx hb dE_runProgram_95 rfl (lv_at hl 0 rfl) ?_
  refine zGetE hx hb hw hown hK hP 0 rfl 16 (by decide) wf_E_72 rfl dE_runProgram_96 ?_
  refine zi_eq (tgt := 107) hx hb dE_runProgram_99 rfl (by omega) (fun q => absurd q (by omega)) (fun _ => ?_)
  refine lv_aload_n hx hb dE_runProgram_102 rfl (lv_at hl 0 rfl) ?_
  refine lv_iconst (v := nI 0) hx hb dE_runProgram_103 (by decide) ?_
  refine zPutE hx hb hw hown hK hP hD hS 0 rfl 6 (by decide) wf_E_92 rfl rfl rfl (Nat.le_of_ble_eq_true rfl) dE_runProgram_104 (fun H locs hP hD hS => ?_)
  replace hP : va_P D vwCl (eW A C n ops nums vc vals 0 st ce pk pv pr w key pl dn tk 1) H := hP
  replace hD : va_D F (eW A C n ops nums vc vals 0 st ce pk pv pr w key pl dn tk 1) := hD
  exact zVret (w' := fun (u : RP) => fW A C n ops nums vc vals w key dn (0, 1, (pl, d, st, ce, pk, pv, pr, tk)) u) (st, pl) hx hb hr hlk hS hK trivial hP hD dE_runProgram_107
set_option maxHeartbeats 4000000 in
theorem runX3 {p : Program} {l : Launch} {e : Env} {s : State} {m : MethodId} {args : Array Value} {below : List Frame} {meth : Method} {c : Code} {F : Nat → Prop} {D : va_G} {A : Nat → Nat} {C : Nat → ClassId} (hx : p.tables.exec = Jvm.exec) (hb : c.code = cE_runProgram) (hr : meth.sig.returnType = none) (hlk : meth.locks = false) (hml : c.maxLocals = 5) (hw : ∀ w ∈ WS, w.before args s = true) (hown : s.vm.findClass RE = some m.cls) (hK : va_K D vwCl (eT C) s) (hA : ∀ q, s.heap.size ≤ q → F q) {ls : Array Slot} {H : Heap} {locs : List Loc} {n : Nat} {ops : Nat → Int32} {nums : Nat → Int64} {vc : Nat} {vals : Nat → Int64} {d : Nat} {st ce pk pv : Nat → Int64} {pr w : Nat} {key : Int64} {pl dn tk : Nat} (hn : n ≤ 40) (hpl : pl ≤ 40) (h : n ≤ pl) (hP : va_P D vwCl (eW A C n ops nums vc vals d st ce pk pv pr w key pl dn tk 0) H) (hD : va_D F (eW A C n ops nums vc vals d st ce pk pv pr w key pl dn tk 0)) (hS : va_S F s.heap H locs) (hl : lv_has ls 5 [(0, .ref (A 0))]) : W p l e (rmk 4 94) s m args below meth c H locs 0 0 (MQ below (va_Qv (fun _ : RP => True) (fun (u : RP) t => zB D (eT C) F (fW A C n ops nums vc vals w key dn (0, 0, (pl, d, st, ce, pk, pv, pr, tk)) u) t) F) args s 0 0 F) (F0 m 79 ls []) := by
  refine lv_aload_n hx hb dE_runProgram_79 rfl (lv_at hl 0 rfl) ?_
  refine zGetE hx hb hw hown hK hP 0 rfl 13 (by decide) wf_E_113 rfl dE_runProgram_80 ?_
  refine lv_aload_n hx hb dE_runProgram_83 rfl (lv_at hl 0 rfl) ?_
  refine zGetE hx hb hw hown hK hP 0 rfl 2 (by decide) wf_E_43 rfl dE_runProgram_84 ?_
  refine zc_ge (tgt := 95) hx hb dE_runProgram_87 rfl (by omega) (by omega) (fun _ => ?_) (fun q => absurd q (by omega))
  refine lv_aload_n hx hb dE_runProgram_95 rfl (lv_at hl 0 rfl) ?_
  refine zGetE hx hb hw hown hK hP 0 rfl 16 (by decide) wf_E_72 rfl dE_runProgram_96 ?_
  refine zi_eq (tgt := 107) hx hb dE_runProgram_99 rfl (by omega) (fun _ => ?_) (fun q => absurd q (by omega))
  exact zVret (w' := fun (u : RP) => fW A C n ops nums vc vals w key dn (0, 0, (pl, d, st, ce, pk, pv, pr, tk)) u) (st, pl) hx hb hr hlk hS hK trivial hP hD dE_runProgram_107
set_option maxHeartbeats 4000000 in
theorem runT {p : Program} {l : Launch} {e : Env} {s : State} {m : MethodId} {args : Array Value} {below : List Frame} {meth : Method} {c : Code} {F : Nat → Prop} {D : va_G} {A : Nat → Nat} {C : Nat → ClassId} (hx : p.tables.exec = Jvm.exec) (hb : c.code = cE_runProgram) (hr : meth.sig.returnType = none) (hlk : meth.locks = false) (hml : c.maxLocals = 5) (hw : ∀ w ∈ WS, w.before args s = true) (hown : s.vm.findClass RE = some m.cls) (hK : va_K D vwCl (eT C) s) (hA : ∀ q, s.heap.size ≤ q → F q) {ls : Array Slot} {H : Heap} {locs : List Loc} {n : Nat} {ops : Nat → Int32} {nums : Nat → Int64} {vc : Nat} {vals : Nat → Int64} {d : Nat} {st ce pk pv : Nat → Int64} {pr w : Nat} {key : Int64} {pl dn tk : Nat} {pl0 d0 : Nat} {st0 : Nat → Int64} {i : Nat} (hn : n ≤ 40) (hpl : pl ≤ 40) (hi : i ≤ 400) (hP : va_P D vwCl (eW A C n ops nums vc vals d st ce pk pv pr w key pl dn tk 1) H) (hD : va_D F (eW A C n ops nums vc vals d st ce pk pv pr w key pl dn tk 1)) (hS : va_S F s.heap H locs) (hl : lv_has ls 5 [(1, .int (nI i)), (0, .ref (A 0))]) : W p l e (rmk 4 94) s m args below meth c H locs 0 0 (MQ below (va_Qv (fun _ : RP => True) (fun (u : RP) t => zB D (eT C) F (fW A C n ops nums vc vals w key dn (0, 1, (pl0, d0, st0, ce, pk, pv, pr, tk)) u) t) F) args s 0 0 F) (F0 m 2 ls []) := by
  refine lv_iload_n hx hb dE_runProgram_2 rfl (lv_at hl 0 rfl) ?_
  refine lv_sipush (v := nI 400) hx hb dE_runProgram_3 (by decide) ?_
  refine zc_ge (tgt := 79) hx hb dE_runProgram_6 rfl (by omega) (by omega) (fun h6 => ?_) (fun h6 => ?_)
  · exact runX1 hx hb hr hlk hml hw hown hK hA hn hpl hP hD hS (lv_sub hl [1] rfl)
  · refine lv_aload_n hx hb dE_runProgram_9 rfl (lv_at hl 1 rfl) ?_
    refine zGetE hx hb hw hown hK hP 0 rfl 13 (by decide) wf_E_113 rfl dE_runProgram_10 ?_
    refine lv_aload_n hx hb dE_runProgram_13 rfl (lv_at hl 1 rfl) ?_
    refine zGetE hx hb hw hown hK hP 0 rfl 2 (by decide) wf_E_43 rfl dE_runProgram_14 ?_
    refine zc_ge (tgt := 79) hx hb dE_runProgram_17 rfl (by omega) (by omega) (fun h17 => ?_) (fun h17 => ?_)
    · exact runX1 hx hb hr hlk hml hw hown hK hA hn hpl hP hD hS (lv_sub hl [1] rfl)
    · refine lv_aload_n hx hb dE_runProgram_20 rfl (lv_at hl 1 rfl) ?_
      refine zGetE hx hb hw hown hK hP 0 rfl 16 (by decide) wf_E_72 rfl dE_runProgram_21 ?_
      refine zi_ne (tgt := 79) hx hb dE_runProgram_24 rfl (by omega) (fun _ => ?_) (fun q => absurd q (by omega))
      exact runX1 hx hb hr hlk hml hw hown hK hA hn hpl hP hD hS (lv_sub hl [1] rfl)
set_option maxHeartbeats 4000000 in
theorem runL {p : Program} {l : Launch} {e : Env} {s : State} {m : MethodId} {args : Array Value} {below : List Frame} {meth : Method} {c : Code} {F : Nat → Prop} {D : va_G} {A : Nat → Nat} {C : Nat → ClassId} (hx : p.tables.exec = Jvm.exec) (hb : c.code = cE_runProgram) (hr : meth.sig.returnType = none) (hlk : meth.locks = false) (hml : c.maxLocals = 5) (hw : ∀ w ∈ WS, w.before args s = true) (hown : s.vm.findClass RE = some m.cls) (hK : va_K D vwCl (eT C) s) (hA : ∀ q, s.heap.size ≤ q → F q) {n : Nat} {ops : Nat → Int32} {nums : Nat → Int64} {vc : Nat} {vals : Nat → Int64} {w : Nat} {key : Int64} (hPI : PI n ops nums) (hvc : vc ≤ 40) (hw2 : w ≤ 2) : ∀ (f i : Nat) (d : Nat) (st ce pk pv : Nat → Int64) (pr pl dn tk : Nat) (ls : Array Slot) (H : Heap) (locs : List Loc), i + f = 400 → RI vc w pl d pr tk → va_P D vwCl (eW A C n ops nums vc vals d st ce pk pv pr w key pl dn tk 0) H → va_D F (eW A C n ops nums vc vals d st ce pk pv pr w key pl dn tk 0) → va_S F s.heap H locs → lv_has ls 5 [(1, .int (nI i)), (0, .ref (A 0))] → W p l e (rmk 4 94) s m args below meth c H locs 0 0 (MQ below (va_Qv (fun _ : RP => True) (fun (u : RP) t => zB D (eT C) F (fW A C n ops nums vc vals w key dn (runR n vc vals w key ops nums f (pl, d, st, ce, pk, pv, pr, tk)) u) t) F) args s 0 0 F) (F0 m 2 ls []) := by
  have hn := hPI.1
  intro f
  induction f with
  | zero =>
    intro i d st ce pk pv pr pl dn tk ls H locs hf hi hP hD hS hl
    refine lv_iload_n hx hb dE_runProgram_2 rfl (lv_at hl 0 rfl) ?_
    refine lv_sipush (v := nI 400) hx hb dE_runProgram_3 (by decide) ?_
    refine zc_ge (tgt := 79) hx hb dE_runProgram_6 rfl (by omega) (by omega) (fun _ => ?_) (fun q => absurd q (by omega))
    by_cases h9 : pl < n
    · rw [runR_long h9]
      exact runX2 hx hb hr hlk hml hw hown hK hA hn h9 hP hD hS (lv_sub hl [1] rfl)
    · rw [runR_end (by omega)]
      exact runX3 hx hb hr hlk hml hw hown hK hA hn hi.1 (by omega) hP hD hS (lv_sub hl [1] rfl)
  | succ f ih =>
    intro i d st ce pk pv pr pl dn tk ls H locs hf hi hP hD hS hl
    obtain ⟨i1, i2, i3, i4, i5⟩ := hi
    refine lv_iload_n hx hb dE_runProgram_2 rfl (lv_at hl 0 rfl) ?_
    refine lv_sipush (v := nI 400) hx hb dE_runProgram_3 (by decide) ?_
    refine zc_ge (tgt := 79) hx hb dE_runProgram_6 rfl (by omega) (by omega) (fun q => absurd q (by omega)) (fun _ => ?_)
    refine lv_aload_n hx hb dE_runProgram_9 rfl (lv_at hl 1 rfl) ?_
    refine zGetE hx hb hw hown hK hP 0 rfl 13 (by decide) wf_E_113 rfl dE_runProgram_10 ?_
    refine lv_aload_n hx hb dE_runProgram_13 rfl (lv_at hl 1 rfl) ?_
    refine zGetE hx hb hw hown hK hP 0 rfl 2 (by decide) wf_E_43 rfl dE_runProgram_14 ?_
    refine zc_ge (tgt := 79) hx hb dE_runProgram_17 rfl (by omega) (by omega) (fun h17 => ?_) (fun h17 => ?_)
    · rw [runR_end (by omega)]
      exact runX3 hx hb hr hlk hml hw hown hK hA hn i1 (by omega) hP hD hS (lv_sub hl [1] rfl)
    · refine lv_aload_n hx hb dE_runProgram_20 rfl (lv_at hl 1 rfl) ?_
      refine zGetE hx hb hw hown hK hP 0 rfl 16 (by decide) wf_E_72 rfl dE_runProgram_21 ?_
      refine zi_ne (tgt := 79) hx hb dE_runProgram_24 rfl (by omega) (fun q => absurd q (by omega)) (fun _ => ?_)
      refine lv_aload_n hx hb dE_runProgram_27 rfl (lv_at hl 1 rfl) ?_
      refine zGetE hx hb hw hown hK hP 0 rfl 0 (by decide) wf_E_9 rfl dE_runProgram_28 ?_
      refine lv_aload_n hx hb dE_runProgram_31 rfl (lv_at hl 1 rfl) ?_
      refine zGetE hx hb hw hown hK hP 0 rfl 13 (by decide) wf_E_113 rfl dE_runProgram_32 ?_
      refine zIald hx hb hK hP 1 0 rfl rfl (by omega) (by decide) dE_runProgram_35 ?_
      refine zti (hPI.2 pl (by omega)).2 ?_
      refine lv_istore_n hx hb dE_runProgram_36 rfl hl (by decide) rfl (fun ls hl => ?_)
      have hl : lv_has ls 5 [(2, .int (nI (oN (ops pl)))), (1, .int (nI i)), (0, .ref (A 0))] := hl
      refine lv_aload_n hx hb dE_runProgram_37 rfl (lv_at hl 2 rfl) ?_
      refine zGetE hx hb hw hown hK hP 0 rfl 1 (by decide) wf_E_13 rfl dE_runProgram_38 ?_
      refine lv_aload_n hx hb dE_runProgram_41 rfl (lv_at hl 2 rfl) ?_
      refine zGetE hx hb hw hown hK hP 0 rfl 13 (by decide) wf_E_113 rfl dE_runProgram_42 ?_
      refine zLald hx hb hK hP 2 1 rfl rfl (by omega) (by decide) dE_runProgram_45 ?_
      refine lv_lstore_n hx hb dE_runProgram_46 rfl hl (by decide) rfl (fun ls hl => ?_)
      have hl : lv_has ls 5 [(3, .long (nums pl)), (2, .int (nI (oN (ops pl)))), (1, .int (nI i)), (0, .ref (A 0))] := hl
      refine lv_aload_n hx hb dE_runProgram_47 rfl (lv_at hl 3 rfl) ?_
      refine lv_dup hx hb dE_runProgram_48 rfl ?_
      refine zGetE hx hb hw hown hK hP 0 rfl 13 (by decide) wf_E_113 rfl dE_runProgram_49 ?_
      refine lv_iconst (v := nI 1) hx hb dE_runProgram_52 (by decide) ?_
      refine lv_iadd hx hb dE_runProgram_53 ?_
      refine zti (nI_add _ _) ?_
      refine zPutE hx hb hw hown hK hP hD hS 0 rfl 13 (by decide) wf_E_113 rfl rfl rfl (Nat.le_of_ble_eq_true rfl) dE_runProgram_54 (fun H locs hP hD hS => ?_)
      replace hP : va_P D vwCl (eW A C n ops nums vc vals d st ce pk pv pr w key (pl + 1) dn tk 0) H := hP
      replace hD : va_D F (eW A C n ops nums vc vals d st ce pk pv pr w key (pl + 1) dn tk 0) := hD
      refine lv_aload_n hx hb dE_runProgram_57 rfl (lv_at hl 3 rfl) ?_
      refine lv_dup hx hb dE_runProgram_58 rfl ?_
      refine zGetE hx hb hw hown hK hP 0 rfl 14 (by decide) wf_E_89 rfl dE_runProgram_59 ?_
      refine lv_iconst (v := nI 1) hx hb dE_runProgram_62 (by decide) ?_
      refine lv_iadd hx hb dE_runProgram_63 ?_
      refine zti (nI_add _ _) ?_
      refine zPutE hx hb hw hown hK hP hD hS 0 rfl 14 (by decide) wf_E_89 rfl rfl rfl (Nat.le_of_ble_eq_true rfl) dE_runProgram_64 (fun H locs hP hD hS => ?_)
      replace hP : va_P D vwCl (eW A C n ops nums vc vals d st ce pk pv pr w key (pl + 1) (dn + 1) tk 0) H := hP
      replace hD : va_D F (eW A C n ops nums vc vals d st ce pk pv pr w key (pl + 1) (dn + 1) tk 0) := hD
      refine lv_aload_n hx hb dE_runProgram_67 rfl (lv_at hl 3 rfl) ?_
      refine lv_iload_n hx hb dE_runProgram_68 rfl (lv_at hl 1 rfl) ?_
      refine lv_lload_n hx hb dE_runProgram_69 rfl (lv_at hl 0 rfl) ?_
      rcases hs : stp n vc vals w key (oN (ops pl)) (nums pl) (pl + 1) d st ce pk pv pr tk with _ | ⟨pl', d', st', ce', pk', pv', pr', tk'⟩
      · refine zAftv0 (zRunV0 ⟨hx, hb, hml, hown, hw⟩ (perf_trap l D A C _ n ops nums vc vals d st ce pk pv pr w key (pl + 1) (dn + 1) tk (oN (ops pl)) (nums pl) (hPI.2 pl (by omega)).1 i2 hvc i4 hw2 i3 (by omega) hs) wm_E_116 wi_E_perform ws_E_perform wn_E wc_E_perform ⟨rfl, rfl⟩ wd_E_perform ⟨by decide, by decide⟩ hK hP hD 0 rfl rfl rfl hl.1 rfl (Nat.le_of_ble_eq_true rfl) dE_runProgram_70 ⟨by decide, by decide⟩) hP hD hS hA (fun u H locs hp hP hD hS => ?_)
        replace hP : va_P D vwCl (eW A C n ops nums vc vals u.1 u.2.1 ce pk pv pr w key u.2.2 (dn + 1) tk 1) H := hP
        replace hD : va_D F (eW A C n ops nums vc vals u.1 u.2.1 ce pk pv pr w key u.2.2 (dn + 1) tk 1) := hD
        refine lv_iinc (k := 2) (v := nI (i + 1)) hx hb dE_runProgram_73 hl rfl (nI_add _ _) (by decide) rfl (fun ls hl => ?_)
        have hl : lv_has ls 5 [(1, .int (nI (i + 1))), (3, .long (nums pl)), (2, .int (nI (oN (ops pl)))), (0, .ref (A 0))] := hl
        refine lv_goto (tgt := 2) hx hb dE_runProgram_76 rfl ?_
        rw [runR_trap h17 hs]
        exact runT (dn := dn + 1) (pl0 := pl) (d0 := d) (st0 := st) hx hb hr hlk hml hw hown hK hA hn hp.2 (by omega) hP hD hS (lv_sub hl [0, 3] rfl)
      · refine zAftv0 (zRunV0 ⟨hx, hb, hml, hown, hw⟩ (perf_ok l D A C _ n ops nums vc vals d st ce pk pv pr w key (pl + 1) (dn + 1) tk (oN (ops pl)) (nums pl) (hPI.2 pl (by omega)).1 i2 hvc i4 hw2 i3 (by omega) hs) wm_E_116 wi_E_perform ws_E_perform wn_E wc_E_perform ⟨rfl, rfl⟩ wd_E_perform ⟨by decide, by decide⟩ hK hP hD 0 rfl rfl rfl hl.1 rfl (Nat.le_of_ble_eq_true rfl) dE_runProgram_70 ⟨by decide, by decide⟩) hP hD hS hA (fun u H locs hp hP hD hS => ?_)
        replace hP : va_P D vwCl (eW A C n ops nums vc vals d' st' ce' pk' pv' pr' w key pl' (dn + 1) tk' 0) H := hP
        replace hD : va_D F (eW A C n ops nums vc vals d' st' ce' pk' pv' pr' w key pl' (dn + 1) tk' 0) := hD
        refine lv_iinc (k := 2) (v := nI (i + 1)) hx hb dE_runProgram_73 hl rfl (nI_add _ _) (by decide) rfl (fun ls hl => ?_)
        have hl : lv_has ls 5 [(1, .int (nI (i + 1))), (3, .long (nums pl)), (2, .int (nI (oN (ops pl)))), (0, .ref (A 0))] := hl
        refine lv_goto (tgt := 2) hx hb dE_runProgram_76 rfl ?_
        rw [runR_go h17 hs]
        have e9 := ih (i + 1) d' st' ce' pk' pv' pr' pl' (dn + 1) tk' ls H locs (by omega) (stp_inv hn (hPI.2 pl (by omega)).1 ⟨by omega, i2, i3, i4, i5⟩ hs) hP hD hS (lv_sub hl [0, 3] rfl)
        simp only [fW_go] at e9
        exact e9
set_option maxHeartbeats 4000000 in
theorem c_runProgram (l : Launch) (D : va_G) (A : Nat → Nat) (C : Nat → ClassId) (sz : Nat) (n : Nat) (ops : Nat → Int32) (nums : Nat → Int64) (vc : Nat) (vals : Nat → Int64) (d : Nat) (st ce pk pv : Nat → Int64) (pr w : Nat) (key : Int64) (pl dn tk : Nat) (hPI : PI n ops nums) (hvc : vc ≤ 40) (hw2 : w ≤ 2) (hi : RI vc w pl d pr tk) : Met l yE_runProgram (.code yE_runProgram cE_runProgram 5 none :: WS) (rmk 4 94) (va_Pc [.ref (A 0)] (zP D (eT C) sz (eW A C n ops nums vc vals d st ce pk pv pr w key pl dn tk 0))) (va_Qv (fun _ : RP => True) (fun (u : RP) t => zB D (eT C) (va_A (eW A C n ops nums vc vals d st ce pk pv pr w key pl dn tk 0) sz) (fW A C n ops nums vc vals w key dn (runR n vc vals w key ops nums 400 (pl, d, st, ce, pk, pv, pr, tk)) u) t) (va_A (eW A C n ops nums vc vals d st ce pk pv pr w key pl dn tk 0) sz)) 0 0 (va_A (eW A C n ops nums vc vals d st ce pk pv pr w key pl dn tk 0) sz) := by
  refine zEnt (Qc := fun F => (va_Qv (fun _ : RP => True) (fun (u : RP) t => zB D (eT C) F (fW A C n ops nums vc vals w key dn (runR n vc vals w key ops nums 400 (pl, d, st, ce, pk, pv, pr, tk)) u) t) F)) (by decide) (Nat.le_of_ble_eq_true rfl) (fun p e s m below meth c ls F hx hb hr hlk hml hnm hw hown hsz hP hK hD hA hl => ?_)
  have hS : va_S F s.heap s.heap [] := va_S.rf
  have hown : s.vm.findClass RE = some m.cls := hown
  have hl : lv_has ls 5 [(0, .ref (A 0))] := hl
  refine lv_iconst (v := nI 0) hx hb dE_runProgram_0 (by decide) ?_
  refine lv_istore_n hx hb dE_runProgram_1 rfl hl (by decide) rfl (fun ls hl => ?_)
  have hl : lv_has ls 5 [(1, .int (nI 0)), (0, .ref (A 0))] := hl
  exact runL hx hb hr hlk hml hw hown hK hA hPI hvc hw2 400 0 d st ce pk pv pr pl dn tk ls s.heap [] rfl hi hP hD hS hl
end
section
/-! EmitDesk: begin, goesBehindEnd, isInstruction -/
def z4 (ce : Nat → Int64) : Nat → Int64 := vp_updL (vp_updL (vp_updL (vp_updL ce 0 0) 1 0) 2 0) 3 0
/-- some INSTRUCTION goes behind the PROGRAM's end -/
def gBP (n : Nat) (ops : Nat → Int32) (nums : Nat → Int64) : Prop := ∃ i, i < n ∧ (ops i = nI 15 ∨ ops i = nI 16) ∧ lN n < nums i
/-- what code lets in, as the class asks it -/
def okC (o : Int32) (x : Int64) : Prop := ¬ o < 0 ∧ o ≤ nI 18 ∧ (o = nI 4 ∨ o = nI 5 → ¬ x < 0 ∧ ¬ 4 ≤ x) ∧ (o = nI 15 ∨ o = nI 16 → ¬ x < 0 ∧ ¬ 40 < x)

set_option maxRecDepth 20000 in
set_option maxHeartbeats 4000000 in
theorem c_begin (l : Launch) (D : va_G) (A : Nat → Nat) (C : Nat → ClassId) (sz : Nat) (n : Nat) (ops : Nat → Int32) (nums : Nat → Int64) (vc : Nat) (vals : Nat → Int64) (d : Nat) (st : Nat → Int64) (ce : Nat → Int64) (pk : Nat → Int64) (pv : Nat → Int64) (pr : Nat) (w : Nat) (key : Int64) (pl : Nat) (dn : Nat) (tk : Nat) (tr : Nat) (w2 : Nat) (k2 : Int64) : Met l yE_begin (.code yE_begin cE_begin 5 none :: WS) (rmk 0 0) (va_Pc [.ref (A 0), .int (nI w2), .long k2] (zP D (eT C) sz (eW A C n ops nums vc vals d st ce pk pv pr w key pl dn tk tr))) (va_Qv (fun _ : Unit => True) (fun (_ : Unit) t => zB D (eT C) (va_A (eW A C n ops nums vc vals d st ce pk pv pr w key pl dn tk tr) sz) (eW A C n ops nums vc vals 0 st (z4 ce) pk pv 0 w2 k2 0 0 0 0) t) (va_A (eW A C n ops nums vc vals d st ce pk pv pr w key pl dn tk tr) sz)) 0 0 (va_A (eW A C n ops nums vc vals d st ce pk pv pr w key pl dn tk tr) sz) := by
  refine zEnt (Qc := fun F => (va_Qv (fun _ : Unit => True) (fun (_ : Unit) t => zB D (eT C) F (eW A C n ops nums vc vals 0 st (z4 ce) pk pv 0 w2 k2 0 0 0 0) t) F)) (by decide) (Nat.le_of_ble_eq_true rfl) (fun p e s m below meth c ls F hx hb hr hlk hml hnm hw hown hsz hP hK hD hA hl => ?_)
  have hS : va_S F s.heap s.heap [] := va_S.rf
  have hown : s.vm.findClass RE = some m.cls := hown
  have hl : lv_has ls 5 [(0, .ref (A 0)), (1, .int (nI w2)), (2, .long k2)] := hl
  refine lv_aload_n hx hb dE_begin_0 rfl (lv_at hl 0 rfl) ?_
  refine lv_iload_n hx hb dE_begin_1 rfl (lv_at hl 1 rfl) ?_
  refine zPutE hx hb hw hown hK hP hD hS 0 rfl 11 (by decide) wf_E_106 rfl rfl rfl (Nat.le_of_ble_eq_true rfl) dE_begin_2 (fun H locs hP hD hS => ?_)
  replace hP : va_P D vwCl (eW A C n ops nums vc vals d st ce pk pv pr w2 key pl dn tk tr) H := hP
  replace hD : va_D F (eW A C n ops nums vc vals d st ce pk pv pr w2 key pl dn tk tr) := hD
  refine lv_aload_n hx hb dE_begin_5 rfl (lv_at hl 0 rfl) ?_
  refine lv_lload_n hx hb dE_begin_6 rfl (lv_at hl 2 rfl) ?_
  refine zPutE hx hb hw hown hK hP hD hS 0 rfl 12 (by decide) wf_E_109 rfl rfl rfl (Nat.le_of_ble_eq_true rfl) dE_begin_7 (fun H locs hP hD hS => ?_)
  replace hP : va_P D vwCl (eW A C n ops nums vc vals d st ce pk pv pr w2 k2 pl dn tk tr) H := hP
  replace hD : va_D F (eW A C n ops nums vc vals d st ce pk pv pr w2 k2 pl dn tk tr) := hD
  refine lv_aload_n hx hb dE_begin_10 rfl (lv_at hl 0 rfl) ?_
  refine lv_iconst (v := nI 0) hx hb dE_begin_11 (by decide) ?_
  refine zPutE hx hb hw hown hK hP hD hS 0 rfl 6 (by decide) wf_E_92 rfl rfl rfl (Nat.le_of_ble_eq_true rfl) dE_begin_12 (fun H locs hP hD hS => ?_)
  replace hP : va_P D vwCl (eW A C n ops nums vc vals 0 st ce pk pv pr w2 k2 pl dn tk tr) H := hP
  replace hD : va_D F (eW A C n ops nums vc vals 0 st ce pk pv pr w2 k2 pl dn tk tr) := hD
  refine lv_aload_n hx hb dE_begin_15 rfl (lv_at hl 0 rfl) ?_
  refine lv_iconst (v := nI 0) hx hb dE_begin_16 (by decide) ?_
  refine zPutE hx hb hw hown hK hP hD hS 0 rfl 10 (by decide) wf_E_81 rfl rfl rfl (Nat.le_of_ble_eq_true rfl) dE_begin_17 (fun H locs hP hD hS => ?_)
  replace hP : va_P D vwCl (eW A C n ops nums vc vals 0 st ce pk pv 0 w2 k2 pl dn tk tr) H := hP
  replace hD : va_D F (eW A C n ops nums vc vals 0 st ce pk pv 0 w2 k2 pl dn tk tr) := hD
  refine lv_aload_n hx hb dE_begin_20 rfl (lv_at hl 0 rfl) ?_
  refine lv_iconst (v := nI 0) hx hb dE_begin_21 (by decide) ?_
  refine zPutE hx hb hw hown hK hP hD hS 0 rfl 13 (by decide) wf_E_113 rfl rfl rfl (Nat.le_of_ble_eq_true rfl) dE_begin_22 (fun H locs hP hD hS => ?_)
  replace hP : va_P D vwCl (eW A C n ops nums vc vals 0 st ce pk pv 0 w2 k2 0 dn tk tr) H := hP
  replace hD : va_D F (eW A C n ops nums vc vals 0 st ce pk pv 0 w2 k2 0 dn tk tr) := hD
  refine lv_aload_n hx hb dE_begin_25 rfl (lv_at hl 0 rfl) ?_
  refine lv_iconst (v := nI 0) hx hb dE_begin_26 (by decide) ?_
  refine zPutE hx hb hw hown hK hP hD hS 0 rfl 14 (by decide) wf_E_89 rfl rfl rfl (Nat.le_of_ble_eq_true rfl) dE_begin_27 (fun H locs hP hD hS => ?_)
  replace hP : va_P D vwCl (eW A C n ops nums vc vals 0 st ce pk pv 0 w2 k2 0 0 tk tr) H := hP
  replace hD : va_D F (eW A C n ops nums vc vals 0 st ce pk pv 0 w2 k2 0 0 tk tr) := hD
  refine lv_aload_n hx hb dE_begin_30 rfl (lv_at hl 0 rfl) ?_
  refine lv_iconst (v := nI 0) hx hb dE_begin_31 (by decide) ?_
  refine zPutE hx hb hw hown hK hP hD hS 0 rfl 15 (by decide) wf_E_95 rfl rfl rfl (Nat.le_of_ble_eq_true rfl) dE_begin_32 (fun H locs hP hD hS => ?_)
  replace hP : va_P D vwCl (eW A C n ops nums vc vals 0 st ce pk pv 0 w2 k2 0 0 0 tr) H := hP
  replace hD : va_D F (eW A C n ops nums vc vals 0 st ce pk pv 0 w2 k2 0 0 0 tr) := hD
  refine lv_aload_n hx hb dE_begin_35 rfl (lv_at hl 0 rfl) ?_
  refine lv_iconst (v := nI 0) hx hb dE_begin_36 (by decide) ?_
  refine zPutE hx hb hw hown hK hP hD hS 0 rfl 16 (by decide) wf_E_72 rfl rfl rfl (Nat.le_of_ble_eq_true rfl) dE_begin_37 (fun H locs hP hD hS => ?_)
  replace hP : va_P D vwCl (eW A C n ops nums vc vals 0 st ce pk pv 0 w2 k2 0 0 0 0) H := hP
  replace hD : va_D F (eW A C n ops nums vc vals 0 st ce pk pv 0 w2 k2 0 0 0 0) := hD
  refine lv_iconst (v := nI 0) hx hb dE_begin_40 (by decide) ?_
  refine lv_istore hx hb dE_begin_41 hl (by decide) rfl (fun ls hl => ?_)
  have hl : lv_has ls 5 [(4, .int (nI 0)), (0, .ref (A 0)), (1, .int (nI w2)), (2, .long k2)] := hl
  refine lv_iload hx hb dE_begin_43 (lv_at hl 0 rfl) ?_
  refine lv_iconst (v := nI 4) hx hb dE_begin_45 (by decide) ?_
  refine zc_ge (tgt := 63) hx hb dE_begin_46 rfl (by omega) (by omega) (fun q => absurd q (by omega)) (fun _ => ?_)
  refine lv_aload_n hx hb dE_begin_49 rfl (lv_at hl 1 rfl) ?_
  refine zGetE hx hb hw hown hK hP 0 rfl 7 (by decide) wf_E_23 rfl dE_begin_50 ?_
  refine lv_iload hx hb dE_begin_53 (lv_at hl 0 rfl) ?_
  refine lv_lconst (v := 0) hx hb dE_begin_55 (by decide) ?_
  refine zLast hx hb hK hP hD hS 5 4 rfl rfl (by omega) (by decide) dE_begin_56 (fun H locs hP hD hS => ?_)
  replace hP : va_P D vwCl (eW A C n ops nums vc vals 0 st (vp_updL ce 0 (0 : Int64)) pk pv 0 w2 k2 0 0 0 0) H := hP
  replace hD : va_D F (eW A C n ops nums vc vals 0 st (vp_updL ce 0 (0 : Int64)) pk pv 0 w2 k2 0 0 0 0) := hD
  refine lv_iinc (k := 0) (v := nI 1) hx hb dE_begin_57 hl rfl (by decide) (by decide) rfl (fun ls hl => ?_)
  have hl : lv_has ls 5 [(4, .int (nI 1)), (0, .ref (A 0)), (1, .int (nI w2)), (2, .long k2)] := hl
  refine lv_goto (tgt := 43) hx hb dE_begin_60 rfl ?_
  refine lv_iload hx hb dE_begin_43 (lv_at hl 0 rfl) ?_
  refine lv_iconst (v := nI 4) hx hb dE_begin_45 (by decide) ?_
  refine zc_ge (tgt := 63) hx hb dE_begin_46 rfl (by omega) (by omega) (fun q => absurd q (by omega)) (fun _ => ?_)
  refine lv_aload_n hx hb dE_begin_49 rfl (lv_at hl 1 rfl) ?_
  refine zGetE hx hb hw hown hK hP 0 rfl 7 (by decide) wf_E_23 rfl dE_begin_50 ?_
  refine lv_iload hx hb dE_begin_53 (lv_at hl 0 rfl) ?_
  refine lv_lconst (v := 0) hx hb dE_begin_55 (by decide) ?_
  refine zLast hx hb hK hP hD hS 5 4 rfl rfl (by omega) (by decide) dE_begin_56 (fun H locs hP hD hS => ?_)
  replace hP : va_P D vwCl (eW A C n ops nums vc vals 0 st (vp_updL (vp_updL ce 0 (0 : Int64)) 1 (0 : Int64)) pk pv 0 w2 k2 0 0 0 0) H := hP
  replace hD : va_D F (eW A C n ops nums vc vals 0 st (vp_updL (vp_updL ce 0 (0 : Int64)) 1 (0 : Int64)) pk pv 0 w2 k2 0 0 0 0) := hD
  refine lv_iinc (k := 0) (v := nI 2) hx hb dE_begin_57 hl rfl (by decide) (by decide) rfl (fun ls hl => ?_)
  have hl : lv_has ls 5 [(4, .int (nI 2)), (0, .ref (A 0)), (1, .int (nI w2)), (2, .long k2)] := hl
  refine lv_goto (tgt := 43) hx hb dE_begin_60 rfl ?_
  refine lv_iload hx hb dE_begin_43 (lv_at hl 0 rfl) ?_
  refine lv_iconst (v := nI 4) hx hb dE_begin_45 (by decide) ?_
  refine zc_ge (tgt := 63) hx hb dE_begin_46 rfl (by omega) (by omega) (fun q => absurd q (by omega)) (fun _ => ?_)
  refine lv_aload_n hx hb dE_begin_49 rfl (lv_at hl 1 rfl) ?_
  refine zGetE hx hb hw hown hK hP 0 rfl 7 (by decide) wf_E_23 rfl dE_begin_50 ?_
  refine lv_iload hx hb dE_begin_53 (lv_at hl 0 rfl) ?_
  refine lv_lconst (v := 0) hx hb dE_begin_55 (by decide) ?_
  refine zLast hx hb hK hP hD hS 5 4 rfl rfl (by omega) (by decide) dE_begin_56 (fun H locs hP hD hS => ?_)
  replace hP : va_P D vwCl (eW A C n ops nums vc vals 0 st (vp_updL (vp_updL (vp_updL ce 0 (0 : Int64)) 1 (0 : Int64)) 2 (0 : Int64)) pk pv 0 w2 k2 0 0 0 0) H := hP
  replace hD : va_D F (eW A C n ops nums vc vals 0 st (vp_updL (vp_updL (vp_updL ce 0 (0 : Int64)) 1 (0 : Int64)) 2 (0 : Int64)) pk pv 0 w2 k2 0 0 0 0) := hD
  refine lv_iinc (k := 0) (v := nI 3) hx hb dE_begin_57 hl rfl (by decide) (by decide) rfl (fun ls hl => ?_)
  have hl : lv_has ls 5 [(4, .int (nI 3)), (0, .ref (A 0)), (1, .int (nI w2)), (2, .long k2)] := hl
  refine lv_goto (tgt := 43) hx hb dE_begin_60 rfl ?_
  refine lv_iload hx hb dE_begin_43 (lv_at hl 0 rfl) ?_
  refine lv_iconst (v := nI 4) hx hb dE_begin_45 (by decide) ?_
  refine zc_ge (tgt := 63) hx hb dE_begin_46 rfl (by omega) (by omega) (fun q => absurd q (by omega)) (fun _ => ?_)
  refine lv_aload_n hx hb dE_begin_49 rfl (lv_at hl 1 rfl) ?_
  refine zGetE hx hb hw hown hK hP 0 rfl 7 (by decide) wf_E_23 rfl dE_begin_50 ?_
  refine lv_iload hx hb dE_begin_53 (lv_at hl 0 rfl) ?_
  refine lv_lconst (v := 0) hx hb dE_begin_55 (by decide) ?_
  refine zLast hx hb hK hP hD hS 5 4 rfl rfl (by omega) (by decide) dE_begin_56 (fun H locs hP hD hS => ?_)
  replace hP : va_P D vwCl (eW A C n ops nums vc vals 0 st (vp_updL (vp_updL (vp_updL (vp_updL ce 0 (0 : Int64)) 1 (0 : Int64)) 2 (0 : Int64)) 3 (0 : Int64)) pk pv 0 w2 k2 0 0 0 0) H := hP
  replace hD : va_D F (eW A C n ops nums vc vals 0 st (vp_updL (vp_updL (vp_updL (vp_updL ce 0 (0 : Int64)) 1 (0 : Int64)) 2 (0 : Int64)) 3 (0 : Int64)) pk pv 0 w2 k2 0 0 0 0) := hD
  refine lv_iinc (k := 0) (v := nI 4) hx hb dE_begin_57 hl rfl (by decide) (by decide) rfl (fun ls hl => ?_)
  have hl : lv_has ls 5 [(4, .int (nI 4)), (0, .ref (A 0)), (1, .int (nI w2)), (2, .long k2)] := hl
  refine lv_goto (tgt := 43) hx hb dE_begin_60 rfl ?_
  refine lv_iload hx hb dE_begin_43 (lv_at hl 0 rfl) ?_
  refine lv_iconst (v := nI 4) hx hb dE_begin_45 (by decide) ?_
  refine zc_ge (tgt := 63) hx hb dE_begin_46 rfl (by omega) (by omega) (fun _ => ?_) (fun q => absurd q (by omega))
  exact zVret (w' := fun (_ : Unit) => (eW A C n ops nums vc vals 0 st (z4 ce) pk pv 0 w2 k2 0 0 0 0)) () hx hb hr hlk hS hK trivial hP hD dE_begin_63

set_option maxHeartbeats 4000000 in
theorem gbL {p : Program} {l : Launch} {e : Env} {s : State} {m : MethodId} {args : Array Value} {below : List Frame} {meth : Method} {c : Code} {F : Nat → Prop} {D : va_G} {A : Nat → Nat} {C : Nat → ClassId} (hx : p.tables.exec = Jvm.exec) (hb : c.code = cE_goesBehindEnd) (hr : meth.sig.returnType = (some .boolean)) (hlk : meth.locks = false) (hml : c.maxLocals = 3) (hw : ∀ w ∈ WS, w.before args s = true) (hown : s.vm.findClass RE = some m.cls) (hK : va_K D vwCl (eT C) s) (hA : ∀ q, s.heap.size ≤ q → F q) {n : Nat} {ops : Nat → Int32} {nums : Nat → Int64} {vc : Nat} {vals : Nat → Int64} {d : Nat} {st ce pk pv : Nat → Int64} {pr w : Nat} {key : Int64} {pl dn tk tr : Nat} (hn : n ≤ 40) : ∀ (f i : Nat) (ls : Array Slot), i + f = n → (∀ j, j < i → ¬ ((ops j = nI 15 ∨ ops j = nI 16) ∧ lN n < nums j)) → ∀ {H : Heap} {locs : List Loc}, va_P D vwCl (eW A C n ops nums vc vals d st ce pk pv pr w key pl dn tk tr) H → va_D F (eW A C n ops nums vc vals d st ce pk pv pr w key pl dn tk tr) → va_S F s.heap H locs → lv_has ls 3 [(1, .int (nI i)), (0, .ref (A 0))] → W p l e (rmk 0 0) s m args below meth c H locs 0 0 (MQ below (va_Qi (fun (r : Int32) (_ : Unit) => (r = nI 1 ∧ gBP n ops nums) ∨ (r = nI 0 ∧ ¬ gBP n ops nums)) (fun (_ : Unit) t => zB D (eT C) F (eW A C n ops nums vc vals d st ce pk pv pr w key pl dn tk tr) t) F) args s 0 0 F) (F0 m 2 ls []) := by
  intro f
  induction f with
  | zero =>
    intro i ls hf hno H locs hP hD hS hl
    refine lv_iload_n hx hb dE_goesBehindEnd_2 rfl (lv_at hl 0 rfl) ?_
    refine lv_aload_n hx hb dE_goesBehindEnd_3 rfl (lv_at hl 1 rfl) ?_
    refine zGetE hx hb hw hown hK hP 0 rfl 2 (by decide) wf_E_43 rfl dE_goesBehindEnd_4 ?_
    refine zc_ge (tgt := 65) hx hb dE_goesBehindEnd_7 rfl (by omega) (by omega) (fun _ => ?_) (fun q => absurd q (by omega))
    refine lv_iconst (v := nI 0) hx hb dE_goesBehindEnd_65 (by decide) ?_
    exact zZret (w' := fun (_ : Unit) => (eW A C n ops nums vc vals d st ce pk pv pr w key pl dn tk tr)) () hx hb hr (by decide) hlk hS hK (Or.inr ⟨rfl, fun ⟨j, hj, hq⟩ => hno j (by omega) hq⟩) hP hD dE_goesBehindEnd_66
  | succ f ih =>
    intro i ls hf hno H locs hP hD hS hl
    refine lv_iload_n hx hb dE_goesBehindEnd_2 rfl (lv_at hl 0 rfl) ?_
    refine lv_aload_n hx hb dE_goesBehindEnd_3 rfl (lv_at hl 1 rfl) ?_
    refine zGetE hx hb hw hown hK hP 0 rfl 2 (by decide) wf_E_43 rfl dE_goesBehindEnd_4 ?_
    refine zc_ge (tgt := 65) hx hb dE_goesBehindEnd_7 rfl (by omega) (by omega) (fun q => absurd q (by omega)) (fun _ => ?_)
    refine lv_aload_n hx hb dE_goesBehindEnd_10 rfl (lv_at hl 1 rfl) ?_
    refine zGetE hx hb hw hown hK hP 0 rfl 0 (by decide) wf_E_9 rfl dE_goesBehindEnd_11 ?_
    refine lv_iload_n hx hb dE_goesBehindEnd_14 rfl (lv_at hl 0 rfl) ?_
    refine zIald hx hb hK hP 1 0 rfl rfl (by omega) (by decide) dE_goesBehindEnd_15 ?_
    refine lv_bipush (v := nI 15) hx hb dE_goesBehindEnd_16 (by decide) ?_
    refine lv_icmp_eq (tgt := 32) hx hb dE_goesBehindEnd_18 rfl (fun h18 => ?_) (fun h18 => ?_)
    · refine lv_iconst (v := nI 1) hx hb dE_goesBehindEnd_32 (by decide) ?_
      refine lv_goto (tgt := 37) hx hb dE_goesBehindEnd_33 rfl ?_
      refine lv_istore_n hx hb dE_goesBehindEnd_37 rfl hl (by decide) rfl (fun ls hl => ?_)
      have hl : lv_has ls 3 [(2, .int (nI 1)), (1, .int (nI i)), (0, .ref (A 0))] := hl
      refine lv_iload_n hx hb dE_goesBehindEnd_38 rfl (lv_at hl 0 rfl) ?_
      refine zi_eq (tgt := 59) hx hb dE_goesBehindEnd_39 rfl (by omega) (fun q => absurd q (by omega)) (fun _ => ?_)
      refine lv_aload_n hx hb dE_goesBehindEnd_42 rfl (lv_at hl 2 rfl) ?_
      refine zGetE hx hb hw hown hK hP 0 rfl 1 (by decide) wf_E_13 rfl dE_goesBehindEnd_43 ?_
      refine lv_iload_n hx hb dE_goesBehindEnd_46 rfl (lv_at hl 1 rfl) ?_
      refine zLald hx hb hK hP 2 1 rfl rfl (by omega) (by decide) dE_goesBehindEnd_47 ?_
      refine lv_aload_n hx hb dE_goesBehindEnd_48 rfl (lv_at hl 2 rfl) ?_
      refine zGetE hx hb hw hown hK hP 0 rfl 2 (by decide) wf_E_43 rfl dE_goesBehindEnd_49 ?_
      refine lv_i2l hx hb dE_goesBehindEnd_52 (nI_l (by omega)) ?_
      refine W.lcmp hx hb dE_goesBehindEnd_53 ?_
      refine zl_le (tgt := 59) hx hb dE_goesBehindEnd_54 rfl (fun h54 => ?_) (fun h54 => ?_)
      · refine lv_iinc (k := 1) (v := nI (i + 1)) hx hb dE_goesBehindEnd_59 hl rfl (nI_add _ _) (by decide) rfl (fun ls hl => ?_)
        have hl : lv_has ls 3 [(1, .int (nI (i + 1))), (2, .int (nI 1)), (0, .ref (A 0))] := hl
        refine lv_goto (tgt := 2) hx hb dE_goesBehindEnd_62 rfl ?_
        refine ih (i + 1) ls (by omega) (fun j hj => ?_) hP hD hS (lv_sub hl [0, 2] rfl)
        rcases Nat.lt_succ_iff_lt_or_eq.mp hj with h9 | rfl
        · exact hno j h9
        · rintro ⟨q1, q2⟩
          first | exact absurd q2 (Int64.not_lt.mpr h54) | exact (q1.elim (fun z => h18 z) (fun z => h29 z))
      · refine lv_iconst (v := nI 1) hx hb dE_goesBehindEnd_57 (by decide) ?_
        exact zZret (w' := fun (_ : Unit) => (eW A C n ops nums vc vals d st ce pk pv pr w key pl dn tk tr)) () hx hb hr (by decide) hlk hS hK (Or.inl ⟨rfl, ⟨i, by omega, by first | exact Or.inl h18 | exact Or.inr h29, by first | exact h54 | exact Int64.not_le.mp h54⟩⟩) hP hD dE_goesBehindEnd_58
    · refine lv_aload_n hx hb dE_goesBehindEnd_21 rfl (lv_at hl 1 rfl) ?_
      refine zGetE hx hb hw hown hK hP 0 rfl 0 (by decide) wf_E_9 rfl dE_goesBehindEnd_22 ?_
      refine lv_iload_n hx hb dE_goesBehindEnd_25 rfl (lv_at hl 0 rfl) ?_
      refine zIald hx hb hK hP 1 0 rfl rfl (by omega) (by decide) dE_goesBehindEnd_26 ?_
      refine lv_bipush (v := nI 16) hx hb dE_goesBehindEnd_27 (by decide) ?_
      refine lv_icmp_ne (tgt := 36) hx hb dE_goesBehindEnd_29 rfl (fun h29 => ?_) (fun h29 => ?_)
      · refine lv_iconst (v := nI 0) hx hb dE_goesBehindEnd_36 (by decide) ?_
        refine lv_istore_n hx hb dE_goesBehindEnd_37 rfl hl (by decide) rfl (fun ls hl => ?_)
        have hl : lv_has ls 3 [(2, .int (nI 0)), (1, .int (nI i)), (0, .ref (A 0))] := hl
        refine lv_iload_n hx hb dE_goesBehindEnd_38 rfl (lv_at hl 0 rfl) ?_
        refine zi_eq (tgt := 59) hx hb dE_goesBehindEnd_39 rfl (by omega) (fun _ => ?_) (fun q => absurd q (by omega))
        refine lv_iinc (k := 1) (v := nI (i + 1)) hx hb dE_goesBehindEnd_59 hl rfl (nI_add _ _) (by decide) rfl (fun ls hl => ?_)
        have hl : lv_has ls 3 [(1, .int (nI (i + 1))), (2, .int (nI 0)), (0, .ref (A 0))] := hl
        refine lv_goto (tgt := 2) hx hb dE_goesBehindEnd_62 rfl ?_
        refine ih (i + 1) ls (by omega) (fun j hj => ?_) hP hD hS (lv_sub hl [0, 2] rfl)
        rcases Nat.lt_succ_iff_lt_or_eq.mp hj with h9 | rfl
        · exact hno j h9
        · rintro ⟨q1, q2⟩
          first | exact absurd q2 (Int64.not_lt.mpr h54) | exact (q1.elim (fun z => h18 z) (fun z => h29 z))
      · refine lv_iconst (v := nI 1) hx hb dE_goesBehindEnd_32 (by decide) ?_
        refine lv_goto (tgt := 37) hx hb dE_goesBehindEnd_33 rfl ?_
        refine lv_istore_n hx hb dE_goesBehindEnd_37 rfl hl (by decide) rfl (fun ls hl => ?_)
        have hl : lv_has ls 3 [(2, .int (nI 1)), (1, .int (nI i)), (0, .ref (A 0))] := hl
        refine lv_iload_n hx hb dE_goesBehindEnd_38 rfl (lv_at hl 0 rfl) ?_
        refine zi_eq (tgt := 59) hx hb dE_goesBehindEnd_39 rfl (by omega) (fun q => absurd q (by omega)) (fun _ => ?_)
        refine lv_aload_n hx hb dE_goesBehindEnd_42 rfl (lv_at hl 2 rfl) ?_
        refine zGetE hx hb hw hown hK hP 0 rfl 1 (by decide) wf_E_13 rfl dE_goesBehindEnd_43 ?_
        refine lv_iload_n hx hb dE_goesBehindEnd_46 rfl (lv_at hl 1 rfl) ?_
        refine zLald hx hb hK hP 2 1 rfl rfl (by omega) (by decide) dE_goesBehindEnd_47 ?_
        refine lv_aload_n hx hb dE_goesBehindEnd_48 rfl (lv_at hl 2 rfl) ?_
        refine zGetE hx hb hw hown hK hP 0 rfl 2 (by decide) wf_E_43 rfl dE_goesBehindEnd_49 ?_
        refine lv_i2l hx hb dE_goesBehindEnd_52 (nI_l (by omega)) ?_
        refine W.lcmp hx hb dE_goesBehindEnd_53 ?_
        refine zl_le (tgt := 59) hx hb dE_goesBehindEnd_54 rfl (fun h54 => ?_) (fun h54 => ?_)
        · refine lv_iinc (k := 1) (v := nI (i + 1)) hx hb dE_goesBehindEnd_59 hl rfl (nI_add _ _) (by decide) rfl (fun ls hl => ?_)
          have hl : lv_has ls 3 [(1, .int (nI (i + 1))), (2, .int (nI 1)), (0, .ref (A 0))] := hl
          refine lv_goto (tgt := 2) hx hb dE_goesBehindEnd_62 rfl ?_
          refine ih (i + 1) ls (by omega) (fun j hj => ?_) hP hD hS (lv_sub hl [0, 2] rfl)
          rcases Nat.lt_succ_iff_lt_or_eq.mp hj with h9 | rfl
          · exact hno j h9
          · rintro ⟨q1, q2⟩
            first | exact absurd q2 (Int64.not_lt.mpr h54) | exact (q1.elim (fun z => h18 z) (fun z => h29 z))
        · refine lv_iconst (v := nI 1) hx hb dE_goesBehindEnd_57 (by decide) ?_
          exact zZret (w' := fun (_ : Unit) => (eW A C n ops nums vc vals d st ce pk pv pr w key pl dn tk tr)) () hx hb hr (by decide) hlk hS hK (Or.inl ⟨rfl, ⟨i, by omega, by first | exact Or.inl h18 | exact Or.inr h29, by first | exact h54 | exact Int64.not_le.mp h54⟩⟩) hP hD dE_goesBehindEnd_58
set_option maxHeartbeats 4000000 in
theorem c_goesBehindEnd (l : Launch) (D : va_G) (A : Nat → Nat) (C : Nat → ClassId) (sz : Nat) (n : Nat) (ops : Nat → Int32) (nums : Nat → Int64) (vc : Nat) (vals : Nat → Int64) (d : Nat) (st : Nat → Int64) (ce : Nat → Int64) (pk : Nat → Int64) (pv : Nat → Int64) (pr : Nat) (w : Nat) (key : Int64) (pl : Nat) (dn : Nat) (tk : Nat) (tr : Nat) (hn : n ≤ 40) : Met l yE_goesBehindEnd (.code yE_goesBehindEnd cE_goesBehindEnd 3 (some .boolean) :: WS) (rmk 0 0) (va_Pc [.ref (A 0)] (zP D (eT C) sz (eW A C n ops nums vc vals d st ce pk pv pr w key pl dn tk tr))) (va_Qi (fun (r : Int32) (_ : Unit) => (r = nI 1 ∧ gBP n ops nums) ∨ (r = nI 0 ∧ ¬ gBP n ops nums)) (fun (_ : Unit) t => zB D (eT C) (va_A (eW A C n ops nums vc vals d st ce pk pv pr w key pl dn tk tr) sz) (eW A C n ops nums vc vals d st ce pk pv pr w key pl dn tk tr) t) (va_A (eW A C n ops nums vc vals d st ce pk pv pr w key pl dn tk tr) sz)) 0 0 (va_A (eW A C n ops nums vc vals d st ce pk pv pr w key pl dn tk tr) sz) := by
  refine zEnt (Qc := fun F => (va_Qi (fun (r : Int32) (_ : Unit) => (r = nI 1 ∧ gBP n ops nums) ∨ (r = nI 0 ∧ ¬ gBP n ops nums)) (fun (_ : Unit) t => zB D (eT C) F (eW A C n ops nums vc vals d st ce pk pv pr w key pl dn tk tr) t) F)) (by decide) (Nat.le_of_ble_eq_true rfl) (fun p e s m below meth c ls F hx hb hr hlk hml hnm hw hown hsz hP hK hD hA hl => ?_)
  have hS : va_S F s.heap s.heap [] := va_S.rf
  have hown : s.vm.findClass RE = some m.cls := hown
  have hl : lv_has ls 3 [(0, .ref (A 0))] := hl
  refine lv_iconst (v := nI 0) hx hb dE_goesBehindEnd_0 (by decide) ?_
  refine lv_istore_n hx hb dE_goesBehindEnd_1 rfl hl (by decide) rfl (fun ls hl => ?_)
  have hl : lv_has ls 3 [(1, .int (nI 0)), (0, .ref (A 0))] := hl
  exact gbL hx hb hr hlk hml hw hown hK hA hn n 0 ls (by omega) (fun j hj => absurd hj (by omega)) hP hD hS hl
set_option maxHeartbeats 4000000 in
theorem c_isInstruction (l : Launch) (D : va_G) (sz : Nat) (o : Int32) (x : Int64) : Met l yE_isInstruction (.code yE_isInstruction cE_isInstruction 3 (some .boolean) :: WS) (rmk 0 0) (va_Pc [.int o, .long x] (zP D [] sz ([] : va_W))) (va_Qi (fun (r : Int32) (_ : Unit) => (r = nI 1 ∧ okC o x) ∨ (r = nI 0 ∧ ¬ okC o x)) (fun (_ : Unit) t => zB D [] (va_A ([] : va_W) sz) ([] : va_W) t) (va_A ([] : va_W) sz)) 0 0 (va_A ([] : va_W) sz) := by
  have n1 : ¬ nI 4 = nI 15 := by decide
  have n2 : ¬ nI 4 = nI 16 := by decide
  have n3 : ¬ nI 5 = nI 15 := by decide
  have n4 : ¬ nI 5 = nI 16 := by decide
  refine zEnt (Qc := fun F => (va_Qi (fun (r : Int32) (_ : Unit) => (r = nI 1 ∧ okC o x) ∨ (r = nI 0 ∧ ¬ okC o x)) (fun (_ : Unit) t => zB D [] F ([] : va_W) t) F)) (by decide) (Nat.le_of_ble_eq_true rfl) (fun p e s m below meth c ls F hx hb hr hlk hml hnm hw hown hsz hP hK hD hA hl => ?_)
  have hS : va_S F s.heap s.heap [] := va_S.rf
  have hown : s.vm.findClass RE = some m.cls := hown
  have hl : lv_has ls 3 [(0, .int o), (1, .long x)] := hl
  refine lv_iload_n hx hb dE_isInstruction_0 rfl (lv_at hl 0 rfl) ?_
  refine lv_if_lt (tgt := 10) hx hb dE_isInstruction_1 rfl (fun h1 => ?_) (fun h1 => ?_)
  · refine lv_iconst (v := nI 0) hx hb dE_isInstruction_10 (by decide) ?_
    exact zZret (w' := fun (_ : Unit) => ([] : va_W)) () hx hb hr (by decide) hlk hS hK (Or.inr ⟨rfl, by clear hl hx hb hr hlk hml hnm hw hown hP hK hD hA hS; unfold okC; grind⟩) hP hD dE_isInstruction_11
  · refine lv_iload_n hx hb dE_isInstruction_4 rfl (lv_at hl 0 rfl) ?_
    refine lv_bipush (v := nI 18) hx hb dE_isInstruction_5 (by decide) ?_
    refine lv_icmp_le (tgt := 12) hx hb dE_isInstruction_7 rfl (fun h7 => ?_) (fun h7 => ?_)
    · refine lv_iload_n hx hb dE_isInstruction_12 rfl (lv_at hl 0 rfl) ?_
      refine lv_iconst (v := nI 4) hx hb dE_isInstruction_13 (by decide) ?_
      refine lv_icmp_eq (tgt := 22) hx hb dE_isInstruction_14 rfl (fun h14 => ?_) (fun h14 => ?_)
      · refine lv_lload_n hx hb dE_isInstruction_22 rfl (lv_at hl 1 rfl) ?_
        refine lv_lconst (v := 0) hx hb dE_isInstruction_23 (by decide) ?_
        refine W.lcmp hx hb dE_isInstruction_24 ?_
        refine zl_lt (tgt := 40) hx hb dE_isInstruction_25 rfl (fun h25 => ?_) (fun h25 => ?_)
        · refine lv_iconst (v := nI 0) hx hb dE_isInstruction_40 (by decide) ?_
          exact zZret (w' := fun (_ : Unit) => ([] : va_W)) () hx hb hr (by decide) hlk hS hK (Or.inr ⟨rfl, by clear hl hx hb hr hlk hml hnm hw hown hP hK hD hA hS; unfold okC; grind⟩) hP hD dE_isInstruction_41
        · refine lv_lload_n hx hb dE_isInstruction_28 rfl (lv_at hl 1 rfl) ?_
          refine lv_ldc2 (v := 4) hx hb hown (hw _ wl_E_102) dE_isInstruction_29 ?_
          refine W.lcmp hx hb dE_isInstruction_32 ?_
          refine zl_ge (tgt := 40) hx hb dE_isInstruction_33 rfl (fun h33 => ?_) (fun h33 => ?_)
          · refine lv_iconst (v := nI 0) hx hb dE_isInstruction_40 (by decide) ?_
            exact zZret (w' := fun (_ : Unit) => ([] : va_W)) () hx hb hr (by decide) hlk hS hK (Or.inr ⟨rfl, by clear hl hx hb hr hlk hml hnm hw hown hP hK hD hA hS; unfold okC; grind⟩) hP hD dE_isInstruction_41
          · refine lv_iconst (v := nI 1) hx hb dE_isInstruction_36 (by decide) ?_
            refine lv_goto (tgt := 41) hx hb dE_isInstruction_37 rfl ?_
            exact zZret (w' := fun (_ : Unit) => ([] : va_W)) () hx hb hr (by decide) hlk hS hK (Or.inl ⟨rfl, by clear hl hx hb hr hlk hml hnm hw hown hP hK hD hA hS; unfold okC; grind⟩) hP hD dE_isInstruction_41
      · refine lv_iload_n hx hb dE_isInstruction_17 rfl (lv_at hl 0 rfl) ?_
        refine lv_iconst (v := nI 5) hx hb dE_isInstruction_18 (by decide) ?_
        refine lv_icmp_ne (tgt := 42) hx hb dE_isInstruction_19 rfl (fun h19 => ?_) (fun h19 => ?_)
        · refine lv_iload_n hx hb dE_isInstruction_42 rfl (lv_at hl 0 rfl) ?_
          refine lv_bipush (v := nI 15) hx hb dE_isInstruction_43 (by decide) ?_
          refine lv_icmp_eq (tgt := 54) hx hb dE_isInstruction_45 rfl (fun h45 => ?_) (fun h45 => ?_)
          · refine lv_lload_n hx hb dE_isInstruction_54 rfl (lv_at hl 1 rfl) ?_
            refine lv_lconst (v := 0) hx hb dE_isInstruction_55 (by decide) ?_
            refine W.lcmp hx hb dE_isInstruction_56 ?_
            refine zl_lt (tgt := 72) hx hb dE_isInstruction_57 rfl (fun h57 => ?_) (fun h57 => ?_)
            · refine lv_iconst (v := nI 0) hx hb dE_isInstruction_72 (by decide) ?_
              exact zZret (w' := fun (_ : Unit) => ([] : va_W)) () hx hb hr (by decide) hlk hS hK (Or.inr ⟨rfl, by clear hl hx hb hr hlk hml hnm hw hown hP hK hD hA hS; unfold okC; grind⟩) hP hD dE_isInstruction_73
            · refine lv_lload_n hx hb dE_isInstruction_60 rfl (lv_at hl 1 rfl) ?_
              refine lv_ldc2 (v := 40) hx hb hown (hw _ wl_E_104) dE_isInstruction_61 ?_
              refine W.lcmp hx hb dE_isInstruction_64 ?_
              refine zl_gt (tgt := 72) hx hb dE_isInstruction_65 rfl (fun h65 => ?_) (fun h65 => ?_)
              · refine lv_iconst (v := nI 0) hx hb dE_isInstruction_72 (by decide) ?_
                exact zZret (w' := fun (_ : Unit) => ([] : va_W)) () hx hb hr (by decide) hlk hS hK (Or.inr ⟨rfl, by clear hl hx hb hr hlk hml hnm hw hown hP hK hD hA hS; unfold okC; grind⟩) hP hD dE_isInstruction_73
              · refine lv_iconst (v := nI 1) hx hb dE_isInstruction_68 (by decide) ?_
                refine lv_goto (tgt := 73) hx hb dE_isInstruction_69 rfl ?_
                exact zZret (w' := fun (_ : Unit) => ([] : va_W)) () hx hb hr (by decide) hlk hS hK (Or.inl ⟨rfl, by clear hl hx hb hr hlk hml hnm hw hown hP hK hD hA hS; unfold okC; grind⟩) hP hD dE_isInstruction_73
          · refine lv_iload_n hx hb dE_isInstruction_48 rfl (lv_at hl 0 rfl) ?_
            refine lv_bipush (v := nI 16) hx hb dE_isInstruction_49 (by decide) ?_
            refine lv_icmp_ne (tgt := 74) hx hb dE_isInstruction_51 rfl (fun h51 => ?_) (fun h51 => ?_)
            · refine lv_iconst (v := nI 1) hx hb dE_isInstruction_74 (by decide) ?_
              exact zZret (w' := fun (_ : Unit) => ([] : va_W)) () hx hb hr (by decide) hlk hS hK (Or.inl ⟨rfl, by clear hl hx hb hr hlk hml hnm hw hown hP hK hD hA hS; unfold okC; grind⟩) hP hD dE_isInstruction_75
            · refine lv_lload_n hx hb dE_isInstruction_54 rfl (lv_at hl 1 rfl) ?_
              refine lv_lconst (v := 0) hx hb dE_isInstruction_55 (by decide) ?_
              refine W.lcmp hx hb dE_isInstruction_56 ?_
              refine zl_lt (tgt := 72) hx hb dE_isInstruction_57 rfl (fun h57 => ?_) (fun h57 => ?_)
              · refine lv_iconst (v := nI 0) hx hb dE_isInstruction_72 (by decide) ?_
                exact zZret (w' := fun (_ : Unit) => ([] : va_W)) () hx hb hr (by decide) hlk hS hK (Or.inr ⟨rfl, by clear hl hx hb hr hlk hml hnm hw hown hP hK hD hA hS; unfold okC; grind⟩) hP hD dE_isInstruction_73
              · refine lv_lload_n hx hb dE_isInstruction_60 rfl (lv_at hl 1 rfl) ?_
                refine lv_ldc2 (v := 40) hx hb hown (hw _ wl_E_104) dE_isInstruction_61 ?_
                refine W.lcmp hx hb dE_isInstruction_64 ?_
                refine zl_gt (tgt := 72) hx hb dE_isInstruction_65 rfl (fun h65 => ?_) (fun h65 => ?_)
                · refine lv_iconst (v := nI 0) hx hb dE_isInstruction_72 (by decide) ?_
                  exact zZret (w' := fun (_ : Unit) => ([] : va_W)) () hx hb hr (by decide) hlk hS hK (Or.inr ⟨rfl, by clear hl hx hb hr hlk hml hnm hw hown hP hK hD hA hS; unfold okC; grind⟩) hP hD dE_isInstruction_73
                · refine lv_iconst (v := nI 1) hx hb dE_isInstruction_68 (by decide) ?_
                  refine lv_goto (tgt := 73) hx hb dE_isInstruction_69 rfl ?_
                  exact zZret (w' := fun (_ : Unit) => ([] : va_W)) () hx hb hr (by decide) hlk hS hK (Or.inl ⟨rfl, by clear hl hx hb hr hlk hml hnm hw hown hP hK hD hA hS; unfold okC; grind⟩) hP hD dE_isInstruction_73
        · refine lv_lload_n hx hb dE_isInstruction_22 rfl (lv_at hl 1 rfl) ?_
          refine lv_lconst (v := 0) hx hb dE_isInstruction_23 (by decide) ?_
          refine W.lcmp hx hb dE_isInstruction_24 ?_
          refine zl_lt (tgt := 40) hx hb dE_isInstruction_25 rfl (fun h25 => ?_) (fun h25 => ?_)
          · refine lv_iconst (v := nI 0) hx hb dE_isInstruction_40 (by decide) ?_
            exact zZret (w' := fun (_ : Unit) => ([] : va_W)) () hx hb hr (by decide) hlk hS hK (Or.inr ⟨rfl, by clear hl hx hb hr hlk hml hnm hw hown hP hK hD hA hS; unfold okC; grind⟩) hP hD dE_isInstruction_41
          · refine lv_lload_n hx hb dE_isInstruction_28 rfl (lv_at hl 1 rfl) ?_
            refine lv_ldc2 (v := 4) hx hb hown (hw _ wl_E_102) dE_isInstruction_29 ?_
            refine W.lcmp hx hb dE_isInstruction_32 ?_
            refine zl_ge (tgt := 40) hx hb dE_isInstruction_33 rfl (fun h33 => ?_) (fun h33 => ?_)
            · refine lv_iconst (v := nI 0) hx hb dE_isInstruction_40 (by decide) ?_
              exact zZret (w' := fun (_ : Unit) => ([] : va_W)) () hx hb hr (by decide) hlk hS hK (Or.inr ⟨rfl, by clear hl hx hb hr hlk hml hnm hw hown hP hK hD hA hS; unfold okC; grind⟩) hP hD dE_isInstruction_41
            · refine lv_iconst (v := nI 1) hx hb dE_isInstruction_36 (by decide) ?_
              refine lv_goto (tgt := 41) hx hb dE_isInstruction_37 rfl ?_
              exact zZret (w' := fun (_ : Unit) => ([] : va_W)) () hx hb hr (by decide) hlk hS hK (Or.inl ⟨rfl, by clear hl hx hb hr hlk hml hnm hw hown hP hK hD hA hS; unfold okC; grind⟩) hP hD dE_isInstruction_41
    · refine lv_iconst (v := nI 0) hx hb dE_isInstruction_10 (by decide) ?_
      exact zZret (w' := fun (_ : Unit) => ([] : va_W)) () hx hb hr (by decide) hlk hS hK (Or.inr ⟨rfl, by clear hl hx hb hr hlk hml hnm hw hown hP hK hD hA hS; unfold okC; grind⟩) hP hD dE_isInstruction_11
end
section
/-! EmitDesk: what a throw needs of the state; a throw; the public methods -/
def zStr : List (Nat × String) := [(38, "no such instruction"), (49, "the program is full"), (55, "no room for a value"), (57, "no such way"), (63, "the program goes behind its end"), (78, "a trap"), (86, "no such pair"), (98, "nothing of that number is told"), (100, "no such cell")]
def zCx (U : State) : Prop := va_Nw (.castable "java/lang/IllegalArgumentException" "java/lang/IllegalArgumentException") U ∧ va_Nw (.castable "java/lang/IllegalStateException" "java/lang/IllegalStateException") U ∧ va_Nw (.castable "java/lang/UnsupportedOperationException" "java/lang/UnsupportedOperationException") U ∧ va_Nw (.castable "java/lang/IndexOutOfBoundsException" "java/lang/IndexOutOfBoundsException") U ∧ (va_Nw (.declares (Bundle.initS "java/lang/RuntimeException")) U ∧ va_Nw (.declares (Bundle.initS "java/lang/Exception")) U ∧ va_Nw (.declares (Bundle.initS "java/lang/Throwable")) U) ∧ ∀ q ∈ zStr, ∃ a, vk_R "EmitDesk" q.1 q.2 a U
abbrev zDc (X : String) : List Cond := [Cond.castable X X, .declares (Bundle.initS "java/lang/RuntimeException"), .declares (Bundle.initS "java/lang/Exception"), .declares (Bundle.initS "java/lang/Throwable")]
def zX (A : Nat → Prop) (U : State) : Prop := zCx U ∧ vx_Zq Bundle.tN "UNASSIGNED_STACK" Bundle.steD A U U.heap ∧ vx_Zq Bundle.tN "SUPPRESSED_SENTINEL" Bundle.listD A U U.heap
theorem zCx.warm {s U : State} (hW : s.WarmedH U.vm) (h : zCx s) : zCx U := by
  obtain ⟨h1, h2, h3, h4, ⟨h6, h7, h8⟩, h5⟩ := h
  exact ⟨h1.warmC hW, h2.warmC hW, h3.warmC hW, h4.warmC hW, ⟨h6.warmD hW, h7.warmD hW, h8.warmD hW⟩, fun q hq => (h5 q hq).elim (fun a ha => ⟨a, ha.warm hW⟩)⟩
theorem zX.call {F B : Nat → Prop} {s U : State} {H : Heap} {locs : List Loc} (h : zX F s) (hS : va_S F s.heap H locs) (hB : ∀ q, B q → F q) (hU : U.heap = H) (hW : s.WarmedH U.vm) : zX B U := by
  obtain ⟨h1, h2, h3⟩ := h
  exact ⟨h1.warm hW, by rw [hU]; exact ((h2.kept hS.2.1).moved hW.alike).narrow hB, by rw [hU]; exact ((h3.kept hS.2.1).moved hW.alike).narrow hB⟩
theorem zBlindX {argl : List Value} {D : va_G} {tys : List (ClassId × FieldType)} {sz : Nat} {w : va_W} {A : Nat → Prop} : FrameBlind (va_Pc argl (fun U => zP D tys sz w U ∧ zX A U)) := fun a U g mk q => by
  obtain ⟨q0, ⟨q1, qP, qK, qD⟩, ⟨x1, x2, x3⟩⟩ := q
  exact ⟨q0, ⟨q1, qP, va_K.moved (u := U) (U := U.calling g mk a) (Vm.Alike.refl U.vm) qK, qD⟩, ⟨zCx.warm (U := U.calling g mk a) (State.WarmedH.refl U) x1, vx_Zq.moved (u := U) (U := U.calling g mk a) (Vm.Alike.refl U.vm) x2, vx_Zq.moved (u := U) (U := U.calling g mk a) (Vm.Alike.refl U.vm) x3⟩⟩
abbrev rmx (f lo : Nat) : Room := { frames := f, cells := 1, slots := 6, locals := lo }
abbrev zNms : List String := ["java/lang/RuntimeException", "java/lang/Exception"]
theorem zNfit : ∀ n ∈ zNms, Bundle.fit n = true := by decide +kernel

theorem wx_IAE_in : ∀ w ∈ (vx_atS "EmitDesk" 40 "java/lang/IllegalArgumentException" zNms).filter goodWord, w ∈ WS := by decide +kernel
theorem wx_IAE_no : ∀ w ∈ (vx_atS "EmitDesk" 40 "java/lang/IllegalArgumentException" zNms).filter (fun w => !goodWord w), w ∈ zDc "java/lang/IllegalArgumentException" := by decide +kernel
theorem wx_IAE_ot : ∀ w ∈ Cond.classLink "EmitDesk" 36 "java/lang/IllegalArgumentException" :: Cond.initialized "java/lang/IllegalArgumentException" :: vx_atS "EmitDesk" 40 "java/lang/IllegalArgumentException" zNms, vx_ot w = true := by decide +kernel
theorem wx_ISE_in : ∀ w ∈ (vx_atS "EmitDesk" 51 "java/lang/IllegalStateException" zNms).filter goodWord, w ∈ WS := by decide +kernel
theorem wx_ISE_no : ∀ w ∈ (vx_atS "EmitDesk" 51 "java/lang/IllegalStateException" zNms).filter (fun w => !goodWord w), w ∈ zDc "java/lang/IllegalStateException" := by decide +kernel
theorem wx_ISE_ot : ∀ w ∈ Cond.classLink "EmitDesk" 47 "java/lang/IllegalStateException" :: Cond.initialized "java/lang/IllegalStateException" :: vx_atS "EmitDesk" 51 "java/lang/IllegalStateException" zNms, vx_ot w = true := by decide +kernel
theorem wx_UOE_in : ∀ w ∈ (vx_atS "EmitDesk" 80 "java/lang/UnsupportedOperationException" zNms).filter goodWord, w ∈ WS := by decide +kernel
theorem wx_UOE_no : ∀ w ∈ (vx_atS "EmitDesk" 80 "java/lang/UnsupportedOperationException" zNms).filter (fun w => !goodWord w), w ∈ zDc "java/lang/UnsupportedOperationException" := by decide +kernel
theorem wx_UOE_ot : ∀ w ∈ Cond.classLink "EmitDesk" 76 "java/lang/UnsupportedOperationException" :: Cond.initialized "java/lang/UnsupportedOperationException" :: vx_atS "EmitDesk" 80 "java/lang/UnsupportedOperationException" zNms, vx_ot w = true := by decide +kernel
theorem wx_IOOBE_in : ∀ w ∈ (vx_atS "EmitDesk" 88 "java/lang/IndexOutOfBoundsException" zNms).filter goodWord, w ∈ WS := by decide +kernel
theorem wx_IOOBE_no : ∀ w ∈ (vx_atS "EmitDesk" 88 "java/lang/IndexOutOfBoundsException" zNms).filter (fun w => !goodWord w), w ∈ zDc "java/lang/IndexOutOfBoundsException" := by decide +kernel
theorem wx_IOOBE_ot : ∀ w ∈ Cond.classLink "EmitDesk" 84 "java/lang/IndexOutOfBoundsException" :: Cond.initialized "java/lang/IndexOutOfBoundsException" :: vx_atS "EmitDesk" 88 "java/lang/IndexOutOfBoundsException" zNms, vx_ot w = true := by decide +kernel
section ZT
variable {p : Program} {l : Launch} {e : Env} {R : Room} {s : State} {m : MethodId} {args : Array Value} {below : List Frame} {meth : Method} {c : Code} {H : Heap} {locs : List Loc} {cells slots : Nat}
variable {cc : ByteArray} {pc : Nat} {ls : Array Slot} {rest : List Value} {D : va_G} {F : Nat → Prop} {tys : List (ClassId × FieldType)} {w : va_W} {Qc : Array Value → State → Outcome → State → Prop}
/-- a throw of EmitDesk's: nothing of the world changes -/
theorem zThrow {S : Type} {w' : S → va_W} (u : S) (X : String) {ik is ic : Nat} {text : String} (hl9 : l.stackTraces = false) (hx : p.tables.exec = Jvm.exec) (hb : c.code = cc) (hlk : meth.locks = false) (hout : ∀ x ∈ c.exceptionTable.toList, False) (hw : ∀ w ∈ WS, w.before args s = true) (hown : s.vm.findClass RE = some m.cls) (hX : zX F s) (hK : va_K D vwCl tys s) (hP : va_P D vwCl (w' u) H) (hD : va_D F (w' u)) (hS : va_S F s.heap H locs) (hsize : ls.size = c.maxLocals)
    (hfit : Bundle.fit X = true) (k1 : Cond.classLink "EmitDesk" ik X ∈ WS) (k2 : Cond.initialized X ∈ WS) (hin : ∀ w ∈ (vx_atS "EmitDesk" ic X zNms).filter goodWord, w ∈ WS) (hno : ∀ w ∈ (vx_atS "EmitDesk" ic X zNms).filter (fun w => !goodWord w), w ∈ zDc X) (hot : ∀ w ∈ Cond.classLink "EmitDesk" ik X :: Cond.initialized X :: vx_atS "EmitDesk" ic X zNms, vx_ot w = true) (hca : va_Nw (.castable X X) s) (hstr : (is, text) ∈ zStr)
    (d0 : decode cc pc = .ok (.new ik, 3)) (d3 : decode cc (pc + 3) = .ok (.dup, 1)) (d4 : decode cc (pc + 4) = .ok (.ldc is, 2)) (d6 : decode cc (pc + 6) = .ok (.invokespecial ic, 3)) (d9 : decode cc (pc + 9) = .ok (.athrow, 1)) (hf : 5 < R.frames) (hlo : (rest.map fun v => v.category).sum + 82 ≤ R.locals) (hc : cells + 1 ≤ R.cells) (hs : slots + 6 ≤ R.slots) :
    W p l e R s m args below meth c H locs cells slots (vx_MQ below Qc (vx_X (fun _ : S => True) (fun E (u : S) t => E = X ∧ zB D tys F (w' u) t) F) args s (cells + 1) (slots + 6) F) (F0 m pc ls rest) := by
  obtain ⟨sa, hsa⟩ := hX.1.2.2.2.2.2 (is, text) hstr
  exact vx_throwS (own := "EmitDesk") (cls := X) (text := text) (names := zNms) (ik := ik) (is := is) (ic := ic) (sa := sa) hx hb hl9 hown hfit zNfit (hw _ k1) (hw _ k2) hsa (vx_hat (fun w h => hw w (hin w h)) hno (vx_c (va_Nw.use rfl hca) (vx_c (va_Nw.use rfl hX.1.2.2.2.2.1.1) (vx_c (va_Nw.use rfl hX.1.2.2.2.2.1.2.1) (vx_c (va_Nw.use rfl hX.1.2.2.2.2.1.2.2) vx_n))))) hot hX.2.1 hX.2.2 hS hsize d0 d3 d4 d6 d9 (fun x h => (hout x h).elim) hf hlo hc hs hlk
    (fun t hal hz hq => ⟨u, trivial, ⟨rfl, hP.kept (fun k q hk => hq q.1 (hP k q hk).lt), va_K.moved hal hK, hD⟩, ⟨Nat.le_trans hS.1 hz, fun q h1 h2 => (hq q (Nat.lt_of_lt_of_le h1 hS.1)).trans (hS.2.1 q h1 h2)⟩⟩) hS.2.2 (Nat.le_refl _) (Nat.le_refl _)
end ZT
theorem zEntX {l : Launch} {y : MethodName} {cc : ByteArray} {maxL : Nat} {ret : Option FieldType} {rm : Room} {argl : List Value} {D : va_G} {tys : List (ClassId × FieldType)} {sz : Nat} {w : va_W} {Qc : (Nat → Prop) → Array Value → State → Outcome → State → Prop} {XC : (Nat → Prop) → String → State → State → Prop} {mc ms : Nat} (hy : plainName y.cls = true) (hlen : (lg_sl argl).length ≤ maxL)
    (body : ∀ (p : Program) (e : Env) (s : State) (m : MethodId) (below : List Frame) (meth : Method) (c : Code) (ls : Array Slot) (F : Nat → Prop), p.tables.exec = Jvm.exec → c.code = cc → meth.sig.returnType = ret → meth.locks = false → c.maxLocals = maxL → (∀ x ∈ c.exceptionTable.toList, False) → (∀ w ∈ WS, w.before argl.toArray s = true) → s.vm.findClass y.cls = some m.cls → s.heap.size = sz → va_P D vwCl w s.heap → va_K D vwCl tys s → va_D F w → (∀ q, s.heap.size ≤ q → F q) → zX F s → lv_has ls maxL (lv_args 0 argl) →
      W p l e rm s m argl.toArray below meth c s.heap [] 0 0 (vx_MQ below (Qc F) (XC F) argl.toArray s mc ms F) (F0 m 0 ls [])) :
    vx_Met l y (.code y cc maxL ret :: WS) rm (va_Pc argl (fun U => zP D tys sz w U ∧ zX (va_A w sz) U)) (Qc (va_A w sz)) (XC (va_A w sz)) mc ms (va_A w sz) := by
  refine vx_ofW (cc := cc) (maxL := maxL) (ret := ret) hy rfl ?_
  intro p e s m args below meth c s₁ B hml hout hv
  obtain ⟨rfl, ⟨hsz, hP, hK, hD0⟩, hX⟩ := hv
  have hts := atoms_spec (ws := .code y cc maxL ret :: WS) B.pre
  have hl := lv_entry argl (n := maxL) hlen
  rw [lg_entry_eq]
  exact body p e s m below meth c _ (va_A w sz) B.exec B.bytes B.returns B.notSynchronized hml hout (fun w h => hts w (List.mem_cons_of_mem _ h)) (findClass_of_methodNamed B.named) hsz hP hK hD0.self (fun q h => Or.inr (hsz ▸ h)) hX hl
end
section
/-! EmitDesk: the public methods, each where it answers and where it throws -/
section ZI
variable {p : Program} {l : Launch} {e : Env} {R : Room} {s : State} {m : MethodId} {args : Array Value} {below : List Frame} {meth : Method} {c : Code} {H : Heap} {locs : List Loc} {cells slots : Nat} {Q : State → Prop}
variable {cc : ByteArray} {pc : Nat} {ls : Array Slot} {rest : List Value}
theorem zi_lt (hx : p.tables.exec = Jvm.exec) (hb : c.code = cc) {x : Nat} {off : Int} {tgt : Nat} (hdg : decode cc pc = .ok (.ifCond .lt off, 3)) (ht : (pc : Int) + off = (tgt : Int)) (bx : x < 2 ^ 31)
    (kt : x < 0 → W p l e R s m args below meth c H locs cells slots Q (F0 m tgt ls rest)) (kf : 0 ≤ x → W p l e R s m args below meth c H locs cells slots Q (F0 m (pc + 3) ls rest)) : W p l e R s m args below meth c H locs cells slots Q (F0 m pc ls (.int (nI x) :: rest)) :=
  lv_if_lt hx hb hdg ht (fun h => absurd h (nI_pos bx)) (fun _ => kf (Nat.zero_le _))
theorem zi_ge (hx : p.tables.exec = Jvm.exec) (hb : c.code = cc) {x : Nat} {off : Int} {tgt : Nat} (hdg : decode cc pc = .ok (.ifCond .ge off, 3)) (ht : (pc : Int) + off = (tgt : Int)) (bx : x < 2 ^ 31)
    (kt : 0 ≤ x → W p l e R s m args below meth c H locs cells slots Q (F0 m tgt ls rest)) (kf : x < 0 → W p l e R s m args below meth c H locs cells slots Q (F0 m (pc + 3) ls rest)) : W p l e R s m args below meth c H locs cells slots Q (F0 m pc ls (.int (nI x) :: rest)) :=
  lv_if_ge hx hb hdg ht (fun _ => kt (Nat.zero_le _)) (fun h => absurd (nI_pos' bx) h)
end ZI

set_option maxRecDepth 20000 in
set_option maxHeartbeats 4000000 in
theorem c_code_ok (l : Launch) (D : va_G) (A : Nat → Nat) (C : Nat → ClassId) (sz : Nat) (n : Nat) (ops : Nat → Int32) (nums : Nat → Int64) (vc : Nat) (vals : Nat → Int64) (d : Nat) (st : Nat → Int64) (ce : Nat → Int64) (pk : Nat → Int64) (pv : Nat → Int64) (pr : Nat) (w : Nat) (key : Int64) (pl : Nat) (dn : Nat) (tk : Nat) (tr : Nat) (o : Int32) (x : Int64) (hok : okC o x) (hn : n < 40) : Met l yE_code (.code yE_code cE_code 4 (some .int) :: WS) (rmk 1 22) (va_Pc [.ref (A 0), .int o, .long x] (zP D (eT C) sz (eW A C n ops nums vc vals d st ce pk pv pr w key pl dn tk tr))) (va_Qi (fun (r : Int32) (_ : Unit) => r = nI (n + 1)) (fun (_ : Unit) t => zB D (eT C) (va_A (eW A C n ops nums vc vals d st ce pk pv pr w key pl dn tk tr) sz) (eW A C (n + 1) (upd ops n o) (vp_updL nums n x) vc vals d st ce pk pv pr w key pl dn tk tr) t) (va_A (eW A C n ops nums vc vals d st ce pk pv pr w key pl dn tk tr) sz)) 0 0 (va_A (eW A C n ops nums vc vals d st ce pk pv pr w key pl dn tk tr) sz) := by
  refine zEnt (Qc := fun F => (va_Qi (fun (r : Int32) (_ : Unit) => r = nI (n + 1)) (fun (_ : Unit) t => zB D (eT C) F (eW A C (n + 1) (upd ops n o) (vp_updL nums n x) vc vals d st ce pk pv pr w key pl dn tk tr) t) F)) (by decide) (Nat.le_of_ble_eq_true rfl) (fun p e s m below meth c ls F hx hb hr hlk hml hnm hw hown hsz hP hK hD hA hl => ?_)
  have hS : va_S F s.heap s.heap [] := va_S.rf
  have hown : s.vm.findClass RE = some m.cls := hown
  have hl : lv_has ls 4 [(0, .ref (A 0)), (1, .int o), (2, .long x)] := hl
  refine lv_iload_n hx hb dE_code_0 rfl (lv_at hl 1 rfl) ?_
  refine lv_lload_n hx hb dE_code_1 rfl (lv_at hl 2 rfl) ?_
  refine zAfti (wa := []) (w := []) (wb := (eW A C n ops nums vc vals d st ce pk pv pr w key pl dn tk tr)) (zRunS (wa := []) (w := []) (wb := (eW A C n ops nums vc vals d st ce pk pv pr w key pl dn tk tr)) ⟨hx, hb, hml, hown, hw⟩ (c_isInstruction l D _ o x) wm_E_32 wt_E_isInstruction wn_E wc_E_isInstruction ⟨rfl, rfl⟩ wd_E_isInstruction ⟨by decide, by decide⟩ (hK.sub [] rfl) hP hD hl.1 rfl (Nat.le_of_ble_eq_true rfl) dE_code_2 ⟨by decide, by decide⟩) hP hD hS hA (fun r u H locs hp hP hD hS => ?_)
  replace hP : va_P D vwCl (eW A C n ops nums vc vals d st ce pk pv pr w key pl dn tk tr) H := hP
  replace hD : va_D F (eW A C n ops nums vc vals d st ce pk pv pr w key pl dn tk tr) := hD
  obtain ⟨rfl, -⟩ : r = nI 1 ∧ True := ⟨hp.elim (fun z => z.1) (fun z => absurd hok z.2), trivial⟩
  refine zi_ne (tgt := 18) hx hb dE_code_5 rfl (by omega) (fun _ => ?_) (fun q => absurd q (by omega))
  refine lv_aload_n hx hb dE_code_18 rfl (lv_at hl 0 rfl) ?_
  refine zGetE hx hb hw hown hK hP 0 rfl 2 (by decide) wf_E_43 rfl dE_code_19 ?_
  refine lv_bipush (v := nI 40) hx hb dE_code_22 (by decide) ?_
  refine zc_lt (tgt := 37) hx hb dE_code_24 rfl (by omega) (by omega) (fun _ => ?_) (fun q => absurd q (by omega))
  refine lv_aload_n hx hb dE_code_37 rfl (lv_at hl 0 rfl) ?_
  refine zGetE hx hb hw hown hK hP 0 rfl 0 (by decide) wf_E_9 rfl dE_code_38 ?_
  refine lv_aload_n hx hb dE_code_41 rfl (lv_at hl 0 rfl) ?_
  refine zGetE hx hb hw hown hK hP 0 rfl 2 (by decide) wf_E_43 rfl dE_code_42 ?_
  refine lv_iload_n hx hb dE_code_45 rfl (lv_at hl 1 rfl) ?_
  refine zIast hx hb hK hP hD hS 1 0 rfl rfl (by omega) (by decide) dE_code_46 (fun H locs hP hD hS => ?_)
  replace hP : va_P D vwCl (eW A C n (upd ops n o) nums vc vals d st ce pk pv pr w key pl dn tk tr) H := hP
  replace hD : va_D F (eW A C n (upd ops n o) nums vc vals d st ce pk pv pr w key pl dn tk tr) := hD
  refine lv_aload_n hx hb dE_code_47 rfl (lv_at hl 0 rfl) ?_
  refine zGetE hx hb hw hown hK hP 0 rfl 1 (by decide) wf_E_13 rfl dE_code_48 ?_
  refine lv_aload_n hx hb dE_code_51 rfl (lv_at hl 0 rfl) ?_
  refine zGetE hx hb hw hown hK hP 0 rfl 2 (by decide) wf_E_43 rfl dE_code_52 ?_
  refine lv_lload_n hx hb dE_code_55 rfl (lv_at hl 2 rfl) ?_
  refine zLast hx hb hK hP hD hS 2 1 rfl rfl (by omega) (by decide) dE_code_56 (fun H locs hP hD hS => ?_)
  replace hP : va_P D vwCl (eW A C n (upd ops n o) (vp_updL nums n x) vc vals d st ce pk pv pr w key pl dn tk tr) H := hP
  replace hD : va_D F (eW A C n (upd ops n o) (vp_updL nums n x) vc vals d st ce pk pv pr w key pl dn tk tr) := hD
  refine lv_aload_n hx hb dE_code_57 rfl (lv_at hl 0 rfl) ?_
  refine lv_dup hx hb dE_code_58 rfl ?_
  refine zGetE hx hb hw hown hK hP 0 rfl 2 (by decide) wf_E_43 rfl dE_code_59 ?_
  refine lv_iconst (v := nI 1) hx hb dE_code_62 (by decide) ?_
  refine lv_iadd hx hb dE_code_63 ?_
  refine zti (nI_add _ _) ?_
  refine zPutE hx hb hw hown hK hP hD hS 0 rfl 2 (by decide) wf_E_43 rfl rfl rfl (Nat.le_of_ble_eq_true rfl) dE_code_64 (fun H locs hP hD hS => ?_)
  replace hP : va_P D vwCl (eW A C (n + 1) (upd ops n o) (vp_updL nums n x) vc vals d st ce pk pv pr w key pl dn tk tr) H := hP
  replace hD : va_D F (eW A C (n + 1) (upd ops n o) (vp_updL nums n x) vc vals d st ce pk pv pr w key pl dn tk tr) := hD
  refine lv_aload_n hx hb dE_code_67 rfl (lv_at hl 0 rfl) ?_
  refine zGetE hx hb hw hown hK hP 0 rfl 2 (by decide) wf_E_43 rfl dE_code_68 ?_
  exact zIret (w' := fun (_ : Unit) => (eW A C (n + 1) (upd ops n o) (vp_updL nums n x) vc vals d st ce pk pv pr w key pl dn tk tr)) () hx hb hr hlk hS hK rfl hP hD dE_code_71

set_option maxRecDepth 20000 in
set_option maxHeartbeats 4000000 in
theorem c_code_iae (l : Launch) (hl9 : l.stackTraces = false) (D : va_G) (A : Nat → Nat) (C : Nat → ClassId) (sz : Nat) (n : Nat) (ops : Nat → Int32) (nums : Nat → Int64) (vc : Nat) (vals : Nat → Int64) (d : Nat) (st : Nat → Int64) (ce : Nat → Int64) (pk : Nat → Int64) (pv : Nat → Int64) (pr : Nat) (w : Nat) (key : Int64) (pl : Nat) (dn : Nat) (tk : Nat) (tr : Nat) (o : Int32) (x : Int64) (hok : ¬ okC o x) : vx_Met l yE_code (.code yE_code cE_code 4 (some .int) :: WS) (rmx 6 82) (va_Pc [.ref (A 0), .int o, .long x] (fun U => zP D (eT C) sz (eW A C n ops nums vc vals d st ce pk pv pr w key pl dn tk tr) U ∧ zX (va_A (eW A C n ops nums vc vals d st ce pk pv pr w key pl dn tk tr) sz) U)) (va_Qi (fun (_ : Int32) (_ : Unit) => False) (fun (_ : Unit) (_ : State) => True) (va_A (eW A C n ops nums vc vals d st ce pk pv pr w key pl dn tk tr) sz)) (vx_X (fun _ : Unit => True) (fun E (_ : Unit) t => E = "java/lang/IllegalArgumentException" ∧ zB D (eT C) (va_A (eW A C n ops nums vc vals d st ce pk pv pr w key pl dn tk tr) sz) (eW A C n ops nums vc vals d st ce pk pv pr w key pl dn tk tr) t) (va_A (eW A C n ops nums vc vals d st ce pk pv pr w key pl dn tk tr) sz)) 1 6 (va_A (eW A C n ops nums vc vals d st ce pk pv pr w key pl dn tk tr) sz) := by
  refine zEntX (Qc := fun F => (va_Qi (fun (_ : Int32) (_ : Unit) => False) (fun (_ : Unit) (_ : State) => True) F)) (XC := fun F => (vx_X (fun _ : Unit => True) (fun E (_ : Unit) t => E = "java/lang/IllegalArgumentException" ∧ zB D (eT C) F (eW A C n ops nums vc vals d st ce pk pv pr w key pl dn tk tr) t) F)) (by decide) (Nat.le_of_ble_eq_true rfl) (fun p e s m below meth c ls F hx hb hr hlk hml hout hw hown hsz hP hK hD hA hX hl => ?_)
  have hS : va_S F s.heap s.heap [] := va_S.rf
  have hown : s.vm.findClass RE = some m.cls := hown
  have hl : lv_has ls 4 [(0, .ref (A 0)), (1, .int o), (2, .long x)] := hl
  refine lv_iload_n hx hb dE_code_0 rfl (lv_at hl 1 rfl) ?_
  refine lv_lload_n hx hb dE_code_1 rfl (lv_at hl 2 rfl) ?_
  refine zAfti (wa := []) (w := []) (wb := (eW A C n ops nums vc vals d st ce pk pv pr w key pl dn tk tr)) (zRunS (wa := []) (w := []) (wb := (eW A C n ops nums vc vals d st ce pk pv pr w key pl dn tk tr)) ⟨hx, hb, hml, hown, hw⟩ (c_isInstruction l D _ o x) wm_E_32 wt_E_isInstruction wn_E wc_E_isInstruction ⟨rfl, rfl⟩ wd_E_isInstruction ⟨by decide, by decide⟩ (hK.sub [] rfl) hP hD hl.1 rfl (Nat.le_of_ble_eq_true rfl) dE_code_2 ⟨by decide, by decide⟩) hP hD hS hA (fun r u H locs hp hP hD hS => ?_)
  replace hP : va_P D vwCl (eW A C n ops nums vc vals d st ce pk pv pr w key pl dn tk tr) H := hP
  replace hD : va_D F (eW A C n ops nums vc vals d st ce pk pv pr w key pl dn tk tr) := hD
  obtain ⟨rfl, -⟩ : r = nI 0 ∧ True := ⟨hp.elim (fun z => absurd z.2 hok) (fun z => z.1), trivial⟩
  refine zi_ne (tgt := 18) hx hb dE_code_5 rfl (by omega) (fun q => absurd q (by omega)) (fun _ => ?_)
  exact zThrow (w' := fun (_ : Unit) => (eW A C n ops nums vc vals d st ce pk pv pr w key pl dn tk tr)) () "java/lang/IllegalArgumentException" (is := 38) (text := "no such instruction") hl9 hx hb hlk hout hw hown hX hK hP hD hS (hl.1.trans hml.symm) (by decide +kernel) wk_E_36 wn_IAE wx_IAE_in wx_IAE_no wx_IAE_ot hX.1.1 (by decide) dE_code_8 dE_code_11 dE_code_12 dE_code_14 dE_code_17 (by decide) (by decide) (by decide) (by decide)
set_option maxRecDepth 20000 in
set_option maxHeartbeats 4000000 in
theorem c_code_ise (l : Launch) (hl9 : l.stackTraces = false) (D : va_G) (A : Nat → Nat) (C : Nat → ClassId) (sz : Nat) (n : Nat) (ops : Nat → Int32) (nums : Nat → Int64) (vc : Nat) (vals : Nat → Int64) (d : Nat) (st : Nat → Int64) (ce : Nat → Int64) (pk : Nat → Int64) (pv : Nat → Int64) (pr : Nat) (w : Nat) (key : Int64) (pl : Nat) (dn : Nat) (tk : Nat) (tr : Nat) (o : Int32) (x : Int64) (hok : okC o x) (hn : n = 40) : vx_Met l yE_code (.code yE_code cE_code 4 (some .int) :: WS) (rmx 6 82) (va_Pc [.ref (A 0), .int o, .long x] (fun U => zP D (eT C) sz (eW A C n ops nums vc vals d st ce pk pv pr w key pl dn tk tr) U ∧ zX (va_A (eW A C n ops nums vc vals d st ce pk pv pr w key pl dn tk tr) sz) U)) (va_Qi (fun (_ : Int32) (_ : Unit) => False) (fun (_ : Unit) (_ : State) => True) (va_A (eW A C n ops nums vc vals d st ce pk pv pr w key pl dn tk tr) sz)) (vx_X (fun _ : Unit => True) (fun E (_ : Unit) t => E = "java/lang/IllegalStateException" ∧ zB D (eT C) (va_A (eW A C n ops nums vc vals d st ce pk pv pr w key pl dn tk tr) sz) (eW A C n ops nums vc vals d st ce pk pv pr w key pl dn tk tr) t) (va_A (eW A C n ops nums vc vals d st ce pk pv pr w key pl dn tk tr) sz)) 1 6 (va_A (eW A C n ops nums vc vals d st ce pk pv pr w key pl dn tk tr) sz) := by
  refine zEntX (Qc := fun F => (va_Qi (fun (_ : Int32) (_ : Unit) => False) (fun (_ : Unit) (_ : State) => True) F)) (XC := fun F => (vx_X (fun _ : Unit => True) (fun E (_ : Unit) t => E = "java/lang/IllegalStateException" ∧ zB D (eT C) F (eW A C n ops nums vc vals d st ce pk pv pr w key pl dn tk tr) t) F)) (by decide) (Nat.le_of_ble_eq_true rfl) (fun p e s m below meth c ls F hx hb hr hlk hml hout hw hown hsz hP hK hD hA hX hl => ?_)
  have hS : va_S F s.heap s.heap [] := va_S.rf
  have hown : s.vm.findClass RE = some m.cls := hown
  have hl : lv_has ls 4 [(0, .ref (A 0)), (1, .int o), (2, .long x)] := hl
  refine lv_iload_n hx hb dE_code_0 rfl (lv_at hl 1 rfl) ?_
  refine lv_lload_n hx hb dE_code_1 rfl (lv_at hl 2 rfl) ?_
  refine zAfti (wa := []) (w := []) (wb := (eW A C n ops nums vc vals d st ce pk pv pr w key pl dn tk tr)) (zRunS (wa := []) (w := []) (wb := (eW A C n ops nums vc vals d st ce pk pv pr w key pl dn tk tr)) ⟨hx, hb, hml, hown, hw⟩ (c_isInstruction l D _ o x) wm_E_32 wt_E_isInstruction wn_E wc_E_isInstruction ⟨rfl, rfl⟩ wd_E_isInstruction ⟨by decide, by decide⟩ (hK.sub [] rfl) hP hD hl.1 rfl (Nat.le_of_ble_eq_true rfl) dE_code_2 ⟨by decide, by decide⟩) hP hD hS hA (fun r u H locs hp hP hD hS => ?_)
  replace hP : va_P D vwCl (eW A C n ops nums vc vals d st ce pk pv pr w key pl dn tk tr) H := hP
  replace hD : va_D F (eW A C n ops nums vc vals d st ce pk pv pr w key pl dn tk tr) := hD
  obtain ⟨rfl, -⟩ : r = nI 1 ∧ True := ⟨hp.elim (fun z => z.1) (fun z => absurd hok z.2), trivial⟩
  refine zi_ne (tgt := 18) hx hb dE_code_5 rfl (by omega) (fun _ => ?_) (fun q => absurd q (by omega))
  refine lv_aload_n hx hb dE_code_18 rfl (lv_at hl 0 rfl) ?_
  refine zGetE hx hb hw hown hK hP 0 rfl 2 (by decide) wf_E_43 rfl dE_code_19 ?_
  refine lv_bipush (v := nI 40) hx hb dE_code_22 (by decide) ?_
  refine zc_lt (tgt := 37) hx hb dE_code_24 rfl (by omega) (by omega) (fun q => absurd q (by omega)) (fun _ => ?_)
  exact zThrow (w' := fun (_ : Unit) => (eW A C n ops nums vc vals d st ce pk pv pr w key pl dn tk tr)) () "java/lang/IllegalStateException" (is := 49) (text := "the program is full") hl9 hx hb hlk hout hw hown hX hK hP hD hS (hl.1.trans hml.symm) (by decide +kernel) wk_E_47 wn_ISE wx_ISE_in wx_ISE_no wx_ISE_ot hX.1.2.1 (by decide) dE_code_27 dE_code_30 dE_code_31 dE_code_33 dE_code_36 (by decide) (by decide) (by decide) (by decide)
set_option maxRecDepth 20000 in
set_option maxHeartbeats 4000000 in
theorem c_clear (l : Launch) (D : va_G) (A : Nat → Nat) (C : Nat → ClassId) (sz : Nat) (n : Nat) (ops : Nat → Int32) (nums : Nat → Int64) (vc : Nat) (vals : Nat → Int64) (d : Nat) (st : Nat → Int64) (ce : Nat → Int64) (pk : Nat → Int64) (pv : Nat → Int64) (pr : Nat) (w : Nat) (key : Int64) (pl : Nat) (dn : Nat) (tk : Nat) (tr : Nat) : Met l yE_clear (.code yE_clear cE_clear 2 (some .int) :: WS) (rmk 0 0) (va_Pc [.ref (A 0)] (zP D (eT C) sz (eW A C n ops nums vc vals d st ce pk pv pr w key pl dn tk tr))) (va_Qi (fun (r : Int32) (_ : Unit) => r = nI n) (fun (_ : Unit) t => zB D (eT C) (va_A (eW A C n ops nums vc vals d st ce pk pv pr w key pl dn tk tr) sz) (eW A C 0 ops nums vc vals d st ce pk pv pr w key pl dn tk tr) t) (va_A (eW A C n ops nums vc vals d st ce pk pv pr w key pl dn tk tr) sz)) 0 0 (va_A (eW A C n ops nums vc vals d st ce pk pv pr w key pl dn tk tr) sz) := by
  refine zEnt (Qc := fun F => (va_Qi (fun (r : Int32) (_ : Unit) => r = nI n) (fun (_ : Unit) t => zB D (eT C) F (eW A C 0 ops nums vc vals d st ce pk pv pr w key pl dn tk tr) t) F)) (by decide) (Nat.le_of_ble_eq_true rfl) (fun p e s m below meth c ls F hx hb hr hlk hml hnm hw hown hsz hP hK hD hA hl => ?_)
  have hS : va_S F s.heap s.heap [] := va_S.rf
  have hown : s.vm.findClass RE = some m.cls := hown
  have hl : lv_has ls 2 [(0, .ref (A 0))] := hl
  refine lv_aload_n hx hb dE_clear_0 rfl (lv_at hl 0 rfl) ?_
  refine zGetE hx hb hw hown hK hP 0 rfl 2 (by decide) wf_E_43 rfl dE_clear_1 ?_
  refine lv_istore_n hx hb dE_clear_4 rfl hl (by decide) rfl (fun ls hl => ?_)
  have hl : lv_has ls 2 [(1, .int (nI n)), (0, .ref (A 0))] := hl
  refine lv_aload_n hx hb dE_clear_5 rfl (lv_at hl 1 rfl) ?_
  refine lv_iconst (v := nI 0) hx hb dE_clear_6 (by decide) ?_
  refine zPutE hx hb hw hown hK hP hD hS 0 rfl 2 (by decide) wf_E_43 rfl rfl rfl (Nat.le_of_ble_eq_true rfl) dE_clear_7 (fun H locs hP hD hS => ?_)
  replace hP : va_P D vwCl (eW A C 0 ops nums vc vals d st ce pk pv pr w key pl dn tk tr) H := hP
  replace hD : va_D F (eW A C 0 ops nums vc vals d st ce pk pv pr w key pl dn tk tr) := hD
  refine lv_iload_n hx hb dE_clear_10 rfl (lv_at hl 0 rfl) ?_
  exact zIret (w' := fun (_ : Unit) => (eW A C 0 ops nums vc vals d st ce pk pv pr w key pl dn tk tr)) () hx hb hr hlk hS hK rfl hP hD dE_clear_11

set_option maxRecDepth 20000 in
set_option maxHeartbeats 4000000 in
theorem c_empty (l : Launch) (D : va_G) (A : Nat → Nat) (C : Nat → ClassId) (sz : Nat) (n : Nat) (ops : Nat → Int32) (nums : Nat → Int64) (vc : Nat) (vals : Nat → Int64) (d : Nat) (st : Nat → Int64) (ce : Nat → Int64) (pk : Nat → Int64) (pv : Nat → Int64) (pr : Nat) (w : Nat) (key : Int64) (pl : Nat) (dn : Nat) (tk : Nat) (tr : Nat) : Met l yE_empty (.code yE_empty cE_empty 2 (some .int) :: WS) (rmk 0 0) (va_Pc [.ref (A 0)] (zP D (eT C) sz (eW A C n ops nums vc vals d st ce pk pv pr w key pl dn tk tr))) (va_Qi (fun (r : Int32) (_ : Unit) => r = nI vc) (fun (_ : Unit) t => zB D (eT C) (va_A (eW A C n ops nums vc vals d st ce pk pv pr w key pl dn tk tr) sz) (eW A C n ops nums 0 vals d st ce pk pv pr w key pl dn tk tr) t) (va_A (eW A C n ops nums vc vals d st ce pk pv pr w key pl dn tk tr) sz)) 0 0 (va_A (eW A C n ops nums vc vals d st ce pk pv pr w key pl dn tk tr) sz) := by
  refine zEnt (Qc := fun F => (va_Qi (fun (r : Int32) (_ : Unit) => r = nI vc) (fun (_ : Unit) t => zB D (eT C) F (eW A C n ops nums 0 vals d st ce pk pv pr w key pl dn tk tr) t) F)) (by decide) (Nat.le_of_ble_eq_true rfl) (fun p e s m below meth c ls F hx hb hr hlk hml hnm hw hown hsz hP hK hD hA hl => ?_)
  have hS : va_S F s.heap s.heap [] := va_S.rf
  have hown : s.vm.findClass RE = some m.cls := hown
  have hl : lv_has ls 2 [(0, .ref (A 0))] := hl
  refine lv_aload_n hx hb dE_empty_0 rfl (lv_at hl 0 rfl) ?_
  refine zGetE hx hb hw hown hK hP 0 rfl 4 (by decide) wf_E_52 rfl dE_empty_1 ?_
  refine lv_istore_n hx hb dE_empty_4 rfl hl (by decide) rfl (fun ls hl => ?_)
  have hl : lv_has ls 2 [(1, .int (nI vc)), (0, .ref (A 0))] := hl
  refine lv_aload_n hx hb dE_empty_5 rfl (lv_at hl 1 rfl) ?_
  refine lv_iconst (v := nI 0) hx hb dE_empty_6 (by decide) ?_
  refine zPutE hx hb hw hown hK hP hD hS 0 rfl 4 (by decide) wf_E_52 rfl rfl rfl (Nat.le_of_ble_eq_true rfl) dE_empty_7 (fun H locs hP hD hS => ?_)
  replace hP : va_P D vwCl (eW A C n ops nums 0 vals d st ce pk pv pr w key pl dn tk tr) H := hP
  replace hD : va_D F (eW A C n ops nums 0 vals d st ce pk pv pr w key pl dn tk tr) := hD
  refine lv_iload_n hx hb dE_empty_10 rfl (lv_at hl 0 rfl) ?_
  exact zIret (w' := fun (_ : Unit) => (eW A C n ops nums 0 vals d st ce pk pv pr w key pl dn tk tr)) () hx hb hr hlk hS hK rfl hP hD dE_empty_11

set_option maxRecDepth 20000 in
set_option maxHeartbeats 4000000 in
theorem c_value_ok (l : Launch) (D : va_G) (A : Nat → Nat) (C : Nat → ClassId) (sz : Nat) (n : Nat) (ops : Nat → Int32) (nums : Nat → Int64) (vc : Nat) (vals : Nat → Int64) (d : Nat) (st : Nat → Int64) (ce : Nat → Int64) (pk : Nat → Int64) (pv : Nat → Int64) (pr : Nat) (w : Nat) (key : Int64) (pl : Nat) (dn : Nat) (tk : Nat) (tr : Nat) (x : Int64) (hv : vc < 40) : Met l yE_value (.code yE_value cE_value 3 (some .int) :: WS) (rmk 0 0) (va_Pc [.ref (A 0), .long x] (zP D (eT C) sz (eW A C n ops nums vc vals d st ce pk pv pr w key pl dn tk tr))) (va_Qi (fun (r : Int32) (_ : Unit) => r = nI (vc + 1)) (fun (_ : Unit) t => zB D (eT C) (va_A (eW A C n ops nums vc vals d st ce pk pv pr w key pl dn tk tr) sz) (eW A C n ops nums (vc + 1) (vp_updL vals vc x) d st ce pk pv pr w key pl dn tk tr) t) (va_A (eW A C n ops nums vc vals d st ce pk pv pr w key pl dn tk tr) sz)) 0 0 (va_A (eW A C n ops nums vc vals d st ce pk pv pr w key pl dn tk tr) sz) := by
  refine zEnt (Qc := fun F => (va_Qi (fun (r : Int32) (_ : Unit) => r = nI (vc + 1)) (fun (_ : Unit) t => zB D (eT C) F (eW A C n ops nums (vc + 1) (vp_updL vals vc x) d st ce pk pv pr w key pl dn tk tr) t) F)) (by decide) (Nat.le_of_ble_eq_true rfl) (fun p e s m below meth c ls F hx hb hr hlk hml hnm hw hown hsz hP hK hD hA hl => ?_)
  have hS : va_S F s.heap s.heap [] := va_S.rf
  have hown : s.vm.findClass RE = some m.cls := hown
  have hl : lv_has ls 3 [(0, .ref (A 0)), (1, .long x)] := hl
  refine lv_aload_n hx hb dE_value_0 rfl (lv_at hl 0 rfl) ?_
  refine zGetE hx hb hw hown hK hP 0 rfl 4 (by decide) wf_E_52 rfl dE_value_1 ?_
  refine lv_bipush (v := nI 40) hx hb dE_value_4 (by decide) ?_
  refine zc_lt (tgt := 19) hx hb dE_value_6 rfl (by omega) (by omega) (fun _ => ?_) (fun q => absurd q (by omega))
  refine lv_aload_n hx hb dE_value_19 rfl (lv_at hl 0 rfl) ?_
  refine zGetE hx hb hw hown hK hP 0 rfl 3 (by decide) wf_E_17 rfl dE_value_20 ?_
  refine lv_aload_n hx hb dE_value_23 rfl (lv_at hl 0 rfl) ?_
  refine zGetE hx hb hw hown hK hP 0 rfl 4 (by decide) wf_E_52 rfl dE_value_24 ?_
  refine lv_lload_n hx hb dE_value_27 rfl (lv_at hl 1 rfl) ?_
  refine zLast hx hb hK hP hD hS 3 2 rfl rfl (by omega) (by decide) dE_value_28 (fun H locs hP hD hS => ?_)
  replace hP : va_P D vwCl (eW A C n ops nums vc (vp_updL vals vc x) d st ce pk pv pr w key pl dn tk tr) H := hP
  replace hD : va_D F (eW A C n ops nums vc (vp_updL vals vc x) d st ce pk pv pr w key pl dn tk tr) := hD
  refine lv_aload_n hx hb dE_value_29 rfl (lv_at hl 0 rfl) ?_
  refine lv_dup hx hb dE_value_30 rfl ?_
  refine zGetE hx hb hw hown hK hP 0 rfl 4 (by decide) wf_E_52 rfl dE_value_31 ?_
  refine lv_iconst (v := nI 1) hx hb dE_value_34 (by decide) ?_
  refine lv_iadd hx hb dE_value_35 ?_
  refine zti (nI_add _ _) ?_
  refine zPutE hx hb hw hown hK hP hD hS 0 rfl 4 (by decide) wf_E_52 rfl rfl rfl (Nat.le_of_ble_eq_true rfl) dE_value_36 (fun H locs hP hD hS => ?_)
  replace hP : va_P D vwCl (eW A C n ops nums (vc + 1) (vp_updL vals vc x) d st ce pk pv pr w key pl dn tk tr) H := hP
  replace hD : va_D F (eW A C n ops nums (vc + 1) (vp_updL vals vc x) d st ce pk pv pr w key pl dn tk tr) := hD
  refine lv_aload_n hx hb dE_value_39 rfl (lv_at hl 0 rfl) ?_
  refine zGetE hx hb hw hown hK hP 0 rfl 4 (by decide) wf_E_52 rfl dE_value_40 ?_
  exact zIret (w' := fun (_ : Unit) => (eW A C n ops nums (vc + 1) (vp_updL vals vc x) d st ce pk pv pr w key pl dn tk tr)) () hx hb hr hlk hS hK rfl hP hD dE_value_43

set_option maxRecDepth 20000 in
set_option maxHeartbeats 4000000 in
theorem c_value_ise (l : Launch) (hl9 : l.stackTraces = false) (D : va_G) (A : Nat → Nat) (C : Nat → ClassId) (sz : Nat) (n : Nat) (ops : Nat → Int32) (nums : Nat → Int64) (vc : Nat) (vals : Nat → Int64) (d : Nat) (st : Nat → Int64) (ce : Nat → Int64) (pk : Nat → Int64) (pv : Nat → Int64) (pr : Nat) (w : Nat) (key : Int64) (pl : Nat) (dn : Nat) (tk : Nat) (tr : Nat) (x : Int64) (hv : vc = 40) : vx_Met l yE_value (.code yE_value cE_value 3 (some .int) :: WS) (rmx 6 82) (va_Pc [.ref (A 0), .long x] (fun U => zP D (eT C) sz (eW A C n ops nums vc vals d st ce pk pv pr w key pl dn tk tr) U ∧ zX (va_A (eW A C n ops nums vc vals d st ce pk pv pr w key pl dn tk tr) sz) U)) (va_Qi (fun (_ : Int32) (_ : Unit) => False) (fun (_ : Unit) (_ : State) => True) (va_A (eW A C n ops nums vc vals d st ce pk pv pr w key pl dn tk tr) sz)) (vx_X (fun _ : Unit => True) (fun E (_ : Unit) t => E = "java/lang/IllegalStateException" ∧ zB D (eT C) (va_A (eW A C n ops nums vc vals d st ce pk pv pr w key pl dn tk tr) sz) (eW A C n ops nums vc vals d st ce pk pv pr w key pl dn tk tr) t) (va_A (eW A C n ops nums vc vals d st ce pk pv pr w key pl dn tk tr) sz)) 1 6 (va_A (eW A C n ops nums vc vals d st ce pk pv pr w key pl dn tk tr) sz) := by
  refine zEntX (Qc := fun F => (va_Qi (fun (_ : Int32) (_ : Unit) => False) (fun (_ : Unit) (_ : State) => True) F)) (XC := fun F => (vx_X (fun _ : Unit => True) (fun E (_ : Unit) t => E = "java/lang/IllegalStateException" ∧ zB D (eT C) F (eW A C n ops nums vc vals d st ce pk pv pr w key pl dn tk tr) t) F)) (by decide) (Nat.le_of_ble_eq_true rfl) (fun p e s m below meth c ls F hx hb hr hlk hml hout hw hown hsz hP hK hD hA hX hl => ?_)
  have hS : va_S F s.heap s.heap [] := va_S.rf
  have hown : s.vm.findClass RE = some m.cls := hown
  have hl : lv_has ls 3 [(0, .ref (A 0)), (1, .long x)] := hl
  refine lv_aload_n hx hb dE_value_0 rfl (lv_at hl 0 rfl) ?_
  refine zGetE hx hb hw hown hK hP 0 rfl 4 (by decide) wf_E_52 rfl dE_value_1 ?_
  refine lv_bipush (v := nI 40) hx hb dE_value_4 (by decide) ?_
  refine zc_lt (tgt := 19) hx hb dE_value_6 rfl (by omega) (by omega) (fun q => absurd q (by omega)) (fun _ => ?_)
  exact zThrow (w' := fun (_ : Unit) => (eW A C n ops nums vc vals d st ce pk pv pr w key pl dn tk tr)) () "java/lang/IllegalStateException" (is := 55) (text := "no room for a value") hl9 hx hb hlk hout hw hown hX hK hP hD hS (hl.1.trans hml.symm) (by decide +kernel) wk_E_47 wn_ISE wx_ISE_in wx_ISE_no wx_ISE_ot hX.1.2.1 (by decide) dE_value_9 dE_value_12 dE_value_13 dE_value_15 dE_value_18 (by decide) (by decide) (by decide) (by decide)
set_option maxRecDepth 20000 in
set_option maxHeartbeats 4000000 in
theorem c_cell_ok (l : Launch) (D : va_G) (A : Nat → Nat) (C : Nat → ClassId) (sz : Nat) (n : Nat) (ops : Nat → Int32) (nums : Nat → Int64) (vc : Nat) (vals : Nat → Int64) (d : Nat) (st : Nat → Int64) (ce : Nat → Int64) (pk : Nat → Int64) (pv : Nat → Int64) (pr : Nat) (w : Nat) (key : Int64) (pl : Nat) (dn : Nat) (tk : Nat) (tr : Nat) (j : Nat) (hj : j < 4) : Met l yE_cell (.code yE_cell cE_cell 2 (some .long) :: WS) (rmk 0 0) (va_Pc [.ref (A 0), .int (nI j)] (zP D (eT C) sz (eW A C n ops nums vc vals d st ce pk pv pr w key pl dn tk tr))) (va_Ql (fun (r : Int64) (_ : Unit) => r = ce j) (fun (_ : Unit) t => zB D (eT C) (va_A (eW A C n ops nums vc vals d st ce pk pv pr w key pl dn tk tr) sz) (eW A C n ops nums vc vals d st ce pk pv pr w key pl dn tk tr) t) (va_A (eW A C n ops nums vc vals d st ce pk pv pr w key pl dn tk tr) sz)) 0 0 (va_A (eW A C n ops nums vc vals d st ce pk pv pr w key pl dn tk tr) sz) := by
  refine zEnt (Qc := fun F => (va_Ql (fun (r : Int64) (_ : Unit) => r = ce j) (fun (_ : Unit) t => zB D (eT C) F (eW A C n ops nums vc vals d st ce pk pv pr w key pl dn tk tr) t) F)) (by decide) (Nat.le_of_ble_eq_true rfl) (fun p e s m below meth c ls F hx hb hr hlk hml hnm hw hown hsz hP hK hD hA hl => ?_)
  have hS : va_S F s.heap s.heap [] := va_S.rf
  have hown : s.vm.findClass RE = some m.cls := hown
  have hl : lv_has ls 2 [(0, .ref (A 0)), (1, .int (nI j))] := hl
  refine lv_iload_n hx hb dE_cell_0 rfl (lv_at hl 1 rfl) ?_
  refine zi_lt (tgt := 9) hx hb dE_cell_1 rfl (by omega) (fun q => absurd q (by omega)) (fun _ => ?_)
  refine lv_iload_n hx hb dE_cell_4 rfl (lv_at hl 1 rfl) ?_
  refine lv_iconst (v := nI 4) hx hb dE_cell_5 (by decide) ?_
  refine zc_lt (tgt := 19) hx hb dE_cell_6 rfl (by omega) (by omega) (fun _ => ?_) (fun q => absurd q (by omega))
  refine lv_aload_n hx hb dE_cell_19 rfl (lv_at hl 0 rfl) ?_
  refine zGetE hx hb hw hown hK hP 0 rfl 7 (by decide) wf_E_23 rfl dE_cell_20 ?_
  refine lv_iload_n hx hb dE_cell_23 rfl (lv_at hl 1 rfl) ?_
  refine zLald hx hb hK hP 5 4 rfl rfl (by omega) (by decide) dE_cell_24 ?_
  exact zLret (w' := fun (_ : Unit) => (eW A C n ops nums vc vals d st ce pk pv pr w key pl dn tk tr)) () hx hb hr hlk hS hK rfl hP hD dE_cell_25

set_option maxRecDepth 20000 in
set_option maxHeartbeats 4000000 in
theorem c_cell_bad (l : Launch) (hl9 : l.stackTraces = false) (D : va_G) (A : Nat → Nat) (C : Nat → ClassId) (sz : Nat) (n : Nat) (ops : Nat → Int32) (nums : Nat → Int64) (vc : Nat) (vals : Nat → Int64) (d : Nat) (st : Nat → Int64) (ce : Nat → Int64) (pk : Nat → Int64) (pv : Nat → Int64) (pr : Nat) (w : Nat) (key : Int64) (pl : Nat) (dn : Nat) (tk : Nat) (tr : Nat) (o : Int32) (hbad : o < 0 ∨ nI 4 ≤ o) : vx_Met l yE_cell (.code yE_cell cE_cell 2 (some .long) :: WS) (rmx 6 82) (va_Pc [.ref (A 0), .int o] (fun U => zP D (eT C) sz (eW A C n ops nums vc vals d st ce pk pv pr w key pl dn tk tr) U ∧ zX (va_A (eW A C n ops nums vc vals d st ce pk pv pr w key pl dn tk tr) sz) U)) (va_Ql (fun (_ : Int64) (_ : Unit) => False) (fun (_ : Unit) (_ : State) => True) (va_A (eW A C n ops nums vc vals d st ce pk pv pr w key pl dn tk tr) sz)) (vx_X (fun _ : Unit => True) (fun E (_ : Unit) t => E = "java/lang/IndexOutOfBoundsException" ∧ zB D (eT C) (va_A (eW A C n ops nums vc vals d st ce pk pv pr w key pl dn tk tr) sz) (eW A C n ops nums vc vals d st ce pk pv pr w key pl dn tk tr) t) (va_A (eW A C n ops nums vc vals d st ce pk pv pr w key pl dn tk tr) sz)) 1 6 (va_A (eW A C n ops nums vc vals d st ce pk pv pr w key pl dn tk tr) sz) := by
  refine zEntX (Qc := fun F => (va_Ql (fun (_ : Int64) (_ : Unit) => False) (fun (_ : Unit) (_ : State) => True) F)) (XC := fun F => (vx_X (fun _ : Unit => True) (fun E (_ : Unit) t => E = "java/lang/IndexOutOfBoundsException" ∧ zB D (eT C) F (eW A C n ops nums vc vals d st ce pk pv pr w key pl dn tk tr) t) F)) (by decide) (Nat.le_of_ble_eq_true rfl) (fun p e s m below meth c ls F hx hb hr hlk hml hout hw hown hsz hP hK hD hA hX hl => ?_)
  have hS : va_S F s.heap s.heap [] := va_S.rf
  have hown : s.vm.findClass RE = some m.cls := hown
  have hl : lv_has ls 2 [(0, .ref (A 0)), (1, .int o)] := hl
  refine lv_iload_n hx hb dE_cell_0 rfl (lv_at hl 1 rfl) ?_
  refine lv_if_lt (tgt := 9) hx hb dE_cell_1 rfl (fun h1 => ?_) (fun h1 => ?_)
  · exact zThrow (w' := fun (_ : Unit) => (eW A C n ops nums vc vals d st ce pk pv pr w key pl dn tk tr)) () "java/lang/IndexOutOfBoundsException" (is := 100) (text := "no such cell") hl9 hx hb hlk hout hw hown hX hK hP hD hS (hl.1.trans hml.symm) (by decide +kernel) wk_E_84 wn_IOOBE wx_IOOBE_in wx_IOOBE_no wx_IOOBE_ot hX.1.2.2.2.1 (by decide) dE_cell_9 dE_cell_12 dE_cell_13 dE_cell_15 dE_cell_18 (by decide) (by decide) (by decide) (by decide)
  · refine lv_iload_n hx hb dE_cell_4 rfl (lv_at hl 1 rfl) ?_
    refine lv_iconst (v := nI 4) hx hb dE_cell_5 (by decide) ?_
    refine lv_icmp_lt (tgt := 19) hx hb dE_cell_6 rfl (fun q => absurd q (by exact hbad.elim (fun z => absurd z h1) (fun z => Int32.not_lt.mpr z))) (fun _ => ?_)
    exact zThrow (w' := fun (_ : Unit) => (eW A C n ops nums vc vals d st ce pk pv pr w key pl dn tk tr)) () "java/lang/IndexOutOfBoundsException" (is := 100) (text := "no such cell") hl9 hx hb hlk hout hw hown hX hK hP hD hS (hl.1.trans hml.symm) (by decide +kernel) wk_E_84 wn_IOOBE wx_IOOBE_in wx_IOOBE_no wx_IOOBE_ot hX.1.2.2.2.1 (by decide) dE_cell_9 dE_cell_12 dE_cell_13 dE_cell_15 dE_cell_18 (by decide) (by decide) (by decide) (by decide)
set_option maxRecDepth 20000 in
set_option maxHeartbeats 4000000 in
theorem c_emitted_val (l : Launch) (D : va_G) (A : Nat → Nat) (C : Nat → ClassId) (sz : Nat) (n : Nat) (ops : Nat → Int32) (nums : Nat → Int64) (vc : Nat) (vals : Nat → Int64) (d : Nat) (st : Nat → Int64) (ce : Nat → Int64) (pk : Nat → Int64) (pv : Nat → Int64) (pr : Nat) (w : Nat) (key : Int64) (pl : Nat) (dn : Nat) (tk : Nat) (tr : Nat) (j : Nat) (hj : j < pr) (hp : pr ≤ 4) : Met l yE_emitted (.code yE_emitted cE_emitted 3 (some .long) :: WS) (rmk 0 0) (va_Pc [.ref (A 0), .int (nI j), .int (nI 1)] (zP D (eT C) sz (eW A C n ops nums vc vals d st ce pk pv pr w key pl dn tk tr))) (va_Ql (fun (r : Int64) (_ : Unit) => r = pv j) (fun (_ : Unit) t => zB D (eT C) (va_A (eW A C n ops nums vc vals d st ce pk pv pr w key pl dn tk tr) sz) (eW A C n ops nums vc vals d st ce pk pv pr w key pl dn tk tr) t) (va_A (eW A C n ops nums vc vals d st ce pk pv pr w key pl dn tk tr) sz)) 0 0 (va_A (eW A C n ops nums vc vals d st ce pk pv pr w key pl dn tk tr) sz) := by
  refine zEnt (Qc := fun F => (va_Ql (fun (r : Int64) (_ : Unit) => r = pv j) (fun (_ : Unit) t => zB D (eT C) F (eW A C n ops nums vc vals d st ce pk pv pr w key pl dn tk tr) t) F)) (by decide) (Nat.le_of_ble_eq_true rfl) (fun p e s m below meth c ls F hx hb hr hlk hml hnm hw hown hsz hP hK hD hA hl => ?_)
  have hS : va_S F s.heap s.heap [] := va_S.rf
  have hown : s.vm.findClass RE = some m.cls := hown
  have hl : lv_has ls 3 [(0, .ref (A 0)), (1, .int (nI j)), (2, .int (nI 1))] := hl
  refine lv_iload_n hx hb dE_emitted_0 rfl (lv_at hl 1 rfl) ?_
  refine zi_lt (tgt := 12) hx hb dE_emitted_1 rfl (by omega) (fun q => absurd q (by omega)) (fun _ => ?_)
  refine lv_iload_n hx hb dE_emitted_4 rfl (lv_at hl 1 rfl) ?_
  refine lv_aload_n hx hb dE_emitted_5 rfl (lv_at hl 0 rfl) ?_
  refine zGetE hx hb hw hown hK hP 0 rfl 10 (by decide) wf_E_81 rfl dE_emitted_6 ?_
  refine zc_lt (tgt := 22) hx hb dE_emitted_9 rfl (by omega) (by omega) (fun _ => ?_) (fun q => absurd q (by omega))
  refine lv_iload_n hx hb dE_emitted_22 rfl (lv_at hl 2 rfl) ?_
  refine zi_eq (tgt := 35) hx hb dE_emitted_23 rfl (by omega) (fun q => absurd q (by omega)) (fun _ => ?_)
  refine lv_aload_n hx hb dE_emitted_26 rfl (lv_at hl 0 rfl) ?_
  refine zGetE hx hb hw hown hK hP 0 rfl 9 (by decide) wf_E_29 rfl dE_emitted_27 ?_
  refine lv_iload_n hx hb dE_emitted_30 rfl (lv_at hl 1 rfl) ?_
  refine zLald hx hb hK hP 7 6 rfl rfl (by omega) (by decide) dE_emitted_31 ?_
  refine lv_goto (tgt := 41) hx hb dE_emitted_32 rfl ?_
  exact zLret (w' := fun (_ : Unit) => (eW A C n ops nums vc vals d st ce pk pv pr w key pl dn tk tr)) () hx hb hr hlk hS hK rfl hP hD dE_emitted_41

set_option maxRecDepth 20000 in
set_option maxHeartbeats 4000000 in
theorem c_emitted_key (l : Launch) (D : va_G) (A : Nat → Nat) (C : Nat → ClassId) (sz : Nat) (n : Nat) (ops : Nat → Int32) (nums : Nat → Int64) (vc : Nat) (vals : Nat → Int64) (d : Nat) (st : Nat → Int64) (ce : Nat → Int64) (pk : Nat → Int64) (pv : Nat → Int64) (pr : Nat) (w : Nat) (key : Int64) (pl : Nat) (dn : Nat) (tk : Nat) (tr : Nat) (j : Nat) (hj : j < pr) (hp : pr ≤ 4) : Met l yE_emitted (.code yE_emitted cE_emitted 3 (some .long) :: WS) (rmk 0 0) (va_Pc [.ref (A 0), .int (nI j), .int (nI 0)] (zP D (eT C) sz (eW A C n ops nums vc vals d st ce pk pv pr w key pl dn tk tr))) (va_Ql (fun (r : Int64) (_ : Unit) => r = pk j) (fun (_ : Unit) t => zB D (eT C) (va_A (eW A C n ops nums vc vals d st ce pk pv pr w key pl dn tk tr) sz) (eW A C n ops nums vc vals d st ce pk pv pr w key pl dn tk tr) t) (va_A (eW A C n ops nums vc vals d st ce pk pv pr w key pl dn tk tr) sz)) 0 0 (va_A (eW A C n ops nums vc vals d st ce pk pv pr w key pl dn tk tr) sz) := by
  refine zEnt (Qc := fun F => (va_Ql (fun (r : Int64) (_ : Unit) => r = pk j) (fun (_ : Unit) t => zB D (eT C) F (eW A C n ops nums vc vals d st ce pk pv pr w key pl dn tk tr) t) F)) (by decide) (Nat.le_of_ble_eq_true rfl) (fun p e s m below meth c ls F hx hb hr hlk hml hnm hw hown hsz hP hK hD hA hl => ?_)
  have hS : va_S F s.heap s.heap [] := va_S.rf
  have hown : s.vm.findClass RE = some m.cls := hown
  have hl : lv_has ls 3 [(0, .ref (A 0)), (1, .int (nI j)), (2, .int (nI 0))] := hl
  refine lv_iload_n hx hb dE_emitted_0 rfl (lv_at hl 1 rfl) ?_
  refine zi_lt (tgt := 12) hx hb dE_emitted_1 rfl (by omega) (fun q => absurd q (by omega)) (fun _ => ?_)
  refine lv_iload_n hx hb dE_emitted_4 rfl (lv_at hl 1 rfl) ?_
  refine lv_aload_n hx hb dE_emitted_5 rfl (lv_at hl 0 rfl) ?_
  refine zGetE hx hb hw hown hK hP 0 rfl 10 (by decide) wf_E_81 rfl dE_emitted_6 ?_
  refine zc_lt (tgt := 22) hx hb dE_emitted_9 rfl (by omega) (by omega) (fun _ => ?_) (fun q => absurd q (by omega))
  refine lv_iload_n hx hb dE_emitted_22 rfl (lv_at hl 2 rfl) ?_
  refine zi_eq (tgt := 35) hx hb dE_emitted_23 rfl (by omega) (fun _ => ?_) (fun q => absurd q (by omega))
  refine lv_aload_n hx hb dE_emitted_35 rfl (lv_at hl 0 rfl) ?_
  refine zGetE hx hb hw hown hK hP 0 rfl 8 (by decide) wf_E_26 rfl dE_emitted_36 ?_
  refine lv_iload_n hx hb dE_emitted_39 rfl (lv_at hl 1 rfl) ?_
  refine zLald hx hb hK hP 6 5 rfl rfl (by omega) (by decide) dE_emitted_40 ?_
  exact zLret (w' := fun (_ : Unit) => (eW A C n ops nums vc vals d st ce pk pv pr w key pl dn tk tr)) () hx hb hr hlk hS hK rfl hP hD dE_emitted_41

set_option maxRecDepth 20000 in
set_option maxHeartbeats 4000000 in
theorem c_emitted_bad (l : Launch) (hl9 : l.stackTraces = false) (D : va_G) (A : Nat → Nat) (C : Nat → ClassId) (sz : Nat) (n : Nat) (ops : Nat → Int32) (nums : Nat → Int64) (vc : Nat) (vals : Nat → Int64) (d : Nat) (st : Nat → Int64) (ce : Nat → Int64) (pk : Nat → Int64) (pv : Nat → Int64) (pr : Nat) (w : Nat) (key : Int64) (pl : Nat) (dn : Nat) (tk : Nat) (tr : Nat) (o : Int32) (o2 : Int32) (hbad : o < 0 ∨ nI pr ≤ o) : vx_Met l yE_emitted (.code yE_emitted cE_emitted 3 (some .long) :: WS) (rmx 6 82) (va_Pc [.ref (A 0), .int o, .int o2] (fun U => zP D (eT C) sz (eW A C n ops nums vc vals d st ce pk pv pr w key pl dn tk tr) U ∧ zX (va_A (eW A C n ops nums vc vals d st ce pk pv pr w key pl dn tk tr) sz) U)) (va_Ql (fun (_ : Int64) (_ : Unit) => False) (fun (_ : Unit) (_ : State) => True) (va_A (eW A C n ops nums vc vals d st ce pk pv pr w key pl dn tk tr) sz)) (vx_X (fun _ : Unit => True) (fun E (_ : Unit) t => E = "java/lang/IndexOutOfBoundsException" ∧ zB D (eT C) (va_A (eW A C n ops nums vc vals d st ce pk pv pr w key pl dn tk tr) sz) (eW A C n ops nums vc vals d st ce pk pv pr w key pl dn tk tr) t) (va_A (eW A C n ops nums vc vals d st ce pk pv pr w key pl dn tk tr) sz)) 1 6 (va_A (eW A C n ops nums vc vals d st ce pk pv pr w key pl dn tk tr) sz) := by
  refine zEntX (Qc := fun F => (va_Ql (fun (_ : Int64) (_ : Unit) => False) (fun (_ : Unit) (_ : State) => True) F)) (XC := fun F => (vx_X (fun _ : Unit => True) (fun E (_ : Unit) t => E = "java/lang/IndexOutOfBoundsException" ∧ zB D (eT C) F (eW A C n ops nums vc vals d st ce pk pv pr w key pl dn tk tr) t) F)) (by decide) (Nat.le_of_ble_eq_true rfl) (fun p e s m below meth c ls F hx hb hr hlk hml hout hw hown hsz hP hK hD hA hX hl => ?_)
  have hS : va_S F s.heap s.heap [] := va_S.rf
  have hown : s.vm.findClass RE = some m.cls := hown
  have hl : lv_has ls 3 [(0, .ref (A 0)), (1, .int o), (2, .int o2)] := hl
  refine lv_iload_n hx hb dE_emitted_0 rfl (lv_at hl 1 rfl) ?_
  refine lv_if_lt (tgt := 12) hx hb dE_emitted_1 rfl (fun h1 => ?_) (fun h1 => ?_)
  · exact zThrow (w' := fun (_ : Unit) => (eW A C n ops nums vc vals d st ce pk pv pr w key pl dn tk tr)) () "java/lang/IndexOutOfBoundsException" (is := 86) (text := "no such pair") hl9 hx hb hlk hout hw hown hX hK hP hD hS (hl.1.trans hml.symm) (by decide +kernel) wk_E_84 wn_IOOBE wx_IOOBE_in wx_IOOBE_no wx_IOOBE_ot hX.1.2.2.2.1 (by decide) dE_emitted_12 dE_emitted_15 dE_emitted_16 dE_emitted_18 dE_emitted_21 (by decide) (by decide) (by decide) (by decide)
  · refine lv_iload_n hx hb dE_emitted_4 rfl (lv_at hl 1 rfl) ?_
    refine lv_aload_n hx hb dE_emitted_5 rfl (lv_at hl 0 rfl) ?_
    refine zGetE hx hb hw hown hK hP 0 rfl 10 (by decide) wf_E_81 rfl dE_emitted_6 ?_
    refine lv_icmp_lt (tgt := 22) hx hb dE_emitted_9 rfl (fun q => absurd q (by exact hbad.elim (fun z => absurd z h1) (fun z => Int32.not_lt.mpr z))) (fun _ => ?_)
    exact zThrow (w' := fun (_ : Unit) => (eW A C n ops nums vc vals d st ce pk pv pr w key pl dn tk tr)) () "java/lang/IndexOutOfBoundsException" (is := 86) (text := "no such pair") hl9 hx hb hlk hout hw hown hX hK hP hD hS (hl.1.trans hml.symm) (by decide +kernel) wk_E_84 wn_IOOBE wx_IOOBE_in wx_IOOBE_no wx_IOOBE_ot hX.1.2.2.2.1 (by decide) dE_emitted_12 dE_emitted_15 dE_emitted_16 dE_emitted_18 dE_emitted_21 (by decide) (by decide) (by decide) (by decide)
set_option maxRecDepth 20000 in
set_option maxHeartbeats 4000000 in
theorem c_told0 (l : Launch) (D : va_G) (A : Nat → Nat) (C : Nat → ClassId) (sz : Nat) (n : Nat) (ops : Nat → Int32) (nums : Nat → Int64) (vc : Nat) (vals : Nat → Int64) (d : Nat) (st : Nat → Int64) (ce : Nat → Int64) (pk : Nat → Int64) (pv : Nat → Int64) (pr : Nat) (w : Nat) (key : Int64) (pl : Nat) (dn : Nat) (tk : Nat) (tr : Nat) : Met l yE_told (.code yE_told cE_told 2 (some .int) :: WS) (rmk 0 0) (va_Pc [.ref (A 0), .int (nI 0)] (zP D (eT C) sz (eW A C n ops nums vc vals d st ce pk pv pr w key pl dn tk tr))) (va_Qi (fun (r : Int32) (_ : Unit) => r = nI dn) (fun (_ : Unit) t => zB D (eT C) (va_A (eW A C n ops nums vc vals d st ce pk pv pr w key pl dn tk tr) sz) (eW A C n ops nums vc vals d st ce pk pv pr w key pl dn tk tr) t) (va_A (eW A C n ops nums vc vals d st ce pk pv pr w key pl dn tk tr) sz)) 0 0 (va_A (eW A C n ops nums vc vals d st ce pk pv pr w key pl dn tk tr) sz) := by
  refine zEnt (Qc := fun F => (va_Qi (fun (r : Int32) (_ : Unit) => r = nI dn) (fun (_ : Unit) t => zB D (eT C) F (eW A C n ops nums vc vals d st ce pk pv pr w key pl dn tk tr) t) F)) (by decide) (Nat.le_of_ble_eq_true rfl) (fun p e s m below meth c ls F hx hb hr hlk hml hnm hw hown hsz hP hK hD hA hl => ?_)
  have hS : va_S F s.heap s.heap [] := va_S.rf
  have hown : s.vm.findClass RE = some m.cls := hown
  have hl : lv_has ls 2 [(0, .ref (A 0)), (1, .int (nI 0))] := hl
  refine lv_iload_n hx hb dE_told_0 rfl (lv_at hl 1 rfl) ?_
  refine lv_tableIn (off := 35) (tgt := 36) hx hb dE_told_1 (by decide) (by decide) (by decide) rfl ?_
  refine lv_aload_n hx hb dE_told_36 rfl (lv_at hl 0 rfl) ?_
  refine zGetE hx hb hw hown hK hP 0 rfl 14 (by decide) wf_E_89 rfl dE_told_37 ?_
  exact zIret (w' := fun (_ : Unit) => (eW A C n ops nums vc vals d st ce pk pv pr w key pl dn tk tr)) () hx hb hr hlk hS hK rfl hP hD dE_told_40

set_option maxRecDepth 20000 in
set_option maxHeartbeats 4000000 in
theorem c_told1 (l : Launch) (D : va_G) (A : Nat → Nat) (C : Nat → ClassId) (sz : Nat) (n : Nat) (ops : Nat → Int32) (nums : Nat → Int64) (vc : Nat) (vals : Nat → Int64) (d : Nat) (st : Nat → Int64) (ce : Nat → Int64) (pk : Nat → Int64) (pv : Nat → Int64) (pr : Nat) (w : Nat) (key : Int64) (pl : Nat) (dn : Nat) (tk : Nat) (tr : Nat) : Met l yE_told (.code yE_told cE_told 2 (some .int) :: WS) (rmk 0 0) (va_Pc [.ref (A 0), .int (nI 1)] (zP D (eT C) sz (eW A C n ops nums vc vals d st ce pk pv pr w key pl dn tk tr))) (va_Qi (fun (r : Int32) (_ : Unit) => r = nI d) (fun (_ : Unit) t => zB D (eT C) (va_A (eW A C n ops nums vc vals d st ce pk pv pr w key pl dn tk tr) sz) (eW A C n ops nums vc vals d st ce pk pv pr w key pl dn tk tr) t) (va_A (eW A C n ops nums vc vals d st ce pk pv pr w key pl dn tk tr) sz)) 0 0 (va_A (eW A C n ops nums vc vals d st ce pk pv pr w key pl dn tk tr) sz) := by
  refine zEnt (Qc := fun F => (va_Qi (fun (r : Int32) (_ : Unit) => r = nI d) (fun (_ : Unit) t => zB D (eT C) F (eW A C n ops nums vc vals d st ce pk pv pr w key pl dn tk tr) t) F)) (by decide) (Nat.le_of_ble_eq_true rfl) (fun p e s m below meth c ls F hx hb hr hlk hml hnm hw hown hsz hP hK hD hA hl => ?_)
  have hS : va_S F s.heap s.heap [] := va_S.rf
  have hown : s.vm.findClass RE = some m.cls := hown
  have hl : lv_has ls 2 [(0, .ref (A 0)), (1, .int (nI 1))] := hl
  refine lv_iload_n hx hb dE_told_0 rfl (lv_at hl 1 rfl) ?_
  refine lv_tableIn (off := 40) (tgt := 41) hx hb dE_told_1 (by decide) (by decide) (by decide) rfl ?_
  refine lv_aload_n hx hb dE_told_41 rfl (lv_at hl 0 rfl) ?_
  refine zGetE hx hb hw hown hK hP 0 rfl 6 (by decide) wf_E_92 rfl dE_told_42 ?_
  exact zIret (w' := fun (_ : Unit) => (eW A C n ops nums vc vals d st ce pk pv pr w key pl dn tk tr)) () hx hb hr hlk hS hK rfl hP hD dE_told_45

set_option maxRecDepth 20000 in
set_option maxHeartbeats 4000000 in
theorem c_told2 (l : Launch) (D : va_G) (A : Nat → Nat) (C : Nat → ClassId) (sz : Nat) (n : Nat) (ops : Nat → Int32) (nums : Nat → Int64) (vc : Nat) (vals : Nat → Int64) (d : Nat) (st : Nat → Int64) (ce : Nat → Int64) (pk : Nat → Int64) (pv : Nat → Int64) (pr : Nat) (w : Nat) (key : Int64) (pl : Nat) (dn : Nat) (tk : Nat) (tr : Nat) : Met l yE_told (.code yE_told cE_told 2 (some .int) :: WS) (rmk 0 0) (va_Pc [.ref (A 0), .int (nI 2)] (zP D (eT C) sz (eW A C n ops nums vc vals d st ce pk pv pr w key pl dn tk tr))) (va_Qi (fun (r : Int32) (_ : Unit) => r = nI pr) (fun (_ : Unit) t => zB D (eT C) (va_A (eW A C n ops nums vc vals d st ce pk pv pr w key pl dn tk tr) sz) (eW A C n ops nums vc vals d st ce pk pv pr w key pl dn tk tr) t) (va_A (eW A C n ops nums vc vals d st ce pk pv pr w key pl dn tk tr) sz)) 0 0 (va_A (eW A C n ops nums vc vals d st ce pk pv pr w key pl dn tk tr) sz) := by
  refine zEnt (Qc := fun F => (va_Qi (fun (r : Int32) (_ : Unit) => r = nI pr) (fun (_ : Unit) t => zB D (eT C) F (eW A C n ops nums vc vals d st ce pk pv pr w key pl dn tk tr) t) F)) (by decide) (Nat.le_of_ble_eq_true rfl) (fun p e s m below meth c ls F hx hb hr hlk hml hnm hw hown hsz hP hK hD hA hl => ?_)
  have hS : va_S F s.heap s.heap [] := va_S.rf
  have hown : s.vm.findClass RE = some m.cls := hown
  have hl : lv_has ls 2 [(0, .ref (A 0)), (1, .int (nI 2))] := hl
  refine lv_iload_n hx hb dE_told_0 rfl (lv_at hl 1 rfl) ?_
  refine lv_tableIn (off := 45) (tgt := 46) hx hb dE_told_1 (by decide) (by decide) (by decide) rfl ?_
  refine lv_aload_n hx hb dE_told_46 rfl (lv_at hl 0 rfl) ?_
  refine zGetE hx hb hw hown hK hP 0 rfl 10 (by decide) wf_E_81 rfl dE_told_47 ?_
  exact zIret (w' := fun (_ : Unit) => (eW A C n ops nums vc vals d st ce pk pv pr w key pl dn tk tr)) () hx hb hr hlk hS hK rfl hP hD dE_told_50

set_option maxRecDepth 20000 in
set_option maxHeartbeats 4000000 in
theorem c_told3 (l : Launch) (D : va_G) (A : Nat → Nat) (C : Nat → ClassId) (sz : Nat) (n : Nat) (ops : Nat → Int32) (nums : Nat → Int64) (vc : Nat) (vals : Nat → Int64) (d : Nat) (st : Nat → Int64) (ce : Nat → Int64) (pk : Nat → Int64) (pv : Nat → Int64) (pr : Nat) (w : Nat) (key : Int64) (pl : Nat) (dn : Nat) (tk : Nat) (tr : Nat) : Met l yE_told (.code yE_told cE_told 2 (some .int) :: WS) (rmk 0 0) (va_Pc [.ref (A 0), .int (nI 3)] (zP D (eT C) sz (eW A C n ops nums vc vals d st ce pk pv pr w key pl dn tk tr))) (va_Qi (fun (r : Int32) (_ : Unit) => r = nI tk) (fun (_ : Unit) t => zB D (eT C) (va_A (eW A C n ops nums vc vals d st ce pk pv pr w key pl dn tk tr) sz) (eW A C n ops nums vc vals d st ce pk pv pr w key pl dn tk tr) t) (va_A (eW A C n ops nums vc vals d st ce pk pv pr w key pl dn tk tr) sz)) 0 0 (va_A (eW A C n ops nums vc vals d st ce pk pv pr w key pl dn tk tr) sz) := by
  refine zEnt (Qc := fun F => (va_Qi (fun (r : Int32) (_ : Unit) => r = nI tk) (fun (_ : Unit) t => zB D (eT C) F (eW A C n ops nums vc vals d st ce pk pv pr w key pl dn tk tr) t) F)) (by decide) (Nat.le_of_ble_eq_true rfl) (fun p e s m below meth c ls F hx hb hr hlk hml hnm hw hown hsz hP hK hD hA hl => ?_)
  have hS : va_S F s.heap s.heap [] := va_S.rf
  have hown : s.vm.findClass RE = some m.cls := hown
  have hl : lv_has ls 2 [(0, .ref (A 0)), (1, .int (nI 3))] := hl
  refine lv_iload_n hx hb dE_told_0 rfl (lv_at hl 1 rfl) ?_
  refine lv_tableIn (off := 50) (tgt := 51) hx hb dE_told_1 (by decide) (by decide) (by decide) rfl ?_
  refine lv_aload_n hx hb dE_told_51 rfl (lv_at hl 0 rfl) ?_
  refine zGetE hx hb hw hown hK hP 0 rfl 15 (by decide) wf_E_95 rfl dE_told_52 ?_
  exact zIret (w' := fun (_ : Unit) => (eW A C n ops nums vc vals d st ce pk pv pr w key pl dn tk tr)) () hx hb hr hlk hS hK rfl hP hD dE_told_55

set_option maxRecDepth 20000 in
set_option maxHeartbeats 4000000 in
theorem c_told4 (l : Launch) (D : va_G) (A : Nat → Nat) (C : Nat → ClassId) (sz : Nat) (n : Nat) (ops : Nat → Int32) (nums : Nat → Int64) (vc : Nat) (vals : Nat → Int64) (d : Nat) (st : Nat → Int64) (ce : Nat → Int64) (pk : Nat → Int64) (pv : Nat → Int64) (pr : Nat) (w : Nat) (key : Int64) (pl : Nat) (dn : Nat) (tk : Nat) (tr : Nat) (ht : tr ≤ 1) : Met l yE_told (.code yE_told cE_told 2 (some .int) :: WS) (rmk 0 0) (va_Pc [.ref (A 0), .int (nI 4)] (zP D (eT C) sz (eW A C n ops nums vc vals d st ce pk pv pr w key pl dn tk tr))) (va_Qi (fun (r : Int32) (_ : Unit) => r = nI tr) (fun (_ : Unit) t => zB D (eT C) (va_A (eW A C n ops nums vc vals d st ce pk pv pr w key pl dn tk tr) sz) (eW A C n ops nums vc vals d st ce pk pv pr w key pl dn tk tr) t) (va_A (eW A C n ops nums vc vals d st ce pk pv pr w key pl dn tk tr) sz)) 0 0 (va_A (eW A C n ops nums vc vals d st ce pk pv pr w key pl dn tk tr) sz) := by
  refine zEnt (Qc := fun F => (va_Qi (fun (r : Int32) (_ : Unit) => r = nI tr) (fun (_ : Unit) t => zB D (eT C) F (eW A C n ops nums vc vals d st ce pk pv pr w key pl dn tk tr) t) F)) (by decide) (Nat.le_of_ble_eq_true rfl) (fun p e s m below meth c ls F hx hb hr hlk hml hnm hw hown hsz hP hK hD hA hl => ?_)
  have hS : va_S F s.heap s.heap [] := va_S.rf
  have hown : s.vm.findClass RE = some m.cls := hown
  have hl : lv_has ls 2 [(0, .ref (A 0)), (1, .int (nI 4))] := hl
  refine lv_iload_n hx hb dE_told_0 rfl (lv_at hl 1 rfl) ?_
  refine lv_tableIn (off := 55) (tgt := 56) hx hb dE_told_1 (by decide) (by decide) (by decide) rfl ?_
  refine lv_aload_n hx hb dE_told_56 rfl (lv_at hl 0 rfl) ?_
  refine zGetE hx hb hw hown hK hP 0 rfl 16 (by decide) wf_E_72 rfl dE_told_57 ?_
  refine zi_eq (tgt := 67) hx hb dE_told_60 rfl (by omega) (fun h60 => ?_) (fun h60 => ?_)
  · refine lv_iconst (v := nI 0) hx hb dE_told_67 (by decide) ?_
    exact zIret (w' := fun (_ : Unit) => (eW A C n ops nums vc vals d st ce pk pv pr w key pl dn tk tr)) () hx hb hr hlk hS hK (congrArg nI (by omega)) hP hD dE_told_68
  · refine lv_iconst (v := nI 1) hx hb dE_told_63 (by decide) ?_
    refine lv_goto (tgt := 68) hx hb dE_told_64 rfl ?_
    exact zIret (w' := fun (_ : Unit) => (eW A C n ops nums vc vals d st ce pk pv pr w key pl dn tk tr)) () hx hb hr hlk hS hK (congrArg nI (by omega)) hP hD dE_told_68

set_option maxRecDepth 20000 in
set_option maxHeartbeats 4000000 in
theorem c_told_bad (l : Launch) (hl9 : l.stackTraces = false) (D : va_G) (A : Nat → Nat) (C : Nat → ClassId) (sz : Nat) (n : Nat) (ops : Nat → Int32) (nums : Nat → Int64) (vc : Nat) (vals : Nat → Int64) (d : Nat) (st : Nat → Int64) (ce : Nat → Int64) (pk : Nat → Int64) (pv : Nat → Int64) (pr : Nat) (w : Nat) (key : Int64) (pl : Nat) (dn : Nat) (tk : Nat) (tr : Nat) (o : Int32) (hbad : o.toInt < 0 ∨ 4 < o.toInt) : vx_Met l yE_told (.code yE_told cE_told 2 (some .int) :: WS) (rmx 6 82) (va_Pc [.ref (A 0), .int o] (fun U => zP D (eT C) sz (eW A C n ops nums vc vals d st ce pk pv pr w key pl dn tk tr) U ∧ zX (va_A (eW A C n ops nums vc vals d st ce pk pv pr w key pl dn tk tr) sz) U)) (va_Qi (fun (_ : Int32) (_ : Unit) => False) (fun (_ : Unit) (_ : State) => True) (va_A (eW A C n ops nums vc vals d st ce pk pv pr w key pl dn tk tr) sz)) (vx_X (fun _ : Unit => True) (fun E (_ : Unit) t => E = "java/lang/IllegalArgumentException" ∧ zB D (eT C) (va_A (eW A C n ops nums vc vals d st ce pk pv pr w key pl dn tk tr) sz) (eW A C n ops nums vc vals d st ce pk pv pr w key pl dn tk tr) t) (va_A (eW A C n ops nums vc vals d st ce pk pv pr w key pl dn tk tr) sz)) 1 6 (va_A (eW A C n ops nums vc vals d st ce pk pv pr w key pl dn tk tr) sz) := by
  refine zEntX (Qc := fun F => (va_Qi (fun (_ : Int32) (_ : Unit) => False) (fun (_ : Unit) (_ : State) => True) F)) (XC := fun F => (vx_X (fun _ : Unit => True) (fun E (_ : Unit) t => E = "java/lang/IllegalArgumentException" ∧ zB D (eT C) F (eW A C n ops nums vc vals d st ce pk pv pr w key pl dn tk tr) t) F)) (by decide) (Nat.le_of_ble_eq_true rfl) (fun p e s m below meth c ls F hx hb hr hlk hml hout hw hown hsz hP hK hD hA hX hl => ?_)
  have hS : va_S F s.heap s.heap [] := va_S.rf
  have hown : s.vm.findClass RE = some m.cls := hown
  have hl : lv_has ls 2 [(0, .ref (A 0)), (1, .int o)] := hl
  refine lv_iload_n hx hb dE_told_0 rfl (lv_at hl 1 rfl) ?_
  refine lv_tableOut (tgt := 69) hx hb dE_told_1 hbad rfl ?_
  exact zThrow (w' := fun (_ : Unit) => (eW A C n ops nums vc vals d st ce pk pv pr w key pl dn tk tr)) () "java/lang/IllegalArgumentException" (is := 98) (text := "nothing of that number is told") hl9 hx hb hlk hout hw hown hX hK hP hD hS (hl.1.trans hml.symm) (by decide +kernel) wk_E_36 wn_IAE wx_IAE_in wx_IAE_no wx_IAE_ot hX.1.1 (by decide) dE_told_69 dE_told_72 dE_told_73 dE_told_75 dE_told_78 (by decide) (by decide) (by decide) (by decide)
set_option maxRecDepth 20000 in
set_option maxHeartbeats 4000000 in
theorem c_call_way (l : Launch) (hl9 : l.stackTraces = false) (D : va_G) (A : Nat → Nat) (C : Nat → ClassId) (sz : Nat) (n : Nat) (ops : Nat → Int32) (nums : Nat → Int64) (vc : Nat) (vals : Nat → Int64) (d : Nat) (st : Nat → Int64) (ce : Nat → Int64) (pk : Nat → Int64) (pv : Nat → Int64) (pr : Nat) (w : Nat) (key : Int64) (pl : Nat) (dn : Nat) (tk : Nat) (tr : Nat) (o : Int32) (k2 : Int64) (hbad : o < 0 ∨ nI 2 < o) : vx_Met l yE_call (.code yE_call cE_call 4 (some .int) :: WS) (rmx 6 118) (va_Pc [.ref (A 0), .int o, .long k2] (fun U => zP D (eT C) sz (eW A C n ops nums vc vals d st ce pk pv pr w key pl dn tk tr) U ∧ zX (va_A (eW A C n ops nums vc vals d st ce pk pv pr w key pl dn tk tr) sz) U)) (va_Qi (fun (_ : Int32) (_ : Unit) => False) (fun (_ : Unit) (_ : State) => True) (va_A (eW A C n ops nums vc vals d st ce pk pv pr w key pl dn tk tr) sz)) (vx_X (fun _ : Unit => True) (fun E (_ : Unit) t => E = "java/lang/IllegalArgumentException" ∧ zB D (eT C) (va_A (eW A C n ops nums vc vals d st ce pk pv pr w key pl dn tk tr) sz) (eW A C n ops nums vc vals d st ce pk pv pr w key pl dn tk tr) t) (va_A (eW A C n ops nums vc vals d st ce pk pv pr w key pl dn tk tr) sz)) 1 6 (va_A (eW A C n ops nums vc vals d st ce pk pv pr w key pl dn tk tr) sz) := by
  refine zEntX (Qc := fun F => (va_Qi (fun (_ : Int32) (_ : Unit) => False) (fun (_ : Unit) (_ : State) => True) F)) (XC := fun F => (vx_X (fun _ : Unit => True) (fun E (_ : Unit) t => E = "java/lang/IllegalArgumentException" ∧ zB D (eT C) F (eW A C n ops nums vc vals d st ce pk pv pr w key pl dn tk tr) t) F)) (by decide) (Nat.le_of_ble_eq_true rfl) (fun p e s m below meth c ls F hx hb hr hlk hml hout hw hown hsz hP hK hD hA hX hl => ?_)
  have hS : va_S F s.heap s.heap [] := va_S.rf
  have hown : s.vm.findClass RE = some m.cls := hown
  have hl : lv_has ls 4 [(0, .ref (A 0)), (1, .int o), (2, .long k2)] := hl
  refine lv_iload_n hx hb dE_call_0 rfl (lv_at hl 1 rfl) ?_
  refine lv_if_lt (tgt := 9) hx hb dE_call_1 rfl (fun h1 => ?_) (fun h1 => ?_)
  · exact zThrow (w' := fun (_ : Unit) => (eW A C n ops nums vc vals d st ce pk pv pr w key pl dn tk tr)) () "java/lang/IllegalArgumentException" (is := 57) (text := "no such way") hl9 hx hb hlk hout hw hown hX hK hP hD hS (hl.1.trans hml.symm) (by decide +kernel) wk_E_36 wn_IAE wx_IAE_in wx_IAE_no wx_IAE_ot hX.1.1 (by decide) dE_call_9 dE_call_12 dE_call_13 dE_call_15 dE_call_18 (by decide) (by decide) (by decide) (by decide)
  · refine lv_iload_n hx hb dE_call_4 rfl (lv_at hl 1 rfl) ?_
    refine lv_iconst (v := nI 2) hx hb dE_call_5 (by decide) ?_
    refine lv_icmp_le (tgt := 19) hx hb dE_call_6 rfl (fun q => absurd q (by exact hbad.elim (fun z => absurd z h1) (fun z => Int32.not_le.mpr z))) (fun _ => ?_)
    exact zThrow (w' := fun (_ : Unit) => (eW A C n ops nums vc vals d st ce pk pv pr w key pl dn tk tr)) () "java/lang/IllegalArgumentException" (is := 57) (text := "no such way") hl9 hx hb hlk hout hw hown hX hK hP hD hS (hl.1.trans hml.symm) (by decide +kernel) wk_E_36 wn_IAE wx_IAE_in wx_IAE_no wx_IAE_ot hX.1.1 (by decide) dE_call_9 dE_call_12 dE_call_13 dE_call_15 dE_call_18 (by decide) (by decide) (by decide) (by decide)
set_option maxRecDepth 20000 in
set_option maxHeartbeats 4000000 in
theorem c_call_end (l : Launch) (hl9 : l.stackTraces = false) (D : va_G) (A : Nat → Nat) (C : Nat → ClassId) (sz : Nat) (n : Nat) (ops : Nat → Int32) (nums : Nat → Int64) (vc : Nat) (vals : Nat → Int64) (d : Nat) (st : Nat → Int64) (ce : Nat → Int64) (pk : Nat → Int64) (pv : Nat → Int64) (pr : Nat) (w : Nat) (key : Int64) (pl : Nat) (dn : Nat) (tk : Nat) (tr : Nat) (w2 : Nat) (k2 : Int64) (hw2 : w2 ≤ 2) (hn : n ≤ 40) (hg : gBP n ops nums) : vx_Met l yE_call (.code yE_call cE_call 4 (some .int) :: WS) (rmx 6 118) (va_Pc [.ref (A 0), .int (nI w2), .long k2] (fun U => zP D (eT C) sz (eW A C n ops nums vc vals d st ce pk pv pr w key pl dn tk tr) U ∧ zX (va_A (eW A C n ops nums vc vals d st ce pk pv pr w key pl dn tk tr) sz) U)) (va_Qi (fun (_ : Int32) (_ : Unit) => False) (fun (_ : Unit) (_ : State) => True) (va_A (eW A C n ops nums vc vals d st ce pk pv pr w key pl dn tk tr) sz)) (vx_X (fun _ : Unit => True) (fun E (_ : Unit) t => E = "java/lang/IllegalArgumentException" ∧ zB D (eT C) (va_A (eW A C n ops nums vc vals d st ce pk pv pr w key pl dn tk tr) sz) (eW A C n ops nums vc vals d st ce pk pv pr w key pl dn tk tr) t) (va_A (eW A C n ops nums vc vals d st ce pk pv pr w key pl dn tk tr) sz)) 1 6 (va_A (eW A C n ops nums vc vals d st ce pk pv pr w key pl dn tk tr) sz) := by
  refine zEntX (Qc := fun F => (va_Qi (fun (_ : Int32) (_ : Unit) => False) (fun (_ : Unit) (_ : State) => True) F)) (XC := fun F => (vx_X (fun _ : Unit => True) (fun E (_ : Unit) t => E = "java/lang/IllegalArgumentException" ∧ zB D (eT C) F (eW A C n ops nums vc vals d st ce pk pv pr w key pl dn tk tr) t) F)) (by decide) (Nat.le_of_ble_eq_true rfl) (fun p e s m below meth c ls F hx hb hr hlk hml hout hw hown hsz hP hK hD hA hX hl => ?_)
  have hS : va_S F s.heap s.heap [] := va_S.rf
  have hown : s.vm.findClass RE = some m.cls := hown
  have hl : lv_has ls 4 [(0, .ref (A 0)), (1, .int (nI w2)), (2, .long k2)] := hl
  refine lv_iload_n hx hb dE_call_0 rfl (lv_at hl 1 rfl) ?_
  refine zi_lt (tgt := 9) hx hb dE_call_1 rfl (by omega) (fun q => absurd q (by omega)) (fun _ => ?_)
  refine lv_iload_n hx hb dE_call_4 rfl (lv_at hl 1 rfl) ?_
  refine lv_iconst (v := nI 2) hx hb dE_call_5 (by decide) ?_
  refine zc_le (tgt := 19) hx hb dE_call_6 rfl (by omega) (by omega) (fun _ => ?_) (fun q => absurd q (by omega))
  refine lv_aload_n hx hb dE_call_19 rfl (lv_at hl 0 rfl) ?_
  refine zAfti0 (zRunV0 ⟨hx, hb, hml, hown, hw⟩ (c_goesBehindEnd l D A C _ n ops nums vc vals d st ce pk pv pr w key pl dn tk tr hn) wm_E_59 wi_E_goesBehindEnd ws_E_goesBehindEnd wn_E wc_E_goesBehindEnd ⟨rfl, rfl⟩ wd_E_goesBehindEnd ⟨by decide, by decide⟩ hK hP hD 0 rfl rfl rfl hl.1 rfl (Nat.le_of_ble_eq_true rfl) dE_call_20 ⟨by decide, by decide⟩) hP hD hS hA (fun r u H locs hp hP hD hS => ?_)
  replace hP : va_P D vwCl (eW A C n ops nums vc vals d st ce pk pv pr w key pl dn tk tr) H := hP
  replace hD : va_D F (eW A C n ops nums vc vals d st ce pk pv pr w key pl dn tk tr) := hD
  obtain ⟨rfl, -⟩ : r = nI 1 ∧ True := ⟨hp.elim (fun z => z.1) (fun z => absurd hg z.2), trivial⟩
  refine zi_eq (tgt := 36) hx hb dE_call_23 rfl (by omega) (fun q => absurd q (by omega)) (fun _ => ?_)
  exact zThrow (w' := fun (_ : Unit) => (eW A C n ops nums vc vals d st ce pk pv pr w key pl dn tk tr)) () "java/lang/IllegalArgumentException" (is := 63) (text := "the program goes behind its end") hl9 hx hb hlk hout hw hown hX hK hP hD hS (hl.1.trans hml.symm) (by decide +kernel) wk_E_36 wn_IAE wx_IAE_in wx_IAE_no wx_IAE_ot hX.1.1 (by decide) dE_call_26 dE_call_29 dE_call_30 dE_call_32 dE_call_35 (by decide) (by decide) (by decide) (by decide)
set_option maxRecDepth 20000 in
set_option maxHeartbeats 4000000 in
theorem c_call_trap (l : Launch) (hl9 : l.stackTraces = false) (D : va_G) (A : Nat → Nat) (C : Nat → ClassId) (sz : Nat) (n : Nat) (ops : Nat → Int32) (nums : Nat → Int64) (vc : Nat) (vals : Nat → Int64) (d : Nat) (st : Nat → Int64) (ce : Nat → Int64) (pk : Nat → Int64) (pv : Nat → Int64) (pr : Nat) (w : Nat) (key : Int64) (pl : Nat) (dn : Nat) (tk : Nat) (tr : Nat) (w2 : Nat) (k2 : Int64) (q : Nat × Nat × RS) (hw2 : w2 ≤ 2) (hvc : vc ≤ 40) (hPI : PI n ops nums) (hg : ¬ gBP n ops nums) (hq : runR n vc vals w2 k2 ops nums 400 (0, 0, st, z4 ce, pk, pv, 0, 0) = q) (ht : q.2.1 = 1) : vx_Met l yE_call (.code yE_call cE_call 4 (some .int) :: WS) (rmx 6 118) (va_Pc [.ref (A 0), .int (nI w2), .long k2] (fun U => zP D (eT C) sz (eW A C n ops nums vc vals d st ce pk pv pr w key pl dn tk tr) U ∧ zX (va_A (eW A C n ops nums vc vals d st ce pk pv pr w key pl dn tk tr) sz) U)) (va_Qi (fun (_ : Int32) (_ : Unit) => False) (fun (_ : Unit) (_ : State) => True) (va_A (eW A C n ops nums vc vals d st ce pk pv pr w key pl dn tk tr) sz)) (vx_X (fun _ : RP => True) (fun E (u : RP) t => E = "java/lang/UnsupportedOperationException" ∧ zB D (eT C) (va_A (eW A C n ops nums vc vals d st ce pk pv pr w key pl dn tk tr) sz) (fW A C n ops nums vc vals w2 k2 0 q u) t) (va_A (eW A C n ops nums vc vals d st ce pk pv pr w key pl dn tk tr) sz)) 1 6 (va_A (eW A C n ops nums vc vals d st ce pk pv pr w key pl dn tk tr) sz) := by
  refine zEntX (Qc := fun F => (va_Qi (fun (_ : Int32) (_ : Unit) => False) (fun (_ : Unit) (_ : State) => True) F)) (XC := fun F => (vx_X (fun _ : RP => True) (fun E (u : RP) t => E = "java/lang/UnsupportedOperationException" ∧ zB D (eT C) F (fW A C n ops nums vc vals w2 k2 0 q u) t) F)) (by decide) (Nat.le_of_ble_eq_true rfl) (fun p e s m below meth c ls F hx hb hr hlk hml hout hw hown hsz hP hK hD hA hX hl => ?_)
  have hS : va_S F s.heap s.heap [] := va_S.rf
  have hown : s.vm.findClass RE = some m.cls := hown
  have hn := hPI.1
  have hl : lv_has ls 4 [(0, .ref (A 0)), (1, .int (nI w2)), (2, .long k2)] := hl
  refine lv_iload_n hx hb dE_call_0 rfl (lv_at hl 1 rfl) ?_
  refine zi_lt (tgt := 9) hx hb dE_call_1 rfl (by omega) (fun q => absurd q (by omega)) (fun _ => ?_)
  refine lv_iload_n hx hb dE_call_4 rfl (lv_at hl 1 rfl) ?_
  refine lv_iconst (v := nI 2) hx hb dE_call_5 (by decide) ?_
  refine zc_le (tgt := 19) hx hb dE_call_6 rfl (by omega) (by omega) (fun _ => ?_) (fun q => absurd q (by omega))
  refine lv_aload_n hx hb dE_call_19 rfl (lv_at hl 0 rfl) ?_
  refine zAfti0 (zRunV0 ⟨hx, hb, hml, hown, hw⟩ (c_goesBehindEnd l D A C _ n ops nums vc vals d st ce pk pv pr w key pl dn tk tr hn) wm_E_59 wi_E_goesBehindEnd ws_E_goesBehindEnd wn_E wc_E_goesBehindEnd ⟨rfl, rfl⟩ wd_E_goesBehindEnd ⟨by decide, by decide⟩ hK hP hD 0 rfl rfl rfl hl.1 rfl (Nat.le_of_ble_eq_true rfl) dE_call_20 ⟨by decide, by decide⟩) hP hD hS hA (fun r u H locs hp hP hD hS => ?_)
  replace hP : va_P D vwCl (eW A C n ops nums vc vals d st ce pk pv pr w key pl dn tk tr) H := hP
  replace hD : va_D F (eW A C n ops nums vc vals d st ce pk pv pr w key pl dn tk tr) := hD
  obtain ⟨rfl, -⟩ : r = nI 0 ∧ True := ⟨hp.elim (fun z => absurd z.2 hg) (fun z => z.1), trivial⟩
  refine zi_eq (tgt := 36) hx hb dE_call_23 rfl (by omega) (fun _ => ?_) (fun q => absurd q (by omega))
  refine lv_aload_n hx hb dE_call_36 rfl (lv_at hl 0 rfl) ?_
  refine lv_iload_n hx hb dE_call_37 rfl (lv_at hl 1 rfl) ?_
  refine lv_lload_n hx hb dE_call_38 rfl (lv_at hl 2 rfl) ?_
  refine zAftv0 (zRunV0 ⟨hx, hb, hml, hown, hw⟩ (c_begin l D A C _ n ops nums vc vals d st ce pk pv pr w key pl dn tk tr w2 k2) wm_E_65 wi_E_begin ws_E_begin wn_E wc_E_begin ⟨rfl, rfl⟩ wd_E_begin ⟨by decide, by decide⟩ hK hP hD 0 rfl rfl rfl hl.1 rfl (Nat.le_of_ble_eq_true rfl) dE_call_39 ⟨by decide, by decide⟩) hP hD hS hA (fun u H locs hp hP hD hS => ?_)
  replace hP : va_P D vwCl (eW A C n ops nums vc vals 0 st (z4 ce) pk pv 0 w2 k2 0 0 0 0) H := hP
  replace hD : va_D F (eW A C n ops nums vc vals 0 st (z4 ce) pk pv 0 w2 k2 0 0 0 0) := hD
  refine lv_aload_n hx hb dE_call_42 rfl (lv_at hl 0 rfl) ?_
  refine zAftv0 (zRunV0 ⟨hx, hb, hml, hown, hw⟩ (c_runProgram l D A C _ n ops nums vc vals 0 st (z4 ce) pk pv 0 w2 k2 0 0 0 hPI hvc hw2 ⟨by omega, by omega, by omega, by omega, fun _ => rfl⟩) wm_E_69 wi_E_runProgram ws_E_runProgram wn_E wc_E_runProgram ⟨rfl, rfl⟩ wd_E_runProgram ⟨by decide, by decide⟩ hK hP hD 0 rfl rfl rfl hl.1 rfl (Nat.le_of_ble_eq_true rfl) dE_call_43 ⟨by decide, by decide⟩) hP hD hS hA (fun u H locs hp hP hD hS => ?_)
  rw [hq] at hP hD
  replace hP : va_P D vwCl (eW A C n ops nums vc vals (dF q.2.1 q.2.2.2.1) u.1 q.2.2.2.2.2.1 q.2.2.2.2.2.2.1 q.2.2.2.2.2.2.2.1 q.2.2.2.2.2.2.2.2.1 w2 k2 u.2 (0 + q.1) q.2.2.2.2.2.2.2.2.2 q.2.1) H := hP
  replace hD : va_D F (eW A C n ops nums vc vals (dF q.2.1 q.2.2.2.1) u.1 q.2.2.2.2.2.1 q.2.2.2.2.2.2.1 q.2.2.2.2.2.2.2.1 q.2.2.2.2.2.2.2.2.1 w2 k2 u.2 (0 + q.1) q.2.2.2.2.2.2.2.2.2 q.2.1) := hD
  refine lv_aload_n hx hb dE_call_46 rfl (lv_at hl 0 rfl) ?_
  refine zGetE hx hb hw hown hK hP 0 rfl 16 (by decide) wf_E_72 rfl dE_call_47 ?_
  refine zi_eq (tgt := 63) hx hb dE_call_50 rfl (by omega) (fun q => absurd q (by omega)) (fun _ => ?_)
  exact zThrow (w' := fun (u : RP) => (fW A C n ops nums vc vals w2 k2 0 q u)) (u.1, u.2) "java/lang/UnsupportedOperationException" (is := 78) (text := "a trap") hl9 hx hb hlk hout hw hown hX hK hP hD hS (hl.1.trans hml.symm) (by decide +kernel) wk_E_76 wn_UOE wx_UOE_in wx_UOE_no wx_UOE_ot hX.1.2.2.1 (by decide) dE_call_53 dE_call_56 dE_call_57 dE_call_59 dE_call_62 (by decide) (by decide) (by decide) (by decide)
set_option maxRecDepth 20000 in
set_option maxHeartbeats 4000000 in
theorem c_call_ok (l : Launch) (D : va_G) (A : Nat → Nat) (C : Nat → ClassId) (sz : Nat) (n : Nat) (ops : Nat → Int32) (nums : Nat → Int64) (vc : Nat) (vals : Nat → Int64) (d : Nat) (st : Nat → Int64) (ce : Nat → Int64) (pk : Nat → Int64) (pv : Nat → Int64) (pr : Nat) (w : Nat) (key : Int64) (pl : Nat) (dn : Nat) (tk : Nat) (tr : Nat) (w2 : Nat) (k2 : Int64) (q : Nat × Nat × RS) (hw2 : w2 ≤ 2) (hvc : vc ≤ 40) (hPI : PI n ops nums) (hg : ¬ gBP n ops nums) (hq : runR n vc vals w2 k2 ops nums 400 (0, 0, st, z4 ce, pk, pv, 0, 0) = q) (ht : q.2.1 = 0) : Met l yE_call (.code yE_call cE_call 4 (some .int) :: WS) (rmk 6 118) (va_Pc [.ref (A 0), .int (nI w2), .long k2] (zP D (eT C) sz (eW A C n ops nums vc vals d st ce pk pv pr w key pl dn tk tr))) (va_Qi (fun (r : Int32) (_ : RP) => r = nI q.2.2.2.2.2.2.2.2.1) (fun (u : RP) t => zB D (eT C) (va_A (eW A C n ops nums vc vals d st ce pk pv pr w key pl dn tk tr) sz) (fW A C n ops nums vc vals w2 k2 0 q u) t) (va_A (eW A C n ops nums vc vals d st ce pk pv pr w key pl dn tk tr) sz)) 0 0 (va_A (eW A C n ops nums vc vals d st ce pk pv pr w key pl dn tk tr) sz) := by
  refine zEnt (Qc := fun F => (va_Qi (fun (r : Int32) (_ : RP) => r = nI q.2.2.2.2.2.2.2.2.1) (fun (u : RP) t => zB D (eT C) F (fW A C n ops nums vc vals w2 k2 0 q u) t) F)) (by decide) (Nat.le_of_ble_eq_true rfl) (fun p e s m below meth c ls F hx hb hr hlk hml hnm hw hown hsz hP hK hD hA hl => ?_)
  have hS : va_S F s.heap s.heap [] := va_S.rf
  have hown : s.vm.findClass RE = some m.cls := hown
  have hn := hPI.1
  have hl : lv_has ls 4 [(0, .ref (A 0)), (1, .int (nI w2)), (2, .long k2)] := hl
  refine lv_iload_n hx hb dE_call_0 rfl (lv_at hl 1 rfl) ?_
  refine zi_lt (tgt := 9) hx hb dE_call_1 rfl (by omega) (fun q => absurd q (by omega)) (fun _ => ?_)
  refine lv_iload_n hx hb dE_call_4 rfl (lv_at hl 1 rfl) ?_
  refine lv_iconst (v := nI 2) hx hb dE_call_5 (by decide) ?_
  refine zc_le (tgt := 19) hx hb dE_call_6 rfl (by omega) (by omega) (fun _ => ?_) (fun q => absurd q (by omega))
  refine lv_aload_n hx hb dE_call_19 rfl (lv_at hl 0 rfl) ?_
  refine zAfti0 (zRunV0 ⟨hx, hb, hml, hown, hw⟩ (c_goesBehindEnd l D A C _ n ops nums vc vals d st ce pk pv pr w key pl dn tk tr hn) wm_E_59 wi_E_goesBehindEnd ws_E_goesBehindEnd wn_E wc_E_goesBehindEnd ⟨rfl, rfl⟩ wd_E_goesBehindEnd ⟨by decide, by decide⟩ hK hP hD 0 rfl rfl rfl hl.1 rfl (Nat.le_of_ble_eq_true rfl) dE_call_20 ⟨by decide, by decide⟩) hP hD hS hA (fun r u H locs hp hP hD hS => ?_)
  replace hP : va_P D vwCl (eW A C n ops nums vc vals d st ce pk pv pr w key pl dn tk tr) H := hP
  replace hD : va_D F (eW A C n ops nums vc vals d st ce pk pv pr w key pl dn tk tr) := hD
  obtain ⟨rfl, -⟩ : r = nI 0 ∧ True := ⟨hp.elim (fun z => absurd z.2 hg) (fun z => z.1), trivial⟩
  refine zi_eq (tgt := 36) hx hb dE_call_23 rfl (by omega) (fun _ => ?_) (fun q => absurd q (by omega))
  refine lv_aload_n hx hb dE_call_36 rfl (lv_at hl 0 rfl) ?_
  refine lv_iload_n hx hb dE_call_37 rfl (lv_at hl 1 rfl) ?_
  refine lv_lload_n hx hb dE_call_38 rfl (lv_at hl 2 rfl) ?_
  refine zAftv0 (zRunV0 ⟨hx, hb, hml, hown, hw⟩ (c_begin l D A C _ n ops nums vc vals d st ce pk pv pr w key pl dn tk tr w2 k2) wm_E_65 wi_E_begin ws_E_begin wn_E wc_E_begin ⟨rfl, rfl⟩ wd_E_begin ⟨by decide, by decide⟩ hK hP hD 0 rfl rfl rfl hl.1 rfl (Nat.le_of_ble_eq_true rfl) dE_call_39 ⟨by decide, by decide⟩) hP hD hS hA (fun u H locs hp hP hD hS => ?_)
  replace hP : va_P D vwCl (eW A C n ops nums vc vals 0 st (z4 ce) pk pv 0 w2 k2 0 0 0 0) H := hP
  replace hD : va_D F (eW A C n ops nums vc vals 0 st (z4 ce) pk pv 0 w2 k2 0 0 0 0) := hD
  refine lv_aload_n hx hb dE_call_42 rfl (lv_at hl 0 rfl) ?_
  refine zAftv0 (zRunV0 ⟨hx, hb, hml, hown, hw⟩ (c_runProgram l D A C _ n ops nums vc vals 0 st (z4 ce) pk pv 0 w2 k2 0 0 0 hPI hvc hw2 ⟨by omega, by omega, by omega, by omega, fun _ => rfl⟩) wm_E_69 wi_E_runProgram ws_E_runProgram wn_E wc_E_runProgram ⟨rfl, rfl⟩ wd_E_runProgram ⟨by decide, by decide⟩ hK hP hD 0 rfl rfl rfl hl.1 rfl (Nat.le_of_ble_eq_true rfl) dE_call_43 ⟨by decide, by decide⟩) hP hD hS hA (fun u H locs hp hP hD hS => ?_)
  rw [hq] at hP hD
  replace hP : va_P D vwCl (eW A C n ops nums vc vals (dF q.2.1 q.2.2.2.1) u.1 q.2.2.2.2.2.1 q.2.2.2.2.2.2.1 q.2.2.2.2.2.2.2.1 q.2.2.2.2.2.2.2.2.1 w2 k2 u.2 (0 + q.1) q.2.2.2.2.2.2.2.2.2 q.2.1) H := hP
  replace hD : va_D F (eW A C n ops nums vc vals (dF q.2.1 q.2.2.2.1) u.1 q.2.2.2.2.2.1 q.2.2.2.2.2.2.1 q.2.2.2.2.2.2.2.1 q.2.2.2.2.2.2.2.2.1 w2 k2 u.2 (0 + q.1) q.2.2.2.2.2.2.2.2.2 q.2.1) := hD
  refine lv_aload_n hx hb dE_call_46 rfl (lv_at hl 0 rfl) ?_
  refine zGetE hx hb hw hown hK hP 0 rfl 16 (by decide) wf_E_72 rfl dE_call_47 ?_
  refine zi_eq (tgt := 63) hx hb dE_call_50 rfl (by omega) (fun _ => ?_) (fun q => absurd q (by omega))
  refine lv_aload_n hx hb dE_call_63 rfl (lv_at hl 0 rfl) ?_
  refine zGetE hx hb hw hown hK hP 0 rfl 10 (by decide) wf_E_81 rfl dE_call_64 ?_
  exact zIret (w' := fun (u : RP) => (fW A C n ops nums vc vals w2 k2 0 q u)) (u.1, u.2) hx hb hr hlk hS hK rfl hP hD dE_call_67
end
section
theorem zz_last : True := trivial
end
