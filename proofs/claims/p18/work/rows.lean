section
-- ===== PART A: goes FIRST, ahead of the names: the tables' words, and 'selects' of the private methods out of them =====
/-- a private method of a class that the tables say can be made, by its rows of tables_1 -/
def lw_okq (q : MethodName × Nat) : Prop := (q.1.cls ≠ "java/lang/invoke/MethodHandle" ∧ q.1.cls ≠ "java/lang/invoke/VarHandle") ∧ Cond.instantiable q.1.cls q.2 ∈ tables_1 ∧ Cond.privateMethod q.1 ∈ tables_1 ∧ Cond.instanceMethod q.1 ∈ tables_1
theorem lw_p0 : lw_okq (⟨"Nudgelane", "checkedForm", "(I)I"⟩, 4) := ⟨⟨by decide +kernel, by decide +kernel⟩, List.mem_of_getElem? (i := 18) (by decide +kernel), List.mem_of_getElem? (i := 182) (by decide +kernel), List.mem_of_getElem? (i := 183) (by decide +kernel)⟩
theorem lw_p1 : lw_okq (⟨"java/lang/Throwable", "fillInStackTrace", "(I)Ljava/lang/Throwable;"⟩, 6) := ⟨⟨by decide +kernel, by decide +kernel⟩, List.mem_of_getElem? (i := 225) (by decide +kernel), List.mem_of_getElem? (i := 223) (by decide +kernel), List.mem_of_getElem? (i := 224) (by decide +kernel)⟩
theorem lw_p2 : lw_okq (⟨"Nudgelane$Ways", "queueNewBehind", "(LNudgelane$Programs;II)I"⟩, 2) := ⟨⟨by decide +kernel, by decide +kernel⟩, List.mem_of_getElem? (i := 73) (by decide +kernel), List.mem_of_getElem? (i := 323) (by decide +kernel), List.mem_of_getElem? (i := 324) (by decide +kernel)⟩
theorem lw_p3 : lw_okq (⟨"Nudgelane$Ways", "settleOnce", "(LNudgelane$Programs;)Z"⟩, 2) := ⟨⟨by decide +kernel, by decide +kernel⟩, List.mem_of_getElem? (i := 73) (by decide +kernel), List.mem_of_getElem? (i := 359) (by decide +kernel), List.mem_of_getElem? (i := 360) (by decide +kernel)⟩
theorem lw_p4 : lw_okq (⟨"Nudgelane$Ways", "leastBehind", "(LNudgelane$Programs;I)I"⟩, 2) := ⟨⟨by decide +kernel, by decide +kernel⟩, List.mem_of_getElem? (i := 73) (by decide +kernel), List.mem_of_getElem? (i := 367) (by decide +kernel), List.mem_of_getElem? (i := 368) (by decide +kernel)⟩
theorem lw_p5 : lw_okq (⟨"Nudgelane$Attempts", "meet", "(I)V"⟩, 11) := ⟨⟨by decide +kernel, by decide +kernel⟩, List.mem_of_getElem? (i := 88) (by decide +kernel), List.mem_of_getElem? (i := 410) (by decide +kernel), List.mem_of_getElem? (i := 411) (by decide +kernel)⟩
theorem lw_p6 : lw_okq (⟨"Nudgelane$Worths", "addUp", "(LNudgelane$Attempts;)V"⟩, 2) := ⟨⟨by decide +kernel, by decide +kernel⟩, List.mem_of_getElem? (i := 130) (by decide +kernel), List.mem_of_getElem? (i := 492) (by decide +kernel), List.mem_of_getElem? (i := 493) (by decide +kernel)⟩
theorem lw_p7 : lw_okq (⟨"Nudgelane$Worths", "share", "(LNudgelane$Attempts;)V"⟩, 2) := ⟨⟨by decide +kernel, by decide +kernel⟩, List.mem_of_getElem? (i := 130) (by decide +kernel), List.mem_of_getElem? (i := 515) (by decide +kernel), List.mem_of_getElem? (i := 516) (by decide +kernel)⟩
theorem lw_p8 : lw_okq (⟨"Nudgelane", "requireSomeRight", "()V"⟩, 4) := ⟨⟨by decide +kernel, by decide +kernel⟩, List.mem_of_getElem? (i := 18) (by decide +kernel), List.mem_of_getElem? (i := 535) (by decide +kernel), List.mem_of_getElem? (i := 536) (by decide +kernel)⟩
theorem lw_p9 : lw_okq (⟨"Nudgelane", "findSteps", "()V"⟩, 4) := ⟨⟨by decide +kernel, by decide +kernel⟩, List.mem_of_getElem? (i := 18) (by decide +kernel), List.mem_of_getElem? (i := 559) (by decide +kernel), List.mem_of_getElem? (i := 560) (by decide +kernel)⟩
theorem lw_p10 : lw_okq (⟨"Nudgelane", "stepNearer", "(I)I"⟩, 4) := ⟨⟨by decide +kernel, by decide +kernel⟩, List.mem_of_getElem? (i := 18) (by decide +kernel), List.mem_of_getElem? (i := 572) (by decide +kernel), List.mem_of_getElem? (i := 573) (by decide +kernel)⟩
theorem lw_p11 : lw_okq (⟨"NudgelaneModel", "formed", "(I)I"⟩, 18) := ⟨⟨by decide +kernel, by decide +kernel⟩, List.mem_of_getElem? (i := 594) (by decide +kernel), List.mem_of_getElem? (i := 600) (by decide +kernel), List.mem_of_getElem? (i := 601) (by decide +kernel)⟩
theorem lw_p12 : lw_okq (⟨"NudgelaneModel", "uses", "()Z"⟩, 18) := ⟨⟨by decide +kernel, by decide +kernel⟩, List.mem_of_getElem? (i := 594) (by decide +kernel), List.mem_of_getElem? (i := 604) (by decide +kernel), List.mem_of_getElem? (i := 605) (by decide +kernel)⟩
theorem lw_p13 : lw_okq (⟨"NudgelaneModel", "goes", "(I)Z"⟩, 18) := ⟨⟨by decide +kernel, by decide +kernel⟩, List.mem_of_getElem? (i := 594) (by decide +kernel), List.mem_of_getElem? (i := 679) (by decide +kernel), List.mem_of_getElem? (i := 680) (by decide +kernel)⟩
theorem lw_p14 : lw_okq (⟨"NudgelaneModel", "edited", "(II)I"⟩, 18) := ⟨⟨by decide +kernel, by decide +kernel⟩, List.mem_of_getElem? (i := 594) (by decide +kernel), List.mem_of_getElem? (i := 687) (by decide +kernel), List.mem_of_getElem? (i := 688) (by decide +kernel)⟩
theorem lw_p15 : lw_okq (⟨"NudgelaneModel", "goesOutward", "(I)V"⟩, 18) := ⟨⟨by decide +kernel, by decide +kernel⟩, List.mem_of_getElem? (i := 594) (by decide +kernel), List.mem_of_getElem? (i := 702) (by decide +kernel), List.mem_of_getElem? (i := 703) (by decide +kernel)⟩
def lw_privs_1 : List (MethodName × Nat) := [(⟨"Nudgelane", "checkedForm", "(I)I"⟩, 4), (⟨"java/lang/Throwable", "fillInStackTrace", "(I)Ljava/lang/Throwable;"⟩, 6), (⟨"Nudgelane$Ways", "queueNewBehind", "(LNudgelane$Programs;II)I"⟩, 2), (⟨"Nudgelane$Ways", "settleOnce", "(LNudgelane$Programs;)Z"⟩, 2), (⟨"Nudgelane$Ways", "leastBehind", "(LNudgelane$Programs;I)I"⟩, 2), (⟨"Nudgelane$Attempts", "meet", "(I)V"⟩, 11), (⟨"Nudgelane$Worths", "addUp", "(LNudgelane$Attempts;)V"⟩, 2), (⟨"Nudgelane$Worths", "share", "(LNudgelane$Attempts;)V"⟩, 2), (⟨"Nudgelane", "requireSomeRight", "()V"⟩, 4), (⟨"Nudgelane", "findSteps", "()V"⟩, 4), (⟨"Nudgelane", "stepNearer", "(I)I"⟩, 4), (⟨"NudgelaneModel", "formed", "(I)I"⟩, 18), (⟨"NudgelaneModel", "uses", "()Z"⟩, 18), (⟨"NudgelaneModel", "goes", "(I)Z"⟩, 18), (⟨"NudgelaneModel", "edited", "(II)I"⟩, 18), (⟨"NudgelaneModel", "goesOutward", "(I)V"⟩, 18)]
theorem lw_r1 : ∀ q ∈ lw_privs_1, lw_okq q := List.forall_mem_cons.mpr ⟨lw_p0, List.forall_mem_cons.mpr ⟨lw_p1, List.forall_mem_cons.mpr ⟨lw_p2, List.forall_mem_cons.mpr ⟨lw_p3, List.forall_mem_cons.mpr ⟨lw_p4, List.forall_mem_cons.mpr ⟨lw_p5, List.forall_mem_cons.mpr ⟨lw_p6, List.forall_mem_cons.mpr ⟨lw_p7, List.forall_mem_cons.mpr ⟨lw_p8, List.forall_mem_cons.mpr ⟨lw_p9, List.forall_mem_cons.mpr ⟨lw_p10, List.forall_mem_cons.mpr ⟨lw_p11, List.forall_mem_cons.mpr ⟨lw_p12, List.forall_mem_cons.mpr ⟨lw_p13, List.forall_mem_cons.mpr ⟨lw_p14, List.forall_mem_cons.mpr ⟨lw_p15, fun _ h => absurd h List.not_mem_nil⟩⟩⟩⟩⟩⟩⟩⟩⟩⟩⟩⟩⟩⟩⟩⟩
theorem lw_p16 : lw_okq (⟨"NudgelaneModel", "goesInward", "(I)V"⟩, 18) := ⟨⟨by decide +kernel, by decide +kernel⟩, List.mem_of_getElem? (i := 594) (by decide +kernel), List.mem_of_getElem? (i := 710) (by decide +kernel), List.mem_of_getElem? (i := 711) (by decide +kernel)⟩
theorem lw_p17 : lw_okq (⟨"NudgelaneModel", "meets", "(I)V"⟩, 18) := ⟨⟨by decide +kernel, by decide +kernel⟩, List.mem_of_getElem? (i := 594) (by decide +kernel), List.mem_of_getElem? (i := 718) (by decide +kernel), List.mem_of_getElem? (i := 719) (by decide +kernel)⟩
theorem lw_p18 : lw_okq (⟨"NudgelaneModel", "laysWorths", "()V"⟩, 18) := ⟨⟨by decide +kernel, by decide +kernel⟩, List.mem_of_getElem? (i := 594) (by decide +kernel), List.mem_of_getElem? (i := 750) (by decide +kernel), List.mem_of_getElem? (i := 751) (by decide +kernel)⟩
theorem lw_p19 : lw_okq (⟨"NudgelaneModel", "isAnyRight", "()Z"⟩, 18) := ⟨⟨by decide +kernel, by decide +kernel⟩, List.mem_of_getElem? (i := 594) (by decide +kernel), List.mem_of_getElem? (i := 759) (by decide +kernel), List.mem_of_getElem? (i := 760) (by decide +kernel)⟩
theorem lw_p20 : lw_okq (⟨"NudgelaneModel", "hinted", "(I)I"⟩, 18) := ⟨⟨by decide +kernel, by decide +kernel⟩, List.mem_of_getElem? (i := 594) (by decide +kernel), List.mem_of_getElem? (i := 767) (by decide +kernel), List.mem_of_getElem? (i := 768) (by decide +kernel)⟩
def lw_privs_2 : List (MethodName × Nat) := [(⟨"NudgelaneModel", "goesInward", "(I)V"⟩, 18), (⟨"NudgelaneModel", "meets", "(I)V"⟩, 18), (⟨"NudgelaneModel", "laysWorths", "()V"⟩, 18), (⟨"NudgelaneModel", "isAnyRight", "()Z"⟩, 18), (⟨"NudgelaneModel", "hinted", "(I)I"⟩, 18)]
theorem lw_r2 : ∀ q ∈ lw_privs_2, lw_okq q := List.forall_mem_cons.mpr ⟨lw_p16, List.forall_mem_cons.mpr ⟨lw_p17, List.forall_mem_cons.mpr ⟨lw_p18, List.forall_mem_cons.mpr ⟨lw_p19, List.forall_mem_cons.mpr ⟨lw_p20, fun _ h => absurd h List.not_mem_nil⟩⟩⟩⟩⟩
def lw_privs : List (MethodName × Nat) := lw_privs_1 ++ (lw_privs_2)
def lw_tbl : List Cond := k2_sels lw_privs ++ tables_1
theorem lw_privs_ok : ∀ q ∈ lw_privs, lw_okq q := by
  show ∀ q ∈ lw_privs_1 ++ (lw_privs_2), lw_okq q
  exact List.forall_mem_append.mpr ⟨lw_r1, lw_r2⟩
-- ===== end of PART A; then your names; then what follows =====
end
section
/-! ===== BEGIN words of one list among another's, by their places ===== -/
theorem goodIn_r {big : List Cond} (ws : List Cond) (ps : List Nat) (hp : ws = ps.filterMap (fun i => big[i]?)) (h : ws.all goodWord = true) : GoodIn big ws := by
  intro w hw
  have h1 := List.all_eq_true.mp h w hw
  rw [hp] at hw
  obtain ⟨i, -, hi⟩ := List.mem_filterMap.mp hw
  have hm : w ∈ big := by first | exact List.mem_of_getElem? hi | exact List.getElem?_mem hi
  exact ⟨hm, good_of_word h1⟩
theorem goodIn_app {big a b : List Cond} (ha : GoodIn big a) (hb : GoodIn big b) : GoodIn big (a ++ b) := fun w h => (List.mem_append.mp h).elim (ha w) (hb w)
theorem goodIn_ca {big a b : List Cond} {c : Cond} (ha : GoodIn big (c :: a)) (hb : GoodIn big b) : GoodIn big (c :: (a ++ b)) := fun w h => (List.mem_cons.mp h).elim (fun e => ha w (List.mem_cons.mpr (Or.inl e))) (fun h => (List.mem_append.mp h).elim (fun h => ha w (List.mem_cons.mpr (Or.inr h))) (hb w))
theorem goodIn_sub {big ws : List Cond} (hm : ∀ w ∈ ws, w ∈ big) (h : ws.all goodWord = true) : GoodIn big ws := fun w hw => ⟨hm w hw, good_of_word (List.all_eq_true.mp h w hw)⟩
/-! ===== END ===== -/

/-! ===== BEGIN exceptions that leave a method, and their catching by the caller (launches without stack traces) ===== -/
section VXA
/-! The laws vx_back, vx_callV, vx_callS, vx_callSW, vx_throw0, vx_throwS follow proofs of the library, with one case more: JvmDerived/Free/Laws.lean (Back.of_free), Shelf42/LK1.lean (callV, callS), Shelf/KitTraced.lean (throwNew0V, throwNewS). -/
/-- where a method has thrown q: the class by its name, the cell, what was written, the world -/
def vx_T (XC : String → State → State → Prop) (st : State) (q : Addr) (t : State) (mc ms : Nat) (free : Addr → Prop) : Prop :=
  ∃ (E : String) (ce : Cell) (L : List Loc), XC E st t ∧ t.heap[q]? = some ce ∧ ce.vm = .none ∧ st.vm.findClass E = some ce.cls ∧ st.WarmedH t.vm ∧ st.sameButNew ({ t with vm := st.vm } : State) L mc ms ∧ ∀ z ∈ L, free z.base
def vx_Q (Qc : Array Value → State → Outcome → State → Prop) (XC : String → State → State → Prop) (mc ms : Nat) (free : Addr → Prop) : Array Value → State → Outcome → State → Prop := fun a st o t =>
  (Qc a st o t ∧ ∃ L, FrameEnd st o t L mc ms ∧ ∀ q ∈ L, free q.base) ∨ ∃ q, o = .threw q ∧ vx_T XC st q t mc ms free
/-- a callee that returns or throws -/
def vx_Met (l : Launch) (y : MethodName) (ws : List Cond) (rm : Room) (Pc : Array Value → State → Prop) (Qc : Array Value → State → Outcome → State → Prop) (XC : String → State → State → Prop) (mc ms : Nat) (free : Addr → Prop) : Prop :=
  MetFree l y (headSpec ws rm) Pc (fun _ _ _ _ _ => True) (vx_Q Qc XC mc ms free)
def vx_Post (XC : String → State → State → Prop) (mc ms : Nat) (free : Addr → Prop) : Pt → Array Value → Addr → Pt → Prop := fun A a q B =>
  ∃ (g : JFrame) (mk : MethodId) (t : State) (L : List Loc) (E : String) (ce : Cell), B.U.heap = t.heap ∧ B.U.vm = t.vm ∧ XC E (A.U.calling g mk a) t ∧ t.heap[q]? = some ce ∧ ce.vm = .none ∧ A.U.vm.findClass E = some ce.cls ∧ B.locs = A.locs ++ L ∧ (∀ z ∈ L, free z.base) ∧ B.cells = A.cells + mc ∧ B.slots = A.slots + ms
def vx_Back (l : Launch) (R : Room) (p : Program) (e : Env) (below : List Frame) (s : State) (sargs : Array Value) (y : MethodName) (len W9 : Nat)
    (Pre : Pt → Array Value → Prop) (Post : Pt → Array Value → Option Value → Pt → Prop) (PostX : Pt → Array Value → Addr → Pt → Prop) : Prop :=
  ∀ (m : MethodId) (meth : Method) (c : Code) (A : Pt) (g : JFrame) (ig : Instr) (mk : MethodId) (a : Array Value),
    Stand p l e R s m sargs below meth c A.U A.locs A.cells A.slots → g.method = m → g.locals.size = c.maxLocals → decode c.code g.pc = .ok (ig, len) →
    2 * g.monitorRoom + (g.stack.map fun v => v.category).sum ≤ W9 → A.U.methodNamed? y = some mk → Pre A a →
    (∃ (v : Option Value) (B : Pt), Stand p l e R s m sargs below meth c B.U B.locs B.cells B.slots ∧ Post A a v B ∧
      Steps p.tables e below (doInvoke e (A.U.setTop g) [] mk a).1 (B.U.setTop { g with pc := g.pc + len, stack := v.toList ++ g.stack })) ∨
    (∃ (q : Addr) (B : Pt), Stand p l e R s m sargs below meth c B.U B.locs B.cells B.slots ∧ PostX A a q B ∧
      Steps p.tables e below (doInvoke e (A.U.setTop g) [] mk a).1 ((B.U.setTop g).pushFrame (.throwing q)))
section Payer
variable {l : Launch} {R : Room} {p : Program} {e : Env} {below : List Frame} {s : State} {sargs : Array Value} {y : MethodName} {len W9 : Nat}
theorem vx_back {ws : List Cond} {rm : Room} {Pc : Array Value → State → Prop} {Qc : Array Value → State → Outcome → State → Prop} {XC : String → State → State → Prop} {mc ms : Nat} {free : Addr → Prop} {bytes : ByteArray} {maxL : Nat} {ret : Option FieldType}
    (hM : vx_Met l y ws rm Pc Qc XC mc ms free) (hblind : FrameBlind Pc) (hrc : rm.cells = mc) (hrs : rm.slots = ms)
    (hframes : rm.frames + 1 ≤ R.frames) (hlocals : W9 + (maxL + 11) + rm.locals ≤ R.locals)
    (hws : ∀ w ∈ ws, ∀ a' U, s.WarmedH U.vm → w.before a' U = true) (hcode : Cond.code y bytes maxL ret ∈ ws) (hinit : ∀ a' U, s.WarmedH U.vm → (Cond.initialized y.cls).before a' U = true) :
    vx_Back l R p e below s sargs y len W9 (PreOf R mc ms Pc) (PostOf Qc mc ms free) (vx_Post XC mc ms free) := by
  intro m meth c A g ig mk a X hg hsize hdg hW hn hp
  have h1 : (headSpec ws rm).pre.before a A.U = true := atoms_intro fun w hw => hws w hw _ _ X.warmed
  have h2 : (Cond.code y bytes maxL ret).before a A.U = true := hws _ hcode _ _ X.warmed
  have h3 : (Cond.initialized y.cls).before a A.U = true := hinit _ _ X.warmed
  have h4 : A.cells + (headSpec ws rm).room.cells ≤ R.cells := by rw [show (headSpec ws rm).room.cells = mc from hrc]; exact hp.1
  have h5 : A.slots + (headSpec ws rm).room.slots ≤ R.slots := by rw [show (headSpec ws rm).room.slots = ms from hrs]; exact hp.2.1
  have hPc : Pc a (A.U.calling g mk a) := hblind _ _ _ _ hp.2.2
  obtain ⟨U, Ls, c0, s0⟩ := A
  dsimp only [Pt.U, Pt.locs, Pt.cells, Pt.slots] at h1 h2 h3 h4 h5 X hn hPc ⊢
  obtain ⟨methY, cY, hmY, hcY, -, hlY, -, -, -, -⟩ := Cond.code_spec hn h2
  obtain ⟨kY, hkY, -⟩ := className_of_methodNamed hn
  have hinitY : kY.init = .initialized := Cond.initialized_spec (findClass_of_methodNamed hn) hkY h3
  have h : At U g.method c below := by rw [hg]; exact X.here
  have hlocals9 : W9 + (maxL + 11) + (headSpec ws rm).room.locals ≤ R.locals := hlocals
  have happ : (headSpec ws rm).appliesLoose y e.platform (U.calling g mk a) = true :=
    Spec.appliesLoose_calling (g := g) h hdg hn hkY hinitY
      (X.room_calling (g := g) (R' := (headSpec ws rm).room) hsize hmY hcY hframes (by rw [hlY]; omega) h4 h5) h1
  obtain ⟨mid, hmid⟩ := h.above
  have hfr : (U.setTop g).frames = (.java g :: mid) ++ below := by rw [State.frames_setTop' g h.top, hmid]; rfl
  obtain ⟨o, s₂, hsteps, -, hend, hq⟩ := Steps.callFree hM p X.admits X.cas X.clock (acts := []) hfr happ hPc trivial
  have hq' : vx_Q Qc XC mc ms free a (U.calling g mk a) o s₂ := hq
  rw [State.frames_setTop' g h.top] at hend
  obtain ⟨g₀, hg0⟩ := Option.isSome_iff_exists.mp h.top
  obtain ⟨r, hr⟩ := State.topJava?_eq_some.mp hg0
  have hr' : (({ U with heap := s₂.heap, slotsUsed := s₂.slotsUsed } : State).setVm s₂.vm).frames = .java g₀ :: r := hr
  rcases hq' with ⟨hqc, L, hfe, hL⟩ | ⟨q, rfl, E, ce, L, hx, hce, hcv, hcl, hW₂, hsm, hL⟩
  · obtain ⟨⟨v, rfl⟩, hW₂, e2, q2, q3, q4, q5, q6⟩ := id hfe
    have e3 : s₂ = ({ (U.calling g mk a).setFrames s₂.frames with heap := s₂.heap, slotsUsed := s₂.slotsUsed } : State).setVm s₂.vm := by
      have : s₂ = ({ s₂ with vm := (U.calling g mk a).vm } : State).setVm s₂.vm := rfl
      rw [e2] at this
      exact this
    obtain ⟨c₂, i₂, len₂, hc₂, hd₂, hf₂⟩ := hend
    have hW' : U.WarmedH s₂.vm := hW₂
    have hcc : c₂ = c := by
      have h1 : s₂.code? g.method = U.code? g.method := by
        rw [State.code?_eq, State.code?_eq, hW'.alike.method?]
      exact Option.some.inj (hc₂.symm.trans (h1.trans h.code))
    subst hcc
    have hlen : len₂ = len := by rw [hdg] at hd₂; cases hd₂; rfl
    subst hlen
    have hs₂ : s₂ = (({ U with heap := s₂.heap, slotsUsed := s₂.slotsUsed } : State).setVm s₂.vm).setTop { g with pc := g.pc + len₂, stack := v.toList ++ g.stack } := by
      refine e3.trans ?_
      rw [hf₂, State.calling_eq h.top, State.setFrames_setFrames, State.setTop_of_frames _ hr', hr]
      rfl
    have hsame : U.sameButNew ({ U with heap := s₂.heap, slotsUsed := s₂.slotsUsed } : State) L mc ms := by
      refine ⟨?_, q2, q3, q4, q5, q6⟩
      obtain ⟨t, ht, -⟩ := State.frames_cons hr
      show ({ U with heap := s₂.heap, slotsUsed := s₂.slotsUsed } : State) = { U.setFrames U.frames with heap := s₂.heap, slotsUsed := s₂.slotsUsed }
      rw [State.setFrames_self ht]
    subst hg
    refine Or.inl ⟨v, ⟨(({ U with heap := s₂.heap, slotsUsed := s₂.slotsUsed } : State).setVm s₂.vm), Ls ++ L, c0 + mc, s0 + ms⟩,
      ⟨X.admits, X.cas, X.clock, X.frames, X.room, X.hears, X.method, X.code, (X.here.setHeapUsed s₂.heap s₂.slotsUsed).setVm hW'.alike, X.tail, State.WarmedH.trans X.warmed hW', X.limits, X.bytes, X.same.trans (hsame.setVm s.vm)⟩,
      ⟨g, mk, s₂, L, rfl, rfl, hqc, rfl, hL, rfl, rfl⟩, ?_⟩
    show Steps p.tables e below _ ((({ U with heap := s₂.heap, slotsUsed := s₂.slotsUsed } : State).setVm s₂.vm).setTop { g with pc := g.pc + len₂, stack := v.toList ++ g.stack })
    rw [← hs₂]
    exact hsteps
  · obtain ⟨e2, q2, q3, q4, q5, q6⟩ := id hsm
    have e3 : s₂ = ({ (U.calling g mk a).setFrames s₂.frames with heap := s₂.heap, slotsUsed := s₂.slotsUsed } : State).setVm s₂.vm := by
      have : s₂ = ({ s₂ with vm := (U.calling g mk a).vm } : State).setVm s₂.vm := rfl
      rw [e2] at this
      exact this
    have hf₂ : s₂.frames = .throwing q :: .java g :: U.frames.tail := hend
    have hW' : U.WarmedH s₂.vm := hW₂
    have hs₂ : s₂ = ((({ U with heap := s₂.heap, slotsUsed := s₂.slotsUsed } : State).setVm s₂.vm).setTop g).pushFrame (.throwing q) := by
      refine e3.trans ?_
      rw [hf₂, State.calling_eq h.top, State.setFrames_setFrames, State.pushFrame, State.frames_setTop _ hr', State.setTop_of_frames _ hr', State.setFrames_setFrames, hr]
      rfl
    have hsame : U.sameButNew ({ U with heap := s₂.heap, slotsUsed := s₂.slotsUsed } : State) L mc ms := by
      refine ⟨?_, q2, q3, q4, q5, q6⟩
      obtain ⟨t, ht, -⟩ := State.frames_cons hr
      show ({ U with heap := s₂.heap, slotsUsed := s₂.slotsUsed } : State) = { U.setFrames U.frames with heap := s₂.heap, slotsUsed := s₂.slotsUsed }
      rw [State.setFrames_self ht]
    subst hg
    refine Or.inr ⟨q, ⟨(({ U with heap := s₂.heap, slotsUsed := s₂.slotsUsed } : State).setVm s₂.vm), Ls ++ L, c0 + mc, s0 + ms⟩,
      ⟨X.admits, X.cas, X.clock, X.frames, X.room, X.hears, X.method, X.code, (X.here.setHeapUsed s₂.heap s₂.slotsUsed).setVm hW'.alike, X.tail, State.WarmedH.trans X.warmed hW', X.limits, X.bytes, X.same.trans (hsame.setVm s.vm)⟩,
      ⟨g, mk, s₂, L, E, ce, rfl, rfl, hx, hce, hcv, hcl, rfl, hL, rfl, rfl⟩, ?_⟩
    show Steps p.tables e below _ (((({ U with heap := s₂.heap, slotsUsed := s₂.slotsUsed } : State).setVm s₂.vm).setTop g).pushFrame (.throwing q))
    rw [← hs₂]
    exact hsteps
end Payer
section Calls
variable {p : Program} {l : Launch} {e : Env} {R : Room} {s : State} {m : MethodId} {args : Array Value} {below : List Frame} {meth : Method} {c : Code} {T : State} {locs : List Loc} {cells slots : Nat}
theorem vx_callV (X : Stand p l e R s m args below meth c T locs cells slots) (hexec : p.tables.exec = Jvm.exec) {own C : String} {index : Nat} {y : MethodName} {bytes : ByteArray} {maxL : Nat} {ret : Option FieldType}
    (hown : s.vm.findClass own = some m.cls) (hlink : (Cond.methodLink own index y).before args s = true) (hinst : (Cond.instanceMethod y).before args s = true) (hsel : (Cond.selects C y y).before args s = true)
    (hcode : (Cond.code y bytes maxL ret).before args s = true) (hy : y.cls ≠ "java/lang/invoke/MethodHandle" ∧ y.cls ≠ "java/lang/invoke/VarHandle")
    {W9 : Nat} {Pre : Pt → Array Value → Prop} {Post : Pt → Array Value → Option Value → Pt → Prop} {PostX : Pt → Array Value → Addr → Pt → Prop} (hK : vx_Back l R p e below s args y 3 W9 Pre Post PostX)
    {b : Addr} {cellB : Cell} (hcell : T.heap[b]? = some cellB) (hobj : cellB.vm.isStatics = false) (hcls : s.vm.findClass C = some cellB.cls)
    {g : JFrame} (hg : g.method = m) (hsize : g.locals.size = c.maxLocals) {argsL rest : List Value} (hlen : ∀ sig, parseMethodDescriptor y.desc = some sig → argsL.length = sig.parameters.length)
    (hstack : g.stack = argsL.reverse ++ .ref b :: rest) (hW : 2 * g.monitorRoom + (rest.map fun v => v.category).sum ≤ W9) (hdg : decode c.code g.pc = .ok (.invokevirtual index, 3))
    (hpre : ∀ vm₁, s.WarmedH vm₁ → Pre ⟨T.setVm vm₁, locs, cells, slots⟩ (Value.ref b :: argsL).toArray) :
    (∃ (v : Option Value) (vm₁ : Vm) (B : Pt), s.WarmedH vm₁ ∧ Stand p l e R s m args below meth c B.U B.locs B.cells B.slots ∧ Post ⟨T.setVm vm₁, locs, cells, slots⟩ (Value.ref b :: argsL).toArray v B ∧
      ∀ target, Steps p.tables e below (B.U.setTop { g with pc := g.pc + 3, stack := v.toList ++ rest }) target → Steps p.tables e below (T.setTop g) target) ∨
    (∃ (q : Addr) (vm₁ : Vm) (B : Pt), s.WarmedH vm₁ ∧ Stand p l e R s m args below meth c B.U B.locs B.cells B.slots ∧ PostX ⟨T.setVm vm₁, locs, cells, slots⟩ (Value.ref b :: argsL).toArray q B ∧
      Steps p.tables e below (T.setTop g) ((B.U.setTop { g with stack := rest }).pushFrame (.throwing q))) := by
  obtain ⟨mk, methM, hnamed, hmethM, hstM, habM⟩ := Cond.instanceMethod_spec hinst
  obtain ⟨methM', cM, hmethM', -, -, -, -, -, -, hsigM⟩ := Cond.code_spec hnamed hcode
  cases hmethM.symm.trans hmethM'
  obtain ⟨c2, r2, m2, q1, q2, q3, q4, kP, hkP, hkPi⟩ := Cond.selects_spec hsel
  cases hcls.symm.trans q1
  cases (State.methodFound?_of_named hnamed hy).symm.trans q2
  cases hnamed.symm.trans q3
  have hselP : selectMethod e.platform s.vm cellB.cls mk = .method mk := by rw [Launch.admits_selectMethod X.admits]; exact q4
  obtain ⟨vm₁, X₁, hstep₁⟩ := X.invokevirtual hexec hown hlink hnamed hmethM hstM hkP hkPi hy (a := b) (cell := cellB) hcell
    (fun z h => by rw [h] at hobj; cases hobj) hselP hmethM habM hkP hkPi (g := g) hg (argsL := argsL) (rest := rest) (hlen _ hsigM) hstack hdg
  rcases hK m meth c ⟨T.setVm vm₁, locs, cells, slots⟩ { g with stack := rest } (.invokevirtual index) mk (Value.ref b :: argsL).toArray X₁ hg hsize hdg hW (X₁.named hnamed) (hpre vm₁ X₁.warmed) with ⟨v, B, X', hpost, hsteps⟩ | ⟨q, B, X', hpost, hsteps⟩
  · exact Or.inl ⟨v, vm₁, B, X₁.warmed, X', hpost, fun target h => hstep₁ _ fun acts => by rw [doInvoke_state]; exact hsteps.trans h⟩
  · exact Or.inr ⟨q, vm₁, B, X₁.warmed, X', hpost, hstep₁ _ fun acts => by rw [doInvoke_state]; exact hsteps⟩
theorem vx_callS (X : Stand p l e R s m args below meth c T locs cells slots) (hexec : p.tables.exec = Jvm.exec) {own : String} {index : Nat} {y : MethodName} {bytes : ByteArray} {maxL : Nat} {ret : Option FieldType}
    (hown : s.vm.findClass own = some m.cls) (hlink : (Cond.methodLink own index y).before args s = true) (hstat : (Cond.static y).before args s = true) (hinit : (Cond.initialized y.cls).before args s = true)
    (hcode : (Cond.code y bytes maxL ret).before args s = true) (hy : y.cls ≠ "java/lang/invoke/MethodHandle" ∧ y.cls ≠ "java/lang/invoke/VarHandle")
    {W9 : Nat} {Pre : Pt → Array Value → Prop} {Post : Pt → Array Value → Option Value → Pt → Prop} {PostX : Pt → Array Value → Addr → Pt → Prop} (hK : vx_Back l R p e below s args y 3 W9 Pre Post PostX)
    {g : JFrame} (hg : g.method = m) (hsize : g.locals.size = c.maxLocals) {argsL rest : List Value} (hlen : ∀ sig, parseMethodDescriptor y.desc = some sig → argsL.length = sig.parameters.length)
    (hstack : g.stack = argsL.reverse ++ rest) (hW : 2 * g.monitorRoom + (rest.map fun v => v.category).sum ≤ W9) (hdg : decode c.code g.pc = .ok (.invokestatic index, 3))
    (hpre : ∀ vm₁, s.WarmedH vm₁ → Pre ⟨T.setVm vm₁, locs, cells, slots⟩ argsL.toArray) :
    (∃ (v : Option Value) (vm₁ : Vm) (B : Pt), s.WarmedH vm₁ ∧ Stand p l e R s m args below meth c B.U B.locs B.cells B.slots ∧ Post ⟨T.setVm vm₁, locs, cells, slots⟩ argsL.toArray v B ∧
      ∀ target, Steps p.tables e below (B.U.setTop { g with pc := g.pc + 3, stack := v.toList ++ rest }) target → Steps p.tables e below (T.setTop g) target) ∨
    (∃ (q : Addr) (vm₁ : Vm) (B : Pt), s.WarmedH vm₁ ∧ Stand p l e R s m args below meth c B.U B.locs B.cells B.slots ∧ PostX ⟨T.setVm vm₁, locs, cells, slots⟩ argsL.toArray q B ∧
      Steps p.tables e below (T.setTop g) ((B.U.setTop { g with stack := rest }).pushFrame (.throwing q))) := by
  obtain ⟨mk, hnamed⟩ := Cond.code_named hcode
  obtain ⟨methM, cM, hmethM, -, -, -, -, -, -, hsigM⟩ := Cond.code_spec hnamed hcode
  have hstatic : methM.isStatic = true := Cond.static_spec hnamed hmethM hstat
  obtain ⟨kP, hkP, -⟩ := className_of_methodNamed hnamed
  have hinitP : kP.init = .initialized := Cond.initialized_spec (findClass_of_methodNamed hnamed) hkP hinit
  obtain ⟨vm₁, X₁, hstep₁⟩ := X.invokestatic hexec hown hlink hnamed hmethM hstatic hkP hinitP hy (g := g) hg (argsL := argsL) (rest := rest) (hlen _ hsigM) hstack hdg
  rcases hK m meth c ⟨T.setVm vm₁, locs, cells, slots⟩ { g with stack := rest } (.invokestatic index) mk argsL.toArray X₁ hg hsize hdg hW (X₁.named hnamed) (hpre vm₁ X₁.warmed) with ⟨v, B, X', hpost, hsteps⟩ | ⟨q, B, X', hpost, hsteps⟩
  · exact Or.inl ⟨v, vm₁, B, X₁.warmed, X', hpost, fun target h => hstep₁ _ fun acts => by rw [doInvoke_state]; exact hsteps.trans h⟩
  · exact Or.inr ⟨q, vm₁, B, X₁.warmed, X', hpost, hstep₁ _ fun acts => by rw [doInvoke_state]; exact hsteps⟩
end Calls
theorem vx_cls {s : State} {T : State} {vm₁ : Vm} {E : String} {k : ClassId} (hW : s.WarmedH vm₁) (h : (T.setVm vm₁).vm.findClass E = some k) : s.vm.findClass E = some k := by
  have h1 : vm₁.findClass E = some k := h
  rw [hW.alike.findClass] at h1
  exact h1
/-- the method's frame g, with q thrown over it -/
def vx_W (p : Program) (l : Launch) (e : Env) (R : Room) (s : State) (m : MethodId) (args : Array Value) (below : List Frame) (meth : Method) (c : Code) (H : Heap) (locs : List Loc) (cells slots : Nat) (Q : State → Prop) (g : JFrame) (q : Addr) : Prop :=
  ∀ T : State, T.heap = H → Stand p l e R s m args below meth c T locs cells slots → ∃ t, Steps p.tables e below ((T.setTop g).pushFrame (.throwing q)) t ∧ Q t
def vx_Run (p : Program) (l : Launch) (e : Env) (R : Room) (s : State) (m : MethodId) (args : Array Value) (below : List Frame) (meth : Method) (c : Code) (H : Heap) (locs : List Loc) (cells slots mc ms : Nat) (g : JFrame) (rest : List Value) (Qa : State → Outcome → State → Prop) (XC : String → State → State → Prop) (free : Addr → Prop) : Prop :=
  ∀ T : State, T.heap = H → Stand p l e R s m args below meth c T locs cells slots →
    (∃ (v : Option Value) (st₀ t T' : State) (L : List Loc), st₀.heap = H ∧ Stand p l e R s m args below meth c T' (locs ++ L) (cells + mc) (slots + ms) ∧ (∀ q ∈ L, free q.base) ∧ T'.heap = t.heap ∧ T'.vm = t.vm ∧ Qa st₀ (.returned v) t ∧
      Goes p e below T g T' { g with pc := g.pc + 3, stack := v.toList ++ rest }) ∨
    (∃ (q : Addr) (st₀ t T' : State) (L : List Loc) (E : String) (ce : Cell), st₀.heap = H ∧ Stand p l e R s m args below meth c T' (locs ++ L) (cells + mc) (slots + ms) ∧ (∀ z ∈ L, free z.base) ∧ T'.heap = t.heap ∧ T'.vm = t.vm ∧ XC E st₀ t ∧ t.heap[q]? = some ce ∧ ce.vm = .none ∧ s.vm.findClass E = some ce.cls ∧
      Steps p.tables e below (T.setTop g) ((T'.setTop { g with stack := rest }).pushFrame (.throwing q)))
def vx_X {S : Type} (px : S → Prop) (B : String → S → State → Prop) (A : Nat → Prop) : String → State → State → Prop := fun E st t => ∃ u : S, px u ∧ B E u t ∧ va_F A st t
section Runs
variable {p : Program} {l : Launch} {e : Env} {R : Room} {s : State} {m : MethodId} {args : Array Value} {below : List Frame} {meth : Method} {c : Code} {H : Heap} {locs : List Loc} {cells slots : Nat}
variable {y : MethodName} {bytes cc : ByteArray} {maxL nL mc ms n index : Nat} {ret : Option FieldType} {ws : List Cond} {rm : Room} {Pc : Array Value → State → Prop} {Qc : Array Value → State → Outcome → State → Prop} {XC : String → State → State → Prop} {free : Addr → Prop} {Ts : List Cond} {own C : String} {b : Addr} {As rest : List Value} {g : JFrame}
theorem vx_callBack (cb : CallB R s args own index y bytes maxL ret ws rm mc ms n) (hM : vx_Met l y ws rm Pc Qc XC mc ms free) (hbl : FrameBlind Pc) : vx_Back l R p e below s args y 3 8 (PreOf R mc ms Pc) (PostOf Qc mc ms free) (vx_Post XC mc ms free) := by
  obtain ⟨hrc, hrs, hfr, hlo, hws, hcw, -, hini, -⟩ := cb
  exact vx_back (bytes := bytes) (maxL := maxL) (ret := ret) hM hbl hrc hrs hfr hlo hws hcw (fun a' U hW => word_at hW (Or.inl (by first | rfl | simp [Cond.onTables, Cond.keeps, Cond.steady])) hini)
theorem vx_runV (S : CallFix p m c cc nL s args Ts own) (hM : vx_Met l y ws rm Pc Qc XC mc ms free) (cw : CallW R s args own C index y bytes maxL ret ws rm mc ms n) (hp : PreV s H C b Pc As)
    (hg : g.method = m) (hn : As.length = n) (hsize : g.locals.size = nL) (hstack : g.stack = As.reverse ++ .ref b :: rest) (hW : 2 * g.monitorRoom + (rest.map fun v => v.category).sum ≤ 8) (hdg : decode cc g.pc = .ok (.invokevirtual index, 3)) (hf : cells + mc ≤ R.cells ∧ slots + ms ≤ R.slots) :
    vx_Run p l e R s m args below meth c H locs cells slots mc ms g rest (Qc (Value.ref b :: As).toArray) XC free := by
  have hK : vx_Back l R p e below s args y 3 8 (PreOf R mc ms Pc) (PostOf Qc mc ms free) (vx_Post XC mc ms free) := vx_callBack cw.1 hM hp.1
  obtain ⟨⟨-, -, -, -, -, -, hcode, -, hy, hlen, hl⟩, hin, hse⟩ := cw
  obtain ⟨hx, hb, hml, ho, -⟩ := S
  obtain ⟨-, ⟨cellB, hcB, hoB, hclB⟩, hPc⟩ := hp
  intro T hT X
  rcases vx_callV X hx (C := C) (bytes := bytes) (maxL := maxL) (ret := ret) ho hl hin hse hcode hy hK (by rw [hT]; exact hcB) hoB hclB hg (hsize.trans hml.symm) (argsL := As) (rest := rest) (fun sig h => hn.trans (hlen sig h)) hstack hW (by rw [hb]; exact hdg)
    (fun vm₁ hW₁ => ⟨hf.1, hf.2, hPc (T.setVm vm₁) hT hW₁⟩) with ⟨v, vm₁, ⟨U', l2, c2, s2⟩, hW₁, X', ⟨g', mk, t, L, e1, e2, hq, h1, hL, h2, h3⟩, st⟩ | ⟨q, vm₁, ⟨U', l2, c2, s2⟩, hW₁, X', ⟨g', mk, t, L, E, ce, e1, e2, hq, hce, hcv, hcl, h1, hL, h2, h3⟩, st⟩
  · dsimp only [Pt.U, Pt.locs, Pt.cells, Pt.slots] at X' e1 e2 h1 h2 h3 st
    subst h1; subst h2; subst h3
    exact Or.inl ⟨v, (T.setVm vm₁).calling g' mk (Value.ref b :: As).toArray, t, U', L, hT, X', hL, e1, e2, hq, st⟩
  · dsimp only [Pt.U, Pt.locs, Pt.cells, Pt.slots] at X' e1 e2 h1 h2 h3 st hcl
    subst h1; subst h2; subst h3
    exact Or.inr ⟨q, (T.setVm vm₁).calling g' mk (Value.ref b :: As).toArray, t, U', L, E, ce, hT, X', hL, e1, e2, hq, hce, hcv, vx_cls hW₁ hcl, st⟩
theorem vx_runS (S : CallFix p m c cc nL s args Ts own) (hM : vx_Met l y ws rm Pc Qc XC mc ms free) (cw : CallB R s args own index y bytes maxL ret ws rm mc ms n ∧ (Cond.static y).before args s = true) (hp : PreS s H Pc As)
    (hg : g.method = m) (hn : As.length = n) (hsize : g.locals.size = nL) (hstack : g.stack = As.reverse ++ rest) (hW : 2 * g.monitorRoom + (rest.map fun v => v.category).sum ≤ 8) (hdg : decode cc g.pc = .ok (.invokestatic index, 3)) (hf : cells + mc ≤ R.cells ∧ slots + ms ≤ R.slots) :
    vx_Run p l e R s m args below meth c H locs cells slots mc ms g rest (Qc As.toArray) XC free := by
  have hK : vx_Back l R p e below s args y 3 8 (PreOf R mc ms Pc) (PostOf Qc mc ms free) (vx_Post XC mc ms free) := vx_callBack cw.1 hM hp.1
  obtain ⟨⟨-, -, -, -, -, -, hcode, hini, hy, hlen, hl⟩, hstt⟩ := cw
  obtain ⟨hx, hb, hml, ho, -⟩ := S
  intro T hT X
  rcases vx_callS X hx (bytes := bytes) (maxL := maxL) (ret := ret) ho hl hstt hini hcode hy hK hg (hsize.trans hml.symm) (argsL := As) (rest := rest) (fun sig h => hn.trans (hlen sig h)) hstack hW (by rw [hb]; exact hdg)
    (fun vm₁ hW₁ => ⟨hf.1, hf.2, hp.2 (T.setVm vm₁) hT hW₁⟩) with ⟨v, vm₁, ⟨U', l2, c2, s2⟩, hW₁, X', ⟨g', mk, t, L, e1, e2, hq, h1, hL, h2, h3⟩, st⟩ | ⟨q, vm₁, ⟨U', l2, c2, s2⟩, hW₁, X', ⟨g', mk, t, L, E, ce, e1, e2, hq, hce, hcv, hcl, h1, hL, h2, h3⟩, st⟩
  · dsimp only [Pt.U, Pt.locs, Pt.cells, Pt.slots] at X' e1 e2 h1 h2 h3 st
    subst h1; subst h2; subst h3
    exact Or.inl ⟨v, (T.setVm vm₁).calling g' mk As.toArray, t, U', L, hT, X', hL, e1, e2, hq, st⟩
  · dsimp only [Pt.U, Pt.locs, Pt.cells, Pt.slots] at X' e1 e2 h1 h2 h3 st hcl
    subst h1; subst h2; subst h3
    exact Or.inr ⟨q, (T.setVm vm₁).calling g' mk As.toArray, t, U', L, E, ce, hT, X', hL, e1, e2, hq, hce, hcv, vx_cls hW₁ hcl, st⟩
end Runs
section Rows
variable {p : Program} {l : Launch} {e : Env} {R : Room} {s : State} {m : MethodId} {args : Array Value} {below : List Frame} {meth : Method} {c : Code} {H : Heap} {locs : List Loc} {cells slots : Nat} {Q : State → Prop}
variable {mc ms : Nat} {free : Addr → Prop} {A0 A1 : Nat → Prop} {H0 : Heap} {a : Array Value} {pc : Nat} {ls : Array Slot} {st0 rest : List Value}
theorem vx_keep {st₀ t T' : State} {L : List Loc} (h0 : st₀.heap = H) (e1 : T'.heap = t.heap) (hS : va_S A0 H0 H locs) (hA : ∀ q, q < H.size → A1 q → A0 q) (hf : ∀ q, free q → A0 q) (hL : ∀ q ∈ L, free q.base) (hF : va_F A1 st₀ t) :
    H.size ≤ T'.heap.size ∧ (∀ q : Nat, q < H.size → ¬ A1 q → T'.heap[q]? = H[q]?) ∧ va_S A0 H0 T'.heap (locs ++ L) := by
  obtain ⟨hz, hk⟩ := hF
  rw [h0] at hz hk
  exact ⟨by rw [e1]; exact hz, fun q h1 h2 => by rw [e1]; exact hk q h1 h2,
    ⟨Nat.le_trans hS.1 (by rw [e1]; exact hz), fun q h1 h2 => by rw [e1, hk q (Nat.lt_of_lt_of_le h1 hS.1) (fun z => h2 (hA q (Nat.lt_of_lt_of_le h1 hS.1) z))]; exact hS.2.1 q h1 h2, fun q hq => by
      rcases List.mem_append.mp hq with h | h
      · exact hS.2.2 q h
      · exact hf _ (hL q h)⟩⟩
theorem vx_calli {S SX : Type} {post : Int32 → S → Prop} {px : SX → Prop} {B : S → State → Prop} {BX : String → SX → State → Prop} {AX : Nat → Prop} (hr : vx_Run p l e R s m args below meth c H locs cells slots mc ms (F0 m pc ls st0) rest (va_Qi post B A1 a) (vx_X px BX AX) free) (hS : va_S A0 H0 H locs) (hA : ∀ q, q < H.size → A1 q → A0 q) (hf : ∀ q, free q → A0 q) (hAX : ∀ q, q < H.size → AX q → A0 q)
    (kx : ∀ (E : String) (ce : Cell) (q9 : Addr) (u : SX) (t : State) (H1 : Heap) (locs1 : List Loc), t.heap = H1 → s.vm.Alike t.vm → px u → BX E u t → H.size ≤ H1.size → (∀ q : Nat, q < H.size → ¬ AX q → H1[q]? = H[q]?) → va_S A0 H0 H1 locs1 → H1[q9]? = some ce → ce.vm = .none → s.vm.findClass E = some ce.cls → vx_W p l e R s m args below meth c H1 locs1 (cells + mc) (slots + ms) Q (F0 m pc ls rest) q9)
    (kk : ∀ (r : Int32) (u : S) (t : State) (H1 : Heap) (locs1 : List Loc), t.heap = H1 → s.vm.Alike t.vm → post r u → B u t → H.size ≤ H1.size → (∀ q : Nat, q < H.size → ¬ A1 q → H1[q]? = H[q]?) → va_S A0 H0 H1 locs1 → W p l e R s m args below meth c H1 locs1 (cells + mc) (slots + ms) Q (F0 m (pc + 3) ls (.int r :: rest))) : W p l e R s m args below meth c H locs cells slots Q (F0 m pc ls st0) := by
  intro T hT X
  rcases hr T hT X with ⟨v, st₀, t, T', L, h0, X', hL, e1, e2, ⟨⟨r, u, hv, hp, hb⟩, hF⟩, st⟩ | ⟨q, st₀, t, T', L, E, ce, h0, X', hL, e1, e2, ⟨u, hp, hb, hF⟩, hce, hcv, hcl, st⟩
  · cases hv
    obtain ⟨k1, k2, k3⟩ := vx_keep h0 e1 hS hA hf hL hF
    obtain ⟨t2, a1, b1⟩ := kk r u t T'.heap (locs ++ L) e1.symm (by rw [← e2]; exact X'.warmed.alike) hp hb k1 k2 k3 T' rfl X'
    exact ⟨t2, st t2 a1, b1⟩
  · obtain ⟨k1, k2, k3⟩ := vx_keep h0 e1 hS hAX hf hL hF
    obtain ⟨t2, a1, b1⟩ := kx E ce q u t T'.heap (locs ++ L) e1.symm (by rw [← e2]; exact X'.warmed.alike) hp hb k1 k2 k3 (by rw [e1]; exact hce) hcv hcl T' rfl X'
    exact ⟨t2, st.trans a1, b1⟩
theorem vx_calll {S SX : Type} {post : Int64 → S → Prop} {px : SX → Prop} {B : S → State → Prop} {BX : String → SX → State → Prop} {AX : Nat → Prop} (hr : vx_Run p l e R s m args below meth c H locs cells slots mc ms (F0 m pc ls st0) rest (va_Ql post B A1 a) (vx_X px BX AX) free) (hS : va_S A0 H0 H locs) (hA : ∀ q, q < H.size → A1 q → A0 q) (hf : ∀ q, free q → A0 q) (hAX : ∀ q, q < H.size → AX q → A0 q)
    (kx : ∀ (E : String) (ce : Cell) (q9 : Addr) (u : SX) (t : State) (H1 : Heap) (locs1 : List Loc), t.heap = H1 → s.vm.Alike t.vm → px u → BX E u t → H.size ≤ H1.size → (∀ q : Nat, q < H.size → ¬ AX q → H1[q]? = H[q]?) → va_S A0 H0 H1 locs1 → H1[q9]? = some ce → ce.vm = .none → s.vm.findClass E = some ce.cls → vx_W p l e R s m args below meth c H1 locs1 (cells + mc) (slots + ms) Q (F0 m pc ls rest) q9)
    (kk : ∀ (r : Int64) (u : S) (t : State) (H1 : Heap) (locs1 : List Loc), t.heap = H1 → s.vm.Alike t.vm → post r u → B u t → H.size ≤ H1.size → (∀ q : Nat, q < H.size → ¬ A1 q → H1[q]? = H[q]?) → va_S A0 H0 H1 locs1 → W p l e R s m args below meth c H1 locs1 (cells + mc) (slots + ms) Q (F0 m (pc + 3) ls (.long r :: rest))) : W p l e R s m args below meth c H locs cells slots Q (F0 m pc ls st0) := by
  intro T hT X
  rcases hr T hT X with ⟨v, st₀, t, T', L, h0, X', hL, e1, e2, ⟨⟨r, u, hv, hp, hb⟩, hF⟩, st⟩ | ⟨q, st₀, t, T', L, E, ce, h0, X', hL, e1, e2, ⟨u, hp, hb, hF⟩, hce, hcv, hcl, st⟩
  · cases hv
    obtain ⟨k1, k2, k3⟩ := vx_keep h0 e1 hS hA hf hL hF
    obtain ⟨t2, a1, b1⟩ := kk r u t T'.heap (locs ++ L) e1.symm (by rw [← e2]; exact X'.warmed.alike) hp hb k1 k2 k3 T' rfl X'
    exact ⟨t2, st t2 a1, b1⟩
  · obtain ⟨k1, k2, k3⟩ := vx_keep h0 e1 hS hAX hf hL hF
    obtain ⟨t2, a1, b1⟩ := kx E ce q u t T'.heap (locs ++ L) e1.symm (by rw [← e2]; exact X'.warmed.alike) hp hb k1 k2 k3 (by rw [e1]; exact hce) hcv hcl T' rfl X'
    exact ⟨t2, st.trans a1, b1⟩
theorem vx_callf {S SX : Type} {post : UInt32 → S → Prop} {px : SX → Prop} {B : S → State → Prop} {BX : String → SX → State → Prop} {AX : Nat → Prop} (hr : vx_Run p l e R s m args below meth c H locs cells slots mc ms (F0 m pc ls st0) rest (va_Qf post B A1 a) (vx_X px BX AX) free) (hS : va_S A0 H0 H locs) (hA : ∀ q, q < H.size → A1 q → A0 q) (hf : ∀ q, free q → A0 q) (hAX : ∀ q, q < H.size → AX q → A0 q)
    (kx : ∀ (E : String) (ce : Cell) (q9 : Addr) (u : SX) (t : State) (H1 : Heap) (locs1 : List Loc), t.heap = H1 → s.vm.Alike t.vm → px u → BX E u t → H.size ≤ H1.size → (∀ q : Nat, q < H.size → ¬ AX q → H1[q]? = H[q]?) → va_S A0 H0 H1 locs1 → H1[q9]? = some ce → ce.vm = .none → s.vm.findClass E = some ce.cls → vx_W p l e R s m args below meth c H1 locs1 (cells + mc) (slots + ms) Q (F0 m pc ls rest) q9)
    (kk : ∀ (r : UInt32) (u : S) (t : State) (H1 : Heap) (locs1 : List Loc), t.heap = H1 → s.vm.Alike t.vm → post r u → B u t → H.size ≤ H1.size → (∀ q : Nat, q < H.size → ¬ A1 q → H1[q]? = H[q]?) → va_S A0 H0 H1 locs1 → W p l e R s m args below meth c H1 locs1 (cells + mc) (slots + ms) Q (F0 m (pc + 3) ls (.float r :: rest))) : W p l e R s m args below meth c H locs cells slots Q (F0 m pc ls st0) := by
  intro T hT X
  rcases hr T hT X with ⟨v, st₀, t, T', L, h0, X', hL, e1, e2, ⟨⟨r, u, hv, hp, hb⟩, hF⟩, st⟩ | ⟨q, st₀, t, T', L, E, ce, h0, X', hL, e1, e2, ⟨u, hp, hb, hF⟩, hce, hcv, hcl, st⟩
  · cases hv
    obtain ⟨k1, k2, k3⟩ := vx_keep h0 e1 hS hA hf hL hF
    obtain ⟨t2, a1, b1⟩ := kk r u t T'.heap (locs ++ L) e1.symm (by rw [← e2]; exact X'.warmed.alike) hp hb k1 k2 k3 T' rfl X'
    exact ⟨t2, st t2 a1, b1⟩
  · obtain ⟨k1, k2, k3⟩ := vx_keep h0 e1 hS hAX hf hL hF
    obtain ⟨t2, a1, b1⟩ := kx E ce q u t T'.heap (locs ++ L) e1.symm (by rw [← e2]; exact X'.warmed.alike) hp hb k1 k2 k3 (by rw [e1]; exact hce) hcv hcl T' rfl X'
    exact ⟨t2, st.trans a1, b1⟩
theorem vx_calld {S SX : Type} {post : UInt64 → S → Prop} {px : SX → Prop} {B : S → State → Prop} {BX : String → SX → State → Prop} {AX : Nat → Prop} (hr : vx_Run p l e R s m args below meth c H locs cells slots mc ms (F0 m pc ls st0) rest (va_Qd post B A1 a) (vx_X px BX AX) free) (hS : va_S A0 H0 H locs) (hA : ∀ q, q < H.size → A1 q → A0 q) (hf : ∀ q, free q → A0 q) (hAX : ∀ q, q < H.size → AX q → A0 q)
    (kx : ∀ (E : String) (ce : Cell) (q9 : Addr) (u : SX) (t : State) (H1 : Heap) (locs1 : List Loc), t.heap = H1 → s.vm.Alike t.vm → px u → BX E u t → H.size ≤ H1.size → (∀ q : Nat, q < H.size → ¬ AX q → H1[q]? = H[q]?) → va_S A0 H0 H1 locs1 → H1[q9]? = some ce → ce.vm = .none → s.vm.findClass E = some ce.cls → vx_W p l e R s m args below meth c H1 locs1 (cells + mc) (slots + ms) Q (F0 m pc ls rest) q9)
    (kk : ∀ (r : UInt64) (u : S) (t : State) (H1 : Heap) (locs1 : List Loc), t.heap = H1 → s.vm.Alike t.vm → post r u → B u t → H.size ≤ H1.size → (∀ q : Nat, q < H.size → ¬ A1 q → H1[q]? = H[q]?) → va_S A0 H0 H1 locs1 → W p l e R s m args below meth c H1 locs1 (cells + mc) (slots + ms) Q (F0 m (pc + 3) ls (.double r :: rest))) : W p l e R s m args below meth c H locs cells slots Q (F0 m pc ls st0) := by
  intro T hT X
  rcases hr T hT X with ⟨v, st₀, t, T', L, h0, X', hL, e1, e2, ⟨⟨r, u, hv, hp, hb⟩, hF⟩, st⟩ | ⟨q, st₀, t, T', L, E, ce, h0, X', hL, e1, e2, ⟨u, hp, hb, hF⟩, hce, hcv, hcl, st⟩
  · cases hv
    obtain ⟨k1, k2, k3⟩ := vx_keep h0 e1 hS hA hf hL hF
    obtain ⟨t2, a1, b1⟩ := kk r u t T'.heap (locs ++ L) e1.symm (by rw [← e2]; exact X'.warmed.alike) hp hb k1 k2 k3 T' rfl X'
    exact ⟨t2, st t2 a1, b1⟩
  · obtain ⟨k1, k2, k3⟩ := vx_keep h0 e1 hS hAX hf hL hF
    obtain ⟨t2, a1, b1⟩ := kx E ce q u t T'.heap (locs ++ L) e1.symm (by rw [← e2]; exact X'.warmed.alike) hp hb k1 k2 k3 (by rw [e1]; exact hce) hcv hcl T' rfl X'
    exact ⟨t2, st.trans a1, b1⟩
theorem vx_callv {S SX : Type} {post : S → Prop} {px : SX → Prop} {B : S → State → Prop} {BX : String → SX → State → Prop} {AX : Nat → Prop} (hr : vx_Run p l e R s m args below meth c H locs cells slots mc ms (F0 m pc ls st0) rest (va_Qv post B A1 a) (vx_X px BX AX) free) (hS : va_S A0 H0 H locs) (hA : ∀ q, q < H.size → A1 q → A0 q) (hf : ∀ q, free q → A0 q) (hAX : ∀ q, q < H.size → AX q → A0 q)
    (kx : ∀ (E : String) (ce : Cell) (q9 : Addr) (u : SX) (t : State) (H1 : Heap) (locs1 : List Loc), t.heap = H1 → s.vm.Alike t.vm → px u → BX E u t → H.size ≤ H1.size → (∀ q : Nat, q < H.size → ¬ AX q → H1[q]? = H[q]?) → va_S A0 H0 H1 locs1 → H1[q9]? = some ce → ce.vm = .none → s.vm.findClass E = some ce.cls → vx_W p l e R s m args below meth c H1 locs1 (cells + mc) (slots + ms) Q (F0 m pc ls rest) q9)
    (kk : ∀ (u : S) (t : State) (H1 : Heap) (locs1 : List Loc), t.heap = H1 → s.vm.Alike t.vm → post u → B u t → H.size ≤ H1.size → (∀ q : Nat, q < H.size → ¬ A1 q → H1[q]? = H[q]?) → va_S A0 H0 H1 locs1 → W p l e R s m args below meth c H1 locs1 (cells + mc) (slots + ms) Q (F0 m (pc + 3) ls (rest))) : W p l e R s m args below meth c H locs cells slots Q (F0 m pc ls st0) := by
  intro T hT X
  rcases hr T hT X with ⟨v, st₀, t, T', L, h0, X', hL, e1, e2, ⟨⟨u, hv, hp, hb⟩, hF⟩, st⟩ | ⟨q, st₀, t, T', L, E, ce, h0, X', hL, e1, e2, ⟨u, hp, hb, hF⟩, hce, hcv, hcl, st⟩
  · cases hv
    obtain ⟨k1, k2, k3⟩ := vx_keep h0 e1 hS hA hf hL hF
    obtain ⟨t2, a1, b1⟩ := kk u t T'.heap (locs ++ L) e1.symm (by rw [← e2]; exact X'.warmed.alike) hp hb k1 k2 k3 T' rfl X'
    exact ⟨t2, st t2 a1, b1⟩
  · obtain ⟨k1, k2, k3⟩ := vx_keep h0 e1 hS hAX hf hL hF
    obtain ⟨t2, a1, b1⟩ := kx E ce q u t T'.heap (locs ++ L) e1.symm (by rw [← e2]; exact X'.warmed.alike) hp hb k1 k2 k3 (by rw [e1]; exact hce) hcv hcl T' rfl X'
    exact ⟨t2, st.trans a1, b1⟩
/-- caught by the row x of this method's table; the rows ahead don't take it -/
theorem vx_catch {own name : String} {E : String} {ce : Cell} {q : Addr} (hown : s.vm.findClass own = some m.cls) (pre : List ExceptionTableEntry) (x : ExceptionTableEntry) (suf : List ExceptionTableEntry) (hsplit : c.exceptionTable.toList = pre ++ x :: suf)
    (hpass : ∀ z ∈ pre, covers z pc = false ∨ (z.catchType ≠ 0 ∧ ∃ nm : String, (Cond.classLink own z.catchType nm).before args s = true ∧ va_Nc E nm s)) (hx : covers x pc = true) (h0 : x.catchType ≠ 0)
    (hlink : (Cond.classLink own x.catchType name).before args s = true) (hcast : (Cond.castable E name).before args s = true) (hcell : H[q]? = some ce) (hv : ce.vm = .none) (hcl : s.vm.findClass E = some ce.cls)
    (kk : W p l e R s m args below meth c H locs cells slots Q (F0 m x.handlerPc ls [.ref q])) : vx_W p l e R s m args below meth c H locs cells slots Q (F0 m pc ls rest) q := by
  intro T hT X
  have hpl : e.platform.magicAccessors = ({} : Platform).magicAccessors := by rw [X.admits.platform]
  obtain ⟨c3, c4, hc3, hc4, hasg⟩ := Cond.castable_spec hcast
  cases Option.some.inj (hc3.symm.trans hcl)
  obtain ⟨c5, hc5, hcl5⟩ := Cond.classLink_spec hown hlink e.platform hpl
  cases Option.some.inj (hc4.symm.trans hc5)
  obtain ⟨vm', X', st⟩ := X.thenCaughtThrough q (g := F0 m pc ls rest) rfl (Steps.refl _) (by rw [hT]; exact hcell) (by rw [hv]; rfl) (by obtain ⟨k9, h9, -⟩ := Vm.findClass_spec hcl; exact ⟨k9, h9⟩) pre x suf hsplit
    (fun z hz => by
      rcases hpass z hz with h | ⟨hz0, nm, hl1, hn1⟩
      · exact Or.inl h
      · obtain ⟨c6, hc6, hcl6⟩ := Cond.classLink_spec hown hl1 e.platform hpl
        obtain ⟨a8, b8, h1, h2, h3⟩ := hn1
        cases Option.some.inj (h1.symm.trans hcl)
        cases Option.some.inj (h2.symm.trans hc6)
        exact Or.inr ⟨hz0, _, hcl6, h3⟩) hx (Or.inr ⟨h0, c4, hcl5, hasg⟩)
  obtain ⟨t, a1, b1⟩ := kk (T.setVm vm') hT X'
  exact ⟨t, st.trans a1, b1⟩
end Rows
section Ends
variable {p : Program} {l : Launch} {e : Env} {R : Room} {s : State} {m : MethodId} {args : Array Value} {below : List Frame} {meth : Method} {c : Code} {H : Heap} {locs : List Loc} {cells slots : Nat} {Q : State → Prop}
variable {mc ms : Nat} {free : Addr → Prop} {A0 A1 : Nat → Prop} {H0 : Heap} {a : Array Value} {ls : Array Slot} {st0 rest : List Value}
variable {Qc : Array Value → State → Outcome → State → Prop} {XC : String → State → State → Prop}
/-- what a body that may throw owes at its end -/
def vx_MQ (below : List Frame) (Qc : Array Value → State → Outcome → State → Prop) (XC : String → State → State → Prop) (a : Array Value) (s : State) (mc ms : Nat) (free : Addr → Prop) : State → Prop := fun t =>
  ∃ o, t.status = .running ∧ Ended t below o ∧ vx_Q Qc XC mc ms free a s o t
theorem vx_ret {g : JFrame} {mc ms : Nat} (k : W p l e R s m args below meth c H locs cells slots (MQ below Qc args s mc ms free) g) : W p l e R s m args below meth c H locs cells slots (vx_MQ below Qc XC args s mc ms free) g := by
  intro T hT X
  obtain ⟨t, a1, o, b1, b2, b3, b4⟩ := k T hT X
  exact ⟨t, a1, o, b1, b2, Or.inl ⟨b3, b4⟩⟩
/-- not caught here: it goes on to the caller -/
theorem vx_widen {g : JFrame} {q : Addr} {k n : Nat} (h1 : cells ≤ k) (h2 : slots ≤ n) (kk : vx_W p l e R s m args below meth c H locs k n Q g q) : vx_W p l e R s m args below meth c H locs cells slots Q g q := fun T hT X => kk T hT (stand_widen X h1 h2)
theorem vx_out {pc : Nat} {E : String} {ce : Cell} {q : Addr} {mc ms : Nat} (hout : ∀ x ∈ c.exceptionTable.toList, covers x pc = false) (hlocks : meth.locks = false) (hcell : H[q]? = some ce) (hv : ce.vm = .none) (hcl : s.vm.findClass E = some ce.cls)
    (hx : ∀ t : State, t.heap = H → s.vm.Alike t.vm → XC E s t) (hf : ∀ z ∈ locs, free z.base) (hc : cells ≤ mc) (hs : slots ≤ ms) :
    vx_W p l e R s m args below meth c H locs cells slots (vx_MQ below Qc XC args s mc ms free) (F0 m pc ls rest) q := by
  intro T hT X
  obtain ⟨st1, hrun, hend, hW, hsm⟩ := X.leaveThrown q (g := F0 m pc ls rest) rfl rfl rfl hout hlocks
  have hcell9 : (T.setFrames (.throwing q :: below)).heap[q]? = some ce := by
    show T.heap[q]? = some ce
    rw [hT]; exact hcell
  exact ⟨_, st1, .threw q, hrun, hend, Or.inr ⟨q, rfl, E, ce, locs, hx _ hT hW.alike, hcell9, hv, hcl, hW, hsm.mono hc hs, hf⟩⟩
theorem vx_frame {U : State} {k n : Nat} (h : s.sameButNew ({ U with vm := s.vm } : State) locs k n) : s.heap.size ≤ U.heap.size ∧ ∀ q : Nat, q < s.heap.size → (∀ z ∈ locs, z.base ≠ q) → U.heap[q]? = s.heap[q]? := by
  obtain ⟨-, h2, -, -, -, h6⟩ := h
  refine ⟨h2, fun q hq hz => ?_⟩
  obtain ⟨c9, e1, e2, e3, e4⟩ := h6 q _ (Array.getElem?_eq_getElem hq)
  have hs : c9.slots = (s.heap[q]).slots := Array.ext_getElem? fun i => e4 i fun hm => hz _ hm rfl
  have h9 : c9 = s.heap[q] := by
    rw [hs] at e2
    exact e2
  have e5 : U.heap[q]? = some c9 := e1
  rw [e5, h9, Array.getElem?_eq_getElem hq]
/-- the words of a throw but the four that speak of the heap -/
def vx_no (w : Cond) : Bool := decide (w ≠ .isRef (.static Bundle.tN "UNASSIGNED_STACK" Bundle.steD)) && decide (w ≠ .isRef (.static Bundle.tN "SUPPRESSED_SENTINEL" Bundle.listD)) && decide (w ≠ .laysStatic Bundle.tN "UNASSIGNED_STACK" Bundle.steD) && decide (w ≠ .laysStatic Bundle.tN "SUPPRESSED_SENTINEL" Bundle.listD)
def vx_at0 (own : String) (ic : Nat) (X : String) (names : List String) : List Cond := (Bundle.ownAtoms0 own ic X names).filter vx_no
def vx_atS (own : String) (ic : Nat) (X : String) (names : List String) : List Cond := (Bundle.ownAtoms own ic X names).filter vx_no
/-- a word that the tables alone decide, or a good one -/
def vx_ot (w : Cond) : Bool := w.onTables || goodWord w
theorem vx_ot_at {args a' : Array Value} {s U : State} {w : Cond} (hW : s.WarmedH U.vm) (hvm : s.vm = U.vm) (hg : vx_ot w = true) (h : w.before args s = true) : w.before a' U = true := by
  simp only [vx_ot, Bool.or_eq_true] at hg
  rcases hg with hg | hg
  · exact va_tabs hg hvm h
  · exact word_at hW (good_of_word hg) h
/-- a list's words: the good ones out of the method's own list, the others by premises of their own -/
theorem vx_hat {args : Array Value} {s : State} {L B : List Cond} (h1 : ∀ w ∈ L.filter goodWord, w.before args s = true) (h2 : ∀ w ∈ L.filter (fun w => !goodWord w), w ∈ B) (h3 : ∀ w ∈ B, w.before args s = true) : ∀ w ∈ L, w.before args s = true := by
  intro w hw
  by_cases g : goodWord w = true
  · exact h1 w (List.mem_filter.mpr ⟨hw, g⟩)
  · refine h3 w (h2 w (List.mem_filter.mpr ⟨hw, ?_⟩))
    show (!goodWord w) = true
    cases hgw : goodWord w
    · rfl
    · exact absurd hgw g
theorem vx_c {args : Array Value} {s : State} {w : Cond} {B : List Cond} (h : w.before args s = true) (t : ∀ w ∈ B, w.before args s = true) : ∀ w' ∈ w :: B, w'.before args s = true := fun w' h' => (List.mem_cons.mp h').elim (fun e => by rw [e]; exact h) (t w')
theorem vx_n {args : Array Value} {s : State} : ∀ w ∈ ([] : List Cond), w.before args s = true := fun _ h => nomatch h
theorem vx_own {args : Array Value} {s : State} {L : List Cond} (h1 : ∀ w ∈ L.filter vx_no, w.before args s = true)
    (hU : (Cond.isRef (.static Bundle.tN "UNASSIGNED_STACK" Bundle.steD)).before args s = true) (hN : (Cond.isRef (.static Bundle.tN "SUPPRESSED_SENTINEL" Bundle.listD)).before args s = true)
    (lU : (Cond.laysStatic Bundle.tN "UNASSIGNED_STACK" Bundle.steD).before args s = true) (lN : (Cond.laysStatic Bundle.tN "SUPPRESSED_SENTINEL" Bundle.listD).before args s = true) : ∀ w ∈ L, w.before args s = true := by
  intro w hw
  by_cases e1 : w = .isRef (.static Bundle.tN "UNASSIGNED_STACK" Bundle.steD)
  · rw [e1]; exact hU
  · by_cases e2 : w = .isRef (.static Bundle.tN "SUPPRESSED_SENTINEL" Bundle.listD)
    · rw [e2]; exact hN
    · by_cases e3 : w = .laysStatic Bundle.tN "UNASSIGNED_STACK" Bundle.steD
      · rw [e3]; exact lU
      · by_cases e4 : w = .laysStatic Bundle.tN "SUPPRESSED_SENTINEL" Bundle.listD
        · rw [e4]; exact lN
        · exact h1 w (List.mem_filter.mpr ⟨hw, by unfold vx_no; rw [decide_eq_true e1, decide_eq_true e2, decide_eq_true e3, decide_eq_true e4]; rfl⟩)
/-- where a static field lies, its class's statics cell in H -/
def vx_L (C n d : String) (A : Nat → Prop) (U : State) (H : Heap) : Prop := ∃ (c : ClassId) (k : Class) (i : Nat) (f : Field) (a : Nat) (cell : Cell), U.vm.findClass C = some c ∧ U.fieldFound? C n d = some (c, k, i, f) ∧ f.isStatic = true ∧ k.statics = some a ∧ H[a]? = some cell ∧ cell.vm.isStatics = true ∧ cell.cls = c ∧ f.slot < cell.slots.size ∧ k.staticTypes[f.slot]? = some f.type ∧ ¬ A a
theorem vx_L.moved {C n d : String} {A : Nat → Prop} {u U : State} {H : Heap} (hvm : u.vm.Alike U.vm) (h : vx_L C n d A u H) : vx_L C n d A U H := by
  obtain ⟨c, k, i, f, a, cell, h1, h2, h3, h4, h5, h6, h7, h8, h9, h10⟩ := h
  obtain ⟨k', hi', he⟩ := State.fieldFound?_setVm hvm h2
  exact ⟨c, k', i, f, a, cell, by rw [hvm.findClass]; exact h1, hi', h3, by rw [he]; exact h4, h5, h6, h7, h8, by rw [he]; exact h9, h10⟩
theorem vx_L.kept {C n d : String} {A : Nat → Prop} {U : State} {H H1 : Heap} (h : vx_L C n d A U H) (hq : ∀ a : Nat, a < H.size → ¬ A a → H1[a]? = H[a]?) : vx_L C n d A U H1 := by
  obtain ⟨c, k, i, f, a, cell, h1, h2, h3, h4, h5, h6, h7, h8, h9, h10⟩ := h
  exact ⟨c, k, i, f, a, cell, h1, h2, h3, h4, by rw [hq a (Array.getElem?_eq_some_iff.mp h5).1 h10]; exact h5, h6, h7, h8, h9, h10⟩
theorem vx_L.narrow {C n d : String} {A B : Nat → Prop} {U : State} {H : Heap} (h : vx_L C n d A U H) (hAB : ∀ q, B q → A q) : vx_L C n d B U H := by
  obtain ⟨c, k, i, f, a, cell, h1, h2, h3, h4, h5, h6, h7, h8, h9, h10⟩ := h
  exact ⟨c, k, i, f, a, cell, h1, h2, h3, h4, h5, h6, h7, h8, h9, fun z => h10 (hAB _ z)⟩
theorem vx_L.word {C n d : String} {A : Nat → Prop} {s : State} {args : Array Value} (h : vx_L C n d A s s.heap) : (Cond.laysStatic C n d).before args s = true := by
  obtain ⟨c, k, i, f, a, cell, h1, h2, h3, h4, h5, h6, h7, h8, h9, -⟩ := h
  show (Cond.laysStatic C n d).holds args s none s [] = true
  exact Cond.laysStatic_of h1 h2 h3 h4 h5 h6 h7 h8 h9
/-- .. and what it holds: null or some reference -/
def vx_Zq (C n d : String) (A : Nat → Prop) (U : State) (H : Heap) : Prop := va_Zq C n d A U H ∧ vx_L C n d A U H
theorem vx_Zq.moved {C n d : String} {A : Nat → Prop} {u U : State} {H : Heap} (hvm : u.vm.Alike U.vm) (h : vx_Zq C n d A u H) : vx_Zq C n d A U H := ⟨va_Zq.moved hvm h.1, vx_L.moved hvm h.2⟩
theorem vx_Zq.kept {C n d : String} {A : Nat → Prop} {U : State} {H H1 : Heap} (h : vx_Zq C n d A U H) (hq : ∀ a : Nat, a < H.size → ¬ A a → H1[a]? = H[a]?) : vx_Zq C n d A U H1 := ⟨va_Zq.kept h.1 hq, vx_L.kept h.2 hq⟩
theorem vx_Zq.narrow {C n d : String} {A B : Nat → Prop} {U : State} {H : Heap} (h : vx_Zq C n d A U H) (hAB : ∀ q, B q → A q) : vx_Zq C n d B U H := ⟨va_Zq.narrow h.1 hAB, vx_L.narrow h.2 hAB⟩
theorem vx_Zqof {args : Array Value} {s : State} {C n d : String} {A : Nat → Prop} (hl : (Cond.laysStatic C n d).before args s = true) (hini : (Cond.initialized C).before args s = true) (h : (Cond.isRef (.static C n d)).before args s = true) (hA : ∀ a : Nat, a < s.heap.size → ¬ A a) : vx_Zq C n d A s s.heap := by
  refine ⟨va_Zqof hl hini h hA, ?_⟩
  obtain ⟨c, k, i, f, a, cell, h1, h2, h3, h4, h5, h6, h7, h8, h9⟩ := Cond.laysStatic_spec hl
  exact ⟨c, k, i, f, a, cell, h1, h2, h3, h4, h5, h6, h7, h8, h9, hA a (Array.getElem?_eq_some_iff.mp h5).1⟩
theorem vx_isRef {C n d : String} {v : Value} {A : Nat → Prop} {s : State} {args : Array Value} (h : va_Z C n d v A s s.heap) (hv : v.isRef = true) : (Cond.isRef (.static C n d)).before args s = true := by
  obtain ⟨cf, kf, fi, f, a, cell, h1, h2, h3, h4, h5, h6, h7, -⟩ := h
  have he : (Term.static C n d).eval args s none [] s = some v := by
    simp [Term.eval, State.fieldNamed?, h1, h2, h4, h5, h6, h7]
  simp only [Cond.before, Cond.holds, Cond.value, he]
  cases v <;> simp_all [Value.isRef]
theorem vx_isRefq {C n d : String} {A : Nat → Prop} {s : State} {args : Array Value} (h : va_Zq C n d A s s.heap) : (Cond.isRef (.static C n d)).before args s = true := by
  rcases h with h | ⟨t, h⟩
  · exact vx_isRef h rfl
  · exact vx_isRef h rfl
/-- the same frame, seen from here: as if the method were called anew in this heap -/
theorem vx_rebase {T : State} (X : Stand p l e R s m args below meth c T locs cells slots) {R' : Room} (hf : R'.frames ≤ R.frames) (hl : R'.locals ≤ R.locals) (hc : cells + R'.cells ≤ R.cells) (hs : slots + R'.slots ≤ R.slots) :
    Stand p l e R' ((T.setVm s.vm).setFrames (.invoking m args :: below)) m args below meth c T [] 0 0 := by
  have htop : (T.setVm s.vm).topJava?.isSome := X.here.top
  have hF : ((T.setVm s.vm).setFrames (.invoking m args :: below)).frames = .invoking m args :: below := State.frames_setFrames _ (State.cur_lt_of_top htop)
  obtain ⟨g₀, hg0⟩ := Option.isSome_iff_exists.mp htop
  obtain ⟨r, hr⟩ := State.topJava?_eq_some.mp hg0
  have hl9 : e.platform.stackLimits (T.setVm s.vm).me = e.platform.stackLimits s.me := X.limits
  have hb9 : (T.setVm s.vm).me.stackBytes = s.me.stackBytes := X.bytes
  refine ⟨X.admits, X.cas, X.clock, hF, ?_, X.hears, X.method, X.code, X.here, X.tail, X.warmed, ?_, ?_, ?_⟩
  · have h := X.room
    have hU : ((T.setVm s.vm).setFrames (.invoking m args :: below)).localsInUse = s.localsInUse := by
      rw [State.localsInUse_invoking hF (meth := meth) (c := c) X.method X.code, State.localsInUse_invoking X.frames X.method X.code]
    simp only [State.hasRoom, Bool.and_eq_true, decide_eq_true_eq] at h ⊢
    obtain ⟨⟨⟨⟨h1, h2, h3, h4, h5, h6⟩, h7⟩, h8⟩, h9⟩ := h
    rw [X.frames, List.length_cons] at h2 h3
    have q1 := X.heapSize
    have q2 := X.used
    simp only [hF, hU, List.length_cons, State.stackLimits_setFrames, State.stackBytes_setFrames, hl9, hb9]
    refine ⟨⟨⟨⟨by omega, by omega, by omega, by omega, by omega, h6⟩, ?_⟩, ?_⟩, X.book⟩
    · show T.heap.size + R'.cells ≤ e.platform.maxCells
      omega
    · show T.slotsUsed + R'.slots ≤ e.platform.maxSlots
      omega
  · rw [State.stackLimits_setFrames]; rfl
  · rw [State.stackBytes_setFrames]; rfl
  · refine ⟨?_, Nat.le_refl _, Nat.le_refl _, ?_, ?_, fun a c9 h9 => ⟨c9, h9, rfl, rfl, fun _ _ => rfl⟩⟩
    · obtain ⟨t, ht, -⟩ := State.frames_cons hr
      show T.setVm s.vm = { ((T.setVm s.vm).setFrames (.invoking m args :: below)).setFrames (T.setVm s.vm).frames with heap := T.heap, slotsUsed := T.slotsUsed }
      rw [State.setFrames_setFrames, State.setFrames_self ht]
      rfl
    · show T.slotsUsed = T.slotsUsed + ((T.heap.toList.drop T.heap.size).map (·.slots.size)).sum
      rw [List.drop_eq_nil_of_le (Nat.le_of_eq Array.length_toList)]
      rfl
    · show ((T.heap.toList.drop T.heap.size).map (·.slots.size)).sum ≤ 0
      rw [List.drop_eq_nil_of_le (Nat.le_of_eq Array.length_toList)]
      exact Nat.le_refl _
/-- 'throw new E()': new; dup; invokespecial; athrow -/
theorem vx_throw0 {cc : ByteArray} {pc : Nat} (hexec : p.tables.exec = Jvm.exec) (hb : c.code = cc) (hl : l.stackTraces = false) {own cls : String} {names : List String} {ik ic mc ms : Nat} {A : Nat → Prop}
    (hown : s.vm.findClass own = some m.cls) (hcls : Bundle.fit cls = true) (hnames : ∀ n ∈ names, Bundle.fit n = true)
    (hk : (Cond.classLink own ik cls).before args s = true) (hini : (Cond.initialized cls).before args s = true) (hat : ∀ w ∈ vx_at0 own ic cls names, w.before args s = true)
    (hgood : ∀ w ∈ Cond.classLink own ik cls :: Cond.initialized cls :: vx_at0 own ic cls names, vx_ot w = true)
    (hU : vx_Zq Bundle.tN "UNASSIGNED_STACK" Bundle.steD A s s.heap) (hN : vx_Zq Bundle.tN "SUPPRESSED_SENTINEL" Bundle.listD A s s.heap) (hS : va_S A s.heap H locs) (hsize : ls.size = c.maxLocals)
    (d0 : decode cc pc = .ok (.new ik, 3)) (d3 : decode cc (pc + 3) = .ok (.dup, 1)) (d4 : decode cc (pc + 4) = .ok (.invokespecial ic, 3)) (d7 : decode cc (pc + 7) = .ok (.athrow, 1))
    (hout : ∀ x ∈ c.exceptionTable.toList, covers x (pc + 7) = false)
    (hRframes : names.length + 3 < R.frames) (hRlocals : (rest.map fun v => v.category).sum + (13 * (names.length + 1) + 42) ≤ R.locals) (hRcells : cells + 1 ≤ R.cells) (hRslots : slots + 6 ≤ R.slots) (hlocks : meth.locks = false)
    (hx : ∀ t : State, s.vm.Alike t.vm → H.size ≤ t.heap.size → (∀ q : Nat, q < H.size → t.heap[q]? = H[q]?) → XC cls s t)
    (hf : ∀ z ∈ locs, free z.base) (hc : cells + 1 ≤ mc) (hs : slots + 6 ≤ ms) :
    W p l e R s m args below meth c H locs cells slots (vx_MQ below Qc XC args s mc ms free) (F0 m pc ls rest) := by
  intro T hT X
  have htr : e.platform.stackTraces = false := (show e.platform.stackTraces = l.stackTraces by rw [X.admits.platform]).trans hl
  have Y := vx_rebase X (R' := { frames := R.frames, locals := R.locals, cells := 1, slots := 6 }) (Nat.le_refl _) (Nat.le_refl _) hRcells hRslots
  obtain ⟨s', hA⟩ : ∃ z, z = (T.setVm s.vm).setFrames (.invoking m args :: below) := ⟨_, rfl⟩
  rw [← hA] at Y
  have hvm : s'.vm = s.vm := by rw [hA]; rfl
  have hhp : s'.heap = H := by rw [hA]; exact hT
  have hW0 : s.WarmedH s'.vm := by rw [hvm]; exact State.WarmedH.refl s
  have hat' : ∀ w ∈ vx_at0 own ic cls names, w.before args s' = true := fun w hw => vx_ot_at hW0 hvm.symm (hgood w (List.mem_cons_of_mem _ (List.mem_cons_of_mem _ hw))) (hat w hw)
  have hk' : (Cond.classLink own ik cls).before args s' = true := vx_ot_at hW0 hvm.symm (hgood _ List.mem_cons_self) hk
  have hini' : (Cond.initialized cls).before args s' = true := vx_ot_at hW0 hvm.symm (hgood _ (List.mem_cons_of_mem _ List.mem_cons_self)) hini
  have hU' : vx_Zq Bundle.tN "UNASSIGNED_STACK" Bundle.steD A s' s'.heap := by rw [hhp]; exact vx_Zq.moved hW0.alike (hU.kept hS.2.1)
  have hN' : vx_Zq Bundle.tN "SUPPRESSED_SENTINEL" Bundle.listD A s' s'.heap := by rw [hhp]; exact vx_Zq.moved hW0.alike (hN.kept hS.2.1)
  have h : ∀ w ∈ Bundle.ownAtoms0 own ic cls names, w.before args s' = true := vx_own hat' (vx_isRefq hU'.1) (vx_isRefq hN'.1) hU'.2.word hN'.2.word
  have hown' : s'.vm.findClass own = some m.cls := by rw [hvm]; exact hown
  have hins : (Cond.instantiable cls 6).before args s' = true := h _ (by simp [Bundle.ownAtoms0])
  obtain ⟨vm₁, cX, kX, hfX, hkX, -, -, X₁, st1⟩ := Y.newCold hexec (own := own) (C := cls) (index := ik) (n := 6) hown' hk' hins hini'
    (g := F0 m pc ls rest) rfl (by rw [hb]; exact d0) (Nat.le_refl _) (Nat.le_refl _)
  generalize hT1 : (T.setVm vm₁).pushCell { cls := cX, slots := kX.instanceTypes.map defaultValue, vm := .none } = T1 at X₁ st1
  have hcat : (Value.ref T.heap.size).category = 1 := rfl
  have hcellA : T1.heap[T.heap.size]? = some (freshCell cX kX) := by rw [← hT1]; exact State.heap_pushCell_size _ _
  have d3' : decode c.code (pc + 3) = .ok (.dup, 1) := by rw [hb]; exact d3
  obtain ⟨U, hsteps, hrun, hend, hW, hsame, ce, hce, hO⟩ := X₁.ctorThrow0 hexec htr (own := own) (cls := cls) (names := names) (ic := ic) hown' hcls hnames h (fun x hx => nomatch hx) hfX hkX hcellA (by rw [hhp, hT]; exact Nat.le_refl _)
    (g := { method := m, pc := pc + 4, locals := ls, stack := .ref T.heap.size :: .ref T.heap.size :: rest, locked := none }) rfl hsize rfl rfl (rest := rest) rfl
    (by rw [hb]; exact d4) (by rw [hb]; exact d7) hout hRframes (by simp only [List.map_cons, List.sum_cons, hcat]; omega) hlocks
  obtain ⟨f1, f2⟩ := vx_frame hsame
  rw [hhp] at f1 f2
  have hWs : s.WarmedH U.vm := State.WarmedH.trans hW0 hW
  have hcl : s.vm.findClass cls = some ce.cls := by
    have h9 := hO.cls
    rw [hvm] at h9
    exact h9
  have hall : s.sameButNew ({ U with vm := s.vm } : State) locs mc ms := by
    subst hA
    obtain ⟨e1, e2⟩ := hsame
    rw [State.setFrames_setFrames] at e1
    have h2 : (T.setVm s.vm).sameButNew ({ U with vm := s.vm } : State) [] (0 + 1) (0 + 6) := ⟨e1, e2⟩
    have h3 := X.same.trans h2
    rw [List.append_nil] at h3
    exact h3.mono hc hs
  refine ⟨U, ?_, .threw T.heap.size, hrun, hend, Or.inr ⟨T.heap.size, rfl, cls, ce, locs, hx U hWs.alike f1 (fun q hq => f2 q hq (fun z hz => nomatch hz)), hce, hO.vm, hcl, hWs, hall, hf⟩⟩
  refine st1 _ ?_
  show Steps p.tables e below (T1.setTop { method := m, pc := pc + 3, locals := ls, stack := .ref T.heap.size :: rest, locked := none }) _
  jvm_step X₁.here [X₁.here.top, hexec, d3', Value.category]
  exact hsteps
/-- 'throw new E("text")': new; dup; ldc; invokespecial; athrow -/
theorem vx_throwS {cc : ByteArray} {pc : Nat} (hexec : p.tables.exec = Jvm.exec) (hb : c.code = cc) (hl : l.stackTraces = false) {own cls text : String} {names : List String} {ik is ic mc ms sa : Nat} {A : Nat → Prop}
    (hown : s.vm.findClass own = some m.cls) (hcls : Bundle.fit cls = true) (hnames : ∀ n ∈ names, Bundle.fit n = true)
    (hk : (Cond.classLink own ik cls).before args s = true) (hini : (Cond.initialized cls).before args s = true) (hstr : vk_R own is text sa s) (hat : ∀ w ∈ vx_atS own ic cls names, w.before args s = true)
    (hgood : ∀ w ∈ Cond.classLink own ik cls :: Cond.initialized cls :: vx_atS own ic cls names, vx_ot w = true)
    (hU : vx_Zq Bundle.tN "UNASSIGNED_STACK" Bundle.steD A s s.heap) (hN : vx_Zq Bundle.tN "SUPPRESSED_SENTINEL" Bundle.listD A s s.heap) (hS : va_S A s.heap H locs) (hsize : ls.size = c.maxLocals)
    (d0 : decode cc pc = .ok (.new ik, 3)) (d3 : decode cc (pc + 3) = .ok (.dup, 1)) (d4 : decode cc (pc + 4) = .ok (.ldc is, 2)) (d6 : decode cc (pc + 6) = .ok (.invokespecial ic, 3)) (d9 : decode cc (pc + 9) = .ok (.athrow, 1))
    (hout : ∀ x ∈ c.exceptionTable.toList, covers x (pc + 9) = false)
    (hRframes : names.length + 3 < R.frames) (hRlocals : (rest.map fun v => v.category).sum + (13 * (names.length + 1) + 43) ≤ R.locals) (hRcells : cells + 1 ≤ R.cells) (hRslots : slots + 6 ≤ R.slots) (hlocks : meth.locks = false)
    (hx : ∀ t : State, s.vm.Alike t.vm → H.size ≤ t.heap.size → (∀ q : Nat, q < H.size → t.heap[q]? = H[q]?) → XC cls s t)
    (hf : ∀ z ∈ locs, free z.base) (hc : cells + 1 ≤ mc) (hs : slots + 6 ≤ ms) :
    W p l e R s m args below meth c H locs cells slots (vx_MQ below Qc XC args s mc ms free) (F0 m pc ls rest) := by
  intro T hT X
  have htr : e.platform.stackTraces = false := (show e.platform.stackTraces = l.stackTraces by rw [X.admits.platform]).trans hl
  have Y := vx_rebase X (R' := { frames := R.frames, locals := R.locals, cells := 1, slots := 6 }) (Nat.le_refl _) (Nat.le_refl _) hRcells hRslots
  obtain ⟨s', hA⟩ : ∃ z, z = (T.setVm s.vm).setFrames (.invoking m args :: below) := ⟨_, rfl⟩
  rw [← hA] at Y
  have hvm : s'.vm = s.vm := by rw [hA]; rfl
  have hhp : s'.heap = H := by rw [hA]; exact hT
  have hW0 : s.WarmedH s'.vm := by rw [hvm]; exact State.WarmedH.refl s
  have hat' : ∀ w ∈ vx_atS own ic cls names, w.before args s' = true := fun w hw => vx_ot_at hW0 hvm.symm (hgood w (List.mem_cons_of_mem _ (List.mem_cons_of_mem _ hw))) (hat w hw)
  have hk' : (Cond.classLink own ik cls).before args s' = true := vx_ot_at hW0 hvm.symm (hgood _ List.mem_cons_self) hk
  have hini' : (Cond.initialized cls).before args s' = true := vx_ot_at hW0 hvm.symm (hgood _ (List.mem_cons_of_mem _ List.mem_cons_self)) hini
  have hU' : vx_Zq Bundle.tN "UNASSIGNED_STACK" Bundle.steD A s' s'.heap := by rw [hhp]; exact vx_Zq.moved hW0.alike (hU.kept hS.2.1)
  have hN' : vx_Zq Bundle.tN "SUPPRESSED_SENTINEL" Bundle.listD A s' s'.heap := by rw [hhp]; exact vx_Zq.moved hW0.alike (hN.kept hS.2.1)
  have h : ∀ w ∈ Bundle.ownAtoms own ic cls names, w.before args s' = true := vx_own hat' (vx_isRefq hU'.1) (vx_isRefq hN'.1) hU'.2.word hN'.2.word
  have hown' : s'.vm.findClass own = some m.cls := by rw [hvm]; exact hown
  have hins : (Cond.instantiable cls 6).before args s' = true := h _ (by simp [Bundle.ownAtoms])
  obtain ⟨vm₁, cX, kX, hfX, hkX, -, -, X₁, st1⟩ := Y.newCold hexec (own := own) (C := cls) (index := ik) (n := 6) hown' hk' hins hini'
    (g := F0 m pc ls rest) rfl (by rw [hb]; exact d0) (Nat.le_refl _) (Nat.le_refl _)
  generalize hT1 : (T.setVm vm₁).pushCell { cls := cX, slots := kX.instanceTypes.map defaultValue, vm := .none } = T1 at X₁ st1
  have hcat : (Value.ref T.heap.size).category = 1 := rfl
  have hcellA : T1.heap[T.heap.size]? = some (freshCell cX kX) := by rw [← hT1]; exact State.heap_pushCell_size _ _
  have d3' : decode c.code (pc + 3) = .ok (.dup, 1) := by rw [hb]; exact d3
  have d4' : decode c.code (pc + 4) = .ok (.ldc is, 2) := by rw [hb]; exact d4
  have hstr' : vk_R own is text sa s' := vk_R.warm hW0 hstr
  obtain ⟨U, hsteps, hrun, hend, hW, hsame, ce, hce, hO⟩ := X₁.ctorThrowS hexec htr (own := own) (cls := cls) (names := names) (ic := ic) hown' hcls hnames h (fun x hx => nomatch hx) hfX hkX hcellA (by rw [hhp, hT]; exact Nat.le_refl _) (msg := .ref sa) rfl
    (g := { method := m, pc := pc + 6, locals := ls, stack := .ref sa :: .ref T.heap.size :: .ref T.heap.size :: rest, locked := none }) rfl hsize rfl rfl (rest := rest) rfl
    (by rw [hb]; exact d6) (by rw [hb]; exact d9) hout hRframes (by simp only [List.map_cons, List.sum_cons, hcat]; omega) hlocks
  obtain ⟨f1, f2⟩ := vx_frame hsame
  rw [hhp] at f1 f2
  have hWs : s.WarmedH U.vm := State.WarmedH.trans hW0 hW
  have hcl : s.vm.findClass cls = some ce.cls := by
    have h9 := hO.cls
    rw [hvm] at h9
    exact h9
  have hall : s.sameButNew ({ U with vm := s.vm } : State) locs mc ms := by
    subst hA
    obtain ⟨e1, e2⟩ := hsame
    rw [State.setFrames_setFrames] at e1
    have h2 : (T.setVm s.vm).sameButNew ({ U with vm := s.vm } : State) [] (0 + 1) (0 + 6) := ⟨e1, e2⟩
    have h3 := X.same.trans h2
    rw [List.append_nil] at h3
    exact h3.mono hc hs
  refine ⟨U, ?_, .threw T.heap.size, hrun, hend, Or.inr ⟨T.heap.size, rfl, cls, ce, locs, hx U hWs.alike f1 (fun q hq => f2 q hq (fun z hz => nomatch hz)), hce, hO.vm, hcl, hWs, hall, hf⟩⟩
  refine st1 _ ?_
  show Steps p.tables e below (T1.setTop { method := m, pc := pc + 3, locals := ls, stack := .ref T.heap.size :: rest, locked := none }) _
  jvm_step X₁.here [X₁.here.top, hexec, d3', Value.category]
  exact X₁.ldcString hexec (own := own) (text := text) (index := is) (a := sa) hown' hstr'.1 hstr'.2
    (g := { method := m, pc := pc + 4, locals := ls, stack := .ref T.heap.size :: .ref T.heap.size :: rest, locked := none }) rfl d4' _ hsteps
/-- 'throw new E("text")', the text by a wide index -/
theorem vx_throwSW {cc : ByteArray} {pc : Nat} (hexec : p.tables.exec = Jvm.exec) (hb : c.code = cc) (hl : l.stackTraces = false) {own cls text : String} {names : List String} {ik is ic mc ms sa : Nat} {A : Nat → Prop}
    (hown : s.vm.findClass own = some m.cls) (hcls : Bundle.fit cls = true) (hnames : ∀ n ∈ names, Bundle.fit n = true)
    (hk : (Cond.classLink own ik cls).before args s = true) (hini : (Cond.initialized cls).before args s = true) (hstr : vk_R own is text sa s) (hat : ∀ w ∈ vx_atS own ic cls names, w.before args s = true)
    (hgood : ∀ w ∈ Cond.classLink own ik cls :: Cond.initialized cls :: vx_atS own ic cls names, vx_ot w = true)
    (hU : vx_Zq Bundle.tN "UNASSIGNED_STACK" Bundle.steD A s s.heap) (hN : vx_Zq Bundle.tN "SUPPRESSED_SENTINEL" Bundle.listD A s s.heap) (hS : va_S A s.heap H locs) (hsize : ls.size = c.maxLocals)
    (d0 : decode cc pc = .ok (.new ik, 3)) (d3 : decode cc (pc + 3) = .ok (.dup, 1)) (d4 : decode cc (pc + 4) = .ok (.ldc_w is, 3)) (d7 : decode cc (pc + 7) = .ok (.invokespecial ic, 3)) (d10 : decode cc (pc + 10) = .ok (.athrow, 1))
    (hout : ∀ x ∈ c.exceptionTable.toList, covers x (pc + 10) = false)
    (hRframes : names.length + 3 < R.frames) (hRlocals : (rest.map fun v => v.category).sum + (13 * (names.length + 1) + 43) ≤ R.locals) (hRcells : cells + 1 ≤ R.cells) (hRslots : slots + 6 ≤ R.slots) (hlocks : meth.locks = false)
    (hx : ∀ t : State, s.vm.Alike t.vm → H.size ≤ t.heap.size → (∀ q : Nat, q < H.size → t.heap[q]? = H[q]?) → XC cls s t)
    (hf : ∀ z ∈ locs, free z.base) (hc : cells + 1 ≤ mc) (hs : slots + 6 ≤ ms) :
    W p l e R s m args below meth c H locs cells slots (vx_MQ below Qc XC args s mc ms free) (F0 m pc ls rest) := by
  intro T hT X
  have htr : e.platform.stackTraces = false := (show e.platform.stackTraces = l.stackTraces by rw [X.admits.platform]).trans hl
  have Y := vx_rebase X (R' := { frames := R.frames, locals := R.locals, cells := 1, slots := 6 }) (Nat.le_refl _) (Nat.le_refl _) hRcells hRslots
  obtain ⟨s', hA⟩ : ∃ z, z = (T.setVm s.vm).setFrames (.invoking m args :: below) := ⟨_, rfl⟩
  rw [← hA] at Y
  have hvm : s'.vm = s.vm := by rw [hA]; rfl
  have hhp : s'.heap = H := by rw [hA]; exact hT
  have hW0 : s.WarmedH s'.vm := by rw [hvm]; exact State.WarmedH.refl s
  have hat' : ∀ w ∈ vx_atS own ic cls names, w.before args s' = true := fun w hw => vx_ot_at hW0 hvm.symm (hgood w (List.mem_cons_of_mem _ (List.mem_cons_of_mem _ hw))) (hat w hw)
  have hk' : (Cond.classLink own ik cls).before args s' = true := vx_ot_at hW0 hvm.symm (hgood _ List.mem_cons_self) hk
  have hini' : (Cond.initialized cls).before args s' = true := vx_ot_at hW0 hvm.symm (hgood _ (List.mem_cons_of_mem _ List.mem_cons_self)) hini
  have hU' : vx_Zq Bundle.tN "UNASSIGNED_STACK" Bundle.steD A s' s'.heap := by rw [hhp]; exact vx_Zq.moved hW0.alike (hU.kept hS.2.1)
  have hN' : vx_Zq Bundle.tN "SUPPRESSED_SENTINEL" Bundle.listD A s' s'.heap := by rw [hhp]; exact vx_Zq.moved hW0.alike (hN.kept hS.2.1)
  have h : ∀ w ∈ Bundle.ownAtoms own ic cls names, w.before args s' = true := vx_own hat' (vx_isRefq hU'.1) (vx_isRefq hN'.1) hU'.2.word hN'.2.word
  have hown' : s'.vm.findClass own = some m.cls := by rw [hvm]; exact hown
  have hins : (Cond.instantiable cls 6).before args s' = true := h _ (by simp [Bundle.ownAtoms])
  obtain ⟨vm₁, cX, kX, hfX, hkX, -, -, X₁, st1⟩ := Y.newCold hexec (own := own) (C := cls) (index := ik) (n := 6) hown' hk' hins hini'
    (g := F0 m pc ls rest) rfl (by rw [hb]; exact d0) (Nat.le_refl _) (Nat.le_refl _)
  generalize hT1 : (T.setVm vm₁).pushCell { cls := cX, slots := kX.instanceTypes.map defaultValue, vm := .none } = T1 at X₁ st1
  have hcat : (Value.ref T.heap.size).category = 1 := rfl
  have hcellA : T1.heap[T.heap.size]? = some (freshCell cX kX) := by rw [← hT1]; exact State.heap_pushCell_size _ _
  have d3' : decode c.code (pc + 3) = .ok (.dup, 1) := by rw [hb]; exact d3
  have d4' : decode c.code (pc + 4) = .ok (.ldc_w is, 3) := by rw [hb]; exact d4
  have hstr' : vk_R own is text sa s' := vk_R.warm hW0 hstr
  obtain ⟨U, hsteps, hrun, hend, hW, hsame, ce, hce, hO⟩ := X₁.ctorThrowS hexec htr (own := own) (cls := cls) (names := names) (ic := ic) hown' hcls hnames h (fun x hx => nomatch hx) hfX hkX hcellA (by rw [hhp, hT]; exact Nat.le_refl _) (msg := .ref sa) rfl
    (g := { method := m, pc := pc + 7, locals := ls, stack := .ref sa :: .ref T.heap.size :: .ref T.heap.size :: rest, locked := none }) rfl hsize rfl rfl (rest := rest) rfl
    (by rw [hb]; exact d7) (by rw [hb]; exact d10) hout hRframes (by simp only [List.map_cons, List.sum_cons, hcat]; omega) hlocks
  obtain ⟨f1, f2⟩ := vx_frame hsame
  rw [hhp] at f1 f2
  have hWs : s.WarmedH U.vm := State.WarmedH.trans hW0 hW
  have hcl : s.vm.findClass cls = some ce.cls := by
    have h9 := hO.cls
    rw [hvm] at h9
    exact h9
  have hall : s.sameButNew ({ U with vm := s.vm } : State) locs mc ms := by
    subst hA
    obtain ⟨e1, e2⟩ := hsame
    rw [State.setFrames_setFrames] at e1
    have h2 : (T.setVm s.vm).sameButNew ({ U with vm := s.vm } : State) [] (0 + 1) (0 + 6) := ⟨e1, e2⟩
    have h3 := X.same.trans h2
    rw [List.append_nil] at h3
    exact h3.mono hc hs
  refine ⟨U, ?_, .threw T.heap.size, hrun, hend, Or.inr ⟨T.heap.size, rfl, cls, ce, locs, hx U hWs.alike f1 (fun q hq => f2 q hq (fun z hz => nomatch hz)), hce, hO.vm, hcl, hWs, hall, hf⟩⟩
  refine st1 _ ?_
  show Steps p.tables e below (T1.setTop { method := m, pc := pc + 3, locals := ls, stack := .ref T.heap.size :: rest, locked := none }) _
  jvm_step X₁.here [X₁.here.top, hexec, d3', Value.category]
  exact X₁.ldcStringW hexec (own := own) (text := text) (index := is) (a := sa) hown' hstr'.1 hstr'.2
    (g := { method := m, pc := pc + 4, locals := ls, stack := .ref T.heap.size :: .ref T.heap.size :: rest, locked := none }) rfl d4' _ hsteps
end Ends
section Bodies
variable {l : Launch}
theorem vx_ofW {y : MethodName} {ws ws' : List Cond} {rm : Room} {Pc : Array Value → State → Prop} {Qc : Array Value → State → Outcome → State → Prop} {XC : String → State → State → Prop} {mc ms : Nat} {free : Addr → Prop} {cc : ByteArray} {maxL : Nat} {ret : Option FieldType}
    (hy : plainName y.cls = true) (hw : ws = Cond.code y cc maxL ret :: ws')
    (body : ∀ p e s m args below meth c s₁, BodyLoose p l y (headSpec ws rm) cc maxL ret e s m args below meth c s₁ → c.maxLocals = maxL → (∀ x ∈ c.exceptionTable.toList, False) → Pc args s →
      W p l e (headSpec ws rm).room s m args below meth c s.heap [] 0 0 (vx_MQ below Qc XC args s mc ms free) (entryFrame m args maxL)) : vx_Met l y ws rm Pc Qc XC mc ms free := by
  refine MetFree.of_bodyS (code := cc) (maxLocals := maxL) (ret := ret) hy ?_ ?_
  · intro args s m h hn
    obtain ⟨meth, c, h1, h2, h3, h4, h5, h6, -, -⟩ := Cond.code_spec hn (atoms_spec (ws := ws) h _ (by rw [hw]; exact List.mem_cons_self))
    exact ⟨meth, c, h1, h2, h3, h4, h5, h6⟩
  · intro p e s m args below meth c s₁ B hml hP _
    have hh0 : s₁.heap = s.heap := by rw [B.state]; rfl
    have ht : ∀ x ∈ c.exceptionTable.toList, False := by
      obtain ⟨meth9, c9, h1, h2, -, -, -, -, h7, -⟩ := Cond.code_spec B.named (atoms_spec (ws := ws) B.pre _ (by rw [hw]; exact List.mem_cons_self))
      cases Option.some.inj (h1.symm.trans B.method)
      cases Option.some.inj (h2.symm.trans (Stand.of_body B).code)
      intro x hx
      rw [Array.isEmpty_iff.mp h7] at hx
      cases hx
    obtain ⟨t, a1, o, b1, b2, b3⟩ := body p e s m args below meth c s₁ B hml ht hP s₁ hh0 (Stand.of_body B)
    exact ⟨t, o, a1, b1, b2, b3⟩
/-- the table of a body with handlers -/
theorem vx_table {p : Program} {x y : MethodName} {S : Spec} {cc bytes : ByteArray} {maxL maxL' : Nat} {ret ret' : Option FieldType} {e : Env} {s s₁ : State} {m : MethodId} {args : Array Value} {below : List Frame} {meth : Method} {c : Code} {hh : List (Nat × Nat × Nat × Nat)}
    (B : BodyLoose p l y S cc maxL ret e s m args below meth c s₁) (h : (Cond.codeWith y bytes maxL' ret' hh).before args s = true) : c.exceptionTable.toList = tableOf hh := by
  obtain ⟨m9, meth9, c9, hn9, h1, h2, -, -, h6, -⟩ := Cond.codeWith_spec h
  cases Option.some.inj (hn9.symm.trans B.named)
  cases Option.some.inj (h1.symm.trans B.method)
  cases Option.some.inj (h2.symm.trans (Stand.of_body B).code)
  rw [← h6, table_eq]
end Bodies
end VXA
/-! ===== END ===== -/
/-! ===== BEGIN a static call of a method with an exception table ===== -/
section VXS
variable {p : Program} {l : Launch} {e : Env} {R : Room} {s : State} {m : MethodId} {args : Array Value} {below : List Frame} {meth : Method} {c : Code} {T : State} {H : Heap} {locs : List Loc} {cells slots : Nat}
abbrev vx_CSW (R : Room) (s : State) (args : Array Value) (own : String) (index : Nat) (y : MethodName) (bytes : ByteArray) (maxL : Nat) (ret : Option FieldType) (hh : List (Nat × Nat × Nat × Nat)) (ws : List Cond) (rm : Room) (mc ms n : Nat) : Prop :=
  (rm.cells = mc ∧ rm.slots = ms ∧ rm.frames + 1 ≤ R.frames ∧ 8 + (maxL + 11) + rm.locals ≤ R.locals ∧ (∀ w ∈ ws, ∀ (a' : Array Value) (U : State), s.WarmedH U.vm → w.before a' U = true) ∧ Cond.codeWith y bytes maxL ret hh ∈ ws) ∧
  (Cond.codeWith y bytes maxL ret hh).before args s = true ∧ (Cond.initialized y.cls).before args s = true ∧ (y.cls ≠ "java/lang/invoke/MethodHandle" ∧ y.cls ≠ "java/lang/invoke/VarHandle") ∧
  (∀ sig, parseMethodDescriptor y.desc = some sig → n = sig.parameters.length) ∧ (Cond.methodLink own index y).before args s = true ∧ (Cond.static y).before args s = true
theorem vx_cwSW {own : String} {index maxL mc ms : Nat} {y : MethodName} {bytes : ByteArray} {ret : Option FieldType} {hh : List (Nat × Nat × Nat × Nat)} {Ts ws ws' : List Cond} {rm : Room} (n : Nat) (ht : ∀ w ∈ Ts, w.before args s = true) (hT : GoodIn Ts (va_wsS own index y ws)) (hw : ws = Cond.codeWith y bytes maxL ret hh :: ws') (hrc : rm.cells = mc) (hrs : rm.slots = ms)
    (hd : y.cls ≠ "java/lang/invoke/MethodHandle" ∧ y.cls ≠ "java/lang/invoke/VarHandle" ∧ (parseMethodDescriptor y.desc).map (fun d => d.parameters.length) = some n) (hR : rm.frames + 1 ≤ R.frames ∧ 8 + (maxL + 11) + rm.locals ≤ R.locals) :
    vx_CSW R s args own index y bytes maxL ret hh ws rm mc ms n := by
  have ok : ∀ w ∈ va_wsS own index y ws, w.before args s = true := fun w h => ht w (hT w h).1
  have hG : GoodIn Ts ws := fun w h => hT w (by unfold va_wsS; exact List.mem_append_right _ h)
  have hc : Cond.codeWith y bytes maxL ret hh ∈ ws := by rw [hw]; exact List.mem_cons_self
  refine ⟨⟨hrc, hrs, hR.1, hR.2, pay_in ht hG, hc⟩, ht _ (hG _ hc).1, ok _ (by simp [va_wsS]), ⟨hd.1, hd.2.1⟩, fun sig h => ?_, ok _ (by simp [va_wsS]), ok _ (by simp [va_wsS])⟩
  have h2 := hd.2.2
  rw [h] at h2
  exact (Option.some.inj h2).symm
theorem vx_callSW (X : Stand p l e R s m args below meth c T locs cells slots) (hexec : p.tables.exec = Jvm.exec) {own : String} {index : Nat} {y : MethodName} {bytes : ByteArray} {maxL : Nat} {ret : Option FieldType} {hh : List (Nat × Nat × Nat × Nat)}
    (hown : s.vm.findClass own = some m.cls) (hlink : (Cond.methodLink own index y).before args s = true) (hstat : (Cond.static y).before args s = true) (hinit : (Cond.initialized y.cls).before args s = true)
    (hcode : (Cond.codeWith y bytes maxL ret hh).before args s = true) (hy : y.cls ≠ "java/lang/invoke/MethodHandle" ∧ y.cls ≠ "java/lang/invoke/VarHandle")
    {W9 : Nat} {Pre : Pt → Array Value → Prop} {Post : Pt → Array Value → Option Value → Pt → Prop} (hK : Back l R p e below s args y 3 W9 Pre Post)
    {g : JFrame} (hg : g.method = m) (hsize : g.locals.size = c.maxLocals) {argsL rest : List Value} (hlen : ∀ sig, parseMethodDescriptor y.desc = some sig → argsL.length = sig.parameters.length)
    (hstack : g.stack = argsL.reverse ++ rest) (hW : 2 * g.monitorRoom + (rest.map fun v => v.category).sum ≤ W9) (hdg : decode c.code g.pc = .ok (.invokestatic index, 3))
    (hpre : ∀ vm₁, s.WarmedH vm₁ → Pre ⟨T.setVm vm₁, locs, cells, slots⟩ argsL.toArray) :
    ∃ (v : Option Value) (vm₁ : Vm) (B : Pt), s.WarmedH vm₁ ∧ Stand p l e R s m args below meth c B.U B.locs B.cells B.slots ∧ Post ⟨T.setVm vm₁, locs, cells, slots⟩ argsL.toArray v B ∧
      ∀ target, Steps p.tables e below (B.U.setTop { g with pc := g.pc + 3, stack := v.toList ++ rest }) target → Steps p.tables e below (T.setTop g) target := by
  obtain ⟨mk, methM, cM, hnamed, hmethM, -, -, -, -, -, -, hsigM⟩ := Cond.codeWith_spec hcode
  have hstatic : methM.isStatic = true := Cond.static_spec hnamed hmethM hstat
  obtain ⟨kP, hkP, -⟩ := className_of_methodNamed hnamed
  have hinitP : kP.init = .initialized := Cond.initialized_spec (findClass_of_methodNamed hnamed) hkP hinit
  obtain ⟨vm₁, X₁, hstep₁⟩ := X.invokestatic hexec hown hlink hnamed hmethM hstatic hkP hinitP hy (g := g) hg (argsL := argsL) (rest := rest) (hlen _ hsigM) hstack hdg
  obtain ⟨v, B, X', hpost, hsteps⟩ := hK m meth c ⟨T.setVm vm₁, locs, cells, slots⟩ { g with stack := rest } (.invokestatic index) mk argsL.toArray X₁ hg hsize hdg hW (X₁.named hnamed) (hpre vm₁ X₁.warmed)
  exact ⟨v, vm₁, B, X₁.warmed, X', hpost, fun target h => hstep₁ _ fun acts => by rw [doInvoke_state]; exact hsteps.trans h⟩
theorem vx_runSW {y : MethodName} {bytes cc : ByteArray} {maxL nL mc ms n index : Nat} {ret : Option FieldType} {hh : List (Nat × Nat × Nat × Nat)} {ws : List Cond} {rm : Room} {Pc : Array Value → State → Prop} {Qc : Array Value → State → Outcome → State → Prop} {free : Addr → Prop} {Ts : List Cond} {own : String} {As rest : List Value} {g : JFrame}
    (S : CallFix p m c cc nL s args Ts own) (hM : Met l y ws rm Pc Qc mc ms free) (cw : vx_CSW R s args own index y bytes maxL ret hh ws rm mc ms n) (hp : PreS s H Pc As)
    (hg : g.method = m) (hn : As.length = n) (hsize : g.locals.size = nL) (hstack : g.stack = As.reverse ++ rest) (hW : 2 * g.monitorRoom + (rest.map fun v => v.category).sum ≤ 8) (hdg : decode cc g.pc = .ok (.invokestatic index, 3)) (hf : cells + mc ≤ R.cells ∧ slots + ms ≤ R.slots) :
    va_Run p l e R s m args below meth c H locs cells slots mc ms g rest (Qc As.toArray) (free) := by
  obtain ⟨⟨hrc, hrs, hfr, hlo, hws, hcw⟩, hcode, hini, hy, hlen, hl, hstt⟩ := cw
  have hK : Back l R p e below s args y 3 8 (PreOf R mc ms Pc) (PostOf Qc mc ms free) := va_backW (hh := hh) (bytes := bytes) (maxL := maxL) (ret := ret) hM hp.1 hrc hrs hfr hlo hws hcw (fun a' U hW => word_at hW (Or.inl (by first | rfl | simp [Cond.onTables, Cond.keeps, Cond.steady])) hini)
  obtain ⟨hx, hb, hml, ho, -⟩ := S
  intro T hT X
  obtain ⟨v, vm₁, ⟨U', l2, c2, s2⟩, hW₁, X', ⟨g', mk, t, L, e1, e2, hq, h1, hL, h2, h3⟩, st⟩ := vx_callSW X hx (hh := hh) (bytes := bytes) (maxL := maxL) (ret := ret) ho hl hstt hini hcode hy hK hg (hsize.trans hml.symm) (argsL := As) (rest := rest) (fun sig h => hn.trans (hlen sig h)) hstack hW (by rw [hb]; exact hdg)
    (fun vm₁ hW₁ => ⟨hf.1, hf.2, hp.2 (T.setVm vm₁) hT hW₁⟩)
  dsimp only [Pt.U, Pt.locs, Pt.cells, Pt.slots] at X' e1 e2 h1 h2 h3 st
  subst h1; subst h2; subst h3
  exact ⟨v, (T.setVm vm₁).calling g' mk As.toArray, t, U', L, hT, X', hL, e1, e2, hq, st⟩
/-- not caught here, past rows that name other classes: it goes on to the caller -/
theorem vx_outP {p : Program} {l : Launch} {e : Env} {R : Room} {s : State} {m : MethodId} {args : Array Value} {below : List Frame} {meth : Method} {c : Code} {H : Heap} {locs : List Loc} {cells slots : Nat} {free : Addr → Prop} {ls : Array Slot} {rest : List Value} {Qc : Array Value → State → Outcome → State → Prop} {XC : String → State → State → Prop}
    {pc : Nat} {own E : String} {ce : Cell} {q : Addr} {mc ms : Nat} (hown : s.vm.findClass own = some m.cls) (hlocks : meth.locks = false)
    (hpass : ∀ z ∈ c.exceptionTable.toList, covers z pc = false ∨ (z.catchType ≠ 0 ∧ ∃ nm : String, (Cond.classLink own z.catchType nm).before args s = true ∧ va_Nc E nm s)) (hcell : H[q]? = some ce) (hv : ce.vm = .none) (hcl : s.vm.findClass E = some ce.cls)
    (hx : ∀ t : State, t.heap = H → s.vm.Alike t.vm → XC E s t) (hf : ∀ z ∈ locs, free z.base) (hc : cells ≤ mc) (hs : slots ≤ ms) :
    vx_W p l e R s m args below meth c H locs cells slots (vx_MQ below Qc XC args s mc ms free) (F0 m pc ls rest) q := by
  intro T hT X
  have hpl : e.platform.magicAccessors = ({} : Platform).magicAccessors := by rw [X.admits.platform]
  obtain ⟨vm', hW', X', st⟩ := X.outThrough hlocks q (g := F0 m pc ls rest) rfl rfl rfl (cell := ce) (by rw [hT]; exact hcell) (by rw [hv]; rfl)
    (by obtain ⟨k9, h9, -⟩ := Vm.findClass_spec hcl; exact ⟨k9, h9⟩) (fun z hz => by
      rcases hpass z hz with h | ⟨hz0, nm, hl1, hn1⟩
      · exact Or.inl h
      · obtain ⟨c6, hc6, hcl6⟩ := Cond.classLink_spec hown hl1 e.platform hpl
        obtain ⟨a8, b8, h1, h2, h3⟩ := hn1
        cases Option.some.inj (h1.symm.trans hcl)
        cases Option.some.inj (h2.symm.trans hc6)
        exact Or.inr ⟨hz0, _, hcl6, h3⟩)
  obtain ⟨g₀, hfr⟩ := X'.frames_eq
  have hcell9 : ((T.setVm vm').setFrames (.throwing q :: below)).heap[q]? = some ce := by
    show T.heap[q]? = some ce
    rw [hT]; exact hcell
  have hend : Ended ((T.setVm vm').setFrames (.throwing q :: below)) below (.threw q) := State.frames_setFrames _ (State.cur_lt_of_frames hfr)
  refine ⟨(T.setVm vm').setFrames (.throwing q :: below), ?_, .threw q, X'.here.running, hend, Or.inr ⟨q, rfl, E, ce, locs, hx _ hT (X'.ends _).1.alike, hcell9, hv, hcl, (X'.ends _).1, (X'.ends _).2.mono hc hs, hf⟩⟩
  rw [X.pushThrowing_eq]
  exact st
/-- a thing of a world lies in the heap -/
theorem vx_lt {D : va_G} {cl : List vw_C} {ws : va_W} {H1 : Heap} (h : va_P D cl ws H1) {k : Nat} {q : Nat × va_E} (hk : ws[k]? = some q) : q.1 < H1.size := (h k q hk).lt
end VXS
/-! ===== END ===== -/
/-! ===== BEGIN methods with a table of their own: called by a name, returning or throwing ===== -/
section VXH
/-! vx_backW, vx_callVX, vx_callSX, vx_callVW, vx_runVW, vx_runVX, vx_runSX, vx_ofWH follow the same proofs as their sisters above (Free/Laws.lean, Shelf42/LK1.lean); vx_outP calls Shelf42/NT130.lean (outThrough). -/
section
variable {l : Launch} {R : Room} {p : Program} {e : Env} {below : List Frame} {s : State} {sargs : Array Value} {y : MethodName} {len W9 : Nat}
theorem vx_backW {ws : List Cond} {rm : Room} {Pc : Array Value → State → Prop} {Qc : Array Value → State → Outcome → State → Prop} {XC : String → State → State → Prop} {mc ms : Nat} {free : Addr → Prop} {bytes : ByteArray} {maxL : Nat} {ret : Option FieldType} {hh : List (Nat × Nat × Nat × Nat)}
    (hM : vx_Met l y ws rm Pc Qc XC mc ms free) (hblind : FrameBlind Pc) (hrc : rm.cells = mc) (hrs : rm.slots = ms)
    (hframes : rm.frames + 1 ≤ R.frames) (hlocals : W9 + (maxL + 11) + rm.locals ≤ R.locals)
    (hws : ∀ w ∈ ws, ∀ a' U, s.WarmedH U.vm → w.before a' U = true) (hcode : Cond.codeWith y bytes maxL ret hh ∈ ws) (hinit : ∀ a' U, s.WarmedH U.vm → (Cond.initialized y.cls).before a' U = true) :
    vx_Back l R p e below s sargs y len W9 (PreOf R mc ms Pc) (PostOf Qc mc ms free) (vx_Post XC mc ms free) := by
  intro m meth c A g ig mk a X hg hsize hdg hW hn hp
  have h1 : (headSpec ws rm).pre.before a A.U = true := atoms_intro fun w hw => hws w hw _ _ X.warmed
  have h2 : (Cond.codeWith y bytes maxL ret hh).before a A.U = true := hws _ hcode _ _ X.warmed
  have h3 : (Cond.initialized y.cls).before a A.U = true := hinit _ _ X.warmed
  have h4 : A.cells + (headSpec ws rm).room.cells ≤ R.cells := by rw [show (headSpec ws rm).room.cells = mc from hrc]; exact hp.1
  have h5 : A.slots + (headSpec ws rm).room.slots ≤ R.slots := by rw [show (headSpec ws rm).room.slots = ms from hrs]; exact hp.2.1
  have hPc : Pc a (A.U.calling g mk a) := hblind _ _ _ _ hp.2.2
  obtain ⟨U, Ls, c0, s0⟩ := A
  dsimp only [Pt.U, Pt.locs, Pt.cells, Pt.slots] at h1 h2 h3 h4 h5 X hn hPc ⊢
  obtain ⟨m9, methY, cY, hn9, hmY, hcY, -, hlY, -⟩ := Cond.codeWith_spec h2
  cases Option.some.inj (hn9.symm.trans hn)
  obtain ⟨kY, hkY, -⟩ := className_of_methodNamed hn
  have hinitY : kY.init = .initialized := Cond.initialized_spec (findClass_of_methodNamed hn) hkY h3
  have h : At U g.method c below := by rw [hg]; exact X.here
  have hlocals9 : W9 + (maxL + 11) + (headSpec ws rm).room.locals ≤ R.locals := hlocals
  have happ : (headSpec ws rm).appliesLoose y e.platform (U.calling g mk a) = true :=
    Spec.appliesLoose_calling (g := g) h hdg hn hkY hinitY
      (X.room_calling (g := g) (R' := (headSpec ws rm).room) hsize hmY hcY hframes (by rw [hlY]; omega) h4 h5) h1
  obtain ⟨mid, hmid⟩ := h.above
  have hfr : (U.setTop g).frames = (.java g :: mid) ++ below := by rw [State.frames_setTop' g h.top, hmid]; rfl
  obtain ⟨o, s₂, hsteps, -, hend, hq⟩ := Steps.callFree hM p X.admits X.cas X.clock (acts := []) hfr happ hPc trivial
  have hq' : vx_Q Qc XC mc ms free a (U.calling g mk a) o s₂ := hq
  rw [State.frames_setTop' g h.top] at hend
  obtain ⟨g₀, hg0⟩ := Option.isSome_iff_exists.mp h.top
  obtain ⟨r, hr⟩ := State.topJava?_eq_some.mp hg0
  have hr' : (({ U with heap := s₂.heap, slotsUsed := s₂.slotsUsed } : State).setVm s₂.vm).frames = .java g₀ :: r := hr
  rcases hq' with ⟨hqc, L, hfe, hL⟩ | ⟨q, rfl, E, ce, L, hx, hce, hcv, hcl, hW₂, hsm, hL⟩
  · obtain ⟨⟨v, rfl⟩, hW₂, e2, q2, q3, q4, q5, q6⟩ := id hfe
    have e3 : s₂ = ({ (U.calling g mk a).setFrames s₂.frames with heap := s₂.heap, slotsUsed := s₂.slotsUsed } : State).setVm s₂.vm := by
      have : s₂ = ({ s₂ with vm := (U.calling g mk a).vm } : State).setVm s₂.vm := rfl
      rw [e2] at this
      exact this
    obtain ⟨c₂, i₂, len₂, hc₂, hd₂, hf₂⟩ := hend
    have hW' : U.WarmedH s₂.vm := hW₂
    have hcc : c₂ = c := by
      have h1 : s₂.code? g.method = U.code? g.method := by
        rw [State.code?_eq, State.code?_eq, hW'.alike.method?]
      exact Option.some.inj (hc₂.symm.trans (h1.trans h.code))
    subst hcc
    have hlen : len₂ = len := by rw [hdg] at hd₂; cases hd₂; rfl
    subst hlen
    have hs₂ : s₂ = (({ U with heap := s₂.heap, slotsUsed := s₂.slotsUsed } : State).setVm s₂.vm).setTop { g with pc := g.pc + len₂, stack := v.toList ++ g.stack } := by
      refine e3.trans ?_
      rw [hf₂, State.calling_eq h.top, State.setFrames_setFrames, State.setTop_of_frames _ hr', hr]
      rfl
    have hsame : U.sameButNew ({ U with heap := s₂.heap, slotsUsed := s₂.slotsUsed } : State) L mc ms := by
      refine ⟨?_, q2, q3, q4, q5, q6⟩
      obtain ⟨t, ht, -⟩ := State.frames_cons hr
      show ({ U with heap := s₂.heap, slotsUsed := s₂.slotsUsed } : State) = { U.setFrames U.frames with heap := s₂.heap, slotsUsed := s₂.slotsUsed }
      rw [State.setFrames_self ht]
    subst hg
    refine Or.inl ⟨v, ⟨(({ U with heap := s₂.heap, slotsUsed := s₂.slotsUsed } : State).setVm s₂.vm), Ls ++ L, c0 + mc, s0 + ms⟩,
      ⟨X.admits, X.cas, X.clock, X.frames, X.room, X.hears, X.method, X.code, (X.here.setHeapUsed s₂.heap s₂.slotsUsed).setVm hW'.alike, X.tail, State.WarmedH.trans X.warmed hW', X.limits, X.bytes, X.same.trans (hsame.setVm s.vm)⟩,
      ⟨g, mk, s₂, L, rfl, rfl, hqc, rfl, hL, rfl, rfl⟩, ?_⟩
    show Steps p.tables e below _ ((({ U with heap := s₂.heap, slotsUsed := s₂.slotsUsed } : State).setVm s₂.vm).setTop { g with pc := g.pc + len₂, stack := v.toList ++ g.stack })
    rw [← hs₂]
    exact hsteps
  · obtain ⟨e2, q2, q3, q4, q5, q6⟩ := id hsm
    have e3 : s₂ = ({ (U.calling g mk a).setFrames s₂.frames with heap := s₂.heap, slotsUsed := s₂.slotsUsed } : State).setVm s₂.vm := by
      have : s₂ = ({ s₂ with vm := (U.calling g mk a).vm } : State).setVm s₂.vm := rfl
      rw [e2] at this
      exact this
    have hf₂ : s₂.frames = .throwing q :: .java g :: U.frames.tail := hend
    have hW' : U.WarmedH s₂.vm := hW₂
    have hs₂ : s₂ = ((({ U with heap := s₂.heap, slotsUsed := s₂.slotsUsed } : State).setVm s₂.vm).setTop g).pushFrame (.throwing q) := by
      refine e3.trans ?_
      rw [hf₂, State.calling_eq h.top, State.setFrames_setFrames, State.pushFrame, State.frames_setTop _ hr', State.setTop_of_frames _ hr', State.setFrames_setFrames, hr]
      rfl
    have hsame : U.sameButNew ({ U with heap := s₂.heap, slotsUsed := s₂.slotsUsed } : State) L mc ms := by
      refine ⟨?_, q2, q3, q4, q5, q6⟩
      obtain ⟨t, ht, -⟩ := State.frames_cons hr
      show ({ U with heap := s₂.heap, slotsUsed := s₂.slotsUsed } : State) = { U.setFrames U.frames with heap := s₂.heap, slotsUsed := s₂.slotsUsed }
      rw [State.setFrames_self ht]
    subst hg
    refine Or.inr ⟨q, ⟨(({ U with heap := s₂.heap, slotsUsed := s₂.slotsUsed } : State).setVm s₂.vm), Ls ++ L, c0 + mc, s0 + ms⟩,
      ⟨X.admits, X.cas, X.clock, X.frames, X.room, X.hears, X.method, X.code, (X.here.setHeapUsed s₂.heap s₂.slotsUsed).setVm hW'.alike, X.tail, State.WarmedH.trans X.warmed hW', X.limits, X.bytes, X.same.trans (hsame.setVm s.vm)⟩,
      ⟨g, mk, s₂, L, E, ce, rfl, rfl, hx, hce, hcv, hcl, rfl, hL, rfl, rfl⟩, ?_⟩
    show Steps p.tables e below _ (((({ U with heap := s₂.heap, slotsUsed := s₂.slotsUsed } : State).setVm s₂.vm).setTop g).pushFrame (.throwing q))
    rw [← hs₂]
    exact hsteps
end
variable {p : Program} {l : Launch} {e : Env} {R : Room} {s : State} {m : MethodId} {args : Array Value} {below : List Frame} {meth : Method} {c : Code} {T : State} {H : Heap} {locs : List Loc} {cells slots : Nat}
theorem vx_callVX (X : Stand p l e R s m args below meth c T locs cells slots) (hexec : p.tables.exec = Jvm.exec) {own C : String} {index : Nat} {y : MethodName} {bytes : ByteArray} {maxL : Nat} {ret : Option FieldType} {hh : List (Nat × Nat × Nat × Nat)}
    (hown : s.vm.findClass own = some m.cls) (hlink : (Cond.methodLink own index y).before args s = true) (hinst : (Cond.instanceMethod y).before args s = true) (hsel : (Cond.selects C y y).before args s = true)
    (hcode : (Cond.codeWith y bytes maxL ret hh).before args s = true) (hy : y.cls ≠ "java/lang/invoke/MethodHandle" ∧ y.cls ≠ "java/lang/invoke/VarHandle")
    {W9 : Nat} {Pre : Pt → Array Value → Prop} {Post : Pt → Array Value → Option Value → Pt → Prop} {PostX : Pt → Array Value → Addr → Pt → Prop} (hK : vx_Back l R p e below s args y 3 W9 Pre Post PostX)
    {b : Addr} {cellB : Cell} (hcell : T.heap[b]? = some cellB) (hobj : cellB.vm.isStatics = false) (hcls : s.vm.findClass C = some cellB.cls)
    {g : JFrame} (hg : g.method = m) (hsize : g.locals.size = c.maxLocals) {argsL rest : List Value} (hlen : ∀ sig, parseMethodDescriptor y.desc = some sig → argsL.length = sig.parameters.length)
    (hstack : g.stack = argsL.reverse ++ .ref b :: rest) (hW : 2 * g.monitorRoom + (rest.map fun v => v.category).sum ≤ W9) (hdg : decode c.code g.pc = .ok (.invokevirtual index, 3))
    (hpre : ∀ vm₁, s.WarmedH vm₁ → Pre ⟨T.setVm vm₁, locs, cells, slots⟩ (Value.ref b :: argsL).toArray) :
    (∃ (v : Option Value) (vm₁ : Vm) (B : Pt), s.WarmedH vm₁ ∧ Stand p l e R s m args below meth c B.U B.locs B.cells B.slots ∧ Post ⟨T.setVm vm₁, locs, cells, slots⟩ (Value.ref b :: argsL).toArray v B ∧
      ∀ target, Steps p.tables e below (B.U.setTop { g with pc := g.pc + 3, stack := v.toList ++ rest }) target → Steps p.tables e below (T.setTop g) target) ∨
    (∃ (q : Addr) (vm₁ : Vm) (B : Pt), s.WarmedH vm₁ ∧ Stand p l e R s m args below meth c B.U B.locs B.cells B.slots ∧ PostX ⟨T.setVm vm₁, locs, cells, slots⟩ (Value.ref b :: argsL).toArray q B ∧
      Steps p.tables e below (T.setTop g) ((B.U.setTop { g with stack := rest }).pushFrame (.throwing q))) := by
  obtain ⟨mk, methM, hnamed, hmethM, hstM, habM⟩ := Cond.instanceMethod_spec hinst
  obtain ⟨m8, methM', cM, hn8, hmethM', -, -, -, -, -, -, hsigM⟩ := Cond.codeWith_spec hcode
  cases Option.some.inj (hn8.symm.trans hnamed)
  cases hmethM.symm.trans hmethM'
  obtain ⟨c2, r2, m2, q1, q2, q3, q4, kP, hkP, hkPi⟩ := Cond.selects_spec hsel
  cases hcls.symm.trans q1
  cases (State.methodFound?_of_named hnamed hy).symm.trans q2
  cases hnamed.symm.trans q3
  have hselP : selectMethod e.platform s.vm cellB.cls mk = .method mk := by rw [Launch.admits_selectMethod X.admits]; exact q4
  obtain ⟨vm₁, X₁, hstep₁⟩ := X.invokevirtual hexec hown hlink hnamed hmethM hstM hkP hkPi hy (a := b) (cell := cellB) hcell
    (fun z h => by rw [h] at hobj; cases hobj) hselP hmethM habM hkP hkPi (g := g) hg (argsL := argsL) (rest := rest) (hlen _ hsigM) hstack hdg
  rcases hK m meth c ⟨T.setVm vm₁, locs, cells, slots⟩ { g with stack := rest } (.invokevirtual index) mk (Value.ref b :: argsL).toArray X₁ hg hsize hdg hW (X₁.named hnamed) (hpre vm₁ X₁.warmed) with ⟨v, B, X', hpost, hsteps⟩ | ⟨q, B, X', hpost, hsteps⟩
  · exact Or.inl ⟨v, vm₁, B, X₁.warmed, X', hpost, fun target h => hstep₁ _ fun acts => by rw [doInvoke_state]; exact hsteps.trans h⟩
  · exact Or.inr ⟨q, vm₁, B, X₁.warmed, X', hpost, hstep₁ _ fun acts => by rw [doInvoke_state]; exact hsteps⟩
theorem vx_callSX (X : Stand p l e R s m args below meth c T locs cells slots) (hexec : p.tables.exec = Jvm.exec) {own : String} {index : Nat} {y : MethodName} {bytes : ByteArray} {maxL : Nat} {ret : Option FieldType} {hh : List (Nat × Nat × Nat × Nat)}
    (hown : s.vm.findClass own = some m.cls) (hlink : (Cond.methodLink own index y).before args s = true) (hstat : (Cond.static y).before args s = true) (hinit : (Cond.initialized y.cls).before args s = true)
    (hcode : (Cond.codeWith y bytes maxL ret hh).before args s = true) (hy : y.cls ≠ "java/lang/invoke/MethodHandle" ∧ y.cls ≠ "java/lang/invoke/VarHandle")
    {W9 : Nat} {Pre : Pt → Array Value → Prop} {Post : Pt → Array Value → Option Value → Pt → Prop} {PostX : Pt → Array Value → Addr → Pt → Prop} (hK : vx_Back l R p e below s args y 3 W9 Pre Post PostX)
    {g : JFrame} (hg : g.method = m) (hsize : g.locals.size = c.maxLocals) {argsL rest : List Value} (hlen : ∀ sig, parseMethodDescriptor y.desc = some sig → argsL.length = sig.parameters.length)
    (hstack : g.stack = argsL.reverse ++ rest) (hW : 2 * g.monitorRoom + (rest.map fun v => v.category).sum ≤ W9) (hdg : decode c.code g.pc = .ok (.invokestatic index, 3))
    (hpre : ∀ vm₁, s.WarmedH vm₁ → Pre ⟨T.setVm vm₁, locs, cells, slots⟩ argsL.toArray) :
    (∃ (v : Option Value) (vm₁ : Vm) (B : Pt), s.WarmedH vm₁ ∧ Stand p l e R s m args below meth c B.U B.locs B.cells B.slots ∧ Post ⟨T.setVm vm₁, locs, cells, slots⟩ argsL.toArray v B ∧
      ∀ target, Steps p.tables e below (B.U.setTop { g with pc := g.pc + 3, stack := v.toList ++ rest }) target → Steps p.tables e below (T.setTop g) target) ∨
    (∃ (q : Addr) (vm₁ : Vm) (B : Pt), s.WarmedH vm₁ ∧ Stand p l e R s m args below meth c B.U B.locs B.cells B.slots ∧ PostX ⟨T.setVm vm₁, locs, cells, slots⟩ argsL.toArray q B ∧
      Steps p.tables e below (T.setTop g) ((B.U.setTop { g with stack := rest }).pushFrame (.throwing q))) := by
  obtain ⟨mk, methM, cM, hnamed, hmethM, -, -, -, -, -, -, hsigM⟩ := Cond.codeWith_spec hcode
  have hstatic : methM.isStatic = true := Cond.static_spec hnamed hmethM hstat
  obtain ⟨kP, hkP, -⟩ := className_of_methodNamed hnamed
  have hinitP : kP.init = .initialized := Cond.initialized_spec (findClass_of_methodNamed hnamed) hkP hinit
  obtain ⟨vm₁, X₁, hstep₁⟩ := X.invokestatic hexec hown hlink hnamed hmethM hstatic hkP hinitP hy (g := g) hg (argsL := argsL) (rest := rest) (hlen _ hsigM) hstack hdg
  rcases hK m meth c ⟨T.setVm vm₁, locs, cells, slots⟩ { g with stack := rest } (.invokestatic index) mk argsL.toArray X₁ hg hsize hdg hW (X₁.named hnamed) (hpre vm₁ X₁.warmed) with ⟨v, B, X', hpost, hsteps⟩ | ⟨q, B, X', hpost, hsteps⟩
  · exact Or.inl ⟨v, vm₁, B, X₁.warmed, X', hpost, fun target h => hstep₁ _ fun acts => by rw [doInvoke_state]; exact hsteps.trans h⟩
  · exact Or.inr ⟨q, vm₁, B, X₁.warmed, X', hpost, hstep₁ _ fun acts => by rw [doInvoke_state]; exact hsteps⟩
theorem vx_callVW (X : Stand p l e R s m args below meth c T locs cells slots) (hexec : p.tables.exec = Jvm.exec) {own C : String} {index : Nat} {y : MethodName} {bytes : ByteArray} {maxL : Nat} {ret : Option FieldType} {hh : List (Nat × Nat × Nat × Nat)}
    (hown : s.vm.findClass own = some m.cls) (hlink : (Cond.methodLink own index y).before args s = true) (hinst : (Cond.instanceMethod y).before args s = true) (hsel : (Cond.selects C y y).before args s = true)
    (hcode : (Cond.codeWith y bytes maxL ret hh).before args s = true) (hy : y.cls ≠ "java/lang/invoke/MethodHandle" ∧ y.cls ≠ "java/lang/invoke/VarHandle")
    {W9 : Nat} {Pre : Pt → Array Value → Prop} {Post : Pt → Array Value → Option Value → Pt → Prop} (hK : Back l R p e below s args y 3 W9 Pre Post)
    {b : Addr} {cellB : Cell} (hcell : T.heap[b]? = some cellB) (hobj : cellB.vm.isStatics = false) (hcls : s.vm.findClass C = some cellB.cls)
    {g : JFrame} (hg : g.method = m) (hsize : g.locals.size = c.maxLocals) {argsL rest : List Value} (hlen : ∀ sig, parseMethodDescriptor y.desc = some sig → argsL.length = sig.parameters.length)
    (hstack : g.stack = argsL.reverse ++ .ref b :: rest) (hW : 2 * g.monitorRoom + (rest.map fun v => v.category).sum ≤ W9) (hdg : decode c.code g.pc = .ok (.invokevirtual index, 3))
    (hpre : ∀ vm₁, s.WarmedH vm₁ → Pre ⟨T.setVm vm₁, locs, cells, slots⟩ (Value.ref b :: argsL).toArray) :
    ∃ (v : Option Value) (vm₁ : Vm) (B : Pt), s.WarmedH vm₁ ∧ Stand p l e R s m args below meth c B.U B.locs B.cells B.slots ∧ Post ⟨T.setVm vm₁, locs, cells, slots⟩ (Value.ref b :: argsL).toArray v B ∧
      ∀ target, Steps p.tables e below (B.U.setTop { g with pc := g.pc + 3, stack := v.toList ++ rest }) target → Steps p.tables e below (T.setTop g) target := by
  obtain ⟨mk, methM, hnamed, hmethM, hstM, habM⟩ := Cond.instanceMethod_spec hinst
  obtain ⟨m8, methM', cM, hn8, hmethM', -, -, -, -, -, -, hsigM⟩ := Cond.codeWith_spec hcode
  cases Option.some.inj (hn8.symm.trans hnamed)
  cases hmethM.symm.trans hmethM'
  obtain ⟨c2, r2, m2, q1, q2, q3, q4, kP, hkP, hkPi⟩ := Cond.selects_spec hsel
  cases hcls.symm.trans q1
  cases (State.methodFound?_of_named hnamed hy).symm.trans q2
  cases hnamed.symm.trans q3
  have hselP : selectMethod e.platform s.vm cellB.cls mk = .method mk := by rw [Launch.admits_selectMethod X.admits]; exact q4
  obtain ⟨vm₁, X₁, hstep₁⟩ := X.invokevirtual hexec hown hlink hnamed hmethM hstM hkP hkPi hy (a := b) (cell := cellB) hcell
    (fun z h => by rw [h] at hobj; cases hobj) hselP hmethM habM hkP hkPi (g := g) hg (argsL := argsL) (rest := rest) (hlen _ hsigM) hstack hdg
  obtain ⟨v, B, X', hpost, hsteps⟩ := hK m meth c ⟨T.setVm vm₁, locs, cells, slots⟩ { g with stack := rest } (.invokevirtual index) mk (Value.ref b :: argsL).toArray X₁ hg hsize hdg hW (X₁.named hnamed) (hpre vm₁ X₁.warmed)
  exact ⟨v, vm₁, B, X₁.warmed, X', hpost, fun target h => hstep₁ _ fun acts => by rw [doInvoke_state]; exact hsteps.trans h⟩
abbrev vx_CVW (R : Room) (s : State) (args : Array Value) (own C : String) (index : Nat) (y : MethodName) (bytes : ByteArray) (maxL : Nat) (ret : Option FieldType) (hh : List (Nat × Nat × Nat × Nat)) (ws : List Cond) (rm : Room) (mc ms n : Nat) : Prop :=
  (rm.cells = mc ∧ rm.slots = ms ∧ rm.frames + 1 ≤ R.frames ∧ 8 + (maxL + 11) + rm.locals ≤ R.locals ∧ (∀ w ∈ ws, ∀ (a' : Array Value) (U : State), s.WarmedH U.vm → w.before a' U = true) ∧ Cond.codeWith y bytes maxL ret hh ∈ ws) ∧
  (Cond.codeWith y bytes maxL ret hh).before args s = true ∧ (Cond.initialized y.cls).before args s = true ∧ (y.cls ≠ "java/lang/invoke/MethodHandle" ∧ y.cls ≠ "java/lang/invoke/VarHandle") ∧
  (∀ sig, parseMethodDescriptor y.desc = some sig → n = sig.parameters.length) ∧ (Cond.methodLink own index y).before args s = true ∧ (Cond.instanceMethod y).before args s = true ∧ (Cond.selects C y y).before args s = true
theorem vx_cwVW {own C : String} {index maxL mc ms : Nat} {y : MethodName} {bytes : ByteArray} {ret : Option FieldType} {hh : List (Nat × Nat × Nat × Nat)} {Ts ws ws' : List Cond} {rm : Room} (n : Nat) (ht : ∀ w ∈ Ts, w.before args s = true) (hT : GoodIn Ts (wsV own index C y ws)) (hw : ws = Cond.codeWith y bytes maxL ret hh :: ws') (hrc : rm.cells = mc) (hrs : rm.slots = ms)
    (hd : y.cls = C ∧ y.cls ≠ "java/lang/invoke/MethodHandle" ∧ y.cls ≠ "java/lang/invoke/VarHandle" ∧ (parseMethodDescriptor y.desc).map (fun d => d.parameters.length) = some n) (hR : rm.frames + 1 ≤ R.frames ∧ 8 + (maxL + 11) + rm.locals ≤ R.locals) :
    vx_CVW R s args own C index y bytes maxL ret hh ws rm mc ms n := by
  obtain ⟨hC, hd⟩ := hd
  subst hC
  have ok : ∀ w ∈ wsV own index y.cls y ws, w.before args s = true := fun w h => ht w (hT w h).1
  have hG : GoodIn Ts ws := fun w h => hT w (by unfold wsV; exact List.mem_append_right _ h)
  have hc : Cond.codeWith y bytes maxL ret hh ∈ ws := by rw [hw]; exact List.mem_cons_self
  refine ⟨⟨hrc, hrs, hR.1, hR.2, pay_in ht hG, hc⟩, ht _ (hG _ hc).1, ok _ (by simp [wsV]), ⟨hd.1, hd.2.1⟩, fun sig h => ?_, ok _ (by simp [wsV]), ok _ (by simp [wsV]), ok _ (by simp [wsV])⟩
  have h2 := hd.2.2
  rw [h] at h2
  exact (Option.some.inj h2).symm
theorem vx_runVW {y : MethodName} {bytes cc : ByteArray} {maxL nL mc ms n index : Nat} {ret : Option FieldType} {hh : List (Nat × Nat × Nat × Nat)} {ws : List Cond} {rm : Room} {Pc : Array Value → State → Prop} {Qc : Array Value → State → Outcome → State → Prop} {free : Addr → Prop} {Ts : List Cond} {own C : String} {b : Addr} {As rest : List Value} {g : JFrame}
    (S : CallFix p m c cc nL s args Ts own) (hM : Met l y ws rm Pc Qc mc ms free) (cw : vx_CVW R s args own C index y bytes maxL ret hh ws rm mc ms n) (hp : PreV s H C b Pc As)
    (hg : g.method = m) (hn : As.length = n) (hsize : g.locals.size = nL) (hstack : g.stack = As.reverse ++ .ref b :: rest) (hW : 2 * g.monitorRoom + (rest.map fun v => v.category).sum ≤ 8) (hdg : decode cc g.pc = .ok (.invokevirtual index, 3)) (hf : cells + mc ≤ R.cells ∧ slots + ms ≤ R.slots) :
    va_Run p l e R s m args below meth c H locs cells slots mc ms g rest (Qc (Value.ref b :: As).toArray) free := by
  obtain ⟨⟨hrc, hrs, hfr, hlo, hws, hcw⟩, hcode, hini, hy, hlen, hl, hin, hse⟩ := cw
  have hK : Back l R p e below s args y 3 8 (PreOf R mc ms Pc) (PostOf Qc mc ms free) := va_backW (hh := hh) (bytes := bytes) (maxL := maxL) (ret := ret) hM hp.1 hrc hrs hfr hlo hws hcw (fun a' U hW => word_at hW (Or.inl (by first | rfl | simp [Cond.onTables, Cond.keeps, Cond.steady])) hini)
  obtain ⟨hx, hb, hml, ho, -⟩ := S
  obtain ⟨-, ⟨cellB, hcB, hoB, hclB⟩, hPc⟩ := hp
  intro T hT X
  obtain ⟨v, vm₁, ⟨U', l2, c2, s2⟩, hW₁, X', ⟨g', mk, t, L, e1, e2, hq, h1, hL, h2, h3⟩, st⟩ := vx_callVW X hx (C := C) (hh := hh) (bytes := bytes) (maxL := maxL) (ret := ret) ho hl hin hse hcode hy hK (by rw [hT]; exact hcB) hoB hclB hg (hsize.trans hml.symm) (argsL := As) (rest := rest) (fun sig h => hn.trans (hlen sig h)) hstack hW (by rw [hb]; exact hdg)
    (fun vm₁ hW₁ => ⟨hf.1, hf.2, hPc (T.setVm vm₁) hT hW₁⟩)
  dsimp only [Pt.U, Pt.locs, Pt.cells, Pt.slots] at X' e1 e2 h1 h2 h3 st
  subst h1; subst h2; subst h3
  exact ⟨v, (T.setVm vm₁).calling g' mk (Value.ref b :: As).toArray, t, U', L, hT, X', hL, e1, e2, hq, st⟩
section
variable {y : MethodName} {bytes cc : ByteArray} {maxL nL mc ms n index : Nat} {ret : Option FieldType} {ws : List Cond} {rm : Room} {Pc : Array Value → State → Prop} {Qc : Array Value → State → Outcome → State → Prop} {XC : String → State → State → Prop} {free : Addr → Prop} {Ts : List Cond} {own C : String} {b : Addr} {As rest : List Value} {g : JFrame}
theorem vx_runVX {hh : List (Nat × Nat × Nat × Nat)} (S : CallFix p m c cc nL s args Ts own) (hM : vx_Met l y ws rm Pc Qc XC mc ms free) (cw : vx_CVW R s args own C index y bytes maxL ret hh ws rm mc ms n) (hp : PreV s H C b Pc As)
    (hg : g.method = m) (hn : As.length = n) (hsize : g.locals.size = nL) (hstack : g.stack = As.reverse ++ .ref b :: rest) (hW : 2 * g.monitorRoom + (rest.map fun v => v.category).sum ≤ 8) (hdg : decode cc g.pc = .ok (.invokevirtual index, 3)) (hf : cells + mc ≤ R.cells ∧ slots + ms ≤ R.slots) :
    vx_Run p l e R s m args below meth c H locs cells slots mc ms g rest (Qc (Value.ref b :: As).toArray) XC free := by
  obtain ⟨⟨hrc, hrs, hfr, hlo, hws, hcw⟩, hcode, hini, hy, hlen, hl, hin, hse⟩ := cw
  have hK : vx_Back l R p e below s args y 3 8 (PreOf R mc ms Pc) (PostOf Qc mc ms free) (vx_Post XC mc ms free) := vx_backW (hh := hh) (bytes := bytes) (maxL := maxL) (ret := ret) hM hp.1 hrc hrs hfr hlo hws hcw (fun a' U hW => word_at hW (Or.inl (by first | rfl | simp [Cond.onTables, Cond.keeps, Cond.steady])) hini)
  obtain ⟨hx, hb, hml, ho, -⟩ := S
  obtain ⟨-, ⟨cellB, hcB, hoB, hclB⟩, hPc⟩ := hp
  intro T hT X
  rcases vx_callVX X hx (C := C) (hh := hh) (bytes := bytes) (maxL := maxL) (ret := ret) ho hl hin hse hcode hy hK (by rw [hT]; exact hcB) hoB hclB hg (hsize.trans hml.symm) (argsL := As) (rest := rest) (fun sig h => hn.trans (hlen sig h)) hstack hW (by rw [hb]; exact hdg)
    (fun vm₁ hW₁ => ⟨hf.1, hf.2, hPc (T.setVm vm₁) hT hW₁⟩) with ⟨v, vm₁, ⟨U', l2, c2, s2⟩, hW₁, X', ⟨g', mk, t, L, e1, e2, hq, h1, hL, h2, h3⟩, st⟩ | ⟨q, vm₁, ⟨U', l2, c2, s2⟩, hW₁, X', ⟨g', mk, t, L, E, ce, e1, e2, hq, hce, hcv, hcl, h1, hL, h2, h3⟩, st⟩
  · dsimp only [Pt.U, Pt.locs, Pt.cells, Pt.slots] at X' e1 e2 h1 h2 h3 st
    subst h1; subst h2; subst h3
    exact Or.inl ⟨v, (T.setVm vm₁).calling g' mk (Value.ref b :: As).toArray, t, U', L, hT, X', hL, e1, e2, hq, st⟩
  · dsimp only [Pt.U, Pt.locs, Pt.cells, Pt.slots] at X' e1 e2 h1 h2 h3 st hcl
    subst h1; subst h2; subst h3
    exact Or.inr ⟨q, (T.setVm vm₁).calling g' mk (Value.ref b :: As).toArray, t, U', L, E, ce, hT, X', hL, e1, e2, hq, hce, hcv, vx_cls hW₁ hcl, st⟩
theorem vx_runSX {hh : List (Nat × Nat × Nat × Nat)} (S : CallFix p m c cc nL s args Ts own) (hM : vx_Met l y ws rm Pc Qc XC mc ms free) (cw : vx_CSW R s args own index y bytes maxL ret hh ws rm mc ms n) (hp : PreS s H Pc As)
    (hg : g.method = m) (hn : As.length = n) (hsize : g.locals.size = nL) (hstack : g.stack = As.reverse ++ rest) (hW : 2 * g.monitorRoom + (rest.map fun v => v.category).sum ≤ 8) (hdg : decode cc g.pc = .ok (.invokestatic index, 3)) (hf : cells + mc ≤ R.cells ∧ slots + ms ≤ R.slots) :
    vx_Run p l e R s m args below meth c H locs cells slots mc ms g rest (Qc As.toArray) XC free := by
  obtain ⟨⟨hrc, hrs, hfr, hlo, hws, hcw⟩, hcode, hini, hy, hlen, hl, hstt⟩ := cw
  have hK : vx_Back l R p e below s args y 3 8 (PreOf R mc ms Pc) (PostOf Qc mc ms free) (vx_Post XC mc ms free) := vx_backW (hh := hh) (bytes := bytes) (maxL := maxL) (ret := ret) hM hp.1 hrc hrs hfr hlo hws hcw (fun a' U hW => word_at hW (Or.inl (by first | rfl | simp [Cond.onTables, Cond.keeps, Cond.steady])) hini)
  obtain ⟨hx, hb, hml, ho, -⟩ := S
  intro T hT X
  rcases vx_callSX X hx (hh := hh) (bytes := bytes) (maxL := maxL) (ret := ret) ho hl hstt hini hcode hy hK hg (hsize.trans hml.symm) (argsL := As) (rest := rest) (fun sig h => hn.trans (hlen sig h)) hstack hW (by rw [hb]; exact hdg)
    (fun vm₁ hW₁ => ⟨hf.1, hf.2, hp.2 (T.setVm vm₁) hT hW₁⟩) with ⟨v, vm₁, ⟨U', l2, c2, s2⟩, hW₁, X', ⟨g', mk, t, L, e1, e2, hq, h1, hL, h2, h3⟩, st⟩ | ⟨q, vm₁, ⟨U', l2, c2, s2⟩, hW₁, X', ⟨g', mk, t, L, E, ce, e1, e2, hq, hce, hcv, hcl, h1, hL, h2, h3⟩, st⟩
  · dsimp only [Pt.U, Pt.locs, Pt.cells, Pt.slots] at X' e1 e2 h1 h2 h3 st
    subst h1; subst h2; subst h3
    exact Or.inl ⟨v, (T.setVm vm₁).calling g' mk As.toArray, t, U', L, hT, X', hL, e1, e2, hq, st⟩
  · dsimp only [Pt.U, Pt.locs, Pt.cells, Pt.slots] at X' e1 e2 h1 h2 h3 st hcl
    subst h1; subst h2; subst h3
    exact Or.inr ⟨q, (T.setVm vm₁).calling g' mk As.toArray, t, U', L, E, ce, hT, X', hL, e1, e2, hq, hce, hcv, vx_cls hW₁ hcl, st⟩
end
end VXH
theorem vx_ofWH {l : Launch} {y : MethodName} {ws ws' : List Cond} {rm : Room} {Pc : Array Value → State → Prop} {Qc : Array Value → State → Outcome → State → Prop} {XC : String → State → State → Prop} {mc ms : Nat} {free : Addr → Prop} {cc : ByteArray} {maxL : Nat} {ret : Option FieldType} {hh : List (Nat × Nat × Nat × Nat)}
    (hy : plainName y.cls = true) (hw : ws = Cond.codeWith y cc maxL ret hh :: ws')
    (body : ∀ p e s m args below meth c s₁, BodyLoose p l y (headSpec ws rm) cc maxL ret e s m args below meth c s₁ → c.maxLocals = maxL → Pc args s →
      W p l e (headSpec ws rm).room s m args below meth c s.heap [] 0 0 (vx_MQ below Qc XC args s mc ms free) (entryFrame m args maxL)) : vx_Met l y ws rm Pc Qc XC mc ms free := by
  refine MetFree.of_bodyS (code := cc) (maxLocals := maxL) (ret := ret) hy ?_ ?_
  · intro args s m h hn
    obtain ⟨m9, meth, c, hn9, h1, h2, h3, h4, -, h5, h6, -⟩ := Cond.codeWith_spec (atoms_spec (ws := ws) h _ (by rw [hw]; exact List.mem_cons_self))
    cases hn.symm.trans hn9
    exact ⟨meth, c, h1, h2, h3, h4, h5, h6⟩
  · intro p e s m args below meth c s₁ B hml hP _
    have hh0 : s₁.heap = s.heap := by rw [B.state]; rfl
    obtain ⟨t, a1, o, b1, b2, b3⟩ := body p e s m args below meth c s₁ B hml hP s₁ hh0 (Stand.of_body B)
    exact ⟨t, o, a1, b1, b2, b3⟩
/-! ===== END ===== -/
end
section
/-! ===== BEGIN printed: names, fields, word lists, decode rows ===== -/
def RX0 : String := "Nudgelane$Attempts"
def TX0 : u_T := fun k => match k with
  | 0 => ("Nudgelane$Attempts", "froms", "LNudgelane$Row;", true)
  | 1 => ("Nudgelane$Attempts", "tos", "LNudgelane$Row;", true)
  | 2 => ("Nudgelane$Attempts", "leavings", "LNudgelane$Row;", true)
  | 3 => ("Nudgelane$Attempts", "rightEnds", "LNudgelane$Row;", true)
  | 4 => ("Nudgelane$Attempts", "metMarks", "LNudgelane$Row;", true)
  | 5 => ("Nudgelane$Attempts", "metForms", "LNudgelane$Row;", true)
  | 6 => ("Nudgelane$Attempts", "metTotal", "I", false)
  | 7 => ("Nudgelane$Attempts", "begun", "I", false)
  | 8 => ("Nudgelane$Attempts", "passed", "I", false)
  | 9 => ("Nudgelane$Attempts", "here", "I", false)
  | _ => ("Nudgelane$Attempts", "someRight", "Z", false)
def tyX0 : Nat → FieldType := fun k => match k with
  | 0 => .object "Nudgelane$Row"
  | 1 => .object "Nudgelane$Row"
  | 2 => .object "Nudgelane$Row"
  | 3 => .object "Nudgelane$Row"
  | 4 => .object "Nudgelane$Row"
  | 5 => .object "Nudgelane$Row"
  | 6 => .int
  | 7 => .int
  | 8 => .int
  | 9 => .int
  | _ => .boolean
abbrev wsX00 : List Cond := u_ws RX0 TX0 11
theorem nmX0 : ∀ a, a < 11 → ∀ b, b < 11 → a ≠ b → (TX0 a).2.1 ≠ (TX0 b).2.1 := by decide +kernel
theorem tyX0_ok : ∀ k, k < 11 → parseFieldDescriptor (TX0 k).2.2.1 = some (tyX0 k) := by decide +kernel
abbrev cX0_init : ByteArray := prog_2_method_1_code
def yX0_init : MethodName := ⟨RX0, "<init>", "()V"⟩
def RX1 : String := "Nudgelane$Programs"
def TX1 : u_T := fun k => match k with
  | _ => ("Nudgelane$Programs", "forms", "LNudgelane$Row;", true)
def tyX1 : Nat → FieldType := fun k => match k with
  | _ => .object "Nudgelane$Row"
abbrev wsX10 : List Cond := u_ws RX1 TX1 1
theorem nmX1 : ∀ a, a < 1 → ∀ b, b < 1 → a ≠ b → (TX1 a).2.1 ≠ (TX1 b).2.1 := by decide +kernel
theorem tyX1_ok : ∀ k, k < 1 → parseFieldDescriptor (TX1 k).2.2.1 = some (tyX1 k) := by decide +kernel
abbrev cX1_init : ByteArray := prog_3_method_1_code
def yX1_init : MethodName := ⟨RX1, "<init>", "()V"⟩
def yX1_formOf : MethodName := ⟨RX1, "formOf", "(I)I"⟩
abbrev cX1_weightOf : ByteArray := prog_3_method_5_code
def yX1_weightOf : MethodName := ⟨RX1, "weightOf", "(I)I"⟩
abbrev cX1_without : ByteArray := prog_3_method_6_code
def yX1_without : MethodName := ⟨RX1, "without", "(II)I"⟩
abbrev cX1_reduce : ByteArray := prog_3_method_7_code
def yX1_reduce : MethodName := ⟨RX1, "reduce", "(ILNudgelane$Row;)I"⟩
abbrev cX1_unpack : ByteArray := prog_3_method_8_code
def yX1_unpack : MethodName := ⟨RX1, "unpack", "(ILNudgelane$Row;)V"⟩
abbrev cX1_pack : ByteArray := prog_3_method_9_code
def yX1_pack : MethodName := ⟨RX1, "pack", "(LNudgelane$Row;)I"⟩
abbrev cX1_rewriteOnce : ByteArray := prog_3_method_10_code
def yX1_rewriteOnce : MethodName := ⟨RX1, "rewriteOnce", "(LNudgelane$Row;)Z"⟩
abbrev cX1_isUsable : ByteArray := prog_3_method_11_code
def yX1_isUsable : MethodName := ⟨RX1, "isUsable", "(III)Z"⟩
abbrev cX1_use : ByteArray := prog_3_method_12_code
def yX1_use : MethodName := ⟨RX1, "use", "(ILNudgelane$Row;I)V"⟩
def RX2 : String := "Nudgelane$Row"
def TX2 : u_T := fun k => match k with
  | _ => ("Nudgelane$Row", "cells", "[I", true)
def tyX2 : Nat → FieldType := fun k => match k with
  | _ => .array .int
abbrev wsX20 : List Cond := u_ws RX2 TX2 1
theorem nmX2 : ∀ a, a < 1 → ∀ b, b < 1 → a ≠ b → (TX2 a).2.1 ≠ (TX2 b).2.1 := by decide +kernel
theorem tyX2_ok : ∀ k, k < 1 → parseFieldDescriptor (TX2 k).2.2.1 = some (tyX2 k) := by decide +kernel
abbrev cX2_init : ByteArray := prog_4_method_1_code
def yX2_init : MethodName := ⟨RX2, "<init>", "(I)V"⟩
abbrev cX2_get : ByteArray := prog_4_method_2_code
def yX2_get : MethodName := ⟨RX2, "get", "(I)I"⟩
abbrev cX2_set : ByteArray := prog_4_method_3_code
def yX2_set : MethodName := ⟨RX2, "set", "(II)V"⟩
abbrev cX2_add : ByteArray := prog_4_method_4_code
def yX2_add : MethodName := ⟨RX2, "add", "(II)V"⟩
def RX3 : String := "Nudgelane$Ways"
def TX3 : u_T := fun k => match k with
  | 0 => ("Nudgelane$Ways", "known", "LNudgelane$Row;", true)
  | _ => ("Nudgelane$Ways", "queue", "LNudgelane$Row;", true)
def tyX3 : Nat → FieldType := fun k => match k with
  | 0 => .object "Nudgelane$Row"
  | _ => .object "Nudgelane$Row"
abbrev wsX30 : List Cond := u_ws RX3 TX3 2
theorem nmX3 : ∀ a, a < 2 → ∀ b, b < 2 → a ≠ b → (TX3 a).2.1 ≠ (TX3 b).2.1 := by decide +kernel
theorem tyX3_ok : ∀ k, k < 2 → parseFieldDescriptor (TX3 k).2.2.1 = some (tyX3 k) := by decide +kernel
abbrev cX3_init : ByteArray := prog_5_method_1_code
def yX3_init : MethodName := ⟨RX3, "<init>", "()V"⟩
def RX4 : String := "Nudgelane$Worths"
def TX4 : u_T := fun k => match k with
  | 0 => ("Nudgelane$Worths", "worthNow", "LNudgelane$Row;", true)
  | _ => ("Nudgelane$Worths", "sums", "LNudgelane$Row;", true)
def tyX4 : Nat → FieldType := fun k => match k with
  | 0 => .object "Nudgelane$Row"
  | _ => .object "Nudgelane$Row"
abbrev wsX40 : List Cond := u_ws RX4 TX4 2
theorem nmX4 : ∀ a, a < 2 → ∀ b, b < 2 → a ≠ b → (TX4 a).2.1 ≠ (TX4 b).2.1 := by decide +kernel
theorem tyX4_ok : ∀ k, k < 2 → parseFieldDescriptor (TX4 k).2.2.1 = some (tyX4 k) := by decide +kernel
abbrev cX4_init : ByteArray := prog_6_method_1_code
def yX4_init : MethodName := ⟨RX4, "<init>", "()V"⟩
def RX5 : String := "Nudgelane"
def TX5 : u_T := fun k => match k with
  | 0 => ("Nudgelane", "programs", "LNudgelane$Programs;", true)
  | 1 => ("Nudgelane", "ways", "LNudgelane$Ways;", true)
  | 2 => ("Nudgelane", "attempts", "LNudgelane$Attempts;", true)
  | _ => ("Nudgelane", "worths", "LNudgelane$Worths;", true)
def tyX5 : Nat → FieldType := fun k => match k with
  | 0 => .object "Nudgelane$Programs"
  | 1 => .object "Nudgelane$Ways"
  | 2 => .object "Nudgelane$Attempts"
  | _ => .object "Nudgelane$Worths"
abbrev wsX50 : List Cond := u_ws RX5 TX5 4
theorem nmX5 : ∀ a, a < 4 → ∀ b, b < 4 → a ≠ b → (TX5 a).2.1 ≠ (TX5 b).2.1 := by decide +kernel
theorem tyX5_ok : ∀ k, k < 4 → parseFieldDescriptor (TX5 k).2.2.1 = some (tyX5 k) := by decide +kernel
abbrev cX5_init : ByteArray := prog_1_method_1_code
def yX5_init : MethodName := ⟨RX5, "<init>", "()V"⟩
abbrev cX5_form : ByteArray := prog_1_method_2_code
def yX5_form : MethodName := ⟨RX5, "form", "(I)I"⟩
abbrev cX5_checkedForm : ByteArray := prog_1_method_19_code
def yX5_checkedForm : MethodName := ⟨RX5, "checkedForm", "(I)I"⟩
def RX6 : String := "NudgelaneModel"
def TX6 : u_T := fun k => match k with
  | 0 => ("NudgelaneModel", "forms", "[I", true)
  | 1 => ("NudgelaneModel", "digits", "[I", true)
  | 2 => ("NudgelaneModel", "far", "[I", true)
  | 3 => ("NudgelaneModel", "isMet", "[Z", true)
  | 4 => ("NudgelaneModel", "isRight", "[Z", true)
  | 5 => ("NudgelaneModel", "worths", "[I", true)
  | 6 => ("NudgelaneModel", "sums", "[J", true)
  | 7 => ("NudgelaneModel", "counts", "[I", true)
  | 8 => ("NudgelaneModel", "met", "I", false)
  | 9 => ("NudgelaneModel", "begun", "I", false)
  | 10 => ("NudgelaneModel", "at", "I", false)
  | 11 => ("NudgelaneModel", "passings", "I", false)
  | 12 => ("NudgelaneModel", "froms", "[I", true)
  | 13 => ("NudgelaneModel", "tos", "[I", true)
  | 14 => ("NudgelaneModel", "ended", "I", false)
  | 15 => ("NudgelaneModel", "ends", "[I", true)
  | 16 => ("NudgelaneModel", "wasRight", "[Z", true)
  | _ => ("NudgelaneModel", "thrown", "I", false)
def tyX6 : Nat → FieldType := fun k => match k with
  | 0 => .array .int
  | 1 => .array .int
  | 2 => .array .int
  | 3 => .array .boolean
  | 4 => .array .boolean
  | 5 => .array .int
  | 6 => .array .long
  | 7 => .array .int
  | 8 => .int
  | 9 => .int
  | 10 => .int
  | 11 => .int
  | 12 => .array .int
  | 13 => .array .int
  | 14 => .int
  | 15 => .array .int
  | 16 => .array .boolean
  | _ => .int
abbrev wsX60 : List Cond := u_ws RX6 TX6 18
theorem nmX6 : ∀ a, a < 18 → ∀ b, b < 18 → a ≠ b → (TX6 a).2.1 ≠ (TX6 b).2.1 := by decide +kernel
theorem tyX6_ok : ∀ k, k < 18 → parseFieldDescriptor (TX6 k).2.2.1 = some (tyX6 k) := by decide +kernel
abbrev cX6_init : ByteArray := prog_8_method_1_code
def yX6_init : MethodName := ⟨RX6, "<init>", "()V"⟩
abbrev cX6_fits : ByteArray := prog_8_method_5_code
def yX6_fits : MethodName := ⟨RX6, "fits", "(III)Z"⟩
abbrev cX6_uses : ByteArray := prog_8_method_6_code
def yX6_uses : MethodName := ⟨RX6, "uses", "()Z"⟩
abbrev cX6_formed : ByteArray := prog_8_method_7_code
def yX6_formed : MethodName := ⟨RX6, "formed", "(I)I"⟩
def RL : String := "NudgelaneLaw"
abbrev cL_form : ByteArray := method_3_code
def yL_form : MethodName := ⟨RL, "form", "(LNudgelane;I[J)I"⟩
abbrev cL_law : ByteArray := code
def wsX2_init : List Cond := .code yX2_init cX2_init 2 none :: ([.methodLink RX2 1 objectInit, .instanceMethod objectInit, .code objectInit ⟨#[0xb1]⟩ 1 none, .arrayClass .int, .fieldLink RX2 7 "Nudgelane$Row" "cells" "[I"] ++ wsX20)
def wsX0_init : List Cond := .code yX0_init cX0_init 1 none :: ([.methodLink RX0 3 objectInit, .instanceMethod objectInit, .code objectInit ⟨#[0xb1]⟩ 1 none, .classLink RX0 9 RX2, .instantiable RX2 1, .initialized RX2, .fieldLink RX0 14 "Nudgelane$Attempts" "froms" "LNudgelane$Row;", .fieldLink RX0 20 "Nudgelane$Attempts" "tos" "LNudgelane$Row;", .fieldLink RX0 23 "Nudgelane$Attempts" "leavings" "LNudgelane$Row;", .fieldLink RX0 26 "Nudgelane$Attempts" "rightEnds" "LNudgelane$Row;", .fieldLink RX0 29 "Nudgelane$Attempts" "metMarks" "LNudgelane$Row;", .fieldLink RX0 32 "Nudgelane$Attempts" "metForms" "LNudgelane$Row;", .fieldLink RX0 35 "Nudgelane$Attempts" "here" "I", .methodLink RX0 11 yX2_init, .instanceMethod yX2_init, .code yX2_init cX2_init 2 none, .methodLink RX2 1 objectInit, .arrayClass .int, .fieldLink RX2 7 "Nudgelane$Row" "cells" "[I"] ++ wsX20 ++ wsX00)
def wsX2_get : List Cond := .code yX2_get cX2_get 2 (some .int) :: ([.fieldLink RX2 7 "Nudgelane$Row" "cells" "[I"] ++ wsX20)
def wsX2_set : List Cond := .code yX2_set cX2_set 3 none :: ([.fieldLink RX2 7 "Nudgelane$Row" "cells" "[I"] ++ wsX20)
def wsX2_add : List Cond := .code yX2_add cX2_add 3 none :: ([.methodLink RX2 13 yX2_get, .instanceMethod yX2_get, .selects RX2 yX2_get yX2_get, .initialized RX2, .code yX2_get cX2_get 2 (some .int), .fieldLink RX2 7 "Nudgelane$Row" "cells" "[I", .methodLink RX2 17 yX2_set, .instanceMethod yX2_set, .selects RX2 yX2_set yX2_set, .code yX2_set cX2_set 3 none] ++ wsX20)
def wsX1_unpack : List Cond := .code yX1_unpack cX1_unpack 4 none :: ([.methodLink RX1 24 yX2_set, .instanceMethod yX2_set, .selects RX2 yX2_set yX2_set, .initialized RX2, .code yX2_set cX2_set 3 none, .fieldLink RX2 7 "Nudgelane$Row" "cells" "[I"] ++ wsX20)
def wsX1_isUsable : List Cond := .code yX1_isUsable cX1_isUsable 3 (some .boolean) :: ([])
def wsX1_use : List Cond := .code yX1_use cX1_use 5 none :: ([.methodLink RX1 28 yX2_get, .instanceMethod yX2_get, .selects RX2 yX2_get yX2_get, .initialized RX2, .code yX2_get cX2_get 2 (some .int), .fieldLink RX2 7 "Nudgelane$Row" "cells" "[I", .methodLink RX1 24 yX2_set, .instanceMethod yX2_set, .selects RX2 yX2_set yX2_set, .code yX2_set cX2_set 3 none] ++ wsX20)
def wsX1_rewriteOnce : List Cond := .code yX1_rewriteOnce cX1_rewriteOnce 3 (some .boolean) :: ([.methodLink RX1 28 yX2_get, .instanceMethod yX2_get, .selects RX2 yX2_get yX2_get, .initialized RX2, .code yX2_get cX2_get 2 (some .int), .fieldLink RX2 7 "Nudgelane$Row" "cells" "[I", .methodLink RX1 54 yX1_isUsable, .static yX1_isUsable, .initialized RX1, .code yX1_isUsable cX1_isUsable 3 (some .boolean), .methodLink RX1 58 yX1_use, .static yX1_use, .code yX1_use cX1_use 5 none, .methodLink RX1 24 yX2_set, .instanceMethod yX2_set, .selects RX2 yX2_set yX2_set, .code yX2_set cX2_set 3 none] ++ wsX20)
def wsX1_pack : List Cond := .code yX1_pack cX1_pack 3 (some .int) :: ([.methodLink RX1 28 yX2_get, .instanceMethod yX2_get, .selects RX2 yX2_get yX2_get, .initialized RX2, .code yX2_get cX2_get 2 (some .int), .fieldLink RX2 7 "Nudgelane$Row" "cells" "[I"] ++ wsX20)
def wsX1_reduce_r1 : List Cond := [Cond.methodLink RX1 42 yX1_unpack, Cond.static yX1_unpack, Cond.initialized RX1, Cond.code yX1_unpack cX1_unpack 4 none, Cond.methodLink RX1 24 yX2_set, Cond.instanceMethod yX2_set, Cond.selects RX2 yX2_set yX2_set, Cond.initialized RX2, Cond.code yX2_set cX2_set 3 none, Cond.fieldLink RX2 7 "Nudgelane$Row" "cells" "[I", Cond.methodLink RX1 46 yX1_rewriteOnce, Cond.static yX1_rewriteOnce, Cond.code yX1_rewriteOnce cX1_rewriteOnce 3 (some .boolean), Cond.methodLink RX1 28 yX2_get, Cond.instanceMethod yX2_get, Cond.selects RX2 yX2_get yX2_get, Cond.code yX2_get cX2_get 2 (some .int), Cond.methodLink RX1 54 yX1_isUsable, Cond.static yX1_isUsable, Cond.code yX1_isUsable cX1_isUsable 3 (some .boolean), Cond.methodLink RX1 58 yX1_use, Cond.static yX1_use, Cond.code yX1_use cX1_use 5 none, Cond.methodLink RX1 50 yX1_pack]
def wsX1_reduce_r2 : List Cond := [Cond.static yX1_pack, Cond.code yX1_pack cX1_pack 3 (some .int)]
def wsX1_reduce : List Cond := .code yX1_reduce cX1_reduce 4 (some .int) :: ((wsX1_reduce_r1 ++ wsX1_reduce_r2) ++ wsX20)
def wsX1_init_r1 : List Cond := [Cond.methodLink RX1 3 objectInit, Cond.instanceMethod objectInit, Cond.code objectInit ⟨#[0xb1]⟩ 1 none, Cond.classLink RX1 9 RX2, Cond.instantiable RX2 1, Cond.initialized RX2, Cond.fieldLink RX1 14 "Nudgelane$Programs" "forms" "LNudgelane$Row;", Cond.methodLink RX1 11 yX2_init, Cond.instanceMethod yX2_init, Cond.code yX2_init cX2_init 2 none, Cond.methodLink RX2 1 objectInit, Cond.arrayClass .int, Cond.fieldLink RX2 7 "Nudgelane$Row" "cells" "[I", Cond.methodLink RX1 20 yX1_reduce, Cond.static yX1_reduce, Cond.initialized RX1, Cond.code yX1_reduce cX1_reduce 4 (some .int), Cond.methodLink RX1 42 yX1_unpack, Cond.static yX1_unpack, Cond.code yX1_unpack cX1_unpack 4 none, Cond.methodLink RX1 24 yX2_set, Cond.instanceMethod yX2_set, Cond.selects RX2 yX2_set yX2_set, Cond.code yX2_set cX2_set 3 none]
def wsX1_init_r2 : List Cond := [Cond.methodLink RX1 46 yX1_rewriteOnce, Cond.static yX1_rewriteOnce, Cond.code yX1_rewriteOnce cX1_rewriteOnce 3 (some .boolean), Cond.methodLink RX1 28 yX2_get, Cond.instanceMethod yX2_get, Cond.selects RX2 yX2_get yX2_get, Cond.code yX2_get cX2_get 2 (some .int), Cond.methodLink RX1 54 yX1_isUsable, Cond.static yX1_isUsable, Cond.code yX1_isUsable cX1_isUsable 3 (some .boolean), Cond.methodLink RX1 58 yX1_use, Cond.static yX1_use, Cond.code yX1_use cX1_use 5 none, Cond.methodLink RX1 50 yX1_pack, Cond.static yX1_pack, Cond.code yX1_pack cX1_pack 3 (some .int)]
def wsX1_init : List Cond := .code yX1_init cX1_init 3 none :: ((wsX1_init_r1 ++ wsX1_init_r2) ++ wsX20 ++ wsX10)
def wsX1_weightOf : List Cond := .code yX1_weightOf cX1_weightOf 3 (some .int) :: ([])
def wsX1_without : List Cond := .code yX1_without cX1_without 3 (some .int) :: ([.methodLink RX1 36 yX1_weightOf, .static yX1_weightOf, .initialized RX1, .code yX1_weightOf cX1_weightOf 3 (some .int)])
def wsX3_init : List Cond := .code yX3_init cX3_init 1 none :: ([.methodLink RX3 3 objectInit, .instanceMethod objectInit, .code objectInit ⟨#[0xb1]⟩ 1 none, .classLink RX3 9 RX2, .instantiable RX2 1, .initialized RX2, .fieldLink RX3 14 "Nudgelane$Ways" "known" "LNudgelane$Row;", .fieldLink RX3 20 "Nudgelane$Ways" "queue" "LNudgelane$Row;", .methodLink RX3 11 yX2_init, .instanceMethod yX2_init, .code yX2_init cX2_init 2 none, .methodLink RX2 1 objectInit, .arrayClass .int, .fieldLink RX2 7 "Nudgelane$Row" "cells" "[I"] ++ wsX20 ++ wsX30)
def wsX4_init : List Cond := .code yX4_init cX4_init 1 none :: ([.methodLink RX4 3 objectInit, .instanceMethod objectInit, .code objectInit ⟨#[0xb1]⟩ 1 none, .classLink RX4 9 RX2, .instantiable RX2 1, .initialized RX2, .fieldLink RX4 14 "Nudgelane$Worths" "worthNow" "LNudgelane$Row;", .fieldLink RX4 20 "Nudgelane$Worths" "sums" "LNudgelane$Row;", .methodLink RX4 11 yX2_init, .instanceMethod yX2_init, .code yX2_init cX2_init 2 none, .methodLink RX2 1 objectInit, .arrayClass .int, .fieldLink RX2 7 "Nudgelane$Row" "cells" "[I"] ++ wsX20 ++ wsX40)
def wsX5_init_r1 : List Cond := [Cond.methodLink RX5 1 objectInit, Cond.instanceMethod objectInit, Cond.code objectInit ⟨#[0xb1]⟩ 1 none, Cond.classLink RX5 7 RX1, Cond.instantiable RX1 1, Cond.initialized RX1, Cond.fieldLink RX5 10 "Nudgelane" "programs" "LNudgelane$Programs;", Cond.classLink RX5 16 RX3, Cond.instantiable RX3 2, Cond.initialized RX3, Cond.fieldLink RX5 19 "Nudgelane" "ways" "LNudgelane$Ways;", Cond.classLink RX5 23 RX0, Cond.instantiable RX0 11, Cond.initialized RX0, Cond.fieldLink RX5 26 "Nudgelane" "attempts" "LNudgelane$Attempts;", Cond.classLink RX5 30 RX4, Cond.instantiable RX4 2, Cond.initialized RX4, Cond.fieldLink RX5 33 "Nudgelane" "worths" "LNudgelane$Worths;", Cond.methodLink RX5 9 yX1_init, Cond.instanceMethod yX1_init, Cond.code yX1_init cX1_init 3 none, Cond.methodLink RX1 3 objectInit, Cond.classLink RX1 9 RX2]
def wsX5_init_r2 : List Cond := [Cond.instantiable RX2 1, Cond.initialized RX2, Cond.fieldLink RX1 14 "Nudgelane$Programs" "forms" "LNudgelane$Row;", Cond.methodLink RX1 11 yX2_init, Cond.instanceMethod yX2_init, Cond.code yX2_init cX2_init 2 none, Cond.methodLink RX2 1 objectInit, Cond.arrayClass .int, Cond.fieldLink RX2 7 "Nudgelane$Row" "cells" "[I", Cond.methodLink RX1 20 yX1_reduce, Cond.static yX1_reduce, Cond.code yX1_reduce cX1_reduce 4 (some .int), Cond.methodLink RX1 42 yX1_unpack, Cond.static yX1_unpack, Cond.code yX1_unpack cX1_unpack 4 none, Cond.methodLink RX1 24 yX2_set, Cond.instanceMethod yX2_set, Cond.selects RX2 yX2_set yX2_set, Cond.code yX2_set cX2_set 3 none, Cond.methodLink RX1 46 yX1_rewriteOnce, Cond.static yX1_rewriteOnce, Cond.code yX1_rewriteOnce cX1_rewriteOnce 3 (some .boolean), Cond.methodLink RX1 28 yX2_get, Cond.instanceMethod yX2_get]
def wsX5_init_r3 : List Cond := [Cond.selects RX2 yX2_get yX2_get, Cond.code yX2_get cX2_get 2 (some .int), Cond.methodLink RX1 54 yX1_isUsable, Cond.static yX1_isUsable, Cond.code yX1_isUsable cX1_isUsable 3 (some .boolean), Cond.methodLink RX1 58 yX1_use, Cond.static yX1_use, Cond.code yX1_use cX1_use 5 none, Cond.methodLink RX1 50 yX1_pack, Cond.static yX1_pack, Cond.code yX1_pack cX1_pack 3 (some .int), Cond.methodLink RX5 18 yX3_init, Cond.instanceMethod yX3_init, Cond.code yX3_init cX3_init 1 none, Cond.methodLink RX3 3 objectInit, Cond.classLink RX3 9 RX2, Cond.fieldLink RX3 14 "Nudgelane$Ways" "known" "LNudgelane$Row;", Cond.fieldLink RX3 20 "Nudgelane$Ways" "queue" "LNudgelane$Row;", Cond.methodLink RX3 11 yX2_init, Cond.methodLink RX5 25 yX0_init, Cond.instanceMethod yX0_init, Cond.code yX0_init cX0_init 1 none, Cond.methodLink RX0 3 objectInit, Cond.classLink RX0 9 RX2]
def wsX5_init_r4 : List Cond := [Cond.fieldLink RX0 14 "Nudgelane$Attempts" "froms" "LNudgelane$Row;", Cond.fieldLink RX0 20 "Nudgelane$Attempts" "tos" "LNudgelane$Row;", Cond.fieldLink RX0 23 "Nudgelane$Attempts" "leavings" "LNudgelane$Row;", Cond.fieldLink RX0 26 "Nudgelane$Attempts" "rightEnds" "LNudgelane$Row;", Cond.fieldLink RX0 29 "Nudgelane$Attempts" "metMarks" "LNudgelane$Row;", Cond.fieldLink RX0 32 "Nudgelane$Attempts" "metForms" "LNudgelane$Row;", Cond.fieldLink RX0 35 "Nudgelane$Attempts" "here" "I", Cond.methodLink RX0 11 yX2_init, Cond.methodLink RX5 32 yX4_init, Cond.instanceMethod yX4_init, Cond.code yX4_init cX4_init 1 none, Cond.methodLink RX4 3 objectInit, Cond.classLink RX4 9 RX2, Cond.fieldLink RX4 14 "Nudgelane$Worths" "worthNow" "LNudgelane$Row;", Cond.fieldLink RX4 20 "Nudgelane$Worths" "sums" "LNudgelane$Row;", Cond.methodLink RX4 11 yX2_init]
def wsX5_init : List Cond := .code yX5_init cX5_init 1 none :: ((wsX5_init_r1 ++ (wsX5_init_r2 ++ (wsX5_init_r3 ++ wsX5_init_r4))) ++ wsX10 ++ wsX50 ++ wsX30 ++ wsX00 ++ wsX40 ++ wsX20)
def wsX6_fits : List Cond := .code yX6_fits cX6_fits 3 (some .boolean) :: ([])
def wsX6_uses : List Cond := .code yX6_uses cX6_uses 6 (some .boolean) :: ([.fieldLink RX6 13 "NudgelaneModel" "digits" "[I", .methodLink RX6 59 yX6_fits, .static yX6_fits, .initialized RX6, .code yX6_fits cX6_fits 3 (some .boolean)] ++ wsX60)
def wsX6_formed : List Cond := .code yX6_formed cX6_formed 4 (some .int) :: ([.fieldLink RX6 13 "NudgelaneModel" "digits" "[I", .methodLink RX6 63 yX6_uses, .instanceMethod yX6_uses, .selects RX6 yX6_uses yX6_uses, .initialized RX6, .code yX6_uses cX6_uses 6 (some .boolean), .methodLink RX6 59 yX6_fits, .static yX6_fits, .code yX6_fits cX6_fits 3 (some .boolean)] ++ wsX60)
def wsX6_init_r1 : List Cond := [Cond.methodLink RX6 1 objectInit, Cond.instanceMethod objectInit, Cond.code objectInit ⟨#[0xb1]⟩ 1 none, Cond.arrayClass .int, Cond.fieldLink RX6 7 "NudgelaneModel" "forms" "[I", Cond.fieldLink RX6 13 "NudgelaneModel" "digits" "[I", Cond.fieldLink RX6 16 "NudgelaneModel" "far" "[I", Cond.arrayClass .boolean, Cond.fieldLink RX6 19 "NudgelaneModel" "isMet" "[Z", Cond.fieldLink RX6 23 "NudgelaneModel" "isRight" "[Z", Cond.fieldLink RX6 26 "NudgelaneModel" "worths" "[I", Cond.arrayClass .long, Cond.fieldLink RX6 29 "NudgelaneModel" "sums" "[J", Cond.fieldLink RX6 33 "NudgelaneModel" "counts" "[I", Cond.fieldLink RX6 36 "NudgelaneModel" "at" "I", Cond.fieldLink RX6 40 "NudgelaneModel" "froms" "[I", Cond.fieldLink RX6 43 "NudgelaneModel" "tos" "[I", Cond.fieldLink RX6 46 "NudgelaneModel" "ends" "[I", Cond.fieldLink RX6 49 "NudgelaneModel" "wasRight" "[Z", Cond.methodLink RX6 52 yX6_formed, Cond.instanceMethod yX6_formed, Cond.selects RX6 yX6_formed yX6_formed, Cond.initialized RX6, Cond.code yX6_formed cX6_formed 4 (some .int)]
def wsX6_init_r2 : List Cond := [Cond.methodLink RX6 63 yX6_uses, Cond.instanceMethod yX6_uses, Cond.selects RX6 yX6_uses yX6_uses, Cond.code yX6_uses cX6_uses 6 (some .boolean), Cond.methodLink RX6 59 yX6_fits, Cond.static yX6_fits, Cond.code yX6_fits cX6_fits 3 (some .boolean)]
def wsX6_init : List Cond := .code yX6_init cX6_init 2 none :: ((wsX6_init_r1 ++ wsX6_init_r2) ++ wsX60)
abbrev vwCl : List vw_C := [(RX0, TX0, 11), (RX1, TX1, 1), (RX2, TX2, 1), (RX3, TX3, 2), (RX4, TX4, 2), (RX5, TX5, 4), (RX6, TX6, 18)]
end
section
theorem dX2_init_0 : decode cX2_init 0 = .ok (.aload_n 0, 1) := by decide +kernel
theorem dX2_init_1 : decode cX2_init 1 = .ok (.invokespecial 1, 3) := by decide +kernel
theorem dX2_init_4 : decode cX2_init 4 = .ok (.aload_n 0, 1) := by decide +kernel
theorem dX2_init_5 : decode cX2_init 5 = .ok (.iload_n 1, 1) := by decide +kernel
theorem dX2_init_6 : decode cX2_init 6 = .ok (.ifCond .le 7, 3) := by decide +kernel
theorem dX2_init_9 : decode cX2_init 9 = .ok (.iload_n 1, 1) := by decide +kernel
theorem dX2_init_10 : decode cX2_init 10 = .ok (.goto 4, 3) := by decide +kernel
theorem dX2_init_14 : decode cX2_init 14 = .ok (.newarray .int, 2) := by decide +kernel
theorem dX2_init_16 : decode cX2_init 16 = .ok (.putfield 7, 3) := by decide +kernel
theorem dX2_init_19 : decode cX2_init 19 = .ok (.return_, 1) := by decide +kernel
theorem dX2_get_0 : decode cX2_get 0 = .ok (.iload_n 1, 1) := by decide +kernel
theorem dX2_get_1 : decode cX2_get 1 = .ok (.ifCond .lt 21, 3) := by decide +kernel
theorem dX2_get_4 : decode cX2_get 4 = .ok (.iload_n 1, 1) := by decide +kernel
theorem dX2_get_5 : decode cX2_get 5 = .ok (.aload_n 0, 1) := by decide +kernel
theorem dX2_get_6 : decode cX2_get 6 = .ok (.getfield 7, 3) := by decide +kernel
theorem dX2_get_9 : decode cX2_get 9 = .ok (.arraylength, 1) := by decide +kernel
theorem dX2_get_10 : decode cX2_get 10 = .ok (.if_icmp .ge 12, 3) := by decide +kernel
theorem dX2_get_13 : decode cX2_get 13 = .ok (.aload_n 0, 1) := by decide +kernel
theorem dX2_get_14 : decode cX2_get 14 = .ok (.getfield 7, 3) := by decide +kernel
theorem dX2_get_17 : decode cX2_get 17 = .ok (.iload_n 1, 1) := by decide +kernel
theorem dX2_get_18 : decode cX2_get 18 = .ok (.iaload, 1) := by decide +kernel
theorem dX2_get_19 : decode cX2_get 19 = .ok (.goto 4, 3) := by decide +kernel
theorem dX2_get_23 : decode cX2_get 23 = .ok (.ireturn, 1) := by decide +kernel
theorem dX2_set_0 : decode cX2_set 0 = .ok (.iload_n 1, 1) := by decide +kernel
theorem dX2_set_1 : decode cX2_set 1 = .ok (.ifCond .lt 19, 3) := by decide +kernel
theorem dX2_set_4 : decode cX2_set 4 = .ok (.iload_n 1, 1) := by decide +kernel
theorem dX2_set_5 : decode cX2_set 5 = .ok (.aload_n 0, 1) := by decide +kernel
theorem dX2_set_6 : decode cX2_set 6 = .ok (.getfield 7, 3) := by decide +kernel
theorem dX2_set_9 : decode cX2_set 9 = .ok (.arraylength, 1) := by decide +kernel
theorem dX2_set_10 : decode cX2_set 10 = .ok (.if_icmp .ge 10, 3) := by decide +kernel
theorem dX2_set_13 : decode cX2_set 13 = .ok (.aload_n 0, 1) := by decide +kernel
theorem dX2_set_14 : decode cX2_set 14 = .ok (.getfield 7, 3) := by decide +kernel
theorem dX2_set_17 : decode cX2_set 17 = .ok (.iload_n 1, 1) := by decide +kernel
theorem dX2_set_18 : decode cX2_set 18 = .ok (.iload_n 2, 1) := by decide +kernel
theorem dX2_set_19 : decode cX2_set 19 = .ok (.iastore, 1) := by decide +kernel
theorem dX2_set_20 : decode cX2_set 20 = .ok (.return_, 1) := by decide +kernel
set_option maxRecDepth 20000 in
theorem ggX2_add_X2_get : GoodIn wsX2_add wsX2_get := goodIn_r _ [5, 6, 11] (by decide +kernel) (by decide +kernel)
set_option maxRecDepth 20000 in
theorem gX2_add_X2_get : GoodIn wsX2_add (wsV RX2 13 RX2 yX2_get wsX2_get) := goodIn_app (goodIn_of _ (by decide +kernel)) ggX2_add_X2_get
set_option maxRecDepth 20000 in
theorem ggX2_add_X2_set : GoodIn wsX2_add wsX2_set := goodIn_r _ [10, 6, 11] (by decide +kernel) (by decide +kernel)
set_option maxRecDepth 20000 in
theorem gX2_add_X2_set : GoodIn wsX2_add (wsV RX2 17 RX2 yX2_set wsX2_set) := goodIn_app (goodIn_of _ (by decide +kernel)) ggX2_add_X2_set
theorem dX2_add_0 : decode cX2_add 0 = .ok (.aload_n 0, 1) := by decide +kernel
theorem dX2_add_1 : decode cX2_add 1 = .ok (.iload_n 1, 1) := by decide +kernel
theorem dX2_add_2 : decode cX2_add 2 = .ok (.aload_n 0, 1) := by decide +kernel
theorem dX2_add_3 : decode cX2_add 3 = .ok (.iload_n 1, 1) := by decide +kernel
theorem dX2_add_4 : decode cX2_add 4 = .ok (.invokevirtual 13, 3) := by decide +kernel
theorem dX2_add_7 : decode cX2_add 7 = .ok (.iload_n 2, 1) := by decide +kernel
theorem dX2_add_8 : decode cX2_add 8 = .ok (.iadd, 1) := by decide +kernel
theorem dX2_add_9 : decode cX2_add 9 = .ok (.invokevirtual 17, 3) := by decide +kernel
theorem dX2_add_12 : decode cX2_add 12 = .ok (.return_, 1) := by decide +kernel
end
section
set_option maxRecDepth 20000 in
theorem ggX1_init_X2_init : GoodIn wsX1_init wsX2_init := goodIn_r _ [10, 11, 2, 3, 12, 13, 41] (by decide +kernel) (by decide +kernel)
set_option maxRecDepth 20000 in
theorem gX1_init_X2_init : GoodIn wsX1_init (wsX2_init) := ggX1_init_X2_init
set_option maxRecDepth 20000 in
theorem ggX1_init_X1_reduce : GoodIn wsX1_init wsX1_reduce := goodIn_r _ [17, 18, 19, 16, 20, 21, 22, 23, 6, 24, 13, 25, 26, 27, 28, 29, 30, 31, 32, 33, 34, 35, 36, 37, 38, 39, 40, 41] (by decide +kernel) (by decide +kernel)
set_option maxRecDepth 20000 in
theorem gX1_init_X1_reduce : GoodIn wsX1_init (va_wsS RX1 20 yX1_reduce wsX1_reduce) := goodIn_app (goodIn_of _ (by decide +kernel)) ggX1_init_X1_reduce
set_option maxRecDepth 20000 in
theorem ggX1_init_X2_set : GoodIn wsX1_init wsX2_set := goodIn_r _ [24, 13, 41] (by decide +kernel) (by decide +kernel)
set_option maxRecDepth 20000 in
theorem gX1_init_X2_set : GoodIn wsX1_init (wsV RX1 24 RX2 yX2_set wsX2_set) := goodIn_app (goodIn_of _ (by decide +kernel)) ggX1_init_X2_set
theorem dX1_init_0 : decode cX1_init 0 = .ok (.aload_n 0, 1) := by decide +kernel
theorem dX1_init_1 : decode cX1_init 1 = .ok (.invokespecial 3, 3) := by decide +kernel
theorem dX1_init_4 : decode cX1_init 4 = .ok (.aload_n 0, 1) := by decide +kernel
theorem dX1_init_5 : decode cX1_init 5 = .ok (.new 9, 3) := by decide +kernel
theorem dX1_init_8 : decode cX1_init 8 = .ok (.dup, 1) := by decide +kernel
theorem dX1_init_9 : decode cX1_init 9 = .ok (.sipush 1296, 3) := by decide +kernel
theorem dX1_init_12 : decode cX1_init 12 = .ok (.invokespecial 11, 3) := by decide +kernel
theorem dX1_init_15 : decode cX1_init 15 = .ok (.putfield 14, 3) := by decide +kernel
theorem dX1_init_18 : decode cX1_init 18 = .ok (.new 9, 3) := by decide +kernel
theorem dX1_init_21 : decode cX1_init 21 = .ok (.dup, 1) := by decide +kernel
theorem dX1_init_22 : decode cX1_init 22 = .ok (.iconst 4, 1) := by decide +kernel
theorem dX1_init_23 : decode cX1_init 23 = .ok (.invokespecial 11, 3) := by decide +kernel
theorem dX1_init_26 : decode cX1_init 26 = .ok (.astore_n 1, 1) := by decide +kernel
theorem dX1_init_27 : decode cX1_init 27 = .ok (.iconst 0, 1) := by decide +kernel
theorem dX1_init_28 : decode cX1_init 28 = .ok (.istore_n 2, 1) := by decide +kernel
theorem dX1_init_29 : decode cX1_init 29 = .ok (.iload_n 2, 1) := by decide +kernel
theorem dX1_init_30 : decode cX1_init 30 = .ok (.sipush 1296, 3) := by decide +kernel
theorem dX1_init_33 : decode cX1_init 33 = .ok (.if_icmp .ge 22, 3) := by decide +kernel
theorem dX1_init_36 : decode cX1_init 36 = .ok (.aload_n 0, 1) := by decide +kernel
theorem dX1_init_37 : decode cX1_init 37 = .ok (.getfield 14, 3) := by decide +kernel
theorem dX1_init_40 : decode cX1_init 40 = .ok (.iload_n 2, 1) := by decide +kernel
theorem dX1_init_41 : decode cX1_init 41 = .ok (.iload_n 2, 1) := by decide +kernel
theorem dX1_init_42 : decode cX1_init 42 = .ok (.aload_n 1, 1) := by decide +kernel
theorem dX1_init_43 : decode cX1_init 43 = .ok (.invokestatic 20, 3) := by decide +kernel
theorem dX1_init_46 : decode cX1_init 46 = .ok (.invokevirtual 24, 3) := by decide +kernel
theorem dX1_init_49 : decode cX1_init 49 = .ok (.iinc 2 1, 3) := by decide +kernel
theorem dX1_init_52 : decode cX1_init 52 = .ok (.goto (-23), 3) := by decide +kernel
theorem dX1_init_55 : decode cX1_init 55 = .ok (.return_, 1) := by decide +kernel
theorem dX1_weightOf_0 : decode cX1_weightOf 0 = .ok (.iconst 1, 1) := by decide +kernel
theorem dX1_weightOf_1 : decode cX1_weightOf 1 = .ok (.istore_n 1, 1) := by decide +kernel
theorem dX1_weightOf_2 : decode cX1_weightOf 2 = .ok (.iload_n 0, 1) := by decide +kernel
theorem dX1_weightOf_3 : decode cX1_weightOf 3 = .ok (.iconst 1, 1) := by decide +kernel
theorem dX1_weightOf_4 : decode cX1_weightOf 4 = .ok (.iadd, 1) := by decide +kernel
theorem dX1_weightOf_5 : decode cX1_weightOf 5 = .ok (.istore_n 2, 1) := by decide +kernel
theorem dX1_weightOf_6 : decode cX1_weightOf 6 = .ok (.iload_n 2, 1) := by decide +kernel
theorem dX1_weightOf_7 : decode cX1_weightOf 7 = .ok (.iconst 4, 1) := by decide +kernel
theorem dX1_weightOf_8 : decode cX1_weightOf 8 = .ok (.if_icmp .ge 14, 3) := by decide +kernel
theorem dX1_weightOf_11 : decode cX1_weightOf 11 = .ok (.iload_n 1, 1) := by decide +kernel
theorem dX1_weightOf_12 : decode cX1_weightOf 12 = .ok (.bipush 6, 2) := by decide +kernel
theorem dX1_weightOf_14 : decode cX1_weightOf 14 = .ok (.imul, 1) := by decide +kernel
theorem dX1_weightOf_15 : decode cX1_weightOf 15 = .ok (.istore_n 1, 1) := by decide +kernel
theorem dX1_weightOf_16 : decode cX1_weightOf 16 = .ok (.iinc 2 1, 3) := by decide +kernel
theorem dX1_weightOf_19 : decode cX1_weightOf 19 = .ok (.goto (-13), 3) := by decide +kernel
theorem dX1_weightOf_22 : decode cX1_weightOf 22 = .ok (.iload_n 1, 1) := by decide +kernel
theorem dX1_weightOf_23 : decode cX1_weightOf 23 = .ok (.ireturn, 1) := by decide +kernel
set_option maxRecDepth 20000 in
theorem ggX1_without_X1_weightOf : GoodIn wsX1_without wsX1_weightOf := goodIn_r _ [4] (by decide +kernel) (by decide +kernel)
set_option maxRecDepth 20000 in
theorem gX1_without_X1_weightOf : GoodIn wsX1_without (va_wsS RX1 36 yX1_weightOf wsX1_weightOf) := goodIn_app (goodIn_of _ (by decide +kernel)) ggX1_without_X1_weightOf
theorem dX1_without_0 : decode cX1_without 0 = .ok (.iload_n 1, 1) := by decide +kernel
theorem dX1_without_1 : decode cX1_without 1 = .ok (.invokestatic 36, 3) := by decide +kernel
theorem dX1_without_4 : decode cX1_without 4 = .ok (.istore_n 2, 1) := by decide +kernel
theorem dX1_without_5 : decode cX1_without 5 = .ok (.iload_n 2, 1) := by decide +kernel
theorem dX1_without_6 : decode cX1_without 6 = .ok (.ifCond .le 16, 3) := by decide +kernel
theorem dX1_without_9 : decode cX1_without 9 = .ok (.iload_n 0, 1) := by decide +kernel
theorem dX1_without_10 : decode cX1_without 10 = .ok (.iload_n 0, 1) := by decide +kernel
theorem dX1_without_11 : decode cX1_without 11 = .ok (.iload_n 2, 1) := by decide +kernel
theorem dX1_without_12 : decode cX1_without 12 = .ok (.idiv, 1) := by decide +kernel
theorem dX1_without_13 : decode cX1_without 13 = .ok (.bipush 6, 2) := by decide +kernel
theorem dX1_without_15 : decode cX1_without 15 = .ok (.irem, 1) := by decide +kernel
theorem dX1_without_16 : decode cX1_without 16 = .ok (.iload_n 2, 1) := by decide +kernel
theorem dX1_without_17 : decode cX1_without 17 = .ok (.imul, 1) := by decide +kernel
theorem dX1_without_18 : decode cX1_without 18 = .ok (.isub, 1) := by decide +kernel
theorem dX1_without_19 : decode cX1_without 19 = .ok (.goto 4, 3) := by decide +kernel
theorem dX1_without_23 : decode cX1_without 23 = .ok (.ireturn, 1) := by decide +kernel
set_option maxRecDepth 20000 in
theorem ggX1_reduce_X1_unpack : GoodIn wsX1_reduce wsX1_unpack := goodIn_r _ [4, 5, 6, 7, 8, 9, 10, 27] (by decide +kernel) (by decide +kernel)
set_option maxRecDepth 20000 in
theorem gX1_reduce_X1_unpack : GoodIn wsX1_reduce (va_wsS RX1 42 yX1_unpack wsX1_unpack) := goodIn_app (goodIn_of _ (by decide +kernel)) ggX1_reduce_X1_unpack
set_option maxRecDepth 20000 in
theorem ggX1_reduce_X1_rewriteOnce : GoodIn wsX1_reduce wsX1_rewriteOnce := goodIn_r _ [13, 14, 15, 16, 8, 17, 10, 18, 19, 3, 20, 21, 22, 23, 5, 6, 7, 9, 27] (by decide +kernel) (by decide +kernel)
set_option maxRecDepth 20000 in
theorem gX1_reduce_X1_rewriteOnce : GoodIn wsX1_reduce (va_wsS RX1 46 yX1_rewriteOnce wsX1_rewriteOnce) := goodIn_app (goodIn_of _ (by decide +kernel)) ggX1_reduce_X1_rewriteOnce
set_option maxRecDepth 20000 in
theorem ggX1_reduce_X1_pack : GoodIn wsX1_reduce wsX1_pack := goodIn_r _ [26, 14, 15, 16, 8, 17, 10, 27] (by decide +kernel) (by decide +kernel)
set_option maxRecDepth 20000 in
theorem gX1_reduce_X1_pack : GoodIn wsX1_reduce (va_wsS RX1 50 yX1_pack wsX1_pack) := goodIn_app (goodIn_of _ (by decide +kernel)) ggX1_reduce_X1_pack
theorem dX1_reduce_0 : decode cX1_reduce 0 = .ok (.iload_n 0, 1) := by decide +kernel
theorem dX1_reduce_1 : decode cX1_reduce 1 = .ok (.aload_n 1, 1) := by decide +kernel
theorem dX1_reduce_2 : decode cX1_reduce 2 = .ok (.invokestatic 42, 3) := by decide +kernel
theorem dX1_reduce_5 : decode cX1_reduce 5 = .ok (.iconst 1, 1) := by decide +kernel
theorem dX1_reduce_6 : decode cX1_reduce 6 = .ok (.istore_n 2, 1) := by decide +kernel
theorem dX1_reduce_7 : decode cX1_reduce 7 = .ok (.iconst 0, 1) := by decide +kernel
theorem dX1_reduce_8 : decode cX1_reduce 8 = .ok (.istore_n 3, 1) := by decide +kernel
theorem dX1_reduce_9 : decode cX1_reduce 9 = .ok (.iload_n 2, 1) := by decide +kernel
theorem dX1_reduce_10 : decode cX1_reduce 10 = .ok (.ifCond .eq 21, 3) := by decide +kernel
theorem dX1_reduce_13 : decode cX1_reduce 13 = .ok (.iload_n 3, 1) := by decide +kernel
theorem dX1_reduce_14 : decode cX1_reduce 14 = .ok (.sipush 1000, 3) := by decide +kernel
theorem dX1_reduce_17 : decode cX1_reduce 17 = .ok (.if_icmp .ge 14, 3) := by decide +kernel
theorem dX1_reduce_20 : decode cX1_reduce 20 = .ok (.aload_n 1, 1) := by decide +kernel
theorem dX1_reduce_21 : decode cX1_reduce 21 = .ok (.invokestatic 46, 3) := by decide +kernel
theorem dX1_reduce_24 : decode cX1_reduce 24 = .ok (.istore_n 2, 1) := by decide +kernel
theorem dX1_reduce_25 : decode cX1_reduce 25 = .ok (.iinc 3 1, 3) := by decide +kernel
theorem dX1_reduce_28 : decode cX1_reduce 28 = .ok (.goto (-19), 3) := by decide +kernel
theorem dX1_reduce_31 : decode cX1_reduce 31 = .ok (.aload_n 1, 1) := by decide +kernel
theorem dX1_reduce_32 : decode cX1_reduce 32 = .ok (.invokestatic 50, 3) := by decide +kernel
theorem dX1_reduce_35 : decode cX1_reduce 35 = .ok (.ireturn, 1) := by decide +kernel
set_option maxRecDepth 20000 in
theorem ggX1_unpack_X2_set : GoodIn wsX1_unpack wsX2_set := goodIn_r _ [5, 6, 7] (by decide +kernel) (by decide +kernel)
set_option maxRecDepth 20000 in
theorem gX1_unpack_X2_set : GoodIn wsX1_unpack (wsV RX1 24 RX2 yX2_set wsX2_set) := goodIn_app (goodIn_of _ (by decide +kernel)) ggX1_unpack_X2_set
theorem dX1_unpack_0 : decode cX1_unpack 0 = .ok (.iload_n 0, 1) := by decide +kernel
theorem dX1_unpack_1 : decode cX1_unpack 1 = .ok (.istore_n 2, 1) := by decide +kernel
theorem dX1_unpack_2 : decode cX1_unpack 2 = .ok (.iconst 3, 1) := by decide +kernel
theorem dX1_unpack_3 : decode cX1_unpack 3 = .ok (.istore_n 3, 1) := by decide +kernel
theorem dX1_unpack_4 : decode cX1_unpack 4 = .ok (.iload_n 3, 1) := by decide +kernel
theorem dX1_unpack_5 : decode cX1_unpack 5 = .ok (.ifCond .lt 23, 3) := by decide +kernel
theorem dX1_unpack_8 : decode cX1_unpack 8 = .ok (.aload_n 1, 1) := by decide +kernel
theorem dX1_unpack_9 : decode cX1_unpack 9 = .ok (.iload_n 3, 1) := by decide +kernel
theorem dX1_unpack_10 : decode cX1_unpack 10 = .ok (.iload_n 2, 1) := by decide +kernel
theorem dX1_unpack_11 : decode cX1_unpack 11 = .ok (.bipush 6, 2) := by decide +kernel
theorem dX1_unpack_13 : decode cX1_unpack 13 = .ok (.irem, 1) := by decide +kernel
theorem dX1_unpack_14 : decode cX1_unpack 14 = .ok (.invokevirtual 24, 3) := by decide +kernel
theorem dX1_unpack_17 : decode cX1_unpack 17 = .ok (.iload_n 2, 1) := by decide +kernel
theorem dX1_unpack_18 : decode cX1_unpack 18 = .ok (.bipush 6, 2) := by decide +kernel
theorem dX1_unpack_20 : decode cX1_unpack 20 = .ok (.idiv, 1) := by decide +kernel
theorem dX1_unpack_21 : decode cX1_unpack 21 = .ok (.istore_n 2, 1) := by decide +kernel
theorem dX1_unpack_22 : decode cX1_unpack 22 = .ok (.iinc 3 (-1), 3) := by decide +kernel
theorem dX1_unpack_25 : decode cX1_unpack 25 = .ok (.goto (-21), 3) := by decide +kernel
theorem dX1_unpack_28 : decode cX1_unpack 28 = .ok (.return_, 1) := by decide +kernel
set_option maxRecDepth 20000 in
theorem ggX1_pack_X2_get : GoodIn wsX1_pack wsX2_get := goodIn_r _ [5, 6, 7] (by decide +kernel) (by decide +kernel)
set_option maxRecDepth 20000 in
theorem gX1_pack_X2_get : GoodIn wsX1_pack (wsV RX1 28 RX2 yX2_get wsX2_get) := goodIn_app (goodIn_of _ (by decide +kernel)) ggX1_pack_X2_get
theorem dX1_pack_0 : decode cX1_pack 0 = .ok (.iconst 0, 1) := by decide +kernel
theorem dX1_pack_1 : decode cX1_pack 1 = .ok (.istore_n 1, 1) := by decide +kernel
theorem dX1_pack_2 : decode cX1_pack 2 = .ok (.iconst 0, 1) := by decide +kernel
theorem dX1_pack_3 : decode cX1_pack 3 = .ok (.istore_n 2, 1) := by decide +kernel
theorem dX1_pack_4 : decode cX1_pack 4 = .ok (.iload_n 2, 1) := by decide +kernel
theorem dX1_pack_5 : decode cX1_pack 5 = .ok (.iconst 4, 1) := by decide +kernel
theorem dX1_pack_6 : decode cX1_pack 6 = .ok (.if_icmp .ge 20, 3) := by decide +kernel
theorem dX1_pack_9 : decode cX1_pack 9 = .ok (.iload_n 1, 1) := by decide +kernel
theorem dX1_pack_10 : decode cX1_pack 10 = .ok (.bipush 6, 2) := by decide +kernel
theorem dX1_pack_12 : decode cX1_pack 12 = .ok (.imul, 1) := by decide +kernel
theorem dX1_pack_13 : decode cX1_pack 13 = .ok (.aload_n 0, 1) := by decide +kernel
theorem dX1_pack_14 : decode cX1_pack 14 = .ok (.iload_n 2, 1) := by decide +kernel
theorem dX1_pack_15 : decode cX1_pack 15 = .ok (.invokevirtual 28, 3) := by decide +kernel
theorem dX1_pack_18 : decode cX1_pack 18 = .ok (.iadd, 1) := by decide +kernel
theorem dX1_pack_19 : decode cX1_pack 19 = .ok (.istore_n 1, 1) := by decide +kernel
theorem dX1_pack_20 : decode cX1_pack 20 = .ok (.iinc 2 1, 3) := by decide +kernel
theorem dX1_pack_23 : decode cX1_pack 23 = .ok (.goto (-19), 3) := by decide +kernel
theorem dX1_pack_26 : decode cX1_pack 26 = .ok (.iload_n 1, 1) := by decide +kernel
theorem dX1_pack_27 : decode cX1_pack 27 = .ok (.ireturn, 1) := by decide +kernel
set_option maxRecDepth 20000 in
theorem ggX1_rewriteOnce_X2_get : GoodIn wsX1_rewriteOnce wsX2_get := goodIn_r _ [5, 6, 18] (by decide +kernel) (by decide +kernel)
set_option maxRecDepth 20000 in
theorem gX1_rewriteOnce_X2_get : GoodIn wsX1_rewriteOnce (wsV RX1 28 RX2 yX2_get wsX2_get) := goodIn_app (goodIn_of _ (by decide +kernel)) ggX1_rewriteOnce_X2_get
set_option maxRecDepth 20000 in
theorem ggX1_rewriteOnce_X1_isUsable : GoodIn wsX1_rewriteOnce wsX1_isUsable := goodIn_r _ [10] (by decide +kernel) (by decide +kernel)
set_option maxRecDepth 20000 in
theorem gX1_rewriteOnce_X1_isUsable : GoodIn wsX1_rewriteOnce (va_wsS RX1 54 yX1_isUsable wsX1_isUsable) := goodIn_app (goodIn_of _ (by decide +kernel)) ggX1_rewriteOnce_X1_isUsable
set_option maxRecDepth 20000 in
theorem ggX1_rewriteOnce_X1_use : GoodIn wsX1_rewriteOnce wsX1_use := goodIn_r _ [13, 1, 2, 3, 4, 5, 6, 14, 15, 16, 17, 18] (by decide +kernel) (by decide +kernel)
set_option maxRecDepth 20000 in
theorem gX1_rewriteOnce_X1_use : GoodIn wsX1_rewriteOnce (va_wsS RX1 58 yX1_use wsX1_use) := goodIn_app (goodIn_of _ (by decide +kernel)) ggX1_rewriteOnce_X1_use
theorem dX1_rewriteOnce_0 : decode cX1_rewriteOnce 0 = .ok (.iconst 1, 1) := by decide +kernel
theorem dX1_rewriteOnce_1 : decode cX1_rewriteOnce 1 = .ok (.istore_n 1, 1) := by decide +kernel
theorem dX1_rewriteOnce_2 : decode cX1_rewriteOnce 2 = .ok (.iload_n 1, 1) := by decide +kernel
theorem dX1_rewriteOnce_3 : decode cX1_rewriteOnce 3 = .ok (.iconst 4, 1) := by decide +kernel
theorem dX1_rewriteOnce_4 : decode cX1_rewriteOnce 4 = .ok (.if_icmp .gt 51, 3) := by decide +kernel
theorem dX1_rewriteOnce_7 : decode cX1_rewriteOnce 7 = .ok (.iconst 0, 1) := by decide +kernel
theorem dX1_rewriteOnce_8 : decode cX1_rewriteOnce 8 = .ok (.istore_n 2, 1) := by decide +kernel
theorem dX1_rewriteOnce_9 : decode cX1_rewriteOnce 9 = .ok (.iload_n 2, 1) := by decide +kernel
theorem dX1_rewriteOnce_10 : decode cX1_rewriteOnce 10 = .ok (.iconst 1, 1) := by decide +kernel
theorem dX1_rewriteOnce_11 : decode cX1_rewriteOnce 11 = .ok (.iadd, 1) := by decide +kernel
theorem dX1_rewriteOnce_12 : decode cX1_rewriteOnce 12 = .ok (.iconst 4, 1) := by decide +kernel
theorem dX1_rewriteOnce_13 : decode cX1_rewriteOnce 13 = .ok (.if_icmp .ge 36, 3) := by decide +kernel
theorem dX1_rewriteOnce_16 : decode cX1_rewriteOnce 16 = .ok (.iload_n 1, 1) := by decide +kernel
theorem dX1_rewriteOnce_17 : decode cX1_rewriteOnce 17 = .ok (.aload_n 0, 1) := by decide +kernel
theorem dX1_rewriteOnce_18 : decode cX1_rewriteOnce 18 = .ok (.iload_n 2, 1) := by decide +kernel
theorem dX1_rewriteOnce_19 : decode cX1_rewriteOnce 19 = .ok (.invokevirtual 28, 3) := by decide +kernel
theorem dX1_rewriteOnce_22 : decode cX1_rewriteOnce 22 = .ok (.aload_n 0, 1) := by decide +kernel
theorem dX1_rewriteOnce_23 : decode cX1_rewriteOnce 23 = .ok (.iload_n 2, 1) := by decide +kernel
theorem dX1_rewriteOnce_24 : decode cX1_rewriteOnce 24 = .ok (.iconst 1, 1) := by decide +kernel
theorem dX1_rewriteOnce_25 : decode cX1_rewriteOnce 25 = .ok (.iadd, 1) := by decide +kernel
theorem dX1_rewriteOnce_26 : decode cX1_rewriteOnce 26 = .ok (.invokevirtual 28, 3) := by decide +kernel
theorem dX1_rewriteOnce_29 : decode cX1_rewriteOnce 29 = .ok (.invokestatic 54, 3) := by decide +kernel
theorem dX1_rewriteOnce_32 : decode cX1_rewriteOnce 32 = .ok (.ifCond .eq 11, 3) := by decide +kernel
theorem dX1_rewriteOnce_35 : decode cX1_rewriteOnce 35 = .ok (.iload_n 1, 1) := by decide +kernel
theorem dX1_rewriteOnce_36 : decode cX1_rewriteOnce 36 = .ok (.aload_n 0, 1) := by decide +kernel
theorem dX1_rewriteOnce_37 : decode cX1_rewriteOnce 37 = .ok (.iload_n 2, 1) := by decide +kernel
theorem dX1_rewriteOnce_38 : decode cX1_rewriteOnce 38 = .ok (.invokestatic 58, 3) := by decide +kernel
theorem dX1_rewriteOnce_41 : decode cX1_rewriteOnce 41 = .ok (.iconst 1, 1) := by decide +kernel
theorem dX1_rewriteOnce_42 : decode cX1_rewriteOnce 42 = .ok (.ireturn, 1) := by decide +kernel
theorem dX1_rewriteOnce_43 : decode cX1_rewriteOnce 43 = .ok (.iinc 2 1, 3) := by decide +kernel
theorem dX1_rewriteOnce_46 : decode cX1_rewriteOnce 46 = .ok (.goto (-37), 3) := by decide +kernel
theorem dX1_rewriteOnce_49 : decode cX1_rewriteOnce 49 = .ok (.iinc 1 1, 3) := by decide +kernel
theorem dX1_rewriteOnce_52 : decode cX1_rewriteOnce 52 = .ok (.goto (-50), 3) := by decide +kernel
theorem dX1_rewriteOnce_55 : decode cX1_rewriteOnce 55 = .ok (.iconst 0, 1) := by decide +kernel
theorem dX1_rewriteOnce_56 : decode cX1_rewriteOnce 56 = .ok (.ireturn, 1) := by decide +kernel
theorem dX1_isUsable_0 : decode cX1_isUsable 0 = .ok (.iload_n 0, 1) := by decide +kernel
theorem dX1_isUsable_1 : decode cX1_isUsable 1 = .ok (.tableswitch 73 1 3 #[27, 41, 57], 27) := by decide +kernel
theorem dX1_isUsable_28 : decode cX1_isUsable 28 = .ok (.iload_n 1, 1) := by decide +kernel
theorem dX1_isUsable_29 : decode cX1_isUsable 29 = .ok (.ifCond .ne 11, 3) := by decide +kernel
theorem dX1_isUsable_32 : decode cX1_isUsable 32 = .ok (.iload_n 2, 1) := by decide +kernel
theorem dX1_isUsable_33 : decode cX1_isUsable 33 = .ok (.ifCond .eq 7, 3) := by decide +kernel
theorem dX1_isUsable_36 : decode cX1_isUsable 36 = .ok (.iconst 1, 1) := by decide +kernel
theorem dX1_isUsable_37 : decode cX1_isUsable 37 = .ok (.goto 4, 3) := by decide +kernel
theorem dX1_isUsable_40 : decode cX1_isUsable 40 = .ok (.iconst 0, 1) := by decide +kernel
theorem dX1_isUsable_41 : decode cX1_isUsable 41 = .ok (.ireturn, 1) := by decide +kernel
theorem dX1_isUsable_42 : decode cX1_isUsable 42 = .ok (.iload_n 1, 1) := by decide +kernel
theorem dX1_isUsable_43 : decode cX1_isUsable 43 = .ok (.iconst 5, 1) := by decide +kernel
theorem dX1_isUsable_44 : decode cX1_isUsable 44 = .ok (.if_icmp .ne 12, 3) := by decide +kernel
theorem dX1_isUsable_47 : decode cX1_isUsable 47 = .ok (.iload_n 2, 1) := by decide +kernel
theorem dX1_isUsable_48 : decode cX1_isUsable 48 = .ok (.iconst 4, 1) := by decide +kernel
theorem dX1_isUsable_49 : decode cX1_isUsable 49 = .ok (.if_icmp .ne 7, 3) := by decide +kernel
theorem dX1_isUsable_52 : decode cX1_isUsable 52 = .ok (.iconst 1, 1) := by decide +kernel
theorem dX1_isUsable_53 : decode cX1_isUsable 53 = .ok (.goto 4, 3) := by decide +kernel
theorem dX1_isUsable_56 : decode cX1_isUsable 56 = .ok (.iconst 0, 1) := by decide +kernel
theorem dX1_isUsable_57 : decode cX1_isUsable 57 = .ok (.ireturn, 1) := by decide +kernel
theorem dX1_isUsable_58 : decode cX1_isUsable 58 = .ok (.iload_n 1, 1) := by decide +kernel
theorem dX1_isUsable_59 : decode cX1_isUsable 59 = .ok (.iconst 3, 1) := by decide +kernel
theorem dX1_isUsable_60 : decode cX1_isUsable 60 = .ok (.if_icmp .ne 12, 3) := by decide +kernel
theorem dX1_isUsable_63 : decode cX1_isUsable 63 = .ok (.iload_n 2, 1) := by decide +kernel
theorem dX1_isUsable_64 : decode cX1_isUsable 64 = .ok (.iconst 3, 1) := by decide +kernel
theorem dX1_isUsable_65 : decode cX1_isUsable 65 = .ok (.if_icmp .ne 7, 3) := by decide +kernel
theorem dX1_isUsable_68 : decode cX1_isUsable 68 = .ok (.iconst 1, 1) := by decide +kernel
theorem dX1_isUsable_69 : decode cX1_isUsable 69 = .ok (.goto 4, 3) := by decide +kernel
theorem dX1_isUsable_72 : decode cX1_isUsable 72 = .ok (.iconst 0, 1) := by decide +kernel
theorem dX1_isUsable_73 : decode cX1_isUsable 73 = .ok (.ireturn, 1) := by decide +kernel
theorem dX1_isUsable_74 : decode cX1_isUsable 74 = .ok (.iload_n 1, 1) := by decide +kernel
theorem dX1_isUsable_75 : decode cX1_isUsable 75 = .ok (.iconst 2, 1) := by decide +kernel
theorem dX1_isUsable_76 : decode cX1_isUsable 76 = .ok (.if_icmp .ne 12, 3) := by decide +kernel
theorem dX1_isUsable_79 : decode cX1_isUsable 79 = .ok (.iload_n 2, 1) := by decide +kernel
theorem dX1_isUsable_80 : decode cX1_isUsable 80 = .ok (.iconst 1, 1) := by decide +kernel
theorem dX1_isUsable_81 : decode cX1_isUsable 81 = .ok (.if_icmp .ne 7, 3) := by decide +kernel
theorem dX1_isUsable_84 : decode cX1_isUsable 84 = .ok (.iconst 1, 1) := by decide +kernel
theorem dX1_isUsable_85 : decode cX1_isUsable 85 = .ok (.goto 4, 3) := by decide +kernel
theorem dX1_isUsable_88 : decode cX1_isUsable 88 = .ok (.iconst 0, 1) := by decide +kernel
theorem dX1_isUsable_89 : decode cX1_isUsable 89 = .ok (.ireturn, 1) := by decide +kernel
set_option maxRecDepth 20000 in
theorem ggX1_use_X2_get : GoodIn wsX1_use wsX2_get := goodIn_r _ [5, 6, 11] (by decide +kernel) (by decide +kernel)
set_option maxRecDepth 20000 in
theorem gX1_use_X2_get : GoodIn wsX1_use (wsV RX1 28 RX2 yX2_get wsX2_get) := goodIn_app (goodIn_of _ (by decide +kernel)) ggX1_use_X2_get
set_option maxRecDepth 20000 in
theorem ggX1_use_X2_set : GoodIn wsX1_use wsX2_set := goodIn_r _ [10, 6, 11] (by decide +kernel) (by decide +kernel)
set_option maxRecDepth 20000 in
theorem gX1_use_X2_set : GoodIn wsX1_use (wsV RX1 24 RX2 yX2_set wsX2_set) := goodIn_app (goodIn_of _ (by decide +kernel)) ggX1_use_X2_set
theorem dX1_use_0 : decode cX1_use 0 = .ok (.aload_n 1, 1) := by decide +kernel
theorem dX1_use_1 : decode cX1_use 1 = .ok (.iload_n 2, 1) := by decide +kernel
theorem dX1_use_2 : decode cX1_use 2 = .ok (.invokevirtual 28, 3) := by decide +kernel
theorem dX1_use_5 : decode cX1_use 5 = .ok (.istore_n 3, 1) := by decide +kernel
theorem dX1_use_6 : decode cX1_use 6 = .ok (.aload_n 1, 1) := by decide +kernel
theorem dX1_use_7 : decode cX1_use 7 = .ok (.iload_n 2, 1) := by decide +kernel
theorem dX1_use_8 : decode cX1_use 8 = .ok (.iconst 1, 1) := by decide +kernel
theorem dX1_use_9 : decode cX1_use 9 = .ok (.iadd, 1) := by decide +kernel
theorem dX1_use_10 : decode cX1_use 10 = .ok (.invokevirtual 28, 3) := by decide +kernel
theorem dX1_use_13 : decode cX1_use 13 = .ok (.istore 4, 2) := by decide +kernel
theorem dX1_use_15 : decode cX1_use 15 = .ok (.iload_n 0, 1) := by decide +kernel
theorem dX1_use_16 : decode cX1_use 16 = .ok (.tableswitch 57 1 3 #[28, 28, 46], 28) := by decide +kernel
theorem dX1_use_44 : decode cX1_use 44 = .ok (.aload_n 1, 1) := by decide +kernel
theorem dX1_use_45 : decode cX1_use 45 = .ok (.iload_n 2, 1) := by decide +kernel
theorem dX1_use_46 : decode cX1_use 46 = .ok (.iload 4, 2) := by decide +kernel
theorem dX1_use_48 : decode cX1_use 48 = .ok (.invokevirtual 24, 3) := by decide +kernel
theorem dX1_use_51 : decode cX1_use 51 = .ok (.aload_n 1, 1) := by decide +kernel
theorem dX1_use_52 : decode cX1_use 52 = .ok (.iload_n 2, 1) := by decide +kernel
theorem dX1_use_53 : decode cX1_use 53 = .ok (.iconst 1, 1) := by decide +kernel
theorem dX1_use_54 : decode cX1_use 54 = .ok (.iadd, 1) := by decide +kernel
theorem dX1_use_55 : decode cX1_use 55 = .ok (.iload_n 3, 1) := by decide +kernel
theorem dX1_use_56 : decode cX1_use 56 = .ok (.invokevirtual 24, 3) := by decide +kernel
theorem dX1_use_59 : decode cX1_use 59 = .ok (.goto 28, 3) := by decide +kernel
theorem dX1_use_62 : decode cX1_use 62 = .ok (.aload_n 1, 1) := by decide +kernel
theorem dX1_use_63 : decode cX1_use 63 = .ok (.iload_n 2, 1) := by decide +kernel
theorem dX1_use_64 : decode cX1_use 64 = .ok (.iconst 1, 1) := by decide +kernel
theorem dX1_use_65 : decode cX1_use 65 = .ok (.iadd, 1) := by decide +kernel
theorem dX1_use_66 : decode cX1_use 66 = .ok (.iconst 0, 1) := by decide +kernel
theorem dX1_use_67 : decode cX1_use 67 = .ok (.invokevirtual 24, 3) := by decide +kernel
theorem dX1_use_70 : decode cX1_use 70 = .ok (.goto 17, 3) := by decide +kernel
theorem dX1_use_73 : decode cX1_use 73 = .ok (.aload_n 1, 1) := by decide +kernel
theorem dX1_use_74 : decode cX1_use 74 = .ok (.iload_n 2, 1) := by decide +kernel
theorem dX1_use_75 : decode cX1_use 75 = .ok (.iconst 0, 1) := by decide +kernel
theorem dX1_use_76 : decode cX1_use 76 = .ok (.invokevirtual 24, 3) := by decide +kernel
theorem dX1_use_79 : decode cX1_use 79 = .ok (.aload_n 1, 1) := by decide +kernel
theorem dX1_use_80 : decode cX1_use 80 = .ok (.iload_n 2, 1) := by decide +kernel
theorem dX1_use_81 : decode cX1_use 81 = .ok (.iconst 1, 1) := by decide +kernel
theorem dX1_use_82 : decode cX1_use 82 = .ok (.iadd, 1) := by decide +kernel
theorem dX1_use_83 : decode cX1_use 83 = .ok (.iconst 0, 1) := by decide +kernel
theorem dX1_use_84 : decode cX1_use 84 = .ok (.invokevirtual 24, 3) := by decide +kernel
theorem dX1_use_87 : decode cX1_use 87 = .ok (.return_, 1) := by decide +kernel
end
section
set_option maxRecDepth 20000 in
theorem ggX3_init_X2_init : GoodIn wsX3_init wsX2_init := goodIn_r _ [11, 12, 2, 3, 13, 14, 15] (by decide +kernel) (by decide +kernel)
set_option maxRecDepth 20000 in
theorem gX3_init_X2_init : GoodIn wsX3_init (wsX2_init) := ggX3_init_X2_init
theorem dX3_init_0 : decode cX3_init 0 = .ok (.aload_n 0, 1) := by decide +kernel
theorem dX3_init_1 : decode cX3_init 1 = .ok (.invokespecial 3, 3) := by decide +kernel
theorem dX3_init_4 : decode cX3_init 4 = .ok (.aload_n 0, 1) := by decide +kernel
theorem dX3_init_5 : decode cX3_init 5 = .ok (.new 9, 3) := by decide +kernel
theorem dX3_init_8 : decode cX3_init 8 = .ok (.dup, 1) := by decide +kernel
theorem dX3_init_9 : decode cX3_init 9 = .ok (.sipush 1296, 3) := by decide +kernel
theorem dX3_init_12 : decode cX3_init 12 = .ok (.invokespecial 11, 3) := by decide +kernel
theorem dX3_init_15 : decode cX3_init 15 = .ok (.putfield 14, 3) := by decide +kernel
theorem dX3_init_18 : decode cX3_init 18 = .ok (.aload_n 0, 1) := by decide +kernel
theorem dX3_init_19 : decode cX3_init 19 = .ok (.new 9, 3) := by decide +kernel
theorem dX3_init_22 : decode cX3_init 22 = .ok (.dup, 1) := by decide +kernel
theorem dX3_init_23 : decode cX3_init 23 = .ok (.sipush 1296, 3) := by decide +kernel
theorem dX3_init_26 : decode cX3_init 26 = .ok (.invokespecial 11, 3) := by decide +kernel
theorem dX3_init_29 : decode cX3_init 29 = .ok (.putfield 20, 3) := by decide +kernel
theorem dX3_init_32 : decode cX3_init 32 = .ok (.return_, 1) := by decide +kernel
end
section
set_option maxRecDepth 20000 in
theorem ggX0_init_X2_init : GoodIn wsX0_init wsX2_init := goodIn_r _ [16, 17, 2, 3, 18, 19, 20] (by decide +kernel) (by decide +kernel)
set_option maxRecDepth 20000 in
theorem gX0_init_X2_init : GoodIn wsX0_init (wsX2_init) := ggX0_init_X2_init
theorem dX0_init_0 : decode cX0_init 0 = .ok (.aload_n 0, 1) := by decide +kernel
theorem dX0_init_1 : decode cX0_init 1 = .ok (.invokespecial 3, 3) := by decide +kernel
theorem dX0_init_4 : decode cX0_init 4 = .ok (.aload_n 0, 1) := by decide +kernel
theorem dX0_init_5 : decode cX0_init 5 = .ok (.new 9, 3) := by decide +kernel
theorem dX0_init_8 : decode cX0_init 8 = .ok (.dup, 1) := by decide +kernel
theorem dX0_init_9 : decode cX0_init 9 = .ok (.sipush 300, 3) := by decide +kernel
theorem dX0_init_12 : decode cX0_init 12 = .ok (.invokespecial 11, 3) := by decide +kernel
theorem dX0_init_15 : decode cX0_init 15 = .ok (.putfield 14, 3) := by decide +kernel
theorem dX0_init_18 : decode cX0_init 18 = .ok (.aload_n 0, 1) := by decide +kernel
theorem dX0_init_19 : decode cX0_init 19 = .ok (.new 9, 3) := by decide +kernel
theorem dX0_init_22 : decode cX0_init 22 = .ok (.dup, 1) := by decide +kernel
theorem dX0_init_23 : decode cX0_init 23 = .ok (.sipush 300, 3) := by decide +kernel
theorem dX0_init_26 : decode cX0_init 26 = .ok (.invokespecial 11, 3) := by decide +kernel
theorem dX0_init_29 : decode cX0_init 29 = .ok (.putfield 20, 3) := by decide +kernel
theorem dX0_init_32 : decode cX0_init 32 = .ok (.aload_n 0, 1) := by decide +kernel
theorem dX0_init_33 : decode cX0_init 33 = .ok (.new 9, 3) := by decide +kernel
theorem dX0_init_36 : decode cX0_init 36 = .ok (.dup, 1) := by decide +kernel
theorem dX0_init_37 : decode cX0_init 37 = .ok (.sipush 1296, 3) := by decide +kernel
theorem dX0_init_40 : decode cX0_init 40 = .ok (.invokespecial 11, 3) := by decide +kernel
theorem dX0_init_43 : decode cX0_init 43 = .ok (.putfield 23, 3) := by decide +kernel
theorem dX0_init_46 : decode cX0_init 46 = .ok (.aload_n 0, 1) := by decide +kernel
theorem dX0_init_47 : decode cX0_init 47 = .ok (.new 9, 3) := by decide +kernel
theorem dX0_init_50 : decode cX0_init 50 = .ok (.dup, 1) := by decide +kernel
theorem dX0_init_51 : decode cX0_init 51 = .ok (.sipush 1296, 3) := by decide +kernel
theorem dX0_init_54 : decode cX0_init 54 = .ok (.invokespecial 11, 3) := by decide +kernel
theorem dX0_init_57 : decode cX0_init 57 = .ok (.putfield 26, 3) := by decide +kernel
theorem dX0_init_60 : decode cX0_init 60 = .ok (.aload_n 0, 1) := by decide +kernel
theorem dX0_init_61 : decode cX0_init 61 = .ok (.new 9, 3) := by decide +kernel
theorem dX0_init_64 : decode cX0_init 64 = .ok (.dup, 1) := by decide +kernel
theorem dX0_init_65 : decode cX0_init 65 = .ok (.sipush 1296, 3) := by decide +kernel
theorem dX0_init_68 : decode cX0_init 68 = .ok (.invokespecial 11, 3) := by decide +kernel
theorem dX0_init_71 : decode cX0_init 71 = .ok (.putfield 29, 3) := by decide +kernel
theorem dX0_init_74 : decode cX0_init 74 = .ok (.aload_n 0, 1) := by decide +kernel
theorem dX0_init_75 : decode cX0_init 75 = .ok (.new 9, 3) := by decide +kernel
theorem dX0_init_78 : decode cX0_init 78 = .ok (.dup, 1) := by decide +kernel
theorem dX0_init_79 : decode cX0_init 79 = .ok (.sipush 360, 3) := by decide +kernel
theorem dX0_init_82 : decode cX0_init 82 = .ok (.invokespecial 11, 3) := by decide +kernel
theorem dX0_init_85 : decode cX0_init 85 = .ok (.putfield 32, 3) := by decide +kernel
theorem dX0_init_88 : decode cX0_init 88 = .ok (.aload_n 0, 1) := by decide +kernel
theorem dX0_init_89 : decode cX0_init 89 = .ok (.iconst (-1), 1) := by decide +kernel
theorem dX0_init_90 : decode cX0_init 90 = .ok (.putfield 35, 3) := by decide +kernel
theorem dX0_init_93 : decode cX0_init 93 = .ok (.return_, 1) := by decide +kernel
end
section
set_option maxRecDepth 20000 in
theorem ggX4_init_X2_init : GoodIn wsX4_init wsX2_init := goodIn_r _ [11, 12, 2, 3, 13, 14, 15] (by decide +kernel) (by decide +kernel)
set_option maxRecDepth 20000 in
theorem gX4_init_X2_init : GoodIn wsX4_init (wsX2_init) := ggX4_init_X2_init
theorem dX4_init_0 : decode cX4_init 0 = .ok (.aload_n 0, 1) := by decide +kernel
theorem dX4_init_1 : decode cX4_init 1 = .ok (.invokespecial 3, 3) := by decide +kernel
theorem dX4_init_4 : decode cX4_init 4 = .ok (.aload_n 0, 1) := by decide +kernel
theorem dX4_init_5 : decode cX4_init 5 = .ok (.new 9, 3) := by decide +kernel
theorem dX4_init_8 : decode cX4_init 8 = .ok (.dup, 1) := by decide +kernel
theorem dX4_init_9 : decode cX4_init 9 = .ok (.sipush 1296, 3) := by decide +kernel
theorem dX4_init_12 : decode cX4_init 12 = .ok (.invokespecial 11, 3) := by decide +kernel
theorem dX4_init_15 : decode cX4_init 15 = .ok (.putfield 14, 3) := by decide +kernel
theorem dX4_init_18 : decode cX4_init 18 = .ok (.aload_n 0, 1) := by decide +kernel
theorem dX4_init_19 : decode cX4_init 19 = .ok (.new 9, 3) := by decide +kernel
theorem dX4_init_22 : decode cX4_init 22 = .ok (.dup, 1) := by decide +kernel
theorem dX4_init_23 : decode cX4_init 23 = .ok (.sipush 1296, 3) := by decide +kernel
theorem dX4_init_26 : decode cX4_init 26 = .ok (.invokespecial 11, 3) := by decide +kernel
theorem dX4_init_29 : decode cX4_init 29 = .ok (.putfield 20, 3) := by decide +kernel
theorem dX4_init_32 : decode cX4_init 32 = .ok (.return_, 1) := by decide +kernel
end
section
set_option maxRecDepth 20000 in
theorem ggX5_init_X1_init : GoodIn wsX5_init wsX1_init := goodIn_r _ [22, 23, 2, 3, 24, 25, 26, 27, 28, 29, 30, 31, 32, 33, 34, 35, 6, 36, 37, 38, 39, 40, 41, 42, 43, 44, 45, 46, 47, 48, 49, 50, 51, 52, 53, 54, 55, 56, 57, 58, 59, 109, 89] (by decide +kernel) (by decide +kernel)
set_option maxRecDepth 20000 in
theorem gX5_init_X1_init : GoodIn wsX5_init (wsX1_init) := ggX5_init_X1_init
set_option maxRecDepth 20000 in
theorem ggX5_init_X3_init : GoodIn wsX5_init wsX3_init := goodIn_r _ [62, 63, 2, 3, 64, 25, 26, 65, 66, 67, 29, 30, 31, 32, 33, 109, 94, 95] (by decide +kernel) (by decide +kernel)
set_option maxRecDepth 20000 in
theorem gX5_init_X3_init : GoodIn wsX5_init (wsX3_init) := ggX5_init_X3_init
set_option maxRecDepth 20000 in
theorem ggX5_init_X0_init : GoodIn wsX5_init wsX0_init := goodIn_r _ [70, 71, 2, 3, 72, 25, 26, 73, 74, 75, 76, 77, 78, 79, 80, 29, 30, 31, 32, 33, 109, 96, 97, 98, 99, 100, 101, 102, 103, 104, 105, 106] (by decide +kernel) (by decide +kernel)
set_option maxRecDepth 20000 in
theorem gX5_init_X0_init : GoodIn wsX5_init (wsX0_init) := ggX5_init_X0_init
set_option maxRecDepth 20000 in
theorem ggX5_init_X4_init : GoodIn wsX5_init wsX4_init := goodIn_r _ [83, 84, 2, 3, 85, 25, 26, 86, 87, 88, 29, 30, 31, 32, 33, 109, 107, 108] (by decide +kernel) (by decide +kernel)
set_option maxRecDepth 20000 in
theorem gX5_init_X4_init : GoodIn wsX5_init (wsX4_init) := ggX5_init_X4_init
theorem dX5_init_0 : decode cX5_init 0 = .ok (.aload_n 0, 1) := by decide +kernel
theorem dX5_init_1 : decode cX5_init 1 = .ok (.invokespecial 1, 3) := by decide +kernel
theorem dX5_init_4 : decode cX5_init 4 = .ok (.aload_n 0, 1) := by decide +kernel
theorem dX5_init_5 : decode cX5_init 5 = .ok (.new 7, 3) := by decide +kernel
theorem dX5_init_8 : decode cX5_init 8 = .ok (.dup, 1) := by decide +kernel
theorem dX5_init_9 : decode cX5_init 9 = .ok (.invokespecial 9, 3) := by decide +kernel
theorem dX5_init_12 : decode cX5_init 12 = .ok (.putfield 10, 3) := by decide +kernel
theorem dX5_init_15 : decode cX5_init 15 = .ok (.aload_n 0, 1) := by decide +kernel
theorem dX5_init_16 : decode cX5_init 16 = .ok (.new 16, 3) := by decide +kernel
theorem dX5_init_19 : decode cX5_init 19 = .ok (.dup, 1) := by decide +kernel
theorem dX5_init_20 : decode cX5_init 20 = .ok (.invokespecial 18, 3) := by decide +kernel
theorem dX5_init_23 : decode cX5_init 23 = .ok (.putfield 19, 3) := by decide +kernel
theorem dX5_init_26 : decode cX5_init 26 = .ok (.aload_n 0, 1) := by decide +kernel
theorem dX5_init_27 : decode cX5_init 27 = .ok (.new 23, 3) := by decide +kernel
theorem dX5_init_30 : decode cX5_init 30 = .ok (.dup, 1) := by decide +kernel
theorem dX5_init_31 : decode cX5_init 31 = .ok (.invokespecial 25, 3) := by decide +kernel
theorem dX5_init_34 : decode cX5_init 34 = .ok (.putfield 26, 3) := by decide +kernel
theorem dX5_init_37 : decode cX5_init 37 = .ok (.aload_n 0, 1) := by decide +kernel
theorem dX5_init_38 : decode cX5_init 38 = .ok (.new 30, 3) := by decide +kernel
theorem dX5_init_41 : decode cX5_init 41 = .ok (.dup, 1) := by decide +kernel
theorem dX5_init_42 : decode cX5_init 42 = .ok (.invokespecial 32, 3) := by decide +kernel
theorem dX5_init_45 : decode cX5_init 45 = .ok (.putfield 33, 3) := by decide +kernel
theorem dX5_init_48 : decode cX5_init 48 = .ok (.return_, 1) := by decide +kernel
end
section
set_option maxRecDepth 20000 in
theorem ggX6_init_X6_formed : GoodIn wsX6_init wsX6_formed := goodIn_r _ [24, 6, 25, 26, 27, 23, 28, 29, 30, 31, 32, 33, 34, 35, 36, 37, 38, 39, 40, 41, 42, 43, 44, 45, 46, 47, 48, 49] (by decide +kernel) (by decide +kernel)
set_option maxRecDepth 20000 in
theorem gX6_init_X6_formed : GoodIn wsX6_init (wsV RX6 52 RX6 yX6_formed wsX6_formed) := goodIn_app (goodIn_of _ (by decide +kernel)) ggX6_init_X6_formed
theorem dX6_init_0 : decode cX6_init 0 = .ok (.aload_n 0, 1) := by decide +kernel
theorem dX6_init_1 : decode cX6_init 1 = .ok (.invokespecial 1, 3) := by decide +kernel
theorem dX6_init_4 : decode cX6_init 4 = .ok (.aload_n 0, 1) := by decide +kernel
theorem dX6_init_5 : decode cX6_init 5 = .ok (.sipush 1296, 3) := by decide +kernel
theorem dX6_init_8 : decode cX6_init 8 = .ok (.newarray .int, 2) := by decide +kernel
theorem dX6_init_10 : decode cX6_init 10 = .ok (.putfield 7, 3) := by decide +kernel
theorem dX6_init_13 : decode cX6_init 13 = .ok (.aload_n 0, 1) := by decide +kernel
theorem dX6_init_14 : decode cX6_init 14 = .ok (.iconst 4, 1) := by decide +kernel
theorem dX6_init_15 : decode cX6_init 15 = .ok (.newarray .int, 2) := by decide +kernel
theorem dX6_init_17 : decode cX6_init 17 = .ok (.putfield 13, 3) := by decide +kernel
theorem dX6_init_20 : decode cX6_init 20 = .ok (.aload_n 0, 1) := by decide +kernel
theorem dX6_init_21 : decode cX6_init 21 = .ok (.sipush 1296, 3) := by decide +kernel
theorem dX6_init_24 : decode cX6_init 24 = .ok (.newarray .int, 2) := by decide +kernel
theorem dX6_init_26 : decode cX6_init 26 = .ok (.putfield 16, 3) := by decide +kernel
theorem dX6_init_29 : decode cX6_init 29 = .ok (.aload_n 0, 1) := by decide +kernel
theorem dX6_init_30 : decode cX6_init 30 = .ok (.sipush 1296, 3) := by decide +kernel
theorem dX6_init_33 : decode cX6_init 33 = .ok (.newarray .boolean, 2) := by decide +kernel
theorem dX6_init_35 : decode cX6_init 35 = .ok (.putfield 19, 3) := by decide +kernel
theorem dX6_init_38 : decode cX6_init 38 = .ok (.aload_n 0, 1) := by decide +kernel
theorem dX6_init_39 : decode cX6_init 39 = .ok (.sipush 1296, 3) := by decide +kernel
theorem dX6_init_42 : decode cX6_init 42 = .ok (.newarray .boolean, 2) := by decide +kernel
theorem dX6_init_44 : decode cX6_init 44 = .ok (.putfield 23, 3) := by decide +kernel
theorem dX6_init_47 : decode cX6_init 47 = .ok (.aload_n 0, 1) := by decide +kernel
theorem dX6_init_48 : decode cX6_init 48 = .ok (.sipush 1296, 3) := by decide +kernel
theorem dX6_init_51 : decode cX6_init 51 = .ok (.newarray .int, 2) := by decide +kernel
theorem dX6_init_53 : decode cX6_init 53 = .ok (.putfield 26, 3) := by decide +kernel
theorem dX6_init_56 : decode cX6_init 56 = .ok (.aload_n 0, 1) := by decide +kernel
theorem dX6_init_57 : decode cX6_init 57 = .ok (.sipush 1296, 3) := by decide +kernel
theorem dX6_init_60 : decode cX6_init 60 = .ok (.newarray .long, 2) := by decide +kernel
theorem dX6_init_62 : decode cX6_init 62 = .ok (.putfield 29, 3) := by decide +kernel
theorem dX6_init_65 : decode cX6_init 65 = .ok (.aload_n 0, 1) := by decide +kernel
theorem dX6_init_66 : decode cX6_init 66 = .ok (.sipush 1296, 3) := by decide +kernel
theorem dX6_init_69 : decode cX6_init 69 = .ok (.newarray .int, 2) := by decide +kernel
theorem dX6_init_71 : decode cX6_init 71 = .ok (.putfield 33, 3) := by decide +kernel
theorem dX6_init_74 : decode cX6_init 74 = .ok (.aload_n 0, 1) := by decide +kernel
theorem dX6_init_75 : decode cX6_init 75 = .ok (.iconst (-1), 1) := by decide +kernel
theorem dX6_init_76 : decode cX6_init 76 = .ok (.putfield 36, 3) := by decide +kernel
theorem dX6_init_79 : decode cX6_init 79 = .ok (.aload_n 0, 1) := by decide +kernel
theorem dX6_init_80 : decode cX6_init 80 = .ok (.sipush 300, 3) := by decide +kernel
theorem dX6_init_83 : decode cX6_init 83 = .ok (.newarray .int, 2) := by decide +kernel
theorem dX6_init_85 : decode cX6_init 85 = .ok (.putfield 40, 3) := by decide +kernel
theorem dX6_init_88 : decode cX6_init 88 = .ok (.aload_n 0, 1) := by decide +kernel
theorem dX6_init_89 : decode cX6_init 89 = .ok (.sipush 300, 3) := by decide +kernel
theorem dX6_init_92 : decode cX6_init 92 = .ok (.newarray .int, 2) := by decide +kernel
theorem dX6_init_94 : decode cX6_init 94 = .ok (.putfield 43, 3) := by decide +kernel
theorem dX6_init_97 : decode cX6_init 97 = .ok (.aload_n 0, 1) := by decide +kernel
theorem dX6_init_98 : decode cX6_init 98 = .ok (.bipush 60, 2) := by decide +kernel
theorem dX6_init_100 : decode cX6_init 100 = .ok (.newarray .int, 2) := by decide +kernel
theorem dX6_init_102 : decode cX6_init 102 = .ok (.putfield 46, 3) := by decide +kernel
theorem dX6_init_105 : decode cX6_init 105 = .ok (.aload_n 0, 1) := by decide +kernel
theorem dX6_init_106 : decode cX6_init 106 = .ok (.bipush 60, 2) := by decide +kernel
theorem dX6_init_108 : decode cX6_init 108 = .ok (.newarray .boolean, 2) := by decide +kernel
theorem dX6_init_110 : decode cX6_init 110 = .ok (.putfield 49, 3) := by decide +kernel
theorem dX6_init_113 : decode cX6_init 113 = .ok (.iconst 0, 1) := by decide +kernel
theorem dX6_init_114 : decode cX6_init 114 = .ok (.istore_n 1, 1) := by decide +kernel
theorem dX6_init_115 : decode cX6_init 115 = .ok (.iload_n 1, 1) := by decide +kernel
theorem dX6_init_116 : decode cX6_init 116 = .ok (.sipush 1296, 3) := by decide +kernel
theorem dX6_init_119 : decode cX6_init 119 = .ok (.if_icmp .ge 20, 3) := by decide +kernel
theorem dX6_init_122 : decode cX6_init 122 = .ok (.aload_n 0, 1) := by decide +kernel
theorem dX6_init_123 : decode cX6_init 123 = .ok (.getfield 7, 3) := by decide +kernel
theorem dX6_init_126 : decode cX6_init 126 = .ok (.iload_n 1, 1) := by decide +kernel
theorem dX6_init_127 : decode cX6_init 127 = .ok (.aload_n 0, 1) := by decide +kernel
theorem dX6_init_128 : decode cX6_init 128 = .ok (.iload_n 1, 1) := by decide +kernel
theorem dX6_init_129 : decode cX6_init 129 = .ok (.invokevirtual 52, 3) := by decide +kernel
theorem dX6_init_132 : decode cX6_init 132 = .ok (.iastore, 1) := by decide +kernel
theorem dX6_init_133 : decode cX6_init 133 = .ok (.iinc 1 1, 3) := by decide +kernel
theorem dX6_init_136 : decode cX6_init 136 = .ok (.goto (-21), 3) := by decide +kernel
theorem dX6_init_139 : decode cX6_init 139 = .ok (.return_, 1) := by decide +kernel
theorem dX6_fits_0 : decode cX6_fits 0 = .ok (.iload_n 0, 1) := by decide +kernel
theorem dX6_fits_1 : decode cX6_fits 1 = .ok (.iconst 1, 1) := by decide +kernel
theorem dX6_fits_2 : decode cX6_fits 2 = .ok (.if_icmp .ne 19, 3) := by decide +kernel
theorem dX6_fits_5 : decode cX6_fits 5 = .ok (.iload_n 1, 1) := by decide +kernel
theorem dX6_fits_6 : decode cX6_fits 6 = .ok (.ifCond .ne 11, 3) := by decide +kernel
theorem dX6_fits_9 : decode cX6_fits 9 = .ok (.iload_n 2, 1) := by decide +kernel
theorem dX6_fits_10 : decode cX6_fits 10 = .ok (.ifCond .le 7, 3) := by decide +kernel
theorem dX6_fits_13 : decode cX6_fits 13 = .ok (.iconst 1, 1) := by decide +kernel
theorem dX6_fits_14 : decode cX6_fits 14 = .ok (.goto 68, 3) := by decide +kernel
theorem dX6_fits_17 : decode cX6_fits 17 = .ok (.iconst 0, 1) := by decide +kernel
theorem dX6_fits_18 : decode cX6_fits 18 = .ok (.goto 64, 3) := by decide +kernel
theorem dX6_fits_21 : decode cX6_fits 21 = .ok (.iload_n 0, 1) := by decide +kernel
theorem dX6_fits_22 : decode cX6_fits 22 = .ok (.iconst 2, 1) := by decide +kernel
theorem dX6_fits_23 : decode cX6_fits 23 = .ok (.if_icmp .ne 21, 3) := by decide +kernel
theorem dX6_fits_26 : decode cX6_fits 26 = .ok (.iload_n 1, 1) := by decide +kernel
theorem dX6_fits_27 : decode cX6_fits 27 = .ok (.iconst 5, 1) := by decide +kernel
theorem dX6_fits_28 : decode cX6_fits 28 = .ok (.if_icmp .ne 12, 3) := by decide +kernel
theorem dX6_fits_31 : decode cX6_fits 31 = .ok (.iload_n 2, 1) := by decide +kernel
theorem dX6_fits_32 : decode cX6_fits 32 = .ok (.iconst 4, 1) := by decide +kernel
theorem dX6_fits_33 : decode cX6_fits 33 = .ok (.if_icmp .ne 7, 3) := by decide +kernel
theorem dX6_fits_36 : decode cX6_fits 36 = .ok (.iconst 1, 1) := by decide +kernel
theorem dX6_fits_37 : decode cX6_fits 37 = .ok (.goto 45, 3) := by decide +kernel
theorem dX6_fits_40 : decode cX6_fits 40 = .ok (.iconst 0, 1) := by decide +kernel
theorem dX6_fits_41 : decode cX6_fits 41 = .ok (.goto 41, 3) := by decide +kernel
theorem dX6_fits_44 : decode cX6_fits 44 = .ok (.iload_n 0, 1) := by decide +kernel
theorem dX6_fits_45 : decode cX6_fits 45 = .ok (.iconst 3, 1) := by decide +kernel
theorem dX6_fits_46 : decode cX6_fits 46 = .ok (.if_icmp .ne 21, 3) := by decide +kernel
theorem dX6_fits_49 : decode cX6_fits 49 = .ok (.iload_n 1, 1) := by decide +kernel
theorem dX6_fits_50 : decode cX6_fits 50 = .ok (.iconst 3, 1) := by decide +kernel
theorem dX6_fits_51 : decode cX6_fits 51 = .ok (.if_icmp .ne 12, 3) := by decide +kernel
theorem dX6_fits_54 : decode cX6_fits 54 = .ok (.iload_n 2, 1) := by decide +kernel
theorem dX6_fits_55 : decode cX6_fits 55 = .ok (.iconst 3, 1) := by decide +kernel
theorem dX6_fits_56 : decode cX6_fits 56 = .ok (.if_icmp .ne 7, 3) := by decide +kernel
theorem dX6_fits_59 : decode cX6_fits 59 = .ok (.iconst 1, 1) := by decide +kernel
theorem dX6_fits_60 : decode cX6_fits 60 = .ok (.goto 22, 3) := by decide +kernel
theorem dX6_fits_63 : decode cX6_fits 63 = .ok (.iconst 0, 1) := by decide +kernel
theorem dX6_fits_64 : decode cX6_fits 64 = .ok (.goto 18, 3) := by decide +kernel
theorem dX6_fits_67 : decode cX6_fits 67 = .ok (.iload_n 1, 1) := by decide +kernel
theorem dX6_fits_68 : decode cX6_fits 68 = .ok (.iconst 2, 1) := by decide +kernel
theorem dX6_fits_69 : decode cX6_fits 69 = .ok (.if_icmp .ne 12, 3) := by decide +kernel
theorem dX6_fits_72 : decode cX6_fits 72 = .ok (.iload_n 2, 1) := by decide +kernel
theorem dX6_fits_73 : decode cX6_fits 73 = .ok (.iconst 1, 1) := by decide +kernel
theorem dX6_fits_74 : decode cX6_fits 74 = .ok (.if_icmp .ne 7, 3) := by decide +kernel
theorem dX6_fits_77 : decode cX6_fits 77 = .ok (.iconst 1, 1) := by decide +kernel
theorem dX6_fits_78 : decode cX6_fits 78 = .ok (.goto 4, 3) := by decide +kernel
theorem dX6_fits_81 : decode cX6_fits 81 = .ok (.iconst 0, 1) := by decide +kernel
theorem dX6_fits_82 : decode cX6_fits 82 = .ok (.ireturn, 1) := by decide +kernel
set_option maxRecDepth 20000 in
theorem ggX6_uses_X6_fits : GoodIn wsX6_uses wsX6_fits := goodIn_r _ [5] (by decide +kernel) (by decide +kernel)
set_option maxRecDepth 20000 in
theorem gX6_uses_X6_fits : GoodIn wsX6_uses (va_wsS RX6 59 yX6_fits wsX6_fits) := goodIn_app (goodIn_of _ (by decide +kernel)) ggX6_uses_X6_fits
theorem dX6_uses_0 : decode cX6_uses 0 = .ok (.iconst 0, 1) := by decide +kernel
theorem dX6_uses_1 : decode cX6_uses 1 = .ok (.istore_n 1, 1) := by decide +kernel
theorem dX6_uses_2 : decode cX6_uses 2 = .ok (.iload_n 1, 1) := by decide +kernel
theorem dX6_uses_3 : decode cX6_uses 3 = .ok (.bipush 12, 2) := by decide +kernel
theorem dX6_uses_5 : decode cX6_uses 5 = .ok (.if_icmp .ge 106, 3) := by decide +kernel
theorem dX6_uses_8 : decode cX6_uses 8 = .ok (.iconst 1, 1) := by decide +kernel
theorem dX6_uses_9 : decode cX6_uses 9 = .ok (.iload_n 1, 1) := by decide +kernel
theorem dX6_uses_10 : decode cX6_uses 10 = .ok (.iconst 3, 1) := by decide +kernel
theorem dX6_uses_11 : decode cX6_uses 11 = .ok (.idiv, 1) := by decide +kernel
theorem dX6_uses_12 : decode cX6_uses 12 = .ok (.iadd, 1) := by decide +kernel
theorem dX6_uses_13 : decode cX6_uses 13 = .ok (.istore_n 2, 1) := by decide +kernel
theorem dX6_uses_14 : decode cX6_uses 14 = .ok (.iload_n 1, 1) := by decide +kernel
theorem dX6_uses_15 : decode cX6_uses 15 = .ok (.iconst 3, 1) := by decide +kernel
theorem dX6_uses_16 : decode cX6_uses 16 = .ok (.irem, 1) := by decide +kernel
theorem dX6_uses_17 : decode cX6_uses 17 = .ok (.istore_n 3, 1) := by decide +kernel
theorem dX6_uses_18 : decode cX6_uses 18 = .ok (.iload_n 2, 1) := by decide +kernel
theorem dX6_uses_19 : decode cX6_uses 19 = .ok (.aload_n 0, 1) := by decide +kernel
theorem dX6_uses_20 : decode cX6_uses 20 = .ok (.getfield 13, 3) := by decide +kernel
theorem dX6_uses_23 : decode cX6_uses 23 = .ok (.iload_n 3, 1) := by decide +kernel
theorem dX6_uses_24 : decode cX6_uses 24 = .ok (.iaload, 1) := by decide +kernel
theorem dX6_uses_25 : decode cX6_uses 25 = .ok (.aload_n 0, 1) := by decide +kernel
theorem dX6_uses_26 : decode cX6_uses 26 = .ok (.getfield 13, 3) := by decide +kernel
theorem dX6_uses_29 : decode cX6_uses 29 = .ok (.iload_n 3, 1) := by decide +kernel
theorem dX6_uses_30 : decode cX6_uses 30 = .ok (.iconst 1, 1) := by decide +kernel
theorem dX6_uses_31 : decode cX6_uses 31 = .ok (.iadd, 1) := by decide +kernel
theorem dX6_uses_32 : decode cX6_uses 32 = .ok (.iaload, 1) := by decide +kernel
theorem dX6_uses_33 : decode cX6_uses 33 = .ok (.invokestatic 59, 3) := by decide +kernel
theorem dX6_uses_36 : decode cX6_uses 36 = .ok (.ifCond .eq 69, 3) := by decide +kernel
theorem dX6_uses_39 : decode cX6_uses 39 = .ok (.aload_n 0, 1) := by decide +kernel
theorem dX6_uses_40 : decode cX6_uses 40 = .ok (.getfield 13, 3) := by decide +kernel
theorem dX6_uses_43 : decode cX6_uses 43 = .ok (.iload_n 3, 1) := by decide +kernel
theorem dX6_uses_44 : decode cX6_uses 44 = .ok (.iaload, 1) := by decide +kernel
theorem dX6_uses_45 : decode cX6_uses 45 = .ok (.istore 4, 2) := by decide +kernel
theorem dX6_uses_47 : decode cX6_uses 47 = .ok (.aload_n 0, 1) := by decide +kernel
theorem dX6_uses_48 : decode cX6_uses 48 = .ok (.getfield 13, 3) := by decide +kernel
theorem dX6_uses_51 : decode cX6_uses 51 = .ok (.iload_n 3, 1) := by decide +kernel
theorem dX6_uses_52 : decode cX6_uses 52 = .ok (.iconst 1, 1) := by decide +kernel
theorem dX6_uses_53 : decode cX6_uses 53 = .ok (.iadd, 1) := by decide +kernel
theorem dX6_uses_54 : decode cX6_uses 54 = .ok (.iaload, 1) := by decide +kernel
theorem dX6_uses_55 : decode cX6_uses 55 = .ok (.istore 5, 2) := by decide +kernel
theorem dX6_uses_57 : decode cX6_uses 57 = .ok (.aload_n 0, 1) := by decide +kernel
theorem dX6_uses_58 : decode cX6_uses 58 = .ok (.getfield 13, 3) := by decide +kernel
theorem dX6_uses_61 : decode cX6_uses 61 = .ok (.iload_n 3, 1) := by decide +kernel
theorem dX6_uses_62 : decode cX6_uses 62 = .ok (.iload_n 2, 1) := by decide +kernel
theorem dX6_uses_63 : decode cX6_uses 63 = .ok (.iconst 4, 1) := by decide +kernel
theorem dX6_uses_64 : decode cX6_uses 64 = .ok (.if_icmp .ne 7, 3) := by decide +kernel
theorem dX6_uses_67 : decode cX6_uses 67 = .ok (.iconst 0, 1) := by decide +kernel
theorem dX6_uses_68 : decode cX6_uses 68 = .ok (.goto 15, 3) := by decide +kernel
theorem dX6_uses_71 : decode cX6_uses 71 = .ok (.iload_n 2, 1) := by decide +kernel
theorem dX6_uses_72 : decode cX6_uses 72 = .ok (.iconst 3, 1) := by decide +kernel
theorem dX6_uses_73 : decode cX6_uses 73 = .ok (.if_icmp .ne 8, 3) := by decide +kernel
theorem dX6_uses_76 : decode cX6_uses 76 = .ok (.iload 4, 2) := by decide +kernel
theorem dX6_uses_78 : decode cX6_uses 78 = .ok (.goto 5, 3) := by decide +kernel
theorem dX6_uses_81 : decode cX6_uses 81 = .ok (.iload 5, 2) := by decide +kernel
theorem dX6_uses_83 : decode cX6_uses 83 = .ok (.iastore, 1) := by decide +kernel
theorem dX6_uses_84 : decode cX6_uses 84 = .ok (.aload_n 0, 1) := by decide +kernel
theorem dX6_uses_85 : decode cX6_uses 85 = .ok (.getfield 13, 3) := by decide +kernel
theorem dX6_uses_88 : decode cX6_uses 88 = .ok (.iload_n 3, 1) := by decide +kernel
theorem dX6_uses_89 : decode cX6_uses 89 = .ok (.iconst 1, 1) := by decide +kernel
theorem dX6_uses_90 : decode cX6_uses 90 = .ok (.iadd, 1) := by decide +kernel
theorem dX6_uses_91 : decode cX6_uses 91 = .ok (.iload_n 2, 1) := by decide +kernel
theorem dX6_uses_92 : decode cX6_uses 92 = .ok (.iconst 2, 1) := by decide +kernel
theorem dX6_uses_93 : decode cX6_uses 93 = .ok (.if_icmp .le 7, 3) := by decide +kernel
theorem dX6_uses_96 : decode cX6_uses 96 = .ok (.iconst 0, 1) := by decide +kernel
theorem dX6_uses_97 : decode cX6_uses 97 = .ok (.goto 5, 3) := by decide +kernel
theorem dX6_uses_100 : decode cX6_uses 100 = .ok (.iload 4, 2) := by decide +kernel
theorem dX6_uses_102 : decode cX6_uses 102 = .ok (.iastore, 1) := by decide +kernel
theorem dX6_uses_103 : decode cX6_uses 103 = .ok (.iconst 1, 1) := by decide +kernel
theorem dX6_uses_104 : decode cX6_uses 104 = .ok (.ireturn, 1) := by decide +kernel
theorem dX6_uses_105 : decode cX6_uses 105 = .ok (.iinc 1 1, 3) := by decide +kernel
theorem dX6_uses_108 : decode cX6_uses 108 = .ok (.goto (-106), 3) := by decide +kernel
theorem dX6_uses_111 : decode cX6_uses 111 = .ok (.iconst 0, 1) := by decide +kernel
theorem dX6_uses_112 : decode cX6_uses 112 = .ok (.ireturn, 1) := by decide +kernel
set_option maxRecDepth 20000 in
theorem ggX6_formed_X6_uses : GoodIn wsX6_formed wsX6_uses := goodIn_r _ [6, 1, 7, 8, 5, 9, 10, 11, 12, 13, 14, 15, 16, 17, 18, 19, 20, 21, 22, 23, 24, 25, 26, 27] (by decide +kernel) (by decide +kernel)
set_option maxRecDepth 20000 in
theorem gX6_formed_X6_uses : GoodIn wsX6_formed (wsV RX6 63 RX6 yX6_uses wsX6_uses) := goodIn_app (goodIn_of _ (by decide +kernel)) ggX6_formed_X6_uses
theorem dX6_formed_0 : decode cX6_formed 0 = .ok (.iload_n 1, 1) := by decide +kernel
theorem dX6_formed_1 : decode cX6_formed 1 = .ok (.istore_n 2, 1) := by decide +kernel
theorem dX6_formed_2 : decode cX6_formed 2 = .ok (.iconst 3, 1) := by decide +kernel
theorem dX6_formed_3 : decode cX6_formed 3 = .ok (.istore_n 3, 1) := by decide +kernel
theorem dX6_formed_4 : decode cX6_formed 4 = .ok (.iload_n 3, 1) := by decide +kernel
theorem dX6_formed_5 : decode cX6_formed 5 = .ok (.ifCond .lt 24, 3) := by decide +kernel
theorem dX6_formed_8 : decode cX6_formed 8 = .ok (.aload_n 0, 1) := by decide +kernel
theorem dX6_formed_9 : decode cX6_formed 9 = .ok (.getfield 13, 3) := by decide +kernel
theorem dX6_formed_12 : decode cX6_formed 12 = .ok (.iload_n 3, 1) := by decide +kernel
theorem dX6_formed_13 : decode cX6_formed 13 = .ok (.iload_n 2, 1) := by decide +kernel
theorem dX6_formed_14 : decode cX6_formed 14 = .ok (.bipush 6, 2) := by decide +kernel
theorem dX6_formed_16 : decode cX6_formed 16 = .ok (.irem, 1) := by decide +kernel
theorem dX6_formed_17 : decode cX6_formed 17 = .ok (.iastore, 1) := by decide +kernel
theorem dX6_formed_18 : decode cX6_formed 18 = .ok (.iload_n 2, 1) := by decide +kernel
theorem dX6_formed_19 : decode cX6_formed 19 = .ok (.bipush 6, 2) := by decide +kernel
theorem dX6_formed_21 : decode cX6_formed 21 = .ok (.idiv, 1) := by decide +kernel
theorem dX6_formed_22 : decode cX6_formed 22 = .ok (.istore_n 2, 1) := by decide +kernel
theorem dX6_formed_23 : decode cX6_formed 23 = .ok (.iinc 3 (-1), 3) := by decide +kernel
theorem dX6_formed_26 : decode cX6_formed 26 = .ok (.goto (-22), 3) := by decide +kernel
theorem dX6_formed_29 : decode cX6_formed 29 = .ok (.iconst 1, 1) := by decide +kernel
theorem dX6_formed_30 : decode cX6_formed 30 = .ok (.istore_n 3, 1) := by decide +kernel
theorem dX6_formed_31 : decode cX6_formed 31 = .ok (.iload_n 3, 1) := by decide +kernel
theorem dX6_formed_32 : decode cX6_formed 32 = .ok (.ifCond .eq 11, 3) := by decide +kernel
theorem dX6_formed_35 : decode cX6_formed 35 = .ok (.aload_n 0, 1) := by decide +kernel
theorem dX6_formed_36 : decode cX6_formed 36 = .ok (.invokevirtual 63, 3) := by decide +kernel
theorem dX6_formed_39 : decode cX6_formed 39 = .ok (.istore_n 3, 1) := by decide +kernel
theorem dX6_formed_40 : decode cX6_formed 40 = .ok (.goto (-9), 3) := by decide +kernel
theorem dX6_formed_43 : decode cX6_formed 43 = .ok (.aload_n 0, 1) := by decide +kernel
theorem dX6_formed_44 : decode cX6_formed 44 = .ok (.getfield 13, 3) := by decide +kernel
theorem dX6_formed_47 : decode cX6_formed 47 = .ok (.iconst 0, 1) := by decide +kernel
theorem dX6_formed_48 : decode cX6_formed 48 = .ok (.iaload, 1) := by decide +kernel
theorem dX6_formed_49 : decode cX6_formed 49 = .ok (.bipush 6, 2) := by decide +kernel
theorem dX6_formed_51 : decode cX6_formed 51 = .ok (.imul, 1) := by decide +kernel
theorem dX6_formed_52 : decode cX6_formed 52 = .ok (.aload_n 0, 1) := by decide +kernel
theorem dX6_formed_53 : decode cX6_formed 53 = .ok (.getfield 13, 3) := by decide +kernel
theorem dX6_formed_56 : decode cX6_formed 56 = .ok (.iconst 1, 1) := by decide +kernel
theorem dX6_formed_57 : decode cX6_formed 57 = .ok (.iaload, 1) := by decide +kernel
theorem dX6_formed_58 : decode cX6_formed 58 = .ok (.iadd, 1) := by decide +kernel
theorem dX6_formed_59 : decode cX6_formed 59 = .ok (.bipush 6, 2) := by decide +kernel
theorem dX6_formed_61 : decode cX6_formed 61 = .ok (.imul, 1) := by decide +kernel
theorem dX6_formed_62 : decode cX6_formed 62 = .ok (.aload_n 0, 1) := by decide +kernel
theorem dX6_formed_63 : decode cX6_formed 63 = .ok (.getfield 13, 3) := by decide +kernel
theorem dX6_formed_66 : decode cX6_formed 66 = .ok (.iconst 2, 1) := by decide +kernel
theorem dX6_formed_67 : decode cX6_formed 67 = .ok (.iaload, 1) := by decide +kernel
theorem dX6_formed_68 : decode cX6_formed 68 = .ok (.iadd, 1) := by decide +kernel
theorem dX6_formed_69 : decode cX6_formed 69 = .ok (.bipush 6, 2) := by decide +kernel
theorem dX6_formed_71 : decode cX6_formed 71 = .ok (.imul, 1) := by decide +kernel
theorem dX6_formed_72 : decode cX6_formed 72 = .ok (.aload_n 0, 1) := by decide +kernel
theorem dX6_formed_73 : decode cX6_formed 73 = .ok (.getfield 13, 3) := by decide +kernel
theorem dX6_formed_76 : decode cX6_formed 76 = .ok (.iconst 3, 1) := by decide +kernel
theorem dX6_formed_77 : decode cX6_formed 77 = .ok (.iaload, 1) := by decide +kernel
theorem dX6_formed_78 : decode cX6_formed 78 = .ok (.iadd, 1) := by decide +kernel
theorem dX6_formed_79 : decode cX6_formed 79 = .ok (.ireturn, 1) := by decide +kernel
end
section
section NKA
variable {p : Program} {l : Launch} {e : Env} {R : Room} {s : State} {m : MethodId} {args : Array Value} {below : List Frame} {meth : Method} {c : Code} {H : Heap} {locs : List Loc} {cells slots : Nat} {Q : State → Prop}
variable {cc : ByteArray} {pc : Nat} {ls : Array Slot} {rest : List Value}
/-- the top of the stack by another name -/
theorem n_top {x y : Int32} (h : x = y) (k : W p l e R s m args below meth c H locs cells slots Q (F0 m pc ls (.int y :: rest))) : W p l e R s m args below meth c H locs cells slots Q (F0 m pc ls (.int x :: rest)) := by rw [h]; exact k
theorem n_nameQ {g : JFrame} (k : ∀ Q' : State → Prop, Q' = Q → W p l e R s m args below meth c H locs cells slots Q' g) : W p l e R s m args below meth c H locs cells slots Q g := k Q rfl
theorem n_add (hexec : p.tables.exec = Jvm.exec) (hb : c.code = cc) {a b : Nat} (hdg : decode cc pc = .ok (.iadd, 1)) (k : W p l e R s m args below meth c H locs cells slots Q (F0 m (pc + 1) ls (.int (nI (a + b)) :: rest))) : W p l e R s m args below meth c H locs cells slots Q (F0 m pc ls (.int (nI b) :: .int (nI a) :: rest)) := lv_iadd hexec hb hdg (n_top (nI_add a b) k)
theorem n_sub (hexec : p.tables.exec = Jvm.exec) (hb : c.code = cc) {a b : Nat} (hdg : decode cc pc = .ok (.isub, 1)) (h : b ≤ a) (k : W p l e R s m args below meth c H locs cells slots Q (F0 m (pc + 1) ls (.int (nI (a - b)) :: rest))) : W p l e R s m args below meth c H locs cells slots Q (F0 m pc ls (.int (nI b) :: .int (nI a) :: rest)) := lv_isub hexec hb hdg (n_top (pk_sub h) k)
theorem n_mul (hexec : p.tables.exec = Jvm.exec) (hb : c.code = cc) {a b : Nat} (hdg : decode cc pc = .ok (.imul, 1)) (k : W p l e R s m args below meth c H locs cells slots Q (F0 m (pc + 1) ls (.int (nI (a * b)) :: rest))) : W p l e R s m args below meth c H locs cells slots Q (F0 m pc ls (.int (nI b) :: .int (nI a) :: rest)) := lv_imul hexec hb hdg (n_top (pk_mul a b) k)
theorem n_div (hexec : p.tables.exec = Jvm.exec) (hb : c.code = cc) {a b : Nat} (hdg : decode cc pc = .ok (.idiv, 1)) (ha : a < 2147483648) (h0 : 0 < b) (hb2 : b < 2147483648) (k : W p l e R s m args below meth c H locs cells slots Q (F0 m (pc + 1) ls (.int (nI (a / b)) :: rest))) : W p l e R s m args below meth c H locs cells slots Q (F0 m pc ls (.int (nI b) :: .int (nI a) :: rest)) := lv_idiv hexec hb hdg (nI_ne0 h0 hb2) (n_top (pk_div ha h0 hb2) k)
theorem n_rem (hexec : p.tables.exec = Jvm.exec) (hb : c.code = cc) {a b : Nat} (hdg : decode cc pc = .ok (.irem, 1)) (ha : a < 2147483648) (h0 : 0 < b) (hb2 : b < 2147483648) (k : W p l e R s m args below meth c H locs cells slots Q (F0 m (pc + 1) ls (.int (nI (a % b)) :: rest))) : W p l e R s m args below meth c H locs cells slots Q (F0 m pc ls (.int (nI b) :: .int (nI a) :: rest)) := lv_irem hexec hb hdg (nI_ne0 h0 hb2) (n_top (pk_rem ha h0 hb2) k)
theorem n_inc1 (a : Nat) : nI a + Int32.ofInt 1 = nI (a + 1) := nI_1 a
theorem n_dec1 (a : Nat) : nI (a + 1) + Int32.ofInt (-1) = nI a := pk_m1 a
theorem n_z : nI 0 = 0 := nI_0
theorem n_icmp_ge (hexec : p.tables.exec = Jvm.exec) (hb : c.code = cc) {a b : Nat} {off : Int} {tgt : Nat} (hdg : decode cc pc = .ok (.if_icmp .ge off, 3)) (ht : (pc : Int) + off = (tgt : Int)) (ha : a < 2147483648) (hb2 : b < 2147483648)
    (kt : b ≤ a → W p l e R s m args below meth c H locs cells slots Q (F0 m tgt ls rest)) (kf : a < b → W p l e R s m args below meth c H locs cells slots Q (F0 m (pc + 3) ls rest)) : W p l e R s m args below meth c H locs cells slots Q (F0 m pc ls (.int (nI b) :: .int (nI a) :: rest)) :=
  lv_icmp_ge hexec hb hdg ht (fun h => kt ((nI_leI hb2 ha).mp h)) (fun h => kf (Nat.lt_of_not_le (fun q => h ((nI_leI hb2 ha).mpr q))))
theorem n_icmp_lt (hexec : p.tables.exec = Jvm.exec) (hb : c.code = cc) {a b : Nat} {off : Int} {tgt : Nat} (hdg : decode cc pc = .ok (.if_icmp .lt off, 3)) (ht : (pc : Int) + off = (tgt : Int)) (ha : a < 2147483648) (hb2 : b < 2147483648)
    (kt : a < b → W p l e R s m args below meth c H locs cells slots Q (F0 m tgt ls rest)) (kf : b ≤ a → W p l e R s m args below meth c H locs cells slots Q (F0 m (pc + 3) ls rest)) : W p l e R s m args below meth c H locs cells slots Q (F0 m pc ls (.int (nI b) :: .int (nI a) :: rest)) :=
  lv_icmp_lt hexec hb hdg ht (fun h => kt ((nI_ltI ha hb2).mp h)) (fun h => kf (Nat.le_of_not_lt (fun q => h ((nI_ltI ha hb2).mpr q))))
theorem n_icmp_gt (hexec : p.tables.exec = Jvm.exec) (hb : c.code = cc) {a b : Nat} {off : Int} {tgt : Nat} (hdg : decode cc pc = .ok (.if_icmp .gt off, 3)) (ht : (pc : Int) + off = (tgt : Int)) (ha : a < 2147483648) (hb2 : b < 2147483648)
    (kt : b < a → W p l e R s m args below meth c H locs cells slots Q (F0 m tgt ls rest)) (kf : a ≤ b → W p l e R s m args below meth c H locs cells slots Q (F0 m (pc + 3) ls rest)) : W p l e R s m args below meth c H locs cells slots Q (F0 m pc ls (.int (nI b) :: .int (nI a) :: rest)) :=
  lv_icmp_gt hexec hb hdg ht (fun h => kt ((nI_ltI hb2 ha).mp h)) (fun h => kf (Nat.le_of_not_lt (fun q => h ((nI_ltI hb2 ha).mpr q))))
theorem n_icmp_le (hexec : p.tables.exec = Jvm.exec) (hb : c.code = cc) {a b : Nat} {off : Int} {tgt : Nat} (hdg : decode cc pc = .ok (.if_icmp .le off, 3)) (ht : (pc : Int) + off = (tgt : Int)) (ha : a < 2147483648) (hb2 : b < 2147483648)
    (kt : a ≤ b → W p l e R s m args below meth c H locs cells slots Q (F0 m tgt ls rest)) (kf : b < a → W p l e R s m args below meth c H locs cells slots Q (F0 m (pc + 3) ls rest)) : W p l e R s m args below meth c H locs cells slots Q (F0 m pc ls (.int (nI b) :: .int (nI a) :: rest)) :=
  lv_icmp_le hexec hb hdg ht (fun h => kt ((nI_leI ha hb2).mp h)) (fun h => kf (Nat.lt_of_not_le (fun q => h ((nI_leI ha hb2).mpr q))))
theorem n_icmp_eq (hexec : p.tables.exec = Jvm.exec) (hb : c.code = cc) {a b : Nat} {off : Int} {tgt : Nat} (hdg : decode cc pc = .ok (.if_icmp .eq off, 3)) (ht : (pc : Int) + off = (tgt : Int)) (ha : a < 2147483648) (hb2 : b < 2147483648)
    (kt : a = b → W p l e R s m args below meth c H locs cells slots Q (F0 m tgt ls rest)) (kf : a ≠ b → W p l e R s m args below meth c H locs cells slots Q (F0 m (pc + 3) ls rest)) : W p l e R s m args below meth c H locs cells slots Q (F0 m pc ls (.int (nI b) :: .int (nI a) :: rest)) :=
  lv_icmp_eq hexec hb hdg ht (fun h => kt ((nI_eq ha hb2).mp h)) (fun h => kf (fun q => h ((nI_eq ha hb2).mpr q)))
theorem n_icmp_ne (hexec : p.tables.exec = Jvm.exec) (hb : c.code = cc) {a b : Nat} {off : Int} {tgt : Nat} (hdg : decode cc pc = .ok (.if_icmp .ne off, 3)) (ht : (pc : Int) + off = (tgt : Int)) (ha : a < 2147483648) (hb2 : b < 2147483648)
    (kt : a ≠ b → W p l e R s m args below meth c H locs cells slots Q (F0 m tgt ls rest)) (kf : a = b → W p l e R s m args below meth c H locs cells slots Q (F0 m (pc + 3) ls rest)) : W p l e R s m args below meth c H locs cells slots Q (F0 m pc ls (.int (nI b) :: .int (nI a) :: rest)) :=
  lv_icmp_ne hexec hb hdg ht (fun h => kt (fun q => h ((nI_eq ha hb2).mpr q))) (fun h => kf ((nI_eq ha hb2).mp h))
theorem n_eq0 {a : Nat} (ha : a < 2147483648) : nI a = 0 ↔ a = 0 := by rw [← nI_0]; exact nI_eq ha (by decide)
theorem n_ifeq (hexec : p.tables.exec = Jvm.exec) (hb : c.code = cc) {a : Nat} {off : Int} {tgt : Nat} (hdg : decode cc pc = .ok (.ifCond .eq off, 3)) (ht : (pc : Int) + off = (tgt : Int)) (ha : a < 2147483648)
    (kt : a = 0 → W p l e R s m args below meth c H locs cells slots Q (F0 m tgt ls rest)) (kf : a ≠ 0 → W p l e R s m args below meth c H locs cells slots Q (F0 m (pc + 3) ls rest)) : W p l e R s m args below meth c H locs cells slots Q (F0 m pc ls (.int (nI a) :: rest)) :=
  lv_if_eq hexec hb hdg ht (fun h => kt ((n_eq0 ha).mp h)) (fun h => kf (fun q => h ((n_eq0 ha).mpr q)))
theorem n_ifne (hexec : p.tables.exec = Jvm.exec) (hb : c.code = cc) {a : Nat} {off : Int} {tgt : Nat} (hdg : decode cc pc = .ok (.ifCond .ne off, 3)) (ht : (pc : Int) + off = (tgt : Int)) (ha : a < 2147483648)
    (kt : a ≠ 0 → W p l e R s m args below meth c H locs cells slots Q (F0 m tgt ls rest)) (kf : a = 0 → W p l e R s m args below meth c H locs cells slots Q (F0 m (pc + 3) ls rest)) : W p l e R s m args below meth c H locs cells slots Q (F0 m pc ls (.int (nI a) :: rest)) :=
  lv_if_ne hexec hb hdg ht (fun h => kt (fun q => h ((n_eq0 ha).mpr q))) (fun h => kf ((n_eq0 ha).mp h))
theorem n_iflt (hexec : p.tables.exec = Jvm.exec) (hb : c.code = cc) {a : Nat} {off : Int} {tgt : Nat} (hdg : decode cc pc = .ok (.ifCond .lt off, 3)) (ht : (pc : Int) + off = (tgt : Int)) (ha : a < 2147483648)
    (kf : W p l e R s m args below meth c H locs cells slots Q (F0 m (pc + 3) ls rest)) : W p l e R s m args below meth c H locs cells slots Q (F0 m pc ls (.int (nI a) :: rest)) :=
  lv_if_lt hexec hb hdg ht (fun h => absurd h (nI_pos ha)) (fun _ => kf)
theorem n_ifge (hexec : p.tables.exec = Jvm.exec) (hb : c.code = cc) {a : Nat} {off : Int} {tgt : Nat} (hdg : decode cc pc = .ok (.ifCond .ge off, 3)) (ht : (pc : Int) + off = (tgt : Int)) (ha : a < 2147483648)
    (kt : W p l e R s m args below meth c H locs cells slots Q (F0 m tgt ls rest)) : W p l e R s m args below meth c H locs cells slots Q (F0 m pc ls (.int (nI a) :: rest)) :=
  lv_if_ge hexec hb hdg ht (fun _ => kt) (fun h => absurd (nI_pos' ha) h)
theorem n_ifle (hexec : p.tables.exec = Jvm.exec) (hb : c.code = cc) {a : Nat} {off : Int} {tgt : Nat} (hdg : decode cc pc = .ok (.ifCond .le off, 3)) (ht : (pc : Int) + off = (tgt : Int)) (ha : a < 2147483648)
    (kt : a = 0 → W p l e R s m args below meth c H locs cells slots Q (F0 m tgt ls rest)) (kf : 0 < a → W p l e R s m args below meth c H locs cells slots Q (F0 m (pc + 3) ls rest)) : W p l e R s m args below meth c H locs cells slots Q (F0 m pc ls (.int (nI a) :: rest)) :=
  lv_if_le hexec hb hdg ht (fun h => kt (Decidable.byContradiction fun q => nI_nle (Nat.pos_of_ne_zero q) ha h)) (fun h => kf (Nat.pos_of_ne_zero (fun q => h (by rw [q]; decide))))
theorem n_ifgt (hexec : p.tables.exec = Jvm.exec) (hb : c.code = cc) {a : Nat} {off : Int} {tgt : Nat} (hdg : decode cc pc = .ok (.ifCond .gt off, 3)) (ht : (pc : Int) + off = (tgt : Int)) (ha : a < 2147483648)
    (kt : 0 < a → W p l e R s m args below meth c H locs cells slots Q (F0 m tgt ls rest)) (kf : a = 0 → W p l e R s m args below meth c H locs cells slots Q (F0 m (pc + 3) ls rest)) : W p l e R s m args below meth c H locs cells slots Q (F0 m pc ls (.int (nI a) :: rest)) :=
  lv_if_gt hexec hb hdg ht (fun h => kt (Nat.pos_of_ne_zero (fun q => absurd h (by rw [q]; decide)))) (fun h => kf (Decidable.byContradiction fun q => h ((nI_0 ▸ nI_lt (Nat.pos_of_ne_zero q) ha))))
variable {D : va_G} {cl : List vw_C} {A : Nat → Prop} {a : Nat} {tys : List (ClassId × FieldType)} {ws ws' : va_W} {H0 : Heap}
theorem n_iald (hexec : p.tables.exec = Jvm.exec) (hb : c.code = cc) (hK : va_K D cl tys s) (hP : va_P D cl ws H) (q0 t0 : Nat) {cA : ClassId} {n k : Nat} {f : Nat → Int32} (ha : ws[q0]? = some (a, .inl (cA, n, .inl f))) (ht : tys[t0]? = some (cA, .int)) (hk : k < n) (hn : n < 2147483648) (hdg : decode cc pc = .ok (.iaload, 1))
    (kk : W p l e R s m args below meth c H locs cells slots Q (F0 m (pc + 1) ls (.int (f k) :: rest))) : W p l e R s m args below meth c H locs cells slots Q (F0 m pc ls (.int (nI k) :: .ref a :: rest)) := by
  refine va_iald hexec hb hK hP q0 t0 ha ht (vp_in_nI hk hn) hdg ?_
  rw [nI_clamp (Nat.lt_trans hk hn)]
  exact kk
theorem n_iast (hexec : p.tables.exec = Jvm.exec) (hb : c.code = cc) (hK : va_K D cl tys s) (hP : va_P D cl ws H) (hD : va_D A ws) (hS : va_S A H0 H locs) (q0 t0 : Nat) {cA : ClassId} {n k : Nat} {f : Nat → Int32} (ha : ws[q0]? = some (a, .inl (cA, n, .inl f))) (ht : tys[t0]? = some (cA, .int)) (hk : k < n) (hn : n < 2147483648) {x : Int32} (hdg : decode cc pc = .ok (.iastore, 1)) (hw : ws.set q0 (a, .inl (cA, n, .inl (upd f k x))) = ws')
    (kk : ∀ (H1 : Heap) (locs1 : List Loc), va_P D cl ws' H1 → va_D A ws' → va_S A H0 H1 locs1 → W p l e R s m args below meth c H1 locs1 cells slots Q (F0 m (pc + 1) ls rest)) : W p l e R s m args below meth c H locs cells slots Q (F0 m pc ls (.int x :: .int (nI k) :: .ref a :: rest)) := by
  refine va_iast hexec hb hK hP hD hS q0 t0 ha ht (vp_in_nI hk hn) hdg (fun H1 locs1 h1 h2 h3 => ?_)
  rw [nI_clamp (Nat.lt_trans hk hn), hw] at h1 h2
  exact kk H1 locs1 h1 h2 h3
end NKA
section NKB
theorem n_arrV {cA : ClassId} {n : Nat} {f g : Nat → Value} (h : ∀ j, j < n → f j = g j) : arrV cA n f = arrV cA n g := by
  unfold arrV
  congr 1
  apply Array.ext
  · simp
  · intro i h1 h2
    simp only [Array.getElem_ofFn]
    exact h i (by simpa using h1)
theorem n_D {A : Nat → Prop} {ws ws' : va_W} (hD : va_D A ws) (h : ws'.map Prod.fst = ws.map Prod.fst) : va_D A ws' := by
  have key : ∀ (k : Nat) (q : Nat × va_E), ws'[k]? = some q → ∃ q', ws[k]? = some q' ∧ q'.1 = q.1 := fun k q hk => by
    have h1 : (ws'.map Prod.fst)[k]? = some q.1 := by rw [List.getElem?_map, hk]; rfl
    rw [h, List.getElem?_map] at h1
    cases hq : ws[k]? with
    | none => rw [hq] at h1; cases h1
    | some q' => rw [hq] at h1; exact ⟨q', rfl, Option.some.inj h1⟩
  refine ⟨fun i j p q hi hj he => ?_, fun k q hk => ?_⟩
  · obtain ⟨p', h1, e1⟩ := key i p hi
    obtain ⟨q', h2, e2⟩ := key j q hj
    exact hD.1 i j p' q' h1 h2 (by rw [e1, e2, he])
  · obtain ⟨q', h1, e1⟩ := key k q hk
    rw [← e1]; exact hD.2 k q' h1
/-- another function for what an int array holds -/
theorem n_cg {D : va_G} {cl : List vw_C} {A : Nat → Prop} {H : Heap} {ws ws' : va_W} (hP : va_P D cl ws H) (hD : va_D A ws) (q0 : Nat) {a : Nat} {cA : ClassId} {n : Nat} {f g : Nat → Int32} (ha : ws[q0]? = some (a, .inl (cA, n, .inl f))) (hg : ∀ j, j < n → f j = g j) (hw : ws.set q0 (a, .inl (cA, n, .inl g)) = ws') : va_P D cl ws' H ∧ va_D A ws' := by
  have hlt : q0 < ws.length := (List.getElem?_eq_some_iff.mp ha).1
  constructor
  · intro k q hk
    rw [← hw, List.getElem?_set] at hk
    by_cases h : q0 = k
    · subst h
      rw [if_pos rfl, if_pos hlt] at hk
      cases hk
      have h1 := hP q0 _ ha
      show H[a]? = some (arrV cA n (fun j => .int (g j)))
      rw [← n_arrV (f := fun j => .int (f j)) (fun j hj => by rw [hg j hj])]
      exact h1
    · rw [if_neg h] at hk
      exact hP k q hk
  · refine n_D hD ?_
    rw [← hw]
    apply List.ext_getElem?
    intro k
    rw [List.getElem?_map, List.getElem?_map, List.getElem?_set]
    by_cases h : q0 = k
    · subst h
      rw [if_pos rfl, if_pos hlt, ha]; rfl
    · rw [if_neg h]
theorem n_fm {α β : Type} {f : α → Option β} {is : List α} {l : List β} (h : is.map f = l.map some) : is.filterMap f = l := by
  induction is generalizing l with
  | nil => cases l with
    | nil => rfl
    | cons _ _ => cases h
  | cons i is ih => cases l with
    | nil => cases h
    | cons b l =>
      simp only [List.map_cons, List.cons.injEq] at h
      rw [List.filterMap_cons, h.1]
      exact congrArg (b :: ·) (ih h.2)
end NKB
/-- a method that reads: the world stays, the answer is r -/
def nRd (l : Launch) (y : MethodName) (ws : List Cond) (rm : Room) (d : va_G) (tys : List (ClassId × FieldType)) (WC : va_W) (av : List Value) (r : Value) : Prop :=
  Met l y ws rm (va_Pc av (fun U => va_P d vwCl WC U.heap ∧ va_K d vwCl tys U)) (fun _ st oc t => oc = .returned (some r) ∧ t.heap = st.heap) 0 0 (fun _ => False)
/-- a method that writes: the world WC becomes WC', no cell comes, the answer is r -/
def nUp (l : Launch) (y : MethodName) (ws : List Cond) (rm : Room) (d : va_G) (tys : List (ClassId × FieldType)) (WC WC' : va_W) (av : List Value) (r : Option Value) : Prop :=
  ∀ sz : Nat, Met l y ws rm (va_Pc av (fun U => U.heap.size = sz ∧ va_P d vwCl WC U.heap ∧ va_K d vwCl tys U ∧ va_D (fun _ => True) WC)) (fun _ st oc t => (oc = .returned r ∧ va_P d vwCl WC' t.heap ∧ va_D (va_A WC sz) WC') ∧ va_F (va_A WC sz) st t) 0 0 (va_A WC sz)
section NKC
variable {p : Program} {l : Launch} {e : Env} {R : Room} {s : State} {m : MethodId} {args : Array Value} {below : List Frame} {meth : Method} {c : Code} {H : Heap} {locs : List Loc} {cells slots : Nat} {Q : State → Prop}
variable {cc bytes : ByteArray} {pc : Nat} {ls : Array Slot} {rest st0 : List Value} {y : MethodName} {maxL nL n index : Nat} {ret : Option FieldType} {ws Ts : List Cond} {rm : Room} {own C : String} {b : Addr} {As : List Value}
variable {d : va_G} {tys : List (ClassId × FieldType)} {WC WC' WS WS' wr : va_W} {r : Value} {ro : Option Value} {A : Nat → Prop} {H0 : Heap}
theorem n_rdB {av : List Value} {W' : va_W} : FrameBlind (va_Pc av (fun U => va_P d vwCl W' U.heap ∧ va_K d vwCl tys U)) := fun a U g mk q => by obtain ⟨q0, qP, qK⟩ := q; exact ⟨q0, qP, va_K.moved (u := U) (U := U.calling g mk a) (Vm.Alike.refl U.vm) qK⟩
theorem n_upB {av : List Value} {W' : va_W} {sz : Nat} : FrameBlind (va_Pc av (fun U => U.heap.size = sz ∧ va_P d vwCl W' U.heap ∧ va_K d vwCl tys U ∧ va_D (fun _ => True) W')) := fun a U g mk q => by obtain ⟨q0, q1, qP, qK, qD⟩ := q; exact ⟨q0, q1, qP, va_K.moved (u := U) (U := U.calling g mk a) (Vm.Alike.refl U.vm) qK, qD⟩
theorem n_rdV (S : CallFix p m c cc nL s args Ts own) (hM : nRd l y ws rm d tys WC (.ref b :: As) r) (cw : CallW R s args own C index y bytes maxL ret ws rm 0 0 n)
    (hrecv : ∃ cell : Cell, H[b]? = some cell ∧ cell.vm.isStatics = false ∧ s.vm.findClass C = some cell.cls) (hP : va_P d vwCl WC H) (hK : va_K d vwCl tys s)
    (hn : As.length = n) (hsize : ls.size = nL) (hstack : st0 = As.reverse ++ .ref b :: rest) (hW : (rest.map fun v => v.category).sum ≤ 8) (hdg : decode cc pc = .ok (.invokevirtual index, 3)) (hf : cells + 0 ≤ R.cells ∧ slots + 0 ≤ R.slots)
    (kk : W p l e R s m args below meth c H locs cells slots Q (F0 m (pc + 3) ls (r :: rest))) : W p l e R s m args below meth c H locs cells slots Q (F0 m pc ls st0) := by
  have hr := W.runV (p := p) (l := l) (e := e) (below := below) (meth := meth) (locs := locs) (cells := cells) (slots := slots) (rest := rest) (g := F0 m pc ls st0) S hM cw ⟨n_rdB, hrecv, fun U hU hW => ⟨rfl, by rw [hU]; exact hP, va_K.moved hW.alike hK⟩⟩ rfl hn hsize hstack (lv_room hW) hdg hf
  intro T hT X
  obtain ⟨v, st₀, t, T', L, h0, X', hL, e1, ⟨hv, hh⟩, st⟩ := hr T hT X
  cases hv
  obtain ⟨t2, a1, b1⟩ := kk T' (by rw [e1, hh, h0]) (Stand.forget X' (fun q h => (hL q h).elim))
  exact ⟨t2, st t2 a1, b1⟩
theorem n_rdS (S : CallFix p m c cc nL s args Ts own) (hM : nRd l y ws rm d tys WC As r) (cw : CallB R s args own index y bytes maxL ret ws rm 0 0 n ∧ (Cond.static y).before args s = true)
    (hP : va_P d vwCl WC H) (hK : va_K d vwCl tys s)
    (hn : As.length = n) (hsize : ls.size = nL) (hstack : st0 = As.reverse ++ rest) (hW : (rest.map fun v => v.category).sum ≤ 8) (hdg : decode cc pc = .ok (.invokestatic index, 3)) (hf : cells + 0 ≤ R.cells ∧ slots + 0 ≤ R.slots)
    (kk : W p l e R s m args below meth c H locs cells slots Q (F0 m (pc + 3) ls (r :: rest))) : W p l e R s m args below meth c H locs cells slots Q (F0 m pc ls st0) := by
  have hr := W.runS (p := p) (l := l) (e := e) (below := below) (meth := meth) (H := H) (locs := locs) (cells := cells) (slots := slots) (rest := rest) (g := F0 m pc ls st0) S hM cw ⟨n_rdB, fun U hU hW => ⟨rfl, by rw [hU]; exact hP, va_K.moved hW.alike hK⟩⟩ rfl hn hsize hstack (lv_room hW) hdg hf
  intro T hT X
  obtain ⟨v, st₀, t, T', L, h0, X', hL, e1, ⟨hv, hh⟩, st⟩ := hr T hT X
  cases hv
  obtain ⟨t2, a1, b1⟩ := kk T' (by rw [e1, hh, h0]) (Stand.forget X' (fun q h => (hL q h).elim))
  exact ⟨t2, st t2 a1, b1⟩
/-- behind a call that writes: the caller's world -/
theorem n_back {T : State} {st0' t T' : State} {L : List Loc} (hP : va_P d vwCl WS H) (hD : va_D A WS) (hS : va_S A H0 H locs) (hA : ∀ q, H0.size ≤ q → A q) (isC isR pm : List Nat)
    (hC : isC.map (fun i => WS[i]?) = WC.map some) (hR : isR.map (fun i => WS[i]?) = wr.map some) (hnd : va_nd isR = true ∧ va_nd pm = true) (hdis : ∀ i ∈ isR, i ∉ isC) (hpm : pm.map (fun i => (wr ++ WC')[i]?) = WS'.map some)
    (h0 : st0'.heap = H) (hL : ∀ q ∈ L, va_A WC H.size q.base) (e1 : T'.heap = t.heap) (hp : va_P d vwCl WC' t.heap) (hd : va_D (va_A WC H.size) WC') (hF : va_F (va_A WC H.size) st0' t) : va_P d vwCl WS' T'.heap ∧ va_D A WS' ∧ va_S A H0 T'.heap (locs ++ L) := by
  have hFc := va_free hD hS hA isC hC
  obtain ⟨hz, hk⟩ := hF
  rw [h0] at hz hk
  have hj := va_join hP hD isC isR hC hR hnd.1 hdis hk hFc hp hd
  refine ⟨by rw [e1]; exact hj.1.sub pm (n_fm hpm), hj.2.sub pm hnd.2 hpm, ?_⟩
  exact ⟨Nat.le_trans hS.1 (by rw [e1]; exact hz), fun q h1 h2 => by rw [e1, hk q (Nat.lt_of_lt_of_le h1 hS.1) (fun z => h2 (hFc q z))]; exact hS.2.1 q h1 h2, fun q hq => by
      rcases List.mem_append.mp hq with h | h
      · exact hS.2.2 q h
      · exact hFc _ (hL q h)⟩
theorem n_upV (S : CallFix p m c cc nL s args Ts own) (hM : nUp l y ws rm d tys WC WC' (.ref b :: As) ro) (cw : CallW R s args own C index y bytes maxL ret ws rm 0 0 n)
    (hrecv : ∃ cell : Cell, H[b]? = some cell ∧ cell.vm.isStatics = false ∧ s.vm.findClass C = some cell.cls) (hP : va_P d vwCl WS H) (hD : va_D A WS) (hS : va_S A H0 H locs) (hA : ∀ q, H0.size ≤ q → A q) (hK : va_K d vwCl tys s) (isC isR pm : List Nat)
    (hC : isC.map (fun i => WS[i]?) = WC.map some) (hR : isR.map (fun i => WS[i]?) = wr.map some) (hnc : va_nd isC = true) (hnd : va_nd isR = true ∧ va_nd pm = true) (hdis : ∀ i ∈ isR, i ∉ isC) (hpm : pm.map (fun i => (wr ++ WC')[i]?) = WS'.map some)
    (hn : As.length = n) (hsize : ls.size = nL) (hstack : st0 = As.reverse ++ .ref b :: rest) (hW : (rest.map fun v => v.category).sum ≤ 8) (hdg : decode cc pc = .ok (.invokevirtual index, 3)) (hf : cells + 0 ≤ R.cells ∧ slots + 0 ≤ R.slots)
    (kk : ∀ (H1 : Heap) (locs1 : List Loc), va_P d vwCl WS' H1 → va_D A WS' → va_S A H0 H1 locs1 → W p l e R s m args below meth c H1 locs1 cells slots Q (F0 m (pc + 3) ls (ro.toList ++ rest))) : W p l e R s m args below meth c H locs cells slots Q (F0 m pc ls st0) := by
  have hPc : va_P d vwCl WC H := hP.sub isC (n_fm hC)
  have hDc : va_D (fun _ => True) WC := (hD.sub isC hnc hC).weaken (fun _ _ _ _ => trivial)
  have hr := W.runV (p := p) (l := l) (e := e) (below := below) (meth := meth) (locs := locs) (cells := cells) (slots := slots) (rest := rest) (g := F0 m pc ls st0) S (hM H.size) cw ⟨n_upB, hrecv, fun U hU hW => ⟨rfl, by rw [hU], by rw [hU]; exact hPc, va_K.moved hW.alike hK, hDc⟩⟩ rfl hn hsize hstack (lv_room hW) hdg hf
  intro T hT X
  obtain ⟨v, st₀, t, T', L, h0, X', hL, e1, ⟨⟨hv, hp, hd⟩, hF⟩, st⟩ := hr T hT X
  cases hv
  obtain ⟨g1, g2, g3⟩ := n_back (T := T) hP hD hS hA isC isR pm hC hR hnd hdis hpm h0 hL e1 hp hd hF
  obtain ⟨t2, a1, b1⟩ := kk T'.heap (locs ++ L) g1 g2 g3 T' rfl X'
  exact ⟨t2, st t2 a1, b1⟩
theorem n_upS (S : CallFix p m c cc nL s args Ts own) (hM : nUp l y ws rm d tys WC WC' As ro) (cw : CallB R s args own index y bytes maxL ret ws rm 0 0 n ∧ (Cond.static y).before args s = true)
    (hP : va_P d vwCl WS H) (hD : va_D A WS) (hS : va_S A H0 H locs) (hA : ∀ q, H0.size ≤ q → A q) (hK : va_K d vwCl tys s) (isC isR pm : List Nat)
    (hC : isC.map (fun i => WS[i]?) = WC.map some) (hR : isR.map (fun i => WS[i]?) = wr.map some) (hnc : va_nd isC = true) (hnd : va_nd isR = true ∧ va_nd pm = true) (hdis : ∀ i ∈ isR, i ∉ isC) (hpm : pm.map (fun i => (wr ++ WC')[i]?) = WS'.map some)
    (hn : As.length = n) (hsize : ls.size = nL) (hstack : st0 = As.reverse ++ rest) (hW : (rest.map fun v => v.category).sum ≤ 8) (hdg : decode cc pc = .ok (.invokestatic index, 3)) (hf : cells + 0 ≤ R.cells ∧ slots + 0 ≤ R.slots)
    (kk : ∀ (H1 : Heap) (locs1 : List Loc), va_P d vwCl WS' H1 → va_D A WS' → va_S A H0 H1 locs1 → W p l e R s m args below meth c H1 locs1 cells slots Q (F0 m (pc + 3) ls (ro.toList ++ rest))) : W p l e R s m args below meth c H locs cells slots Q (F0 m pc ls st0) := by
  have hPc : va_P d vwCl WC H := hP.sub isC (n_fm hC)
  have hDc : va_D (fun _ => True) WC := (hD.sub isC hnc hC).weaken (fun _ _ _ _ => trivial)
  have hr := W.runS (p := p) (l := l) (e := e) (below := below) (meth := meth) (H := H) (locs := locs) (cells := cells) (slots := slots) (rest := rest) (g := F0 m pc ls st0) S (hM H.size) cw ⟨n_upB, fun U hU hW => ⟨rfl, by rw [hU], by rw [hU]; exact hPc, va_K.moved hW.alike hK, hDc⟩⟩ rfl hn hsize hstack (lv_room hW) hdg hf
  intro T hT X
  obtain ⟨v, st₀, t, T', L, h0, X', hL, e1, ⟨⟨hv, hp, hd⟩, hF⟩, st⟩ := hr T hT X
  cases hv
  obtain ⟨g1, g2, g3⟩ := n_back (T := T) hP hD hS hA isC isR pm hC hR hnd hdis hpm h0 hL e1 hp hd hF
  obtain ⟨t2, a1, b1⟩ := kk T'.heap (locs ++ L) g1 g2 g3 T' rfl X'
  exact ⟨t2, st t2 a1, b1⟩
end NKC
end
section
set_option maxHeartbeats 4000000 in
set_option maxRecDepth 100000 in
/-- reads -/
theorem c_X2_get (l : Launch) (d : va_G) (cI : ClassId) (q a n : Nat) (f : Nat → Int32) (k : Nat) (hk : k < n) (hn : n < 2147483648) : nRd l yX2_get wsX2_get ({ frames := 0, cells := 0, slots := 0, locals := 0 } : Room) d [(cI, .int)] [(q, .inr (2, [.ref a])), (a, .inl (cI, n, .inl (f)))] [.ref q, .int (nI (k))] (.int (f k)) := by
  refine Met.ofW (cc := cX2_get) (maxL := 2) (ret := some .int) (by decide) rfl ?_
  intro p e s m args below meth c s₁ B hml hv
  obtain ⟨rfl, hP, hK⟩ := hv
  have hx := B.exec
  have hb := B.bytes
  have hr := B.returns
  have hts := atoms_spec (ws := wsX2_get) B.pre
  have hown : s.vm.findClass RX2 = some m.cls := findClass_of_methodNamed B.named
  have hlocks := B.notSynchronized
  have hfl7 := hts (.fieldLink RX2 7 "Nudgelane$Row" "cells" "[I") (by decide +kernel)
  have hin2 : ∀ w ∈ u_ws RX2 TX2 1, w ∈ wsX2_get := by decide +kernel
  have hP : va_P d vwCl [(q, .inr (2, [.ref a])), (a, .inl (cI, n, .inl (f)))] s.heap := hP
  have hl := lv_entry ([.ref q, .int (nI (k))]) (n := 2) (Nat.le_of_ble_eq_true rfl)
  rw [lg_entry_eq]
  generalize (lg_sl ([.ref q, .int (nI (k))]) ++ List.replicate (2 - (lg_sl ([.ref q, .int (nI (k))])).length) Slot.unset).toArray = ls at hl ⊢
  have hl : lv_has ls 2 [(0, .ref q), (1, .int (nI (k)))] := hl
  refine lv_iload_n hx hb dX2_get_0 rfl (lv_at hl 1 rfl) ?_
  refine n_iflt (tgt := 22) hx hb dX2_get_1 (by decide) (by omega) ?_
  refine lv_iload_n hx hb dX2_get_4 rfl (lv_at hl 1 rfl) ?_
  refine lv_aload_n hx hb dX2_get_5 rfl (lv_at hl 0 rfl) ?_
  refine va_get (D := d) (ci := 2) (v := .ref a) (C := RX2) (T := TX2) (N := 1) hx hb hts hin2 hown hK hP 0 rfl rfl 0 (by decide) hfl7 (fun _ h9 => h9) rfl dX2_get_6 ?_
  refine va_alen hx hb hK hP 1 0 rfl rfl (v := nI (n)) rfl dX2_get_9 ?_
  refine n_icmp_ge (tgt := 22) hx hb dX2_get_10 (by decide) (by omega) (by omega) (fun c_2 => ?_) (fun c_2 => ?_)
  · exact absurd c_2 (by omega)
  refine lv_aload_n hx hb dX2_get_13 rfl (lv_at hl 0 rfl) ?_
  refine va_get (D := d) (ci := 2) (v := .ref a) (C := RX2) (T := TX2) (N := 1) hx hb hts hin2 hown hK hP 0 rfl rfl 0 (by decide) hfl7 (fun _ h9 => h9) rfl dX2_get_14 ?_
  refine lv_iload_n hx hb dX2_get_17 rfl (lv_at hl 1 rfl) ?_
  refine n_iald hx hb hK hP 1 0 rfl rfl (k := k) (by omega) (by omega) dX2_get_18 ?_
  refine lv_goto (tgt := 23) hx hb dX2_get_19 (by decide) ?_
  exact W.iret (v := (f k)) hx hb hr (fun t ht hW => ⟨rfl, ht⟩) (fun q h => by cases h) dX2_get_23

set_option maxHeartbeats 4000000 in
set_option maxRecDepth 100000 in
/-- writes -/
theorem c_X2_set (l : Launch) (d : va_G) (cI : ClassId) (q a n : Nat) (f : Nat → Int32) (k : Nat) (x : Int32) (hk : k < n) (hn : n < 2147483648) : nUp l yX2_set wsX2_set ({ frames := 0, cells := 0, slots := 0, locals := 0 } : Room) d [(cI, .int)] [(q, .inr (2, [.ref a])), (a, .inl (cI, n, .inl (f)))] [(q, .inr (2, [.ref a])), (a, .inl (cI, n, .inl (upd f k x)))] [.ref q, .int (nI (k)), .int (x)] none := by
  intro sz
  refine Met.ofW (cc := cX2_set) (maxL := 3) (ret := none) (by decide) rfl ?_
  intro p e s m args below meth c s₁ B hml hv
  obtain ⟨rfl, hsz, hP, hK, hD0⟩ := hv
  have hx := B.exec
  have hb := B.bytes
  have hr := B.returns
  have hts := atoms_spec (ws := wsX2_set) B.pre
  have hown : s.vm.findClass RX2 = some m.cls := findClass_of_methodNamed B.named
  have hlocks := B.notSynchronized
  have hfl7 := hts (.fieldLink RX2 7 "Nudgelane$Row" "cells" "[I") (by decide +kernel)
  have hin2 : ∀ w ∈ u_ws RX2 TX2 1, w ∈ wsX2_set := by decide +kernel
  subst hsz
  have hD := hD0.self (sz := s.heap.size)
  generalize hAe : va_A [(q, .inr (2, [.ref a])), (a, .inl (cI, n, .inl (f)))] s.heap.size = A at hD ⊢
  have hA : ∀ q : Nat, s.heap.size ≤ q → A q := fun q h => by rw [← hAe]; exact Or.inr h
  have hS : va_S A s.heap s.heap [] := va_S.rf
  have hP : va_P d vwCl [(q, .inr (2, [.ref a])), (a, .inl (cI, n, .inl (f)))] s.heap := hP
  have hl := lv_entry ([.ref q, .int (nI (k)), .int (x)]) (n := 3) (Nat.le_of_ble_eq_true rfl)
  rw [lg_entry_eq]
  generalize (lg_sl ([.ref q, .int (nI (k)), .int (x)]) ++ List.replicate (3 - (lg_sl ([.ref q, .int (nI (k)), .int (x)])).length) Slot.unset).toArray = ls at hl ⊢
  have hl : lv_has ls 3 [(0, .ref q), (1, .int (nI (k))), (2, .int (x))] := hl
  refine lv_iload_n hx hb dX2_set_0 rfl (lv_at hl 1 rfl) ?_
  refine n_iflt (tgt := 20) hx hb dX2_set_1 (by decide) (by omega) ?_
  refine lv_iload_n hx hb dX2_set_4 rfl (lv_at hl 1 rfl) ?_
  refine lv_aload_n hx hb dX2_set_5 rfl (lv_at hl 0 rfl) ?_
  refine va_get (D := d) (ci := 2) (v := .ref a) (C := RX2) (T := TX2) (N := 1) hx hb hts hin2 hown hK hP 0 rfl rfl 0 (by decide) hfl7 (fun _ h9 => h9) rfl dX2_set_6 ?_
  refine va_alen hx hb hK hP 1 0 rfl rfl (v := nI (n)) rfl dX2_set_9 ?_
  refine n_icmp_ge (tgt := 20) hx hb dX2_set_10 (by decide) (by omega) (by omega) (fun c_2 => ?_) (fun c_2 => ?_)
  · exact absurd c_2 (by omega)
  refine lv_aload_n hx hb dX2_set_13 rfl (lv_at hl 0 rfl) ?_
  refine va_get (D := d) (ci := 2) (v := .ref a) (C := RX2) (T := TX2) (N := 1) hx hb hts hin2 hown hK hP 0 rfl rfl 0 (by decide) hfl7 (fun _ h9 => h9) rfl dX2_set_14 ?_
  refine lv_iload_n hx hb dX2_set_17 rfl (lv_at hl 1 rfl) ?_
  refine lv_iload_n hx hb dX2_set_18 rfl (lv_at hl 2 rfl) ?_
  refine n_iast (ws' := [(q, .inr (2, [.ref a])), (a, .inl (cI, n, .inl (upd f k (x))))]) hx hb hK hP hD hS 1 0 rfl rfl (k := k) (by omega) (by omega) dX2_set_19 rfl (fun H locs hP hD hS => ?_)
  exact W.vret hx hb hr (fun t ht hW => ⟨⟨rfl, by rw [ht]; exact hP, hD⟩, hS.F ht⟩) hS.2.2 dX2_set_20

set_option maxHeartbeats 4000000 in
set_option maxRecDepth 100000 in
/-- adds -/
theorem c_X2_add (l : Launch) (d : va_G) (cI : ClassId) (q a n : Nat) (f : Nat → Int32) (k : Nat) (x : Int32) (hk : k < n) (hn : n < 2147483648) : nUp l yX2_add wsX2_add ({ frames := 1, cells := 0, slots := 0, locals := 22 } : Room) d [(cI, .int)] [(q, .inr (2, [.ref a])), (a, .inl (cI, n, .inl (f)))] [(q, .inr (2, [.ref a])), (a, .inl (cI, n, .inl (upd f k (f k + x))))] [.ref q, .int (nI (k)), .int (x)] none := by
  intro sz
  refine Met.ofW (cc := cX2_add) (maxL := 3) (ret := none) (by decide) rfl ?_
  intro p e s m args below meth c s₁ B hml hv
  obtain ⟨rfl, hsz, hP, hK, hD0⟩ := hv
  have hx := B.exec
  have hb := B.bytes
  have hr := B.returns
  have hts := atoms_spec (ws := wsX2_add) B.pre
  have hown : s.vm.findClass RX2 = some m.cls := findClass_of_methodNamed B.named
  have hlocks := B.notSynchronized
  subst hsz
  have hD := hD0.self (sz := s.heap.size)
  generalize hAe : va_A [(q, .inr (2, [.ref a])), (a, .inl (cI, n, .inl (f)))] s.heap.size = A at hD ⊢
  have hA : ∀ q : Nat, s.heap.size ≤ q → A q := fun q h => by rw [← hAe]; exact Or.inr h
  have hS : va_S A s.heap s.heap [] := va_S.rf
  have hP : va_P d vwCl [(q, .inr (2, [.ref a])), (a, .inl (cI, n, .inl (f)))] s.heap := hP
  have hl := lv_entry ([.ref q, .int (nI (k)), .int (x)]) (n := 3) (Nat.le_of_ble_eq_true rfl)
  rw [lg_entry_eq]
  generalize (lg_sl ([.ref q, .int (nI (k)), .int (x)]) ++ List.replicate (3 - (lg_sl ([.ref q, .int (nI (k)), .int (x)])).length) Slot.unset).toArray = ls at hl ⊢
  have hl : lv_has ls 3 [(0, .ref q), (1, .int (nI (k))), (2, .int (x))] := hl
  refine lv_aload_n hx hb dX2_add_0 rfl (lv_at hl 0 rfl) ?_
  refine lv_iload_n hx hb dX2_add_1 rfl (lv_at hl 1 rfl) ?_
  refine lv_aload_n hx hb dX2_add_2 rfl (lv_at hl 0 rfl) ?_
  refine lv_iload_n hx hb dX2_add_3 rfl (lv_at hl 1 rfl) ?_
  refine n_rdV (As := [.int (nI (k))]) (rest := [.int (nI (k)), .ref q]) (WC := [(q, .inr (2, [.ref a])), (a, .inl (cI, n, .inl (f)))]) ⟨hx, hb, hml, hown, hts⟩ (c_X2_get l d cI q a n f k hk hn) (cwV 1 hts gX2_add_X2_get rfl rfl rfl (by decide +kernel) ⟨Nat.le_of_ble_eq_true rfl, Nat.le_of_ble_eq_true rfl⟩) (va_recv hK hP (ci := 2) (q0 := 0) rfl rfl) (hP.sub [0, 1] rfl) (hK) rfl hl.1 rfl (Nat.le_of_ble_eq_true rfl) dX2_add_4 ⟨Nat.zero_le _, Nat.zero_le _⟩ ?_
  refine lv_iload_n hx hb dX2_add_7 rfl (lv_at hl 2 rfl) ?_
  refine lv_iadd hx hb dX2_add_8 ?_
  refine n_upV (As := [.int (nI (k)), .int ((f k) + (x))]) (rest := []) (WC := [(q, .inr (2, [.ref a])), (a, .inl (cI, n, .inl (f)))]) (WC' := [(q, .inr (2, [.ref a])), (a, .inl (cI, n, .inl (upd f k (f k + x))))]) (wr := []) (WS' := [(q, .inr (2, [.ref a])), (a, .inl (cI, n, .inl (upd f k (f k + x))))]) ⟨hx, hb, hml, hown, hts⟩ (c_X2_set l d cI q a n f k (f k + x) hk hn) (cwV 2 hts gX2_add_X2_set rfl rfl rfl (by decide +kernel) ⟨Nat.le_of_ble_eq_true rfl, Nat.le_of_ble_eq_true rfl⟩) (va_recv hK hP (ci := 2) (q0 := 0) rfl rfl) hP hD hS hA (hK) [0, 1] [] [0, 1] rfl rfl (by decide) ⟨by decide, by decide⟩ (by decide) rfl rfl hl.1 rfl (Nat.le_of_ble_eq_true rfl) dX2_add_9 ⟨Nat.zero_le _, Nat.zero_le _⟩ (fun H locs hP hD hS => ?_)
  show W _ _ _ _ _ _ _ _ _ _ _ _ _ _ _ (F0 m _ ls [])
  exact W.vret hx hb hr (fun t ht hW => ⟨⟨rfl, by rw [ht]; exact hP, hD⟩, hS.F ht⟩) hS.2.2 dX2_add_12
end
section
/-- the weight of a place -/
def wt (j : Nat) : Nat := if j = 0 then 216 else if j = 1 then 36 else if j = 2 then 6 else 1
/-- the statement at a place -/
def dig (c j : Nat) : Nat := c / wt j % 6
def fitB (r x y : Nat) : Bool := if r = 1 then decide (x = 0 ∧ y ≠ 0) else if r = 2 then decide (x = 5 ∧ y = 4) else if r = 3 then decide (x = 3 ∧ y = 3) else decide (x = 2 ∧ y = 1)
/-- can the rule 1 + k / 3 be used at the place k % 3 -/
def fkb (c k : Nat) : Bool := fitB (1 + k / 3) (dig c (k % 3)) (dig c (k % 3 + 1))
/-- a place by another statement -/
def putd (c j v : Nat) : Nat := c - dig c j * wt j + v * wt j
def stp (c k : Nat) : Nat := if k < 6 then putd (putd c (k % 3) (dig c (k % 3 + 1))) (k % 3 + 1) (dig c (k % 3)) else if k < 9 then putd c (k % 3 + 1) 0 else putd (putd c (k % 3) 0) (k % 3 + 1) 0
def nxF (c : Nat) : Nat → Nat → Option Nat
  | 0, _ => none
  | n + 1, k => if fkb c k then some (stp c k) else nxF c n (k + 1)
/-- one use of a rule -/
def nxo (c : Nat) : Option Nat := nxF c 12 0
def nx (c : Nat) : Nat := (nxo c).getD c
def chg (c : Nat) : Bool := (nxo c).isSome
def nfF : Nat → Nat → Nat
  | 0, c => c
  | n + 1, c => if chg c then nfF n (nx c) else c
def tm : Nat → Nat → Bool
  | 0, c => !chg c
  | n + 1, c => if chg c then tm n (nx c) else true
/-- the form of a program -/
def form (c : Nat) : Nat := nfF 40 c
theorem dig_lt (c j : Nat) : dig c j < 6 := Nat.mod_lt _ (by decide)
theorem wt_0 : wt 0 = 216 := rfl
theorem wt_1 : wt 1 = 36 := rfl
theorem wt_2 : wt 2 = 6 := rfl
theorem wt_3 : wt 3 = 1 := rfl
theorem lt4 {j : Nat} (h : j < 4) : j = 0 ∨ j = 1 ∨ j = 2 ∨ j = 3 := by omega
theorem lt3 {j : Nat} (h : j < 3) : j = 0 ∨ j = 1 ∨ j = 2 := by omega
theorem wt_pos (j : Nat) : 0 < wt j := by unfold wt; split <;> (try split) <;> (try split) <;> decide
theorem wt_le (j : Nat) : wt j ≤ 216 := by unfold wt; split <;> (try split) <;> (try split) <;> decide
theorem pack_eq {c : Nat} (h : c < 1296) : ((dig c 0 * 6 + dig c 1) * 6 + dig c 2) * 6 + dig c 3 = c := by
  unfold dig
  rw [wt_0, wt_1, wt_2, wt_3]
  omega
/-- a check of all numbers under a bound, by the kernel -/
def allB (p : Nat → Bool) : Nat → Bool
  | 0 => true
  | n + 1 => p n && allB p n
theorem allB_of {p : Nat → Bool} : ∀ {n : Nat}, allB p n = true → ∀ k, k < n → p k = true
  | 0, _, k, hk => absurd hk (Nat.not_lt_zero k)
  | n + 1, h, k, hk => by
    have h' : p n = true ∧ allB p n = true := by simpa [allB] using h
    rcases Nat.lt_or_ge k n with q | q
    · exact allB_of h'.2 k q
    · rw [Nat.le_antisymm (Nat.lt_succ_iff.mp hk) q]; exact h'.1
set_option maxRecDepth 100000 in
theorem tm_all : allB (fun c => tm 40 c) 1296 = true := by decide +kernel
theorem tm_40 {c : Nat} (h : c < 1296) : tm 40 c = true := allB_of tm_all c h
set_option maxRecDepth 100000 in
theorem stp_all : allB (fun c => allB (fun k => !fkb c k || (decide (stp c k < 1296) && allB (fun j => decide (dig (stp c k) j = if k < 6 then (if j = k % 3 + 1 then dig c (k % 3) else if j = k % 3 then dig c (k % 3 + 1) else dig c j) else if k < 9 then (if j = k % 3 + 1 then 0 else dig c j) else (if j = k % 3 + 1 then 0 else if j = k % 3 then 0 else dig c j))) 4)) 12) 1296 = true := by decide +kernel
theorem stp_ok {c k : Nat} (hc : c < 1296) (hk : k < 12) (h : fkb c k = true) : stp c k < 1296 ∧ ∀ j, j < 4 → dig (stp c k) j = if k < 6 then (if j = k % 3 + 1 then dig c (k % 3) else if j = k % 3 then dig c (k % 3 + 1) else dig c j) else if k < 9 then (if j = k % 3 + 1 then 0 else dig c j) else (if j = k % 3 + 1 then 0 else if j = k % 3 then 0 else dig c j) := by
  have h1 := allB_of (allB_of stp_all c hc) k hk
  rw [h] at h1
  simp only [Bool.not_true, Bool.false_or, Bool.and_eq_true, decide_eq_true_eq] at h1
  exact ⟨h1.1, fun j hj => of_decide_eq_true (allB_of h1.2 j hj)⟩
theorem nxF_lt {c : Nat} (hc : c < 1296) : ∀ (n k : Nat), n + k = 12 → ∀ c', nxF c n k = some c' → c' < 1296
  | 0, k, _, c', h => by cases h
  | n + 1, k, hk, c', h => by
    unfold nxF at h
    split at h
    · rename_i hf
      cases h
      exact (stp_ok hc (by omega) hf).1
    · exact nxF_lt hc n (k + 1) (by omega) c' h
theorem nx_lt {c : Nat} (hc : c < 1296) : nx c < 1296 := by
  unfold nx nxo
  cases h : nxF c 12 0 with
  | none => exact hc
  | some c' => exact nxF_lt hc 12 0 rfl c' h
theorem nfF_lt : ∀ (n c : Nat), c < 1296 → nfF n c < 1296
  | 0, c, h => h
  | n + 1, c, h => by
    unfold nfF
    split
    · exact nfF_lt n _ (nx_lt h)
    · exact h
theorem form_lt {c : Nat} (h : c < 1296) : form c < 1296 := nfF_lt 40 c h
set_option maxRecDepth 100000 in
theorem form_all : allB (fun c => decide (form (form c) = form c)) 1296 = true := by decide +kernel
theorem form_form {c : Nat} (h : c < 1296) : form (form c) = form c := of_decide_eq_true (allB_of form_all c h)
end
section
set_option maxHeartbeats 4000000 in
set_option maxRecDepth 100000 in
theorem c_X1_weightOf_0 (l : Launch) (d : va_G) (cI : ClassId)  : nRd l yX1_weightOf wsX1_weightOf ({ frames := 0, cells := 0, slots := 0, locals := 0 } : Room) d [(cI, .int)] [] [.int (nI (0))] (.int (nI (216))) := by
  refine Met.ofW (cc := cX1_weightOf) (maxL := 3) (ret := some .int) (by decide) rfl ?_
  intro p e s m args below meth c s₁ B hml hv
  obtain ⟨rfl, hP, hK⟩ := hv
  have hx := B.exec
  have hb := B.bytes
  have hr := B.returns
  have hts := atoms_spec (ws := wsX1_weightOf) B.pre
  have hown : s.vm.findClass RX1 = some m.cls := findClass_of_methodNamed B.named
  have hlocks := B.notSynchronized
  have hP : va_P d vwCl [] s.heap := hP
  have hl := lv_entry ([.int (nI (0))]) (n := 3) (Nat.le_of_ble_eq_true rfl)
  rw [lg_entry_eq]
  generalize (lg_sl ([.int (nI (0))]) ++ List.replicate (3 - (lg_sl ([.int (nI (0))])).length) Slot.unset).toArray = ls at hl ⊢
  have hl : lv_has ls 3 [(0, .int (nI (0)))] := hl
  refine lv_iconst (v := nI (1)) hx hb dX1_weightOf_0 (by decide) ?_
  refine lv_istore_n (lv' := [(1, .int (nI (1))), (0, .int (nI (0)))]) hx hb dX1_weightOf_1 rfl hl (by decide) rfl (fun ls hl => ?_)
  refine lv_iload_n hx hb dX1_weightOf_2 rfl (lv_at hl 1 rfl) ?_
  refine lv_iconst (v := nI (1)) hx hb dX1_weightOf_3 (by decide) ?_
  refine n_add hx hb dX1_weightOf_4 ?_
  refine lv_istore_n (lv' := [(2, .int (nI (1))), (1, .int (nI (1))), (0, .int (nI (0)))]) hx hb dX1_weightOf_5 rfl hl (by decide) rfl (fun ls hl => ?_)
  refine lv_iload_n hx hb dX1_weightOf_6 rfl (lv_at hl 0 rfl) ?_
  refine lv_iconst (v := nI (4)) hx hb dX1_weightOf_7 (by decide) ?_
  refine n_icmp_ge (tgt := 22) hx hb dX1_weightOf_8 (by decide) (by decide) (by decide) (fun c_1 => ?_) (fun c_1 => ?_)
  · exact absurd c_1 (by decide)
  refine lv_iload_n hx hb dX1_weightOf_11 rfl (lv_at hl 1 rfl) ?_
  refine lv_bipush (v := nI (6)) hx hb dX1_weightOf_12 (by decide) ?_
  refine n_mul hx hb dX1_weightOf_14 ?_
  refine lv_istore_n (lv' := [(1, .int (nI (6))), (2, .int (nI (1))), (0, .int (nI (0)))]) hx hb dX1_weightOf_15 rfl hl (by decide) rfl (fun ls hl => ?_)
  refine lv_iinc (v := nI (2)) (lv' := [(2, .int (nI (2))), (1, .int (nI (6))), (0, .int (nI (0)))]) hx hb dX1_weightOf_16 hl (k := 1) rfl (by decide) (by decide) rfl (fun ls hl => ?_)
  refine lv_goto (tgt := 6) hx hb dX1_weightOf_19 (by decide) ?_
  refine lv_iload_n hx hb dX1_weightOf_6 rfl (lv_at hl 0 rfl) ?_
  refine lv_iconst (v := nI (4)) hx hb dX1_weightOf_7 (by decide) ?_
  refine n_icmp_ge (tgt := 22) hx hb dX1_weightOf_8 (by decide) (by decide) (by decide) (fun c_2 => ?_) (fun c_2 => ?_)
  · exact absurd c_2 (by decide)
  refine lv_iload_n hx hb dX1_weightOf_11 rfl (lv_at hl 1 rfl) ?_
  refine lv_bipush (v := nI (6)) hx hb dX1_weightOf_12 (by decide) ?_
  refine n_mul hx hb dX1_weightOf_14 ?_
  refine lv_istore_n (lv' := [(1, .int (nI (36))), (2, .int (nI (2))), (0, .int (nI (0)))]) hx hb dX1_weightOf_15 rfl hl (by decide) rfl (fun ls hl => ?_)
  refine lv_iinc (v := nI (3)) (lv' := [(2, .int (nI (3))), (1, .int (nI (36))), (0, .int (nI (0)))]) hx hb dX1_weightOf_16 hl (k := 1) rfl (by decide) (by decide) rfl (fun ls hl => ?_)
  refine lv_goto (tgt := 6) hx hb dX1_weightOf_19 (by decide) ?_
  refine lv_iload_n hx hb dX1_weightOf_6 rfl (lv_at hl 0 rfl) ?_
  refine lv_iconst (v := nI (4)) hx hb dX1_weightOf_7 (by decide) ?_
  refine n_icmp_ge (tgt := 22) hx hb dX1_weightOf_8 (by decide) (by decide) (by decide) (fun c_3 => ?_) (fun c_3 => ?_)
  · exact absurd c_3 (by decide)
  refine lv_iload_n hx hb dX1_weightOf_11 rfl (lv_at hl 1 rfl) ?_
  refine lv_bipush (v := nI (6)) hx hb dX1_weightOf_12 (by decide) ?_
  refine n_mul hx hb dX1_weightOf_14 ?_
  refine lv_istore_n (lv' := [(1, .int (nI (216))), (2, .int (nI (3))), (0, .int (nI (0)))]) hx hb dX1_weightOf_15 rfl hl (by decide) rfl (fun ls hl => ?_)
  refine lv_iinc (v := nI (4)) (lv' := [(2, .int (nI (4))), (1, .int (nI (216))), (0, .int (nI (0)))]) hx hb dX1_weightOf_16 hl (k := 1) rfl (by decide) (by decide) rfl (fun ls hl => ?_)
  refine lv_goto (tgt := 6) hx hb dX1_weightOf_19 (by decide) ?_
  refine lv_iload_n hx hb dX1_weightOf_6 rfl (lv_at hl 0 rfl) ?_
  refine lv_iconst (v := nI (4)) hx hb dX1_weightOf_7 (by decide) ?_
  refine n_icmp_ge (tgt := 22) hx hb dX1_weightOf_8 (by decide) (by decide) (by decide) (fun c_4 => ?_) (fun c_4 => ?_)
  rotate_left
  · exact absurd c_4 (by decide)
  refine lv_iload_n hx hb dX1_weightOf_22 rfl (lv_at hl 1 rfl) ?_
  exact W.iret (v := (nI (216))) hx hb hr (fun t ht hW => ⟨rfl, ht⟩) (fun q h => by cases h) dX1_weightOf_23

set_option maxHeartbeats 4000000 in
set_option maxRecDepth 100000 in
theorem c_X1_weightOf_1 (l : Launch) (d : va_G) (cI : ClassId)  : nRd l yX1_weightOf wsX1_weightOf ({ frames := 0, cells := 0, slots := 0, locals := 0 } : Room) d [(cI, .int)] [] [.int (nI (1))] (.int (nI (36))) := by
  refine Met.ofW (cc := cX1_weightOf) (maxL := 3) (ret := some .int) (by decide) rfl ?_
  intro p e s m args below meth c s₁ B hml hv
  obtain ⟨rfl, hP, hK⟩ := hv
  have hx := B.exec
  have hb := B.bytes
  have hr := B.returns
  have hts := atoms_spec (ws := wsX1_weightOf) B.pre
  have hown : s.vm.findClass RX1 = some m.cls := findClass_of_methodNamed B.named
  have hlocks := B.notSynchronized
  have hP : va_P d vwCl [] s.heap := hP
  have hl := lv_entry ([.int (nI (1))]) (n := 3) (Nat.le_of_ble_eq_true rfl)
  rw [lg_entry_eq]
  generalize (lg_sl ([.int (nI (1))]) ++ List.replicate (3 - (lg_sl ([.int (nI (1))])).length) Slot.unset).toArray = ls at hl ⊢
  have hl : lv_has ls 3 [(0, .int (nI (1)))] := hl
  refine lv_iconst (v := nI (1)) hx hb dX1_weightOf_0 (by decide) ?_
  refine lv_istore_n (lv' := [(1, .int (nI (1))), (0, .int (nI (1)))]) hx hb dX1_weightOf_1 rfl hl (by decide) rfl (fun ls hl => ?_)
  refine lv_iload_n hx hb dX1_weightOf_2 rfl (lv_at hl 1 rfl) ?_
  refine lv_iconst (v := nI (1)) hx hb dX1_weightOf_3 (by decide) ?_
  refine n_add hx hb dX1_weightOf_4 ?_
  refine lv_istore_n (lv' := [(2, .int (nI (2))), (1, .int (nI (1))), (0, .int (nI (1)))]) hx hb dX1_weightOf_5 rfl hl (by decide) rfl (fun ls hl => ?_)
  refine lv_iload_n hx hb dX1_weightOf_6 rfl (lv_at hl 0 rfl) ?_
  refine lv_iconst (v := nI (4)) hx hb dX1_weightOf_7 (by decide) ?_
  refine n_icmp_ge (tgt := 22) hx hb dX1_weightOf_8 (by decide) (by decide) (by decide) (fun c_1 => ?_) (fun c_1 => ?_)
  · exact absurd c_1 (by decide)
  refine lv_iload_n hx hb dX1_weightOf_11 rfl (lv_at hl 1 rfl) ?_
  refine lv_bipush (v := nI (6)) hx hb dX1_weightOf_12 (by decide) ?_
  refine n_mul hx hb dX1_weightOf_14 ?_
  refine lv_istore_n (lv' := [(1, .int (nI (6))), (2, .int (nI (2))), (0, .int (nI (1)))]) hx hb dX1_weightOf_15 rfl hl (by decide) rfl (fun ls hl => ?_)
  refine lv_iinc (v := nI (3)) (lv' := [(2, .int (nI (3))), (1, .int (nI (6))), (0, .int (nI (1)))]) hx hb dX1_weightOf_16 hl (k := 1) rfl (by decide) (by decide) rfl (fun ls hl => ?_)
  refine lv_goto (tgt := 6) hx hb dX1_weightOf_19 (by decide) ?_
  refine lv_iload_n hx hb dX1_weightOf_6 rfl (lv_at hl 0 rfl) ?_
  refine lv_iconst (v := nI (4)) hx hb dX1_weightOf_7 (by decide) ?_
  refine n_icmp_ge (tgt := 22) hx hb dX1_weightOf_8 (by decide) (by decide) (by decide) (fun c_2 => ?_) (fun c_2 => ?_)
  · exact absurd c_2 (by decide)
  refine lv_iload_n hx hb dX1_weightOf_11 rfl (lv_at hl 1 rfl) ?_
  refine lv_bipush (v := nI (6)) hx hb dX1_weightOf_12 (by decide) ?_
  refine n_mul hx hb dX1_weightOf_14 ?_
  refine lv_istore_n (lv' := [(1, .int (nI (36))), (2, .int (nI (3))), (0, .int (nI (1)))]) hx hb dX1_weightOf_15 rfl hl (by decide) rfl (fun ls hl => ?_)
  refine lv_iinc (v := nI (4)) (lv' := [(2, .int (nI (4))), (1, .int (nI (36))), (0, .int (nI (1)))]) hx hb dX1_weightOf_16 hl (k := 1) rfl (by decide) (by decide) rfl (fun ls hl => ?_)
  refine lv_goto (tgt := 6) hx hb dX1_weightOf_19 (by decide) ?_
  refine lv_iload_n hx hb dX1_weightOf_6 rfl (lv_at hl 0 rfl) ?_
  refine lv_iconst (v := nI (4)) hx hb dX1_weightOf_7 (by decide) ?_
  refine n_icmp_ge (tgt := 22) hx hb dX1_weightOf_8 (by decide) (by decide) (by decide) (fun c_3 => ?_) (fun c_3 => ?_)
  rotate_left
  · exact absurd c_3 (by decide)
  refine lv_iload_n hx hb dX1_weightOf_22 rfl (lv_at hl 1 rfl) ?_
  exact W.iret (v := (nI (36))) hx hb hr (fun t ht hW => ⟨rfl, ht⟩) (fun q h => by cases h) dX1_weightOf_23

set_option maxHeartbeats 4000000 in
set_option maxRecDepth 100000 in
theorem c_X1_weightOf_2 (l : Launch) (d : va_G) (cI : ClassId)  : nRd l yX1_weightOf wsX1_weightOf ({ frames := 0, cells := 0, slots := 0, locals := 0 } : Room) d [(cI, .int)] [] [.int (nI (2))] (.int (nI (6))) := by
  refine Met.ofW (cc := cX1_weightOf) (maxL := 3) (ret := some .int) (by decide) rfl ?_
  intro p e s m args below meth c s₁ B hml hv
  obtain ⟨rfl, hP, hK⟩ := hv
  have hx := B.exec
  have hb := B.bytes
  have hr := B.returns
  have hts := atoms_spec (ws := wsX1_weightOf) B.pre
  have hown : s.vm.findClass RX1 = some m.cls := findClass_of_methodNamed B.named
  have hlocks := B.notSynchronized
  have hP : va_P d vwCl [] s.heap := hP
  have hl := lv_entry ([.int (nI (2))]) (n := 3) (Nat.le_of_ble_eq_true rfl)
  rw [lg_entry_eq]
  generalize (lg_sl ([.int (nI (2))]) ++ List.replicate (3 - (lg_sl ([.int (nI (2))])).length) Slot.unset).toArray = ls at hl ⊢
  have hl : lv_has ls 3 [(0, .int (nI (2)))] := hl
  refine lv_iconst (v := nI (1)) hx hb dX1_weightOf_0 (by decide) ?_
  refine lv_istore_n (lv' := [(1, .int (nI (1))), (0, .int (nI (2)))]) hx hb dX1_weightOf_1 rfl hl (by decide) rfl (fun ls hl => ?_)
  refine lv_iload_n hx hb dX1_weightOf_2 rfl (lv_at hl 1 rfl) ?_
  refine lv_iconst (v := nI (1)) hx hb dX1_weightOf_3 (by decide) ?_
  refine n_add hx hb dX1_weightOf_4 ?_
  refine lv_istore_n (lv' := [(2, .int (nI (3))), (1, .int (nI (1))), (0, .int (nI (2)))]) hx hb dX1_weightOf_5 rfl hl (by decide) rfl (fun ls hl => ?_)
  refine lv_iload_n hx hb dX1_weightOf_6 rfl (lv_at hl 0 rfl) ?_
  refine lv_iconst (v := nI (4)) hx hb dX1_weightOf_7 (by decide) ?_
  refine n_icmp_ge (tgt := 22) hx hb dX1_weightOf_8 (by decide) (by decide) (by decide) (fun c_1 => ?_) (fun c_1 => ?_)
  · exact absurd c_1 (by decide)
  refine lv_iload_n hx hb dX1_weightOf_11 rfl (lv_at hl 1 rfl) ?_
  refine lv_bipush (v := nI (6)) hx hb dX1_weightOf_12 (by decide) ?_
  refine n_mul hx hb dX1_weightOf_14 ?_
  refine lv_istore_n (lv' := [(1, .int (nI (6))), (2, .int (nI (3))), (0, .int (nI (2)))]) hx hb dX1_weightOf_15 rfl hl (by decide) rfl (fun ls hl => ?_)
  refine lv_iinc (v := nI (4)) (lv' := [(2, .int (nI (4))), (1, .int (nI (6))), (0, .int (nI (2)))]) hx hb dX1_weightOf_16 hl (k := 1) rfl (by decide) (by decide) rfl (fun ls hl => ?_)
  refine lv_goto (tgt := 6) hx hb dX1_weightOf_19 (by decide) ?_
  refine lv_iload_n hx hb dX1_weightOf_6 rfl (lv_at hl 0 rfl) ?_
  refine lv_iconst (v := nI (4)) hx hb dX1_weightOf_7 (by decide) ?_
  refine n_icmp_ge (tgt := 22) hx hb dX1_weightOf_8 (by decide) (by decide) (by decide) (fun c_2 => ?_) (fun c_2 => ?_)
  rotate_left
  · exact absurd c_2 (by decide)
  refine lv_iload_n hx hb dX1_weightOf_22 rfl (lv_at hl 1 rfl) ?_
  exact W.iret (v := (nI (6))) hx hb hr (fun t ht hW => ⟨rfl, ht⟩) (fun q h => by cases h) dX1_weightOf_23

set_option maxHeartbeats 4000000 in
set_option maxRecDepth 100000 in
theorem c_X1_weightOf_3 (l : Launch) (d : va_G) (cI : ClassId)  : nRd l yX1_weightOf wsX1_weightOf ({ frames := 0, cells := 0, slots := 0, locals := 0 } : Room) d [(cI, .int)] [] [.int (nI (3))] (.int (nI (1))) := by
  refine Met.ofW (cc := cX1_weightOf) (maxL := 3) (ret := some .int) (by decide) rfl ?_
  intro p e s m args below meth c s₁ B hml hv
  obtain ⟨rfl, hP, hK⟩ := hv
  have hx := B.exec
  have hb := B.bytes
  have hr := B.returns
  have hts := atoms_spec (ws := wsX1_weightOf) B.pre
  have hown : s.vm.findClass RX1 = some m.cls := findClass_of_methodNamed B.named
  have hlocks := B.notSynchronized
  have hP : va_P d vwCl [] s.heap := hP
  have hl := lv_entry ([.int (nI (3))]) (n := 3) (Nat.le_of_ble_eq_true rfl)
  rw [lg_entry_eq]
  generalize (lg_sl ([.int (nI (3))]) ++ List.replicate (3 - (lg_sl ([.int (nI (3))])).length) Slot.unset).toArray = ls at hl ⊢
  have hl : lv_has ls 3 [(0, .int (nI (3)))] := hl
  refine lv_iconst (v := nI (1)) hx hb dX1_weightOf_0 (by decide) ?_
  refine lv_istore_n (lv' := [(1, .int (nI (1))), (0, .int (nI (3)))]) hx hb dX1_weightOf_1 rfl hl (by decide) rfl (fun ls hl => ?_)
  refine lv_iload_n hx hb dX1_weightOf_2 rfl (lv_at hl 1 rfl) ?_
  refine lv_iconst (v := nI (1)) hx hb dX1_weightOf_3 (by decide) ?_
  refine n_add hx hb dX1_weightOf_4 ?_
  refine lv_istore_n (lv' := [(2, .int (nI (4))), (1, .int (nI (1))), (0, .int (nI (3)))]) hx hb dX1_weightOf_5 rfl hl (by decide) rfl (fun ls hl => ?_)
  refine lv_iload_n hx hb dX1_weightOf_6 rfl (lv_at hl 0 rfl) ?_
  refine lv_iconst (v := nI (4)) hx hb dX1_weightOf_7 (by decide) ?_
  refine n_icmp_ge (tgt := 22) hx hb dX1_weightOf_8 (by decide) (by decide) (by decide) (fun c_1 => ?_) (fun c_1 => ?_)
  rotate_left
  · exact absurd c_1 (by decide)
  refine lv_iload_n hx hb dX1_weightOf_22 rfl (lv_at hl 1 rfl) ?_
  exact W.iret (v := (nI (1))) hx hb hr (fun t ht hW => ⟨rfl, ht⟩) (fun q h => by cases h) dX1_weightOf_23

theorem c_X1_weightOf (l : Launch) (d : va_G) (cI : ClassId) (j : Nat) (hj : j < 4) : nRd l yX1_weightOf wsX1_weightOf ({ frames := 0, cells := 0, slots := 0, locals := 0 } : Room) d [(cI, .int)] [] [.int (nI (j))] (.int (nI (wt j))) := by
  rcases lt4 hj with rfl | rfl | rfl | rfl
  · exact c_X1_weightOf_0 l d cI
  · exact c_X1_weightOf_1 l d cI
  · exact c_X1_weightOf_2 l d cI
  · exact c_X1_weightOf_3 l d cI
/-- a place emptied -/
def wo (c j : Nat) : Nat := c - c / wt j % 6 * wt j
theorem wo_ok (c j : Nat) : c / wt j % 6 * wt j ≤ c := Nat.le_trans (Nat.mul_le_mul_right _ (Nat.mod_le _ _)) (Nat.div_mul_le_self c (wt j))
set_option maxHeartbeats 4000000 in
set_option maxRecDepth 100000 in
/-- a place emptied -/
theorem c_X1_without (l : Launch) (d : va_G) (cI : ClassId) (c0 j : Nat) (hc : c0 < 1296) (hj : j < 4) : nRd l yX1_without wsX1_without ({ frames := 1, cells := 0, slots := 0, locals := 22 } : Room) d [(cI, .int)] [] [.int (nI (c0)), .int (nI (j))] (.int (nI (wo c0 j))) := by
  refine Met.ofW (cc := cX1_without) (maxL := 3) (ret := some .int) (by decide) rfl ?_
  intro p e s m args below meth c s₁ B hml hv
  obtain ⟨rfl, hP, hK⟩ := hv
  have hx := B.exec
  have hb := B.bytes
  have hr := B.returns
  have hts := atoms_spec (ws := wsX1_without) B.pre
  have hown : s.vm.findClass RX1 = some m.cls := findClass_of_methodNamed B.named
  have hlocks := B.notSynchronized
  have hP : va_P d vwCl [] s.heap := hP
  have hl := lv_entry ([.int (nI (c0)), .int (nI (j))]) (n := 3) (Nat.le_of_ble_eq_true rfl)
  rw [lg_entry_eq]
  generalize (lg_sl ([.int (nI (c0)), .int (nI (j))]) ++ List.replicate (3 - (lg_sl ([.int (nI (c0)), .int (nI (j))])).length) Slot.unset).toArray = ls at hl ⊢
  have hl : lv_has ls 3 [(0, .int (nI (c0))), (1, .int (nI (j)))] := hl
  refine lv_iload_n hx hb dX1_without_0 rfl (lv_at hl 1 rfl) ?_
  refine n_rdS (As := [.int (nI (j))]) (rest := []) (WC := []) ⟨hx, hb, hml, hown, hts⟩ (c_X1_weightOf l d cI j hj) (cwS 1 hts gX1_without_X1_weightOf rfl rfl rfl (by decide +kernel) ⟨Nat.le_of_ble_eq_true rfl, Nat.le_of_ble_eq_true rfl⟩) (hP.sub [] rfl) (hK) rfl hl.1 rfl (Nat.le_of_ble_eq_true rfl) dX1_without_1 ⟨Nat.zero_le _, Nat.zero_le _⟩ ?_
  refine lv_istore_n (lv' := [(2, .int (nI (wt j))), (0, .int (nI (c0))), (1, .int (nI (j)))]) hx hb dX1_without_4 rfl hl (by decide) rfl (fun ls hl => ?_)
  refine lv_iload_n hx hb dX1_without_5 rfl (lv_at hl 0 rfl) ?_
  refine n_ifle (tgt := 22) hx hb dX1_without_6 (by decide) (Nat.lt_of_le_of_lt (wt_le j) (by decide)) (fun c_1 => ?_) (fun c_1 => ?_)
  · exact absurd c_1 (Nat.pos_iff_ne_zero.mp (wt_pos j))
  refine lv_iload_n hx hb dX1_without_9 rfl (lv_at hl 1 rfl) ?_
  refine lv_iload_n hx hb dX1_without_10 rfl (lv_at hl 1 rfl) ?_
  refine lv_iload_n hx hb dX1_without_11 rfl (lv_at hl 0 rfl) ?_
  refine n_div hx hb dX1_without_12 (by omega) (wt_pos j) (Nat.lt_of_le_of_lt (wt_le j) (by decide)) ?_
  refine lv_bipush (v := nI (6)) hx hb dX1_without_13 (by decide) ?_
  refine n_rem hx hb dX1_without_15 (Nat.lt_of_le_of_lt (Nat.div_le_self _ _) (by omega)) (by decide) (by decide) ?_
  refine lv_iload_n hx hb dX1_without_16 rfl (lv_at hl 0 rfl) ?_
  refine n_mul hx hb dX1_without_17 ?_
  refine n_sub hx hb dX1_without_18 (wo_ok c0 j) ?_
  refine lv_goto (tgt := 23) hx hb dX1_without_19 (by decide) ?_
  exact W.iret (v := (nI (wo c0 j))) hx hb hr (fun t ht hW => ⟨rfl, ht⟩) (fun q h => by cases h) dX1_without_23

set_option maxHeartbeats 4000000 in
set_option maxRecDepth 100000 in
theorem c_X1_isUsable_1 (l : Launch) (d : va_G) (cI : ClassId) (x y : Nat) (hx6 : x < 6) (hy6 : y < 6) : nRd l yX1_isUsable wsX1_isUsable ({ frames := 0, cells := 0, slots := 0, locals := 0 } : Room) d [(cI, .int)] [] [.int (nI (1)), .int (nI (x)), .int (nI (y))] (.int (nI ((fitB 1 x y).toNat))) := by
  refine Met.ofW (cc := cX1_isUsable) (maxL := 3) (ret := some .boolean) (by decide) rfl ?_
  intro p e s m args below meth c s₁ B hml hv
  obtain ⟨rfl, hP, hK⟩ := hv
  have hx := B.exec
  have hb := B.bytes
  have hr := B.returns
  have hts := atoms_spec (ws := wsX1_isUsable) B.pre
  have hown : s.vm.findClass RX1 = some m.cls := findClass_of_methodNamed B.named
  have hlocks := B.notSynchronized
  have hP : va_P d vwCl [] s.heap := hP
  have hl := lv_entry ([.int (nI (1)), .int (nI (x)), .int (nI (y))]) (n := 3) (Nat.le_of_ble_eq_true rfl)
  rw [lg_entry_eq]
  generalize (lg_sl ([.int (nI (1)), .int (nI (x)), .int (nI (y))]) ++ List.replicate (3 - (lg_sl ([.int (nI (1)), .int (nI (x)), .int (nI (y))])).length) Slot.unset).toArray = ls at hl ⊢
  have hl : lv_has ls 3 [(0, .int (nI (1))), (1, .int (nI (x))), (2, .int (nI (y)))] := hl
  refine lv_iload_n hx hb dX1_isUsable_0 rfl (lv_at hl 0 rfl) ?_
  refine lv_tableIn (x := nI (1)) (off := 27) (tgt := 28) hx hb dX1_isUsable_1 (by decide) (by decide) rfl (by decide) ?_
  refine lv_iload_n hx hb dX1_isUsable_28 rfl (lv_at hl 1 rfl) ?_
  refine n_ifne (tgt := 40) hx hb dX1_isUsable_29 (by decide) (by omega) (fun c_1 => ?_) (fun c_1 => ?_)
  ·
    refine lv_iconst (v := nI (0)) hx hb dX1_isUsable_40 (by decide) ?_
    refine n_top (show (nI (0)) = (nI ((fitB 1 x y).toNat)) from by rw [show fitB 1 x y = false from decide_eq_false (by omega)]; rfl) ?_
    exact W.zret (v := (nI ((fitB 1 x y).toNat))) hx hb hr (by cases fitB 1 x y <;> rfl) (fun t ht hW => ⟨rfl, ht⟩) (fun q h => by cases h) dX1_isUsable_41
  ·
    refine lv_iload_n hx hb dX1_isUsable_32 rfl (lv_at hl 2 rfl) ?_
    refine n_ifeq (tgt := 40) hx hb dX1_isUsable_33 (by decide) (by omega) (fun c_2 => ?_) (fun c_2 => ?_)
    ·
      refine lv_iconst (v := nI (0)) hx hb dX1_isUsable_40 (by decide) ?_
      refine n_top (show (nI (0)) = (nI ((fitB 1 x y).toNat)) from by rw [show fitB 1 x y = false from decide_eq_false (by omega)]; rfl) ?_
      exact W.zret (v := (nI ((fitB 1 x y).toNat))) hx hb hr (by cases fitB 1 x y <;> rfl) (fun t ht hW => ⟨rfl, ht⟩) (fun q h => by cases h) dX1_isUsable_41
    ·
      refine lv_iconst (v := nI (1)) hx hb dX1_isUsable_36 (by decide) ?_
      refine lv_goto (tgt := 41) hx hb dX1_isUsable_37 (by decide) ?_
      refine n_top (show (nI (1)) = (nI ((fitB 1 x y).toNat)) from by rw [show fitB 1 x y = true from decide_eq_true (by omega)]; rfl) ?_
      exact W.zret (v := (nI ((fitB 1 x y).toNat))) hx hb hr (by cases fitB 1 x y <;> rfl) (fun t ht hW => ⟨rfl, ht⟩) (fun q h => by cases h) dX1_isUsable_41

set_option maxHeartbeats 4000000 in
set_option maxRecDepth 100000 in
theorem c_X1_isUsable_2 (l : Launch) (d : va_G) (cI : ClassId) (x y : Nat) (hx6 : x < 6) (hy6 : y < 6) : nRd l yX1_isUsable wsX1_isUsable ({ frames := 0, cells := 0, slots := 0, locals := 0 } : Room) d [(cI, .int)] [] [.int (nI (2)), .int (nI (x)), .int (nI (y))] (.int (nI ((fitB 2 x y).toNat))) := by
  refine Met.ofW (cc := cX1_isUsable) (maxL := 3) (ret := some .boolean) (by decide) rfl ?_
  intro p e s m args below meth c s₁ B hml hv
  obtain ⟨rfl, hP, hK⟩ := hv
  have hx := B.exec
  have hb := B.bytes
  have hr := B.returns
  have hts := atoms_spec (ws := wsX1_isUsable) B.pre
  have hown : s.vm.findClass RX1 = some m.cls := findClass_of_methodNamed B.named
  have hlocks := B.notSynchronized
  have hP : va_P d vwCl [] s.heap := hP
  have hl := lv_entry ([.int (nI (2)), .int (nI (x)), .int (nI (y))]) (n := 3) (Nat.le_of_ble_eq_true rfl)
  rw [lg_entry_eq]
  generalize (lg_sl ([.int (nI (2)), .int (nI (x)), .int (nI (y))]) ++ List.replicate (3 - (lg_sl ([.int (nI (2)), .int (nI (x)), .int (nI (y))])).length) Slot.unset).toArray = ls at hl ⊢
  have hl : lv_has ls 3 [(0, .int (nI (2))), (1, .int (nI (x))), (2, .int (nI (y)))] := hl
  refine lv_iload_n hx hb dX1_isUsable_0 rfl (lv_at hl 0 rfl) ?_
  refine lv_tableIn (x := nI (2)) (off := 41) (tgt := 42) hx hb dX1_isUsable_1 (by decide) (by decide) rfl (by decide) ?_
  refine lv_iload_n hx hb dX1_isUsable_42 rfl (lv_at hl 1 rfl) ?_
  refine lv_iconst (v := nI (5)) hx hb dX1_isUsable_43 (by decide) ?_
  refine n_icmp_ne (tgt := 56) hx hb dX1_isUsable_44 (by decide) (by omega) (by omega) (fun c_1 => ?_) (fun c_1 => ?_)
  ·
    refine lv_iconst (v := nI (0)) hx hb dX1_isUsable_56 (by decide) ?_
    refine n_top (show (nI (0)) = (nI ((fitB 2 x y).toNat)) from by rw [show fitB 2 x y = false from decide_eq_false (by omega)]; rfl) ?_
    exact W.zret (v := (nI ((fitB 2 x y).toNat))) hx hb hr (by cases fitB 2 x y <;> rfl) (fun t ht hW => ⟨rfl, ht⟩) (fun q h => by cases h) dX1_isUsable_57
  ·
    refine lv_iload_n hx hb dX1_isUsable_47 rfl (lv_at hl 2 rfl) ?_
    refine lv_iconst (v := nI (4)) hx hb dX1_isUsable_48 (by decide) ?_
    refine n_icmp_ne (tgt := 56) hx hb dX1_isUsable_49 (by decide) (by omega) (by omega) (fun c_2 => ?_) (fun c_2 => ?_)
    ·
      refine lv_iconst (v := nI (0)) hx hb dX1_isUsable_56 (by decide) ?_
      refine n_top (show (nI (0)) = (nI ((fitB 2 x y).toNat)) from by rw [show fitB 2 x y = false from decide_eq_false (by omega)]; rfl) ?_
      exact W.zret (v := (nI ((fitB 2 x y).toNat))) hx hb hr (by cases fitB 2 x y <;> rfl) (fun t ht hW => ⟨rfl, ht⟩) (fun q h => by cases h) dX1_isUsable_57
    ·
      refine lv_iconst (v := nI (1)) hx hb dX1_isUsable_52 (by decide) ?_
      refine lv_goto (tgt := 57) hx hb dX1_isUsable_53 (by decide) ?_
      refine n_top (show (nI (1)) = (nI ((fitB 2 x y).toNat)) from by rw [show fitB 2 x y = true from decide_eq_true (by omega)]; rfl) ?_
      exact W.zret (v := (nI ((fitB 2 x y).toNat))) hx hb hr (by cases fitB 2 x y <;> rfl) (fun t ht hW => ⟨rfl, ht⟩) (fun q h => by cases h) dX1_isUsable_57

set_option maxHeartbeats 4000000 in
set_option maxRecDepth 100000 in
theorem c_X1_isUsable_3 (l : Launch) (d : va_G) (cI : ClassId) (x y : Nat) (hx6 : x < 6) (hy6 : y < 6) : nRd l yX1_isUsable wsX1_isUsable ({ frames := 0, cells := 0, slots := 0, locals := 0 } : Room) d [(cI, .int)] [] [.int (nI (3)), .int (nI (x)), .int (nI (y))] (.int (nI ((fitB 3 x y).toNat))) := by
  refine Met.ofW (cc := cX1_isUsable) (maxL := 3) (ret := some .boolean) (by decide) rfl ?_
  intro p e s m args below meth c s₁ B hml hv
  obtain ⟨rfl, hP, hK⟩ := hv
  have hx := B.exec
  have hb := B.bytes
  have hr := B.returns
  have hts := atoms_spec (ws := wsX1_isUsable) B.pre
  have hown : s.vm.findClass RX1 = some m.cls := findClass_of_methodNamed B.named
  have hlocks := B.notSynchronized
  have hP : va_P d vwCl [] s.heap := hP
  have hl := lv_entry ([.int (nI (3)), .int (nI (x)), .int (nI (y))]) (n := 3) (Nat.le_of_ble_eq_true rfl)
  rw [lg_entry_eq]
  generalize (lg_sl ([.int (nI (3)), .int (nI (x)), .int (nI (y))]) ++ List.replicate (3 - (lg_sl ([.int (nI (3)), .int (nI (x)), .int (nI (y))])).length) Slot.unset).toArray = ls at hl ⊢
  have hl : lv_has ls 3 [(0, .int (nI (3))), (1, .int (nI (x))), (2, .int (nI (y)))] := hl
  refine lv_iload_n hx hb dX1_isUsable_0 rfl (lv_at hl 0 rfl) ?_
  refine lv_tableIn (x := nI (3)) (off := 57) (tgt := 58) hx hb dX1_isUsable_1 (by decide) (by decide) rfl (by decide) ?_
  refine lv_iload_n hx hb dX1_isUsable_58 rfl (lv_at hl 1 rfl) ?_
  refine lv_iconst (v := nI (3)) hx hb dX1_isUsable_59 (by decide) ?_
  refine n_icmp_ne (tgt := 72) hx hb dX1_isUsable_60 (by decide) (by omega) (by omega) (fun c_1 => ?_) (fun c_1 => ?_)
  ·
    refine lv_iconst (v := nI (0)) hx hb dX1_isUsable_72 (by decide) ?_
    refine n_top (show (nI (0)) = (nI ((fitB 3 x y).toNat)) from by rw [show fitB 3 x y = false from decide_eq_false (by omega)]; rfl) ?_
    exact W.zret (v := (nI ((fitB 3 x y).toNat))) hx hb hr (by cases fitB 3 x y <;> rfl) (fun t ht hW => ⟨rfl, ht⟩) (fun q h => by cases h) dX1_isUsable_73
  ·
    refine lv_iload_n hx hb dX1_isUsable_63 rfl (lv_at hl 2 rfl) ?_
    refine lv_iconst (v := nI (3)) hx hb dX1_isUsable_64 (by decide) ?_
    refine n_icmp_ne (tgt := 72) hx hb dX1_isUsable_65 (by decide) (by omega) (by omega) (fun c_2 => ?_) (fun c_2 => ?_)
    ·
      refine lv_iconst (v := nI (0)) hx hb dX1_isUsable_72 (by decide) ?_
      refine n_top (show (nI (0)) = (nI ((fitB 3 x y).toNat)) from by rw [show fitB 3 x y = false from decide_eq_false (by omega)]; rfl) ?_
      exact W.zret (v := (nI ((fitB 3 x y).toNat))) hx hb hr (by cases fitB 3 x y <;> rfl) (fun t ht hW => ⟨rfl, ht⟩) (fun q h => by cases h) dX1_isUsable_73
    ·
      refine lv_iconst (v := nI (1)) hx hb dX1_isUsable_68 (by decide) ?_
      refine lv_goto (tgt := 73) hx hb dX1_isUsable_69 (by decide) ?_
      refine n_top (show (nI (1)) = (nI ((fitB 3 x y).toNat)) from by rw [show fitB 3 x y = true from decide_eq_true (by omega)]; rfl) ?_
      exact W.zret (v := (nI ((fitB 3 x y).toNat))) hx hb hr (by cases fitB 3 x y <;> rfl) (fun t ht hW => ⟨rfl, ht⟩) (fun q h => by cases h) dX1_isUsable_73

set_option maxHeartbeats 4000000 in
set_option maxRecDepth 100000 in
theorem c_X1_isUsable_4 (l : Launch) (d : va_G) (cI : ClassId) (x y : Nat) (hx6 : x < 6) (hy6 : y < 6) : nRd l yX1_isUsable wsX1_isUsable ({ frames := 0, cells := 0, slots := 0, locals := 0 } : Room) d [(cI, .int)] [] [.int (nI (4)), .int (nI (x)), .int (nI (y))] (.int (nI ((fitB 4 x y).toNat))) := by
  refine Met.ofW (cc := cX1_isUsable) (maxL := 3) (ret := some .boolean) (by decide) rfl ?_
  intro p e s m args below meth c s₁ B hml hv
  obtain ⟨rfl, hP, hK⟩ := hv
  have hx := B.exec
  have hb := B.bytes
  have hr := B.returns
  have hts := atoms_spec (ws := wsX1_isUsable) B.pre
  have hown : s.vm.findClass RX1 = some m.cls := findClass_of_methodNamed B.named
  have hlocks := B.notSynchronized
  have hP : va_P d vwCl [] s.heap := hP
  have hl := lv_entry ([.int (nI (4)), .int (nI (x)), .int (nI (y))]) (n := 3) (Nat.le_of_ble_eq_true rfl)
  rw [lg_entry_eq]
  generalize (lg_sl ([.int (nI (4)), .int (nI (x)), .int (nI (y))]) ++ List.replicate (3 - (lg_sl ([.int (nI (4)), .int (nI (x)), .int (nI (y))])).length) Slot.unset).toArray = ls at hl ⊢
  have hl : lv_has ls 3 [(0, .int (nI (4))), (1, .int (nI (x))), (2, .int (nI (y)))] := hl
  refine lv_iload_n hx hb dX1_isUsable_0 rfl (lv_at hl 0 rfl) ?_
  refine lv_tableOut (x := nI (4)) (tgt := 74) hx hb dX1_isUsable_1 (by decide) (by decide) ?_
  refine lv_iload_n hx hb dX1_isUsable_74 rfl (lv_at hl 1 rfl) ?_
  refine lv_iconst (v := nI (2)) hx hb dX1_isUsable_75 (by decide) ?_
  refine n_icmp_ne (tgt := 88) hx hb dX1_isUsable_76 (by decide) (by omega) (by omega) (fun c_1 => ?_) (fun c_1 => ?_)
  ·
    refine lv_iconst (v := nI (0)) hx hb dX1_isUsable_88 (by decide) ?_
    refine n_top (show (nI (0)) = (nI ((fitB 4 x y).toNat)) from by rw [show fitB 4 x y = false from decide_eq_false (by omega)]; rfl) ?_
    exact W.zret (v := (nI ((fitB 4 x y).toNat))) hx hb hr (by cases fitB 4 x y <;> rfl) (fun t ht hW => ⟨rfl, ht⟩) (fun q h => by cases h) dX1_isUsable_89
  ·
    refine lv_iload_n hx hb dX1_isUsable_79 rfl (lv_at hl 2 rfl) ?_
    refine lv_iconst (v := nI (1)) hx hb dX1_isUsable_80 (by decide) ?_
    refine n_icmp_ne (tgt := 88) hx hb dX1_isUsable_81 (by decide) (by omega) (by omega) (fun c_2 => ?_) (fun c_2 => ?_)
    ·
      refine lv_iconst (v := nI (0)) hx hb dX1_isUsable_88 (by decide) ?_
      refine n_top (show (nI (0)) = (nI ((fitB 4 x y).toNat)) from by rw [show fitB 4 x y = false from decide_eq_false (by omega)]; rfl) ?_
      exact W.zret (v := (nI ((fitB 4 x y).toNat))) hx hb hr (by cases fitB 4 x y <;> rfl) (fun t ht hW => ⟨rfl, ht⟩) (fun q h => by cases h) dX1_isUsable_89
    ·
      refine lv_iconst (v := nI (1)) hx hb dX1_isUsable_84 (by decide) ?_
      refine lv_goto (tgt := 89) hx hb dX1_isUsable_85 (by decide) ?_
      refine n_top (show (nI (1)) = (nI ((fitB 4 x y).toNat)) from by rw [show fitB 4 x y = true from decide_eq_true (by omega)]; rfl) ?_
      exact W.zret (v := (nI ((fitB 4 x y).toNat))) hx hb hr (by cases fitB 4 x y <;> rfl) (fun t ht hW => ⟨rfl, ht⟩) (fun q h => by cases h) dX1_isUsable_89

theorem c_X1_isUsable (l : Launch) (d : va_G) (cI : ClassId) (r x y : Nat) (hr : r < 4) (hx6 : x < 6) (hy6 : y < 6) : nRd l yX1_isUsable wsX1_isUsable ({ frames := 0, cells := 0, slots := 0, locals := 0 } : Room) d [(cI, .int)] [] [.int (nI (r + 1)), .int (nI (x)), .int (nI (y))] (.int (nI ((fitB (r + 1) x y).toNat))) := by
  rcases lt4 hr with rfl | rfl | rfl | rfl
  · exact c_X1_isUsable_1 l d cI x y hx6 hy6
  · exact c_X1_isUsable_2 l d cI x y hx6 hy6
  · exact c_X1_isUsable_3 l d cI x y hx6 hy6
  · exact c_X1_isUsable_4 l d cI x y hx6 hy6
set_option maxHeartbeats 4000000 in
set_option maxRecDepth 100000 in
/-- the places of a code -/
theorem c_X1_unpack (l : Launch) (d : va_G) (cI : ClassId) (q a c0 : Nat) (f : Nat → Int32) (hc : c0 < 1296) : nUp l yX1_unpack wsX1_unpack ({ frames := 1, cells := 0, slots := 0, locals := 22 } : Room) d [(cI, .int)] [(q, .inr (2, [.ref a])), (a, .inl (cI, 4, .inl (f)))] [(q, .inr (2, [.ref a])), (a, .inl (cI, 4, .inl (fun j => nI (dig c0 j))))] [.int (nI (c0)), .ref q] none := by
  intro sz
  refine Met.ofW (cc := cX1_unpack) (maxL := 4) (ret := none) (by decide) rfl ?_
  intro p e s m args below meth c s₁ B hml hv
  obtain ⟨rfl, hsz, hP, hK, hD0⟩ := hv
  have hx := B.exec
  have hb := B.bytes
  have hr := B.returns
  have hts := atoms_spec (ws := wsX1_unpack) B.pre
  have hown : s.vm.findClass RX1 = some m.cls := findClass_of_methodNamed B.named
  have hlocks := B.notSynchronized
  subst hsz
  have hD := hD0.self (sz := s.heap.size)
  generalize hAe : va_A [(q, .inr (2, [.ref a])), (a, .inl (cI, 4, .inl (f)))] s.heap.size = A at hD ⊢
  have hA : ∀ q : Nat, s.heap.size ≤ q → A q := fun q h => by rw [← hAe]; exact Or.inr h
  have hS : va_S A s.heap s.heap [] := va_S.rf
  have hP : va_P d vwCl [(q, .inr (2, [.ref a])), (a, .inl (cI, 4, .inl (f)))] s.heap := hP
  have hl := lv_entry ([.int (nI (c0)), .ref q]) (n := 4) (Nat.le_of_ble_eq_true rfl)
  rw [lg_entry_eq]
  generalize (lg_sl ([.int (nI (c0)), .ref q]) ++ List.replicate (4 - (lg_sl ([.int (nI (c0)), .ref q])).length) Slot.unset).toArray = ls at hl ⊢
  have hl : lv_has ls 4 [(0, .int (nI (c0))), (1, .ref q)] := hl
  refine lv_iload_n hx hb dX1_unpack_0 rfl (lv_at hl 0 rfl) ?_
  refine lv_istore_n (lv' := [(2, .int (nI (c0))), (0, .int (nI (c0))), (1, .ref q)]) hx hb dX1_unpack_1 rfl hl (by decide) rfl (fun ls hl => ?_)
  refine lv_iconst (v := nI (3)) hx hb dX1_unpack_2 (by decide) ?_
  refine lv_istore_n (lv' := [(3, .int (nI (3))), (2, .int (nI (c0))), (0, .int (nI (c0))), (1, .ref q)]) hx hb dX1_unpack_3 rfl hl (by decide) rfl (fun ls hl => ?_)
  refine lv_iload_n hx hb dX1_unpack_4 rfl (lv_at hl 0 rfl) ?_
  refine n_iflt (tgt := 28) hx hb dX1_unpack_5 (by decide) (by decide) ?_
  refine lv_aload_n hx hb dX1_unpack_8 rfl (lv_at hl 3 rfl) ?_
  refine lv_iload_n hx hb dX1_unpack_9 rfl (lv_at hl 0 rfl) ?_
  refine lv_iload_n hx hb dX1_unpack_10 rfl (lv_at hl 1 rfl) ?_
  refine lv_bipush (v := nI (6)) hx hb dX1_unpack_11 (by decide) ?_
  refine n_rem hx hb dX1_unpack_13 (by omega) (by decide) (by decide) ?_
  refine n_upV (As := [.int (nI (3)), .int (nI (c0 % 6))]) (rest := []) (WC := [(q, .inr (2, [.ref a])), (a, .inl (cI, 4, .inl (f)))]) (WC' := [(q, .inr (2, [.ref a])), (a, .inl (cI, 4, .inl (upd f 3 (nI (c0 % 6)))))]) (wr := []) (WS' := [(q, .inr (2, [.ref a])), (a, .inl (cI, 4, .inl (upd f 3 (nI (c0 % 6)))))]) ⟨hx, hb, hml, hown, hts⟩ (c_X2_set l d cI q a 4 f 3 (nI (c0 % 6)) (by decide) (by decide)) (cwV 2 hts gX1_unpack_X2_set rfl rfl rfl (by decide +kernel) ⟨Nat.le_of_ble_eq_true rfl, Nat.le_of_ble_eq_true rfl⟩) (va_recv hK hP (ci := 2) (q0 := 0) rfl rfl) hP hD hS hA (hK) [0, 1] [] [0, 1] rfl rfl (by decide) ⟨by decide, by decide⟩ (by decide) rfl rfl hl.1 rfl (Nat.le_of_ble_eq_true rfl) dX1_unpack_14 ⟨Nat.zero_le _, Nat.zero_le _⟩ (fun H locs hP hD hS => ?_)
  show W _ _ _ _ _ _ _ _ _ _ _ _ _ _ _ (F0 m _ ls [])
  refine lv_iload_n hx hb dX1_unpack_17 rfl (lv_at hl 1 rfl) ?_
  refine lv_bipush (v := nI (6)) hx hb dX1_unpack_18 (by decide) ?_
  refine n_div hx hb dX1_unpack_20 (by omega) (by decide) (by decide) ?_
  refine lv_istore_n (lv' := [(2, .int (nI (c0 / 6))), (3, .int (nI (3))), (0, .int (nI (c0))), (1, .ref q)]) hx hb dX1_unpack_21 rfl hl (by decide) rfl (fun ls hl => ?_)
  refine lv_iinc (v := nI (2)) (lv' := [(3, .int (nI (2))), (2, .int (nI (c0 / 6))), (0, .int (nI (c0))), (1, .ref q)]) hx hb dX1_unpack_22 hl (k := 1) rfl (by decide) (by decide) rfl (fun ls hl => ?_)
  refine lv_goto (tgt := 4) hx hb dX1_unpack_25 (by decide) ?_
  refine lv_iload_n hx hb dX1_unpack_4 rfl (lv_at hl 0 rfl) ?_
  refine n_iflt (tgt := 28) hx hb dX1_unpack_5 (by decide) (by decide) ?_
  refine lv_aload_n hx hb dX1_unpack_8 rfl (lv_at hl 3 rfl) ?_
  refine lv_iload_n hx hb dX1_unpack_9 rfl (lv_at hl 0 rfl) ?_
  refine lv_iload_n hx hb dX1_unpack_10 rfl (lv_at hl 1 rfl) ?_
  refine lv_bipush (v := nI (6)) hx hb dX1_unpack_11 (by decide) ?_
  refine n_rem hx hb dX1_unpack_13 (by omega) (by decide) (by decide) ?_
  refine n_upV (As := [.int (nI (2)), .int (nI ((c0 / 6) % 6))]) (rest := []) (WC := [(q, .inr (2, [.ref a])), (a, .inl (cI, 4, .inl (upd f 3 (nI (c0 % 6)))))]) (WC' := [(q, .inr (2, [.ref a])), (a, .inl (cI, 4, .inl (upd (upd f 3 (nI (c0 % 6))) 2 (nI ((c0 / 6) % 6)))))]) (wr := []) (WS' := [(q, .inr (2, [.ref a])), (a, .inl (cI, 4, .inl (upd (upd f 3 (nI (c0 % 6))) 2 (nI ((c0 / 6) % 6)))))]) ⟨hx, hb, hml, hown, hts⟩ (c_X2_set l d cI q a 4 (upd f 3 (nI (c0 % 6))) 2 (nI ((c0 / 6) % 6)) (by decide) (by decide)) (cwV 2 hts gX1_unpack_X2_set rfl rfl rfl (by decide +kernel) ⟨Nat.le_of_ble_eq_true rfl, Nat.le_of_ble_eq_true rfl⟩) (va_recv hK hP (ci := 2) (q0 := 0) rfl rfl) hP hD hS hA (hK) [0, 1] [] [0, 1] rfl rfl (by decide) ⟨by decide, by decide⟩ (by decide) rfl rfl hl.1 rfl (Nat.le_of_ble_eq_true rfl) dX1_unpack_14 ⟨Nat.zero_le _, Nat.zero_le _⟩ (fun H locs hP hD hS => ?_)
  show W _ _ _ _ _ _ _ _ _ _ _ _ _ _ _ (F0 m _ ls [])
  refine lv_iload_n hx hb dX1_unpack_17 rfl (lv_at hl 1 rfl) ?_
  refine lv_bipush (v := nI (6)) hx hb dX1_unpack_18 (by decide) ?_
  refine n_div hx hb dX1_unpack_20 (by omega) (by decide) (by decide) ?_
  refine lv_istore_n (lv' := [(2, .int (nI ((c0 / 6) / 6))), (3, .int (nI (2))), (0, .int (nI (c0))), (1, .ref q)]) hx hb dX1_unpack_21 rfl hl (by decide) rfl (fun ls hl => ?_)
  refine lv_iinc (v := nI (1)) (lv' := [(3, .int (nI (1))), (2, .int (nI ((c0 / 6) / 6))), (0, .int (nI (c0))), (1, .ref q)]) hx hb dX1_unpack_22 hl (k := 1) rfl (by decide) (by decide) rfl (fun ls hl => ?_)
  refine lv_goto (tgt := 4) hx hb dX1_unpack_25 (by decide) ?_
  refine lv_iload_n hx hb dX1_unpack_4 rfl (lv_at hl 0 rfl) ?_
  refine n_iflt (tgt := 28) hx hb dX1_unpack_5 (by decide) (by decide) ?_
  refine lv_aload_n hx hb dX1_unpack_8 rfl (lv_at hl 3 rfl) ?_
  refine lv_iload_n hx hb dX1_unpack_9 rfl (lv_at hl 0 rfl) ?_
  refine lv_iload_n hx hb dX1_unpack_10 rfl (lv_at hl 1 rfl) ?_
  refine lv_bipush (v := nI (6)) hx hb dX1_unpack_11 (by decide) ?_
  refine n_rem hx hb dX1_unpack_13 (by omega) (by decide) (by decide) ?_
  refine n_upV (As := [.int (nI (1)), .int (nI (((c0 / 6) / 6) % 6))]) (rest := []) (WC := [(q, .inr (2, [.ref a])), (a, .inl (cI, 4, .inl (upd (upd f 3 (nI (c0 % 6))) 2 (nI ((c0 / 6) % 6)))))]) (WC' := [(q, .inr (2, [.ref a])), (a, .inl (cI, 4, .inl (upd (upd (upd f 3 (nI (c0 % 6))) 2 (nI ((c0 / 6) % 6))) 1 (nI (((c0 / 6) / 6) % 6)))))]) (wr := []) (WS' := [(q, .inr (2, [.ref a])), (a, .inl (cI, 4, .inl (upd (upd (upd f 3 (nI (c0 % 6))) 2 (nI ((c0 / 6) % 6))) 1 (nI (((c0 / 6) / 6) % 6)))))]) ⟨hx, hb, hml, hown, hts⟩ (c_X2_set l d cI q a 4 (upd (upd f 3 (nI (c0 % 6))) 2 (nI ((c0 / 6) % 6))) 1 (nI (((c0 / 6) / 6) % 6)) (by decide) (by decide)) (cwV 2 hts gX1_unpack_X2_set rfl rfl rfl (by decide +kernel) ⟨Nat.le_of_ble_eq_true rfl, Nat.le_of_ble_eq_true rfl⟩) (va_recv hK hP (ci := 2) (q0 := 0) rfl rfl) hP hD hS hA (hK) [0, 1] [] [0, 1] rfl rfl (by decide) ⟨by decide, by decide⟩ (by decide) rfl rfl hl.1 rfl (Nat.le_of_ble_eq_true rfl) dX1_unpack_14 ⟨Nat.zero_le _, Nat.zero_le _⟩ (fun H locs hP hD hS => ?_)
  show W _ _ _ _ _ _ _ _ _ _ _ _ _ _ _ (F0 m _ ls [])
  refine lv_iload_n hx hb dX1_unpack_17 rfl (lv_at hl 1 rfl) ?_
  refine lv_bipush (v := nI (6)) hx hb dX1_unpack_18 (by decide) ?_
  refine n_div hx hb dX1_unpack_20 (by omega) (by decide) (by decide) ?_
  refine lv_istore_n (lv' := [(2, .int (nI (((c0 / 6) / 6) / 6))), (3, .int (nI (1))), (0, .int (nI (c0))), (1, .ref q)]) hx hb dX1_unpack_21 rfl hl (by decide) rfl (fun ls hl => ?_)
  refine lv_iinc (v := nI (0)) (lv' := [(3, .int (nI (0))), (2, .int (nI (((c0 / 6) / 6) / 6))), (0, .int (nI (c0))), (1, .ref q)]) hx hb dX1_unpack_22 hl (k := 1) rfl (by decide) (by decide) rfl (fun ls hl => ?_)
  refine lv_goto (tgt := 4) hx hb dX1_unpack_25 (by decide) ?_
  refine lv_iload_n hx hb dX1_unpack_4 rfl (lv_at hl 0 rfl) ?_
  refine n_iflt (tgt := 28) hx hb dX1_unpack_5 (by decide) (by decide) ?_
  refine lv_aload_n hx hb dX1_unpack_8 rfl (lv_at hl 3 rfl) ?_
  refine lv_iload_n hx hb dX1_unpack_9 rfl (lv_at hl 0 rfl) ?_
  refine lv_iload_n hx hb dX1_unpack_10 rfl (lv_at hl 1 rfl) ?_
  refine lv_bipush (v := nI (6)) hx hb dX1_unpack_11 (by decide) ?_
  refine n_rem hx hb dX1_unpack_13 (by omega) (by decide) (by decide) ?_
  refine n_upV (As := [.int (nI (0)), .int (nI ((((c0 / 6) / 6) / 6) % 6))]) (rest := []) (WC := [(q, .inr (2, [.ref a])), (a, .inl (cI, 4, .inl (upd (upd (upd f 3 (nI (c0 % 6))) 2 (nI ((c0 / 6) % 6))) 1 (nI (((c0 / 6) / 6) % 6)))))]) (WC' := [(q, .inr (2, [.ref a])), (a, .inl (cI, 4, .inl (upd (upd (upd (upd f 3 (nI (c0 % 6))) 2 (nI ((c0 / 6) % 6))) 1 (nI (((c0 / 6) / 6) % 6))) 0 (nI ((((c0 / 6) / 6) / 6) % 6)))))]) (wr := []) (WS' := [(q, .inr (2, [.ref a])), (a, .inl (cI, 4, .inl (upd (upd (upd (upd f 3 (nI (c0 % 6))) 2 (nI ((c0 / 6) % 6))) 1 (nI (((c0 / 6) / 6) % 6))) 0 (nI ((((c0 / 6) / 6) / 6) % 6)))))]) ⟨hx, hb, hml, hown, hts⟩ (c_X2_set l d cI q a 4 (upd (upd (upd f 3 (nI (c0 % 6))) 2 (nI ((c0 / 6) % 6))) 1 (nI (((c0 / 6) / 6) % 6))) 0 (nI ((((c0 / 6) / 6) / 6) % 6)) (by decide) (by decide)) (cwV 2 hts gX1_unpack_X2_set rfl rfl rfl (by decide +kernel) ⟨Nat.le_of_ble_eq_true rfl, Nat.le_of_ble_eq_true rfl⟩) (va_recv hK hP (ci := 2) (q0 := 0) rfl rfl) hP hD hS hA (hK) [0, 1] [] [0, 1] rfl rfl (by decide) ⟨by decide, by decide⟩ (by decide) rfl rfl hl.1 rfl (Nat.le_of_ble_eq_true rfl) dX1_unpack_14 ⟨Nat.zero_le _, Nat.zero_le _⟩ (fun H locs hP hD hS => ?_)
  show W _ _ _ _ _ _ _ _ _ _ _ _ _ _ _ (F0 m _ ls [])
  refine lv_iload_n hx hb dX1_unpack_17 rfl (lv_at hl 1 rfl) ?_
  refine lv_bipush (v := nI (6)) hx hb dX1_unpack_18 (by decide) ?_
  refine n_div hx hb dX1_unpack_20 (by omega) (by decide) (by decide) ?_
  refine lv_istore_n (lv' := [(2, .int (nI ((((c0 / 6) / 6) / 6) / 6))), (3, .int (nI (0))), (0, .int (nI (c0))), (1, .ref q)]) hx hb dX1_unpack_21 rfl hl (by decide) rfl (fun ls hl => ?_)
  refine lv_iinc (v := (-1)) (lv' := [(3, .int (-1)), (2, .int (nI ((((c0 / 6) / 6) / 6) / 6))), (0, .int (nI (c0))), (1, .ref q)]) hx hb dX1_unpack_22 hl (k := 1) rfl (by decide) (by decide) rfl (fun ls hl => ?_)
  refine lv_goto (tgt := 4) hx hb dX1_unpack_25 (by decide) ?_
  refine lv_iload_n hx hb dX1_unpack_4 rfl (lv_at hl 0 rfl) ?_
  refine lv_if_lt (tgt := 28) hx hb dX1_unpack_5 (by decide) (fun c_5 => ?_) (fun c_5 => ?_)
  rotate_left
  · exact absurd c_5 (fun h => h (by decide))
  obtain ⟨hP, hD⟩ := n_cg (ws' := [(q, .inr (2, [.ref a])), (a, .inl (cI, 4, .inl (fun j => nI (dig c0 j))))]) hP hD 1 rfl (by intro j hj; rcases lt4 hj with rfl | rfl | rfl | rfl <;> simp only [upd, dig, wt] <;> simp <;> (try (congr 1; omega))) rfl
  exact W.vret hx hb hr (fun t ht hW => ⟨⟨rfl, by rw [ht]; exact hP, hD⟩, hS.F ht⟩) hS.2.2 dX1_unpack_28

set_option maxHeartbeats 4000000 in
set_option maxRecDepth 100000 in
/-- the code of the places -/
theorem c_X1_pack (l : Launch) (d : va_G) (cI : ClassId) (q a c0 : Nat) (hc : c0 < 1296) : nRd l yX1_pack wsX1_pack ({ frames := 1, cells := 0, slots := 0, locals := 21 } : Room) d [(cI, .int)] [(q, .inr (2, [.ref a])), (a, .inl (cI, 4, .inl (fun j => nI (dig c0 j))))] [.ref q] (.int (nI (c0))) := by
  refine Met.ofW (cc := cX1_pack) (maxL := 3) (ret := some .int) (by decide) rfl ?_
  intro p e s m args below meth c s₁ B hml hv
  obtain ⟨rfl, hP, hK⟩ := hv
  have hx := B.exec
  have hb := B.bytes
  have hr := B.returns
  have hts := atoms_spec (ws := wsX1_pack) B.pre
  have hown : s.vm.findClass RX1 = some m.cls := findClass_of_methodNamed B.named
  have hlocks := B.notSynchronized
  have hP : va_P d vwCl [(q, .inr (2, [.ref a])), (a, .inl (cI, 4, .inl (fun j => nI (dig c0 j))))] s.heap := hP
  have hl := lv_entry ([.ref q]) (n := 3) (Nat.le_of_ble_eq_true rfl)
  rw [lg_entry_eq]
  generalize (lg_sl ([.ref q]) ++ List.replicate (3 - (lg_sl ([.ref q])).length) Slot.unset).toArray = ls at hl ⊢
  have hl : lv_has ls 3 [(0, .ref q)] := hl
  refine lv_iconst (v := nI (0)) hx hb dX1_pack_0 (by decide) ?_
  refine lv_istore_n (lv' := [(1, .int (nI (0))), (0, .ref q)]) hx hb dX1_pack_1 rfl hl (by decide) rfl (fun ls hl => ?_)
  refine lv_iconst (v := nI (0)) hx hb dX1_pack_2 (by decide) ?_
  refine lv_istore_n (lv' := [(2, .int (nI (0))), (1, .int (nI (0))), (0, .ref q)]) hx hb dX1_pack_3 rfl hl (by decide) rfl (fun ls hl => ?_)
  refine lv_iload_n hx hb dX1_pack_4 rfl (lv_at hl 0 rfl) ?_
  refine lv_iconst (v := nI (4)) hx hb dX1_pack_5 (by decide) ?_
  refine n_icmp_ge (tgt := 26) hx hb dX1_pack_6 (by decide) (by decide) (by decide) (fun c_1 => ?_) (fun c_1 => ?_)
  · exact absurd c_1 (by decide)
  refine lv_iload_n hx hb dX1_pack_9 rfl (lv_at hl 1 rfl) ?_
  refine lv_bipush (v := nI (6)) hx hb dX1_pack_10 (by decide) ?_
  refine n_mul hx hb dX1_pack_12 ?_
  refine lv_aload_n hx hb dX1_pack_13 rfl (lv_at hl 2 rfl) ?_
  refine lv_iload_n hx hb dX1_pack_14 rfl (lv_at hl 0 rfl) ?_
  refine n_rdV (As := [.int (nI (0))]) (rest := [.int (nI (0))]) (WC := [(q, .inr (2, [.ref a])), (a, .inl (cI, 4, .inl (fun j => nI (dig c0 j))))]) ⟨hx, hb, hml, hown, hts⟩ (c_X2_get l d cI q a 4 (fun j => nI (dig c0 j)) 0 (by decide) (by decide)) (cwV 1 hts gX1_pack_X2_get rfl rfl rfl (by decide +kernel) ⟨Nat.le_of_ble_eq_true rfl, Nat.le_of_ble_eq_true rfl⟩) (va_recv hK hP (ci := 2) (q0 := 0) rfl rfl) (hP.sub [0, 1] rfl) (hK) rfl hl.1 rfl (Nat.le_of_ble_eq_true rfl) dX1_pack_15 ⟨Nat.zero_le _, Nat.zero_le _⟩ ?_
  refine n_add hx hb dX1_pack_18 ?_
  refine lv_istore_n (lv' := [(1, .int (nI (0 + (dig c0 0)))), (2, .int (nI (0))), (0, .ref q)]) hx hb dX1_pack_19 rfl hl (by decide) rfl (fun ls hl => ?_)
  refine lv_iinc (v := nI (1)) (lv' := [(2, .int (nI (1))), (1, .int (nI (0 + (dig c0 0)))), (0, .ref q)]) hx hb dX1_pack_20 hl (k := 1) rfl (by decide) (by decide) rfl (fun ls hl => ?_)
  refine lv_goto (tgt := 4) hx hb dX1_pack_23 (by decide) ?_
  refine lv_iload_n hx hb dX1_pack_4 rfl (lv_at hl 0 rfl) ?_
  refine lv_iconst (v := nI (4)) hx hb dX1_pack_5 (by decide) ?_
  refine n_icmp_ge (tgt := 26) hx hb dX1_pack_6 (by decide) (by decide) (by decide) (fun c_2 => ?_) (fun c_2 => ?_)
  · exact absurd c_2 (by decide)
  refine lv_iload_n hx hb dX1_pack_9 rfl (lv_at hl 1 rfl) ?_
  refine lv_bipush (v := nI (6)) hx hb dX1_pack_10 (by decide) ?_
  refine n_mul hx hb dX1_pack_12 ?_
  refine lv_aload_n hx hb dX1_pack_13 rfl (lv_at hl 2 rfl) ?_
  refine lv_iload_n hx hb dX1_pack_14 rfl (lv_at hl 0 rfl) ?_
  refine n_rdV (As := [.int (nI (1))]) (rest := [.int (nI ((0 + (dig c0 0)) * 6))]) (WC := [(q, .inr (2, [.ref a])), (a, .inl (cI, 4, .inl (fun j => nI (dig c0 j))))]) ⟨hx, hb, hml, hown, hts⟩ (c_X2_get l d cI q a 4 (fun j => nI (dig c0 j)) 1 (by decide) (by decide)) (cwV 1 hts gX1_pack_X2_get rfl rfl rfl (by decide +kernel) ⟨Nat.le_of_ble_eq_true rfl, Nat.le_of_ble_eq_true rfl⟩) (va_recv hK hP (ci := 2) (q0 := 0) rfl rfl) (hP.sub [0, 1] rfl) (hK) rfl hl.1 rfl (Nat.le_of_ble_eq_true rfl) dX1_pack_15 ⟨Nat.zero_le _, Nat.zero_le _⟩ ?_
  refine n_add hx hb dX1_pack_18 ?_
  refine lv_istore_n (lv' := [(1, .int (nI (((0 + (dig c0 0)) * 6) + (dig c0 1)))), (2, .int (nI (1))), (0, .ref q)]) hx hb dX1_pack_19 rfl hl (by decide) rfl (fun ls hl => ?_)
  refine lv_iinc (v := nI (2)) (lv' := [(2, .int (nI (2))), (1, .int (nI (((0 + (dig c0 0)) * 6) + (dig c0 1)))), (0, .ref q)]) hx hb dX1_pack_20 hl (k := 1) rfl (by decide) (by decide) rfl (fun ls hl => ?_)
  refine lv_goto (tgt := 4) hx hb dX1_pack_23 (by decide) ?_
  refine lv_iload_n hx hb dX1_pack_4 rfl (lv_at hl 0 rfl) ?_
  refine lv_iconst (v := nI (4)) hx hb dX1_pack_5 (by decide) ?_
  refine n_icmp_ge (tgt := 26) hx hb dX1_pack_6 (by decide) (by decide) (by decide) (fun c_3 => ?_) (fun c_3 => ?_)
  · exact absurd c_3 (by decide)
  refine lv_iload_n hx hb dX1_pack_9 rfl (lv_at hl 1 rfl) ?_
  refine lv_bipush (v := nI (6)) hx hb dX1_pack_10 (by decide) ?_
  refine n_mul hx hb dX1_pack_12 ?_
  refine lv_aload_n hx hb dX1_pack_13 rfl (lv_at hl 2 rfl) ?_
  refine lv_iload_n hx hb dX1_pack_14 rfl (lv_at hl 0 rfl) ?_
  refine n_rdV (As := [.int (nI (2))]) (rest := [.int (nI ((((0 + (dig c0 0)) * 6) + (dig c0 1)) * 6))]) (WC := [(q, .inr (2, [.ref a])), (a, .inl (cI, 4, .inl (fun j => nI (dig c0 j))))]) ⟨hx, hb, hml, hown, hts⟩ (c_X2_get l d cI q a 4 (fun j => nI (dig c0 j)) 2 (by decide) (by decide)) (cwV 1 hts gX1_pack_X2_get rfl rfl rfl (by decide +kernel) ⟨Nat.le_of_ble_eq_true rfl, Nat.le_of_ble_eq_true rfl⟩) (va_recv hK hP (ci := 2) (q0 := 0) rfl rfl) (hP.sub [0, 1] rfl) (hK) rfl hl.1 rfl (Nat.le_of_ble_eq_true rfl) dX1_pack_15 ⟨Nat.zero_le _, Nat.zero_le _⟩ ?_
  refine n_add hx hb dX1_pack_18 ?_
  refine lv_istore_n (lv' := [(1, .int (nI (((((0 + (dig c0 0)) * 6) + (dig c0 1)) * 6) + (dig c0 2)))), (2, .int (nI (2))), (0, .ref q)]) hx hb dX1_pack_19 rfl hl (by decide) rfl (fun ls hl => ?_)
  refine lv_iinc (v := nI (3)) (lv' := [(2, .int (nI (3))), (1, .int (nI (((((0 + (dig c0 0)) * 6) + (dig c0 1)) * 6) + (dig c0 2)))), (0, .ref q)]) hx hb dX1_pack_20 hl (k := 1) rfl (by decide) (by decide) rfl (fun ls hl => ?_)
  refine lv_goto (tgt := 4) hx hb dX1_pack_23 (by decide) ?_
  refine lv_iload_n hx hb dX1_pack_4 rfl (lv_at hl 0 rfl) ?_
  refine lv_iconst (v := nI (4)) hx hb dX1_pack_5 (by decide) ?_
  refine n_icmp_ge (tgt := 26) hx hb dX1_pack_6 (by decide) (by decide) (by decide) (fun c_4 => ?_) (fun c_4 => ?_)
  · exact absurd c_4 (by decide)
  refine lv_iload_n hx hb dX1_pack_9 rfl (lv_at hl 1 rfl) ?_
  refine lv_bipush (v := nI (6)) hx hb dX1_pack_10 (by decide) ?_
  refine n_mul hx hb dX1_pack_12 ?_
  refine lv_aload_n hx hb dX1_pack_13 rfl (lv_at hl 2 rfl) ?_
  refine lv_iload_n hx hb dX1_pack_14 rfl (lv_at hl 0 rfl) ?_
  refine n_rdV (As := [.int (nI (3))]) (rest := [.int (nI ((((((0 + (dig c0 0)) * 6) + (dig c0 1)) * 6) + (dig c0 2)) * 6))]) (WC := [(q, .inr (2, [.ref a])), (a, .inl (cI, 4, .inl (fun j => nI (dig c0 j))))]) ⟨hx, hb, hml, hown, hts⟩ (c_X2_get l d cI q a 4 (fun j => nI (dig c0 j)) 3 (by decide) (by decide)) (cwV 1 hts gX1_pack_X2_get rfl rfl rfl (by decide +kernel) ⟨Nat.le_of_ble_eq_true rfl, Nat.le_of_ble_eq_true rfl⟩) (va_recv hK hP (ci := 2) (q0 := 0) rfl rfl) (hP.sub [0, 1] rfl) (hK) rfl hl.1 rfl (Nat.le_of_ble_eq_true rfl) dX1_pack_15 ⟨Nat.zero_le _, Nat.zero_le _⟩ ?_
  refine n_add hx hb dX1_pack_18 ?_
  refine lv_istore_n (lv' := [(1, .int (nI (((((((0 + (dig c0 0)) * 6) + (dig c0 1)) * 6) + (dig c0 2)) * 6) + (dig c0 3)))), (2, .int (nI (3))), (0, .ref q)]) hx hb dX1_pack_19 rfl hl (by decide) rfl (fun ls hl => ?_)
  refine lv_iinc (v := nI (4)) (lv' := [(2, .int (nI (4))), (1, .int (nI (((((((0 + (dig c0 0)) * 6) + (dig c0 1)) * 6) + (dig c0 2)) * 6) + (dig c0 3)))), (0, .ref q)]) hx hb dX1_pack_20 hl (k := 1) rfl (by decide) (by decide) rfl (fun ls hl => ?_)
  refine lv_goto (tgt := 4) hx hb dX1_pack_23 (by decide) ?_
  refine lv_iload_n hx hb dX1_pack_4 rfl (lv_at hl 0 rfl) ?_
  refine lv_iconst (v := nI (4)) hx hb dX1_pack_5 (by decide) ?_
  refine n_icmp_ge (tgt := 26) hx hb dX1_pack_6 (by decide) (by decide) (by decide) (fun c_5 => ?_) (fun c_5 => ?_)
  rotate_left
  · exact absurd c_5 (by decide)
  refine lv_iload_n hx hb dX1_pack_26 rfl (lv_at hl 1 rfl) ?_
  refine n_top (show (nI (((((((0 + (dig c0 0)) * 6) + (dig c0 1)) * 6) + (dig c0 2)) * 6) + (dig c0 3))) = (nI (c0)) from congrArg nI (by have h := pack_eq hc; omega)) ?_
  exact W.iret (v := (nI (c0))) hx hb hr (fun t ht hW => ⟨rfl, ht⟩) (fun q h => by cases h) dX1_pack_27

set_option maxHeartbeats 4000000 in
set_option maxRecDepth 100000 in
theorem c_X1_use_1 (l : Launch) (d : va_G) (cI : ClassId) (q a c0 pl : Nat) (hc : c0 < 1296) (hpl : pl < 3) (hf : fkb c0 (pl) = true) : nUp l yX1_use wsX1_use ({ frames := 1, cells := 0, slots := 0, locals := 22 } : Room) d [(cI, .int)] [(q, .inr (2, [.ref a])), (a, .inl (cI, 4, .inl (fun j => nI (dig c0 j))))] [(q, .inr (2, [.ref a])), (a, .inl (cI, 4, .inl (fun j => nI (dig (stp c0 (pl)) j))))] [.int (nI (1)), .ref q, .int (nI (pl))] none := by
  intro sz
  refine Met.ofW (cc := cX1_use) (maxL := 5) (ret := none) (by decide) rfl ?_
  intro p e s m args below meth c s₁ B hml hv
  obtain ⟨rfl, hsz, hP, hK, hD0⟩ := hv
  have hx := B.exec
  have hb := B.bytes
  have hr := B.returns
  have hts := atoms_spec (ws := wsX1_use) B.pre
  have hown : s.vm.findClass RX1 = some m.cls := findClass_of_methodNamed B.named
  have hlocks := B.notSynchronized
  subst hsz
  have hD := hD0.self (sz := s.heap.size)
  generalize hAe : va_A [(q, .inr (2, [.ref a])), (a, .inl (cI, 4, .inl (fun j => nI (dig c0 j))))] s.heap.size = A at hD ⊢
  have hA : ∀ q : Nat, s.heap.size ≤ q → A q := fun q h => by rw [← hAe]; exact Or.inr h
  have hS : va_S A s.heap s.heap [] := va_S.rf
  have hP : va_P d vwCl [(q, .inr (2, [.ref a])), (a, .inl (cI, 4, .inl (fun j => nI (dig c0 j))))] s.heap := hP
  have hl := lv_entry ([.int (nI (1)), .ref q, .int (nI (pl))]) (n := 5) (Nat.le_of_ble_eq_true rfl)
  rw [lg_entry_eq]
  generalize (lg_sl ([.int (nI (1)), .ref q, .int (nI (pl))]) ++ List.replicate (5 - (lg_sl ([.int (nI (1)), .ref q, .int (nI (pl))])).length) Slot.unset).toArray = ls at hl ⊢
  have hl : lv_has ls 5 [(0, .int (nI (1))), (1, .ref q), (2, .int (nI (pl)))] := hl
  refine lv_aload_n hx hb dX1_use_0 rfl (lv_at hl 1 rfl) ?_
  refine lv_iload_n hx hb dX1_use_1 rfl (lv_at hl 2 rfl) ?_
  refine n_rdV (As := [.int (nI (pl))]) (rest := []) (WC := [(q, .inr (2, [.ref a])), (a, .inl (cI, 4, .inl (fun j => nI (dig c0 j))))]) ⟨hx, hb, hml, hown, hts⟩ (c_X2_get l d cI q a 4 (fun j => nI (dig c0 j)) pl (by omega) (by decide)) (cwV 1 hts gX1_use_X2_get rfl rfl rfl (by decide +kernel) ⟨Nat.le_of_ble_eq_true rfl, Nat.le_of_ble_eq_true rfl⟩) (va_recv hK hP (ci := 2) (q0 := 0) rfl rfl) (hP.sub [0, 1] rfl) (hK) rfl hl.1 rfl (Nat.le_of_ble_eq_true rfl) dX1_use_2 ⟨Nat.zero_le _, Nat.zero_le _⟩ ?_
  refine lv_istore_n (lv' := [(3, .int (nI (dig c0 pl))), (0, .int (nI (1))), (1, .ref q), (2, .int (nI (pl)))]) hx hb dX1_use_5 rfl hl (by decide) rfl (fun ls hl => ?_)
  refine lv_aload_n hx hb dX1_use_6 rfl (lv_at hl 2 rfl) ?_
  refine lv_iload_n hx hb dX1_use_7 rfl (lv_at hl 3 rfl) ?_
  refine lv_iconst (v := nI (1)) hx hb dX1_use_8 (by decide) ?_
  refine n_add hx hb dX1_use_9 ?_
  refine n_rdV (As := [.int (nI (pl + 1))]) (rest := []) (WC := [(q, .inr (2, [.ref a])), (a, .inl (cI, 4, .inl (fun j => nI (dig c0 j))))]) ⟨hx, hb, hml, hown, hts⟩ (c_X2_get l d cI q a 4 (fun j => nI (dig c0 j)) (pl + 1) (by omega) (by decide)) (cwV 1 hts gX1_use_X2_get rfl rfl rfl (by decide +kernel) ⟨Nat.le_of_ble_eq_true rfl, Nat.le_of_ble_eq_true rfl⟩) (va_recv hK hP (ci := 2) (q0 := 0) rfl rfl) (hP.sub [0, 1] rfl) (hK) rfl hl.1 rfl (Nat.le_of_ble_eq_true rfl) dX1_use_10 ⟨Nat.zero_le _, Nat.zero_le _⟩ ?_
  refine lv_istore (lv' := [(4, .int (nI (dig c0 (pl + 1)))), (3, .int (nI (dig c0 pl))), (0, .int (nI (1))), (1, .ref q), (2, .int (nI (pl)))]) hx hb dX1_use_13 hl (by decide) rfl (fun ls hl => ?_)
  refine lv_iload_n hx hb dX1_use_15 rfl (lv_at hl 2 rfl) ?_
  refine lv_tableIn (x := nI (1)) (off := 28) (tgt := 44) hx hb dX1_use_16 (by decide) (by decide) rfl (by decide) ?_
  refine lv_aload_n hx hb dX1_use_44 rfl (lv_at hl 3 rfl) ?_
  refine lv_iload_n hx hb dX1_use_45 rfl (lv_at hl 4 rfl) ?_
  refine lv_iload hx hb dX1_use_46 (lv_at hl 0 rfl) ?_
  refine n_upV (As := [.int (nI (pl)), .int (nI (dig c0 (pl + 1)))]) (rest := []) (WC := [(q, .inr (2, [.ref a])), (a, .inl (cI, 4, .inl (fun j => nI (dig c0 j))))]) (WC' := [(q, .inr (2, [.ref a])), (a, .inl (cI, 4, .inl (upd (fun j => nI (dig c0 j)) pl (nI (dig c0 (pl + 1))))))]) (wr := []) (WS' := [(q, .inr (2, [.ref a])), (a, .inl (cI, 4, .inl (upd (fun j => nI (dig c0 j)) pl (nI (dig c0 (pl + 1))))))]) ⟨hx, hb, hml, hown, hts⟩ (c_X2_set l d cI q a 4 (fun j => nI (dig c0 j)) pl (nI (dig c0 (pl + 1))) (by omega) (by decide)) (cwV 2 hts gX1_use_X2_set rfl rfl rfl (by decide +kernel) ⟨Nat.le_of_ble_eq_true rfl, Nat.le_of_ble_eq_true rfl⟩) (va_recv hK hP (ci := 2) (q0 := 0) rfl rfl) hP hD hS hA (hK) [0, 1] [] [0, 1] rfl rfl (by decide) ⟨by decide, by decide⟩ (by decide) rfl rfl hl.1 rfl (Nat.le_of_ble_eq_true rfl) dX1_use_48 ⟨Nat.zero_le _, Nat.zero_le _⟩ (fun H locs hP hD hS => ?_)
  show W _ _ _ _ _ _ _ _ _ _ _ _ _ _ _ (F0 m _ ls [])
  refine lv_aload_n hx hb dX1_use_51 rfl (lv_at hl 3 rfl) ?_
  refine lv_iload_n hx hb dX1_use_52 rfl (lv_at hl 4 rfl) ?_
  refine lv_iconst (v := nI (1)) hx hb dX1_use_53 (by decide) ?_
  refine n_add hx hb dX1_use_54 ?_
  refine lv_iload_n hx hb dX1_use_55 rfl (lv_at hl 1 rfl) ?_
  refine n_upV (As := [.int (nI (pl + 1)), .int (nI (dig c0 pl))]) (rest := []) (WC := [(q, .inr (2, [.ref a])), (a, .inl (cI, 4, .inl (upd (fun j => nI (dig c0 j)) pl (nI (dig c0 (pl + 1))))))]) (WC' := [(q, .inr (2, [.ref a])), (a, .inl (cI, 4, .inl (upd (upd (fun j => nI (dig c0 j)) pl (nI (dig c0 (pl + 1)))) (pl + 1) (nI (dig c0 pl)))))]) (wr := []) (WS' := [(q, .inr (2, [.ref a])), (a, .inl (cI, 4, .inl (upd (upd (fun j => nI (dig c0 j)) pl (nI (dig c0 (pl + 1)))) (pl + 1) (nI (dig c0 pl)))))]) ⟨hx, hb, hml, hown, hts⟩ (c_X2_set l d cI q a 4 (upd (fun j => nI (dig c0 j)) pl (nI (dig c0 (pl + 1)))) (pl + 1) (nI (dig c0 pl)) (by omega) (by decide)) (cwV 2 hts gX1_use_X2_set rfl rfl rfl (by decide +kernel) ⟨Nat.le_of_ble_eq_true rfl, Nat.le_of_ble_eq_true rfl⟩) (va_recv hK hP (ci := 2) (q0 := 0) rfl rfl) hP hD hS hA (hK) [0, 1] [] [0, 1] rfl rfl (by decide) ⟨by decide, by decide⟩ (by decide) rfl rfl hl.1 rfl (Nat.le_of_ble_eq_true rfl) dX1_use_56 ⟨Nat.zero_le _, Nat.zero_le _⟩ (fun H locs hP hD hS => ?_)
  show W _ _ _ _ _ _ _ _ _ _ _ _ _ _ _ (F0 m _ ls [])
  refine lv_goto (tgt := 87) hx hb dX1_use_59 (by decide) ?_
  obtain ⟨hP, hD⟩ := n_cg (ws' := [(q, .inr (2, [.ref a])), (a, .inl (cI, 4, .inl (fun j => nI (dig (stp c0 (pl)) j))))]) hP hD 1 rfl (by intro j hj; have h := (stp_ok hc (show pl < 12 from by omega) hf).2 j hj; rw [show (pl) % 3 = pl from by omega] at h; rw [if_pos (by omega)] at h; rw [h]; unfold upd; by_cases h1 : j = pl + 1 <;> by_cases h2 : j = pl <;> simp [h1, h2] <;> omega) rfl
  exact W.vret hx hb hr (fun t ht hW => ⟨⟨rfl, by rw [ht]; exact hP, hD⟩, hS.F ht⟩) hS.2.2 dX1_use_87

set_option maxHeartbeats 4000000 in
set_option maxRecDepth 100000 in
theorem c_X1_use_2 (l : Launch) (d : va_G) (cI : ClassId) (q a c0 pl : Nat) (hc : c0 < 1296) (hpl : pl < 3) (hf : fkb c0 (3 + pl) = true) : nUp l yX1_use wsX1_use ({ frames := 1, cells := 0, slots := 0, locals := 22 } : Room) d [(cI, .int)] [(q, .inr (2, [.ref a])), (a, .inl (cI, 4, .inl (fun j => nI (dig c0 j))))] [(q, .inr (2, [.ref a])), (a, .inl (cI, 4, .inl (fun j => nI (dig (stp c0 (3 + pl)) j))))] [.int (nI (2)), .ref q, .int (nI (pl))] none := by
  intro sz
  refine Met.ofW (cc := cX1_use) (maxL := 5) (ret := none) (by decide) rfl ?_
  intro p e s m args below meth c s₁ B hml hv
  obtain ⟨rfl, hsz, hP, hK, hD0⟩ := hv
  have hx := B.exec
  have hb := B.bytes
  have hr := B.returns
  have hts := atoms_spec (ws := wsX1_use) B.pre
  have hown : s.vm.findClass RX1 = some m.cls := findClass_of_methodNamed B.named
  have hlocks := B.notSynchronized
  subst hsz
  have hD := hD0.self (sz := s.heap.size)
  generalize hAe : va_A [(q, .inr (2, [.ref a])), (a, .inl (cI, 4, .inl (fun j => nI (dig c0 j))))] s.heap.size = A at hD ⊢
  have hA : ∀ q : Nat, s.heap.size ≤ q → A q := fun q h => by rw [← hAe]; exact Or.inr h
  have hS : va_S A s.heap s.heap [] := va_S.rf
  have hP : va_P d vwCl [(q, .inr (2, [.ref a])), (a, .inl (cI, 4, .inl (fun j => nI (dig c0 j))))] s.heap := hP
  have hl := lv_entry ([.int (nI (2)), .ref q, .int (nI (pl))]) (n := 5) (Nat.le_of_ble_eq_true rfl)
  rw [lg_entry_eq]
  generalize (lg_sl ([.int (nI (2)), .ref q, .int (nI (pl))]) ++ List.replicate (5 - (lg_sl ([.int (nI (2)), .ref q, .int (nI (pl))])).length) Slot.unset).toArray = ls at hl ⊢
  have hl : lv_has ls 5 [(0, .int (nI (2))), (1, .ref q), (2, .int (nI (pl)))] := hl
  refine lv_aload_n hx hb dX1_use_0 rfl (lv_at hl 1 rfl) ?_
  refine lv_iload_n hx hb dX1_use_1 rfl (lv_at hl 2 rfl) ?_
  refine n_rdV (As := [.int (nI (pl))]) (rest := []) (WC := [(q, .inr (2, [.ref a])), (a, .inl (cI, 4, .inl (fun j => nI (dig c0 j))))]) ⟨hx, hb, hml, hown, hts⟩ (c_X2_get l d cI q a 4 (fun j => nI (dig c0 j)) pl (by omega) (by decide)) (cwV 1 hts gX1_use_X2_get rfl rfl rfl (by decide +kernel) ⟨Nat.le_of_ble_eq_true rfl, Nat.le_of_ble_eq_true rfl⟩) (va_recv hK hP (ci := 2) (q0 := 0) rfl rfl) (hP.sub [0, 1] rfl) (hK) rfl hl.1 rfl (Nat.le_of_ble_eq_true rfl) dX1_use_2 ⟨Nat.zero_le _, Nat.zero_le _⟩ ?_
  refine lv_istore_n (lv' := [(3, .int (nI (dig c0 pl))), (0, .int (nI (2))), (1, .ref q), (2, .int (nI (pl)))]) hx hb dX1_use_5 rfl hl (by decide) rfl (fun ls hl => ?_)
  refine lv_aload_n hx hb dX1_use_6 rfl (lv_at hl 2 rfl) ?_
  refine lv_iload_n hx hb dX1_use_7 rfl (lv_at hl 3 rfl) ?_
  refine lv_iconst (v := nI (1)) hx hb dX1_use_8 (by decide) ?_
  refine n_add hx hb dX1_use_9 ?_
  refine n_rdV (As := [.int (nI (pl + 1))]) (rest := []) (WC := [(q, .inr (2, [.ref a])), (a, .inl (cI, 4, .inl (fun j => nI (dig c0 j))))]) ⟨hx, hb, hml, hown, hts⟩ (c_X2_get l d cI q a 4 (fun j => nI (dig c0 j)) (pl + 1) (by omega) (by decide)) (cwV 1 hts gX1_use_X2_get rfl rfl rfl (by decide +kernel) ⟨Nat.le_of_ble_eq_true rfl, Nat.le_of_ble_eq_true rfl⟩) (va_recv hK hP (ci := 2) (q0 := 0) rfl rfl) (hP.sub [0, 1] rfl) (hK) rfl hl.1 rfl (Nat.le_of_ble_eq_true rfl) dX1_use_10 ⟨Nat.zero_le _, Nat.zero_le _⟩ ?_
  refine lv_istore (lv' := [(4, .int (nI (dig c0 (pl + 1)))), (3, .int (nI (dig c0 pl))), (0, .int (nI (2))), (1, .ref q), (2, .int (nI (pl)))]) hx hb dX1_use_13 hl (by decide) rfl (fun ls hl => ?_)
  refine lv_iload_n hx hb dX1_use_15 rfl (lv_at hl 2 rfl) ?_
  refine lv_tableIn (x := nI (2)) (off := 28) (tgt := 44) hx hb dX1_use_16 (by decide) (by decide) rfl (by decide) ?_
  refine lv_aload_n hx hb dX1_use_44 rfl (lv_at hl 3 rfl) ?_
  refine lv_iload_n hx hb dX1_use_45 rfl (lv_at hl 4 rfl) ?_
  refine lv_iload hx hb dX1_use_46 (lv_at hl 0 rfl) ?_
  refine n_upV (As := [.int (nI (pl)), .int (nI (dig c0 (pl + 1)))]) (rest := []) (WC := [(q, .inr (2, [.ref a])), (a, .inl (cI, 4, .inl (fun j => nI (dig c0 j))))]) (WC' := [(q, .inr (2, [.ref a])), (a, .inl (cI, 4, .inl (upd (fun j => nI (dig c0 j)) pl (nI (dig c0 (pl + 1))))))]) (wr := []) (WS' := [(q, .inr (2, [.ref a])), (a, .inl (cI, 4, .inl (upd (fun j => nI (dig c0 j)) pl (nI (dig c0 (pl + 1))))))]) ⟨hx, hb, hml, hown, hts⟩ (c_X2_set l d cI q a 4 (fun j => nI (dig c0 j)) pl (nI (dig c0 (pl + 1))) (by omega) (by decide)) (cwV 2 hts gX1_use_X2_set rfl rfl rfl (by decide +kernel) ⟨Nat.le_of_ble_eq_true rfl, Nat.le_of_ble_eq_true rfl⟩) (va_recv hK hP (ci := 2) (q0 := 0) rfl rfl) hP hD hS hA (hK) [0, 1] [] [0, 1] rfl rfl (by decide) ⟨by decide, by decide⟩ (by decide) rfl rfl hl.1 rfl (Nat.le_of_ble_eq_true rfl) dX1_use_48 ⟨Nat.zero_le _, Nat.zero_le _⟩ (fun H locs hP hD hS => ?_)
  show W _ _ _ _ _ _ _ _ _ _ _ _ _ _ _ (F0 m _ ls [])
  refine lv_aload_n hx hb dX1_use_51 rfl (lv_at hl 3 rfl) ?_
  refine lv_iload_n hx hb dX1_use_52 rfl (lv_at hl 4 rfl) ?_
  refine lv_iconst (v := nI (1)) hx hb dX1_use_53 (by decide) ?_
  refine n_add hx hb dX1_use_54 ?_
  refine lv_iload_n hx hb dX1_use_55 rfl (lv_at hl 1 rfl) ?_
  refine n_upV (As := [.int (nI (pl + 1)), .int (nI (dig c0 pl))]) (rest := []) (WC := [(q, .inr (2, [.ref a])), (a, .inl (cI, 4, .inl (upd (fun j => nI (dig c0 j)) pl (nI (dig c0 (pl + 1))))))]) (WC' := [(q, .inr (2, [.ref a])), (a, .inl (cI, 4, .inl (upd (upd (fun j => nI (dig c0 j)) pl (nI (dig c0 (pl + 1)))) (pl + 1) (nI (dig c0 pl)))))]) (wr := []) (WS' := [(q, .inr (2, [.ref a])), (a, .inl (cI, 4, .inl (upd (upd (fun j => nI (dig c0 j)) pl (nI (dig c0 (pl + 1)))) (pl + 1) (nI (dig c0 pl)))))]) ⟨hx, hb, hml, hown, hts⟩ (c_X2_set l d cI q a 4 (upd (fun j => nI (dig c0 j)) pl (nI (dig c0 (pl + 1)))) (pl + 1) (nI (dig c0 pl)) (by omega) (by decide)) (cwV 2 hts gX1_use_X2_set rfl rfl rfl (by decide +kernel) ⟨Nat.le_of_ble_eq_true rfl, Nat.le_of_ble_eq_true rfl⟩) (va_recv hK hP (ci := 2) (q0 := 0) rfl rfl) hP hD hS hA (hK) [0, 1] [] [0, 1] rfl rfl (by decide) ⟨by decide, by decide⟩ (by decide) rfl rfl hl.1 rfl (Nat.le_of_ble_eq_true rfl) dX1_use_56 ⟨Nat.zero_le _, Nat.zero_le _⟩ (fun H locs hP hD hS => ?_)
  show W _ _ _ _ _ _ _ _ _ _ _ _ _ _ _ (F0 m _ ls [])
  refine lv_goto (tgt := 87) hx hb dX1_use_59 (by decide) ?_
  obtain ⟨hP, hD⟩ := n_cg (ws' := [(q, .inr (2, [.ref a])), (a, .inl (cI, 4, .inl (fun j => nI (dig (stp c0 (3 + pl)) j))))]) hP hD 1 rfl (by intro j hj; have h := (stp_ok hc (show 3 + pl < 12 from by omega) hf).2 j hj; rw [show (3 + pl) % 3 = pl from by omega] at h; rw [if_pos (by omega)] at h; rw [h]; unfold upd; by_cases h1 : j = pl + 1 <;> by_cases h2 : j = pl <;> simp [h1, h2] <;> omega) rfl
  exact W.vret hx hb hr (fun t ht hW => ⟨⟨rfl, by rw [ht]; exact hP, hD⟩, hS.F ht⟩) hS.2.2 dX1_use_87

set_option maxHeartbeats 4000000 in
set_option maxRecDepth 100000 in
theorem c_X1_use_3 (l : Launch) (d : va_G) (cI : ClassId) (q a c0 pl : Nat) (hc : c0 < 1296) (hpl : pl < 3) (hf : fkb c0 (6 + pl) = true) : nUp l yX1_use wsX1_use ({ frames := 1, cells := 0, slots := 0, locals := 22 } : Room) d [(cI, .int)] [(q, .inr (2, [.ref a])), (a, .inl (cI, 4, .inl (fun j => nI (dig c0 j))))] [(q, .inr (2, [.ref a])), (a, .inl (cI, 4, .inl (fun j => nI (dig (stp c0 (6 + pl)) j))))] [.int (nI (3)), .ref q, .int (nI (pl))] none := by
  intro sz
  refine Met.ofW (cc := cX1_use) (maxL := 5) (ret := none) (by decide) rfl ?_
  intro p e s m args below meth c s₁ B hml hv
  obtain ⟨rfl, hsz, hP, hK, hD0⟩ := hv
  have hx := B.exec
  have hb := B.bytes
  have hr := B.returns
  have hts := atoms_spec (ws := wsX1_use) B.pre
  have hown : s.vm.findClass RX1 = some m.cls := findClass_of_methodNamed B.named
  have hlocks := B.notSynchronized
  subst hsz
  have hD := hD0.self (sz := s.heap.size)
  generalize hAe : va_A [(q, .inr (2, [.ref a])), (a, .inl (cI, 4, .inl (fun j => nI (dig c0 j))))] s.heap.size = A at hD ⊢
  have hA : ∀ q : Nat, s.heap.size ≤ q → A q := fun q h => by rw [← hAe]; exact Or.inr h
  have hS : va_S A s.heap s.heap [] := va_S.rf
  have hP : va_P d vwCl [(q, .inr (2, [.ref a])), (a, .inl (cI, 4, .inl (fun j => nI (dig c0 j))))] s.heap := hP
  have hl := lv_entry ([.int (nI (3)), .ref q, .int (nI (pl))]) (n := 5) (Nat.le_of_ble_eq_true rfl)
  rw [lg_entry_eq]
  generalize (lg_sl ([.int (nI (3)), .ref q, .int (nI (pl))]) ++ List.replicate (5 - (lg_sl ([.int (nI (3)), .ref q, .int (nI (pl))])).length) Slot.unset).toArray = ls at hl ⊢
  have hl : lv_has ls 5 [(0, .int (nI (3))), (1, .ref q), (2, .int (nI (pl)))] := hl
  refine lv_aload_n hx hb dX1_use_0 rfl (lv_at hl 1 rfl) ?_
  refine lv_iload_n hx hb dX1_use_1 rfl (lv_at hl 2 rfl) ?_
  refine n_rdV (As := [.int (nI (pl))]) (rest := []) (WC := [(q, .inr (2, [.ref a])), (a, .inl (cI, 4, .inl (fun j => nI (dig c0 j))))]) ⟨hx, hb, hml, hown, hts⟩ (c_X2_get l d cI q a 4 (fun j => nI (dig c0 j)) pl (by omega) (by decide)) (cwV 1 hts gX1_use_X2_get rfl rfl rfl (by decide +kernel) ⟨Nat.le_of_ble_eq_true rfl, Nat.le_of_ble_eq_true rfl⟩) (va_recv hK hP (ci := 2) (q0 := 0) rfl rfl) (hP.sub [0, 1] rfl) (hK) rfl hl.1 rfl (Nat.le_of_ble_eq_true rfl) dX1_use_2 ⟨Nat.zero_le _, Nat.zero_le _⟩ ?_
  refine lv_istore_n (lv' := [(3, .int (nI (dig c0 pl))), (0, .int (nI (3))), (1, .ref q), (2, .int (nI (pl)))]) hx hb dX1_use_5 rfl hl (by decide) rfl (fun ls hl => ?_)
  refine lv_aload_n hx hb dX1_use_6 rfl (lv_at hl 2 rfl) ?_
  refine lv_iload_n hx hb dX1_use_7 rfl (lv_at hl 3 rfl) ?_
  refine lv_iconst (v := nI (1)) hx hb dX1_use_8 (by decide) ?_
  refine n_add hx hb dX1_use_9 ?_
  refine n_rdV (As := [.int (nI (pl + 1))]) (rest := []) (WC := [(q, .inr (2, [.ref a])), (a, .inl (cI, 4, .inl (fun j => nI (dig c0 j))))]) ⟨hx, hb, hml, hown, hts⟩ (c_X2_get l d cI q a 4 (fun j => nI (dig c0 j)) (pl + 1) (by omega) (by decide)) (cwV 1 hts gX1_use_X2_get rfl rfl rfl (by decide +kernel) ⟨Nat.le_of_ble_eq_true rfl, Nat.le_of_ble_eq_true rfl⟩) (va_recv hK hP (ci := 2) (q0 := 0) rfl rfl) (hP.sub [0, 1] rfl) (hK) rfl hl.1 rfl (Nat.le_of_ble_eq_true rfl) dX1_use_10 ⟨Nat.zero_le _, Nat.zero_le _⟩ ?_
  refine lv_istore (lv' := [(4, .int (nI (dig c0 (pl + 1)))), (3, .int (nI (dig c0 pl))), (0, .int (nI (3))), (1, .ref q), (2, .int (nI (pl)))]) hx hb dX1_use_13 hl (by decide) rfl (fun ls hl => ?_)
  refine lv_iload_n hx hb dX1_use_15 rfl (lv_at hl 2 rfl) ?_
  refine lv_tableIn (x := nI (3)) (off := 46) (tgt := 62) hx hb dX1_use_16 (by decide) (by decide) rfl (by decide) ?_
  refine lv_aload_n hx hb dX1_use_62 rfl (lv_at hl 3 rfl) ?_
  refine lv_iload_n hx hb dX1_use_63 rfl (lv_at hl 4 rfl) ?_
  refine lv_iconst (v := nI (1)) hx hb dX1_use_64 (by decide) ?_
  refine n_add hx hb dX1_use_65 ?_
  refine lv_iconst (v := nI (0)) hx hb dX1_use_66 (by decide) ?_
  refine n_upV (As := [.int (nI (pl + 1)), .int (nI (0))]) (rest := []) (WC := [(q, .inr (2, [.ref a])), (a, .inl (cI, 4, .inl (fun j => nI (dig c0 j))))]) (WC' := [(q, .inr (2, [.ref a])), (a, .inl (cI, 4, .inl (upd (fun j => nI (dig c0 j)) (pl + 1) (nI (0)))))]) (wr := []) (WS' := [(q, .inr (2, [.ref a])), (a, .inl (cI, 4, .inl (upd (fun j => nI (dig c0 j)) (pl + 1) (nI (0)))))]) ⟨hx, hb, hml, hown, hts⟩ (c_X2_set l d cI q a 4 (fun j => nI (dig c0 j)) (pl + 1) (nI (0)) (by omega) (by decide)) (cwV 2 hts gX1_use_X2_set rfl rfl rfl (by decide +kernel) ⟨Nat.le_of_ble_eq_true rfl, Nat.le_of_ble_eq_true rfl⟩) (va_recv hK hP (ci := 2) (q0 := 0) rfl rfl) hP hD hS hA (hK) [0, 1] [] [0, 1] rfl rfl (by decide) ⟨by decide, by decide⟩ (by decide) rfl rfl hl.1 rfl (Nat.le_of_ble_eq_true rfl) dX1_use_67 ⟨Nat.zero_le _, Nat.zero_le _⟩ (fun H locs hP hD hS => ?_)
  show W _ _ _ _ _ _ _ _ _ _ _ _ _ _ _ (F0 m _ ls [])
  refine lv_goto (tgt := 87) hx hb dX1_use_70 (by decide) ?_
  obtain ⟨hP, hD⟩ := n_cg (ws' := [(q, .inr (2, [.ref a])), (a, .inl (cI, 4, .inl (fun j => nI (dig (stp c0 (6 + pl)) j))))]) hP hD 1 rfl (by intro j hj; have h := (stp_ok hc (show 6 + pl < 12 from by omega) hf).2 j hj; rw [show (6 + pl) % 3 = pl from by omega] at h; rw [if_neg (by omega), if_pos (by omega)] at h; rw [h]; unfold upd; by_cases h1 : j = pl + 1 <;> by_cases h2 : j = pl <;> simp [h1, h2] <;> omega) rfl
  exact W.vret hx hb hr (fun t ht hW => ⟨⟨rfl, by rw [ht]; exact hP, hD⟩, hS.F ht⟩) hS.2.2 dX1_use_87

set_option maxHeartbeats 4000000 in
set_option maxRecDepth 100000 in
theorem c_X1_use_4 (l : Launch) (d : va_G) (cI : ClassId) (q a c0 pl : Nat) (hc : c0 < 1296) (hpl : pl < 3) (hf : fkb c0 (9 + pl) = true) : nUp l yX1_use wsX1_use ({ frames := 1, cells := 0, slots := 0, locals := 22 } : Room) d [(cI, .int)] [(q, .inr (2, [.ref a])), (a, .inl (cI, 4, .inl (fun j => nI (dig c0 j))))] [(q, .inr (2, [.ref a])), (a, .inl (cI, 4, .inl (fun j => nI (dig (stp c0 (9 + pl)) j))))] [.int (nI (4)), .ref q, .int (nI (pl))] none := by
  intro sz
  refine Met.ofW (cc := cX1_use) (maxL := 5) (ret := none) (by decide) rfl ?_
  intro p e s m args below meth c s₁ B hml hv
  obtain ⟨rfl, hsz, hP, hK, hD0⟩ := hv
  have hx := B.exec
  have hb := B.bytes
  have hr := B.returns
  have hts := atoms_spec (ws := wsX1_use) B.pre
  have hown : s.vm.findClass RX1 = some m.cls := findClass_of_methodNamed B.named
  have hlocks := B.notSynchronized
  subst hsz
  have hD := hD0.self (sz := s.heap.size)
  generalize hAe : va_A [(q, .inr (2, [.ref a])), (a, .inl (cI, 4, .inl (fun j => nI (dig c0 j))))] s.heap.size = A at hD ⊢
  have hA : ∀ q : Nat, s.heap.size ≤ q → A q := fun q h => by rw [← hAe]; exact Or.inr h
  have hS : va_S A s.heap s.heap [] := va_S.rf
  have hP : va_P d vwCl [(q, .inr (2, [.ref a])), (a, .inl (cI, 4, .inl (fun j => nI (dig c0 j))))] s.heap := hP
  have hl := lv_entry ([.int (nI (4)), .ref q, .int (nI (pl))]) (n := 5) (Nat.le_of_ble_eq_true rfl)
  rw [lg_entry_eq]
  generalize (lg_sl ([.int (nI (4)), .ref q, .int (nI (pl))]) ++ List.replicate (5 - (lg_sl ([.int (nI (4)), .ref q, .int (nI (pl))])).length) Slot.unset).toArray = ls at hl ⊢
  have hl : lv_has ls 5 [(0, .int (nI (4))), (1, .ref q), (2, .int (nI (pl)))] := hl
  refine lv_aload_n hx hb dX1_use_0 rfl (lv_at hl 1 rfl) ?_
  refine lv_iload_n hx hb dX1_use_1 rfl (lv_at hl 2 rfl) ?_
  refine n_rdV (As := [.int (nI (pl))]) (rest := []) (WC := [(q, .inr (2, [.ref a])), (a, .inl (cI, 4, .inl (fun j => nI (dig c0 j))))]) ⟨hx, hb, hml, hown, hts⟩ (c_X2_get l d cI q a 4 (fun j => nI (dig c0 j)) pl (by omega) (by decide)) (cwV 1 hts gX1_use_X2_get rfl rfl rfl (by decide +kernel) ⟨Nat.le_of_ble_eq_true rfl, Nat.le_of_ble_eq_true rfl⟩) (va_recv hK hP (ci := 2) (q0 := 0) rfl rfl) (hP.sub [0, 1] rfl) (hK) rfl hl.1 rfl (Nat.le_of_ble_eq_true rfl) dX1_use_2 ⟨Nat.zero_le _, Nat.zero_le _⟩ ?_
  refine lv_istore_n (lv' := [(3, .int (nI (dig c0 pl))), (0, .int (nI (4))), (1, .ref q), (2, .int (nI (pl)))]) hx hb dX1_use_5 rfl hl (by decide) rfl (fun ls hl => ?_)
  refine lv_aload_n hx hb dX1_use_6 rfl (lv_at hl 2 rfl) ?_
  refine lv_iload_n hx hb dX1_use_7 rfl (lv_at hl 3 rfl) ?_
  refine lv_iconst (v := nI (1)) hx hb dX1_use_8 (by decide) ?_
  refine n_add hx hb dX1_use_9 ?_
  refine n_rdV (As := [.int (nI (pl + 1))]) (rest := []) (WC := [(q, .inr (2, [.ref a])), (a, .inl (cI, 4, .inl (fun j => nI (dig c0 j))))]) ⟨hx, hb, hml, hown, hts⟩ (c_X2_get l d cI q a 4 (fun j => nI (dig c0 j)) (pl + 1) (by omega) (by decide)) (cwV 1 hts gX1_use_X2_get rfl rfl rfl (by decide +kernel) ⟨Nat.le_of_ble_eq_true rfl, Nat.le_of_ble_eq_true rfl⟩) (va_recv hK hP (ci := 2) (q0 := 0) rfl rfl) (hP.sub [0, 1] rfl) (hK) rfl hl.1 rfl (Nat.le_of_ble_eq_true rfl) dX1_use_10 ⟨Nat.zero_le _, Nat.zero_le _⟩ ?_
  refine lv_istore (lv' := [(4, .int (nI (dig c0 (pl + 1)))), (3, .int (nI (dig c0 pl))), (0, .int (nI (4))), (1, .ref q), (2, .int (nI (pl)))]) hx hb dX1_use_13 hl (by decide) rfl (fun ls hl => ?_)
  refine lv_iload_n hx hb dX1_use_15 rfl (lv_at hl 2 rfl) ?_
  refine lv_tableOut (x := nI (4)) (tgt := 73) hx hb dX1_use_16 (by decide) (by decide) ?_
  refine lv_aload_n hx hb dX1_use_73 rfl (lv_at hl 3 rfl) ?_
  refine lv_iload_n hx hb dX1_use_74 rfl (lv_at hl 4 rfl) ?_
  refine lv_iconst (v := nI (0)) hx hb dX1_use_75 (by decide) ?_
  refine n_upV (As := [.int (nI (pl)), .int (nI (0))]) (rest := []) (WC := [(q, .inr (2, [.ref a])), (a, .inl (cI, 4, .inl (fun j => nI (dig c0 j))))]) (WC' := [(q, .inr (2, [.ref a])), (a, .inl (cI, 4, .inl (upd (fun j => nI (dig c0 j)) pl (nI (0)))))]) (wr := []) (WS' := [(q, .inr (2, [.ref a])), (a, .inl (cI, 4, .inl (upd (fun j => nI (dig c0 j)) pl (nI (0)))))]) ⟨hx, hb, hml, hown, hts⟩ (c_X2_set l d cI q a 4 (fun j => nI (dig c0 j)) pl (nI (0)) (by omega) (by decide)) (cwV 2 hts gX1_use_X2_set rfl rfl rfl (by decide +kernel) ⟨Nat.le_of_ble_eq_true rfl, Nat.le_of_ble_eq_true rfl⟩) (va_recv hK hP (ci := 2) (q0 := 0) rfl rfl) hP hD hS hA (hK) [0, 1] [] [0, 1] rfl rfl (by decide) ⟨by decide, by decide⟩ (by decide) rfl rfl hl.1 rfl (Nat.le_of_ble_eq_true rfl) dX1_use_76 ⟨Nat.zero_le _, Nat.zero_le _⟩ (fun H locs hP hD hS => ?_)
  show W _ _ _ _ _ _ _ _ _ _ _ _ _ _ _ (F0 m _ ls [])
  refine lv_aload_n hx hb dX1_use_79 rfl (lv_at hl 3 rfl) ?_
  refine lv_iload_n hx hb dX1_use_80 rfl (lv_at hl 4 rfl) ?_
  refine lv_iconst (v := nI (1)) hx hb dX1_use_81 (by decide) ?_
  refine n_add hx hb dX1_use_82 ?_
  refine lv_iconst (v := nI (0)) hx hb dX1_use_83 (by decide) ?_
  refine n_upV (As := [.int (nI (pl + 1)), .int (nI (0))]) (rest := []) (WC := [(q, .inr (2, [.ref a])), (a, .inl (cI, 4, .inl (upd (fun j => nI (dig c0 j)) pl (nI (0)))))]) (WC' := [(q, .inr (2, [.ref a])), (a, .inl (cI, 4, .inl (upd (upd (fun j => nI (dig c0 j)) pl (nI (0))) (pl + 1) (nI (0)))))]) (wr := []) (WS' := [(q, .inr (2, [.ref a])), (a, .inl (cI, 4, .inl (upd (upd (fun j => nI (dig c0 j)) pl (nI (0))) (pl + 1) (nI (0)))))]) ⟨hx, hb, hml, hown, hts⟩ (c_X2_set l d cI q a 4 (upd (fun j => nI (dig c0 j)) pl (nI (0))) (pl + 1) (nI (0)) (by omega) (by decide)) (cwV 2 hts gX1_use_X2_set rfl rfl rfl (by decide +kernel) ⟨Nat.le_of_ble_eq_true rfl, Nat.le_of_ble_eq_true rfl⟩) (va_recv hK hP (ci := 2) (q0 := 0) rfl rfl) hP hD hS hA (hK) [0, 1] [] [0, 1] rfl rfl (by decide) ⟨by decide, by decide⟩ (by decide) rfl rfl hl.1 rfl (Nat.le_of_ble_eq_true rfl) dX1_use_84 ⟨Nat.zero_le _, Nat.zero_le _⟩ (fun H locs hP hD hS => ?_)
  show W _ _ _ _ _ _ _ _ _ _ _ _ _ _ _ (F0 m _ ls [])
  obtain ⟨hP, hD⟩ := n_cg (ws' := [(q, .inr (2, [.ref a])), (a, .inl (cI, 4, .inl (fun j => nI (dig (stp c0 (9 + pl)) j))))]) hP hD 1 rfl (by intro j hj; have h := (stp_ok hc (show 9 + pl < 12 from by omega) hf).2 j hj; rw [show (9 + pl) % 3 = pl from by omega] at h; rw [if_neg (by omega), if_neg (by omega)] at h; rw [h]; unfold upd; by_cases h1 : j = pl + 1 <;> by_cases h2 : j = pl <;> simp [h1, h2] <;> omega) rfl
  exact W.vret hx hb hr (fun t ht hW => ⟨⟨rfl, by rw [ht]; exact hP, hD⟩, hS.F ht⟩) hS.2.2 dX1_use_87

theorem c_X1_use (l : Launch) (d : va_G) (cI : ClassId) (q a c0 pl rr : Nat) (hc : c0 < 1296) (hpl : pl < 3) (hr4 : rr < 4) (hf : fkb c0 (3 * rr + pl) = true) : nUp l yX1_use wsX1_use ({ frames := 1, cells := 0, slots := 0, locals := 22 } : Room) d [(cI, .int)] [(q, .inr (2, [.ref a])), (a, .inl (cI, 4, .inl (fun j => nI (dig c0 j))))] [(q, .inr (2, [.ref a])), (a, .inl (cI, 4, .inl (fun j => nI (dig (stp c0 (3 * rr + pl)) j))))] [.int (nI (rr + 1)), .ref q, .int (nI pl)] none := by
  rcases lt4 hr4 with rfl | rfl | rfl | rfl
  · rw [show 3 * 0 + pl = pl from by omega] at hf ⊢; exact c_X1_use_1 l d cI q a c0 pl hc hpl hf
  · exact c_X1_use_2 l d cI q a c0 pl hc hpl hf
  · exact c_X1_use_3 l d cI q a c0 pl hc hpl hf
  · exact c_X1_use_4 l d cI q a c0 pl hc hpl hf
set_option maxHeartbeats 4000000 in
set_option maxRecDepth 100000 in
/-- one use of a rule, if one can be used -/
theorem c_X1_rewriteOnce (l : Launch) (d : va_G) (cI : ClassId) (q a c0 : Nat) (hc : c0 < 1296) : nUp l yX1_rewriteOnce wsX1_rewriteOnce ({ frames := 2, cells := 0, slots := 0, locals := 46 } : Room) d [(cI, .int)] [(q, .inr (2, [.ref a])), (a, .inl (cI, 4, .inl (fun j => nI (dig c0 j))))] [(q, .inr (2, [.ref a])), (a, .inl (cI, 4, .inl (fun j => nI (dig (nx c0) j))))] [.ref q] (some (.int (nI ((chg c0).toNat)))) := by
  intro sz
  refine Met.ofW (cc := cX1_rewriteOnce) (maxL := 3) (ret := some .boolean) (by decide) rfl ?_
  intro p e s m args below meth c s₁ B hml hv
  obtain ⟨rfl, hsz, hP, hK, hD0⟩ := hv
  have hx := B.exec
  have hb := B.bytes
  have hr := B.returns
  have hts := atoms_spec (ws := wsX1_rewriteOnce) B.pre
  have hown : s.vm.findClass RX1 = some m.cls := findClass_of_methodNamed B.named
  have hlocks := B.notSynchronized
  subst hsz
  have hD := hD0.self (sz := s.heap.size)
  generalize hAe : va_A [(q, .inr (2, [.ref a])), (a, .inl (cI, 4, .inl (fun j => nI (dig c0 j))))] s.heap.size = A at hD ⊢
  have hA : ∀ q : Nat, s.heap.size ≤ q → A q := fun q h => by rw [← hAe]; exact Or.inr h
  have hS : va_S A s.heap s.heap [] := va_S.rf
  have hP : va_P d vwCl [(q, .inr (2, [.ref a])), (a, .inl (cI, 4, .inl (fun j => nI (dig c0 j))))] s.heap := hP
  have hl := lv_entry ([.ref q]) (n := 3) (Nat.le_of_ble_eq_true rfl)
  rw [lg_entry_eq]
  generalize (lg_sl ([.ref q]) ++ List.replicate (3 - (lg_sl ([.ref q])).length) Slot.unset).toArray = ls at hl ⊢
  have hl : lv_has ls 3 [(0, .ref q)] := hl
  refine n_nameQ (fun Q hQ => ?_)
  refine lv_iconst (v := nI (1)) hx hb dX1_rewriteOnce_0 (by decide) ?_
  refine lv_istore_n (lv' := [(1, .int (nI (1))), (0, .ref q)]) hx hb dX1_rewriteOnce_1 rfl hl (by decide) rfl (fun ls hl => ?_)
  refine lv_iload_n hx hb dX1_rewriteOnce_2 rfl (lv_at hl 0 rfl) ?_
  refine lv_iconst (v := nI (4)) hx hb dX1_rewriteOnce_3 (by decide) ?_
  refine n_icmp_gt (tgt := 55) hx hb dX1_rewriteOnce_4 (by decide) (by decide) (by decide) (fun c_1 => ?_) (fun c_1 => ?_)
  · exact absurd c_1 (by decide)
  refine lv_iconst (v := nI (0)) hx hb dX1_rewriteOnce_7 (by decide) ?_
  refine lv_istore_n (lv' := [(2, .int (nI (0))), (1, .int (nI (1))), (0, .ref q)]) hx hb dX1_rewriteOnce_8 rfl hl (by decide) rfl (fun ls hl => ?_)
  have loop : ∀ (n pl rr : Nat), pl + 4 * rr + n = 16 → pl ≤ 3 → rr ≤ 3 → nxo c0 = nxF c0 (12 - (3 * rr + pl)) (3 * rr + pl) → ∀ (ls : Array Slot), lv_has ls 3 [(2, .int (nI (pl))), (1, .int (nI (rr + 1))), (0, .ref q)] → W p l e ({ frames := 2, cells := 0, slots := 0, locals := 46 } : Room) s m ([.ref q] : List Value).toArray below meth c s.heap [] 0 0 Q (F0 m 9 ls []) := by
    intro n
    induction n with
    | zero => intro pl rr h1 h2 h3; exact absurd h1 (by omega)
    | succ n ih =>
      intro pl rr h1 h2 h3 hnx ls hl
      refine lv_iload_n hx hb dX1_rewriteOnce_9 rfl (lv_at hl 0 rfl) ?_
      refine lv_iconst (v := nI (1)) hx hb dX1_rewriteOnce_10 (by decide) ?_
      refine n_add hx hb dX1_rewriteOnce_11 ?_
      refine lv_iconst (v := nI (4)) hx hb dX1_rewriteOnce_12 (by decide) ?_
      refine n_icmp_ge (tgt := 49) hx hb dX1_rewriteOnce_13 (by decide) (by omega) (by omega) (fun c_2 => ?_) (fun c_2 => ?_)
      ·
        refine lv_iinc (v := nI ((rr + 1) + 1)) (lv' := [(1, .int (nI ((rr + 1) + 1))), (2, .int (nI (pl))), (0, .ref q)]) hx hb dX1_rewriteOnce_49 hl (k := 1) rfl (n_inc1 _) (by decide) rfl (fun ls hl => ?_)
        refine lv_goto (tgt := 2) hx hb dX1_rewriteOnce_52 (by decide) ?_
        refine lv_iload_n hx hb dX1_rewriteOnce_2 rfl (lv_at hl 0 rfl) ?_
        refine lv_iconst (v := nI (4)) hx hb dX1_rewriteOnce_3 (by decide) ?_
        refine n_icmp_gt (tgt := 55) hx hb dX1_rewriteOnce_4 (by decide) (by omega) (by omega) (fun c_3 => ?_) (fun c_3 => ?_)
        ·
          have hn0 : nxo c0 = none := by rw [hnx, show 3 * rr + pl = 12 from by omega]; rfl
          refine lv_iconst (v := nI (0)) hx hb dX1_rewriteOnce_55 (by decide) ?_
          subst hQ
          rw [show nx c0 = c0 from by unfold nx; rw [hn0]; rfl]
          refine n_top (show (nI (0)) = (nI ((chg c0).toNat)) from by rw [show chg c0 = false from by unfold chg; rw [hn0]; rfl]; rfl) ?_
          exact W.zret (v := (nI ((chg c0).toNat))) hx hb hr (by cases chg c0 <;> rfl) (fun t ht hW => ⟨⟨rfl, by rw [ht]; exact hP, hD⟩, hS.F ht⟩) hS.2.2 dX1_rewriteOnce_56
        ·
          refine lv_iconst (v := nI (0)) hx hb dX1_rewriteOnce_7 (by decide) ?_
          refine lv_istore_n (lv' := [(2, .int (nI (0))), (1, .int (nI ((rr + 1) + 1))), (0, .ref q)]) hx hb dX1_rewriteOnce_8 rfl hl (by decide) rfl (fun ls hl => ?_)
          exact ih 0 (rr + 1) (by omega) (by omega) (by omega) (by rw [hnx, show 3 * rr + pl = 3 * (rr + 1) + 0 from by omega]) ls (lv_sub hl [0, 1, 2] rfl)
      ·
        refine lv_iload_n hx hb dX1_rewriteOnce_16 rfl (lv_at hl 1 rfl) ?_
        refine lv_aload_n hx hb dX1_rewriteOnce_17 rfl (lv_at hl 2 rfl) ?_
        refine lv_iload_n hx hb dX1_rewriteOnce_18 rfl (lv_at hl 0 rfl) ?_
        refine n_rdV (As := [.int (nI (pl))]) (rest := [.int (nI (rr + 1))]) (WC := [(q, .inr (2, [.ref a])), (a, .inl (cI, 4, .inl (fun j => nI (dig c0 j))))]) ⟨hx, hb, hml, hown, hts⟩ (c_X2_get l d cI q a 4 (fun j => nI (dig c0 j)) pl (by omega) (by decide)) (cwV 1 hts gX1_rewriteOnce_X2_get rfl rfl rfl (by decide +kernel) ⟨Nat.le_of_ble_eq_true rfl, Nat.le_of_ble_eq_true rfl⟩) (va_recv hK hP (ci := 2) (q0 := 0) rfl rfl) (hP.sub [0, 1] rfl) (hK) rfl hl.1 rfl (Nat.le_of_ble_eq_true rfl) dX1_rewriteOnce_19 ⟨Nat.zero_le _, Nat.zero_le _⟩ ?_
        refine lv_aload_n hx hb dX1_rewriteOnce_22 rfl (lv_at hl 2 rfl) ?_
        refine lv_iload_n hx hb dX1_rewriteOnce_23 rfl (lv_at hl 0 rfl) ?_
        refine lv_iconst (v := nI (1)) hx hb dX1_rewriteOnce_24 (by decide) ?_
        refine n_add hx hb dX1_rewriteOnce_25 ?_
        refine n_rdV (As := [.int (nI (pl + 1))]) (rest := [.int (nI (dig c0 pl)), .int (nI (rr + 1))]) (WC := [(q, .inr (2, [.ref a])), (a, .inl (cI, 4, .inl (fun j => nI (dig c0 j))))]) ⟨hx, hb, hml, hown, hts⟩ (c_X2_get l d cI q a 4 (fun j => nI (dig c0 j)) (pl + 1) (by omega) (by decide)) (cwV 1 hts gX1_rewriteOnce_X2_get rfl rfl rfl (by decide +kernel) ⟨Nat.le_of_ble_eq_true rfl, Nat.le_of_ble_eq_true rfl⟩) (va_recv hK hP (ci := 2) (q0 := 0) rfl rfl) (hP.sub [0, 1] rfl) (hK) rfl hl.1 rfl (Nat.le_of_ble_eq_true rfl) dX1_rewriteOnce_26 ⟨Nat.zero_le _, Nat.zero_le _⟩ ?_
        refine n_rdS (As := [.int (nI (rr + 1)), .int (nI (dig c0 pl)), .int (nI (dig c0 (pl + 1)))]) (rest := []) (WC := []) ⟨hx, hb, hml, hown, hts⟩ (c_X1_isUsable l d cI rr (dig c0 pl) (dig c0 (pl + 1)) (by omega) (dig_lt _ _) (dig_lt _ _)) (cwS 3 hts gX1_rewriteOnce_X1_isUsable rfl rfl rfl (by decide +kernel) ⟨Nat.le_of_ble_eq_true rfl, Nat.le_of_ble_eq_true rfl⟩) (hP.sub [] rfl) (hK) rfl hl.1 rfl (Nat.le_of_ble_eq_true rfl) dX1_rewriteOnce_29 ⟨Nat.zero_le _, Nat.zero_le _⟩ ?_
        have hk3 : (3 * rr + pl) / 3 = rr := by omega
        have hk4 : (3 * rr + pl) % 3 = pl := by omega
        have hfk : fkb c0 (3 * rr + pl) = fitB (rr + 1) (dig c0 pl) (dig c0 (pl + 1)) := by unfold fkb; rw [hk3, hk4, Nat.add_comm 1 rr]
        have hn1 : 12 - (3 * rr + pl) = (12 - (3 * rr + (pl + 1))) + 1 := by omega
        refine n_ifeq (tgt := 43) hx hb dX1_rewriteOnce_32 (by decide) (by cases fitB (rr + 1) (dig c0 pl) (dig c0 (pl + 1)) <;> decide) (fun c_4 => ?_) (fun c_4 => ?_)
        ·
          have hff : fkb c0 (3 * rr + pl) = false := by rw [hfk]; cases hz : fitB (rr + 1) (dig c0 pl) (dig c0 (pl + 1)) with | false => rfl | true => rw [hz] at c_4; exact absurd c_4 (by decide)
          refine lv_iinc (v := nI (pl + 1)) (lv' := [(2, .int (nI (pl + 1))), (1, .int (nI (rr + 1))), (0, .ref q)]) hx hb dX1_rewriteOnce_43 hl (k := 0) rfl (n_inc1 _) (by decide) rfl (fun ls hl => ?_)
          refine lv_goto (tgt := 9) hx hb dX1_rewriteOnce_46 (by decide) ?_
          exact ih (pl + 1) rr (by omega) (by omega) (by omega) (by rw [hnx, hn1]; show (if fkb c0 (3 * rr + pl) = true then _ else _) = _; rw [hff]; rfl) ls (lv_sub hl [0, 1, 2] rfl)
        ·
          have hff : fkb c0 (3 * rr + pl) = true := by rw [hfk]; cases hz : fitB (rr + 1) (dig c0 pl) (dig c0 (pl + 1)) with | true => rfl | false => rw [hz] at c_4; exact absurd rfl c_4
          have hn0 : nxo c0 = some (stp c0 (3 * rr + pl)) := by rw [hnx, hn1]; show (if fkb c0 (3 * rr + pl) = true then _ else _) = _; rw [hff]; rfl
          refine lv_iload_n hx hb dX1_rewriteOnce_35 rfl (lv_at hl 1 rfl) ?_
          refine lv_aload_n hx hb dX1_rewriteOnce_36 rfl (lv_at hl 2 rfl) ?_
          refine lv_iload_n hx hb dX1_rewriteOnce_37 rfl (lv_at hl 0 rfl) ?_
          refine n_upS (As := [.int (nI (rr + 1)), .ref q, .int (nI (pl))]) (rest := []) (WC := [(q, .inr (2, [.ref a])), (a, .inl (cI, 4, .inl (fun j => nI (dig c0 j))))]) (WC' := [(q, .inr (2, [.ref a])), (a, .inl (cI, 4, .inl (fun j => nI (dig (stp c0 (3 * rr + pl)) j))))]) (wr := []) (WS' := [(q, .inr (2, [.ref a])), (a, .inl (cI, 4, .inl (fun j => nI (dig (stp c0 (3 * rr + pl)) j))))]) ⟨hx, hb, hml, hown, hts⟩ (c_X1_use l d cI q a c0 pl rr hc (by omega) (by omega) hff) (cwS 3 hts gX1_rewriteOnce_X1_use rfl rfl rfl (by decide +kernel) ⟨Nat.le_of_ble_eq_true rfl, Nat.le_of_ble_eq_true rfl⟩) hP hD hS hA (hK) [0, 1] [] [0, 1] rfl rfl (by decide) ⟨by decide, by decide⟩ (by decide) rfl rfl hl.1 rfl (Nat.le_of_ble_eq_true rfl) dX1_rewriteOnce_38 ⟨Nat.zero_le _, Nat.zero_le _⟩ (fun H locs hP hD hS => ?_)
          show W _ _ _ _ _ _ _ _ _ _ _ _ _ _ _ (F0 m _ ls [])
          refine lv_iconst (v := nI (1)) hx hb dX1_rewriteOnce_41 (by decide) ?_
          subst hQ
          rw [show nx c0 = stp c0 (3 * rr + pl) from by unfold nx; rw [hn0]; rfl]
          refine n_top (show (nI (1)) = (nI ((chg c0).toNat)) from by rw [show chg c0 = true from by unfold chg; rw [hn0]; rfl]; rfl) ?_
          exact W.zret (v := (nI ((chg c0).toNat))) hx hb hr (by cases chg c0 <;> rfl) (fun t ht hW => ⟨⟨rfl, by rw [ht]; exact hP, hD⟩, hS.F ht⟩) hS.2.2 dX1_rewriteOnce_42
  exact loop 16 0 0 (by omega) (by omega) (by omega) rfl ls (lv_sub hl [0, 1, 2] rfl)

set_option maxHeartbeats 4000000 in
set_option maxRecDepth 100000 in
/-- the form of a code -/
theorem c_X1_reduce (l : Launch) (d : va_G) (cI : ClassId) (q a c0 : Nat) (f : Nat → Int32) (hc : c0 < 1296) : nUp l yX1_reduce wsX1_reduce ({ frames := 3, cells := 0, slots := 0, locals := 68 } : Room) d [(cI, .int)] [(q, .inr (2, [.ref a])), (a, .inl (cI, 4, .inl (f)))] [(q, .inr (2, [.ref a])), (a, .inl (cI, 4, .inl (fun j => nI (dig (form c0) j))))] [.int (nI (c0)), .ref q] (some (.int (nI (form c0)))) := by
  intro sz
  refine Met.ofW (cc := cX1_reduce) (maxL := 4) (ret := some .int) (by decide) rfl ?_
  intro p e s m args below meth c s₁ B hml hv
  obtain ⟨rfl, hsz, hP, hK, hD0⟩ := hv
  have hx := B.exec
  have hb := B.bytes
  have hr := B.returns
  have hts := atoms_spec (ws := wsX1_reduce) B.pre
  have hown : s.vm.findClass RX1 = some m.cls := findClass_of_methodNamed B.named
  have hlocks := B.notSynchronized
  subst hsz
  have hD := hD0.self (sz := s.heap.size)
  generalize hAe : va_A [(q, .inr (2, [.ref a])), (a, .inl (cI, 4, .inl (f)))] s.heap.size = A at hD ⊢
  have hA : ∀ q : Nat, s.heap.size ≤ q → A q := fun q h => by rw [← hAe]; exact Or.inr h
  have hS : va_S A s.heap s.heap [] := va_S.rf
  have hP : va_P d vwCl [(q, .inr (2, [.ref a])), (a, .inl (cI, 4, .inl (f)))] s.heap := hP
  have hl := lv_entry ([.int (nI (c0)), .ref q]) (n := 4) (Nat.le_of_ble_eq_true rfl)
  rw [lg_entry_eq]
  generalize (lg_sl ([.int (nI (c0)), .ref q]) ++ List.replicate (4 - (lg_sl ([.int (nI (c0)), .ref q])).length) Slot.unset).toArray = ls at hl ⊢
  have hl : lv_has ls 4 [(0, .int (nI (c0))), (1, .ref q)] := hl
  refine n_nameQ (fun Q hQ => ?_)
  refine lv_iload_n hx hb dX1_reduce_0 rfl (lv_at hl 0 rfl) ?_
  refine lv_aload_n hx hb dX1_reduce_1 rfl (lv_at hl 1 rfl) ?_
  refine n_upS (As := [.int (nI (c0)), .ref q]) (rest := []) (WC := [(q, .inr (2, [.ref a])), (a, .inl (cI, 4, .inl (f)))]) (WC' := [(q, .inr (2, [.ref a])), (a, .inl (cI, 4, .inl (fun j => nI (dig c0 j))))]) (wr := []) (WS' := [(q, .inr (2, [.ref a])), (a, .inl (cI, 4, .inl (fun j => nI (dig c0 j))))]) ⟨hx, hb, hml, hown, hts⟩ (c_X1_unpack l d cI q a c0 f hc) (cwS 2 hts gX1_reduce_X1_unpack rfl rfl rfl (by decide +kernel) ⟨Nat.le_of_ble_eq_true rfl, Nat.le_of_ble_eq_true rfl⟩) hP hD hS hA (hK) [0, 1] [] [0, 1] rfl rfl (by decide) ⟨by decide, by decide⟩ (by decide) rfl rfl hl.1 rfl (Nat.le_of_ble_eq_true rfl) dX1_reduce_2 ⟨Nat.zero_le _, Nat.zero_le _⟩ (fun H locs hP hD hS => ?_)
  show W _ _ _ _ _ _ _ _ _ _ _ _ _ _ _ (F0 m _ ls [])
  refine lv_iconst (v := nI (1)) hx hb dX1_reduce_5 (by decide) ?_
  refine lv_istore_n (lv' := [(2, .int (nI (1))), (0, .int (nI (c0))), (1, .ref q)]) hx hb dX1_reduce_6 rfl hl (by decide) rfl (fun ls hl => ?_)
  refine lv_iconst (v := nI (0)) hx hb dX1_reduce_7 (by decide) ?_
  refine lv_istore_n (lv' := [(3, .int (nI (0))), (2, .int (nI (1))), (0, .int (nI (c0))), (1, .ref q)]) hx hb dX1_reduce_8 rfl hl (by decide) rfl (fun ls hl => ?_)
  have loop : ∀ (n x u : Nat) (g : Bool), x < 1296 → u + n < 1000 → nfF n x = form c0 → tm n x = true → (g = false → x = form c0) → ∀ (H : Heap) (locs : List Loc), va_P d vwCl [(q, .inr (2, [.ref a])), (a, .inl (cI, 4, .inl (fun j => nI (dig x j))))] H → va_D A [(q, .inr (2, [.ref a])), (a, .inl (cI, 4, .inl (fun j => nI (dig x j))))] → va_S A s.heap H locs → ∀ (ls : Array Slot), lv_has ls 4 [(3, .int (nI (u))), (2, .int (nI (g.toNat))), (1, .ref q)] → W p l e ({ frames := 3, cells := 0, slots := 0, locals := 68 } : Room) s m ([.int (nI (c0)), .ref q] : List Value).toArray below meth c H locs 0 0 Q (F0 m 9 ls []) := by
    intro n
    induction n with
    | zero =>
      intro x u g hx1 h2 h3 h4 hg H locs hP hD hS ls hl
      have hch : chg x = false := by cases hz : chg x with | false => rfl | true => unfold tm at h4; rw [hz] at h4; exact absurd h4 (by decide)
      have hnx : nx x = x := by cases hz : nxo x with | none => unfold nx; rw [hz]; rfl | some y => unfold chg at hch; rw [hz] at hch; exact Bool.noConfusion hch
      refine lv_iload_n hx hb dX1_reduce_9 rfl (lv_at hl 1 rfl) ?_
      refine n_ifeq (tgt := 31) hx hb dX1_reduce_10 (by decide) (by cases g <;> decide) (fun c_1 => ?_) (fun c_1 => ?_)
      ·
        have hxf : x = form c0 := hg (by cases hz : g with | false => rfl | true => rw [hz] at c_1; exact absurd c_1 (by decide))
        refine lv_aload_n hx hb dX1_reduce_31 rfl (lv_at hl 2 rfl) ?_
        refine n_rdS (As := [.ref q]) (rest := []) (WC := [(q, .inr (2, [.ref a])), (a, .inl (cI, 4, .inl (fun j => nI (dig x j))))]) ⟨hx, hb, hml, hown, hts⟩ (c_X1_pack l d cI q a x hx1) (cwS 1 hts gX1_reduce_X1_pack rfl rfl rfl (by decide +kernel) ⟨Nat.le_of_ble_eq_true rfl, Nat.le_of_ble_eq_true rfl⟩) (hP.sub [0, 1] rfl) (hK) rfl hl.1 rfl (Nat.le_of_ble_eq_true rfl) dX1_reduce_32 ⟨Nat.zero_le _, Nat.zero_le _⟩ ?_
        subst hQ
        rw [← hxf]
        exact W.iret (v := (nI x)) hx hb hr (fun t ht hW => ⟨⟨rfl, by rw [ht]; exact hP, hD⟩, hS.F ht⟩) hS.2.2 dX1_reduce_35
      ·
        refine lv_iload_n hx hb dX1_reduce_13 rfl (lv_at hl 0 rfl) ?_
        refine lv_sipush (v := nI (1000)) hx hb dX1_reduce_14 (by decide) ?_
        refine n_icmp_ge (tgt := 31) hx hb dX1_reduce_17 (by decide) (by omega) (by omega) (fun c_2 => ?_) (fun c_2 => ?_)
        · exact absurd c_2 (by omega)
        refine lv_aload_n hx hb dX1_reduce_20 rfl (lv_at hl 2 rfl) ?_
        refine n_upS (As := [.ref q]) (rest := []) (WC := [(q, .inr (2, [.ref a])), (a, .inl (cI, 4, .inl (fun j => nI (dig x j))))]) (WC' := [(q, .inr (2, [.ref a])), (a, .inl (cI, 4, .inl (fun j => nI (dig (nx x) j))))]) (wr := []) (WS' := [(q, .inr (2, [.ref a])), (a, .inl (cI, 4, .inl (fun j => nI (dig (nx x) j))))]) ⟨hx, hb, hml, hown, hts⟩ (c_X1_rewriteOnce l d cI q a x hx1) (cwS 1 hts gX1_reduce_X1_rewriteOnce rfl rfl rfl (by decide +kernel) ⟨Nat.le_of_ble_eq_true rfl, Nat.le_of_ble_eq_true rfl⟩) hP hD hS hA (hK) [0, 1] [] [0, 1] rfl rfl (by decide) ⟨by decide, by decide⟩ (by decide) rfl rfl hl.1 rfl (Nat.le_of_ble_eq_true rfl) dX1_reduce_21 ⟨Nat.zero_le _, Nat.zero_le _⟩ (fun H locs hP hD hS => ?_)
        show W _ _ _ _ _ _ _ _ _ _ _ _ _ _ _ (F0 m _ ls (.int (nI ((chg x).toNat)) :: []))
        refine lv_istore_n (lv' := [(2, .int (nI ((chg x).toNat))), (3, .int (nI (u))), (1, .ref q)]) hx hb dX1_reduce_24 rfl hl (by decide) rfl (fun ls hl => ?_)
        refine lv_iinc (v := nI (u + 1)) (lv' := [(3, .int (nI (u + 1))), (2, .int (nI ((chg x).toNat))), (1, .ref q)]) hx hb dX1_reduce_25 hl (k := 1) rfl (n_inc1 _) (by decide) rfl (fun ls hl => ?_)
        refine lv_goto (tgt := 9) hx hb dX1_reduce_28 (by decide) ?_
        rw [hnx] at hP hD
        rw [hch] at hl
        have hl : lv_has ls 4 [(3, .int (nI (u + 1))), (2, .int (nI (0))), (1, .ref q)] := hl
        refine lv_iload_n hx hb dX1_reduce_9 rfl (lv_at hl 1 rfl) ?_
        refine n_ifeq (tgt := 31) hx hb dX1_reduce_10 (by decide) (by decide) (fun c_3 => ?_) (fun c_3 => ?_)
        rotate_left
        · exact absurd c_3 (by decide)
        refine lv_aload_n hx hb dX1_reduce_31 rfl (lv_at hl 2 rfl) ?_
        have hxf : x = form c0 := h3
        refine n_rdS (As := [.ref q]) (rest := []) (WC := [(q, .inr (2, [.ref a])), (a, .inl (cI, 4, .inl (fun j => nI (dig x j))))]) ⟨hx, hb, hml, hown, hts⟩ (c_X1_pack l d cI q a x hx1) (cwS 1 hts gX1_reduce_X1_pack rfl rfl rfl (by decide +kernel) ⟨Nat.le_of_ble_eq_true rfl, Nat.le_of_ble_eq_true rfl⟩) (hP.sub [0, 1] rfl) (hK) rfl hl.1 rfl (Nat.le_of_ble_eq_true rfl) dX1_reduce_32 ⟨Nat.zero_le _, Nat.zero_le _⟩ ?_
        subst hQ
        rw [← hxf]
        exact W.iret (v := (nI x)) hx hb hr (fun t ht hW => ⟨⟨rfl, by rw [ht]; exact hP, hD⟩, hS.F ht⟩) hS.2.2 dX1_reduce_35
    | succ n ih =>
      intro x u g hx1 h2 h3 h4 hg H locs hP hD hS ls hl
      refine lv_iload_n hx hb dX1_reduce_9 rfl (lv_at hl 1 rfl) ?_
      refine n_ifeq (tgt := 31) hx hb dX1_reduce_10 (by decide) (by cases g <;> decide) (fun c_4 => ?_) (fun c_4 => ?_)
      ·
        have hxf : x = form c0 := hg (by cases hz : g with | false => rfl | true => rw [hz] at c_4; exact absurd c_4 (by decide))
        refine lv_aload_n hx hb dX1_reduce_31 rfl (lv_at hl 2 rfl) ?_
        refine n_rdS (As := [.ref q]) (rest := []) (WC := [(q, .inr (2, [.ref a])), (a, .inl (cI, 4, .inl (fun j => nI (dig x j))))]) ⟨hx, hb, hml, hown, hts⟩ (c_X1_pack l d cI q a x hx1) (cwS 1 hts gX1_reduce_X1_pack rfl rfl rfl (by decide +kernel) ⟨Nat.le_of_ble_eq_true rfl, Nat.le_of_ble_eq_true rfl⟩) (hP.sub [0, 1] rfl) (hK) rfl hl.1 rfl (Nat.le_of_ble_eq_true rfl) dX1_reduce_32 ⟨Nat.zero_le _, Nat.zero_le _⟩ ?_
        subst hQ
        rw [← hxf]
        exact W.iret (v := (nI x)) hx hb hr (fun t ht hW => ⟨⟨rfl, by rw [ht]; exact hP, hD⟩, hS.F ht⟩) hS.2.2 dX1_reduce_35
      ·
        refine lv_iload_n hx hb dX1_reduce_13 rfl (lv_at hl 0 rfl) ?_
        refine lv_sipush (v := nI (1000)) hx hb dX1_reduce_14 (by decide) ?_
        refine n_icmp_ge (tgt := 31) hx hb dX1_reduce_17 (by decide) (by omega) (by omega) (fun c_5 => ?_) (fun c_5 => ?_)
        · exact absurd c_5 (by omega)
        refine lv_aload_n hx hb dX1_reduce_20 rfl (lv_at hl 2 rfl) ?_
        refine n_upS (As := [.ref q]) (rest := []) (WC := [(q, .inr (2, [.ref a])), (a, .inl (cI, 4, .inl (fun j => nI (dig x j))))]) (WC' := [(q, .inr (2, [.ref a])), (a, .inl (cI, 4, .inl (fun j => nI (dig (nx x) j))))]) (wr := []) (WS' := [(q, .inr (2, [.ref a])), (a, .inl (cI, 4, .inl (fun j => nI (dig (nx x) j))))]) ⟨hx, hb, hml, hown, hts⟩ (c_X1_rewriteOnce l d cI q a x hx1) (cwS 1 hts gX1_reduce_X1_rewriteOnce rfl rfl rfl (by decide +kernel) ⟨Nat.le_of_ble_eq_true rfl, Nat.le_of_ble_eq_true rfl⟩) hP hD hS hA (hK) [0, 1] [] [0, 1] rfl rfl (by decide) ⟨by decide, by decide⟩ (by decide) rfl rfl hl.1 rfl (Nat.le_of_ble_eq_true rfl) dX1_reduce_21 ⟨Nat.zero_le _, Nat.zero_le _⟩ (fun H locs hP hD hS => ?_)
        show W _ _ _ _ _ _ _ _ _ _ _ _ _ _ _ (F0 m _ ls (.int (nI ((chg x).toNat)) :: []))
        refine lv_istore_n (lv' := [(2, .int (nI ((chg x).toNat))), (3, .int (nI (u))), (1, .ref q)]) hx hb dX1_reduce_24 rfl hl (by decide) rfl (fun ls hl => ?_)
        refine lv_iinc (v := nI (u + 1)) (lv' := [(3, .int (nI (u + 1))), (2, .int (nI ((chg x).toNat))), (1, .ref q)]) hx hb dX1_reduce_25 hl (k := 1) rfl (n_inc1 _) (by decide) rfl (fun ls hl => ?_)
        refine lv_goto (tgt := 9) hx hb dX1_reduce_28 (by decide) ?_
        cases hz : chg x with
        | true =>
          rw [hz] at hl
          exact ih (nx x) (u + 1) true (nx_lt hx1) (by omega) (by rw [← h3]; show _ = (if chg x = true then _ else _); rw [hz]; rfl) (by have h5 : (if chg x = true then tm n (nx x) else true) = true := h4; rw [hz] at h5; exact h5) (fun h => by cases h) H locs hP hD hS ls (lv_sub hl [0, 1, 2] rfl)
        | false =>
          have hnx : nx x = x := by cases hy : nxo x with | none => unfold nx; rw [hy]; rfl | some y => unfold chg at hz; rw [hy] at hz; exact Bool.noConfusion hz
          have hxf : x = form c0 := by rw [← h3]; show x = (if chg x = true then _ else _); rw [hz]; rfl
          rw [hnx] at hP hD
          rw [hz] at hl
          have hl : lv_has ls 4 [(3, .int (nI (u + 1))), (2, .int (nI (0))), (1, .ref q)] := hl
          refine lv_iload_n hx hb dX1_reduce_9 rfl (lv_at hl 1 rfl) ?_
          refine n_ifeq (tgt := 31) hx hb dX1_reduce_10 (by decide) (by decide) (fun c_6 => ?_) (fun c_6 => ?_)
          rotate_left
          · exact absurd c_6 (by decide)
          refine lv_aload_n hx hb dX1_reduce_31 rfl (lv_at hl 2 rfl) ?_
          refine n_rdS (As := [.ref q]) (rest := []) (WC := [(q, .inr (2, [.ref a])), (a, .inl (cI, 4, .inl (fun j => nI (dig x j))))]) ⟨hx, hb, hml, hown, hts⟩ (c_X1_pack l d cI q a x hx1) (cwS 1 hts gX1_reduce_X1_pack rfl rfl rfl (by decide +kernel) ⟨Nat.le_of_ble_eq_true rfl, Nat.le_of_ble_eq_true rfl⟩) (hP.sub [0, 1] rfl) (hK) rfl hl.1 rfl (Nat.le_of_ble_eq_true rfl) dX1_reduce_32 ⟨Nat.zero_le _, Nat.zero_le _⟩ ?_
          subst hQ
          rw [← hxf]
          exact W.iret (v := (nI x)) hx hb hr (fun t ht hW => ⟨⟨rfl, by rw [ht]; exact hP, hD⟩, hS.F ht⟩) hS.2.2 dX1_reduce_35
  exact loop 40 c0 0 true hc (by omega) rfl (tm_40 hc) (fun h => by cases h) H locs hP hD hS ls (lv_sub hl [0, 1, 3] rfl)
end
section
theorem n_arr {ty : FieldType} {args : Array Value} {s : State} (h : (Cond.arrayClass ty).before args s = true) : ∃ cA : ClassId, ArrOfT s cA ty ∧ s.vm.findClass ("[" ++ ty.toString) = some cA := by
  obtain ⟨cA, kA, comp, h1, h2, h3⟩ := Cond.arrayClass_spec h
  exact ⟨cA, fun n z => ⟨fun k h => (by cases h), kA, h2, comp, h3⟩, h1⟩
section NKD
variable {p : Program} {l : Launch} {e : Env} {R : Room} {s : State} {m : MethodId} {args : Array Value} {below : List Frame} {meth : Method} {c : Code} {H : Heap} {locs : List Loc} {cells slots : Nat} {Q : State → Prop}
variable {cc : ByteArray} {pc : Nat} {ls : Array Slot} {rest : List Value} {D : va_G} {cl : List vw_C} {A : Nat → Prop} {tys : List (ClassId × FieldType)} {ws ws' : va_W} {H0 : Heap}
theorem n_newa (hexec : p.tables.exec = Jvm.exec) (hb : c.code = cc) {atype : ArrayType} (harr : (Cond.arrayClass (newarray.typeOf atype)).before args s = true) {ty : FieldType} (hty : newarray.typeOf atype = ty) (hK : va_K D cl tys s) (t0 : Nat) {cA : ClassId} (ht : tys[t0]? = some (cA, ty)) (hra : ∀ (U : State) (cB : ClassId), va_RA U cB ty = (U.vm.findClass ("[" ++ ty.toString) = some cB))
    (hP : va_P D cl ws H) (hD : va_D A ws) (hS : va_S A H0 H locs) (hA : ∀ q, H0.size ≤ q → A q)
    {N' : Nat} {a0 : vp_A} (ha : ∀ cB : ClassId, vp_cell cB a0 = arrV cB N' (fun _ => defaultValue ty)) (hN : N' < 2147483648) (hbytes : N' * componentBytes ty ≤ 536870912) (hcells : cells + 1 ≤ R.cells) (hslots : slots + N' ≤ R.slots) (hdg : decode cc pc = .ok (.newarray atype, 2))
    (kk : ∀ (q : Nat) (H1 : Heap), va_P D cl (ws ++ [(q, .inl (cA, a0))]) H1 → va_D A (ws ++ [(q, .inl (cA, a0))]) → va_S A H0 H1 locs →
      W p l e R s m args below meth c H1 locs (cells + 1) (slots + N') Q (F0 m (pc + 2) ls (.ref q :: rest))) : W p l e R s m args below meth c H locs cells slots Q (F0 m pc ls (.int (nI N') :: rest)) := by
  refine va_newa hexec hb harr hty hK hP hD hS hA ha (nI_pos hN) (nI_clamp hN) hbytes hcells hslots hdg (fun q cB H1 hK2 h1 h2 h3 => ?_)
  have e1 := (hK.2 t0 _ ht).2
  have e2 := (hK2.2 tys.length (cB, ty) (by rw [List.getElem?_append_right (Nat.le_refl _)]; simp)).2
  dsimp only at e1 e2
  rw [hra] at e1 e2
  have e3 : cB = cA := Option.some.inj (e2.symm.trans e1)
  subst e3
  exact kk q H1 h1 h2 h3
end NKD
/-- a constructor: the object at q becomes the world WN, with mc new cells of ms slots -/
def nNw {S : Type} (l : Launch) (y : MethodName) (ws : List Cond) (rm : Room) (d : va_G) (tys : List (ClassId × FieldType)) (q ci : Nat) (fs : List Value) (av : List Value) (mc ms : Nat) (WN : S → va_W) : Prop :=
  ∀ sz : Nat, Met l y ws rm (va_Pc (.ref q :: av) (fun U => U.heap.size = sz ∧ va_P d vwCl [(q, .inr (ci, fs))] U.heap ∧ va_K d vwCl tys U ∧ va_D (fun _ => True) [(q, .inr (ci, fs))])) (fun _ st oc t => (∃ u : S, oc = .returned none ∧ va_P d vwCl (WN u) t.heap ∧ va_D (va_A [(q, .inr (ci, fs))] sz) (WN u)) ∧ va_F (va_A [(q, .inr (ci, fs))] sz) st t) mc ms (va_A [(q, .inr (ci, fs))] sz)
section NKE
variable {p : Program} {l : Launch} {e : Env} {R : Room} {s : State} {m : MethodId} {args : Array Value} {below : List Frame} {meth : Method} {c : Code} {H : Heap} {locs : List Loc} {cells slots : Nat} {Q : State → Prop}
variable {cc bytes : ByteArray} {pc : Nat} {ls : Array Slot} {rest st0 : List Value} {y : MethodName} {maxL nL n index mc ms : Nat} {ws Ts : List Cond} {rm : Room} {own C : String} {As : List Value}
variable {d : va_G} {tys : List (ClassId × FieldType)} {WS wr : va_W} {A : Nat → Prop} {H0 : Heap} {q ci : Nat} {fs : List Value}
theorem n_nwI {S9 : Type} {WN : S9 → va_W} (S : CallFix p m c cc nL s args Ts own) (hM : nNw l y ws rm d tys q ci fs As mc ms WN) (cw : CallB R s args own index y bytes maxL none ws rm mc ms n ∧ y.name = "<init>" ∧ (Cond.instanceMethod y).before args s = true)
    (hP : va_P d vwCl WS H) (hD : va_D A WS) (hS : va_S A H0 H locs) (hA : ∀ q, H0.size ≤ q → A q) (hK : va_K d vwCl tys s) (iC : Nat) (isR : List Nat)
    (hC : [iC].map (fun i => WS[i]?) = [(q, .inr (ci, fs))].map some) (hR : isR.map (fun i => WS[i]?) = wr.map some) (hnd : va_nd isR = true) (hdis : ∀ i ∈ isR, i ∉ [iC])
    (hn : As.length = n) (hsize : ls.size = nL) (hstack : st0 = As.reverse ++ .ref q :: rest) (hW : (rest.map fun v => v.category).sum ≤ 8) (hdg : decode cc pc = .ok (.invokespecial index, 3)) (hf : cells + mc ≤ R.cells ∧ slots + ms ≤ R.slots)
    (kk : ∀ (u : S9) (H1 : Heap) (locs1 : List Loc), va_P d vwCl (wr ++ WN u) H1 → va_D A (wr ++ WN u) → va_S A H0 H1 locs1 → W p l e R s m args below meth c H1 locs1 (cells + mc) (slots + ms) Q (F0 m (pc + 3) ls rest)) : W p l e R s m args below meth c H locs cells slots Q (F0 m pc ls st0) := by
  have hPc : va_P d vwCl [(q, .inr (ci, fs))] H := hP.sub [iC] (n_fm hC)
  have hDc : va_D (fun _ => True) [(q, .inr (ci, fs))] := (hD.sub [iC] rfl hC).weaken (fun _ _ _ _ => trivial)
  have hr := W.runI (p := p) (l := l) (e := e) (below := below) (meth := meth) (H := H) (locs := locs) (cells := cells) (slots := slots) (b := q) (rest := rest) (g := F0 m pc ls st0) S (hM H.size) cw ⟨n_upB, fun U hU hW => ⟨rfl, by rw [hU], by rw [hU]; exact hPc, va_K.moved hW.alike hK, hDc⟩⟩ rfl hn hsize hstack (lv_room hW) hdg hf
  have hFc := va_free hD hS hA [iC] hC
  intro T hT X
  obtain ⟨v, st₀, t, T', L, h0, X', hL, e1, ⟨⟨u, hv, hp, hd⟩, hz, hk⟩, st⟩ := hr T hT X
  cases hv
  rw [h0] at hz hk
  have hj := va_join hP hD [iC] isR hC hR hnd hdis hk hFc hp hd
  obtain ⟨t2, a1, b1⟩ := kk u T'.heap (locs ++ L) (by rw [e1]; exact hj.1) hj.2 ⟨Nat.le_trans hS.1 (by rw [e1]; exact hz), fun q h1 h2 => by rw [e1, hk q (Nat.lt_of_lt_of_le h1 hS.1) (fun z => h2 (hFc q z))]; exact hS.2.1 q h1 h2, fun q hq => by
      rcases List.mem_append.mp hq with h | h
      · exact hS.2.2 q h
      · exact hFc _ (hL q h)⟩ T' rfl X'
  exact ⟨t2, st t2 a1, b1⟩
end NKE
end
section
set_option maxHeartbeats 4000000 in
set_option maxRecDepth 100000 in
theorem c_X2_init (l : Launch) (d : va_G) (cI : ClassId) (q : Nat) (n : Nat) (hn0 : 0 < n) (hn : n < 134217728) : nNw (S := Nat) l yX2_init wsX2_init ({ frames := 1, cells := 1, slots := n, locals := 12 } : Room) d [(cI, .int)] q 2 [.null] [.int (nI (n))] 1 n (fun a => [(q, .inr (2, [.ref a])), (a, .inl (cI, n, .inl (fun _ => 0)))]) := by
  intro sz
  refine Met.ofW (cc := cX2_init) (maxL := 2) (ret := none) (by decide) rfl ?_
  intro p e s m args below meth c s₁ B hml hv
  obtain ⟨rfl, hsz, hP, hK, hD0⟩ := hv
  have hx := B.exec
  have hb := B.bytes
  have hr := B.returns
  have hts := atoms_spec (ws := wsX2_init) B.pre
  have hown : s.vm.findClass RX2 = some m.cls := findClass_of_methodNamed B.named
  have hlocks := B.notSynchronized
  have hin : meth.name = "<init>" := (name_of_methodNamed B.named B.method).1
  have harint := hts (.arrayClass .int) (by decide +kernel)
  have hfl7 := hts (.fieldLink RX2 7 "Nudgelane$Row" "cells" "[I") (by decide +kernel)
  have hin2 : ∀ w ∈ u_ws RX2 TX2 1, w ∈ wsX2_init := by decide +kernel
  subst hsz
  have hD := hD0.self (sz := s.heap.size)
  generalize hAe : va_A [(q, .inr (2, [.null]))] s.heap.size = A at hD ⊢
  have hA : ∀ q : Nat, s.heap.size ≤ q → A q := fun q h => by rw [← hAe]; exact Or.inr h
  have hS : va_S A s.heap s.heap [] := va_S.rf
  have hP : va_P d vwCl [(q, .inr (2, [.null]))] s.heap := hP
  have hl := lv_entry ([.ref q, .int (nI (n))]) (n := 2) (Nat.le_of_ble_eq_true rfl)
  rw [lg_entry_eq]
  generalize (lg_sl ([.ref q, .int (nI (n))]) ++ List.replicate (2 - (lg_sl ([.ref q, .int (nI (n))])).length) Slot.unset).toArray = ls at hl ⊢
  have hl : lv_has ls 2 [(0, .ref q), (1, .int (nI (n)))] := hl
  refine lv_aload_n hx hb dX2_init_0 rfl (lv_at hl 0 rfl) ?_
  refine W.objInit hx hb hown (hts (.methodLink RX2 1 objectInit) (by decide +kernel)) (hts (.instanceMethod objectInit) (by decide +kernel)) (hts (.code objectInit ⟨#[0xb1]⟩ 1 none) (List.mem_of_getElem? (i := 3) rfl)) rfl (by rw [hml]; exact hl.1) rfl dX2_init_1 (Nat.le_of_ble_eq_true rfl) (Nat.le_of_ble_eq_true rfl) ?_
  refine W.eq (g2 := F0 m 4 ls []) rfl ?_
  refine lv_aload_n hx hb dX2_init_4 rfl (lv_at hl 0 rfl) ?_
  refine lv_iload_n hx hb dX2_init_5 rfl (lv_at hl 1 rfl) ?_
  refine n_ifle (tgt := 13) hx hb dX2_init_6 (by decide) (by omega) (fun c_1 => ?_) (fun c_1 => ?_)
  · exact absurd c_1 (by omega)
  refine lv_iload_n hx hb dX2_init_9 rfl (lv_at hl 1 rfl) ?_
  refine lv_goto (tgt := 14) hx hb dX2_init_10 (by decide) ?_
  refine n_newa (atype := .int) (ty := .int) (a0 := (n, .inl (fun _ => 0))) hx hb harint rfl hK 0 rfl (fun _ _ => rfl) hP hD hS hA (fun _ => rfl) (by omega) (by show n * 4 ≤ 536870912; omega) (by show 0 + 1 ≤ 1; decide) (by show 0 + n ≤ n; omega) dX2_init_14 (fun a H hP hD hS => ?_)
  have hP : va_P d vwCl [(q, .inr (2, [.null])), (a, .inl (cI, n, .inl (fun _ => 0)))] H := hP
  have hD : va_D A [(q, .inr (2, [.null])), (a, .inl (cI, n, .inl (fun _ => 0)))] := hD
  refine va_putF (D := d) (ci := 2) (v := .ref a) (ty := .array .int) (C := RX2) (T := TX2) (N := 1) hx hb hts hin2 tyX2 tyX2_ok nmX2 hown hK hP hD hS 0 rfl rfl 0 (by decide) hfl7 (fun _ h9 => h9) rfl hin rfl (by decide +kernel) rfl rfl (Nat.le_of_ble_eq_true rfl) dX2_init_16 (fun H locs hP hD hS => ?_)
  have hP : va_P d vwCl [(q, .inr (2, [.ref a])), (a, .inl (cI, n, .inl (fun _ => 0)))] H := hP
  have hD : va_D A [(q, .inr (2, [.ref a])), (a, .inl (cI, n, .inl (fun _ => 0)))] := hD
  refine W.widen (k := 1) (n := n) (by omega) (by omega) ?_
  exact W.vret hx hb hr (fun t ht hW => ⟨⟨a, rfl, by rw [ht]; exact hP.sub [0, 1] rfl, hD.sub [0, 1] (by decide) rfl⟩, hS.F ht⟩) hS.2.2 dX2_init_19

set_option maxHeartbeats 4000000 in
set_option maxRecDepth 100000 in
theorem c_X3_init (l : Launch) (d : va_G) (cI : ClassId) (q : Nat)  : nNw (S := Nat × Nat × Nat × Nat) l yX3_init wsX3_init ({ frames := 2, cells := 4, slots := 2594, locals := 33 } : Room) d [(cI, .int)] q 3 [.null, .null] [] 4 2594 (fun u => match u with | (k, ka, g, ga) => [(q, .inr (3, [.ref k, .ref g])), (k, .inr (2, [.ref ka])), (ka, .inl (cI, 1296, .inl (fun _ => 0))), (g, .inr (2, [.ref ga])), (ga, .inl (cI, 1296, .inl (fun _ => 0)))]) := by
  intro sz
  refine Met.ofW (cc := cX3_init) (maxL := 1) (ret := none) (by decide) rfl ?_
  intro p e s m args below meth c s₁ B hml hv
  obtain ⟨rfl, hsz, hP, hK, hD0⟩ := hv
  have hx := B.exec
  have hb := B.bytes
  have hr := B.returns
  have hts := atoms_spec (ws := wsX3_init) B.pre
  have hown : s.vm.findClass RX3 = some m.cls := findClass_of_methodNamed B.named
  have hlocks := B.notSynchronized
  have hin : meth.name = "<init>" := (name_of_methodNamed B.named B.method).1
  have hfl14 := hts (.fieldLink RX3 14 "Nudgelane$Ways" "known" "LNudgelane$Row;") (by decide +kernel)
  have hfl20 := hts (.fieldLink RX3 20 "Nudgelane$Ways" "queue" "LNudgelane$Row;") (by decide +kernel)
  have hin2 : ∀ w ∈ u_ws RX2 TX2 1, w ∈ wsX3_init := by decide +kernel
  have hin3 : ∀ w ∈ u_ws RX3 TX3 2, w ∈ wsX3_init := by decide +kernel
  subst hsz
  have hD := hD0.self (sz := s.heap.size)
  generalize hAe : va_A [(q, .inr (3, [.null, .null]))] s.heap.size = A at hD ⊢
  have hA : ∀ q : Nat, s.heap.size ≤ q → A q := fun q h => by rw [← hAe]; exact Or.inr h
  have hS : va_S A s.heap s.heap [] := va_S.rf
  have hP : va_P d vwCl [(q, .inr (3, [.null, .null]))] s.heap := hP
  have hl := lv_entry ([.ref q]) (n := 1) (Nat.le_of_ble_eq_true rfl)
  rw [lg_entry_eq]
  generalize (lg_sl ([.ref q]) ++ List.replicate (1 - (lg_sl ([.ref q])).length) Slot.unset).toArray = ls at hl ⊢
  have hl : lv_has ls 1 [(0, .ref q)] := hl
  refine lv_aload_n hx hb dX3_init_0 rfl (lv_at hl 0 rfl) ?_
  refine W.objInit hx hb hown (hts (.methodLink RX3 3 objectInit) (by decide +kernel)) (hts (.instanceMethod objectInit) (by decide +kernel)) (hts (.code objectInit ⟨#[0xb1]⟩ 1 none) (List.mem_of_getElem? (i := 3) rfl)) rfl (by rw [hml]; exact hl.1) rfl dX3_init_1 (Nat.le_of_ble_eq_true rfl) (Nat.le_of_ble_eq_true rfl) ?_
  refine W.eq (g2 := F0 m 4 ls []) rfl ?_
  refine lv_aload_n hx hb dX3_init_4 rfl (lv_at hl 0 rfl) ?_
  refine va_new (ci := 2) (fs := [.null]) (C := RX2) (T := TX2) (N := 1) hx hb hts hin2 tyX2 tyX2_ok hown (hts (.classLink RX3 9 RX2) (by decide +kernel)) (hts (.instantiable RX2 1) (by decide +kernel)) (hts (.initialized RX2) (by decide +kernel)) hK hP hD hS hA rfl (fun j hj => by match j, hj with | 0, _ => rfl | n + 1, h => exact absurd h (by omega)) (Nat.le_of_ble_eq_true rfl) (Nat.le_of_ble_eq_true rfl) dX3_init_5 (fun k H hP hD hS => ?_)
  have hP : va_P d vwCl [(q, .inr (3, [.null, .null])), (k, .inr (2, [.null]))] H := hP
  have hD : va_D A [(q, .inr (3, [.null, .null])), (k, .inr (2, [.null]))] := hD
  refine lv_dup hx hb dX3_init_8 rfl ?_
  refine lv_sipush (v := nI (1296)) hx hb dX3_init_9 (by decide) ?_
  refine n_nwI (As := [.int (nI (1296))]) (rest := [.ref k, .ref q]) (wr := [(q, .inr (3, [.null, .null]))]) ⟨hx, hb, hml, hown, hts⟩ (c_X2_init l d cI k 1296 (by decide) (by decide)) (cwI 1 hts gX3_init_X2_init rfl rfl rfl (hts (.initialized RX2) (by decide +kernel)) (hts (.methodLink RX3 11 yX2_init) (by decide +kernel)) (hts (.instanceMethod yX2_init) (by decide +kernel)) rfl (by decide +kernel) ⟨Nat.le_of_ble_eq_true rfl, Nat.le_of_ble_eq_true rfl⟩) hP hD hS hA hK 1 [0] rfl rfl (by decide) (by decide) rfl hl.1 rfl (Nat.le_of_ble_eq_true rfl) dX3_init_12 ⟨Nat.le_of_ble_eq_true rfl, Nat.le_of_ble_eq_true rfl⟩ (fun ka H locs hP hD hS => ?_)
  have hP : va_P d vwCl [(q, .inr (3, [.null, .null])), (k, .inr (2, [.ref ka])), (ka, .inl (cI, 1296, .inl (fun _ => 0)))] H := hP
  have hD : va_D A [(q, .inr (3, [.null, .null])), (k, .inr (2, [.ref ka])), (ka, .inl (cI, 1296, .inl (fun _ => 0)))] := hD
  refine va_putF (D := d) (ci := 3) (v := .ref k) (ty := .object "Nudgelane$Row") (C := RX3) (T := TX3) (N := 2) hx hb hts hin3 tyX3 tyX3_ok nmX3 hown hK hP hD hS 0 rfl rfl 0 (by decide) hfl14 (fun _ h9 => h9) rfl hin rfl (by decide +kernel) rfl rfl (Nat.le_of_ble_eq_true rfl) dX3_init_15 (fun H locs hP hD hS => ?_)
  have hP : va_P d vwCl [(q, .inr (3, [.ref k, .null])), (k, .inr (2, [.ref ka])), (ka, .inl (cI, 1296, .inl (fun _ => 0)))] H := hP
  have hD : va_D A [(q, .inr (3, [.ref k, .null])), (k, .inr (2, [.ref ka])), (ka, .inl (cI, 1296, .inl (fun _ => 0)))] := hD
  refine lv_aload_n hx hb dX3_init_18 rfl (lv_at hl 0 rfl) ?_
  refine va_new (ci := 2) (fs := [.null]) (C := RX2) (T := TX2) (N := 1) hx hb hts hin2 tyX2 tyX2_ok hown (hts (.classLink RX3 9 RX2) (by decide +kernel)) (hts (.instantiable RX2 1) (by decide +kernel)) (hts (.initialized RX2) (by decide +kernel)) hK hP hD hS hA rfl (fun j hj => by match j, hj with | 0, _ => rfl | n + 1, h => exact absurd h (by omega)) (Nat.le_of_ble_eq_true rfl) (Nat.le_of_ble_eq_true rfl) dX3_init_19 (fun g H hP hD hS => ?_)
  have hP : va_P d vwCl [(q, .inr (3, [.ref k, .null])), (k, .inr (2, [.ref ka])), (ka, .inl (cI, 1296, .inl (fun _ => 0))), (g, .inr (2, [.null]))] H := hP
  have hD : va_D A [(q, .inr (3, [.ref k, .null])), (k, .inr (2, [.ref ka])), (ka, .inl (cI, 1296, .inl (fun _ => 0))), (g, .inr (2, [.null]))] := hD
  refine lv_dup hx hb dX3_init_22 rfl ?_
  refine lv_sipush (v := nI (1296)) hx hb dX3_init_23 (by decide) ?_
  refine n_nwI (As := [.int (nI (1296))]) (rest := [.ref g, .ref q]) (wr := [(q, .inr (3, [.ref k, .null])), (k, .inr (2, [.ref ka])), (ka, .inl (cI, 1296, .inl (fun _ => 0)))]) ⟨hx, hb, hml, hown, hts⟩ (c_X2_init l d cI g 1296 (by decide) (by decide)) (cwI 1 hts gX3_init_X2_init rfl rfl rfl (hts (.initialized RX2) (by decide +kernel)) (hts (.methodLink RX3 11 yX2_init) (by decide +kernel)) (hts (.instanceMethod yX2_init) (by decide +kernel)) rfl (by decide +kernel) ⟨Nat.le_of_ble_eq_true rfl, Nat.le_of_ble_eq_true rfl⟩) hP hD hS hA hK 3 [0, 1, 2] rfl rfl (by decide) (by decide) rfl hl.1 rfl (Nat.le_of_ble_eq_true rfl) dX3_init_26 ⟨Nat.le_of_ble_eq_true rfl, Nat.le_of_ble_eq_true rfl⟩ (fun ga H locs hP hD hS => ?_)
  have hP : va_P d vwCl [(q, .inr (3, [.ref k, .null])), (k, .inr (2, [.ref ka])), (ka, .inl (cI, 1296, .inl (fun _ => 0))), (g, .inr (2, [.ref ga])), (ga, .inl (cI, 1296, .inl (fun _ => 0)))] H := hP
  have hD : va_D A [(q, .inr (3, [.ref k, .null])), (k, .inr (2, [.ref ka])), (ka, .inl (cI, 1296, .inl (fun _ => 0))), (g, .inr (2, [.ref ga])), (ga, .inl (cI, 1296, .inl (fun _ => 0)))] := hD
  refine va_putF (D := d) (ci := 3) (v := .ref g) (ty := .object "Nudgelane$Row") (C := RX3) (T := TX3) (N := 2) hx hb hts hin3 tyX3 tyX3_ok nmX3 hown hK hP hD hS 0 rfl rfl 1 (by decide) hfl20 (fun _ h9 => h9) rfl hin rfl (by decide +kernel) rfl rfl (Nat.le_of_ble_eq_true rfl) dX3_init_29 (fun H locs hP hD hS => ?_)
  have hP : va_P d vwCl [(q, .inr (3, [.ref k, .ref g])), (k, .inr (2, [.ref ka])), (ka, .inl (cI, 1296, .inl (fun _ => 0))), (g, .inr (2, [.ref ga])), (ga, .inl (cI, 1296, .inl (fun _ => 0)))] H := hP
  have hD : va_D A [(q, .inr (3, [.ref k, .ref g])), (k, .inr (2, [.ref ka])), (ka, .inl (cI, 1296, .inl (fun _ => 0))), (g, .inr (2, [.ref ga])), (ga, .inl (cI, 1296, .inl (fun _ => 0)))] := hD
  refine W.widen (k := 4) (n := 2594) (Nat.le_of_ble_eq_true rfl) (Nat.le_of_ble_eq_true rfl) ?_
  exact W.vret hx hb hr (fun t ht hW => ⟨⟨(k, ka, g, ga), rfl, by rw [ht]; exact hP.sub [0, 1, 2, 3, 4] rfl, hD.sub [0, 1, 2, 3, 4] (by decide) rfl⟩, hS.F ht⟩) hS.2.2 dX3_init_32

set_option maxHeartbeats 4000000 in
set_option maxRecDepth 100000 in
theorem c_X4_init (l : Launch) (d : va_G) (cI : ClassId) (q : Nat)  : nNw (S := Nat × Nat × Nat × Nat) l yX4_init wsX4_init ({ frames := 2, cells := 4, slots := 2594, locals := 33 } : Room) d [(cI, .int)] q 4 [.null, .null] [] 4 2594 (fun u => match u with | (k, ka, g, ga) => [(q, .inr (4, [.ref k, .ref g])), (k, .inr (2, [.ref ka])), (ka, .inl (cI, 1296, .inl (fun _ => 0))), (g, .inr (2, [.ref ga])), (ga, .inl (cI, 1296, .inl (fun _ => 0)))]) := by
  intro sz
  refine Met.ofW (cc := cX4_init) (maxL := 1) (ret := none) (by decide) rfl ?_
  intro p e s m args below meth c s₁ B hml hv
  obtain ⟨rfl, hsz, hP, hK, hD0⟩ := hv
  have hx := B.exec
  have hb := B.bytes
  have hr := B.returns
  have hts := atoms_spec (ws := wsX4_init) B.pre
  have hown : s.vm.findClass RX4 = some m.cls := findClass_of_methodNamed B.named
  have hlocks := B.notSynchronized
  have hin : meth.name = "<init>" := (name_of_methodNamed B.named B.method).1
  have hfl14 := hts (.fieldLink RX4 14 "Nudgelane$Worths" "worthNow" "LNudgelane$Row;") (by decide +kernel)
  have hfl20 := hts (.fieldLink RX4 20 "Nudgelane$Worths" "sums" "LNudgelane$Row;") (by decide +kernel)
  have hin2 : ∀ w ∈ u_ws RX2 TX2 1, w ∈ wsX4_init := by decide +kernel
  have hin4 : ∀ w ∈ u_ws RX4 TX4 2, w ∈ wsX4_init := by decide +kernel
  subst hsz
  have hD := hD0.self (sz := s.heap.size)
  generalize hAe : va_A [(q, .inr (4, [.null, .null]))] s.heap.size = A at hD ⊢
  have hA : ∀ q : Nat, s.heap.size ≤ q → A q := fun q h => by rw [← hAe]; exact Or.inr h
  have hS : va_S A s.heap s.heap [] := va_S.rf
  have hP : va_P d vwCl [(q, .inr (4, [.null, .null]))] s.heap := hP
  have hl := lv_entry ([.ref q]) (n := 1) (Nat.le_of_ble_eq_true rfl)
  rw [lg_entry_eq]
  generalize (lg_sl ([.ref q]) ++ List.replicate (1 - (lg_sl ([.ref q])).length) Slot.unset).toArray = ls at hl ⊢
  have hl : lv_has ls 1 [(0, .ref q)] := hl
  refine lv_aload_n hx hb dX4_init_0 rfl (lv_at hl 0 rfl) ?_
  refine W.objInit hx hb hown (hts (.methodLink RX4 3 objectInit) (by decide +kernel)) (hts (.instanceMethod objectInit) (by decide +kernel)) (hts (.code objectInit ⟨#[0xb1]⟩ 1 none) (List.mem_of_getElem? (i := 3) rfl)) rfl (by rw [hml]; exact hl.1) rfl dX4_init_1 (Nat.le_of_ble_eq_true rfl) (Nat.le_of_ble_eq_true rfl) ?_
  refine W.eq (g2 := F0 m 4 ls []) rfl ?_
  refine lv_aload_n hx hb dX4_init_4 rfl (lv_at hl 0 rfl) ?_
  refine va_new (ci := 2) (fs := [.null]) (C := RX2) (T := TX2) (N := 1) hx hb hts hin2 tyX2 tyX2_ok hown (hts (.classLink RX4 9 RX2) (by decide +kernel)) (hts (.instantiable RX2 1) (by decide +kernel)) (hts (.initialized RX2) (by decide +kernel)) hK hP hD hS hA rfl (fun j hj => by match j, hj with | 0, _ => rfl | n + 1, h => exact absurd h (by omega)) (Nat.le_of_ble_eq_true rfl) (Nat.le_of_ble_eq_true rfl) dX4_init_5 (fun k H hP hD hS => ?_)
  have hP : va_P d vwCl [(q, .inr (4, [.null, .null])), (k, .inr (2, [.null]))] H := hP
  have hD : va_D A [(q, .inr (4, [.null, .null])), (k, .inr (2, [.null]))] := hD
  refine lv_dup hx hb dX4_init_8 rfl ?_
  refine lv_sipush (v := nI (1296)) hx hb dX4_init_9 (by decide) ?_
  refine n_nwI (As := [.int (nI (1296))]) (rest := [.ref k, .ref q]) (wr := [(q, .inr (4, [.null, .null]))]) ⟨hx, hb, hml, hown, hts⟩ (c_X2_init l d cI k 1296 (by decide) (by decide)) (cwI 1 hts gX4_init_X2_init rfl rfl rfl (hts (.initialized RX2) (by decide +kernel)) (hts (.methodLink RX4 11 yX2_init) (by decide +kernel)) (hts (.instanceMethod yX2_init) (by decide +kernel)) rfl (by decide +kernel) ⟨Nat.le_of_ble_eq_true rfl, Nat.le_of_ble_eq_true rfl⟩) hP hD hS hA hK 1 [0] rfl rfl (by decide) (by decide) rfl hl.1 rfl (Nat.le_of_ble_eq_true rfl) dX4_init_12 ⟨Nat.le_of_ble_eq_true rfl, Nat.le_of_ble_eq_true rfl⟩ (fun ka H locs hP hD hS => ?_)
  have hP : va_P d vwCl [(q, .inr (4, [.null, .null])), (k, .inr (2, [.ref ka])), (ka, .inl (cI, 1296, .inl (fun _ => 0)))] H := hP
  have hD : va_D A [(q, .inr (4, [.null, .null])), (k, .inr (2, [.ref ka])), (ka, .inl (cI, 1296, .inl (fun _ => 0)))] := hD
  refine va_putF (D := d) (ci := 4) (v := .ref k) (ty := .object "Nudgelane$Row") (C := RX4) (T := TX4) (N := 2) hx hb hts hin4 tyX4 tyX4_ok nmX4 hown hK hP hD hS 0 rfl rfl 0 (by decide) hfl14 (fun _ h9 => h9) rfl hin rfl (by decide +kernel) rfl rfl (Nat.le_of_ble_eq_true rfl) dX4_init_15 (fun H locs hP hD hS => ?_)
  have hP : va_P d vwCl [(q, .inr (4, [.ref k, .null])), (k, .inr (2, [.ref ka])), (ka, .inl (cI, 1296, .inl (fun _ => 0)))] H := hP
  have hD : va_D A [(q, .inr (4, [.ref k, .null])), (k, .inr (2, [.ref ka])), (ka, .inl (cI, 1296, .inl (fun _ => 0)))] := hD
  refine lv_aload_n hx hb dX4_init_18 rfl (lv_at hl 0 rfl) ?_
  refine va_new (ci := 2) (fs := [.null]) (C := RX2) (T := TX2) (N := 1) hx hb hts hin2 tyX2 tyX2_ok hown (hts (.classLink RX4 9 RX2) (by decide +kernel)) (hts (.instantiable RX2 1) (by decide +kernel)) (hts (.initialized RX2) (by decide +kernel)) hK hP hD hS hA rfl (fun j hj => by match j, hj with | 0, _ => rfl | n + 1, h => exact absurd h (by omega)) (Nat.le_of_ble_eq_true rfl) (Nat.le_of_ble_eq_true rfl) dX4_init_19 (fun g H hP hD hS => ?_)
  have hP : va_P d vwCl [(q, .inr (4, [.ref k, .null])), (k, .inr (2, [.ref ka])), (ka, .inl (cI, 1296, .inl (fun _ => 0))), (g, .inr (2, [.null]))] H := hP
  have hD : va_D A [(q, .inr (4, [.ref k, .null])), (k, .inr (2, [.ref ka])), (ka, .inl (cI, 1296, .inl (fun _ => 0))), (g, .inr (2, [.null]))] := hD
  refine lv_dup hx hb dX4_init_22 rfl ?_
  refine lv_sipush (v := nI (1296)) hx hb dX4_init_23 (by decide) ?_
  refine n_nwI (As := [.int (nI (1296))]) (rest := [.ref g, .ref q]) (wr := [(q, .inr (4, [.ref k, .null])), (k, .inr (2, [.ref ka])), (ka, .inl (cI, 1296, .inl (fun _ => 0)))]) ⟨hx, hb, hml, hown, hts⟩ (c_X2_init l d cI g 1296 (by decide) (by decide)) (cwI 1 hts gX4_init_X2_init rfl rfl rfl (hts (.initialized RX2) (by decide +kernel)) (hts (.methodLink RX4 11 yX2_init) (by decide +kernel)) (hts (.instanceMethod yX2_init) (by decide +kernel)) rfl (by decide +kernel) ⟨Nat.le_of_ble_eq_true rfl, Nat.le_of_ble_eq_true rfl⟩) hP hD hS hA hK 3 [0, 1, 2] rfl rfl (by decide) (by decide) rfl hl.1 rfl (Nat.le_of_ble_eq_true rfl) dX4_init_26 ⟨Nat.le_of_ble_eq_true rfl, Nat.le_of_ble_eq_true rfl⟩ (fun ga H locs hP hD hS => ?_)
  have hP : va_P d vwCl [(q, .inr (4, [.ref k, .null])), (k, .inr (2, [.ref ka])), (ka, .inl (cI, 1296, .inl (fun _ => 0))), (g, .inr (2, [.ref ga])), (ga, .inl (cI, 1296, .inl (fun _ => 0)))] H := hP
  have hD : va_D A [(q, .inr (4, [.ref k, .null])), (k, .inr (2, [.ref ka])), (ka, .inl (cI, 1296, .inl (fun _ => 0))), (g, .inr (2, [.ref ga])), (ga, .inl (cI, 1296, .inl (fun _ => 0)))] := hD
  refine va_putF (D := d) (ci := 4) (v := .ref g) (ty := .object "Nudgelane$Row") (C := RX4) (T := TX4) (N := 2) hx hb hts hin4 tyX4 tyX4_ok nmX4 hown hK hP hD hS 0 rfl rfl 1 (by decide) hfl20 (fun _ h9 => h9) rfl hin rfl (by decide +kernel) rfl rfl (Nat.le_of_ble_eq_true rfl) dX4_init_29 (fun H locs hP hD hS => ?_)
  have hP : va_P d vwCl [(q, .inr (4, [.ref k, .ref g])), (k, .inr (2, [.ref ka])), (ka, .inl (cI, 1296, .inl (fun _ => 0))), (g, .inr (2, [.ref ga])), (ga, .inl (cI, 1296, .inl (fun _ => 0)))] H := hP
  have hD : va_D A [(q, .inr (4, [.ref k, .ref g])), (k, .inr (2, [.ref ka])), (ka, .inl (cI, 1296, .inl (fun _ => 0))), (g, .inr (2, [.ref ga])), (ga, .inl (cI, 1296, .inl (fun _ => 0)))] := hD
  refine W.widen (k := 4) (n := 2594) (Nat.le_of_ble_eq_true rfl) (Nat.le_of_ble_eq_true rfl) ?_
  exact W.vret hx hb hr (fun t ht hW => ⟨⟨(k, ka, g, ga), rfl, by rw [ht]; exact hP.sub [0, 1, 2, 3, 4] rfl, hD.sub [0, 1, 2, 3, 4] (by decide) rfl⟩, hS.F ht⟩) hS.2.2 dX4_init_32

set_option maxHeartbeats 4000000 in
set_option maxRecDepth 100000 in
theorem c_X0_init (l : Launch) (d : va_G) (cI : ClassId) (q : Nat)  : nNw (S := Nat × Nat × Nat × Nat × Nat × Nat × Nat × Nat × Nat × Nat × Nat × Nat) l yX0_init wsX0_init ({ frames := 2, cells := 12, slots := 4854, locals := 33 } : Room) d [(cI, .int)] q 0 [.null, .null, .null, .null, .null, .null, .int (nI (0)), .int (nI (0)), .int (nI (0)), .int (nI (0)), .int (nI (0))] [] 12 4854 (fun u => match u with | (f, fa, x, xa, v, va, g, ga, k, ka, z, za) => [(q, .inr (0, [.ref f, .ref x, .ref v, .ref g, .ref k, .ref z, .int (nI (0)), .int (nI (0)), .int (nI (0)), .int (-1), .int (nI (0))])), (f, .inr (2, [.ref fa])), (fa, .inl (cI, 300, .inl (fun _ => 0))), (x, .inr (2, [.ref xa])), (xa, .inl (cI, 300, .inl (fun _ => 0))), (v, .inr (2, [.ref va])), (va, .inl (cI, 1296, .inl (fun _ => 0))), (g, .inr (2, [.ref ga])), (ga, .inl (cI, 1296, .inl (fun _ => 0))), (k, .inr (2, [.ref ka])), (ka, .inl (cI, 1296, .inl (fun _ => 0))), (z, .inr (2, [.ref za])), (za, .inl (cI, 360, .inl (fun _ => 0)))]) := by
  intro sz
  refine Met.ofW (cc := cX0_init) (maxL := 1) (ret := none) (by decide) rfl ?_
  intro p e s m args below meth c s₁ B hml hv
  obtain ⟨rfl, hsz, hP, hK, hD0⟩ := hv
  have hx := B.exec
  have hb := B.bytes
  have hr := B.returns
  have hts := atoms_spec (ws := wsX0_init) B.pre
  have hown : s.vm.findClass RX0 = some m.cls := findClass_of_methodNamed B.named
  have hlocks := B.notSynchronized
  have hin : meth.name = "<init>" := (name_of_methodNamed B.named B.method).1
  have hfl14 := hts (.fieldLink RX0 14 "Nudgelane$Attempts" "froms" "LNudgelane$Row;") (by decide +kernel)
  have hfl20 := hts (.fieldLink RX0 20 "Nudgelane$Attempts" "tos" "LNudgelane$Row;") (by decide +kernel)
  have hfl23 := hts (.fieldLink RX0 23 "Nudgelane$Attempts" "leavings" "LNudgelane$Row;") (by decide +kernel)
  have hfl26 := hts (.fieldLink RX0 26 "Nudgelane$Attempts" "rightEnds" "LNudgelane$Row;") (by decide +kernel)
  have hfl29 := hts (.fieldLink RX0 29 "Nudgelane$Attempts" "metMarks" "LNudgelane$Row;") (by decide +kernel)
  have hfl32 := hts (.fieldLink RX0 32 "Nudgelane$Attempts" "metForms" "LNudgelane$Row;") (by decide +kernel)
  have hfl35 := hts (.fieldLink RX0 35 "Nudgelane$Attempts" "here" "I") (by decide +kernel)
  have hin0 : ∀ w ∈ u_ws RX0 TX0 11, w ∈ wsX0_init := by decide +kernel
  have hin2 : ∀ w ∈ u_ws RX2 TX2 1, w ∈ wsX0_init := by decide +kernel
  subst hsz
  have hD := hD0.self (sz := s.heap.size)
  generalize hAe : va_A [(q, .inr (0, [.null, .null, .null, .null, .null, .null, .int (nI (0)), .int (nI (0)), .int (nI (0)), .int (nI (0)), .int (nI (0))]))] s.heap.size = A at hD ⊢
  have hA : ∀ q : Nat, s.heap.size ≤ q → A q := fun q h => by rw [← hAe]; exact Or.inr h
  have hS : va_S A s.heap s.heap [] := va_S.rf
  have hP : va_P d vwCl [(q, .inr (0, [.null, .null, .null, .null, .null, .null, .int (nI (0)), .int (nI (0)), .int (nI (0)), .int (nI (0)), .int (nI (0))]))] s.heap := hP
  have hl := lv_entry ([.ref q]) (n := 1) (Nat.le_of_ble_eq_true rfl)
  rw [lg_entry_eq]
  generalize (lg_sl ([.ref q]) ++ List.replicate (1 - (lg_sl ([.ref q])).length) Slot.unset).toArray = ls at hl ⊢
  have hl : lv_has ls 1 [(0, .ref q)] := hl
  refine lv_aload_n hx hb dX0_init_0 rfl (lv_at hl 0 rfl) ?_
  refine W.objInit hx hb hown (hts (.methodLink RX0 3 objectInit) (by decide +kernel)) (hts (.instanceMethod objectInit) (by decide +kernel)) (hts (.code objectInit ⟨#[0xb1]⟩ 1 none) (List.mem_of_getElem? (i := 3) rfl)) rfl (by rw [hml]; exact hl.1) rfl dX0_init_1 (Nat.le_of_ble_eq_true rfl) (Nat.le_of_ble_eq_true rfl) ?_
  refine W.eq (g2 := F0 m 4 ls []) rfl ?_
  refine lv_aload_n hx hb dX0_init_4 rfl (lv_at hl 0 rfl) ?_
  refine va_new (ci := 2) (fs := [.null]) (C := RX2) (T := TX2) (N := 1) hx hb hts hin2 tyX2 tyX2_ok hown (hts (.classLink RX0 9 RX2) (by decide +kernel)) (hts (.instantiable RX2 1) (by decide +kernel)) (hts (.initialized RX2) (by decide +kernel)) hK hP hD hS hA rfl (fun j hj => by match j, hj with | 0, _ => rfl | n + 1, h => exact absurd h (by omega)) (Nat.le_of_ble_eq_true rfl) (Nat.le_of_ble_eq_true rfl) dX0_init_5 (fun f H hP hD hS => ?_)
  have hP : va_P d vwCl [(q, .inr (0, [.null, .null, .null, .null, .null, .null, .int (nI (0)), .int (nI (0)), .int (nI (0)), .int (nI (0)), .int (nI (0))])), (f, .inr (2, [.null]))] H := hP
  have hD : va_D A [(q, .inr (0, [.null, .null, .null, .null, .null, .null, .int (nI (0)), .int (nI (0)), .int (nI (0)), .int (nI (0)), .int (nI (0))])), (f, .inr (2, [.null]))] := hD
  refine lv_dup hx hb dX0_init_8 rfl ?_
  refine lv_sipush (v := nI (300)) hx hb dX0_init_9 (by decide) ?_
  refine n_nwI (As := [.int (nI (300))]) (rest := [.ref f, .ref q]) (wr := [(q, .inr (0, [.null, .null, .null, .null, .null, .null, .int (nI (0)), .int (nI (0)), .int (nI (0)), .int (nI (0)), .int (nI (0))]))]) ⟨hx, hb, hml, hown, hts⟩ (c_X2_init l d cI f 300 (by decide) (by decide)) (cwI 1 hts gX0_init_X2_init rfl rfl rfl (hts (.initialized RX2) (by decide +kernel)) (hts (.methodLink RX0 11 yX2_init) (by decide +kernel)) (hts (.instanceMethod yX2_init) (by decide +kernel)) rfl (by decide +kernel) ⟨Nat.le_of_ble_eq_true rfl, Nat.le_of_ble_eq_true rfl⟩) hP hD hS hA hK 1 [0] rfl rfl (by decide) (by decide) rfl hl.1 rfl (Nat.le_of_ble_eq_true rfl) dX0_init_12 ⟨Nat.le_of_ble_eq_true rfl, Nat.le_of_ble_eq_true rfl⟩ (fun fa H locs hP hD hS => ?_)
  have hP : va_P d vwCl [(q, .inr (0, [.null, .null, .null, .null, .null, .null, .int (nI (0)), .int (nI (0)), .int (nI (0)), .int (nI (0)), .int (nI (0))])), (f, .inr (2, [.ref fa])), (fa, .inl (cI, 300, .inl (fun _ => 0)))] H := hP
  have hD : va_D A [(q, .inr (0, [.null, .null, .null, .null, .null, .null, .int (nI (0)), .int (nI (0)), .int (nI (0)), .int (nI (0)), .int (nI (0))])), (f, .inr (2, [.ref fa])), (fa, .inl (cI, 300, .inl (fun _ => 0)))] := hD
  refine va_putF (D := d) (ci := 0) (v := .ref f) (ty := .object "Nudgelane$Row") (C := RX0) (T := TX0) (N := 11) hx hb hts hin0 tyX0 tyX0_ok nmX0 hown hK hP hD hS 0 rfl rfl 0 (by decide) hfl14 (fun _ h9 => h9) rfl hin rfl (by decide +kernel) rfl rfl (Nat.le_of_ble_eq_true rfl) dX0_init_15 (fun H locs hP hD hS => ?_)
  have hP : va_P d vwCl [(q, .inr (0, [.ref f, .null, .null, .null, .null, .null, .int (nI (0)), .int (nI (0)), .int (nI (0)), .int (nI (0)), .int (nI (0))])), (f, .inr (2, [.ref fa])), (fa, .inl (cI, 300, .inl (fun _ => 0)))] H := hP
  have hD : va_D A [(q, .inr (0, [.ref f, .null, .null, .null, .null, .null, .int (nI (0)), .int (nI (0)), .int (nI (0)), .int (nI (0)), .int (nI (0))])), (f, .inr (2, [.ref fa])), (fa, .inl (cI, 300, .inl (fun _ => 0)))] := hD
  refine lv_aload_n hx hb dX0_init_18 rfl (lv_at hl 0 rfl) ?_
  refine va_new (ci := 2) (fs := [.null]) (C := RX2) (T := TX2) (N := 1) hx hb hts hin2 tyX2 tyX2_ok hown (hts (.classLink RX0 9 RX2) (by decide +kernel)) (hts (.instantiable RX2 1) (by decide +kernel)) (hts (.initialized RX2) (by decide +kernel)) hK hP hD hS hA rfl (fun j hj => by match j, hj with | 0, _ => rfl | n + 1, h => exact absurd h (by omega)) (Nat.le_of_ble_eq_true rfl) (Nat.le_of_ble_eq_true rfl) dX0_init_19 (fun x H hP hD hS => ?_)
  have hP : va_P d vwCl [(q, .inr (0, [.ref f, .null, .null, .null, .null, .null, .int (nI (0)), .int (nI (0)), .int (nI (0)), .int (nI (0)), .int (nI (0))])), (f, .inr (2, [.ref fa])), (fa, .inl (cI, 300, .inl (fun _ => 0))), (x, .inr (2, [.null]))] H := hP
  have hD : va_D A [(q, .inr (0, [.ref f, .null, .null, .null, .null, .null, .int (nI (0)), .int (nI (0)), .int (nI (0)), .int (nI (0)), .int (nI (0))])), (f, .inr (2, [.ref fa])), (fa, .inl (cI, 300, .inl (fun _ => 0))), (x, .inr (2, [.null]))] := hD
  refine lv_dup hx hb dX0_init_22 rfl ?_
  refine lv_sipush (v := nI (300)) hx hb dX0_init_23 (by decide) ?_
  refine n_nwI (As := [.int (nI (300))]) (rest := [.ref x, .ref q]) (wr := [(q, .inr (0, [.ref f, .null, .null, .null, .null, .null, .int (nI (0)), .int (nI (0)), .int (nI (0)), .int (nI (0)), .int (nI (0))])), (f, .inr (2, [.ref fa])), (fa, .inl (cI, 300, .inl (fun _ => 0)))]) ⟨hx, hb, hml, hown, hts⟩ (c_X2_init l d cI x 300 (by decide) (by decide)) (cwI 1 hts gX0_init_X2_init rfl rfl rfl (hts (.initialized RX2) (by decide +kernel)) (hts (.methodLink RX0 11 yX2_init) (by decide +kernel)) (hts (.instanceMethod yX2_init) (by decide +kernel)) rfl (by decide +kernel) ⟨Nat.le_of_ble_eq_true rfl, Nat.le_of_ble_eq_true rfl⟩) hP hD hS hA hK 3 [0, 1, 2] rfl rfl (by decide) (by decide) rfl hl.1 rfl (Nat.le_of_ble_eq_true rfl) dX0_init_26 ⟨Nat.le_of_ble_eq_true rfl, Nat.le_of_ble_eq_true rfl⟩ (fun xa H locs hP hD hS => ?_)
  have hP : va_P d vwCl [(q, .inr (0, [.ref f, .null, .null, .null, .null, .null, .int (nI (0)), .int (nI (0)), .int (nI (0)), .int (nI (0)), .int (nI (0))])), (f, .inr (2, [.ref fa])), (fa, .inl (cI, 300, .inl (fun _ => 0))), (x, .inr (2, [.ref xa])), (xa, .inl (cI, 300, .inl (fun _ => 0)))] H := hP
  have hD : va_D A [(q, .inr (0, [.ref f, .null, .null, .null, .null, .null, .int (nI (0)), .int (nI (0)), .int (nI (0)), .int (nI (0)), .int (nI (0))])), (f, .inr (2, [.ref fa])), (fa, .inl (cI, 300, .inl (fun _ => 0))), (x, .inr (2, [.ref xa])), (xa, .inl (cI, 300, .inl (fun _ => 0)))] := hD
  refine va_putF (D := d) (ci := 0) (v := .ref x) (ty := .object "Nudgelane$Row") (C := RX0) (T := TX0) (N := 11) hx hb hts hin0 tyX0 tyX0_ok nmX0 hown hK hP hD hS 0 rfl rfl 1 (by decide) hfl20 (fun _ h9 => h9) rfl hin rfl (by decide +kernel) rfl rfl (Nat.le_of_ble_eq_true rfl) dX0_init_29 (fun H locs hP hD hS => ?_)
  have hP : va_P d vwCl [(q, .inr (0, [.ref f, .ref x, .null, .null, .null, .null, .int (nI (0)), .int (nI (0)), .int (nI (0)), .int (nI (0)), .int (nI (0))])), (f, .inr (2, [.ref fa])), (fa, .inl (cI, 300, .inl (fun _ => 0))), (x, .inr (2, [.ref xa])), (xa, .inl (cI, 300, .inl (fun _ => 0)))] H := hP
  have hD : va_D A [(q, .inr (0, [.ref f, .ref x, .null, .null, .null, .null, .int (nI (0)), .int (nI (0)), .int (nI (0)), .int (nI (0)), .int (nI (0))])), (f, .inr (2, [.ref fa])), (fa, .inl (cI, 300, .inl (fun _ => 0))), (x, .inr (2, [.ref xa])), (xa, .inl (cI, 300, .inl (fun _ => 0)))] := hD
  refine lv_aload_n hx hb dX0_init_32 rfl (lv_at hl 0 rfl) ?_
  refine va_new (ci := 2) (fs := [.null]) (C := RX2) (T := TX2) (N := 1) hx hb hts hin2 tyX2 tyX2_ok hown (hts (.classLink RX0 9 RX2) (by decide +kernel)) (hts (.instantiable RX2 1) (by decide +kernel)) (hts (.initialized RX2) (by decide +kernel)) hK hP hD hS hA rfl (fun j hj => by match j, hj with | 0, _ => rfl | n + 1, h => exact absurd h (by omega)) (Nat.le_of_ble_eq_true rfl) (Nat.le_of_ble_eq_true rfl) dX0_init_33 (fun v H hP hD hS => ?_)
  have hP : va_P d vwCl [(q, .inr (0, [.ref f, .ref x, .null, .null, .null, .null, .int (nI (0)), .int (nI (0)), .int (nI (0)), .int (nI (0)), .int (nI (0))])), (f, .inr (2, [.ref fa])), (fa, .inl (cI, 300, .inl (fun _ => 0))), (x, .inr (2, [.ref xa])), (xa, .inl (cI, 300, .inl (fun _ => 0))), (v, .inr (2, [.null]))] H := hP
  have hD : va_D A [(q, .inr (0, [.ref f, .ref x, .null, .null, .null, .null, .int (nI (0)), .int (nI (0)), .int (nI (0)), .int (nI (0)), .int (nI (0))])), (f, .inr (2, [.ref fa])), (fa, .inl (cI, 300, .inl (fun _ => 0))), (x, .inr (2, [.ref xa])), (xa, .inl (cI, 300, .inl (fun _ => 0))), (v, .inr (2, [.null]))] := hD
  refine lv_dup hx hb dX0_init_36 rfl ?_
  refine lv_sipush (v := nI (1296)) hx hb dX0_init_37 (by decide) ?_
  refine n_nwI (As := [.int (nI (1296))]) (rest := [.ref v, .ref q]) (wr := [(q, .inr (0, [.ref f, .ref x, .null, .null, .null, .null, .int (nI (0)), .int (nI (0)), .int (nI (0)), .int (nI (0)), .int (nI (0))])), (f, .inr (2, [.ref fa])), (fa, .inl (cI, 300, .inl (fun _ => 0))), (x, .inr (2, [.ref xa])), (xa, .inl (cI, 300, .inl (fun _ => 0)))]) ⟨hx, hb, hml, hown, hts⟩ (c_X2_init l d cI v 1296 (by decide) (by decide)) (cwI 1 hts gX0_init_X2_init rfl rfl rfl (hts (.initialized RX2) (by decide +kernel)) (hts (.methodLink RX0 11 yX2_init) (by decide +kernel)) (hts (.instanceMethod yX2_init) (by decide +kernel)) rfl (by decide +kernel) ⟨Nat.le_of_ble_eq_true rfl, Nat.le_of_ble_eq_true rfl⟩) hP hD hS hA hK 5 [0, 1, 2, 3, 4] rfl rfl (by decide) (by decide) rfl hl.1 rfl (Nat.le_of_ble_eq_true rfl) dX0_init_40 ⟨Nat.le_of_ble_eq_true rfl, Nat.le_of_ble_eq_true rfl⟩ (fun va H locs hP hD hS => ?_)
  have hP : va_P d vwCl [(q, .inr (0, [.ref f, .ref x, .null, .null, .null, .null, .int (nI (0)), .int (nI (0)), .int (nI (0)), .int (nI (0)), .int (nI (0))])), (f, .inr (2, [.ref fa])), (fa, .inl (cI, 300, .inl (fun _ => 0))), (x, .inr (2, [.ref xa])), (xa, .inl (cI, 300, .inl (fun _ => 0))), (v, .inr (2, [.ref va])), (va, .inl (cI, 1296, .inl (fun _ => 0)))] H := hP
  have hD : va_D A [(q, .inr (0, [.ref f, .ref x, .null, .null, .null, .null, .int (nI (0)), .int (nI (0)), .int (nI (0)), .int (nI (0)), .int (nI (0))])), (f, .inr (2, [.ref fa])), (fa, .inl (cI, 300, .inl (fun _ => 0))), (x, .inr (2, [.ref xa])), (xa, .inl (cI, 300, .inl (fun _ => 0))), (v, .inr (2, [.ref va])), (va, .inl (cI, 1296, .inl (fun _ => 0)))] := hD
  refine va_putF (D := d) (ci := 0) (v := .ref v) (ty := .object "Nudgelane$Row") (C := RX0) (T := TX0) (N := 11) hx hb hts hin0 tyX0 tyX0_ok nmX0 hown hK hP hD hS 0 rfl rfl 2 (by decide) hfl23 (fun _ h9 => h9) rfl hin rfl (by decide +kernel) rfl rfl (Nat.le_of_ble_eq_true rfl) dX0_init_43 (fun H locs hP hD hS => ?_)
  have hP : va_P d vwCl [(q, .inr (0, [.ref f, .ref x, .ref v, .null, .null, .null, .int (nI (0)), .int (nI (0)), .int (nI (0)), .int (nI (0)), .int (nI (0))])), (f, .inr (2, [.ref fa])), (fa, .inl (cI, 300, .inl (fun _ => 0))), (x, .inr (2, [.ref xa])), (xa, .inl (cI, 300, .inl (fun _ => 0))), (v, .inr (2, [.ref va])), (va, .inl (cI, 1296, .inl (fun _ => 0)))] H := hP
  have hD : va_D A [(q, .inr (0, [.ref f, .ref x, .ref v, .null, .null, .null, .int (nI (0)), .int (nI (0)), .int (nI (0)), .int (nI (0)), .int (nI (0))])), (f, .inr (2, [.ref fa])), (fa, .inl (cI, 300, .inl (fun _ => 0))), (x, .inr (2, [.ref xa])), (xa, .inl (cI, 300, .inl (fun _ => 0))), (v, .inr (2, [.ref va])), (va, .inl (cI, 1296, .inl (fun _ => 0)))] := hD
  refine lv_aload_n hx hb dX0_init_46 rfl (lv_at hl 0 rfl) ?_
  refine va_new (ci := 2) (fs := [.null]) (C := RX2) (T := TX2) (N := 1) hx hb hts hin2 tyX2 tyX2_ok hown (hts (.classLink RX0 9 RX2) (by decide +kernel)) (hts (.instantiable RX2 1) (by decide +kernel)) (hts (.initialized RX2) (by decide +kernel)) hK hP hD hS hA rfl (fun j hj => by match j, hj with | 0, _ => rfl | n + 1, h => exact absurd h (by omega)) (Nat.le_of_ble_eq_true rfl) (Nat.le_of_ble_eq_true rfl) dX0_init_47 (fun g H hP hD hS => ?_)
  have hP : va_P d vwCl [(q, .inr (0, [.ref f, .ref x, .ref v, .null, .null, .null, .int (nI (0)), .int (nI (0)), .int (nI (0)), .int (nI (0)), .int (nI (0))])), (f, .inr (2, [.ref fa])), (fa, .inl (cI, 300, .inl (fun _ => 0))), (x, .inr (2, [.ref xa])), (xa, .inl (cI, 300, .inl (fun _ => 0))), (v, .inr (2, [.ref va])), (va, .inl (cI, 1296, .inl (fun _ => 0))), (g, .inr (2, [.null]))] H := hP
  have hD : va_D A [(q, .inr (0, [.ref f, .ref x, .ref v, .null, .null, .null, .int (nI (0)), .int (nI (0)), .int (nI (0)), .int (nI (0)), .int (nI (0))])), (f, .inr (2, [.ref fa])), (fa, .inl (cI, 300, .inl (fun _ => 0))), (x, .inr (2, [.ref xa])), (xa, .inl (cI, 300, .inl (fun _ => 0))), (v, .inr (2, [.ref va])), (va, .inl (cI, 1296, .inl (fun _ => 0))), (g, .inr (2, [.null]))] := hD
  refine lv_dup hx hb dX0_init_50 rfl ?_
  refine lv_sipush (v := nI (1296)) hx hb dX0_init_51 (by decide) ?_
  refine n_nwI (As := [.int (nI (1296))]) (rest := [.ref g, .ref q]) (wr := [(q, .inr (0, [.ref f, .ref x, .ref v, .null, .null, .null, .int (nI (0)), .int (nI (0)), .int (nI (0)), .int (nI (0)), .int (nI (0))])), (f, .inr (2, [.ref fa])), (fa, .inl (cI, 300, .inl (fun _ => 0))), (x, .inr (2, [.ref xa])), (xa, .inl (cI, 300, .inl (fun _ => 0))), (v, .inr (2, [.ref va])), (va, .inl (cI, 1296, .inl (fun _ => 0)))]) ⟨hx, hb, hml, hown, hts⟩ (c_X2_init l d cI g 1296 (by decide) (by decide)) (cwI 1 hts gX0_init_X2_init rfl rfl rfl (hts (.initialized RX2) (by decide +kernel)) (hts (.methodLink RX0 11 yX2_init) (by decide +kernel)) (hts (.instanceMethod yX2_init) (by decide +kernel)) rfl (by decide +kernel) ⟨Nat.le_of_ble_eq_true rfl, Nat.le_of_ble_eq_true rfl⟩) hP hD hS hA hK 7 [0, 1, 2, 3, 4, 5, 6] rfl rfl (by decide) (by decide) rfl hl.1 rfl (Nat.le_of_ble_eq_true rfl) dX0_init_54 ⟨Nat.le_of_ble_eq_true rfl, Nat.le_of_ble_eq_true rfl⟩ (fun ga H locs hP hD hS => ?_)
  have hP : va_P d vwCl [(q, .inr (0, [.ref f, .ref x, .ref v, .null, .null, .null, .int (nI (0)), .int (nI (0)), .int (nI (0)), .int (nI (0)), .int (nI (0))])), (f, .inr (2, [.ref fa])), (fa, .inl (cI, 300, .inl (fun _ => 0))), (x, .inr (2, [.ref xa])), (xa, .inl (cI, 300, .inl (fun _ => 0))), (v, .inr (2, [.ref va])), (va, .inl (cI, 1296, .inl (fun _ => 0))), (g, .inr (2, [.ref ga])), (ga, .inl (cI, 1296, .inl (fun _ => 0)))] H := hP
  have hD : va_D A [(q, .inr (0, [.ref f, .ref x, .ref v, .null, .null, .null, .int (nI (0)), .int (nI (0)), .int (nI (0)), .int (nI (0)), .int (nI (0))])), (f, .inr (2, [.ref fa])), (fa, .inl (cI, 300, .inl (fun _ => 0))), (x, .inr (2, [.ref xa])), (xa, .inl (cI, 300, .inl (fun _ => 0))), (v, .inr (2, [.ref va])), (va, .inl (cI, 1296, .inl (fun _ => 0))), (g, .inr (2, [.ref ga])), (ga, .inl (cI, 1296, .inl (fun _ => 0)))] := hD
  refine va_putF (D := d) (ci := 0) (v := .ref g) (ty := .object "Nudgelane$Row") (C := RX0) (T := TX0) (N := 11) hx hb hts hin0 tyX0 tyX0_ok nmX0 hown hK hP hD hS 0 rfl rfl 3 (by decide) hfl26 (fun _ h9 => h9) rfl hin rfl (by decide +kernel) rfl rfl (Nat.le_of_ble_eq_true rfl) dX0_init_57 (fun H locs hP hD hS => ?_)
  have hP : va_P d vwCl [(q, .inr (0, [.ref f, .ref x, .ref v, .ref g, .null, .null, .int (nI (0)), .int (nI (0)), .int (nI (0)), .int (nI (0)), .int (nI (0))])), (f, .inr (2, [.ref fa])), (fa, .inl (cI, 300, .inl (fun _ => 0))), (x, .inr (2, [.ref xa])), (xa, .inl (cI, 300, .inl (fun _ => 0))), (v, .inr (2, [.ref va])), (va, .inl (cI, 1296, .inl (fun _ => 0))), (g, .inr (2, [.ref ga])), (ga, .inl (cI, 1296, .inl (fun _ => 0)))] H := hP
  have hD : va_D A [(q, .inr (0, [.ref f, .ref x, .ref v, .ref g, .null, .null, .int (nI (0)), .int (nI (0)), .int (nI (0)), .int (nI (0)), .int (nI (0))])), (f, .inr (2, [.ref fa])), (fa, .inl (cI, 300, .inl (fun _ => 0))), (x, .inr (2, [.ref xa])), (xa, .inl (cI, 300, .inl (fun _ => 0))), (v, .inr (2, [.ref va])), (va, .inl (cI, 1296, .inl (fun _ => 0))), (g, .inr (2, [.ref ga])), (ga, .inl (cI, 1296, .inl (fun _ => 0)))] := hD
  refine lv_aload_n hx hb dX0_init_60 rfl (lv_at hl 0 rfl) ?_
  refine va_new (ci := 2) (fs := [.null]) (C := RX2) (T := TX2) (N := 1) hx hb hts hin2 tyX2 tyX2_ok hown (hts (.classLink RX0 9 RX2) (by decide +kernel)) (hts (.instantiable RX2 1) (by decide +kernel)) (hts (.initialized RX2) (by decide +kernel)) hK hP hD hS hA rfl (fun j hj => by match j, hj with | 0, _ => rfl | n + 1, h => exact absurd h (by omega)) (Nat.le_of_ble_eq_true rfl) (Nat.le_of_ble_eq_true rfl) dX0_init_61 (fun k H hP hD hS => ?_)
  have hP : va_P d vwCl [(q, .inr (0, [.ref f, .ref x, .ref v, .ref g, .null, .null, .int (nI (0)), .int (nI (0)), .int (nI (0)), .int (nI (0)), .int (nI (0))])), (f, .inr (2, [.ref fa])), (fa, .inl (cI, 300, .inl (fun _ => 0))), (x, .inr (2, [.ref xa])), (xa, .inl (cI, 300, .inl (fun _ => 0))), (v, .inr (2, [.ref va])), (va, .inl (cI, 1296, .inl (fun _ => 0))), (g, .inr (2, [.ref ga])), (ga, .inl (cI, 1296, .inl (fun _ => 0))), (k, .inr (2, [.null]))] H := hP
  have hD : va_D A [(q, .inr (0, [.ref f, .ref x, .ref v, .ref g, .null, .null, .int (nI (0)), .int (nI (0)), .int (nI (0)), .int (nI (0)), .int (nI (0))])), (f, .inr (2, [.ref fa])), (fa, .inl (cI, 300, .inl (fun _ => 0))), (x, .inr (2, [.ref xa])), (xa, .inl (cI, 300, .inl (fun _ => 0))), (v, .inr (2, [.ref va])), (va, .inl (cI, 1296, .inl (fun _ => 0))), (g, .inr (2, [.ref ga])), (ga, .inl (cI, 1296, .inl (fun _ => 0))), (k, .inr (2, [.null]))] := hD
  refine lv_dup hx hb dX0_init_64 rfl ?_
  refine lv_sipush (v := nI (1296)) hx hb dX0_init_65 (by decide) ?_
  refine n_nwI (As := [.int (nI (1296))]) (rest := [.ref k, .ref q]) (wr := [(q, .inr (0, [.ref f, .ref x, .ref v, .ref g, .null, .null, .int (nI (0)), .int (nI (0)), .int (nI (0)), .int (nI (0)), .int (nI (0))])), (f, .inr (2, [.ref fa])), (fa, .inl (cI, 300, .inl (fun _ => 0))), (x, .inr (2, [.ref xa])), (xa, .inl (cI, 300, .inl (fun _ => 0))), (v, .inr (2, [.ref va])), (va, .inl (cI, 1296, .inl (fun _ => 0))), (g, .inr (2, [.ref ga])), (ga, .inl (cI, 1296, .inl (fun _ => 0)))]) ⟨hx, hb, hml, hown, hts⟩ (c_X2_init l d cI k 1296 (by decide) (by decide)) (cwI 1 hts gX0_init_X2_init rfl rfl rfl (hts (.initialized RX2) (by decide +kernel)) (hts (.methodLink RX0 11 yX2_init) (by decide +kernel)) (hts (.instanceMethod yX2_init) (by decide +kernel)) rfl (by decide +kernel) ⟨Nat.le_of_ble_eq_true rfl, Nat.le_of_ble_eq_true rfl⟩) hP hD hS hA hK 9 [0, 1, 2, 3, 4, 5, 6, 7, 8] rfl rfl (by decide) (by decide) rfl hl.1 rfl (Nat.le_of_ble_eq_true rfl) dX0_init_68 ⟨Nat.le_of_ble_eq_true rfl, Nat.le_of_ble_eq_true rfl⟩ (fun ka H locs hP hD hS => ?_)
  have hP : va_P d vwCl [(q, .inr (0, [.ref f, .ref x, .ref v, .ref g, .null, .null, .int (nI (0)), .int (nI (0)), .int (nI (0)), .int (nI (0)), .int (nI (0))])), (f, .inr (2, [.ref fa])), (fa, .inl (cI, 300, .inl (fun _ => 0))), (x, .inr (2, [.ref xa])), (xa, .inl (cI, 300, .inl (fun _ => 0))), (v, .inr (2, [.ref va])), (va, .inl (cI, 1296, .inl (fun _ => 0))), (g, .inr (2, [.ref ga])), (ga, .inl (cI, 1296, .inl (fun _ => 0))), (k, .inr (2, [.ref ka])), (ka, .inl (cI, 1296, .inl (fun _ => 0)))] H := hP
  have hD : va_D A [(q, .inr (0, [.ref f, .ref x, .ref v, .ref g, .null, .null, .int (nI (0)), .int (nI (0)), .int (nI (0)), .int (nI (0)), .int (nI (0))])), (f, .inr (2, [.ref fa])), (fa, .inl (cI, 300, .inl (fun _ => 0))), (x, .inr (2, [.ref xa])), (xa, .inl (cI, 300, .inl (fun _ => 0))), (v, .inr (2, [.ref va])), (va, .inl (cI, 1296, .inl (fun _ => 0))), (g, .inr (2, [.ref ga])), (ga, .inl (cI, 1296, .inl (fun _ => 0))), (k, .inr (2, [.ref ka])), (ka, .inl (cI, 1296, .inl (fun _ => 0)))] := hD
  refine va_putF (D := d) (ci := 0) (v := .ref k) (ty := .object "Nudgelane$Row") (C := RX0) (T := TX0) (N := 11) hx hb hts hin0 tyX0 tyX0_ok nmX0 hown hK hP hD hS 0 rfl rfl 4 (by decide) hfl29 (fun _ h9 => h9) rfl hin rfl (by decide +kernel) rfl rfl (Nat.le_of_ble_eq_true rfl) dX0_init_71 (fun H locs hP hD hS => ?_)
  have hP : va_P d vwCl [(q, .inr (0, [.ref f, .ref x, .ref v, .ref g, .ref k, .null, .int (nI (0)), .int (nI (0)), .int (nI (0)), .int (nI (0)), .int (nI (0))])), (f, .inr (2, [.ref fa])), (fa, .inl (cI, 300, .inl (fun _ => 0))), (x, .inr (2, [.ref xa])), (xa, .inl (cI, 300, .inl (fun _ => 0))), (v, .inr (2, [.ref va])), (va, .inl (cI, 1296, .inl (fun _ => 0))), (g, .inr (2, [.ref ga])), (ga, .inl (cI, 1296, .inl (fun _ => 0))), (k, .inr (2, [.ref ka])), (ka, .inl (cI, 1296, .inl (fun _ => 0)))] H := hP
  have hD : va_D A [(q, .inr (0, [.ref f, .ref x, .ref v, .ref g, .ref k, .null, .int (nI (0)), .int (nI (0)), .int (nI (0)), .int (nI (0)), .int (nI (0))])), (f, .inr (2, [.ref fa])), (fa, .inl (cI, 300, .inl (fun _ => 0))), (x, .inr (2, [.ref xa])), (xa, .inl (cI, 300, .inl (fun _ => 0))), (v, .inr (2, [.ref va])), (va, .inl (cI, 1296, .inl (fun _ => 0))), (g, .inr (2, [.ref ga])), (ga, .inl (cI, 1296, .inl (fun _ => 0))), (k, .inr (2, [.ref ka])), (ka, .inl (cI, 1296, .inl (fun _ => 0)))] := hD
  refine lv_aload_n hx hb dX0_init_74 rfl (lv_at hl 0 rfl) ?_
  refine va_new (ci := 2) (fs := [.null]) (C := RX2) (T := TX2) (N := 1) hx hb hts hin2 tyX2 tyX2_ok hown (hts (.classLink RX0 9 RX2) (by decide +kernel)) (hts (.instantiable RX2 1) (by decide +kernel)) (hts (.initialized RX2) (by decide +kernel)) hK hP hD hS hA rfl (fun j hj => by match j, hj with | 0, _ => rfl | n + 1, h => exact absurd h (by omega)) (Nat.le_of_ble_eq_true rfl) (Nat.le_of_ble_eq_true rfl) dX0_init_75 (fun z H hP hD hS => ?_)
  have hP : va_P d vwCl [(q, .inr (0, [.ref f, .ref x, .ref v, .ref g, .ref k, .null, .int (nI (0)), .int (nI (0)), .int (nI (0)), .int (nI (0)), .int (nI (0))])), (f, .inr (2, [.ref fa])), (fa, .inl (cI, 300, .inl (fun _ => 0))), (x, .inr (2, [.ref xa])), (xa, .inl (cI, 300, .inl (fun _ => 0))), (v, .inr (2, [.ref va])), (va, .inl (cI, 1296, .inl (fun _ => 0))), (g, .inr (2, [.ref ga])), (ga, .inl (cI, 1296, .inl (fun _ => 0))), (k, .inr (2, [.ref ka])), (ka, .inl (cI, 1296, .inl (fun _ => 0))), (z, .inr (2, [.null]))] H := hP
  have hD : va_D A [(q, .inr (0, [.ref f, .ref x, .ref v, .ref g, .ref k, .null, .int (nI (0)), .int (nI (0)), .int (nI (0)), .int (nI (0)), .int (nI (0))])), (f, .inr (2, [.ref fa])), (fa, .inl (cI, 300, .inl (fun _ => 0))), (x, .inr (2, [.ref xa])), (xa, .inl (cI, 300, .inl (fun _ => 0))), (v, .inr (2, [.ref va])), (va, .inl (cI, 1296, .inl (fun _ => 0))), (g, .inr (2, [.ref ga])), (ga, .inl (cI, 1296, .inl (fun _ => 0))), (k, .inr (2, [.ref ka])), (ka, .inl (cI, 1296, .inl (fun _ => 0))), (z, .inr (2, [.null]))] := hD
  refine lv_dup hx hb dX0_init_78 rfl ?_
  refine lv_sipush (v := nI (360)) hx hb dX0_init_79 (by decide) ?_
  refine n_nwI (As := [.int (nI (360))]) (rest := [.ref z, .ref q]) (wr := [(q, .inr (0, [.ref f, .ref x, .ref v, .ref g, .ref k, .null, .int (nI (0)), .int (nI (0)), .int (nI (0)), .int (nI (0)), .int (nI (0))])), (f, .inr (2, [.ref fa])), (fa, .inl (cI, 300, .inl (fun _ => 0))), (x, .inr (2, [.ref xa])), (xa, .inl (cI, 300, .inl (fun _ => 0))), (v, .inr (2, [.ref va])), (va, .inl (cI, 1296, .inl (fun _ => 0))), (g, .inr (2, [.ref ga])), (ga, .inl (cI, 1296, .inl (fun _ => 0))), (k, .inr (2, [.ref ka])), (ka, .inl (cI, 1296, .inl (fun _ => 0)))]) ⟨hx, hb, hml, hown, hts⟩ (c_X2_init l d cI z 360 (by decide) (by decide)) (cwI 1 hts gX0_init_X2_init rfl rfl rfl (hts (.initialized RX2) (by decide +kernel)) (hts (.methodLink RX0 11 yX2_init) (by decide +kernel)) (hts (.instanceMethod yX2_init) (by decide +kernel)) rfl (by decide +kernel) ⟨Nat.le_of_ble_eq_true rfl, Nat.le_of_ble_eq_true rfl⟩) hP hD hS hA hK 11 [0, 1, 2, 3, 4, 5, 6, 7, 8, 9, 10] rfl rfl (by decide) (by decide) rfl hl.1 rfl (Nat.le_of_ble_eq_true rfl) dX0_init_82 ⟨Nat.le_of_ble_eq_true rfl, Nat.le_of_ble_eq_true rfl⟩ (fun za H locs hP hD hS => ?_)
  have hP : va_P d vwCl [(q, .inr (0, [.ref f, .ref x, .ref v, .ref g, .ref k, .null, .int (nI (0)), .int (nI (0)), .int (nI (0)), .int (nI (0)), .int (nI (0))])), (f, .inr (2, [.ref fa])), (fa, .inl (cI, 300, .inl (fun _ => 0))), (x, .inr (2, [.ref xa])), (xa, .inl (cI, 300, .inl (fun _ => 0))), (v, .inr (2, [.ref va])), (va, .inl (cI, 1296, .inl (fun _ => 0))), (g, .inr (2, [.ref ga])), (ga, .inl (cI, 1296, .inl (fun _ => 0))), (k, .inr (2, [.ref ka])), (ka, .inl (cI, 1296, .inl (fun _ => 0))), (z, .inr (2, [.ref za])), (za, .inl (cI, 360, .inl (fun _ => 0)))] H := hP
  have hD : va_D A [(q, .inr (0, [.ref f, .ref x, .ref v, .ref g, .ref k, .null, .int (nI (0)), .int (nI (0)), .int (nI (0)), .int (nI (0)), .int (nI (0))])), (f, .inr (2, [.ref fa])), (fa, .inl (cI, 300, .inl (fun _ => 0))), (x, .inr (2, [.ref xa])), (xa, .inl (cI, 300, .inl (fun _ => 0))), (v, .inr (2, [.ref va])), (va, .inl (cI, 1296, .inl (fun _ => 0))), (g, .inr (2, [.ref ga])), (ga, .inl (cI, 1296, .inl (fun _ => 0))), (k, .inr (2, [.ref ka])), (ka, .inl (cI, 1296, .inl (fun _ => 0))), (z, .inr (2, [.ref za])), (za, .inl (cI, 360, .inl (fun _ => 0)))] := hD
  refine va_putF (D := d) (ci := 0) (v := .ref z) (ty := .object "Nudgelane$Row") (C := RX0) (T := TX0) (N := 11) hx hb hts hin0 tyX0 tyX0_ok nmX0 hown hK hP hD hS 0 rfl rfl 5 (by decide) hfl32 (fun _ h9 => h9) rfl hin rfl (by decide +kernel) rfl rfl (Nat.le_of_ble_eq_true rfl) dX0_init_85 (fun H locs hP hD hS => ?_)
  have hP : va_P d vwCl [(q, .inr (0, [.ref f, .ref x, .ref v, .ref g, .ref k, .ref z, .int (nI (0)), .int (nI (0)), .int (nI (0)), .int (nI (0)), .int (nI (0))])), (f, .inr (2, [.ref fa])), (fa, .inl (cI, 300, .inl (fun _ => 0))), (x, .inr (2, [.ref xa])), (xa, .inl (cI, 300, .inl (fun _ => 0))), (v, .inr (2, [.ref va])), (va, .inl (cI, 1296, .inl (fun _ => 0))), (g, .inr (2, [.ref ga])), (ga, .inl (cI, 1296, .inl (fun _ => 0))), (k, .inr (2, [.ref ka])), (ka, .inl (cI, 1296, .inl (fun _ => 0))), (z, .inr (2, [.ref za])), (za, .inl (cI, 360, .inl (fun _ => 0)))] H := hP
  have hD : va_D A [(q, .inr (0, [.ref f, .ref x, .ref v, .ref g, .ref k, .ref z, .int (nI (0)), .int (nI (0)), .int (nI (0)), .int (nI (0)), .int (nI (0))])), (f, .inr (2, [.ref fa])), (fa, .inl (cI, 300, .inl (fun _ => 0))), (x, .inr (2, [.ref xa])), (xa, .inl (cI, 300, .inl (fun _ => 0))), (v, .inr (2, [.ref va])), (va, .inl (cI, 1296, .inl (fun _ => 0))), (g, .inr (2, [.ref ga])), (ga, .inl (cI, 1296, .inl (fun _ => 0))), (k, .inr (2, [.ref ka])), (ka, .inl (cI, 1296, .inl (fun _ => 0))), (z, .inr (2, [.ref za])), (za, .inl (cI, 360, .inl (fun _ => 0)))] := hD
  refine lv_aload_n hx hb dX0_init_88 rfl (lv_at hl 0 rfl) ?_
  refine lv_iconst (v := (-1)) hx hb dX0_init_89 (by decide) ?_
  refine va_put (D := d) (ci := 0) (v := .int (-1)) (ty := .int) (C := RX0) (T := TX0) (N := 11) hx hb hts hin0 tyX0 tyX0_ok nmX0 hown hK hP hD hS 0 rfl rfl 9 (by decide) hfl35 (fun _ h9 => h9) rfl (by decide +kernel) rfl rfl (Nat.le_of_ble_eq_true rfl) dX0_init_90 (fun H locs hP hD hS => ?_)
  have hP : va_P d vwCl [(q, .inr (0, [.ref f, .ref x, .ref v, .ref g, .ref k, .ref z, .int (nI (0)), .int (nI (0)), .int (nI (0)), .int (-1), .int (nI (0))])), (f, .inr (2, [.ref fa])), (fa, .inl (cI, 300, .inl (fun _ => 0))), (x, .inr (2, [.ref xa])), (xa, .inl (cI, 300, .inl (fun _ => 0))), (v, .inr (2, [.ref va])), (va, .inl (cI, 1296, .inl (fun _ => 0))), (g, .inr (2, [.ref ga])), (ga, .inl (cI, 1296, .inl (fun _ => 0))), (k, .inr (2, [.ref ka])), (ka, .inl (cI, 1296, .inl (fun _ => 0))), (z, .inr (2, [.ref za])), (za, .inl (cI, 360, .inl (fun _ => 0)))] H := hP
  have hD : va_D A [(q, .inr (0, [.ref f, .ref x, .ref v, .ref g, .ref k, .ref z, .int (nI (0)), .int (nI (0)), .int (nI (0)), .int (-1), .int (nI (0))])), (f, .inr (2, [.ref fa])), (fa, .inl (cI, 300, .inl (fun _ => 0))), (x, .inr (2, [.ref xa])), (xa, .inl (cI, 300, .inl (fun _ => 0))), (v, .inr (2, [.ref va])), (va, .inl (cI, 1296, .inl (fun _ => 0))), (g, .inr (2, [.ref ga])), (ga, .inl (cI, 1296, .inl (fun _ => 0))), (k, .inr (2, [.ref ka])), (ka, .inl (cI, 1296, .inl (fun _ => 0))), (z, .inr (2, [.ref za])), (za, .inl (cI, 360, .inl (fun _ => 0)))] := hD
  refine W.widen (k := 12) (n := 4854) (Nat.le_of_ble_eq_true rfl) (Nat.le_of_ble_eq_true rfl) ?_
  exact W.vret hx hb hr (fun t ht hW => ⟨⟨(f, fa, x, xa, v, va, g, ga, k, ka, z, za), rfl, by rw [ht]; exact hP.sub [0, 1, 2, 3, 4, 5, 6, 7, 8, 9, 10, 11, 12] rfl, hD.sub [0, 1, 2, 3, 4, 5, 6, 7, 8, 9, 10, 11, 12] (by decide) rfl⟩, hS.F ht⟩) hS.2.2 dX0_init_93

set_option maxHeartbeats 4000000 in
set_option maxRecDepth 100000 in
/-- the form of every code -/
theorem c_X1_init (l : Launch) (d : va_G) (cI : ClassId) (q : Nat)  : nNw (S := Nat × Nat) l yX1_init wsX1_init ({ frames := 4, cells := 4, slots := 1302, locals := 91 } : Room) d [(cI, .int)] q 1 [.null] [] 4 1302 (fun u => match u with | (f, fa) => [(q, .inr (1, [.ref f])), (f, .inr (2, [.ref fa])), (fa, .inl (cI, 1296, .inl (fun j => nI (form j))))]) := by
  intro sz
  refine Met.ofW (cc := cX1_init) (maxL := 3) (ret := none) (by decide) rfl ?_
  intro p e s m args below meth c s₁ B hml hv
  obtain ⟨rfl, hsz, hP, hK, hD0⟩ := hv
  have hx := B.exec
  have hb := B.bytes
  have hr := B.returns
  have hts := atoms_spec (ws := wsX1_init) B.pre
  have hown : s.vm.findClass RX1 = some m.cls := findClass_of_methodNamed B.named
  have hlocks := B.notSynchronized
  have hin : meth.name = "<init>" := (name_of_methodNamed B.named B.method).1
  have hfl14 := hts (.fieldLink RX1 14 "Nudgelane$Programs" "forms" "LNudgelane$Row;") (by decide +kernel)
  have hin1 : ∀ w ∈ u_ws RX1 TX1 1, w ∈ wsX1_init := by decide +kernel
  have hin2 : ∀ w ∈ u_ws RX2 TX2 1, w ∈ wsX1_init := by decide +kernel
  subst hsz
  have hD := hD0.self (sz := s.heap.size)
  generalize hAe : va_A [(q, .inr (1, [.null]))] s.heap.size = A at hD ⊢
  have hA : ∀ q : Nat, s.heap.size ≤ q → A q := fun q h => by rw [← hAe]; exact Or.inr h
  have hS : va_S A s.heap s.heap [] := va_S.rf
  have hP : va_P d vwCl [(q, .inr (1, [.null]))] s.heap := hP
  have hl := lv_entry ([.ref q]) (n := 3) (Nat.le_of_ble_eq_true rfl)
  rw [lg_entry_eq]
  generalize (lg_sl ([.ref q]) ++ List.replicate (3 - (lg_sl ([.ref q])).length) Slot.unset).toArray = ls at hl ⊢
  have hl : lv_has ls 3 [(0, .ref q)] := hl
  refine n_nameQ (fun Q hQ => ?_)
  refine lv_aload_n hx hb dX1_init_0 rfl (lv_at hl 0 rfl) ?_
  refine W.objInit hx hb hown (hts (.methodLink RX1 3 objectInit) (by decide +kernel)) (hts (.instanceMethod objectInit) (by decide +kernel)) (hts (.code objectInit ⟨#[0xb1]⟩ 1 none) (List.mem_of_getElem? (i := 3) rfl)) rfl (by rw [hml]; exact hl.1) rfl dX1_init_1 (Nat.le_of_ble_eq_true rfl) (Nat.le_of_ble_eq_true rfl) ?_
  refine W.eq (g2 := F0 m 4 ls []) rfl ?_
  refine lv_aload_n hx hb dX1_init_4 rfl (lv_at hl 0 rfl) ?_
  refine va_new (ci := 2) (fs := [.null]) (C := RX2) (T := TX2) (N := 1) hx hb hts hin2 tyX2 tyX2_ok hown (hts (.classLink RX1 9 RX2) (by decide +kernel)) (hts (.instantiable RX2 1) (by decide +kernel)) (hts (.initialized RX2) (by decide +kernel)) hK hP hD hS hA rfl (fun j hj => by match j, hj with | 0, _ => rfl | n + 1, h => exact absurd h (by omega)) (Nat.le_of_ble_eq_true rfl) (Nat.le_of_ble_eq_true rfl) dX1_init_5 (fun f H hP hD hS => ?_)
  have hP : va_P d vwCl [(q, .inr (1, [.null])), (f, .inr (2, [.null]))] H := hP
  have hD : va_D A [(q, .inr (1, [.null])), (f, .inr (2, [.null]))] := hD
  refine lv_dup hx hb dX1_init_8 rfl ?_
  refine lv_sipush (v := nI (1296)) hx hb dX1_init_9 (by decide) ?_
  refine n_nwI (As := [.int (nI (1296))]) (rest := [.ref f, .ref q]) (wr := [(q, .inr (1, [.null]))]) ⟨hx, hb, hml, hown, hts⟩ (c_X2_init l d cI f 1296 (by decide) (by decide)) (cwI 1 hts gX1_init_X2_init rfl rfl rfl (hts (.initialized RX2) (by decide +kernel)) (hts (.methodLink RX1 11 yX2_init) (by decide +kernel)) (hts (.instanceMethod yX2_init) (by decide +kernel)) rfl (by decide +kernel) ⟨Nat.le_of_ble_eq_true rfl, Nat.le_of_ble_eq_true rfl⟩) hP hD hS hA hK 1 [0] rfl rfl (by decide) (by decide) rfl hl.1 rfl (Nat.le_of_ble_eq_true rfl) dX1_init_12 ⟨Nat.le_of_ble_eq_true rfl, Nat.le_of_ble_eq_true rfl⟩ (fun fa H locs hP hD hS => ?_)
  have hP : va_P d vwCl [(q, .inr (1, [.null])), (f, .inr (2, [.ref fa])), (fa, .inl (cI, 1296, .inl (fun _ => 0)))] H := hP
  have hD : va_D A [(q, .inr (1, [.null])), (f, .inr (2, [.ref fa])), (fa, .inl (cI, 1296, .inl (fun _ => 0)))] := hD
  refine va_putF (D := d) (ci := 1) (v := .ref f) (ty := .object "Nudgelane$Row") (C := RX1) (T := TX1) (N := 1) hx hb hts hin1 tyX1 tyX1_ok nmX1 hown hK hP hD hS 0 rfl rfl 0 (by decide) hfl14 (fun _ h9 => h9) rfl hin rfl (by decide +kernel) rfl rfl (Nat.le_of_ble_eq_true rfl) dX1_init_15 (fun H locs hP hD hS => ?_)
  have hP : va_P d vwCl [(q, .inr (1, [.ref f])), (f, .inr (2, [.ref fa])), (fa, .inl (cI, 1296, .inl (fun _ => 0)))] H := hP
  have hD : va_D A [(q, .inr (1, [.ref f])), (f, .inr (2, [.ref fa])), (fa, .inl (cI, 1296, .inl (fun _ => 0)))] := hD
  refine va_new (ci := 2) (fs := [.null]) (C := RX2) (T := TX2) (N := 1) hx hb hts hin2 tyX2 tyX2_ok hown (hts (.classLink RX1 9 RX2) (by decide +kernel)) (hts (.instantiable RX2 1) (by decide +kernel)) (hts (.initialized RX2) (by decide +kernel)) hK hP hD hS hA rfl (fun j hj => by match j, hj with | 0, _ => rfl | n + 1, h => exact absurd h (by omega)) (Nat.le_of_ble_eq_true rfl) (Nat.le_of_ble_eq_true rfl) dX1_init_18 (fun g H hP hD hS => ?_)
  have hP : va_P d vwCl [(q, .inr (1, [.ref f])), (f, .inr (2, [.ref fa])), (fa, .inl (cI, 1296, .inl (fun _ => 0))), (g, .inr (2, [.null]))] H := hP
  have hD : va_D A [(q, .inr (1, [.ref f])), (f, .inr (2, [.ref fa])), (fa, .inl (cI, 1296, .inl (fun _ => 0))), (g, .inr (2, [.null]))] := hD
  refine lv_dup hx hb dX1_init_21 rfl ?_
  refine lv_iconst (v := nI (4)) hx hb dX1_init_22 (by decide) ?_
  refine n_nwI (As := [.int (nI (4))]) (rest := [.ref g]) (wr := [(q, .inr (1, [.ref f])), (f, .inr (2, [.ref fa])), (fa, .inl (cI, 1296, .inl (fun _ => 0)))]) ⟨hx, hb, hml, hown, hts⟩ (c_X2_init l d cI g 4 (by decide) (by decide)) (cwI 1 hts gX1_init_X2_init rfl rfl rfl (hts (.initialized RX2) (by decide +kernel)) (hts (.methodLink RX1 11 yX2_init) (by decide +kernel)) (hts (.instanceMethod yX2_init) (by decide +kernel)) rfl (by decide +kernel) ⟨Nat.le_of_ble_eq_true rfl, Nat.le_of_ble_eq_true rfl⟩) hP hD hS hA hK 3 [0, 1, 2] rfl rfl (by decide) (by decide) rfl hl.1 rfl (Nat.le_of_ble_eq_true rfl) dX1_init_23 ⟨Nat.le_of_ble_eq_true rfl, Nat.le_of_ble_eq_true rfl⟩ (fun ga H locs hP hD hS => ?_)
  have hP : va_P d vwCl [(q, .inr (1, [.ref f])), (f, .inr (2, [.ref fa])), (fa, .inl (cI, 1296, .inl (fun _ => 0))), (g, .inr (2, [.ref ga])), (ga, .inl (cI, 4, .inl (fun _ => 0)))] H := hP
  have hD : va_D A [(q, .inr (1, [.ref f])), (f, .inr (2, [.ref fa])), (fa, .inl (cI, 1296, .inl (fun _ => 0))), (g, .inr (2, [.ref ga])), (ga, .inl (cI, 4, .inl (fun _ => 0)))] := hD
  refine lv_astore_n (lv' := [(1, .ref g), (0, .ref q)]) hx hb dX1_init_26 rfl hl (by decide) rfl (fun ls hl => ?_)
  refine lv_iconst (v := nI (0)) hx hb dX1_init_27 (by decide) ?_
  refine lv_istore_n (lv' := [(2, .int (nI (0))), (1, .ref g), (0, .ref q)]) hx hb dX1_init_28 rfl hl (by decide) rfl (fun ls hl => ?_)
  refine W.widen (k := 4) (n := 1302) (Nat.le_of_ble_eq_true rfl) (Nat.le_of_ble_eq_true rfl) ?_
  have loop : ∀ (n k : Nat) (g1 h1 : Nat → Int32), k + n = 1296 → (∀ j, j < k → g1 j = nI (form j)) → ∀ (H : Heap) (locs : List Loc), va_P d vwCl [(q, .inr (1, [.ref f])), (f, .inr (2, [.ref fa])), (fa, .inl (cI, 1296, .inl (g1))), (g, .inr (2, [.ref ga])), (ga, .inl (cI, 4, .inl (h1)))] H → va_D A [(q, .inr (1, [.ref f])), (f, .inr (2, [.ref fa])), (fa, .inl (cI, 1296, .inl (g1))), (g, .inr (2, [.ref ga])), (ga, .inl (cI, 4, .inl (h1)))] → va_S A s.heap H locs → ∀ (ls : Array Slot), lv_has ls 3 [(2, .int (nI (k))), (1, .ref g), (0, .ref q)] → W p l e ({ frames := 4, cells := 4, slots := 1302, locals := 91 } : Room) s m ([.ref q] : List Value).toArray below meth c H locs 4 1302 Q (F0 m 29 ls []) := by
    intro n
    induction n with
    | zero =>
      intro k g1 h1 hk hg H locs hP hD hS ls hl
      refine lv_iload_n hx hb dX1_init_29 rfl (lv_at hl 0 rfl) ?_
      refine lv_sipush (v := nI (1296)) hx hb dX1_init_30 (by decide) ?_
      refine n_icmp_ge (tgt := 55) hx hb dX1_init_33 (by decide) (by omega) (by omega) (fun c_1 => ?_) (fun c_1 => ?_)
      ·
        obtain ⟨hP, hD⟩ := n_cg (ws' := [(q, .inr (1, [.ref f])), (f, .inr (2, [.ref fa])), (fa, .inl (cI, 1296, .inl (fun j => nI (form j)))), (g, .inr (2, [.ref ga])), (ga, .inl (cI, 4, .inl (h1)))]) hP hD 2 rfl (by intro j hj; exact hg j (by omega)) rfl
        subst hQ
        refine W.widen (k := 4) (n := 1302) (Nat.le_refl _) (Nat.le_refl _) ?_
        exact W.vret hx hb hr (fun t ht hW => ⟨⟨(f, fa), rfl, by rw [ht]; exact hP.sub [0, 1, 2] rfl, hD.sub [0, 1, 2] (by decide) rfl⟩, hS.F ht⟩) hS.2.2 dX1_init_55
      · exact False.elim (by omega)
    | succ n ih =>
      intro k g1 h1 hk hg H locs hP hD hS ls hl
      refine lv_iload_n hx hb dX1_init_29 rfl (lv_at hl 0 rfl) ?_
      refine lv_sipush (v := nI (1296)) hx hb dX1_init_30 (by decide) ?_
      refine n_icmp_ge (tgt := 55) hx hb dX1_init_33 (by decide) (by omega) (by omega) (fun c_2 => ?_) (fun c_2 => ?_)
      · exact False.elim (by omega)
      ·
        refine lv_aload_n hx hb dX1_init_36 rfl (lv_at hl 2 rfl) ?_
        refine va_get (D := d) (ci := 1) (v := .ref f) (C := RX1) (T := TX1) (N := 1) hx hb hts hin1 hown hK hP 0 rfl rfl 0 (by decide) hfl14 (fun _ h9 => h9) rfl dX1_init_37 ?_
        refine lv_iload_n hx hb dX1_init_40 rfl (lv_at hl 0 rfl) ?_
        refine lv_iload_n hx hb dX1_init_41 rfl (lv_at hl 0 rfl) ?_
        refine lv_aload_n hx hb dX1_init_42 rfl (lv_at hl 1 rfl) ?_
        refine n_upS (As := [.int (nI (k)), .ref g]) (rest := [.int (nI (k)), .ref f]) (WC := [(g, .inr (2, [.ref ga])), (ga, .inl (cI, 4, .inl (h1)))]) (WC' := [(g, .inr (2, [.ref ga])), (ga, .inl (cI, 4, .inl (fun j => nI (dig (form k) j))))]) (wr := [(q, .inr (1, [.ref f])), (f, .inr (2, [.ref fa])), (fa, .inl (cI, 1296, .inl (g1)))]) (WS' := [(q, .inr (1, [.ref f])), (f, .inr (2, [.ref fa])), (fa, .inl (cI, 1296, .inl (g1))), (g, .inr (2, [.ref ga])), (ga, .inl (cI, 4, .inl (fun j => nI (dig (form k) j))))]) ⟨hx, hb, hml, hown, hts⟩ (c_X1_reduce l d cI g ga k h1 (by omega)) (cwS 2 hts gX1_init_X1_reduce rfl rfl rfl (by decide +kernel) ⟨Nat.le_of_ble_eq_true rfl, Nat.le_of_ble_eq_true rfl⟩) hP hD hS hA (hK) [3, 4] [0, 1, 2] [0, 1, 2, 3, 4] rfl rfl (by decide) ⟨by decide, by decide⟩ (by decide) rfl rfl hl.1 rfl (Nat.le_of_ble_eq_true rfl) dX1_init_43 ⟨Nat.le_of_ble_eq_true rfl, Nat.le_of_ble_eq_true rfl⟩ (fun H locs hP hD hS => ?_)
        show W _ _ _ _ _ _ _ _ _ _ _ _ _ _ _ (F0 m _ ls (.int (nI (form k)) :: [.int (nI (k)), .ref f]))
        refine n_upV (As := [.int (nI (k)), .int (nI (form k))]) (rest := []) (WC := [(f, .inr (2, [.ref fa])), (fa, .inl (cI, 1296, .inl (g1)))]) (WC' := [(f, .inr (2, [.ref fa])), (fa, .inl (cI, 1296, .inl (upd g1 k (nI (form k)))))]) (wr := [(q, .inr (1, [.ref f])), (g, .inr (2, [.ref ga])), (ga, .inl (cI, 4, .inl (fun j => nI (dig (form k) j))))]) (WS' := [(q, .inr (1, [.ref f])), (f, .inr (2, [.ref fa])), (fa, .inl (cI, 1296, .inl (upd g1 k (nI (form k))))), (g, .inr (2, [.ref ga])), (ga, .inl (cI, 4, .inl (fun j => nI (dig (form k) j))))]) ⟨hx, hb, hml, hown, hts⟩ (c_X2_set l d cI f fa 1296 g1 k (nI (form k)) (by omega) (by decide)) (cwV 2 hts gX1_init_X2_set rfl rfl rfl (by decide +kernel) ⟨Nat.le_of_ble_eq_true rfl, Nat.le_of_ble_eq_true rfl⟩) (va_recv hK hP (ci := 2) (q0 := 1) rfl rfl) hP hD hS hA (hK) [1, 2] [0, 3, 4] [0, 3, 4, 1, 2] rfl rfl (by decide) ⟨by decide, by decide⟩ (by decide) rfl rfl hl.1 rfl (Nat.le_of_ble_eq_true rfl) dX1_init_46 ⟨Nat.le_of_ble_eq_true rfl, Nat.le_of_ble_eq_true rfl⟩ (fun H locs hP hD hS => ?_)
        show W _ _ _ _ _ _ _ _ _ _ _ _ _ _ _ (F0 m _ ls [])
        refine lv_iinc (v := nI (k + 1)) (lv' := [(2, .int (nI (k + 1))), (1, .ref g), (0, .ref q)]) hx hb dX1_init_49 hl (k := 0) rfl (n_inc1 _) (by decide) rfl (fun ls hl => ?_)
        refine lv_goto (tgt := 29) hx hb dX1_init_52 (by decide) ?_
        exact ih (k + 1) _ _ (by omega) (fun j hj => by unfold upd; by_cases h : j = k <;> simp [h]; exact hg j (by omega)) H locs hP hD hS ls (lv_sub hl [0, 1, 2] rfl)
  exact loop 1296 0 _ _ rfl (fun j hj => absurd hj (Nat.not_lt_zero j)) H locs (hP.sub [0, 1, 2, 3, 4] rfl) (hD.sub [0, 1, 2, 3, 4] (by decide) rfl) hS ls (lv_sub hl [0, 1, 2] rfl)

set_option maxHeartbeats 4000000 in
set_option maxRecDepth 100000 in
/-- a new object -/
theorem c_X5_init (l : Launch) (d : va_G) (cI : ClassId) (q : Nat)  : nNw (S := Nat × Nat × Nat × Nat × (Nat × Nat) × (Nat × Nat × Nat × Nat) × (Nat × Nat × Nat × Nat × Nat × Nat × Nat × Nat × Nat × Nat × Nat × Nat) × (Nat × Nat × Nat × Nat)) l yX5_init wsX5_init ({ frames := 5, cells := 28, slots := 11360, locals := 113 } : Room) d [(cI, .int)] q 5 [.null, .null, .null, .null] [] 28 11360 (fun u => match u with | (p1, w1, a1, z1, (p1f, p1fa), (w1k, w1ka, w1g, w1ga), (a1f, a1fa, a1x, a1xa, a1v, a1va, a1g, a1ga, a1k, a1ka, a1z, a1za), (z1k, z1ka, z1g, z1ga)) => [(q, .inr (5, [.ref p1, .ref w1, .ref a1, .ref z1])), (p1, .inr (1, [.ref p1f])), (p1f, .inr (2, [.ref p1fa])), (p1fa, .inl (cI, 1296, .inl (fun j => nI (form j)))), (w1, .inr (3, [.ref w1k, .ref w1g])), (w1k, .inr (2, [.ref w1ka])), (w1ka, .inl (cI, 1296, .inl (fun _ => 0))), (w1g, .inr (2, [.ref w1ga])), (w1ga, .inl (cI, 1296, .inl (fun _ => 0))), (a1, .inr (0, [.ref a1f, .ref a1x, .ref a1v, .ref a1g, .ref a1k, .ref a1z, .int (nI (0)), .int (nI (0)), .int (nI (0)), .int (-1), .int (nI (0))])), (a1f, .inr (2, [.ref a1fa])), (a1fa, .inl (cI, 300, .inl (fun _ => 0))), (a1x, .inr (2, [.ref a1xa])), (a1xa, .inl (cI, 300, .inl (fun _ => 0))), (a1v, .inr (2, [.ref a1va])), (a1va, .inl (cI, 1296, .inl (fun _ => 0))), (a1g, .inr (2, [.ref a1ga])), (a1ga, .inl (cI, 1296, .inl (fun _ => 0))), (a1k, .inr (2, [.ref a1ka])), (a1ka, .inl (cI, 1296, .inl (fun _ => 0))), (a1z, .inr (2, [.ref a1za])), (a1za, .inl (cI, 360, .inl (fun _ => 0))), (z1, .inr (4, [.ref z1k, .ref z1g])), (z1k, .inr (2, [.ref z1ka])), (z1ka, .inl (cI, 1296, .inl (fun _ => 0))), (z1g, .inr (2, [.ref z1ga])), (z1ga, .inl (cI, 1296, .inl (fun _ => 0)))]) := by
  intro sz
  refine Met.ofW (cc := cX5_init) (maxL := 1) (ret := none) (by decide) rfl ?_
  intro p e s m args below meth c s₁ B hml hv
  obtain ⟨rfl, hsz, hP, hK, hD0⟩ := hv
  have hx := B.exec
  have hb := B.bytes
  have hr := B.returns
  have hts := atoms_spec (ws := wsX5_init) B.pre
  have hown : s.vm.findClass RX5 = some m.cls := findClass_of_methodNamed B.named
  have hlocks := B.notSynchronized
  have hin : meth.name = "<init>" := (name_of_methodNamed B.named B.method).1
  have hfl10 := hts (.fieldLink RX5 10 "Nudgelane" "programs" "LNudgelane$Programs;") (by decide +kernel)
  have hfl19 := hts (.fieldLink RX5 19 "Nudgelane" "ways" "LNudgelane$Ways;") (by decide +kernel)
  have hfl26 := hts (.fieldLink RX5 26 "Nudgelane" "attempts" "LNudgelane$Attempts;") (by decide +kernel)
  have hfl33 := hts (.fieldLink RX5 33 "Nudgelane" "worths" "LNudgelane$Worths;") (by decide +kernel)
  have hin0 : ∀ w ∈ u_ws RX0 TX0 11, w ∈ wsX5_init := by decide +kernel
  have hin1 : ∀ w ∈ u_ws RX1 TX1 1, w ∈ wsX5_init := by decide +kernel
  have hin3 : ∀ w ∈ u_ws RX3 TX3 2, w ∈ wsX5_init := by decide +kernel
  have hin4 : ∀ w ∈ u_ws RX4 TX4 2, w ∈ wsX5_init := by decide +kernel
  have hin5 : ∀ w ∈ u_ws RX5 TX5 4, w ∈ wsX5_init := by decide +kernel
  subst hsz
  have hD := hD0.self (sz := s.heap.size)
  generalize hAe : va_A [(q, .inr (5, [.null, .null, .null, .null]))] s.heap.size = A at hD ⊢
  have hA : ∀ q : Nat, s.heap.size ≤ q → A q := fun q h => by rw [← hAe]; exact Or.inr h
  have hS : va_S A s.heap s.heap [] := va_S.rf
  have hP : va_P d vwCl [(q, .inr (5, [.null, .null, .null, .null]))] s.heap := hP
  have hl := lv_entry ([.ref q]) (n := 1) (Nat.le_of_ble_eq_true rfl)
  rw [lg_entry_eq]
  generalize (lg_sl ([.ref q]) ++ List.replicate (1 - (lg_sl ([.ref q])).length) Slot.unset).toArray = ls at hl ⊢
  have hl : lv_has ls 1 [(0, .ref q)] := hl
  refine lv_aload_n hx hb dX5_init_0 rfl (lv_at hl 0 rfl) ?_
  refine W.objInit hx hb hown (hts (.methodLink RX5 1 objectInit) (by decide +kernel)) (hts (.instanceMethod objectInit) (by decide +kernel)) (hts (.code objectInit ⟨#[0xb1]⟩ 1 none) (List.mem_of_getElem? (i := 3) rfl)) rfl (by rw [hml]; exact hl.1) rfl dX5_init_1 (Nat.le_of_ble_eq_true rfl) (Nat.le_of_ble_eq_true rfl) ?_
  refine W.eq (g2 := F0 m 4 ls []) rfl ?_
  refine lv_aload_n hx hb dX5_init_4 rfl (lv_at hl 0 rfl) ?_
  refine va_new (ci := 1) (fs := [.null]) (C := RX1) (T := TX1) (N := 1) hx hb hts hin1 tyX1 tyX1_ok hown (hts (.classLink RX5 7 RX1) (by decide +kernel)) (hts (.instantiable RX1 1) (by decide +kernel)) (hts (.initialized RX1) (by decide +kernel)) hK hP hD hS hA rfl (fun j hj => by match j, hj with | 0, _ => rfl | n + 1, h => exact absurd h (by omega)) (Nat.le_of_ble_eq_true rfl) (Nat.le_of_ble_eq_true rfl) dX5_init_5 (fun p1 H hP hD hS => ?_)
  have hP : va_P d vwCl [(q, .inr (5, [.null, .null, .null, .null])), (p1, .inr (1, [.null]))] H := hP
  have hD : va_D A [(q, .inr (5, [.null, .null, .null, .null])), (p1, .inr (1, [.null]))] := hD
  refine lv_dup hx hb dX5_init_8 rfl ?_
  refine n_nwI (As := []) (rest := [.ref p1, .ref q]) (wr := [(q, .inr (5, [.null, .null, .null, .null]))]) ⟨hx, hb, hml, hown, hts⟩ (c_X1_init l d cI p1) (cwI 0 hts gX5_init_X1_init rfl rfl rfl (hts (.initialized RX1) (by decide +kernel)) (hts (.methodLink RX5 9 yX1_init) (by decide +kernel)) (hts (.instanceMethod yX1_init) (by decide +kernel)) rfl (by decide +kernel) ⟨Nat.le_of_ble_eq_true rfl, Nat.le_of_ble_eq_true rfl⟩) hP hD hS hA hK 1 [0] rfl rfl (by decide) (by decide) rfl hl.1 rfl (Nat.le_of_ble_eq_true rfl) dX5_init_9 ⟨Nat.le_of_ble_eq_true rfl, Nat.le_of_ble_eq_true rfl⟩ (fun u H locs hP hD hS => ?_)
  obtain ⟨p1f, p1fa⟩ := u
  have hP : va_P d vwCl [(q, .inr (5, [.null, .null, .null, .null])), (p1, .inr (1, [.ref p1f])), (p1f, .inr (2, [.ref p1fa])), (p1fa, .inl (cI, 1296, .inl (fun j => nI (form j))))] H := hP
  have hD : va_D A [(q, .inr (5, [.null, .null, .null, .null])), (p1, .inr (1, [.ref p1f])), (p1f, .inr (2, [.ref p1fa])), (p1fa, .inl (cI, 1296, .inl (fun j => nI (form j))))] := hD
  refine va_putF (D := d) (ci := 5) (v := .ref p1) (ty := .object "Nudgelane$Programs") (C := RX5) (T := TX5) (N := 4) hx hb hts hin5 tyX5 tyX5_ok nmX5 hown hK hP hD hS 0 rfl rfl 0 (by decide) hfl10 (fun _ h9 => h9) rfl hin rfl (by decide +kernel) rfl rfl (Nat.le_of_ble_eq_true rfl) dX5_init_12 (fun H locs hP hD hS => ?_)
  have hP : va_P d vwCl [(q, .inr (5, [.ref p1, .null, .null, .null])), (p1, .inr (1, [.ref p1f])), (p1f, .inr (2, [.ref p1fa])), (p1fa, .inl (cI, 1296, .inl (fun j => nI (form j))))] H := hP
  have hD : va_D A [(q, .inr (5, [.ref p1, .null, .null, .null])), (p1, .inr (1, [.ref p1f])), (p1f, .inr (2, [.ref p1fa])), (p1fa, .inl (cI, 1296, .inl (fun j => nI (form j))))] := hD
  refine lv_aload_n hx hb dX5_init_15 rfl (lv_at hl 0 rfl) ?_
  refine va_new (ci := 3) (fs := [.null, .null]) (C := RX3) (T := TX3) (N := 2) hx hb hts hin3 tyX3 tyX3_ok hown (hts (.classLink RX5 16 RX3) (by decide +kernel)) (hts (.instantiable RX3 2) (by decide +kernel)) (hts (.initialized RX3) (by decide +kernel)) hK hP hD hS hA rfl (fun j hj => by match j, hj with | 0, _ => rfl | 1, _ => rfl | n + 2, h => exact absurd h (by omega)) (Nat.le_of_ble_eq_true rfl) (Nat.le_of_ble_eq_true rfl) dX5_init_16 (fun w1 H hP hD hS => ?_)
  have hP : va_P d vwCl [(q, .inr (5, [.ref p1, .null, .null, .null])), (p1, .inr (1, [.ref p1f])), (p1f, .inr (2, [.ref p1fa])), (p1fa, .inl (cI, 1296, .inl (fun j => nI (form j)))), (w1, .inr (3, [.null, .null]))] H := hP
  have hD : va_D A [(q, .inr (5, [.ref p1, .null, .null, .null])), (p1, .inr (1, [.ref p1f])), (p1f, .inr (2, [.ref p1fa])), (p1fa, .inl (cI, 1296, .inl (fun j => nI (form j)))), (w1, .inr (3, [.null, .null]))] := hD
  refine lv_dup hx hb dX5_init_19 rfl ?_
  refine n_nwI (As := []) (rest := [.ref w1, .ref q]) (wr := [(q, .inr (5, [.ref p1, .null, .null, .null])), (p1, .inr (1, [.ref p1f])), (p1f, .inr (2, [.ref p1fa])), (p1fa, .inl (cI, 1296, .inl (fun j => nI (form j))))]) ⟨hx, hb, hml, hown, hts⟩ (c_X3_init l d cI w1) (cwI 0 hts gX5_init_X3_init rfl rfl rfl (hts (.initialized RX3) (by decide +kernel)) (hts (.methodLink RX5 18 yX3_init) (by decide +kernel)) (hts (.instanceMethod yX3_init) (by decide +kernel)) rfl (by decide +kernel) ⟨Nat.le_of_ble_eq_true rfl, Nat.le_of_ble_eq_true rfl⟩) hP hD hS hA hK 4 [0, 1, 2, 3] rfl rfl (by decide) (by decide) rfl hl.1 rfl (Nat.le_of_ble_eq_true rfl) dX5_init_20 ⟨Nat.le_of_ble_eq_true rfl, Nat.le_of_ble_eq_true rfl⟩ (fun u H locs hP hD hS => ?_)
  obtain ⟨w1k, w1ka, w1g, w1ga⟩ := u
  have hP : va_P d vwCl [(q, .inr (5, [.ref p1, .null, .null, .null])), (p1, .inr (1, [.ref p1f])), (p1f, .inr (2, [.ref p1fa])), (p1fa, .inl (cI, 1296, .inl (fun j => nI (form j)))), (w1, .inr (3, [.ref w1k, .ref w1g])), (w1k, .inr (2, [.ref w1ka])), (w1ka, .inl (cI, 1296, .inl (fun _ => 0))), (w1g, .inr (2, [.ref w1ga])), (w1ga, .inl (cI, 1296, .inl (fun _ => 0)))] H := hP
  have hD : va_D A [(q, .inr (5, [.ref p1, .null, .null, .null])), (p1, .inr (1, [.ref p1f])), (p1f, .inr (2, [.ref p1fa])), (p1fa, .inl (cI, 1296, .inl (fun j => nI (form j)))), (w1, .inr (3, [.ref w1k, .ref w1g])), (w1k, .inr (2, [.ref w1ka])), (w1ka, .inl (cI, 1296, .inl (fun _ => 0))), (w1g, .inr (2, [.ref w1ga])), (w1ga, .inl (cI, 1296, .inl (fun _ => 0)))] := hD
  refine va_putF (D := d) (ci := 5) (v := .ref w1) (ty := .object "Nudgelane$Ways") (C := RX5) (T := TX5) (N := 4) hx hb hts hin5 tyX5 tyX5_ok nmX5 hown hK hP hD hS 0 rfl rfl 1 (by decide) hfl19 (fun _ h9 => h9) rfl hin rfl (by decide +kernel) rfl rfl (Nat.le_of_ble_eq_true rfl) dX5_init_23 (fun H locs hP hD hS => ?_)
  have hP : va_P d vwCl [(q, .inr (5, [.ref p1, .ref w1, .null, .null])), (p1, .inr (1, [.ref p1f])), (p1f, .inr (2, [.ref p1fa])), (p1fa, .inl (cI, 1296, .inl (fun j => nI (form j)))), (w1, .inr (3, [.ref w1k, .ref w1g])), (w1k, .inr (2, [.ref w1ka])), (w1ka, .inl (cI, 1296, .inl (fun _ => 0))), (w1g, .inr (2, [.ref w1ga])), (w1ga, .inl (cI, 1296, .inl (fun _ => 0)))] H := hP
  have hD : va_D A [(q, .inr (5, [.ref p1, .ref w1, .null, .null])), (p1, .inr (1, [.ref p1f])), (p1f, .inr (2, [.ref p1fa])), (p1fa, .inl (cI, 1296, .inl (fun j => nI (form j)))), (w1, .inr (3, [.ref w1k, .ref w1g])), (w1k, .inr (2, [.ref w1ka])), (w1ka, .inl (cI, 1296, .inl (fun _ => 0))), (w1g, .inr (2, [.ref w1ga])), (w1ga, .inl (cI, 1296, .inl (fun _ => 0)))] := hD
  refine lv_aload_n hx hb dX5_init_26 rfl (lv_at hl 0 rfl) ?_
  refine va_new (ci := 0) (fs := [.null, .null, .null, .null, .null, .null, .int (nI (0)), .int (nI (0)), .int (nI (0)), .int (nI (0)), .int (nI (0))]) (C := RX0) (T := TX0) (N := 11) hx hb hts hin0 tyX0 tyX0_ok hown (hts (.classLink RX5 23 RX0) (by decide +kernel)) (hts (.instantiable RX0 11) (by decide +kernel)) (hts (.initialized RX0) (by decide +kernel)) hK hP hD hS hA rfl (fun j hj => by match j, hj with | 0, _ => rfl | 1, _ => rfl | 2, _ => rfl | 3, _ => rfl | 4, _ => rfl | 5, _ => rfl | 6, _ => rfl | 7, _ => rfl | 8, _ => rfl | 9, _ => rfl | 10, _ => rfl | n + 11, h => exact absurd h (by omega)) (Nat.le_of_ble_eq_true rfl) (Nat.le_of_ble_eq_true rfl) dX5_init_27 (fun a1 H hP hD hS => ?_)
  have hP : va_P d vwCl [(q, .inr (5, [.ref p1, .ref w1, .null, .null])), (p1, .inr (1, [.ref p1f])), (p1f, .inr (2, [.ref p1fa])), (p1fa, .inl (cI, 1296, .inl (fun j => nI (form j)))), (w1, .inr (3, [.ref w1k, .ref w1g])), (w1k, .inr (2, [.ref w1ka])), (w1ka, .inl (cI, 1296, .inl (fun _ => 0))), (w1g, .inr (2, [.ref w1ga])), (w1ga, .inl (cI, 1296, .inl (fun _ => 0))), (a1, .inr (0, [.null, .null, .null, .null, .null, .null, .int (nI (0)), .int (nI (0)), .int (nI (0)), .int (nI (0)), .int (nI (0))]))] H := hP
  have hD : va_D A [(q, .inr (5, [.ref p1, .ref w1, .null, .null])), (p1, .inr (1, [.ref p1f])), (p1f, .inr (2, [.ref p1fa])), (p1fa, .inl (cI, 1296, .inl (fun j => nI (form j)))), (w1, .inr (3, [.ref w1k, .ref w1g])), (w1k, .inr (2, [.ref w1ka])), (w1ka, .inl (cI, 1296, .inl (fun _ => 0))), (w1g, .inr (2, [.ref w1ga])), (w1ga, .inl (cI, 1296, .inl (fun _ => 0))), (a1, .inr (0, [.null, .null, .null, .null, .null, .null, .int (nI (0)), .int (nI (0)), .int (nI (0)), .int (nI (0)), .int (nI (0))]))] := hD
  refine lv_dup hx hb dX5_init_30 rfl ?_
  refine n_nwI (As := []) (rest := [.ref a1, .ref q]) (wr := [(q, .inr (5, [.ref p1, .ref w1, .null, .null])), (p1, .inr (1, [.ref p1f])), (p1f, .inr (2, [.ref p1fa])), (p1fa, .inl (cI, 1296, .inl (fun j => nI (form j)))), (w1, .inr (3, [.ref w1k, .ref w1g])), (w1k, .inr (2, [.ref w1ka])), (w1ka, .inl (cI, 1296, .inl (fun _ => 0))), (w1g, .inr (2, [.ref w1ga])), (w1ga, .inl (cI, 1296, .inl (fun _ => 0)))]) ⟨hx, hb, hml, hown, hts⟩ (c_X0_init l d cI a1) (cwI 0 hts gX5_init_X0_init rfl rfl rfl (hts (.initialized RX0) (by decide +kernel)) (hts (.methodLink RX5 25 yX0_init) (by decide +kernel)) (hts (.instanceMethod yX0_init) (by decide +kernel)) rfl (by decide +kernel) ⟨Nat.le_of_ble_eq_true rfl, Nat.le_of_ble_eq_true rfl⟩) hP hD hS hA hK 9 [0, 1, 2, 3, 4, 5, 6, 7, 8] rfl rfl (by decide) (by decide) rfl hl.1 rfl (Nat.le_of_ble_eq_true rfl) dX5_init_31 ⟨Nat.le_of_ble_eq_true rfl, Nat.le_of_ble_eq_true rfl⟩ (fun u H locs hP hD hS => ?_)
  obtain ⟨a1f, a1fa, a1x, a1xa, a1v, a1va, a1g, a1ga, a1k, a1ka, a1z, a1za⟩ := u
  have hP : va_P d vwCl [(q, .inr (5, [.ref p1, .ref w1, .null, .null])), (p1, .inr (1, [.ref p1f])), (p1f, .inr (2, [.ref p1fa])), (p1fa, .inl (cI, 1296, .inl (fun j => nI (form j)))), (w1, .inr (3, [.ref w1k, .ref w1g])), (w1k, .inr (2, [.ref w1ka])), (w1ka, .inl (cI, 1296, .inl (fun _ => 0))), (w1g, .inr (2, [.ref w1ga])), (w1ga, .inl (cI, 1296, .inl (fun _ => 0))), (a1, .inr (0, [.ref a1f, .ref a1x, .ref a1v, .ref a1g, .ref a1k, .ref a1z, .int (nI (0)), .int (nI (0)), .int (nI (0)), .int (-1), .int (nI (0))])), (a1f, .inr (2, [.ref a1fa])), (a1fa, .inl (cI, 300, .inl (fun _ => 0))), (a1x, .inr (2, [.ref a1xa])), (a1xa, .inl (cI, 300, .inl (fun _ => 0))), (a1v, .inr (2, [.ref a1va])), (a1va, .inl (cI, 1296, .inl (fun _ => 0))), (a1g, .inr (2, [.ref a1ga])), (a1ga, .inl (cI, 1296, .inl (fun _ => 0))), (a1k, .inr (2, [.ref a1ka])), (a1ka, .inl (cI, 1296, .inl (fun _ => 0))), (a1z, .inr (2, [.ref a1za])), (a1za, .inl (cI, 360, .inl (fun _ => 0)))] H := hP
  have hD : va_D A [(q, .inr (5, [.ref p1, .ref w1, .null, .null])), (p1, .inr (1, [.ref p1f])), (p1f, .inr (2, [.ref p1fa])), (p1fa, .inl (cI, 1296, .inl (fun j => nI (form j)))), (w1, .inr (3, [.ref w1k, .ref w1g])), (w1k, .inr (2, [.ref w1ka])), (w1ka, .inl (cI, 1296, .inl (fun _ => 0))), (w1g, .inr (2, [.ref w1ga])), (w1ga, .inl (cI, 1296, .inl (fun _ => 0))), (a1, .inr (0, [.ref a1f, .ref a1x, .ref a1v, .ref a1g, .ref a1k, .ref a1z, .int (nI (0)), .int (nI (0)), .int (nI (0)), .int (-1), .int (nI (0))])), (a1f, .inr (2, [.ref a1fa])), (a1fa, .inl (cI, 300, .inl (fun _ => 0))), (a1x, .inr (2, [.ref a1xa])), (a1xa, .inl (cI, 300, .inl (fun _ => 0))), (a1v, .inr (2, [.ref a1va])), (a1va, .inl (cI, 1296, .inl (fun _ => 0))), (a1g, .inr (2, [.ref a1ga])), (a1ga, .inl (cI, 1296, .inl (fun _ => 0))), (a1k, .inr (2, [.ref a1ka])), (a1ka, .inl (cI, 1296, .inl (fun _ => 0))), (a1z, .inr (2, [.ref a1za])), (a1za, .inl (cI, 360, .inl (fun _ => 0)))] := hD
  refine va_putF (D := d) (ci := 5) (v := .ref a1) (ty := .object "Nudgelane$Attempts") (C := RX5) (T := TX5) (N := 4) hx hb hts hin5 tyX5 tyX5_ok nmX5 hown hK hP hD hS 0 rfl rfl 2 (by decide) hfl26 (fun _ h9 => h9) rfl hin rfl (by decide +kernel) rfl rfl (Nat.le_of_ble_eq_true rfl) dX5_init_34 (fun H locs hP hD hS => ?_)
  have hP : va_P d vwCl [(q, .inr (5, [.ref p1, .ref w1, .ref a1, .null])), (p1, .inr (1, [.ref p1f])), (p1f, .inr (2, [.ref p1fa])), (p1fa, .inl (cI, 1296, .inl (fun j => nI (form j)))), (w1, .inr (3, [.ref w1k, .ref w1g])), (w1k, .inr (2, [.ref w1ka])), (w1ka, .inl (cI, 1296, .inl (fun _ => 0))), (w1g, .inr (2, [.ref w1ga])), (w1ga, .inl (cI, 1296, .inl (fun _ => 0))), (a1, .inr (0, [.ref a1f, .ref a1x, .ref a1v, .ref a1g, .ref a1k, .ref a1z, .int (nI (0)), .int (nI (0)), .int (nI (0)), .int (-1), .int (nI (0))])), (a1f, .inr (2, [.ref a1fa])), (a1fa, .inl (cI, 300, .inl (fun _ => 0))), (a1x, .inr (2, [.ref a1xa])), (a1xa, .inl (cI, 300, .inl (fun _ => 0))), (a1v, .inr (2, [.ref a1va])), (a1va, .inl (cI, 1296, .inl (fun _ => 0))), (a1g, .inr (2, [.ref a1ga])), (a1ga, .inl (cI, 1296, .inl (fun _ => 0))), (a1k, .inr (2, [.ref a1ka])), (a1ka, .inl (cI, 1296, .inl (fun _ => 0))), (a1z, .inr (2, [.ref a1za])), (a1za, .inl (cI, 360, .inl (fun _ => 0)))] H := hP
  have hD : va_D A [(q, .inr (5, [.ref p1, .ref w1, .ref a1, .null])), (p1, .inr (1, [.ref p1f])), (p1f, .inr (2, [.ref p1fa])), (p1fa, .inl (cI, 1296, .inl (fun j => nI (form j)))), (w1, .inr (3, [.ref w1k, .ref w1g])), (w1k, .inr (2, [.ref w1ka])), (w1ka, .inl (cI, 1296, .inl (fun _ => 0))), (w1g, .inr (2, [.ref w1ga])), (w1ga, .inl (cI, 1296, .inl (fun _ => 0))), (a1, .inr (0, [.ref a1f, .ref a1x, .ref a1v, .ref a1g, .ref a1k, .ref a1z, .int (nI (0)), .int (nI (0)), .int (nI (0)), .int (-1), .int (nI (0))])), (a1f, .inr (2, [.ref a1fa])), (a1fa, .inl (cI, 300, .inl (fun _ => 0))), (a1x, .inr (2, [.ref a1xa])), (a1xa, .inl (cI, 300, .inl (fun _ => 0))), (a1v, .inr (2, [.ref a1va])), (a1va, .inl (cI, 1296, .inl (fun _ => 0))), (a1g, .inr (2, [.ref a1ga])), (a1ga, .inl (cI, 1296, .inl (fun _ => 0))), (a1k, .inr (2, [.ref a1ka])), (a1ka, .inl (cI, 1296, .inl (fun _ => 0))), (a1z, .inr (2, [.ref a1za])), (a1za, .inl (cI, 360, .inl (fun _ => 0)))] := hD
  refine lv_aload_n hx hb dX5_init_37 rfl (lv_at hl 0 rfl) ?_
  refine va_new (ci := 4) (fs := [.null, .null]) (C := RX4) (T := TX4) (N := 2) hx hb hts hin4 tyX4 tyX4_ok hown (hts (.classLink RX5 30 RX4) (by decide +kernel)) (hts (.instantiable RX4 2) (by decide +kernel)) (hts (.initialized RX4) (by decide +kernel)) hK hP hD hS hA rfl (fun j hj => by match j, hj with | 0, _ => rfl | 1, _ => rfl | n + 2, h => exact absurd h (by omega)) (Nat.le_of_ble_eq_true rfl) (Nat.le_of_ble_eq_true rfl) dX5_init_38 (fun z1 H hP hD hS => ?_)
  have hP : va_P d vwCl [(q, .inr (5, [.ref p1, .ref w1, .ref a1, .null])), (p1, .inr (1, [.ref p1f])), (p1f, .inr (2, [.ref p1fa])), (p1fa, .inl (cI, 1296, .inl (fun j => nI (form j)))), (w1, .inr (3, [.ref w1k, .ref w1g])), (w1k, .inr (2, [.ref w1ka])), (w1ka, .inl (cI, 1296, .inl (fun _ => 0))), (w1g, .inr (2, [.ref w1ga])), (w1ga, .inl (cI, 1296, .inl (fun _ => 0))), (a1, .inr (0, [.ref a1f, .ref a1x, .ref a1v, .ref a1g, .ref a1k, .ref a1z, .int (nI (0)), .int (nI (0)), .int (nI (0)), .int (-1), .int (nI (0))])), (a1f, .inr (2, [.ref a1fa])), (a1fa, .inl (cI, 300, .inl (fun _ => 0))), (a1x, .inr (2, [.ref a1xa])), (a1xa, .inl (cI, 300, .inl (fun _ => 0))), (a1v, .inr (2, [.ref a1va])), (a1va, .inl (cI, 1296, .inl (fun _ => 0))), (a1g, .inr (2, [.ref a1ga])), (a1ga, .inl (cI, 1296, .inl (fun _ => 0))), (a1k, .inr (2, [.ref a1ka])), (a1ka, .inl (cI, 1296, .inl (fun _ => 0))), (a1z, .inr (2, [.ref a1za])), (a1za, .inl (cI, 360, .inl (fun _ => 0))), (z1, .inr (4, [.null, .null]))] H := hP
  have hD : va_D A [(q, .inr (5, [.ref p1, .ref w1, .ref a1, .null])), (p1, .inr (1, [.ref p1f])), (p1f, .inr (2, [.ref p1fa])), (p1fa, .inl (cI, 1296, .inl (fun j => nI (form j)))), (w1, .inr (3, [.ref w1k, .ref w1g])), (w1k, .inr (2, [.ref w1ka])), (w1ka, .inl (cI, 1296, .inl (fun _ => 0))), (w1g, .inr (2, [.ref w1ga])), (w1ga, .inl (cI, 1296, .inl (fun _ => 0))), (a1, .inr (0, [.ref a1f, .ref a1x, .ref a1v, .ref a1g, .ref a1k, .ref a1z, .int (nI (0)), .int (nI (0)), .int (nI (0)), .int (-1), .int (nI (0))])), (a1f, .inr (2, [.ref a1fa])), (a1fa, .inl (cI, 300, .inl (fun _ => 0))), (a1x, .inr (2, [.ref a1xa])), (a1xa, .inl (cI, 300, .inl (fun _ => 0))), (a1v, .inr (2, [.ref a1va])), (a1va, .inl (cI, 1296, .inl (fun _ => 0))), (a1g, .inr (2, [.ref a1ga])), (a1ga, .inl (cI, 1296, .inl (fun _ => 0))), (a1k, .inr (2, [.ref a1ka])), (a1ka, .inl (cI, 1296, .inl (fun _ => 0))), (a1z, .inr (2, [.ref a1za])), (a1za, .inl (cI, 360, .inl (fun _ => 0))), (z1, .inr (4, [.null, .null]))] := hD
  refine lv_dup hx hb dX5_init_41 rfl ?_
  refine n_nwI (As := []) (rest := [.ref z1, .ref q]) (wr := [(q, .inr (5, [.ref p1, .ref w1, .ref a1, .null])), (p1, .inr (1, [.ref p1f])), (p1f, .inr (2, [.ref p1fa])), (p1fa, .inl (cI, 1296, .inl (fun j => nI (form j)))), (w1, .inr (3, [.ref w1k, .ref w1g])), (w1k, .inr (2, [.ref w1ka])), (w1ka, .inl (cI, 1296, .inl (fun _ => 0))), (w1g, .inr (2, [.ref w1ga])), (w1ga, .inl (cI, 1296, .inl (fun _ => 0))), (a1, .inr (0, [.ref a1f, .ref a1x, .ref a1v, .ref a1g, .ref a1k, .ref a1z, .int (nI (0)), .int (nI (0)), .int (nI (0)), .int (-1), .int (nI (0))])), (a1f, .inr (2, [.ref a1fa])), (a1fa, .inl (cI, 300, .inl (fun _ => 0))), (a1x, .inr (2, [.ref a1xa])), (a1xa, .inl (cI, 300, .inl (fun _ => 0))), (a1v, .inr (2, [.ref a1va])), (a1va, .inl (cI, 1296, .inl (fun _ => 0))), (a1g, .inr (2, [.ref a1ga])), (a1ga, .inl (cI, 1296, .inl (fun _ => 0))), (a1k, .inr (2, [.ref a1ka])), (a1ka, .inl (cI, 1296, .inl (fun _ => 0))), (a1z, .inr (2, [.ref a1za])), (a1za, .inl (cI, 360, .inl (fun _ => 0)))]) ⟨hx, hb, hml, hown, hts⟩ (c_X4_init l d cI z1) (cwI 0 hts gX5_init_X4_init rfl rfl rfl (hts (.initialized RX4) (by decide +kernel)) (hts (.methodLink RX5 32 yX4_init) (by decide +kernel)) (hts (.instanceMethod yX4_init) (by decide +kernel)) rfl (by decide +kernel) ⟨Nat.le_of_ble_eq_true rfl, Nat.le_of_ble_eq_true rfl⟩) hP hD hS hA hK 22 [0, 1, 2, 3, 4, 5, 6, 7, 8, 9, 10, 11, 12, 13, 14, 15, 16, 17, 18, 19, 20, 21] rfl rfl (by decide) (by decide) rfl hl.1 rfl (Nat.le_of_ble_eq_true rfl) dX5_init_42 ⟨Nat.le_of_ble_eq_true rfl, Nat.le_of_ble_eq_true rfl⟩ (fun u H locs hP hD hS => ?_)
  obtain ⟨z1k, z1ka, z1g, z1ga⟩ := u
  have hP : va_P d vwCl [(q, .inr (5, [.ref p1, .ref w1, .ref a1, .null])), (p1, .inr (1, [.ref p1f])), (p1f, .inr (2, [.ref p1fa])), (p1fa, .inl (cI, 1296, .inl (fun j => nI (form j)))), (w1, .inr (3, [.ref w1k, .ref w1g])), (w1k, .inr (2, [.ref w1ka])), (w1ka, .inl (cI, 1296, .inl (fun _ => 0))), (w1g, .inr (2, [.ref w1ga])), (w1ga, .inl (cI, 1296, .inl (fun _ => 0))), (a1, .inr (0, [.ref a1f, .ref a1x, .ref a1v, .ref a1g, .ref a1k, .ref a1z, .int (nI (0)), .int (nI (0)), .int (nI (0)), .int (-1), .int (nI (0))])), (a1f, .inr (2, [.ref a1fa])), (a1fa, .inl (cI, 300, .inl (fun _ => 0))), (a1x, .inr (2, [.ref a1xa])), (a1xa, .inl (cI, 300, .inl (fun _ => 0))), (a1v, .inr (2, [.ref a1va])), (a1va, .inl (cI, 1296, .inl (fun _ => 0))), (a1g, .inr (2, [.ref a1ga])), (a1ga, .inl (cI, 1296, .inl (fun _ => 0))), (a1k, .inr (2, [.ref a1ka])), (a1ka, .inl (cI, 1296, .inl (fun _ => 0))), (a1z, .inr (2, [.ref a1za])), (a1za, .inl (cI, 360, .inl (fun _ => 0))), (z1, .inr (4, [.ref z1k, .ref z1g])), (z1k, .inr (2, [.ref z1ka])), (z1ka, .inl (cI, 1296, .inl (fun _ => 0))), (z1g, .inr (2, [.ref z1ga])), (z1ga, .inl (cI, 1296, .inl (fun _ => 0)))] H := hP
  have hD : va_D A [(q, .inr (5, [.ref p1, .ref w1, .ref a1, .null])), (p1, .inr (1, [.ref p1f])), (p1f, .inr (2, [.ref p1fa])), (p1fa, .inl (cI, 1296, .inl (fun j => nI (form j)))), (w1, .inr (3, [.ref w1k, .ref w1g])), (w1k, .inr (2, [.ref w1ka])), (w1ka, .inl (cI, 1296, .inl (fun _ => 0))), (w1g, .inr (2, [.ref w1ga])), (w1ga, .inl (cI, 1296, .inl (fun _ => 0))), (a1, .inr (0, [.ref a1f, .ref a1x, .ref a1v, .ref a1g, .ref a1k, .ref a1z, .int (nI (0)), .int (nI (0)), .int (nI (0)), .int (-1), .int (nI (0))])), (a1f, .inr (2, [.ref a1fa])), (a1fa, .inl (cI, 300, .inl (fun _ => 0))), (a1x, .inr (2, [.ref a1xa])), (a1xa, .inl (cI, 300, .inl (fun _ => 0))), (a1v, .inr (2, [.ref a1va])), (a1va, .inl (cI, 1296, .inl (fun _ => 0))), (a1g, .inr (2, [.ref a1ga])), (a1ga, .inl (cI, 1296, .inl (fun _ => 0))), (a1k, .inr (2, [.ref a1ka])), (a1ka, .inl (cI, 1296, .inl (fun _ => 0))), (a1z, .inr (2, [.ref a1za])), (a1za, .inl (cI, 360, .inl (fun _ => 0))), (z1, .inr (4, [.ref z1k, .ref z1g])), (z1k, .inr (2, [.ref z1ka])), (z1ka, .inl (cI, 1296, .inl (fun _ => 0))), (z1g, .inr (2, [.ref z1ga])), (z1ga, .inl (cI, 1296, .inl (fun _ => 0)))] := hD
  refine va_putF (D := d) (ci := 5) (v := .ref z1) (ty := .object "Nudgelane$Worths") (C := RX5) (T := TX5) (N := 4) hx hb hts hin5 tyX5 tyX5_ok nmX5 hown hK hP hD hS 0 rfl rfl 3 (by decide) hfl33 (fun _ h9 => h9) rfl hin rfl (by decide +kernel) rfl rfl (Nat.le_of_ble_eq_true rfl) dX5_init_45 (fun H locs hP hD hS => ?_)
  have hP : va_P d vwCl [(q, .inr (5, [.ref p1, .ref w1, .ref a1, .ref z1])), (p1, .inr (1, [.ref p1f])), (p1f, .inr (2, [.ref p1fa])), (p1fa, .inl (cI, 1296, .inl (fun j => nI (form j)))), (w1, .inr (3, [.ref w1k, .ref w1g])), (w1k, .inr (2, [.ref w1ka])), (w1ka, .inl (cI, 1296, .inl (fun _ => 0))), (w1g, .inr (2, [.ref w1ga])), (w1ga, .inl (cI, 1296, .inl (fun _ => 0))), (a1, .inr (0, [.ref a1f, .ref a1x, .ref a1v, .ref a1g, .ref a1k, .ref a1z, .int (nI (0)), .int (nI (0)), .int (nI (0)), .int (-1), .int (nI (0))])), (a1f, .inr (2, [.ref a1fa])), (a1fa, .inl (cI, 300, .inl (fun _ => 0))), (a1x, .inr (2, [.ref a1xa])), (a1xa, .inl (cI, 300, .inl (fun _ => 0))), (a1v, .inr (2, [.ref a1va])), (a1va, .inl (cI, 1296, .inl (fun _ => 0))), (a1g, .inr (2, [.ref a1ga])), (a1ga, .inl (cI, 1296, .inl (fun _ => 0))), (a1k, .inr (2, [.ref a1ka])), (a1ka, .inl (cI, 1296, .inl (fun _ => 0))), (a1z, .inr (2, [.ref a1za])), (a1za, .inl (cI, 360, .inl (fun _ => 0))), (z1, .inr (4, [.ref z1k, .ref z1g])), (z1k, .inr (2, [.ref z1ka])), (z1ka, .inl (cI, 1296, .inl (fun _ => 0))), (z1g, .inr (2, [.ref z1ga])), (z1ga, .inl (cI, 1296, .inl (fun _ => 0)))] H := hP
  have hD : va_D A [(q, .inr (5, [.ref p1, .ref w1, .ref a1, .ref z1])), (p1, .inr (1, [.ref p1f])), (p1f, .inr (2, [.ref p1fa])), (p1fa, .inl (cI, 1296, .inl (fun j => nI (form j)))), (w1, .inr (3, [.ref w1k, .ref w1g])), (w1k, .inr (2, [.ref w1ka])), (w1ka, .inl (cI, 1296, .inl (fun _ => 0))), (w1g, .inr (2, [.ref w1ga])), (w1ga, .inl (cI, 1296, .inl (fun _ => 0))), (a1, .inr (0, [.ref a1f, .ref a1x, .ref a1v, .ref a1g, .ref a1k, .ref a1z, .int (nI (0)), .int (nI (0)), .int (nI (0)), .int (-1), .int (nI (0))])), (a1f, .inr (2, [.ref a1fa])), (a1fa, .inl (cI, 300, .inl (fun _ => 0))), (a1x, .inr (2, [.ref a1xa])), (a1xa, .inl (cI, 300, .inl (fun _ => 0))), (a1v, .inr (2, [.ref a1va])), (a1va, .inl (cI, 1296, .inl (fun _ => 0))), (a1g, .inr (2, [.ref a1ga])), (a1ga, .inl (cI, 1296, .inl (fun _ => 0))), (a1k, .inr (2, [.ref a1ka])), (a1ka, .inl (cI, 1296, .inl (fun _ => 0))), (a1z, .inr (2, [.ref a1za])), (a1za, .inl (cI, 360, .inl (fun _ => 0))), (z1, .inr (4, [.ref z1k, .ref z1g])), (z1k, .inr (2, [.ref z1ka])), (z1ka, .inl (cI, 1296, .inl (fun _ => 0))), (z1g, .inr (2, [.ref z1ga])), (z1ga, .inl (cI, 1296, .inl (fun _ => 0)))] := hD
  refine W.widen (k := 28) (n := 11360) (Nat.le_of_ble_eq_true rfl) (Nat.le_of_ble_eq_true rfl) ?_
  exact W.vret hx hb hr (fun t ht hW => ⟨⟨(p1, w1, a1, z1, (p1f, p1fa), (w1k, w1ka, w1g, w1ga), (a1f, a1fa, a1x, a1xa, a1v, a1va, a1g, a1ga, a1k, a1ka, a1z, a1za), (z1k, z1ka, z1g, z1ga)), rfl, by rw [ht]; exact hP.sub [0, 1, 2, 3, 4, 5, 6, 7, 8, 9, 10, 11, 12, 13, 14, 15, 16, 17, 18, 19, 20, 21, 22, 23, 24, 25, 26] rfl, hD.sub [0, 1, 2, 3, 4, 5, 6, 7, 8, 9, 10, 11, 12, 13, 14, 15, 16, 17, 18, 19, 20, 21, 22, 23, 24, 25, 26] (by decide) rfl⟩, hS.F ht⟩) hS.2.2 dX5_init_48
end
section
set_option maxHeartbeats 4000000 in
set_option maxRecDepth 100000 in
theorem c_X6_fits_1 (l : Launch) (d : va_G) (cI cJ cZ : ClassId) (x y : Nat) (hx6 : x < 6) (hy6 : y < 6) : nRd l yX6_fits wsX6_fits ({ frames := 0, cells := 0, slots := 0, locals := 0 } : Room) d [(cI, .int), (cJ, .long), (cZ, .boolean)] [] [.int (nI (1)), .int (nI (x)), .int (nI (y))] (.int (nI ((fitB 1 x y).toNat))) := by
  refine Met.ofW (cc := cX6_fits) (maxL := 3) (ret := some .boolean) (by decide) rfl ?_
  intro p e s m args below meth c s₁ B hml hv
  obtain ⟨rfl, hP, hK⟩ := hv
  have hx := B.exec
  have hb := B.bytes
  have hr := B.returns
  have hts := atoms_spec (ws := wsX6_fits) B.pre
  have hown : s.vm.findClass RX6 = some m.cls := findClass_of_methodNamed B.named
  have hlocks := B.notSynchronized
  have hP : va_P d vwCl [] s.heap := hP
  have hl := lv_entry ([.int (nI (1)), .int (nI (x)), .int (nI (y))]) (n := 3) (Nat.le_of_ble_eq_true rfl)
  rw [lg_entry_eq]
  generalize (lg_sl ([.int (nI (1)), .int (nI (x)), .int (nI (y))]) ++ List.replicate (3 - (lg_sl ([.int (nI (1)), .int (nI (x)), .int (nI (y))])).length) Slot.unset).toArray = ls at hl ⊢
  have hl : lv_has ls 3 [(0, .int (nI (1))), (1, .int (nI (x))), (2, .int (nI (y)))] := hl
  refine lv_iload_n hx hb dX6_fits_0 rfl (lv_at hl 0 rfl) ?_
  refine lv_iconst (v := nI (1)) hx hb dX6_fits_1 (by decide) ?_
  refine n_icmp_ne (tgt := 21) hx hb dX6_fits_2 (by decide) (by decide) (by decide) (fun c_1 => ?_) (fun c_1 => ?_)
  · exact absurd c_1 (by decide)
  refine lv_iload_n hx hb dX6_fits_5 rfl (lv_at hl 1 rfl) ?_
  refine n_ifne (tgt := 17) hx hb dX6_fits_6 (by decide) (by omega) (fun c_2 => ?_) (fun c_2 => ?_)
  ·
    refine lv_iconst (v := nI (0)) hx hb dX6_fits_17 (by decide) ?_
    refine lv_goto (tgt := 82) hx hb dX6_fits_18 (by decide) ?_
    refine n_top (show (nI (0)) = (nI ((fitB 1 x y).toNat)) from by rw [show fitB 1 x y = false from decide_eq_false (by omega)]; rfl) ?_
    exact W.zret (v := (nI ((fitB 1 x y).toNat))) hx hb hr (by cases fitB 1 x y <;> rfl) (fun t ht hW => ⟨rfl, ht⟩) (fun q h => by cases h) dX6_fits_82
  ·
    refine lv_iload_n hx hb dX6_fits_9 rfl (lv_at hl 2 rfl) ?_
    refine n_ifle (tgt := 17) hx hb dX6_fits_10 (by decide) (by omega) (fun c_3 => ?_) (fun c_3 => ?_)
    ·
      refine lv_iconst (v := nI (0)) hx hb dX6_fits_17 (by decide) ?_
      refine lv_goto (tgt := 82) hx hb dX6_fits_18 (by decide) ?_
      refine n_top (show (nI (0)) = (nI ((fitB 1 x y).toNat)) from by rw [show fitB 1 x y = false from decide_eq_false (by omega)]; rfl) ?_
      exact W.zret (v := (nI ((fitB 1 x y).toNat))) hx hb hr (by cases fitB 1 x y <;> rfl) (fun t ht hW => ⟨rfl, ht⟩) (fun q h => by cases h) dX6_fits_82
    ·
      refine lv_iconst (v := nI (1)) hx hb dX6_fits_13 (by decide) ?_
      refine lv_goto (tgt := 82) hx hb dX6_fits_14 (by decide) ?_
      refine n_top (show (nI (1)) = (nI ((fitB 1 x y).toNat)) from by rw [show fitB 1 x y = true from decide_eq_true (by omega)]; rfl) ?_
      exact W.zret (v := (nI ((fitB 1 x y).toNat))) hx hb hr (by cases fitB 1 x y <;> rfl) (fun t ht hW => ⟨rfl, ht⟩) (fun q h => by cases h) dX6_fits_82

set_option maxHeartbeats 4000000 in
set_option maxRecDepth 100000 in
theorem c_X6_fits_2 (l : Launch) (d : va_G) (cI cJ cZ : ClassId) (x y : Nat) (hx6 : x < 6) (hy6 : y < 6) : nRd l yX6_fits wsX6_fits ({ frames := 0, cells := 0, slots := 0, locals := 0 } : Room) d [(cI, .int), (cJ, .long), (cZ, .boolean)] [] [.int (nI (2)), .int (nI (x)), .int (nI (y))] (.int (nI ((fitB 2 x y).toNat))) := by
  refine Met.ofW (cc := cX6_fits) (maxL := 3) (ret := some .boolean) (by decide) rfl ?_
  intro p e s m args below meth c s₁ B hml hv
  obtain ⟨rfl, hP, hK⟩ := hv
  have hx := B.exec
  have hb := B.bytes
  have hr := B.returns
  have hts := atoms_spec (ws := wsX6_fits) B.pre
  have hown : s.vm.findClass RX6 = some m.cls := findClass_of_methodNamed B.named
  have hlocks := B.notSynchronized
  have hP : va_P d vwCl [] s.heap := hP
  have hl := lv_entry ([.int (nI (2)), .int (nI (x)), .int (nI (y))]) (n := 3) (Nat.le_of_ble_eq_true rfl)
  rw [lg_entry_eq]
  generalize (lg_sl ([.int (nI (2)), .int (nI (x)), .int (nI (y))]) ++ List.replicate (3 - (lg_sl ([.int (nI (2)), .int (nI (x)), .int (nI (y))])).length) Slot.unset).toArray = ls at hl ⊢
  have hl : lv_has ls 3 [(0, .int (nI (2))), (1, .int (nI (x))), (2, .int (nI (y)))] := hl
  refine lv_iload_n hx hb dX6_fits_0 rfl (lv_at hl 0 rfl) ?_
  refine lv_iconst (v := nI (1)) hx hb dX6_fits_1 (by decide) ?_
  refine n_icmp_ne (tgt := 21) hx hb dX6_fits_2 (by decide) (by decide) (by decide) (fun c_1 => ?_) (fun c_1 => ?_)
  rotate_left
  · exact absurd c_1 (by decide)
  refine lv_iload_n hx hb dX6_fits_21 rfl (lv_at hl 0 rfl) ?_
  refine lv_iconst (v := nI (2)) hx hb dX6_fits_22 (by decide) ?_
  refine n_icmp_ne (tgt := 44) hx hb dX6_fits_23 (by decide) (by decide) (by decide) (fun c_2 => ?_) (fun c_2 => ?_)
  · exact absurd c_2 (by decide)
  refine lv_iload_n hx hb dX6_fits_26 rfl (lv_at hl 1 rfl) ?_
  refine lv_iconst (v := nI (5)) hx hb dX6_fits_27 (by decide) ?_
  refine n_icmp_ne (tgt := 40) hx hb dX6_fits_28 (by decide) (by omega) (by omega) (fun c_3 => ?_) (fun c_3 => ?_)
  ·
    refine lv_iconst (v := nI (0)) hx hb dX6_fits_40 (by decide) ?_
    refine lv_goto (tgt := 82) hx hb dX6_fits_41 (by decide) ?_
    refine n_top (show (nI (0)) = (nI ((fitB 2 x y).toNat)) from by rw [show fitB 2 x y = false from decide_eq_false (by omega)]; rfl) ?_
    exact W.zret (v := (nI ((fitB 2 x y).toNat))) hx hb hr (by cases fitB 2 x y <;> rfl) (fun t ht hW => ⟨rfl, ht⟩) (fun q h => by cases h) dX6_fits_82
  ·
    refine lv_iload_n hx hb dX6_fits_31 rfl (lv_at hl 2 rfl) ?_
    refine lv_iconst (v := nI (4)) hx hb dX6_fits_32 (by decide) ?_
    refine n_icmp_ne (tgt := 40) hx hb dX6_fits_33 (by decide) (by omega) (by omega) (fun c_4 => ?_) (fun c_4 => ?_)
    ·
      refine lv_iconst (v := nI (0)) hx hb dX6_fits_40 (by decide) ?_
      refine lv_goto (tgt := 82) hx hb dX6_fits_41 (by decide) ?_
      refine n_top (show (nI (0)) = (nI ((fitB 2 x y).toNat)) from by rw [show fitB 2 x y = false from decide_eq_false (by omega)]; rfl) ?_
      exact W.zret (v := (nI ((fitB 2 x y).toNat))) hx hb hr (by cases fitB 2 x y <;> rfl) (fun t ht hW => ⟨rfl, ht⟩) (fun q h => by cases h) dX6_fits_82
    ·
      refine lv_iconst (v := nI (1)) hx hb dX6_fits_36 (by decide) ?_
      refine lv_goto (tgt := 82) hx hb dX6_fits_37 (by decide) ?_
      refine n_top (show (nI (1)) = (nI ((fitB 2 x y).toNat)) from by rw [show fitB 2 x y = true from decide_eq_true (by omega)]; rfl) ?_
      exact W.zret (v := (nI ((fitB 2 x y).toNat))) hx hb hr (by cases fitB 2 x y <;> rfl) (fun t ht hW => ⟨rfl, ht⟩) (fun q h => by cases h) dX6_fits_82

set_option maxHeartbeats 4000000 in
set_option maxRecDepth 100000 in
theorem c_X6_fits_3 (l : Launch) (d : va_G) (cI cJ cZ : ClassId) (x y : Nat) (hx6 : x < 6) (hy6 : y < 6) : nRd l yX6_fits wsX6_fits ({ frames := 0, cells := 0, slots := 0, locals := 0 } : Room) d [(cI, .int), (cJ, .long), (cZ, .boolean)] [] [.int (nI (3)), .int (nI (x)), .int (nI (y))] (.int (nI ((fitB 3 x y).toNat))) := by
  refine Met.ofW (cc := cX6_fits) (maxL := 3) (ret := some .boolean) (by decide) rfl ?_
  intro p e s m args below meth c s₁ B hml hv
  obtain ⟨rfl, hP, hK⟩ := hv
  have hx := B.exec
  have hb := B.bytes
  have hr := B.returns
  have hts := atoms_spec (ws := wsX6_fits) B.pre
  have hown : s.vm.findClass RX6 = some m.cls := findClass_of_methodNamed B.named
  have hlocks := B.notSynchronized
  have hP : va_P d vwCl [] s.heap := hP
  have hl := lv_entry ([.int (nI (3)), .int (nI (x)), .int (nI (y))]) (n := 3) (Nat.le_of_ble_eq_true rfl)
  rw [lg_entry_eq]
  generalize (lg_sl ([.int (nI (3)), .int (nI (x)), .int (nI (y))]) ++ List.replicate (3 - (lg_sl ([.int (nI (3)), .int (nI (x)), .int (nI (y))])).length) Slot.unset).toArray = ls at hl ⊢
  have hl : lv_has ls 3 [(0, .int (nI (3))), (1, .int (nI (x))), (2, .int (nI (y)))] := hl
  refine lv_iload_n hx hb dX6_fits_0 rfl (lv_at hl 0 rfl) ?_
  refine lv_iconst (v := nI (1)) hx hb dX6_fits_1 (by decide) ?_
  refine n_icmp_ne (tgt := 21) hx hb dX6_fits_2 (by decide) (by decide) (by decide) (fun c_1 => ?_) (fun c_1 => ?_)
  rotate_left
  · exact absurd c_1 (by decide)
  refine lv_iload_n hx hb dX6_fits_21 rfl (lv_at hl 0 rfl) ?_
  refine lv_iconst (v := nI (2)) hx hb dX6_fits_22 (by decide) ?_
  refine n_icmp_ne (tgt := 44) hx hb dX6_fits_23 (by decide) (by decide) (by decide) (fun c_2 => ?_) (fun c_2 => ?_)
  rotate_left
  · exact absurd c_2 (by decide)
  refine lv_iload_n hx hb dX6_fits_44 rfl (lv_at hl 0 rfl) ?_
  refine lv_iconst (v := nI (3)) hx hb dX6_fits_45 (by decide) ?_
  refine n_icmp_ne (tgt := 67) hx hb dX6_fits_46 (by decide) (by decide) (by decide) (fun c_3 => ?_) (fun c_3 => ?_)
  · exact absurd c_3 (by decide)
  refine lv_iload_n hx hb dX6_fits_49 rfl (lv_at hl 1 rfl) ?_
  refine lv_iconst (v := nI (3)) hx hb dX6_fits_50 (by decide) ?_
  refine n_icmp_ne (tgt := 63) hx hb dX6_fits_51 (by decide) (by omega) (by omega) (fun c_4 => ?_) (fun c_4 => ?_)
  ·
    refine lv_iconst (v := nI (0)) hx hb dX6_fits_63 (by decide) ?_
    refine lv_goto (tgt := 82) hx hb dX6_fits_64 (by decide) ?_
    refine n_top (show (nI (0)) = (nI ((fitB 3 x y).toNat)) from by rw [show fitB 3 x y = false from decide_eq_false (by omega)]; rfl) ?_
    exact W.zret (v := (nI ((fitB 3 x y).toNat))) hx hb hr (by cases fitB 3 x y <;> rfl) (fun t ht hW => ⟨rfl, ht⟩) (fun q h => by cases h) dX6_fits_82
  ·
    refine lv_iload_n hx hb dX6_fits_54 rfl (lv_at hl 2 rfl) ?_
    refine lv_iconst (v := nI (3)) hx hb dX6_fits_55 (by decide) ?_
    refine n_icmp_ne (tgt := 63) hx hb dX6_fits_56 (by decide) (by omega) (by omega) (fun c_5 => ?_) (fun c_5 => ?_)
    ·
      refine lv_iconst (v := nI (0)) hx hb dX6_fits_63 (by decide) ?_
      refine lv_goto (tgt := 82) hx hb dX6_fits_64 (by decide) ?_
      refine n_top (show (nI (0)) = (nI ((fitB 3 x y).toNat)) from by rw [show fitB 3 x y = false from decide_eq_false (by omega)]; rfl) ?_
      exact W.zret (v := (nI ((fitB 3 x y).toNat))) hx hb hr (by cases fitB 3 x y <;> rfl) (fun t ht hW => ⟨rfl, ht⟩) (fun q h => by cases h) dX6_fits_82
    ·
      refine lv_iconst (v := nI (1)) hx hb dX6_fits_59 (by decide) ?_
      refine lv_goto (tgt := 82) hx hb dX6_fits_60 (by decide) ?_
      refine n_top (show (nI (1)) = (nI ((fitB 3 x y).toNat)) from by rw [show fitB 3 x y = true from decide_eq_true (by omega)]; rfl) ?_
      exact W.zret (v := (nI ((fitB 3 x y).toNat))) hx hb hr (by cases fitB 3 x y <;> rfl) (fun t ht hW => ⟨rfl, ht⟩) (fun q h => by cases h) dX6_fits_82

set_option maxHeartbeats 4000000 in
set_option maxRecDepth 100000 in
theorem c_X6_fits_4 (l : Launch) (d : va_G) (cI cJ cZ : ClassId) (x y : Nat) (hx6 : x < 6) (hy6 : y < 6) : nRd l yX6_fits wsX6_fits ({ frames := 0, cells := 0, slots := 0, locals := 0 } : Room) d [(cI, .int), (cJ, .long), (cZ, .boolean)] [] [.int (nI (4)), .int (nI (x)), .int (nI (y))] (.int (nI ((fitB 4 x y).toNat))) := by
  refine Met.ofW (cc := cX6_fits) (maxL := 3) (ret := some .boolean) (by decide) rfl ?_
  intro p e s m args below meth c s₁ B hml hv
  obtain ⟨rfl, hP, hK⟩ := hv
  have hx := B.exec
  have hb := B.bytes
  have hr := B.returns
  have hts := atoms_spec (ws := wsX6_fits) B.pre
  have hown : s.vm.findClass RX6 = some m.cls := findClass_of_methodNamed B.named
  have hlocks := B.notSynchronized
  have hP : va_P d vwCl [] s.heap := hP
  have hl := lv_entry ([.int (nI (4)), .int (nI (x)), .int (nI (y))]) (n := 3) (Nat.le_of_ble_eq_true rfl)
  rw [lg_entry_eq]
  generalize (lg_sl ([.int (nI (4)), .int (nI (x)), .int (nI (y))]) ++ List.replicate (3 - (lg_sl ([.int (nI (4)), .int (nI (x)), .int (nI (y))])).length) Slot.unset).toArray = ls at hl ⊢
  have hl : lv_has ls 3 [(0, .int (nI (4))), (1, .int (nI (x))), (2, .int (nI (y)))] := hl
  refine lv_iload_n hx hb dX6_fits_0 rfl (lv_at hl 0 rfl) ?_
  refine lv_iconst (v := nI (1)) hx hb dX6_fits_1 (by decide) ?_
  refine n_icmp_ne (tgt := 21) hx hb dX6_fits_2 (by decide) (by decide) (by decide) (fun c_1 => ?_) (fun c_1 => ?_)
  rotate_left
  · exact absurd c_1 (by decide)
  refine lv_iload_n hx hb dX6_fits_21 rfl (lv_at hl 0 rfl) ?_
  refine lv_iconst (v := nI (2)) hx hb dX6_fits_22 (by decide) ?_
  refine n_icmp_ne (tgt := 44) hx hb dX6_fits_23 (by decide) (by decide) (by decide) (fun c_2 => ?_) (fun c_2 => ?_)
  rotate_left
  · exact absurd c_2 (by decide)
  refine lv_iload_n hx hb dX6_fits_44 rfl (lv_at hl 0 rfl) ?_
  refine lv_iconst (v := nI (3)) hx hb dX6_fits_45 (by decide) ?_
  refine n_icmp_ne (tgt := 67) hx hb dX6_fits_46 (by decide) (by decide) (by decide) (fun c_3 => ?_) (fun c_3 => ?_)
  rotate_left
  · exact absurd c_3 (by decide)
  refine lv_iload_n hx hb dX6_fits_67 rfl (lv_at hl 1 rfl) ?_
  refine lv_iconst (v := nI (2)) hx hb dX6_fits_68 (by decide) ?_
  refine n_icmp_ne (tgt := 81) hx hb dX6_fits_69 (by decide) (by omega) (by omega) (fun c_4 => ?_) (fun c_4 => ?_)
  ·
    refine lv_iconst (v := nI (0)) hx hb dX6_fits_81 (by decide) ?_
    refine n_top (show (nI (0)) = (nI ((fitB 4 x y).toNat)) from by rw [show fitB 4 x y = false from decide_eq_false (by omega)]; rfl) ?_
    exact W.zret (v := (nI ((fitB 4 x y).toNat))) hx hb hr (by cases fitB 4 x y <;> rfl) (fun t ht hW => ⟨rfl, ht⟩) (fun q h => by cases h) dX6_fits_82
  ·
    refine lv_iload_n hx hb dX6_fits_72 rfl (lv_at hl 2 rfl) ?_
    refine lv_iconst (v := nI (1)) hx hb dX6_fits_73 (by decide) ?_
    refine n_icmp_ne (tgt := 81) hx hb dX6_fits_74 (by decide) (by omega) (by omega) (fun c_5 => ?_) (fun c_5 => ?_)
    ·
      refine lv_iconst (v := nI (0)) hx hb dX6_fits_81 (by decide) ?_
      refine n_top (show (nI (0)) = (nI ((fitB 4 x y).toNat)) from by rw [show fitB 4 x y = false from decide_eq_false (by omega)]; rfl) ?_
      exact W.zret (v := (nI ((fitB 4 x y).toNat))) hx hb hr (by cases fitB 4 x y <;> rfl) (fun t ht hW => ⟨rfl, ht⟩) (fun q h => by cases h) dX6_fits_82
    ·
      refine lv_iconst (v := nI (1)) hx hb dX6_fits_77 (by decide) ?_
      refine lv_goto (tgt := 82) hx hb dX6_fits_78 (by decide) ?_
      refine n_top (show (nI (1)) = (nI ((fitB 4 x y).toNat)) from by rw [show fitB 4 x y = true from decide_eq_true (by omega)]; rfl) ?_
      exact W.zret (v := (nI ((fitB 4 x y).toNat))) hx hb hr (by cases fitB 4 x y <;> rfl) (fun t ht hW => ⟨rfl, ht⟩) (fun q h => by cases h) dX6_fits_82

theorem c_X6_fits (l : Launch) (d : va_G) (cI cJ cZ : ClassId) (r x y : Nat) (hr : r < 4) (hx6 : x < 6) (hy6 : y < 6) : nRd l yX6_fits wsX6_fits ({ frames := 0, cells := 0, slots := 0, locals := 0 } : Room) d [(cI, .int), (cJ, .long), (cZ, .boolean)] [] [.int (nI (1 + r)), .int (nI x), .int (nI y)] (.int (nI (fitB (1 + r) x y).toNat)) := by
  rcases lt4 hr with rfl | rfl | rfl | rfl
  · exact c_X6_fits_1 l d cI cJ cZ x y hx6 hy6
  · exact c_X6_fits_2 l d cI cJ cZ x y hx6 hy6
  · exact c_X6_fits_3 l d cI cJ cZ x y hx6 hy6
  · exact c_X6_fits_4 l d cI cJ cZ x y hx6 hy6
set_option maxHeartbeats 4000000 in
set_option maxRecDepth 100000 in
theorem c_X6_uses (l : Launch) (d : va_G) (cI cJ cZ : ClassId) (mo xo xd xf xm xr xw xs xc yf yt ye yw : Nat) (vm vb va vp ve vt : Int32) (c0 : Nat) (hc : c0 < 1296) : nUp l yX6_uses wsX6_uses ({ frames := 1, cells := 0, slots := 0, locals := 22 } : Room) d [(cI, .int), (cJ, .long), (cZ, .boolean)] [(mo, .inr (6, [.ref xo, .ref xd, .ref xf, .ref xm, .ref xr, .ref xw, .ref xs, .ref xc, .int (vm), .int (vb), .int (va), .int (vp), .ref yf, .ref yt, .int (ve), .ref ye, .ref yw, .int (vt)])), (xd, .inl (cI, 4, .inl (fun j => nI (dig c0 j))))] [(mo, .inr (6, [.ref xo, .ref xd, .ref xf, .ref xm, .ref xr, .ref xw, .ref xs, .ref xc, .int (vm), .int (vb), .int (va), .int (vp), .ref yf, .ref yt, .int (ve), .ref ye, .ref yw, .int (vt)])), (xd, .inl (cI, 4, .inl (fun j => nI (dig (nx c0) j))))] [.ref mo] (some (.int (nI ((chg c0).toNat)))) := by
  intro sz
  refine Met.ofW (cc := cX6_uses) (maxL := 6) (ret := some .boolean) (by decide) rfl ?_
  intro p e s m args below meth c s₁ B hml hv
  obtain ⟨rfl, hsz, hP, hK, hD0⟩ := hv
  have hx := B.exec
  have hb := B.bytes
  have hr := B.returns
  have hts := atoms_spec (ws := wsX6_uses) B.pre
  have hown : s.vm.findClass RX6 = some m.cls := findClass_of_methodNamed B.named
  have hlocks := B.notSynchronized
  have hfl13 := hts (.fieldLink RX6 13 "NudgelaneModel" "digits" "[I") (by decide +kernel)
  have hin6 : ∀ w ∈ u_ws RX6 TX6 18, w ∈ wsX6_uses := by decide +kernel
  subst hsz
  have hD := hD0.self (sz := s.heap.size)
  generalize hAe : va_A [(mo, .inr (6, [.ref xo, .ref xd, .ref xf, .ref xm, .ref xr, .ref xw, .ref xs, .ref xc, .int (vm), .int (vb), .int (va), .int (vp), .ref yf, .ref yt, .int (ve), .ref ye, .ref yw, .int (vt)])), (xd, .inl (cI, 4, .inl (fun j => nI (dig c0 j))))] s.heap.size = A at hD ⊢
  have hA : ∀ q : Nat, s.heap.size ≤ q → A q := fun q h => by rw [← hAe]; exact Or.inr h
  have hS : va_S A s.heap s.heap [] := va_S.rf
  have hP : va_P d vwCl [(mo, .inr (6, [.ref xo, .ref xd, .ref xf, .ref xm, .ref xr, .ref xw, .ref xs, .ref xc, .int (vm), .int (vb), .int (va), .int (vp), .ref yf, .ref yt, .int (ve), .ref ye, .ref yw, .int (vt)])), (xd, .inl (cI, 4, .inl (fun j => nI (dig c0 j))))] s.heap := hP
  have hl := lv_entry ([.ref mo]) (n := 6) (Nat.le_of_ble_eq_true rfl)
  rw [lg_entry_eq]
  generalize (lg_sl ([.ref mo]) ++ List.replicate (6 - (lg_sl ([.ref mo])).length) Slot.unset).toArray = ls at hl ⊢
  have hl : lv_has ls 6 [(0, .ref mo)] := hl
  refine n_nameQ (fun Q hQ => ?_)
  refine lv_iconst (v := nI (0)) hx hb dX6_uses_0 (by decide) ?_
  refine lv_istore_n (lv' := [(1, .int (nI (0))), (0, .ref mo)]) hx hb dX6_uses_1 rfl hl (by decide) rfl (fun ls hl => ?_)
  have loop : ∀ (n k : Nat), k + n = 12 → nxo c0 = nxF c0 (12 - k) k → ∀ (ls : Array Slot), lv_has ls 6 [(1, .int (nI (k))), (0, .ref mo)] → W p l e ({ frames := 1, cells := 0, slots := 0, locals := 22 } : Room) s m ([.ref mo] : List Value).toArray below meth c s.heap [] 0 0 Q (F0 m 2 ls []) := by
    intro n
    induction n with
    | zero =>
      intro k h1 hnx ls hl
      have hn0 : nxo c0 = none := by rw [hnx, show k = 12 from by omega]; rfl
      refine lv_iload_n hx hb dX6_uses_2 rfl (lv_at hl 0 rfl) ?_
      refine lv_bipush (v := nI (12)) hx hb dX6_uses_3 (by decide) ?_
      refine n_icmp_ge (tgt := 111) hx hb dX6_uses_5 (by decide) (by omega) (by omega) (fun c_1 => ?_) (fun c_1 => ?_)
      ·
        refine lv_iconst (v := nI (0)) hx hb dX6_uses_111 (by decide) ?_
        subst hQ
        rw [show nx c0 = c0 from by unfold nx; rw [hn0]; rfl]
        refine n_top (show (nI (0)) = (nI ((chg c0).toNat)) from by rw [show chg c0 = false from by unfold chg; rw [hn0]; rfl]; rfl) ?_
        exact W.zret (v := (nI ((chg c0).toNat))) hx hb hr (by cases chg c0 <;> rfl) (fun t ht hW => ⟨⟨rfl, by rw [ht]; exact hP, hD⟩, hS.F ht⟩) hS.2.2 dX6_uses_112
      · exact False.elim (by omega)
    | succ n ih =>
      intro k h1 hnx ls hl
      refine lv_iload_n hx hb dX6_uses_2 rfl (lv_at hl 0 rfl) ?_
      refine lv_bipush (v := nI (12)) hx hb dX6_uses_3 (by decide) ?_
      refine n_icmp_ge (tgt := 111) hx hb dX6_uses_5 (by decide) (by omega) (by omega) (fun c_2 => ?_) (fun c_2 => ?_)
      · exact False.elim (by omega)
      ·
        refine lv_iconst (v := nI (1)) hx hb dX6_uses_8 (by decide) ?_
        refine lv_iload_n hx hb dX6_uses_9 rfl (lv_at hl 0 rfl) ?_
        refine lv_iconst (v := nI (3)) hx hb dX6_uses_10 (by decide) ?_
        refine n_div hx hb dX6_uses_11 (by omega) (by omega) (by omega) ?_
        refine n_add hx hb dX6_uses_12 ?_
        refine lv_istore_n (lv' := [(2, .int (nI (1 + (k / 3)))), (1, .int (nI (k))), (0, .ref mo)]) hx hb dX6_uses_13 rfl hl (by decide) rfl (fun ls hl => ?_)
        refine lv_iload_n hx hb dX6_uses_14 rfl (lv_at hl 1 rfl) ?_
        refine lv_iconst (v := nI (3)) hx hb dX6_uses_15 (by decide) ?_
        refine n_rem hx hb dX6_uses_16 (by omega) (by omega) (by omega) ?_
        refine lv_istore_n (lv' := [(3, .int (nI (k % 3))), (2, .int (nI (1 + (k / 3)))), (1, .int (nI (k))), (0, .ref mo)]) hx hb dX6_uses_17 rfl hl (by decide) rfl (fun ls hl => ?_)
        refine lv_iload_n hx hb dX6_uses_18 rfl (lv_at hl 1 rfl) ?_
        refine lv_aload_n hx hb dX6_uses_19 rfl (lv_at hl 3 rfl) ?_
        refine va_get (D := d) (ci := 6) (v := .ref xd) (C := RX6) (T := TX6) (N := 18) hx hb hts hin6 hown hK hP 0 rfl rfl 1 (by decide) hfl13 (fun _ h9 => h9) rfl dX6_uses_20 ?_
        refine lv_iload_n hx hb dX6_uses_23 rfl (lv_at hl 0 rfl) ?_
        refine n_iald hx hb hK hP 1 0 rfl rfl (k := k % 3) (by omega) (by omega) dX6_uses_24 ?_
        refine lv_aload_n hx hb dX6_uses_25 rfl (lv_at hl 3 rfl) ?_
        refine va_get (D := d) (ci := 6) (v := .ref xd) (C := RX6) (T := TX6) (N := 18) hx hb hts hin6 hown hK hP 0 rfl rfl 1 (by decide) hfl13 (fun _ h9 => h9) rfl dX6_uses_26 ?_
        refine lv_iload_n hx hb dX6_uses_29 rfl (lv_at hl 0 rfl) ?_
        refine lv_iconst (v := nI (1)) hx hb dX6_uses_30 (by decide) ?_
        refine n_add hx hb dX6_uses_31 ?_
        refine n_iald hx hb hK hP 1 0 rfl rfl (k := (k % 3) + 1) (by omega) (by omega) dX6_uses_32 ?_
        refine n_rdS (As := [.int (nI (1 + (k / 3))), .int (nI (dig c0 (k % 3))), .int (nI (dig c0 ((k % 3) + 1)))]) (rest := []) (WC := []) ⟨hx, hb, hml, hown, hts⟩ (c_X6_fits l d cI cJ cZ (k / 3) (dig c0 (k % 3)) (dig c0 ((k % 3) + 1)) (by omega) (dig_lt _ _) (dig_lt _ _)) (cwS 3 hts gX6_uses_X6_fits rfl rfl rfl (by decide +kernel) ⟨Nat.le_of_ble_eq_true rfl, Nat.le_of_ble_eq_true rfl⟩) (hP.sub [] rfl) (hK) rfl hl.1 rfl (Nat.le_of_ble_eq_true rfl) dX6_uses_33 ⟨Nat.zero_le _, Nat.zero_le _⟩ ?_
        have hfk : fkb c0 k = fitB (1 + k / 3) (dig c0 (k % 3)) (dig c0 (k % 3 + 1)) := rfl
        have hn1 : 12 - k = (12 - (k + 1)) + 1 := by omega
        refine n_ifeq (tgt := 105) hx hb dX6_uses_36 (by decide) (by cases fitB (1 + k / 3) (dig c0 (k % 3)) (dig c0 (k % 3 + 1)) <;> decide) (fun c_3 => ?_) (fun c_3 => ?_)
        ·
          have hff : fkb c0 k = false := by rw [hfk]; cases hz : fitB (1 + k / 3) (dig c0 (k % 3)) (dig c0 (k % 3 + 1)) with | false => rfl | true => rw [hz] at c_3; exact absurd c_3 (by decide)
          refine lv_iinc (v := nI (k + 1)) (lv' := [(1, .int (nI (k + 1))), (3, .int (nI (k % 3))), (2, .int (nI (1 + (k / 3)))), (0, .ref mo)]) hx hb dX6_uses_105 hl (k := 2) rfl (n_inc1 _) (by decide) rfl (fun ls hl => ?_)
          refine lv_goto (tgt := 2) hx hb dX6_uses_108 (by decide) ?_
          exact ih (k + 1) (by omega) (by rw [hnx, hn1]; show (if fkb c0 k = true then _ else _) = _; rw [hff]; rfl) ls (lv_sub hl [0, 3] rfl)
        ·
          have hff : fkb c0 k = true := by rw [hfk]; cases hz : fitB (1 + k / 3) (dig c0 (k % 3)) (dig c0 (k % 3 + 1)) with | true => rfl | false => rw [hz] at c_3; exact absurd rfl c_3
          have hn0 : nxo c0 = some (stp c0 k) := by rw [hnx, hn1]; show (if fkb c0 k = true then _ else _) = _; rw [hff]; rfl
          have hstp := (stp_ok hc (show k < 12 from by omega) hff).2
          refine lv_aload_n hx hb dX6_uses_39 rfl (lv_at hl 3 rfl) ?_
          refine va_get (D := d) (ci := 6) (v := .ref xd) (C := RX6) (T := TX6) (N := 18) hx hb hts hin6 hown hK hP 0 rfl rfl 1 (by decide) hfl13 (fun _ h9 => h9) rfl dX6_uses_40 ?_
          refine lv_iload_n hx hb dX6_uses_43 rfl (lv_at hl 0 rfl) ?_
          refine n_iald hx hb hK hP 1 0 rfl rfl (k := k % 3) (by omega) (by omega) dX6_uses_44 ?_
          refine lv_istore (lv' := [(4, .int (nI (dig c0 (k % 3)))), (3, .int (nI (k % 3))), (2, .int (nI (1 + (k / 3)))), (1, .int (nI (k))), (0, .ref mo)]) hx hb dX6_uses_45 hl (by decide) rfl (fun ls hl => ?_)
          refine lv_aload_n hx hb dX6_uses_47 rfl (lv_at hl 4 rfl) ?_
          refine va_get (D := d) (ci := 6) (v := .ref xd) (C := RX6) (T := TX6) (N := 18) hx hb hts hin6 hown hK hP 0 rfl rfl 1 (by decide) hfl13 (fun _ h9 => h9) rfl dX6_uses_48 ?_
          refine lv_iload_n hx hb dX6_uses_51 rfl (lv_at hl 1 rfl) ?_
          refine lv_iconst (v := nI (1)) hx hb dX6_uses_52 (by decide) ?_
          refine n_add hx hb dX6_uses_53 ?_
          refine n_iald hx hb hK hP 1 0 rfl rfl (k := (k % 3) + 1) (by omega) (by omega) dX6_uses_54 ?_
          refine lv_istore (lv' := [(5, .int (nI (dig c0 ((k % 3) + 1)))), (4, .int (nI (dig c0 (k % 3)))), (3, .int (nI (k % 3))), (2, .int (nI (1 + (k / 3)))), (1, .int (nI (k))), (0, .ref mo)]) hx hb dX6_uses_55 hl (by decide) rfl (fun ls hl => ?_)
          refine lv_aload_n hx hb dX6_uses_57 rfl (lv_at hl 5 rfl) ?_
          refine va_get (D := d) (ci := 6) (v := .ref xd) (C := RX6) (T := TX6) (N := 18) hx hb hts hin6 hown hK hP 0 rfl rfl 1 (by decide) hfl13 (fun _ h9 => h9) rfl dX6_uses_58 ?_
          refine lv_iload_n hx hb dX6_uses_61 rfl (lv_at hl 2 rfl) ?_
          refine lv_iload_n hx hb dX6_uses_62 rfl (lv_at hl 3 rfl) ?_
          refine lv_iconst (v := nI (4)) hx hb dX6_uses_63 (by decide) ?_
          refine n_icmp_ne (tgt := 71) hx hb dX6_uses_64 (by decide) (by omega) (by omega) (fun c_4 => ?_) (fun c_4 => ?_)
          ·
            refine lv_iload_n hx hb dX6_uses_71 rfl (lv_at hl 3 rfl) ?_
            refine lv_iconst (v := nI (3)) hx hb dX6_uses_72 (by decide) ?_
            refine n_icmp_ne (tgt := 81) hx hb dX6_uses_73 (by decide) (by omega) (by omega) (fun c_5 => ?_) (fun c_5 => ?_)
            ·
              refine lv_iload hx hb dX6_uses_81 (lv_at hl 0 rfl) ?_
              refine n_iast (ws' := [(mo, .inr (6, [.ref xo, .ref xd, .ref xf, .ref xm, .ref xr, .ref xw, .ref xs, .ref xc, .int (vm), .int (vb), .int (va), .int (vp), .ref yf, .ref yt, .int (ve), .ref ye, .ref yw, .int (vt)])), (xd, .inl (cI, 4, .inl (upd (fun j => nI (dig c0 j)) (k % 3) (nI (dig c0 ((k % 3) + 1))))))]) hx hb hK hP hD hS 1 0 rfl rfl (k := k % 3) (by omega) (by omega) dX6_uses_83 rfl (fun H locs hP hD hS => ?_)
              refine lv_aload_n hx hb dX6_uses_84 rfl (lv_at hl 5 rfl) ?_
              refine va_get (D := d) (ci := 6) (v := .ref xd) (C := RX6) (T := TX6) (N := 18) hx hb hts hin6 hown hK hP 0 rfl rfl 1 (by decide) hfl13 (fun _ h9 => h9) rfl dX6_uses_85 ?_
              refine lv_iload_n hx hb dX6_uses_88 rfl (lv_at hl 2 rfl) ?_
              refine lv_iconst (v := nI (1)) hx hb dX6_uses_89 (by decide) ?_
              refine n_add hx hb dX6_uses_90 ?_
              refine lv_iload_n hx hb dX6_uses_91 rfl (lv_at hl 3 rfl) ?_
              refine lv_iconst (v := nI (2)) hx hb dX6_uses_92 (by decide) ?_
              refine n_icmp_le (tgt := 100) hx hb dX6_uses_93 (by decide) (by omega) (by omega) (fun c_6 => ?_) (fun c_6 => ?_)
              ·
                refine lv_iload hx hb dX6_uses_100 (lv_at hl 1 rfl) ?_
                refine n_iast (ws' := [(mo, .inr (6, [.ref xo, .ref xd, .ref xf, .ref xm, .ref xr, .ref xw, .ref xs, .ref xc, .int (vm), .int (vb), .int (va), .int (vp), .ref yf, .ref yt, .int (ve), .ref ye, .ref yw, .int (vt)])), (xd, .inl (cI, 4, .inl (upd (upd (fun j => nI (dig c0 j)) (k % 3) (nI (dig c0 ((k % 3) + 1)))) ((k % 3) + 1) (nI (dig c0 (k % 3))))))]) hx hb hK hP hD hS 1 0 rfl rfl (k := (k % 3) + 1) (by omega) (by omega) dX6_uses_102 rfl (fun H locs hP hD hS => ?_)
                refine lv_iconst (v := nI (1)) hx hb dX6_uses_103 (by decide) ?_
                obtain ⟨hP, hD⟩ := n_cg (ws' := [(mo, .inr (6, [.ref xo, .ref xd, .ref xf, .ref xm, .ref xr, .ref xw, .ref xs, .ref xc, .int (vm), .int (vb), .int (va), .int (vp), .ref yf, .ref yt, .int (ve), .ref ye, .ref yw, .int (vt)])), (xd, .inl (cI, 4, .inl (fun j => nI (dig (stp c0 k) j))))]) hP hD 1 rfl (by intro j hj; have h := hstp j hj; (first | rw [if_pos (show k < 6 by omega)] at h | rw [if_neg (show ¬ k < 6 by omega), if_pos (show k < 9 by omega)] at h | rw [if_neg (show ¬ k < 6 by omega), if_neg (show ¬ k < 9 by omega)] at h); rw [h]; unfold upd; by_cases h1 : j = k % 3 + 1 <;> by_cases h2 : j = k % 3 <;> simp [h1, h2] <;> omega) rfl
                subst hQ
                rw [show nx c0 = stp c0 k from by unfold nx; rw [hn0]; rfl]
                refine n_top (show (nI (1)) = (nI ((chg c0).toNat)) from by rw [show chg c0 = true from by unfold chg; rw [hn0]; rfl]; rfl) ?_
                exact W.zret (v := (nI ((chg c0).toNat))) hx hb hr (by cases chg c0 <;> rfl) (fun t ht hW => ⟨⟨rfl, by rw [ht]; exact hP, hD⟩, hS.F ht⟩) hS.2.2 dX6_uses_104
              ·
                exact False.elim (by omega)
            ·
              refine lv_iload hx hb dX6_uses_76 (lv_at hl 1 rfl) ?_
              refine lv_goto (tgt := 83) hx hb dX6_uses_78 (by decide) ?_
              refine n_iast (ws' := [(mo, .inr (6, [.ref xo, .ref xd, .ref xf, .ref xm, .ref xr, .ref xw, .ref xs, .ref xc, .int (vm), .int (vb), .int (va), .int (vp), .ref yf, .ref yt, .int (ve), .ref ye, .ref yw, .int (vt)])), (xd, .inl (cI, 4, .inl (upd (fun j => nI (dig c0 j)) (k % 3) (nI (dig c0 (k % 3))))))]) hx hb hK hP hD hS 1 0 rfl rfl (k := k % 3) (by omega) (by omega) dX6_uses_83 rfl (fun H locs hP hD hS => ?_)
              refine lv_aload_n hx hb dX6_uses_84 rfl (lv_at hl 5 rfl) ?_
              refine va_get (D := d) (ci := 6) (v := .ref xd) (C := RX6) (T := TX6) (N := 18) hx hb hts hin6 hown hK hP 0 rfl rfl 1 (by decide) hfl13 (fun _ h9 => h9) rfl dX6_uses_85 ?_
              refine lv_iload_n hx hb dX6_uses_88 rfl (lv_at hl 2 rfl) ?_
              refine lv_iconst (v := nI (1)) hx hb dX6_uses_89 (by decide) ?_
              refine n_add hx hb dX6_uses_90 ?_
              refine lv_iload_n hx hb dX6_uses_91 rfl (lv_at hl 3 rfl) ?_
              refine lv_iconst (v := nI (2)) hx hb dX6_uses_92 (by decide) ?_
              refine n_icmp_le (tgt := 100) hx hb dX6_uses_93 (by decide) (by omega) (by omega) (fun c_7 => ?_) (fun c_7 => ?_)
              ·
                exact False.elim (by omega)
              ·
                refine lv_iconst (v := nI (0)) hx hb dX6_uses_96 (by decide) ?_
                refine lv_goto (tgt := 102) hx hb dX6_uses_97 (by decide) ?_
                refine n_iast (ws' := [(mo, .inr (6, [.ref xo, .ref xd, .ref xf, .ref xm, .ref xr, .ref xw, .ref xs, .ref xc, .int (vm), .int (vb), .int (va), .int (vp), .ref yf, .ref yt, .int (ve), .ref ye, .ref yw, .int (vt)])), (xd, .inl (cI, 4, .inl (upd (upd (fun j => nI (dig c0 j)) (k % 3) (nI (dig c0 (k % 3)))) ((k % 3) + 1) (nI (0)))))]) hx hb hK hP hD hS 1 0 rfl rfl (k := (k % 3) + 1) (by omega) (by omega) dX6_uses_102 rfl (fun H locs hP hD hS => ?_)
                refine lv_iconst (v := nI (1)) hx hb dX6_uses_103 (by decide) ?_
                obtain ⟨hP, hD⟩ := n_cg (ws' := [(mo, .inr (6, [.ref xo, .ref xd, .ref xf, .ref xm, .ref xr, .ref xw, .ref xs, .ref xc, .int (vm), .int (vb), .int (va), .int (vp), .ref yf, .ref yt, .int (ve), .ref ye, .ref yw, .int (vt)])), (xd, .inl (cI, 4, .inl (fun j => nI (dig (stp c0 k) j))))]) hP hD 1 rfl (by intro j hj; have h := hstp j hj; (first | rw [if_pos (show k < 6 by omega)] at h | rw [if_neg (show ¬ k < 6 by omega), if_pos (show k < 9 by omega)] at h | rw [if_neg (show ¬ k < 6 by omega), if_neg (show ¬ k < 9 by omega)] at h); rw [h]; unfold upd; by_cases h1 : j = k % 3 + 1 <;> by_cases h2 : j = k % 3 <;> simp [h1, h2] <;> omega) rfl
                subst hQ
                rw [show nx c0 = stp c0 k from by unfold nx; rw [hn0]; rfl]
                refine n_top (show (nI (1)) = (nI ((chg c0).toNat)) from by rw [show chg c0 = true from by unfold chg; rw [hn0]; rfl]; rfl) ?_
                exact W.zret (v := (nI ((chg c0).toNat))) hx hb hr (by cases chg c0 <;> rfl) (fun t ht hW => ⟨⟨rfl, by rw [ht]; exact hP, hD⟩, hS.F ht⟩) hS.2.2 dX6_uses_104
          ·
            refine lv_iconst (v := nI (0)) hx hb dX6_uses_67 (by decide) ?_
            refine lv_goto (tgt := 83) hx hb dX6_uses_68 (by decide) ?_
            refine n_iast (ws' := [(mo, .inr (6, [.ref xo, .ref xd, .ref xf, .ref xm, .ref xr, .ref xw, .ref xs, .ref xc, .int (vm), .int (vb), .int (va), .int (vp), .ref yf, .ref yt, .int (ve), .ref ye, .ref yw, .int (vt)])), (xd, .inl (cI, 4, .inl (upd (fun j => nI (dig c0 j)) (k % 3) (nI (0)))))]) hx hb hK hP hD hS 1 0 rfl rfl (k := k % 3) (by omega) (by omega) dX6_uses_83 rfl (fun H locs hP hD hS => ?_)
            refine lv_aload_n hx hb dX6_uses_84 rfl (lv_at hl 5 rfl) ?_
            refine va_get (D := d) (ci := 6) (v := .ref xd) (C := RX6) (T := TX6) (N := 18) hx hb hts hin6 hown hK hP 0 rfl rfl 1 (by decide) hfl13 (fun _ h9 => h9) rfl dX6_uses_85 ?_
            refine lv_iload_n hx hb dX6_uses_88 rfl (lv_at hl 2 rfl) ?_
            refine lv_iconst (v := nI (1)) hx hb dX6_uses_89 (by decide) ?_
            refine n_add hx hb dX6_uses_90 ?_
            refine lv_iload_n hx hb dX6_uses_91 rfl (lv_at hl 3 rfl) ?_
            refine lv_iconst (v := nI (2)) hx hb dX6_uses_92 (by decide) ?_
            refine n_icmp_le (tgt := 100) hx hb dX6_uses_93 (by decide) (by omega) (by omega) (fun c_8 => ?_) (fun c_8 => ?_)
            ·
              exact False.elim (by omega)
            ·
              refine lv_iconst (v := nI (0)) hx hb dX6_uses_96 (by decide) ?_
              refine lv_goto (tgt := 102) hx hb dX6_uses_97 (by decide) ?_
              refine n_iast (ws' := [(mo, .inr (6, [.ref xo, .ref xd, .ref xf, .ref xm, .ref xr, .ref xw, .ref xs, .ref xc, .int (vm), .int (vb), .int (va), .int (vp), .ref yf, .ref yt, .int (ve), .ref ye, .ref yw, .int (vt)])), (xd, .inl (cI, 4, .inl (upd (upd (fun j => nI (dig c0 j)) (k % 3) (nI (0))) ((k % 3) + 1) (nI (0)))))]) hx hb hK hP hD hS 1 0 rfl rfl (k := (k % 3) + 1) (by omega) (by omega) dX6_uses_102 rfl (fun H locs hP hD hS => ?_)
              refine lv_iconst (v := nI (1)) hx hb dX6_uses_103 (by decide) ?_
              obtain ⟨hP, hD⟩ := n_cg (ws' := [(mo, .inr (6, [.ref xo, .ref xd, .ref xf, .ref xm, .ref xr, .ref xw, .ref xs, .ref xc, .int (vm), .int (vb), .int (va), .int (vp), .ref yf, .ref yt, .int (ve), .ref ye, .ref yw, .int (vt)])), (xd, .inl (cI, 4, .inl (fun j => nI (dig (stp c0 k) j))))]) hP hD 1 rfl (by intro j hj; have h := hstp j hj; (first | rw [if_pos (show k < 6 by omega)] at h | rw [if_neg (show ¬ k < 6 by omega), if_pos (show k < 9 by omega)] at h | rw [if_neg (show ¬ k < 6 by omega), if_neg (show ¬ k < 9 by omega)] at h); rw [h]; unfold upd; by_cases h1 : j = k % 3 + 1 <;> by_cases h2 : j = k % 3 <;> simp [h1, h2] <;> omega) rfl
              subst hQ
              rw [show nx c0 = stp c0 k from by unfold nx; rw [hn0]; rfl]
              refine n_top (show (nI (1)) = (nI ((chg c0).toNat)) from by rw [show chg c0 = true from by unfold chg; rw [hn0]; rfl]; rfl) ?_
              exact W.zret (v := (nI ((chg c0).toNat))) hx hb hr (by cases chg c0 <;> rfl) (fun t ht hW => ⟨⟨rfl, by rw [ht]; exact hP, hD⟩, hS.F ht⟩) hS.2.2 dX6_uses_104
  exact loop 12 0 rfl rfl ls (lv_sub hl [0, 1] rfl)

set_option maxHeartbeats 4000000 in
set_option maxRecDepth 100000 in
theorem c_X6_formed (l : Launch) (d : va_G) (cI cJ cZ : ClassId) (mo xo xd xf xm xr xw xs xc yf yt ye yw : Nat) (vm vb va vp ve vt : Int32) (c0 : Nat) (f : Nat → Int32) (hc : c0 < 1296) : nUp l yX6_formed wsX6_formed ({ frames := 2, cells := 0, slots := 0, locals := 47 } : Room) d [(cI, .int), (cJ, .long), (cZ, .boolean)] [(mo, .inr (6, [.ref xo, .ref xd, .ref xf, .ref xm, .ref xr, .ref xw, .ref xs, .ref xc, .int (vm), .int (vb), .int (va), .int (vp), .ref yf, .ref yt, .int (ve), .ref ye, .ref yw, .int (vt)])), (xd, .inl (cI, 4, .inl (f)))] [(mo, .inr (6, [.ref xo, .ref xd, .ref xf, .ref xm, .ref xr, .ref xw, .ref xs, .ref xc, .int (vm), .int (vb), .int (va), .int (vp), .ref yf, .ref yt, .int (ve), .ref ye, .ref yw, .int (vt)])), (xd, .inl (cI, 4, .inl (fun j => nI (dig (form c0) j))))] [.ref mo, .int (nI (c0))] (some (.int (nI (form c0)))) := by
  intro sz
  refine Met.ofW (cc := cX6_formed) (maxL := 4) (ret := some .int) (by decide) rfl ?_
  intro p e s m args below meth c s₁ B hml hv
  obtain ⟨rfl, hsz, hP, hK, hD0⟩ := hv
  have hx := B.exec
  have hb := B.bytes
  have hr := B.returns
  have hts := atoms_spec (ws := wsX6_formed) B.pre
  have hown : s.vm.findClass RX6 = some m.cls := findClass_of_methodNamed B.named
  have hlocks := B.notSynchronized
  have hfl13 := hts (.fieldLink RX6 13 "NudgelaneModel" "digits" "[I") (by decide +kernel)
  have hin6 : ∀ w ∈ u_ws RX6 TX6 18, w ∈ wsX6_formed := by decide +kernel
  subst hsz
  have hD := hD0.self (sz := s.heap.size)
  generalize hAe : va_A [(mo, .inr (6, [.ref xo, .ref xd, .ref xf, .ref xm, .ref xr, .ref xw, .ref xs, .ref xc, .int (vm), .int (vb), .int (va), .int (vp), .ref yf, .ref yt, .int (ve), .ref ye, .ref yw, .int (vt)])), (xd, .inl (cI, 4, .inl (f)))] s.heap.size = A at hD ⊢
  have hA : ∀ q : Nat, s.heap.size ≤ q → A q := fun q h => by rw [← hAe]; exact Or.inr h
  have hS : va_S A s.heap s.heap [] := va_S.rf
  have hP : va_P d vwCl [(mo, .inr (6, [.ref xo, .ref xd, .ref xf, .ref xm, .ref xr, .ref xw, .ref xs, .ref xc, .int (vm), .int (vb), .int (va), .int (vp), .ref yf, .ref yt, .int (ve), .ref ye, .ref yw, .int (vt)])), (xd, .inl (cI, 4, .inl (f)))] s.heap := hP
  have hl := lv_entry ([.ref mo, .int (nI (c0))]) (n := 4) (Nat.le_of_ble_eq_true rfl)
  rw [lg_entry_eq]
  generalize (lg_sl ([.ref mo, .int (nI (c0))]) ++ List.replicate (4 - (lg_sl ([.ref mo, .int (nI (c0))])).length) Slot.unset).toArray = ls at hl ⊢
  have hl : lv_has ls 4 [(0, .ref mo), (1, .int (nI (c0)))] := hl
  refine n_nameQ (fun Q hQ => ?_)
  refine lv_iload_n hx hb dX6_formed_0 rfl (lv_at hl 1 rfl) ?_
  refine lv_istore_n (lv' := [(2, .int (nI (c0))), (0, .ref mo), (1, .int (nI (c0)))]) hx hb dX6_formed_1 rfl hl (by decide) rfl (fun ls hl => ?_)
  refine lv_iconst (v := nI (3)) hx hb dX6_formed_2 (by decide) ?_
  refine lv_istore_n (lv' := [(3, .int (nI (3))), (2, .int (nI (c0))), (0, .ref mo), (1, .int (nI (c0)))]) hx hb dX6_formed_3 rfl hl (by decide) rfl (fun ls hl => ?_)
  refine lv_iload_n hx hb dX6_formed_4 rfl (lv_at hl 0 rfl) ?_
  refine n_iflt (tgt := 29) hx hb dX6_formed_5 (by decide) (by decide) ?_
  refine lv_aload_n hx hb dX6_formed_8 rfl (lv_at hl 2 rfl) ?_
  refine va_get (D := d) (ci := 6) (v := .ref xd) (C := RX6) (T := TX6) (N := 18) hx hb hts hin6 hown hK hP 0 rfl rfl 1 (by decide) hfl13 (fun _ h9 => h9) rfl dX6_formed_9 ?_
  refine lv_iload_n hx hb dX6_formed_12 rfl (lv_at hl 0 rfl) ?_
  refine lv_iload_n hx hb dX6_formed_13 rfl (lv_at hl 1 rfl) ?_
  refine lv_bipush (v := nI (6)) hx hb dX6_formed_14 (by decide) ?_
  refine n_rem hx hb dX6_formed_16 (by omega) (by decide) (by decide) ?_
  refine n_iast (ws' := [(mo, .inr (6, [.ref xo, .ref xd, .ref xf, .ref xm, .ref xr, .ref xw, .ref xs, .ref xc, .int (vm), .int (vb), .int (va), .int (vp), .ref yf, .ref yt, .int (ve), .ref ye, .ref yw, .int (vt)])), (xd, .inl (cI, 4, .inl (upd f 3 (nI (c0 % 6)))))]) hx hb hK hP hD hS 1 0 rfl rfl (k := 3) (by decide) (by decide) dX6_formed_17 rfl (fun H locs hP hD hS => ?_)
  refine lv_iload_n hx hb dX6_formed_18 rfl (lv_at hl 1 rfl) ?_
  refine lv_bipush (v := nI (6)) hx hb dX6_formed_19 (by decide) ?_
  refine n_div hx hb dX6_formed_21 (by omega) (by decide) (by decide) ?_
  refine lv_istore_n (lv' := [(2, .int (nI (c0 / 6))), (3, .int (nI (3))), (0, .ref mo), (1, .int (nI (c0)))]) hx hb dX6_formed_22 rfl hl (by decide) rfl (fun ls hl => ?_)
  refine lv_iinc (v := nI (2)) (lv' := [(3, .int (nI (2))), (2, .int (nI (c0 / 6))), (0, .ref mo), (1, .int (nI (c0)))]) hx hb dX6_formed_23 hl (k := 1) rfl (by decide) (by decide) rfl (fun ls hl => ?_)
  refine lv_goto (tgt := 4) hx hb dX6_formed_26 (by decide) ?_
  refine lv_iload_n hx hb dX6_formed_4 rfl (lv_at hl 0 rfl) ?_
  refine n_iflt (tgt := 29) hx hb dX6_formed_5 (by decide) (by decide) ?_
  refine lv_aload_n hx hb dX6_formed_8 rfl (lv_at hl 2 rfl) ?_
  refine va_get (D := d) (ci := 6) (v := .ref xd) (C := RX6) (T := TX6) (N := 18) hx hb hts hin6 hown hK hP 0 rfl rfl 1 (by decide) hfl13 (fun _ h9 => h9) rfl dX6_formed_9 ?_
  refine lv_iload_n hx hb dX6_formed_12 rfl (lv_at hl 0 rfl) ?_
  refine lv_iload_n hx hb dX6_formed_13 rfl (lv_at hl 1 rfl) ?_
  refine lv_bipush (v := nI (6)) hx hb dX6_formed_14 (by decide) ?_
  refine n_rem hx hb dX6_formed_16 (by omega) (by decide) (by decide) ?_
  refine n_iast (ws' := [(mo, .inr (6, [.ref xo, .ref xd, .ref xf, .ref xm, .ref xr, .ref xw, .ref xs, .ref xc, .int (vm), .int (vb), .int (va), .int (vp), .ref yf, .ref yt, .int (ve), .ref ye, .ref yw, .int (vt)])), (xd, .inl (cI, 4, .inl (upd (upd f 3 (nI (c0 % 6))) 2 (nI ((c0 / 6) % 6)))))]) hx hb hK hP hD hS 1 0 rfl rfl (k := 2) (by decide) (by decide) dX6_formed_17 rfl (fun H locs hP hD hS => ?_)
  refine lv_iload_n hx hb dX6_formed_18 rfl (lv_at hl 1 rfl) ?_
  refine lv_bipush (v := nI (6)) hx hb dX6_formed_19 (by decide) ?_
  refine n_div hx hb dX6_formed_21 (by omega) (by decide) (by decide) ?_
  refine lv_istore_n (lv' := [(2, .int (nI ((c0 / 6) / 6))), (3, .int (nI (2))), (0, .ref mo), (1, .int (nI (c0)))]) hx hb dX6_formed_22 rfl hl (by decide) rfl (fun ls hl => ?_)
  refine lv_iinc (v := nI (1)) (lv' := [(3, .int (nI (1))), (2, .int (nI ((c0 / 6) / 6))), (0, .ref mo), (1, .int (nI (c0)))]) hx hb dX6_formed_23 hl (k := 1) rfl (by decide) (by decide) rfl (fun ls hl => ?_)
  refine lv_goto (tgt := 4) hx hb dX6_formed_26 (by decide) ?_
  refine lv_iload_n hx hb dX6_formed_4 rfl (lv_at hl 0 rfl) ?_
  refine n_iflt (tgt := 29) hx hb dX6_formed_5 (by decide) (by decide) ?_
  refine lv_aload_n hx hb dX6_formed_8 rfl (lv_at hl 2 rfl) ?_
  refine va_get (D := d) (ci := 6) (v := .ref xd) (C := RX6) (T := TX6) (N := 18) hx hb hts hin6 hown hK hP 0 rfl rfl 1 (by decide) hfl13 (fun _ h9 => h9) rfl dX6_formed_9 ?_
  refine lv_iload_n hx hb dX6_formed_12 rfl (lv_at hl 0 rfl) ?_
  refine lv_iload_n hx hb dX6_formed_13 rfl (lv_at hl 1 rfl) ?_
  refine lv_bipush (v := nI (6)) hx hb dX6_formed_14 (by decide) ?_
  refine n_rem hx hb dX6_formed_16 (by omega) (by decide) (by decide) ?_
  refine n_iast (ws' := [(mo, .inr (6, [.ref xo, .ref xd, .ref xf, .ref xm, .ref xr, .ref xw, .ref xs, .ref xc, .int (vm), .int (vb), .int (va), .int (vp), .ref yf, .ref yt, .int (ve), .ref ye, .ref yw, .int (vt)])), (xd, .inl (cI, 4, .inl (upd (upd (upd f 3 (nI (c0 % 6))) 2 (nI ((c0 / 6) % 6))) 1 (nI (((c0 / 6) / 6) % 6)))))]) hx hb hK hP hD hS 1 0 rfl rfl (k := 1) (by decide) (by decide) dX6_formed_17 rfl (fun H locs hP hD hS => ?_)
  refine lv_iload_n hx hb dX6_formed_18 rfl (lv_at hl 1 rfl) ?_
  refine lv_bipush (v := nI (6)) hx hb dX6_formed_19 (by decide) ?_
  refine n_div hx hb dX6_formed_21 (by omega) (by decide) (by decide) ?_
  refine lv_istore_n (lv' := [(2, .int (nI (((c0 / 6) / 6) / 6))), (3, .int (nI (1))), (0, .ref mo), (1, .int (nI (c0)))]) hx hb dX6_formed_22 rfl hl (by decide) rfl (fun ls hl => ?_)
  refine lv_iinc (v := nI (0)) (lv' := [(3, .int (nI (0))), (2, .int (nI (((c0 / 6) / 6) / 6))), (0, .ref mo), (1, .int (nI (c0)))]) hx hb dX6_formed_23 hl (k := 1) rfl (by decide) (by decide) rfl (fun ls hl => ?_)
  refine lv_goto (tgt := 4) hx hb dX6_formed_26 (by decide) ?_
  refine lv_iload_n hx hb dX6_formed_4 rfl (lv_at hl 0 rfl) ?_
  refine n_iflt (tgt := 29) hx hb dX6_formed_5 (by decide) (by decide) ?_
  refine lv_aload_n hx hb dX6_formed_8 rfl (lv_at hl 2 rfl) ?_
  refine va_get (D := d) (ci := 6) (v := .ref xd) (C := RX6) (T := TX6) (N := 18) hx hb hts hin6 hown hK hP 0 rfl rfl 1 (by decide) hfl13 (fun _ h9 => h9) rfl dX6_formed_9 ?_
  refine lv_iload_n hx hb dX6_formed_12 rfl (lv_at hl 0 rfl) ?_
  refine lv_iload_n hx hb dX6_formed_13 rfl (lv_at hl 1 rfl) ?_
  refine lv_bipush (v := nI (6)) hx hb dX6_formed_14 (by decide) ?_
  refine n_rem hx hb dX6_formed_16 (by omega) (by decide) (by decide) ?_
  refine n_iast (ws' := [(mo, .inr (6, [.ref xo, .ref xd, .ref xf, .ref xm, .ref xr, .ref xw, .ref xs, .ref xc, .int (vm), .int (vb), .int (va), .int (vp), .ref yf, .ref yt, .int (ve), .ref ye, .ref yw, .int (vt)])), (xd, .inl (cI, 4, .inl (upd (upd (upd (upd f 3 (nI (c0 % 6))) 2 (nI ((c0 / 6) % 6))) 1 (nI (((c0 / 6) / 6) % 6))) 0 (nI ((((c0 / 6) / 6) / 6) % 6)))))]) hx hb hK hP hD hS 1 0 rfl rfl (k := 0) (by decide) (by decide) dX6_formed_17 rfl (fun H locs hP hD hS => ?_)
  refine lv_iload_n hx hb dX6_formed_18 rfl (lv_at hl 1 rfl) ?_
  refine lv_bipush (v := nI (6)) hx hb dX6_formed_19 (by decide) ?_
  refine n_div hx hb dX6_formed_21 (by omega) (by decide) (by decide) ?_
  refine lv_istore_n (lv' := [(2, .int (nI ((((c0 / 6) / 6) / 6) / 6))), (3, .int (nI (0))), (0, .ref mo), (1, .int (nI (c0)))]) hx hb dX6_formed_22 rfl hl (by decide) rfl (fun ls hl => ?_)
  refine lv_iinc (v := (-1)) (lv' := [(3, .int (-1)), (2, .int (nI ((((c0 / 6) / 6) / 6) / 6))), (0, .ref mo), (1, .int (nI (c0)))]) hx hb dX6_formed_23 hl (k := 1) rfl (by decide) (by decide) rfl (fun ls hl => ?_)
  refine lv_goto (tgt := 4) hx hb dX6_formed_26 (by decide) ?_
  refine lv_iload_n hx hb dX6_formed_4 rfl (lv_at hl 0 rfl) ?_
  refine lv_if_lt (tgt := 29) hx hb dX6_formed_5 (by decide) (fun c_5 => ?_) (fun c_5 => ?_)
  rotate_left
  · exact absurd c_5 (fun h => h (by decide))
  obtain ⟨hP, hD⟩ := n_cg (ws' := [(mo, .inr (6, [.ref xo, .ref xd, .ref xf, .ref xm, .ref xr, .ref xw, .ref xs, .ref xc, .int (vm), .int (vb), .int (va), .int (vp), .ref yf, .ref yt, .int (ve), .ref ye, .ref yw, .int (vt)])), (xd, .inl (cI, 4, .inl (fun j => nI (dig c0 j))))]) hP hD 1 rfl (by intro j hj; rcases lt4 hj with rfl | rfl | rfl | rfl <;> simp only [upd, dig, wt] <;> simp <;> (try (congr 1; omega))) rfl
  refine lv_iconst (v := nI (1)) hx hb dX6_formed_29 (by decide) ?_
  refine lv_istore_n (lv' := [(3, .int (nI (1))), (2, .int (nI ((((c0 / 6) / 6) / 6) / 6))), (0, .ref mo), (1, .int (nI (c0)))]) hx hb dX6_formed_30 rfl hl (by decide) rfl (fun ls hl => ?_)
  have loop : ∀ (n x : Nat) (g : Bool), x < 1296 → nfF n x = form c0 → tm n x = true → (g = false → x = form c0) → ∀ (H : Heap) (locs : List Loc), va_P d vwCl [(mo, .inr (6, [.ref xo, .ref xd, .ref xf, .ref xm, .ref xr, .ref xw, .ref xs, .ref xc, .int (vm), .int (vb), .int (va), .int (vp), .ref yf, .ref yt, .int (ve), .ref ye, .ref yw, .int (vt)])), (xd, .inl (cI, 4, .inl (fun j => nI (dig x j))))] H → va_D A [(mo, .inr (6, [.ref xo, .ref xd, .ref xf, .ref xm, .ref xr, .ref xw, .ref xs, .ref xc, .int (vm), .int (vb), .int (va), .int (vp), .ref yf, .ref yt, .int (ve), .ref ye, .ref yw, .int (vt)])), (xd, .inl (cI, 4, .inl (fun j => nI (dig x j))))] → va_S A s.heap H locs → ∀ (ls : Array Slot), lv_has ls 4 [(3, .int (nI (g.toNat))), (0, .ref mo)] → W p l e ({ frames := 2, cells := 0, slots := 0, locals := 47 } : Room) s m ([.ref mo, .int (nI (c0))] : List Value).toArray below meth c H locs 0 0 Q (F0 m 31 ls []) := by
    intro n
    induction n with
    | zero =>
      intro x g hx1 h3 h4 hg H locs hP hD hS ls hl
      have hch : chg x = false := by cases hz : chg x with | false => rfl | true => unfold tm at h4; rw [hz] at h4; exact absurd h4 (by decide)
      have hnx : nx x = x := by cases hz : nxo x with | none => unfold nx; rw [hz]; rfl | some y => unfold chg at hch; rw [hz] at hch; exact Bool.noConfusion hch
      refine lv_iload_n hx hb dX6_formed_31 rfl (lv_at hl 0 rfl) ?_
      refine n_ifeq (tgt := 43) hx hb dX6_formed_32 (by decide) (by cases g <;> decide) (fun c_6 => ?_) (fun c_6 => ?_)
      ·
        have hxf : x = form c0 := hg (by cases hz : g with | false => rfl | true => rw [hz] at c_6; exact absurd c_6 (by decide))
        have hpk := pack_eq hx1
        refine lv_aload_n hx hb dX6_formed_43 rfl (lv_at hl 1 rfl) ?_
        refine va_get (D := d) (ci := 6) (v := .ref xd) (C := RX6) (T := TX6) (N := 18) hx hb hts hin6 hown hK hP 0 rfl rfl 1 (by decide) hfl13 (fun _ h9 => h9) rfl dX6_formed_44 ?_
        refine lv_iconst (v := nI (0)) hx hb dX6_formed_47 (by decide) ?_
        refine n_iald hx hb hK hP 1 0 rfl rfl (k := 0) (by decide) (by decide) dX6_formed_48 ?_
        refine lv_bipush (v := nI (6)) hx hb dX6_formed_49 (by decide) ?_
        refine n_mul hx hb dX6_formed_51 ?_
        refine lv_aload_n hx hb dX6_formed_52 rfl (lv_at hl 1 rfl) ?_
        refine va_get (D := d) (ci := 6) (v := .ref xd) (C := RX6) (T := TX6) (N := 18) hx hb hts hin6 hown hK hP 0 rfl rfl 1 (by decide) hfl13 (fun _ h9 => h9) rfl dX6_formed_53 ?_
        refine lv_iconst (v := nI (1)) hx hb dX6_formed_56 (by decide) ?_
        refine n_iald hx hb hK hP 1 0 rfl rfl (k := 1) (by decide) (by decide) dX6_formed_57 ?_
        refine n_add hx hb dX6_formed_58 ?_
        refine lv_bipush (v := nI (6)) hx hb dX6_formed_59 (by decide) ?_
        refine n_mul hx hb dX6_formed_61 ?_
        refine lv_aload_n hx hb dX6_formed_62 rfl (lv_at hl 1 rfl) ?_
        refine va_get (D := d) (ci := 6) (v := .ref xd) (C := RX6) (T := TX6) (N := 18) hx hb hts hin6 hown hK hP 0 rfl rfl 1 (by decide) hfl13 (fun _ h9 => h9) rfl dX6_formed_63 ?_
        refine lv_iconst (v := nI (2)) hx hb dX6_formed_66 (by decide) ?_
        refine n_iald hx hb hK hP 1 0 rfl rfl (k := 2) (by decide) (by decide) dX6_formed_67 ?_
        refine n_add hx hb dX6_formed_68 ?_
        refine lv_bipush (v := nI (6)) hx hb dX6_formed_69 (by decide) ?_
        refine n_mul hx hb dX6_formed_71 ?_
        refine lv_aload_n hx hb dX6_formed_72 rfl (lv_at hl 1 rfl) ?_
        refine va_get (D := d) (ci := 6) (v := .ref xd) (C := RX6) (T := TX6) (N := 18) hx hb hts hin6 hown hK hP 0 rfl rfl 1 (by decide) hfl13 (fun _ h9 => h9) rfl dX6_formed_73 ?_
        refine lv_iconst (v := nI (3)) hx hb dX6_formed_76 (by decide) ?_
        refine n_iald hx hb hK hP 1 0 rfl rfl (k := 3) (by decide) (by decide) dX6_formed_77 ?_
        refine n_add hx hb dX6_formed_78 ?_
        refine n_top (show (nI (((((((dig x 0) * 6) + (dig x 1)) * 6) + (dig x 2)) * 6) + (dig x 3))) = nI x from congrArg nI (by omega)) ?_
        subst hQ
        rw [← hxf]
        exact W.iret (v := (nI x)) hx hb hr (fun t ht hW => ⟨⟨rfl, by rw [ht]; exact hP, hD⟩, hS.F ht⟩) hS.2.2 dX6_formed_79
      ·
        refine lv_aload_n hx hb dX6_formed_35 rfl (lv_at hl 1 rfl) ?_
        refine n_upV (As := []) (rest := []) (WC := [(mo, .inr (6, [.ref xo, .ref xd, .ref xf, .ref xm, .ref xr, .ref xw, .ref xs, .ref xc, .int (vm), .int (vb), .int (va), .int (vp), .ref yf, .ref yt, .int (ve), .ref ye, .ref yw, .int (vt)])), (xd, .inl (cI, 4, .inl (fun j => nI (dig x j))))]) (WC' := [(mo, .inr (6, [.ref xo, .ref xd, .ref xf, .ref xm, .ref xr, .ref xw, .ref xs, .ref xc, .int (vm), .int (vb), .int (va), .int (vp), .ref yf, .ref yt, .int (ve), .ref ye, .ref yw, .int (vt)])), (xd, .inl (cI, 4, .inl (fun j => nI (dig (nx x) j))))]) (wr := []) (WS' := [(mo, .inr (6, [.ref xo, .ref xd, .ref xf, .ref xm, .ref xr, .ref xw, .ref xs, .ref xc, .int (vm), .int (vb), .int (va), .int (vp), .ref yf, .ref yt, .int (ve), .ref ye, .ref yw, .int (vt)])), (xd, .inl (cI, 4, .inl (fun j => nI (dig (nx x) j))))]) ⟨hx, hb, hml, hown, hts⟩ (c_X6_uses l d cI cJ cZ mo xo xd xf xm xr xw xs xc yf yt ye yw vm vb va vp ve vt x hx1) (cwV 0 hts gX6_formed_X6_uses rfl rfl rfl (by decide +kernel) ⟨Nat.le_of_ble_eq_true rfl, Nat.le_of_ble_eq_true rfl⟩) (va_recv hK hP (ci := 6) (q0 := 0) rfl rfl) hP hD hS hA (hK) [0, 1] [] [0, 1] rfl rfl (by decide) ⟨by decide, by decide⟩ (by decide) rfl rfl hl.1 rfl (Nat.le_of_ble_eq_true rfl) dX6_formed_36 ⟨Nat.zero_le _, Nat.zero_le _⟩ (fun H locs hP hD hS => ?_)
        show W _ _ _ _ _ _ _ _ _ _ _ _ _ _ _ (F0 m _ ls (.int (nI ((chg x).toNat)) :: []))
        refine lv_istore_n (lv' := [(3, .int (nI ((chg x).toNat))), (0, .ref mo)]) hx hb dX6_formed_39 rfl hl (by decide) rfl (fun ls hl => ?_)
        refine lv_goto (tgt := 31) hx hb dX6_formed_40 (by decide) ?_
        rw [hnx] at hP hD
        rw [hch] at hl
        have hl : lv_has ls 4 [(3, .int (nI (0))), (0, .ref mo)] := hl
        refine lv_iload_n hx hb dX6_formed_31 rfl (lv_at hl 0 rfl) ?_
        refine n_ifeq (tgt := 43) hx hb dX6_formed_32 (by decide) (by decide) (fun c_7 => ?_) (fun c_7 => ?_)
        rotate_left
        · exact absurd c_7 (by decide)
        have hxf : x = form c0 := h3
        have hpk := pack_eq hx1
        refine lv_aload_n hx hb dX6_formed_43 rfl (lv_at hl 1 rfl) ?_
        refine va_get (D := d) (ci := 6) (v := .ref xd) (C := RX6) (T := TX6) (N := 18) hx hb hts hin6 hown hK hP 0 rfl rfl 1 (by decide) hfl13 (fun _ h9 => h9) rfl dX6_formed_44 ?_
        refine lv_iconst (v := nI (0)) hx hb dX6_formed_47 (by decide) ?_
        refine n_iald hx hb hK hP 1 0 rfl rfl (k := 0) (by decide) (by decide) dX6_formed_48 ?_
        refine lv_bipush (v := nI (6)) hx hb dX6_formed_49 (by decide) ?_
        refine n_mul hx hb dX6_formed_51 ?_
        refine lv_aload_n hx hb dX6_formed_52 rfl (lv_at hl 1 rfl) ?_
        refine va_get (D := d) (ci := 6) (v := .ref xd) (C := RX6) (T := TX6) (N := 18) hx hb hts hin6 hown hK hP 0 rfl rfl 1 (by decide) hfl13 (fun _ h9 => h9) rfl dX6_formed_53 ?_
        refine lv_iconst (v := nI (1)) hx hb dX6_formed_56 (by decide) ?_
        refine n_iald hx hb hK hP 1 0 rfl rfl (k := 1) (by decide) (by decide) dX6_formed_57 ?_
        refine n_add hx hb dX6_formed_58 ?_
        refine lv_bipush (v := nI (6)) hx hb dX6_formed_59 (by decide) ?_
        refine n_mul hx hb dX6_formed_61 ?_
        refine lv_aload_n hx hb dX6_formed_62 rfl (lv_at hl 1 rfl) ?_
        refine va_get (D := d) (ci := 6) (v := .ref xd) (C := RX6) (T := TX6) (N := 18) hx hb hts hin6 hown hK hP 0 rfl rfl 1 (by decide) hfl13 (fun _ h9 => h9) rfl dX6_formed_63 ?_
        refine lv_iconst (v := nI (2)) hx hb dX6_formed_66 (by decide) ?_
        refine n_iald hx hb hK hP 1 0 rfl rfl (k := 2) (by decide) (by decide) dX6_formed_67 ?_
        refine n_add hx hb dX6_formed_68 ?_
        refine lv_bipush (v := nI (6)) hx hb dX6_formed_69 (by decide) ?_
        refine n_mul hx hb dX6_formed_71 ?_
        refine lv_aload_n hx hb dX6_formed_72 rfl (lv_at hl 1 rfl) ?_
        refine va_get (D := d) (ci := 6) (v := .ref xd) (C := RX6) (T := TX6) (N := 18) hx hb hts hin6 hown hK hP 0 rfl rfl 1 (by decide) hfl13 (fun _ h9 => h9) rfl dX6_formed_73 ?_
        refine lv_iconst (v := nI (3)) hx hb dX6_formed_76 (by decide) ?_
        refine n_iald hx hb hK hP 1 0 rfl rfl (k := 3) (by decide) (by decide) dX6_formed_77 ?_
        refine n_add hx hb dX6_formed_78 ?_
        refine n_top (show (nI (((((((dig x 0) * 6) + (dig x 1)) * 6) + (dig x 2)) * 6) + (dig x 3))) = nI x from congrArg nI (by omega)) ?_
        subst hQ
        rw [← hxf]
        exact W.iret (v := (nI x)) hx hb hr (fun t ht hW => ⟨⟨rfl, by rw [ht]; exact hP, hD⟩, hS.F ht⟩) hS.2.2 dX6_formed_79
    | succ n ih =>
      intro x g hx1 h3 h4 hg H locs hP hD hS ls hl
      refine lv_iload_n hx hb dX6_formed_31 rfl (lv_at hl 0 rfl) ?_
      refine n_ifeq (tgt := 43) hx hb dX6_formed_32 (by decide) (by cases g <;> decide) (fun c_8 => ?_) (fun c_8 => ?_)
      ·
        have hxf : x = form c0 := hg (by cases hz : g with | false => rfl | true => rw [hz] at c_8; exact absurd c_8 (by decide))
        have hpk := pack_eq hx1
        refine lv_aload_n hx hb dX6_formed_43 rfl (lv_at hl 1 rfl) ?_
        refine va_get (D := d) (ci := 6) (v := .ref xd) (C := RX6) (T := TX6) (N := 18) hx hb hts hin6 hown hK hP 0 rfl rfl 1 (by decide) hfl13 (fun _ h9 => h9) rfl dX6_formed_44 ?_
        refine lv_iconst (v := nI (0)) hx hb dX6_formed_47 (by decide) ?_
        refine n_iald hx hb hK hP 1 0 rfl rfl (k := 0) (by decide) (by decide) dX6_formed_48 ?_
        refine lv_bipush (v := nI (6)) hx hb dX6_formed_49 (by decide) ?_
        refine n_mul hx hb dX6_formed_51 ?_
        refine lv_aload_n hx hb dX6_formed_52 rfl (lv_at hl 1 rfl) ?_
        refine va_get (D := d) (ci := 6) (v := .ref xd) (C := RX6) (T := TX6) (N := 18) hx hb hts hin6 hown hK hP 0 rfl rfl 1 (by decide) hfl13 (fun _ h9 => h9) rfl dX6_formed_53 ?_
        refine lv_iconst (v := nI (1)) hx hb dX6_formed_56 (by decide) ?_
        refine n_iald hx hb hK hP 1 0 rfl rfl (k := 1) (by decide) (by decide) dX6_formed_57 ?_
        refine n_add hx hb dX6_formed_58 ?_
        refine lv_bipush (v := nI (6)) hx hb dX6_formed_59 (by decide) ?_
        refine n_mul hx hb dX6_formed_61 ?_
        refine lv_aload_n hx hb dX6_formed_62 rfl (lv_at hl 1 rfl) ?_
        refine va_get (D := d) (ci := 6) (v := .ref xd) (C := RX6) (T := TX6) (N := 18) hx hb hts hin6 hown hK hP 0 rfl rfl 1 (by decide) hfl13 (fun _ h9 => h9) rfl dX6_formed_63 ?_
        refine lv_iconst (v := nI (2)) hx hb dX6_formed_66 (by decide) ?_
        refine n_iald hx hb hK hP 1 0 rfl rfl (k := 2) (by decide) (by decide) dX6_formed_67 ?_
        refine n_add hx hb dX6_formed_68 ?_
        refine lv_bipush (v := nI (6)) hx hb dX6_formed_69 (by decide) ?_
        refine n_mul hx hb dX6_formed_71 ?_
        refine lv_aload_n hx hb dX6_formed_72 rfl (lv_at hl 1 rfl) ?_
        refine va_get (D := d) (ci := 6) (v := .ref xd) (C := RX6) (T := TX6) (N := 18) hx hb hts hin6 hown hK hP 0 rfl rfl 1 (by decide) hfl13 (fun _ h9 => h9) rfl dX6_formed_73 ?_
        refine lv_iconst (v := nI (3)) hx hb dX6_formed_76 (by decide) ?_
        refine n_iald hx hb hK hP 1 0 rfl rfl (k := 3) (by decide) (by decide) dX6_formed_77 ?_
        refine n_add hx hb dX6_formed_78 ?_
        refine n_top (show (nI (((((((dig x 0) * 6) + (dig x 1)) * 6) + (dig x 2)) * 6) + (dig x 3))) = nI x from congrArg nI (by omega)) ?_
        subst hQ
        rw [← hxf]
        exact W.iret (v := (nI x)) hx hb hr (fun t ht hW => ⟨⟨rfl, by rw [ht]; exact hP, hD⟩, hS.F ht⟩) hS.2.2 dX6_formed_79
      ·
        refine lv_aload_n hx hb dX6_formed_35 rfl (lv_at hl 1 rfl) ?_
        refine n_upV (As := []) (rest := []) (WC := [(mo, .inr (6, [.ref xo, .ref xd, .ref xf, .ref xm, .ref xr, .ref xw, .ref xs, .ref xc, .int (vm), .int (vb), .int (va), .int (vp), .ref yf, .ref yt, .int (ve), .ref ye, .ref yw, .int (vt)])), (xd, .inl (cI, 4, .inl (fun j => nI (dig x j))))]) (WC' := [(mo, .inr (6, [.ref xo, .ref xd, .ref xf, .ref xm, .ref xr, .ref xw, .ref xs, .ref xc, .int (vm), .int (vb), .int (va), .int (vp), .ref yf, .ref yt, .int (ve), .ref ye, .ref yw, .int (vt)])), (xd, .inl (cI, 4, .inl (fun j => nI (dig (nx x) j))))]) (wr := []) (WS' := [(mo, .inr (6, [.ref xo, .ref xd, .ref xf, .ref xm, .ref xr, .ref xw, .ref xs, .ref xc, .int (vm), .int (vb), .int (va), .int (vp), .ref yf, .ref yt, .int (ve), .ref ye, .ref yw, .int (vt)])), (xd, .inl (cI, 4, .inl (fun j => nI (dig (nx x) j))))]) ⟨hx, hb, hml, hown, hts⟩ (c_X6_uses l d cI cJ cZ mo xo xd xf xm xr xw xs xc yf yt ye yw vm vb va vp ve vt x hx1) (cwV 0 hts gX6_formed_X6_uses rfl rfl rfl (by decide +kernel) ⟨Nat.le_of_ble_eq_true rfl, Nat.le_of_ble_eq_true rfl⟩) (va_recv hK hP (ci := 6) (q0 := 0) rfl rfl) hP hD hS hA (hK) [0, 1] [] [0, 1] rfl rfl (by decide) ⟨by decide, by decide⟩ (by decide) rfl rfl hl.1 rfl (Nat.le_of_ble_eq_true rfl) dX6_formed_36 ⟨Nat.zero_le _, Nat.zero_le _⟩ (fun H locs hP hD hS => ?_)
        show W _ _ _ _ _ _ _ _ _ _ _ _ _ _ _ (F0 m _ ls (.int (nI ((chg x).toNat)) :: []))
        refine lv_istore_n (lv' := [(3, .int (nI ((chg x).toNat))), (0, .ref mo)]) hx hb dX6_formed_39 rfl hl (by decide) rfl (fun ls hl => ?_)
        refine lv_goto (tgt := 31) hx hb dX6_formed_40 (by decide) ?_
        cases hz : chg x with
        | true =>
          rw [hz] at hl
          exact ih (nx x) true (nx_lt hx1) (by rw [← h3]; show _ = (if chg x = true then _ else _); rw [hz]; rfl) (by have h5 : (if chg x = true then tm n (nx x) else true) = true := h4; rw [hz] at h5; exact h5) (fun h => by cases h) H locs hP hD hS ls (lv_sub hl [0, 1] rfl)
        | false =>
          have hnx : nx x = x := by cases hy : nxo x with | none => unfold nx; rw [hy]; rfl | some y => unfold chg at hz; rw [hy] at hz; exact Bool.noConfusion hz
          rw [hnx] at hP hD
          rw [hz] at hl
          have hl : lv_has ls 4 [(3, .int (nI (0))), (0, .ref mo)] := hl
          refine lv_iload_n hx hb dX6_formed_31 rfl (lv_at hl 0 rfl) ?_
          refine n_ifeq (tgt := 43) hx hb dX6_formed_32 (by decide) (by decide) (fun c_9 => ?_) (fun c_9 => ?_)
          rotate_left
          · exact absurd c_9 (by decide)
          have hxf : x = form c0 := by rw [← h3]; show x = (if chg x = true then _ else _); rw [hz]; rfl
          have hpk := pack_eq hx1
          refine lv_aload_n hx hb dX6_formed_43 rfl (lv_at hl 1 rfl) ?_
          refine va_get (D := d) (ci := 6) (v := .ref xd) (C := RX6) (T := TX6) (N := 18) hx hb hts hin6 hown hK hP 0 rfl rfl 1 (by decide) hfl13 (fun _ h9 => h9) rfl dX6_formed_44 ?_
          refine lv_iconst (v := nI (0)) hx hb dX6_formed_47 (by decide) ?_
          refine n_iald hx hb hK hP 1 0 rfl rfl (k := 0) (by decide) (by decide) dX6_formed_48 ?_
          refine lv_bipush (v := nI (6)) hx hb dX6_formed_49 (by decide) ?_
          refine n_mul hx hb dX6_formed_51 ?_
          refine lv_aload_n hx hb dX6_formed_52 rfl (lv_at hl 1 rfl) ?_
          refine va_get (D := d) (ci := 6) (v := .ref xd) (C := RX6) (T := TX6) (N := 18) hx hb hts hin6 hown hK hP 0 rfl rfl 1 (by decide) hfl13 (fun _ h9 => h9) rfl dX6_formed_53 ?_
          refine lv_iconst (v := nI (1)) hx hb dX6_formed_56 (by decide) ?_
          refine n_iald hx hb hK hP 1 0 rfl rfl (k := 1) (by decide) (by decide) dX6_formed_57 ?_
          refine n_add hx hb dX6_formed_58 ?_
          refine lv_bipush (v := nI (6)) hx hb dX6_formed_59 (by decide) ?_
          refine n_mul hx hb dX6_formed_61 ?_
          refine lv_aload_n hx hb dX6_formed_62 rfl (lv_at hl 1 rfl) ?_
          refine va_get (D := d) (ci := 6) (v := .ref xd) (C := RX6) (T := TX6) (N := 18) hx hb hts hin6 hown hK hP 0 rfl rfl 1 (by decide) hfl13 (fun _ h9 => h9) rfl dX6_formed_63 ?_
          refine lv_iconst (v := nI (2)) hx hb dX6_formed_66 (by decide) ?_
          refine n_iald hx hb hK hP 1 0 rfl rfl (k := 2) (by decide) (by decide) dX6_formed_67 ?_
          refine n_add hx hb dX6_formed_68 ?_
          refine lv_bipush (v := nI (6)) hx hb dX6_formed_69 (by decide) ?_
          refine n_mul hx hb dX6_formed_71 ?_
          refine lv_aload_n hx hb dX6_formed_72 rfl (lv_at hl 1 rfl) ?_
          refine va_get (D := d) (ci := 6) (v := .ref xd) (C := RX6) (T := TX6) (N := 18) hx hb hts hin6 hown hK hP 0 rfl rfl 1 (by decide) hfl13 (fun _ h9 => h9) rfl dX6_formed_73 ?_
          refine lv_iconst (v := nI (3)) hx hb dX6_formed_76 (by decide) ?_
          refine n_iald hx hb hK hP 1 0 rfl rfl (k := 3) (by decide) (by decide) dX6_formed_77 ?_
          refine n_add hx hb dX6_formed_78 ?_
          refine n_top (show (nI (((((((dig x 0) * 6) + (dig x 1)) * 6) + (dig x 2)) * 6) + (dig x 3))) = nI x from congrArg nI (by omega)) ?_
          subst hQ
          rw [← hxf]
          exact W.iret (v := (nI x)) hx hb hr (fun t ht hW => ⟨⟨rfl, by rw [ht]; exact hP, hD⟩, hS.F ht⟩) hS.2.2 dX6_formed_79
  exact loop 40 c0 true hc rfl (tm_40 hc) (fun h => by cases h) H locs hP hD hS ls (lv_sub hl [0, 2] rfl)

set_option maxHeartbeats 4000000 in
set_option maxRecDepth 100000 in
theorem c_X6_init (l : Launch) (d : va_G) (cI cJ cZ : ClassId) (q : Nat)  : nNw (S := (Nat → Int32) × Nat × Nat × Nat × Nat × Nat × Nat × Nat × Nat × Nat × Nat × Nat × Nat) l yX6_init wsX6_init ({ frames := 3, cells := 12, slots := 9796, locals := 70 } : Room) d [(cI, .int), (cJ, .long), (cZ, .boolean)] q 6 [.null, .null, .null, .null, .null, .null, .null, .null, .int (nI (0)), .int (nI (0)), .int (nI (0)), .int (nI (0)), .null, .null, .int (nI (0)), .null, .null, .int (nI (0))] [] 12 9796 (fun u => match u with | (h1, xo, xd, xf, xm, xr, xw, xs, xc, yf, yt, ye, yw) => [(q, .inr (6, [.ref xo, .ref xd, .ref xf, .ref xm, .ref xr, .ref xw, .ref xs, .ref xc, .int (nI (0)), .int (nI (0)), .int (-1), .int (nI (0)), .ref yf, .ref yt, .int (nI (0)), .ref ye, .ref yw, .int (nI (0))])), (xo, .inl (cI, 1296, .inl (fun j => nI (form j)))), (xd, .inl (cI, 4, .inl (h1))), (xf, .inl (cI, 1296, .inl (fun _ => 0))), (xm, .inl (cZ, 1296, .inl (fun _ => 0))), (xr, .inl (cZ, 1296, .inl (fun _ => 0))), (xw, .inl (cI, 1296, .inl (fun _ => 0))), (xs, .inl (cJ, 1296, .inr (.inl (fun _ => 0)))), (xc, .inl (cI, 1296, .inl (fun _ => 0))), (yf, .inl (cI, 300, .inl (fun _ => 0))), (yt, .inl (cI, 300, .inl (fun _ => 0))), (ye, .inl (cI, 60, .inl (fun _ => 0))), (yw, .inl (cZ, 60, .inl (fun _ => 0)))]) := by
  intro sz
  refine Met.ofW (cc := cX6_init) (maxL := 2) (ret := none) (by decide) rfl ?_
  intro p e s m args below meth c s₁ B hml hv
  obtain ⟨rfl, hsz, hP, hK, hD0⟩ := hv
  have hx := B.exec
  have hb := B.bytes
  have hr := B.returns
  have hts := atoms_spec (ws := wsX6_init) B.pre
  have hown : s.vm.findClass RX6 = some m.cls := findClass_of_methodNamed B.named
  have hlocks := B.notSynchronized
  have hin : meth.name = "<init>" := (name_of_methodNamed B.named B.method).1
  have harboolean := hts (.arrayClass .boolean) (by decide +kernel)
  have harint := hts (.arrayClass .int) (by decide +kernel)
  have harlong := hts (.arrayClass .long) (by decide +kernel)
  have hfl13 := hts (.fieldLink RX6 13 "NudgelaneModel" "digits" "[I") (by decide +kernel)
  have hfl16 := hts (.fieldLink RX6 16 "NudgelaneModel" "far" "[I") (by decide +kernel)
  have hfl19 := hts (.fieldLink RX6 19 "NudgelaneModel" "isMet" "[Z") (by decide +kernel)
  have hfl23 := hts (.fieldLink RX6 23 "NudgelaneModel" "isRight" "[Z") (by decide +kernel)
  have hfl26 := hts (.fieldLink RX6 26 "NudgelaneModel" "worths" "[I") (by decide +kernel)
  have hfl29 := hts (.fieldLink RX6 29 "NudgelaneModel" "sums" "[J") (by decide +kernel)
  have hfl33 := hts (.fieldLink RX6 33 "NudgelaneModel" "counts" "[I") (by decide +kernel)
  have hfl36 := hts (.fieldLink RX6 36 "NudgelaneModel" "at" "I") (by decide +kernel)
  have hfl40 := hts (.fieldLink RX6 40 "NudgelaneModel" "froms" "[I") (by decide +kernel)
  have hfl43 := hts (.fieldLink RX6 43 "NudgelaneModel" "tos" "[I") (by decide +kernel)
  have hfl46 := hts (.fieldLink RX6 46 "NudgelaneModel" "ends" "[I") (by decide +kernel)
  have hfl49 := hts (.fieldLink RX6 49 "NudgelaneModel" "wasRight" "[Z") (by decide +kernel)
  have hfl7 := hts (.fieldLink RX6 7 "NudgelaneModel" "forms" "[I") (by decide +kernel)
  have hin6 : ∀ w ∈ u_ws RX6 TX6 18, w ∈ wsX6_init := by decide +kernel
  subst hsz
  have hD := hD0.self (sz := s.heap.size)
  generalize hAe : va_A [(q, .inr (6, [.null, .null, .null, .null, .null, .null, .null, .null, .int (nI (0)), .int (nI (0)), .int (nI (0)), .int (nI (0)), .null, .null, .int (nI (0)), .null, .null, .int (nI (0))]))] s.heap.size = A at hD ⊢
  have hA : ∀ q : Nat, s.heap.size ≤ q → A q := fun q h => by rw [← hAe]; exact Or.inr h
  have hS : va_S A s.heap s.heap [] := va_S.rf
  have hP : va_P d vwCl [(q, .inr (6, [.null, .null, .null, .null, .null, .null, .null, .null, .int (nI (0)), .int (nI (0)), .int (nI (0)), .int (nI (0)), .null, .null, .int (nI (0)), .null, .null, .int (nI (0))]))] s.heap := hP
  have hl := lv_entry ([.ref q]) (n := 2) (Nat.le_of_ble_eq_true rfl)
  rw [lg_entry_eq]
  generalize (lg_sl ([.ref q]) ++ List.replicate (2 - (lg_sl ([.ref q])).length) Slot.unset).toArray = ls at hl ⊢
  have hl : lv_has ls 2 [(0, .ref q)] := hl
  refine n_nameQ (fun Q hQ => ?_)
  refine lv_aload_n hx hb dX6_init_0 rfl (lv_at hl 0 rfl) ?_
  refine W.objInit hx hb hown (hts (.methodLink RX6 1 objectInit) (by decide +kernel)) (hts (.instanceMethod objectInit) (by decide +kernel)) (hts (.code objectInit ⟨#[0xb1]⟩ 1 none) (List.mem_of_getElem? (i := 3) rfl)) rfl (by rw [hml]; exact hl.1) rfl dX6_init_1 (Nat.le_of_ble_eq_true rfl) (Nat.le_of_ble_eq_true rfl) ?_
  refine W.eq (g2 := F0 m 4 ls []) rfl ?_
  refine lv_aload_n hx hb dX6_init_4 rfl (lv_at hl 0 rfl) ?_
  refine lv_sipush (v := nI (1296)) hx hb dX6_init_5 (by decide) ?_
  refine n_newa (atype := .int) (ty := .int) (a0 := (1296, .inl (fun _ => 0))) hx hb harint rfl hK 0 rfl (fun _ _ => rfl) hP hD hS hA (fun _ => rfl) (by decide) (Nat.le_of_ble_eq_true rfl) (Nat.le_of_ble_eq_true rfl) (Nat.le_of_ble_eq_true rfl) dX6_init_8 (fun xo H hP hD hS => ?_)
  have hP : va_P d vwCl [(q, .inr (6, [.null, .null, .null, .null, .null, .null, .null, .null, .int (nI (0)), .int (nI (0)), .int (nI (0)), .int (nI (0)), .null, .null, .int (nI (0)), .null, .null, .int (nI (0))])), (xo, .inl (cI, 1296, .inl (fun _ => 0)))] H := hP
  have hD : va_D A [(q, .inr (6, [.null, .null, .null, .null, .null, .null, .null, .null, .int (nI (0)), .int (nI (0)), .int (nI (0)), .int (nI (0)), .null, .null, .int (nI (0)), .null, .null, .int (nI (0))])), (xo, .inl (cI, 1296, .inl (fun _ => 0)))] := hD
  refine va_putF (D := d) (ci := 6) (v := .ref xo) (ty := .array .int) (C := RX6) (T := TX6) (N := 18) hx hb hts hin6 tyX6 tyX6_ok nmX6 hown hK hP hD hS 0 rfl rfl 0 (by decide) hfl7 (fun _ h9 => h9) rfl hin rfl (by decide +kernel) rfl rfl (Nat.le_of_ble_eq_true rfl) dX6_init_10 (fun H locs hP hD hS => ?_)
  have hP : va_P d vwCl [(q, .inr (6, [.ref xo, .null, .null, .null, .null, .null, .null, .null, .int (nI (0)), .int (nI (0)), .int (nI (0)), .int (nI (0)), .null, .null, .int (nI (0)), .null, .null, .int (nI (0))])), (xo, .inl (cI, 1296, .inl (fun _ => 0)))] H := hP
  have hD : va_D A [(q, .inr (6, [.ref xo, .null, .null, .null, .null, .null, .null, .null, .int (nI (0)), .int (nI (0)), .int (nI (0)), .int (nI (0)), .null, .null, .int (nI (0)), .null, .null, .int (nI (0))])), (xo, .inl (cI, 1296, .inl (fun _ => 0)))] := hD
  refine lv_aload_n hx hb dX6_init_13 rfl (lv_at hl 0 rfl) ?_
  refine lv_iconst (v := nI (4)) hx hb dX6_init_14 (by decide) ?_
  refine n_newa (atype := .int) (ty := .int) (a0 := (4, .inl (fun _ => 0))) hx hb harint rfl hK 0 rfl (fun _ _ => rfl) hP hD hS hA (fun _ => rfl) (by decide) (Nat.le_of_ble_eq_true rfl) (Nat.le_of_ble_eq_true rfl) (Nat.le_of_ble_eq_true rfl) dX6_init_15 (fun xd H hP hD hS => ?_)
  have hP : va_P d vwCl [(q, .inr (6, [.ref xo, .null, .null, .null, .null, .null, .null, .null, .int (nI (0)), .int (nI (0)), .int (nI (0)), .int (nI (0)), .null, .null, .int (nI (0)), .null, .null, .int (nI (0))])), (xo, .inl (cI, 1296, .inl (fun _ => 0))), (xd, .inl (cI, 4, .inl (fun _ => 0)))] H := hP
  have hD : va_D A [(q, .inr (6, [.ref xo, .null, .null, .null, .null, .null, .null, .null, .int (nI (0)), .int (nI (0)), .int (nI (0)), .int (nI (0)), .null, .null, .int (nI (0)), .null, .null, .int (nI (0))])), (xo, .inl (cI, 1296, .inl (fun _ => 0))), (xd, .inl (cI, 4, .inl (fun _ => 0)))] := hD
  refine va_putF (D := d) (ci := 6) (v := .ref xd) (ty := .array .int) (C := RX6) (T := TX6) (N := 18) hx hb hts hin6 tyX6 tyX6_ok nmX6 hown hK hP hD hS 0 rfl rfl 1 (by decide) hfl13 (fun _ h9 => h9) rfl hin rfl (by decide +kernel) rfl rfl (Nat.le_of_ble_eq_true rfl) dX6_init_17 (fun H locs hP hD hS => ?_)
  have hP : va_P d vwCl [(q, .inr (6, [.ref xo, .ref xd, .null, .null, .null, .null, .null, .null, .int (nI (0)), .int (nI (0)), .int (nI (0)), .int (nI (0)), .null, .null, .int (nI (0)), .null, .null, .int (nI (0))])), (xo, .inl (cI, 1296, .inl (fun _ => 0))), (xd, .inl (cI, 4, .inl (fun _ => 0)))] H := hP
  have hD : va_D A [(q, .inr (6, [.ref xo, .ref xd, .null, .null, .null, .null, .null, .null, .int (nI (0)), .int (nI (0)), .int (nI (0)), .int (nI (0)), .null, .null, .int (nI (0)), .null, .null, .int (nI (0))])), (xo, .inl (cI, 1296, .inl (fun _ => 0))), (xd, .inl (cI, 4, .inl (fun _ => 0)))] := hD
  refine lv_aload_n hx hb dX6_init_20 rfl (lv_at hl 0 rfl) ?_
  refine lv_sipush (v := nI (1296)) hx hb dX6_init_21 (by decide) ?_
  refine n_newa (atype := .int) (ty := .int) (a0 := (1296, .inl (fun _ => 0))) hx hb harint rfl hK 0 rfl (fun _ _ => rfl) hP hD hS hA (fun _ => rfl) (by decide) (Nat.le_of_ble_eq_true rfl) (Nat.le_of_ble_eq_true rfl) (Nat.le_of_ble_eq_true rfl) dX6_init_24 (fun xf H hP hD hS => ?_)
  have hP : va_P d vwCl [(q, .inr (6, [.ref xo, .ref xd, .null, .null, .null, .null, .null, .null, .int (nI (0)), .int (nI (0)), .int (nI (0)), .int (nI (0)), .null, .null, .int (nI (0)), .null, .null, .int (nI (0))])), (xo, .inl (cI, 1296, .inl (fun _ => 0))), (xd, .inl (cI, 4, .inl (fun _ => 0))), (xf, .inl (cI, 1296, .inl (fun _ => 0)))] H := hP
  have hD : va_D A [(q, .inr (6, [.ref xo, .ref xd, .null, .null, .null, .null, .null, .null, .int (nI (0)), .int (nI (0)), .int (nI (0)), .int (nI (0)), .null, .null, .int (nI (0)), .null, .null, .int (nI (0))])), (xo, .inl (cI, 1296, .inl (fun _ => 0))), (xd, .inl (cI, 4, .inl (fun _ => 0))), (xf, .inl (cI, 1296, .inl (fun _ => 0)))] := hD
  refine va_putF (D := d) (ci := 6) (v := .ref xf) (ty := .array .int) (C := RX6) (T := TX6) (N := 18) hx hb hts hin6 tyX6 tyX6_ok nmX6 hown hK hP hD hS 0 rfl rfl 2 (by decide) hfl16 (fun _ h9 => h9) rfl hin rfl (by decide +kernel) rfl rfl (Nat.le_of_ble_eq_true rfl) dX6_init_26 (fun H locs hP hD hS => ?_)
  have hP : va_P d vwCl [(q, .inr (6, [.ref xo, .ref xd, .ref xf, .null, .null, .null, .null, .null, .int (nI (0)), .int (nI (0)), .int (nI (0)), .int (nI (0)), .null, .null, .int (nI (0)), .null, .null, .int (nI (0))])), (xo, .inl (cI, 1296, .inl (fun _ => 0))), (xd, .inl (cI, 4, .inl (fun _ => 0))), (xf, .inl (cI, 1296, .inl (fun _ => 0)))] H := hP
  have hD : va_D A [(q, .inr (6, [.ref xo, .ref xd, .ref xf, .null, .null, .null, .null, .null, .int (nI (0)), .int (nI (0)), .int (nI (0)), .int (nI (0)), .null, .null, .int (nI (0)), .null, .null, .int (nI (0))])), (xo, .inl (cI, 1296, .inl (fun _ => 0))), (xd, .inl (cI, 4, .inl (fun _ => 0))), (xf, .inl (cI, 1296, .inl (fun _ => 0)))] := hD
  refine lv_aload_n hx hb dX6_init_29 rfl (lv_at hl 0 rfl) ?_
  refine lv_sipush (v := nI (1296)) hx hb dX6_init_30 (by decide) ?_
  refine n_newa (atype := .boolean) (ty := .boolean) (a0 := (1296, .inl (fun _ => 0))) hx hb harboolean rfl hK 2 rfl (fun _ _ => rfl) hP hD hS hA (fun _ => rfl) (by decide) (Nat.le_of_ble_eq_true rfl) (Nat.le_of_ble_eq_true rfl) (Nat.le_of_ble_eq_true rfl) dX6_init_33 (fun xm H hP hD hS => ?_)
  have hP : va_P d vwCl [(q, .inr (6, [.ref xo, .ref xd, .ref xf, .null, .null, .null, .null, .null, .int (nI (0)), .int (nI (0)), .int (nI (0)), .int (nI (0)), .null, .null, .int (nI (0)), .null, .null, .int (nI (0))])), (xo, .inl (cI, 1296, .inl (fun _ => 0))), (xd, .inl (cI, 4, .inl (fun _ => 0))), (xf, .inl (cI, 1296, .inl (fun _ => 0))), (xm, .inl (cZ, 1296, .inl (fun _ => 0)))] H := hP
  have hD : va_D A [(q, .inr (6, [.ref xo, .ref xd, .ref xf, .null, .null, .null, .null, .null, .int (nI (0)), .int (nI (0)), .int (nI (0)), .int (nI (0)), .null, .null, .int (nI (0)), .null, .null, .int (nI (0))])), (xo, .inl (cI, 1296, .inl (fun _ => 0))), (xd, .inl (cI, 4, .inl (fun _ => 0))), (xf, .inl (cI, 1296, .inl (fun _ => 0))), (xm, .inl (cZ, 1296, .inl (fun _ => 0)))] := hD
  refine va_putF (D := d) (ci := 6) (v := .ref xm) (ty := .array .boolean) (C := RX6) (T := TX6) (N := 18) hx hb hts hin6 tyX6 tyX6_ok nmX6 hown hK hP hD hS 0 rfl rfl 3 (by decide) hfl19 (fun _ h9 => h9) rfl hin rfl (by decide +kernel) rfl rfl (Nat.le_of_ble_eq_true rfl) dX6_init_35 (fun H locs hP hD hS => ?_)
  have hP : va_P d vwCl [(q, .inr (6, [.ref xo, .ref xd, .ref xf, .ref xm, .null, .null, .null, .null, .int (nI (0)), .int (nI (0)), .int (nI (0)), .int (nI (0)), .null, .null, .int (nI (0)), .null, .null, .int (nI (0))])), (xo, .inl (cI, 1296, .inl (fun _ => 0))), (xd, .inl (cI, 4, .inl (fun _ => 0))), (xf, .inl (cI, 1296, .inl (fun _ => 0))), (xm, .inl (cZ, 1296, .inl (fun _ => 0)))] H := hP
  have hD : va_D A [(q, .inr (6, [.ref xo, .ref xd, .ref xf, .ref xm, .null, .null, .null, .null, .int (nI (0)), .int (nI (0)), .int (nI (0)), .int (nI (0)), .null, .null, .int (nI (0)), .null, .null, .int (nI (0))])), (xo, .inl (cI, 1296, .inl (fun _ => 0))), (xd, .inl (cI, 4, .inl (fun _ => 0))), (xf, .inl (cI, 1296, .inl (fun _ => 0))), (xm, .inl (cZ, 1296, .inl (fun _ => 0)))] := hD
  refine lv_aload_n hx hb dX6_init_38 rfl (lv_at hl 0 rfl) ?_
  refine lv_sipush (v := nI (1296)) hx hb dX6_init_39 (by decide) ?_
  refine n_newa (atype := .boolean) (ty := .boolean) (a0 := (1296, .inl (fun _ => 0))) hx hb harboolean rfl hK 2 rfl (fun _ _ => rfl) hP hD hS hA (fun _ => rfl) (by decide) (Nat.le_of_ble_eq_true rfl) (Nat.le_of_ble_eq_true rfl) (Nat.le_of_ble_eq_true rfl) dX6_init_42 (fun xr H hP hD hS => ?_)
  have hP : va_P d vwCl [(q, .inr (6, [.ref xo, .ref xd, .ref xf, .ref xm, .null, .null, .null, .null, .int (nI (0)), .int (nI (0)), .int (nI (0)), .int (nI (0)), .null, .null, .int (nI (0)), .null, .null, .int (nI (0))])), (xo, .inl (cI, 1296, .inl (fun _ => 0))), (xd, .inl (cI, 4, .inl (fun _ => 0))), (xf, .inl (cI, 1296, .inl (fun _ => 0))), (xm, .inl (cZ, 1296, .inl (fun _ => 0))), (xr, .inl (cZ, 1296, .inl (fun _ => 0)))] H := hP
  have hD : va_D A [(q, .inr (6, [.ref xo, .ref xd, .ref xf, .ref xm, .null, .null, .null, .null, .int (nI (0)), .int (nI (0)), .int (nI (0)), .int (nI (0)), .null, .null, .int (nI (0)), .null, .null, .int (nI (0))])), (xo, .inl (cI, 1296, .inl (fun _ => 0))), (xd, .inl (cI, 4, .inl (fun _ => 0))), (xf, .inl (cI, 1296, .inl (fun _ => 0))), (xm, .inl (cZ, 1296, .inl (fun _ => 0))), (xr, .inl (cZ, 1296, .inl (fun _ => 0)))] := hD
  refine va_putF (D := d) (ci := 6) (v := .ref xr) (ty := .array .boolean) (C := RX6) (T := TX6) (N := 18) hx hb hts hin6 tyX6 tyX6_ok nmX6 hown hK hP hD hS 0 rfl rfl 4 (by decide) hfl23 (fun _ h9 => h9) rfl hin rfl (by decide +kernel) rfl rfl (Nat.le_of_ble_eq_true rfl) dX6_init_44 (fun H locs hP hD hS => ?_)
  have hP : va_P d vwCl [(q, .inr (6, [.ref xo, .ref xd, .ref xf, .ref xm, .ref xr, .null, .null, .null, .int (nI (0)), .int (nI (0)), .int (nI (0)), .int (nI (0)), .null, .null, .int (nI (0)), .null, .null, .int (nI (0))])), (xo, .inl (cI, 1296, .inl (fun _ => 0))), (xd, .inl (cI, 4, .inl (fun _ => 0))), (xf, .inl (cI, 1296, .inl (fun _ => 0))), (xm, .inl (cZ, 1296, .inl (fun _ => 0))), (xr, .inl (cZ, 1296, .inl (fun _ => 0)))] H := hP
  have hD : va_D A [(q, .inr (6, [.ref xo, .ref xd, .ref xf, .ref xm, .ref xr, .null, .null, .null, .int (nI (0)), .int (nI (0)), .int (nI (0)), .int (nI (0)), .null, .null, .int (nI (0)), .null, .null, .int (nI (0))])), (xo, .inl (cI, 1296, .inl (fun _ => 0))), (xd, .inl (cI, 4, .inl (fun _ => 0))), (xf, .inl (cI, 1296, .inl (fun _ => 0))), (xm, .inl (cZ, 1296, .inl (fun _ => 0))), (xr, .inl (cZ, 1296, .inl (fun _ => 0)))] := hD
  refine lv_aload_n hx hb dX6_init_47 rfl (lv_at hl 0 rfl) ?_
  refine lv_sipush (v := nI (1296)) hx hb dX6_init_48 (by decide) ?_
  refine n_newa (atype := .int) (ty := .int) (a0 := (1296, .inl (fun _ => 0))) hx hb harint rfl hK 0 rfl (fun _ _ => rfl) hP hD hS hA (fun _ => rfl) (by decide) (Nat.le_of_ble_eq_true rfl) (Nat.le_of_ble_eq_true rfl) (Nat.le_of_ble_eq_true rfl) dX6_init_51 (fun xw H hP hD hS => ?_)
  have hP : va_P d vwCl [(q, .inr (6, [.ref xo, .ref xd, .ref xf, .ref xm, .ref xr, .null, .null, .null, .int (nI (0)), .int (nI (0)), .int (nI (0)), .int (nI (0)), .null, .null, .int (nI (0)), .null, .null, .int (nI (0))])), (xo, .inl (cI, 1296, .inl (fun _ => 0))), (xd, .inl (cI, 4, .inl (fun _ => 0))), (xf, .inl (cI, 1296, .inl (fun _ => 0))), (xm, .inl (cZ, 1296, .inl (fun _ => 0))), (xr, .inl (cZ, 1296, .inl (fun _ => 0))), (xw, .inl (cI, 1296, .inl (fun _ => 0)))] H := hP
  have hD : va_D A [(q, .inr (6, [.ref xo, .ref xd, .ref xf, .ref xm, .ref xr, .null, .null, .null, .int (nI (0)), .int (nI (0)), .int (nI (0)), .int (nI (0)), .null, .null, .int (nI (0)), .null, .null, .int (nI (0))])), (xo, .inl (cI, 1296, .inl (fun _ => 0))), (xd, .inl (cI, 4, .inl (fun _ => 0))), (xf, .inl (cI, 1296, .inl (fun _ => 0))), (xm, .inl (cZ, 1296, .inl (fun _ => 0))), (xr, .inl (cZ, 1296, .inl (fun _ => 0))), (xw, .inl (cI, 1296, .inl (fun _ => 0)))] := hD
  refine va_putF (D := d) (ci := 6) (v := .ref xw) (ty := .array .int) (C := RX6) (T := TX6) (N := 18) hx hb hts hin6 tyX6 tyX6_ok nmX6 hown hK hP hD hS 0 rfl rfl 5 (by decide) hfl26 (fun _ h9 => h9) rfl hin rfl (by decide +kernel) rfl rfl (Nat.le_of_ble_eq_true rfl) dX6_init_53 (fun H locs hP hD hS => ?_)
  have hP : va_P d vwCl [(q, .inr (6, [.ref xo, .ref xd, .ref xf, .ref xm, .ref xr, .ref xw, .null, .null, .int (nI (0)), .int (nI (0)), .int (nI (0)), .int (nI (0)), .null, .null, .int (nI (0)), .null, .null, .int (nI (0))])), (xo, .inl (cI, 1296, .inl (fun _ => 0))), (xd, .inl (cI, 4, .inl (fun _ => 0))), (xf, .inl (cI, 1296, .inl (fun _ => 0))), (xm, .inl (cZ, 1296, .inl (fun _ => 0))), (xr, .inl (cZ, 1296, .inl (fun _ => 0))), (xw, .inl (cI, 1296, .inl (fun _ => 0)))] H := hP
  have hD : va_D A [(q, .inr (6, [.ref xo, .ref xd, .ref xf, .ref xm, .ref xr, .ref xw, .null, .null, .int (nI (0)), .int (nI (0)), .int (nI (0)), .int (nI (0)), .null, .null, .int (nI (0)), .null, .null, .int (nI (0))])), (xo, .inl (cI, 1296, .inl (fun _ => 0))), (xd, .inl (cI, 4, .inl (fun _ => 0))), (xf, .inl (cI, 1296, .inl (fun _ => 0))), (xm, .inl (cZ, 1296, .inl (fun _ => 0))), (xr, .inl (cZ, 1296, .inl (fun _ => 0))), (xw, .inl (cI, 1296, .inl (fun _ => 0)))] := hD
  refine lv_aload_n hx hb dX6_init_56 rfl (lv_at hl 0 rfl) ?_
  refine lv_sipush (v := nI (1296)) hx hb dX6_init_57 (by decide) ?_
  refine n_newa (atype := .long) (ty := .long) (a0 := (1296, .inr (.inl (fun _ => 0)))) hx hb harlong rfl hK 1 rfl (fun _ _ => rfl) hP hD hS hA (fun _ => rfl) (by decide) (Nat.le_of_ble_eq_true rfl) (Nat.le_of_ble_eq_true rfl) (Nat.le_of_ble_eq_true rfl) dX6_init_60 (fun xs H hP hD hS => ?_)
  have hP : va_P d vwCl [(q, .inr (6, [.ref xo, .ref xd, .ref xf, .ref xm, .ref xr, .ref xw, .null, .null, .int (nI (0)), .int (nI (0)), .int (nI (0)), .int (nI (0)), .null, .null, .int (nI (0)), .null, .null, .int (nI (0))])), (xo, .inl (cI, 1296, .inl (fun _ => 0))), (xd, .inl (cI, 4, .inl (fun _ => 0))), (xf, .inl (cI, 1296, .inl (fun _ => 0))), (xm, .inl (cZ, 1296, .inl (fun _ => 0))), (xr, .inl (cZ, 1296, .inl (fun _ => 0))), (xw, .inl (cI, 1296, .inl (fun _ => 0))), (xs, .inl (cJ, 1296, .inr (.inl (fun _ => 0))))] H := hP
  have hD : va_D A [(q, .inr (6, [.ref xo, .ref xd, .ref xf, .ref xm, .ref xr, .ref xw, .null, .null, .int (nI (0)), .int (nI (0)), .int (nI (0)), .int (nI (0)), .null, .null, .int (nI (0)), .null, .null, .int (nI (0))])), (xo, .inl (cI, 1296, .inl (fun _ => 0))), (xd, .inl (cI, 4, .inl (fun _ => 0))), (xf, .inl (cI, 1296, .inl (fun _ => 0))), (xm, .inl (cZ, 1296, .inl (fun _ => 0))), (xr, .inl (cZ, 1296, .inl (fun _ => 0))), (xw, .inl (cI, 1296, .inl (fun _ => 0))), (xs, .inl (cJ, 1296, .inr (.inl (fun _ => 0))))] := hD
  refine va_putF (D := d) (ci := 6) (v := .ref xs) (ty := .array .long) (C := RX6) (T := TX6) (N := 18) hx hb hts hin6 tyX6 tyX6_ok nmX6 hown hK hP hD hS 0 rfl rfl 6 (by decide) hfl29 (fun _ h9 => h9) rfl hin rfl (by decide +kernel) rfl rfl (Nat.le_of_ble_eq_true rfl) dX6_init_62 (fun H locs hP hD hS => ?_)
  have hP : va_P d vwCl [(q, .inr (6, [.ref xo, .ref xd, .ref xf, .ref xm, .ref xr, .ref xw, .ref xs, .null, .int (nI (0)), .int (nI (0)), .int (nI (0)), .int (nI (0)), .null, .null, .int (nI (0)), .null, .null, .int (nI (0))])), (xo, .inl (cI, 1296, .inl (fun _ => 0))), (xd, .inl (cI, 4, .inl (fun _ => 0))), (xf, .inl (cI, 1296, .inl (fun _ => 0))), (xm, .inl (cZ, 1296, .inl (fun _ => 0))), (xr, .inl (cZ, 1296, .inl (fun _ => 0))), (xw, .inl (cI, 1296, .inl (fun _ => 0))), (xs, .inl (cJ, 1296, .inr (.inl (fun _ => 0))))] H := hP
  have hD : va_D A [(q, .inr (6, [.ref xo, .ref xd, .ref xf, .ref xm, .ref xr, .ref xw, .ref xs, .null, .int (nI (0)), .int (nI (0)), .int (nI (0)), .int (nI (0)), .null, .null, .int (nI (0)), .null, .null, .int (nI (0))])), (xo, .inl (cI, 1296, .inl (fun _ => 0))), (xd, .inl (cI, 4, .inl (fun _ => 0))), (xf, .inl (cI, 1296, .inl (fun _ => 0))), (xm, .inl (cZ, 1296, .inl (fun _ => 0))), (xr, .inl (cZ, 1296, .inl (fun _ => 0))), (xw, .inl (cI, 1296, .inl (fun _ => 0))), (xs, .inl (cJ, 1296, .inr (.inl (fun _ => 0))))] := hD
  refine lv_aload_n hx hb dX6_init_65 rfl (lv_at hl 0 rfl) ?_
  refine lv_sipush (v := nI (1296)) hx hb dX6_init_66 (by decide) ?_
  refine n_newa (atype := .int) (ty := .int) (a0 := (1296, .inl (fun _ => 0))) hx hb harint rfl hK 0 rfl (fun _ _ => rfl) hP hD hS hA (fun _ => rfl) (by decide) (Nat.le_of_ble_eq_true rfl) (Nat.le_of_ble_eq_true rfl) (Nat.le_of_ble_eq_true rfl) dX6_init_69 (fun xc H hP hD hS => ?_)
  have hP : va_P d vwCl [(q, .inr (6, [.ref xo, .ref xd, .ref xf, .ref xm, .ref xr, .ref xw, .ref xs, .null, .int (nI (0)), .int (nI (0)), .int (nI (0)), .int (nI (0)), .null, .null, .int (nI (0)), .null, .null, .int (nI (0))])), (xo, .inl (cI, 1296, .inl (fun _ => 0))), (xd, .inl (cI, 4, .inl (fun _ => 0))), (xf, .inl (cI, 1296, .inl (fun _ => 0))), (xm, .inl (cZ, 1296, .inl (fun _ => 0))), (xr, .inl (cZ, 1296, .inl (fun _ => 0))), (xw, .inl (cI, 1296, .inl (fun _ => 0))), (xs, .inl (cJ, 1296, .inr (.inl (fun _ => 0)))), (xc, .inl (cI, 1296, .inl (fun _ => 0)))] H := hP
  have hD : va_D A [(q, .inr (6, [.ref xo, .ref xd, .ref xf, .ref xm, .ref xr, .ref xw, .ref xs, .null, .int (nI (0)), .int (nI (0)), .int (nI (0)), .int (nI (0)), .null, .null, .int (nI (0)), .null, .null, .int (nI (0))])), (xo, .inl (cI, 1296, .inl (fun _ => 0))), (xd, .inl (cI, 4, .inl (fun _ => 0))), (xf, .inl (cI, 1296, .inl (fun _ => 0))), (xm, .inl (cZ, 1296, .inl (fun _ => 0))), (xr, .inl (cZ, 1296, .inl (fun _ => 0))), (xw, .inl (cI, 1296, .inl (fun _ => 0))), (xs, .inl (cJ, 1296, .inr (.inl (fun _ => 0)))), (xc, .inl (cI, 1296, .inl (fun _ => 0)))] := hD
  refine va_putF (D := d) (ci := 6) (v := .ref xc) (ty := .array .int) (C := RX6) (T := TX6) (N := 18) hx hb hts hin6 tyX6 tyX6_ok nmX6 hown hK hP hD hS 0 rfl rfl 7 (by decide) hfl33 (fun _ h9 => h9) rfl hin rfl (by decide +kernel) rfl rfl (Nat.le_of_ble_eq_true rfl) dX6_init_71 (fun H locs hP hD hS => ?_)
  have hP : va_P d vwCl [(q, .inr (6, [.ref xo, .ref xd, .ref xf, .ref xm, .ref xr, .ref xw, .ref xs, .ref xc, .int (nI (0)), .int (nI (0)), .int (nI (0)), .int (nI (0)), .null, .null, .int (nI (0)), .null, .null, .int (nI (0))])), (xo, .inl (cI, 1296, .inl (fun _ => 0))), (xd, .inl (cI, 4, .inl (fun _ => 0))), (xf, .inl (cI, 1296, .inl (fun _ => 0))), (xm, .inl (cZ, 1296, .inl (fun _ => 0))), (xr, .inl (cZ, 1296, .inl (fun _ => 0))), (xw, .inl (cI, 1296, .inl (fun _ => 0))), (xs, .inl (cJ, 1296, .inr (.inl (fun _ => 0)))), (xc, .inl (cI, 1296, .inl (fun _ => 0)))] H := hP
  have hD : va_D A [(q, .inr (6, [.ref xo, .ref xd, .ref xf, .ref xm, .ref xr, .ref xw, .ref xs, .ref xc, .int (nI (0)), .int (nI (0)), .int (nI (0)), .int (nI (0)), .null, .null, .int (nI (0)), .null, .null, .int (nI (0))])), (xo, .inl (cI, 1296, .inl (fun _ => 0))), (xd, .inl (cI, 4, .inl (fun _ => 0))), (xf, .inl (cI, 1296, .inl (fun _ => 0))), (xm, .inl (cZ, 1296, .inl (fun _ => 0))), (xr, .inl (cZ, 1296, .inl (fun _ => 0))), (xw, .inl (cI, 1296, .inl (fun _ => 0))), (xs, .inl (cJ, 1296, .inr (.inl (fun _ => 0)))), (xc, .inl (cI, 1296, .inl (fun _ => 0)))] := hD
  refine lv_aload_n hx hb dX6_init_74 rfl (lv_at hl 0 rfl) ?_
  refine lv_iconst (v := (-1)) hx hb dX6_init_75 (by decide) ?_
  refine va_put (D := d) (ci := 6) (v := .int (-1)) (ty := .int) (C := RX6) (T := TX6) (N := 18) hx hb hts hin6 tyX6 tyX6_ok nmX6 hown hK hP hD hS 0 rfl rfl 10 (by decide) hfl36 (fun _ h9 => h9) rfl (by decide +kernel) rfl rfl (Nat.le_of_ble_eq_true rfl) dX6_init_76 (fun H locs hP hD hS => ?_)
  have hP : va_P d vwCl [(q, .inr (6, [.ref xo, .ref xd, .ref xf, .ref xm, .ref xr, .ref xw, .ref xs, .ref xc, .int (nI (0)), .int (nI (0)), .int (-1), .int (nI (0)), .null, .null, .int (nI (0)), .null, .null, .int (nI (0))])), (xo, .inl (cI, 1296, .inl (fun _ => 0))), (xd, .inl (cI, 4, .inl (fun _ => 0))), (xf, .inl (cI, 1296, .inl (fun _ => 0))), (xm, .inl (cZ, 1296, .inl (fun _ => 0))), (xr, .inl (cZ, 1296, .inl (fun _ => 0))), (xw, .inl (cI, 1296, .inl (fun _ => 0))), (xs, .inl (cJ, 1296, .inr (.inl (fun _ => 0)))), (xc, .inl (cI, 1296, .inl (fun _ => 0)))] H := hP
  have hD : va_D A [(q, .inr (6, [.ref xo, .ref xd, .ref xf, .ref xm, .ref xr, .ref xw, .ref xs, .ref xc, .int (nI (0)), .int (nI (0)), .int (-1), .int (nI (0)), .null, .null, .int (nI (0)), .null, .null, .int (nI (0))])), (xo, .inl (cI, 1296, .inl (fun _ => 0))), (xd, .inl (cI, 4, .inl (fun _ => 0))), (xf, .inl (cI, 1296, .inl (fun _ => 0))), (xm, .inl (cZ, 1296, .inl (fun _ => 0))), (xr, .inl (cZ, 1296, .inl (fun _ => 0))), (xw, .inl (cI, 1296, .inl (fun _ => 0))), (xs, .inl (cJ, 1296, .inr (.inl (fun _ => 0)))), (xc, .inl (cI, 1296, .inl (fun _ => 0)))] := hD
  refine lv_aload_n hx hb dX6_init_79 rfl (lv_at hl 0 rfl) ?_
  refine lv_sipush (v := nI (300)) hx hb dX6_init_80 (by decide) ?_
  refine n_newa (atype := .int) (ty := .int) (a0 := (300, .inl (fun _ => 0))) hx hb harint rfl hK 0 rfl (fun _ _ => rfl) hP hD hS hA (fun _ => rfl) (by decide) (Nat.le_of_ble_eq_true rfl) (Nat.le_of_ble_eq_true rfl) (Nat.le_of_ble_eq_true rfl) dX6_init_83 (fun yf H hP hD hS => ?_)
  have hP : va_P d vwCl [(q, .inr (6, [.ref xo, .ref xd, .ref xf, .ref xm, .ref xr, .ref xw, .ref xs, .ref xc, .int (nI (0)), .int (nI (0)), .int (-1), .int (nI (0)), .null, .null, .int (nI (0)), .null, .null, .int (nI (0))])), (xo, .inl (cI, 1296, .inl (fun _ => 0))), (xd, .inl (cI, 4, .inl (fun _ => 0))), (xf, .inl (cI, 1296, .inl (fun _ => 0))), (xm, .inl (cZ, 1296, .inl (fun _ => 0))), (xr, .inl (cZ, 1296, .inl (fun _ => 0))), (xw, .inl (cI, 1296, .inl (fun _ => 0))), (xs, .inl (cJ, 1296, .inr (.inl (fun _ => 0)))), (xc, .inl (cI, 1296, .inl (fun _ => 0))), (yf, .inl (cI, 300, .inl (fun _ => 0)))] H := hP
  have hD : va_D A [(q, .inr (6, [.ref xo, .ref xd, .ref xf, .ref xm, .ref xr, .ref xw, .ref xs, .ref xc, .int (nI (0)), .int (nI (0)), .int (-1), .int (nI (0)), .null, .null, .int (nI (0)), .null, .null, .int (nI (0))])), (xo, .inl (cI, 1296, .inl (fun _ => 0))), (xd, .inl (cI, 4, .inl (fun _ => 0))), (xf, .inl (cI, 1296, .inl (fun _ => 0))), (xm, .inl (cZ, 1296, .inl (fun _ => 0))), (xr, .inl (cZ, 1296, .inl (fun _ => 0))), (xw, .inl (cI, 1296, .inl (fun _ => 0))), (xs, .inl (cJ, 1296, .inr (.inl (fun _ => 0)))), (xc, .inl (cI, 1296, .inl (fun _ => 0))), (yf, .inl (cI, 300, .inl (fun _ => 0)))] := hD
  refine va_putF (D := d) (ci := 6) (v := .ref yf) (ty := .array .int) (C := RX6) (T := TX6) (N := 18) hx hb hts hin6 tyX6 tyX6_ok nmX6 hown hK hP hD hS 0 rfl rfl 12 (by decide) hfl40 (fun _ h9 => h9) rfl hin rfl (by decide +kernel) rfl rfl (Nat.le_of_ble_eq_true rfl) dX6_init_85 (fun H locs hP hD hS => ?_)
  have hP : va_P d vwCl [(q, .inr (6, [.ref xo, .ref xd, .ref xf, .ref xm, .ref xr, .ref xw, .ref xs, .ref xc, .int (nI (0)), .int (nI (0)), .int (-1), .int (nI (0)), .ref yf, .null, .int (nI (0)), .null, .null, .int (nI (0))])), (xo, .inl (cI, 1296, .inl (fun _ => 0))), (xd, .inl (cI, 4, .inl (fun _ => 0))), (xf, .inl (cI, 1296, .inl (fun _ => 0))), (xm, .inl (cZ, 1296, .inl (fun _ => 0))), (xr, .inl (cZ, 1296, .inl (fun _ => 0))), (xw, .inl (cI, 1296, .inl (fun _ => 0))), (xs, .inl (cJ, 1296, .inr (.inl (fun _ => 0)))), (xc, .inl (cI, 1296, .inl (fun _ => 0))), (yf, .inl (cI, 300, .inl (fun _ => 0)))] H := hP
  have hD : va_D A [(q, .inr (6, [.ref xo, .ref xd, .ref xf, .ref xm, .ref xr, .ref xw, .ref xs, .ref xc, .int (nI (0)), .int (nI (0)), .int (-1), .int (nI (0)), .ref yf, .null, .int (nI (0)), .null, .null, .int (nI (0))])), (xo, .inl (cI, 1296, .inl (fun _ => 0))), (xd, .inl (cI, 4, .inl (fun _ => 0))), (xf, .inl (cI, 1296, .inl (fun _ => 0))), (xm, .inl (cZ, 1296, .inl (fun _ => 0))), (xr, .inl (cZ, 1296, .inl (fun _ => 0))), (xw, .inl (cI, 1296, .inl (fun _ => 0))), (xs, .inl (cJ, 1296, .inr (.inl (fun _ => 0)))), (xc, .inl (cI, 1296, .inl (fun _ => 0))), (yf, .inl (cI, 300, .inl (fun _ => 0)))] := hD
  refine lv_aload_n hx hb dX6_init_88 rfl (lv_at hl 0 rfl) ?_
  refine lv_sipush (v := nI (300)) hx hb dX6_init_89 (by decide) ?_
  refine n_newa (atype := .int) (ty := .int) (a0 := (300, .inl (fun _ => 0))) hx hb harint rfl hK 0 rfl (fun _ _ => rfl) hP hD hS hA (fun _ => rfl) (by decide) (Nat.le_of_ble_eq_true rfl) (Nat.le_of_ble_eq_true rfl) (Nat.le_of_ble_eq_true rfl) dX6_init_92 (fun yt H hP hD hS => ?_)
  have hP : va_P d vwCl [(q, .inr (6, [.ref xo, .ref xd, .ref xf, .ref xm, .ref xr, .ref xw, .ref xs, .ref xc, .int (nI (0)), .int (nI (0)), .int (-1), .int (nI (0)), .ref yf, .null, .int (nI (0)), .null, .null, .int (nI (0))])), (xo, .inl (cI, 1296, .inl (fun _ => 0))), (xd, .inl (cI, 4, .inl (fun _ => 0))), (xf, .inl (cI, 1296, .inl (fun _ => 0))), (xm, .inl (cZ, 1296, .inl (fun _ => 0))), (xr, .inl (cZ, 1296, .inl (fun _ => 0))), (xw, .inl (cI, 1296, .inl (fun _ => 0))), (xs, .inl (cJ, 1296, .inr (.inl (fun _ => 0)))), (xc, .inl (cI, 1296, .inl (fun _ => 0))), (yf, .inl (cI, 300, .inl (fun _ => 0))), (yt, .inl (cI, 300, .inl (fun _ => 0)))] H := hP
  have hD : va_D A [(q, .inr (6, [.ref xo, .ref xd, .ref xf, .ref xm, .ref xr, .ref xw, .ref xs, .ref xc, .int (nI (0)), .int (nI (0)), .int (-1), .int (nI (0)), .ref yf, .null, .int (nI (0)), .null, .null, .int (nI (0))])), (xo, .inl (cI, 1296, .inl (fun _ => 0))), (xd, .inl (cI, 4, .inl (fun _ => 0))), (xf, .inl (cI, 1296, .inl (fun _ => 0))), (xm, .inl (cZ, 1296, .inl (fun _ => 0))), (xr, .inl (cZ, 1296, .inl (fun _ => 0))), (xw, .inl (cI, 1296, .inl (fun _ => 0))), (xs, .inl (cJ, 1296, .inr (.inl (fun _ => 0)))), (xc, .inl (cI, 1296, .inl (fun _ => 0))), (yf, .inl (cI, 300, .inl (fun _ => 0))), (yt, .inl (cI, 300, .inl (fun _ => 0)))] := hD
  refine va_putF (D := d) (ci := 6) (v := .ref yt) (ty := .array .int) (C := RX6) (T := TX6) (N := 18) hx hb hts hin6 tyX6 tyX6_ok nmX6 hown hK hP hD hS 0 rfl rfl 13 (by decide) hfl43 (fun _ h9 => h9) rfl hin rfl (by decide +kernel) rfl rfl (Nat.le_of_ble_eq_true rfl) dX6_init_94 (fun H locs hP hD hS => ?_)
  have hP : va_P d vwCl [(q, .inr (6, [.ref xo, .ref xd, .ref xf, .ref xm, .ref xr, .ref xw, .ref xs, .ref xc, .int (nI (0)), .int (nI (0)), .int (-1), .int (nI (0)), .ref yf, .ref yt, .int (nI (0)), .null, .null, .int (nI (0))])), (xo, .inl (cI, 1296, .inl (fun _ => 0))), (xd, .inl (cI, 4, .inl (fun _ => 0))), (xf, .inl (cI, 1296, .inl (fun _ => 0))), (xm, .inl (cZ, 1296, .inl (fun _ => 0))), (xr, .inl (cZ, 1296, .inl (fun _ => 0))), (xw, .inl (cI, 1296, .inl (fun _ => 0))), (xs, .inl (cJ, 1296, .inr (.inl (fun _ => 0)))), (xc, .inl (cI, 1296, .inl (fun _ => 0))), (yf, .inl (cI, 300, .inl (fun _ => 0))), (yt, .inl (cI, 300, .inl (fun _ => 0)))] H := hP
  have hD : va_D A [(q, .inr (6, [.ref xo, .ref xd, .ref xf, .ref xm, .ref xr, .ref xw, .ref xs, .ref xc, .int (nI (0)), .int (nI (0)), .int (-1), .int (nI (0)), .ref yf, .ref yt, .int (nI (0)), .null, .null, .int (nI (0))])), (xo, .inl (cI, 1296, .inl (fun _ => 0))), (xd, .inl (cI, 4, .inl (fun _ => 0))), (xf, .inl (cI, 1296, .inl (fun _ => 0))), (xm, .inl (cZ, 1296, .inl (fun _ => 0))), (xr, .inl (cZ, 1296, .inl (fun _ => 0))), (xw, .inl (cI, 1296, .inl (fun _ => 0))), (xs, .inl (cJ, 1296, .inr (.inl (fun _ => 0)))), (xc, .inl (cI, 1296, .inl (fun _ => 0))), (yf, .inl (cI, 300, .inl (fun _ => 0))), (yt, .inl (cI, 300, .inl (fun _ => 0)))] := hD
  refine lv_aload_n hx hb dX6_init_97 rfl (lv_at hl 0 rfl) ?_
  refine lv_bipush (v := nI (60)) hx hb dX6_init_98 (by decide) ?_
  refine n_newa (atype := .int) (ty := .int) (a0 := (60, .inl (fun _ => 0))) hx hb harint rfl hK 0 rfl (fun _ _ => rfl) hP hD hS hA (fun _ => rfl) (by decide) (Nat.le_of_ble_eq_true rfl) (Nat.le_of_ble_eq_true rfl) (Nat.le_of_ble_eq_true rfl) dX6_init_100 (fun ye H hP hD hS => ?_)
  have hP : va_P d vwCl [(q, .inr (6, [.ref xo, .ref xd, .ref xf, .ref xm, .ref xr, .ref xw, .ref xs, .ref xc, .int (nI (0)), .int (nI (0)), .int (-1), .int (nI (0)), .ref yf, .ref yt, .int (nI (0)), .null, .null, .int (nI (0))])), (xo, .inl (cI, 1296, .inl (fun _ => 0))), (xd, .inl (cI, 4, .inl (fun _ => 0))), (xf, .inl (cI, 1296, .inl (fun _ => 0))), (xm, .inl (cZ, 1296, .inl (fun _ => 0))), (xr, .inl (cZ, 1296, .inl (fun _ => 0))), (xw, .inl (cI, 1296, .inl (fun _ => 0))), (xs, .inl (cJ, 1296, .inr (.inl (fun _ => 0)))), (xc, .inl (cI, 1296, .inl (fun _ => 0))), (yf, .inl (cI, 300, .inl (fun _ => 0))), (yt, .inl (cI, 300, .inl (fun _ => 0))), (ye, .inl (cI, 60, .inl (fun _ => 0)))] H := hP
  have hD : va_D A [(q, .inr (6, [.ref xo, .ref xd, .ref xf, .ref xm, .ref xr, .ref xw, .ref xs, .ref xc, .int (nI (0)), .int (nI (0)), .int (-1), .int (nI (0)), .ref yf, .ref yt, .int (nI (0)), .null, .null, .int (nI (0))])), (xo, .inl (cI, 1296, .inl (fun _ => 0))), (xd, .inl (cI, 4, .inl (fun _ => 0))), (xf, .inl (cI, 1296, .inl (fun _ => 0))), (xm, .inl (cZ, 1296, .inl (fun _ => 0))), (xr, .inl (cZ, 1296, .inl (fun _ => 0))), (xw, .inl (cI, 1296, .inl (fun _ => 0))), (xs, .inl (cJ, 1296, .inr (.inl (fun _ => 0)))), (xc, .inl (cI, 1296, .inl (fun _ => 0))), (yf, .inl (cI, 300, .inl (fun _ => 0))), (yt, .inl (cI, 300, .inl (fun _ => 0))), (ye, .inl (cI, 60, .inl (fun _ => 0)))] := hD
  refine va_putF (D := d) (ci := 6) (v := .ref ye) (ty := .array .int) (C := RX6) (T := TX6) (N := 18) hx hb hts hin6 tyX6 tyX6_ok nmX6 hown hK hP hD hS 0 rfl rfl 15 (by decide) hfl46 (fun _ h9 => h9) rfl hin rfl (by decide +kernel) rfl rfl (Nat.le_of_ble_eq_true rfl) dX6_init_102 (fun H locs hP hD hS => ?_)
  have hP : va_P d vwCl [(q, .inr (6, [.ref xo, .ref xd, .ref xf, .ref xm, .ref xr, .ref xw, .ref xs, .ref xc, .int (nI (0)), .int (nI (0)), .int (-1), .int (nI (0)), .ref yf, .ref yt, .int (nI (0)), .ref ye, .null, .int (nI (0))])), (xo, .inl (cI, 1296, .inl (fun _ => 0))), (xd, .inl (cI, 4, .inl (fun _ => 0))), (xf, .inl (cI, 1296, .inl (fun _ => 0))), (xm, .inl (cZ, 1296, .inl (fun _ => 0))), (xr, .inl (cZ, 1296, .inl (fun _ => 0))), (xw, .inl (cI, 1296, .inl (fun _ => 0))), (xs, .inl (cJ, 1296, .inr (.inl (fun _ => 0)))), (xc, .inl (cI, 1296, .inl (fun _ => 0))), (yf, .inl (cI, 300, .inl (fun _ => 0))), (yt, .inl (cI, 300, .inl (fun _ => 0))), (ye, .inl (cI, 60, .inl (fun _ => 0)))] H := hP
  have hD : va_D A [(q, .inr (6, [.ref xo, .ref xd, .ref xf, .ref xm, .ref xr, .ref xw, .ref xs, .ref xc, .int (nI (0)), .int (nI (0)), .int (-1), .int (nI (0)), .ref yf, .ref yt, .int (nI (0)), .ref ye, .null, .int (nI (0))])), (xo, .inl (cI, 1296, .inl (fun _ => 0))), (xd, .inl (cI, 4, .inl (fun _ => 0))), (xf, .inl (cI, 1296, .inl (fun _ => 0))), (xm, .inl (cZ, 1296, .inl (fun _ => 0))), (xr, .inl (cZ, 1296, .inl (fun _ => 0))), (xw, .inl (cI, 1296, .inl (fun _ => 0))), (xs, .inl (cJ, 1296, .inr (.inl (fun _ => 0)))), (xc, .inl (cI, 1296, .inl (fun _ => 0))), (yf, .inl (cI, 300, .inl (fun _ => 0))), (yt, .inl (cI, 300, .inl (fun _ => 0))), (ye, .inl (cI, 60, .inl (fun _ => 0)))] := hD
  refine lv_aload_n hx hb dX6_init_105 rfl (lv_at hl 0 rfl) ?_
  refine lv_bipush (v := nI (60)) hx hb dX6_init_106 (by decide) ?_
  refine n_newa (atype := .boolean) (ty := .boolean) (a0 := (60, .inl (fun _ => 0))) hx hb harboolean rfl hK 2 rfl (fun _ _ => rfl) hP hD hS hA (fun _ => rfl) (by decide) (Nat.le_of_ble_eq_true rfl) (Nat.le_of_ble_eq_true rfl) (Nat.le_of_ble_eq_true rfl) dX6_init_108 (fun yw H hP hD hS => ?_)
  have hP : va_P d vwCl [(q, .inr (6, [.ref xo, .ref xd, .ref xf, .ref xm, .ref xr, .ref xw, .ref xs, .ref xc, .int (nI (0)), .int (nI (0)), .int (-1), .int (nI (0)), .ref yf, .ref yt, .int (nI (0)), .ref ye, .null, .int (nI (0))])), (xo, .inl (cI, 1296, .inl (fun _ => 0))), (xd, .inl (cI, 4, .inl (fun _ => 0))), (xf, .inl (cI, 1296, .inl (fun _ => 0))), (xm, .inl (cZ, 1296, .inl (fun _ => 0))), (xr, .inl (cZ, 1296, .inl (fun _ => 0))), (xw, .inl (cI, 1296, .inl (fun _ => 0))), (xs, .inl (cJ, 1296, .inr (.inl (fun _ => 0)))), (xc, .inl (cI, 1296, .inl (fun _ => 0))), (yf, .inl (cI, 300, .inl (fun _ => 0))), (yt, .inl (cI, 300, .inl (fun _ => 0))), (ye, .inl (cI, 60, .inl (fun _ => 0))), (yw, .inl (cZ, 60, .inl (fun _ => 0)))] H := hP
  have hD : va_D A [(q, .inr (6, [.ref xo, .ref xd, .ref xf, .ref xm, .ref xr, .ref xw, .ref xs, .ref xc, .int (nI (0)), .int (nI (0)), .int (-1), .int (nI (0)), .ref yf, .ref yt, .int (nI (0)), .ref ye, .null, .int (nI (0))])), (xo, .inl (cI, 1296, .inl (fun _ => 0))), (xd, .inl (cI, 4, .inl (fun _ => 0))), (xf, .inl (cI, 1296, .inl (fun _ => 0))), (xm, .inl (cZ, 1296, .inl (fun _ => 0))), (xr, .inl (cZ, 1296, .inl (fun _ => 0))), (xw, .inl (cI, 1296, .inl (fun _ => 0))), (xs, .inl (cJ, 1296, .inr (.inl (fun _ => 0)))), (xc, .inl (cI, 1296, .inl (fun _ => 0))), (yf, .inl (cI, 300, .inl (fun _ => 0))), (yt, .inl (cI, 300, .inl (fun _ => 0))), (ye, .inl (cI, 60, .inl (fun _ => 0))), (yw, .inl (cZ, 60, .inl (fun _ => 0)))] := hD
  refine va_putF (D := d) (ci := 6) (v := .ref yw) (ty := .array .boolean) (C := RX6) (T := TX6) (N := 18) hx hb hts hin6 tyX6 tyX6_ok nmX6 hown hK hP hD hS 0 rfl rfl 16 (by decide) hfl49 (fun _ h9 => h9) rfl hin rfl (by decide +kernel) rfl rfl (Nat.le_of_ble_eq_true rfl) dX6_init_110 (fun H locs hP hD hS => ?_)
  have hP : va_P d vwCl [(q, .inr (6, [.ref xo, .ref xd, .ref xf, .ref xm, .ref xr, .ref xw, .ref xs, .ref xc, .int (nI (0)), .int (nI (0)), .int (-1), .int (nI (0)), .ref yf, .ref yt, .int (nI (0)), .ref ye, .ref yw, .int (nI (0))])), (xo, .inl (cI, 1296, .inl (fun _ => 0))), (xd, .inl (cI, 4, .inl (fun _ => 0))), (xf, .inl (cI, 1296, .inl (fun _ => 0))), (xm, .inl (cZ, 1296, .inl (fun _ => 0))), (xr, .inl (cZ, 1296, .inl (fun _ => 0))), (xw, .inl (cI, 1296, .inl (fun _ => 0))), (xs, .inl (cJ, 1296, .inr (.inl (fun _ => 0)))), (xc, .inl (cI, 1296, .inl (fun _ => 0))), (yf, .inl (cI, 300, .inl (fun _ => 0))), (yt, .inl (cI, 300, .inl (fun _ => 0))), (ye, .inl (cI, 60, .inl (fun _ => 0))), (yw, .inl (cZ, 60, .inl (fun _ => 0)))] H := hP
  have hD : va_D A [(q, .inr (6, [.ref xo, .ref xd, .ref xf, .ref xm, .ref xr, .ref xw, .ref xs, .ref xc, .int (nI (0)), .int (nI (0)), .int (-1), .int (nI (0)), .ref yf, .ref yt, .int (nI (0)), .ref ye, .ref yw, .int (nI (0))])), (xo, .inl (cI, 1296, .inl (fun _ => 0))), (xd, .inl (cI, 4, .inl (fun _ => 0))), (xf, .inl (cI, 1296, .inl (fun _ => 0))), (xm, .inl (cZ, 1296, .inl (fun _ => 0))), (xr, .inl (cZ, 1296, .inl (fun _ => 0))), (xw, .inl (cI, 1296, .inl (fun _ => 0))), (xs, .inl (cJ, 1296, .inr (.inl (fun _ => 0)))), (xc, .inl (cI, 1296, .inl (fun _ => 0))), (yf, .inl (cI, 300, .inl (fun _ => 0))), (yt, .inl (cI, 300, .inl (fun _ => 0))), (ye, .inl (cI, 60, .inl (fun _ => 0))), (yw, .inl (cZ, 60, .inl (fun _ => 0)))] := hD
  refine lv_iconst (v := nI (0)) hx hb dX6_init_113 (by decide) ?_
  refine lv_istore_n (lv' := [(1, .int (nI (0))), (0, .ref q)]) hx hb dX6_init_114 rfl hl (by decide) rfl (fun ls hl => ?_)
  refine W.widen (k := 12) (n := 9796) (Nat.le_of_ble_eq_true rfl) (Nat.le_of_ble_eq_true rfl) ?_
  have loop : ∀ (n k : Nat) (g1 h1 : Nat → Int32), k + n = 1296 → (∀ j, j < k → g1 j = nI (form j)) → ∀ (H : Heap) (locs : List Loc), va_P d vwCl [(q, .inr (6, [.ref xo, .ref xd, .ref xf, .ref xm, .ref xr, .ref xw, .ref xs, .ref xc, .int (nI (0)), .int (nI (0)), .int (-1), .int (nI (0)), .ref yf, .ref yt, .int (nI (0)), .ref ye, .ref yw, .int (nI (0))])), (xo, .inl (cI, 1296, .inl (g1))), (xd, .inl (cI, 4, .inl (h1))), (xf, .inl (cI, 1296, .inl (fun _ => 0))), (xm, .inl (cZ, 1296, .inl (fun _ => 0))), (xr, .inl (cZ, 1296, .inl (fun _ => 0))), (xw, .inl (cI, 1296, .inl (fun _ => 0))), (xs, .inl (cJ, 1296, .inr (.inl (fun _ => 0)))), (xc, .inl (cI, 1296, .inl (fun _ => 0))), (yf, .inl (cI, 300, .inl (fun _ => 0))), (yt, .inl (cI, 300, .inl (fun _ => 0))), (ye, .inl (cI, 60, .inl (fun _ => 0))), (yw, .inl (cZ, 60, .inl (fun _ => 0)))] H → va_D A [(q, .inr (6, [.ref xo, .ref xd, .ref xf, .ref xm, .ref xr, .ref xw, .ref xs, .ref xc, .int (nI (0)), .int (nI (0)), .int (-1), .int (nI (0)), .ref yf, .ref yt, .int (nI (0)), .ref ye, .ref yw, .int (nI (0))])), (xo, .inl (cI, 1296, .inl (g1))), (xd, .inl (cI, 4, .inl (h1))), (xf, .inl (cI, 1296, .inl (fun _ => 0))), (xm, .inl (cZ, 1296, .inl (fun _ => 0))), (xr, .inl (cZ, 1296, .inl (fun _ => 0))), (xw, .inl (cI, 1296, .inl (fun _ => 0))), (xs, .inl (cJ, 1296, .inr (.inl (fun _ => 0)))), (xc, .inl (cI, 1296, .inl (fun _ => 0))), (yf, .inl (cI, 300, .inl (fun _ => 0))), (yt, .inl (cI, 300, .inl (fun _ => 0))), (ye, .inl (cI, 60, .inl (fun _ => 0))), (yw, .inl (cZ, 60, .inl (fun _ => 0)))] → va_S A s.heap H locs → ∀ (ls : Array Slot), lv_has ls 2 [(1, .int (nI (k))), (0, .ref q)] → W p l e ({ frames := 3, cells := 12, slots := 9796, locals := 70 } : Room) s m ([.ref q] : List Value).toArray below meth c H locs 12 9796 Q (F0 m 115 ls []) := by
    intro n
    induction n with
    | zero =>
      intro k g1 h1 hk hg H locs hP hD hS ls hl
      refine lv_iload_n hx hb dX6_init_115 rfl (lv_at hl 0 rfl) ?_
      refine lv_sipush (v := nI (1296)) hx hb dX6_init_116 (by decide) ?_
      refine n_icmp_ge (tgt := 139) hx hb dX6_init_119 (by decide) (by omega) (by omega) (fun c_1 => ?_) (fun c_1 => ?_)
      ·
        obtain ⟨hP, hD⟩ := n_cg (ws' := [(q, .inr (6, [.ref xo, .ref xd, .ref xf, .ref xm, .ref xr, .ref xw, .ref xs, .ref xc, .int (nI (0)), .int (nI (0)), .int (-1), .int (nI (0)), .ref yf, .ref yt, .int (nI (0)), .ref ye, .ref yw, .int (nI (0))])), (xo, .inl (cI, 1296, .inl (fun j => nI (form j)))), (xd, .inl (cI, 4, .inl (h1))), (xf, .inl (cI, 1296, .inl (fun _ => 0))), (xm, .inl (cZ, 1296, .inl (fun _ => 0))), (xr, .inl (cZ, 1296, .inl (fun _ => 0))), (xw, .inl (cI, 1296, .inl (fun _ => 0))), (xs, .inl (cJ, 1296, .inr (.inl (fun _ => 0)))), (xc, .inl (cI, 1296, .inl (fun _ => 0))), (yf, .inl (cI, 300, .inl (fun _ => 0))), (yt, .inl (cI, 300, .inl (fun _ => 0))), (ye, .inl (cI, 60, .inl (fun _ => 0))), (yw, .inl (cZ, 60, .inl (fun _ => 0)))]) hP hD 1 rfl (by intro j hj; exact hg j (by omega)) rfl
        subst hQ
        refine W.widen (k := 12) (n := 9796) (Nat.le_refl _) (Nat.le_refl _) ?_
        exact W.vret hx hb hr (fun t ht hW => ⟨⟨(h1, xo, xd, xf, xm, xr, xw, xs, xc, yf, yt, ye, yw), rfl, by rw [ht]; exact hP.sub [0, 1, 2, 3, 4, 5, 6, 7, 8, 9, 10, 11, 12] rfl, hD.sub [0, 1, 2, 3, 4, 5, 6, 7, 8, 9, 10, 11, 12] (by decide) rfl⟩, hS.F ht⟩) hS.2.2 dX6_init_139
      · exact False.elim (by omega)
    | succ n ih =>
      intro k g1 h1 hk hg H locs hP hD hS ls hl
      refine lv_iload_n hx hb dX6_init_115 rfl (lv_at hl 0 rfl) ?_
      refine lv_sipush (v := nI (1296)) hx hb dX6_init_116 (by decide) ?_
      refine n_icmp_ge (tgt := 139) hx hb dX6_init_119 (by decide) (by omega) (by omega) (fun c_2 => ?_) (fun c_2 => ?_)
      · exact False.elim (by omega)
      ·
        refine lv_aload_n hx hb dX6_init_122 rfl (lv_at hl 1 rfl) ?_
        refine va_get (D := d) (ci := 6) (v := .ref xo) (C := RX6) (T := TX6) (N := 18) hx hb hts hin6 hown hK hP 0 rfl rfl 0 (by decide) hfl7 (fun _ h9 => h9) rfl dX6_init_123 ?_
        refine lv_iload_n hx hb dX6_init_126 rfl (lv_at hl 0 rfl) ?_
        refine lv_aload_n hx hb dX6_init_127 rfl (lv_at hl 1 rfl) ?_
        refine lv_iload_n hx hb dX6_init_128 rfl (lv_at hl 0 rfl) ?_
        refine n_upV (As := [.int (nI (k))]) (rest := [.int (nI (k)), .ref xo]) (WC := [(q, .inr (6, [.ref xo, .ref xd, .ref xf, .ref xm, .ref xr, .ref xw, .ref xs, .ref xc, .int (nI (0)), .int (nI (0)), .int (-1), .int (nI (0)), .ref yf, .ref yt, .int (nI (0)), .ref ye, .ref yw, .int (nI (0))])), (xd, .inl (cI, 4, .inl (h1)))]) (WC' := [(q, .inr (6, [.ref xo, .ref xd, .ref xf, .ref xm, .ref xr, .ref xw, .ref xs, .ref xc, .int (nI (0)), .int (nI (0)), .int (-1), .int (nI (0)), .ref yf, .ref yt, .int (nI (0)), .ref ye, .ref yw, .int (nI (0))])), (xd, .inl (cI, 4, .inl (fun j => nI (dig (form k) j))))]) (wr := [(xo, .inl (cI, 1296, .inl (g1))), (xf, .inl (cI, 1296, .inl (fun _ => 0))), (xm, .inl (cZ, 1296, .inl (fun _ => 0))), (xr, .inl (cZ, 1296, .inl (fun _ => 0))), (xw, .inl (cI, 1296, .inl (fun _ => 0))), (xs, .inl (cJ, 1296, .inr (.inl (fun _ => 0)))), (xc, .inl (cI, 1296, .inl (fun _ => 0))), (yf, .inl (cI, 300, .inl (fun _ => 0))), (yt, .inl (cI, 300, .inl (fun _ => 0))), (ye, .inl (cI, 60, .inl (fun _ => 0))), (yw, .inl (cZ, 60, .inl (fun _ => 0)))]) (WS' := [(q, .inr (6, [.ref xo, .ref xd, .ref xf, .ref xm, .ref xr, .ref xw, .ref xs, .ref xc, .int (nI (0)), .int (nI (0)), .int (-1), .int (nI (0)), .ref yf, .ref yt, .int (nI (0)), .ref ye, .ref yw, .int (nI (0))])), (xo, .inl (cI, 1296, .inl (g1))), (xd, .inl (cI, 4, .inl (fun j => nI (dig (form k) j)))), (xf, .inl (cI, 1296, .inl (fun _ => 0))), (xm, .inl (cZ, 1296, .inl (fun _ => 0))), (xr, .inl (cZ, 1296, .inl (fun _ => 0))), (xw, .inl (cI, 1296, .inl (fun _ => 0))), (xs, .inl (cJ, 1296, .inr (.inl (fun _ => 0)))), (xc, .inl (cI, 1296, .inl (fun _ => 0))), (yf, .inl (cI, 300, .inl (fun _ => 0))), (yt, .inl (cI, 300, .inl (fun _ => 0))), (ye, .inl (cI, 60, .inl (fun _ => 0))), (yw, .inl (cZ, 60, .inl (fun _ => 0)))]) ⟨hx, hb, hml, hown, hts⟩ (c_X6_formed l d cI cJ cZ q xo xd xf xm xr xw xs xc yf yt ye yw (nI 0) (nI 0) (-1) (nI 0) (nI 0) (nI 0) k h1 (by omega)) (cwV 1 hts gX6_init_X6_formed rfl rfl rfl (by decide +kernel) ⟨Nat.le_of_ble_eq_true rfl, Nat.le_of_ble_eq_true rfl⟩) (va_recv hK hP (ci := 6) (q0 := 0) rfl rfl) hP hD hS hA (hK) [0, 2] [1, 3, 4, 5, 6, 7, 8, 9, 10, 11, 12] [11, 0, 12, 1, 2, 3, 4, 5, 6, 7, 8, 9, 10] rfl rfl (by decide) ⟨by decide, by decide⟩ (by decide) rfl rfl hl.1 rfl (Nat.le_of_ble_eq_true rfl) dX6_init_129 ⟨Nat.le_of_ble_eq_true rfl, Nat.le_of_ble_eq_true rfl⟩ (fun H locs hP hD hS => ?_)
        show W _ _ _ _ _ _ _ _ _ _ _ _ _ _ _ (F0 m _ ls (.int (nI (form k)) :: [.int (nI (k)), .ref xo]))
        refine n_iast (ws' := [(q, .inr (6, [.ref xo, .ref xd, .ref xf, .ref xm, .ref xr, .ref xw, .ref xs, .ref xc, .int (nI (0)), .int (nI (0)), .int (-1), .int (nI (0)), .ref yf, .ref yt, .int (nI (0)), .ref ye, .ref yw, .int (nI (0))])), (xo, .inl (cI, 1296, .inl (upd g1 k (nI (form k))))), (xd, .inl (cI, 4, .inl (fun j => nI (dig (form k) j)))), (xf, .inl (cI, 1296, .inl (fun _ => 0))), (xm, .inl (cZ, 1296, .inl (fun _ => 0))), (xr, .inl (cZ, 1296, .inl (fun _ => 0))), (xw, .inl (cI, 1296, .inl (fun _ => 0))), (xs, .inl (cJ, 1296, .inr (.inl (fun _ => 0)))), (xc, .inl (cI, 1296, .inl (fun _ => 0))), (yf, .inl (cI, 300, .inl (fun _ => 0))), (yt, .inl (cI, 300, .inl (fun _ => 0))), (ye, .inl (cI, 60, .inl (fun _ => 0))), (yw, .inl (cZ, 60, .inl (fun _ => 0)))]) hx hb hK hP hD hS 1 0 rfl rfl (k := k) (by omega) (by omega) dX6_init_132 rfl (fun H locs hP hD hS => ?_)
        refine lv_iinc (v := nI (k + 1)) (lv' := [(1, .int (nI (k + 1))), (0, .ref q)]) hx hb dX6_init_133 hl (k := 0) rfl (n_inc1 _) (by decide) rfl (fun ls hl => ?_)
        refine lv_goto (tgt := 115) hx hb dX6_init_136 (by decide) ?_
        exact ih (k + 1) _ _ (by omega) (fun j hj => by unfold upd; by_cases h : j = k <;> simp [h]; exact hg j (by omega)) H locs hP hD hS ls (lv_sub hl [0, 1] rfl)
  exact loop 1296 0 _ _ rfl (fun j hj => absurd hj (Nat.not_lt_zero j)) H locs hP hD hS ls (lv_sub hl [0, 1] rfl)
end
section
/-- a list with a place set to 0 -/
theorem n_set0 : ∀ (xs : List Nat) (i n : Nat), xs[i]? = some n → (xs.set i 0).sum + n = xs.sum
  | [], i, n, h => by simp at h
  | x :: xs, 0, n, h => by
    simp only [List.getElem?_cons_zero, Option.some.injEq] at h
    subst h
    simp [List.set, Nat.add_comm]
  | x :: xs, i + 1, n, h => by
    rw [List.getElem?_cons_succ] at h
    have h1 := n_set0 xs i n h
    simp only [List.set, List.sum_cons]
    omega
/-- some places of a list, each at most once, come to no more than all -/
theorem n_pick : ∀ (L : List (Nat × Nat)) (xs : List Nat), (∀ (i j : Nat) (p q : Nat × Nat), L[i]? = some p → L[j]? = some q → p.1 = q.1 → i = j) → (∀ (k : Nat) (q : Nat × Nat), L[k]? = some q → q.2 = 0 ∨ xs[q.1]? = some q.2) → (L.map Prod.snd).sum ≤ xs.sum
  | [], xs, _, _ => by simp
  | (i, n) :: L, xs, hd, h => by
    have hd' : ∀ (a b : Nat) (p q : Nat × Nat), L[a]? = some p → L[b]? = some q → p.1 = q.1 → a = b := fun a b p q ha hb e => by
      have h1 := hd (a + 1) (b + 1) p q (by rw [List.getElem?_cons_succ]; exact ha) (by rw [List.getElem?_cons_succ]; exact hb) e
      omega
    have hh : ∀ (k : Nat) (q : Nat × Nat), L[k]? = some q → q.2 = 0 ∨ xs[q.1]? = some q.2 := fun k q hk => h (k + 1) q (by rw [List.getElem?_cons_succ]; exact hk)
    simp only [List.map_cons, List.sum_cons]
    rcases h 0 (i, n) rfl with h0 | h0
    · have h1 := n_pick L xs hd' hh
      dsimp only at h0
      omega
    · have h2 := n_set0 xs i n h0
      have h1 := n_pick L (xs.set i 0) hd' (fun k q hk => by
        rcases hh k q hk with z | z
        · exact Or.inl z
        · right
          rw [List.getElem?_set]
          have hne : ¬ i = q.1 := fun e => by
            have := hd 0 (k + 1) (i, n) q rfl (by rw [List.getElem?_cons_succ]; exact hk) e
            omega
          rw [if_neg hne]
          exact z)
      omega
/-- how many slots an array of the world has -/
def nsz (q : Nat × va_E) : Nat := match q.2 with
  | .inl a => a.2.1
  | .inr _ => 0
theorem n_csz (cA : ClassId) (a : vp_A) : (vp_cell cA a).slots.size = a.1 := by
  obtain ⟨n, f⟩ := a
  rcases f with f | f | f | f | f <;> exact arrV_size _ _ _
theorem n_slots {D : va_G} {cl : List vw_C} {ws : va_W} {H : Heap} {base : Nat} (hP : va_P D cl ws H) (hD : va_D (fun q => base ≤ q) ws) : (ws.map nsz).sum ≤ ((H.toList.drop base).map (·.slots.size)).sum := by
  have h := n_pick (ws.map (fun q => (q.1 - base, nsz q))) ((H.toList.drop base).map (·.slots.size)) (fun i j p q hi hj e => by
    rw [List.getElem?_map] at hi hj
    cases h1 : ws[i]? with
    | none => rw [h1] at hi; cases hi
    | some p' =>
      cases h2 : ws[j]? with
      | none => rw [h2] at hj; cases hj
      | some q' =>
        rw [h1] at hi; rw [h2] at hj
        cases hi; cases hj
        have b1 : base ≤ p'.1 := hD.2 i p' h1
        have b2 : base ≤ q'.1 := hD.2 j q' h2
        dsimp only at e
        exact hD.1 i j p' q' h1 h2 (by omega)) (fun k q hk => by
    rw [List.getElem?_map] at hk
    cases h1 : ws[k]? with
    | none => rw [h1] at hk; cases hk
    | some p' =>
      rw [h1] at hk
      cases hk
      have b1 : base ≤ p'.1 := hD.2 k p' h1
      have hat := hP k p' h1
      obtain ⟨a, x⟩ := p'
      cases x with
      | inr o => exact Or.inl rfl
      | inl x =>
        right
        have hcell : H[a]? = some (vp_cell x.1 x.2) := hat
        dsimp only at b1 ⊢
        rw [List.getElem?_map, List.getElem?_drop, show base + (a - base) = a from by omega, Array.getElem?_toList, hcell]
        exact congrArg some (n_csz _ _))
  rw [List.map_map] at h
  exact h
section NKF
variable {p : Program} {l : Launch} {e : Env} {R : Room} {s : State} {m : MethodId} {args : Array Value} {below : List Frame} {meth : Method} {c : Code} {H : Heap} {locs : List Loc} {cells slots : Nat}
/-- a walk that stands where the new arrays have n slots or more -/
theorem n_big {D : va_G} {cl : List vw_C} {ws : va_W} {g : JFrame} {n : Nat} (hP : va_P D cl ws H) (hD : va_D (fun q => s.heap.size ≤ q) ws) (hn : n ≤ (ws.map nsz).sum) : W p l e R s m args below meth c H locs cells slots (fun t => s.slotsUsed + n ≤ t.slotsUsed ∧ Within t below) g := by
  intro T hT X
  refine ⟨T.setTop g, Steps.refl _, ?_, ?_⟩
  · have h4 : T.slotsUsed = s.slotsUsed + ((T.heap.toList.drop s.heap.size).map (·.slots.size)).sum := X.same.2.2.2.1
    have h5 := n_slots hP hD
    rw [← hT] at h5
    have h6 : (T.setTop g).slotsUsed = T.slotsUsed := by simp
    rw [h6, h4]
    omega
  · exact ⟨[.java g], by rw [State.frames_setTop' _ X.here.top, X.tail]; rfl, by simp, fun a h => by cases h⟩
end NKF
end
section
def wsL_law0_r1 : List Cond := [Cond.classLink RL 8 RX5, Cond.instantiable RX5 4, Cond.initialized RX5, Cond.classLink RL 68 RX6, Cond.instantiable RX6 18, Cond.initialized RX6, Cond.arrayClass .long, Cond.methodLink RL 67 yX5_init, Cond.instanceMethod yX5_init, Cond.code yX5_init cX5_init 1 none, Cond.methodLink RX5 1 objectInit, Cond.instanceMethod objectInit, Cond.code objectInit ⟨#[0xb1]⟩ 1 none, Cond.classLink RX5 7 RX1, Cond.instantiable RX1 1, Cond.initialized RX1, Cond.fieldLink RX5 10 "Nudgelane" "programs" "LNudgelane$Programs;", Cond.classLink RX5 16 RX3, Cond.instantiable RX3 2, Cond.initialized RX3, Cond.fieldLink RX5 19 "Nudgelane" "ways" "LNudgelane$Ways;", Cond.classLink RX5 23 RX0, Cond.instantiable RX0 11, Cond.initialized RX0]
def wsL_law0_r2 : List Cond := [Cond.fieldLink RX5 26 "Nudgelane" "attempts" "LNudgelane$Attempts;", Cond.classLink RX5 30 RX4, Cond.instantiable RX4 2, Cond.initialized RX4, Cond.fieldLink RX5 33 "Nudgelane" "worths" "LNudgelane$Worths;", Cond.methodLink RX5 9 yX1_init, Cond.instanceMethod yX1_init, Cond.code yX1_init cX1_init 3 none, Cond.methodLink RX1 3 objectInit, Cond.classLink RX1 9 RX2, Cond.instantiable RX2 1, Cond.initialized RX2, Cond.fieldLink RX1 14 "Nudgelane$Programs" "forms" "LNudgelane$Row;", Cond.methodLink RX1 11 yX2_init, Cond.instanceMethod yX2_init, Cond.code yX2_init cX2_init 2 none, Cond.methodLink RX2 1 objectInit, Cond.arrayClass .int, Cond.fieldLink RX2 7 "Nudgelane$Row" "cells" "[I", Cond.methodLink RX1 20 yX1_reduce, Cond.static yX1_reduce, Cond.code yX1_reduce cX1_reduce 4 (some .int), Cond.methodLink RX1 42 yX1_unpack, Cond.static yX1_unpack]
def wsL_law0_r3 : List Cond := [Cond.code yX1_unpack cX1_unpack 4 none, Cond.methodLink RX1 24 yX2_set, Cond.instanceMethod yX2_set, Cond.selects RX2 yX2_set yX2_set, Cond.code yX2_set cX2_set 3 none, Cond.methodLink RX1 46 yX1_rewriteOnce, Cond.static yX1_rewriteOnce, Cond.code yX1_rewriteOnce cX1_rewriteOnce 3 (some .boolean), Cond.methodLink RX1 28 yX2_get, Cond.instanceMethod yX2_get, Cond.selects RX2 yX2_get yX2_get, Cond.code yX2_get cX2_get 2 (some .int), Cond.methodLink RX1 54 yX1_isUsable, Cond.static yX1_isUsable, Cond.code yX1_isUsable cX1_isUsable 3 (some .boolean), Cond.methodLink RX1 58 yX1_use, Cond.static yX1_use, Cond.code yX1_use cX1_use 5 none, Cond.methodLink RX1 50 yX1_pack, Cond.static yX1_pack, Cond.code yX1_pack cX1_pack 3 (some .int), Cond.methodLink RX5 18 yX3_init, Cond.instanceMethod yX3_init, Cond.code yX3_init cX3_init 1 none]
def wsL_law0_r4 : List Cond := [Cond.methodLink RX3 3 objectInit, Cond.classLink RX3 9 RX2, Cond.fieldLink RX3 14 "Nudgelane$Ways" "known" "LNudgelane$Row;", Cond.fieldLink RX3 20 "Nudgelane$Ways" "queue" "LNudgelane$Row;", Cond.methodLink RX3 11 yX2_init, Cond.methodLink RX5 25 yX0_init, Cond.instanceMethod yX0_init, Cond.code yX0_init cX0_init 1 none, Cond.methodLink RX0 3 objectInit, Cond.classLink RX0 9 RX2, Cond.fieldLink RX0 14 "Nudgelane$Attempts" "froms" "LNudgelane$Row;", Cond.fieldLink RX0 20 "Nudgelane$Attempts" "tos" "LNudgelane$Row;", Cond.fieldLink RX0 23 "Nudgelane$Attempts" "leavings" "LNudgelane$Row;", Cond.fieldLink RX0 26 "Nudgelane$Attempts" "rightEnds" "LNudgelane$Row;", Cond.fieldLink RX0 29 "Nudgelane$Attempts" "metMarks" "LNudgelane$Row;", Cond.fieldLink RX0 32 "Nudgelane$Attempts" "metForms" "LNudgelane$Row;", Cond.fieldLink RX0 35 "Nudgelane$Attempts" "here" "I", Cond.methodLink RX0 11 yX2_init, Cond.methodLink RX5 32 yX4_init, Cond.instanceMethod yX4_init, Cond.code yX4_init cX4_init 1 none, Cond.methodLink RX4 3 objectInit, Cond.classLink RX4 9 RX2, Cond.fieldLink RX4 14 "Nudgelane$Worths" "worthNow" "LNudgelane$Row;"]
def wsL_law0_r5 : List Cond := [Cond.fieldLink RX4 20 "Nudgelane$Worths" "sums" "LNudgelane$Row;", Cond.methodLink RX4 11 yX2_init, Cond.methodLink RL 70 yX6_init, Cond.instanceMethod yX6_init, Cond.code yX6_init cX6_init 2 none, Cond.methodLink RX6 1 objectInit, Cond.fieldLink RX6 7 "NudgelaneModel" "forms" "[I", Cond.fieldLink RX6 13 "NudgelaneModel" "digits" "[I", Cond.fieldLink RX6 16 "NudgelaneModel" "far" "[I", Cond.arrayClass .boolean, Cond.fieldLink RX6 19 "NudgelaneModel" "isMet" "[Z", Cond.fieldLink RX6 23 "NudgelaneModel" "isRight" "[Z", Cond.fieldLink RX6 26 "NudgelaneModel" "worths" "[I", Cond.fieldLink RX6 29 "NudgelaneModel" "sums" "[J", Cond.fieldLink RX6 33 "NudgelaneModel" "counts" "[I", Cond.fieldLink RX6 36 "NudgelaneModel" "at" "I", Cond.fieldLink RX6 40 "NudgelaneModel" "froms" "[I", Cond.fieldLink RX6 43 "NudgelaneModel" "tos" "[I", Cond.fieldLink RX6 46 "NudgelaneModel" "ends" "[I", Cond.fieldLink RX6 49 "NudgelaneModel" "wasRight" "[Z", Cond.methodLink RX6 52 yX6_formed, Cond.instanceMethod yX6_formed, Cond.selects RX6 yX6_formed yX6_formed, Cond.code yX6_formed cX6_formed 4 (some .int)]
def wsL_law0_r6 : List Cond := [Cond.methodLink RX6 63 yX6_uses, Cond.instanceMethod yX6_uses, Cond.selects RX6 yX6_uses yX6_uses, Cond.code yX6_uses cX6_uses 6 (some .boolean), Cond.methodLink RX6 59 yX6_fits, Cond.static yX6_fits, Cond.code yX6_fits cX6_fits 3 (some .boolean), Cond.methodLink RL 71 yL_form, Cond.static yL_form, Cond.initialized RL, Cond.codeWith yL_form cL_form 4 (some .int) [(0, 9, 12, 13)], Cond.classLink RL 13 "java/lang/IndexOutOfBoundsException", Cond.methodLink RL 7 yX5_form, Cond.instanceMethod yX5_form, Cond.selects RX5 yX5_form yX5_form, Cond.code yX5_form cX5_form 2 (some .int), Cond.methodLink RX5 37 yX5_checkedForm, Cond.instanceMethod yX5_checkedForm, Cond.selects RX5 yX5_checkedForm yX5_checkedForm, Cond.code yX5_checkedForm cX5_checkedForm 2 (some .int), Cond.classLink RX5 41 "java/lang/IndexOutOfBoundsException", Cond.initialized "java/lang/IndexOutOfBoundsException", Cond.methodLink RX5 152 yX1_formOf, Cond.instanceMethod yX1_formOf]
/-- of the law's words those that stand ahead of its first call -/
def wsL_law : List Cond := (wsL_law0_r1 ++ (wsL_law0_r2 ++ (wsL_law0_r3 ++ (wsL_law0_r4 ++ (wsL_law0_r5 ++ wsL_law0_r6))))) ++ wsX50 ++ wsX60 ++ wsX10 ++ wsX30 ++ wsX00 ++ wsX40 ++ wsX20
end
section
set_option maxRecDepth 20000 in
theorem wsL_law0_r1_in : ∀ w ∈ wsL_law0_r1, w ∈ lw_tbl := by decide +kernel
set_option maxRecDepth 20000 in
theorem wsL_law0_r2_in : ∀ w ∈ wsL_law0_r2, w ∈ lw_tbl := by decide +kernel
set_option maxRecDepth 20000 in
theorem wsL_law0_r3_in : ∀ w ∈ wsL_law0_r3, w ∈ lw_tbl := by decide +kernel
set_option maxRecDepth 20000 in
theorem wsL_law0_r4_in : ∀ w ∈ wsL_law0_r4, w ∈ lw_tbl := by decide +kernel
set_option maxRecDepth 20000 in
theorem wsL_law0_r5_in : ∀ w ∈ wsL_law0_r5, w ∈ lw_tbl := by decide +kernel
set_option maxRecDepth 20000 in
theorem wsL_law0_r6_in : ∀ w ∈ wsL_law0_r6, w ∈ lw_tbl := by decide +kernel
set_option maxRecDepth 20000 in
theorem wsX50_in : ∀ w ∈ wsX50, w ∈ lw_tbl := by decide +kernel
set_option maxRecDepth 20000 in
theorem wsX60_in : ∀ w ∈ wsX60, w ∈ lw_tbl := by decide +kernel
set_option maxRecDepth 20000 in
theorem wsX10_in : ∀ w ∈ wsX10, w ∈ lw_tbl := by decide +kernel
set_option maxRecDepth 20000 in
theorem wsX30_in : ∀ w ∈ wsX30, w ∈ lw_tbl := by decide +kernel
set_option maxRecDepth 20000 in
theorem wsX00_in : ∀ w ∈ wsX00, w ∈ lw_tbl := by decide +kernel
set_option maxRecDepth 20000 in
theorem wsX40_in : ∀ w ∈ wsX40, w ∈ lw_tbl := by decide +kernel
set_option maxRecDepth 20000 in
theorem wsX20_in : ∀ w ∈ wsX20, w ∈ lw_tbl := by decide +kernel
theorem wsL_law_in : ∀ w ∈ wsL_law, w ∈ lw_tbl := fun w h => (List.mem_append.mp h).elim (fun h => (List.mem_append.mp h).elim (fun h => (List.mem_append.mp h).elim (fun h => (List.mem_append.mp h).elim (fun h => (List.mem_append.mp h).elim (fun h => (List.mem_append.mp h).elim (fun h => (List.mem_append.mp h).elim (fun h => (List.mem_append.mp h).elim (fun h => wsL_law0_r1_in w h) (fun h => (List.mem_append.mp h).elim (fun h => wsL_law0_r2_in w h) (fun h => (List.mem_append.mp h).elim (fun h => wsL_law0_r3_in w h) (fun h => (List.mem_append.mp h).elim (fun h => wsL_law0_r4_in w h) (fun h => (List.mem_append.mp h).elim (fun h => wsL_law0_r5_in w h) (fun h => wsL_law0_r6_in w h)))))) (fun h => wsX50_in w h)) (fun h => wsX60_in w h)) (fun h => wsX10_in w h)) (fun h => wsX30_in w h)) (fun h => wsX00_in w h)) (fun h => wsX40_in w h)) (fun h => wsX20_in w h)
theorem inlX5 : ∀ w ∈ wsX50, w ∈ wsL_law := fun _ h => List.mem_append_left _ (List.mem_append_left _ (List.mem_append_left _ (List.mem_append_left _ (List.mem_append_left _ (List.mem_append_left _ (List.mem_append_right _ h))))))
theorem inlX6 : ∀ w ∈ wsX60, w ∈ wsL_law := fun _ h => List.mem_append_left _ (List.mem_append_left _ (List.mem_append_left _ (List.mem_append_left _ (List.mem_append_left _ (List.mem_append_right _ h)))))
theorem inlX1 : ∀ w ∈ wsX10, w ∈ wsL_law := fun _ h => List.mem_append_left _ (List.mem_append_left _ (List.mem_append_left _ (List.mem_append_left _ (List.mem_append_right _ h))))
theorem inlX3 : ∀ w ∈ wsX30, w ∈ wsL_law := fun _ h => List.mem_append_left _ (List.mem_append_left _ (List.mem_append_left _ (List.mem_append_right _ h)))
theorem inlX0 : ∀ w ∈ wsX00, w ∈ wsL_law := fun _ h => List.mem_append_left _ (List.mem_append_left _ (List.mem_append_right _ h))
theorem inlX4 : ∀ w ∈ wsX40, w ∈ wsL_law := fun _ h => List.mem_append_left _ (List.mem_append_right _ h)
theorem inlX2 : ∀ w ∈ wsX20, w ∈ wsL_law := fun _ h => List.mem_append_right _ h
end
section
set_option maxRecDepth 20000 in
theorem ggL_law_X5_init : GoodIn wsL_law wsX5_init := goodIn_r _ [9, 10, 11, 12, 13, 14, 15, 16, 17, 18, 19, 20, 21, 22, 23, 24, 25, 26, 27, 28, 29, 30, 31, 32, 33, 34, 35, 36, 37, 38, 39, 40, 41, 42, 43, 44, 45, 46, 47, 48, 49, 50, 51, 52, 53, 54, 55, 56, 57, 58, 59, 60, 61, 62, 63, 64, 65, 66, 67, 68, 69, 70, 71, 72, 73, 74, 75, 76, 77, 78, 79, 80, 81, 82, 83, 84, 85, 86, 87, 88, 89, 90, 91, 92, 93, 94, 95, 96, 97, 166, 144, 145, 146, 147, 167, 168, 169, 170, 171, 172, 173, 174, 175, 176, 177, 178, 179, 180, 181, 182] (by decide +kernel) (by decide +kernel)
set_option maxRecDepth 20000 in
theorem gL_law_X5_init : GoodIn wsL_law (wsX5_init) := ggL_law_X5_init
set_option maxRecDepth 20000 in
theorem ggL_law_X6_init : GoodIn wsL_law wsX6_init := goodIn_r _ [100, 101, 11, 12, 41, 102, 103, 104, 105, 106, 107, 108, 6, 109, 110, 111, 112, 113, 114, 115, 116, 117, 118, 5, 119, 120, 121, 122, 123, 124, 125, 126, 148, 149, 150, 151, 152, 153, 154, 155, 156, 157, 158, 159, 160, 161, 162, 163, 164, 165] (by decide +kernel) (by decide +kernel)
set_option maxRecDepth 20000 in
theorem gL_law_X6_init : GoodIn wsL_law (wsX6_init) := ggL_law_X6_init
theorem dL_law_0 : decode cL_law 0 = .ok (.new 8, 3) := by decide +kernel
theorem dL_law_3 : decode cL_law 3 = .ok (.dup, 1) := by decide +kernel
theorem dL_law_4 : decode cL_law 4 = .ok (.invokespecial 67, 3) := by decide +kernel
theorem dL_law_7 : decode cL_law 7 = .ok (.astore_n 1, 1) := by decide +kernel
theorem dL_law_8 : decode cL_law 8 = .ok (.new 68, 3) := by decide +kernel
theorem dL_law_11 : decode cL_law 11 = .ok (.dup, 1) := by decide +kernel
theorem dL_law_12 : decode cL_law 12 = .ok (.invokespecial 70, 3) := by decide +kernel
end
section
def lw_P (b : Addr) (xs : List Int32) (args : Array Value) (s : State) : Prop := args = #[.ref b] ∧ s.IntsAt b xs ∧ xs.length ≤ 2048 ∧ (Jvm.Cond.and given_1 narrow_1).before args s = true
theorem lw_pre_spec {args : Array Value} {s : State} (h : (Jvm.Cond.and given_1 narrow_1).before args s = true) (hr : rest_1_c.before args s = true) : ∃ (b : Addr) (xs : List Int32), lw_P b xs args s := by
  have hs := flat_of_before _ h
  have hq := flat_of_before _ hr
  have hc : (Cond.count 1).before args s = true := hs _ (by decide +kernel)
  have harr : (Cond.arrayOf (.arg 0) .int).before args s = true := hs _ (by decide +kernel)
  have hle : (Cond.le (.length (.arg 0)) (.int 2048)).before args s = true := hs _ (by decide +kernel)
  have hlen : (Cond.isInt (.length (.arg 0))).before args s = true := hq _ (by decide +kernel)
  have hall : (Cond.all (.arg 0) (.isInt (.elem (.arg 0) (.index 0)))).before args s = true := hq _ (by decide +kernel)
  obtain ⟨b, xs, hb, hx⟩ := State.ints_of_pre rfl harr hlen hall
  have hsm : xs.length < 2 ^ 31 := hx.choose_spec.2.2.2
  have hev : (Term.length (.arg 0)).eval args s none [] s = some (.int xs.length.toInt32) := hx.length_eval hb
  have hv := Cond.le_ints hev (show (Term.int 2048).eval args s none [] s = some (.int 2048) from rfl)
  have hd : xs.length.toInt32 ≤ 2048 := by
    simpa [Cond.before, Cond.holds, hv] using hle
  have hN : xs.length ≤ 2048 := (Int32.ofNat_le_ofNat hsm (by decide)).mp (show Int32.ofNat xs.length ≤ Int32.ofNat 2048 from hd)
  exact ⟨b, xs, Cond.one_arg hc (show args[0]? = some (.ref b) from hb), hx, hN, h⟩
set_option maxHeartbeats 4000000 in
set_option maxRecDepth 100000 in
/-- from the law's entry, on any script: before its first call 18,094 new slots and more stand -/
theorem law_grows {p : Program} {e : Env} {s : State} {m : MethodId} {below : List Frame} {meth : Method} {c : Code} (l : Launch) {b : Nat} (hx : p.tables.exec = Jvm.exec) (hb : c.code = cL_law) (hml : c.maxLocals = 7) (hown : s.vm.findClass RL = some m.cls) (htb : ∀ w ∈ lw_tbl, w.before #[Value.ref b] s = true) : W p l e ({ frames := 11, cells := 1076, slots := 40000, locals := 392 } : Room) s m #[Value.ref b] below meth c s.heap [] 0 0 (fun t => s.slotsUsed + 18094 ≤ t.slotsUsed ∧ Within t below) (entryFrame m ([Value.ref b] : List Value).toArray 7) := by
  have hts : ∀ w ∈ wsL_law, w.before #[Value.ref b] s = true := fun w h => htb w (wsL_law_in w h)
  have hin5 : ∀ w ∈ u_ws RX5 TX5 4, w ∈ wsL_law := inlX5
  have hin6 : ∀ w ∈ u_ws RX6 TX6 18, w ∈ wsL_law := inlX6
  obtain ⟨c0, iS0, hKn0⟩ := u_known (C := RX0) (T := TX0) (N := 11) (n := 11) htb wsX00_in (hts (.instantiable RX0 11) (by decide +kernel))
  obtain ⟨c1, iS1, hKn1⟩ := u_known (C := RX1) (T := TX1) (N := 1) (n := 1) htb wsX10_in (hts (.instantiable RX1 1) (by decide +kernel))
  obtain ⟨c2, iS2, hKn2⟩ := u_known (C := RX2) (T := TX2) (N := 1) (n := 1) htb wsX20_in (hts (.instantiable RX2 1) (by decide +kernel))
  obtain ⟨c3, iS3, hKn3⟩ := u_known (C := RX3) (T := TX3) (N := 2) (n := 2) htb wsX30_in (hts (.instantiable RX3 2) (by decide +kernel))
  obtain ⟨c4, iS4, hKn4⟩ := u_known (C := RX4) (T := TX4) (N := 2) (n := 2) htb wsX40_in (hts (.instantiable RX4 2) (by decide +kernel))
  obtain ⟨c5, iS5, hKn5⟩ := u_known (C := RX5) (T := TX5) (N := 4) (n := 4) htb wsX50_in (hts (.instantiable RX5 4) (by decide +kernel))
  obtain ⟨c6, iS6, hKn6⟩ := u_known (C := RX6) (T := TX6) (N := 18) (n := 18) htb wsX60_in (hts (.instantiable RX6 18) (by decide +kernel))
  obtain ⟨dC, dI, hKc⟩ : ∃ (dC : Nat → ClassId) (dI : Nat → Nat → Nat), ∀ (k : Nat) (q : vw_C), vwCl[k]? = some q → u_Kn s q.1 q.2.1 q.2.2 (dC k) (dI k) := by
    refine ⟨fun k => match k with | 0 => c0 | 1 => c1 | 2 => c2 | 3 => c3 | 4 => c4 | 5 => c5 | _ => c6, fun k => match k with | 0 => iS0 | 1 => iS1 | 2 => iS2 | 3 => iS3 | 4 => iS4 | 5 => iS5 | _ => iS6, ?_⟩
    intro k q hq
    match k, hq with
    | 0, hq => cases hq; exact hKn0
    | 1, hq => cases hq; exact hKn1
    | 2, hq => cases hq; exact hKn2
    | 3, hq => cases hq; exact hKn3
    | 4, hq => cases hq; exact hKn4
    | 5, hq => cases hq; exact hKn5
    | 6, hq => cases hq; exact hKn6
    | k + 7, hq => simp [vwCl] at hq
  obtain ⟨cI, aI1, aI2⟩ := n_arr (hts (.arrayClass .int) (by decide +kernel))
  obtain ⟨cJ, aJ1, aJ2⟩ := n_arr (hts (.arrayClass .long) (by decide +kernel))
  obtain ⟨cZ, aZ1, aZ2⟩ := n_arr (hts (.arrayClass .boolean) (by decide +kernel))
  have hA : ∀ q : Nat, s.heap.size ≤ q → (fun q : Nat => s.heap.size ≤ q) q := fun _ h => h
  have hS : va_S (fun q : Nat => s.heap.size ≤ q) s.heap s.heap [] := va_S.rf
  have hK : va_K (dC, dI) vwCl [(cI, .int), (cJ, .long), (cZ, .boolean)] s := ⟨hKc, fun k q h => by
    match k, h with
    | 0, h => cases h; exact ⟨aI1, aI2⟩
    | 1, h => cases h; exact ⟨aJ1, aJ2⟩
    | 2, h => cases h; exact ⟨aZ1, aZ2⟩
    | k + 3, h => simp at h⟩
  have hP : va_P (dC, dI) vwCl [] s.heap := fun k q h => by simp at h
  have hD : va_D (fun q : Nat => s.heap.size ≤ q) [] := ⟨fun i j p q h => by simp at h, fun k q h => by simp at h⟩
  have hl := lv_entry ([.ref b]) (n := 7) (Nat.le_of_ble_eq_true rfl)
  rw [lg_entry_eq]
  generalize (lg_sl ([.ref b]) ++ List.replicate (7 - (lg_sl ([.ref b])).length) Slot.unset).toArray = ls at hl ⊢
  have hl : lv_has ls 7 [(0, .ref b)] := hl
  refine va_new (ci := 5) (fs := [.null, .null, .null, .null]) (C := RX5) (T := TX5) (N := 4) hx hb hts hin5 tyX5 tyX5_ok hown (hts (.classLink RL 8 RX5) (by decide +kernel)) (hts (.instantiable RX5 4) (by decide +kernel)) (hts (.initialized RX5) (by decide +kernel)) hK hP hD hS hA rfl (fun j hj => by match j, hj with | 0, _ => rfl | 1, _ => rfl | 2, _ => rfl | 3, _ => rfl | n + 4, h => exact absurd h (by omega)) (Nat.le_of_ble_eq_true rfl) (Nat.le_of_ble_eq_true rfl) dL_law_0 (fun q5 H hP hD hS => ?_)
  have hP : va_P (dC, dI) vwCl [(q5, .inr (5, [.null, .null, .null, .null]))] H := hP
  have hD : va_D (fun q : Nat => s.heap.size ≤ q) [(q5, .inr (5, [.null, .null, .null, .null]))] := hD
  refine lv_dup hx hb dL_law_3 rfl ?_
  refine n_nwI (As := []) (rest := [.ref q5]) (wr := []) ⟨hx, hb, hml, hown, hts⟩ (c_X5_init l (dC, dI) cI q5) (cwI 0 hts gL_law_X5_init rfl rfl rfl (hts (.initialized RX5) (by decide +kernel)) (hts (.methodLink RL 67 yX5_init) (by decide +kernel)) (hts (.instanceMethod yX5_init) (by decide +kernel)) rfl (by decide +kernel) ⟨Nat.le_of_ble_eq_true rfl, Nat.le_of_ble_eq_true rfl⟩) hP hD hS hA (hK.sub [0] rfl) 0 [] rfl rfl (by decide) (by decide) rfl hl.1 rfl (Nat.le_of_ble_eq_true rfl) dL_law_4 ⟨Nat.le_of_ble_eq_true rfl, Nat.le_of_ble_eq_true rfl⟩ (fun u H locs hP hD hS => ?_)
  obtain ⟨p1, w1, a1, z1, ⟨p1f, p1fa⟩, ⟨w1k, w1ka, w1g, w1ga⟩, ⟨a1f, a1fa, a1x, a1xa, a1v, a1va, a1g, a1ga, a1k, a1ka, a1z, a1za⟩, ⟨z1k, z1ka, z1g, z1ga⟩⟩ := u
  have hP : va_P (dC, dI) vwCl [(q5, .inr (5, [.ref p1, .ref w1, .ref a1, .ref z1])), (p1, .inr (1, [.ref p1f])), (p1f, .inr (2, [.ref p1fa])), (p1fa, .inl (cI, 1296, .inl (fun j => nI (form j)))), (w1, .inr (3, [.ref w1k, .ref w1g])), (w1k, .inr (2, [.ref w1ka])), (w1ka, .inl (cI, 1296, .inl (fun _ => 0))), (w1g, .inr (2, [.ref w1ga])), (w1ga, .inl (cI, 1296, .inl (fun _ => 0))), (a1, .inr (0, [.ref a1f, .ref a1x, .ref a1v, .ref a1g, .ref a1k, .ref a1z, .int (nI (0)), .int (nI (0)), .int (nI (0)), .int (-1), .int (nI (0))])), (a1f, .inr (2, [.ref a1fa])), (a1fa, .inl (cI, 300, .inl (fun _ => 0))), (a1x, .inr (2, [.ref a1xa])), (a1xa, .inl (cI, 300, .inl (fun _ => 0))), (a1v, .inr (2, [.ref a1va])), (a1va, .inl (cI, 1296, .inl (fun _ => 0))), (a1g, .inr (2, [.ref a1ga])), (a1ga, .inl (cI, 1296, .inl (fun _ => 0))), (a1k, .inr (2, [.ref a1ka])), (a1ka, .inl (cI, 1296, .inl (fun _ => 0))), (a1z, .inr (2, [.ref a1za])), (a1za, .inl (cI, 360, .inl (fun _ => 0))), (z1, .inr (4, [.ref z1k, .ref z1g])), (z1k, .inr (2, [.ref z1ka])), (z1ka, .inl (cI, 1296, .inl (fun _ => 0))), (z1g, .inr (2, [.ref z1ga])), (z1ga, .inl (cI, 1296, .inl (fun _ => 0)))] H := hP
  have hD : va_D (fun q : Nat => s.heap.size ≤ q) [(q5, .inr (5, [.ref p1, .ref w1, .ref a1, .ref z1])), (p1, .inr (1, [.ref p1f])), (p1f, .inr (2, [.ref p1fa])), (p1fa, .inl (cI, 1296, .inl (fun j => nI (form j)))), (w1, .inr (3, [.ref w1k, .ref w1g])), (w1k, .inr (2, [.ref w1ka])), (w1ka, .inl (cI, 1296, .inl (fun _ => 0))), (w1g, .inr (2, [.ref w1ga])), (w1ga, .inl (cI, 1296, .inl (fun _ => 0))), (a1, .inr (0, [.ref a1f, .ref a1x, .ref a1v, .ref a1g, .ref a1k, .ref a1z, .int (nI (0)), .int (nI (0)), .int (nI (0)), .int (-1), .int (nI (0))])), (a1f, .inr (2, [.ref a1fa])), (a1fa, .inl (cI, 300, .inl (fun _ => 0))), (a1x, .inr (2, [.ref a1xa])), (a1xa, .inl (cI, 300, .inl (fun _ => 0))), (a1v, .inr (2, [.ref a1va])), (a1va, .inl (cI, 1296, .inl (fun _ => 0))), (a1g, .inr (2, [.ref a1ga])), (a1ga, .inl (cI, 1296, .inl (fun _ => 0))), (a1k, .inr (2, [.ref a1ka])), (a1ka, .inl (cI, 1296, .inl (fun _ => 0))), (a1z, .inr (2, [.ref a1za])), (a1za, .inl (cI, 360, .inl (fun _ => 0))), (z1, .inr (4, [.ref z1k, .ref z1g])), (z1k, .inr (2, [.ref z1ka])), (z1ka, .inl (cI, 1296, .inl (fun _ => 0))), (z1g, .inr (2, [.ref z1ga])), (z1ga, .inl (cI, 1296, .inl (fun _ => 0)))] := hD
  refine lv_astore_n (lv' := [(1, .ref q5), (0, .ref b)]) hx hb dL_law_7 rfl hl (by decide) rfl (fun ls hl => ?_)
  refine va_new (ci := 6) (fs := [.null, .null, .null, .null, .null, .null, .null, .null, .int (nI (0)), .int (nI (0)), .int (nI (0)), .int (nI (0)), .null, .null, .int (nI (0)), .null, .null, .int (nI (0))]) (C := RX6) (T := TX6) (N := 18) hx hb hts hin6 tyX6 tyX6_ok hown (hts (.classLink RL 68 RX6) (by decide +kernel)) (hts (.instantiable RX6 18) (by decide +kernel)) (hts (.initialized RX6) (by decide +kernel)) hK hP hD hS hA rfl (fun j hj => by match j, hj with | 0, _ => rfl | 1, _ => rfl | 2, _ => rfl | 3, _ => rfl | 4, _ => rfl | 5, _ => rfl | 6, _ => rfl | 7, _ => rfl | 8, _ => rfl | 9, _ => rfl | 10, _ => rfl | 11, _ => rfl | 12, _ => rfl | 13, _ => rfl | 14, _ => rfl | 15, _ => rfl | 16, _ => rfl | 17, _ => rfl | n + 18, h => exact absurd h (by omega)) (Nat.le_of_ble_eq_true rfl) (Nat.le_of_ble_eq_true rfl) dL_law_8 (fun q6 H hP hD hS => ?_)
  have hP : va_P (dC, dI) vwCl [(q5, .inr (5, [.ref p1, .ref w1, .ref a1, .ref z1])), (p1, .inr (1, [.ref p1f])), (p1f, .inr (2, [.ref p1fa])), (p1fa, .inl (cI, 1296, .inl (fun j => nI (form j)))), (w1, .inr (3, [.ref w1k, .ref w1g])), (w1k, .inr (2, [.ref w1ka])), (w1ka, .inl (cI, 1296, .inl (fun _ => 0))), (w1g, .inr (2, [.ref w1ga])), (w1ga, .inl (cI, 1296, .inl (fun _ => 0))), (a1, .inr (0, [.ref a1f, .ref a1x, .ref a1v, .ref a1g, .ref a1k, .ref a1z, .int (nI (0)), .int (nI (0)), .int (nI (0)), .int (-1), .int (nI (0))])), (a1f, .inr (2, [.ref a1fa])), (a1fa, .inl (cI, 300, .inl (fun _ => 0))), (a1x, .inr (2, [.ref a1xa])), (a1xa, .inl (cI, 300, .inl (fun _ => 0))), (a1v, .inr (2, [.ref a1va])), (a1va, .inl (cI, 1296, .inl (fun _ => 0))), (a1g, .inr (2, [.ref a1ga])), (a1ga, .inl (cI, 1296, .inl (fun _ => 0))), (a1k, .inr (2, [.ref a1ka])), (a1ka, .inl (cI, 1296, .inl (fun _ => 0))), (a1z, .inr (2, [.ref a1za])), (a1za, .inl (cI, 360, .inl (fun _ => 0))), (z1, .inr (4, [.ref z1k, .ref z1g])), (z1k, .inr (2, [.ref z1ka])), (z1ka, .inl (cI, 1296, .inl (fun _ => 0))), (z1g, .inr (2, [.ref z1ga])), (z1ga, .inl (cI, 1296, .inl (fun _ => 0))), (q6, .inr (6, [.null, .null, .null, .null, .null, .null, .null, .null, .int (nI (0)), .int (nI (0)), .int (nI (0)), .int (nI (0)), .null, .null, .int (nI (0)), .null, .null, .int (nI (0))]))] H := hP
  have hD : va_D (fun q : Nat => s.heap.size ≤ q) [(q5, .inr (5, [.ref p1, .ref w1, .ref a1, .ref z1])), (p1, .inr (1, [.ref p1f])), (p1f, .inr (2, [.ref p1fa])), (p1fa, .inl (cI, 1296, .inl (fun j => nI (form j)))), (w1, .inr (3, [.ref w1k, .ref w1g])), (w1k, .inr (2, [.ref w1ka])), (w1ka, .inl (cI, 1296, .inl (fun _ => 0))), (w1g, .inr (2, [.ref w1ga])), (w1ga, .inl (cI, 1296, .inl (fun _ => 0))), (a1, .inr (0, [.ref a1f, .ref a1x, .ref a1v, .ref a1g, .ref a1k, .ref a1z, .int (nI (0)), .int (nI (0)), .int (nI (0)), .int (-1), .int (nI (0))])), (a1f, .inr (2, [.ref a1fa])), (a1fa, .inl (cI, 300, .inl (fun _ => 0))), (a1x, .inr (2, [.ref a1xa])), (a1xa, .inl (cI, 300, .inl (fun _ => 0))), (a1v, .inr (2, [.ref a1va])), (a1va, .inl (cI, 1296, .inl (fun _ => 0))), (a1g, .inr (2, [.ref a1ga])), (a1ga, .inl (cI, 1296, .inl (fun _ => 0))), (a1k, .inr (2, [.ref a1ka])), (a1ka, .inl (cI, 1296, .inl (fun _ => 0))), (a1z, .inr (2, [.ref a1za])), (a1za, .inl (cI, 360, .inl (fun _ => 0))), (z1, .inr (4, [.ref z1k, .ref z1g])), (z1k, .inr (2, [.ref z1ka])), (z1ka, .inl (cI, 1296, .inl (fun _ => 0))), (z1g, .inr (2, [.ref z1ga])), (z1ga, .inl (cI, 1296, .inl (fun _ => 0))), (q6, .inr (6, [.null, .null, .null, .null, .null, .null, .null, .null, .int (nI (0)), .int (nI (0)), .int (nI (0)), .int (nI (0)), .null, .null, .int (nI (0)), .null, .null, .int (nI (0))]))] := hD
  refine lv_dup hx hb dL_law_11 rfl ?_
  refine n_nwI (As := []) (rest := [.ref q6]) (wr := [(q5, .inr (5, [.ref p1, .ref w1, .ref a1, .ref z1])), (p1, .inr (1, [.ref p1f])), (p1f, .inr (2, [.ref p1fa])), (p1fa, .inl (cI, 1296, .inl (fun j => nI (form j)))), (w1, .inr (3, [.ref w1k, .ref w1g])), (w1k, .inr (2, [.ref w1ka])), (w1ka, .inl (cI, 1296, .inl (fun _ => 0))), (w1g, .inr (2, [.ref w1ga])), (w1ga, .inl (cI, 1296, .inl (fun _ => 0))), (a1, .inr (0, [.ref a1f, .ref a1x, .ref a1v, .ref a1g, .ref a1k, .ref a1z, .int (nI (0)), .int (nI (0)), .int (nI (0)), .int (-1), .int (nI (0))])), (a1f, .inr (2, [.ref a1fa])), (a1fa, .inl (cI, 300, .inl (fun _ => 0))), (a1x, .inr (2, [.ref a1xa])), (a1xa, .inl (cI, 300, .inl (fun _ => 0))), (a1v, .inr (2, [.ref a1va])), (a1va, .inl (cI, 1296, .inl (fun _ => 0))), (a1g, .inr (2, [.ref a1ga])), (a1ga, .inl (cI, 1296, .inl (fun _ => 0))), (a1k, .inr (2, [.ref a1ka])), (a1ka, .inl (cI, 1296, .inl (fun _ => 0))), (a1z, .inr (2, [.ref a1za])), (a1za, .inl (cI, 360, .inl (fun _ => 0))), (z1, .inr (4, [.ref z1k, .ref z1g])), (z1k, .inr (2, [.ref z1ka])), (z1ka, .inl (cI, 1296, .inl (fun _ => 0))), (z1g, .inr (2, [.ref z1ga])), (z1ga, .inl (cI, 1296, .inl (fun _ => 0)))]) ⟨hx, hb, hml, hown, hts⟩ (c_X6_init l (dC, dI) cI cJ cZ q6) (cwI 0 hts gL_law_X6_init rfl rfl rfl (hts (.initialized RX6) (by decide +kernel)) (hts (.methodLink RL 70 yX6_init) (by decide +kernel)) (hts (.instanceMethod yX6_init) (by decide +kernel)) rfl (by decide +kernel) ⟨Nat.le_of_ble_eq_true rfl, Nat.le_of_ble_eq_true rfl⟩) hP hD hS hA hK 27 [0, 1, 2, 3, 4, 5, 6, 7, 8, 9, 10, 11, 12, 13, 14, 15, 16, 17, 18, 19, 20, 21, 22, 23, 24, 25, 26] rfl rfl (by decide) (by decide) rfl hl.1 rfl (Nat.le_of_ble_eq_true rfl) dL_law_12 ⟨Nat.le_of_ble_eq_true rfl, Nat.le_of_ble_eq_true rfl⟩ (fun u H locs hP hD hS => ?_)
  obtain ⟨h1, xo, xd, xf, xm, xr, xw, xs, xc, yf, yt, ye, yw⟩ := u
  have hP : va_P (dC, dI) vwCl [(q5, .inr (5, [.ref p1, .ref w1, .ref a1, .ref z1])), (p1, .inr (1, [.ref p1f])), (p1f, .inr (2, [.ref p1fa])), (p1fa, .inl (cI, 1296, .inl (fun j => nI (form j)))), (w1, .inr (3, [.ref w1k, .ref w1g])), (w1k, .inr (2, [.ref w1ka])), (w1ka, .inl (cI, 1296, .inl (fun _ => 0))), (w1g, .inr (2, [.ref w1ga])), (w1ga, .inl (cI, 1296, .inl (fun _ => 0))), (a1, .inr (0, [.ref a1f, .ref a1x, .ref a1v, .ref a1g, .ref a1k, .ref a1z, .int (nI (0)), .int (nI (0)), .int (nI (0)), .int (-1), .int (nI (0))])), (a1f, .inr (2, [.ref a1fa])), (a1fa, .inl (cI, 300, .inl (fun _ => 0))), (a1x, .inr (2, [.ref a1xa])), (a1xa, .inl (cI, 300, .inl (fun _ => 0))), (a1v, .inr (2, [.ref a1va])), (a1va, .inl (cI, 1296, .inl (fun _ => 0))), (a1g, .inr (2, [.ref a1ga])), (a1ga, .inl (cI, 1296, .inl (fun _ => 0))), (a1k, .inr (2, [.ref a1ka])), (a1ka, .inl (cI, 1296, .inl (fun _ => 0))), (a1z, .inr (2, [.ref a1za])), (a1za, .inl (cI, 360, .inl (fun _ => 0))), (z1, .inr (4, [.ref z1k, .ref z1g])), (z1k, .inr (2, [.ref z1ka])), (z1ka, .inl (cI, 1296, .inl (fun _ => 0))), (z1g, .inr (2, [.ref z1ga])), (z1ga, .inl (cI, 1296, .inl (fun _ => 0))), (q6, .inr (6, [.ref xo, .ref xd, .ref xf, .ref xm, .ref xr, .ref xw, .ref xs, .ref xc, .int (nI (0)), .int (nI (0)), .int (-1), .int (nI (0)), .ref yf, .ref yt, .int (nI (0)), .ref ye, .ref yw, .int (nI (0))])), (xo, .inl (cI, 1296, .inl (fun j => nI (form j)))), (xd, .inl (cI, 4, .inl (h1))), (xf, .inl (cI, 1296, .inl (fun _ => 0))), (xm, .inl (cZ, 1296, .inl (fun _ => 0))), (xr, .inl (cZ, 1296, .inl (fun _ => 0))), (xw, .inl (cI, 1296, .inl (fun _ => 0))), (xs, .inl (cJ, 1296, .inr (.inl (fun _ => 0)))), (xc, .inl (cI, 1296, .inl (fun _ => 0))), (yf, .inl (cI, 300, .inl (fun _ => 0))), (yt, .inl (cI, 300, .inl (fun _ => 0))), (ye, .inl (cI, 60, .inl (fun _ => 0))), (yw, .inl (cZ, 60, .inl (fun _ => 0)))] H := hP
  have hD : va_D (fun q : Nat => s.heap.size ≤ q) [(q5, .inr (5, [.ref p1, .ref w1, .ref a1, .ref z1])), (p1, .inr (1, [.ref p1f])), (p1f, .inr (2, [.ref p1fa])), (p1fa, .inl (cI, 1296, .inl (fun j => nI (form j)))), (w1, .inr (3, [.ref w1k, .ref w1g])), (w1k, .inr (2, [.ref w1ka])), (w1ka, .inl (cI, 1296, .inl (fun _ => 0))), (w1g, .inr (2, [.ref w1ga])), (w1ga, .inl (cI, 1296, .inl (fun _ => 0))), (a1, .inr (0, [.ref a1f, .ref a1x, .ref a1v, .ref a1g, .ref a1k, .ref a1z, .int (nI (0)), .int (nI (0)), .int (nI (0)), .int (-1), .int (nI (0))])), (a1f, .inr (2, [.ref a1fa])), (a1fa, .inl (cI, 300, .inl (fun _ => 0))), (a1x, .inr (2, [.ref a1xa])), (a1xa, .inl (cI, 300, .inl (fun _ => 0))), (a1v, .inr (2, [.ref a1va])), (a1va, .inl (cI, 1296, .inl (fun _ => 0))), (a1g, .inr (2, [.ref a1ga])), (a1ga, .inl (cI, 1296, .inl (fun _ => 0))), (a1k, .inr (2, [.ref a1ka])), (a1ka, .inl (cI, 1296, .inl (fun _ => 0))), (a1z, .inr (2, [.ref a1za])), (a1za, .inl (cI, 360, .inl (fun _ => 0))), (z1, .inr (4, [.ref z1k, .ref z1g])), (z1k, .inr (2, [.ref z1ka])), (z1ka, .inl (cI, 1296, .inl (fun _ => 0))), (z1g, .inr (2, [.ref z1ga])), (z1ga, .inl (cI, 1296, .inl (fun _ => 0))), (q6, .inr (6, [.ref xo, .ref xd, .ref xf, .ref xm, .ref xr, .ref xw, .ref xs, .ref xc, .int (nI (0)), .int (nI (0)), .int (-1), .int (nI (0)), .ref yf, .ref yt, .int (nI (0)), .ref ye, .ref yw, .int (nI (0))])), (xo, .inl (cI, 1296, .inl (fun j => nI (form j)))), (xd, .inl (cI, 4, .inl (h1))), (xf, .inl (cI, 1296, .inl (fun _ => 0))), (xm, .inl (cZ, 1296, .inl (fun _ => 0))), (xr, .inl (cZ, 1296, .inl (fun _ => 0))), (xw, .inl (cI, 1296, .inl (fun _ => 0))), (xs, .inl (cJ, 1296, .inr (.inl (fun _ => 0)))), (xc, .inl (cI, 1296, .inl (fun _ => 0))), (yf, .inl (cI, 300, .inl (fun _ => 0))), (yt, .inl (cI, 300, .inl (fun _ => 0))), (ye, .inl (cI, 60, .inl (fun _ => 0))), (yw, .inl (cZ, 60, .inl (fun _ => 0)))] := hD
  refine n_big hP hD ?_
  simp only [List.map_cons, List.map_nil, nsz, List.sum_cons, List.sum_nil]
  omega

set_option maxHeartbeats 4000000 in
/-- THE PRINTED ROOM: with a start as the Statement's own witness says, the first half of what is owed is false -/
theorem room_false (hw : WitnessClaimed_1) : ¬ Claimed_1_1 := by
  intro hC
  obtain ⟨p, e, s, m, args, below, hL, hWd, hadm, hleast, hcas, hclk, hf, hargs, hheap, happ, hcalls, hrest, hpre⟩ := hw
  obtain ⟨e2, he2⟩ : ∃ e2 : Env, e2 = { e with platform := { e.platform with maxSlots := e.platform.maxSlots + 40000 } } := ⟨_, rfl⟩
  have hadm2 : launch0.admits e2 := by
    subst he2
    obtain ⟨a1, a2, a3, a4, a5, a6, a7, a8, a9, a10, a11, a12, a13, a14, a15, a16, a17⟩ := hadm
    exact ⟨a1, a2, a3, a4, by show ({ e.platform with maxSlots := _ } : Platform) = _; rw [a5], a6, a7, Nat.le_trans a8 (Nat.le_add_right _ _), a9, a10, a11, a12, a13, a14, a15, a16, a17⟩
  have happ2 := (Spec.applies_iff hf).mp happ
  obtain ⟨b1, b2, b3, b4, b5, b6, b7, b8⟩ := happ2
  have hroom : ∀ n : Nat, n ≤ 40000 → s.hasRoom e2.platform { frames := 11, cells := 1076, slots := n, locals := 392 } = true := fun n hn => by
    subst he2
    have h7 : s.hasRoom e.platform room_1 = true := b7
    simp only [State.hasRoom, Bool.and_eq_true, decide_eq_true_eq] at h7 ⊢
    obtain ⟨⟨⟨⟨r1, r2⟩, r3⟩, r4⟩, r5⟩ := h7
    exact ⟨⟨⟨⟨r1, r2⟩, r3⟩, by show s.slotsUsed + n ≤ e.platform.maxSlots + 40000; have r6 : s.slotsUsed + 18093 ≤ e.platform.maxSlots := r4; omega⟩, r5⟩
  have hap : (headSpec (Jvm.Cond.code x code maxLocals ret :: tables_1) room_1).applies x e2.platform s = true := (Spec.applies_iff hf).mpr ⟨b1, b2, b3, b4, b5, b6, hroom 18093 (by decide), b8⟩
  obtain ⟨n, o, w1, w2, w3, -, w4⟩ := hC launch0 rfl hL hWd p e2 hadm2 (by rw [he2]; exact hcas) (by rw [he2]; exact hclk) s m args below hf hargs hheap hap ⟨hcalls, hrest, hpre⟩
  obtain ⟨b, xs, rfl, -, -, hgv⟩ := lw_pre_spec hpre hrest
  have hts0 : ∀ c ∈ (Jvm.Cond.code x code maxLocals ret :: tables_1), c.before #[Value.ref b] s = true := atoms_spec (ws := Jvm.Cond.code x code maxLocals ret :: tables_1) b8
  have htb : ∀ w ∈ lw_tbl, w.before #[Value.ref b] s = true := k2_hts_sels lw_privs (fun w hw => hts0 w (List.mem_cons_of_mem _ hw)) lw_privs_ok
  have hown : s.vm.findClass RL = some m.cls := findClass_of_methodNamed b4
  obtain ⟨meth, c, hmeth, hcode, hbytes, hlocals, hret, hlocks, -, -⟩ := Cond.code_spec b4 (hts0 _ List.mem_cons_self)
  have hcur := State.cur_lt_of_frames hf
  have hf1 : (s.setFrames (.java (entryFrame m #[Value.ref b] maxLocals) :: below)).frames = .java (entryFrame m #[Value.ref b] maxLocals) :: below := State.frames_setFrames _ hcur
  have ht1 := State.topJava?_of_frames hf1
  have hat : At (s.setFrames (.java (entryFrame m #[Value.ref b] maxLocals) :: below)) m c below :=
    ⟨by rw [ht1]; rfl, ⟨[], by rw [hf1]; rfl⟩, b1, by simpa using b2, by simpa using b3, by rw [State.code?_eq]; simp [State.setFrames, hmeth, hcode], State.plainMethod.of_named (s := s) (plainFor_of_name (by decide)) b4 hmeth⟩
  have hripe : s.classRipe m = true := by
    rw [State.ripe_iff, Bool.and_eq_true] at b6
    exact b6.1
  have hfull : e2.platform.stackFull (s.setFrames below).me (s.setFrames below).frames c.maxLocals = false := by
    obtain ⟨-, h1, -, h2⟩ := State.hasRoom_stack (hroom 40000 (by decide))
    rw [hf, List.length_cons] at h1
    rw [State.localsInUse_invoking hf hmeth hcode] at h2
    have hw := stackUse_le_stackWeight below
    rw [State.frames_setFrames _ hcur]
    exact Platform.stackFull_eq_false (by rw [State.stackLimits_setFrames]; omega) (by rw [State.stackLimits_setFrames]; omega)
  have hstep : (stepThread p.tables e2 s).1 = (s.setFrames (.java (entryFrame m #[Value.ref b] maxLocals) :: below)).setTop (entryFrame m #[Value.ref b] maxLocals) := by
    rw [stepThread_invoking hf, (doInvoke_java (s := s.setFrames below) (e := e2) (meth := meth) (code := c) hmeth hcode hlocks hfull).1, State.setTop_self ht1]
    simp only [State.pushFrame, State.frames_setFrames _ hcur, State.setFrames_setFrames, hlocals, entryFrame]
  have B : BodyLoose p launch0 x (headSpec (Jvm.Cond.code x code maxLocals ret :: tables_1) ({ frames := 11, cells := 1076, slots := 40000, locals := 392 } : Room)) code maxLocals ret e2 s m #[Value.ref b] below meth c (s.setFrames (.java (entryFrame m #[Value.ref b] maxLocals) :: below)) :=
    ⟨hadm2, by rw [he2]; exact hcas, by rw [he2]; exact hclk, by cases p <;> rfl, hf, b4, b5, hripe, hroom 40000 (by decide), b8, hmeth, hret, hlocks, hbytes, rfl, hat⟩
  obtain ⟨t, st, g1, g2⟩ := law_grows (p := p) (e := e2) (meth := meth) (c := c) (below := below) launch0 B.exec hbytes hlocals hown htb (s.setFrames (.java (entryFrame m #[Value.ref b] maxLocals) :: below)) rfl (Stand.of_body B)
  obtain ⟨k, hk, hkw⟩ := Steps.head (tb := p.tables) (e := e2) ⟨b1, b2, b3⟩ ⟨[.invoking m #[Value.ref b]], hf, by simp, by simp⟩ (hstep ▸ st)
  have hend : (stepsAlone p.tables e2 n s).slotsUsed ≤ s.slotsUsed + 18093 := by
    obtain ⟨-, -, hs⟩ := w4
    have h1 : (stepsAlone p.tables e2 n s).slotsUsed = s.slotsUsed + _ := hs.2.2.2.1
    have h2 := hs.2.2.2.2.1
    rw [h1]
    exact Nat.add_le_add_left h2 _
  rcases Nat.lt_or_ge k n with q | q
  · obtain ⟨j, rfl⟩ := Nat.exists_eq_add_of_le (Nat.le_of_lt q)
    have h3 := (stepsAlone_heap_grows_add p.tables e2 k j s).2
    rw [hk] at h3
    omega
  · have hwn : Within (stepsAlone p.tables e2 n s) below := by
      rcases Nat.lt_or_ge n k with q2 | q2
      · exact hkw n q2
      · rw [show n = k from Nat.le_antisymm q q2, hk]; exact g2
    exact Ended.not_within w3 hwn
end
section
theorem i_vc : Claimed_1_1 ∧ Claimed_1_2 := sorry
/-- what is owed is false: its own witness gives a start, and no run from there ends within the printed room -/
theorem whole_false : ¬ (Claimed_1_1 ∧ Claimed_1_2) := fun h => room_false witness_1 h.1
end
