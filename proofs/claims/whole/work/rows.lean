section
-- ===== PART A: goes FIRST, ahead of the names: the tables' words, and 'selects' of the private methods out of them =====
/-- a private method of a class that the tables say can be made, by its rows of tables_1 -/
def lw_okq (q : MethodName × Nat) : Prop := (q.1.cls ≠ "java/lang/invoke/MethodHandle" ∧ q.1.cls ≠ "java/lang/invoke/VarHandle") ∧ Cond.instantiable q.1.cls q.2 ∈ tables_1 ∧ Cond.privateMethod q.1 ∈ tables_1 ∧ Cond.instanceMethod q.1 ∈ tables_1
theorem lw_p0 : lw_okq (⟨"Nudgelane$Row", "holds", "(I)Z"⟩, 1) := ⟨⟨by decide +kernel, by decide +kernel⟩, List.mem_of_getElem? (i := 32) (by decide +kernel), List.mem_of_getElem? (i := 53) (by decide +kernel), List.mem_of_getElem? (i := 54) (by decide +kernel)⟩
theorem lw_p1 : lw_okq (⟨"Nudgelane", "checkedForm", "(I)I"⟩, 4) := ⟨⟨by decide +kernel, by decide +kernel⟩, List.mem_of_getElem? (i := 18) (by decide +kernel), List.mem_of_getElem? (i := 186) (by decide +kernel), List.mem_of_getElem? (i := 187) (by decide +kernel)⟩
theorem lw_p2 : lw_okq (⟨"java/lang/Throwable", "fillInStackTrace", "(I)Ljava/lang/Throwable;"⟩, 6) := ⟨⟨by decide +kernel, by decide +kernel⟩, List.mem_of_getElem? (i := 229) (by decide +kernel), List.mem_of_getElem? (i := 227) (by decide +kernel), List.mem_of_getElem? (i := 228) (by decide +kernel)⟩
theorem lw_p3 : lw_okq (⟨"Nudgelane$Ways", "queueNewBehind", "(LNudgelane$Programs;II)I"⟩, 2) := ⟨⟨by decide +kernel, by decide +kernel⟩, List.mem_of_getElem? (i := 77) (by decide +kernel), List.mem_of_getElem? (i := 327) (by decide +kernel), List.mem_of_getElem? (i := 328) (by decide +kernel)⟩
theorem lw_p4 : lw_okq (⟨"Nudgelane$Ways", "settleOnce", "(LNudgelane$Programs;)Z"⟩, 2) := ⟨⟨by decide +kernel, by decide +kernel⟩, List.mem_of_getElem? (i := 77) (by decide +kernel), List.mem_of_getElem? (i := 363) (by decide +kernel), List.mem_of_getElem? (i := 364) (by decide +kernel)⟩
theorem lw_p5 : lw_okq (⟨"Nudgelane$Ways", "leastBehind", "(LNudgelane$Programs;I)I"⟩, 2) := ⟨⟨by decide +kernel, by decide +kernel⟩, List.mem_of_getElem? (i := 77) (by decide +kernel), List.mem_of_getElem? (i := 371) (by decide +kernel), List.mem_of_getElem? (i := 372) (by decide +kernel)⟩
theorem lw_p6 : lw_okq (⟨"Nudgelane$Attempts", "meet", "(I)V"⟩, 11) := ⟨⟨by decide +kernel, by decide +kernel⟩, List.mem_of_getElem? (i := 92) (by decide +kernel), List.mem_of_getElem? (i := 414) (by decide +kernel), List.mem_of_getElem? (i := 415) (by decide +kernel)⟩
theorem lw_p7 : lw_okq (⟨"Nudgelane$Worths", "addUp", "(LNudgelane$Attempts;)V"⟩, 2) := ⟨⟨by decide +kernel, by decide +kernel⟩, List.mem_of_getElem? (i := 134) (by decide +kernel), List.mem_of_getElem? (i := 496) (by decide +kernel), List.mem_of_getElem? (i := 497) (by decide +kernel)⟩
theorem lw_p8 : lw_okq (⟨"Nudgelane$Worths", "share", "(LNudgelane$Attempts;)V"⟩, 2) := ⟨⟨by decide +kernel, by decide +kernel⟩, List.mem_of_getElem? (i := 134) (by decide +kernel), List.mem_of_getElem? (i := 519) (by decide +kernel), List.mem_of_getElem? (i := 520) (by decide +kernel)⟩
theorem lw_p9 : lw_okq (⟨"Nudgelane", "requireSomeRight", "()V"⟩, 4) := ⟨⟨by decide +kernel, by decide +kernel⟩, List.mem_of_getElem? (i := 18) (by decide +kernel), List.mem_of_getElem? (i := 539) (by decide +kernel), List.mem_of_getElem? (i := 540) (by decide +kernel)⟩
theorem lw_p10 : lw_okq (⟨"Nudgelane", "findSteps", "()V"⟩, 4) := ⟨⟨by decide +kernel, by decide +kernel⟩, List.mem_of_getElem? (i := 18) (by decide +kernel), List.mem_of_getElem? (i := 563) (by decide +kernel), List.mem_of_getElem? (i := 564) (by decide +kernel)⟩
theorem lw_p11 : lw_okq (⟨"Nudgelane", "stepNearer", "(I)I"⟩, 4) := ⟨⟨by decide +kernel, by decide +kernel⟩, List.mem_of_getElem? (i := 18) (by decide +kernel), List.mem_of_getElem? (i := 576) (by decide +kernel), List.mem_of_getElem? (i := 577) (by decide +kernel)⟩
theorem lw_p12 : lw_okq (⟨"NudgelaneModel", "formed", "(I)I"⟩, 18) := ⟨⟨by decide +kernel, by decide +kernel⟩, List.mem_of_getElem? (i := 598) (by decide +kernel), List.mem_of_getElem? (i := 604) (by decide +kernel), List.mem_of_getElem? (i := 605) (by decide +kernel)⟩
theorem lw_p13 : lw_okq (⟨"NudgelaneModel", "uses", "()Z"⟩, 18) := ⟨⟨by decide +kernel, by decide +kernel⟩, List.mem_of_getElem? (i := 598) (by decide +kernel), List.mem_of_getElem? (i := 608) (by decide +kernel), List.mem_of_getElem? (i := 609) (by decide +kernel)⟩
theorem lw_p14 : lw_okq (⟨"NudgelaneModel", "goes", "(I)Z"⟩, 18) := ⟨⟨by decide +kernel, by decide +kernel⟩, List.mem_of_getElem? (i := 598) (by decide +kernel), List.mem_of_getElem? (i := 683) (by decide +kernel), List.mem_of_getElem? (i := 684) (by decide +kernel)⟩
theorem lw_p15 : lw_okq (⟨"NudgelaneModel", "edited", "(II)I"⟩, 18) := ⟨⟨by decide +kernel, by decide +kernel⟩, List.mem_of_getElem? (i := 598) (by decide +kernel), List.mem_of_getElem? (i := 691) (by decide +kernel), List.mem_of_getElem? (i := 692) (by decide +kernel)⟩
def lw_privs_1 : List (MethodName × Nat) := [(⟨"Nudgelane$Row", "holds", "(I)Z"⟩, 1), (⟨"Nudgelane", "checkedForm", "(I)I"⟩, 4), (⟨"java/lang/Throwable", "fillInStackTrace", "(I)Ljava/lang/Throwable;"⟩, 6), (⟨"Nudgelane$Ways", "queueNewBehind", "(LNudgelane$Programs;II)I"⟩, 2), (⟨"Nudgelane$Ways", "settleOnce", "(LNudgelane$Programs;)Z"⟩, 2), (⟨"Nudgelane$Ways", "leastBehind", "(LNudgelane$Programs;I)I"⟩, 2), (⟨"Nudgelane$Attempts", "meet", "(I)V"⟩, 11), (⟨"Nudgelane$Worths", "addUp", "(LNudgelane$Attempts;)V"⟩, 2), (⟨"Nudgelane$Worths", "share", "(LNudgelane$Attempts;)V"⟩, 2), (⟨"Nudgelane", "requireSomeRight", "()V"⟩, 4), (⟨"Nudgelane", "findSteps", "()V"⟩, 4), (⟨"Nudgelane", "stepNearer", "(I)I"⟩, 4), (⟨"NudgelaneModel", "formed", "(I)I"⟩, 18), (⟨"NudgelaneModel", "uses", "()Z"⟩, 18), (⟨"NudgelaneModel", "goes", "(I)Z"⟩, 18), (⟨"NudgelaneModel", "edited", "(II)I"⟩, 18)]
theorem lw_r1 : ∀ q ∈ lw_privs_1, lw_okq q := List.forall_mem_cons.mpr ⟨lw_p0, List.forall_mem_cons.mpr ⟨lw_p1, List.forall_mem_cons.mpr ⟨lw_p2, List.forall_mem_cons.mpr ⟨lw_p3, List.forall_mem_cons.mpr ⟨lw_p4, List.forall_mem_cons.mpr ⟨lw_p5, List.forall_mem_cons.mpr ⟨lw_p6, List.forall_mem_cons.mpr ⟨lw_p7, List.forall_mem_cons.mpr ⟨lw_p8, List.forall_mem_cons.mpr ⟨lw_p9, List.forall_mem_cons.mpr ⟨lw_p10, List.forall_mem_cons.mpr ⟨lw_p11, List.forall_mem_cons.mpr ⟨lw_p12, List.forall_mem_cons.mpr ⟨lw_p13, List.forall_mem_cons.mpr ⟨lw_p14, List.forall_mem_cons.mpr ⟨lw_p15, fun _ h => absurd h List.not_mem_nil⟩⟩⟩⟩⟩⟩⟩⟩⟩⟩⟩⟩⟩⟩⟩⟩
theorem lw_p16 : lw_okq (⟨"NudgelaneModel", "goesOutward", "(I)V"⟩, 18) := ⟨⟨by decide +kernel, by decide +kernel⟩, List.mem_of_getElem? (i := 598) (by decide +kernel), List.mem_of_getElem? (i := 706) (by decide +kernel), List.mem_of_getElem? (i := 707) (by decide +kernel)⟩
theorem lw_p17 : lw_okq (⟨"NudgelaneModel", "goesInward", "(I)V"⟩, 18) := ⟨⟨by decide +kernel, by decide +kernel⟩, List.mem_of_getElem? (i := 598) (by decide +kernel), List.mem_of_getElem? (i := 714) (by decide +kernel), List.mem_of_getElem? (i := 715) (by decide +kernel)⟩
theorem lw_p18 : lw_okq (⟨"NudgelaneModel", "meets", "(I)V"⟩, 18) := ⟨⟨by decide +kernel, by decide +kernel⟩, List.mem_of_getElem? (i := 598) (by decide +kernel), List.mem_of_getElem? (i := 722) (by decide +kernel), List.mem_of_getElem? (i := 723) (by decide +kernel)⟩
theorem lw_p19 : lw_okq (⟨"NudgelaneModel", "laysWorths", "()V"⟩, 18) := ⟨⟨by decide +kernel, by decide +kernel⟩, List.mem_of_getElem? (i := 598) (by decide +kernel), List.mem_of_getElem? (i := 754) (by decide +kernel), List.mem_of_getElem? (i := 755) (by decide +kernel)⟩
theorem lw_p20 : lw_okq (⟨"NudgelaneModel", "isAnyRight", "()Z"⟩, 18) := ⟨⟨by decide +kernel, by decide +kernel⟩, List.mem_of_getElem? (i := 598) (by decide +kernel), List.mem_of_getElem? (i := 763) (by decide +kernel), List.mem_of_getElem? (i := 764) (by decide +kernel)⟩
theorem lw_p21 : lw_okq (⟨"NudgelaneModel", "hinted", "(I)I"⟩, 18) := ⟨⟨by decide +kernel, by decide +kernel⟩, List.mem_of_getElem? (i := 598) (by decide +kernel), List.mem_of_getElem? (i := 771) (by decide +kernel), List.mem_of_getElem? (i := 772) (by decide +kernel)⟩
def lw_privs_2 : List (MethodName × Nat) := [(⟨"NudgelaneModel", "goesOutward", "(I)V"⟩, 18), (⟨"NudgelaneModel", "goesInward", "(I)V"⟩, 18), (⟨"NudgelaneModel", "meets", "(I)V"⟩, 18), (⟨"NudgelaneModel", "laysWorths", "()V"⟩, 18), (⟨"NudgelaneModel", "isAnyRight", "()Z"⟩, 18), (⟨"NudgelaneModel", "hinted", "(I)I"⟩, 18)]
theorem lw_r2 : ∀ q ∈ lw_privs_2, lw_okq q := List.forall_mem_cons.mpr ⟨lw_p16, List.forall_mem_cons.mpr ⟨lw_p17, List.forall_mem_cons.mpr ⟨lw_p18, List.forall_mem_cons.mpr ⟨lw_p19, List.forall_mem_cons.mpr ⟨lw_p20, List.forall_mem_cons.mpr ⟨lw_p21, fun _ h => absurd h List.not_mem_nil⟩⟩⟩⟩⟩⟩
def lw_privs : List (MethodName × Nat) := lw_privs_1 ++ (lw_privs_2)
def lw_tbl : List Cond := k2_sels lw_privs ++ tables_1
theorem lw_privs_ok : ∀ q ∈ lw_privs, lw_okq q := by
  show ∀ q ∈ lw_privs_1 ++ (lw_privs_2), lw_okq q
  exact List.forall_mem_append.mpr ⟨lw_r1, lw_r2⟩
-- ===== end of PART A; then your names; then what follows =====
end
section
/-! ===== BEGIN words of one list among another's, by their places ===== -/
theorem goodIn_r {big : List Cond} (ws : List Cond) (ps : List Nat) (hp : ws = ps.filterMap (fun i => big[i]?)) (h : ws.all goodWord = true) : GoodIn big ws := by
  intro w hw
  have h1 := List.all_eq_true.mp h w hw
  rw [hp] at hw
  obtain ⟨i, -, hi⟩ := List.mem_filterMap.mp hw
  have hm : w ∈ big := by first | exact List.mem_of_getElem? hi | exact List.getElem?_mem hi
  exact ⟨hm, good_of_word h1⟩
theorem goodIn_app {big a b : List Cond} (ha : GoodIn big a) (hb : GoodIn big b) : GoodIn big (a ++ b) := fun w h => (List.mem_append.mp h).elim (ha w) (hb w)
theorem goodIn_ca {big a b : List Cond} {c : Cond} (ha : GoodIn big (c :: a)) (hb : GoodIn big b) : GoodIn big (c :: (a ++ b)) := fun w h => (List.mem_cons.mp h).elim (fun e => ha w (List.mem_cons.mpr (Or.inl e))) (fun h => (List.mem_append.mp h).elim (fun h => ha w (List.mem_cons.mpr (Or.inr h))) (hb w))
theorem goodIn_sub {big ws : List Cond} (hm : ∀ w ∈ ws, w ∈ big) (h : ws.all goodWord = true) : GoodIn big ws := fun w hw => ⟨hm w hw, good_of_word (List.all_eq_true.mp h w hw)⟩
/-! ===== END ===== -/

/-! ===== BEGIN exceptions that leave a method, and their catching by the caller (launches without stack traces) ===== -/
section VXA
/-! The laws vx_back, vx_callV, vx_callS, vx_callSW, vx_throw0, vx_throwS follow proofs of the library, with one case more: JvmDerived/Free/Laws.lean (Back.of_free), Shelf42/LK1.lean (callV, callS), Shelf/KitTraced.lean (throwNew0V, throwNewS). -/
/-- where a method has thrown q: the class by its name, the cell, what was written, the world -/
def vx_T (XC : String → State → State → Prop) (st : State) (q : Addr) (t : State) (mc ms : Nat) (free : Addr → Prop) : Prop :=
  ∃ (E : String) (ce : Cell) (L : List Loc), XC E st t ∧ t.heap[q]? = some ce ∧ ce.vm = .none ∧ st.vm.findClass E = some ce.cls ∧ st.WarmedH t.vm ∧ st.sameButNew ({ t with vm := st.vm } : State) L mc ms ∧ ∀ z ∈ L, free z.base
def vx_Q (Qc : Array Value → State → Outcome → State → Prop) (XC : String → State → State → Prop) (mc ms : Nat) (free : Addr → Prop) : Array Value → State → Outcome → State → Prop := fun a st o t =>
  (Qc a st o t ∧ ∃ L, FrameEnd st o t L mc ms ∧ ∀ q ∈ L, free q.base) ∨ ∃ q, o = .threw q ∧ vx_T XC st q t mc ms free
/-- a callee that returns or throws -/
def vx_Met (l : Launch) (y : MethodName) (ws : List Cond) (rm : Room) (Pc : Array Value → State → Prop) (Qc : Array Value → State → Outcome → State → Prop) (XC : String → State → State → Prop) (mc ms : Nat) (free : Addr → Prop) : Prop :=
  MetFree l y (headSpec ws rm) Pc (fun _ _ _ _ _ => True) (vx_Q Qc XC mc ms free)
def vx_Post (XC : String → State → State → Prop) (mc ms : Nat) (free : Addr → Prop) : Pt → Array Value → Addr → Pt → Prop := fun A a q B =>
  ∃ (g : JFrame) (mk : MethodId) (t : State) (L : List Loc) (E : String) (ce : Cell), B.U.heap = t.heap ∧ B.U.vm = t.vm ∧ XC E (A.U.calling g mk a) t ∧ t.heap[q]? = some ce ∧ ce.vm = .none ∧ A.U.vm.findClass E = some ce.cls ∧ B.locs = A.locs ++ L ∧ (∀ z ∈ L, free z.base) ∧ B.cells = A.cells + mc ∧ B.slots = A.slots + ms
def vx_Back (l : Launch) (R : Room) (p : Program) (e : Env) (below : List Frame) (s : State) (sargs : Array Value) (y : MethodName) (len W9 : Nat)
    (Pre : Pt → Array Value → Prop) (Post : Pt → Array Value → Option Value → Pt → Prop) (PostX : Pt → Array Value → Addr → Pt → Prop) : Prop :=
  ∀ (m : MethodId) (meth : Method) (c : Code) (A : Pt) (g : JFrame) (ig : Instr) (mk : MethodId) (a : Array Value),
    Stand p l e R s m sargs below meth c A.U A.locs A.cells A.slots → g.method = m → g.locals.size = c.maxLocals → decode c.code g.pc = .ok (ig, len) →
    2 * g.monitorRoom + (g.stack.map fun v => v.category).sum ≤ W9 → A.U.methodNamed? y = some mk → Pre A a →
    (∃ (v : Option Value) (B : Pt), Stand p l e R s m sargs below meth c B.U B.locs B.cells B.slots ∧ Post A a v B ∧
      Steps p.tables e below (doInvoke e (A.U.setTop g) [] mk a).1 (B.U.setTop { g with pc := g.pc + len, stack := v.toList ++ g.stack })) ∨
    (∃ (q : Addr) (B : Pt), Stand p l e R s m sargs below meth c B.U B.locs B.cells B.slots ∧ PostX A a q B ∧
      Steps p.tables e below (doInvoke e (A.U.setTop g) [] mk a).1 ((B.U.setTop g).pushFrame (.throwing q)))
section Payer
variable {l : Launch} {R : Room} {p : Program} {e : Env} {below : List Frame} {s : State} {sargs : Array Value} {y : MethodName} {len W9 : Nat}
theorem vx_back {ws : List Cond} {rm : Room} {Pc : Array Value → State → Prop} {Qc : Array Value → State → Outcome → State → Prop} {XC : String → State → State → Prop} {mc ms : Nat} {free : Addr → Prop} {bytes : ByteArray} {maxL : Nat} {ret : Option FieldType}
    (hM : vx_Met l y ws rm Pc Qc XC mc ms free) (hblind : FrameBlind Pc) (hrc : rm.cells = mc) (hrs : rm.slots = ms)
    (hframes : rm.frames + 1 ≤ R.frames) (hlocals : W9 + (maxL + 11) + rm.locals ≤ R.locals)
    (hws : ∀ w ∈ ws, ∀ a' U, s.WarmedH U.vm → w.before a' U = true) (hcode : Cond.code y bytes maxL ret ∈ ws) (hinit : ∀ a' U, s.WarmedH U.vm → (Cond.initialized y.cls).before a' U = true) :
    vx_Back l R p e below s sargs y len W9 (PreOf R mc ms Pc) (PostOf Qc mc ms free) (vx_Post XC mc ms free) := by
  intro m meth c A g ig mk a X hg hsize hdg hW hn hp
  have h1 : (headSpec ws rm).pre.before a A.U = true := atoms_intro fun w hw => hws w hw _ _ X.warmed
  have h2 : (Cond.code y bytes maxL ret).before a A.U = true := hws _ hcode _ _ X.warmed
  have h3 : (Cond.initialized y.cls).before a A.U = true := hinit _ _ X.warmed
  have h4 : A.cells + (headSpec ws rm).room.cells ≤ R.cells := by rw [show (headSpec ws rm).room.cells = mc from hrc]; exact hp.1
  have h5 : A.slots + (headSpec ws rm).room.slots ≤ R.slots := by rw [show (headSpec ws rm).room.slots = ms from hrs]; exact hp.2.1
  have hPc : Pc a (A.U.calling g mk a) := hblind _ _ _ _ hp.2.2
  obtain ⟨U, Ls, c0, s0⟩ := A
  dsimp only [Pt.U, Pt.locs, Pt.cells, Pt.slots] at h1 h2 h3 h4 h5 X hn hPc ⊢
  obtain ⟨methY, cY, hmY, hcY, -, hlY, -, -, -, -⟩ := Cond.code_spec hn h2
  obtain ⟨kY, hkY, -⟩ := className_of_methodNamed hn
  have hinitY : kY.init = .initialized := Cond.initialized_spec (findClass_of_methodNamed hn) hkY h3
  have h : At U g.method c below := by rw [hg]; exact X.here
  have hlocals9 : W9 + (maxL + 11) + (headSpec ws rm).room.locals ≤ R.locals := hlocals
  have happ : (headSpec ws rm).appliesLoose y e.platform (U.calling g mk a) = true :=
    Spec.appliesLoose_calling (g := g) h hdg hn hkY hinitY
      (X.room_calling (g := g) (R' := (headSpec ws rm).room) hsize hmY hcY hframes (by rw [hlY]; omega) h4 h5) h1
  obtain ⟨mid, hmid⟩ := h.above
  have hfr : (U.setTop g).frames = (.java g :: mid) ++ below := by rw [State.frames_setTop' g h.top, hmid]; rfl
  obtain ⟨o, s₂, hsteps, -, hend, hq⟩ := Steps.callFree hM p X.admits X.cas X.clock (acts := []) hfr happ hPc trivial
  have hq' : vx_Q Qc XC mc ms free a (U.calling g mk a) o s₂ := hq
  rw [State.frames_setTop' g h.top] at hend
  obtain ⟨g₀, hg0⟩ := Option.isSome_iff_exists.mp h.top
  obtain ⟨r, hr⟩ := State.topJava?_eq_some.mp hg0
  have hr' : (({ U with heap := s₂.heap, slotsUsed := s₂.slotsUsed } : State).setVm s₂.vm).frames = .java g₀ :: r := hr
  rcases hq' with ⟨hqc, L, hfe, hL⟩ | ⟨q, rfl, E, ce, L, hx, hce, hcv, hcl, hW₂, hsm, hL⟩
  · obtain ⟨⟨v, rfl⟩, hW₂, e2, q2, q3, q4, q5, q6⟩ := id hfe
    have e3 : s₂ = ({ (U.calling g mk a).setFrames s₂.frames with heap := s₂.heap, slotsUsed := s₂.slotsUsed } : State).setVm s₂.vm := by
      have : s₂ = ({ s₂ with vm := (U.calling g mk a).vm } : State).setVm s₂.vm := rfl
      rw [e2] at this
      exact this
    obtain ⟨c₂, i₂, len₂, hc₂, hd₂, hf₂⟩ := hend
    have hW' : U.WarmedH s₂.vm := hW₂
    have hcc : c₂ = c := by
      have h1 : s₂.code? g.method = U.code? g.method := by
        rw [State.code?_eq, State.code?_eq, hW'.alike.method?]
      exact Option.some.inj (hc₂.symm.trans (h1.trans h.code))
    subst hcc
    have hlen : len₂ = len := by rw [hdg] at hd₂; cases hd₂; rfl
    subst hlen
    have hs₂ : s₂ = (({ U with heap := s₂.heap, slotsUsed := s₂.slotsUsed } : State).setVm s₂.vm).setTop { g with pc := g.pc + len₂, stack := v.toList ++ g.stack } := by
      refine e3.trans ?_
      rw [hf₂, State.calling_eq h.top, State.setFrames_setFrames, State.setTop_of_frames _ hr', hr]
      rfl
    have hsame : U.sameButNew ({ U with heap := s₂.heap, slotsUsed := s₂.slotsUsed } : State) L mc ms := by
      refine ⟨?_, q2, q3, q4, q5, q6⟩
      obtain ⟨t, ht, -⟩ := State.frames_cons hr
      show ({ U with heap := s₂.heap, slotsUsed := s₂.slotsUsed } : State) = { U.setFrames U.frames with heap := s₂.heap, slotsUsed := s₂.slotsUsed }
      rw [State.setFrames_self ht]
    subst hg
    refine Or.inl ⟨v, ⟨(({ U with heap := s₂.heap, slotsUsed := s₂.slotsUsed } : State).setVm s₂.vm), Ls ++ L, c0 + mc, s0 + ms⟩,
      ⟨X.admits, X.cas, X.clock, X.frames, X.room, X.hears, X.method, X.code, (X.here.setHeapUsed s₂.heap s₂.slotsUsed).setVm hW'.alike, X.tail, State.WarmedH.trans X.warmed hW', X.limits, X.bytes, X.same.trans (hsame.setVm s.vm)⟩,
      ⟨g, mk, s₂, L, rfl, rfl, hqc, rfl, hL, rfl, rfl⟩, ?_⟩
    show Steps p.tables e below _ ((({ U with heap := s₂.heap, slotsUsed := s₂.slotsUsed } : State).setVm s₂.vm).setTop { g with pc := g.pc + len₂, stack := v.toList ++ g.stack })
    rw [← hs₂]
    exact hsteps
  · obtain ⟨e2, q2, q3, q4, q5, q6⟩ := id hsm
    have e3 : s₂ = ({ (U.calling g mk a).setFrames s₂.frames with heap := s₂.heap, slotsUsed := s₂.slotsUsed } : State).setVm s₂.vm := by
      have : s₂ = ({ s₂ with vm := (U.calling g mk a).vm } : State).setVm s₂.vm := rfl
      rw [e2] at this
      exact this
    have hf₂ : s₂.frames = .throwing q :: .java g :: U.frames.tail := hend
    have hW' : U.WarmedH s₂.vm := hW₂
    have hs₂ : s₂ = ((({ U with heap := s₂.heap, slotsUsed := s₂.slotsUsed } : State).setVm s₂.vm).setTop g).pushFrame (.throwing q) := by
      refine e3.trans ?_
      rw [hf₂, State.calling_eq h.top, State.setFrames_setFrames, State.pushFrame, State.frames_setTop _ hr', State.setTop_of_frames _ hr', State.setFrames_setFrames, hr]
      rfl
    have hsame : U.sameButNew ({ U with heap := s₂.heap, slotsUsed := s₂.slotsUsed } : State) L mc ms := by
      refine ⟨?_, q2, q3, q4, q5, q6⟩
      obtain ⟨t, ht, -⟩ := State.frames_cons hr
      show ({ U with heap := s₂.heap, slotsUsed := s₂.slotsUsed } : State) = { U.setFrames U.frames with heap := s₂.heap, slotsUsed := s₂.slotsUsed }
      rw [State.setFrames_self ht]
    subst hg
    refine Or.inr ⟨q, ⟨(({ U with heap := s₂.heap, slotsUsed := s₂.slotsUsed } : State).setVm s₂.vm), Ls ++ L, c0 + mc, s0 + ms⟩,
      ⟨X.admits, X.cas, X.clock, X.frames, X.room, X.hears, X.method, X.code, (X.here.setHeapUsed s₂.heap s₂.slotsUsed).setVm hW'.alike, X.tail, State.WarmedH.trans X.warmed hW', X.limits, X.bytes, X.same.trans (hsame.setVm s.vm)⟩,
      ⟨g, mk, s₂, L, E, ce, rfl, rfl, hx, hce, hcv, hcl, rfl, hL, rfl, rfl⟩, ?_⟩
    show Steps p.tables e below _ (((({ U with heap := s₂.heap, slotsUsed := s₂.slotsUsed } : State).setVm s₂.vm).setTop g).pushFrame (.throwing q))
    rw [← hs₂]
    exact hsteps
end Payer
section Calls
variable {p : Program} {l : Launch} {e : Env} {R : Room} {s : State} {m : MethodId} {args : Array Value} {below : List Frame} {meth : Method} {c : Code} {T : State} {locs : List Loc} {cells slots : Nat}
theorem vx_callV (X : Stand p l e R s m args below meth c T locs cells slots) (hexec : p.tables.exec = Jvm.exec) {own C : String} {index : Nat} {y : MethodName} {bytes : ByteArray} {maxL : Nat} {ret : Option FieldType}
    (hown : s.vm.findClass own = some m.cls) (hlink : (Cond.methodLink own index y).before args s = true) (hinst : (Cond.instanceMethod y).before args s = true) (hsel : (Cond.selects C y y).before args s = true)
    (hcode : (Cond.code y bytes maxL ret).before args s = true) (hy : y.cls ≠ "java/lang/invoke/MethodHandle" ∧ y.cls ≠ "java/lang/invoke/VarHandle")
    {W9 : Nat} {Pre : Pt → Array Value → Prop} {Post : Pt → Array Value → Option Value → Pt → Prop} {PostX : Pt → Array Value → Addr → Pt → Prop} (hK : vx_Back l R p e below s args y 3 W9 Pre Post PostX)
    {b : Addr} {cellB : Cell} (hcell : T.heap[b]? = some cellB) (hobj : cellB.vm.isStatics = false) (hcls : s.vm.findClass C = some cellB.cls)
    {g : JFrame} (hg : g.method = m) (hsize : g.locals.size = c.maxLocals) {argsL rest : List Value} (hlen : ∀ sig, parseMethodDescriptor y.desc = some sig → argsL.length = sig.parameters.length)
    (hstack : g.stack = argsL.reverse ++ .ref b :: rest) (hW : 2 * g.monitorRoom + (rest.map fun v => v.category).sum ≤ W9) (hdg : decode c.code g.pc = .ok (.invokevirtual index, 3))
    (hpre : ∀ vm₁, s.WarmedH vm₁ → Pre ⟨T.setVm vm₁, locs, cells, slots⟩ (Value.ref b :: argsL).toArray) :
    (∃ (v : Option Value) (vm₁ : Vm) (B : Pt), s.WarmedH vm₁ ∧ Stand p l e R s m args below meth c B.U B.locs B.cells B.slots ∧ Post ⟨T.setVm vm₁, locs, cells, slots⟩ (Value.ref b :: argsL).toArray v B ∧
      ∀ target, Steps p.tables e below (B.U.setTop { g with pc := g.pc + 3, stack := v.toList ++ rest }) target → Steps p.tables e below (T.setTop g) target) ∨
    (∃ (q : Addr) (vm₁ : Vm) (B : Pt), s.WarmedH vm₁ ∧ Stand p l e R s m args below meth c B.U B.locs B.cells B.slots ∧ PostX ⟨T.setVm vm₁, locs, cells, slots⟩ (Value.ref b :: argsL).toArray q B ∧
      Steps p.tables e below (T.setTop g) ((B.U.setTop { g with stack := rest }).pushFrame (.throwing q))) := by
  obtain ⟨mk, methM, hnamed, hmethM, hstM, habM⟩ := Cond.instanceMethod_spec hinst
  obtain ⟨methM', cM, hmethM', -, -, -, -, -, -, hsigM⟩ := Cond.code_spec hnamed hcode
  cases hmethM.symm.trans hmethM'
  obtain ⟨c2, r2, m2, q1, q2, q3, q4, kP, hkP, hkPi⟩ := Cond.selects_spec hsel
  cases hcls.symm.trans q1
  cases (State.methodFound?_of_named hnamed hy).symm.trans q2
  cases hnamed.symm.trans q3
  have hselP : selectMethod e.platform s.vm cellB.cls mk = .method mk := by rw [Launch.admits_selectMethod X.admits]; exact q4
  obtain ⟨vm₁, X₁, hstep₁⟩ := X.invokevirtual hexec hown hlink hnamed hmethM hstM hkP hkPi hy (a := b) (cell := cellB) hcell
    (fun z h => by rw [h] at hobj; cases hobj) hselP hmethM habM hkP hkPi (g := g) hg (argsL := argsL) (rest := rest) (hlen _ hsigM) hstack hdg
  rcases hK m meth c ⟨T.setVm vm₁, locs, cells, slots⟩ { g with stack := rest } (.invokevirtual index) mk (Value.ref b :: argsL).toArray X₁ hg hsize hdg hW (X₁.named hnamed) (hpre vm₁ X₁.warmed) with ⟨v, B, X', hpost, hsteps⟩ | ⟨q, B, X', hpost, hsteps⟩
  · exact Or.inl ⟨v, vm₁, B, X₁.warmed, X', hpost, fun target h => hstep₁ _ fun acts => by rw [doInvoke_state]; exact hsteps.trans h⟩
  · exact Or.inr ⟨q, vm₁, B, X₁.warmed, X', hpost, hstep₁ _ fun acts => by rw [doInvoke_state]; exact hsteps⟩
theorem vx_callS (X : Stand p l e R s m args below meth c T locs cells slots) (hexec : p.tables.exec = Jvm.exec) {own : String} {index : Nat} {y : MethodName} {bytes : ByteArray} {maxL : Nat} {ret : Option FieldType}
    (hown : s.vm.findClass own = some m.cls) (hlink : (Cond.methodLink own index y).before args s = true) (hstat : (Cond.static y).before args s = true) (hinit : (Cond.initialized y.cls).before args s = true)
    (hcode : (Cond.code y bytes maxL ret).before args s = true) (hy : y.cls ≠ "java/lang/invoke/MethodHandle" ∧ y.cls ≠ "java/lang/invoke/VarHandle")
    {W9 : Nat} {Pre : Pt → Array Value → Prop} {Post : Pt → Array Value → Option Value → Pt → Prop} {PostX : Pt → Array Value → Addr → Pt → Prop} (hK : vx_Back l R p e below s args y 3 W9 Pre Post PostX)
    {g : JFrame} (hg : g.method = m) (hsize : g.locals.size = c.maxLocals) {argsL rest : List Value} (hlen : ∀ sig, parseMethodDescriptor y.desc = some sig → argsL.length = sig.parameters.length)
    (hstack : g.stack = argsL.reverse ++ rest) (hW : 2 * g.monitorRoom + (rest.map fun v => v.category).sum ≤ W9) (hdg : decode c.code g.pc = .ok (.invokestatic index, 3))
    (hpre : ∀ vm₁, s.WarmedH vm₁ → Pre ⟨T.setVm vm₁, locs, cells, slots⟩ argsL.toArray) :
    (∃ (v : Option Value) (vm₁ : Vm) (B : Pt), s.WarmedH vm₁ ∧ Stand p l e R s m args below meth c B.U B.locs B.cells B.slots ∧ Post ⟨T.setVm vm₁, locs, cells, slots⟩ argsL.toArray v B ∧
      ∀ target, Steps p.tables e below (B.U.setTop { g with pc := g.pc + 3, stack := v.toList ++ rest }) target → Steps p.tables e below (T.setTop g) target) ∨
    (∃ (q : Addr) (vm₁ : Vm) (B : Pt), s.WarmedH vm₁ ∧ Stand p l e R s m args below meth c B.U B.locs B.cells B.slots ∧ PostX ⟨T.setVm vm₁, locs, cells, slots⟩ argsL.toArray q B ∧
      Steps p.tables e below (T.setTop g) ((B.U.setTop { g with stack := rest }).pushFrame (.throwing q))) := by
  obtain ⟨mk, hnamed⟩ := Cond.code_named hcode
  obtain ⟨methM, cM, hmethM, -, -, -, -, -, -, hsigM⟩ := Cond.code_spec hnamed hcode
  have hstatic : methM.isStatic = true := Cond.static_spec hnamed hmethM hstat
  obtain ⟨kP, hkP, -⟩ := className_of_methodNamed hnamed
  have hinitP : kP.init = .initialized := Cond.initialized_spec (findClass_of_methodNamed hnamed) hkP hinit
  obtain ⟨vm₁, X₁, hstep₁⟩ := X.invokestatic hexec hown hlink hnamed hmethM hstatic hkP hinitP hy (g := g) hg (argsL := argsL) (rest := rest) (hlen _ hsigM) hstack hdg
  rcases hK m meth c ⟨T.setVm vm₁, locs, cells, slots⟩ { g with stack := rest } (.invokestatic index) mk argsL.toArray X₁ hg hsize hdg hW (X₁.named hnamed) (hpre vm₁ X₁.warmed) with ⟨v, B, X', hpost, hsteps⟩ | ⟨q, B, X', hpost, hsteps⟩
  · exact Or.inl ⟨v, vm₁, B, X₁.warmed, X', hpost, fun target h => hstep₁ _ fun acts => by rw [doInvoke_state]; exact hsteps.trans h⟩
  · exact Or.inr ⟨q, vm₁, B, X₁.warmed, X', hpost, hstep₁ _ fun acts => by rw [doInvoke_state]; exact hsteps⟩
end Calls
theorem vx_cls {s : State} {T : State} {vm₁ : Vm} {E : String} {k : ClassId} (hW : s.WarmedH vm₁) (h : (T.setVm vm₁).vm.findClass E = some k) : s.vm.findClass E = some k := by
  have h1 : vm₁.findClass E = some k := h
  rw [hW.alike.findClass] at h1
  exact h1
/-- the method's frame g, with q thrown over it -/
def vx_W (p : Program) (l : Launch) (e : Env) (R : Room) (s : State) (m : MethodId) (args : Array Value) (below : List Frame) (meth : Method) (c : Code) (H : Heap) (locs : List Loc) (cells slots : Nat) (Q : State → Prop) (g : JFrame) (q : Addr) : Prop :=
  ∀ T : State, T.heap = H → Stand p l e R s m args below meth c T locs cells slots → ∃ t, Steps p.tables e below ((T.setTop g).pushFrame (.throwing q)) t ∧ Q t
def vx_Run (p : Program) (l : Launch) (e : Env) (R : Room) (s : State) (m : MethodId) (args : Array Value) (below : List Frame) (meth : Method) (c : Code) (H : Heap) (locs : List Loc) (cells slots mc ms : Nat) (g : JFrame) (rest : List Value) (Qa : State → Outcome → State → Prop) (XC : String → State → State → Prop) (free : Addr → Prop) : Prop :=
  ∀ T : State, T.heap = H → Stand p l e R s m args below meth c T locs cells slots →
    (∃ (v : Option Value) (st₀ t T' : State) (L : List Loc), st₀.heap = H ∧ Stand p l e R s m args below meth c T' (locs ++ L) (cells + mc) (slots + ms) ∧ (∀ q ∈ L, free q.base) ∧ T'.heap = t.heap ∧ T'.vm = t.vm ∧ Qa st₀ (.returned v) t ∧
      Goes p e below T g T' { g with pc := g.pc + 3, stack := v.toList ++ rest }) ∨
    (∃ (q : Addr) (st₀ t T' : State) (L : List Loc) (E : String) (ce : Cell), st₀.heap = H ∧ Stand p l e R s m args below meth c T' (locs ++ L) (cells + mc) (slots + ms) ∧ (∀ z ∈ L, free z.base) ∧ T'.heap = t.heap ∧ T'.vm = t.vm ∧ XC E st₀ t ∧ t.heap[q]? = some ce ∧ ce.vm = .none ∧ s.vm.findClass E = some ce.cls ∧
      Steps p.tables e below (T.setTop g) ((T'.setTop { g with stack := rest }).pushFrame (.throwing q)))
def vx_X {S : Type} (px : S → Prop) (B : String → S → State → Prop) (A : Nat → Prop) : String → State → State → Prop := fun E st t => ∃ u : S, px u ∧ B E u t ∧ va_F A st t
section Runs
variable {p : Program} {l : Launch} {e : Env} {R : Room} {s : State} {m : MethodId} {args : Array Value} {below : List Frame} {meth : Method} {c : Code} {H : Heap} {locs : List Loc} {cells slots : Nat}
variable {y : MethodName} {bytes cc : ByteArray} {maxL nL mc ms n index : Nat} {ret : Option FieldType} {ws : List Cond} {rm : Room} {Pc : Array Value → State → Prop} {Qc : Array Value → State → Outcome → State → Prop} {XC : String → State → State → Prop} {free : Addr → Prop} {Ts : List Cond} {own C : String} {b : Addr} {As rest : List Value} {g : JFrame}
theorem vx_callBack (cb : CallB R s args own index y bytes maxL ret ws rm mc ms n) (hM : vx_Met l y ws rm Pc Qc XC mc ms free) (hbl : FrameBlind Pc) : vx_Back l R p e below s args y 3 8 (PreOf R mc ms Pc) (PostOf Qc mc ms free) (vx_Post XC mc ms free) := by
  obtain ⟨hrc, hrs, hfr, hlo, hws, hcw, -, hini, -⟩ := cb
  exact vx_back (bytes := bytes) (maxL := maxL) (ret := ret) hM hbl hrc hrs hfr hlo hws hcw (fun a' U hW => word_at hW (Or.inl (by first | rfl | simp [Cond.onTables, Cond.keeps, Cond.steady])) hini)
theorem vx_runV (S : CallFix p m c cc nL s args Ts own) (hM : vx_Met l y ws rm Pc Qc XC mc ms free) (cw : CallW R s args own C index y bytes maxL ret ws rm mc ms n) (hp : PreV s H C b Pc As)
    (hg : g.method = m) (hn : As.length = n) (hsize : g.locals.size = nL) (hstack : g.stack = As.reverse ++ .ref b :: rest) (hW : 2 * g.monitorRoom + (rest.map fun v => v.category).sum ≤ 8) (hdg : decode cc g.pc = .ok (.invokevirtual index, 3)) (hf : cells + mc ≤ R.cells ∧ slots + ms ≤ R.slots) :
    vx_Run p l e R s m args below meth c H locs cells slots mc ms g rest (Qc (Value.ref b :: As).toArray) XC free := by
  have hK : vx_Back l R p e below s args y 3 8 (PreOf R mc ms Pc) (PostOf Qc mc ms free) (vx_Post XC mc ms free) := vx_callBack cw.1 hM hp.1
  obtain ⟨⟨-, -, -, -, -, -, hcode, -, hy, hlen, hl⟩, hin, hse⟩ := cw
  obtain ⟨hx, hb, hml, ho, -⟩ := S
  obtain ⟨-, ⟨cellB, hcB, hoB, hclB⟩, hPc⟩ := hp
  intro T hT X
  rcases vx_callV X hx (C := C) (bytes := bytes) (maxL := maxL) (ret := ret) ho hl hin hse hcode hy hK (by rw [hT]; exact hcB) hoB hclB hg (hsize.trans hml.symm) (argsL := As) (rest := rest) (fun sig h => hn.trans (hlen sig h)) hstack hW (by rw [hb]; exact hdg)
    (fun vm₁ hW₁ => ⟨hf.1, hf.2, hPc (T.setVm vm₁) hT hW₁⟩) with ⟨v, vm₁, ⟨U', l2, c2, s2⟩, hW₁, X', ⟨g', mk, t, L, e1, e2, hq, h1, hL, h2, h3⟩, st⟩ | ⟨q, vm₁, ⟨U', l2, c2, s2⟩, hW₁, X', ⟨g', mk, t, L, E, ce, e1, e2, hq, hce, hcv, hcl, h1, hL, h2, h3⟩, st⟩
  · dsimp only [Pt.U, Pt.locs, Pt.cells, Pt.slots] at X' e1 e2 h1 h2 h3 st
    subst h1; subst h2; subst h3
    exact Or.inl ⟨v, (T.setVm vm₁).calling g' mk (Value.ref b :: As).toArray, t, U', L, hT, X', hL, e1, e2, hq, st⟩
  · dsimp only [Pt.U, Pt.locs, Pt.cells, Pt.slots] at X' e1 e2 h1 h2 h3 st hcl
    subst h1; subst h2; subst h3
    exact Or.inr ⟨q, (T.setVm vm₁).calling g' mk (Value.ref b :: As).toArray, t, U', L, E, ce, hT, X', hL, e1, e2, hq, hce, hcv, vx_cls hW₁ hcl, st⟩
theorem vx_runS (S : CallFix p m c cc nL s args Ts own) (hM : vx_Met l y ws rm Pc Qc XC mc ms free) (cw : CallB R s args own index y bytes maxL ret ws rm mc ms n ∧ (Cond.static y).before args s = true) (hp : PreS s H Pc As)
    (hg : g.method = m) (hn : As.length = n) (hsize : g.locals.size = nL) (hstack : g.stack = As.reverse ++ rest) (hW : 2 * g.monitorRoom + (rest.map fun v => v.category).sum ≤ 8) (hdg : decode cc g.pc = .ok (.invokestatic index, 3)) (hf : cells + mc ≤ R.cells ∧ slots + ms ≤ R.slots) :
    vx_Run p l e R s m args below meth c H locs cells slots mc ms g rest (Qc As.toArray) XC free := by
  have hK : vx_Back l R p e below s args y 3 8 (PreOf R mc ms Pc) (PostOf Qc mc ms free) (vx_Post XC mc ms free) := vx_callBack cw.1 hM hp.1
  obtain ⟨⟨-, -, -, -, -, -, hcode, hini, hy, hlen, hl⟩, hstt⟩ := cw
  obtain ⟨hx, hb, hml, ho, -⟩ := S
  intro T hT X
  rcases vx_callS X hx (bytes := bytes) (maxL := maxL) (ret := ret) ho hl hstt hini hcode hy hK hg (hsize.trans hml.symm) (argsL := As) (rest := rest) (fun sig h => hn.trans (hlen sig h)) hstack hW (by rw [hb]; exact hdg)
    (fun vm₁ hW₁ => ⟨hf.1, hf.2, hp.2 (T.setVm vm₁) hT hW₁⟩) with ⟨v, vm₁, ⟨U', l2, c2, s2⟩, hW₁, X', ⟨g', mk, t, L, e1, e2, hq, h1, hL, h2, h3⟩, st⟩ | ⟨q, vm₁, ⟨U', l2, c2, s2⟩, hW₁, X', ⟨g', mk, t, L, E, ce, e1, e2, hq, hce, hcv, hcl, h1, hL, h2, h3⟩, st⟩
  · dsimp only [Pt.U, Pt.locs, Pt.cells, Pt.slots] at X' e1 e2 h1 h2 h3 st
    subst h1; subst h2; subst h3
    exact Or.inl ⟨v, (T.setVm vm₁).calling g' mk As.toArray, t, U', L, hT, X', hL, e1, e2, hq, st⟩
  · dsimp only [Pt.U, Pt.locs, Pt.cells, Pt.slots] at X' e1 e2 h1 h2 h3 st hcl
    subst h1; subst h2; subst h3
    exact Or.inr ⟨q, (T.setVm vm₁).calling g' mk As.toArray, t, U', L, E, ce, hT, X', hL, e1, e2, hq, hce, hcv, vx_cls hW₁ hcl, st⟩
end Runs
section Rows
variable {p : Program} {l : Launch} {e : Env} {R : Room} {s : State} {m : MethodId} {args : Array Value} {below : List Frame} {meth : Method} {c : Code} {H : Heap} {locs : List Loc} {cells slots : Nat} {Q : State → Prop}
variable {mc ms : Nat} {free : Addr → Prop} {A0 A1 : Nat → Prop} {H0 : Heap} {a : Array Value} {pc : Nat} {ls : Array Slot} {st0 rest : List Value}
theorem vx_keep {st₀ t T' : State} {L : List Loc} (h0 : st₀.heap = H) (e1 : T'.heap = t.heap) (hS : va_S A0 H0 H locs) (hA : ∀ q, q < H.size → A1 q → A0 q) (hf : ∀ q, free q → A0 q) (hL : ∀ q ∈ L, free q.base) (hF : va_F A1 st₀ t) :
    H.size ≤ T'.heap.size ∧ (∀ q : Nat, q < H.size → ¬ A1 q → T'.heap[q]? = H[q]?) ∧ va_S A0 H0 T'.heap (locs ++ L) := by
  obtain ⟨hz, hk⟩ := hF
  rw [h0] at hz hk
  exact ⟨by rw [e1]; exact hz, fun q h1 h2 => by rw [e1]; exact hk q h1 h2,
    ⟨Nat.le_trans hS.1 (by rw [e1]; exact hz), fun q h1 h2 => by rw [e1, hk q (Nat.lt_of_lt_of_le h1 hS.1) (fun z => h2 (hA q (Nat.lt_of_lt_of_le h1 hS.1) z))]; exact hS.2.1 q h1 h2, fun q hq => by
      rcases List.mem_append.mp hq with h | h
      · exact hS.2.2 q h
      · exact hf _ (hL q h)⟩⟩
theorem vx_calli {S SX : Type} {post : Int32 → S → Prop} {px : SX → Prop} {B : S → State → Prop} {BX : String → SX → State → Prop} {AX : Nat → Prop} (hr : vx_Run p l e R s m args below meth c H locs cells slots mc ms (F0 m pc ls st0) rest (va_Qi post B A1 a) (vx_X px BX AX) free) (hS : va_S A0 H0 H locs) (hA : ∀ q, q < H.size → A1 q → A0 q) (hf : ∀ q, free q → A0 q) (hAX : ∀ q, q < H.size → AX q → A0 q)
    (kx : ∀ (E : String) (ce : Cell) (q9 : Addr) (u : SX) (t : State) (H1 : Heap) (locs1 : List Loc), t.heap = H1 → s.vm.Alike t.vm → px u → BX E u t → H.size ≤ H1.size → (∀ q : Nat, q < H.size → ¬ AX q → H1[q]? = H[q]?) → va_S A0 H0 H1 locs1 → H1[q9]? = some ce → ce.vm = .none → s.vm.findClass E = some ce.cls → vx_W p l e R s m args below meth c H1 locs1 (cells + mc) (slots + ms) Q (F0 m pc ls rest) q9)
    (kk : ∀ (r : Int32) (u : S) (t : State) (H1 : Heap) (locs1 : List Loc), t.heap = H1 → s.vm.Alike t.vm → post r u → B u t → H.size ≤ H1.size → (∀ q : Nat, q < H.size → ¬ A1 q → H1[q]? = H[q]?) → va_S A0 H0 H1 locs1 → W p l e R s m args below meth c H1 locs1 (cells + mc) (slots + ms) Q (F0 m (pc + 3) ls (.int r :: rest))) : W p l e R s m args below meth c H locs cells slots Q (F0 m pc ls st0) := by
  intro T hT X
  rcases hr T hT X with ⟨v, st₀, t, T', L, h0, X', hL, e1, e2, ⟨⟨r, u, hv, hp, hb⟩, hF⟩, st⟩ | ⟨q, st₀, t, T', L, E, ce, h0, X', hL, e1, e2, ⟨u, hp, hb, hF⟩, hce, hcv, hcl, st⟩
  · cases hv
    obtain ⟨k1, k2, k3⟩ := vx_keep h0 e1 hS hA hf hL hF
    obtain ⟨t2, a1, b1⟩ := kk r u t T'.heap (locs ++ L) e1.symm (by rw [← e2]; exact X'.warmed.alike) hp hb k1 k2 k3 T' rfl X'
    exact ⟨t2, st t2 a1, b1⟩
  · obtain ⟨k1, k2, k3⟩ := vx_keep h0 e1 hS hAX hf hL hF
    obtain ⟨t2, a1, b1⟩ := kx E ce q u t T'.heap (locs ++ L) e1.symm (by rw [← e2]; exact X'.warmed.alike) hp hb k1 k2 k3 (by rw [e1]; exact hce) hcv hcl T' rfl X'
    exact ⟨t2, st.trans a1, b1⟩
theorem vx_calll {S SX : Type} {post : Int64 → S → Prop} {px : SX → Prop} {B : S → State → Prop} {BX : String → SX → State → Prop} {AX : Nat → Prop} (hr : vx_Run p l e R s m args below meth c H locs cells slots mc ms (F0 m pc ls st0) rest (va_Ql post B A1 a) (vx_X px BX AX) free) (hS : va_S A0 H0 H locs) (hA : ∀ q, q < H.size → A1 q → A0 q) (hf : ∀ q, free q → A0 q) (hAX : ∀ q, q < H.size → AX q → A0 q)
    (kx : ∀ (E : String) (ce : Cell) (q9 : Addr) (u : SX) (t : State) (H1 : Heap) (locs1 : List Loc), t.heap = H1 → s.vm.Alike t.vm → px u → BX E u t → H.size ≤ H1.size → (∀ q : Nat, q < H.size → ¬ AX q → H1[q]? = H[q]?) → va_S A0 H0 H1 locs1 → H1[q9]? = some ce → ce.vm = .none → s.vm.findClass E = some ce.cls → vx_W p l e R s m args below meth c H1 locs1 (cells + mc) (slots + ms) Q (F0 m pc ls rest) q9)
    (kk : ∀ (r : Int64) (u : S) (t : State) (H1 : Heap) (locs1 : List Loc), t.heap = H1 → s.vm.Alike t.vm → post r u → B u t → H.size ≤ H1.size → (∀ q : Nat, q < H.size → ¬ A1 q → H1[q]? = H[q]?) → va_S A0 H0 H1 locs1 → W p l e R s m args below meth c H1 locs1 (cells + mc) (slots + ms) Q (F0 m (pc + 3) ls (.long r :: rest))) : W p l e R s m args below meth c H locs cells slots Q (F0 m pc ls st0) := by
  intro T hT X
  rcases hr T hT X with ⟨v, st₀, t, T', L, h0, X', hL, e1, e2, ⟨⟨r, u, hv, hp, hb⟩, hF⟩, st⟩ | ⟨q, st₀, t, T', L, E, ce, h0, X', hL, e1, e2, ⟨u, hp, hb, hF⟩, hce, hcv, hcl, st⟩
  · cases hv
    obtain ⟨k1, k2, k3⟩ := vx_keep h0 e1 hS hA hf hL hF
    obtain ⟨t2, a1, b1⟩ := kk r u t T'.heap (locs ++ L) e1.symm (by rw [← e2]; exact X'.warmed.alike) hp hb k1 k2 k3 T' rfl X'
    exact ⟨t2, st t2 a1, b1⟩
  · obtain ⟨k1, k2, k3⟩ := vx_keep h0 e1 hS hAX hf hL hF
    obtain ⟨t2, a1, b1⟩ := kx E ce q u t T'.heap (locs ++ L) e1.symm (by rw [← e2]; exact X'.warmed.alike) hp hb k1 k2 k3 (by rw [e1]; exact hce) hcv hcl T' rfl X'
    exact ⟨t2, st.trans a1, b1⟩
theorem vx_callf {S SX : Type} {post : UInt32 → S → Prop} {px : SX → Prop} {B : S → State → Prop} {BX : String → SX → State → Prop} {AX : Nat → Prop} (hr : vx_Run p l e R s m args below meth c H locs cells slots mc ms (F0 m pc ls st0) rest (va_Qf post B A1 a) (vx_X px BX AX) free) (hS : va_S A0 H0 H locs) (hA : ∀ q, q < H.size → A1 q → A0 q) (hf : ∀ q, free q → A0 q) (hAX : ∀ q, q < H.size → AX q → A0 q)
    (kx : ∀ (E : String) (ce : Cell) (q9 : Addr) (u : SX) (t : State) (H1 : Heap) (locs1 : List Loc), t.heap = H1 → s.vm.Alike t.vm → px u → BX E u t → H.size ≤ H1.size → (∀ q : Nat, q < H.size → ¬ AX q → H1[q]? = H[q]?) → va_S A0 H0 H1 locs1 → H1[q9]? = some ce → ce.vm = .none → s.vm.findClass E = some ce.cls → vx_W p l e R s m args below meth c H1 locs1 (cells + mc) (slots + ms) Q (F0 m pc ls rest) q9)
    (kk : ∀ (r : UInt32) (u : S) (t : State) (H1 : Heap) (locs1 : List Loc), t.heap = H1 → s.vm.Alike t.vm → post r u → B u t → H.size ≤ H1.size → (∀ q : Nat, q < H.size → ¬ A1 q → H1[q]? = H[q]?) → va_S A0 H0 H1 locs1 → W p l e R s m args below meth c H1 locs1 (cells + mc) (slots + ms) Q (F0 m (pc + 3) ls (.float r :: rest))) : W p l e R s m args below meth c H locs cells slots Q (F0 m pc ls st0) := by
  intro T hT X
  rcases hr T hT X with ⟨v, st₀, t, T', L, h0, X', hL, e1, e2, ⟨⟨r, u, hv, hp, hb⟩, hF⟩, st⟩ | ⟨q, st₀, t, T', L, E, ce, h0, X', hL, e1, e2, ⟨u, hp, hb, hF⟩, hce, hcv, hcl, st⟩
  · cases hv
    obtain ⟨k1, k2, k3⟩ := vx_keep h0 e1 hS hA hf hL hF
    obtain ⟨t2, a1, b1⟩ := kk r u t T'.heap (locs ++ L) e1.symm (by rw [← e2]; exact X'.warmed.alike) hp hb k1 k2 k3 T' rfl X'
    exact ⟨t2, st t2 a1, b1⟩
  · obtain ⟨k1, k2, k3⟩ := vx_keep h0 e1 hS hAX hf hL hF
    obtain ⟨t2, a1, b1⟩ := kx E ce q u t T'.heap (locs ++ L) e1.symm (by rw [← e2]; exact X'.warmed.alike) hp hb k1 k2 k3 (by rw [e1]; exact hce) hcv hcl T' rfl X'
    exact ⟨t2, st.trans a1, b1⟩
theorem vx_calld {S SX : Type} {post : UInt64 → S → Prop} {px : SX → Prop} {B : S → State → Prop} {BX : String → SX → State → Prop} {AX : Nat → Prop} (hr : vx_Run p l e R s m args below meth c H locs cells slots mc ms (F0 m pc ls st0) rest (va_Qd post B A1 a) (vx_X px BX AX) free) (hS : va_S A0 H0 H locs) (hA : ∀ q, q < H.size → A1 q → A0 q) (hf : ∀ q, free q → A0 q) (hAX : ∀ q, q < H.size → AX q → A0 q)
    (kx : ∀ (E : String) (ce : Cell) (q9 : Addr) (u : SX) (t : State) (H1 : Heap) (locs1 : List Loc), t.heap = H1 → s.vm.Alike t.vm → px u → BX E u t → H.size ≤ H1.size → (∀ q : Nat, q < H.size → ¬ AX q → H1[q]? = H[q]?) → va_S A0 H0 H1 locs1 → H1[q9]? = some ce → ce.vm = .none → s.vm.findClass E = some ce.cls → vx_W p l e R s m args below meth c H1 locs1 (cells + mc) (slots + ms) Q (F0 m pc ls rest) q9)
    (kk : ∀ (r : UInt64) (u : S) (t : State) (H1 : Heap) (locs1 : List Loc), t.heap = H1 → s.vm.Alike t.vm → post r u → B u t → H.size ≤ H1.size → (∀ q : Nat, q < H.size → ¬ A1 q → H1[q]? = H[q]?) → va_S A0 H0 H1 locs1 → W p l e R s m args below meth c H1 locs1 (cells + mc) (slots + ms) Q (F0 m (pc + 3) ls (.double r :: rest))) : W p l e R s m args below meth c H locs cells slots Q (F0 m pc ls st0) := by
  intro T hT X
  rcases hr T hT X with ⟨v, st₀, t, T', L, h0, X', hL, e1, e2, ⟨⟨r, u, hv, hp, hb⟩, hF⟩, st⟩ | ⟨q, st₀, t, T', L, E, ce, h0, X', hL, e1, e2, ⟨u, hp, hb, hF⟩, hce, hcv, hcl, st⟩
  · cases hv
    obtain ⟨k1, k2, k3⟩ := vx_keep h0 e1 hS hA hf hL hF
    obtain ⟨t2, a1, b1⟩ := kk r u t T'.heap (locs ++ L) e1.symm (by rw [← e2]; exact X'.warmed.alike) hp hb k1 k2 k3 T' rfl X'
    exact ⟨t2, st t2 a1, b1⟩
  · obtain ⟨k1, k2, k3⟩ := vx_keep h0 e1 hS hAX hf hL hF
    obtain ⟨t2, a1, b1⟩ := kx E ce q u t T'.heap (locs ++ L) e1.symm (by rw [← e2]; exact X'.warmed.alike) hp hb k1 k2 k3 (by rw [e1]; exact hce) hcv hcl T' rfl X'
    exact ⟨t2, st.trans a1, b1⟩
theorem vx_callv {S SX : Type} {post : S → Prop} {px : SX → Prop} {B : S → State → Prop} {BX : String → SX → State → Prop} {AX : Nat → Prop} (hr : vx_Run p l e R s m args below meth c H locs cells slots mc ms (F0 m pc ls st0) rest (va_Qv post B A1 a) (vx_X px BX AX) free) (hS : va_S A0 H0 H locs) (hA : ∀ q, q < H.size → A1 q → A0 q) (hf : ∀ q, free q → A0 q) (hAX : ∀ q, q < H.size → AX q → A0 q)
    (kx : ∀ (E : String) (ce : Cell) (q9 : Addr) (u : SX) (t : State) (H1 : Heap) (locs1 : List Loc), t.heap = H1 → s.vm.Alike t.vm → px u → BX E u t → H.size ≤ H1.size → (∀ q : Nat, q < H.size → ¬ AX q → H1[q]? = H[q]?) → va_S A0 H0 H1 locs1 → H1[q9]? = some ce → ce.vm = .none → s.vm.findClass E = some ce.cls → vx_W p l e R s m args below meth c H1 locs1 (cells + mc) (slots + ms) Q (F0 m pc ls rest) q9)
    (kk : ∀ (u : S) (t : State) (H1 : Heap) (locs1 : List Loc), t.heap = H1 → s.vm.Alike t.vm → post u → B u t → H.size ≤ H1.size → (∀ q : Nat, q < H.size → ¬ A1 q → H1[q]? = H[q]?) → va_S A0 H0 H1 locs1 → W p l e R s m args below meth c H1 locs1 (cells + mc) (slots + ms) Q (F0 m (pc + 3) ls (rest))) : W p l e R s m args below meth c H locs cells slots Q (F0 m pc ls st0) := by
  intro T hT X
  rcases hr T hT X with ⟨v, st₀, t, T', L, h0, X', hL, e1, e2, ⟨⟨u, hv, hp, hb⟩, hF⟩, st⟩ | ⟨q, st₀, t, T', L, E, ce, h0, X', hL, e1, e2, ⟨u, hp, hb, hF⟩, hce, hcv, hcl, st⟩
  · cases hv
    obtain ⟨k1, k2, k3⟩ := vx_keep h0 e1 hS hA hf hL hF
    obtain ⟨t2, a1, b1⟩ := kk u t T'.heap (locs ++ L) e1.symm (by rw [← e2]; exact X'.warmed.alike) hp hb k1 k2 k3 T' rfl X'
    exact ⟨t2, st t2 a1, b1⟩
  · obtain ⟨k1, k2, k3⟩ := vx_keep h0 e1 hS hAX hf hL hF
    obtain ⟨t2, a1, b1⟩ := kx E ce q u t T'.heap (locs ++ L) e1.symm (by rw [← e2]; exact X'.warmed.alike) hp hb k1 k2 k3 (by rw [e1]; exact hce) hcv hcl T' rfl X'
    exact ⟨t2, st.trans a1, b1⟩
/-- caught by the row x of this method's table; the rows ahead don't take it -/
theorem vx_catch {own name : String} {E : String} {ce : Cell} {q : Addr} (hown : s.vm.findClass own = some m.cls) (pre : List ExceptionTableEntry) (x : ExceptionTableEntry) (suf : List ExceptionTableEntry) (hsplit : c.exceptionTable.toList = pre ++ x :: suf)
    (hpass : ∀ z ∈ pre, covers z pc = false ∨ (z.catchType ≠ 0 ∧ ∃ nm : String, (Cond.classLink own z.catchType nm).before args s = true ∧ va_Nc E nm s)) (hx : covers x pc = true) (h0 : x.catchType ≠ 0)
    (hlink : (Cond.classLink own x.catchType name).before args s = true) (hcast : (Cond.castable E name).before args s = true) (hcell : H[q]? = some ce) (hv : ce.vm = .none) (hcl : s.vm.findClass E = some ce.cls)
    (kk : W p l e R s m args below meth c H locs cells slots Q (F0 m x.handlerPc ls [.ref q])) : vx_W p l e R s m args below meth c H locs cells slots Q (F0 m pc ls rest) q := by
  intro T hT X
  have hpl : e.platform.magicAccessors = ({} : Platform).magicAccessors := by rw [X.admits.platform]
  obtain ⟨c3, c4, hc3, hc4, hasg⟩ := Cond.castable_spec hcast
  cases Option.some.inj (hc3.symm.trans hcl)
  obtain ⟨c5, hc5, hcl5⟩ := Cond.classLink_spec hown hlink e.platform hpl
  cases Option.some.inj (hc4.symm.trans hc5)
  obtain ⟨vm', X', st⟩ := X.thenCaughtThrough q (g := F0 m pc ls rest) rfl (Steps.refl _) (by rw [hT]; exact hcell) (by rw [hv]; rfl) (by obtain ⟨k9, h9, -⟩ := Vm.findClass_spec hcl; exact ⟨k9, h9⟩) pre x suf hsplit
    (fun z hz => by
      rcases hpass z hz with h | ⟨hz0, nm, hl1, hn1⟩
      · exact Or.inl h
      · obtain ⟨c6, hc6, hcl6⟩ := Cond.classLink_spec hown hl1 e.platform hpl
        obtain ⟨a8, b8, h1, h2, h3⟩ := hn1
        cases Option.some.inj (h1.symm.trans hcl)
        cases Option.some.inj (h2.symm.trans hc6)
        exact Or.inr ⟨hz0, _, hcl6, h3⟩) hx (Or.inr ⟨h0, c4, hcl5, hasg⟩)
  obtain ⟨t, a1, b1⟩ := kk (T.setVm vm') hT X'
  exact ⟨t, st.trans a1, b1⟩
end Rows
section Ends
variable {p : Program} {l : Launch} {e : Env} {R : Room} {s : State} {m : MethodId} {args : Array Value} {below : List Frame} {meth : Method} {c : Code} {H : Heap} {locs : List Loc} {cells slots : Nat} {Q : State → Prop}
variable {mc ms : Nat} {free : Addr → Prop} {A0 A1 : Nat → Prop} {H0 : Heap} {a : Array Value} {ls : Array Slot} {st0 rest : List Value}
variable {Qc : Array Value → State → Outcome → State → Prop} {XC : String → State → State → Prop}
/-- what a body that may throw owes at its end -/
def vx_MQ (below : List Frame) (Qc : Array Value → State → Outcome → State → Prop) (XC : String → State → State → Prop) (a : Array Value) (s : State) (mc ms : Nat) (free : Addr → Prop) : State → Prop := fun t =>
  ∃ o, t.status = .running ∧ Ended t below o ∧ vx_Q Qc XC mc ms free a s o t
theorem vx_ret {g : JFrame} {mc ms : Nat} (k : W p l e R s m args below meth c H locs cells slots (MQ below Qc args s mc ms free) g) : W p l e R s m args below meth c H locs cells slots (vx_MQ below Qc XC args s mc ms free) g := by
  intro T hT X
  obtain ⟨t, a1, o, b1, b2, b3, b4⟩ := k T hT X
  exact ⟨t, a1, o, b1, b2, Or.inl ⟨b3, b4⟩⟩
/-- not caught here: it goes on to the caller -/
theorem vx_widen {g : JFrame} {q : Addr} {k n : Nat} (h1 : cells ≤ k) (h2 : slots ≤ n) (kk : vx_W p l e R s m args below meth c H locs k n Q g q) : vx_W p l e R s m args below meth c H locs cells slots Q g q := fun T hT X => kk T hT (stand_widen X h1 h2)
theorem vx_out {pc : Nat} {E : String} {ce : Cell} {q : Addr} {mc ms : Nat} (hout : ∀ x ∈ c.exceptionTable.toList, covers x pc = false) (hlocks : meth.locks = false) (hcell : H[q]? = some ce) (hv : ce.vm = .none) (hcl : s.vm.findClass E = some ce.cls)
    (hx : ∀ t : State, t.heap = H → s.vm.Alike t.vm → XC E s t) (hf : ∀ z ∈ locs, free z.base) (hc : cells ≤ mc) (hs : slots ≤ ms) :
    vx_W p l e R s m args below meth c H locs cells slots (vx_MQ below Qc XC args s mc ms free) (F0 m pc ls rest) q := by
  intro T hT X
  obtain ⟨st1, hrun, hend, hW, hsm⟩ := X.leaveThrown q (g := F0 m pc ls rest) rfl rfl rfl hout hlocks
  have hcell9 : (T.setFrames (.throwing q :: below)).heap[q]? = some ce := by
    show T.heap[q]? = some ce
    rw [hT]; exact hcell
  exact ⟨_, st1, .threw q, hrun, hend, Or.inr ⟨q, rfl, E, ce, locs, hx _ hT hW.alike, hcell9, hv, hcl, hW, hsm.mono hc hs, hf⟩⟩
theorem vx_frame {U : State} {k n : Nat} (h : s.sameButNew ({ U with vm := s.vm } : State) locs k n) : s.heap.size ≤ U.heap.size ∧ ∀ q : Nat, q < s.heap.size → (∀ z ∈ locs, z.base ≠ q) → U.heap[q]? = s.heap[q]? := by
  obtain ⟨-, h2, -, -, -, h6⟩ := h
  refine ⟨h2, fun q hq hz => ?_⟩
  obtain ⟨c9, e1, e2, e3, e4⟩ := h6 q _ (Array.getElem?_eq_getElem hq)
  have hs : c9.slots = (s.heap[q]).slots := Array.ext_getElem? fun i => e4 i fun hm => hz _ hm rfl
  have h9 : c9 = s.heap[q] := by
    rw [hs] at e2
    exact e2
  have e5 : U.heap[q]? = some c9 := e1
  rw [e5, h9, Array.getElem?_eq_getElem hq]
/-- the words of a throw but the four that speak of the heap -/
def vx_no (w : Cond) : Bool := decide (w ≠ .isRef (.static Bundle.tN "UNASSIGNED_STACK" Bundle.steD)) && decide (w ≠ .isRef (.static Bundle.tN "SUPPRESSED_SENTINEL" Bundle.listD)) && decide (w ≠ .laysStatic Bundle.tN "UNASSIGNED_STACK" Bundle.steD) && decide (w ≠ .laysStatic Bundle.tN "SUPPRESSED_SENTINEL" Bundle.listD)
def vx_at0 (own : String) (ic : Nat) (X : String) (names : List String) : List Cond := (Bundle.ownAtoms0 own ic X names).filter vx_no
def vx_atS (own : String) (ic : Nat) (X : String) (names : List String) : List Cond := (Bundle.ownAtoms own ic X names).filter vx_no
/-- a word that the tables alone decide, or a good one -/
def vx_ot (w : Cond) : Bool := w.onTables || goodWord w
theorem vx_ot_at {args a' : Array Value} {s U : State} {w : Cond} (hW : s.WarmedH U.vm) (hvm : s.vm = U.vm) (hg : vx_ot w = true) (h : w.before args s = true) : w.before a' U = true := by
  simp only [vx_ot, Bool.or_eq_true] at hg
  rcases hg with hg | hg
  · exact va_tabs hg hvm h
  · exact word_at hW (good_of_word hg) h
/-- a list's words: the good ones out of the method's own list, the others by premises of their own -/
theorem vx_hat {args : Array Value} {s : State} {L B : List Cond} (h1 : ∀ w ∈ L.filter goodWord, w.before args s = true) (h2 : ∀ w ∈ L.filter (fun w => !goodWord w), w ∈ B) (h3 : ∀ w ∈ B, w.before args s = true) : ∀ w ∈ L, w.before args s = true := by
  intro w hw
  by_cases g : goodWord w = true
  · exact h1 w (List.mem_filter.mpr ⟨hw, g⟩)
  · refine h3 w (h2 w (List.mem_filter.mpr ⟨hw, ?_⟩))
    show (!goodWord w) = true
    cases hgw : goodWord w
    · rfl
    · exact absurd hgw g
theorem vx_c {args : Array Value} {s : State} {w : Cond} {B : List Cond} (h : w.before args s = true) (t : ∀ w ∈ B, w.before args s = true) : ∀ w' ∈ w :: B, w'.before args s = true := fun w' h' => (List.mem_cons.mp h').elim (fun e => by rw [e]; exact h) (t w')
theorem vx_n {args : Array Value} {s : State} : ∀ w ∈ ([] : List Cond), w.before args s = true := fun _ h => nomatch h
theorem vx_own {args : Array Value} {s : State} {L : List Cond} (h1 : ∀ w ∈ L.filter vx_no, w.before args s = true)
    (hU : (Cond.isRef (.static Bundle.tN "UNASSIGNED_STACK" Bundle.steD)).before args s = true) (hN : (Cond.isRef (.static Bundle.tN "SUPPRESSED_SENTINEL" Bundle.listD)).before args s = true)
    (lU : (Cond.laysStatic Bundle.tN "UNASSIGNED_STACK" Bundle.steD).before args s = true) (lN : (Cond.laysStatic Bundle.tN "SUPPRESSED_SENTINEL" Bundle.listD).before args s = true) : ∀ w ∈ L, w.before args s = true := by
  intro w hw
  by_cases e1 : w = .isRef (.static Bundle.tN "UNASSIGNED_STACK" Bundle.steD)
  · rw [e1]; exact hU
  · by_cases e2 : w = .isRef (.static Bundle.tN "SUPPRESSED_SENTINEL" Bundle.listD)
    · rw [e2]; exact hN
    · by_cases e3 : w = .laysStatic Bundle.tN "UNASSIGNED_STACK" Bundle.steD
      · rw [e3]; exact lU
      · by_cases e4 : w = .laysStatic Bundle.tN "SUPPRESSED_SENTINEL" Bundle.listD
        · rw [e4]; exact lN
        · exact h1 w (List.mem_filter.mpr ⟨hw, by unfold vx_no; rw [decide_eq_true e1, decide_eq_true e2, decide_eq_true e3, decide_eq_true e4]; rfl⟩)
/-- where a static field lies, its class's statics cell in H -/
def vx_L (C n d : String) (A : Nat → Prop) (U : State) (H : Heap) : Prop := ∃ (c : ClassId) (k : Class) (i : Nat) (f : Field) (a : Nat) (cell : Cell), U.vm.findClass C = some c ∧ U.fieldFound? C n d = some (c, k, i, f) ∧ f.isStatic = true ∧ k.statics = some a ∧ H[a]? = some cell ∧ cell.vm.isStatics = true ∧ cell.cls = c ∧ f.slot < cell.slots.size ∧ k.staticTypes[f.slot]? = some f.type ∧ ¬ A a
theorem vx_L.moved {C n d : String} {A : Nat → Prop} {u U : State} {H : Heap} (hvm : u.vm.Alike U.vm) (h : vx_L C n d A u H) : vx_L C n d A U H := by
  obtain ⟨c, k, i, f, a, cell, h1, h2, h3, h4, h5, h6, h7, h8, h9, h10⟩ := h
  obtain ⟨k', hi', he⟩ := State.fieldFound?_setVm hvm h2
  exact ⟨c, k', i, f, a, cell, by rw [hvm.findClass]; exact h1, hi', h3, by rw [he]; exact h4, h5, h6, h7, h8, by rw [he]; exact h9, h10⟩
theorem vx_L.kept {C n d : String} {A : Nat → Prop} {U : State} {H H1 : Heap} (h : vx_L C n d A U H) (hq : ∀ a : Nat, a < H.size → ¬ A a → H1[a]? = H[a]?) : vx_L C n d A U H1 := by
  obtain ⟨c, k, i, f, a, cell, h1, h2, h3, h4, h5, h6, h7, h8, h9, h10⟩ := h
  exact ⟨c, k, i, f, a, cell, h1, h2, h3, h4, by rw [hq a (Array.getElem?_eq_some_iff.mp h5).1 h10]; exact h5, h6, h7, h8, h9, h10⟩
theorem vx_L.narrow {C n d : String} {A B : Nat → Prop} {U : State} {H : Heap} (h : vx_L C n d A U H) (hAB : ∀ q, B q → A q) : vx_L C n d B U H := by
  obtain ⟨c, k, i, f, a, cell, h1, h2, h3, h4, h5, h6, h7, h8, h9, h10⟩ := h
  exact ⟨c, k, i, f, a, cell, h1, h2, h3, h4, h5, h6, h7, h8, h9, fun z => h10 (hAB _ z)⟩
theorem vx_L.word {C n d : String} {A : Nat → Prop} {s : State} {args : Array Value} (h : vx_L C n d A s s.heap) : (Cond.laysStatic C n d).before args s = true := by
  obtain ⟨c, k, i, f, a, cell, h1, h2, h3, h4, h5, h6, h7, h8, h9, -⟩ := h
  show (Cond.laysStatic C n d).holds args s none s [] = true
  exact Cond.laysStatic_of h1 h2 h3 h4 h5 h6 h7 h8 h9
/-- .. and what it holds: null or some reference -/
def vx_Zq (C n d : String) (A : Nat → Prop) (U : State) (H : Heap) : Prop := va_Zq C n d A U H ∧ vx_L C n d A U H
theorem vx_Zq.moved {C n d : String} {A : Nat → Prop} {u U : State} {H : Heap} (hvm : u.vm.Alike U.vm) (h : vx_Zq C n d A u H) : vx_Zq C n d A U H := ⟨va_Zq.moved hvm h.1, vx_L.moved hvm h.2⟩
theorem vx_Zq.kept {C n d : String} {A : Nat → Prop} {U : State} {H H1 : Heap} (h : vx_Zq C n d A U H) (hq : ∀ a : Nat, a < H.size → ¬ A a → H1[a]? = H[a]?) : vx_Zq C n d A U H1 := ⟨va_Zq.kept h.1 hq, vx_L.kept h.2 hq⟩
theorem vx_Zq.narrow {C n d : String} {A B : Nat → Prop} {U : State} {H : Heap} (h : vx_Zq C n d A U H) (hAB : ∀ q, B q → A q) : vx_Zq C n d B U H := ⟨va_Zq.narrow h.1 hAB, vx_L.narrow h.2 hAB⟩
theorem vx_Zqof {args : Array Value} {s : State} {C n d : String} {A : Nat → Prop} (hl : (Cond.laysStatic C n d).before args s = true) (hini : (Cond.initialized C).before args s = true) (h : (Cond.isRef (.static C n d)).before args s = true) (hA : ∀ a : Nat, a < s.heap.size → ¬ A a) : vx_Zq C n d A s s.heap := by
  refine ⟨va_Zqof hl hini h hA, ?_⟩
  obtain ⟨c, k, i, f, a, cell, h1, h2, h3, h4, h5, h6, h7, h8, h9⟩ := Cond.laysStatic_spec hl
  exact ⟨c, k, i, f, a, cell, h1, h2, h3, h4, h5, h6, h7, h8, h9, hA a (Array.getElem?_eq_some_iff.mp h5).1⟩
theorem vx_isRef {C n d : String} {v : Value} {A : Nat → Prop} {s : State} {args : Array Value} (h : va_Z C n d v A s s.heap) (hv : v.isRef = true) : (Cond.isRef (.static C n d)).before args s = true := by
  obtain ⟨cf, kf, fi, f, a, cell, h1, h2, h3, h4, h5, h6, h7, -⟩ := h
  have he : (Term.static C n d).eval args s none [] s = some v := by
    simp [Term.eval, State.fieldNamed?, h1, h2, h4, h5, h6, h7]
  simp only [Cond.before, Cond.holds, Cond.value, he]
  cases v <;> simp_all [Value.isRef]
theorem vx_isRefq {C n d : String} {A : Nat → Prop} {s : State} {args : Array Value} (h : va_Zq C n d A s s.heap) : (Cond.isRef (.static C n d)).before args s = true := by
  rcases h with h | ⟨t, h⟩
  · exact vx_isRef h rfl
  · exact vx_isRef h rfl
/-- the same frame, seen from here: as if the method were called anew in this heap -/
theorem vx_rebase {T : State} (X : Stand p l e R s m args below meth c T locs cells slots) {R' : Room} (hf : R'.frames ≤ R.frames) (hl : R'.locals ≤ R.locals) (hc : cells + R'.cells ≤ R.cells) (hs : slots + R'.slots ≤ R.slots) :
    Stand p l e R' ((T.setVm s.vm).setFrames (.invoking m args :: below)) m args below meth c T [] 0 0 := by
  have htop : (T.setVm s.vm).topJava?.isSome := X.here.top
  have hF : ((T.setVm s.vm).setFrames (.invoking m args :: below)).frames = .invoking m args :: below := State.frames_setFrames _ (State.cur_lt_of_top htop)
  obtain ⟨g₀, hg0⟩ := Option.isSome_iff_exists.mp htop
  obtain ⟨r, hr⟩ := State.topJava?_eq_some.mp hg0
  have hl9 : e.platform.stackLimits (T.setVm s.vm).me = e.platform.stackLimits s.me := X.limits
  have hb9 : (T.setVm s.vm).me.stackBytes = s.me.stackBytes := X.bytes
  refine ⟨X.admits, X.cas, X.clock, hF, ?_, X.hears, X.method, X.code, X.here, X.tail, X.warmed, ?_, ?_, ?_⟩
  · have h := X.room
    have hU : ((T.setVm s.vm).setFrames (.invoking m args :: below)).localsInUse = s.localsInUse := by
      rw [State.localsInUse_invoking hF (meth := meth) (c := c) X.method X.code, State.localsInUse_invoking X.frames X.method X.code]
    simp only [State.hasRoom, Bool.and_eq_true, decide_eq_true_eq] at h ⊢
    obtain ⟨⟨⟨⟨h1, h2, h3, h4, h5, h6⟩, h7⟩, h8⟩, h9⟩ := h
    rw [X.frames, List.length_cons] at h2 h3
    have q1 := X.heapSize
    have q2 := X.used
    simp only [hF, hU, List.length_cons, State.stackLimits_setFrames, State.stackBytes_setFrames, hl9, hb9]
    refine ⟨⟨⟨⟨by omega, by omega, by omega, by omega, by omega, h6⟩, ?_⟩, ?_⟩, X.book⟩
    · show T.heap.size + R'.cells ≤ e.platform.maxCells
      omega
    · show T.slotsUsed + R'.slots ≤ e.platform.maxSlots
      omega
  · rw [State.stackLimits_setFrames]; rfl
  · rw [State.stackBytes_setFrames]; rfl
  · refine ⟨?_, Nat.le_refl _, Nat.le_refl _, ?_, ?_, fun a c9 h9 => ⟨c9, h9, rfl, rfl, fun _ _ => rfl⟩⟩
    · obtain ⟨t, ht, -⟩ := State.frames_cons hr
      show T.setVm s.vm = { ((T.setVm s.vm).setFrames (.invoking m args :: below)).setFrames (T.setVm s.vm).frames with heap := T.heap, slotsUsed := T.slotsUsed }
      rw [State.setFrames_setFrames, State.setFrames_self ht]
      rfl
    · show T.slotsUsed = T.slotsUsed + ((T.heap.toList.drop T.heap.size).map (·.slots.size)).sum
      rw [List.drop_eq_nil_of_le (Nat.le_of_eq Array.length_toList)]
      rfl
    · show ((T.heap.toList.drop T.heap.size).map (·.slots.size)).sum ≤ 0
      rw [List.drop_eq_nil_of_le (Nat.le_of_eq Array.length_toList)]
      exact Nat.le_refl _
/-- 'throw new E()': new; dup; invokespecial; athrow -/
theorem vx_throw0 {cc : ByteArray} {pc : Nat} (hexec : p.tables.exec = Jvm.exec) (hb : c.code = cc) (hl : l.stackTraces = false) {own cls : String} {names : List String} {ik ic mc ms : Nat} {A : Nat → Prop}
    (hown : s.vm.findClass own = some m.cls) (hcls : Bundle.fit cls = true) (hnames : ∀ n ∈ names, Bundle.fit n = true)
    (hk : (Cond.classLink own ik cls).before args s = true) (hini : (Cond.initialized cls).before args s = true) (hat : ∀ w ∈ vx_at0 own ic cls names, w.before args s = true)
    (hgood : ∀ w ∈ Cond.classLink own ik cls :: Cond.initialized cls :: vx_at0 own ic cls names, vx_ot w = true)
    (hU : vx_Zq Bundle.tN "UNASSIGNED_STACK" Bundle.steD A s s.heap) (hN : vx_Zq Bundle.tN "SUPPRESSED_SENTINEL" Bundle.listD A s s.heap) (hS : va_S A s.heap H locs) (hsize : ls.size = c.maxLocals)
    (d0 : decode cc pc = .ok (.new ik, 3)) (d3 : decode cc (pc + 3) = .ok (.dup, 1)) (d4 : decode cc (pc + 4) = .ok (.invokespecial ic, 3)) (d7 : decode cc (pc + 7) = .ok (.athrow, 1))
    (hout : ∀ x ∈ c.exceptionTable.toList, covers x (pc + 7) = false)
    (hRframes : names.length + 3 < R.frames) (hRlocals : (rest.map fun v => v.category).sum + (13 * (names.length + 1) + 42) ≤ R.locals) (hRcells : cells + 1 ≤ R.cells) (hRslots : slots + 6 ≤ R.slots) (hlocks : meth.locks = false)
    (hx : ∀ t : State, s.vm.Alike t.vm → H.size ≤ t.heap.size → (∀ q : Nat, q < H.size → t.heap[q]? = H[q]?) → XC cls s t)
    (hf : ∀ z ∈ locs, free z.base) (hc : cells + 1 ≤ mc) (hs : slots + 6 ≤ ms) :
    W p l e R s m args below meth c H locs cells slots (vx_MQ below Qc XC args s mc ms free) (F0 m pc ls rest) := by
  intro T hT X
  have htr : e.platform.stackTraces = false := (show e.platform.stackTraces = l.stackTraces by rw [X.admits.platform]).trans hl
  have Y := vx_rebase X (R' := { frames := R.frames, locals := R.locals, cells := 1, slots := 6 }) (Nat.le_refl _) (Nat.le_refl _) hRcells hRslots
  obtain ⟨s', hA⟩ : ∃ z, z = (T.setVm s.vm).setFrames (.invoking m args :: below) := ⟨_, rfl⟩
  rw [← hA] at Y
  have hvm : s'.vm = s.vm := by rw [hA]; rfl
  have hhp : s'.heap = H := by rw [hA]; exact hT
  have hW0 : s.WarmedH s'.vm := by rw [hvm]; exact State.WarmedH.refl s
  have hat' : ∀ w ∈ vx_at0 own ic cls names, w.before args s' = true := fun w hw => vx_ot_at hW0 hvm.symm (hgood w (List.mem_cons_of_mem _ (List.mem_cons_of_mem _ hw))) (hat w hw)
  have hk' : (Cond.classLink own ik cls).before args s' = true := vx_ot_at hW0 hvm.symm (hgood _ List.mem_cons_self) hk
  have hini' : (Cond.initialized cls).before args s' = true := vx_ot_at hW0 hvm.symm (hgood _ (List.mem_cons_of_mem _ List.mem_cons_self)) hini
  have hU' : vx_Zq Bundle.tN "UNASSIGNED_STACK" Bundle.steD A s' s'.heap := by rw [hhp]; exact vx_Zq.moved hW0.alike (hU.kept hS.2.1)
  have hN' : vx_Zq Bundle.tN "SUPPRESSED_SENTINEL" Bundle.listD A s' s'.heap := by rw [hhp]; exact vx_Zq.moved hW0.alike (hN.kept hS.2.1)
  have h : ∀ w ∈ Bundle.ownAtoms0 own ic cls names, w.before args s' = true := vx_own hat' (vx_isRefq hU'.1) (vx_isRefq hN'.1) hU'.2.word hN'.2.word
  have hown' : s'.vm.findClass own = some m.cls := by rw [hvm]; exact hown
  have hins : (Cond.instantiable cls 6).before args s' = true := h _ (by simp [Bundle.ownAtoms0])
  obtain ⟨vm₁, cX, kX, hfX, hkX, -, -, X₁, st1⟩ := Y.newCold hexec (own := own) (C := cls) (index := ik) (n := 6) hown' hk' hins hini'
    (g := F0 m pc ls rest) rfl (by rw [hb]; exact d0) (Nat.le_refl _) (Nat.le_refl _)
  generalize hT1 : (T.setVm vm₁).pushCell { cls := cX, slots := kX.instanceTypes.map defaultValue, vm := .none } = T1 at X₁ st1
  have hcat : (Value.ref T.heap.size).category = 1 := rfl
  have hcellA : T1.heap[T.heap.size]? = some (freshCell cX kX) := by rw [← hT1]; exact State.heap_pushCell_size _ _
  have d3' : decode c.code (pc + 3) = .ok (.dup, 1) := by rw [hb]; exact d3
  obtain ⟨U, hsteps, hrun, hend, hW, hsame, ce, hce, hO⟩ := X₁.ctorThrow0 hexec htr (own := own) (cls := cls) (names := names) (ic := ic) hown' hcls hnames h (fun x hx => nomatch hx) hfX hkX hcellA (by rw [hhp, hT]; exact Nat.le_refl _)
    (g := { method := m, pc := pc + 4, locals := ls, stack := .ref T.heap.size :: .ref T.heap.size :: rest, locked := none }) rfl hsize rfl rfl (rest := rest) rfl
    (by rw [hb]; exact d4) (by rw [hb]; exact d7) hout hRframes (by simp only [List.map_cons, List.sum_cons, hcat]; omega) hlocks
  obtain ⟨f1, f2⟩ := vx_frame hsame
  rw [hhp] at f1 f2
  have hWs : s.WarmedH U.vm := State.WarmedH.trans hW0 hW
  have hcl : s.vm.findClass cls = some ce.cls := by
    have h9 := hO.cls
    rw [hvm] at h9
    exact h9
  have hall : s.sameButNew ({ U with vm := s.vm } : State) locs mc ms := by
    subst hA
    obtain ⟨e1, e2⟩ := hsame
    rw [State.setFrames_setFrames] at e1
    have h2 : (T.setVm s.vm).sameButNew ({ U with vm := s.vm } : State) [] (0 + 1) (0 + 6) := ⟨e1, e2⟩
    have h3 := X.same.trans h2
    rw [List.append_nil] at h3
    exact h3.mono hc hs
  refine ⟨U, ?_, .threw T.heap.size, hrun, hend, Or.inr ⟨T.heap.size, rfl, cls, ce, locs, hx U hWs.alike f1 (fun q hq => f2 q hq (fun z hz => nomatch hz)), hce, hO.vm, hcl, hWs, hall, hf⟩⟩
  refine st1 _ ?_
  show Steps p.tables e below (T1.setTop { method := m, pc := pc + 3, locals := ls, stack := .ref T.heap.size :: rest, locked := none }) _
  jvm_step X₁.here [X₁.here.top, hexec, d3', Value.category]
  exact hsteps
/-- 'throw new E("text")': new; dup; ldc; invokespecial; athrow -/
theorem vx_throwS {cc : ByteArray} {pc : Nat} (hexec : p.tables.exec = Jvm.exec) (hb : c.code = cc) (hl : l.stackTraces = false) {own cls text : String} {names : List String} {ik is ic mc ms sa : Nat} {A : Nat → Prop}
    (hown : s.vm.findClass own = some m.cls) (hcls : Bundle.fit cls = true) (hnames : ∀ n ∈ names, Bundle.fit n = true)
    (hk : (Cond.classLink own ik cls).before args s = true) (hini : (Cond.initialized cls).before args s = true) (hstr : vk_R own is text sa s) (hat : ∀ w ∈ vx_atS own ic cls names, w.before args s = true)
    (hgood : ∀ w ∈ Cond.classLink own ik cls :: Cond.initialized cls :: vx_atS own ic cls names, vx_ot w = true)
    (hU : vx_Zq Bundle.tN "UNASSIGNED_STACK" Bundle.steD A s s.heap) (hN : vx_Zq Bundle.tN "SUPPRESSED_SENTINEL" Bundle.listD A s s.heap) (hS : va_S A s.heap H locs) (hsize : ls.size = c.maxLocals)
    (d0 : decode cc pc = .ok (.new ik, 3)) (d3 : decode cc (pc + 3) = .ok (.dup, 1)) (d4 : decode cc (pc + 4) = .ok (.ldc is, 2)) (d6 : decode cc (pc + 6) = .ok (.invokespecial ic, 3)) (d9 : decode cc (pc + 9) = .ok (.athrow, 1))
    (hout : ∀ x ∈ c.exceptionTable.toList, covers x (pc + 9) = false)
    (hRframes : names.length + 3 < R.frames) (hRlocals : (rest.map fun v => v.category).sum + (13 * (names.length + 1) + 43) ≤ R.locals) (hRcells : cells + 1 ≤ R.cells) (hRslots : slots + 6 ≤ R.slots) (hlocks : meth.locks = false)
    (hx : ∀ t : State, s.vm.Alike t.vm → H.size ≤ t.heap.size → (∀ q : Nat, q < H.size → t.heap[q]? = H[q]?) → XC cls s t)
    (hf : ∀ z ∈ locs, free z.base) (hc : cells + 1 ≤ mc) (hs : slots + 6 ≤ ms) :
    W p l e R s m args below meth c H locs cells slots (vx_MQ below Qc XC args s mc ms free) (F0 m pc ls rest) := by
  intro T hT X
  have htr : e.platform.stackTraces = false := (show e.platform.stackTraces = l.stackTraces by rw [X.admits.platform]).trans hl
  have Y := vx_rebase X (R' := { frames := R.frames, locals := R.locals, cells := 1, slots := 6 }) (Nat.le_refl _) (Nat.le_refl _) hRcells hRslots
  obtain ⟨s', hA⟩ : ∃ z, z = (T.setVm s.vm).setFrames (.invoking m args :: below) := ⟨_, rfl⟩
  rw [← hA] at Y
  have hvm : s'.vm = s.vm := by rw [hA]; rfl
  have hhp : s'.heap = H := by rw [hA]; exact hT
  have hW0 : s.WarmedH s'.vm := by rw [hvm]; exact State.WarmedH.refl s
  have hat' : ∀ w ∈ vx_atS own ic cls names, w.before args s' = true := fun w hw => vx_ot_at hW0 hvm.symm (hgood w (List.mem_cons_of_mem _ (List.mem_cons_of_mem _ hw))) (hat w hw)
  have hk' : (Cond.classLink own ik cls).before args s' = true := vx_ot_at hW0 hvm.symm (hgood _ List.mem_cons_self) hk
  have hini' : (Cond.initialized cls).before args s' = true := vx_ot_at hW0 hvm.symm (hgood _ (List.mem_cons_of_mem _ List.mem_cons_self)) hini
  have hU' : vx_Zq Bundle.tN "UNASSIGNED_STACK" Bundle.steD A s' s'.heap := by rw [hhp]; exact vx_Zq.moved hW0.alike (hU.kept hS.2.1)
  have hN' : vx_Zq Bundle.tN "SUPPRESSED_SENTINEL" Bundle.listD A s' s'.heap := by rw [hhp]; exact vx_Zq.moved hW0.alike (hN.kept hS.2.1)
  have h : ∀ w ∈ Bundle.ownAtoms own ic cls names, w.before args s' = true := vx_own hat' (vx_isRefq hU'.1) (vx_isRefq hN'.1) hU'.2.word hN'.2.word
  have hown' : s'.vm.findClass own = some m.cls := by rw [hvm]; exact hown
  have hins : (Cond.instantiable cls 6).before args s' = true := h _ (by simp [Bundle.ownAtoms])
  obtain ⟨vm₁, cX, kX, hfX, hkX, -, -, X₁, st1⟩ := Y.newCold hexec (own := own) (C := cls) (index := ik) (n := 6) hown' hk' hins hini'
    (g := F0 m pc ls rest) rfl (by rw [hb]; exact d0) (Nat.le_refl _) (Nat.le_refl _)
  generalize hT1 : (T.setVm vm₁).pushCell { cls := cX, slots := kX.instanceTypes.map defaultValue, vm := .none } = T1 at X₁ st1
  have hcat : (Value.ref T.heap.size).category = 1 := rfl
  have hcellA : T1.heap[T.heap.size]? = some (freshCell cX kX) := by rw [← hT1]; exact State.heap_pushCell_size _ _
  have d3' : decode c.code (pc + 3) = .ok (.dup, 1) := by rw [hb]; exact d3
  have d4' : decode c.code (pc + 4) = .ok (.ldc is, 2) := by rw [hb]; exact d4
  have hstr' : vk_R own is text sa s' := vk_R.warm hW0 hstr
  obtain ⟨U, hsteps, hrun, hend, hW, hsame, ce, hce, hO⟩ := X₁.ctorThrowS hexec htr (own := own) (cls := cls) (names := names) (ic := ic) hown' hcls hnames h (fun x hx => nomatch hx) hfX hkX hcellA (by rw [hhp, hT]; exact Nat.le_refl _) (msg := .ref sa) rfl
    (g := { method := m, pc := pc + 6, locals := ls, stack := .ref sa :: .ref T.heap.size :: .ref T.heap.size :: rest, locked := none }) rfl hsize rfl rfl (rest := rest) rfl
    (by rw [hb]; exact d6) (by rw [hb]; exact d9) hout hRframes (by simp only [List.map_cons, List.sum_cons, hcat]; omega) hlocks
  obtain ⟨f1, f2⟩ := vx_frame hsame
  rw [hhp] at f1 f2
  have hWs : s.WarmedH U.vm := State.WarmedH.trans hW0 hW
  have hcl : s.vm.findClass cls = some ce.cls := by
    have h9 := hO.cls
    rw [hvm] at h9
    exact h9
  have hall : s.sameButNew ({ U with vm := s.vm } : State) locs mc ms := by
    subst hA
    obtain ⟨e1, e2⟩ := hsame
    rw [State.setFrames_setFrames] at e1
    have h2 : (T.setVm s.vm).sameButNew ({ U with vm := s.vm } : State) [] (0 + 1) (0 + 6) := ⟨e1, e2⟩
    have h3 := X.same.trans h2
    rw [List.append_nil] at h3
    exact h3.mono hc hs
  refine ⟨U, ?_, .threw T.heap.size, hrun, hend, Or.inr ⟨T.heap.size, rfl, cls, ce, locs, hx U hWs.alike f1 (fun q hq => f2 q hq (fun z hz => nomatch hz)), hce, hO.vm, hcl, hWs, hall, hf⟩⟩
  refine st1 _ ?_
  show Steps p.tables e below (T1.setTop { method := m, pc := pc + 3, locals := ls, stack := .ref T.heap.size :: rest, locked := none }) _
  jvm_step X₁.here [X₁.here.top, hexec, d3', Value.category]
  exact X₁.ldcString hexec (own := own) (text := text) (index := is) (a := sa) hown' hstr'.1 hstr'.2
    (g := { method := m, pc := pc + 4, locals := ls, stack := .ref T.heap.size :: .ref T.heap.size :: rest, locked := none }) rfl d4' _ hsteps
/-- 'throw new E("text")', the text by a wide index -/
theorem vx_throwSW {cc : ByteArray} {pc : Nat} (hexec : p.tables.exec = Jvm.exec) (hb : c.code = cc) (hl : l.stackTraces = false) {own cls text : String} {names : List String} {ik is ic mc ms sa : Nat} {A : Nat → Prop}
    (hown : s.vm.findClass own = some m.cls) (hcls : Bundle.fit cls = true) (hnames : ∀ n ∈ names, Bundle.fit n = true)
    (hk : (Cond.classLink own ik cls).before args s = true) (hini : (Cond.initialized cls).before args s = true) (hstr : vk_R own is text sa s) (hat : ∀ w ∈ vx_atS own ic cls names, w.before args s = true)
    (hgood : ∀ w ∈ Cond.classLink own ik cls :: Cond.initialized cls :: vx_atS own ic cls names, vx_ot w = true)
    (hU : vx_Zq Bundle.tN "UNASSIGNED_STACK" Bundle.steD A s s.heap) (hN : vx_Zq Bundle.tN "SUPPRESSED_SENTINEL" Bundle.listD A s s.heap) (hS : va_S A s.heap H locs) (hsize : ls.size = c.maxLocals)
    (d0 : decode cc pc = .ok (.new ik, 3)) (d3 : decode cc (pc + 3) = .ok (.dup, 1)) (d4 : decode cc (pc + 4) = .ok (.ldc_w is, 3)) (d7 : decode cc (pc + 7) = .ok (.invokespecial ic, 3)) (d10 : decode cc (pc + 10) = .ok (.athrow, 1))
    (hout : ∀ x ∈ c.exceptionTable.toList, covers x (pc + 10) = false)
    (hRframes : names.length + 3 < R.frames) (hRlocals : (rest.map fun v => v.category).sum + (13 * (names.length + 1) + 43) ≤ R.locals) (hRcells : cells + 1 ≤ R.cells) (hRslots : slots + 6 ≤ R.slots) (hlocks : meth.locks = false)
    (hx : ∀ t : State, s.vm.Alike t.vm → H.size ≤ t.heap.size → (∀ q : Nat, q < H.size → t.heap[q]? = H[q]?) → XC cls s t)
    (hf : ∀ z ∈ locs, free z.base) (hc : cells + 1 ≤ mc) (hs : slots + 6 ≤ ms) :
    W p l e R s m args below meth c H locs cells slots (vx_MQ below Qc XC args s mc ms free) (F0 m pc ls rest) := by
  intro T hT X
  have htr : e.platform.stackTraces = false := (show e.platform.stackTraces = l.stackTraces by rw [X.admits.platform]).trans hl
  have Y := vx_rebase X (R' := { frames := R.frames, locals := R.locals, cells := 1, slots := 6 }) (Nat.le_refl _) (Nat.le_refl _) hRcells hRslots
  obtain ⟨s', hA⟩ : ∃ z, z = (T.setVm s.vm).setFrames (.invoking m args :: below) := ⟨_, rfl⟩
  rw [← hA] at Y
  have hvm : s'.vm = s.vm := by rw [hA]; rfl
  have hhp : s'.heap = H := by rw [hA]; exact hT
  have hW0 : s.WarmedH s'.vm := by rw [hvm]; exact State.WarmedH.refl s
  have hat' : ∀ w ∈ vx_atS own ic cls names, w.before args s' = true := fun w hw => vx_ot_at hW0 hvm.symm (hgood w (List.mem_cons_of_mem _ (List.mem_cons_of_mem _ hw))) (hat w hw)
  have hk' : (Cond.classLink own ik cls).before args s' = true := vx_ot_at hW0 hvm.symm (hgood _ List.mem_cons_self) hk
  have hini' : (Cond.initialized cls).before args s' = true := vx_ot_at hW0 hvm.symm (hgood _ (List.mem_cons_of_mem _ List.mem_cons_self)) hini
  have hU' : vx_Zq Bundle.tN "UNASSIGNED_STACK" Bundle.steD A s' s'.heap := by rw [hhp]; exact vx_Zq.moved hW0.alike (hU.kept hS.2.1)
  have hN' : vx_Zq Bundle.tN "SUPPRESSED_SENTINEL" Bundle.listD A s' s'.heap := by rw [hhp]; exact vx_Zq.moved hW0.alike (hN.kept hS.2.1)
  have h : ∀ w ∈ Bundle.ownAtoms own ic cls names, w.before args s' = true := vx_own hat' (vx_isRefq hU'.1) (vx_isRefq hN'.1) hU'.2.word hN'.2.word
  have hown' : s'.vm.findClass own = some m.cls := by rw [hvm]; exact hown
  have hins : (Cond.instantiable cls 6).before args s' = true := h _ (by simp [Bundle.ownAtoms])
  obtain ⟨vm₁, cX, kX, hfX, hkX, -, -, X₁, st1⟩ := Y.newCold hexec (own := own) (C := cls) (index := ik) (n := 6) hown' hk' hins hini'
    (g := F0 m pc ls rest) rfl (by rw [hb]; exact d0) (Nat.le_refl _) (Nat.le_refl _)
  generalize hT1 : (T.setVm vm₁).pushCell { cls := cX, slots := kX.instanceTypes.map defaultValue, vm := .none } = T1 at X₁ st1
  have hcat : (Value.ref T.heap.size).category = 1 := rfl
  have hcellA : T1.heap[T.heap.size]? = some (freshCell cX kX) := by rw [← hT1]; exact State.heap_pushCell_size _ _
  have d3' : decode c.code (pc + 3) = .ok (.dup, 1) := by rw [hb]; exact d3
  have d4' : decode c.code (pc + 4) = .ok (.ldc_w is, 3) := by rw [hb]; exact d4
  have hstr' : vk_R own is text sa s' := vk_R.warm hW0 hstr
  obtain ⟨U, hsteps, hrun, hend, hW, hsame, ce, hce, hO⟩ := X₁.ctorThrowS hexec htr (own := own) (cls := cls) (names := names) (ic := ic) hown' hcls hnames h (fun x hx => nomatch hx) hfX hkX hcellA (by rw [hhp, hT]; exact Nat.le_refl _) (msg := .ref sa) rfl
    (g := { method := m, pc := pc + 7, locals := ls, stack := .ref sa :: .ref T.heap.size :: .ref T.heap.size :: rest, locked := none }) rfl hsize rfl rfl (rest := rest) rfl
    (by rw [hb]; exact d7) (by rw [hb]; exact d10) hout hRframes (by simp only [List.map_cons, List.sum_cons, hcat]; omega) hlocks
  obtain ⟨f1, f2⟩ := vx_frame hsame
  rw [hhp] at f1 f2
  have hWs : s.WarmedH U.vm := State.WarmedH.trans hW0 hW
  have hcl : s.vm.findClass cls = some ce.cls := by
    have h9 := hO.cls
    rw [hvm] at h9
    exact h9
  have hall : s.sameButNew ({ U with vm := s.vm } : State) locs mc ms := by
    subst hA
    obtain ⟨e1, e2⟩ := hsame
    rw [State.setFrames_setFrames] at e1
    have h2 : (T.setVm s.vm).sameButNew ({ U with vm := s.vm } : State) [] (0 + 1) (0 + 6) := ⟨e1, e2⟩
    have h3 := X.same.trans h2
    rw [List.append_nil] at h3
    exact h3.mono hc hs
  refine ⟨U, ?_, .threw T.heap.size, hrun, hend, Or.inr ⟨T.heap.size, rfl, cls, ce, locs, hx U hWs.alike f1 (fun q hq => f2 q hq (fun z hz => nomatch hz)), hce, hO.vm, hcl, hWs, hall, hf⟩⟩
  refine st1 _ ?_
  show Steps p.tables e below (T1.setTop { method := m, pc := pc + 3, locals := ls, stack := .ref T.heap.size :: rest, locked := none }) _
  jvm_step X₁.here [X₁.here.top, hexec, d3', Value.category]
  exact X₁.ldcStringW hexec (own := own) (text := text) (index := is) (a := sa) hown' hstr'.1 hstr'.2
    (g := { method := m, pc := pc + 4, locals := ls, stack := .ref T.heap.size :: .ref T.heap.size :: rest, locked := none }) rfl d4' _ hsteps
end Ends
section Bodies
variable {l : Launch}
theorem vx_ofW {y : MethodName} {ws ws' : List Cond} {rm : Room} {Pc : Array Value → State → Prop} {Qc : Array Value → State → Outcome → State → Prop} {XC : String → State → State → Prop} {mc ms : Nat} {free : Addr → Prop} {cc : ByteArray} {maxL : Nat} {ret : Option FieldType}
    (hy : plainName y.cls = true) (hw : ws = Cond.code y cc maxL ret :: ws')
    (body : ∀ p e s m args below meth c s₁, BodyLoose p l y (headSpec ws rm) cc maxL ret e s m args below meth c s₁ → c.maxLocals = maxL → (∀ x ∈ c.exceptionTable.toList, False) → Pc args s →
      W p l e (headSpec ws rm).room s m args below meth c s.heap [] 0 0 (vx_MQ below Qc XC args s mc ms free) (entryFrame m args maxL)) : vx_Met l y ws rm Pc Qc XC mc ms free := by
  refine MetFree.of_bodyS (code := cc) (maxLocals := maxL) (ret := ret) hy ?_ ?_
  · intro args s m h hn
    obtain ⟨meth, c, h1, h2, h3, h4, h5, h6, -, -⟩ := Cond.code_spec hn (atoms_spec (ws := ws) h _ (by rw [hw]; exact List.mem_cons_self))
    exact ⟨meth, c, h1, h2, h3, h4, h5, h6⟩
  · intro p e s m args below meth c s₁ B hml hP _
    have hh0 : s₁.heap = s.heap := by rw [B.state]; rfl
    have ht : ∀ x ∈ c.exceptionTable.toList, False := by
      obtain ⟨meth9, c9, h1, h2, -, -, -, -, h7, -⟩ := Cond.code_spec B.named (atoms_spec (ws := ws) B.pre _ (by rw [hw]; exact List.mem_cons_self))
      cases Option.some.inj (h1.symm.trans B.method)
      cases Option.some.inj (h2.symm.trans (Stand.of_body B).code)
      intro x hx
      rw [Array.isEmpty_iff.mp h7] at hx
      cases hx
    obtain ⟨t, a1, o, b1, b2, b3⟩ := body p e s m args below meth c s₁ B hml ht hP s₁ hh0 (Stand.of_body B)
    exact ⟨t, o, a1, b1, b2, b3⟩
/-- the table of a body with handlers -/
theorem vx_table {p : Program} {x y : MethodName} {S : Spec} {cc bytes : ByteArray} {maxL maxL' : Nat} {ret ret' : Option FieldType} {e : Env} {s s₁ : State} {m : MethodId} {args : Array Value} {below : List Frame} {meth : Method} {c : Code} {hh : List (Nat × Nat × Nat × Nat)}
    (B : BodyLoose p l y S cc maxL ret e s m args below meth c s₁) (h : (Cond.codeWith y bytes maxL' ret' hh).before args s = true) : c.exceptionTable.toList = tableOf hh := by
  obtain ⟨m9, meth9, c9, hn9, h1, h2, -, -, h6, -⟩ := Cond.codeWith_spec h
  cases Option.some.inj (hn9.symm.trans B.named)
  cases Option.some.inj (h1.symm.trans B.method)
  cases Option.some.inj (h2.symm.trans (Stand.of_body B).code)
  rw [← h6, table_eq]
end Bodies
end VXA
/-! ===== END ===== -/
/-! ===== BEGIN a static call of a method with an exception table ===== -/
section VXS
variable {p : Program} {l : Launch} {e : Env} {R : Room} {s : State} {m : MethodId} {args : Array Value} {below : List Frame} {meth : Method} {c : Code} {T : State} {H : Heap} {locs : List Loc} {cells slots : Nat}
abbrev vx_CSW (R : Room) (s : State) (args : Array Value) (own : String) (index : Nat) (y : MethodName) (bytes : ByteArray) (maxL : Nat) (ret : Option FieldType) (hh : List (Nat × Nat × Nat × Nat)) (ws : List Cond) (rm : Room) (mc ms n : Nat) : Prop :=
  (rm.cells = mc ∧ rm.slots = ms ∧ rm.frames + 1 ≤ R.frames ∧ 8 + (maxL + 11) + rm.locals ≤ R.locals ∧ (∀ w ∈ ws, ∀ (a' : Array Value) (U : State), s.WarmedH U.vm → w.before a' U = true) ∧ Cond.codeWith y bytes maxL ret hh ∈ ws) ∧
  (Cond.codeWith y bytes maxL ret hh).before args s = true ∧ (Cond.initialized y.cls).before args s = true ∧ (y.cls ≠ "java/lang/invoke/MethodHandle" ∧ y.cls ≠ "java/lang/invoke/VarHandle") ∧
  (∀ sig, parseMethodDescriptor y.desc = some sig → n = sig.parameters.length) ∧ (Cond.methodLink own index y).before args s = true ∧ (Cond.static y).before args s = true
theorem vx_cwSW {own : String} {index maxL mc ms : Nat} {y : MethodName} {bytes : ByteArray} {ret : Option FieldType} {hh : List (Nat × Nat × Nat × Nat)} {Ts ws ws' : List Cond} {rm : Room} (n : Nat) (ht : ∀ w ∈ Ts, w.before args s = true) (hT : GoodIn Ts (va_wsS own index y ws)) (hw : ws = Cond.codeWith y bytes maxL ret hh :: ws') (hrc : rm.cells = mc) (hrs : rm.slots = ms)
    (hd : y.cls ≠ "java/lang/invoke/MethodHandle" ∧ y.cls ≠ "java/lang/invoke/VarHandle" ∧ (parseMethodDescriptor y.desc).map (fun d => d.parameters.length) = some n) (hR : rm.frames + 1 ≤ R.frames ∧ 8 + (maxL + 11) + rm.locals ≤ R.locals) :
    vx_CSW R s args own index y bytes maxL ret hh ws rm mc ms n := by
  have ok : ∀ w ∈ va_wsS own index y ws, w.before args s = true := fun w h => ht w (hT w h).1
  have hG : GoodIn Ts ws := fun w h => hT w (by unfold va_wsS; exact List.mem_append_right _ h)
  have hc : Cond.codeWith y bytes maxL ret hh ∈ ws := by rw [hw]; exact List.mem_cons_self
  refine ⟨⟨hrc, hrs, hR.1, hR.2, pay_in ht hG, hc⟩, ht _ (hG _ hc).1, ok _ (by simp [va_wsS]), ⟨hd.1, hd.2.1⟩, fun sig h => ?_, ok _ (by simp [va_wsS]), ok _ (by simp [va_wsS])⟩
  have h2 := hd.2.2
  rw [h] at h2
  exact (Option.some.inj h2).symm
theorem vx_callSW (X : Stand p l e R s m args below meth c T locs cells slots) (hexec : p.tables.exec = Jvm.exec) {own : String} {index : Nat} {y : MethodName} {bytes : ByteArray} {maxL : Nat} {ret : Option FieldType} {hh : List (Nat × Nat × Nat × Nat)}
    (hown : s.vm.findClass own = some m.cls) (hlink : (Cond.methodLink own index y).before args s = true) (hstat : (Cond.static y).before args s = true) (hinit : (Cond.initialized y.cls).before args s = true)
    (hcode : (Cond.codeWith y bytes maxL ret hh).before args s = true) (hy : y.cls ≠ "java/lang/invoke/MethodHandle" ∧ y.cls ≠ "java/lang/invoke/VarHandle")
    {W9 : Nat} {Pre : Pt → Array Value → Prop} {Post : Pt → Array Value → Option Value → Pt → Prop} (hK : Back l R p e below s args y 3 W9 Pre Post)
    {g : JFrame} (hg : g.method = m) (hsize : g.locals.size = c.maxLocals) {argsL rest : List Value} (hlen : ∀ sig, parseMethodDescriptor y.desc = some sig → argsL.length = sig.parameters.length)
    (hstack : g.stack = argsL.reverse ++ rest) (hW : 2 * g.monitorRoom + (rest.map fun v => v.category).sum ≤ W9) (hdg : decode c.code g.pc = .ok (.invokestatic index, 3))
    (hpre : ∀ vm₁, s.WarmedH vm₁ → Pre ⟨T.setVm vm₁, locs, cells, slots⟩ argsL.toArray) :
    ∃ (v : Option Value) (vm₁ : Vm) (B : Pt), s.WarmedH vm₁ ∧ Stand p l e R s m args below meth c B.U B.locs B.cells B.slots ∧ Post ⟨T.setVm vm₁, locs, cells, slots⟩ argsL.toArray v B ∧
      ∀ target, Steps p.tables e below (B.U.setTop { g with pc := g.pc + 3, stack := v.toList ++ rest }) target → Steps p.tables e below (T.setTop g) target := by
  obtain ⟨mk, methM, cM, hnamed, hmethM, -, -, -, -, -, -, hsigM⟩ := Cond.codeWith_spec hcode
  have hstatic : methM.isStatic = true := Cond.static_spec hnamed hmethM hstat
  obtain ⟨kP, hkP, -⟩ := className_of_methodNamed hnamed
  have hinitP : kP.init = .initialized := Cond.initialized_spec (findClass_of_methodNamed hnamed) hkP hinit
  obtain ⟨vm₁, X₁, hstep₁⟩ := X.invokestatic hexec hown hlink hnamed hmethM hstatic hkP hinitP hy (g := g) hg (argsL := argsL) (rest := rest) (hlen _ hsigM) hstack hdg
  obtain ⟨v, B, X', hpost, hsteps⟩ := hK m meth c ⟨T.setVm vm₁, locs, cells, slots⟩ { g with stack := rest } (.invokestatic index) mk argsL.toArray X₁ hg hsize hdg hW (X₁.named hnamed) (hpre vm₁ X₁.warmed)
  exact ⟨v, vm₁, B, X₁.warmed, X', hpost, fun target h => hstep₁ _ fun acts => by rw [doInvoke_state]; exact hsteps.trans h⟩
theorem vx_runSW {y : MethodName} {bytes cc : ByteArray} {maxL nL mc ms n index : Nat} {ret : Option FieldType} {hh : List (Nat × Nat × Nat × Nat)} {ws : List Cond} {rm : Room} {Pc : Array Value → State → Prop} {Qc : Array Value → State → Outcome → State → Prop} {free : Addr → Prop} {Ts : List Cond} {own : String} {As rest : List Value} {g : JFrame}
    (S : CallFix p m c cc nL s args Ts own) (hM : Met l y ws rm Pc Qc mc ms free) (cw : vx_CSW R s args own index y bytes maxL ret hh ws rm mc ms n) (hp : PreS s H Pc As)
    (hg : g.method = m) (hn : As.length = n) (hsize : g.locals.size = nL) (hstack : g.stack = As.reverse ++ rest) (hW : 2 * g.monitorRoom + (rest.map fun v => v.category).sum ≤ 8) (hdg : decode cc g.pc = .ok (.invokestatic index, 3)) (hf : cells + mc ≤ R.cells ∧ slots + ms ≤ R.slots) :
    va_Run p l e R s m args below meth c H locs cells slots mc ms g rest (Qc As.toArray) (free) := by
  obtain ⟨⟨hrc, hrs, hfr, hlo, hws, hcw⟩, hcode, hini, hy, hlen, hl, hstt⟩ := cw
  have hK : Back l R p e below s args y 3 8 (PreOf R mc ms Pc) (PostOf Qc mc ms free) := va_backW (hh := hh) (bytes := bytes) (maxL := maxL) (ret := ret) hM hp.1 hrc hrs hfr hlo hws hcw (fun a' U hW => word_at hW (Or.inl (by first | rfl | simp [Cond.onTables, Cond.keeps, Cond.steady])) hini)
  obtain ⟨hx, hb, hml, ho, -⟩ := S
  intro T hT X
  obtain ⟨v, vm₁, ⟨U', l2, c2, s2⟩, hW₁, X', ⟨g', mk, t, L, e1, e2, hq, h1, hL, h2, h3⟩, st⟩ := vx_callSW X hx (hh := hh) (bytes := bytes) (maxL := maxL) (ret := ret) ho hl hstt hini hcode hy hK hg (hsize.trans hml.symm) (argsL := As) (rest := rest) (fun sig h => hn.trans (hlen sig h)) hstack hW (by rw [hb]; exact hdg)
    (fun vm₁ hW₁ => ⟨hf.1, hf.2, hp.2 (T.setVm vm₁) hT hW₁⟩)
  dsimp only [Pt.U, Pt.locs, Pt.cells, Pt.slots] at X' e1 e2 h1 h2 h3 st
  subst h1; subst h2; subst h3
  exact ⟨v, (T.setVm vm₁).calling g' mk As.toArray, t, U', L, hT, X', hL, e1, e2, hq, st⟩
/-- not caught here, past rows that name other classes: it goes on to the caller -/
theorem vx_outP {p : Program} {l : Launch} {e : Env} {R : Room} {s : State} {m : MethodId} {args : Array Value} {below : List Frame} {meth : Method} {c : Code} {H : Heap} {locs : List Loc} {cells slots : Nat} {free : Addr → Prop} {ls : Array Slot} {rest : List Value} {Qc : Array Value → State → Outcome → State → Prop} {XC : String → State → State → Prop}
    {pc : Nat} {own E : String} {ce : Cell} {q : Addr} {mc ms : Nat} (hown : s.vm.findClass own = some m.cls) (hlocks : meth.locks = false)
    (hpass : ∀ z ∈ c.exceptionTable.toList, covers z pc = false ∨ (z.catchType ≠ 0 ∧ ∃ nm : String, (Cond.classLink own z.catchType nm).before args s = true ∧ va_Nc E nm s)) (hcell : H[q]? = some ce) (hv : ce.vm = .none) (hcl : s.vm.findClass E = some ce.cls)
    (hx : ∀ t : State, t.heap = H → s.vm.Alike t.vm → XC E s t) (hf : ∀ z ∈ locs, free z.base) (hc : cells ≤ mc) (hs : slots ≤ ms) :
    vx_W p l e R s m args below meth c H locs cells slots (vx_MQ below Qc XC args s mc ms free) (F0 m pc ls rest) q := by
  intro T hT X
  have hpl : e.platform.magicAccessors = ({} : Platform).magicAccessors := by rw [X.admits.platform]
  obtain ⟨vm', hW', X', st⟩ := X.outThrough hlocks q (g := F0 m pc ls rest) rfl rfl rfl (cell := ce) (by rw [hT]; exact hcell) (by rw [hv]; rfl)
    (by obtain ⟨k9, h9, -⟩ := Vm.findClass_spec hcl; exact ⟨k9, h9⟩) (fun z hz => by
      rcases hpass z hz with h | ⟨hz0, nm, hl1, hn1⟩
      · exact Or.inl h
      · obtain ⟨c6, hc6, hcl6⟩ := Cond.classLink_spec hown hl1 e.platform hpl
        obtain ⟨a8, b8, h1, h2, h3⟩ := hn1
        cases Option.some.inj (h1.symm.trans hcl)
        cases Option.some.inj (h2.symm.trans hc6)
        exact Or.inr ⟨hz0, _, hcl6, h3⟩)
  obtain ⟨g₀, hfr⟩ := X'.frames_eq
  have hcell9 : ((T.setVm vm').setFrames (.throwing q :: below)).heap[q]? = some ce := by
    show T.heap[q]? = some ce
    rw [hT]; exact hcell
  have hend : Ended ((T.setVm vm').setFrames (.throwing q :: below)) below (.threw q) := State.frames_setFrames _ (State.cur_lt_of_frames hfr)
  refine ⟨(T.setVm vm').setFrames (.throwing q :: below), ?_, .threw q, X'.here.running, hend, Or.inr ⟨q, rfl, E, ce, locs, hx _ hT (X'.ends _).1.alike, hcell9, hv, hcl, (X'.ends _).1, (X'.ends _).2.mono hc hs, hf⟩⟩
  rw [X.pushThrowing_eq]
  exact st
/-- a thing of a world lies in the heap -/
theorem vx_lt {D : va_G} {cl : List vw_C} {ws : va_W} {H1 : Heap} (h : va_P D cl ws H1) {k : Nat} {q : Nat × va_E} (hk : ws[k]? = some q) : q.1 < H1.size := (h k q hk).lt
end VXS
/-! ===== END ===== -/
/-! ===== BEGIN methods with a table of their own: called by a name, returning or throwing ===== -/
section VXH
/-! vx_backW, vx_callVX, vx_callSX, vx_callVW, vx_runVW, vx_runVX, vx_runSX, vx_ofWH follow the same proofs as their sisters above (Free/Laws.lean, Shelf42/LK1.lean); vx_outP calls Shelf42/NT130.lean (outThrough). -/
section
variable {l : Launch} {R : Room} {p : Program} {e : Env} {below : List Frame} {s : State} {sargs : Array Value} {y : MethodName} {len W9 : Nat}
theorem vx_backW {ws : List Cond} {rm : Room} {Pc : Array Value → State → Prop} {Qc : Array Value → State → Outcome → State → Prop} {XC : String → State → State → Prop} {mc ms : Nat} {free : Addr → Prop} {bytes : ByteArray} {maxL : Nat} {ret : Option FieldType} {hh : List (Nat × Nat × Nat × Nat)}
    (hM : vx_Met l y ws rm Pc Qc XC mc ms free) (hblind : FrameBlind Pc) (hrc : rm.cells = mc) (hrs : rm.slots = ms)
    (hframes : rm.frames + 1 ≤ R.frames) (hlocals : W9 + (maxL + 11) + rm.locals ≤ R.locals)
    (hws : ∀ w ∈ ws, ∀ a' U, s.WarmedH U.vm → w.before a' U = true) (hcode : Cond.codeWith y bytes maxL ret hh ∈ ws) (hinit : ∀ a' U, s.WarmedH U.vm → (Cond.initialized y.cls).before a' U = true) :
    vx_Back l R p e below s sargs y len W9 (PreOf R mc ms Pc) (PostOf Qc mc ms free) (vx_Post XC mc ms free) := by
  intro m meth c A g ig mk a X hg hsize hdg hW hn hp
  have h1 : (headSpec ws rm).pre.before a A.U = true := atoms_intro fun w hw => hws w hw _ _ X.warmed
  have h2 : (Cond.codeWith y bytes maxL ret hh).before a A.U = true := hws _ hcode _ _ X.warmed
  have h3 : (Cond.initialized y.cls).before a A.U = true := hinit _ _ X.warmed
  have h4 : A.cells + (headSpec ws rm).room.cells ≤ R.cells := by rw [show (headSpec ws rm).room.cells = mc from hrc]; exact hp.1
  have h5 : A.slots + (headSpec ws rm).room.slots ≤ R.slots := by rw [show (headSpec ws rm).room.slots = ms from hrs]; exact hp.2.1
  have hPc : Pc a (A.U.calling g mk a) := hblind _ _ _ _ hp.2.2
  obtain ⟨U, Ls, c0, s0⟩ := A
  dsimp only [Pt.U, Pt.locs, Pt.cells, Pt.slots] at h1 h2 h3 h4 h5 X hn hPc ⊢
  obtain ⟨m9, methY, cY, hn9, hmY, hcY, -, hlY, -⟩ := Cond.codeWith_spec h2
  cases Option.some.inj (hn9.symm.trans hn)
  obtain ⟨kY, hkY, -⟩ := className_of_methodNamed hn
  have hinitY : kY.init = .initialized := Cond.initialized_spec (findClass_of_methodNamed hn) hkY h3
  have h : At U g.method c below := by rw [hg]; exact X.here
  have hlocals9 : W9 + (maxL + 11) + (headSpec ws rm).room.locals ≤ R.locals := hlocals
  have happ : (headSpec ws rm).appliesLoose y e.platform (U.calling g mk a) = true :=
    Spec.appliesLoose_calling (g := g) h hdg hn hkY hinitY
      (X.room_calling (g := g) (R' := (headSpec ws rm).room) hsize hmY hcY hframes (by rw [hlY]; omega) h4 h5) h1
  obtain ⟨mid, hmid⟩ := h.above
  have hfr : (U.setTop g).frames = (.java g :: mid) ++ below := by rw [State.frames_setTop' g h.top, hmid]; rfl
  obtain ⟨o, s₂, hsteps, -, hend, hq⟩ := Steps.callFree hM p X.admits X.cas X.clock (acts := []) hfr happ hPc trivial
  have hq' : vx_Q Qc XC mc ms free a (U.calling g mk a) o s₂ := hq
  rw [State.frames_setTop' g h.top] at hend
  obtain ⟨g₀, hg0⟩ := Option.isSome_iff_exists.mp h.top
  obtain ⟨r, hr⟩ := State.topJava?_eq_some.mp hg0
  have hr' : (({ U with heap := s₂.heap, slotsUsed := s₂.slotsUsed } : State).setVm s₂.vm).frames = .java g₀ :: r := hr
  rcases hq' with ⟨hqc, L, hfe, hL⟩ | ⟨q, rfl, E, ce, L, hx, hce, hcv, hcl, hW₂, hsm, hL⟩
  · obtain ⟨⟨v, rfl⟩, hW₂, e2, q2, q3, q4, q5, q6⟩ := id hfe
    have e3 : s₂ = ({ (U.calling g mk a).setFrames s₂.frames with heap := s₂.heap, slotsUsed := s₂.slotsUsed } : State).setVm s₂.vm := by
      have : s₂ = ({ s₂ with vm := (U.calling g mk a).vm } : State).setVm s₂.vm := rfl
      rw [e2] at this
      exact this
    obtain ⟨c₂, i₂, len₂, hc₂, hd₂, hf₂⟩ := hend
    have hW' : U.WarmedH s₂.vm := hW₂
    have hcc : c₂ = c := by
      have h1 : s₂.code? g.method = U.code? g.method := by
        rw [State.code?_eq, State.code?_eq, hW'.alike.method?]
      exact Option.some.inj (hc₂.symm.trans (h1.trans h.code))
    subst hcc
    have hlen : len₂ = len := by rw [hdg] at hd₂; cases hd₂; rfl
    subst hlen
    have hs₂ : s₂ = (({ U with heap := s₂.heap, slotsUsed := s₂.slotsUsed } : State).setVm s₂.vm).setTop { g with pc := g.pc + len₂, stack := v.toList ++ g.stack } := by
      refine e3.trans ?_
      rw [hf₂, State.calling_eq h.top, State.setFrames_setFrames, State.setTop_of_frames _ hr', hr]
      rfl
    have hsame : U.sameButNew ({ U with heap := s₂.heap, slotsUsed := s₂.slotsUsed } : State) L mc ms := by
      refine ⟨?_, q2, q3, q4, q5, q6⟩
      obtain ⟨t, ht, -⟩ := State.frames_cons hr
      show ({ U with heap := s₂.heap, slotsUsed := s₂.slotsUsed } : State) = { U.setFrames U.frames with heap := s₂.heap, slotsUsed := s₂.slotsUsed }
      rw [State.setFrames_self ht]
    subst hg
    refine Or.inl ⟨v, ⟨(({ U with heap := s₂.heap, slotsUsed := s₂.slotsUsed } : State).setVm s₂.vm), Ls ++ L, c0 + mc, s0 + ms⟩,
      ⟨X.admits, X.cas, X.clock, X.frames, X.room, X.hears, X.method, X.code, (X.here.setHeapUsed s₂.heap s₂.slotsUsed).setVm hW'.alike, X.tail, State.WarmedH.trans X.warmed hW', X.limits, X.bytes, X.same.trans (hsame.setVm s.vm)⟩,
      ⟨g, mk, s₂, L, rfl, rfl, hqc, rfl, hL, rfl, rfl⟩, ?_⟩
    show Steps p.tables e below _ ((({ U with heap := s₂.heap, slotsUsed := s₂.slotsUsed } : State).setVm s₂.vm).setTop { g with pc := g.pc + len₂, stack := v.toList ++ g.stack })
    rw [← hs₂]
    exact hsteps
  · obtain ⟨e2, q2, q3, q4, q5, q6⟩ := id hsm
    have e3 : s₂ = ({ (U.calling g mk a).setFrames s₂.frames with heap := s₂.heap, slotsUsed := s₂.slotsUsed } : State).setVm s₂.vm := by
      have : s₂ = ({ s₂ with vm := (U.calling g mk a).vm } : State).setVm s₂.vm := rfl
      rw [e2] at this
      exact this
    have hf₂ : s₂.frames = .throwing q :: .java g :: U.frames.tail := hend
    have hW' : U.WarmedH s₂.vm := hW₂
    have hs₂ : s₂ = ((({ U with heap := s₂.heap, slotsUsed := s₂.slotsUsed } : State).setVm s₂.vm).setTop g).pushFrame (.throwing q) := by
      refine e3.trans ?_
      rw [hf₂, State.calling_eq h.top, State.setFrames_setFrames, State.pushFrame, State.frames_setTop _ hr', State.setTop_of_frames _ hr', State.setFrames_setFrames, hr]
      rfl
    have hsame : U.sameButNew ({ U with heap := s₂.heap, slotsUsed := s₂.slotsUsed } : State) L mc ms := by
      refine ⟨?_, q2, q3, q4, q5, q6⟩
      obtain ⟨t, ht, -⟩ := State.frames_cons hr
      show ({ U with heap := s₂.heap, slotsUsed := s₂.slotsUsed } : State) = { U.setFrames U.frames with heap := s₂.heap, slotsUsed := s₂.slotsUsed }
      rw [State.setFrames_self ht]
    subst hg
    refine Or.inr ⟨q, ⟨(({ U with heap := s₂.heap, slotsUsed := s₂.slotsUsed } : State).setVm s₂.vm), Ls ++ L, c0 + mc, s0 + ms⟩,
      ⟨X.admits, X.cas, X.clock, X.frames, X.room, X.hears, X.method, X.code, (X.here.setHeapUsed s₂.heap s₂.slotsUsed).setVm hW'.alike, X.tail, State.WarmedH.trans X.warmed hW', X.limits, X.bytes, X.same.trans (hsame.setVm s.vm)⟩,
      ⟨g, mk, s₂, L, E, ce, rfl, rfl, hx, hce, hcv, hcl, rfl, hL, rfl, rfl⟩, ?_⟩
    show Steps p.tables e below _ (((({ U with heap := s₂.heap, slotsUsed := s₂.slotsUsed } : State).setVm s₂.vm).setTop g).pushFrame (.throwing q))
    rw [← hs₂]
    exact hsteps
end
variable {p : Program} {l : Launch} {e : Env} {R : Room} {s : State} {m : MethodId} {args : Array Value} {below : List Frame} {meth : Method} {c : Code} {T : State} {H : Heap} {locs : List Loc} {cells slots : Nat}
theorem vx_callVX (X : Stand p l e R s m args below meth c T locs cells slots) (hexec : p.tables.exec = Jvm.exec) {own C : String} {index : Nat} {y : MethodName} {bytes : ByteArray} {maxL : Nat} {ret : Option FieldType} {hh : List (Nat × Nat × Nat × Nat)}
    (hown : s.vm.findClass own = some m.cls) (hlink : (Cond.methodLink own index y).before args s = true) (hinst : (Cond.instanceMethod y).before args s = true) (hsel : (Cond.selects C y y).before args s = true)
    (hcode : (Cond.codeWith y bytes maxL ret hh).before args s = true) (hy : y.cls ≠ "java/lang/invoke/MethodHandle" ∧ y.cls ≠ "java/lang/invoke/VarHandle")
    {W9 : Nat} {Pre : Pt → Array Value → Prop} {Post : Pt → Array Value → Option Value → Pt → Prop} {PostX : Pt → Array Value → Addr → Pt → Prop} (hK : vx_Back l R p e below s args y 3 W9 Pre Post PostX)
    {b : Addr} {cellB : Cell} (hcell : T.heap[b]? = some cellB) (hobj : cellB.vm.isStatics = false) (hcls : s.vm.findClass C = some cellB.cls)
    {g : JFrame} (hg : g.method = m) (hsize : g.locals.size = c.maxLocals) {argsL rest : List Value} (hlen : ∀ sig, parseMethodDescriptor y.desc = some sig → argsL.length = sig.parameters.length)
    (hstack : g.stack = argsL.reverse ++ .ref b :: rest) (hW : 2 * g.monitorRoom + (rest.map fun v => v.category).sum ≤ W9) (hdg : decode c.code g.pc = .ok (.invokevirtual index, 3))
    (hpre : ∀ vm₁, s.WarmedH vm₁ → Pre ⟨T.setVm vm₁, locs, cells, slots⟩ (Value.ref b :: argsL).toArray) :
    (∃ (v : Option Value) (vm₁ : Vm) (B : Pt), s.WarmedH vm₁ ∧ Stand p l e R s m args below meth c B.U B.locs B.cells B.slots ∧ Post ⟨T.setVm vm₁, locs, cells, slots⟩ (Value.ref b :: argsL).toArray v B ∧
      ∀ target, Steps p.tables e below (B.U.setTop { g with pc := g.pc + 3, stack := v.toList ++ rest }) target → Steps p.tables e below (T.setTop g) target) ∨
    (∃ (q : Addr) (vm₁ : Vm) (B : Pt), s.WarmedH vm₁ ∧ Stand p l e R s m args below meth c B.U B.locs B.cells B.slots ∧ PostX ⟨T.setVm vm₁, locs, cells, slots⟩ (Value.ref b :: argsL).toArray q B ∧
      Steps p.tables e below (T.setTop g) ((B.U.setTop { g with stack := rest }).pushFrame (.throwing q))) := by
  obtain ⟨mk, methM, hnamed, hmethM, hstM, habM⟩ := Cond.instanceMethod_spec hinst
  obtain ⟨m8, methM', cM, hn8, hmethM', -, -, -, -, -, -, hsigM⟩ := Cond.codeWith_spec hcode
  cases Option.some.inj (hn8.symm.trans hnamed)
  cases hmethM.symm.trans hmethM'
  obtain ⟨c2, r2, m2, q1, q2, q3, q4, kP, hkP, hkPi⟩ := Cond.selects_spec hsel
  cases hcls.symm.trans q1
  cases (State.methodFound?_of_named hnamed hy).symm.trans q2
  cases hnamed.symm.trans q3
  have hselP : selectMethod e.platform s.vm cellB.cls mk = .method mk := by rw [Launch.admits_selectMethod X.admits]; exact q4
  obtain ⟨vm₁, X₁, hstep₁⟩ := X.invokevirtual hexec hown hlink hnamed hmethM hstM hkP hkPi hy (a := b) (cell := cellB) hcell
    (fun z h => by rw [h] at hobj; cases hobj) hselP hmethM habM hkP hkPi (g := g) hg (argsL := argsL) (rest := rest) (hlen _ hsigM) hstack hdg
  rcases hK m meth c ⟨T.setVm vm₁, locs, cells, slots⟩ { g with stack := rest } (.invokevirtual index) mk (Value.ref b :: argsL).toArray X₁ hg hsize hdg hW (X₁.named hnamed) (hpre vm₁ X₁.warmed) with ⟨v, B, X', hpost, hsteps⟩ | ⟨q, B, X', hpost, hsteps⟩
  · exact Or.inl ⟨v, vm₁, B, X₁.warmed, X', hpost, fun target h => hstep₁ _ fun acts => by rw [doInvoke_state]; exact hsteps.trans h⟩
  · exact Or.inr ⟨q, vm₁, B, X₁.warmed, X', hpost, hstep₁ _ fun acts => by rw [doInvoke_state]; exact hsteps⟩
theorem vx_callSX (X : Stand p l e R s m args below meth c T locs cells slots) (hexec : p.tables.exec = Jvm.exec) {own : String} {index : Nat} {y : MethodName} {bytes : ByteArray} {maxL : Nat} {ret : Option FieldType} {hh : List (Nat × Nat × Nat × Nat)}
    (hown : s.vm.findClass own = some m.cls) (hlink : (Cond.methodLink own index y).before args s = true) (hstat : (Cond.static y).before args s = true) (hinit : (Cond.initialized y.cls).before args s = true)
    (hcode : (Cond.codeWith y bytes maxL ret hh).before args s = true) (hy : y.cls ≠ "java/lang/invoke/MethodHandle" ∧ y.cls ≠ "java/lang/invoke/VarHandle")
    {W9 : Nat} {Pre : Pt → Array Value → Prop} {Post : Pt → Array Value → Option Value → Pt → Prop} {PostX : Pt → Array Value → Addr → Pt → Prop} (hK : vx_Back l R p e below s args y 3 W9 Pre Post PostX)
    {g : JFrame} (hg : g.method = m) (hsize : g.locals.size = c.maxLocals) {argsL rest : List Value} (hlen : ∀ sig, parseMethodDescriptor y.desc = some sig → argsL.length = sig.parameters.length)
    (hstack : g.stack = argsL.reverse ++ rest) (hW : 2 * g.monitorRoom + (rest.map fun v => v.category).sum ≤ W9) (hdg : decode c.code g.pc = .ok (.invokestatic index, 3))
    (hpre : ∀ vm₁, s.WarmedH vm₁ → Pre ⟨T.setVm vm₁, locs, cells, slots⟩ argsL.toArray) :
    (∃ (v : Option Value) (vm₁ : Vm) (B : Pt), s.WarmedH vm₁ ∧ Stand p l e R s m args below meth c B.U B.locs B.cells B.slots ∧ Post ⟨T.setVm vm₁, locs, cells, slots⟩ argsL.toArray v B ∧
      ∀ target, Steps p.tables e below (B.U.setTop { g with pc := g.pc + 3, stack := v.toList ++ rest }) target → Steps p.tables e below (T.setTop g) target) ∨
    (∃ (q : Addr) (vm₁ : Vm) (B : Pt), s.WarmedH vm₁ ∧ Stand p l e R s m args below meth c B.U B.locs B.cells B.slots ∧ PostX ⟨T.setVm vm₁, locs, cells, slots⟩ argsL.toArray q B ∧
      Steps p.tables e below (T.setTop g) ((B.U.setTop { g with stack := rest }).pushFrame (.throwing q))) := by
  obtain ⟨mk, methM, cM, hnamed, hmethM, -, -, -, -, -, -, hsigM⟩ := Cond.codeWith_spec hcode
  have hstatic : methM.isStatic = true := Cond.static_spec hnamed hmethM hstat
  obtain ⟨kP, hkP, -⟩ := className_of_methodNamed hnamed
  have hinitP : kP.init = .initialized := Cond.initialized_spec (findClass_of_methodNamed hnamed) hkP hinit
  obtain ⟨vm₁, X₁, hstep₁⟩ := X.invokestatic hexec hown hlink hnamed hmethM hstatic hkP hinitP hy (g := g) hg (argsL := argsL) (rest := rest) (hlen _ hsigM) hstack hdg
  rcases hK m meth c ⟨T.setVm vm₁, locs, cells, slots⟩ { g with stack := rest } (.invokestatic index) mk argsL.toArray X₁ hg hsize hdg hW (X₁.named hnamed) (hpre vm₁ X₁.warmed) with ⟨v, B, X', hpost, hsteps⟩ | ⟨q, B, X', hpost, hsteps⟩
  · exact Or.inl ⟨v, vm₁, B, X₁.warmed, X', hpost, fun target h => hstep₁ _ fun acts => by rw [doInvoke_state]; exact hsteps.trans h⟩
  · exact Or.inr ⟨q, vm₁, B, X₁.warmed, X', hpost, hstep₁ _ fun acts => by rw [doInvoke_state]; exact hsteps⟩
theorem vx_callVW (X : Stand p l e R s m args below meth c T locs cells slots) (hexec : p.tables.exec = Jvm.exec) {own C : String} {index : Nat} {y : MethodName} {bytes : ByteArray} {maxL : Nat} {ret : Option FieldType} {hh : List (Nat × Nat × Nat × Nat)}
    (hown : s.vm.findClass own = some m.cls) (hlink : (Cond.methodLink own index y).before args s = true) (hinst : (Cond.instanceMethod y).before args s = true) (hsel : (Cond.selects C y y).before args s = true)
    (hcode : (Cond.codeWith y bytes maxL ret hh).before args s = true) (hy : y.cls ≠ "java/lang/invoke/MethodHandle" ∧ y.cls ≠ "java/lang/invoke/VarHandle")
    {W9 : Nat} {Pre : Pt → Array Value → Prop} {Post : Pt → Array Value → Option Value → Pt → Prop} (hK : Back l R p e below s args y 3 W9 Pre Post)
    {b : Addr} {cellB : Cell} (hcell : T.heap[b]? = some cellB) (hobj : cellB.vm.isStatics = false) (hcls : s.vm.findClass C = some cellB.cls)
    {g : JFrame} (hg : g.method = m) (hsize : g.locals.size = c.maxLocals) {argsL rest : List Value} (hlen : ∀ sig, parseMethodDescriptor y.desc = some sig → argsL.length = sig.parameters.length)
    (hstack : g.stack = argsL.reverse ++ .ref b :: rest) (hW : 2 * g.monitorRoom + (rest.map fun v => v.category).sum ≤ W9) (hdg : decode c.code g.pc = .ok (.invokevirtual index, 3))
    (hpre : ∀ vm₁, s.WarmedH vm₁ → Pre ⟨T.setVm vm₁, locs, cells, slots⟩ (Value.ref b :: argsL).toArray) :
    ∃ (v : Option Value) (vm₁ : Vm) (B : Pt), s.WarmedH vm₁ ∧ Stand p l e R s m args below meth c B.U B.locs B.cells B.slots ∧ Post ⟨T.setVm vm₁, locs, cells, slots⟩ (Value.ref b :: argsL).toArray v B ∧
      ∀ target, Steps p.tables e below (B.U.setTop { g with pc := g.pc + 3, stack := v.toList ++ rest }) target → Steps p.tables e below (T.setTop g) target := by
  obtain ⟨mk, methM, hnamed, hmethM, hstM, habM⟩ := Cond.instanceMethod_spec hinst
  obtain ⟨m8, methM', cM, hn8, hmethM', -, -, -, -, -, -, hsigM⟩ := Cond.codeWith_spec hcode
  cases Option.some.inj (hn8.symm.trans hnamed)
  cases hmethM.symm.trans hmethM'
  obtain ⟨c2, r2, m2, q1, q2, q3, q4, kP, hkP, hkPi⟩ := Cond.selects_spec hsel
  cases hcls.symm.trans q1
  cases (State.methodFound?_of_named hnamed hy).symm.trans q2
  cases hnamed.symm.trans q3
  have hselP : selectMethod e.platform s.vm cellB.cls mk = .method mk := by rw [Launch.admits_selectMethod X.admits]; exact q4
  obtain ⟨vm₁, X₁, hstep₁⟩ := X.invokevirtual hexec hown hlink hnamed hmethM hstM hkP hkPi hy (a := b) (cell := cellB) hcell
    (fun z h => by rw [h] at hobj; cases hobj) hselP hmethM habM hkP hkPi (g := g) hg (argsL := argsL) (rest := rest) (hlen _ hsigM) hstack hdg
  obtain ⟨v, B, X', hpost, hsteps⟩ := hK m meth c ⟨T.setVm vm₁, locs, cells, slots⟩ { g with stack := rest } (.invokevirtual index) mk (Value.ref b :: argsL).toArray X₁ hg hsize hdg hW (X₁.named hnamed) (hpre vm₁ X₁.warmed)
  exact ⟨v, vm₁, B, X₁.warmed, X', hpost, fun target h => hstep₁ _ fun acts => by rw [doInvoke_state]; exact hsteps.trans h⟩
abbrev vx_CVW (R : Room) (s : State) (args : Array Value) (own C : String) (index : Nat) (y : MethodName) (bytes : ByteArray) (maxL : Nat) (ret : Option FieldType) (hh : List (Nat × Nat × Nat × Nat)) (ws : List Cond) (rm : Room) (mc ms n : Nat) : Prop :=
  (rm.cells = mc ∧ rm.slots = ms ∧ rm.frames + 1 ≤ R.frames ∧ 8 + (maxL + 11) + rm.locals ≤ R.locals ∧ (∀ w ∈ ws, ∀ (a' : Array Value) (U : State), s.WarmedH U.vm → w.before a' U = true) ∧ Cond.codeWith y bytes maxL ret hh ∈ ws) ∧
  (Cond.codeWith y bytes maxL ret hh).before args s = true ∧ (Cond.initialized y.cls).before args s = true ∧ (y.cls ≠ "java/lang/invoke/MethodHandle" ∧ y.cls ≠ "java/lang/invoke/VarHandle") ∧
  (∀ sig, parseMethodDescriptor y.desc = some sig → n = sig.parameters.length) ∧ (Cond.methodLink own index y).before args s = true ∧ (Cond.instanceMethod y).before args s = true ∧ (Cond.selects C y y).before args s = true
theorem vx_cwVW {own C : String} {index maxL mc ms : Nat} {y : MethodName} {bytes : ByteArray} {ret : Option FieldType} {hh : List (Nat × Nat × Nat × Nat)} {Ts ws ws' : List Cond} {rm : Room} (n : Nat) (ht : ∀ w ∈ Ts, w.before args s = true) (hT : GoodIn Ts (wsV own index C y ws)) (hw : ws = Cond.codeWith y bytes maxL ret hh :: ws') (hrc : rm.cells = mc) (hrs : rm.slots = ms)
    (hd : y.cls = C ∧ y.cls ≠ "java/lang/invoke/MethodHandle" ∧ y.cls ≠ "java/lang/invoke/VarHandle" ∧ (parseMethodDescriptor y.desc).map (fun d => d.parameters.length) = some n) (hR : rm.frames + 1 ≤ R.frames ∧ 8 + (maxL + 11) + rm.locals ≤ R.locals) :
    vx_CVW R s args own C index y bytes maxL ret hh ws rm mc ms n := by
  obtain ⟨hC, hd⟩ := hd
  subst hC
  have ok : ∀ w ∈ wsV own index y.cls y ws, w.before args s = true := fun w h => ht w (hT w h).1
  have hG : GoodIn Ts ws := fun w h => hT w (by unfold wsV; exact List.mem_append_right _ h)
  have hc : Cond.codeWith y bytes maxL ret hh ∈ ws := by rw [hw]; exact List.mem_cons_self
  refine ⟨⟨hrc, hrs, hR.1, hR.2, pay_in ht hG, hc⟩, ht _ (hG _ hc).1, ok _ (by simp [wsV]), ⟨hd.1, hd.2.1⟩, fun sig h => ?_, ok _ (by simp [wsV]), ok _ (by simp [wsV]), ok _ (by simp [wsV])⟩
  have h2 := hd.2.2
  rw [h] at h2
  exact (Option.some.inj h2).symm
theorem vx_runVW {y : MethodName} {bytes cc : ByteArray} {maxL nL mc ms n index : Nat} {ret : Option FieldType} {hh : List (Nat × Nat × Nat × Nat)} {ws : List Cond} {rm : Room} {Pc : Array Value → State → Prop} {Qc : Array Value → State → Outcome → State → Prop} {free : Addr → Prop} {Ts : List Cond} {own C : String} {b : Addr} {As rest : List Value} {g : JFrame}
    (S : CallFix p m c cc nL s args Ts own) (hM : Met l y ws rm Pc Qc mc ms free) (cw : vx_CVW R s args own C index y bytes maxL ret hh ws rm mc ms n) (hp : PreV s H C b Pc As)
    (hg : g.method = m) (hn : As.length = n) (hsize : g.locals.size = nL) (hstack : g.stack = As.reverse ++ .ref b :: rest) (hW : 2 * g.monitorRoom + (rest.map fun v => v.category).sum ≤ 8) (hdg : decode cc g.pc = .ok (.invokevirtual index, 3)) (hf : cells + mc ≤ R.cells ∧ slots + ms ≤ R.slots) :
    va_Run p l e R s m args below meth c H locs cells slots mc ms g rest (Qc (Value.ref b :: As).toArray) free := by
  obtain ⟨⟨hrc, hrs, hfr, hlo, hws, hcw⟩, hcode, hini, hy, hlen, hl, hin, hse⟩ := cw
  have hK : Back l R p e below s args y 3 8 (PreOf R mc ms Pc) (PostOf Qc mc ms free) := va_backW (hh := hh) (bytes := bytes) (maxL := maxL) (ret := ret) hM hp.1 hrc hrs hfr hlo hws hcw (fun a' U hW => word_at hW (Or.inl (by first | rfl | simp [Cond.onTables, Cond.keeps, Cond.steady])) hini)
  obtain ⟨hx, hb, hml, ho, -⟩ := S
  obtain ⟨-, ⟨cellB, hcB, hoB, hclB⟩, hPc⟩ := hp
  intro T hT X
  obtain ⟨v, vm₁, ⟨U', l2, c2, s2⟩, hW₁, X', ⟨g', mk, t, L, e1, e2, hq, h1, hL, h2, h3⟩, st⟩ := vx_callVW X hx (C := C) (hh := hh) (bytes := bytes) (maxL := maxL) (ret := ret) ho hl hin hse hcode hy hK (by rw [hT]; exact hcB) hoB hclB hg (hsize.trans hml.symm) (argsL := As) (rest := rest) (fun sig h => hn.trans (hlen sig h)) hstack hW (by rw [hb]; exact hdg)
    (fun vm₁ hW₁ => ⟨hf.1, hf.2, hPc (T.setVm vm₁) hT hW₁⟩)
  dsimp only [Pt.U, Pt.locs, Pt.cells, Pt.slots] at X' e1 e2 h1 h2 h3 st
  subst h1; subst h2; subst h3
  exact ⟨v, (T.setVm vm₁).calling g' mk (Value.ref b :: As).toArray, t, U', L, hT, X', hL, e1, e2, hq, st⟩
section
variable {y : MethodName} {bytes cc : ByteArray} {maxL nL mc ms n index : Nat} {ret : Option FieldType} {ws : List Cond} {rm : Room} {Pc : Array Value → State → Prop} {Qc : Array Value → State → Outcome → State → Prop} {XC : String → State → State → Prop} {free : Addr → Prop} {Ts : List Cond} {own C : String} {b : Addr} {As rest : List Value} {g : JFrame}
theorem vx_runVX {hh : List (Nat × Nat × Nat × Nat)} (S : CallFix p m c cc nL s args Ts own) (hM : vx_Met l y ws rm Pc Qc XC mc ms free) (cw : vx_CVW R s args own C index y bytes maxL ret hh ws rm mc ms n) (hp : PreV s H C b Pc As)
    (hg : g.method = m) (hn : As.length = n) (hsize : g.locals.size = nL) (hstack : g.stack = As.reverse ++ .ref b :: rest) (hW : 2 * g.monitorRoom + (rest.map fun v => v.category).sum ≤ 8) (hdg : decode cc g.pc = .ok (.invokevirtual index, 3)) (hf : cells + mc ≤ R.cells ∧ slots + ms ≤ R.slots) :
    vx_Run p l e R s m args below meth c H locs cells slots mc ms g rest (Qc (Value.ref b :: As).toArray) XC free := by
  obtain ⟨⟨hrc, hrs, hfr, hlo, hws, hcw⟩, hcode, hini, hy, hlen, hl, hin, hse⟩ := cw
  have hK : vx_Back l R p e below s args y 3 8 (PreOf R mc ms Pc) (PostOf Qc mc ms free) (vx_Post XC mc ms free) := vx_backW (hh := hh) (bytes := bytes) (maxL := maxL) (ret := ret) hM hp.1 hrc hrs hfr hlo hws hcw (fun a' U hW => word_at hW (Or.inl (by first | rfl | simp [Cond.onTables, Cond.keeps, Cond.steady])) hini)
  obtain ⟨hx, hb, hml, ho, -⟩ := S
  obtain ⟨-, ⟨cellB, hcB, hoB, hclB⟩, hPc⟩ := hp
  intro T hT X
  rcases vx_callVX X hx (C := C) (hh := hh) (bytes := bytes) (maxL := maxL) (ret := ret) ho hl hin hse hcode hy hK (by rw [hT]; exact hcB) hoB hclB hg (hsize.trans hml.symm) (argsL := As) (rest := rest) (fun sig h => hn.trans (hlen sig h)) hstack hW (by rw [hb]; exact hdg)
    (fun vm₁ hW₁ => ⟨hf.1, hf.2, hPc (T.setVm vm₁) hT hW₁⟩) with ⟨v, vm₁, ⟨U', l2, c2, s2⟩, hW₁, X', ⟨g', mk, t, L, e1, e2, hq, h1, hL, h2, h3⟩, st⟩ | ⟨q, vm₁, ⟨U', l2, c2, s2⟩, hW₁, X', ⟨g', mk, t, L, E, ce, e1, e2, hq, hce, hcv, hcl, h1, hL, h2, h3⟩, st⟩
  · dsimp only [Pt.U, Pt.locs, Pt.cells, Pt.slots] at X' e1 e2 h1 h2 h3 st
    subst h1; subst h2; subst h3
    exact Or.inl ⟨v, (T.setVm vm₁).calling g' mk (Value.ref b :: As).toArray, t, U', L, hT, X', hL, e1, e2, hq, st⟩
  · dsimp only [Pt.U, Pt.locs, Pt.cells, Pt.slots] at X' e1 e2 h1 h2 h3 st hcl
    subst h1; subst h2; subst h3
    exact Or.inr ⟨q, (T.setVm vm₁).calling g' mk (Value.ref b :: As).toArray, t, U', L, E, ce, hT, X', hL, e1, e2, hq, hce, hcv, vx_cls hW₁ hcl, st⟩
theorem vx_runSX {hh : List (Nat × Nat × Nat × Nat)} (S : CallFix p m c cc nL s args Ts own) (hM : vx_Met l y ws rm Pc Qc XC mc ms free) (cw : vx_CSW R s args own index y bytes maxL ret hh ws rm mc ms n) (hp : PreS s H Pc As)
    (hg : g.method = m) (hn : As.length = n) (hsize : g.locals.size = nL) (hstack : g.stack = As.reverse ++ rest) (hW : 2 * g.monitorRoom + (rest.map fun v => v.category).sum ≤ 8) (hdg : decode cc g.pc = .ok (.invokestatic index, 3)) (hf : cells + mc ≤ R.cells ∧ slots + ms ≤ R.slots) :
    vx_Run p l e R s m args below meth c H locs cells slots mc ms g rest (Qc As.toArray) XC free := by
  obtain ⟨⟨hrc, hrs, hfr, hlo, hws, hcw⟩, hcode, hini, hy, hlen, hl, hstt⟩ := cw
  have hK : vx_Back l R p e below s args y 3 8 (PreOf R mc ms Pc) (PostOf Qc mc ms free) (vx_Post XC mc ms free) := vx_backW (hh := hh) (bytes := bytes) (maxL := maxL) (ret := ret) hM hp.1 hrc hrs hfr hlo hws hcw (fun a' U hW => word_at hW (Or.inl (by first | rfl | simp [Cond.onTables, Cond.keeps, Cond.steady])) hini)
  obtain ⟨hx, hb, hml, ho, -⟩ := S
  intro T hT X
  rcases vx_callSX X hx (hh := hh) (bytes := bytes) (maxL := maxL) (ret := ret) ho hl hstt hini hcode hy hK hg (hsize.trans hml.symm) (argsL := As) (rest := rest) (fun sig h => hn.trans (hlen sig h)) hstack hW (by rw [hb]; exact hdg)
    (fun vm₁ hW₁ => ⟨hf.1, hf.2, hp.2 (T.setVm vm₁) hT hW₁⟩) with ⟨v, vm₁, ⟨U', l2, c2, s2⟩, hW₁, X', ⟨g', mk, t, L, e1, e2, hq, h1, hL, h2, h3⟩, st⟩ | ⟨q, vm₁, ⟨U', l2, c2, s2⟩, hW₁, X', ⟨g', mk, t, L, E, ce, e1, e2, hq, hce, hcv, hcl, h1, hL, h2, h3⟩, st⟩
  · dsimp only [Pt.U, Pt.locs, Pt.cells, Pt.slots] at X' e1 e2 h1 h2 h3 st
    subst h1; subst h2; subst h3
    exact Or.inl ⟨v, (T.setVm vm₁).calling g' mk As.toArray, t, U', L, hT, X', hL, e1, e2, hq, st⟩
  · dsimp only [Pt.U, Pt.locs, Pt.cells, Pt.slots] at X' e1 e2 h1 h2 h3 st hcl
    subst h1; subst h2; subst h3
    exact Or.inr ⟨q, (T.setVm vm₁).calling g' mk As.toArray, t, U', L, E, ce, hT, X', hL, e1, e2, hq, hce, hcv, vx_cls hW₁ hcl, st⟩
end
end VXH
theorem vx_ofWH {l : Launch} {y : MethodName} {ws ws' : List Cond} {rm : Room} {Pc : Array Value → State → Prop} {Qc : Array Value → State → Outcome → State → Prop} {XC : String → State → State → Prop} {mc ms : Nat} {free : Addr → Prop} {cc : ByteArray} {maxL : Nat} {ret : Option FieldType} {hh : List (Nat × Nat × Nat × Nat)}
    (hy : plainName y.cls = true) (hw : ws = Cond.codeWith y cc maxL ret hh :: ws')
    (body : ∀ p e s m args below meth c s₁, BodyLoose p l y (headSpec ws rm) cc maxL ret e s m args below meth c s₁ → c.maxLocals = maxL → Pc args s →
      W p l e (headSpec ws rm).room s m args below meth c s.heap [] 0 0 (vx_MQ below Qc XC args s mc ms free) (entryFrame m args maxL)) : vx_Met l y ws rm Pc Qc XC mc ms free := by
  refine MetFree.of_bodyS (code := cc) (maxLocals := maxL) (ret := ret) hy ?_ ?_
  · intro args s m h hn
    obtain ⟨m9, meth, c, hn9, h1, h2, h3, h4, -, h5, h6, -⟩ := Cond.codeWith_spec (atoms_spec (ws := ws) h _ (by rw [hw]; exact List.mem_cons_self))
    cases hn.symm.trans hn9
    exact ⟨meth, c, h1, h2, h3, h4, h5, h6⟩
  · intro p e s m args below meth c s₁ B hml hP _
    have hh0 : s₁.heap = s.heap := by rw [B.state]; rfl
    obtain ⟨t, a1, o, b1, b2, b3⟩ := body p e s m args below meth c s₁ B hml hP s₁ hh0 (Stand.of_body B)
    exact ⟨t, o, a1, b1, b2, b3⟩
/-! ===== END ===== -/
end
section
/-! ===== BEGIN printed: names, fields, word lists, decode rows ===== -/
def RX0 : String := "Nudgelane$Attempts"
def TX0 : u_T := fun k => match k with
  | 0 => ("Nudgelane$Attempts", "froms", "LNudgelane$Row;", true)
  | 1 => ("Nudgelane$Attempts", "tos", "LNudgelane$Row;", true)
  | 2 => ("Nudgelane$Attempts", "leavings", "LNudgelane$Row;", true)
  | 3 => ("Nudgelane$Attempts", "rightEnds", "LNudgelane$Row;", true)
  | 4 => ("Nudgelane$Attempts", "metMarks", "LNudgelane$Row;", true)
  | 5 => ("Nudgelane$Attempts", "metForms", "LNudgelane$Row;", true)
  | 6 => ("Nudgelane$Attempts", "metTotal", "I", false)
  | 7 => ("Nudgelane$Attempts", "begun", "I", false)
  | 8 => ("Nudgelane$Attempts", "passed", "I", false)
  | 9 => ("Nudgelane$Attempts", "here", "I", false)
  | _ => ("Nudgelane$Attempts", "someRight", "Z", false)
def tyX0 : Nat → FieldType := fun k => match k with
  | 0 => .object "Nudgelane$Row"
  | 1 => .object "Nudgelane$Row"
  | 2 => .object "Nudgelane$Row"
  | 3 => .object "Nudgelane$Row"
  | 4 => .object "Nudgelane$Row"
  | 5 => .object "Nudgelane$Row"
  | 6 => .int
  | 7 => .int
  | 8 => .int
  | 9 => .int
  | _ => .boolean
abbrev wsX00 : List Cond := u_ws RX0 TX0 11
theorem nmX0 : ∀ a, a < 11 → ∀ b, b < 11 → a ≠ b → (TX0 a).2.1 ≠ (TX0 b).2.1 := by decide +kernel
theorem tyX0_ok : ∀ k, k < 11 → parseFieldDescriptor (TX0 k).2.2.1 = some (tyX0 k) := by decide +kernel
abbrev cX0_init : ByteArray := prog_2_method_1_code
def yX0_init : MethodName := ⟨RX0, "<init>", "()V"⟩
abbrev cX0_isUnderWay : ByteArray := prog_2_method_2_code
def yX0_isUnderWay : MethodName := ⟨RX0, "isUnderWay", "()Z"⟩
abbrev cX0_areAllBegun : ByteArray := prog_2_method_3_code
def yX0_areAllBegun : MethodName := ⟨RX0, "areAllBegun", "()Z"⟩
abbrev cX0_areAllPassed : ByteArray := prog_2_method_4_code
def yX0_areAllPassed : MethodName := ⟨RX0, "areAllPassed", "()Z"⟩
abbrev cX0_start : ByteArray := prog_2_method_5_code
def yX0_start : MethodName := ⟨RX0, "start", "(I)V"⟩
abbrev cX0_moveTo : ByteArray := prog_2_method_6_code
def yX0_moveTo : MethodName := ⟨RX0, "moveTo", "(I)V"⟩
abbrev cX0_meet : ByteArray := prog_2_method_7_code
def yX0_meet : MethodName := ⟨RX0, "meet", "(I)V"⟩
abbrev cX0_finish : ByteArray := prog_2_method_8_code
def yX0_finish : MethodName := ⟨RX0, "finish", "(Z)I"⟩
abbrev cX0_current : ByteArray := prog_2_method_9_code
def yX0_current : MethodName := ⟨RX0, "current", "()I"⟩
abbrev cX0_metCount : ByteArray := prog_2_method_10_code
def yX0_metCount : MethodName := ⟨RX0, "metCount", "()I"⟩
abbrev cX0_metForm : ByteArray := prog_2_method_11_code
def yX0_metForm : MethodName := ⟨RX0, "metForm", "(I)I"⟩
abbrev cX0_isSomeRight : ByteArray := prog_2_method_12_code
def yX0_isSomeRight : MethodName := ⟨RX0, "isSomeRight", "()Z"⟩
abbrev cX0_hasEndedRight : ByteArray := prog_2_method_13_code
def yX0_hasEndedRight : MethodName := ⟨RX0, "hasEndedRight", "(I)Z"⟩
abbrev cX0_rightEndings : ByteArray := prog_2_method_14_code
def yX0_rightEndings : MethodName := ⟨RX0, "rightEndings", "(I)I"⟩
abbrev cX0_leavingsOf : ByteArray := prog_2_method_15_code
def yX0_leavingsOf : MethodName := ⟨RX0, "leavingsOf", "(I)I"⟩
abbrev cX0_passedCount : ByteArray := prog_2_method_16_code
def yX0_passedCount : MethodName := ⟨RX0, "passedCount", "()I"⟩
abbrev cX0_fromOf : ByteArray := prog_2_method_17_code
def yX0_fromOf : MethodName := ⟨RX0, "fromOf", "(I)I"⟩
abbrev cX0_toOf : ByteArray := prog_2_method_18_code
def yX0_toOf : MethodName := ⟨RX0, "toOf", "(I)I"⟩
abbrev cX0_countPassings : ByteArray := prog_2_method_19_code
def yX0_countPassings : MethodName := ⟨RX0, "countPassings", "(II)I"⟩
def RX1 : String := "Nudgelane$Programs"
def TX1 : u_T := fun k => match k with
  | _ => ("Nudgelane$Programs", "forms", "LNudgelane$Row;", true)
def tyX1 : Nat → FieldType := fun k => match k with
  | _ => .object "Nudgelane$Row"
abbrev wsX10 : List Cond := u_ws RX1 TX1 1
theorem nmX1 : ∀ a, a < 1 → ∀ b, b < 1 → a ≠ b → (TX1 a).2.1 ≠ (TX1 b).2.1 := by decide +kernel
theorem tyX1_ok : ∀ k, k < 1 → parseFieldDescriptor (TX1 k).2.2.1 = some (tyX1 k) := by decide +kernel
abbrev cX1_init : ByteArray := prog_3_method_1_code
def yX1_init : MethodName := ⟨RX1, "<init>", "()V"⟩
abbrev cX1_formOf : ByteArray := prog_3_method_2_code
def yX1_formOf : MethodName := ⟨RX1, "formOf", "(I)I"⟩
abbrev cX1_isForm : ByteArray := prog_3_method_3_code
def yX1_isForm : MethodName := ⟨RX1, "isForm", "(I)Z"⟩
abbrev cX1_behind : ByteArray := prog_3_method_4_code
def yX1_behind : MethodName := ⟨RX1, "behind", "(III)I"⟩
abbrev cX1_weightOf : ByteArray := prog_3_method_5_code
def yX1_weightOf : MethodName := ⟨RX1, "weightOf", "(I)I"⟩
abbrev cX1_without : ByteArray := prog_3_method_6_code
def yX1_without : MethodName := ⟨RX1, "without", "(II)I"⟩
abbrev cX1_reduce : ByteArray := prog_3_method_7_code
def yX1_reduce : MethodName := ⟨RX1, "reduce", "(ILNudgelane$Row;)I"⟩
abbrev cX1_unpack : ByteArray := prog_3_method_8_code
def yX1_unpack : MethodName := ⟨RX1, "unpack", "(ILNudgelane$Row;)V"⟩
abbrev cX1_pack : ByteArray := prog_3_method_9_code
def yX1_pack : MethodName := ⟨RX1, "pack", "(LNudgelane$Row;)I"⟩
abbrev cX1_rewriteOnce : ByteArray := prog_3_method_10_code
def yX1_rewriteOnce : MethodName := ⟨RX1, "rewriteOnce", "(LNudgelane$Row;)Z"⟩
abbrev cX1_isUsable : ByteArray := prog_3_method_11_code
def yX1_isUsable : MethodName := ⟨RX1, "isUsable", "(III)Z"⟩
abbrev cX1_use : ByteArray := prog_3_method_12_code
def yX1_use : MethodName := ⟨RX1, "use", "(ILNudgelane$Row;I)V"⟩
def RX2 : String := "Nudgelane$Row"
def TX2 : u_T := fun k => match k with
  | _ => ("Nudgelane$Row", "cells", "[I", true)
def tyX2 : Nat → FieldType := fun k => match k with
  | _ => .array .int
abbrev wsX20 : List Cond := u_ws RX2 TX2 1
theorem nmX2 : ∀ a, a < 1 → ∀ b, b < 1 → a ≠ b → (TX2 a).2.1 ≠ (TX2 b).2.1 := by decide +kernel
theorem tyX2_ok : ∀ k, k < 1 → parseFieldDescriptor (TX2 k).2.2.1 = some (tyX2 k) := by decide +kernel
abbrev cX2_init : ByteArray := prog_4_method_1_code
def yX2_init : MethodName := ⟨RX2, "<init>", "(I)V"⟩
abbrev cX2_holds : ByteArray := prog_4_method_2_code
def yX2_holds : MethodName := ⟨RX2, "holds", "(I)Z"⟩
abbrev cX2_get : ByteArray := prog_4_method_3_code
def yX2_get : MethodName := ⟨RX2, "get", "(I)I"⟩
abbrev cX2_set : ByteArray := prog_4_method_4_code
def yX2_set : MethodName := ⟨RX2, "set", "(II)V"⟩
abbrev cX2_add : ByteArray := prog_4_method_5_code
def yX2_add : MethodName := ⟨RX2, "add", "(II)V"⟩
abbrev cX2_fill : ByteArray := prog_4_method_6_code
def yX2_fill : MethodName := ⟨RX2, "fill", "(I)V"⟩
def RX3 : String := "Nudgelane$Ways"
def TX3 : u_T := fun k => match k with
  | 0 => ("Nudgelane$Ways", "known", "LNudgelane$Row;", true)
  | _ => ("Nudgelane$Ways", "queue", "LNudgelane$Row;", true)
def tyX3 : Nat → FieldType := fun k => match k with
  | 0 => .object "Nudgelane$Row"
  | _ => .object "Nudgelane$Row"
abbrev wsX30 : List Cond := u_ws RX3 TX3 2
theorem nmX3 : ∀ a, a < 2 → ∀ b, b < 2 → a ≠ b → (TX3 a).2.1 ≠ (TX3 b).2.1 := by decide +kernel
theorem tyX3_ok : ∀ k, k < 2 → parseFieldDescriptor (TX3 k).2.2.1 = some (tyX3 k) := by decide +kernel
abbrev cX3_init : ByteArray := prog_5_method_1_code
def yX3_init : MethodName := ⟨RX3, "<init>", "()V"⟩
abbrev cX3_editsKnown : ByteArray := prog_5_method_2_code
def yX3_editsKnown : MethodName := ⟨RX3, "editsKnown", "(I)I"⟩
abbrev cX3_forget : ByteArray := prog_5_method_3_code
def yX3_forget : MethodName := ⟨RX3, "forget", "()V"⟩
abbrev cX3_mark : ByteArray := prog_5_method_4_code
def yX3_mark : MethodName := ⟨RX3, "mark", "(I)V"⟩
abbrev cX3_countBehindOneEdit : ByteArray := prog_5_method_5_code
def yX3_countBehindOneEdit : MethodName := ⟨RX3, "countBehindOneEdit", "(LNudgelane$Programs;I)I"⟩
abbrev cX3_goOutward : ByteArray := prog_5_method_6_code
def yX3_goOutward : MethodName := ⟨RX3, "goOutward", "(LNudgelane$Programs;I)V"⟩
abbrev cX3_queueNewBehind : ByteArray := prog_5_method_7_code
def yX3_queueNewBehind : MethodName := ⟨RX3, "queueNewBehind", "(LNudgelane$Programs;II)I"⟩
abbrev cX3_settle : ByteArray := prog_5_method_8_code
def yX3_settle : MethodName := ⟨RX3, "settle", "(LNudgelane$Programs;)V"⟩
abbrev cX3_settleOnce : ByteArray := prog_5_method_9_code
def yX3_settleOnce : MethodName := ⟨RX3, "settleOnce", "(LNudgelane$Programs;)Z"⟩
abbrev cX3_leastBehind : ByteArray := prog_5_method_10_code
def yX3_leastBehind : MethodName := ⟨RX3, "leastBehind", "(LNudgelane$Programs;I)I"⟩
def RX4 : String := "Nudgelane$Worths"
def TX4 : u_T := fun k => match k with
  | 0 => ("Nudgelane$Worths", "worthNow", "LNudgelane$Row;", true)
  | _ => ("Nudgelane$Worths", "sums", "LNudgelane$Row;", true)
def tyX4 : Nat → FieldType := fun k => match k with
  | 0 => .object "Nudgelane$Row"
  | _ => .object "Nudgelane$Row"
abbrev wsX40 : List Cond := u_ws RX4 TX4 2
theorem nmX4 : ∀ a, a < 2 → ∀ b, b < 2 → a ≠ b → (TX4 a).2.1 ≠ (TX4 b).2.1 := by decide +kernel
theorem tyX4_ok : ∀ k, k < 2 → parseFieldDescriptor (TX4 k).2.2.1 = some (tyX4 k) := by decide +kernel
abbrev cX4_init : ByteArray := prog_6_method_1_code
def yX4_init : MethodName := ⟨RX4, "<init>", "()V"⟩
abbrev cX4_of : ByteArray := prog_6_method_2_code
def yX4_of : MethodName := ⟨RX4, "of", "(I)I"⟩
abbrev cX4_find : ByteArray := prog_6_method_3_code
def yX4_find : MethodName := ⟨RX4, "find", "(LNudgelane$Attempts;)V"⟩
abbrev cX4_addUp : ByteArray := prog_6_method_4_code
def yX4_addUp : MethodName := ⟨RX4, "addUp", "(LNudgelane$Attempts;)V"⟩
abbrev cX4_share : ByteArray := prog_6_method_5_code
def yX4_share : MethodName := ⟨RX4, "share", "(LNudgelane$Attempts;)V"⟩
def RX5 : String := "Nudgelane"
def TX5 : u_T := fun k => match k with
  | 0 => ("Nudgelane", "programs", "LNudgelane$Programs;", true)
  | 1 => ("Nudgelane", "ways", "LNudgelane$Ways;", true)
  | 2 => ("Nudgelane", "attempts", "LNudgelane$Attempts;", true)
  | _ => ("Nudgelane", "worths", "LNudgelane$Worths;", true)
def tyX5 : Nat → FieldType := fun k => match k with
  | 0 => .object "Nudgelane$Programs"
  | 1 => .object "Nudgelane$Ways"
  | 2 => .object "Nudgelane$Attempts"
  | _ => .object "Nudgelane$Worths"
abbrev wsX50 : List Cond := u_ws RX5 TX5 4
theorem nmX5 : ∀ a, a < 4 → ∀ b, b < 4 → a ≠ b → (TX5 a).2.1 ≠ (TX5 b).2.1 := by decide +kernel
theorem tyX5_ok : ∀ k, k < 4 → parseFieldDescriptor (TX5 k).2.2.1 = some (tyX5 k) := by decide +kernel
abbrev cX5_init : ByteArray := prog_1_method_1_code
def yX5_init : MethodName := ⟨RX5, "<init>", "()V"⟩
abbrev cX5_form : ByteArray := prog_1_method_2_code
def yX5_form : MethodName := ⟨RX5, "form", "(I)I"⟩
abbrev cX5_edit : ByteArray := prog_1_method_3_code
def yX5_edit : MethodName := ⟨RX5, "edit", "(III)I"⟩
abbrev cX5_neighbours : ByteArray := prog_1_method_4_code
def yX5_neighbours : MethodName := ⟨RX5, "neighbours", "(I)I"⟩
abbrev cX5_distance : ByteArray := prog_1_method_5_code
def yX5_distance : MethodName := ⟨RX5, "distance", "(II)I"⟩
abbrev cX5_distanceByRounds : ByteArray := prog_1_method_6_code
def yX5_distanceByRounds : MethodName := ⟨RX5, "distanceByRounds", "(II)I"⟩
abbrev cX5_begin : ByteArray := prog_1_method_7_code
def yX5_begin : MethodName := ⟨RX5, "begin", "(I)I"⟩
abbrev cX5_pass : ByteArray := prog_1_method_8_code
def yX5_pass : MethodName := ⟨RX5, "pass", "(I)I"⟩
abbrev cX5_end : ByteArray := prog_1_method_9_code
def yX5_end : MethodName := ⟨RX5, "end", "(Z)I"⟩
abbrev cX5_at : ByteArray := prog_1_method_10_code
def yX5_at : MethodName := ⟨RX5, "at", "()I"⟩
abbrev cX5_met : ByteArray := prog_1_method_11_code
def yX5_met : MethodName := ⟨RX5, "met", "()I"⟩
abbrev cX5_passings : ByteArray := prog_1_method_12_code
def yX5_passings : MethodName := ⟨RX5, "passings", "(II)I"⟩
abbrev cX5_isRight : ByteArray := prog_1_method_13_code
def yX5_isRight : MethodName := ⟨RX5, "isRight", "(I)Z"⟩
abbrev cX5_worth : ByteArray := prog_1_method_14_code
def yX5_worth : MethodName := ⟨RX5, "worth", "(I)I"⟩
abbrev cX5_steps : ByteArray := prog_1_method_15_code
def yX5_steps : MethodName := ⟨RX5, "steps", "(I)I"⟩
abbrev cX5_hint : ByteArray := prog_1_method_16_code
def yX5_hint : MethodName := ⟨RX5, "hint", "(I)I"⟩
abbrev cX5_lead : ByteArray := prog_1_method_17_code
def yX5_lead : MethodName := ⟨RX5, "lead", "(I)I"⟩
abbrev cX5_nearest : ByteArray := prog_1_method_18_code
def yX5_nearest : MethodName := ⟨RX5, "nearest", "(I)I"⟩
abbrev cX5_checkedForm : ByteArray := prog_1_method_19_code
def yX5_checkedForm : MethodName := ⟨RX5, "checkedForm", "(I)I"⟩
abbrev cX5_requireSomeRight : ByteArray := prog_1_method_20_code
def yX5_requireSomeRight : MethodName := ⟨RX5, "requireSomeRight", "()V"⟩
abbrev cX5_findSteps : ByteArray := prog_1_method_21_code
def yX5_findSteps : MethodName := ⟨RX5, "findSteps", "()V"⟩
abbrev cX5_stepNearer : ByteArray := prog_1_method_22_code
def yX5_stepNearer : MethodName := ⟨RX5, "stepNearer", "(I)I"⟩
def RX6 : String := "NudgelaneModel"
def TX6 : u_T := fun k => match k with
  | 0 => ("NudgelaneModel", "forms", "[I", true)
  | 1 => ("NudgelaneModel", "digits", "[I", true)
  | 2 => ("NudgelaneModel", "far", "[I", true)
  | 3 => ("NudgelaneModel", "isMet", "[Z", true)
  | 4 => ("NudgelaneModel", "isRight", "[Z", true)
  | 5 => ("NudgelaneModel", "worths", "[I", true)
  | 6 => ("NudgelaneModel", "sums", "[J", true)
  | 7 => ("NudgelaneModel", "counts", "[I", true)
  | 8 => ("NudgelaneModel", "met", "I", false)
  | 9 => ("NudgelaneModel", "begun", "I", false)
  | 10 => ("NudgelaneModel", "at", "I", false)
  | 11 => ("NudgelaneModel", "passings", "I", false)
  | 12 => ("NudgelaneModel", "froms", "[I", true)
  | 13 => ("NudgelaneModel", "tos", "[I", true)
  | 14 => ("NudgelaneModel", "ended", "I", false)
  | 15 => ("NudgelaneModel", "ends", "[I", true)
  | 16 => ("NudgelaneModel", "wasRight", "[Z", true)
  | _ => ("NudgelaneModel", "thrown", "I", false)
def tyX6 : Nat → FieldType := fun k => match k with
  | 0 => .array .int
  | 1 => .array .int
  | 2 => .array .int
  | 3 => .array .boolean
  | 4 => .array .boolean
  | 5 => .array .int
  | 6 => .array .long
  | 7 => .array .int
  | 8 => .int
  | 9 => .int
  | 10 => .int
  | 11 => .int
  | 12 => .array .int
  | 13 => .array .int
  | 14 => .int
  | 15 => .array .int
  | 16 => .array .boolean
  | _ => .int
abbrev wsX60 : List Cond := u_ws RX6 TX6 18
theorem nmX6 : ∀ a, a < 18 → ∀ b, b < 18 → a ≠ b → (TX6 a).2.1 ≠ (TX6 b).2.1 := by decide +kernel
theorem tyX6_ok : ∀ k, k < 18 → parseFieldDescriptor (TX6 k).2.2.1 = some (tyX6 k) := by decide +kernel
abbrev cX6_init : ByteArray := prog_8_method_1_code
def yX6_init : MethodName := ⟨RX6, "<init>", "()V"⟩
abbrev cX6_thrown : ByteArray := prog_8_method_2_code
def yX6_thrown : MethodName := ⟨RX6, "thrown", "()I"⟩
abbrev cX6_goes : ByteArray := prog_8_method_3_code
def yX6_goes : MethodName := ⟨RX6, "goes", "(I)Z"⟩
abbrev cX6_isCode : ByteArray := prog_8_method_4_code
def yX6_isCode : MethodName := ⟨RX6, "isCode", "(I)Z"⟩
abbrev cX6_fits : ByteArray := prog_8_method_5_code
def yX6_fits : MethodName := ⟨RX6, "fits", "(III)Z"⟩
abbrev cX6_uses : ByteArray := prog_8_method_6_code
def yX6_uses : MethodName := ⟨RX6, "uses", "()Z"⟩
abbrev cX6_formed : ByteArray := prog_8_method_7_code
def yX6_formed : MethodName := ⟨RX6, "formed", "(I)I"⟩
abbrev cX6_unit : ByteArray := prog_8_method_8_code
def yX6_unit : MethodName := ⟨RX6, "unit", "(I)I"⟩
abbrev cX6_edited : ByteArray := prog_8_method_9_code
def yX6_edited : MethodName := ⟨RX6, "edited", "(II)I"⟩
abbrev cX6_form : ByteArray := prog_8_method_10_code
def yX6_form : MethodName := ⟨RX6, "form", "(I)I"⟩
abbrev cX6_edit : ByteArray := prog_8_method_11_code
def yX6_edit : MethodName := ⟨RX6, "edit", "(III)I"⟩
abbrev cX6_neighbours : ByteArray := prog_8_method_12_code
def yX6_neighbours : MethodName := ⟨RX6, "neighbours", "(I)I"⟩
abbrev cX6_goesOutward : ByteArray := prog_8_method_13_code
def yX6_goesOutward : MethodName := ⟨RX6, "goesOutward", "(I)V"⟩
abbrev cX6_goesInward : ByteArray := prog_8_method_14_code
def yX6_goesInward : MethodName := ⟨RX6, "goesInward", "(I)V"⟩
abbrev cX6_distance : ByteArray := prog_8_method_15_code
def yX6_distance : MethodName := ⟨RX6, "distance", "(II)I"⟩
abbrev cX6_distanceByRounds : ByteArray := prog_8_method_16_code
def yX6_distanceByRounds : MethodName := ⟨RX6, "distanceByRounds", "(II)I"⟩
abbrev cX6_meets : ByteArray := prog_8_method_17_code
def yX6_meets : MethodName := ⟨RX6, "meets", "(I)V"⟩
abbrev cX6_begin : ByteArray := prog_8_method_18_code
def yX6_begin : MethodName := ⟨RX6, "begin", "(I)I"⟩
abbrev cX6_pass : ByteArray := prog_8_method_19_code
def yX6_pass : MethodName := ⟨RX6, "pass", "(I)I"⟩
abbrev cX6_end : ByteArray := prog_8_method_20_code
def yX6_end : MethodName := ⟨RX6, "end", "(Z)I"⟩
abbrev cX6_at : ByteArray := prog_8_method_21_code
def yX6_at : MethodName := ⟨RX6, "at", "()I"⟩
abbrev cX6_met : ByteArray := prog_8_method_22_code
def yX6_met : MethodName := ⟨RX6, "met", "()I"⟩
abbrev cX6_passings : ByteArray := prog_8_method_23_code
def yX6_passings : MethodName := ⟨RX6, "passings", "(II)I"⟩
abbrev cX6_isRight : ByteArray := prog_8_method_24_code
def yX6_isRight : MethodName := ⟨RX6, "isRight", "(I)Z"⟩
abbrev cX6_laysWorths : ByteArray := prog_8_method_25_code
def yX6_laysWorths : MethodName := ⟨RX6, "laysWorths", "()V"⟩
abbrev cX6_worth : ByteArray := prog_8_method_26_code
def yX6_worth : MethodName := ⟨RX6, "worth", "(I)I"⟩
abbrev cX6_isAnyRight : ByteArray := prog_8_method_27_code
def yX6_isAnyRight : MethodName := ⟨RX6, "isAnyRight", "()Z"⟩
abbrev cX6_steps : ByteArray := prog_8_method_28_code
def yX6_steps : MethodName := ⟨RX6, "steps", "(I)I"⟩
abbrev cX6_hinted : ByteArray := prog_8_method_29_code
def yX6_hinted : MethodName := ⟨RX6, "hinted", "(I)I"⟩
abbrev cX6_hint : ByteArray := prog_8_method_30_code
def yX6_hint : MethodName := ⟨RX6, "hint", "(I)I"⟩
abbrev cX6_lead : ByteArray := prog_8_method_31_code
def yX6_lead : MethodName := ⟨RX6, "lead", "(I)I"⟩
abbrev cX6_nearest : ByteArray := prog_8_method_32_code
def yX6_nearest : MethodName := ⟨RX6, "nearest", "(I)I"⟩
def RJx145de : String := "java/io/Serializable"
def TJx145de : u_T := fun k => match k with
  | _ => ("", "", "", false)
def tyJx145de : Nat → FieldType := fun k => match k with
  | _ => .int
abbrev wsJx145de0 : List Cond := u_ws RJx145de TJx145de 0
theorem nmJx145de : ∀ a, a < 0 → ∀ b, b < 0 → a ≠ b → (TJx145de a).2.1 ≠ (TJx145de b).2.1 := by decide +kernel
theorem tyJx145de_ok : ∀ k, k < 0 → parseFieldDescriptor (TJx145de k).2.2.1 = some (tyJx145de k) := by decide +kernel
def RJ9 : String := "java/lang/Math"
def TJ9 : u_T := fun k => match k with
  | _ => ("", "", "", false)
def tyJ9 : Nat → FieldType := fun k => match k with
  | _ => .int
abbrev wsJ90 : List Cond := u_ws RJ9 TJ9 0
theorem nmJ9 : ∀ a, a < 0 → ∀ b, b < 0 → a ≠ b → (TJ9 a).2.1 ≠ (TJ9 b).2.1 := by decide +kernel
theorem tyJ9_ok : ∀ k, k < 0 → parseFieldDescriptor (TJ9 k).2.2.1 = some (tyJ9 k) := by decide +kernel
abbrev cJ9_min_7cf53 : ByteArray := prog_14_method_69_code
def yJ9_min_7cf53 : MethodName := ⟨RJ9, "min", "(II)I"⟩
def RJ0 : String := "java/lang/String"
def TJ0 : u_T := fun k => match k with
  | _ => ("", "", "", false)
def tyJ0 : Nat → FieldType := fun k => match k with
  | _ => .int
abbrev wsJ00 : List Cond := u_ws RJ0 TJ0 0
theorem nmJ0 : ∀ a, a < 0 → ∀ b, b < 0 → a ≠ b → (TJ0 a).2.1 ≠ (TJ0 b).2.1 := by decide +kernel
theorem tyJ0_ok : ∀ k, k < 0 → parseFieldDescriptor (TJ0 k).2.2.1 = some (tyJ0 k) := by decide +kernel
def RJ7 : String := "java/util/Arrays"
def TJ7 : u_T := fun k => match k with
  | _ => ("", "", "", false)
def tyJ7 : Nat → FieldType := fun k => match k with
  | _ => .int
abbrev wsJ70 : List Cond := u_ws RJ7 TJ7 0
theorem nmJ7 : ∀ a, a < 0 → ∀ b, b < 0 → a ≠ b → (TJ7 a).2.1 ≠ (TJ7 b).2.1 := by decide +kernel
theorem tyJ7_ok : ∀ k, k < 0 → parseFieldDescriptor (TJ7 k).2.2.1 = some (tyJ7 k) := by decide +kernel
abbrev cJ7_fill_53178 : ByteArray := prog_18_method_103_code
def yJ7_fill_53178 : MethodName := ⟨RJ7, "fill", "([II)V"⟩
def RL : String := "NudgelaneLaw"
abbrev cL_form : ByteArray := method_3_code
def yL_form : MethodName := ⟨RL, "form", "(LNudgelane;I[J)I"⟩
abbrev cL_edit : ByteArray := method_4_code
def yL_edit : MethodName := ⟨RL, "edit", "(LNudgelane;III[J)I"⟩
abbrev cL_neighbours : ByteArray := method_5_code
def yL_neighbours : MethodName := ⟨RL, "neighbours", "(LNudgelane;I[J)I"⟩
abbrev cL_distance : ByteArray := method_6_code
def yL_distance : MethodName := ⟨RL, "distance", "(LNudgelane;II[J)I"⟩
abbrev cL_distanceByRounds : ByteArray := method_7_code
def yL_distanceByRounds : MethodName := ⟨RL, "distanceByRounds", "(LNudgelane;II[J)I"⟩
abbrev cL_begin : ByteArray := method_8_code
def yL_begin : MethodName := ⟨RL, "begin", "(LNudgelane;I[J)I"⟩
abbrev cL_pass : ByteArray := method_9_code
def yL_pass : MethodName := ⟨RL, "pass", "(LNudgelane;I[J)I"⟩
abbrev cL_end : ByteArray := method_10_code
def yL_end : MethodName := ⟨RL, "end", "(LNudgelane;Z[J)I"⟩
abbrev cL_passings : ByteArray := method_11_code
def yL_passings : MethodName := ⟨RL, "passings", "(LNudgelane;II[J)I"⟩
abbrev cL_isRight : ByteArray := method_12_code
def yL_isRight : MethodName := ⟨RL, "isRight", "(LNudgelane;I[J)I"⟩
abbrev cL_worth : ByteArray := method_13_code
def yL_worth : MethodName := ⟨RL, "worth", "(LNudgelane;I[J)I"⟩
abbrev cL_steps : ByteArray := method_14_code
def yL_steps : MethodName := ⟨RL, "steps", "(LNudgelane;I[J)I"⟩
abbrev cL_hint : ByteArray := method_15_code
def yL_hint : MethodName := ⟨RL, "hint", "(LNudgelane;I[J)I"⟩
abbrev cL_lead : ByteArray := method_16_code
def yL_lead : MethodName := ⟨RL, "lead", "(LNudgelane;I[J)I"⟩
abbrev cL_nearest : ByteArray := method_17_code
def yL_nearest : MethodName := ⟨RL, "nearest", "(LNudgelane;I[J)I"⟩
abbrev cL_law : ByteArray := code
def yL_law : MethodName := ⟨RL, "law", "([I)Z"⟩
def wsX2_init : List Cond := .code yX2_init cX2_init 2 none :: ([.methodLink RX2 1 objectInit, .instanceMethod objectInit, .code objectInit ⟨#[0xb1]⟩ 1 none, .arrayClass .int, .fieldLink RX2 7 "Nudgelane$Row" "cells" "[I"] ++ wsX20)
def wsX0_init : List Cond := .code yX0_init cX0_init 1 none :: ([.methodLink RX0 3 objectInit, .instanceMethod objectInit, .code objectInit ⟨#[0xb1]⟩ 1 none, .classLink RX0 9 RX2, .instantiable RX2 1, .initialized RX2, .fieldLink RX0 14 "Nudgelane$Attempts" "froms" "LNudgelane$Row;", .fieldLink RX0 20 "Nudgelane$Attempts" "tos" "LNudgelane$Row;", .fieldLink RX0 23 "Nudgelane$Attempts" "leavings" "LNudgelane$Row;", .fieldLink RX0 26 "Nudgelane$Attempts" "rightEnds" "LNudgelane$Row;", .fieldLink RX0 29 "Nudgelane$Attempts" "metMarks" "LNudgelane$Row;", .fieldLink RX0 32 "Nudgelane$Attempts" "metForms" "LNudgelane$Row;", .fieldLink RX0 35 "Nudgelane$Attempts" "here" "I", .methodLink RX0 11 yX2_init, .instanceMethod yX2_init, .code yX2_init cX2_init 2 none, .methodLink RX2 1 objectInit, .arrayClass .int, .fieldLink RX2 7 "Nudgelane$Row" "cells" "[I"] ++ wsX20 ++ wsX00)
def wsX0_isUnderWay : List Cond := .code yX0_isUnderWay cX0_isUnderWay 1 (some .boolean) :: ([.fieldLink RX0 35 "Nudgelane$Attempts" "here" "I"] ++ wsX00)
def wsX0_areAllBegun : List Cond := .code yX0_areAllBegun cX0_areAllBegun 1 (some .boolean) :: ([.fieldLink RX0 39 "Nudgelane$Attempts" "begun" "I"] ++ wsX00)
def wsX0_areAllPassed : List Cond := .code yX0_areAllPassed cX0_areAllPassed 1 (some .boolean) :: ([.fieldLink RX0 42 "Nudgelane$Attempts" "passed" "I"] ++ wsX00)
def wsX2_holds : List Cond := .code yX2_holds cX2_holds 2 (some .boolean) :: ([.fieldLink RX2 7 "Nudgelane$Row" "cells" "[I"] ++ wsX20)
def wsX2_get : List Cond := .code yX2_get cX2_get 2 (some .int) :: ([.fieldLink RX2 7 "Nudgelane$Row" "cells" "[I", .methodLink RX2 13 yX2_holds, .instanceMethod yX2_holds, .selects RX2 yX2_holds yX2_holds, .initialized RX2, .code yX2_holds cX2_holds 2 (some .boolean)] ++ wsX20)
def wsX2_set : List Cond := .code yX2_set cX2_set 3 none :: ([.fieldLink RX2 7 "Nudgelane$Row" "cells" "[I", .methodLink RX2 13 yX2_holds, .instanceMethod yX2_holds, .selects RX2 yX2_holds yX2_holds, .initialized RX2, .code yX2_holds cX2_holds 2 (some .boolean)] ++ wsX20)
def wsX0_meet : List Cond := .code yX0_meet cX0_meet 2 none :: ([.fieldLink RX0 35 "Nudgelane$Attempts" "here" "I", .fieldLink RX0 29 "Nudgelane$Attempts" "metMarks" "LNudgelane$Row;", .fieldLink RX0 32 "Nudgelane$Attempts" "metForms" "LNudgelane$Row;", .fieldLink RX0 59 "Nudgelane$Attempts" "metTotal" "I", .methodLink RX0 55 yX2_get, .instanceMethod yX2_get, .selects RX2 yX2_get yX2_get, .initialized RX2, .code yX2_get cX2_get 2 (some .int), .fieldLink RX2 7 "Nudgelane$Row" "cells" "[I", .methodLink RX2 13 yX2_holds, .instanceMethod yX2_holds, .selects RX2 yX2_holds yX2_holds, .code yX2_holds cX2_holds 2 (some .boolean), .methodLink RX0 48 yX2_set, .instanceMethod yX2_set, .selects RX2 yX2_set yX2_set, .code yX2_set cX2_set 3 none] ++ wsX00 ++ wsX20)
def wsX0_start : List Cond := .code yX0_start cX0_start 2 none :: ([.fieldLink RX0 39 "Nudgelane$Attempts" "begun" "I", .methodLink RX0 45 yX0_meet, .instanceMethod yX0_meet, .selects RX0 yX0_meet yX0_meet, .initialized RX0, .code yX0_meet cX0_meet 2 none, .fieldLink RX0 35 "Nudgelane$Attempts" "here" "I", .fieldLink RX0 29 "Nudgelane$Attempts" "metMarks" "LNudgelane$Row;", .fieldLink RX0 32 "Nudgelane$Attempts" "metForms" "LNudgelane$Row;", .fieldLink RX0 59 "Nudgelane$Attempts" "metTotal" "I", .methodLink RX0 55 yX2_get, .instanceMethod yX2_get, .selects RX2 yX2_get yX2_get, .initialized RX2, .code yX2_get cX2_get 2 (some .int), .fieldLink RX2 7 "Nudgelane$Row" "cells" "[I", .methodLink RX2 13 yX2_holds, .instanceMethod yX2_holds, .selects RX2 yX2_holds yX2_holds, .code yX2_holds cX2_holds 2 (some .boolean), .methodLink RX0 48 yX2_set, .instanceMethod yX2_set, .selects RX2 yX2_set yX2_set, .code yX2_set cX2_set 3 none] ++ wsX00 ++ wsX20)
def wsX2_add : List Cond := .code yX2_add cX2_add 3 none :: ([.methodLink RX2 17 yX2_get, .instanceMethod yX2_get, .selects RX2 yX2_get yX2_get, .initialized RX2, .code yX2_get cX2_get 2 (some .int), .fieldLink RX2 7 "Nudgelane$Row" "cells" "[I", .methodLink RX2 13 yX2_holds, .instanceMethod yX2_holds, .selects RX2 yX2_holds yX2_holds, .code yX2_holds cX2_holds 2 (some .boolean), .methodLink RX2 21 yX2_set, .instanceMethod yX2_set, .selects RX2 yX2_set yX2_set, .code yX2_set cX2_set 3 none] ++ wsX20)
def wsX0_moveTo_r1 : List Cond := [Cond.fieldLink RX0 14 "Nudgelane$Attempts" "froms" "LNudgelane$Row;", Cond.fieldLink RX0 42 "Nudgelane$Attempts" "passed" "I", Cond.fieldLink RX0 35 "Nudgelane$Attempts" "here" "I", Cond.fieldLink RX0 20 "Nudgelane$Attempts" "tos" "LNudgelane$Row;", Cond.fieldLink RX0 23 "Nudgelane$Attempts" "leavings" "LNudgelane$Row;", Cond.methodLink RX0 48 yX2_set, Cond.instanceMethod yX2_set, Cond.selects RX2 yX2_set yX2_set, Cond.initialized RX2, Cond.code yX2_set cX2_set 3 none, Cond.fieldLink RX2 7 "Nudgelane$Row" "cells" "[I", Cond.methodLink RX2 13 yX2_holds, Cond.instanceMethod yX2_holds, Cond.selects RX2 yX2_holds yX2_holds, Cond.code yX2_holds cX2_holds 2 (some .boolean), Cond.methodLink RX0 52 yX2_add, Cond.instanceMethod yX2_add, Cond.selects RX2 yX2_add yX2_add, Cond.code yX2_add cX2_add 3 none, Cond.methodLink RX2 17 yX2_get, Cond.instanceMethod yX2_get, Cond.selects RX2 yX2_get yX2_get, Cond.code yX2_get cX2_get 2 (some .int), Cond.methodLink RX2 21 yX2_set]
def wsX0_moveTo_r2 : List Cond := [Cond.methodLink RX0 45 yX0_meet, Cond.instanceMethod yX0_meet, Cond.selects RX0 yX0_meet yX0_meet, Cond.initialized RX0, Cond.code yX0_meet cX0_meet 2 none, Cond.fieldLink RX0 29 "Nudgelane$Attempts" "metMarks" "LNudgelane$Row;", Cond.fieldLink RX0 32 "Nudgelane$Attempts" "metForms" "LNudgelane$Row;", Cond.fieldLink RX0 59 "Nudgelane$Attempts" "metTotal" "I", Cond.methodLink RX0 55 yX2_get]
def wsX0_moveTo : List Cond := .code yX0_moveTo cX0_moveTo 2 none :: ((wsX0_moveTo_r1 ++ wsX0_moveTo_r2) ++ wsX00 ++ wsX20)
def wsX0_finish : List Cond := .code yX0_finish cX0_finish 3 (some .int) :: ([.fieldLink RX0 35 "Nudgelane$Attempts" "here" "I", .fieldLink RX0 23 "Nudgelane$Attempts" "leavings" "LNudgelane$Row;", .fieldLink RX0 26 "Nudgelane$Attempts" "rightEnds" "LNudgelane$Row;", .fieldLink RX0 62 "Nudgelane$Attempts" "someRight" "Z", .methodLink RX0 52 yX2_add, .instanceMethod yX2_add, .selects RX2 yX2_add yX2_add, .initialized RX2, .code yX2_add cX2_add 3 none, .methodLink RX2 17 yX2_get, .instanceMethod yX2_get, .selects RX2 yX2_get yX2_get, .code yX2_get cX2_get 2 (some .int), .fieldLink RX2 7 "Nudgelane$Row" "cells" "[I", .methodLink RX2 13 yX2_holds, .instanceMethod yX2_holds, .selects RX2 yX2_holds yX2_holds, .code yX2_holds cX2_holds 2 (some .boolean), .methodLink RX2 21 yX2_set, .instanceMethod yX2_set, .selects RX2 yX2_set yX2_set, .code yX2_set cX2_set 3 none] ++ wsX00 ++ wsX20)
def wsX0_current : List Cond := .code yX0_current cX0_current 1 (some .int) :: ([.fieldLink RX0 35 "Nudgelane$Attempts" "here" "I"] ++ wsX00)
def wsX0_metCount : List Cond := .code yX0_metCount cX0_metCount 1 (some .int) :: ([.fieldLink RX0 59 "Nudgelane$Attempts" "metTotal" "I"] ++ wsX00)
def wsX0_metForm : List Cond := .code yX0_metForm cX0_metForm 2 (some .int) :: ([.fieldLink RX0 32 "Nudgelane$Attempts" "metForms" "LNudgelane$Row;", .methodLink RX0 55 yX2_get, .instanceMethod yX2_get, .selects RX2 yX2_get yX2_get, .initialized RX2, .code yX2_get cX2_get 2 (some .int), .fieldLink RX2 7 "Nudgelane$Row" "cells" "[I", .methodLink RX2 13 yX2_holds, .instanceMethod yX2_holds, .selects RX2 yX2_holds yX2_holds, .code yX2_holds cX2_holds 2 (some .boolean)] ++ wsX00 ++ wsX20)
def wsX0_isSomeRight : List Cond := .code yX0_isSomeRight cX0_isSomeRight 1 (some .boolean) :: ([.fieldLink RX0 62 "Nudgelane$Attempts" "someRight" "Z"] ++ wsX00)
def wsX0_hasEndedRight : List Cond := .code yX0_hasEndedRight cX0_hasEndedRight 2 (some .boolean) :: ([.fieldLink RX0 26 "Nudgelane$Attempts" "rightEnds" "LNudgelane$Row;", .methodLink RX0 55 yX2_get, .instanceMethod yX2_get, .selects RX2 yX2_get yX2_get, .initialized RX2, .code yX2_get cX2_get 2 (some .int), .fieldLink RX2 7 "Nudgelane$Row" "cells" "[I", .methodLink RX2 13 yX2_holds, .instanceMethod yX2_holds, .selects RX2 yX2_holds yX2_holds, .code yX2_holds cX2_holds 2 (some .boolean)] ++ wsX00 ++ wsX20)
def wsX0_rightEndings : List Cond := .code yX0_rightEndings cX0_rightEndings 2 (some .int) :: ([.fieldLink RX0 26 "Nudgelane$Attempts" "rightEnds" "LNudgelane$Row;", .methodLink RX0 55 yX2_get, .instanceMethod yX2_get, .selects RX2 yX2_get yX2_get, .initialized RX2, .code yX2_get cX2_get 2 (some .int), .fieldLink RX2 7 "Nudgelane$Row" "cells" "[I", .methodLink RX2 13 yX2_holds, .instanceMethod yX2_holds, .selects RX2 yX2_holds yX2_holds, .code yX2_holds cX2_holds 2 (some .boolean)] ++ wsX00 ++ wsX20)
def wsX0_leavingsOf : List Cond := .code yX0_leavingsOf cX0_leavingsOf 2 (some .int) :: ([.fieldLink RX0 23 "Nudgelane$Attempts" "leavings" "LNudgelane$Row;", .methodLink RX0 55 yX2_get, .instanceMethod yX2_get, .selects RX2 yX2_get yX2_get, .initialized RX2, .code yX2_get cX2_get 2 (some .int), .fieldLink RX2 7 "Nudgelane$Row" "cells" "[I", .methodLink RX2 13 yX2_holds, .instanceMethod yX2_holds, .selects RX2 yX2_holds yX2_holds, .code yX2_holds cX2_holds 2 (some .boolean)] ++ wsX00 ++ wsX20)
def wsX0_passedCount : List Cond := .code yX0_passedCount cX0_passedCount 1 (some .int) :: ([.fieldLink RX0 42 "Nudgelane$Attempts" "passed" "I"] ++ wsX00)
def wsX0_fromOf : List Cond := .code yX0_fromOf cX0_fromOf 2 (some .int) :: ([.fieldLink RX0 14 "Nudgelane$Attempts" "froms" "LNudgelane$Row;", .methodLink RX0 55 yX2_get, .instanceMethod yX2_get, .selects RX2 yX2_get yX2_get, .initialized RX2, .code yX2_get cX2_get 2 (some .int), .fieldLink RX2 7 "Nudgelane$Row" "cells" "[I", .methodLink RX2 13 yX2_holds, .instanceMethod yX2_holds, .selects RX2 yX2_holds yX2_holds, .code yX2_holds cX2_holds 2 (some .boolean)] ++ wsX00 ++ wsX20)
def wsX0_toOf : List Cond := .code yX0_toOf cX0_toOf 2 (some .int) :: ([.fieldLink RX0 20 "Nudgelane$Attempts" "tos" "LNudgelane$Row;", .methodLink RX0 55 yX2_get, .instanceMethod yX2_get, .selects RX2 yX2_get yX2_get, .initialized RX2, .code yX2_get cX2_get 2 (some .int), .fieldLink RX2 7 "Nudgelane$Row" "cells" "[I", .methodLink RX2 13 yX2_holds, .instanceMethod yX2_holds, .selects RX2 yX2_holds yX2_holds, .code yX2_holds cX2_holds 2 (some .boolean)] ++ wsX00 ++ wsX20)
def wsX0_countPassings : List Cond := .code yX0_countPassings cX0_countPassings 5 (some .int) :: ([.fieldLink RX0 42 "Nudgelane$Attempts" "passed" "I", .methodLink RX0 66 yX0_fromOf, .instanceMethod yX0_fromOf, .selects RX0 yX0_fromOf yX0_fromOf, .initialized RX0, .code yX0_fromOf cX0_fromOf 2 (some .int), .fieldLink RX0 14 "Nudgelane$Attempts" "froms" "LNudgelane$Row;", .methodLink RX0 55 yX2_get, .instanceMethod yX2_get, .selects RX2 yX2_get yX2_get, .initialized RX2, .code yX2_get cX2_get 2 (some .int), .fieldLink RX2 7 "Nudgelane$Row" "cells" "[I", .methodLink RX2 13 yX2_holds, .instanceMethod yX2_holds, .selects RX2 yX2_holds yX2_holds, .code yX2_holds cX2_holds 2 (some .boolean), .methodLink RX0 69 yX0_toOf, .instanceMethod yX0_toOf, .selects RX0 yX0_toOf yX0_toOf, .code yX0_toOf cX0_toOf 2 (some .int), .fieldLink RX0 20 "Nudgelane$Attempts" "tos" "LNudgelane$Row;"] ++ wsX00 ++ wsX20)
def wsX1_unpack : List Cond := .code yX1_unpack cX1_unpack 4 none :: ([.methodLink RX1 24 yX2_set, .instanceMethod yX2_set, .selects RX2 yX2_set yX2_set, .initialized RX2, .code yX2_set cX2_set 3 none, .fieldLink RX2 7 "Nudgelane$Row" "cells" "[I", .methodLink RX2 13 yX2_holds, .instanceMethod yX2_holds, .selects RX2 yX2_holds yX2_holds, .code yX2_holds cX2_holds 2 (some .boolean)] ++ wsX20)
def wsX1_isUsable : List Cond := .code yX1_isUsable cX1_isUsable 3 (some .boolean) :: ([])
def wsX1_use : List Cond := .code yX1_use cX1_use 5 none :: ([.methodLink RX1 28 yX2_get, .instanceMethod yX2_get, .selects RX2 yX2_get yX2_get, .initialized RX2, .code yX2_get cX2_get 2 (some .int), .fieldLink RX2 7 "Nudgelane$Row" "cells" "[I", .methodLink RX2 13 yX2_holds, .instanceMethod yX2_holds, .selects RX2 yX2_holds yX2_holds, .code yX2_holds cX2_holds 2 (some .boolean), .methodLink RX1 24 yX2_set, .instanceMethod yX2_set, .selects RX2 yX2_set yX2_set, .code yX2_set cX2_set 3 none] ++ wsX20)
def wsX1_rewriteOnce : List Cond := .code yX1_rewriteOnce cX1_rewriteOnce 3 (some .boolean) :: ([.methodLink RX1 28 yX2_get, .instanceMethod yX2_get, .selects RX2 yX2_get yX2_get, .initialized RX2, .code yX2_get cX2_get 2 (some .int), .fieldLink RX2 7 "Nudgelane$Row" "cells" "[I", .methodLink RX2 13 yX2_holds, .instanceMethod yX2_holds, .selects RX2 yX2_holds yX2_holds, .code yX2_holds cX2_holds 2 (some .boolean), .methodLink RX1 54 yX1_isUsable, .static yX1_isUsable, .initialized RX1, .code yX1_isUsable cX1_isUsable 3 (some .boolean), .methodLink RX1 58 yX1_use, .static yX1_use, .code yX1_use cX1_use 5 none, .methodLink RX1 24 yX2_set, .instanceMethod yX2_set, .selects RX2 yX2_set yX2_set, .code yX2_set cX2_set 3 none] ++ wsX20)
def wsX1_pack : List Cond := .code yX1_pack cX1_pack 3 (some .int) :: ([.methodLink RX1 28 yX2_get, .instanceMethod yX2_get, .selects RX2 yX2_get yX2_get, .initialized RX2, .code yX2_get cX2_get 2 (some .int), .fieldLink RX2 7 "Nudgelane$Row" "cells" "[I", .methodLink RX2 13 yX2_holds, .instanceMethod yX2_holds, .selects RX2 yX2_holds yX2_holds, .code yX2_holds cX2_holds 2 (some .boolean)] ++ wsX20)
def wsX1_reduce_r1 : List Cond := [Cond.methodLink RX1 42 yX1_unpack, Cond.static yX1_unpack, Cond.initialized RX1, Cond.code yX1_unpack cX1_unpack 4 none, Cond.methodLink RX1 24 yX2_set, Cond.instanceMethod yX2_set, Cond.selects RX2 yX2_set yX2_set, Cond.initialized RX2, Cond.code yX2_set cX2_set 3 none, Cond.fieldLink RX2 7 "Nudgelane$Row" "cells" "[I", Cond.methodLink RX2 13 yX2_holds, Cond.instanceMethod yX2_holds, Cond.selects RX2 yX2_holds yX2_holds, Cond.code yX2_holds cX2_holds 2 (some .boolean), Cond.methodLink RX1 46 yX1_rewriteOnce, Cond.static yX1_rewriteOnce, Cond.code yX1_rewriteOnce cX1_rewriteOnce 3 (some .boolean), Cond.methodLink RX1 28 yX2_get, Cond.instanceMethod yX2_get, Cond.selects RX2 yX2_get yX2_get, Cond.code yX2_get cX2_get 2 (some .int), Cond.methodLink RX1 54 yX1_isUsable, Cond.static yX1_isUsable, Cond.code yX1_isUsable cX1_isUsable 3 (some .boolean)]
def wsX1_reduce_r2 : List Cond := [Cond.methodLink RX1 58 yX1_use, Cond.static yX1_use, Cond.code yX1_use cX1_use 5 none, Cond.methodLink RX1 50 yX1_pack, Cond.static yX1_pack, Cond.code yX1_pack cX1_pack 3 (some .int)]
def wsX1_reduce : List Cond := .code yX1_reduce cX1_reduce 4 (some .int) :: ((wsX1_reduce_r1 ++ wsX1_reduce_r2) ++ wsX20)
def wsX1_init_r1 : List Cond := [Cond.methodLink RX1 3 objectInit, Cond.instanceMethod objectInit, Cond.code objectInit ⟨#[0xb1]⟩ 1 none, Cond.classLink RX1 9 RX2, Cond.instantiable RX2 1, Cond.initialized RX2, Cond.fieldLink RX1 14 "Nudgelane$Programs" "forms" "LNudgelane$Row;", Cond.methodLink RX1 11 yX2_init, Cond.instanceMethod yX2_init, Cond.code yX2_init cX2_init 2 none, Cond.methodLink RX2 1 objectInit, Cond.arrayClass .int, Cond.fieldLink RX2 7 "Nudgelane$Row" "cells" "[I", Cond.methodLink RX1 20 yX1_reduce, Cond.static yX1_reduce, Cond.initialized RX1, Cond.code yX1_reduce cX1_reduce 4 (some .int), Cond.methodLink RX1 42 yX1_unpack, Cond.static yX1_unpack, Cond.code yX1_unpack cX1_unpack 4 none, Cond.methodLink RX1 24 yX2_set, Cond.instanceMethod yX2_set, Cond.selects RX2 yX2_set yX2_set, Cond.code yX2_set cX2_set 3 none]
def wsX1_init_r2 : List Cond := [Cond.methodLink RX2 13 yX2_holds, Cond.instanceMethod yX2_holds, Cond.selects RX2 yX2_holds yX2_holds, Cond.code yX2_holds cX2_holds 2 (some .boolean), Cond.methodLink RX1 46 yX1_rewriteOnce, Cond.static yX1_rewriteOnce, Cond.code yX1_rewriteOnce cX1_rewriteOnce 3 (some .boolean), Cond.methodLink RX1 28 yX2_get, Cond.instanceMethod yX2_get, Cond.selects RX2 yX2_get yX2_get, Cond.code yX2_get cX2_get 2 (some .int), Cond.methodLink RX1 54 yX1_isUsable, Cond.static yX1_isUsable, Cond.code yX1_isUsable cX1_isUsable 3 (some .boolean), Cond.methodLink RX1 58 yX1_use, Cond.static yX1_use, Cond.code yX1_use cX1_use 5 none, Cond.methodLink RX1 50 yX1_pack, Cond.static yX1_pack, Cond.code yX1_pack cX1_pack 3 (some .int)]
def wsX1_init : List Cond := .code yX1_init cX1_init 3 none :: ((wsX1_init_r1 ++ wsX1_init_r2) ++ wsX20 ++ wsX10)
def wsX1_formOf : List Cond := .code yX1_formOf cX1_formOf 2 (some .int) :: ([.fieldLink RX1 14 "Nudgelane$Programs" "forms" "LNudgelane$Row;", .methodLink RX1 28 yX2_get, .instanceMethod yX2_get, .selects RX2 yX2_get yX2_get, .initialized RX2, .code yX2_get cX2_get 2 (some .int), .fieldLink RX2 7 "Nudgelane$Row" "cells" "[I", .methodLink RX2 13 yX2_holds, .instanceMethod yX2_holds, .selects RX2 yX2_holds yX2_holds, .code yX2_holds cX2_holds 2 (some .boolean)] ++ wsX10 ++ wsX20)
def wsX1_isForm : List Cond := .code yX1_isForm cX1_isForm 2 (some .boolean) :: ([.fieldLink RX1 14 "Nudgelane$Programs" "forms" "LNudgelane$Row;", .methodLink RX1 28 yX2_get, .instanceMethod yX2_get, .selects RX2 yX2_get yX2_get, .initialized RX2, .code yX2_get cX2_get 2 (some .int), .fieldLink RX2 7 "Nudgelane$Row" "cells" "[I", .methodLink RX2 13 yX2_holds, .instanceMethod yX2_holds, .selects RX2 yX2_holds yX2_holds, .code yX2_holds cX2_holds 2 (some .boolean)] ++ wsX10 ++ wsX20)
def wsX1_weightOf : List Cond := .code yX1_weightOf cX1_weightOf 3 (some .int) :: ([])
def wsX1_without : List Cond := .code yX1_without cX1_without 3 (some .int) :: ([.methodLink RX1 36 yX1_weightOf, .static yX1_weightOf, .initialized RX1, .code yX1_weightOf cX1_weightOf 3 (some .int)])
def wsX1_behind : List Cond := .code yX1_behind cX1_behind 4 (some .int) :: ([.methodLink RX1 32 yX1_without, .static yX1_without, .initialized RX1, .code yX1_without cX1_without 3 (some .int), .methodLink RX1 36 yX1_weightOf, .static yX1_weightOf, .code yX1_weightOf cX1_weightOf 3 (some .int), .methodLink RX1 39 yX1_formOf, .instanceMethod yX1_formOf, .selects RX1 yX1_formOf yX1_formOf, .code yX1_formOf cX1_formOf 2 (some .int), .fieldLink RX1 14 "Nudgelane$Programs" "forms" "LNudgelane$Row;", .methodLink RX1 28 yX2_get, .instanceMethod yX2_get, .selects RX2 yX2_get yX2_get, .initialized RX2, .code yX2_get cX2_get 2 (some .int), .fieldLink RX2 7 "Nudgelane$Row" "cells" "[I", .methodLink RX2 13 yX2_holds, .instanceMethod yX2_holds, .selects RX2 yX2_holds yX2_holds, .code yX2_holds cX2_holds 2 (some .boolean)] ++ wsX10 ++ wsX20)
def wsJ7_fill_53178 : List Cond := .code yJ7_fill_53178 cJ7_fill_53178 4 none :: ([])
def wsX2_fill : List Cond := .code yX2_fill cX2_fill 2 none :: ([.fieldLink RX2 7 "Nudgelane$Row" "cells" "[I", .methodLink RX2 25 yJ7_fill_53178, .static yJ7_fill_53178, .initialized RJ7, .code yJ7_fill_53178 cJ7_fill_53178 4 none] ++ wsX20)
def wsX3_init : List Cond := .code yX3_init cX3_init 1 none :: ([.methodLink RX3 3 objectInit, .instanceMethod objectInit, .code objectInit ⟨#[0xb1]⟩ 1 none, .classLink RX3 9 RX2, .instantiable RX2 1, .initialized RX2, .fieldLink RX3 14 "Nudgelane$Ways" "known" "LNudgelane$Row;", .fieldLink RX3 20 "Nudgelane$Ways" "queue" "LNudgelane$Row;", .methodLink RX3 11 yX2_init, .instanceMethod yX2_init, .code yX2_init cX2_init 2 none, .methodLink RX2 1 objectInit, .arrayClass .int, .fieldLink RX2 7 "Nudgelane$Row" "cells" "[I"] ++ wsX20 ++ wsX30)
def wsX3_editsKnown : List Cond := .code yX3_editsKnown cX3_editsKnown 2 (some .int) :: ([.fieldLink RX3 14 "Nudgelane$Ways" "known" "LNudgelane$Row;", .methodLink RX3 23 yX2_get, .instanceMethod yX2_get, .selects RX2 yX2_get yX2_get, .initialized RX2, .code yX2_get cX2_get 2 (some .int), .fieldLink RX2 7 "Nudgelane$Row" "cells" "[I", .methodLink RX2 13 yX2_holds, .instanceMethod yX2_holds, .selects RX2 yX2_holds yX2_holds, .code yX2_holds cX2_holds 2 (some .boolean)] ++ wsX30 ++ wsX20)
def wsX3_forget : List Cond := .code yX3_forget cX3_forget 1 none :: ([.fieldLink RX3 14 "Nudgelane$Ways" "known" "LNudgelane$Row;", .constant RX3 27 (1000000), .methodLink RX3 28 yX2_fill, .instanceMethod yX2_fill, .selects RX2 yX2_fill yX2_fill, .initialized RX2, .code yX2_fill cX2_fill 2 none, .fieldLink RX2 7 "Nudgelane$Row" "cells" "[I", .methodLink RX2 25 yJ7_fill_53178, .static yJ7_fill_53178, .initialized RJ7, .code yJ7_fill_53178 cJ7_fill_53178 4 none] ++ wsX30 ++ wsX20)
def wsX3_mark : List Cond := .code yX3_mark cX3_mark 2 none :: ([.fieldLink RX3 14 "Nudgelane$Ways" "known" "LNudgelane$Row;", .methodLink RX3 31 yX2_set, .instanceMethod yX2_set, .selects RX2 yX2_set yX2_set, .initialized RX2, .code yX2_set cX2_set 3 none, .fieldLink RX2 7 "Nudgelane$Row" "cells" "[I", .methodLink RX2 13 yX2_holds, .instanceMethod yX2_holds, .selects RX2 yX2_holds yX2_holds, .code yX2_holds cX2_holds 2 (some .boolean)] ++ wsX30 ++ wsX20)
def wsX3_queueNewBehind_r1 : List Cond := [Cond.fieldLink RX3 14 "Nudgelane$Ways" "known" "LNudgelane$Row;", Cond.constant RX3 27 (1000000), Cond.fieldLink RX3 20 "Nudgelane$Ways" "queue" "LNudgelane$Row;", Cond.methodLink RX3 45 yX1_weightOf, Cond.static yX1_weightOf, Cond.initialized RX1, Cond.code yX1_weightOf cX1_weightOf 3 (some .int), Cond.methodLink RX3 50 yX1_without, Cond.static yX1_without, Cond.code yX1_without cX1_without 3 (some .int), Cond.methodLink RX1 36 yX1_weightOf, Cond.methodLink RX3 54 yX1_formOf, Cond.instanceMethod yX1_formOf, Cond.selects RX1 yX1_formOf yX1_formOf, Cond.code yX1_formOf cX1_formOf 2 (some .int), Cond.fieldLink RX1 14 "Nudgelane$Programs" "forms" "LNudgelane$Row;", Cond.methodLink RX1 28 yX2_get, Cond.instanceMethod yX2_get, Cond.selects RX2 yX2_get yX2_get, Cond.initialized RX2, Cond.code yX2_get cX2_get 2 (some .int), Cond.fieldLink RX2 7 "Nudgelane$Row" "cells" "[I", Cond.methodLink RX2 13 yX2_holds, Cond.instanceMethod yX2_holds]
def wsX3_queueNewBehind_r2 : List Cond := [Cond.selects RX2 yX2_holds yX2_holds, Cond.code yX2_holds cX2_holds 2 (some .boolean), Cond.methodLink RX3 23 yX2_get, Cond.methodLink RX3 31 yX2_set, Cond.instanceMethod yX2_set, Cond.selects RX2 yX2_set yX2_set, Cond.code yX2_set cX2_set 3 none]
def wsX3_queueNewBehind : List Cond := .code yX3_queueNewBehind cX3_queueNewBehind 10 (some .int) :: ((wsX3_queueNewBehind_r1 ++ wsX3_queueNewBehind_r2) ++ wsX30 ++ wsX10 ++ wsX20)
def wsX3_countBehindOneEdit_r1 : List Cond := [Cond.methodLink RX3 35 yX3_forget, Cond.instanceMethod yX3_forget, Cond.selects RX3 yX3_forget yX3_forget, Cond.initialized RX3, Cond.code yX3_forget cX3_forget 1 none, Cond.fieldLink RX3 14 "Nudgelane$Ways" "known" "LNudgelane$Row;", Cond.constant RX3 27 (1000000), Cond.methodLink RX3 28 yX2_fill, Cond.instanceMethod yX2_fill, Cond.selects RX2 yX2_fill yX2_fill, Cond.initialized RX2, Cond.code yX2_fill cX2_fill 2 none, Cond.fieldLink RX2 7 "Nudgelane$Row" "cells" "[I", Cond.methodLink RX2 25 yJ7_fill_53178, Cond.static yJ7_fill_53178, Cond.initialized RJ7, Cond.code yJ7_fill_53178 cJ7_fill_53178 4 none, Cond.methodLink RX3 38 yX3_mark, Cond.instanceMethod yX3_mark, Cond.selects RX3 yX3_mark yX3_mark, Cond.code yX3_mark cX3_mark 2 none, Cond.methodLink RX3 31 yX2_set, Cond.instanceMethod yX2_set, Cond.selects RX2 yX2_set yX2_set]
def wsX3_countBehindOneEdit_r2 : List Cond := [Cond.code yX2_set cX2_set 3 none, Cond.methodLink RX2 13 yX2_holds, Cond.instanceMethod yX2_holds, Cond.selects RX2 yX2_holds yX2_holds, Cond.code yX2_holds cX2_holds 2 (some .boolean), Cond.methodLink RX3 41 yX3_queueNewBehind, Cond.instanceMethod yX3_queueNewBehind, Cond.selects RX3 yX3_queueNewBehind yX3_queueNewBehind, Cond.code yX3_queueNewBehind cX3_queueNewBehind 10 (some .int), Cond.fieldLink RX3 20 "Nudgelane$Ways" "queue" "LNudgelane$Row;", Cond.methodLink RX3 45 yX1_weightOf, Cond.static yX1_weightOf, Cond.initialized RX1, Cond.code yX1_weightOf cX1_weightOf 3 (some .int), Cond.methodLink RX3 50 yX1_without, Cond.static yX1_without, Cond.code yX1_without cX1_without 3 (some .int), Cond.methodLink RX1 36 yX1_weightOf, Cond.methodLink RX3 54 yX1_formOf, Cond.instanceMethod yX1_formOf, Cond.selects RX1 yX1_formOf yX1_formOf, Cond.code yX1_formOf cX1_formOf 2 (some .int), Cond.fieldLink RX1 14 "Nudgelane$Programs" "forms" "LNudgelane$Row;", Cond.methodLink RX1 28 yX2_get]
def wsX3_countBehindOneEdit_r3 : List Cond := [Cond.instanceMethod yX2_get, Cond.selects RX2 yX2_get yX2_get, Cond.code yX2_get cX2_get 2 (some .int), Cond.methodLink RX3 23 yX2_get]
def wsX3_countBehindOneEdit : List Cond := .code yX3_countBehindOneEdit cX3_countBehindOneEdit 3 (some .int) :: ((wsX3_countBehindOneEdit_r1 ++ (wsX3_countBehindOneEdit_r2 ++ wsX3_countBehindOneEdit_r3)) ++ wsX30 ++ wsX20 ++ wsX10)
def wsX3_goOutward_r1 : List Cond := [Cond.fieldLink RX3 20 "Nudgelane$Ways" "queue" "LNudgelane$Row;", Cond.methodLink RX3 35 yX3_forget, Cond.instanceMethod yX3_forget, Cond.selects RX3 yX3_forget yX3_forget, Cond.initialized RX3, Cond.code yX3_forget cX3_forget 1 none, Cond.fieldLink RX3 14 "Nudgelane$Ways" "known" "LNudgelane$Row;", Cond.constant RX3 27 (1000000), Cond.methodLink RX3 28 yX2_fill, Cond.instanceMethod yX2_fill, Cond.selects RX2 yX2_fill yX2_fill, Cond.initialized RX2, Cond.code yX2_fill cX2_fill 2 none, Cond.fieldLink RX2 7 "Nudgelane$Row" "cells" "[I", Cond.methodLink RX2 25 yJ7_fill_53178, Cond.static yJ7_fill_53178, Cond.initialized RJ7, Cond.code yJ7_fill_53178 cJ7_fill_53178 4 none, Cond.methodLink RX3 38 yX3_mark, Cond.instanceMethod yX3_mark, Cond.selects RX3 yX3_mark yX3_mark, Cond.code yX3_mark cX3_mark 2 none, Cond.methodLink RX3 31 yX2_set, Cond.instanceMethod yX2_set]
def wsX3_goOutward_r2 : List Cond := [Cond.selects RX2 yX2_set yX2_set, Cond.code yX2_set cX2_set 3 none, Cond.methodLink RX2 13 yX2_holds, Cond.instanceMethod yX2_holds, Cond.selects RX2 yX2_holds yX2_holds, Cond.code yX2_holds cX2_holds 2 (some .boolean), Cond.methodLink RX3 23 yX2_get, Cond.instanceMethod yX2_get, Cond.selects RX2 yX2_get yX2_get, Cond.code yX2_get cX2_get 2 (some .int), Cond.methodLink RX3 41 yX3_queueNewBehind, Cond.instanceMethod yX3_queueNewBehind, Cond.selects RX3 yX3_queueNewBehind yX3_queueNewBehind, Cond.code yX3_queueNewBehind cX3_queueNewBehind 10 (some .int), Cond.methodLink RX3 45 yX1_weightOf, Cond.static yX1_weightOf, Cond.initialized RX1, Cond.code yX1_weightOf cX1_weightOf 3 (some .int), Cond.methodLink RX3 50 yX1_without, Cond.static yX1_without, Cond.code yX1_without cX1_without 3 (some .int), Cond.methodLink RX1 36 yX1_weightOf, Cond.methodLink RX3 54 yX1_formOf, Cond.instanceMethod yX1_formOf]
def wsX3_goOutward_r3 : List Cond := [Cond.selects RX1 yX1_formOf yX1_formOf, Cond.code yX1_formOf cX1_formOf 2 (some .int), Cond.fieldLink RX1 14 "Nudgelane$Programs" "forms" "LNudgelane$Row;", Cond.methodLink RX1 28 yX2_get]
def wsX3_goOutward : List Cond := .code yX3_goOutward cX3_goOutward 5 none :: ((wsX3_goOutward_r1 ++ (wsX3_goOutward_r2 ++ wsX3_goOutward_r3)) ++ wsX30 ++ wsX20 ++ wsX10)
def wsX3_leastBehind_r1 : List Cond := [Cond.constant RX3 27 (1000000), Cond.fieldLink RX3 14 "Nudgelane$Ways" "known" "LNudgelane$Row;", Cond.methodLink RX3 69 Lib.Math.min.name, Cond.static Lib.Math.min.name, Cond.initialized "java/lang/Math", Cond.code Lib.Math.min.name Lib.Math.min.code 2 (some .int), Cond.methodLink RX3 45 yX1_weightOf, Cond.static yX1_weightOf, Cond.initialized RX1, Cond.code yX1_weightOf cX1_weightOf 3 (some .int), Cond.methodLink RX3 50 yX1_without, Cond.static yX1_without, Cond.code yX1_without cX1_without 3 (some .int), Cond.methodLink RX1 36 yX1_weightOf, Cond.methodLink RX3 54 yX1_formOf, Cond.instanceMethod yX1_formOf, Cond.selects RX1 yX1_formOf yX1_formOf, Cond.code yX1_formOf cX1_formOf 2 (some .int), Cond.fieldLink RX1 14 "Nudgelane$Programs" "forms" "LNudgelane$Row;", Cond.methodLink RX1 28 yX2_get, Cond.instanceMethod yX2_get, Cond.selects RX2 yX2_get yX2_get, Cond.initialized RX2, Cond.code yX2_get cX2_get 2 (some .int)]
def wsX3_leastBehind_r2 : List Cond := [Cond.fieldLink RX2 7 "Nudgelane$Row" "cells" "[I", Cond.methodLink RX2 13 yX2_holds, Cond.instanceMethod yX2_holds, Cond.selects RX2 yX2_holds yX2_holds, Cond.code yX2_holds cX2_holds 2 (some .boolean), Cond.methodLink RX3 23 yX2_get]
def wsX3_leastBehind : List Cond := .code yX3_leastBehind cX3_leastBehind 8 (some .int) :: ((wsX3_leastBehind_r1 ++ wsX3_leastBehind_r2) ++ wsX30 ++ wsX10 ++ wsX20)
def wsX3_settleOnce_r1 : List Cond := [Cond.fieldLink RX3 14 "Nudgelane$Ways" "known" "LNudgelane$Row;", Cond.methodLink RX3 61 yX1_isForm, Cond.instanceMethod yX1_isForm, Cond.selects RX1 yX1_isForm yX1_isForm, Cond.initialized RX1, Cond.code yX1_isForm cX1_isForm 2 (some .boolean), Cond.fieldLink RX1 14 "Nudgelane$Programs" "forms" "LNudgelane$Row;", Cond.methodLink RX1 28 yX2_get, Cond.instanceMethod yX2_get, Cond.selects RX2 yX2_get yX2_get, Cond.initialized RX2, Cond.code yX2_get cX2_get 2 (some .int), Cond.fieldLink RX2 7 "Nudgelane$Row" "cells" "[I", Cond.methodLink RX2 13 yX2_holds, Cond.instanceMethod yX2_holds, Cond.selects RX2 yX2_holds yX2_holds, Cond.code yX2_holds cX2_holds 2 (some .boolean), Cond.methodLink RX3 65 yX3_leastBehind, Cond.instanceMethod yX3_leastBehind, Cond.selects RX3 yX3_leastBehind yX3_leastBehind, Cond.initialized RX3, Cond.code yX3_leastBehind cX3_leastBehind 8 (some .int), Cond.constant RX3 27 (1000000), Cond.methodLink RX3 69 Lib.Math.min.name]
def wsX3_settleOnce_r2 : List Cond := [Cond.static Lib.Math.min.name, Cond.initialized "java/lang/Math", Cond.code Lib.Math.min.name Lib.Math.min.code 2 (some .int), Cond.methodLink RX3 45 yX1_weightOf, Cond.static yX1_weightOf, Cond.code yX1_weightOf cX1_weightOf 3 (some .int), Cond.methodLink RX3 50 yX1_without, Cond.static yX1_without, Cond.code yX1_without cX1_without 3 (some .int), Cond.methodLink RX1 36 yX1_weightOf, Cond.methodLink RX3 54 yX1_formOf, Cond.instanceMethod yX1_formOf, Cond.selects RX1 yX1_formOf yX1_formOf, Cond.code yX1_formOf cX1_formOf 2 (some .int), Cond.methodLink RX3 23 yX2_get, Cond.methodLink RX3 31 yX2_set, Cond.instanceMethod yX2_set, Cond.selects RX2 yX2_set yX2_set, Cond.code yX2_set cX2_set 3 none]
def wsX3_settleOnce : List Cond := .code yX3_settleOnce cX3_settleOnce 5 (some .boolean) :: ((wsX3_settleOnce_r1 ++ wsX3_settleOnce_r2) ++ wsX30 ++ wsX10 ++ wsX20)
def wsX3_settle_r1 : List Cond := [Cond.methodLink RX3 57 yX3_settleOnce, Cond.instanceMethod yX3_settleOnce, Cond.selects RX3 yX3_settleOnce yX3_settleOnce, Cond.initialized RX3, Cond.code yX3_settleOnce cX3_settleOnce 5 (some .boolean), Cond.fieldLink RX3 14 "Nudgelane$Ways" "known" "LNudgelane$Row;", Cond.methodLink RX3 61 yX1_isForm, Cond.instanceMethod yX1_isForm, Cond.selects RX1 yX1_isForm yX1_isForm, Cond.initialized RX1, Cond.code yX1_isForm cX1_isForm 2 (some .boolean), Cond.fieldLink RX1 14 "Nudgelane$Programs" "forms" "LNudgelane$Row;", Cond.methodLink RX1 28 yX2_get, Cond.instanceMethod yX2_get, Cond.selects RX2 yX2_get yX2_get, Cond.initialized RX2, Cond.code yX2_get cX2_get 2 (some .int), Cond.fieldLink RX2 7 "Nudgelane$Row" "cells" "[I", Cond.methodLink RX2 13 yX2_holds, Cond.instanceMethod yX2_holds, Cond.selects RX2 yX2_holds yX2_holds, Cond.code yX2_holds cX2_holds 2 (some .boolean), Cond.methodLink RX3 65 yX3_leastBehind, Cond.instanceMethod yX3_leastBehind]
def wsX3_settle_r2 : List Cond := [Cond.selects RX3 yX3_leastBehind yX3_leastBehind, Cond.code yX3_leastBehind cX3_leastBehind 8 (some .int), Cond.constant RX3 27 (1000000), Cond.methodLink RX3 69 Lib.Math.min.name, Cond.static Lib.Math.min.name, Cond.initialized "java/lang/Math", Cond.code Lib.Math.min.name Lib.Math.min.code 2 (some .int), Cond.methodLink RX3 45 yX1_weightOf, Cond.static yX1_weightOf, Cond.code yX1_weightOf cX1_weightOf 3 (some .int), Cond.methodLink RX3 50 yX1_without, Cond.static yX1_without, Cond.code yX1_without cX1_without 3 (some .int), Cond.methodLink RX1 36 yX1_weightOf, Cond.methodLink RX3 54 yX1_formOf, Cond.instanceMethod yX1_formOf, Cond.selects RX1 yX1_formOf yX1_formOf, Cond.code yX1_formOf cX1_formOf 2 (some .int), Cond.methodLink RX3 23 yX2_get, Cond.methodLink RX3 31 yX2_set, Cond.instanceMethod yX2_set, Cond.selects RX2 yX2_set yX2_set, Cond.code yX2_set cX2_set 3 none]
def wsX3_settle : List Cond := .code yX3_settle cX3_settle 4 none :: ((wsX3_settle_r1 ++ wsX3_settle_r2) ++ wsX30 ++ wsX10 ++ wsX20)
def wsX4_init : List Cond := .code yX4_init cX4_init 1 none :: ([.methodLink RX4 3 objectInit, .instanceMethod objectInit, .code objectInit ⟨#[0xb1]⟩ 1 none, .classLink RX4 9 RX2, .instantiable RX2 1, .initialized RX2, .fieldLink RX4 14 "Nudgelane$Worths" "worthNow" "LNudgelane$Row;", .fieldLink RX4 20 "Nudgelane$Worths" "sums" "LNudgelane$Row;", .methodLink RX4 11 yX2_init, .instanceMethod yX2_init, .code yX2_init cX2_init 2 none, .methodLink RX2 1 objectInit, .arrayClass .int, .fieldLink RX2 7 "Nudgelane$Row" "cells" "[I"] ++ wsX20 ++ wsX40)
def wsX4_of : List Cond := .code yX4_of cX4_of 2 (some .int) :: ([.fieldLink RX4 14 "Nudgelane$Worths" "worthNow" "LNudgelane$Row;", .methodLink RX4 23 yX2_get, .instanceMethod yX2_get, .selects RX2 yX2_get yX2_get, .initialized RX2, .code yX2_get cX2_get 2 (some .int), .fieldLink RX2 7 "Nudgelane$Row" "cells" "[I", .methodLink RX2 13 yX2_holds, .instanceMethod yX2_holds, .selects RX2 yX2_holds yX2_holds, .code yX2_holds cX2_holds 2 (some .boolean)] ++ wsX40 ++ wsX20)
def wsX4_addUp_r1 : List Cond := [Cond.fieldLink RX4 20 "Nudgelane$Worths" "sums" "LNudgelane$Row;", Cond.constant RX4 49 (1000000), Cond.fieldLink RX4 14 "Nudgelane$Worths" "worthNow" "LNudgelane$Row;", Cond.methodLink RX4 37 yX0_metCount, Cond.instanceMethod yX0_metCount, Cond.selects RX0 yX0_metCount yX0_metCount, Cond.initialized RX0, Cond.code yX0_metCount cX0_metCount 1 (some .int), Cond.fieldLink RX0 59 "Nudgelane$Attempts" "metTotal" "I", Cond.methodLink RX4 43 yX0_metForm, Cond.instanceMethod yX0_metForm, Cond.selects RX0 yX0_metForm yX0_metForm, Cond.code yX0_metForm cX0_metForm 2 (some .int), Cond.fieldLink RX0 32 "Nudgelane$Attempts" "metForms" "LNudgelane$Row;", Cond.methodLink RX0 55 yX2_get, Cond.instanceMethod yX2_get, Cond.selects RX2 yX2_get yX2_get, Cond.initialized RX2, Cond.code yX2_get cX2_get 2 (some .int), Cond.fieldLink RX2 7 "Nudgelane$Row" "cells" "[I", Cond.methodLink RX2 13 yX2_holds, Cond.instanceMethod yX2_holds, Cond.selects RX2 yX2_holds yX2_holds, Cond.code yX2_holds cX2_holds 2 (some .boolean)]
def wsX4_addUp_r2 : List Cond := [Cond.methodLink RX4 46 yX0_rightEndings, Cond.instanceMethod yX0_rightEndings, Cond.selects RX0 yX0_rightEndings yX0_rightEndings, Cond.code yX0_rightEndings cX0_rightEndings 2 (some .int), Cond.fieldLink RX0 26 "Nudgelane$Attempts" "rightEnds" "LNudgelane$Row;", Cond.methodLink RX4 50 yX2_set, Cond.instanceMethod yX2_set, Cond.selects RX2 yX2_set yX2_set, Cond.code yX2_set cX2_set 3 none, Cond.methodLink RX4 54 yX0_passedCount, Cond.instanceMethod yX0_passedCount, Cond.selects RX0 yX0_passedCount yX0_passedCount, Cond.code yX0_passedCount cX0_passedCount 1 (some .int), Cond.fieldLink RX0 42 "Nudgelane$Attempts" "passed" "I", Cond.methodLink RX4 57 yX0_fromOf, Cond.instanceMethod yX0_fromOf, Cond.selects RX0 yX0_fromOf yX0_fromOf, Cond.code yX0_fromOf cX0_fromOf 2 (some .int), Cond.fieldLink RX0 14 "Nudgelane$Attempts" "froms" "LNudgelane$Row;", Cond.methodLink RX4 60 yX0_toOf, Cond.instanceMethod yX0_toOf, Cond.selects RX0 yX0_toOf yX0_toOf, Cond.code yX0_toOf cX0_toOf 2 (some .int), Cond.fieldLink RX0 20 "Nudgelane$Attempts" "tos" "LNudgelane$Row;"]
def wsX4_addUp_r3 : List Cond := [Cond.methodLink RX4 23 yX2_get, Cond.methodLink RX4 63 yX2_add, Cond.instanceMethod yX2_add, Cond.selects RX2 yX2_add yX2_add, Cond.code yX2_add cX2_add 3 none, Cond.methodLink RX2 17 yX2_get, Cond.methodLink RX2 21 yX2_set]
def wsX4_addUp : List Cond := .code yX4_addUp cX4_addUp 4 none :: ((wsX4_addUp_r1 ++ (wsX4_addUp_r2 ++ wsX4_addUp_r3)) ++ wsX40 ++ wsX00 ++ wsX20)
def wsX4_share_r1 : List Cond := [Cond.fieldLink RX4 14 "Nudgelane$Worths" "worthNow" "LNudgelane$Row;", Cond.fieldLink RX4 20 "Nudgelane$Worths" "sums" "LNudgelane$Row;", Cond.methodLink RX4 37 yX0_metCount, Cond.instanceMethod yX0_metCount, Cond.selects RX0 yX0_metCount yX0_metCount, Cond.initialized RX0, Cond.code yX0_metCount cX0_metCount 1 (some .int), Cond.fieldLink RX0 59 "Nudgelane$Attempts" "metTotal" "I", Cond.methodLink RX4 43 yX0_metForm, Cond.instanceMethod yX0_metForm, Cond.selects RX0 yX0_metForm yX0_metForm, Cond.code yX0_metForm cX0_metForm 2 (some .int), Cond.fieldLink RX0 32 "Nudgelane$Attempts" "metForms" "LNudgelane$Row;", Cond.methodLink RX0 55 yX2_get, Cond.instanceMethod yX2_get, Cond.selects RX2 yX2_get yX2_get, Cond.initialized RX2, Cond.code yX2_get cX2_get 2 (some .int), Cond.fieldLink RX2 7 "Nudgelane$Row" "cells" "[I", Cond.methodLink RX2 13 yX2_holds, Cond.instanceMethod yX2_holds, Cond.selects RX2 yX2_holds yX2_holds, Cond.code yX2_holds cX2_holds 2 (some .boolean), Cond.methodLink RX4 66 yX0_leavingsOf]
def wsX4_share_r2 : List Cond := [Cond.instanceMethod yX0_leavingsOf, Cond.selects RX0 yX0_leavingsOf yX0_leavingsOf, Cond.code yX0_leavingsOf cX0_leavingsOf 2 (some .int), Cond.fieldLink RX0 23 "Nudgelane$Attempts" "leavings" "LNudgelane$Row;", Cond.methodLink RX4 23 yX2_get, Cond.methodLink RX4 50 yX2_set, Cond.instanceMethod yX2_set, Cond.selects RX2 yX2_set yX2_set, Cond.code yX2_set cX2_set 3 none]
def wsX4_share : List Cond := .code yX4_share cX4_share 5 none :: ((wsX4_share_r1 ++ wsX4_share_r2) ++ wsX40 ++ wsX00 ++ wsX20)
def wsX4_find_r1 : List Cond := [Cond.fieldLink RX4 14 "Nudgelane$Worths" "worthNow" "LNudgelane$Row;", Cond.methodLink RX4 27 yX2_fill, Cond.instanceMethod yX2_fill, Cond.selects RX2 yX2_fill yX2_fill, Cond.initialized RX2, Cond.code yX2_fill cX2_fill 2 none, Cond.fieldLink RX2 7 "Nudgelane$Row" "cells" "[I", Cond.methodLink RX2 25 yJ7_fill_53178, Cond.static yJ7_fill_53178, Cond.initialized RJ7, Cond.code yJ7_fill_53178 cJ7_fill_53178 4 none, Cond.methodLink RX4 30 yX4_addUp, Cond.instanceMethod yX4_addUp, Cond.selects RX4 yX4_addUp yX4_addUp, Cond.initialized RX4, Cond.code yX4_addUp cX4_addUp 4 none, Cond.fieldLink RX4 20 "Nudgelane$Worths" "sums" "LNudgelane$Row;", Cond.constant RX4 49 (1000000), Cond.methodLink RX4 37 yX0_metCount, Cond.instanceMethod yX0_metCount, Cond.selects RX0 yX0_metCount yX0_metCount, Cond.initialized RX0, Cond.code yX0_metCount cX0_metCount 1 (some .int), Cond.fieldLink RX0 59 "Nudgelane$Attempts" "metTotal" "I"]
def wsX4_find_r2 : List Cond := [Cond.methodLink RX4 43 yX0_metForm, Cond.instanceMethod yX0_metForm, Cond.selects RX0 yX0_metForm yX0_metForm, Cond.code yX0_metForm cX0_metForm 2 (some .int), Cond.fieldLink RX0 32 "Nudgelane$Attempts" "metForms" "LNudgelane$Row;", Cond.methodLink RX0 55 yX2_get, Cond.instanceMethod yX2_get, Cond.selects RX2 yX2_get yX2_get, Cond.code yX2_get cX2_get 2 (some .int), Cond.methodLink RX2 13 yX2_holds, Cond.instanceMethod yX2_holds, Cond.selects RX2 yX2_holds yX2_holds, Cond.code yX2_holds cX2_holds 2 (some .boolean), Cond.methodLink RX4 46 yX0_rightEndings, Cond.instanceMethod yX0_rightEndings, Cond.selects RX0 yX0_rightEndings yX0_rightEndings, Cond.code yX0_rightEndings cX0_rightEndings 2 (some .int), Cond.fieldLink RX0 26 "Nudgelane$Attempts" "rightEnds" "LNudgelane$Row;", Cond.methodLink RX4 50 yX2_set, Cond.instanceMethod yX2_set, Cond.selects RX2 yX2_set yX2_set, Cond.code yX2_set cX2_set 3 none, Cond.methodLink RX4 54 yX0_passedCount, Cond.instanceMethod yX0_passedCount]
def wsX4_find_r3 : List Cond := [Cond.selects RX0 yX0_passedCount yX0_passedCount, Cond.code yX0_passedCount cX0_passedCount 1 (some .int), Cond.fieldLink RX0 42 "Nudgelane$Attempts" "passed" "I", Cond.methodLink RX4 57 yX0_fromOf, Cond.instanceMethod yX0_fromOf, Cond.selects RX0 yX0_fromOf yX0_fromOf, Cond.code yX0_fromOf cX0_fromOf 2 (some .int), Cond.fieldLink RX0 14 "Nudgelane$Attempts" "froms" "LNudgelane$Row;", Cond.methodLink RX4 60 yX0_toOf, Cond.instanceMethod yX0_toOf, Cond.selects RX0 yX0_toOf yX0_toOf, Cond.code yX0_toOf cX0_toOf 2 (some .int), Cond.fieldLink RX0 20 "Nudgelane$Attempts" "tos" "LNudgelane$Row;", Cond.methodLink RX4 23 yX2_get, Cond.methodLink RX4 63 yX2_add, Cond.instanceMethod yX2_add, Cond.selects RX2 yX2_add yX2_add, Cond.code yX2_add cX2_add 3 none, Cond.methodLink RX2 17 yX2_get, Cond.methodLink RX2 21 yX2_set, Cond.methodLink RX4 34 yX4_share, Cond.instanceMethod yX4_share, Cond.selects RX4 yX4_share yX4_share, Cond.code yX4_share cX4_share 5 none]
def wsX4_find_r4 : List Cond := [Cond.methodLink RX4 66 yX0_leavingsOf, Cond.instanceMethod yX0_leavingsOf, Cond.selects RX0 yX0_leavingsOf yX0_leavingsOf, Cond.code yX0_leavingsOf cX0_leavingsOf 2 (some .int), Cond.fieldLink RX0 23 "Nudgelane$Attempts" "leavings" "LNudgelane$Row;"]
def wsX4_find : List Cond := .code yX4_find cX4_find 3 none :: ((wsX4_find_r1 ++ (wsX4_find_r2 ++ (wsX4_find_r3 ++ wsX4_find_r4))) ++ wsX40 ++ wsX20 ++ wsX00)
def wsX5_init_r1 : List Cond := [Cond.methodLink RX5 1 objectInit, Cond.instanceMethod objectInit, Cond.code objectInit ⟨#[0xb1]⟩ 1 none, Cond.classLink RX5 7 RX1, Cond.instantiable RX1 1, Cond.initialized RX1, Cond.fieldLink RX5 10 "Nudgelane" "programs" "LNudgelane$Programs;", Cond.classLink RX5 16 RX3, Cond.instantiable RX3 2, Cond.initialized RX3, Cond.fieldLink RX5 19 "Nudgelane" "ways" "LNudgelane$Ways;", Cond.classLink RX5 23 RX0, Cond.instantiable RX0 11, Cond.initialized RX0, Cond.fieldLink RX5 26 "Nudgelane" "attempts" "LNudgelane$Attempts;", Cond.classLink RX5 30 RX4, Cond.instantiable RX4 2, Cond.initialized RX4, Cond.fieldLink RX5 33 "Nudgelane" "worths" "LNudgelane$Worths;", Cond.methodLink RX5 9 yX1_init, Cond.instanceMethod yX1_init, Cond.code yX1_init cX1_init 3 none, Cond.methodLink RX1 3 objectInit, Cond.classLink RX1 9 RX2]
def wsX5_init_r2 : List Cond := [Cond.instantiable RX2 1, Cond.initialized RX2, Cond.fieldLink RX1 14 "Nudgelane$Programs" "forms" "LNudgelane$Row;", Cond.methodLink RX1 11 yX2_init, Cond.instanceMethod yX2_init, Cond.code yX2_init cX2_init 2 none, Cond.methodLink RX2 1 objectInit, Cond.arrayClass .int, Cond.fieldLink RX2 7 "Nudgelane$Row" "cells" "[I", Cond.methodLink RX1 20 yX1_reduce, Cond.static yX1_reduce, Cond.code yX1_reduce cX1_reduce 4 (some .int), Cond.methodLink RX1 42 yX1_unpack, Cond.static yX1_unpack, Cond.code yX1_unpack cX1_unpack 4 none, Cond.methodLink RX1 24 yX2_set, Cond.instanceMethod yX2_set, Cond.selects RX2 yX2_set yX2_set, Cond.code yX2_set cX2_set 3 none, Cond.methodLink RX2 13 yX2_holds, Cond.instanceMethod yX2_holds, Cond.selects RX2 yX2_holds yX2_holds, Cond.code yX2_holds cX2_holds 2 (some .boolean), Cond.methodLink RX1 46 yX1_rewriteOnce]
def wsX5_init_r3 : List Cond := [Cond.static yX1_rewriteOnce, Cond.code yX1_rewriteOnce cX1_rewriteOnce 3 (some .boolean), Cond.methodLink RX1 28 yX2_get, Cond.instanceMethod yX2_get, Cond.selects RX2 yX2_get yX2_get, Cond.code yX2_get cX2_get 2 (some .int), Cond.methodLink RX1 54 yX1_isUsable, Cond.static yX1_isUsable, Cond.code yX1_isUsable cX1_isUsable 3 (some .boolean), Cond.methodLink RX1 58 yX1_use, Cond.static yX1_use, Cond.code yX1_use cX1_use 5 none, Cond.methodLink RX1 50 yX1_pack, Cond.static yX1_pack, Cond.code yX1_pack cX1_pack 3 (some .int), Cond.methodLink RX5 18 yX3_init, Cond.instanceMethod yX3_init, Cond.code yX3_init cX3_init 1 none, Cond.methodLink RX3 3 objectInit, Cond.classLink RX3 9 RX2, Cond.fieldLink RX3 14 "Nudgelane$Ways" "known" "LNudgelane$Row;", Cond.fieldLink RX3 20 "Nudgelane$Ways" "queue" "LNudgelane$Row;", Cond.methodLink RX3 11 yX2_init, Cond.methodLink RX5 25 yX0_init]
def wsX5_init_r4 : List Cond := [Cond.instanceMethod yX0_init, Cond.code yX0_init cX0_init 1 none, Cond.methodLink RX0 3 objectInit, Cond.classLink RX0 9 RX2, Cond.fieldLink RX0 14 "Nudgelane$Attempts" "froms" "LNudgelane$Row;", Cond.fieldLink RX0 20 "Nudgelane$Attempts" "tos" "LNudgelane$Row;", Cond.fieldLink RX0 23 "Nudgelane$Attempts" "leavings" "LNudgelane$Row;", Cond.fieldLink RX0 26 "Nudgelane$Attempts" "rightEnds" "LNudgelane$Row;", Cond.fieldLink RX0 29 "Nudgelane$Attempts" "metMarks" "LNudgelane$Row;", Cond.fieldLink RX0 32 "Nudgelane$Attempts" "metForms" "LNudgelane$Row;", Cond.fieldLink RX0 35 "Nudgelane$Attempts" "here" "I", Cond.methodLink RX0 11 yX2_init, Cond.methodLink RX5 32 yX4_init, Cond.instanceMethod yX4_init, Cond.code yX4_init cX4_init 1 none, Cond.methodLink RX4 3 objectInit, Cond.classLink RX4 9 RX2, Cond.fieldLink RX4 14 "Nudgelane$Worths" "worthNow" "LNudgelane$Row;", Cond.fieldLink RX4 20 "Nudgelane$Worths" "sums" "LNudgelane$Row;", Cond.methodLink RX4 11 yX2_init]
def wsX5_init : List Cond := .code yX5_init cX5_init 1 none :: ((wsX5_init_r1 ++ (wsX5_init_r2 ++ (wsX5_init_r3 ++ wsX5_init_r4))) ++ wsX10 ++ wsX50 ++ wsX30 ++ wsX00 ++ wsX40 ++ wsX20)
def wsX5_checkedForm : List Cond := .code yX5_checkedForm cX5_checkedForm 2 (some .int) :: ([.classLink RX5 41 "java/lang/IndexOutOfBoundsException", .initialized "java/lang/IndexOutOfBoundsException", .fieldLink RX5 10 "Nudgelane" "programs" "LNudgelane$Programs;", .methodLink RX5 152 yX1_formOf, .instanceMethod yX1_formOf, .selects RX1 yX1_formOf yX1_formOf, .initialized RX1, .code yX1_formOf cX1_formOf 2 (some .int), .fieldLink RX1 14 "Nudgelane$Programs" "forms" "LNudgelane$Row;", .methodLink RX1 28 yX2_get, .instanceMethod yX2_get, .selects RX2 yX2_get yX2_get, .initialized RX2, .code yX2_get cX2_get 2 (some .int), .fieldLink RX2 7 "Nudgelane$Row" "cells" "[I", .methodLink RX2 13 yX2_holds, .instanceMethod yX2_holds, .selects RX2 yX2_holds yX2_holds, .code yX2_holds cX2_holds 2 (some .boolean)] ++ wsX50 ++ wsX10 ++ wsX20 ++ (vx_atS RX5 45 "java/lang/IndexOutOfBoundsException" ["java/lang/RuntimeException", "java/lang/Exception"]).filter goodWord)
def wsX5_form : List Cond := .code yX5_form cX5_form 2 (some .int) :: ([.methodLink RX5 37 yX5_checkedForm, .instanceMethod yX5_checkedForm, .selects RX5 yX5_checkedForm yX5_checkedForm, .initialized RX5, .code yX5_checkedForm cX5_checkedForm 2 (some .int), .classLink RX5 41 "java/lang/IndexOutOfBoundsException", .initialized "java/lang/IndexOutOfBoundsException", .fieldLink RX5 10 "Nudgelane" "programs" "LNudgelane$Programs;", .methodLink RX5 152 yX1_formOf, .instanceMethod yX1_formOf, .selects RX1 yX1_formOf yX1_formOf, .initialized RX1, .code yX1_formOf cX1_formOf 2 (some .int), .fieldLink RX1 14 "Nudgelane$Programs" "forms" "LNudgelane$Row;", .methodLink RX1 28 yX2_get, .instanceMethod yX2_get, .selects RX2 yX2_get yX2_get, .initialized RX2, .code yX2_get cX2_get 2 (some .int), .fieldLink RX2 7 "Nudgelane$Row" "cells" "[I", .methodLink RX2 13 yX2_holds, .instanceMethod yX2_holds, .selects RX2 yX2_holds yX2_holds, .code yX2_holds cX2_holds 2 (some .boolean)] ++ wsX50 ++ wsX10 ++ wsX20 ++ (vx_atS RX5 45 "java/lang/IndexOutOfBoundsException" ["java/lang/RuntimeException", "java/lang/Exception"]).filter goodWord)
def wsX5_edit_r1 : List Cond := [Cond.classLink RX5 41 "java/lang/IndexOutOfBoundsException", Cond.initialized "java/lang/IndexOutOfBoundsException", Cond.classLink RX5 48 "java/lang/IllegalArgumentException", Cond.initialized "java/lang/IllegalArgumentException", Cond.fieldLink RX5 10 "Nudgelane" "programs" "LNudgelane$Programs;", Cond.methodLink RX5 37 yX5_checkedForm, Cond.instanceMethod yX5_checkedForm, Cond.selects RX5 yX5_checkedForm yX5_checkedForm, Cond.initialized RX5, Cond.code yX5_checkedForm cX5_checkedForm 2 (some .int), Cond.methodLink RX5 152 yX1_formOf, Cond.instanceMethod yX1_formOf, Cond.selects RX1 yX1_formOf yX1_formOf, Cond.initialized RX1, Cond.code yX1_formOf cX1_formOf 2 (some .int), Cond.fieldLink RX1 14 "Nudgelane$Programs" "forms" "LNudgelane$Row;", Cond.methodLink RX1 28 yX2_get, Cond.instanceMethod yX2_get, Cond.selects RX2 yX2_get yX2_get, Cond.initialized RX2, Cond.code yX2_get cX2_get 2 (some .int), Cond.fieldLink RX2 7 "Nudgelane$Row" "cells" "[I", Cond.methodLink RX2 13 yX2_holds, Cond.instanceMethod yX2_holds]
def wsX5_edit_r2 : List Cond := [Cond.selects RX2 yX2_holds yX2_holds, Cond.code yX2_holds cX2_holds 2 (some .boolean), Cond.methodLink RX5 53 yX1_behind, Cond.instanceMethod yX1_behind, Cond.selects RX1 yX1_behind yX1_behind, Cond.code yX1_behind cX1_behind 4 (some .int), Cond.methodLink RX1 32 yX1_without, Cond.static yX1_without, Cond.code yX1_without cX1_without 3 (some .int), Cond.methodLink RX1 36 yX1_weightOf, Cond.static yX1_weightOf, Cond.code yX1_weightOf cX1_weightOf 3 (some .int), Cond.methodLink RX1 39 yX1_formOf]
def wsX5_edit : List Cond := .code yX5_edit cX5_edit 5 (some .int) :: ((wsX5_edit_r1 ++ wsX5_edit_r2) ++ wsX50 ++ wsX10 ++ wsX20 ++ (vx_atS RX5 45 "java/lang/IndexOutOfBoundsException" ["java/lang/RuntimeException", "java/lang/Exception"]).filter goodWord ++ (vx_atS RX5 52 "java/lang/IllegalArgumentException" ["java/lang/RuntimeException", "java/lang/Exception"]).filter goodWord)
def wsX5_neighbours_r1 : List Cond := [Cond.fieldLink RX5 19 "Nudgelane" "ways" "LNudgelane$Ways;", Cond.fieldLink RX5 10 "Nudgelane" "programs" "LNudgelane$Programs;", Cond.methodLink RX5 37 yX5_checkedForm, Cond.instanceMethod yX5_checkedForm, Cond.selects RX5 yX5_checkedForm yX5_checkedForm, Cond.initialized RX5, Cond.code yX5_checkedForm cX5_checkedForm 2 (some .int), Cond.classLink RX5 41 "java/lang/IndexOutOfBoundsException", Cond.initialized "java/lang/IndexOutOfBoundsException", Cond.methodLink RX5 152 yX1_formOf, Cond.instanceMethod yX1_formOf, Cond.selects RX1 yX1_formOf yX1_formOf, Cond.initialized RX1, Cond.code yX1_formOf cX1_formOf 2 (some .int), Cond.fieldLink RX1 14 "Nudgelane$Programs" "forms" "LNudgelane$Row;", Cond.methodLink RX1 28 yX2_get, Cond.instanceMethod yX2_get, Cond.selects RX2 yX2_get yX2_get, Cond.initialized RX2, Cond.code yX2_get cX2_get 2 (some .int), Cond.fieldLink RX2 7 "Nudgelane$Row" "cells" "[I", Cond.methodLink RX2 13 yX2_holds, Cond.instanceMethod yX2_holds, Cond.selects RX2 yX2_holds yX2_holds]
def wsX5_neighbours_r2 : List Cond := [Cond.code yX2_holds cX2_holds 2 (some .boolean), Cond.methodLink RX5 57 yX3_countBehindOneEdit, Cond.instanceMethod yX3_countBehindOneEdit, Cond.selects RX3 yX3_countBehindOneEdit yX3_countBehindOneEdit, Cond.initialized RX3, Cond.code yX3_countBehindOneEdit cX3_countBehindOneEdit 3 (some .int), Cond.methodLink RX3 35 yX3_forget, Cond.instanceMethod yX3_forget, Cond.selects RX3 yX3_forget yX3_forget, Cond.code yX3_forget cX3_forget 1 none, Cond.fieldLink RX3 14 "Nudgelane$Ways" "known" "LNudgelane$Row;", Cond.constant RX3 27 (1000000), Cond.methodLink RX3 28 yX2_fill, Cond.instanceMethod yX2_fill, Cond.selects RX2 yX2_fill yX2_fill, Cond.code yX2_fill cX2_fill 2 none, Cond.methodLink RX2 25 yJ7_fill_53178, Cond.static yJ7_fill_53178, Cond.initialized RJ7, Cond.code yJ7_fill_53178 cJ7_fill_53178 4 none, Cond.methodLink RX3 38 yX3_mark, Cond.instanceMethod yX3_mark, Cond.selects RX3 yX3_mark yX3_mark, Cond.code yX3_mark cX3_mark 2 none]
def wsX5_neighbours_r3 : List Cond := [Cond.methodLink RX3 31 yX2_set, Cond.instanceMethod yX2_set, Cond.selects RX2 yX2_set yX2_set, Cond.code yX2_set cX2_set 3 none, Cond.methodLink RX3 41 yX3_queueNewBehind, Cond.instanceMethod yX3_queueNewBehind, Cond.selects RX3 yX3_queueNewBehind yX3_queueNewBehind, Cond.code yX3_queueNewBehind cX3_queueNewBehind 10 (some .int), Cond.fieldLink RX3 20 "Nudgelane$Ways" "queue" "LNudgelane$Row;", Cond.methodLink RX3 45 yX1_weightOf, Cond.static yX1_weightOf, Cond.code yX1_weightOf cX1_weightOf 3 (some .int), Cond.methodLink RX3 50 yX1_without, Cond.static yX1_without, Cond.code yX1_without cX1_without 3 (some .int), Cond.methodLink RX1 36 yX1_weightOf, Cond.methodLink RX3 54 yX1_formOf, Cond.methodLink RX3 23 yX2_get]
def wsX5_neighbours : List Cond := .code yX5_neighbours cX5_neighbours 2 (some .int) :: ((wsX5_neighbours_r1 ++ (wsX5_neighbours_r2 ++ wsX5_neighbours_r3)) ++ wsX50 ++ wsX10 ++ wsX20 ++ wsX30 ++ (vx_atS RX5 45 "java/lang/IndexOutOfBoundsException" ["java/lang/RuntimeException", "java/lang/Exception"]).filter goodWord)
def wsX5_distance_r1 : List Cond := [Cond.fieldLink RX5 19 "Nudgelane" "ways" "LNudgelane$Ways;", Cond.fieldLink RX5 10 "Nudgelane" "programs" "LNudgelane$Programs;", Cond.methodLink RX5 37 yX5_checkedForm, Cond.instanceMethod yX5_checkedForm, Cond.selects RX5 yX5_checkedForm yX5_checkedForm, Cond.initialized RX5, Cond.code yX5_checkedForm cX5_checkedForm 2 (some .int), Cond.classLink RX5 41 "java/lang/IndexOutOfBoundsException", Cond.initialized "java/lang/IndexOutOfBoundsException", Cond.methodLink RX5 152 yX1_formOf, Cond.instanceMethod yX1_formOf, Cond.selects RX1 yX1_formOf yX1_formOf, Cond.initialized RX1, Cond.code yX1_formOf cX1_formOf 2 (some .int), Cond.fieldLink RX1 14 "Nudgelane$Programs" "forms" "LNudgelane$Row;", Cond.methodLink RX1 28 yX2_get, Cond.instanceMethod yX2_get, Cond.selects RX2 yX2_get yX2_get, Cond.initialized RX2, Cond.code yX2_get cX2_get 2 (some .int), Cond.fieldLink RX2 7 "Nudgelane$Row" "cells" "[I", Cond.methodLink RX2 13 yX2_holds, Cond.instanceMethod yX2_holds, Cond.selects RX2 yX2_holds yX2_holds]
def wsX5_distance_r2 : List Cond := [Cond.code yX2_holds cX2_holds 2 (some .boolean), Cond.methodLink RX5 61 yX3_goOutward, Cond.instanceMethod yX3_goOutward, Cond.selects RX3 yX3_goOutward yX3_goOutward, Cond.initialized RX3, Cond.code yX3_goOutward cX3_goOutward 5 none, Cond.fieldLink RX3 20 "Nudgelane$Ways" "queue" "LNudgelane$Row;", Cond.methodLink RX3 35 yX3_forget, Cond.instanceMethod yX3_forget, Cond.selects RX3 yX3_forget yX3_forget, Cond.code yX3_forget cX3_forget 1 none, Cond.fieldLink RX3 14 "Nudgelane$Ways" "known" "LNudgelane$Row;", Cond.constant RX3 27 (1000000), Cond.methodLink RX3 28 yX2_fill, Cond.instanceMethod yX2_fill, Cond.selects RX2 yX2_fill yX2_fill, Cond.code yX2_fill cX2_fill 2 none, Cond.methodLink RX2 25 yJ7_fill_53178, Cond.static yJ7_fill_53178, Cond.initialized RJ7, Cond.code yJ7_fill_53178 cJ7_fill_53178 4 none, Cond.methodLink RX3 38 yX3_mark, Cond.instanceMethod yX3_mark, Cond.selects RX3 yX3_mark yX3_mark]
def wsX5_distance_r3 : List Cond := [Cond.code yX3_mark cX3_mark 2 none, Cond.methodLink RX3 31 yX2_set, Cond.instanceMethod yX2_set, Cond.selects RX2 yX2_set yX2_set, Cond.code yX2_set cX2_set 3 none, Cond.methodLink RX3 23 yX2_get, Cond.methodLink RX3 41 yX3_queueNewBehind, Cond.instanceMethod yX3_queueNewBehind, Cond.selects RX3 yX3_queueNewBehind yX3_queueNewBehind, Cond.code yX3_queueNewBehind cX3_queueNewBehind 10 (some .int), Cond.methodLink RX3 45 yX1_weightOf, Cond.static yX1_weightOf, Cond.code yX1_weightOf cX1_weightOf 3 (some .int), Cond.methodLink RX3 50 yX1_without, Cond.static yX1_without, Cond.code yX1_without cX1_without 3 (some .int), Cond.methodLink RX1 36 yX1_weightOf, Cond.methodLink RX3 54 yX1_formOf, Cond.methodLink RX5 65 yX3_editsKnown, Cond.instanceMethod yX3_editsKnown, Cond.selects RX3 yX3_editsKnown yX3_editsKnown, Cond.code yX3_editsKnown cX3_editsKnown 2 (some .int)]
def wsX5_distance : List Cond := .code yX5_distance cX5_distance 5 (some .int) :: ((wsX5_distance_r1 ++ (wsX5_distance_r2 ++ wsX5_distance_r3)) ++ wsX50 ++ wsX10 ++ wsX20 ++ wsX30 ++ (vx_atS RX5 45 "java/lang/IndexOutOfBoundsException" ["java/lang/RuntimeException", "java/lang/Exception"]).filter goodWord)
def wsX5_distanceByRounds_r1 : List Cond := [Cond.fieldLink RX5 19 "Nudgelane" "ways" "LNudgelane$Ways;", Cond.fieldLink RX5 10 "Nudgelane" "programs" "LNudgelane$Programs;", Cond.methodLink RX5 37 yX5_checkedForm, Cond.instanceMethod yX5_checkedForm, Cond.selects RX5 yX5_checkedForm yX5_checkedForm, Cond.initialized RX5, Cond.code yX5_checkedForm cX5_checkedForm 2 (some .int), Cond.classLink RX5 41 "java/lang/IndexOutOfBoundsException", Cond.initialized "java/lang/IndexOutOfBoundsException", Cond.methodLink RX5 152 yX1_formOf, Cond.instanceMethod yX1_formOf, Cond.selects RX1 yX1_formOf yX1_formOf, Cond.initialized RX1, Cond.code yX1_formOf cX1_formOf 2 (some .int), Cond.fieldLink RX1 14 "Nudgelane$Programs" "forms" "LNudgelane$Row;", Cond.methodLink RX1 28 yX2_get, Cond.instanceMethod yX2_get, Cond.selects RX2 yX2_get yX2_get, Cond.initialized RX2, Cond.code yX2_get cX2_get 2 (some .int), Cond.fieldLink RX2 7 "Nudgelane$Row" "cells" "[I", Cond.methodLink RX2 13 yX2_holds, Cond.instanceMethod yX2_holds, Cond.selects RX2 yX2_holds yX2_holds]
def wsX5_distanceByRounds_r2 : List Cond := [Cond.code yX2_holds cX2_holds 2 (some .boolean), Cond.methodLink RX5 68 yX3_forget, Cond.instanceMethod yX3_forget, Cond.selects RX3 yX3_forget yX3_forget, Cond.initialized RX3, Cond.code yX3_forget cX3_forget 1 none, Cond.fieldLink RX3 14 "Nudgelane$Ways" "known" "LNudgelane$Row;", Cond.constant RX3 27 (1000000), Cond.methodLink RX3 28 yX2_fill, Cond.instanceMethod yX2_fill, Cond.selects RX2 yX2_fill yX2_fill, Cond.code yX2_fill cX2_fill 2 none, Cond.methodLink RX2 25 yJ7_fill_53178, Cond.static yJ7_fill_53178, Cond.initialized RJ7, Cond.code yJ7_fill_53178 cJ7_fill_53178 4 none, Cond.methodLink RX5 71 yX3_mark, Cond.instanceMethod yX3_mark, Cond.selects RX3 yX3_mark yX3_mark, Cond.code yX3_mark cX3_mark 2 none, Cond.methodLink RX3 31 yX2_set, Cond.instanceMethod yX2_set, Cond.selects RX2 yX2_set yX2_set, Cond.code yX2_set cX2_set 3 none]
def wsX5_distanceByRounds_r3 : List Cond := [Cond.methodLink RX5 75 yX3_settle, Cond.instanceMethod yX3_settle, Cond.selects RX3 yX3_settle yX3_settle, Cond.code yX3_settle cX3_settle 4 none, Cond.methodLink RX3 57 yX3_settleOnce, Cond.instanceMethod yX3_settleOnce, Cond.selects RX3 yX3_settleOnce yX3_settleOnce, Cond.code yX3_settleOnce cX3_settleOnce 5 (some .boolean), Cond.methodLink RX3 61 yX1_isForm, Cond.instanceMethod yX1_isForm, Cond.selects RX1 yX1_isForm yX1_isForm, Cond.code yX1_isForm cX1_isForm 2 (some .boolean), Cond.methodLink RX3 65 yX3_leastBehind, Cond.instanceMethod yX3_leastBehind, Cond.selects RX3 yX3_leastBehind yX3_leastBehind, Cond.code yX3_leastBehind cX3_leastBehind 8 (some .int), Cond.methodLink RX3 69 Lib.Math.min.name, Cond.static Lib.Math.min.name, Cond.initialized "java/lang/Math", Cond.code Lib.Math.min.name Lib.Math.min.code 2 (some .int), Cond.methodLink RX3 45 yX1_weightOf, Cond.static yX1_weightOf, Cond.code yX1_weightOf cX1_weightOf 3 (some .int), Cond.methodLink RX3 50 yX1_without]
def wsX5_distanceByRounds_r4 : List Cond := [Cond.static yX1_without, Cond.code yX1_without cX1_without 3 (some .int), Cond.methodLink RX1 36 yX1_weightOf, Cond.methodLink RX3 54 yX1_formOf, Cond.methodLink RX3 23 yX2_get, Cond.methodLink RX5 65 yX3_editsKnown, Cond.instanceMethod yX3_editsKnown, Cond.selects RX3 yX3_editsKnown yX3_editsKnown, Cond.code yX3_editsKnown cX3_editsKnown 2 (some .int)]
def wsX5_distanceByRounds : List Cond := .code yX5_distanceByRounds cX5_distanceByRounds 5 (some .int) :: ((wsX5_distanceByRounds_r1 ++ (wsX5_distanceByRounds_r2 ++ (wsX5_distanceByRounds_r3 ++ wsX5_distanceByRounds_r4))) ++ wsX50 ++ wsX10 ++ wsX20 ++ wsX30 ++ (vx_atS RX5 45 "java/lang/IndexOutOfBoundsException" ["java/lang/RuntimeException", "java/lang/Exception"]).filter goodWord)
def wsX5_begin_r1 : List Cond := [Cond.classLink RX5 86 "java/lang/IllegalStateException", Cond.initialized "java/lang/IllegalStateException", Cond.fieldLink RX5 26 "Nudgelane" "attempts" "LNudgelane$Attempts;", Cond.methodLink RX5 37 yX5_checkedForm, Cond.instanceMethod yX5_checkedForm, Cond.selects RX5 yX5_checkedForm yX5_checkedForm, Cond.initialized RX5, Cond.code yX5_checkedForm cX5_checkedForm 2 (some .int), Cond.classLink RX5 41 "java/lang/IndexOutOfBoundsException", Cond.initialized "java/lang/IndexOutOfBoundsException", Cond.fieldLink RX5 10 "Nudgelane" "programs" "LNudgelane$Programs;", Cond.methodLink RX5 152 yX1_formOf, Cond.instanceMethod yX1_formOf, Cond.selects RX1 yX1_formOf yX1_formOf, Cond.initialized RX1, Cond.code yX1_formOf cX1_formOf 2 (some .int), Cond.fieldLink RX1 14 "Nudgelane$Programs" "forms" "LNudgelane$Row;", Cond.methodLink RX1 28 yX2_get, Cond.instanceMethod yX2_get, Cond.selects RX2 yX2_get yX2_get, Cond.initialized RX2, Cond.code yX2_get cX2_get 2 (some .int), Cond.fieldLink RX2 7 "Nudgelane$Row" "cells" "[I", Cond.methodLink RX2 13 yX2_holds]
def wsX5_begin_r2 : List Cond := [Cond.instanceMethod yX2_holds, Cond.selects RX2 yX2_holds yX2_holds, Cond.code yX2_holds cX2_holds 2 (some .boolean), Cond.methodLink RX5 79 yX0_isUnderWay, Cond.instanceMethod yX0_isUnderWay, Cond.selects RX0 yX0_isUnderWay yX0_isUnderWay, Cond.initialized RX0, Cond.code yX0_isUnderWay cX0_isUnderWay 1 (some .boolean), Cond.fieldLink RX0 35 "Nudgelane$Attempts" "here" "I", Cond.methodLink RX5 83 yX0_areAllBegun, Cond.instanceMethod yX0_areAllBegun, Cond.selects RX0 yX0_areAllBegun yX0_areAllBegun, Cond.code yX0_areAllBegun cX0_areAllBegun 1 (some .boolean), Cond.fieldLink RX0 39 "Nudgelane$Attempts" "begun" "I", Cond.methodLink RX5 91 yX0_start, Cond.instanceMethod yX0_start, Cond.selects RX0 yX0_start yX0_start, Cond.code yX0_start cX0_start 2 none, Cond.methodLink RX0 45 yX0_meet, Cond.instanceMethod yX0_meet, Cond.selects RX0 yX0_meet yX0_meet, Cond.code yX0_meet cX0_meet 2 none, Cond.fieldLink RX0 29 "Nudgelane$Attempts" "metMarks" "LNudgelane$Row;", Cond.fieldLink RX0 32 "Nudgelane$Attempts" "metForms" "LNudgelane$Row;"]
def wsX5_begin_r3 : List Cond := [Cond.fieldLink RX0 59 "Nudgelane$Attempts" "metTotal" "I", Cond.methodLink RX0 55 yX2_get, Cond.methodLink RX0 48 yX2_set, Cond.instanceMethod yX2_set, Cond.selects RX2 yX2_set yX2_set, Cond.code yX2_set cX2_set 3 none, Cond.methodLink RX5 94 yX0_metCount, Cond.instanceMethod yX0_metCount, Cond.selects RX0 yX0_metCount yX0_metCount, Cond.code yX0_metCount cX0_metCount 1 (some .int)]
def wsX5_begin : List Cond := .code yX5_begin cX5_begin 3 (some .int) :: ((wsX5_begin_r1 ++ (wsX5_begin_r2 ++ wsX5_begin_r3)) ++ wsX50 ++ wsX10 ++ wsX20 ++ wsX00 ++ (vx_atS RX5 90 "java/lang/IllegalStateException" ["java/lang/RuntimeException", "java/lang/Exception"]).filter goodWord ++ (vx_atS RX5 45 "java/lang/IndexOutOfBoundsException" ["java/lang/RuntimeException", "java/lang/Exception"]).filter goodWord)
def wsX5_pass_r1 : List Cond := [Cond.classLink RX5 86 "java/lang/IllegalStateException", Cond.initialized "java/lang/IllegalStateException", Cond.fieldLink RX5 26 "Nudgelane" "attempts" "LNudgelane$Attempts;", Cond.methodLink RX5 37 yX5_checkedForm, Cond.instanceMethod yX5_checkedForm, Cond.selects RX5 yX5_checkedForm yX5_checkedForm, Cond.initialized RX5, Cond.code yX5_checkedForm cX5_checkedForm 2 (some .int), Cond.classLink RX5 41 "java/lang/IndexOutOfBoundsException", Cond.initialized "java/lang/IndexOutOfBoundsException", Cond.fieldLink RX5 10 "Nudgelane" "programs" "LNudgelane$Programs;", Cond.methodLink RX5 152 yX1_formOf, Cond.instanceMethod yX1_formOf, Cond.selects RX1 yX1_formOf yX1_formOf, Cond.initialized RX1, Cond.code yX1_formOf cX1_formOf 2 (some .int), Cond.fieldLink RX1 14 "Nudgelane$Programs" "forms" "LNudgelane$Row;", Cond.methodLink RX1 28 yX2_get, Cond.instanceMethod yX2_get, Cond.selects RX2 yX2_get yX2_get, Cond.initialized RX2, Cond.code yX2_get cX2_get 2 (some .int), Cond.fieldLink RX2 7 "Nudgelane$Row" "cells" "[I", Cond.methodLink RX2 13 yX2_holds]
def wsX5_pass_r2 : List Cond := [Cond.instanceMethod yX2_holds, Cond.selects RX2 yX2_holds yX2_holds, Cond.code yX2_holds cX2_holds 2 (some .boolean), Cond.methodLink RX5 79 yX0_isUnderWay, Cond.instanceMethod yX0_isUnderWay, Cond.selects RX0 yX0_isUnderWay yX0_isUnderWay, Cond.initialized RX0, Cond.code yX0_isUnderWay cX0_isUnderWay 1 (some .boolean), Cond.fieldLink RX0 35 "Nudgelane$Attempts" "here" "I", Cond.methodLink RX5 98 yX0_areAllPassed, Cond.instanceMethod yX0_areAllPassed, Cond.selects RX0 yX0_areAllPassed yX0_areAllPassed, Cond.code yX0_areAllPassed cX0_areAllPassed 1 (some .boolean), Cond.fieldLink RX0 42 "Nudgelane$Attempts" "passed" "I", Cond.methodLink RX5 103 yX0_moveTo, Cond.instanceMethod yX0_moveTo, Cond.selects RX0 yX0_moveTo yX0_moveTo, Cond.code yX0_moveTo cX0_moveTo 2 none, Cond.fieldLink RX0 14 "Nudgelane$Attempts" "froms" "LNudgelane$Row;", Cond.fieldLink RX0 20 "Nudgelane$Attempts" "tos" "LNudgelane$Row;", Cond.fieldLink RX0 23 "Nudgelane$Attempts" "leavings" "LNudgelane$Row;", Cond.methodLink RX0 48 yX2_set, Cond.instanceMethod yX2_set, Cond.selects RX2 yX2_set yX2_set]
def wsX5_pass_r3 : List Cond := [Cond.code yX2_set cX2_set 3 none, Cond.methodLink RX0 52 yX2_add, Cond.instanceMethod yX2_add, Cond.selects RX2 yX2_add yX2_add, Cond.code yX2_add cX2_add 3 none, Cond.methodLink RX2 17 yX2_get, Cond.methodLink RX2 21 yX2_set, Cond.methodLink RX0 45 yX0_meet, Cond.instanceMethod yX0_meet, Cond.selects RX0 yX0_meet yX0_meet, Cond.code yX0_meet cX0_meet 2 none, Cond.fieldLink RX0 29 "Nudgelane$Attempts" "metMarks" "LNudgelane$Row;", Cond.fieldLink RX0 32 "Nudgelane$Attempts" "metForms" "LNudgelane$Row;", Cond.fieldLink RX0 59 "Nudgelane$Attempts" "metTotal" "I", Cond.methodLink RX0 55 yX2_get, Cond.methodLink RX5 94 yX0_metCount, Cond.instanceMethod yX0_metCount, Cond.selects RX0 yX0_metCount yX0_metCount, Cond.code yX0_metCount cX0_metCount 1 (some .int)]
def wsX5_pass : List Cond := .code yX5_pass cX5_pass 3 (some .int) :: ((wsX5_pass_r1 ++ (wsX5_pass_r2 ++ wsX5_pass_r3)) ++ wsX50 ++ wsX10 ++ wsX20 ++ wsX00 ++ (vx_atS RX5 90 "java/lang/IllegalStateException" ["java/lang/RuntimeException", "java/lang/Exception"]).filter goodWord ++ (vx_atS RX5 45 "java/lang/IndexOutOfBoundsException" ["java/lang/RuntimeException", "java/lang/Exception"]).filter goodWord)
def wsX5_end_r1 : List Cond := [Cond.classLink RX5 86 "java/lang/IllegalStateException", Cond.initialized "java/lang/IllegalStateException", Cond.fieldLink RX5 26 "Nudgelane" "attempts" "LNudgelane$Attempts;", Cond.methodLink RX5 79 yX0_isUnderWay, Cond.instanceMethod yX0_isUnderWay, Cond.selects RX0 yX0_isUnderWay yX0_isUnderWay, Cond.initialized RX0, Cond.code yX0_isUnderWay cX0_isUnderWay 1 (some .boolean), Cond.fieldLink RX0 35 "Nudgelane$Attempts" "here" "I", Cond.methodLink RX5 108 yX0_finish, Cond.instanceMethod yX0_finish, Cond.selects RX0 yX0_finish yX0_finish, Cond.code yX0_finish cX0_finish 3 (some .int), Cond.fieldLink RX0 23 "Nudgelane$Attempts" "leavings" "LNudgelane$Row;", Cond.fieldLink RX0 26 "Nudgelane$Attempts" "rightEnds" "LNudgelane$Row;", Cond.fieldLink RX0 62 "Nudgelane$Attempts" "someRight" "Z", Cond.methodLink RX0 52 yX2_add, Cond.instanceMethod yX2_add, Cond.selects RX2 yX2_add yX2_add, Cond.initialized RX2, Cond.code yX2_add cX2_add 3 none, Cond.methodLink RX2 17 yX2_get, Cond.instanceMethod yX2_get, Cond.selects RX2 yX2_get yX2_get]
def wsX5_end_r2 : List Cond := [Cond.code yX2_get cX2_get 2 (some .int), Cond.fieldLink RX2 7 "Nudgelane$Row" "cells" "[I", Cond.methodLink RX2 13 yX2_holds, Cond.instanceMethod yX2_holds, Cond.selects RX2 yX2_holds yX2_holds, Cond.code yX2_holds cX2_holds 2 (some .boolean), Cond.methodLink RX2 21 yX2_set, Cond.instanceMethod yX2_set, Cond.selects RX2 yX2_set yX2_set, Cond.code yX2_set cX2_set 3 none]
def wsX5_end : List Cond := .code yX5_end cX5_end 2 (some .int) :: ((wsX5_end_r1 ++ wsX5_end_r2) ++ wsX50 ++ wsX00 ++ wsX20 ++ (vx_atS RX5 90 "java/lang/IllegalStateException" ["java/lang/RuntimeException", "java/lang/Exception"]).filter goodWord)
def wsX5_at : List Cond := .code yX5_at cX5_at 1 (some .int) :: ([.fieldLink RX5 26 "Nudgelane" "attempts" "LNudgelane$Attempts;", .methodLink RX5 112 yX0_current, .instanceMethod yX0_current, .selects RX0 yX0_current yX0_current, .initialized RX0, .code yX0_current cX0_current 1 (some .int), .fieldLink RX0 35 "Nudgelane$Attempts" "here" "I"] ++ wsX50 ++ wsX00)
def wsX5_met : List Cond := .code yX5_met cX5_met 1 (some .int) :: ([.fieldLink RX5 26 "Nudgelane" "attempts" "LNudgelane$Attempts;", .methodLink RX5 94 yX0_metCount, .instanceMethod yX0_metCount, .selects RX0 yX0_metCount yX0_metCount, .initialized RX0, .code yX0_metCount cX0_metCount 1 (some .int), .fieldLink RX0 59 "Nudgelane$Attempts" "metTotal" "I"] ++ wsX50 ++ wsX00)
def wsX5_passings_r1 : List Cond := [Cond.fieldLink RX5 26 "Nudgelane" "attempts" "LNudgelane$Attempts;", Cond.methodLink RX5 37 yX5_checkedForm, Cond.instanceMethod yX5_checkedForm, Cond.selects RX5 yX5_checkedForm yX5_checkedForm, Cond.initialized RX5, Cond.code yX5_checkedForm cX5_checkedForm 2 (some .int), Cond.classLink RX5 41 "java/lang/IndexOutOfBoundsException", Cond.initialized "java/lang/IndexOutOfBoundsException", Cond.fieldLink RX5 10 "Nudgelane" "programs" "LNudgelane$Programs;", Cond.methodLink RX5 152 yX1_formOf, Cond.instanceMethod yX1_formOf, Cond.selects RX1 yX1_formOf yX1_formOf, Cond.initialized RX1, Cond.code yX1_formOf cX1_formOf 2 (some .int), Cond.fieldLink RX1 14 "Nudgelane$Programs" "forms" "LNudgelane$Row;", Cond.methodLink RX1 28 yX2_get, Cond.instanceMethod yX2_get, Cond.selects RX2 yX2_get yX2_get, Cond.initialized RX2, Cond.code yX2_get cX2_get 2 (some .int), Cond.fieldLink RX2 7 "Nudgelane$Row" "cells" "[I", Cond.methodLink RX2 13 yX2_holds, Cond.instanceMethod yX2_holds, Cond.selects RX2 yX2_holds yX2_holds]
def wsX5_passings_r2 : List Cond := [Cond.code yX2_holds cX2_holds 2 (some .boolean), Cond.methodLink RX5 115 yX0_countPassings, Cond.instanceMethod yX0_countPassings, Cond.selects RX0 yX0_countPassings yX0_countPassings, Cond.initialized RX0, Cond.code yX0_countPassings cX0_countPassings 5 (some .int), Cond.fieldLink RX0 42 "Nudgelane$Attempts" "passed" "I", Cond.methodLink RX0 66 yX0_fromOf, Cond.instanceMethod yX0_fromOf, Cond.selects RX0 yX0_fromOf yX0_fromOf, Cond.code yX0_fromOf cX0_fromOf 2 (some .int), Cond.fieldLink RX0 14 "Nudgelane$Attempts" "froms" "LNudgelane$Row;", Cond.methodLink RX0 55 yX2_get, Cond.methodLink RX0 69 yX0_toOf, Cond.instanceMethod yX0_toOf, Cond.selects RX0 yX0_toOf yX0_toOf, Cond.code yX0_toOf cX0_toOf 2 (some .int), Cond.fieldLink RX0 20 "Nudgelane$Attempts" "tos" "LNudgelane$Row;"]
def wsX5_passings : List Cond := .code yX5_passings cX5_passings 5 (some .int) :: ((wsX5_passings_r1 ++ wsX5_passings_r2) ++ wsX50 ++ wsX10 ++ wsX20 ++ wsX00 ++ (vx_atS RX5 45 "java/lang/IndexOutOfBoundsException" ["java/lang/RuntimeException", "java/lang/Exception"]).filter goodWord)
def wsX5_isRight_r1 : List Cond := [Cond.fieldLink RX5 26 "Nudgelane" "attempts" "LNudgelane$Attempts;", Cond.methodLink RX5 37 yX5_checkedForm, Cond.instanceMethod yX5_checkedForm, Cond.selects RX5 yX5_checkedForm yX5_checkedForm, Cond.initialized RX5, Cond.code yX5_checkedForm cX5_checkedForm 2 (some .int), Cond.classLink RX5 41 "java/lang/IndexOutOfBoundsException", Cond.initialized "java/lang/IndexOutOfBoundsException", Cond.fieldLink RX5 10 "Nudgelane" "programs" "LNudgelane$Programs;", Cond.methodLink RX5 152 yX1_formOf, Cond.instanceMethod yX1_formOf, Cond.selects RX1 yX1_formOf yX1_formOf, Cond.initialized RX1, Cond.code yX1_formOf cX1_formOf 2 (some .int), Cond.fieldLink RX1 14 "Nudgelane$Programs" "forms" "LNudgelane$Row;", Cond.methodLink RX1 28 yX2_get, Cond.instanceMethod yX2_get, Cond.selects RX2 yX2_get yX2_get, Cond.initialized RX2, Cond.code yX2_get cX2_get 2 (some .int), Cond.fieldLink RX2 7 "Nudgelane$Row" "cells" "[I", Cond.methodLink RX2 13 yX2_holds, Cond.instanceMethod yX2_holds, Cond.selects RX2 yX2_holds yX2_holds]
def wsX5_isRight_r2 : List Cond := [Cond.code yX2_holds cX2_holds 2 (some .boolean), Cond.methodLink RX5 119 yX0_hasEndedRight, Cond.instanceMethod yX0_hasEndedRight, Cond.selects RX0 yX0_hasEndedRight yX0_hasEndedRight, Cond.initialized RX0, Cond.code yX0_hasEndedRight cX0_hasEndedRight 2 (some .boolean), Cond.fieldLink RX0 26 "Nudgelane$Attempts" "rightEnds" "LNudgelane$Row;", Cond.methodLink RX0 55 yX2_get]
def wsX5_isRight : List Cond := .code yX5_isRight cX5_isRight 2 (some .boolean) :: ((wsX5_isRight_r1 ++ wsX5_isRight_r2) ++ wsX50 ++ wsX10 ++ wsX20 ++ wsX00 ++ (vx_atS RX5 45 "java/lang/IndexOutOfBoundsException" ["java/lang/RuntimeException", "java/lang/Exception"]).filter goodWord)
def wsX5_worth_r1 : List Cond := [Cond.fieldLink RX5 33 "Nudgelane" "worths" "LNudgelane$Worths;", Cond.fieldLink RX5 26 "Nudgelane" "attempts" "LNudgelane$Attempts;", Cond.methodLink RX5 37 yX5_checkedForm, Cond.instanceMethod yX5_checkedForm, Cond.selects RX5 yX5_checkedForm yX5_checkedForm, Cond.initialized RX5, Cond.code yX5_checkedForm cX5_checkedForm 2 (some .int), Cond.classLink RX5 41 "java/lang/IndexOutOfBoundsException", Cond.initialized "java/lang/IndexOutOfBoundsException", Cond.fieldLink RX5 10 "Nudgelane" "programs" "LNudgelane$Programs;", Cond.methodLink RX5 152 yX1_formOf, Cond.instanceMethod yX1_formOf, Cond.selects RX1 yX1_formOf yX1_formOf, Cond.initialized RX1, Cond.code yX1_formOf cX1_formOf 2 (some .int), Cond.fieldLink RX1 14 "Nudgelane$Programs" "forms" "LNudgelane$Row;", Cond.methodLink RX1 28 yX2_get, Cond.instanceMethod yX2_get, Cond.selects RX2 yX2_get yX2_get, Cond.initialized RX2, Cond.code yX2_get cX2_get 2 (some .int), Cond.fieldLink RX2 7 "Nudgelane$Row" "cells" "[I", Cond.methodLink RX2 13 yX2_holds, Cond.instanceMethod yX2_holds]
def wsX5_worth_r2 : List Cond := [Cond.selects RX2 yX2_holds yX2_holds, Cond.code yX2_holds cX2_holds 2 (some .boolean), Cond.methodLink RX5 123 yX4_find, Cond.instanceMethod yX4_find, Cond.selects RX4 yX4_find yX4_find, Cond.initialized RX4, Cond.code yX4_find cX4_find 3 none, Cond.fieldLink RX4 14 "Nudgelane$Worths" "worthNow" "LNudgelane$Row;", Cond.methodLink RX4 27 yX2_fill, Cond.instanceMethod yX2_fill, Cond.selects RX2 yX2_fill yX2_fill, Cond.code yX2_fill cX2_fill 2 none, Cond.methodLink RX2 25 yJ7_fill_53178, Cond.static yJ7_fill_53178, Cond.initialized RJ7, Cond.code yJ7_fill_53178 cJ7_fill_53178 4 none, Cond.methodLink RX4 30 yX4_addUp, Cond.instanceMethod yX4_addUp, Cond.selects RX4 yX4_addUp yX4_addUp, Cond.code yX4_addUp cX4_addUp 4 none, Cond.fieldLink RX4 20 "Nudgelane$Worths" "sums" "LNudgelane$Row;", Cond.constant RX4 49 (1000000), Cond.methodLink RX4 37 yX0_metCount, Cond.instanceMethod yX0_metCount]
def wsX5_worth_r3 : List Cond := [Cond.selects RX0 yX0_metCount yX0_metCount, Cond.initialized RX0, Cond.code yX0_metCount cX0_metCount 1 (some .int), Cond.fieldLink RX0 59 "Nudgelane$Attempts" "metTotal" "I", Cond.methodLink RX4 43 yX0_metForm, Cond.instanceMethod yX0_metForm, Cond.selects RX0 yX0_metForm yX0_metForm, Cond.code yX0_metForm cX0_metForm 2 (some .int), Cond.fieldLink RX0 32 "Nudgelane$Attempts" "metForms" "LNudgelane$Row;", Cond.methodLink RX0 55 yX2_get, Cond.methodLink RX4 46 yX0_rightEndings, Cond.instanceMethod yX0_rightEndings, Cond.selects RX0 yX0_rightEndings yX0_rightEndings, Cond.code yX0_rightEndings cX0_rightEndings 2 (some .int), Cond.fieldLink RX0 26 "Nudgelane$Attempts" "rightEnds" "LNudgelane$Row;", Cond.methodLink RX4 50 yX2_set, Cond.instanceMethod yX2_set, Cond.selects RX2 yX2_set yX2_set, Cond.code yX2_set cX2_set 3 none, Cond.methodLink RX4 54 yX0_passedCount, Cond.instanceMethod yX0_passedCount, Cond.selects RX0 yX0_passedCount yX0_passedCount, Cond.code yX0_passedCount cX0_passedCount 1 (some .int), Cond.fieldLink RX0 42 "Nudgelane$Attempts" "passed" "I"]
def wsX5_worth_r4 : List Cond := [Cond.methodLink RX4 57 yX0_fromOf, Cond.instanceMethod yX0_fromOf, Cond.selects RX0 yX0_fromOf yX0_fromOf, Cond.code yX0_fromOf cX0_fromOf 2 (some .int), Cond.fieldLink RX0 14 "Nudgelane$Attempts" "froms" "LNudgelane$Row;", Cond.methodLink RX4 60 yX0_toOf, Cond.instanceMethod yX0_toOf, Cond.selects RX0 yX0_toOf yX0_toOf, Cond.code yX0_toOf cX0_toOf 2 (some .int), Cond.fieldLink RX0 20 "Nudgelane$Attempts" "tos" "LNudgelane$Row;", Cond.methodLink RX4 23 yX2_get, Cond.methodLink RX4 63 yX2_add, Cond.instanceMethod yX2_add, Cond.selects RX2 yX2_add yX2_add, Cond.code yX2_add cX2_add 3 none, Cond.methodLink RX2 17 yX2_get, Cond.methodLink RX2 21 yX2_set, Cond.methodLink RX4 34 yX4_share, Cond.instanceMethod yX4_share, Cond.selects RX4 yX4_share yX4_share, Cond.code yX4_share cX4_share 5 none, Cond.methodLink RX4 66 yX0_leavingsOf, Cond.instanceMethod yX0_leavingsOf, Cond.selects RX0 yX0_leavingsOf yX0_leavingsOf]
def wsX5_worth_r5 : List Cond := [Cond.code yX0_leavingsOf cX0_leavingsOf 2 (some .int), Cond.fieldLink RX0 23 "Nudgelane$Attempts" "leavings" "LNudgelane$Row;", Cond.methodLink RX5 127 yX4_of, Cond.instanceMethod yX4_of, Cond.selects RX4 yX4_of yX4_of, Cond.code yX4_of cX4_of 2 (some .int)]
def wsX5_worth : List Cond := .code yX5_worth cX5_worth 3 (some .int) :: ((wsX5_worth_r1 ++ (wsX5_worth_r2 ++ (wsX5_worth_r3 ++ (wsX5_worth_r4 ++ wsX5_worth_r5)))) ++ wsX50 ++ wsX10 ++ wsX20 ++ wsX40 ++ wsX00 ++ (vx_atS RX5 45 "java/lang/IndexOutOfBoundsException" ["java/lang/RuntimeException", "java/lang/Exception"]).filter goodWord)
def wsX5_requireSomeRight : List Cond := .code yX5_requireSomeRight cX5_requireSomeRight 1 none :: ([.classLink RX5 141 "java/util/NoSuchElementException", .initialized "java/util/NoSuchElementException", .fieldLink RX5 26 "Nudgelane" "attempts" "LNudgelane$Attempts;", .methodLink RX5 155 yX0_isSomeRight, .instanceMethod yX0_isSomeRight, .selects RX0 yX0_isSomeRight yX0_isSomeRight, .initialized RX0, .code yX0_isSomeRight cX0_isSomeRight 1 (some .boolean), .fieldLink RX0 62 "Nudgelane$Attempts" "someRight" "Z"] ++ wsX50 ++ wsX00 ++ (vx_atS RX5 145 "java/util/NoSuchElementException" ["java/lang/RuntimeException", "java/lang/Exception"]).filter goodWord)
def wsX5_findSteps_r1 : List Cond := [Cond.fieldLink RX5 19 "Nudgelane" "ways" "LNudgelane$Ways;", Cond.fieldLink RX5 26 "Nudgelane" "attempts" "LNudgelane$Attempts;", Cond.fieldLink RX5 10 "Nudgelane" "programs" "LNudgelane$Programs;", Cond.methodLink RX5 68 yX3_forget, Cond.instanceMethod yX3_forget, Cond.selects RX3 yX3_forget yX3_forget, Cond.initialized RX3, Cond.code yX3_forget cX3_forget 1 none, Cond.fieldLink RX3 14 "Nudgelane$Ways" "known" "LNudgelane$Row;", Cond.constant RX3 27 (1000000), Cond.methodLink RX3 28 yX2_fill, Cond.instanceMethod yX2_fill, Cond.selects RX2 yX2_fill yX2_fill, Cond.initialized RX2, Cond.code yX2_fill cX2_fill 2 none, Cond.fieldLink RX2 7 "Nudgelane$Row" "cells" "[I", Cond.methodLink RX2 25 yJ7_fill_53178, Cond.static yJ7_fill_53178, Cond.initialized RJ7, Cond.code yJ7_fill_53178 cJ7_fill_53178 4 none, Cond.methodLink RX5 94 yX0_metCount, Cond.instanceMethod yX0_metCount, Cond.selects RX0 yX0_metCount yX0_metCount, Cond.initialized RX0]
def wsX5_findSteps_r2 : List Cond := [Cond.code yX0_metCount cX0_metCount 1 (some .int), Cond.fieldLink RX0 59 "Nudgelane$Attempts" "metTotal" "I", Cond.methodLink RX5 147 yX0_metForm, Cond.instanceMethod yX0_metForm, Cond.selects RX0 yX0_metForm yX0_metForm, Cond.code yX0_metForm cX0_metForm 2 (some .int), Cond.fieldLink RX0 32 "Nudgelane$Attempts" "metForms" "LNudgelane$Row;", Cond.methodLink RX0 55 yX2_get, Cond.instanceMethod yX2_get, Cond.selects RX2 yX2_get yX2_get, Cond.code yX2_get cX2_get 2 (some .int), Cond.methodLink RX2 13 yX2_holds, Cond.instanceMethod yX2_holds, Cond.selects RX2 yX2_holds yX2_holds, Cond.code yX2_holds cX2_holds 2 (some .boolean), Cond.methodLink RX5 119 yX0_hasEndedRight, Cond.instanceMethod yX0_hasEndedRight, Cond.selects RX0 yX0_hasEndedRight yX0_hasEndedRight, Cond.code yX0_hasEndedRight cX0_hasEndedRight 2 (some .boolean), Cond.fieldLink RX0 26 "Nudgelane$Attempts" "rightEnds" "LNudgelane$Row;", Cond.methodLink RX5 71 yX3_mark, Cond.instanceMethod yX3_mark, Cond.selects RX3 yX3_mark yX3_mark, Cond.code yX3_mark cX3_mark 2 none]
def wsX5_findSteps_r3 : List Cond := [Cond.methodLink RX3 31 yX2_set, Cond.instanceMethod yX2_set, Cond.selects RX2 yX2_set yX2_set, Cond.code yX2_set cX2_set 3 none, Cond.methodLink RX5 75 yX3_settle, Cond.instanceMethod yX3_settle, Cond.selects RX3 yX3_settle yX3_settle, Cond.code yX3_settle cX3_settle 4 none, Cond.methodLink RX3 57 yX3_settleOnce, Cond.instanceMethod yX3_settleOnce, Cond.selects RX3 yX3_settleOnce yX3_settleOnce, Cond.code yX3_settleOnce cX3_settleOnce 5 (some .boolean), Cond.methodLink RX3 61 yX1_isForm, Cond.instanceMethod yX1_isForm, Cond.selects RX1 yX1_isForm yX1_isForm, Cond.initialized RX1, Cond.code yX1_isForm cX1_isForm 2 (some .boolean), Cond.fieldLink RX1 14 "Nudgelane$Programs" "forms" "LNudgelane$Row;", Cond.methodLink RX1 28 yX2_get, Cond.methodLink RX3 65 yX3_leastBehind, Cond.instanceMethod yX3_leastBehind, Cond.selects RX3 yX3_leastBehind yX3_leastBehind, Cond.code yX3_leastBehind cX3_leastBehind 8 (some .int), Cond.methodLink RX3 69 Lib.Math.min.name]
def wsX5_findSteps_r4 : List Cond := [Cond.static Lib.Math.min.name, Cond.initialized "java/lang/Math", Cond.code Lib.Math.min.name Lib.Math.min.code 2 (some .int), Cond.methodLink RX3 45 yX1_weightOf, Cond.static yX1_weightOf, Cond.code yX1_weightOf cX1_weightOf 3 (some .int), Cond.methodLink RX3 50 yX1_without, Cond.static yX1_without, Cond.code yX1_without cX1_without 3 (some .int), Cond.methodLink RX1 36 yX1_weightOf, Cond.methodLink RX3 54 yX1_formOf, Cond.instanceMethod yX1_formOf, Cond.selects RX1 yX1_formOf yX1_formOf, Cond.code yX1_formOf cX1_formOf 2 (some .int), Cond.methodLink RX3 23 yX2_get]
def wsX5_findSteps : List Cond := .code yX5_findSteps cX5_findSteps 3 none :: ((wsX5_findSteps_r1 ++ (wsX5_findSteps_r2 ++ (wsX5_findSteps_r3 ++ wsX5_findSteps_r4))) ++ wsX50 ++ wsX30 ++ wsX20 ++ wsX00 ++ wsX10)
def wsX5_steps_r1 : List Cond := [Cond.fieldLink RX5 19 "Nudgelane" "ways" "LNudgelane$Ways;", Cond.methodLink RX5 37 yX5_checkedForm, Cond.instanceMethod yX5_checkedForm, Cond.selects RX5 yX5_checkedForm yX5_checkedForm, Cond.initialized RX5, Cond.code yX5_checkedForm cX5_checkedForm 2 (some .int), Cond.classLink RX5 41 "java/lang/IndexOutOfBoundsException", Cond.initialized "java/lang/IndexOutOfBoundsException", Cond.fieldLink RX5 10 "Nudgelane" "programs" "LNudgelane$Programs;", Cond.methodLink RX5 152 yX1_formOf, Cond.instanceMethod yX1_formOf, Cond.selects RX1 yX1_formOf yX1_formOf, Cond.initialized RX1, Cond.code yX1_formOf cX1_formOf 2 (some .int), Cond.fieldLink RX1 14 "Nudgelane$Programs" "forms" "LNudgelane$Row;", Cond.methodLink RX1 28 yX2_get, Cond.instanceMethod yX2_get, Cond.selects RX2 yX2_get yX2_get, Cond.initialized RX2, Cond.code yX2_get cX2_get 2 (some .int), Cond.fieldLink RX2 7 "Nudgelane$Row" "cells" "[I", Cond.methodLink RX2 13 yX2_holds, Cond.instanceMethod yX2_holds, Cond.selects RX2 yX2_holds yX2_holds]
def wsX5_steps_r2 : List Cond := [Cond.code yX2_holds cX2_holds 2 (some .boolean), Cond.methodLink RX5 130 yX5_requireSomeRight, Cond.instanceMethod yX5_requireSomeRight, Cond.selects RX5 yX5_requireSomeRight yX5_requireSomeRight, Cond.code yX5_requireSomeRight cX5_requireSomeRight 1 none, Cond.classLink RX5 141 "java/util/NoSuchElementException", Cond.initialized "java/util/NoSuchElementException", Cond.fieldLink RX5 26 "Nudgelane" "attempts" "LNudgelane$Attempts;", Cond.methodLink RX5 155 yX0_isSomeRight, Cond.instanceMethod yX0_isSomeRight, Cond.selects RX0 yX0_isSomeRight yX0_isSomeRight, Cond.initialized RX0, Cond.code yX0_isSomeRight cX0_isSomeRight 1 (some .boolean), Cond.fieldLink RX0 62 "Nudgelane$Attempts" "someRight" "Z", Cond.methodLink RX5 133 yX5_findSteps, Cond.instanceMethod yX5_findSteps, Cond.selects RX5 yX5_findSteps yX5_findSteps, Cond.code yX5_findSteps cX5_findSteps 3 none, Cond.methodLink RX5 68 yX3_forget, Cond.instanceMethod yX3_forget, Cond.selects RX3 yX3_forget yX3_forget, Cond.initialized RX3, Cond.code yX3_forget cX3_forget 1 none, Cond.fieldLink RX3 14 "Nudgelane$Ways" "known" "LNudgelane$Row;"]
def wsX5_steps_r3 : List Cond := [Cond.constant RX3 27 (1000000), Cond.methodLink RX3 28 yX2_fill, Cond.instanceMethod yX2_fill, Cond.selects RX2 yX2_fill yX2_fill, Cond.code yX2_fill cX2_fill 2 none, Cond.methodLink RX2 25 yJ7_fill_53178, Cond.static yJ7_fill_53178, Cond.initialized RJ7, Cond.code yJ7_fill_53178 cJ7_fill_53178 4 none, Cond.methodLink RX5 94 yX0_metCount, Cond.instanceMethod yX0_metCount, Cond.selects RX0 yX0_metCount yX0_metCount, Cond.code yX0_metCount cX0_metCount 1 (some .int), Cond.fieldLink RX0 59 "Nudgelane$Attempts" "metTotal" "I", Cond.methodLink RX5 147 yX0_metForm, Cond.instanceMethod yX0_metForm, Cond.selects RX0 yX0_metForm yX0_metForm, Cond.code yX0_metForm cX0_metForm 2 (some .int), Cond.fieldLink RX0 32 "Nudgelane$Attempts" "metForms" "LNudgelane$Row;", Cond.methodLink RX0 55 yX2_get, Cond.methodLink RX5 119 yX0_hasEndedRight, Cond.instanceMethod yX0_hasEndedRight, Cond.selects RX0 yX0_hasEndedRight yX0_hasEndedRight, Cond.code yX0_hasEndedRight cX0_hasEndedRight 2 (some .boolean)]
def wsX5_steps_r4 : List Cond := [Cond.fieldLink RX0 26 "Nudgelane$Attempts" "rightEnds" "LNudgelane$Row;", Cond.methodLink RX5 71 yX3_mark, Cond.instanceMethod yX3_mark, Cond.selects RX3 yX3_mark yX3_mark, Cond.code yX3_mark cX3_mark 2 none, Cond.methodLink RX3 31 yX2_set, Cond.instanceMethod yX2_set, Cond.selects RX2 yX2_set yX2_set, Cond.code yX2_set cX2_set 3 none, Cond.methodLink RX5 75 yX3_settle, Cond.instanceMethod yX3_settle, Cond.selects RX3 yX3_settle yX3_settle, Cond.code yX3_settle cX3_settle 4 none, Cond.methodLink RX3 57 yX3_settleOnce, Cond.instanceMethod yX3_settleOnce, Cond.selects RX3 yX3_settleOnce yX3_settleOnce, Cond.code yX3_settleOnce cX3_settleOnce 5 (some .boolean), Cond.methodLink RX3 61 yX1_isForm, Cond.instanceMethod yX1_isForm, Cond.selects RX1 yX1_isForm yX1_isForm, Cond.code yX1_isForm cX1_isForm 2 (some .boolean), Cond.methodLink RX3 65 yX3_leastBehind, Cond.instanceMethod yX3_leastBehind, Cond.selects RX3 yX3_leastBehind yX3_leastBehind]
def wsX5_steps_r5 : List Cond := [Cond.code yX3_leastBehind cX3_leastBehind 8 (some .int), Cond.methodLink RX3 69 Lib.Math.min.name, Cond.static Lib.Math.min.name, Cond.initialized "java/lang/Math", Cond.code Lib.Math.min.name Lib.Math.min.code 2 (some .int), Cond.methodLink RX3 45 yX1_weightOf, Cond.static yX1_weightOf, Cond.code yX1_weightOf cX1_weightOf 3 (some .int), Cond.methodLink RX3 50 yX1_without, Cond.static yX1_without, Cond.code yX1_without cX1_without 3 (some .int), Cond.methodLink RX1 36 yX1_weightOf, Cond.methodLink RX3 54 yX1_formOf, Cond.methodLink RX3 23 yX2_get, Cond.methodLink RX5 65 yX3_editsKnown, Cond.instanceMethod yX3_editsKnown, Cond.selects RX3 yX3_editsKnown yX3_editsKnown, Cond.code yX3_editsKnown cX3_editsKnown 2 (some .int)]
def wsX5_steps : List Cond := .code yX5_steps cX5_steps 3 (some .int) :: ((wsX5_steps_r1 ++ (wsX5_steps_r2 ++ (wsX5_steps_r3 ++ (wsX5_steps_r4 ++ wsX5_steps_r5)))) ++ wsX50 ++ wsX10 ++ wsX20 ++ wsX00 ++ wsX30 ++ (vx_atS RX5 45 "java/lang/IndexOutOfBoundsException" ["java/lang/RuntimeException", "java/lang/Exception"]).filter goodWord ++ (vx_atS RX5 145 "java/util/NoSuchElementException" ["java/lang/RuntimeException", "java/lang/Exception"]).filter goodWord)
def wsX5_stepNearer_r1 : List Cond := [Cond.fieldLink RX5 19 "Nudgelane" "ways" "LNudgelane$Ways;", Cond.fieldLink RX5 10 "Nudgelane" "programs" "LNudgelane$Programs;", Cond.fieldLink RX5 33 "Nudgelane" "worths" "LNudgelane$Worths;", Cond.methodLink RX5 65 yX3_editsKnown, Cond.instanceMethod yX3_editsKnown, Cond.selects RX3 yX3_editsKnown yX3_editsKnown, Cond.initialized RX3, Cond.code yX3_editsKnown cX3_editsKnown 2 (some .int), Cond.fieldLink RX3 14 "Nudgelane$Ways" "known" "LNudgelane$Row;", Cond.methodLink RX3 23 yX2_get, Cond.instanceMethod yX2_get, Cond.selects RX2 yX2_get yX2_get, Cond.initialized RX2, Cond.code yX2_get cX2_get 2 (some .int), Cond.fieldLink RX2 7 "Nudgelane$Row" "cells" "[I", Cond.methodLink RX2 13 yX2_holds, Cond.instanceMethod yX2_holds, Cond.selects RX2 yX2_holds yX2_holds, Cond.code yX2_holds cX2_holds 2 (some .boolean), Cond.methodLink RX5 160 yX1_weightOf, Cond.static yX1_weightOf, Cond.initialized RX1, Cond.code yX1_weightOf cX1_weightOf 3 (some .int), Cond.methodLink RX5 163 yX1_without]
def wsX5_stepNearer_r2 : List Cond := [Cond.static yX1_without, Cond.code yX1_without cX1_without 3 (some .int), Cond.methodLink RX1 36 yX1_weightOf, Cond.methodLink RX5 152 yX1_formOf, Cond.instanceMethod yX1_formOf, Cond.selects RX1 yX1_formOf yX1_formOf, Cond.code yX1_formOf cX1_formOf 2 (some .int), Cond.fieldLink RX1 14 "Nudgelane$Programs" "forms" "LNudgelane$Row;", Cond.methodLink RX1 28 yX2_get, Cond.methodLink RX5 127 yX4_of, Cond.instanceMethod yX4_of, Cond.selects RX4 yX4_of yX4_of, Cond.initialized RX4, Cond.code yX4_of cX4_of 2 (some .int), Cond.fieldLink RX4 14 "Nudgelane$Worths" "worthNow" "LNudgelane$Row;", Cond.methodLink RX4 23 yX2_get]
def wsX5_stepNearer : List Cond := .code yX5_stepNearer cX5_stepNearer 12 (some .int) :: ((wsX5_stepNearer_r1 ++ wsX5_stepNearer_r2) ++ wsX50 ++ wsX30 ++ wsX20 ++ wsX10 ++ wsX40)
def wsX5_hint_r1 : List Cond := [Cond.classLink RX5 86 "java/lang/IllegalStateException", Cond.initialized "java/lang/IllegalStateException", Cond.fieldLink RX5 26 "Nudgelane" "attempts" "LNudgelane$Attempts;", Cond.fieldLink RX5 33 "Nudgelane" "worths" "LNudgelane$Worths;", Cond.methodLink RX5 37 yX5_checkedForm, Cond.instanceMethod yX5_checkedForm, Cond.selects RX5 yX5_checkedForm yX5_checkedForm, Cond.initialized RX5, Cond.code yX5_checkedForm cX5_checkedForm 2 (some .int), Cond.classLink RX5 41 "java/lang/IndexOutOfBoundsException", Cond.initialized "java/lang/IndexOutOfBoundsException", Cond.fieldLink RX5 10 "Nudgelane" "programs" "LNudgelane$Programs;", Cond.methodLink RX5 152 yX1_formOf, Cond.instanceMethod yX1_formOf, Cond.selects RX1 yX1_formOf yX1_formOf, Cond.initialized RX1, Cond.code yX1_formOf cX1_formOf 2 (some .int), Cond.fieldLink RX1 14 "Nudgelane$Programs" "forms" "LNudgelane$Row;", Cond.methodLink RX1 28 yX2_get, Cond.instanceMethod yX2_get, Cond.selects RX2 yX2_get yX2_get, Cond.initialized RX2, Cond.code yX2_get cX2_get 2 (some .int), Cond.fieldLink RX2 7 "Nudgelane$Row" "cells" "[I"]
def wsX5_hint_r2 : List Cond := [Cond.methodLink RX2 13 yX2_holds, Cond.instanceMethod yX2_holds, Cond.selects RX2 yX2_holds yX2_holds, Cond.code yX2_holds cX2_holds 2 (some .boolean), Cond.methodLink RX5 130 yX5_requireSomeRight, Cond.instanceMethod yX5_requireSomeRight, Cond.selects RX5 yX5_requireSomeRight yX5_requireSomeRight, Cond.code yX5_requireSomeRight cX5_requireSomeRight 1 none, Cond.classLink RX5 141 "java/util/NoSuchElementException", Cond.initialized "java/util/NoSuchElementException", Cond.methodLink RX5 155 yX0_isSomeRight, Cond.instanceMethod yX0_isSomeRight, Cond.selects RX0 yX0_isSomeRight yX0_isSomeRight, Cond.initialized RX0, Cond.code yX0_isSomeRight cX0_isSomeRight 1 (some .boolean), Cond.fieldLink RX0 62 "Nudgelane$Attempts" "someRight" "Z", Cond.methodLink RX5 119 yX0_hasEndedRight, Cond.instanceMethod yX0_hasEndedRight, Cond.selects RX0 yX0_hasEndedRight yX0_hasEndedRight, Cond.code yX0_hasEndedRight cX0_hasEndedRight 2 (some .boolean), Cond.fieldLink RX0 26 "Nudgelane$Attempts" "rightEnds" "LNudgelane$Row;", Cond.methodLink RX0 55 yX2_get, Cond.methodLink RX5 133 yX5_findSteps, Cond.instanceMethod yX5_findSteps]
def wsX5_hint_r3 : List Cond := [Cond.selects RX5 yX5_findSteps yX5_findSteps, Cond.code yX5_findSteps cX5_findSteps 3 none, Cond.fieldLink RX5 19 "Nudgelane" "ways" "LNudgelane$Ways;", Cond.methodLink RX5 68 yX3_forget, Cond.instanceMethod yX3_forget, Cond.selects RX3 yX3_forget yX3_forget, Cond.initialized RX3, Cond.code yX3_forget cX3_forget 1 none, Cond.fieldLink RX3 14 "Nudgelane$Ways" "known" "LNudgelane$Row;", Cond.constant RX3 27 (1000000), Cond.methodLink RX3 28 yX2_fill, Cond.instanceMethod yX2_fill, Cond.selects RX2 yX2_fill yX2_fill, Cond.code yX2_fill cX2_fill 2 none, Cond.methodLink RX2 25 yJ7_fill_53178, Cond.static yJ7_fill_53178, Cond.initialized RJ7, Cond.code yJ7_fill_53178 cJ7_fill_53178 4 none, Cond.methodLink RX5 94 yX0_metCount, Cond.instanceMethod yX0_metCount, Cond.selects RX0 yX0_metCount yX0_metCount, Cond.code yX0_metCount cX0_metCount 1 (some .int), Cond.fieldLink RX0 59 "Nudgelane$Attempts" "metTotal" "I", Cond.methodLink RX5 147 yX0_metForm]
def wsX5_hint_r4 : List Cond := [Cond.instanceMethod yX0_metForm, Cond.selects RX0 yX0_metForm yX0_metForm, Cond.code yX0_metForm cX0_metForm 2 (some .int), Cond.fieldLink RX0 32 "Nudgelane$Attempts" "metForms" "LNudgelane$Row;", Cond.methodLink RX5 71 yX3_mark, Cond.instanceMethod yX3_mark, Cond.selects RX3 yX3_mark yX3_mark, Cond.code yX3_mark cX3_mark 2 none, Cond.methodLink RX3 31 yX2_set, Cond.instanceMethod yX2_set, Cond.selects RX2 yX2_set yX2_set, Cond.code yX2_set cX2_set 3 none, Cond.methodLink RX5 75 yX3_settle, Cond.instanceMethod yX3_settle, Cond.selects RX3 yX3_settle yX3_settle, Cond.code yX3_settle cX3_settle 4 none, Cond.methodLink RX3 57 yX3_settleOnce, Cond.instanceMethod yX3_settleOnce, Cond.selects RX3 yX3_settleOnce yX3_settleOnce, Cond.code yX3_settleOnce cX3_settleOnce 5 (some .boolean), Cond.methodLink RX3 61 yX1_isForm, Cond.instanceMethod yX1_isForm, Cond.selects RX1 yX1_isForm yX1_isForm, Cond.code yX1_isForm cX1_isForm 2 (some .boolean)]
def wsX5_hint_r5 : List Cond := [Cond.methodLink RX3 65 yX3_leastBehind, Cond.instanceMethod yX3_leastBehind, Cond.selects RX3 yX3_leastBehind yX3_leastBehind, Cond.code yX3_leastBehind cX3_leastBehind 8 (some .int), Cond.methodLink RX3 69 Lib.Math.min.name, Cond.static Lib.Math.min.name, Cond.initialized "java/lang/Math", Cond.code Lib.Math.min.name Lib.Math.min.code 2 (some .int), Cond.methodLink RX3 45 yX1_weightOf, Cond.static yX1_weightOf, Cond.code yX1_weightOf cX1_weightOf 3 (some .int), Cond.methodLink RX3 50 yX1_without, Cond.static yX1_without, Cond.code yX1_without cX1_without 3 (some .int), Cond.methodLink RX1 36 yX1_weightOf, Cond.methodLink RX3 54 yX1_formOf, Cond.methodLink RX3 23 yX2_get, Cond.methodLink RX5 123 yX4_find, Cond.instanceMethod yX4_find, Cond.selects RX4 yX4_find yX4_find, Cond.initialized RX4, Cond.code yX4_find cX4_find 3 none, Cond.fieldLink RX4 14 "Nudgelane$Worths" "worthNow" "LNudgelane$Row;", Cond.methodLink RX4 27 yX2_fill]
def wsX5_hint_r6 : List Cond := [Cond.methodLink RX4 30 yX4_addUp, Cond.instanceMethod yX4_addUp, Cond.selects RX4 yX4_addUp yX4_addUp, Cond.code yX4_addUp cX4_addUp 4 none, Cond.fieldLink RX4 20 "Nudgelane$Worths" "sums" "LNudgelane$Row;", Cond.constant RX4 49 (1000000), Cond.methodLink RX4 37 yX0_metCount, Cond.methodLink RX4 43 yX0_metForm, Cond.methodLink RX4 46 yX0_rightEndings, Cond.instanceMethod yX0_rightEndings, Cond.selects RX0 yX0_rightEndings yX0_rightEndings, Cond.code yX0_rightEndings cX0_rightEndings 2 (some .int), Cond.methodLink RX4 50 yX2_set, Cond.methodLink RX4 54 yX0_passedCount, Cond.instanceMethod yX0_passedCount, Cond.selects RX0 yX0_passedCount yX0_passedCount, Cond.code yX0_passedCount cX0_passedCount 1 (some .int), Cond.fieldLink RX0 42 "Nudgelane$Attempts" "passed" "I", Cond.methodLink RX4 57 yX0_fromOf, Cond.instanceMethod yX0_fromOf, Cond.selects RX0 yX0_fromOf yX0_fromOf, Cond.code yX0_fromOf cX0_fromOf 2 (some .int), Cond.fieldLink RX0 14 "Nudgelane$Attempts" "froms" "LNudgelane$Row;", Cond.methodLink RX4 60 yX0_toOf]
def wsX5_hint_r7 : List Cond := [Cond.instanceMethod yX0_toOf, Cond.selects RX0 yX0_toOf yX0_toOf, Cond.code yX0_toOf cX0_toOf 2 (some .int), Cond.fieldLink RX0 20 "Nudgelane$Attempts" "tos" "LNudgelane$Row;", Cond.methodLink RX4 23 yX2_get, Cond.methodLink RX4 63 yX2_add, Cond.instanceMethod yX2_add, Cond.selects RX2 yX2_add yX2_add, Cond.code yX2_add cX2_add 3 none, Cond.methodLink RX2 17 yX2_get, Cond.methodLink RX2 21 yX2_set, Cond.methodLink RX4 34 yX4_share, Cond.instanceMethod yX4_share, Cond.selects RX4 yX4_share yX4_share, Cond.code yX4_share cX4_share 5 none, Cond.methodLink RX4 66 yX0_leavingsOf, Cond.instanceMethod yX0_leavingsOf, Cond.selects RX0 yX0_leavingsOf yX0_leavingsOf, Cond.code yX0_leavingsOf cX0_leavingsOf 2 (some .int), Cond.fieldLink RX0 23 "Nudgelane$Attempts" "leavings" "LNudgelane$Row;", Cond.methodLink RX5 138 yX5_stepNearer, Cond.instanceMethod yX5_stepNearer, Cond.selects RX5 yX5_stepNearer yX5_stepNearer, Cond.code yX5_stepNearer cX5_stepNearer 12 (some .int)]
def wsX5_hint_r8 : List Cond := [Cond.methodLink RX5 65 yX3_editsKnown, Cond.instanceMethod yX3_editsKnown, Cond.selects RX3 yX3_editsKnown yX3_editsKnown, Cond.code yX3_editsKnown cX3_editsKnown 2 (some .int), Cond.methodLink RX5 160 yX1_weightOf, Cond.methodLink RX5 163 yX1_without, Cond.methodLink RX5 127 yX4_of, Cond.instanceMethod yX4_of, Cond.selects RX4 yX4_of yX4_of, Cond.code yX4_of cX4_of 2 (some .int)]
def wsX5_hint : List Cond := .code yX5_hint cX5_hint 3 (some .int) :: ((wsX5_hint_r1 ++ (wsX5_hint_r2 ++ (wsX5_hint_r3 ++ (wsX5_hint_r4 ++ (wsX5_hint_r5 ++ (wsX5_hint_r6 ++ (wsX5_hint_r7 ++ wsX5_hint_r8))))))) ++ wsX50 ++ wsX10 ++ wsX20 ++ wsX00 ++ wsX30 ++ wsX40 ++ (vx_atS RX5 90 "java/lang/IllegalStateException" ["java/lang/RuntimeException", "java/lang/Exception"]).filter goodWord ++ (vx_atS RX5 45 "java/lang/IndexOutOfBoundsException" ["java/lang/RuntimeException", "java/lang/Exception"]).filter goodWord ++ (vx_atS RX5 145 "java/util/NoSuchElementException" ["java/lang/RuntimeException", "java/lang/Exception"]).filter goodWord)
def wsX5_lead_r1 : List Cond := [Cond.fieldLink RX5 33 "Nudgelane" "worths" "LNudgelane$Worths;", Cond.fieldLink RX5 26 "Nudgelane" "attempts" "LNudgelane$Attempts;", Cond.fieldLink RX5 19 "Nudgelane" "ways" "LNudgelane$Ways;", Cond.methodLink RX5 37 yX5_checkedForm, Cond.instanceMethod yX5_checkedForm, Cond.selects RX5 yX5_checkedForm yX5_checkedForm, Cond.initialized RX5, Cond.code yX5_checkedForm cX5_checkedForm 2 (some .int), Cond.classLink RX5 41 "java/lang/IndexOutOfBoundsException", Cond.initialized "java/lang/IndexOutOfBoundsException", Cond.fieldLink RX5 10 "Nudgelane" "programs" "LNudgelane$Programs;", Cond.methodLink RX5 152 yX1_formOf, Cond.instanceMethod yX1_formOf, Cond.selects RX1 yX1_formOf yX1_formOf, Cond.initialized RX1, Cond.code yX1_formOf cX1_formOf 2 (some .int), Cond.fieldLink RX1 14 "Nudgelane$Programs" "forms" "LNudgelane$Row;", Cond.methodLink RX1 28 yX2_get, Cond.instanceMethod yX2_get, Cond.selects RX2 yX2_get yX2_get, Cond.initialized RX2, Cond.code yX2_get cX2_get 2 (some .int), Cond.fieldLink RX2 7 "Nudgelane$Row" "cells" "[I", Cond.methodLink RX2 13 yX2_holds]
def wsX5_lead_r2 : List Cond := [Cond.instanceMethod yX2_holds, Cond.selects RX2 yX2_holds yX2_holds, Cond.code yX2_holds cX2_holds 2 (some .boolean), Cond.methodLink RX5 130 yX5_requireSomeRight, Cond.instanceMethod yX5_requireSomeRight, Cond.selects RX5 yX5_requireSomeRight yX5_requireSomeRight, Cond.code yX5_requireSomeRight cX5_requireSomeRight 1 none, Cond.classLink RX5 141 "java/util/NoSuchElementException", Cond.initialized "java/util/NoSuchElementException", Cond.methodLink RX5 155 yX0_isSomeRight, Cond.instanceMethod yX0_isSomeRight, Cond.selects RX0 yX0_isSomeRight yX0_isSomeRight, Cond.initialized RX0, Cond.code yX0_isSomeRight cX0_isSomeRight 1 (some .boolean), Cond.fieldLink RX0 62 "Nudgelane$Attempts" "someRight" "Z", Cond.methodLink RX5 133 yX5_findSteps, Cond.instanceMethod yX5_findSteps, Cond.selects RX5 yX5_findSteps yX5_findSteps, Cond.code yX5_findSteps cX5_findSteps 3 none, Cond.methodLink RX5 68 yX3_forget, Cond.instanceMethod yX3_forget, Cond.selects RX3 yX3_forget yX3_forget, Cond.initialized RX3, Cond.code yX3_forget cX3_forget 1 none]
def wsX5_lead_r3 : List Cond := [Cond.fieldLink RX3 14 "Nudgelane$Ways" "known" "LNudgelane$Row;", Cond.constant RX3 27 (1000000), Cond.methodLink RX3 28 yX2_fill, Cond.instanceMethod yX2_fill, Cond.selects RX2 yX2_fill yX2_fill, Cond.code yX2_fill cX2_fill 2 none, Cond.methodLink RX2 25 yJ7_fill_53178, Cond.static yJ7_fill_53178, Cond.initialized RJ7, Cond.code yJ7_fill_53178 cJ7_fill_53178 4 none, Cond.methodLink RX5 94 yX0_metCount, Cond.instanceMethod yX0_metCount, Cond.selects RX0 yX0_metCount yX0_metCount, Cond.code yX0_metCount cX0_metCount 1 (some .int), Cond.fieldLink RX0 59 "Nudgelane$Attempts" "metTotal" "I", Cond.methodLink RX5 147 yX0_metForm, Cond.instanceMethod yX0_metForm, Cond.selects RX0 yX0_metForm yX0_metForm, Cond.code yX0_metForm cX0_metForm 2 (some .int), Cond.fieldLink RX0 32 "Nudgelane$Attempts" "metForms" "LNudgelane$Row;", Cond.methodLink RX0 55 yX2_get, Cond.methodLink RX5 119 yX0_hasEndedRight, Cond.instanceMethod yX0_hasEndedRight, Cond.selects RX0 yX0_hasEndedRight yX0_hasEndedRight]
def wsX5_lead_r4 : List Cond := [Cond.code yX0_hasEndedRight cX0_hasEndedRight 2 (some .boolean), Cond.fieldLink RX0 26 "Nudgelane$Attempts" "rightEnds" "LNudgelane$Row;", Cond.methodLink RX5 71 yX3_mark, Cond.instanceMethod yX3_mark, Cond.selects RX3 yX3_mark yX3_mark, Cond.code yX3_mark cX3_mark 2 none, Cond.methodLink RX3 31 yX2_set, Cond.instanceMethod yX2_set, Cond.selects RX2 yX2_set yX2_set, Cond.code yX2_set cX2_set 3 none, Cond.methodLink RX5 75 yX3_settle, Cond.instanceMethod yX3_settle, Cond.selects RX3 yX3_settle yX3_settle, Cond.code yX3_settle cX3_settle 4 none, Cond.methodLink RX3 57 yX3_settleOnce, Cond.instanceMethod yX3_settleOnce, Cond.selects RX3 yX3_settleOnce yX3_settleOnce, Cond.code yX3_settleOnce cX3_settleOnce 5 (some .boolean), Cond.methodLink RX3 61 yX1_isForm, Cond.instanceMethod yX1_isForm, Cond.selects RX1 yX1_isForm yX1_isForm, Cond.code yX1_isForm cX1_isForm 2 (some .boolean), Cond.methodLink RX3 65 yX3_leastBehind, Cond.instanceMethod yX3_leastBehind]
def wsX5_lead_r5 : List Cond := [Cond.selects RX3 yX3_leastBehind yX3_leastBehind, Cond.code yX3_leastBehind cX3_leastBehind 8 (some .int), Cond.methodLink RX3 69 Lib.Math.min.name, Cond.static Lib.Math.min.name, Cond.initialized "java/lang/Math", Cond.code Lib.Math.min.name Lib.Math.min.code 2 (some .int), Cond.methodLink RX3 45 yX1_weightOf, Cond.static yX1_weightOf, Cond.code yX1_weightOf cX1_weightOf 3 (some .int), Cond.methodLink RX3 50 yX1_without, Cond.static yX1_without, Cond.code yX1_without cX1_without 3 (some .int), Cond.methodLink RX1 36 yX1_weightOf, Cond.methodLink RX3 54 yX1_formOf, Cond.methodLink RX3 23 yX2_get, Cond.methodLink RX5 123 yX4_find, Cond.instanceMethod yX4_find, Cond.selects RX4 yX4_find yX4_find, Cond.initialized RX4, Cond.code yX4_find cX4_find 3 none, Cond.fieldLink RX4 14 "Nudgelane$Worths" "worthNow" "LNudgelane$Row;", Cond.methodLink RX4 27 yX2_fill, Cond.methodLink RX4 30 yX4_addUp, Cond.instanceMethod yX4_addUp]
def wsX5_lead_r6 : List Cond := [Cond.selects RX4 yX4_addUp yX4_addUp, Cond.code yX4_addUp cX4_addUp 4 none, Cond.fieldLink RX4 20 "Nudgelane$Worths" "sums" "LNudgelane$Row;", Cond.constant RX4 49 (1000000), Cond.methodLink RX4 37 yX0_metCount, Cond.methodLink RX4 43 yX0_metForm, Cond.methodLink RX4 46 yX0_rightEndings, Cond.instanceMethod yX0_rightEndings, Cond.selects RX0 yX0_rightEndings yX0_rightEndings, Cond.code yX0_rightEndings cX0_rightEndings 2 (some .int), Cond.methodLink RX4 50 yX2_set, Cond.methodLink RX4 54 yX0_passedCount, Cond.instanceMethod yX0_passedCount, Cond.selects RX0 yX0_passedCount yX0_passedCount, Cond.code yX0_passedCount cX0_passedCount 1 (some .int), Cond.fieldLink RX0 42 "Nudgelane$Attempts" "passed" "I", Cond.methodLink RX4 57 yX0_fromOf, Cond.instanceMethod yX0_fromOf, Cond.selects RX0 yX0_fromOf yX0_fromOf, Cond.code yX0_fromOf cX0_fromOf 2 (some .int), Cond.fieldLink RX0 14 "Nudgelane$Attempts" "froms" "LNudgelane$Row;", Cond.methodLink RX4 60 yX0_toOf, Cond.instanceMethod yX0_toOf, Cond.selects RX0 yX0_toOf yX0_toOf]
def wsX5_lead_r7 : List Cond := [Cond.code yX0_toOf cX0_toOf 2 (some .int), Cond.fieldLink RX0 20 "Nudgelane$Attempts" "tos" "LNudgelane$Row;", Cond.methodLink RX4 23 yX2_get, Cond.methodLink RX4 63 yX2_add, Cond.instanceMethod yX2_add, Cond.selects RX2 yX2_add yX2_add, Cond.code yX2_add cX2_add 3 none, Cond.methodLink RX2 17 yX2_get, Cond.methodLink RX2 21 yX2_set, Cond.methodLink RX4 34 yX4_share, Cond.instanceMethod yX4_share, Cond.selects RX4 yX4_share yX4_share, Cond.code yX4_share cX4_share 5 none, Cond.methodLink RX4 66 yX0_leavingsOf, Cond.instanceMethod yX0_leavingsOf, Cond.selects RX0 yX0_leavingsOf yX0_leavingsOf, Cond.code yX0_leavingsOf cX0_leavingsOf 2 (some .int), Cond.fieldLink RX0 23 "Nudgelane$Attempts" "leavings" "LNudgelane$Row;", Cond.methodLink RX5 65 yX3_editsKnown, Cond.instanceMethod yX3_editsKnown, Cond.selects RX3 yX3_editsKnown yX3_editsKnown, Cond.code yX3_editsKnown cX3_editsKnown 2 (some .int), Cond.methodLink RX5 138 yX5_stepNearer, Cond.instanceMethod yX5_stepNearer]
def wsX5_lead_r8 : List Cond := [Cond.selects RX5 yX5_stepNearer yX5_stepNearer, Cond.code yX5_stepNearer cX5_stepNearer 12 (some .int), Cond.methodLink RX5 160 yX1_weightOf, Cond.methodLink RX5 163 yX1_without, Cond.methodLink RX5 127 yX4_of, Cond.instanceMethod yX4_of, Cond.selects RX4 yX4_of yX4_of, Cond.code yX4_of cX4_of 2 (some .int)]
def wsX5_lead : List Cond := .code yX5_lead cX5_lead 4 (some .int) :: ((wsX5_lead_r1 ++ (wsX5_lead_r2 ++ (wsX5_lead_r3 ++ (wsX5_lead_r4 ++ (wsX5_lead_r5 ++ (wsX5_lead_r6 ++ (wsX5_lead_r7 ++ wsX5_lead_r8))))))) ++ wsX50 ++ wsX10 ++ wsX20 ++ wsX00 ++ wsX30 ++ wsX40 ++ (vx_atS RX5 45 "java/lang/IndexOutOfBoundsException" ["java/lang/RuntimeException", "java/lang/Exception"]).filter goodWord ++ (vx_atS RX5 145 "java/util/NoSuchElementException" ["java/lang/RuntimeException", "java/lang/Exception"]).filter goodWord)
def wsX5_nearest_r1 : List Cond := [Cond.classLink RX5 141 "java/util/NoSuchElementException", Cond.initialized "java/util/NoSuchElementException", Cond.fieldLink RX5 26 "Nudgelane" "attempts" "LNudgelane$Attempts;", Cond.fieldLink RX5 19 "Nudgelane" "ways" "LNudgelane$Ways;", Cond.fieldLink RX5 10 "Nudgelane" "programs" "LNudgelane$Programs;", Cond.constant RX5 146 (1000000), Cond.methodLink RX5 37 yX5_checkedForm, Cond.instanceMethod yX5_checkedForm, Cond.selects RX5 yX5_checkedForm yX5_checkedForm, Cond.initialized RX5, Cond.code yX5_checkedForm cX5_checkedForm 2 (some .int), Cond.classLink RX5 41 "java/lang/IndexOutOfBoundsException", Cond.initialized "java/lang/IndexOutOfBoundsException", Cond.methodLink RX5 152 yX1_formOf, Cond.instanceMethod yX1_formOf, Cond.selects RX1 yX1_formOf yX1_formOf, Cond.initialized RX1, Cond.code yX1_formOf cX1_formOf 2 (some .int), Cond.fieldLink RX1 14 "Nudgelane$Programs" "forms" "LNudgelane$Row;", Cond.methodLink RX1 28 yX2_get, Cond.instanceMethod yX2_get, Cond.selects RX2 yX2_get yX2_get, Cond.initialized RX2, Cond.code yX2_get cX2_get 2 (some .int)]
def wsX5_nearest_r2 : List Cond := [Cond.fieldLink RX2 7 "Nudgelane$Row" "cells" "[I", Cond.methodLink RX2 13 yX2_holds, Cond.instanceMethod yX2_holds, Cond.selects RX2 yX2_holds yX2_holds, Cond.code yX2_holds cX2_holds 2 (some .boolean), Cond.methodLink RX5 94 yX0_metCount, Cond.instanceMethod yX0_metCount, Cond.selects RX0 yX0_metCount yX0_metCount, Cond.initialized RX0, Cond.code yX0_metCount cX0_metCount 1 (some .int), Cond.fieldLink RX0 59 "Nudgelane$Attempts" "metTotal" "I", Cond.methodLink RX5 61 yX3_goOutward, Cond.instanceMethod yX3_goOutward, Cond.selects RX3 yX3_goOutward yX3_goOutward, Cond.initialized RX3, Cond.code yX3_goOutward cX3_goOutward 5 none, Cond.fieldLink RX3 20 "Nudgelane$Ways" "queue" "LNudgelane$Row;", Cond.methodLink RX3 35 yX3_forget, Cond.instanceMethod yX3_forget, Cond.selects RX3 yX3_forget yX3_forget, Cond.code yX3_forget cX3_forget 1 none, Cond.fieldLink RX3 14 "Nudgelane$Ways" "known" "LNudgelane$Row;", Cond.constant RX3 27 (1000000), Cond.methodLink RX3 28 yX2_fill]
def wsX5_nearest_r3 : List Cond := [Cond.instanceMethod yX2_fill, Cond.selects RX2 yX2_fill yX2_fill, Cond.code yX2_fill cX2_fill 2 none, Cond.methodLink RX2 25 yJ7_fill_53178, Cond.static yJ7_fill_53178, Cond.initialized RJ7, Cond.code yJ7_fill_53178 cJ7_fill_53178 4 none, Cond.methodLink RX3 38 yX3_mark, Cond.instanceMethod yX3_mark, Cond.selects RX3 yX3_mark yX3_mark, Cond.code yX3_mark cX3_mark 2 none, Cond.methodLink RX3 31 yX2_set, Cond.instanceMethod yX2_set, Cond.selects RX2 yX2_set yX2_set, Cond.code yX2_set cX2_set 3 none, Cond.methodLink RX3 23 yX2_get, Cond.methodLink RX3 41 yX3_queueNewBehind, Cond.instanceMethod yX3_queueNewBehind, Cond.selects RX3 yX3_queueNewBehind yX3_queueNewBehind, Cond.code yX3_queueNewBehind cX3_queueNewBehind 10 (some .int), Cond.methodLink RX3 45 yX1_weightOf, Cond.static yX1_weightOf, Cond.code yX1_weightOf cX1_weightOf 3 (some .int), Cond.methodLink RX3 50 yX1_without]
def wsX5_nearest_r4 : List Cond := [Cond.static yX1_without, Cond.code yX1_without cX1_without 3 (some .int), Cond.methodLink RX1 36 yX1_weightOf, Cond.methodLink RX3 54 yX1_formOf, Cond.methodLink RX5 147 yX0_metForm, Cond.instanceMethod yX0_metForm, Cond.selects RX0 yX0_metForm yX0_metForm, Cond.code yX0_metForm cX0_metForm 2 (some .int), Cond.fieldLink RX0 32 "Nudgelane$Attempts" "metForms" "LNudgelane$Row;", Cond.methodLink RX0 55 yX2_get, Cond.methodLink RX5 65 yX3_editsKnown, Cond.instanceMethod yX3_editsKnown, Cond.selects RX3 yX3_editsKnown yX3_editsKnown, Cond.code yX3_editsKnown cX3_editsKnown 2 (some .int)]
def wsX5_nearest : List Cond := .code yX5_nearest cX5_nearest 8 (some .int) :: ((wsX5_nearest_r1 ++ (wsX5_nearest_r2 ++ (wsX5_nearest_r3 ++ wsX5_nearest_r4))) ++ wsX50 ++ wsX10 ++ wsX20 ++ wsX00 ++ wsX30 ++ (vx_atS RX5 145 "java/util/NoSuchElementException" ["java/lang/RuntimeException", "java/lang/Exception"]).filter goodWord ++ (vx_atS RX5 45 "java/lang/IndexOutOfBoundsException" ["java/lang/RuntimeException", "java/lang/Exception"]).filter goodWord)
def wsX6_fits : List Cond := .code yX6_fits cX6_fits 3 (some .boolean) :: ([])
def wsX6_uses : List Cond := .code yX6_uses cX6_uses 6 (some .boolean) :: ([.fieldLink RX6 13 "NudgelaneModel" "digits" "[I", .methodLink RX6 59 yX6_fits, .static yX6_fits, .initialized RX6, .code yX6_fits cX6_fits 3 (some .boolean)] ++ wsX60)
def wsX6_formed : List Cond := .code yX6_formed cX6_formed 4 (some .int) :: ([.fieldLink RX6 13 "NudgelaneModel" "digits" "[I", .methodLink RX6 63 yX6_uses, .instanceMethod yX6_uses, .selects RX6 yX6_uses yX6_uses, .initialized RX6, .code yX6_uses cX6_uses 6 (some .boolean), .methodLink RX6 59 yX6_fits, .static yX6_fits, .code yX6_fits cX6_fits 3 (some .boolean)] ++ wsX60)
def wsX6_init_r1 : List Cond := [Cond.methodLink RX6 1 objectInit, Cond.instanceMethod objectInit, Cond.code objectInit ⟨#[0xb1]⟩ 1 none, Cond.arrayClass .int, Cond.fieldLink RX6 7 "NudgelaneModel" "forms" "[I", Cond.fieldLink RX6 13 "NudgelaneModel" "digits" "[I", Cond.fieldLink RX6 16 "NudgelaneModel" "far" "[I", Cond.arrayClass .boolean, Cond.fieldLink RX6 19 "NudgelaneModel" "isMet" "[Z", Cond.fieldLink RX6 23 "NudgelaneModel" "isRight" "[Z", Cond.fieldLink RX6 26 "NudgelaneModel" "worths" "[I", Cond.arrayClass .long, Cond.fieldLink RX6 29 "NudgelaneModel" "sums" "[J", Cond.fieldLink RX6 33 "NudgelaneModel" "counts" "[I", Cond.fieldLink RX6 36 "NudgelaneModel" "at" "I", Cond.fieldLink RX6 40 "NudgelaneModel" "froms" "[I", Cond.fieldLink RX6 43 "NudgelaneModel" "tos" "[I", Cond.fieldLink RX6 46 "NudgelaneModel" "ends" "[I", Cond.fieldLink RX6 49 "NudgelaneModel" "wasRight" "[Z", Cond.methodLink RX6 52 yX6_formed, Cond.instanceMethod yX6_formed, Cond.selects RX6 yX6_formed yX6_formed, Cond.initialized RX6, Cond.code yX6_formed cX6_formed 4 (some .int)]
def wsX6_init_r2 : List Cond := [Cond.methodLink RX6 63 yX6_uses, Cond.instanceMethod yX6_uses, Cond.selects RX6 yX6_uses yX6_uses, Cond.code yX6_uses cX6_uses 6 (some .boolean), Cond.methodLink RX6 59 yX6_fits, Cond.static yX6_fits, Cond.code yX6_fits cX6_fits 3 (some .boolean)]
def wsX6_init : List Cond := .code yX6_init cX6_init 2 none :: ((wsX6_init_r1 ++ wsX6_init_r2) ++ wsX60)
def wsX6_thrown : List Cond := .code yX6_thrown cX6_thrown 1 (some .int) :: ([.fieldLink RX6 56 "NudgelaneModel" "thrown" "I"] ++ wsX60)
def wsX6_goes : List Cond := .code yX6_goes cX6_goes 2 (some .boolean) :: ([.fieldLink RX6 56 "NudgelaneModel" "thrown" "I"] ++ wsX60)
def wsX6_isCode : List Cond := .code yX6_isCode cX6_isCode 1 (some .boolean) :: ([])
def wsX6_unit : List Cond := .code yX6_unit cX6_unit 1 (some .int) :: ([])
def wsX6_edited : List Cond := .code yX6_edited cX6_edited 5 (some .int) :: ([.fieldLink RX6 7 "NudgelaneModel" "forms" "[I", .methodLink RX6 67 yX6_unit, .static yX6_unit, .initialized RX6, .code yX6_unit cX6_unit 1 (some .int)] ++ wsX60)
def wsX6_form : List Cond := .code yX6_form cX6_form 2 (some .int) :: ([.fieldLink RX6 7 "NudgelaneModel" "forms" "[I", .methodLink RX6 70 yX6_isCode, .static yX6_isCode, .initialized RX6, .code yX6_isCode cX6_isCode 1 (some .boolean), .methodLink RX6 74 yX6_goes, .instanceMethod yX6_goes, .selects RX6 yX6_goes yX6_goes, .code yX6_goes cX6_goes 2 (some .boolean), .fieldLink RX6 56 "NudgelaneModel" "thrown" "I"] ++ wsX60)
def wsX6_edit : List Cond := .code yX6_edit cX6_edit 6 (some .int) :: ([.fieldLink RX6 7 "NudgelaneModel" "forms" "[I", .methodLink RX6 70 yX6_isCode, .static yX6_isCode, .initialized RX6, .code yX6_isCode cX6_isCode 1 (some .boolean), .methodLink RX6 74 yX6_goes, .instanceMethod yX6_goes, .selects RX6 yX6_goes yX6_goes, .code yX6_goes cX6_goes 2 (some .boolean), .fieldLink RX6 56 "NudgelaneModel" "thrown" "I", .methodLink RX6 77 yX6_edited, .instanceMethod yX6_edited, .selects RX6 yX6_edited yX6_edited, .code yX6_edited cX6_edited 5 (some .int), .methodLink RX6 67 yX6_unit, .static yX6_unit, .code yX6_unit cX6_unit 1 (some .int)] ++ wsX60)
def wsX6_neighbours : List Cond := .code yX6_neighbours cX6_neighbours 6 (some .int) :: ([.fieldLink RX6 7 "NudgelaneModel" "forms" "[I", .methodLink RX6 70 yX6_isCode, .static yX6_isCode, .initialized RX6, .code yX6_isCode cX6_isCode 1 (some .boolean), .methodLink RX6 74 yX6_goes, .instanceMethod yX6_goes, .selects RX6 yX6_goes yX6_goes, .code yX6_goes cX6_goes 2 (some .boolean), .fieldLink RX6 56 "NudgelaneModel" "thrown" "I", .methodLink RX6 77 yX6_edited, .instanceMethod yX6_edited, .selects RX6 yX6_edited yX6_edited, .code yX6_edited cX6_edited 5 (some .int), .methodLink RX6 67 yX6_unit, .static yX6_unit, .code yX6_unit cX6_unit 1 (some .int)] ++ wsX60)
def wsX6_goesOutward : List Cond := .code yX6_goesOutward cX6_goesOutward 7 none :: ([.fieldLink RX6 16 "NudgelaneModel" "far" "[I", .methodLink RX6 77 yX6_edited, .instanceMethod yX6_edited, .selects RX6 yX6_edited yX6_edited, .initialized RX6, .code yX6_edited cX6_edited 5 (some .int), .fieldLink RX6 7 "NudgelaneModel" "forms" "[I", .methodLink RX6 67 yX6_unit, .static yX6_unit, .code yX6_unit cX6_unit 1 (some .int)] ++ wsX60)
def wsX6_goesInward : List Cond := .code yX6_goesInward cX6_goesInward 7 none :: ([.fieldLink RX6 16 "NudgelaneModel" "far" "[I", .fieldLink RX6 23 "NudgelaneModel" "isRight" "[Z", .fieldLink RX6 7 "NudgelaneModel" "forms" "[I", .methodLink RX6 77 yX6_edited, .instanceMethod yX6_edited, .selects RX6 yX6_edited yX6_edited, .initialized RX6, .code yX6_edited cX6_edited 5 (some .int), .methodLink RX6 67 yX6_unit, .static yX6_unit, .code yX6_unit cX6_unit 1 (some .int)] ++ wsX60)
def wsX6_distance : List Cond := .code yX6_distance cX6_distance 3 (some .int) :: ([.fieldLink RX6 7 "NudgelaneModel" "forms" "[I", .fieldLink RX6 16 "NudgelaneModel" "far" "[I", .methodLink RX6 70 yX6_isCode, .static yX6_isCode, .initialized RX6, .code yX6_isCode cX6_isCode 1 (some .boolean), .methodLink RX6 74 yX6_goes, .instanceMethod yX6_goes, .selects RX6 yX6_goes yX6_goes, .code yX6_goes cX6_goes 2 (some .boolean), .fieldLink RX6 56 "NudgelaneModel" "thrown" "I", .methodLink RX6 81 yX6_goesOutward, .instanceMethod yX6_goesOutward, .selects RX6 yX6_goesOutward yX6_goesOutward, .code yX6_goesOutward cX6_goesOutward 7 none, .methodLink RX6 77 yX6_edited, .instanceMethod yX6_edited, .selects RX6 yX6_edited yX6_edited, .code yX6_edited cX6_edited 5 (some .int), .methodLink RX6 67 yX6_unit, .static yX6_unit, .code yX6_unit cX6_unit 1 (some .int)] ++ wsX60)
def wsX6_distanceByRounds : List Cond := .code yX6_distanceByRounds cX6_distanceByRounds 3 (some .int) :: ([.fieldLink RX6 7 "NudgelaneModel" "forms" "[I", .fieldLink RX6 16 "NudgelaneModel" "far" "[I", .methodLink RX6 70 yX6_isCode, .static yX6_isCode, .initialized RX6, .code yX6_isCode cX6_isCode 1 (some .boolean), .methodLink RX6 74 yX6_goes, .instanceMethod yX6_goes, .selects RX6 yX6_goes yX6_goes, .code yX6_goes cX6_goes 2 (some .boolean), .fieldLink RX6 56 "NudgelaneModel" "thrown" "I", .methodLink RX6 85 yX6_goesInward, .instanceMethod yX6_goesInward, .selects RX6 yX6_goesInward yX6_goesInward, .code yX6_goesInward cX6_goesInward 7 none, .fieldLink RX6 23 "NudgelaneModel" "isRight" "[Z", .methodLink RX6 77 yX6_edited, .instanceMethod yX6_edited, .selects RX6 yX6_edited yX6_edited, .code yX6_edited cX6_edited 5 (some .int), .methodLink RX6 67 yX6_unit, .static yX6_unit, .code yX6_unit cX6_unit 1 (some .int)] ++ wsX60)
def wsX6_meets : List Cond := .code yX6_meets cX6_meets 2 none :: ([.fieldLink RX6 88 "NudgelaneModel" "met" "I", .fieldLink RX6 19 "NudgelaneModel" "isMet" "[Z", .fieldLink RX6 36 "NudgelaneModel" "at" "I"] ++ wsX60)
def wsX6_begin : List Cond := .code yX6_begin cX6_begin 2 (some .int) :: ([.fieldLink RX6 36 "NudgelaneModel" "at" "I", .fieldLink RX6 91 "NudgelaneModel" "begun" "I", .fieldLink RX6 7 "NudgelaneModel" "forms" "[I", .fieldLink RX6 88 "NudgelaneModel" "met" "I", .methodLink RX6 70 yX6_isCode, .static yX6_isCode, .initialized RX6, .code yX6_isCode cX6_isCode 1 (some .boolean), .methodLink RX6 74 yX6_goes, .instanceMethod yX6_goes, .selects RX6 yX6_goes yX6_goes, .code yX6_goes cX6_goes 2 (some .boolean), .fieldLink RX6 56 "NudgelaneModel" "thrown" "I", .methodLink RX6 94 yX6_meets, .instanceMethod yX6_meets, .selects RX6 yX6_meets yX6_meets, .code yX6_meets cX6_meets 2 none, .fieldLink RX6 19 "NudgelaneModel" "isMet" "[Z"] ++ wsX60)
def wsX6_pass : List Cond := .code yX6_pass cX6_pass 2 (some .int) :: ([.fieldLink RX6 36 "NudgelaneModel" "at" "I", .fieldLink RX6 97 "NudgelaneModel" "passings" "I", .fieldLink RX6 40 "NudgelaneModel" "froms" "[I", .fieldLink RX6 43 "NudgelaneModel" "tos" "[I", .fieldLink RX6 7 "NudgelaneModel" "forms" "[I", .fieldLink RX6 88 "NudgelaneModel" "met" "I", .methodLink RX6 70 yX6_isCode, .static yX6_isCode, .initialized RX6, .code yX6_isCode cX6_isCode 1 (some .boolean), .methodLink RX6 74 yX6_goes, .instanceMethod yX6_goes, .selects RX6 yX6_goes yX6_goes, .code yX6_goes cX6_goes 2 (some .boolean), .fieldLink RX6 56 "NudgelaneModel" "thrown" "I", .methodLink RX6 94 yX6_meets, .instanceMethod yX6_meets, .selects RX6 yX6_meets yX6_meets, .code yX6_meets cX6_meets 2 none, .fieldLink RX6 19 "NudgelaneModel" "isMet" "[Z"] ++ wsX60)
def wsX6_end : List Cond := .code yX6_end cX6_end 3 (some .int) :: ([.fieldLink RX6 36 "NudgelaneModel" "at" "I", .fieldLink RX6 46 "NudgelaneModel" "ends" "[I", .fieldLink RX6 100 "NudgelaneModel" "ended" "I", .fieldLink RX6 49 "NudgelaneModel" "wasRight" "[Z", .fieldLink RX6 23 "NudgelaneModel" "isRight" "[Z", .methodLink RX6 74 yX6_goes, .instanceMethod yX6_goes, .selects RX6 yX6_goes yX6_goes, .initialized RX6, .code yX6_goes cX6_goes 2 (some .boolean), .fieldLink RX6 56 "NudgelaneModel" "thrown" "I"] ++ wsX60)
def wsX6_at : List Cond := .code yX6_at cX6_at 1 (some .int) :: ([.fieldLink RX6 56 "NudgelaneModel" "thrown" "I", .fieldLink RX6 36 "NudgelaneModel" "at" "I"] ++ wsX60)
def wsX6_met : List Cond := .code yX6_met cX6_met 1 (some .int) :: ([.fieldLink RX6 56 "NudgelaneModel" "thrown" "I", .fieldLink RX6 88 "NudgelaneModel" "met" "I"] ++ wsX60)
def wsX6_passings : List Cond := .code yX6_passings cX6_passings 5 (some .int) :: ([.fieldLink RX6 97 "NudgelaneModel" "passings" "I", .fieldLink RX6 40 "NudgelaneModel" "froms" "[I", .fieldLink RX6 7 "NudgelaneModel" "forms" "[I", .fieldLink RX6 43 "NudgelaneModel" "tos" "[I", .methodLink RX6 70 yX6_isCode, .static yX6_isCode, .initialized RX6, .code yX6_isCode cX6_isCode 1 (some .boolean), .methodLink RX6 74 yX6_goes, .instanceMethod yX6_goes, .selects RX6 yX6_goes yX6_goes, .code yX6_goes cX6_goes 2 (some .boolean), .fieldLink RX6 56 "NudgelaneModel" "thrown" "I"] ++ wsX60)
def wsX6_isRight : List Cond := .code yX6_isRight cX6_isRight 2 (some .boolean) :: ([.fieldLink RX6 23 "NudgelaneModel" "isRight" "[Z", .fieldLink RX6 7 "NudgelaneModel" "forms" "[I", .methodLink RX6 70 yX6_isCode, .static yX6_isCode, .initialized RX6, .code yX6_isCode cX6_isCode 1 (some .boolean), .methodLink RX6 74 yX6_goes, .instanceMethod yX6_goes, .selects RX6 yX6_goes yX6_goes, .code yX6_goes cX6_goes 2 (some .boolean), .fieldLink RX6 56 "NudgelaneModel" "thrown" "I"] ++ wsX60)
def wsX6_laysWorths : List Cond := .code yX6_laysWorths cX6_laysWorths 3 none :: ([.fieldLink RX6 26 "NudgelaneModel" "worths" "[I", .fieldLink RX6 29 "NudgelaneModel" "sums" "[J", .fieldLink RX6 33 "NudgelaneModel" "counts" "[I", .fieldLink RX6 97 "NudgelaneModel" "passings" "I", .fieldLink RX6 40 "NudgelaneModel" "froms" "[I", .fieldLink RX6 43 "NudgelaneModel" "tos" "[I", .fieldLink RX6 100 "NudgelaneModel" "ended" "I", .fieldLink RX6 46 "NudgelaneModel" "ends" "[I", .fieldLink RX6 49 "NudgelaneModel" "wasRight" "[Z", .constantLong RX6 103 (1000000)] ++ wsX60)
def wsX6_worth : List Cond := .code yX6_worth cX6_worth 2 (some .int) :: ([.fieldLink RX6 26 "NudgelaneModel" "worths" "[I", .fieldLink RX6 7 "NudgelaneModel" "forms" "[I", .methodLink RX6 70 yX6_isCode, .static yX6_isCode, .initialized RX6, .code yX6_isCode cX6_isCode 1 (some .boolean), .methodLink RX6 74 yX6_goes, .instanceMethod yX6_goes, .selects RX6 yX6_goes yX6_goes, .code yX6_goes cX6_goes 2 (some .boolean), .fieldLink RX6 56 "NudgelaneModel" "thrown" "I", .methodLink RX6 105 yX6_laysWorths, .instanceMethod yX6_laysWorths, .selects RX6 yX6_laysWorths yX6_laysWorths, .code yX6_laysWorths cX6_laysWorths 3 none, .fieldLink RX6 29 "NudgelaneModel" "sums" "[J", .fieldLink RX6 33 "NudgelaneModel" "counts" "[I", .fieldLink RX6 97 "NudgelaneModel" "passings" "I", .fieldLink RX6 40 "NudgelaneModel" "froms" "[I", .fieldLink RX6 43 "NudgelaneModel" "tos" "[I", .fieldLink RX6 100 "NudgelaneModel" "ended" "I", .fieldLink RX6 46 "NudgelaneModel" "ends" "[I", .fieldLink RX6 49 "NudgelaneModel" "wasRight" "[Z", .constantLong RX6 103 (1000000)] ++ wsX60)
def wsX6_isAnyRight : List Cond := .code yX6_isAnyRight cX6_isAnyRight 3 (some .boolean) :: ([.fieldLink RX6 100 "NudgelaneModel" "ended" "I", .fieldLink RX6 49 "NudgelaneModel" "wasRight" "[Z"] ++ wsX60)
def wsX6_steps_r1 : List Cond := [Cond.fieldLink RX6 16 "NudgelaneModel" "far" "[I", Cond.fieldLink RX6 7 "NudgelaneModel" "forms" "[I", Cond.methodLink RX6 70 yX6_isCode, Cond.static yX6_isCode, Cond.initialized RX6, Cond.code yX6_isCode cX6_isCode 1 (some .boolean), Cond.methodLink RX6 108 yX6_isAnyRight, Cond.instanceMethod yX6_isAnyRight, Cond.selects RX6 yX6_isAnyRight yX6_isAnyRight, Cond.code yX6_isAnyRight cX6_isAnyRight 3 (some .boolean), Cond.fieldLink RX6 100 "NudgelaneModel" "ended" "I", Cond.fieldLink RX6 49 "NudgelaneModel" "wasRight" "[Z", Cond.methodLink RX6 74 yX6_goes, Cond.instanceMethod yX6_goes, Cond.selects RX6 yX6_goes yX6_goes, Cond.code yX6_goes cX6_goes 2 (some .boolean), Cond.fieldLink RX6 56 "NudgelaneModel" "thrown" "I", Cond.methodLink RX6 85 yX6_goesInward, Cond.instanceMethod yX6_goesInward, Cond.selects RX6 yX6_goesInward yX6_goesInward, Cond.code yX6_goesInward cX6_goesInward 7 none, Cond.fieldLink RX6 23 "NudgelaneModel" "isRight" "[Z", Cond.methodLink RX6 77 yX6_edited, Cond.instanceMethod yX6_edited]
def wsX6_steps_r2 : List Cond := [Cond.selects RX6 yX6_edited yX6_edited, Cond.code yX6_edited cX6_edited 5 (some .int), Cond.methodLink RX6 67 yX6_unit, Cond.static yX6_unit, Cond.code yX6_unit cX6_unit 1 (some .int)]
def wsX6_steps : List Cond := .code yX6_steps cX6_steps 2 (some .int) :: ((wsX6_steps_r1 ++ wsX6_steps_r2) ++ wsX60)
def wsX6_hinted : List Cond := .code yX6_hinted cX6_hinted 7 (some .int) :: ([.fieldLink RX6 16 "NudgelaneModel" "far" "[I", .fieldLink RX6 26 "NudgelaneModel" "worths" "[I", .methodLink RX6 77 yX6_edited, .instanceMethod yX6_edited, .selects RX6 yX6_edited yX6_edited, .initialized RX6, .code yX6_edited cX6_edited 5 (some .int), .fieldLink RX6 7 "NudgelaneModel" "forms" "[I", .methodLink RX6 67 yX6_unit, .static yX6_unit, .code yX6_unit cX6_unit 1 (some .int)] ++ wsX60)
def wsX6_hint_r1 : List Cond := [Cond.fieldLink RX6 23 "NudgelaneModel" "isRight" "[Z", Cond.fieldLink RX6 7 "NudgelaneModel" "forms" "[I", Cond.methodLink RX6 70 yX6_isCode, Cond.static yX6_isCode, Cond.initialized RX6, Cond.code yX6_isCode cX6_isCode 1 (some .boolean), Cond.methodLink RX6 108 yX6_isAnyRight, Cond.instanceMethod yX6_isAnyRight, Cond.selects RX6 yX6_isAnyRight yX6_isAnyRight, Cond.code yX6_isAnyRight cX6_isAnyRight 3 (some .boolean), Cond.fieldLink RX6 100 "NudgelaneModel" "ended" "I", Cond.fieldLink RX6 49 "NudgelaneModel" "wasRight" "[Z", Cond.methodLink RX6 74 yX6_goes, Cond.instanceMethod yX6_goes, Cond.selects RX6 yX6_goes yX6_goes, Cond.code yX6_goes cX6_goes 2 (some .boolean), Cond.fieldLink RX6 56 "NudgelaneModel" "thrown" "I", Cond.methodLink RX6 85 yX6_goesInward, Cond.instanceMethod yX6_goesInward, Cond.selects RX6 yX6_goesInward yX6_goesInward, Cond.code yX6_goesInward cX6_goesInward 7 none, Cond.fieldLink RX6 16 "NudgelaneModel" "far" "[I", Cond.methodLink RX6 77 yX6_edited, Cond.instanceMethod yX6_edited]
def wsX6_hint_r2 : List Cond := [Cond.selects RX6 yX6_edited yX6_edited, Cond.code yX6_edited cX6_edited 5 (some .int), Cond.methodLink RX6 67 yX6_unit, Cond.static yX6_unit, Cond.code yX6_unit cX6_unit 1 (some .int), Cond.methodLink RX6 105 yX6_laysWorths, Cond.instanceMethod yX6_laysWorths, Cond.selects RX6 yX6_laysWorths yX6_laysWorths, Cond.code yX6_laysWorths cX6_laysWorths 3 none, Cond.fieldLink RX6 26 "NudgelaneModel" "worths" "[I", Cond.fieldLink RX6 29 "NudgelaneModel" "sums" "[J", Cond.fieldLink RX6 33 "NudgelaneModel" "counts" "[I", Cond.fieldLink RX6 97 "NudgelaneModel" "passings" "I", Cond.fieldLink RX6 40 "NudgelaneModel" "froms" "[I", Cond.fieldLink RX6 43 "NudgelaneModel" "tos" "[I", Cond.fieldLink RX6 46 "NudgelaneModel" "ends" "[I", Cond.constantLong RX6 103 (1000000), Cond.methodLink RX6 111 yX6_hinted, Cond.instanceMethod yX6_hinted, Cond.selects RX6 yX6_hinted yX6_hinted, Cond.code yX6_hinted cX6_hinted 7 (some .int)]
def wsX6_hint : List Cond := .code yX6_hint cX6_hint 2 (some .int) :: ((wsX6_hint_r1 ++ wsX6_hint_r2) ++ wsX60)
def wsX6_lead_r1 : List Cond := [Cond.fieldLink RX6 7 "NudgelaneModel" "forms" "[I", Cond.fieldLink RX6 23 "NudgelaneModel" "isRight" "[Z", Cond.methodLink RX6 70 yX6_isCode, Cond.static yX6_isCode, Cond.initialized RX6, Cond.code yX6_isCode cX6_isCode 1 (some .boolean), Cond.methodLink RX6 108 yX6_isAnyRight, Cond.instanceMethod yX6_isAnyRight, Cond.selects RX6 yX6_isAnyRight yX6_isAnyRight, Cond.code yX6_isAnyRight cX6_isAnyRight 3 (some .boolean), Cond.fieldLink RX6 100 "NudgelaneModel" "ended" "I", Cond.fieldLink RX6 49 "NudgelaneModel" "wasRight" "[Z", Cond.methodLink RX6 74 yX6_goes, Cond.instanceMethod yX6_goes, Cond.selects RX6 yX6_goes yX6_goes, Cond.code yX6_goes cX6_goes 2 (some .boolean), Cond.fieldLink RX6 56 "NudgelaneModel" "thrown" "I", Cond.methodLink RX6 85 yX6_goesInward, Cond.instanceMethod yX6_goesInward, Cond.selects RX6 yX6_goesInward yX6_goesInward, Cond.code yX6_goesInward cX6_goesInward 7 none, Cond.fieldLink RX6 16 "NudgelaneModel" "far" "[I", Cond.methodLink RX6 77 yX6_edited, Cond.instanceMethod yX6_edited]
def wsX6_lead_r2 : List Cond := [Cond.selects RX6 yX6_edited yX6_edited, Cond.code yX6_edited cX6_edited 5 (some .int), Cond.methodLink RX6 67 yX6_unit, Cond.static yX6_unit, Cond.code yX6_unit cX6_unit 1 (some .int), Cond.methodLink RX6 105 yX6_laysWorths, Cond.instanceMethod yX6_laysWorths, Cond.selects RX6 yX6_laysWorths yX6_laysWorths, Cond.code yX6_laysWorths cX6_laysWorths 3 none, Cond.fieldLink RX6 26 "NudgelaneModel" "worths" "[I", Cond.fieldLink RX6 29 "NudgelaneModel" "sums" "[J", Cond.fieldLink RX6 33 "NudgelaneModel" "counts" "[I", Cond.fieldLink RX6 97 "NudgelaneModel" "passings" "I", Cond.fieldLink RX6 40 "NudgelaneModel" "froms" "[I", Cond.fieldLink RX6 43 "NudgelaneModel" "tos" "[I", Cond.fieldLink RX6 46 "NudgelaneModel" "ends" "[I", Cond.constantLong RX6 103 (1000000), Cond.methodLink RX6 111 yX6_hinted, Cond.instanceMethod yX6_hinted, Cond.selects RX6 yX6_hinted yX6_hinted, Cond.code yX6_hinted cX6_hinted 7 (some .int)]
def wsX6_lead : List Cond := .code yX6_lead cX6_lead 3 (some .int) :: ((wsX6_lead_r1 ++ wsX6_lead_r2) ++ wsX60)
def wsX6_nearest : List Cond := .code yX6_nearest cX6_nearest 4 (some .int) :: ([.fieldLink RX6 88 "NudgelaneModel" "met" "I", .fieldLink RX6 7 "NudgelaneModel" "forms" "[I", .fieldLink RX6 19 "NudgelaneModel" "isMet" "[Z", .fieldLink RX6 16 "NudgelaneModel" "far" "[I", .methodLink RX6 70 yX6_isCode, .static yX6_isCode, .initialized RX6, .code yX6_isCode cX6_isCode 1 (some .boolean), .methodLink RX6 74 yX6_goes, .instanceMethod yX6_goes, .selects RX6 yX6_goes yX6_goes, .code yX6_goes cX6_goes 2 (some .boolean), .fieldLink RX6 56 "NudgelaneModel" "thrown" "I", .methodLink RX6 81 yX6_goesOutward, .instanceMethod yX6_goesOutward, .selects RX6 yX6_goesOutward yX6_goesOutward, .code yX6_goesOutward cX6_goesOutward 7 none, .methodLink RX6 77 yX6_edited, .instanceMethod yX6_edited, .selects RX6 yX6_edited yX6_edited, .code yX6_edited cX6_edited 5 (some .int), .methodLink RX6 67 yX6_unit, .static yX6_unit, .code yX6_unit cX6_unit 1 (some .int)] ++ wsX60)
def wsJ9_min_7cf53 : List Cond := .code yJ9_min_7cf53 cJ9_min_7cf53 2 (some .int) :: ([])
theorem inJx145de : ∀ w ∈ wsJx145de0, w ∈ lw_tbl := by decide +kernel
theorem inJ9 : ∀ w ∈ wsJ90, w ∈ lw_tbl := by decide +kernel
theorem inJ0 : ∀ w ∈ wsJ00, w ∈ lw_tbl := by decide +kernel
theorem inJ7 : ∀ w ∈ wsJ70, w ∈ lw_tbl := by decide +kernel
abbrev vwCl : List vw_C := [(RX0, TX0, 11), (RX1, TX1, 1), (RX2, TX2, 1), (RX3, TX3, 2), (RX4, TX4, 2), (RX5, TX5, 4), (RX6, TX6, 18)]
end
section
theorem dJ7_fill_53178_0 : decode cJ7_fill_53178 0 = .ok (.iconst 0, 1) := by decide +kernel
theorem dJ7_fill_53178_1 : decode cJ7_fill_53178 1 = .ok (.istore_n 2, 1) := by decide +kernel
theorem dJ7_fill_53178_2 : decode cJ7_fill_53178 2 = .ok (.aload_n 0, 1) := by decide +kernel
theorem dJ7_fill_53178_3 : decode cJ7_fill_53178 3 = .ok (.arraylength, 1) := by decide +kernel
theorem dJ7_fill_53178_4 : decode cJ7_fill_53178 4 = .ok (.istore_n 3, 1) := by decide +kernel
theorem dJ7_fill_53178_5 : decode cJ7_fill_53178 5 = .ok (.iload_n 2, 1) := by decide +kernel
theorem dJ7_fill_53178_6 : decode cJ7_fill_53178 6 = .ok (.iload_n 3, 1) := by decide +kernel
theorem dJ7_fill_53178_7 : decode cJ7_fill_53178 7 = .ok (.if_icmp .ge 13, 3) := by decide +kernel
theorem dJ7_fill_53178_10 : decode cJ7_fill_53178 10 = .ok (.aload_n 0, 1) := by decide +kernel
theorem dJ7_fill_53178_11 : decode cJ7_fill_53178 11 = .ok (.iload_n 2, 1) := by decide +kernel
theorem dJ7_fill_53178_12 : decode cJ7_fill_53178 12 = .ok (.iload_n 1, 1) := by decide +kernel
theorem dJ7_fill_53178_13 : decode cJ7_fill_53178 13 = .ok (.iastore, 1) := by decide +kernel
theorem dJ7_fill_53178_14 : decode cJ7_fill_53178 14 = .ok (.iinc 2 1, 3) := by decide +kernel
theorem dJ7_fill_53178_17 : decode cJ7_fill_53178 17 = .ok (.goto (-12), 3) := by decide +kernel
theorem dJ7_fill_53178_20 : decode cJ7_fill_53178 20 = .ok (.return_, 1) := by decide +kernel
end
section
theorem dJ9_min_7cf53_0 : decode cJ9_min_7cf53 0 = .ok (.iload_n 0, 1) := by decide +kernel
theorem dJ9_min_7cf53_1 : decode cJ9_min_7cf53 1 = .ok (.iload_n 1, 1) := by decide +kernel
theorem dJ9_min_7cf53_2 : decode cJ9_min_7cf53 2 = .ok (.if_icmp .gt 7, 3) := by decide +kernel
theorem dJ9_min_7cf53_5 : decode cJ9_min_7cf53 5 = .ok (.iload_n 0, 1) := by decide +kernel
theorem dJ9_min_7cf53_6 : decode cJ9_min_7cf53 6 = .ok (.goto 4, 3) := by decide +kernel
theorem dJ9_min_7cf53_9 : decode cJ9_min_7cf53 9 = .ok (.iload_n 1, 1) := by decide +kernel
theorem dJ9_min_7cf53_10 : decode cJ9_min_7cf53 10 = .ok (.ireturn, 1) := by decide +kernel
end
section
theorem dX2_init_0 : decode cX2_init 0 = .ok (.aload_n 0, 1) := by decide +kernel
theorem dX2_init_1 : decode cX2_init 1 = .ok (.invokespecial 1, 3) := by decide +kernel
theorem dX2_init_4 : decode cX2_init 4 = .ok (.aload_n 0, 1) := by decide +kernel
theorem dX2_init_5 : decode cX2_init 5 = .ok (.iload_n 1, 1) := by decide +kernel
theorem dX2_init_6 : decode cX2_init 6 = .ok (.ifCond .le 7, 3) := by decide +kernel
theorem dX2_init_9 : decode cX2_init 9 = .ok (.iload_n 1, 1) := by decide +kernel
theorem dX2_init_10 : decode cX2_init 10 = .ok (.goto 4, 3) := by decide +kernel
theorem dX2_init_13 : decode cX2_init 13 = .ok (.iconst 0, 1) := by decide +kernel
theorem dX2_init_14 : decode cX2_init 14 = .ok (.newarray .int, 2) := by decide +kernel
theorem dX2_init_16 : decode cX2_init 16 = .ok (.putfield 7, 3) := by decide +kernel
theorem dX2_init_19 : decode cX2_init 19 = .ok (.return_, 1) := by decide +kernel
theorem dX2_holds_0 : decode cX2_holds 0 = .ok (.iload_n 1, 1) := by decide +kernel
theorem dX2_holds_1 : decode cX2_holds 1 = .ok (.ifCond .lt 16, 3) := by decide +kernel
theorem dX2_holds_4 : decode cX2_holds 4 = .ok (.iload_n 1, 1) := by decide +kernel
theorem dX2_holds_5 : decode cX2_holds 5 = .ok (.aload_n 0, 1) := by decide +kernel
theorem dX2_holds_6 : decode cX2_holds 6 = .ok (.getfield 7, 3) := by decide +kernel
theorem dX2_holds_9 : decode cX2_holds 9 = .ok (.arraylength, 1) := by decide +kernel
theorem dX2_holds_10 : decode cX2_holds 10 = .ok (.if_icmp .ge 7, 3) := by decide +kernel
theorem dX2_holds_13 : decode cX2_holds 13 = .ok (.iconst 1, 1) := by decide +kernel
theorem dX2_holds_14 : decode cX2_holds 14 = .ok (.goto 4, 3) := by decide +kernel
theorem dX2_holds_17 : decode cX2_holds 17 = .ok (.iconst 0, 1) := by decide +kernel
theorem dX2_holds_18 : decode cX2_holds 18 = .ok (.ireturn, 1) := by decide +kernel
set_option maxRecDepth 20000 in
theorem ggX2_get_X2_holds : GoodIn wsX2_get wsX2_holds := goodIn_r _ [6, 1, 7] (by decide +kernel) (by decide +kernel)
set_option maxRecDepth 20000 in
theorem gX2_get_X2_holds : GoodIn wsX2_get (wsV RX2 13 RX2 yX2_holds wsX2_holds) := goodIn_app (goodIn_of _ (by decide +kernel)) ggX2_get_X2_holds
theorem dX2_get_0 : decode cX2_get 0 = .ok (.aload_n 0, 1) := by decide +kernel
theorem dX2_get_1 : decode cX2_get 1 = .ok (.iload_n 1, 1) := by decide +kernel
theorem dX2_get_2 : decode cX2_get 2 = .ok (.invokevirtual 13, 3) := by decide +kernel
theorem dX2_get_5 : decode cX2_get 5 = .ok (.ifCond .eq 12, 3) := by decide +kernel
theorem dX2_get_8 : decode cX2_get 8 = .ok (.aload_n 0, 1) := by decide +kernel
theorem dX2_get_9 : decode cX2_get 9 = .ok (.getfield 7, 3) := by decide +kernel
theorem dX2_get_12 : decode cX2_get 12 = .ok (.iload_n 1, 1) := by decide +kernel
theorem dX2_get_13 : decode cX2_get 13 = .ok (.iaload, 1) := by decide +kernel
theorem dX2_get_14 : decode cX2_get 14 = .ok (.goto 4, 3) := by decide +kernel
theorem dX2_get_17 : decode cX2_get 17 = .ok (.iconst 0, 1) := by decide +kernel
theorem dX2_get_18 : decode cX2_get 18 = .ok (.ireturn, 1) := by decide +kernel
set_option maxRecDepth 20000 in
theorem ggX2_set_X2_holds : GoodIn wsX2_set wsX2_holds := goodIn_r _ [6, 1, 7] (by decide +kernel) (by decide +kernel)
set_option maxRecDepth 20000 in
theorem gX2_set_X2_holds : GoodIn wsX2_set (wsV RX2 13 RX2 yX2_holds wsX2_holds) := goodIn_app (goodIn_of _ (by decide +kernel)) ggX2_set_X2_holds
theorem dX2_set_0 : decode cX2_set 0 = .ok (.aload_n 0, 1) := by decide +kernel
theorem dX2_set_1 : decode cX2_set 1 = .ok (.iload_n 1, 1) := by decide +kernel
theorem dX2_set_2 : decode cX2_set 2 = .ok (.invokevirtual 13, 3) := by decide +kernel
theorem dX2_set_5 : decode cX2_set 5 = .ok (.ifCond .eq 10, 3) := by decide +kernel
theorem dX2_set_8 : decode cX2_set 8 = .ok (.aload_n 0, 1) := by decide +kernel
theorem dX2_set_9 : decode cX2_set 9 = .ok (.getfield 7, 3) := by decide +kernel
theorem dX2_set_12 : decode cX2_set 12 = .ok (.iload_n 1, 1) := by decide +kernel
theorem dX2_set_13 : decode cX2_set 13 = .ok (.iload_n 2, 1) := by decide +kernel
theorem dX2_set_14 : decode cX2_set 14 = .ok (.iastore, 1) := by decide +kernel
theorem dX2_set_15 : decode cX2_set 15 = .ok (.return_, 1) := by decide +kernel
set_option maxRecDepth 20000 in
theorem ggX2_add_X2_get : GoodIn wsX2_add wsX2_get := goodIn_r _ [5, 6, 7, 8, 9, 4, 10, 15] (by decide +kernel) (by decide +kernel)
set_option maxRecDepth 20000 in
theorem gX2_add_X2_get : GoodIn wsX2_add (wsV RX2 17 RX2 yX2_get wsX2_get) := goodIn_app (goodIn_of _ (by decide +kernel)) ggX2_add_X2_get
set_option maxRecDepth 20000 in
theorem ggX2_add_X2_set : GoodIn wsX2_add wsX2_set := goodIn_r _ [14, 6, 7, 8, 9, 4, 10, 15] (by decide +kernel) (by decide +kernel)
set_option maxRecDepth 20000 in
theorem gX2_add_X2_set : GoodIn wsX2_add (wsV RX2 21 RX2 yX2_set wsX2_set) := goodIn_app (goodIn_of _ (by decide +kernel)) ggX2_add_X2_set
theorem dX2_add_0 : decode cX2_add 0 = .ok (.aload_n 0, 1) := by decide +kernel
theorem dX2_add_1 : decode cX2_add 1 = .ok (.iload_n 1, 1) := by decide +kernel
theorem dX2_add_2 : decode cX2_add 2 = .ok (.aload_n 0, 1) := by decide +kernel
theorem dX2_add_3 : decode cX2_add 3 = .ok (.iload_n 1, 1) := by decide +kernel
theorem dX2_add_4 : decode cX2_add 4 = .ok (.invokevirtual 17, 3) := by decide +kernel
theorem dX2_add_7 : decode cX2_add 7 = .ok (.iload_n 2, 1) := by decide +kernel
theorem dX2_add_8 : decode cX2_add 8 = .ok (.iadd, 1) := by decide +kernel
theorem dX2_add_9 : decode cX2_add 9 = .ok (.invokevirtual 21, 3) := by decide +kernel
theorem dX2_add_12 : decode cX2_add 12 = .ok (.return_, 1) := by decide +kernel
set_option maxRecDepth 20000 in
theorem ggX2_fill_J7_fill_53178 : GoodIn wsX2_fill wsJ7_fill_53178 := goodIn_r _ [5] (by decide +kernel) (by decide +kernel)
set_option maxRecDepth 20000 in
theorem gX2_fill_J7_fill_53178 : GoodIn wsX2_fill (va_wsS RX2 25 yJ7_fill_53178 wsJ7_fill_53178) := goodIn_app (goodIn_of _ (by decide +kernel)) ggX2_fill_J7_fill_53178
theorem dX2_fill_0 : decode cX2_fill 0 = .ok (.aload_n 0, 1) := by decide +kernel
theorem dX2_fill_1 : decode cX2_fill 1 = .ok (.getfield 7, 3) := by decide +kernel
theorem dX2_fill_4 : decode cX2_fill 4 = .ok (.iload_n 1, 1) := by decide +kernel
theorem dX2_fill_5 : decode cX2_fill 5 = .ok (.invokestatic 25, 3) := by decide +kernel
theorem dX2_fill_8 : decode cX2_fill 8 = .ok (.return_, 1) := by decide +kernel
end
section
set_option maxRecDepth 20000 in
theorem ggX1_init_X2_init : GoodIn wsX1_init wsX2_init := goodIn_r _ [10, 11, 2, 3, 12, 13, 45] (by decide +kernel) (by decide +kernel)
set_option maxRecDepth 20000 in
theorem gX1_init_X2_init : GoodIn wsX1_init (wsX2_init) := ggX1_init_X2_init
set_option maxRecDepth 20000 in
theorem ggX1_init_X1_reduce : GoodIn wsX1_init wsX1_reduce := goodIn_r _ [17, 18, 19, 16, 20, 21, 22, 23, 6, 24, 13, 25, 26, 27, 28, 29, 30, 31, 32, 33, 34, 35, 36, 37, 38, 39, 40, 41, 42, 43, 44, 45] (by decide +kernel) (by decide +kernel)
set_option maxRecDepth 20000 in
theorem gX1_init_X1_reduce : GoodIn wsX1_init (va_wsS RX1 20 yX1_reduce wsX1_reduce) := goodIn_app (goodIn_of _ (by decide +kernel)) ggX1_init_X1_reduce
set_option maxRecDepth 20000 in
theorem ggX1_init_X2_set : GoodIn wsX1_init wsX2_set := goodIn_r _ [24, 13, 25, 26, 27, 6, 28, 45] (by decide +kernel) (by decide +kernel)
set_option maxRecDepth 20000 in
theorem gX1_init_X2_set : GoodIn wsX1_init (wsV RX1 24 RX2 yX2_set wsX2_set) := goodIn_app (goodIn_of _ (by decide +kernel)) ggX1_init_X2_set
theorem dX1_init_0 : decode cX1_init 0 = .ok (.aload_n 0, 1) := by decide +kernel
theorem dX1_init_1 : decode cX1_init 1 = .ok (.invokespecial 3, 3) := by decide +kernel
theorem dX1_init_4 : decode cX1_init 4 = .ok (.aload_n 0, 1) := by decide +kernel
theorem dX1_init_5 : decode cX1_init 5 = .ok (.new 9, 3) := by decide +kernel
theorem dX1_init_8 : decode cX1_init 8 = .ok (.dup, 1) := by decide +kernel
theorem dX1_init_9 : decode cX1_init 9 = .ok (.sipush 1296, 3) := by decide +kernel
theorem dX1_init_12 : decode cX1_init 12 = .ok (.invokespecial 11, 3) := by decide +kernel
theorem dX1_init_15 : decode cX1_init 15 = .ok (.putfield 14, 3) := by decide +kernel
theorem dX1_init_18 : decode cX1_init 18 = .ok (.new 9, 3) := by decide +kernel
theorem dX1_init_21 : decode cX1_init 21 = .ok (.dup, 1) := by decide +kernel
theorem dX1_init_22 : decode cX1_init 22 = .ok (.iconst 4, 1) := by decide +kernel
theorem dX1_init_23 : decode cX1_init 23 = .ok (.invokespecial 11, 3) := by decide +kernel
theorem dX1_init_26 : decode cX1_init 26 = .ok (.astore_n 1, 1) := by decide +kernel
theorem dX1_init_27 : decode cX1_init 27 = .ok (.iconst 0, 1) := by decide +kernel
theorem dX1_init_28 : decode cX1_init 28 = .ok (.istore_n 2, 1) := by decide +kernel
theorem dX1_init_29 : decode cX1_init 29 = .ok (.iload_n 2, 1) := by decide +kernel
theorem dX1_init_30 : decode cX1_init 30 = .ok (.sipush 1296, 3) := by decide +kernel
theorem dX1_init_33 : decode cX1_init 33 = .ok (.if_icmp .ge 22, 3) := by decide +kernel
theorem dX1_init_36 : decode cX1_init 36 = .ok (.aload_n 0, 1) := by decide +kernel
theorem dX1_init_37 : decode cX1_init 37 = .ok (.getfield 14, 3) := by decide +kernel
theorem dX1_init_40 : decode cX1_init 40 = .ok (.iload_n 2, 1) := by decide +kernel
theorem dX1_init_41 : decode cX1_init 41 = .ok (.iload_n 2, 1) := by decide +kernel
theorem dX1_init_42 : decode cX1_init 42 = .ok (.aload_n 1, 1) := by decide +kernel
theorem dX1_init_43 : decode cX1_init 43 = .ok (.invokestatic 20, 3) := by decide +kernel
theorem dX1_init_46 : decode cX1_init 46 = .ok (.invokevirtual 24, 3) := by decide +kernel
theorem dX1_init_49 : decode cX1_init 49 = .ok (.iinc 2 1, 3) := by decide +kernel
theorem dX1_init_52 : decode cX1_init 52 = .ok (.goto (-23), 3) := by decide +kernel
theorem dX1_init_55 : decode cX1_init 55 = .ok (.return_, 1) := by decide +kernel
set_option maxRecDepth 20000 in
theorem ggX1_formOf_X2_get : GoodIn wsX1_formOf wsX2_get := goodIn_r _ [6, 7, 8, 9, 10, 5, 11, 13] (by decide +kernel) (by decide +kernel)
set_option maxRecDepth 20000 in
theorem gX1_formOf_X2_get : GoodIn wsX1_formOf (wsV RX1 28 RX2 yX2_get wsX2_get) := goodIn_app (goodIn_of _ (by decide +kernel)) ggX1_formOf_X2_get
theorem dX1_formOf_0 : decode cX1_formOf 0 = .ok (.aload_n 0, 1) := by decide +kernel
theorem dX1_formOf_1 : decode cX1_formOf 1 = .ok (.getfield 14, 3) := by decide +kernel
theorem dX1_formOf_4 : decode cX1_formOf 4 = .ok (.iload_n 1, 1) := by decide +kernel
theorem dX1_formOf_5 : decode cX1_formOf 5 = .ok (.invokevirtual 28, 3) := by decide +kernel
theorem dX1_formOf_8 : decode cX1_formOf 8 = .ok (.ireturn, 1) := by decide +kernel
set_option maxRecDepth 20000 in
theorem ggX1_isForm_X2_get : GoodIn wsX1_isForm wsX2_get := goodIn_r _ [6, 7, 8, 9, 10, 5, 11, 13] (by decide +kernel) (by decide +kernel)
set_option maxRecDepth 20000 in
theorem gX1_isForm_X2_get : GoodIn wsX1_isForm (wsV RX1 28 RX2 yX2_get wsX2_get) := goodIn_app (goodIn_of _ (by decide +kernel)) ggX1_isForm_X2_get
theorem dX1_isForm_0 : decode cX1_isForm 0 = .ok (.aload_n 0, 1) := by decide +kernel
theorem dX1_isForm_1 : decode cX1_isForm 1 = .ok (.getfield 14, 3) := by decide +kernel
theorem dX1_isForm_4 : decode cX1_isForm 4 = .ok (.iload_n 1, 1) := by decide +kernel
theorem dX1_isForm_5 : decode cX1_isForm 5 = .ok (.invokevirtual 28, 3) := by decide +kernel
theorem dX1_isForm_8 : decode cX1_isForm 8 = .ok (.iload_n 1, 1) := by decide +kernel
theorem dX1_isForm_9 : decode cX1_isForm 9 = .ok (.if_icmp .ne 7, 3) := by decide +kernel
theorem dX1_isForm_12 : decode cX1_isForm 12 = .ok (.iconst 1, 1) := by decide +kernel
theorem dX1_isForm_13 : decode cX1_isForm 13 = .ok (.goto 4, 3) := by decide +kernel
theorem dX1_isForm_16 : decode cX1_isForm 16 = .ok (.iconst 0, 1) := by decide +kernel
theorem dX1_isForm_17 : decode cX1_isForm 17 = .ok (.ireturn, 1) := by decide +kernel
set_option maxRecDepth 20000 in
theorem ggX1_behind_X1_without : GoodIn wsX1_behind wsX1_without := goodIn_r _ [4, 5, 6, 3, 7] (by decide +kernel) (by decide +kernel)
set_option maxRecDepth 20000 in
theorem gX1_behind_X1_without : GoodIn wsX1_behind (va_wsS RX1 32 yX1_without wsX1_without) := goodIn_app (goodIn_of _ (by decide +kernel)) ggX1_behind_X1_without
set_option maxRecDepth 20000 in
theorem ggX1_behind_X1_weightOf : GoodIn wsX1_behind wsX1_weightOf := goodIn_r _ [7] (by decide +kernel) (by decide +kernel)
set_option maxRecDepth 20000 in
theorem gX1_behind_X1_weightOf : GoodIn wsX1_behind (va_wsS RX1 36 yX1_weightOf wsX1_weightOf) := goodIn_app (goodIn_of _ (by decide +kernel)) ggX1_behind_X1_weightOf
set_option maxRecDepth 20000 in
theorem ggX1_behind_X1_formOf : GoodIn wsX1_behind wsX1_formOf := goodIn_r _ [11, 12, 13, 14, 15, 16, 17, 18, 19, 20, 21, 22, 23, 24] (by decide +kernel) (by decide +kernel)
set_option maxRecDepth 20000 in
theorem gX1_behind_X1_formOf : GoodIn wsX1_behind (wsV RX1 39 RX1 yX1_formOf wsX1_formOf) := goodIn_app (goodIn_of _ (by decide +kernel)) ggX1_behind_X1_formOf
theorem dX1_behind_0 : decode cX1_behind 0 = .ok (.aload_n 0, 1) := by decide +kernel
theorem dX1_behind_1 : decode cX1_behind 1 = .ok (.iload_n 1, 1) := by decide +kernel
theorem dX1_behind_2 : decode cX1_behind 2 = .ok (.iload_n 2, 1) := by decide +kernel
theorem dX1_behind_3 : decode cX1_behind 3 = .ok (.invokestatic 32, 3) := by decide +kernel
theorem dX1_behind_6 : decode cX1_behind 6 = .ok (.iload_n 3, 1) := by decide +kernel
theorem dX1_behind_7 : decode cX1_behind 7 = .ok (.iload_n 2, 1) := by decide +kernel
theorem dX1_behind_8 : decode cX1_behind 8 = .ok (.invokestatic 36, 3) := by decide +kernel
theorem dX1_behind_11 : decode cX1_behind 11 = .ok (.imul, 1) := by decide +kernel
theorem dX1_behind_12 : decode cX1_behind 12 = .ok (.iadd, 1) := by decide +kernel
theorem dX1_behind_13 : decode cX1_behind 13 = .ok (.invokevirtual 39, 3) := by decide +kernel
theorem dX1_behind_16 : decode cX1_behind 16 = .ok (.ireturn, 1) := by decide +kernel
theorem dX1_weightOf_0 : decode cX1_weightOf 0 = .ok (.iconst 1, 1) := by decide +kernel
theorem dX1_weightOf_1 : decode cX1_weightOf 1 = .ok (.istore_n 1, 1) := by decide +kernel
theorem dX1_weightOf_2 : decode cX1_weightOf 2 = .ok (.iload_n 0, 1) := by decide +kernel
theorem dX1_weightOf_3 : decode cX1_weightOf 3 = .ok (.iconst 1, 1) := by decide +kernel
theorem dX1_weightOf_4 : decode cX1_weightOf 4 = .ok (.iadd, 1) := by decide +kernel
theorem dX1_weightOf_5 : decode cX1_weightOf 5 = .ok (.istore_n 2, 1) := by decide +kernel
theorem dX1_weightOf_6 : decode cX1_weightOf 6 = .ok (.iload_n 2, 1) := by decide +kernel
theorem dX1_weightOf_7 : decode cX1_weightOf 7 = .ok (.iconst 4, 1) := by decide +kernel
theorem dX1_weightOf_8 : decode cX1_weightOf 8 = .ok (.if_icmp .ge 14, 3) := by decide +kernel
theorem dX1_weightOf_11 : decode cX1_weightOf 11 = .ok (.iload_n 1, 1) := by decide +kernel
theorem dX1_weightOf_12 : decode cX1_weightOf 12 = .ok (.bipush 6, 2) := by decide +kernel
theorem dX1_weightOf_14 : decode cX1_weightOf 14 = .ok (.imul, 1) := by decide +kernel
theorem dX1_weightOf_15 : decode cX1_weightOf 15 = .ok (.istore_n 1, 1) := by decide +kernel
theorem dX1_weightOf_16 : decode cX1_weightOf 16 = .ok (.iinc 2 1, 3) := by decide +kernel
theorem dX1_weightOf_19 : decode cX1_weightOf 19 = .ok (.goto (-13), 3) := by decide +kernel
theorem dX1_weightOf_22 : decode cX1_weightOf 22 = .ok (.iload_n 1, 1) := by decide +kernel
theorem dX1_weightOf_23 : decode cX1_weightOf 23 = .ok (.ireturn, 1) := by decide +kernel
set_option maxRecDepth 20000 in
theorem ggX1_without_X1_weightOf : GoodIn wsX1_without wsX1_weightOf := goodIn_r _ [4] (by decide +kernel) (by decide +kernel)
set_option maxRecDepth 20000 in
theorem gX1_without_X1_weightOf : GoodIn wsX1_without (va_wsS RX1 36 yX1_weightOf wsX1_weightOf) := goodIn_app (goodIn_of _ (by decide +kernel)) ggX1_without_X1_weightOf
theorem dX1_without_0 : decode cX1_without 0 = .ok (.iload_n 1, 1) := by decide +kernel
theorem dX1_without_1 : decode cX1_without 1 = .ok (.invokestatic 36, 3) := by decide +kernel
theorem dX1_without_4 : decode cX1_without 4 = .ok (.istore_n 2, 1) := by decide +kernel
theorem dX1_without_5 : decode cX1_without 5 = .ok (.iload_n 2, 1) := by decide +kernel
theorem dX1_without_6 : decode cX1_without 6 = .ok (.ifCond .le 16, 3) := by decide +kernel
theorem dX1_without_9 : decode cX1_without 9 = .ok (.iload_n 0, 1) := by decide +kernel
theorem dX1_without_10 : decode cX1_without 10 = .ok (.iload_n 0, 1) := by decide +kernel
theorem dX1_without_11 : decode cX1_without 11 = .ok (.iload_n 2, 1) := by decide +kernel
theorem dX1_without_12 : decode cX1_without 12 = .ok (.idiv, 1) := by decide +kernel
theorem dX1_without_13 : decode cX1_without 13 = .ok (.bipush 6, 2) := by decide +kernel
theorem dX1_without_15 : decode cX1_without 15 = .ok (.irem, 1) := by decide +kernel
theorem dX1_without_16 : decode cX1_without 16 = .ok (.iload_n 2, 1) := by decide +kernel
theorem dX1_without_17 : decode cX1_without 17 = .ok (.imul, 1) := by decide +kernel
theorem dX1_without_18 : decode cX1_without 18 = .ok (.isub, 1) := by decide +kernel
theorem dX1_without_19 : decode cX1_without 19 = .ok (.goto 4, 3) := by decide +kernel
theorem dX1_without_22 : decode cX1_without 22 = .ok (.iload_n 0, 1) := by decide +kernel
theorem dX1_without_23 : decode cX1_without 23 = .ok (.ireturn, 1) := by decide +kernel
set_option maxRecDepth 20000 in
theorem ggX1_reduce_X1_unpack : GoodIn wsX1_reduce wsX1_unpack := goodIn_r _ [4, 5, 6, 7, 8, 9, 10, 11, 12, 13, 14, 31] (by decide +kernel) (by decide +kernel)
set_option maxRecDepth 20000 in
theorem gX1_reduce_X1_unpack : GoodIn wsX1_reduce (va_wsS RX1 42 yX1_unpack wsX1_unpack) := goodIn_app (goodIn_of _ (by decide +kernel)) ggX1_reduce_X1_unpack
set_option maxRecDepth 20000 in
theorem ggX1_reduce_X1_rewriteOnce : GoodIn wsX1_reduce wsX1_rewriteOnce := goodIn_r _ [17, 18, 19, 20, 8, 21, 10, 11, 12, 13, 14, 22, 23, 3, 24, 25, 26, 27, 5, 6, 7, 9, 31] (by decide +kernel) (by decide +kernel)
set_option maxRecDepth 20000 in
theorem gX1_reduce_X1_rewriteOnce : GoodIn wsX1_reduce (va_wsS RX1 46 yX1_rewriteOnce wsX1_rewriteOnce) := goodIn_app (goodIn_of _ (by decide +kernel)) ggX1_reduce_X1_rewriteOnce
set_option maxRecDepth 20000 in
theorem ggX1_reduce_X1_pack : GoodIn wsX1_reduce wsX1_pack := goodIn_r _ [30, 18, 19, 20, 8, 21, 10, 11, 12, 13, 14, 31] (by decide +kernel) (by decide +kernel)
set_option maxRecDepth 20000 in
theorem gX1_reduce_X1_pack : GoodIn wsX1_reduce (va_wsS RX1 50 yX1_pack wsX1_pack) := goodIn_app (goodIn_of _ (by decide +kernel)) ggX1_reduce_X1_pack
theorem dX1_reduce_0 : decode cX1_reduce 0 = .ok (.iload_n 0, 1) := by decide +kernel
theorem dX1_reduce_1 : decode cX1_reduce 1 = .ok (.aload_n 1, 1) := by decide +kernel
theorem dX1_reduce_2 : decode cX1_reduce 2 = .ok (.invokestatic 42, 3) := by decide +kernel
theorem dX1_reduce_5 : decode cX1_reduce 5 = .ok (.iconst 1, 1) := by decide +kernel
theorem dX1_reduce_6 : decode cX1_reduce 6 = .ok (.istore_n 2, 1) := by decide +kernel
theorem dX1_reduce_7 : decode cX1_reduce 7 = .ok (.iconst 0, 1) := by decide +kernel
theorem dX1_reduce_8 : decode cX1_reduce 8 = .ok (.istore_n 3, 1) := by decide +kernel
theorem dX1_reduce_9 : decode cX1_reduce 9 = .ok (.iload_n 2, 1) := by decide +kernel
theorem dX1_reduce_10 : decode cX1_reduce 10 = .ok (.ifCond .eq 21, 3) := by decide +kernel
theorem dX1_reduce_13 : decode cX1_reduce 13 = .ok (.iload_n 3, 1) := by decide +kernel
theorem dX1_reduce_14 : decode cX1_reduce 14 = .ok (.sipush 1000, 3) := by decide +kernel
theorem dX1_reduce_17 : decode cX1_reduce 17 = .ok (.if_icmp .ge 14, 3) := by decide +kernel
theorem dX1_reduce_20 : decode cX1_reduce 20 = .ok (.aload_n 1, 1) := by decide +kernel
theorem dX1_reduce_21 : decode cX1_reduce 21 = .ok (.invokestatic 46, 3) := by decide +kernel
theorem dX1_reduce_24 : decode cX1_reduce 24 = .ok (.istore_n 2, 1) := by decide +kernel
theorem dX1_reduce_25 : decode cX1_reduce 25 = .ok (.iinc 3 1, 3) := by decide +kernel
theorem dX1_reduce_28 : decode cX1_reduce 28 = .ok (.goto (-19), 3) := by decide +kernel
theorem dX1_reduce_31 : decode cX1_reduce 31 = .ok (.aload_n 1, 1) := by decide +kernel
theorem dX1_reduce_32 : decode cX1_reduce 32 = .ok (.invokestatic 50, 3) := by decide +kernel
theorem dX1_reduce_35 : decode cX1_reduce 35 = .ok (.ireturn, 1) := by decide +kernel
set_option maxRecDepth 20000 in
theorem ggX1_unpack_X2_set : GoodIn wsX1_unpack wsX2_set := goodIn_r _ [5, 6, 7, 8, 9, 4, 10, 11] (by decide +kernel) (by decide +kernel)
set_option maxRecDepth 20000 in
theorem gX1_unpack_X2_set : GoodIn wsX1_unpack (wsV RX1 24 RX2 yX2_set wsX2_set) := goodIn_app (goodIn_of _ (by decide +kernel)) ggX1_unpack_X2_set
theorem dX1_unpack_0 : decode cX1_unpack 0 = .ok (.iload_n 0, 1) := by decide +kernel
theorem dX1_unpack_1 : decode cX1_unpack 1 = .ok (.istore_n 2, 1) := by decide +kernel
theorem dX1_unpack_2 : decode cX1_unpack 2 = .ok (.iconst 3, 1) := by decide +kernel
theorem dX1_unpack_3 : decode cX1_unpack 3 = .ok (.istore_n 3, 1) := by decide +kernel
theorem dX1_unpack_4 : decode cX1_unpack 4 = .ok (.iload_n 3, 1) := by decide +kernel
theorem dX1_unpack_5 : decode cX1_unpack 5 = .ok (.ifCond .lt 23, 3) := by decide +kernel
theorem dX1_unpack_8 : decode cX1_unpack 8 = .ok (.aload_n 1, 1) := by decide +kernel
theorem dX1_unpack_9 : decode cX1_unpack 9 = .ok (.iload_n 3, 1) := by decide +kernel
theorem dX1_unpack_10 : decode cX1_unpack 10 = .ok (.iload_n 2, 1) := by decide +kernel
theorem dX1_unpack_11 : decode cX1_unpack 11 = .ok (.bipush 6, 2) := by decide +kernel
theorem dX1_unpack_13 : decode cX1_unpack 13 = .ok (.irem, 1) := by decide +kernel
theorem dX1_unpack_14 : decode cX1_unpack 14 = .ok (.invokevirtual 24, 3) := by decide +kernel
theorem dX1_unpack_17 : decode cX1_unpack 17 = .ok (.iload_n 2, 1) := by decide +kernel
theorem dX1_unpack_18 : decode cX1_unpack 18 = .ok (.bipush 6, 2) := by decide +kernel
theorem dX1_unpack_20 : decode cX1_unpack 20 = .ok (.idiv, 1) := by decide +kernel
theorem dX1_unpack_21 : decode cX1_unpack 21 = .ok (.istore_n 2, 1) := by decide +kernel
theorem dX1_unpack_22 : decode cX1_unpack 22 = .ok (.iinc 3 (-1), 3) := by decide +kernel
theorem dX1_unpack_25 : decode cX1_unpack 25 = .ok (.goto (-21), 3) := by decide +kernel
theorem dX1_unpack_28 : decode cX1_unpack 28 = .ok (.return_, 1) := by decide +kernel
set_option maxRecDepth 20000 in
theorem ggX1_pack_X2_get : GoodIn wsX1_pack wsX2_get := goodIn_r _ [5, 6, 7, 8, 9, 4, 10, 11] (by decide +kernel) (by decide +kernel)
set_option maxRecDepth 20000 in
theorem gX1_pack_X2_get : GoodIn wsX1_pack (wsV RX1 28 RX2 yX2_get wsX2_get) := goodIn_app (goodIn_of _ (by decide +kernel)) ggX1_pack_X2_get
theorem dX1_pack_0 : decode cX1_pack 0 = .ok (.iconst 0, 1) := by decide +kernel
theorem dX1_pack_1 : decode cX1_pack 1 = .ok (.istore_n 1, 1) := by decide +kernel
theorem dX1_pack_2 : decode cX1_pack 2 = .ok (.iconst 0, 1) := by decide +kernel
theorem dX1_pack_3 : decode cX1_pack 3 = .ok (.istore_n 2, 1) := by decide +kernel
theorem dX1_pack_4 : decode cX1_pack 4 = .ok (.iload_n 2, 1) := by decide +kernel
theorem dX1_pack_5 : decode cX1_pack 5 = .ok (.iconst 4, 1) := by decide +kernel
theorem dX1_pack_6 : decode cX1_pack 6 = .ok (.if_icmp .ge 20, 3) := by decide +kernel
theorem dX1_pack_9 : decode cX1_pack 9 = .ok (.iload_n 1, 1) := by decide +kernel
theorem dX1_pack_10 : decode cX1_pack 10 = .ok (.bipush 6, 2) := by decide +kernel
theorem dX1_pack_12 : decode cX1_pack 12 = .ok (.imul, 1) := by decide +kernel
theorem dX1_pack_13 : decode cX1_pack 13 = .ok (.aload_n 0, 1) := by decide +kernel
theorem dX1_pack_14 : decode cX1_pack 14 = .ok (.iload_n 2, 1) := by decide +kernel
theorem dX1_pack_15 : decode cX1_pack 15 = .ok (.invokevirtual 28, 3) := by decide +kernel
theorem dX1_pack_18 : decode cX1_pack 18 = .ok (.iadd, 1) := by decide +kernel
theorem dX1_pack_19 : decode cX1_pack 19 = .ok (.istore_n 1, 1) := by decide +kernel
theorem dX1_pack_20 : decode cX1_pack 20 = .ok (.iinc 2 1, 3) := by decide +kernel
theorem dX1_pack_23 : decode cX1_pack 23 = .ok (.goto (-19), 3) := by decide +kernel
theorem dX1_pack_26 : decode cX1_pack 26 = .ok (.iload_n 1, 1) := by decide +kernel
theorem dX1_pack_27 : decode cX1_pack 27 = .ok (.ireturn, 1) := by decide +kernel
set_option maxRecDepth 20000 in
theorem ggX1_rewriteOnce_X2_get : GoodIn wsX1_rewriteOnce wsX2_get := goodIn_r _ [5, 6, 7, 8, 9, 4, 10, 22] (by decide +kernel) (by decide +kernel)
set_option maxRecDepth 20000 in
theorem gX1_rewriteOnce_X2_get : GoodIn wsX1_rewriteOnce (wsV RX1 28 RX2 yX2_get wsX2_get) := goodIn_app (goodIn_of _ (by decide +kernel)) ggX1_rewriteOnce_X2_get
set_option maxRecDepth 20000 in
theorem ggX1_rewriteOnce_X1_isUsable : GoodIn wsX1_rewriteOnce wsX1_isUsable := goodIn_r _ [14] (by decide +kernel) (by decide +kernel)
set_option maxRecDepth 20000 in
theorem gX1_rewriteOnce_X1_isUsable : GoodIn wsX1_rewriteOnce (va_wsS RX1 54 yX1_isUsable wsX1_isUsable) := goodIn_app (goodIn_of _ (by decide +kernel)) ggX1_rewriteOnce_X1_isUsable
set_option maxRecDepth 20000 in
theorem ggX1_rewriteOnce_X1_use : GoodIn wsX1_rewriteOnce wsX1_use := goodIn_r _ [17, 1, 2, 3, 4, 5, 6, 7, 8, 9, 10, 18, 19, 20, 21, 22] (by decide +kernel) (by decide +kernel)
set_option maxRecDepth 20000 in
theorem gX1_rewriteOnce_X1_use : GoodIn wsX1_rewriteOnce (va_wsS RX1 58 yX1_use wsX1_use) := goodIn_app (goodIn_of _ (by decide +kernel)) ggX1_rewriteOnce_X1_use
theorem dX1_rewriteOnce_0 : decode cX1_rewriteOnce 0 = .ok (.iconst 1, 1) := by decide +kernel
theorem dX1_rewriteOnce_1 : decode cX1_rewriteOnce 1 = .ok (.istore_n 1, 1) := by decide +kernel
theorem dX1_rewriteOnce_2 : decode cX1_rewriteOnce 2 = .ok (.iload_n 1, 1) := by decide +kernel
theorem dX1_rewriteOnce_3 : decode cX1_rewriteOnce 3 = .ok (.iconst 4, 1) := by decide +kernel
theorem dX1_rewriteOnce_4 : decode cX1_rewriteOnce 4 = .ok (.if_icmp .gt 51, 3) := by decide +kernel
theorem dX1_rewriteOnce_7 : decode cX1_rewriteOnce 7 = .ok (.iconst 0, 1) := by decide +kernel
theorem dX1_rewriteOnce_8 : decode cX1_rewriteOnce 8 = .ok (.istore_n 2, 1) := by decide +kernel
theorem dX1_rewriteOnce_9 : decode cX1_rewriteOnce 9 = .ok (.iload_n 2, 1) := by decide +kernel
theorem dX1_rewriteOnce_10 : decode cX1_rewriteOnce 10 = .ok (.iconst 1, 1) := by decide +kernel
theorem dX1_rewriteOnce_11 : decode cX1_rewriteOnce 11 = .ok (.iadd, 1) := by decide +kernel
theorem dX1_rewriteOnce_12 : decode cX1_rewriteOnce 12 = .ok (.iconst 4, 1) := by decide +kernel
theorem dX1_rewriteOnce_13 : decode cX1_rewriteOnce 13 = .ok (.if_icmp .ge 36, 3) := by decide +kernel
theorem dX1_rewriteOnce_16 : decode cX1_rewriteOnce 16 = .ok (.iload_n 1, 1) := by decide +kernel
theorem dX1_rewriteOnce_17 : decode cX1_rewriteOnce 17 = .ok (.aload_n 0, 1) := by decide +kernel
theorem dX1_rewriteOnce_18 : decode cX1_rewriteOnce 18 = .ok (.iload_n 2, 1) := by decide +kernel
theorem dX1_rewriteOnce_19 : decode cX1_rewriteOnce 19 = .ok (.invokevirtual 28, 3) := by decide +kernel
theorem dX1_rewriteOnce_22 : decode cX1_rewriteOnce 22 = .ok (.aload_n 0, 1) := by decide +kernel
theorem dX1_rewriteOnce_23 : decode cX1_rewriteOnce 23 = .ok (.iload_n 2, 1) := by decide +kernel
theorem dX1_rewriteOnce_24 : decode cX1_rewriteOnce 24 = .ok (.iconst 1, 1) := by decide +kernel
theorem dX1_rewriteOnce_25 : decode cX1_rewriteOnce 25 = .ok (.iadd, 1) := by decide +kernel
theorem dX1_rewriteOnce_26 : decode cX1_rewriteOnce 26 = .ok (.invokevirtual 28, 3) := by decide +kernel
theorem dX1_rewriteOnce_29 : decode cX1_rewriteOnce 29 = .ok (.invokestatic 54, 3) := by decide +kernel
theorem dX1_rewriteOnce_32 : decode cX1_rewriteOnce 32 = .ok (.ifCond .eq 11, 3) := by decide +kernel
theorem dX1_rewriteOnce_35 : decode cX1_rewriteOnce 35 = .ok (.iload_n 1, 1) := by decide +kernel
theorem dX1_rewriteOnce_36 : decode cX1_rewriteOnce 36 = .ok (.aload_n 0, 1) := by decide +kernel
theorem dX1_rewriteOnce_37 : decode cX1_rewriteOnce 37 = .ok (.iload_n 2, 1) := by decide +kernel
theorem dX1_rewriteOnce_38 : decode cX1_rewriteOnce 38 = .ok (.invokestatic 58, 3) := by decide +kernel
theorem dX1_rewriteOnce_41 : decode cX1_rewriteOnce 41 = .ok (.iconst 1, 1) := by decide +kernel
theorem dX1_rewriteOnce_42 : decode cX1_rewriteOnce 42 = .ok (.ireturn, 1) := by decide +kernel
theorem dX1_rewriteOnce_43 : decode cX1_rewriteOnce 43 = .ok (.iinc 2 1, 3) := by decide +kernel
theorem dX1_rewriteOnce_46 : decode cX1_rewriteOnce 46 = .ok (.goto (-37), 3) := by decide +kernel
theorem dX1_rewriteOnce_49 : decode cX1_rewriteOnce 49 = .ok (.iinc 1 1, 3) := by decide +kernel
theorem dX1_rewriteOnce_52 : decode cX1_rewriteOnce 52 = .ok (.goto (-50), 3) := by decide +kernel
theorem dX1_rewriteOnce_55 : decode cX1_rewriteOnce 55 = .ok (.iconst 0, 1) := by decide +kernel
theorem dX1_rewriteOnce_56 : decode cX1_rewriteOnce 56 = .ok (.ireturn, 1) := by decide +kernel
theorem dX1_isUsable_0 : decode cX1_isUsable 0 = .ok (.iload_n 0, 1) := by decide +kernel
theorem dX1_isUsable_1 : decode cX1_isUsable 1 = .ok (.tableswitch 73 1 3 #[27, 41, 57], 27) := by decide +kernel
theorem dX1_isUsable_28 : decode cX1_isUsable 28 = .ok (.iload_n 1, 1) := by decide +kernel
theorem dX1_isUsable_29 : decode cX1_isUsable 29 = .ok (.ifCond .ne 11, 3) := by decide +kernel
theorem dX1_isUsable_32 : decode cX1_isUsable 32 = .ok (.iload_n 2, 1) := by decide +kernel
theorem dX1_isUsable_33 : decode cX1_isUsable 33 = .ok (.ifCond .eq 7, 3) := by decide +kernel
theorem dX1_isUsable_36 : decode cX1_isUsable 36 = .ok (.iconst 1, 1) := by decide +kernel
theorem dX1_isUsable_37 : decode cX1_isUsable 37 = .ok (.goto 4, 3) := by decide +kernel
theorem dX1_isUsable_40 : decode cX1_isUsable 40 = .ok (.iconst 0, 1) := by decide +kernel
theorem dX1_isUsable_41 : decode cX1_isUsable 41 = .ok (.ireturn, 1) := by decide +kernel
theorem dX1_isUsable_42 : decode cX1_isUsable 42 = .ok (.iload_n 1, 1) := by decide +kernel
theorem dX1_isUsable_43 : decode cX1_isUsable 43 = .ok (.iconst 5, 1) := by decide +kernel
theorem dX1_isUsable_44 : decode cX1_isUsable 44 = .ok (.if_icmp .ne 12, 3) := by decide +kernel
theorem dX1_isUsable_47 : decode cX1_isUsable 47 = .ok (.iload_n 2, 1) := by decide +kernel
theorem dX1_isUsable_48 : decode cX1_isUsable 48 = .ok (.iconst 4, 1) := by decide +kernel
theorem dX1_isUsable_49 : decode cX1_isUsable 49 = .ok (.if_icmp .ne 7, 3) := by decide +kernel
theorem dX1_isUsable_52 : decode cX1_isUsable 52 = .ok (.iconst 1, 1) := by decide +kernel
theorem dX1_isUsable_53 : decode cX1_isUsable 53 = .ok (.goto 4, 3) := by decide +kernel
theorem dX1_isUsable_56 : decode cX1_isUsable 56 = .ok (.iconst 0, 1) := by decide +kernel
theorem dX1_isUsable_57 : decode cX1_isUsable 57 = .ok (.ireturn, 1) := by decide +kernel
theorem dX1_isUsable_58 : decode cX1_isUsable 58 = .ok (.iload_n 1, 1) := by decide +kernel
theorem dX1_isUsable_59 : decode cX1_isUsable 59 = .ok (.iconst 3, 1) := by decide +kernel
theorem dX1_isUsable_60 : decode cX1_isUsable 60 = .ok (.if_icmp .ne 12, 3) := by decide +kernel
theorem dX1_isUsable_63 : decode cX1_isUsable 63 = .ok (.iload_n 2, 1) := by decide +kernel
theorem dX1_isUsable_64 : decode cX1_isUsable 64 = .ok (.iconst 3, 1) := by decide +kernel
theorem dX1_isUsable_65 : decode cX1_isUsable 65 = .ok (.if_icmp .ne 7, 3) := by decide +kernel
theorem dX1_isUsable_68 : decode cX1_isUsable 68 = .ok (.iconst 1, 1) := by decide +kernel
theorem dX1_isUsable_69 : decode cX1_isUsable 69 = .ok (.goto 4, 3) := by decide +kernel
theorem dX1_isUsable_72 : decode cX1_isUsable 72 = .ok (.iconst 0, 1) := by decide +kernel
theorem dX1_isUsable_73 : decode cX1_isUsable 73 = .ok (.ireturn, 1) := by decide +kernel
theorem dX1_isUsable_74 : decode cX1_isUsable 74 = .ok (.iload_n 1, 1) := by decide +kernel
theorem dX1_isUsable_75 : decode cX1_isUsable 75 = .ok (.iconst 2, 1) := by decide +kernel
theorem dX1_isUsable_76 : decode cX1_isUsable 76 = .ok (.if_icmp .ne 12, 3) := by decide +kernel
theorem dX1_isUsable_79 : decode cX1_isUsable 79 = .ok (.iload_n 2, 1) := by decide +kernel
theorem dX1_isUsable_80 : decode cX1_isUsable 80 = .ok (.iconst 1, 1) := by decide +kernel
theorem dX1_isUsable_81 : decode cX1_isUsable 81 = .ok (.if_icmp .ne 7, 3) := by decide +kernel
theorem dX1_isUsable_84 : decode cX1_isUsable 84 = .ok (.iconst 1, 1) := by decide +kernel
theorem dX1_isUsable_85 : decode cX1_isUsable 85 = .ok (.goto 4, 3) := by decide +kernel
theorem dX1_isUsable_88 : decode cX1_isUsable 88 = .ok (.iconst 0, 1) := by decide +kernel
theorem dX1_isUsable_89 : decode cX1_isUsable 89 = .ok (.ireturn, 1) := by decide +kernel
set_option maxRecDepth 20000 in
theorem ggX1_use_X2_get : GoodIn wsX1_use wsX2_get := goodIn_r _ [5, 6, 7, 8, 9, 4, 10, 15] (by decide +kernel) (by decide +kernel)
set_option maxRecDepth 20000 in
theorem gX1_use_X2_get : GoodIn wsX1_use (wsV RX1 28 RX2 yX2_get wsX2_get) := goodIn_app (goodIn_of _ (by decide +kernel)) ggX1_use_X2_get
set_option maxRecDepth 20000 in
theorem ggX1_use_X2_set : GoodIn wsX1_use wsX2_set := goodIn_r _ [14, 6, 7, 8, 9, 4, 10, 15] (by decide +kernel) (by decide +kernel)
set_option maxRecDepth 20000 in
theorem gX1_use_X2_set : GoodIn wsX1_use (wsV RX1 24 RX2 yX2_set wsX2_set) := goodIn_app (goodIn_of _ (by decide +kernel)) ggX1_use_X2_set
theorem dX1_use_0 : decode cX1_use 0 = .ok (.aload_n 1, 1) := by decide +kernel
theorem dX1_use_1 : decode cX1_use 1 = .ok (.iload_n 2, 1) := by decide +kernel
theorem dX1_use_2 : decode cX1_use 2 = .ok (.invokevirtual 28, 3) := by decide +kernel
theorem dX1_use_5 : decode cX1_use 5 = .ok (.istore_n 3, 1) := by decide +kernel
theorem dX1_use_6 : decode cX1_use 6 = .ok (.aload_n 1, 1) := by decide +kernel
theorem dX1_use_7 : decode cX1_use 7 = .ok (.iload_n 2, 1) := by decide +kernel
theorem dX1_use_8 : decode cX1_use 8 = .ok (.iconst 1, 1) := by decide +kernel
theorem dX1_use_9 : decode cX1_use 9 = .ok (.iadd, 1) := by decide +kernel
theorem dX1_use_10 : decode cX1_use 10 = .ok (.invokevirtual 28, 3) := by decide +kernel
theorem dX1_use_13 : decode cX1_use 13 = .ok (.istore 4, 2) := by decide +kernel
theorem dX1_use_15 : decode cX1_use 15 = .ok (.iload_n 0, 1) := by decide +kernel
theorem dX1_use_16 : decode cX1_use 16 = .ok (.tableswitch 57 1 3 #[28, 28, 46], 28) := by decide +kernel
theorem dX1_use_44 : decode cX1_use 44 = .ok (.aload_n 1, 1) := by decide +kernel
theorem dX1_use_45 : decode cX1_use 45 = .ok (.iload_n 2, 1) := by decide +kernel
theorem dX1_use_46 : decode cX1_use 46 = .ok (.iload 4, 2) := by decide +kernel
theorem dX1_use_48 : decode cX1_use 48 = .ok (.invokevirtual 24, 3) := by decide +kernel
theorem dX1_use_51 : decode cX1_use 51 = .ok (.aload_n 1, 1) := by decide +kernel
theorem dX1_use_52 : decode cX1_use 52 = .ok (.iload_n 2, 1) := by decide +kernel
theorem dX1_use_53 : decode cX1_use 53 = .ok (.iconst 1, 1) := by decide +kernel
theorem dX1_use_54 : decode cX1_use 54 = .ok (.iadd, 1) := by decide +kernel
theorem dX1_use_55 : decode cX1_use 55 = .ok (.iload_n 3, 1) := by decide +kernel
theorem dX1_use_56 : decode cX1_use 56 = .ok (.invokevirtual 24, 3) := by decide +kernel
theorem dX1_use_59 : decode cX1_use 59 = .ok (.goto 28, 3) := by decide +kernel
theorem dX1_use_62 : decode cX1_use 62 = .ok (.aload_n 1, 1) := by decide +kernel
theorem dX1_use_63 : decode cX1_use 63 = .ok (.iload_n 2, 1) := by decide +kernel
theorem dX1_use_64 : decode cX1_use 64 = .ok (.iconst 1, 1) := by decide +kernel
theorem dX1_use_65 : decode cX1_use 65 = .ok (.iadd, 1) := by decide +kernel
theorem dX1_use_66 : decode cX1_use 66 = .ok (.iconst 0, 1) := by decide +kernel
theorem dX1_use_67 : decode cX1_use 67 = .ok (.invokevirtual 24, 3) := by decide +kernel
theorem dX1_use_70 : decode cX1_use 70 = .ok (.goto 17, 3) := by decide +kernel
theorem dX1_use_73 : decode cX1_use 73 = .ok (.aload_n 1, 1) := by decide +kernel
theorem dX1_use_74 : decode cX1_use 74 = .ok (.iload_n 2, 1) := by decide +kernel
theorem dX1_use_75 : decode cX1_use 75 = .ok (.iconst 0, 1) := by decide +kernel
theorem dX1_use_76 : decode cX1_use 76 = .ok (.invokevirtual 24, 3) := by decide +kernel
theorem dX1_use_79 : decode cX1_use 79 = .ok (.aload_n 1, 1) := by decide +kernel
theorem dX1_use_80 : decode cX1_use 80 = .ok (.iload_n 2, 1) := by decide +kernel
theorem dX1_use_81 : decode cX1_use 81 = .ok (.iconst 1, 1) := by decide +kernel
theorem dX1_use_82 : decode cX1_use 82 = .ok (.iadd, 1) := by decide +kernel
theorem dX1_use_83 : decode cX1_use 83 = .ok (.iconst 0, 1) := by decide +kernel
theorem dX1_use_84 : decode cX1_use 84 = .ok (.invokevirtual 24, 3) := by decide +kernel
theorem dX1_use_87 : decode cX1_use 87 = .ok (.return_, 1) := by decide +kernel
end
section
set_option maxRecDepth 20000 in
theorem ggX3_init_X2_init : GoodIn wsX3_init wsX2_init := goodIn_r _ [11, 12, 2, 3, 13, 14, 15] (by decide +kernel) (by decide +kernel)
set_option maxRecDepth 20000 in
theorem gX3_init_X2_init : GoodIn wsX3_init (wsX2_init) := ggX3_init_X2_init
theorem dX3_init_0 : decode cX3_init 0 = .ok (.aload_n 0, 1) := by decide +kernel
theorem dX3_init_1 : decode cX3_init 1 = .ok (.invokespecial 3, 3) := by decide +kernel
theorem dX3_init_4 : decode cX3_init 4 = .ok (.aload_n 0, 1) := by decide +kernel
theorem dX3_init_5 : decode cX3_init 5 = .ok (.new 9, 3) := by decide +kernel
theorem dX3_init_8 : decode cX3_init 8 = .ok (.dup, 1) := by decide +kernel
theorem dX3_init_9 : decode cX3_init 9 = .ok (.sipush 1296, 3) := by decide +kernel
theorem dX3_init_12 : decode cX3_init 12 = .ok (.invokespecial 11, 3) := by decide +kernel
theorem dX3_init_15 : decode cX3_init 15 = .ok (.putfield 14, 3) := by decide +kernel
theorem dX3_init_18 : decode cX3_init 18 = .ok (.aload_n 0, 1) := by decide +kernel
theorem dX3_init_19 : decode cX3_init 19 = .ok (.new 9, 3) := by decide +kernel
theorem dX3_init_22 : decode cX3_init 22 = .ok (.dup, 1) := by decide +kernel
theorem dX3_init_23 : decode cX3_init 23 = .ok (.sipush 1296, 3) := by decide +kernel
theorem dX3_init_26 : decode cX3_init 26 = .ok (.invokespecial 11, 3) := by decide +kernel
theorem dX3_init_29 : decode cX3_init 29 = .ok (.putfield 20, 3) := by decide +kernel
theorem dX3_init_32 : decode cX3_init 32 = .ok (.return_, 1) := by decide +kernel
set_option maxRecDepth 20000 in
theorem ggX3_editsKnown_X2_get : GoodIn wsX3_editsKnown wsX2_get := goodIn_r _ [6, 7, 8, 9, 10, 5, 11, 14] (by decide +kernel) (by decide +kernel)
set_option maxRecDepth 20000 in
theorem gX3_editsKnown_X2_get : GoodIn wsX3_editsKnown (wsV RX3 23 RX2 yX2_get wsX2_get) := goodIn_app (goodIn_of _ (by decide +kernel)) ggX3_editsKnown_X2_get
theorem dX3_editsKnown_0 : decode cX3_editsKnown 0 = .ok (.aload_n 0, 1) := by decide +kernel
theorem dX3_editsKnown_1 : decode cX3_editsKnown 1 = .ok (.getfield 14, 3) := by decide +kernel
theorem dX3_editsKnown_4 : decode cX3_editsKnown 4 = .ok (.iload_n 1, 1) := by decide +kernel
theorem dX3_editsKnown_5 : decode cX3_editsKnown 5 = .ok (.invokevirtual 23, 3) := by decide +kernel
theorem dX3_editsKnown_8 : decode cX3_editsKnown 8 = .ok (.ireturn, 1) := by decide +kernel
set_option maxRecDepth 20000 in
theorem ggX3_forget_X2_fill : GoodIn wsX3_forget wsX2_fill := goodIn_r _ [7, 8, 9, 10, 11, 12, 15] (by decide +kernel) (by decide +kernel)
set_option maxRecDepth 20000 in
theorem gX3_forget_X2_fill : GoodIn wsX3_forget (wsV RX3 28 RX2 yX2_fill wsX2_fill) := goodIn_app (goodIn_of _ (by decide +kernel)) ggX3_forget_X2_fill
theorem dX3_forget_0 : decode cX3_forget 0 = .ok (.aload_n 0, 1) := by decide +kernel
theorem dX3_forget_1 : decode cX3_forget 1 = .ok (.getfield 14, 3) := by decide +kernel
theorem dX3_forget_4 : decode cX3_forget 4 = .ok (.ldc 27, 2) := by decide +kernel
theorem dX3_forget_6 : decode cX3_forget 6 = .ok (.invokevirtual 28, 3) := by decide +kernel
theorem dX3_forget_9 : decode cX3_forget 9 = .ok (.return_, 1) := by decide +kernel
set_option maxRecDepth 20000 in
theorem ggX3_mark_X2_set : GoodIn wsX3_mark wsX2_set := goodIn_r _ [6, 7, 8, 9, 10, 5, 11, 14] (by decide +kernel) (by decide +kernel)
set_option maxRecDepth 20000 in
theorem gX3_mark_X2_set : GoodIn wsX3_mark (wsV RX3 31 RX2 yX2_set wsX2_set) := goodIn_app (goodIn_of _ (by decide +kernel)) ggX3_mark_X2_set
theorem dX3_mark_0 : decode cX3_mark 0 = .ok (.aload_n 0, 1) := by decide +kernel
theorem dX3_mark_1 : decode cX3_mark 1 = .ok (.getfield 14, 3) := by decide +kernel
theorem dX3_mark_4 : decode cX3_mark 4 = .ok (.iload_n 1, 1) := by decide +kernel
theorem dX3_mark_5 : decode cX3_mark 5 = .ok (.iconst 0, 1) := by decide +kernel
theorem dX3_mark_6 : decode cX3_mark 6 = .ok (.invokevirtual 31, 3) := by decide +kernel
theorem dX3_mark_9 : decode cX3_mark 9 = .ok (.return_, 1) := by decide +kernel
set_option maxRecDepth 20000 in
theorem ggX3_countBehindOneEdit_X3_forget : GoodIn wsX3_countBehindOneEdit wsX3_forget := goodIn_r _ [5, 6, 7, 8, 9, 10, 11, 12, 13, 14, 15, 16, 17, 53, 54, 55] (by decide +kernel) (by decide +kernel)
set_option maxRecDepth 20000 in
theorem gX3_countBehindOneEdit_X3_forget : GoodIn wsX3_countBehindOneEdit (wsV RX3 35 RX3 yX3_forget wsX3_forget) := goodIn_app (goodIn_of _ (by decide +kernel)) ggX3_countBehindOneEdit_X3_forget
set_option maxRecDepth 20000 in
theorem ggX3_countBehindOneEdit_X3_mark : GoodIn wsX3_countBehindOneEdit wsX3_mark := goodIn_r _ [21, 6, 22, 23, 24, 11, 25, 13, 26, 27, 28, 29, 53, 54, 55] (by decide +kernel) (by decide +kernel)
set_option maxRecDepth 20000 in
theorem gX3_countBehindOneEdit_X3_mark : GoodIn wsX3_countBehindOneEdit (wsV RX3 38 RX3 yX3_mark wsX3_mark) := goodIn_app (goodIn_of _ (by decide +kernel)) ggX3_countBehindOneEdit_X3_mark
set_option maxRecDepth 20000 in
theorem ggX3_countBehindOneEdit_X3_queueNewBehind : GoodIn wsX3_countBehindOneEdit wsX3_queueNewBehind := goodIn_r _ [33, 6, 7, 34, 35, 36, 37, 38, 39, 40, 41, 42, 43, 44, 45, 46, 47, 48, 49, 50, 11, 51, 13, 26, 27, 28, 29, 52, 22, 23, 24, 25, 53, 54, 56, 55] (by decide +kernel) (by decide +kernel)
set_option maxRecDepth 20000 in
theorem gX3_countBehindOneEdit_X3_queueNewBehind : GoodIn wsX3_countBehindOneEdit (wsV RX3 41 RX3 yX3_queueNewBehind wsX3_queueNewBehind) := goodIn_app (goodIn_of _ (by decide +kernel)) ggX3_countBehindOneEdit_X3_queueNewBehind
theorem dX3_countBehindOneEdit_0 : decode cX3_countBehindOneEdit 0 = .ok (.aload_n 0, 1) := by decide +kernel
theorem dX3_countBehindOneEdit_1 : decode cX3_countBehindOneEdit 1 = .ok (.invokevirtual 35, 3) := by decide +kernel
theorem dX3_countBehindOneEdit_4 : decode cX3_countBehindOneEdit 4 = .ok (.aload_n 0, 1) := by decide +kernel
theorem dX3_countBehindOneEdit_5 : decode cX3_countBehindOneEdit 5 = .ok (.iload_n 2, 1) := by decide +kernel
theorem dX3_countBehindOneEdit_6 : decode cX3_countBehindOneEdit 6 = .ok (.invokevirtual 38, 3) := by decide +kernel
theorem dX3_countBehindOneEdit_9 : decode cX3_countBehindOneEdit 9 = .ok (.aload_n 0, 1) := by decide +kernel
theorem dX3_countBehindOneEdit_10 : decode cX3_countBehindOneEdit 10 = .ok (.aload_n 1, 1) := by decide +kernel
theorem dX3_countBehindOneEdit_11 : decode cX3_countBehindOneEdit 11 = .ok (.iload_n 2, 1) := by decide +kernel
theorem dX3_countBehindOneEdit_12 : decode cX3_countBehindOneEdit 12 = .ok (.iconst 1, 1) := by decide +kernel
theorem dX3_countBehindOneEdit_13 : decode cX3_countBehindOneEdit 13 = .ok (.invokevirtual 41, 3) := by decide +kernel
theorem dX3_countBehindOneEdit_16 : decode cX3_countBehindOneEdit 16 = .ok (.ireturn, 1) := by decide +kernel
set_option maxRecDepth 20000 in
theorem ggX3_goOutward_X3_forget : GoodIn wsX3_goOutward wsX3_forget := goodIn_r _ [6, 7, 8, 9, 10, 11, 12, 13, 14, 15, 16, 17, 18, 53, 54, 55] (by decide +kernel) (by decide +kernel)
set_option maxRecDepth 20000 in
theorem gX3_goOutward_X3_forget : GoodIn wsX3_goOutward (wsV RX3 35 RX3 yX3_forget wsX3_forget) := goodIn_app (goodIn_of _ (by decide +kernel)) ggX3_goOutward_X3_forget
set_option maxRecDepth 20000 in
theorem ggX3_goOutward_X3_mark : GoodIn wsX3_goOutward wsX3_mark := goodIn_r _ [22, 7, 23, 24, 25, 12, 26, 14, 27, 28, 29, 30, 53, 54, 55] (by decide +kernel) (by decide +kernel)
set_option maxRecDepth 20000 in
theorem gX3_goOutward_X3_mark : GoodIn wsX3_goOutward (wsV RX3 38 RX3 yX3_mark wsX3_mark) := goodIn_app (goodIn_of _ (by decide +kernel)) ggX3_goOutward_X3_mark
set_option maxRecDepth 20000 in
theorem ggX3_goOutward_X2_set : GoodIn wsX3_goOutward wsX2_set := goodIn_r _ [26, 14, 27, 28, 29, 12, 30, 55] (by decide +kernel) (by decide +kernel)
set_option maxRecDepth 20000 in
theorem gX3_goOutward_X2_set : GoodIn wsX3_goOutward (wsV RX3 31 RX2 yX2_set wsX2_set) := goodIn_app (goodIn_of _ (by decide +kernel)) ggX3_goOutward_X2_set
set_option maxRecDepth 20000 in
theorem ggX3_goOutward_X2_get : GoodIn wsX3_goOutward wsX2_get := goodIn_r _ [34, 14, 27, 28, 29, 12, 30, 55] (by decide +kernel) (by decide +kernel)
set_option maxRecDepth 20000 in
theorem gX3_goOutward_X2_get : GoodIn wsX3_goOutward (wsV RX3 23 RX2 yX2_get wsX2_get) := goodIn_app (goodIn_of _ (by decide +kernel)) ggX3_goOutward_X2_get
set_option maxRecDepth 20000 in
theorem ggX3_goOutward_X3_queueNewBehind : GoodIn wsX3_goOutward wsX3_queueNewBehind := goodIn_r _ [38, 7, 8, 1, 39, 40, 41, 42, 43, 44, 45, 46, 47, 48, 49, 50, 51, 52, 32, 33, 12, 34, 14, 27, 28, 29, 30, 31, 23, 24, 25, 26, 53, 54, 56, 55] (by decide +kernel) (by decide +kernel)
set_option maxRecDepth 20000 in
theorem gX3_goOutward_X3_queueNewBehind : GoodIn wsX3_goOutward (wsV RX3 41 RX3 yX3_queueNewBehind wsX3_queueNewBehind) := goodIn_app (goodIn_of _ (by decide +kernel)) ggX3_goOutward_X3_queueNewBehind
theorem dX3_goOutward_0 : decode cX3_goOutward 0 = .ok (.aload_n 0, 1) := by decide +kernel
theorem dX3_goOutward_1 : decode cX3_goOutward 1 = .ok (.invokevirtual 35, 3) := by decide +kernel
theorem dX3_goOutward_4 : decode cX3_goOutward 4 = .ok (.aload_n 0, 1) := by decide +kernel
theorem dX3_goOutward_5 : decode cX3_goOutward 5 = .ok (.iload_n 2, 1) := by decide +kernel
theorem dX3_goOutward_6 : decode cX3_goOutward 6 = .ok (.invokevirtual 38, 3) := by decide +kernel
theorem dX3_goOutward_9 : decode cX3_goOutward 9 = .ok (.aload_n 0, 1) := by decide +kernel
theorem dX3_goOutward_10 : decode cX3_goOutward 10 = .ok (.getfield 20, 3) := by decide +kernel
theorem dX3_goOutward_13 : decode cX3_goOutward 13 = .ok (.iconst 0, 1) := by decide +kernel
theorem dX3_goOutward_14 : decode cX3_goOutward 14 = .ok (.iload_n 2, 1) := by decide +kernel
theorem dX3_goOutward_15 : decode cX3_goOutward 15 = .ok (.invokevirtual 31, 3) := by decide +kernel
theorem dX3_goOutward_18 : decode cX3_goOutward 18 = .ok (.iconst 1, 1) := by decide +kernel
theorem dX3_goOutward_19 : decode cX3_goOutward 19 = .ok (.istore_n 3, 1) := by decide +kernel
theorem dX3_goOutward_20 : decode cX3_goOutward 20 = .ok (.iconst 0, 1) := by decide +kernel
theorem dX3_goOutward_21 : decode cX3_goOutward 21 = .ok (.istore 4, 2) := by decide +kernel
theorem dX3_goOutward_23 : decode cX3_goOutward 23 = .ok (.iload 4, 2) := by decide +kernel
theorem dX3_goOutward_25 : decode cX3_goOutward 25 = .ok (.iload_n 3, 1) := by decide +kernel
theorem dX3_goOutward_26 : decode cX3_goOutward 26 = .ok (.if_icmp .ge 33, 3) := by decide +kernel
theorem dX3_goOutward_29 : decode cX3_goOutward 29 = .ok (.iload 4, 2) := by decide +kernel
theorem dX3_goOutward_31 : decode cX3_goOutward 31 = .ok (.sipush 1296, 3) := by decide +kernel
theorem dX3_goOutward_34 : decode cX3_goOutward 34 = .ok (.if_icmp .ge 25, 3) := by decide +kernel
theorem dX3_goOutward_37 : decode cX3_goOutward 37 = .ok (.aload_n 0, 1) := by decide +kernel
theorem dX3_goOutward_38 : decode cX3_goOutward 38 = .ok (.aload_n 1, 1) := by decide +kernel
theorem dX3_goOutward_39 : decode cX3_goOutward 39 = .ok (.aload_n 0, 1) := by decide +kernel
theorem dX3_goOutward_40 : decode cX3_goOutward 40 = .ok (.getfield 20, 3) := by decide +kernel
theorem dX3_goOutward_43 : decode cX3_goOutward 43 = .ok (.iload 4, 2) := by decide +kernel
theorem dX3_goOutward_45 : decode cX3_goOutward 45 = .ok (.invokevirtual 23, 3) := by decide +kernel
theorem dX3_goOutward_48 : decode cX3_goOutward 48 = .ok (.iload_n 3, 1) := by decide +kernel
theorem dX3_goOutward_49 : decode cX3_goOutward 49 = .ok (.invokevirtual 41, 3) := by decide +kernel
theorem dX3_goOutward_52 : decode cX3_goOutward 52 = .ok (.istore_n 3, 1) := by decide +kernel
theorem dX3_goOutward_53 : decode cX3_goOutward 53 = .ok (.iinc 4 1, 3) := by decide +kernel
theorem dX3_goOutward_56 : decode cX3_goOutward 56 = .ok (.goto (-33), 3) := by decide +kernel
theorem dX3_goOutward_59 : decode cX3_goOutward 59 = .ok (.return_, 1) := by decide +kernel
set_option maxRecDepth 20000 in
theorem ggX3_queueNewBehind_X1_weightOf : GoodIn wsX3_queueNewBehind wsX1_weightOf := goodIn_r _ [7] (by decide +kernel) (by decide +kernel)
set_option maxRecDepth 20000 in
theorem gX3_queueNewBehind_X1_weightOf : GoodIn wsX3_queueNewBehind (va_wsS RX3 45 yX1_weightOf wsX1_weightOf) := goodIn_app (goodIn_of _ (by decide +kernel)) ggX3_queueNewBehind_X1_weightOf
set_option maxRecDepth 20000 in
theorem ggX3_queueNewBehind_X1_without : GoodIn wsX3_queueNewBehind wsX1_without := goodIn_r _ [10, 11, 5, 6, 7] (by decide +kernel) (by decide +kernel)
set_option maxRecDepth 20000 in
theorem gX3_queueNewBehind_X1_without : GoodIn wsX3_queueNewBehind (va_wsS RX3 50 yX1_without wsX1_without) := goodIn_app (goodIn_of _ (by decide +kernel)) ggX3_queueNewBehind_X1_without
set_option maxRecDepth 20000 in
theorem ggX3_queueNewBehind_X1_formOf : GoodIn wsX3_queueNewBehind wsX1_formOf := goodIn_r _ [15, 16, 17, 18, 19, 20, 21, 22, 23, 24, 25, 26, 34, 35] (by decide +kernel) (by decide +kernel)
set_option maxRecDepth 20000 in
theorem gX3_queueNewBehind_X1_formOf : GoodIn wsX3_queueNewBehind (wsV RX3 54 RX1 yX1_formOf wsX1_formOf) := goodIn_app (goodIn_of _ (by decide +kernel)) ggX3_queueNewBehind_X1_formOf
set_option maxRecDepth 20000 in
theorem ggX3_queueNewBehind_X2_get : GoodIn wsX3_queueNewBehind wsX2_get := goodIn_r _ [21, 22, 23, 24, 25, 20, 26, 35] (by decide +kernel) (by decide +kernel)
set_option maxRecDepth 20000 in
theorem gX3_queueNewBehind_X2_get : GoodIn wsX3_queueNewBehind (wsV RX3 23 RX2 yX2_get wsX2_get) := goodIn_app (goodIn_of _ (by decide +kernel)) ggX3_queueNewBehind_X2_get
set_option maxRecDepth 20000 in
theorem ggX3_queueNewBehind_X2_set : GoodIn wsX3_queueNewBehind wsX2_set := goodIn_r _ [31, 22, 23, 24, 25, 20, 26, 35] (by decide +kernel) (by decide +kernel)
set_option maxRecDepth 20000 in
theorem gX3_queueNewBehind_X2_set : GoodIn wsX3_queueNewBehind (wsV RX3 31 RX2 yX2_set wsX2_set) := goodIn_app (goodIn_of _ (by decide +kernel)) ggX3_queueNewBehind_X2_set
theorem dX3_queueNewBehind_0 : decode cX3_queueNewBehind 0 = .ok (.iload_n 3, 1) := by decide +kernel
theorem dX3_queueNewBehind_1 : decode cX3_queueNewBehind 1 = .ok (.istore 4, 2) := by decide +kernel
theorem dX3_queueNewBehind_3 : decode cX3_queueNewBehind 3 = .ok (.iconst 0, 1) := by decide +kernel
theorem dX3_queueNewBehind_4 : decode cX3_queueNewBehind 4 = .ok (.istore 5, 2) := by decide +kernel
theorem dX3_queueNewBehind_6 : decode cX3_queueNewBehind 6 = .ok (.iload 5, 2) := by decide +kernel
theorem dX3_queueNewBehind_8 : decode cX3_queueNewBehind 8 = .ok (.iconst 4, 1) := by decide +kernel
theorem dX3_queueNewBehind_9 : decode cX3_queueNewBehind 9 = .ok (.if_icmp .ge 101, 3) := by decide +kernel
theorem dX3_queueNewBehind_12 : decode cX3_queueNewBehind 12 = .ok (.iload 5, 2) := by decide +kernel
theorem dX3_queueNewBehind_14 : decode cX3_queueNewBehind 14 = .ok (.invokestatic 45, 3) := by decide +kernel
theorem dX3_queueNewBehind_17 : decode cX3_queueNewBehind 17 = .ok (.istore 6, 2) := by decide +kernel
theorem dX3_queueNewBehind_19 : decode cX3_queueNewBehind 19 = .ok (.iload_n 2, 1) := by decide +kernel
theorem dX3_queueNewBehind_20 : decode cX3_queueNewBehind 20 = .ok (.iload 5, 2) := by decide +kernel
theorem dX3_queueNewBehind_22 : decode cX3_queueNewBehind 22 = .ok (.invokestatic 50, 3) := by decide +kernel
theorem dX3_queueNewBehind_25 : decode cX3_queueNewBehind 25 = .ok (.istore 7, 2) := by decide +kernel
theorem dX3_queueNewBehind_27 : decode cX3_queueNewBehind 27 = .ok (.iconst 0, 1) := by decide +kernel
theorem dX3_queueNewBehind_28 : decode cX3_queueNewBehind 28 = .ok (.istore 8, 2) := by decide +kernel
theorem dX3_queueNewBehind_30 : decode cX3_queueNewBehind 30 = .ok (.iload 8, 2) := by decide +kernel
theorem dX3_queueNewBehind_32 : decode cX3_queueNewBehind 32 = .ok (.bipush 6, 2) := by decide +kernel
theorem dX3_queueNewBehind_34 : decode cX3_queueNewBehind 34 = .ok (.if_icmp .ge 70, 3) := by decide +kernel
theorem dX3_queueNewBehind_37 : decode cX3_queueNewBehind 37 = .ok (.aload_n 1, 1) := by decide +kernel
theorem dX3_queueNewBehind_38 : decode cX3_queueNewBehind 38 = .ok (.iload 7, 2) := by decide +kernel
theorem dX3_queueNewBehind_40 : decode cX3_queueNewBehind 40 = .ok (.iload 8, 2) := by decide +kernel
theorem dX3_queueNewBehind_42 : decode cX3_queueNewBehind 42 = .ok (.iload 6, 2) := by decide +kernel
theorem dX3_queueNewBehind_44 : decode cX3_queueNewBehind 44 = .ok (.imul, 1) := by decide +kernel
theorem dX3_queueNewBehind_45 : decode cX3_queueNewBehind 45 = .ok (.iadd, 1) := by decide +kernel
theorem dX3_queueNewBehind_46 : decode cX3_queueNewBehind 46 = .ok (.invokevirtual 54, 3) := by decide +kernel
theorem dX3_queueNewBehind_49 : decode cX3_queueNewBehind 49 = .ok (.istore 9, 2) := by decide +kernel
theorem dX3_queueNewBehind_51 : decode cX3_queueNewBehind 51 = .ok (.aload_n 0, 1) := by decide +kernel
theorem dX3_queueNewBehind_52 : decode cX3_queueNewBehind 52 = .ok (.getfield 14, 3) := by decide +kernel
theorem dX3_queueNewBehind_55 : decode cX3_queueNewBehind 55 = .ok (.iload 9, 2) := by decide +kernel
theorem dX3_queueNewBehind_57 : decode cX3_queueNewBehind 57 = .ok (.invokevirtual 23, 3) := by decide +kernel
theorem dX3_queueNewBehind_60 : decode cX3_queueNewBehind 60 = .ok (.ldc 27, 2) := by decide +kernel
theorem dX3_queueNewBehind_62 : decode cX3_queueNewBehind 62 = .ok (.if_icmp .ne 36, 3) := by decide +kernel
theorem dX3_queueNewBehind_65 : decode cX3_queueNewBehind 65 = .ok (.aload_n 0, 1) := by decide +kernel
theorem dX3_queueNewBehind_66 : decode cX3_queueNewBehind 66 = .ok (.getfield 14, 3) := by decide +kernel
theorem dX3_queueNewBehind_69 : decode cX3_queueNewBehind 69 = .ok (.iload 9, 2) := by decide +kernel
theorem dX3_queueNewBehind_71 : decode cX3_queueNewBehind 71 = .ok (.aload_n 0, 1) := by decide +kernel
theorem dX3_queueNewBehind_72 : decode cX3_queueNewBehind 72 = .ok (.getfield 14, 3) := by decide +kernel
theorem dX3_queueNewBehind_75 : decode cX3_queueNewBehind 75 = .ok (.iload_n 2, 1) := by decide +kernel
theorem dX3_queueNewBehind_76 : decode cX3_queueNewBehind 76 = .ok (.invokevirtual 23, 3) := by decide +kernel
theorem dX3_queueNewBehind_79 : decode cX3_queueNewBehind 79 = .ok (.iconst 1, 1) := by decide +kernel
theorem dX3_queueNewBehind_80 : decode cX3_queueNewBehind 80 = .ok (.iadd, 1) := by decide +kernel
theorem dX3_queueNewBehind_81 : decode cX3_queueNewBehind 81 = .ok (.invokevirtual 31, 3) := by decide +kernel
theorem dX3_queueNewBehind_84 : decode cX3_queueNewBehind 84 = .ok (.aload_n 0, 1) := by decide +kernel
theorem dX3_queueNewBehind_85 : decode cX3_queueNewBehind 85 = .ok (.getfield 20, 3) := by decide +kernel
theorem dX3_queueNewBehind_88 : decode cX3_queueNewBehind 88 = .ok (.iload 4, 2) := by decide +kernel
theorem dX3_queueNewBehind_90 : decode cX3_queueNewBehind 90 = .ok (.iload 9, 2) := by decide +kernel
theorem dX3_queueNewBehind_92 : decode cX3_queueNewBehind 92 = .ok (.invokevirtual 31, 3) := by decide +kernel
theorem dX3_queueNewBehind_95 : decode cX3_queueNewBehind 95 = .ok (.iinc 4 1, 3) := by decide +kernel
theorem dX3_queueNewBehind_98 : decode cX3_queueNewBehind 98 = .ok (.iinc 8 1, 3) := by decide +kernel
theorem dX3_queueNewBehind_101 : decode cX3_queueNewBehind 101 = .ok (.goto (-71), 3) := by decide +kernel
theorem dX3_queueNewBehind_104 : decode cX3_queueNewBehind 104 = .ok (.iinc 5 1, 3) := by decide +kernel
theorem dX3_queueNewBehind_107 : decode cX3_queueNewBehind 107 = .ok (.goto (-101), 3) := by decide +kernel
theorem dX3_queueNewBehind_110 : decode cX3_queueNewBehind 110 = .ok (.iload 4, 2) := by decide +kernel
theorem dX3_queueNewBehind_112 : decode cX3_queueNewBehind 112 = .ok (.ireturn, 1) := by decide +kernel
set_option maxRecDepth 20000 in
theorem ggX3_settle_X3_settleOnce : GoodIn wsX3_settle wsX3_settleOnce := goodIn_r _ [5, 6, 7, 8, 9, 10, 11, 12, 13, 14, 15, 16, 17, 18, 19, 20, 21, 22, 23, 24, 25, 4, 26, 27, 28, 29, 30, 31, 32, 33, 34, 35, 36, 37, 38, 39, 40, 41, 42, 43, 44, 45, 46, 47, 48, 49, 50, 51] (by decide +kernel) (by decide +kernel)
set_option maxRecDepth 20000 in
theorem gX3_settle_X3_settleOnce : GoodIn wsX3_settle (wsV RX3 57 RX3 yX3_settleOnce wsX3_settleOnce) := goodIn_app (goodIn_of _ (by decide +kernel)) ggX3_settle_X3_settleOnce
theorem dX3_settle_0 : decode cX3_settle 0 = .ok (.iconst 1, 1) := by decide +kernel
theorem dX3_settle_1 : decode cX3_settle 1 = .ok (.istore_n 2, 1) := by decide +kernel
theorem dX3_settle_2 : decode cX3_settle 2 = .ok (.iconst 0, 1) := by decide +kernel
theorem dX3_settle_3 : decode cX3_settle 3 = .ok (.istore_n 3, 1) := by decide +kernel
theorem dX3_settle_4 : decode cX3_settle 4 = .ok (.iload_n 2, 1) := by decide +kernel
theorem dX3_settle_5 : decode cX3_settle 5 = .ok (.ifCond .eq 22, 3) := by decide +kernel
theorem dX3_settle_8 : decode cX3_settle 8 = .ok (.iload_n 3, 1) := by decide +kernel
theorem dX3_settle_9 : decode cX3_settle 9 = .ok (.sipush 1296, 3) := by decide +kernel
theorem dX3_settle_12 : decode cX3_settle 12 = .ok (.if_icmp .ge 15, 3) := by decide +kernel
theorem dX3_settle_15 : decode cX3_settle 15 = .ok (.aload_n 0, 1) := by decide +kernel
theorem dX3_settle_16 : decode cX3_settle 16 = .ok (.aload_n 1, 1) := by decide +kernel
theorem dX3_settle_17 : decode cX3_settle 17 = .ok (.invokevirtual 57, 3) := by decide +kernel
theorem dX3_settle_20 : decode cX3_settle 20 = .ok (.istore_n 2, 1) := by decide +kernel
theorem dX3_settle_21 : decode cX3_settle 21 = .ok (.iinc 3 1, 3) := by decide +kernel
theorem dX3_settle_24 : decode cX3_settle 24 = .ok (.goto (-20), 3) := by decide +kernel
theorem dX3_settle_27 : decode cX3_settle 27 = .ok (.return_, 1) := by decide +kernel
set_option maxRecDepth 20000 in
theorem ggX3_settleOnce_X1_isForm : GoodIn wsX3_settleOnce wsX1_isForm := goodIn_r _ [6, 7, 8, 9, 10, 11, 12, 13, 14, 15, 16, 17, 46, 47] (by decide +kernel) (by decide +kernel)
set_option maxRecDepth 20000 in
theorem gX3_settleOnce_X1_isForm : GoodIn wsX3_settleOnce (wsV RX3 61 RX1 yX1_isForm wsX1_isForm) := goodIn_app (goodIn_of _ (by decide +kernel)) ggX3_settleOnce_X1_isForm
set_option maxRecDepth 20000 in
theorem ggX3_settleOnce_X3_leastBehind : GoodIn wsX3_settleOnce wsX3_leastBehind := goodIn_r _ [22, 23, 1, 24, 25, 26, 27, 28, 29, 5, 30, 31, 32, 33, 34, 35, 36, 37, 38, 7, 8, 9, 10, 11, 12, 13, 14, 15, 16, 17, 39, 44, 45, 46, 47] (by decide +kernel) (by decide +kernel)
set_option maxRecDepth 20000 in
theorem gX3_settleOnce_X3_leastBehind : GoodIn wsX3_settleOnce (wsV RX3 65 RX3 yX3_leastBehind wsX3_leastBehind) := goodIn_app (goodIn_of _ (by decide +kernel)) ggX3_settleOnce_X3_leastBehind
set_option maxRecDepth 20000 in
theorem ggX3_settleOnce_X2_get : GoodIn wsX3_settleOnce wsX2_get := goodIn_r _ [12, 13, 14, 15, 16, 11, 17, 47] (by decide +kernel) (by decide +kernel)
set_option maxRecDepth 20000 in
theorem gX3_settleOnce_X2_get : GoodIn wsX3_settleOnce (wsV RX3 23 RX2 yX2_get wsX2_get) := goodIn_app (goodIn_of _ (by decide +kernel)) ggX3_settleOnce_X2_get
set_option maxRecDepth 20000 in
theorem ggX3_settleOnce_X2_set : GoodIn wsX3_settleOnce wsX2_set := goodIn_r _ [43, 13, 14, 15, 16, 11, 17, 47] (by decide +kernel) (by decide +kernel)
set_option maxRecDepth 20000 in
theorem gX3_settleOnce_X2_set : GoodIn wsX3_settleOnce (wsV RX3 31 RX2 yX2_set wsX2_set) := goodIn_app (goodIn_of _ (by decide +kernel)) ggX3_settleOnce_X2_set
theorem dX3_settleOnce_0 : decode cX3_settleOnce 0 = .ok (.iconst 0, 1) := by decide +kernel
theorem dX3_settleOnce_1 : decode cX3_settleOnce 1 = .ok (.istore_n 2, 1) := by decide +kernel
theorem dX3_settleOnce_2 : decode cX3_settleOnce 2 = .ok (.iconst 0, 1) := by decide +kernel
theorem dX3_settleOnce_3 : decode cX3_settleOnce 3 = .ok (.istore_n 3, 1) := by decide +kernel
theorem dX3_settleOnce_4 : decode cX3_settleOnce 4 = .ok (.iload_n 3, 1) := by decide +kernel
theorem dX3_settleOnce_5 : decode cX3_settleOnce 5 = .ok (.sipush 1296, 3) := by decide +kernel
theorem dX3_settleOnce_8 : decode cX3_settleOnce 8 = .ok (.if_icmp .ge 52, 3) := by decide +kernel
theorem dX3_settleOnce_11 : decode cX3_settleOnce 11 = .ok (.aload_n 1, 1) := by decide +kernel
theorem dX3_settleOnce_12 : decode cX3_settleOnce 12 = .ok (.iload_n 3, 1) := by decide +kernel
theorem dX3_settleOnce_13 : decode cX3_settleOnce 13 = .ok (.invokevirtual 61, 3) := by decide +kernel
theorem dX3_settleOnce_16 : decode cX3_settleOnce 16 = .ok (.ifCond .eq 38, 3) := by decide +kernel
theorem dX3_settleOnce_19 : decode cX3_settleOnce 19 = .ok (.aload_n 0, 1) := by decide +kernel
theorem dX3_settleOnce_20 : decode cX3_settleOnce 20 = .ok (.aload_n 1, 1) := by decide +kernel
theorem dX3_settleOnce_21 : decode cX3_settleOnce 21 = .ok (.iload_n 3, 1) := by decide +kernel
theorem dX3_settleOnce_22 : decode cX3_settleOnce 22 = .ok (.invokevirtual 65, 3) := by decide +kernel
theorem dX3_settleOnce_25 : decode cX3_settleOnce 25 = .ok (.iconst 1, 1) := by decide +kernel
theorem dX3_settleOnce_26 : decode cX3_settleOnce 26 = .ok (.iadd, 1) := by decide +kernel
theorem dX3_settleOnce_27 : decode cX3_settleOnce 27 = .ok (.istore 4, 2) := by decide +kernel
theorem dX3_settleOnce_29 : decode cX3_settleOnce 29 = .ok (.iload 4, 2) := by decide +kernel
theorem dX3_settleOnce_31 : decode cX3_settleOnce 31 = .ok (.aload_n 0, 1) := by decide +kernel
theorem dX3_settleOnce_32 : decode cX3_settleOnce 32 = .ok (.getfield 14, 3) := by decide +kernel
theorem dX3_settleOnce_35 : decode cX3_settleOnce 35 = .ok (.iload_n 3, 1) := by decide +kernel
theorem dX3_settleOnce_36 : decode cX3_settleOnce 36 = .ok (.invokevirtual 23, 3) := by decide +kernel
theorem dX3_settleOnce_39 : decode cX3_settleOnce 39 = .ok (.if_icmp .ge 15, 3) := by decide +kernel
theorem dX3_settleOnce_42 : decode cX3_settleOnce 42 = .ok (.aload_n 0, 1) := by decide +kernel
theorem dX3_settleOnce_43 : decode cX3_settleOnce 43 = .ok (.getfield 14, 3) := by decide +kernel
theorem dX3_settleOnce_46 : decode cX3_settleOnce 46 = .ok (.iload_n 3, 1) := by decide +kernel
theorem dX3_settleOnce_47 : decode cX3_settleOnce 47 = .ok (.iload 4, 2) := by decide +kernel
theorem dX3_settleOnce_49 : decode cX3_settleOnce 49 = .ok (.invokevirtual 31, 3) := by decide +kernel
theorem dX3_settleOnce_52 : decode cX3_settleOnce 52 = .ok (.iconst 1, 1) := by decide +kernel
theorem dX3_settleOnce_53 : decode cX3_settleOnce 53 = .ok (.istore_n 2, 1) := by decide +kernel
theorem dX3_settleOnce_54 : decode cX3_settleOnce 54 = .ok (.iinc 3 1, 3) := by decide +kernel
theorem dX3_settleOnce_57 : decode cX3_settleOnce 57 = .ok (.goto (-53), 3) := by decide +kernel
theorem dX3_settleOnce_60 : decode cX3_settleOnce 60 = .ok (.iload_n 2, 1) := by decide +kernel
theorem dX3_settleOnce_61 : decode cX3_settleOnce 61 = .ok (.ireturn, 1) := by decide +kernel
set_option maxRecDepth 20000 in
theorem ggX3_leastBehind_X1_weightOf : GoodIn wsX3_leastBehind wsX1_weightOf := goodIn_r _ [10] (by decide +kernel) (by decide +kernel)
set_option maxRecDepth 20000 in
theorem gX3_leastBehind_X1_weightOf : GoodIn wsX3_leastBehind (va_wsS RX3 45 yX1_weightOf wsX1_weightOf) := goodIn_app (goodIn_of _ (by decide +kernel)) ggX3_leastBehind_X1_weightOf
set_option maxRecDepth 20000 in
theorem ggX3_leastBehind_X1_without : GoodIn wsX3_leastBehind wsX1_without := goodIn_r _ [13, 14, 8, 9, 10] (by decide +kernel) (by decide +kernel)
set_option maxRecDepth 20000 in
theorem gX3_leastBehind_X1_without : GoodIn wsX3_leastBehind (va_wsS RX3 50 yX1_without wsX1_without) := goodIn_app (goodIn_of _ (by decide +kernel)) ggX3_leastBehind_X1_without
set_option maxRecDepth 20000 in
theorem ggX3_leastBehind_X1_formOf : GoodIn wsX3_leastBehind wsX1_formOf := goodIn_r _ [18, 19, 20, 21, 22, 23, 24, 25, 26, 27, 28, 29, 33, 34] (by decide +kernel) (by decide +kernel)
set_option maxRecDepth 20000 in
theorem gX3_leastBehind_X1_formOf : GoodIn wsX3_leastBehind (wsV RX3 54 RX1 yX1_formOf wsX1_formOf) := goodIn_app (goodIn_of _ (by decide +kernel)) ggX3_leastBehind_X1_formOf
set_option maxRecDepth 20000 in
theorem ggX3_leastBehind_X2_get : GoodIn wsX3_leastBehind wsX2_get := goodIn_r _ [24, 25, 26, 27, 28, 23, 29, 34] (by decide +kernel) (by decide +kernel)
set_option maxRecDepth 20000 in
theorem gX3_leastBehind_X2_get : GoodIn wsX3_leastBehind (wsV RX3 23 RX2 yX2_get wsX2_get) := goodIn_app (goodIn_of _ (by decide +kernel)) ggX3_leastBehind_X2_get
theorem dX3_leastBehind_0 : decode cX3_leastBehind 0 = .ok (.ldc 27, 2) := by decide +kernel
theorem dX3_leastBehind_2 : decode cX3_leastBehind 2 = .ok (.istore_n 3, 1) := by decide +kernel
theorem dX3_leastBehind_3 : decode cX3_leastBehind 3 = .ok (.iconst 0, 1) := by decide +kernel
theorem dX3_leastBehind_4 : decode cX3_leastBehind 4 = .ok (.istore 4, 2) := by decide +kernel
theorem dX3_leastBehind_6 : decode cX3_leastBehind 6 = .ok (.iload 4, 2) := by decide +kernel
theorem dX3_leastBehind_8 : decode cX3_leastBehind 8 = .ok (.iconst 4, 1) := by decide +kernel
theorem dX3_leastBehind_9 : decode cX3_leastBehind 9 = .ok (.if_icmp .ge 64, 3) := by decide +kernel
theorem dX3_leastBehind_12 : decode cX3_leastBehind 12 = .ok (.iload 4, 2) := by decide +kernel
theorem dX3_leastBehind_14 : decode cX3_leastBehind 14 = .ok (.invokestatic 45, 3) := by decide +kernel
theorem dX3_leastBehind_17 : decode cX3_leastBehind 17 = .ok (.istore 5, 2) := by decide +kernel
theorem dX3_leastBehind_19 : decode cX3_leastBehind 19 = .ok (.iload_n 2, 1) := by decide +kernel
theorem dX3_leastBehind_20 : decode cX3_leastBehind 20 = .ok (.iload 4, 2) := by decide +kernel
theorem dX3_leastBehind_22 : decode cX3_leastBehind 22 = .ok (.invokestatic 50, 3) := by decide +kernel
theorem dX3_leastBehind_25 : decode cX3_leastBehind 25 = .ok (.istore 6, 2) := by decide +kernel
theorem dX3_leastBehind_27 : decode cX3_leastBehind 27 = .ok (.iconst 0, 1) := by decide +kernel
theorem dX3_leastBehind_28 : decode cX3_leastBehind 28 = .ok (.istore 7, 2) := by decide +kernel
theorem dX3_leastBehind_30 : decode cX3_leastBehind 30 = .ok (.iload 7, 2) := by decide +kernel
theorem dX3_leastBehind_32 : decode cX3_leastBehind 32 = .ok (.bipush 6, 2) := by decide +kernel
theorem dX3_leastBehind_34 : decode cX3_leastBehind 34 = .ok (.if_icmp .ge 33, 3) := by decide +kernel
theorem dX3_leastBehind_37 : decode cX3_leastBehind 37 = .ok (.iload_n 3, 1) := by decide +kernel
theorem dX3_leastBehind_38 : decode cX3_leastBehind 38 = .ok (.aload_n 0, 1) := by decide +kernel
theorem dX3_leastBehind_39 : decode cX3_leastBehind 39 = .ok (.getfield 14, 3) := by decide +kernel
theorem dX3_leastBehind_42 : decode cX3_leastBehind 42 = .ok (.aload_n 1, 1) := by decide +kernel
theorem dX3_leastBehind_43 : decode cX3_leastBehind 43 = .ok (.iload 6, 2) := by decide +kernel
theorem dX3_leastBehind_45 : decode cX3_leastBehind 45 = .ok (.iload 7, 2) := by decide +kernel
theorem dX3_leastBehind_47 : decode cX3_leastBehind 47 = .ok (.iload 5, 2) := by decide +kernel
theorem dX3_leastBehind_49 : decode cX3_leastBehind 49 = .ok (.imul, 1) := by decide +kernel
theorem dX3_leastBehind_50 : decode cX3_leastBehind 50 = .ok (.iadd, 1) := by decide +kernel
theorem dX3_leastBehind_51 : decode cX3_leastBehind 51 = .ok (.invokevirtual 54, 3) := by decide +kernel
theorem dX3_leastBehind_54 : decode cX3_leastBehind 54 = .ok (.invokevirtual 23, 3) := by decide +kernel
theorem dX3_leastBehind_57 : decode cX3_leastBehind 57 = .ok (.invokestatic 69, 3) := by decide +kernel
theorem dX3_leastBehind_60 : decode cX3_leastBehind 60 = .ok (.istore_n 3, 1) := by decide +kernel
theorem dX3_leastBehind_61 : decode cX3_leastBehind 61 = .ok (.iinc 7 1, 3) := by decide +kernel
theorem dX3_leastBehind_64 : decode cX3_leastBehind 64 = .ok (.goto (-34), 3) := by decide +kernel
theorem dX3_leastBehind_67 : decode cX3_leastBehind 67 = .ok (.iinc 4 1, 3) := by decide +kernel
theorem dX3_leastBehind_70 : decode cX3_leastBehind 70 = .ok (.goto (-64), 3) := by decide +kernel
theorem dX3_leastBehind_73 : decode cX3_leastBehind 73 = .ok (.iload_n 3, 1) := by decide +kernel
theorem dX3_leastBehind_74 : decode cX3_leastBehind 74 = .ok (.ireturn, 1) := by decide +kernel
end
section
set_option maxRecDepth 20000 in
theorem ggX0_init_X2_init : GoodIn wsX0_init wsX2_init := goodIn_r _ [16, 17, 2, 3, 18, 19, 20] (by decide +kernel) (by decide +kernel)
set_option maxRecDepth 20000 in
theorem gX0_init_X2_init : GoodIn wsX0_init (wsX2_init) := ggX0_init_X2_init
theorem dX0_init_0 : decode cX0_init 0 = .ok (.aload_n 0, 1) := by decide +kernel
theorem dX0_init_1 : decode cX0_init 1 = .ok (.invokespecial 3, 3) := by decide +kernel
theorem dX0_init_4 : decode cX0_init 4 = .ok (.aload_n 0, 1) := by decide +kernel
theorem dX0_init_5 : decode cX0_init 5 = .ok (.new 9, 3) := by decide +kernel
theorem dX0_init_8 : decode cX0_init 8 = .ok (.dup, 1) := by decide +kernel
theorem dX0_init_9 : decode cX0_init 9 = .ok (.sipush 300, 3) := by decide +kernel
theorem dX0_init_12 : decode cX0_init 12 = .ok (.invokespecial 11, 3) := by decide +kernel
theorem dX0_init_15 : decode cX0_init 15 = .ok (.putfield 14, 3) := by decide +kernel
theorem dX0_init_18 : decode cX0_init 18 = .ok (.aload_n 0, 1) := by decide +kernel
theorem dX0_init_19 : decode cX0_init 19 = .ok (.new 9, 3) := by decide +kernel
theorem dX0_init_22 : decode cX0_init 22 = .ok (.dup, 1) := by decide +kernel
theorem dX0_init_23 : decode cX0_init 23 = .ok (.sipush 300, 3) := by decide +kernel
theorem dX0_init_26 : decode cX0_init 26 = .ok (.invokespecial 11, 3) := by decide +kernel
theorem dX0_init_29 : decode cX0_init 29 = .ok (.putfield 20, 3) := by decide +kernel
theorem dX0_init_32 : decode cX0_init 32 = .ok (.aload_n 0, 1) := by decide +kernel
theorem dX0_init_33 : decode cX0_init 33 = .ok (.new 9, 3) := by decide +kernel
theorem dX0_init_36 : decode cX0_init 36 = .ok (.dup, 1) := by decide +kernel
theorem dX0_init_37 : decode cX0_init 37 = .ok (.sipush 1296, 3) := by decide +kernel
theorem dX0_init_40 : decode cX0_init 40 = .ok (.invokespecial 11, 3) := by decide +kernel
theorem dX0_init_43 : decode cX0_init 43 = .ok (.putfield 23, 3) := by decide +kernel
theorem dX0_init_46 : decode cX0_init 46 = .ok (.aload_n 0, 1) := by decide +kernel
theorem dX0_init_47 : decode cX0_init 47 = .ok (.new 9, 3) := by decide +kernel
theorem dX0_init_50 : decode cX0_init 50 = .ok (.dup, 1) := by decide +kernel
theorem dX0_init_51 : decode cX0_init 51 = .ok (.sipush 1296, 3) := by decide +kernel
theorem dX0_init_54 : decode cX0_init 54 = .ok (.invokespecial 11, 3) := by decide +kernel
theorem dX0_init_57 : decode cX0_init 57 = .ok (.putfield 26, 3) := by decide +kernel
theorem dX0_init_60 : decode cX0_init 60 = .ok (.aload_n 0, 1) := by decide +kernel
theorem dX0_init_61 : decode cX0_init 61 = .ok (.new 9, 3) := by decide +kernel
theorem dX0_init_64 : decode cX0_init 64 = .ok (.dup, 1) := by decide +kernel
theorem dX0_init_65 : decode cX0_init 65 = .ok (.sipush 1296, 3) := by decide +kernel
theorem dX0_init_68 : decode cX0_init 68 = .ok (.invokespecial 11, 3) := by decide +kernel
theorem dX0_init_71 : decode cX0_init 71 = .ok (.putfield 29, 3) := by decide +kernel
theorem dX0_init_74 : decode cX0_init 74 = .ok (.aload_n 0, 1) := by decide +kernel
theorem dX0_init_75 : decode cX0_init 75 = .ok (.new 9, 3) := by decide +kernel
theorem dX0_init_78 : decode cX0_init 78 = .ok (.dup, 1) := by decide +kernel
theorem dX0_init_79 : decode cX0_init 79 = .ok (.sipush 360, 3) := by decide +kernel
theorem dX0_init_82 : decode cX0_init 82 = .ok (.invokespecial 11, 3) := by decide +kernel
theorem dX0_init_85 : decode cX0_init 85 = .ok (.putfield 32, 3) := by decide +kernel
theorem dX0_init_88 : decode cX0_init 88 = .ok (.aload_n 0, 1) := by decide +kernel
theorem dX0_init_89 : decode cX0_init 89 = .ok (.iconst (-1), 1) := by decide +kernel
theorem dX0_init_90 : decode cX0_init 90 = .ok (.putfield 35, 3) := by decide +kernel
theorem dX0_init_93 : decode cX0_init 93 = .ok (.return_, 1) := by decide +kernel
theorem dX0_isUnderWay_0 : decode cX0_isUnderWay 0 = .ok (.aload_n 0, 1) := by decide +kernel
theorem dX0_isUnderWay_1 : decode cX0_isUnderWay 1 = .ok (.getfield 35, 3) := by decide +kernel
theorem dX0_isUnderWay_4 : decode cX0_isUnderWay 4 = .ok (.iconst (-1), 1) := by decide +kernel
theorem dX0_isUnderWay_5 : decode cX0_isUnderWay 5 = .ok (.if_icmp .eq 7, 3) := by decide +kernel
theorem dX0_isUnderWay_8 : decode cX0_isUnderWay 8 = .ok (.iconst 1, 1) := by decide +kernel
theorem dX0_isUnderWay_9 : decode cX0_isUnderWay 9 = .ok (.goto 4, 3) := by decide +kernel
theorem dX0_isUnderWay_12 : decode cX0_isUnderWay 12 = .ok (.iconst 0, 1) := by decide +kernel
theorem dX0_isUnderWay_13 : decode cX0_isUnderWay 13 = .ok (.ireturn, 1) := by decide +kernel
theorem dX0_areAllBegun_0 : decode cX0_areAllBegun 0 = .ok (.aload_n 0, 1) := by decide +kernel
theorem dX0_areAllBegun_1 : decode cX0_areAllBegun 1 = .ok (.getfield 39, 3) := by decide +kernel
theorem dX0_areAllBegun_4 : decode cX0_areAllBegun 4 = .ok (.bipush 60, 2) := by decide +kernel
theorem dX0_areAllBegun_6 : decode cX0_areAllBegun 6 = .ok (.if_icmp .lt 7, 3) := by decide +kernel
theorem dX0_areAllBegun_9 : decode cX0_areAllBegun 9 = .ok (.iconst 1, 1) := by decide +kernel
theorem dX0_areAllBegun_10 : decode cX0_areAllBegun 10 = .ok (.goto 4, 3) := by decide +kernel
theorem dX0_areAllBegun_13 : decode cX0_areAllBegun 13 = .ok (.iconst 0, 1) := by decide +kernel
theorem dX0_areAllBegun_14 : decode cX0_areAllBegun 14 = .ok (.ireturn, 1) := by decide +kernel
theorem dX0_areAllPassed_0 : decode cX0_areAllPassed 0 = .ok (.aload_n 0, 1) := by decide +kernel
theorem dX0_areAllPassed_1 : decode cX0_areAllPassed 1 = .ok (.getfield 42, 3) := by decide +kernel
theorem dX0_areAllPassed_4 : decode cX0_areAllPassed 4 = .ok (.sipush 300, 3) := by decide +kernel
theorem dX0_areAllPassed_7 : decode cX0_areAllPassed 7 = .ok (.if_icmp .lt 7, 3) := by decide +kernel
theorem dX0_areAllPassed_10 : decode cX0_areAllPassed 10 = .ok (.iconst 1, 1) := by decide +kernel
theorem dX0_areAllPassed_11 : decode cX0_areAllPassed 11 = .ok (.goto 4, 3) := by decide +kernel
theorem dX0_areAllPassed_14 : decode cX0_areAllPassed 14 = .ok (.iconst 0, 1) := by decide +kernel
theorem dX0_areAllPassed_15 : decode cX0_areAllPassed 15 = .ok (.ireturn, 1) := by decide +kernel
set_option maxRecDepth 20000 in
theorem ggX0_start_X0_meet : GoodIn wsX0_start wsX0_meet := goodIn_r _ [6, 7, 8, 9, 10, 11, 12, 13, 14, 15, 16, 17, 18, 19, 20, 21, 22, 23, 24, 25, 26, 27, 28, 29, 30, 31, 32, 33, 34, 35, 36] (by decide +kernel) (by decide +kernel)
set_option maxRecDepth 20000 in
theorem gX0_start_X0_meet : GoodIn wsX0_start (wsV RX0 45 RX0 yX0_meet wsX0_meet) := goodIn_app (goodIn_of _ (by decide +kernel)) ggX0_start_X0_meet
theorem dX0_start_0 : decode cX0_start 0 = .ok (.aload_n 0, 1) := by decide +kernel
theorem dX0_start_1 : decode cX0_start 1 = .ok (.dup, 1) := by decide +kernel
theorem dX0_start_2 : decode cX0_start 2 = .ok (.getfield 39, 3) := by decide +kernel
theorem dX0_start_5 : decode cX0_start 5 = .ok (.iconst 1, 1) := by decide +kernel
theorem dX0_start_6 : decode cX0_start 6 = .ok (.iadd, 1) := by decide +kernel
theorem dX0_start_7 : decode cX0_start 7 = .ok (.putfield 39, 3) := by decide +kernel
theorem dX0_start_10 : decode cX0_start 10 = .ok (.aload_n 0, 1) := by decide +kernel
theorem dX0_start_11 : decode cX0_start 11 = .ok (.iload_n 1, 1) := by decide +kernel
theorem dX0_start_12 : decode cX0_start 12 = .ok (.invokevirtual 45, 3) := by decide +kernel
theorem dX0_start_15 : decode cX0_start 15 = .ok (.return_, 1) := by decide +kernel
set_option maxRecDepth 20000 in
theorem ggX0_moveTo_X2_set : GoodIn wsX0_moveTo wsX2_set := goodIn_r _ [10, 11, 12, 13, 14, 9, 15, 45] (by decide +kernel) (by decide +kernel)
set_option maxRecDepth 20000 in
theorem gX0_moveTo_X2_set : GoodIn wsX0_moveTo (wsV RX0 48 RX2 yX2_set wsX2_set) := goodIn_app (goodIn_of _ (by decide +kernel)) ggX0_moveTo_X2_set
set_option maxRecDepth 20000 in
theorem ggX0_moveTo_X2_add : GoodIn wsX0_moveTo wsX2_add := goodIn_r _ [19, 20, 21, 22, 9, 23, 11, 12, 13, 14, 15, 24, 7, 8, 10, 45] (by decide +kernel) (by decide +kernel)
set_option maxRecDepth 20000 in
theorem gX0_moveTo_X2_add : GoodIn wsX0_moveTo (wsV RX0 52 RX2 yX2_add wsX2_add) := goodIn_app (goodIn_of _ (by decide +kernel)) ggX0_moveTo_X2_add
set_option maxRecDepth 20000 in
theorem ggX0_moveTo_X0_meet : GoodIn wsX0_moveTo wsX0_meet := goodIn_r _ [29, 3, 30, 31, 32, 33, 21, 22, 9, 23, 11, 12, 13, 14, 15, 6, 7, 8, 10, 34, 35, 36, 37, 38, 39, 40, 41, 42, 43, 44, 45] (by decide +kernel) (by decide +kernel)
set_option maxRecDepth 20000 in
theorem gX0_moveTo_X0_meet : GoodIn wsX0_moveTo (wsV RX0 45 RX0 yX0_meet wsX0_meet) := goodIn_app (goodIn_of _ (by decide +kernel)) ggX0_moveTo_X0_meet
theorem dX0_moveTo_0 : decode cX0_moveTo 0 = .ok (.aload_n 0, 1) := by decide +kernel
theorem dX0_moveTo_1 : decode cX0_moveTo 1 = .ok (.getfield 14, 3) := by decide +kernel
theorem dX0_moveTo_4 : decode cX0_moveTo 4 = .ok (.aload_n 0, 1) := by decide +kernel
theorem dX0_moveTo_5 : decode cX0_moveTo 5 = .ok (.getfield 42, 3) := by decide +kernel
theorem dX0_moveTo_8 : decode cX0_moveTo 8 = .ok (.aload_n 0, 1) := by decide +kernel
theorem dX0_moveTo_9 : decode cX0_moveTo 9 = .ok (.getfield 35, 3) := by decide +kernel
theorem dX0_moveTo_12 : decode cX0_moveTo 12 = .ok (.invokevirtual 48, 3) := by decide +kernel
theorem dX0_moveTo_15 : decode cX0_moveTo 15 = .ok (.aload_n 0, 1) := by decide +kernel
theorem dX0_moveTo_16 : decode cX0_moveTo 16 = .ok (.getfield 20, 3) := by decide +kernel
theorem dX0_moveTo_19 : decode cX0_moveTo 19 = .ok (.aload_n 0, 1) := by decide +kernel
theorem dX0_moveTo_20 : decode cX0_moveTo 20 = .ok (.getfield 42, 3) := by decide +kernel
theorem dX0_moveTo_23 : decode cX0_moveTo 23 = .ok (.iload_n 1, 1) := by decide +kernel
theorem dX0_moveTo_24 : decode cX0_moveTo 24 = .ok (.invokevirtual 48, 3) := by decide +kernel
theorem dX0_moveTo_27 : decode cX0_moveTo 27 = .ok (.aload_n 0, 1) := by decide +kernel
theorem dX0_moveTo_28 : decode cX0_moveTo 28 = .ok (.dup, 1) := by decide +kernel
theorem dX0_moveTo_29 : decode cX0_moveTo 29 = .ok (.getfield 42, 3) := by decide +kernel
theorem dX0_moveTo_32 : decode cX0_moveTo 32 = .ok (.iconst 1, 1) := by decide +kernel
theorem dX0_moveTo_33 : decode cX0_moveTo 33 = .ok (.iadd, 1) := by decide +kernel
theorem dX0_moveTo_34 : decode cX0_moveTo 34 = .ok (.putfield 42, 3) := by decide +kernel
theorem dX0_moveTo_37 : decode cX0_moveTo 37 = .ok (.aload_n 0, 1) := by decide +kernel
theorem dX0_moveTo_38 : decode cX0_moveTo 38 = .ok (.getfield 23, 3) := by decide +kernel
theorem dX0_moveTo_41 : decode cX0_moveTo 41 = .ok (.aload_n 0, 1) := by decide +kernel
theorem dX0_moveTo_42 : decode cX0_moveTo 42 = .ok (.getfield 35, 3) := by decide +kernel
theorem dX0_moveTo_45 : decode cX0_moveTo 45 = .ok (.iconst 1, 1) := by decide +kernel
theorem dX0_moveTo_46 : decode cX0_moveTo 46 = .ok (.invokevirtual 52, 3) := by decide +kernel
theorem dX0_moveTo_49 : decode cX0_moveTo 49 = .ok (.aload_n 0, 1) := by decide +kernel
theorem dX0_moveTo_50 : decode cX0_moveTo 50 = .ok (.iload_n 1, 1) := by decide +kernel
theorem dX0_moveTo_51 : decode cX0_moveTo 51 = .ok (.invokevirtual 45, 3) := by decide +kernel
theorem dX0_moveTo_54 : decode cX0_moveTo 54 = .ok (.return_, 1) := by decide +kernel
set_option maxRecDepth 20000 in
theorem ggX0_meet_X2_get : GoodIn wsX0_meet wsX2_get := goodIn_r _ [9, 10, 11, 12, 13, 8, 14, 30] (by decide +kernel) (by decide +kernel)
set_option maxRecDepth 20000 in
theorem gX0_meet_X2_get : GoodIn wsX0_meet (wsV RX0 55 RX2 yX2_get wsX2_get) := goodIn_app (goodIn_of _ (by decide +kernel)) ggX0_meet_X2_get
set_option maxRecDepth 20000 in
theorem ggX0_meet_X2_set : GoodIn wsX0_meet wsX2_set := goodIn_r _ [18, 10, 11, 12, 13, 8, 14, 30] (by decide +kernel) (by decide +kernel)
set_option maxRecDepth 20000 in
theorem gX0_meet_X2_set : GoodIn wsX0_meet (wsV RX0 48 RX2 yX2_set wsX2_set) := goodIn_app (goodIn_of _ (by decide +kernel)) ggX0_meet_X2_set
theorem dX0_meet_0 : decode cX0_meet 0 = .ok (.aload_n 0, 1) := by decide +kernel
theorem dX0_meet_1 : decode cX0_meet 1 = .ok (.iload_n 1, 1) := by decide +kernel
theorem dX0_meet_2 : decode cX0_meet 2 = .ok (.putfield 35, 3) := by decide +kernel
theorem dX0_meet_5 : decode cX0_meet 5 = .ok (.aload_n 0, 1) := by decide +kernel
theorem dX0_meet_6 : decode cX0_meet 6 = .ok (.getfield 29, 3) := by decide +kernel
theorem dX0_meet_9 : decode cX0_meet 9 = .ok (.iload_n 1, 1) := by decide +kernel
theorem dX0_meet_10 : decode cX0_meet 10 = .ok (.invokevirtual 55, 3) := by decide +kernel
theorem dX0_meet_13 : decode cX0_meet 13 = .ok (.ifCond .ne 34, 3) := by decide +kernel
theorem dX0_meet_16 : decode cX0_meet 16 = .ok (.aload_n 0, 1) := by decide +kernel
theorem dX0_meet_17 : decode cX0_meet 17 = .ok (.getfield 29, 3) := by decide +kernel
theorem dX0_meet_20 : decode cX0_meet 20 = .ok (.iload_n 1, 1) := by decide +kernel
theorem dX0_meet_21 : decode cX0_meet 21 = .ok (.iconst 1, 1) := by decide +kernel
theorem dX0_meet_22 : decode cX0_meet 22 = .ok (.invokevirtual 48, 3) := by decide +kernel
theorem dX0_meet_25 : decode cX0_meet 25 = .ok (.aload_n 0, 1) := by decide +kernel
theorem dX0_meet_26 : decode cX0_meet 26 = .ok (.getfield 32, 3) := by decide +kernel
theorem dX0_meet_29 : decode cX0_meet 29 = .ok (.aload_n 0, 1) := by decide +kernel
theorem dX0_meet_30 : decode cX0_meet 30 = .ok (.getfield 59, 3) := by decide +kernel
theorem dX0_meet_33 : decode cX0_meet 33 = .ok (.iload_n 1, 1) := by decide +kernel
theorem dX0_meet_34 : decode cX0_meet 34 = .ok (.invokevirtual 48, 3) := by decide +kernel
theorem dX0_meet_37 : decode cX0_meet 37 = .ok (.aload_n 0, 1) := by decide +kernel
theorem dX0_meet_38 : decode cX0_meet 38 = .ok (.dup, 1) := by decide +kernel
theorem dX0_meet_39 : decode cX0_meet 39 = .ok (.getfield 59, 3) := by decide +kernel
theorem dX0_meet_42 : decode cX0_meet 42 = .ok (.iconst 1, 1) := by decide +kernel
theorem dX0_meet_43 : decode cX0_meet 43 = .ok (.iadd, 1) := by decide +kernel
theorem dX0_meet_44 : decode cX0_meet 44 = .ok (.putfield 59, 3) := by decide +kernel
theorem dX0_meet_47 : decode cX0_meet 47 = .ok (.return_, 1) := by decide +kernel
set_option maxRecDepth 20000 in
theorem ggX0_finish_X2_add : GoodIn wsX0_finish wsX2_add := goodIn_r _ [9, 10, 11, 12, 8, 13, 14, 15, 16, 17, 18, 19, 20, 21, 22, 34] (by decide +kernel) (by decide +kernel)
set_option maxRecDepth 20000 in
theorem gX0_finish_X2_add : GoodIn wsX0_finish (wsV RX0 52 RX2 yX2_add wsX2_add) := goodIn_app (goodIn_of _ (by decide +kernel)) ggX0_finish_X2_add
theorem dX0_finish_0 : decode cX0_finish 0 = .ok (.aload_n 0, 1) := by decide +kernel
theorem dX0_finish_1 : decode cX0_finish 1 = .ok (.getfield 35, 3) := by decide +kernel
theorem dX0_finish_4 : decode cX0_finish 4 = .ok (.istore_n 2, 1) := by decide +kernel
theorem dX0_finish_5 : decode cX0_finish 5 = .ok (.aload_n 0, 1) := by decide +kernel
theorem dX0_finish_6 : decode cX0_finish 6 = .ok (.getfield 23, 3) := by decide +kernel
theorem dX0_finish_9 : decode cX0_finish 9 = .ok (.iload_n 2, 1) := by decide +kernel
theorem dX0_finish_10 : decode cX0_finish 10 = .ok (.iconst 1, 1) := by decide +kernel
theorem dX0_finish_11 : decode cX0_finish 11 = .ok (.invokevirtual 52, 3) := by decide +kernel
theorem dX0_finish_14 : decode cX0_finish 14 = .ok (.iload_n 1, 1) := by decide +kernel
theorem dX0_finish_15 : decode cX0_finish 15 = .ok (.ifCond .eq 17, 3) := by decide +kernel
theorem dX0_finish_18 : decode cX0_finish 18 = .ok (.aload_n 0, 1) := by decide +kernel
theorem dX0_finish_19 : decode cX0_finish 19 = .ok (.getfield 26, 3) := by decide +kernel
theorem dX0_finish_22 : decode cX0_finish 22 = .ok (.iload_n 2, 1) := by decide +kernel
theorem dX0_finish_23 : decode cX0_finish 23 = .ok (.iconst 1, 1) := by decide +kernel
theorem dX0_finish_24 : decode cX0_finish 24 = .ok (.invokevirtual 52, 3) := by decide +kernel
theorem dX0_finish_27 : decode cX0_finish 27 = .ok (.aload_n 0, 1) := by decide +kernel
theorem dX0_finish_28 : decode cX0_finish 28 = .ok (.iconst 1, 1) := by decide +kernel
theorem dX0_finish_29 : decode cX0_finish 29 = .ok (.putfield 62, 3) := by decide +kernel
theorem dX0_finish_32 : decode cX0_finish 32 = .ok (.aload_n 0, 1) := by decide +kernel
theorem dX0_finish_33 : decode cX0_finish 33 = .ok (.iconst (-1), 1) := by decide +kernel
theorem dX0_finish_34 : decode cX0_finish 34 = .ok (.putfield 35, 3) := by decide +kernel
theorem dX0_finish_37 : decode cX0_finish 37 = .ok (.iload_n 2, 1) := by decide +kernel
theorem dX0_finish_38 : decode cX0_finish 38 = .ok (.ireturn, 1) := by decide +kernel
theorem dX0_current_0 : decode cX0_current 0 = .ok (.aload_n 0, 1) := by decide +kernel
theorem dX0_current_1 : decode cX0_current 1 = .ok (.getfield 35, 3) := by decide +kernel
theorem dX0_current_4 : decode cX0_current 4 = .ok (.ireturn, 1) := by decide +kernel
theorem dX0_metCount_0 : decode cX0_metCount 0 = .ok (.aload_n 0, 1) := by decide +kernel
theorem dX0_metCount_1 : decode cX0_metCount 1 = .ok (.getfield 59, 3) := by decide +kernel
theorem dX0_metCount_4 : decode cX0_metCount 4 = .ok (.ireturn, 1) := by decide +kernel
set_option maxRecDepth 20000 in
theorem ggX0_metForm_X2_get : GoodIn wsX0_metForm wsX2_get := goodIn_r _ [6, 7, 8, 9, 10, 5, 11, 23] (by decide +kernel) (by decide +kernel)
set_option maxRecDepth 20000 in
theorem gX0_metForm_X2_get : GoodIn wsX0_metForm (wsV RX0 55 RX2 yX2_get wsX2_get) := goodIn_app (goodIn_of _ (by decide +kernel)) ggX0_metForm_X2_get
theorem dX0_metForm_0 : decode cX0_metForm 0 = .ok (.aload_n 0, 1) := by decide +kernel
theorem dX0_metForm_1 : decode cX0_metForm 1 = .ok (.getfield 32, 3) := by decide +kernel
theorem dX0_metForm_4 : decode cX0_metForm 4 = .ok (.iload_n 1, 1) := by decide +kernel
theorem dX0_metForm_5 : decode cX0_metForm 5 = .ok (.invokevirtual 55, 3) := by decide +kernel
theorem dX0_metForm_8 : decode cX0_metForm 8 = .ok (.ireturn, 1) := by decide +kernel
theorem dX0_isSomeRight_0 : decode cX0_isSomeRight 0 = .ok (.aload_n 0, 1) := by decide +kernel
theorem dX0_isSomeRight_1 : decode cX0_isSomeRight 1 = .ok (.getfield 62, 3) := by decide +kernel
theorem dX0_isSomeRight_4 : decode cX0_isSomeRight 4 = .ok (.ireturn, 1) := by decide +kernel
set_option maxRecDepth 20000 in
theorem ggX0_hasEndedRight_X2_get : GoodIn wsX0_hasEndedRight wsX2_get := goodIn_r _ [6, 7, 8, 9, 10, 5, 11, 23] (by decide +kernel) (by decide +kernel)
set_option maxRecDepth 20000 in
theorem gX0_hasEndedRight_X2_get : GoodIn wsX0_hasEndedRight (wsV RX0 55 RX2 yX2_get wsX2_get) := goodIn_app (goodIn_of _ (by decide +kernel)) ggX0_hasEndedRight_X2_get
theorem dX0_hasEndedRight_0 : decode cX0_hasEndedRight 0 = .ok (.aload_n 0, 1) := by decide +kernel
theorem dX0_hasEndedRight_1 : decode cX0_hasEndedRight 1 = .ok (.getfield 26, 3) := by decide +kernel
theorem dX0_hasEndedRight_4 : decode cX0_hasEndedRight 4 = .ok (.iload_n 1, 1) := by decide +kernel
theorem dX0_hasEndedRight_5 : decode cX0_hasEndedRight 5 = .ok (.invokevirtual 55, 3) := by decide +kernel
theorem dX0_hasEndedRight_8 : decode cX0_hasEndedRight 8 = .ok (.ifCond .le 7, 3) := by decide +kernel
theorem dX0_hasEndedRight_11 : decode cX0_hasEndedRight 11 = .ok (.iconst 1, 1) := by decide +kernel
theorem dX0_hasEndedRight_12 : decode cX0_hasEndedRight 12 = .ok (.goto 4, 3) := by decide +kernel
theorem dX0_hasEndedRight_15 : decode cX0_hasEndedRight 15 = .ok (.iconst 0, 1) := by decide +kernel
theorem dX0_hasEndedRight_16 : decode cX0_hasEndedRight 16 = .ok (.ireturn, 1) := by decide +kernel
set_option maxRecDepth 20000 in
theorem ggX0_rightEndings_X2_get : GoodIn wsX0_rightEndings wsX2_get := goodIn_r _ [6, 7, 8, 9, 10, 5, 11, 23] (by decide +kernel) (by decide +kernel)
set_option maxRecDepth 20000 in
theorem gX0_rightEndings_X2_get : GoodIn wsX0_rightEndings (wsV RX0 55 RX2 yX2_get wsX2_get) := goodIn_app (goodIn_of _ (by decide +kernel)) ggX0_rightEndings_X2_get
theorem dX0_rightEndings_0 : decode cX0_rightEndings 0 = .ok (.aload_n 0, 1) := by decide +kernel
theorem dX0_rightEndings_1 : decode cX0_rightEndings 1 = .ok (.getfield 26, 3) := by decide +kernel
theorem dX0_rightEndings_4 : decode cX0_rightEndings 4 = .ok (.iload_n 1, 1) := by decide +kernel
theorem dX0_rightEndings_5 : decode cX0_rightEndings 5 = .ok (.invokevirtual 55, 3) := by decide +kernel
theorem dX0_rightEndings_8 : decode cX0_rightEndings 8 = .ok (.ireturn, 1) := by decide +kernel
set_option maxRecDepth 20000 in
theorem ggX0_leavingsOf_X2_get : GoodIn wsX0_leavingsOf wsX2_get := goodIn_r _ [6, 7, 8, 9, 10, 5, 11, 23] (by decide +kernel) (by decide +kernel)
set_option maxRecDepth 20000 in
theorem gX0_leavingsOf_X2_get : GoodIn wsX0_leavingsOf (wsV RX0 55 RX2 yX2_get wsX2_get) := goodIn_app (goodIn_of _ (by decide +kernel)) ggX0_leavingsOf_X2_get
theorem dX0_leavingsOf_0 : decode cX0_leavingsOf 0 = .ok (.aload_n 0, 1) := by decide +kernel
theorem dX0_leavingsOf_1 : decode cX0_leavingsOf 1 = .ok (.getfield 23, 3) := by decide +kernel
theorem dX0_leavingsOf_4 : decode cX0_leavingsOf 4 = .ok (.iload_n 1, 1) := by decide +kernel
theorem dX0_leavingsOf_5 : decode cX0_leavingsOf 5 = .ok (.invokevirtual 55, 3) := by decide +kernel
theorem dX0_leavingsOf_8 : decode cX0_leavingsOf 8 = .ok (.ireturn, 1) := by decide +kernel
theorem dX0_passedCount_0 : decode cX0_passedCount 0 = .ok (.aload_n 0, 1) := by decide +kernel
theorem dX0_passedCount_1 : decode cX0_passedCount 1 = .ok (.getfield 42, 3) := by decide +kernel
theorem dX0_passedCount_4 : decode cX0_passedCount 4 = .ok (.ireturn, 1) := by decide +kernel
set_option maxRecDepth 20000 in
theorem ggX0_fromOf_X2_get : GoodIn wsX0_fromOf wsX2_get := goodIn_r _ [6, 7, 8, 9, 10, 5, 11, 23] (by decide +kernel) (by decide +kernel)
set_option maxRecDepth 20000 in
theorem gX0_fromOf_X2_get : GoodIn wsX0_fromOf (wsV RX0 55 RX2 yX2_get wsX2_get) := goodIn_app (goodIn_of _ (by decide +kernel)) ggX0_fromOf_X2_get
theorem dX0_fromOf_0 : decode cX0_fromOf 0 = .ok (.aload_n 0, 1) := by decide +kernel
theorem dX0_fromOf_1 : decode cX0_fromOf 1 = .ok (.getfield 14, 3) := by decide +kernel
theorem dX0_fromOf_4 : decode cX0_fromOf 4 = .ok (.iload_n 1, 1) := by decide +kernel
theorem dX0_fromOf_5 : decode cX0_fromOf 5 = .ok (.invokevirtual 55, 3) := by decide +kernel
theorem dX0_fromOf_8 : decode cX0_fromOf 8 = .ok (.ireturn, 1) := by decide +kernel
set_option maxRecDepth 20000 in
theorem ggX0_toOf_X2_get : GoodIn wsX0_toOf wsX2_get := goodIn_r _ [6, 7, 8, 9, 10, 5, 11, 23] (by decide +kernel) (by decide +kernel)
set_option maxRecDepth 20000 in
theorem gX0_toOf_X2_get : GoodIn wsX0_toOf (wsV RX0 55 RX2 yX2_get wsX2_get) := goodIn_app (goodIn_of _ (by decide +kernel)) ggX0_toOf_X2_get
theorem dX0_toOf_0 : decode cX0_toOf 0 = .ok (.aload_n 0, 1) := by decide +kernel
theorem dX0_toOf_1 : decode cX0_toOf 1 = .ok (.getfield 20, 3) := by decide +kernel
theorem dX0_toOf_4 : decode cX0_toOf 4 = .ok (.iload_n 1, 1) := by decide +kernel
theorem dX0_toOf_5 : decode cX0_toOf 5 = .ok (.invokevirtual 55, 3) := by decide +kernel
theorem dX0_toOf_8 : decode cX0_toOf 8 = .ok (.ireturn, 1) := by decide +kernel
set_option maxRecDepth 20000 in
theorem ggX0_countPassings_X0_fromOf : GoodIn wsX0_countPassings wsX0_fromOf := goodIn_r _ [6, 7, 8, 9, 10, 11, 12, 13, 14, 15, 16, 17, 23, 24, 25, 26, 27, 28, 29, 30, 31, 32, 33, 34] (by decide +kernel) (by decide +kernel)
set_option maxRecDepth 20000 in
theorem gX0_countPassings_X0_fromOf : GoodIn wsX0_countPassings (wsV RX0 66 RX0 yX0_fromOf wsX0_fromOf) := goodIn_app (goodIn_of _ (by decide +kernel)) ggX0_countPassings_X0_fromOf
set_option maxRecDepth 20000 in
theorem ggX0_countPassings_X0_toOf : GoodIn wsX0_countPassings wsX0_toOf := goodIn_r _ [21, 22, 8, 9, 10, 11, 12, 13, 14, 15, 16, 17, 23, 24, 25, 26, 27, 28, 29, 30, 31, 32, 33, 34] (by decide +kernel) (by decide +kernel)
set_option maxRecDepth 20000 in
theorem gX0_countPassings_X0_toOf : GoodIn wsX0_countPassings (wsV RX0 69 RX0 yX0_toOf wsX0_toOf) := goodIn_app (goodIn_of _ (by decide +kernel)) ggX0_countPassings_X0_toOf
theorem dX0_countPassings_0 : decode cX0_countPassings 0 = .ok (.iconst 0, 1) := by decide +kernel
theorem dX0_countPassings_1 : decode cX0_countPassings 1 = .ok (.istore_n 3, 1) := by decide +kernel
theorem dX0_countPassings_2 : decode cX0_countPassings 2 = .ok (.iconst 0, 1) := by decide +kernel
theorem dX0_countPassings_3 : decode cX0_countPassings 3 = .ok (.istore 4, 2) := by decide +kernel
theorem dX0_countPassings_5 : decode cX0_countPassings 5 = .ok (.iload 4, 2) := by decide +kernel
theorem dX0_countPassings_7 : decode cX0_countPassings 7 = .ok (.aload_n 0, 1) := by decide +kernel
theorem dX0_countPassings_8 : decode cX0_countPassings 8 = .ok (.getfield 42, 3) := by decide +kernel
theorem dX0_countPassings_11 : decode cX0_countPassings 11 = .ok (.if_icmp .ge 32, 3) := by decide +kernel
theorem dX0_countPassings_14 : decode cX0_countPassings 14 = .ok (.aload_n 0, 1) := by decide +kernel
theorem dX0_countPassings_15 : decode cX0_countPassings 15 = .ok (.iload 4, 2) := by decide +kernel
theorem dX0_countPassings_17 : decode cX0_countPassings 17 = .ok (.invokevirtual 66, 3) := by decide +kernel
theorem dX0_countPassings_20 : decode cX0_countPassings 20 = .ok (.iload_n 1, 1) := by decide +kernel
theorem dX0_countPassings_21 : decode cX0_countPassings 21 = .ok (.if_icmp .ne 16, 3) := by decide +kernel
theorem dX0_countPassings_24 : decode cX0_countPassings 24 = .ok (.aload_n 0, 1) := by decide +kernel
theorem dX0_countPassings_25 : decode cX0_countPassings 25 = .ok (.iload 4, 2) := by decide +kernel
theorem dX0_countPassings_27 : decode cX0_countPassings 27 = .ok (.invokevirtual 69, 3) := by decide +kernel
theorem dX0_countPassings_30 : decode cX0_countPassings 30 = .ok (.iload_n 2, 1) := by decide +kernel
theorem dX0_countPassings_31 : decode cX0_countPassings 31 = .ok (.if_icmp .ne 6, 3) := by decide +kernel
theorem dX0_countPassings_34 : decode cX0_countPassings 34 = .ok (.iinc 3 1, 3) := by decide +kernel
theorem dX0_countPassings_37 : decode cX0_countPassings 37 = .ok (.iinc 4 1, 3) := by decide +kernel
theorem dX0_countPassings_40 : decode cX0_countPassings 40 = .ok (.goto (-35), 3) := by decide +kernel
theorem dX0_countPassings_43 : decode cX0_countPassings 43 = .ok (.iload_n 3, 1) := by decide +kernel
theorem dX0_countPassings_44 : decode cX0_countPassings 44 = .ok (.ireturn, 1) := by decide +kernel
end
section
set_option maxRecDepth 20000 in
theorem ggX4_init_X2_init : GoodIn wsX4_init wsX2_init := goodIn_r _ [11, 12, 2, 3, 13, 14, 15] (by decide +kernel) (by decide +kernel)
set_option maxRecDepth 20000 in
theorem gX4_init_X2_init : GoodIn wsX4_init (wsX2_init) := ggX4_init_X2_init
theorem dX4_init_0 : decode cX4_init 0 = .ok (.aload_n 0, 1) := by decide +kernel
theorem dX4_init_1 : decode cX4_init 1 = .ok (.invokespecial 3, 3) := by decide +kernel
theorem dX4_init_4 : decode cX4_init 4 = .ok (.aload_n 0, 1) := by decide +kernel
theorem dX4_init_5 : decode cX4_init 5 = .ok (.new 9, 3) := by decide +kernel
theorem dX4_init_8 : decode cX4_init 8 = .ok (.dup, 1) := by decide +kernel
theorem dX4_init_9 : decode cX4_init 9 = .ok (.sipush 1296, 3) := by decide +kernel
theorem dX4_init_12 : decode cX4_init 12 = .ok (.invokespecial 11, 3) := by decide +kernel
theorem dX4_init_15 : decode cX4_init 15 = .ok (.putfield 14, 3) := by decide +kernel
theorem dX4_init_18 : decode cX4_init 18 = .ok (.aload_n 0, 1) := by decide +kernel
theorem dX4_init_19 : decode cX4_init 19 = .ok (.new 9, 3) := by decide +kernel
theorem dX4_init_22 : decode cX4_init 22 = .ok (.dup, 1) := by decide +kernel
theorem dX4_init_23 : decode cX4_init 23 = .ok (.sipush 1296, 3) := by decide +kernel
theorem dX4_init_26 : decode cX4_init 26 = .ok (.invokespecial 11, 3) := by decide +kernel
theorem dX4_init_29 : decode cX4_init 29 = .ok (.putfield 20, 3) := by decide +kernel
theorem dX4_init_32 : decode cX4_init 32 = .ok (.return_, 1) := by decide +kernel
set_option maxRecDepth 20000 in
theorem ggX4_of_X2_get : GoodIn wsX4_of wsX2_get := goodIn_r _ [6, 7, 8, 9, 10, 5, 11, 14] (by decide +kernel) (by decide +kernel)
set_option maxRecDepth 20000 in
theorem gX4_of_X2_get : GoodIn wsX4_of (wsV RX4 23 RX2 yX2_get wsX2_get) := goodIn_app (goodIn_of _ (by decide +kernel)) ggX4_of_X2_get
theorem dX4_of_0 : decode cX4_of 0 = .ok (.aload_n 0, 1) := by decide +kernel
theorem dX4_of_1 : decode cX4_of 1 = .ok (.getfield 14, 3) := by decide +kernel
theorem dX4_of_4 : decode cX4_of 4 = .ok (.iload_n 1, 1) := by decide +kernel
theorem dX4_of_5 : decode cX4_of 5 = .ok (.invokevirtual 23, 3) := by decide +kernel
theorem dX4_of_8 : decode cX4_of 8 = .ok (.ireturn, 1) := by decide +kernel
set_option maxRecDepth 20000 in
theorem ggX4_find_X2_fill : GoodIn wsX4_find wsX2_fill := goodIn_r _ [6, 7, 8, 9, 10, 11, 80] (by decide +kernel) (by decide +kernel)
set_option maxRecDepth 20000 in
theorem gX4_find_X2_fill : GoodIn wsX4_find (wsV RX4 27 RX2 yX2_fill wsX2_fill) := goodIn_app (goodIn_of _ (by decide +kernel)) ggX4_find_X2_fill
set_option maxRecDepth 20000 in
theorem ggX4_find_X4_addUp : GoodIn wsX4_find wsX4_addUp := goodIn_r _ [16, 17, 18, 1, 19, 20, 21, 22, 23, 24, 25, 26, 27, 28, 29, 30, 31, 32, 5, 33, 7, 34, 35, 36, 37, 38, 39, 40, 41, 42, 43, 44, 45, 46, 47, 48, 49, 50, 51, 52, 53, 54, 55, 56, 57, 58, 59, 60, 61, 62, 63, 64, 65, 66, 67, 68, 78, 79, 81, 82, 83, 84, 85, 86, 87, 88, 89, 90, 91, 80] (by decide +kernel) (by decide +kernel)
set_option maxRecDepth 20000 in
theorem gX4_find_X4_addUp : GoodIn wsX4_find (wsV RX4 30 RX4 yX4_addUp wsX4_addUp) := goodIn_app (goodIn_of _ (by decide +kernel)) ggX4_find_X4_addUp
set_option maxRecDepth 20000 in
theorem ggX4_find_X4_share : GoodIn wsX4_find wsX4_share := goodIn_r _ [72, 1, 17, 19, 20, 21, 22, 23, 24, 25, 26, 27, 28, 29, 30, 31, 32, 5, 33, 7, 34, 35, 36, 37, 73, 74, 75, 76, 77, 62, 43, 44, 45, 46, 78, 79, 81, 82, 83, 84, 85, 86, 87, 88, 89, 90, 91, 80] (by decide +kernel) (by decide +kernel)
set_option maxRecDepth 20000 in
theorem gX4_find_X4_share : GoodIn wsX4_find (wsV RX4 34 RX4 yX4_share wsX4_share) := goodIn_app (goodIn_of _ (by decide +kernel)) ggX4_find_X4_share
theorem dX4_find_0 : decode cX4_find 0 = .ok (.aload_n 0, 1) := by decide +kernel
theorem dX4_find_1 : decode cX4_find 1 = .ok (.getfield 14, 3) := by decide +kernel
theorem dX4_find_4 : decode cX4_find 4 = .ok (.iconst 0, 1) := by decide +kernel
theorem dX4_find_5 : decode cX4_find 5 = .ok (.invokevirtual 27, 3) := by decide +kernel
theorem dX4_find_8 : decode cX4_find 8 = .ok (.iconst 0, 1) := by decide +kernel
theorem dX4_find_9 : decode cX4_find 9 = .ok (.istore_n 2, 1) := by decide +kernel
theorem dX4_find_10 : decode cX4_find 10 = .ok (.iload_n 2, 1) := by decide +kernel
theorem dX4_find_11 : decode cX4_find 11 = .ok (.bipush 60, 2) := by decide +kernel
theorem dX4_find_13 : decode cX4_find 13 = .ok (.if_icmp .ge 19, 3) := by decide +kernel
theorem dX4_find_16 : decode cX4_find 16 = .ok (.aload_n 0, 1) := by decide +kernel
theorem dX4_find_17 : decode cX4_find 17 = .ok (.aload_n 1, 1) := by decide +kernel
theorem dX4_find_18 : decode cX4_find 18 = .ok (.invokevirtual 30, 3) := by decide +kernel
theorem dX4_find_21 : decode cX4_find 21 = .ok (.aload_n 0, 1) := by decide +kernel
theorem dX4_find_22 : decode cX4_find 22 = .ok (.aload_n 1, 1) := by decide +kernel
theorem dX4_find_23 : decode cX4_find 23 = .ok (.invokevirtual 34, 3) := by decide +kernel
theorem dX4_find_26 : decode cX4_find 26 = .ok (.iinc 2 1, 3) := by decide +kernel
theorem dX4_find_29 : decode cX4_find 29 = .ok (.goto (-19), 3) := by decide +kernel
theorem dX4_find_32 : decode cX4_find 32 = .ok (.return_, 1) := by decide +kernel
set_option maxRecDepth 20000 in
theorem ggX4_addUp_X0_metCount : GoodIn wsX4_addUp wsX0_metCount := goodIn_r _ [8, 9, 58, 59, 60, 61, 62, 63, 64, 65, 66, 67, 68] (by decide +kernel) (by decide +kernel)
set_option maxRecDepth 20000 in
theorem gX4_addUp_X0_metCount : GoodIn wsX4_addUp (wsV RX4 37 RX0 yX0_metCount wsX0_metCount) := goodIn_app (goodIn_of _ (by decide +kernel)) ggX4_addUp_X0_metCount
set_option maxRecDepth 20000 in
theorem ggX4_addUp_X0_metForm : GoodIn wsX4_addUp wsX0_metForm := goodIn_r _ [13, 14, 15, 16, 17, 18, 19, 20, 21, 22, 23, 24, 58, 59, 60, 61, 62, 63, 64, 65, 66, 67, 68, 69] (by decide +kernel) (by decide +kernel)
set_option maxRecDepth 20000 in
theorem gX4_addUp_X0_metForm : GoodIn wsX4_addUp (wsV RX4 43 RX0 yX0_metForm wsX0_metForm) := goodIn_app (goodIn_of _ (by decide +kernel)) ggX4_addUp_X0_metForm
set_option maxRecDepth 20000 in
theorem ggX4_addUp_X0_rightEndings : GoodIn wsX4_addUp wsX0_rightEndings := goodIn_r _ [28, 29, 15, 16, 17, 18, 19, 20, 21, 22, 23, 24, 58, 59, 60, 61, 62, 63, 64, 65, 66, 67, 68, 69] (by decide +kernel) (by decide +kernel)
set_option maxRecDepth 20000 in
theorem gX4_addUp_X0_rightEndings : GoodIn wsX4_addUp (wsV RX4 46 RX0 yX0_rightEndings wsX0_rightEndings) := goodIn_app (goodIn_of _ (by decide +kernel)) ggX4_addUp_X0_rightEndings
set_option maxRecDepth 20000 in
theorem ggX4_addUp_X2_set : GoodIn wsX4_addUp wsX2_set := goodIn_r _ [33, 20, 21, 22, 23, 18, 24, 69] (by decide +kernel) (by decide +kernel)
set_option maxRecDepth 20000 in
theorem gX4_addUp_X2_set : GoodIn wsX4_addUp (wsV RX4 50 RX2 yX2_set wsX2_set) := goodIn_app (goodIn_of _ (by decide +kernel)) ggX4_addUp_X2_set
set_option maxRecDepth 20000 in
theorem ggX4_addUp_X0_passedCount : GoodIn wsX4_addUp wsX0_passedCount := goodIn_r _ [37, 38, 58, 59, 60, 61, 62, 63, 64, 65, 66, 67, 68] (by decide +kernel) (by decide +kernel)
set_option maxRecDepth 20000 in
theorem gX4_addUp_X0_passedCount : GoodIn wsX4_addUp (wsV RX4 54 RX0 yX0_passedCount wsX0_passedCount) := goodIn_app (goodIn_of _ (by decide +kernel)) ggX4_addUp_X0_passedCount
set_option maxRecDepth 20000 in
theorem ggX4_addUp_X0_fromOf : GoodIn wsX4_addUp wsX0_fromOf := goodIn_r _ [42, 43, 15, 16, 17, 18, 19, 20, 21, 22, 23, 24, 58, 59, 60, 61, 62, 63, 64, 65, 66, 67, 68, 69] (by decide +kernel) (by decide +kernel)
set_option maxRecDepth 20000 in
theorem gX4_addUp_X0_fromOf : GoodIn wsX4_addUp (wsV RX4 57 RX0 yX0_fromOf wsX0_fromOf) := goodIn_app (goodIn_of _ (by decide +kernel)) ggX4_addUp_X0_fromOf
set_option maxRecDepth 20000 in
theorem ggX4_addUp_X0_toOf : GoodIn wsX4_addUp wsX0_toOf := goodIn_r _ [47, 48, 15, 16, 17, 18, 19, 20, 21, 22, 23, 24, 58, 59, 60, 61, 62, 63, 64, 65, 66, 67, 68, 69] (by decide +kernel) (by decide +kernel)
set_option maxRecDepth 20000 in
theorem gX4_addUp_X0_toOf : GoodIn wsX4_addUp (wsV RX4 60 RX0 yX0_toOf wsX0_toOf) := goodIn_app (goodIn_of _ (by decide +kernel)) ggX4_addUp_X0_toOf
set_option maxRecDepth 20000 in
theorem ggX4_addUp_X2_get : GoodIn wsX4_addUp wsX2_get := goodIn_r _ [19, 20, 21, 22, 23, 18, 24, 69] (by decide +kernel) (by decide +kernel)
set_option maxRecDepth 20000 in
theorem gX4_addUp_X2_get : GoodIn wsX4_addUp (wsV RX4 23 RX2 yX2_get wsX2_get) := goodIn_app (goodIn_of _ (by decide +kernel)) ggX4_addUp_X2_get
set_option maxRecDepth 20000 in
theorem ggX4_addUp_X2_add : GoodIn wsX4_addUp wsX2_add := goodIn_r _ [53, 54, 16, 17, 18, 19, 20, 21, 22, 23, 24, 55, 31, 32, 33, 69] (by decide +kernel) (by decide +kernel)
set_option maxRecDepth 20000 in
theorem gX4_addUp_X2_add : GoodIn wsX4_addUp (wsV RX4 63 RX2 yX2_add wsX2_add) := goodIn_app (goodIn_of _ (by decide +kernel)) ggX4_addUp_X2_add
theorem dX4_addUp_0 : decode cX4_addUp 0 = .ok (.iconst 0, 1) := by decide +kernel
theorem dX4_addUp_1 : decode cX4_addUp 1 = .ok (.istore_n 2, 1) := by decide +kernel
theorem dX4_addUp_2 : decode cX4_addUp 2 = .ok (.iload_n 2, 1) := by decide +kernel
theorem dX4_addUp_3 : decode cX4_addUp 3 = .ok (.aload_n 1, 1) := by decide +kernel
theorem dX4_addUp_4 : decode cX4_addUp 4 = .ok (.invokevirtual 37, 3) := by decide +kernel
theorem dX4_addUp_7 : decode cX4_addUp 7 = .ok (.if_icmp .ge 31, 3) := by decide +kernel
theorem dX4_addUp_10 : decode cX4_addUp 10 = .ok (.aload_n 1, 1) := by decide +kernel
theorem dX4_addUp_11 : decode cX4_addUp 11 = .ok (.iload_n 2, 1) := by decide +kernel
theorem dX4_addUp_12 : decode cX4_addUp 12 = .ok (.invokevirtual 43, 3) := by decide +kernel
theorem dX4_addUp_15 : decode cX4_addUp 15 = .ok (.istore_n 3, 1) := by decide +kernel
theorem dX4_addUp_16 : decode cX4_addUp 16 = .ok (.aload_n 0, 1) := by decide +kernel
theorem dX4_addUp_17 : decode cX4_addUp 17 = .ok (.getfield 20, 3) := by decide +kernel
theorem dX4_addUp_20 : decode cX4_addUp 20 = .ok (.iload_n 3, 1) := by decide +kernel
theorem dX4_addUp_21 : decode cX4_addUp 21 = .ok (.aload_n 1, 1) := by decide +kernel
theorem dX4_addUp_22 : decode cX4_addUp 22 = .ok (.iload_n 3, 1) := by decide +kernel
theorem dX4_addUp_23 : decode cX4_addUp 23 = .ok (.invokevirtual 46, 3) := by decide +kernel
theorem dX4_addUp_26 : decode cX4_addUp 26 = .ok (.ldc 49, 2) := by decide +kernel
theorem dX4_addUp_28 : decode cX4_addUp 28 = .ok (.imul, 1) := by decide +kernel
theorem dX4_addUp_29 : decode cX4_addUp 29 = .ok (.invokevirtual 50, 3) := by decide +kernel
theorem dX4_addUp_32 : decode cX4_addUp 32 = .ok (.iinc 2 1, 3) := by decide +kernel
theorem dX4_addUp_35 : decode cX4_addUp 35 = .ok (.goto (-33), 3) := by decide +kernel
theorem dX4_addUp_38 : decode cX4_addUp 38 = .ok (.iconst 0, 1) := by decide +kernel
theorem dX4_addUp_39 : decode cX4_addUp 39 = .ok (.istore_n 2, 1) := by decide +kernel
theorem dX4_addUp_40 : decode cX4_addUp 40 = .ok (.iload_n 2, 1) := by decide +kernel
theorem dX4_addUp_41 : decode cX4_addUp 41 = .ok (.aload_n 1, 1) := by decide +kernel
theorem dX4_addUp_42 : decode cX4_addUp 42 = .ok (.invokevirtual 54, 3) := by decide +kernel
theorem dX4_addUp_45 : decode cX4_addUp 45 = .ok (.if_icmp .ge 33, 3) := by decide +kernel
theorem dX4_addUp_48 : decode cX4_addUp 48 = .ok (.aload_n 0, 1) := by decide +kernel
theorem dX4_addUp_49 : decode cX4_addUp 49 = .ok (.getfield 20, 3) := by decide +kernel
theorem dX4_addUp_52 : decode cX4_addUp 52 = .ok (.aload_n 1, 1) := by decide +kernel
theorem dX4_addUp_53 : decode cX4_addUp 53 = .ok (.iload_n 2, 1) := by decide +kernel
theorem dX4_addUp_54 : decode cX4_addUp 54 = .ok (.invokevirtual 57, 3) := by decide +kernel
theorem dX4_addUp_57 : decode cX4_addUp 57 = .ok (.aload_n 0, 1) := by decide +kernel
theorem dX4_addUp_58 : decode cX4_addUp 58 = .ok (.getfield 14, 3) := by decide +kernel
theorem dX4_addUp_61 : decode cX4_addUp 61 = .ok (.aload_n 1, 1) := by decide +kernel
theorem dX4_addUp_62 : decode cX4_addUp 62 = .ok (.iload_n 2, 1) := by decide +kernel
theorem dX4_addUp_63 : decode cX4_addUp 63 = .ok (.invokevirtual 60, 3) := by decide +kernel
theorem dX4_addUp_66 : decode cX4_addUp 66 = .ok (.invokevirtual 23, 3) := by decide +kernel
theorem dX4_addUp_69 : decode cX4_addUp 69 = .ok (.invokevirtual 63, 3) := by decide +kernel
theorem dX4_addUp_72 : decode cX4_addUp 72 = .ok (.iinc 2 1, 3) := by decide +kernel
theorem dX4_addUp_75 : decode cX4_addUp 75 = .ok (.goto (-35), 3) := by decide +kernel
theorem dX4_addUp_78 : decode cX4_addUp 78 = .ok (.return_, 1) := by decide +kernel
set_option maxRecDepth 20000 in
theorem ggX4_share_X0_metCount : GoodIn wsX4_share wsX0_metCount := goodIn_r _ [7, 8, 36, 37, 38, 39, 40, 41, 42, 43, 44, 45, 46] (by decide +kernel) (by decide +kernel)
set_option maxRecDepth 20000 in
theorem gX4_share_X0_metCount : GoodIn wsX4_share (wsV RX4 37 RX0 yX0_metCount wsX0_metCount) := goodIn_app (goodIn_of _ (by decide +kernel)) ggX4_share_X0_metCount
set_option maxRecDepth 20000 in
theorem ggX4_share_X0_metForm : GoodIn wsX4_share wsX0_metForm := goodIn_r _ [12, 13, 14, 15, 16, 17, 18, 19, 20, 21, 22, 23, 36, 37, 38, 39, 40, 41, 42, 43, 44, 45, 46, 47] (by decide +kernel) (by decide +kernel)
set_option maxRecDepth 20000 in
theorem gX4_share_X0_metForm : GoodIn wsX4_share (wsV RX4 43 RX0 yX0_metForm wsX0_metForm) := goodIn_app (goodIn_of _ (by decide +kernel)) ggX4_share_X0_metForm
set_option maxRecDepth 20000 in
theorem ggX4_share_X0_leavingsOf : GoodIn wsX4_share wsX0_leavingsOf := goodIn_r _ [27, 28, 14, 15, 16, 17, 18, 19, 20, 21, 22, 23, 36, 37, 38, 39, 40, 41, 42, 43, 44, 45, 46, 47] (by decide +kernel) (by decide +kernel)
set_option maxRecDepth 20000 in
theorem gX4_share_X0_leavingsOf : GoodIn wsX4_share (wsV RX4 66 RX0 yX0_leavingsOf wsX0_leavingsOf) := goodIn_app (goodIn_of _ (by decide +kernel)) ggX4_share_X0_leavingsOf
set_option maxRecDepth 20000 in
theorem ggX4_share_X2_get : GoodIn wsX4_share wsX2_get := goodIn_r _ [18, 19, 20, 21, 22, 17, 23, 47] (by decide +kernel) (by decide +kernel)
set_option maxRecDepth 20000 in
theorem gX4_share_X2_get : GoodIn wsX4_share (wsV RX4 23 RX2 yX2_get wsX2_get) := goodIn_app (goodIn_of _ (by decide +kernel)) ggX4_share_X2_get
set_option maxRecDepth 20000 in
theorem ggX4_share_X2_set : GoodIn wsX4_share wsX2_set := goodIn_r _ [33, 19, 20, 21, 22, 17, 23, 47] (by decide +kernel) (by decide +kernel)
set_option maxRecDepth 20000 in
theorem gX4_share_X2_set : GoodIn wsX4_share (wsV RX4 50 RX2 yX2_set wsX2_set) := goodIn_app (goodIn_of _ (by decide +kernel)) ggX4_share_X2_set
theorem dX4_share_0 : decode cX4_share 0 = .ok (.iconst 0, 1) := by decide +kernel
theorem dX4_share_1 : decode cX4_share 1 = .ok (.istore_n 2, 1) := by decide +kernel
theorem dX4_share_2 : decode cX4_share 2 = .ok (.iload_n 2, 1) := by decide +kernel
theorem dX4_share_3 : decode cX4_share 3 = .ok (.aload_n 1, 1) := by decide +kernel
theorem dX4_share_4 : decode cX4_share 4 = .ok (.invokevirtual 37, 3) := by decide +kernel
theorem dX4_share_7 : decode cX4_share 7 = .ok (.if_icmp .ge 50, 3) := by decide +kernel
theorem dX4_share_10 : decode cX4_share 10 = .ok (.aload_n 1, 1) := by decide +kernel
theorem dX4_share_11 : decode cX4_share 11 = .ok (.iload_n 2, 1) := by decide +kernel
theorem dX4_share_12 : decode cX4_share 12 = .ok (.invokevirtual 43, 3) := by decide +kernel
theorem dX4_share_15 : decode cX4_share 15 = .ok (.istore_n 3, 1) := by decide +kernel
theorem dX4_share_16 : decode cX4_share 16 = .ok (.aload_n 1, 1) := by decide +kernel
theorem dX4_share_17 : decode cX4_share 17 = .ok (.iload_n 3, 1) := by decide +kernel
theorem dX4_share_18 : decode cX4_share 18 = .ok (.invokevirtual 66, 3) := by decide +kernel
theorem dX4_share_21 : decode cX4_share 21 = .ok (.istore 4, 2) := by decide +kernel
theorem dX4_share_23 : decode cX4_share 23 = .ok (.aload_n 0, 1) := by decide +kernel
theorem dX4_share_24 : decode cX4_share 24 = .ok (.getfield 14, 3) := by decide +kernel
theorem dX4_share_27 : decode cX4_share 27 = .ok (.iload_n 3, 1) := by decide +kernel
theorem dX4_share_28 : decode cX4_share 28 = .ok (.iload 4, 2) := by decide +kernel
theorem dX4_share_30 : decode cX4_share 30 = .ok (.ifCond .le 17, 3) := by decide +kernel
theorem dX4_share_33 : decode cX4_share 33 = .ok (.aload_n 0, 1) := by decide +kernel
theorem dX4_share_34 : decode cX4_share 34 = .ok (.getfield 20, 3) := by decide +kernel
theorem dX4_share_37 : decode cX4_share 37 = .ok (.iload_n 3, 1) := by decide +kernel
theorem dX4_share_38 : decode cX4_share 38 = .ok (.invokevirtual 23, 3) := by decide +kernel
theorem dX4_share_41 : decode cX4_share 41 = .ok (.iload 4, 2) := by decide +kernel
theorem dX4_share_43 : decode cX4_share 43 = .ok (.idiv, 1) := by decide +kernel
theorem dX4_share_44 : decode cX4_share 44 = .ok (.goto 4, 3) := by decide +kernel
theorem dX4_share_47 : decode cX4_share 47 = .ok (.iconst 0, 1) := by decide +kernel
theorem dX4_share_48 : decode cX4_share 48 = .ok (.invokevirtual 50, 3) := by decide +kernel
theorem dX4_share_51 : decode cX4_share 51 = .ok (.iinc 2 1, 3) := by decide +kernel
theorem dX4_share_54 : decode cX4_share 54 = .ok (.goto (-52), 3) := by decide +kernel
theorem dX4_share_57 : decode cX4_share 57 = .ok (.return_, 1) := by decide +kernel
end
section
set_option maxRecDepth 20000 in
theorem ggX5_init_X1_init : GoodIn wsX5_init wsX1_init := goodIn_r _ [22, 23, 2, 3, 24, 25, 26, 27, 28, 29, 30, 31, 32, 33, 34, 35, 6, 36, 37, 38, 39, 40, 41, 42, 43, 44, 45, 46, 47, 48, 49, 50, 51, 52, 53, 54, 55, 56, 57, 58, 59, 60, 61, 62, 63, 113, 93] (by decide +kernel) (by decide +kernel)
set_option maxRecDepth 20000 in
theorem gX5_init_X1_init : GoodIn wsX5_init (wsX1_init) := ggX5_init_X1_init
set_option maxRecDepth 20000 in
theorem ggX5_init_X3_init : GoodIn wsX5_init wsX3_init := goodIn_r _ [66, 67, 2, 3, 68, 25, 26, 69, 70, 71, 29, 30, 31, 32, 33, 113, 98, 99] (by decide +kernel) (by decide +kernel)
set_option maxRecDepth 20000 in
theorem gX5_init_X3_init : GoodIn wsX5_init (wsX3_init) := ggX5_init_X3_init
set_option maxRecDepth 20000 in
theorem ggX5_init_X0_init : GoodIn wsX5_init wsX0_init := goodIn_r _ [74, 75, 2, 3, 76, 25, 26, 77, 78, 79, 80, 81, 82, 83, 84, 29, 30, 31, 32, 33, 113, 100, 101, 102, 103, 104, 105, 106, 107, 108, 109, 110] (by decide +kernel) (by decide +kernel)
set_option maxRecDepth 20000 in
theorem gX5_init_X0_init : GoodIn wsX5_init (wsX0_init) := ggX5_init_X0_init
set_option maxRecDepth 20000 in
theorem ggX5_init_X4_init : GoodIn wsX5_init wsX4_init := goodIn_r _ [87, 88, 2, 3, 89, 25, 26, 90, 91, 92, 29, 30, 31, 32, 33, 113, 111, 112] (by decide +kernel) (by decide +kernel)
set_option maxRecDepth 20000 in
theorem gX5_init_X4_init : GoodIn wsX5_init (wsX4_init) := ggX5_init_X4_init
theorem dX5_init_0 : decode cX5_init 0 = .ok (.aload_n 0, 1) := by decide +kernel
theorem dX5_init_1 : decode cX5_init 1 = .ok (.invokespecial 1, 3) := by decide +kernel
theorem dX5_init_4 : decode cX5_init 4 = .ok (.aload_n 0, 1) := by decide +kernel
theorem dX5_init_5 : decode cX5_init 5 = .ok (.new 7, 3) := by decide +kernel
theorem dX5_init_8 : decode cX5_init 8 = .ok (.dup, 1) := by decide +kernel
theorem dX5_init_9 : decode cX5_init 9 = .ok (.invokespecial 9, 3) := by decide +kernel
theorem dX5_init_12 : decode cX5_init 12 = .ok (.putfield 10, 3) := by decide +kernel
theorem dX5_init_15 : decode cX5_init 15 = .ok (.aload_n 0, 1) := by decide +kernel
theorem dX5_init_16 : decode cX5_init 16 = .ok (.new 16, 3) := by decide +kernel
theorem dX5_init_19 : decode cX5_init 19 = .ok (.dup, 1) := by decide +kernel
theorem dX5_init_20 : decode cX5_init 20 = .ok (.invokespecial 18, 3) := by decide +kernel
theorem dX5_init_23 : decode cX5_init 23 = .ok (.putfield 19, 3) := by decide +kernel
theorem dX5_init_26 : decode cX5_init 26 = .ok (.aload_n 0, 1) := by decide +kernel
theorem dX5_init_27 : decode cX5_init 27 = .ok (.new 23, 3) := by decide +kernel
theorem dX5_init_30 : decode cX5_init 30 = .ok (.dup, 1) := by decide +kernel
theorem dX5_init_31 : decode cX5_init 31 = .ok (.invokespecial 25, 3) := by decide +kernel
theorem dX5_init_34 : decode cX5_init 34 = .ok (.putfield 26, 3) := by decide +kernel
theorem dX5_init_37 : decode cX5_init 37 = .ok (.aload_n 0, 1) := by decide +kernel
theorem dX5_init_38 : decode cX5_init 38 = .ok (.new 30, 3) := by decide +kernel
theorem dX5_init_41 : decode cX5_init 41 = .ok (.dup, 1) := by decide +kernel
theorem dX5_init_42 : decode cX5_init 42 = .ok (.invokespecial 32, 3) := by decide +kernel
theorem dX5_init_45 : decode cX5_init 45 = .ok (.putfield 33, 3) := by decide +kernel
theorem dX5_init_48 : decode cX5_init 48 = .ok (.return_, 1) := by decide +kernel
set_option maxRecDepth 20000 in
theorem ggX5_form_X5_checkedForm : GoodIn wsX5_form wsX5_checkedForm := goodIn_ca (goodIn_r _ [5, 6, 7, 8, 9, 10, 11, 12, 13, 14, 15, 16, 17, 18, 19, 20, 21, 22, 23, 24, 25, 26, 27, 28, 29, 30] (by decide +kernel) (by decide +kernel)) (goodIn_sub (fun _ h => List.mem_cons_of_mem _ (List.mem_append_right _ h)) (by decide +kernel))
set_option maxRecDepth 20000 in
theorem gX5_form_X5_checkedForm : GoodIn wsX5_form (wsV RX5 37 RX5 yX5_checkedForm wsX5_checkedForm) := goodIn_app (goodIn_of _ (by decide +kernel)) ggX5_form_X5_checkedForm
theorem dX5_form_0 : decode cX5_form 0 = .ok (.aload_n 0, 1) := by decide +kernel
theorem dX5_form_1 : decode cX5_form 1 = .ok (.iload_n 1, 1) := by decide +kernel
theorem dX5_form_2 : decode cX5_form 2 = .ok (.invokevirtual 37, 3) := by decide +kernel
theorem dX5_form_5 : decode cX5_form 5 = .ok (.ireturn, 1) := by decide +kernel
set_option maxRecDepth 20000 in
theorem ggX5_edit_X5_checkedForm : GoodIn wsX5_edit wsX5_checkedForm := goodIn_ca (goodIn_r _ [10, 1, 2, 5, 11, 12, 13, 14, 15, 16, 17, 18, 19, 20, 21, 22, 23, 24, 25, 26, 38, 39, 40, 41, 42, 43] (by decide +kernel) (by decide +kernel)) (goodIn_sub (fun _ h => List.mem_cons_of_mem _ (List.mem_append_left _ (List.mem_append_right _ h))) (by decide +kernel))
set_option maxRecDepth 20000 in
theorem gX5_edit_X5_checkedForm : GoodIn wsX5_edit (wsV RX5 37 RX5 yX5_checkedForm wsX5_checkedForm) := goodIn_app (goodIn_of _ (by decide +kernel)) ggX5_edit_X5_checkedForm
set_option maxRecDepth 20000 in
theorem ggX5_edit_X1_behind : GoodIn wsX5_edit wsX1_behind := goodIn_r _ [30, 31, 32, 14, 33, 34, 35, 36, 37, 12, 13, 15, 16, 17, 18, 19, 20, 21, 22, 23, 24, 25, 26, 42, 43] (by decide +kernel) (by decide +kernel)
set_option maxRecDepth 20000 in
theorem gX5_edit_X1_behind : GoodIn wsX5_edit (wsV RX5 53 RX1 yX1_behind wsX1_behind) := goodIn_app (goodIn_of _ (by decide +kernel)) ggX5_edit_X1_behind
theorem dX5_edit_0 : decode cX5_edit 0 = .ok (.aload_n 0, 1) := by decide +kernel
theorem dX5_edit_1 : decode cX5_edit 1 = .ok (.iload_n 1, 1) := by decide +kernel
theorem dX5_edit_2 : decode cX5_edit 2 = .ok (.invokevirtual 37, 3) := by decide +kernel
theorem dX5_edit_5 : decode cX5_edit 5 = .ok (.istore 4, 2) := by decide +kernel
theorem dX5_edit_7 : decode cX5_edit 7 = .ok (.iload_n 2, 1) := by decide +kernel
theorem dX5_edit_8 : decode cX5_edit 8 = .ok (.ifCond .lt 8, 3) := by decide +kernel
theorem dX5_edit_11 : decode cX5_edit 11 = .ok (.iload_n 2, 1) := by decide +kernel
theorem dX5_edit_12 : decode cX5_edit 12 = .ok (.iconst 4, 1) := by decide +kernel
theorem dX5_edit_13 : decode cX5_edit 13 = .ok (.if_icmp .lt 13, 3) := by decide +kernel
theorem dX5_edit_16 : decode cX5_edit 16 = .ok (.new 41, 3) := by decide +kernel
theorem dX5_edit_19 : decode cX5_edit 19 = .ok (.dup, 1) := by decide +kernel
theorem dX5_edit_20 : decode cX5_edit 20 = .ok (.ldc 43, 2) := by decide +kernel
theorem dX5_edit_22 : decode cX5_edit 22 = .ok (.invokespecial 45, 3) := by decide +kernel
theorem dX5_edit_25 : decode cX5_edit 25 = .ok (.athrow, 1) := by decide +kernel
theorem dX5_edit_26 : decode cX5_edit 26 = .ok (.iload_n 3, 1) := by decide +kernel
theorem dX5_edit_27 : decode cX5_edit 27 = .ok (.ifCond .lt 9, 3) := by decide +kernel
theorem dX5_edit_30 : decode cX5_edit 30 = .ok (.iload_n 3, 1) := by decide +kernel
theorem dX5_edit_31 : decode cX5_edit 31 = .ok (.bipush 6, 2) := by decide +kernel
theorem dX5_edit_33 : decode cX5_edit 33 = .ok (.if_icmp .lt 13, 3) := by decide +kernel
theorem dX5_edit_36 : decode cX5_edit 36 = .ok (.new 48, 3) := by decide +kernel
theorem dX5_edit_39 : decode cX5_edit 39 = .ok (.dup, 1) := by decide +kernel
theorem dX5_edit_40 : decode cX5_edit 40 = .ok (.ldc 50, 2) := by decide +kernel
theorem dX5_edit_42 : decode cX5_edit 42 = .ok (.invokespecial 52, 3) := by decide +kernel
theorem dX5_edit_45 : decode cX5_edit 45 = .ok (.athrow, 1) := by decide +kernel
theorem dX5_edit_46 : decode cX5_edit 46 = .ok (.aload_n 0, 1) := by decide +kernel
theorem dX5_edit_47 : decode cX5_edit 47 = .ok (.getfield 10, 3) := by decide +kernel
theorem dX5_edit_50 : decode cX5_edit 50 = .ok (.iload 4, 2) := by decide +kernel
theorem dX5_edit_52 : decode cX5_edit 52 = .ok (.iload_n 2, 1) := by decide +kernel
theorem dX5_edit_53 : decode cX5_edit 53 = .ok (.iload_n 3, 1) := by decide +kernel
theorem dX5_edit_54 : decode cX5_edit 54 = .ok (.invokevirtual 53, 3) := by decide +kernel
theorem dX5_edit_57 : decode cX5_edit 57 = .ok (.ireturn, 1) := by decide +kernel
set_option maxRecDepth 20000 in
theorem ggX5_neighbours_X5_checkedForm : GoodIn wsX5_neighbours wsX5_checkedForm := goodIn_ca (goodIn_r _ [7, 8, 9, 2, 10, 11, 12, 13, 14, 15, 16, 17, 18, 19, 20, 21, 22, 23, 24, 25, 67, 68, 69, 70, 71, 72] (by decide +kernel) (by decide +kernel)) (goodIn_sub (fun _ h => List.mem_cons_of_mem _ (List.mem_append_right _ h)) (by decide +kernel))
set_option maxRecDepth 20000 in
theorem gX5_neighbours_X5_checkedForm : GoodIn wsX5_neighbours (wsV RX5 37 RX5 yX5_checkedForm wsX5_checkedForm) := goodIn_app (goodIn_of _ (by decide +kernel)) ggX5_neighbours_X5_checkedForm
set_option maxRecDepth 20000 in
theorem ggX5_neighbours_X3_countBehindOneEdit : GoodIn wsX5_neighbours wsX3_countBehindOneEdit := goodIn_r _ [30, 31, 32, 33, 29, 34, 35, 36, 37, 38, 39, 19, 40, 21, 41, 42, 43, 44, 45, 46, 47, 48, 49, 50, 51, 52, 22, 23, 24, 25, 53, 54, 55, 56, 57, 58, 59, 13, 60, 61, 62, 63, 64, 65, 11, 12, 14, 15, 16, 17, 18, 20, 66, 73, 74, 72, 71] (by decide +kernel) (by decide +kernel)
set_option maxRecDepth 20000 in
theorem gX5_neighbours_X3_countBehindOneEdit : GoodIn wsX5_neighbours (wsV RX5 57 RX3 yX3_countBehindOneEdit wsX3_countBehindOneEdit) := goodIn_app (goodIn_of _ (by decide +kernel)) ggX5_neighbours_X3_countBehindOneEdit
theorem dX5_neighbours_0 : decode cX5_neighbours 0 = .ok (.aload_n 0, 1) := by decide +kernel
theorem dX5_neighbours_1 : decode cX5_neighbours 1 = .ok (.getfield 19, 3) := by decide +kernel
theorem dX5_neighbours_4 : decode cX5_neighbours 4 = .ok (.aload_n 0, 1) := by decide +kernel
theorem dX5_neighbours_5 : decode cX5_neighbours 5 = .ok (.getfield 10, 3) := by decide +kernel
theorem dX5_neighbours_8 : decode cX5_neighbours 8 = .ok (.aload_n 0, 1) := by decide +kernel
theorem dX5_neighbours_9 : decode cX5_neighbours 9 = .ok (.iload_n 1, 1) := by decide +kernel
theorem dX5_neighbours_10 : decode cX5_neighbours 10 = .ok (.invokevirtual 37, 3) := by decide +kernel
theorem dX5_neighbours_13 : decode cX5_neighbours 13 = .ok (.invokevirtual 57, 3) := by decide +kernel
theorem dX5_neighbours_16 : decode cX5_neighbours 16 = .ok (.ireturn, 1) := by decide +kernel
set_option maxRecDepth 20000 in
theorem ggX5_distance_X5_checkedForm : GoodIn wsX5_distance wsX5_checkedForm := goodIn_ca (goodIn_r _ [7, 8, 9, 2, 10, 11, 12, 13, 14, 15, 16, 17, 18, 19, 20, 21, 22, 23, 24, 25, 71, 72, 73, 74, 75, 76] (by decide +kernel) (by decide +kernel)) (goodIn_sub (fun _ h => List.mem_cons_of_mem _ (List.mem_append_right _ h)) (by decide +kernel))
set_option maxRecDepth 20000 in
theorem gX5_distance_X5_checkedForm : GoodIn wsX5_distance (wsV RX5 37 RX5 yX5_checkedForm wsX5_checkedForm) := goodIn_app (goodIn_of _ (by decide +kernel)) ggX5_distance_X5_checkedForm
set_option maxRecDepth 20000 in
theorem ggX5_distance_X3_goOutward : GoodIn wsX5_distance wsX3_goOutward := goodIn_r _ [30, 31, 32, 33, 34, 29, 35, 36, 37, 38, 39, 40, 19, 41, 21, 42, 43, 44, 45, 46, 47, 48, 49, 50, 51, 52, 53, 22, 23, 24, 25, 54, 17, 18, 20, 55, 56, 57, 58, 59, 60, 13, 61, 62, 63, 64, 65, 66, 11, 12, 14, 15, 16, 77, 78, 76, 75] (by decide +kernel) (by decide +kernel)
set_option maxRecDepth 20000 in
theorem gX5_distance_X3_goOutward : GoodIn wsX5_distance (wsV RX5 61 RX3 yX3_goOutward wsX3_goOutward) := goodIn_app (goodIn_of _ (by decide +kernel)) ggX5_distance_X3_goOutward
set_option maxRecDepth 20000 in
theorem ggX5_distance_X3_editsKnown : GoodIn wsX5_distance wsX3_editsKnown := goodIn_r _ [70, 36, 54, 17, 18, 19, 20, 21, 22, 23, 24, 25, 77, 78, 76] (by decide +kernel) (by decide +kernel)
set_option maxRecDepth 20000 in
theorem gX5_distance_X3_editsKnown : GoodIn wsX5_distance (wsV RX5 65 RX3 yX3_editsKnown wsX3_editsKnown) := goodIn_app (goodIn_of _ (by decide +kernel)) ggX5_distance_X3_editsKnown
theorem dX5_distance_0 : decode cX5_distance 0 = .ok (.aload_n 0, 1) := by decide +kernel
theorem dX5_distance_1 : decode cX5_distance 1 = .ok (.iload_n 1, 1) := by decide +kernel
theorem dX5_distance_2 : decode cX5_distance 2 = .ok (.invokevirtual 37, 3) := by decide +kernel
theorem dX5_distance_5 : decode cX5_distance 5 = .ok (.istore_n 3, 1) := by decide +kernel
theorem dX5_distance_6 : decode cX5_distance 6 = .ok (.aload_n 0, 1) := by decide +kernel
theorem dX5_distance_7 : decode cX5_distance 7 = .ok (.iload_n 2, 1) := by decide +kernel
theorem dX5_distance_8 : decode cX5_distance 8 = .ok (.invokevirtual 37, 3) := by decide +kernel
theorem dX5_distance_11 : decode cX5_distance 11 = .ok (.istore 4, 2) := by decide +kernel
theorem dX5_distance_13 : decode cX5_distance 13 = .ok (.aload_n 0, 1) := by decide +kernel
theorem dX5_distance_14 : decode cX5_distance 14 = .ok (.getfield 19, 3) := by decide +kernel
theorem dX5_distance_17 : decode cX5_distance 17 = .ok (.aload_n 0, 1) := by decide +kernel
theorem dX5_distance_18 : decode cX5_distance 18 = .ok (.getfield 10, 3) := by decide +kernel
theorem dX5_distance_21 : decode cX5_distance 21 = .ok (.iload_n 3, 1) := by decide +kernel
theorem dX5_distance_22 : decode cX5_distance 22 = .ok (.invokevirtual 61, 3) := by decide +kernel
theorem dX5_distance_25 : decode cX5_distance 25 = .ok (.aload_n 0, 1) := by decide +kernel
theorem dX5_distance_26 : decode cX5_distance 26 = .ok (.getfield 19, 3) := by decide +kernel
theorem dX5_distance_29 : decode cX5_distance 29 = .ok (.iload 4, 2) := by decide +kernel
theorem dX5_distance_31 : decode cX5_distance 31 = .ok (.invokevirtual 65, 3) := by decide +kernel
theorem dX5_distance_34 : decode cX5_distance 34 = .ok (.ireturn, 1) := by decide +kernel
set_option maxRecDepth 20000 in
theorem ggX5_distanceByRounds_X5_checkedForm : GoodIn wsX5_distanceByRounds wsX5_checkedForm := goodIn_ca (goodIn_r _ [7, 8, 9, 2, 10, 11, 12, 13, 14, 15, 16, 17, 18, 19, 20, 21, 22, 23, 24, 25, 82, 83, 84, 85, 86, 87] (by decide +kernel) (by decide +kernel)) (goodIn_sub (fun _ h => List.mem_cons_of_mem _ (List.mem_append_right _ h)) (by decide +kernel))
set_option maxRecDepth 20000 in
theorem gX5_distanceByRounds_X5_checkedForm : GoodIn wsX5_distanceByRounds (wsV RX5 37 RX5 yX5_checkedForm wsX5_checkedForm) := goodIn_app (goodIn_of _ (by decide +kernel)) ggX5_distanceByRounds_X5_checkedForm
set_option maxRecDepth 20000 in
theorem ggX5_distanceByRounds_X3_forget : GoodIn wsX5_distanceByRounds wsX3_forget := goodIn_r _ [30, 31, 32, 33, 34, 35, 19, 36, 21, 37, 38, 39, 40, 88, 89, 87] (by decide +kernel) (by decide +kernel)
set_option maxRecDepth 20000 in
theorem gX5_distanceByRounds_X3_forget : GoodIn wsX5_distanceByRounds (wsV RX5 68 RX3 yX3_forget wsX3_forget) := goodIn_app (goodIn_of _ (by decide +kernel)) ggX5_distanceByRounds_X3_forget
set_option maxRecDepth 20000 in
theorem ggX5_distanceByRounds_X3_mark : GoodIn wsX5_distanceByRounds wsX3_mark := goodIn_r _ [44, 31, 45, 46, 47, 19, 48, 21, 22, 23, 24, 25, 88, 89, 87] (by decide +kernel) (by decide +kernel)
set_option maxRecDepth 20000 in
theorem gX5_distanceByRounds_X3_mark : GoodIn wsX5_distanceByRounds (wsV RX5 71 RX3 yX3_mark wsX3_mark) := goodIn_app (goodIn_of _ (by decide +kernel)) ggX5_distanceByRounds_X3_mark
set_option maxRecDepth 20000 in
theorem ggX5_distanceByRounds_X3_settle : GoodIn wsX5_distanceByRounds wsX3_settle := goodIn_r _ [52, 53, 54, 55, 29, 56, 31, 57, 58, 59, 13, 60, 15, 16, 17, 18, 19, 20, 21, 22, 23, 24, 25, 61, 62, 63, 64, 32, 65, 66, 67, 68, 69, 70, 71, 72, 73, 74, 75, 76, 11, 12, 14, 77, 45, 46, 47, 48, 88, 89, 86, 87] (by decide +kernel) (by decide +kernel)
set_option maxRecDepth 20000 in
theorem gX5_distanceByRounds_X3_settle : GoodIn wsX5_distanceByRounds (wsV RX5 75 RX3 yX3_settle wsX3_settle) := goodIn_app (goodIn_of _ (by decide +kernel)) ggX5_distanceByRounds_X3_settle
set_option maxRecDepth 20000 in
theorem ggX5_distanceByRounds_X3_editsKnown : GoodIn wsX5_distanceByRounds wsX3_editsKnown := goodIn_r _ [81, 31, 77, 17, 18, 19, 20, 21, 22, 23, 24, 25, 88, 89, 87] (by decide +kernel) (by decide +kernel)
set_option maxRecDepth 20000 in
theorem gX5_distanceByRounds_X3_editsKnown : GoodIn wsX5_distanceByRounds (wsV RX5 65 RX3 yX3_editsKnown wsX3_editsKnown) := goodIn_app (goodIn_of _ (by decide +kernel)) ggX5_distanceByRounds_X3_editsKnown
theorem dX5_distanceByRounds_0 : decode cX5_distanceByRounds 0 = .ok (.aload_n 0, 1) := by decide +kernel
theorem dX5_distanceByRounds_1 : decode cX5_distanceByRounds 1 = .ok (.iload_n 1, 1) := by decide +kernel
theorem dX5_distanceByRounds_2 : decode cX5_distanceByRounds 2 = .ok (.invokevirtual 37, 3) := by decide +kernel
theorem dX5_distanceByRounds_5 : decode cX5_distanceByRounds 5 = .ok (.istore_n 3, 1) := by decide +kernel
theorem dX5_distanceByRounds_6 : decode cX5_distanceByRounds 6 = .ok (.aload_n 0, 1) := by decide +kernel
theorem dX5_distanceByRounds_7 : decode cX5_distanceByRounds 7 = .ok (.iload_n 2, 1) := by decide +kernel
theorem dX5_distanceByRounds_8 : decode cX5_distanceByRounds 8 = .ok (.invokevirtual 37, 3) := by decide +kernel
theorem dX5_distanceByRounds_11 : decode cX5_distanceByRounds 11 = .ok (.istore 4, 2) := by decide +kernel
theorem dX5_distanceByRounds_13 : decode cX5_distanceByRounds 13 = .ok (.aload_n 0, 1) := by decide +kernel
theorem dX5_distanceByRounds_14 : decode cX5_distanceByRounds 14 = .ok (.getfield 19, 3) := by decide +kernel
theorem dX5_distanceByRounds_17 : decode cX5_distanceByRounds 17 = .ok (.invokevirtual 68, 3) := by decide +kernel
theorem dX5_distanceByRounds_20 : decode cX5_distanceByRounds 20 = .ok (.aload_n 0, 1) := by decide +kernel
theorem dX5_distanceByRounds_21 : decode cX5_distanceByRounds 21 = .ok (.getfield 19, 3) := by decide +kernel
theorem dX5_distanceByRounds_24 : decode cX5_distanceByRounds 24 = .ok (.iload 4, 2) := by decide +kernel
theorem dX5_distanceByRounds_26 : decode cX5_distanceByRounds 26 = .ok (.invokevirtual 71, 3) := by decide +kernel
theorem dX5_distanceByRounds_29 : decode cX5_distanceByRounds 29 = .ok (.aload_n 0, 1) := by decide +kernel
theorem dX5_distanceByRounds_30 : decode cX5_distanceByRounds 30 = .ok (.getfield 19, 3) := by decide +kernel
theorem dX5_distanceByRounds_33 : decode cX5_distanceByRounds 33 = .ok (.aload_n 0, 1) := by decide +kernel
theorem dX5_distanceByRounds_34 : decode cX5_distanceByRounds 34 = .ok (.getfield 10, 3) := by decide +kernel
theorem dX5_distanceByRounds_37 : decode cX5_distanceByRounds 37 = .ok (.invokevirtual 75, 3) := by decide +kernel
theorem dX5_distanceByRounds_40 : decode cX5_distanceByRounds 40 = .ok (.aload_n 0, 1) := by decide +kernel
theorem dX5_distanceByRounds_41 : decode cX5_distanceByRounds 41 = .ok (.getfield 19, 3) := by decide +kernel
theorem dX5_distanceByRounds_44 : decode cX5_distanceByRounds 44 = .ok (.iload_n 3, 1) := by decide +kernel
theorem dX5_distanceByRounds_45 : decode cX5_distanceByRounds 45 = .ok (.invokevirtual 65, 3) := by decide +kernel
theorem dX5_distanceByRounds_48 : decode cX5_distanceByRounds 48 = .ok (.ireturn, 1) := by decide +kernel
set_option maxRecDepth 20000 in
theorem ggX5_begin_X5_checkedForm : GoodIn wsX5_begin wsX5_checkedForm := goodIn_ca (goodIn_r _ [8, 9, 10, 11, 12, 13, 14, 15, 16, 17, 18, 19, 20, 21, 22, 23, 24, 25, 26, 27, 59, 60, 61, 62, 63, 64] (by decide +kernel) (by decide +kernel)) (goodIn_sub (fun _ h => List.mem_cons_of_mem _ (List.mem_append_right _ h)) (by decide +kernel))
set_option maxRecDepth 20000 in
theorem gX5_begin_X5_checkedForm : GoodIn wsX5_begin (wsV RX5 37 RX5 yX5_checkedForm wsX5_checkedForm) := goodIn_app (goodIn_of _ (by decide +kernel)) ggX5_begin_X5_checkedForm
set_option maxRecDepth 20000 in
theorem ggX5_begin_X0_isUnderWay : GoodIn wsX5_begin wsX0_isUnderWay := goodIn_r _ [32, 33, 65, 66, 67, 68, 69, 70, 71, 72, 73, 74, 75] (by decide +kernel) (by decide +kernel)
set_option maxRecDepth 20000 in
theorem gX5_begin_X0_isUnderWay : GoodIn wsX5_begin (wsV RX5 79 RX0 yX0_isUnderWay wsX0_isUnderWay) := goodIn_app (goodIn_of _ (by decide +kernel)) ggX5_begin_X0_isUnderWay
set_option maxRecDepth 20000 in
theorem ggX5_begin_X0_areAllBegun : GoodIn wsX5_begin wsX0_areAllBegun := goodIn_r _ [37, 38, 65, 66, 67, 68, 69, 70, 71, 72, 73, 74, 75] (by decide +kernel) (by decide +kernel)
set_option maxRecDepth 20000 in
theorem gX5_begin_X0_areAllBegun : GoodIn wsX5_begin (wsV RX5 83 RX0 yX0_areAllBegun wsX0_areAllBegun) := goodIn_app (goodIn_of _ (by decide +kernel)) ggX5_begin_X0_areAllBegun
set_option maxRecDepth 20000 in
theorem ggX5_begin_X0_start : GoodIn wsX5_begin wsX0_start := goodIn_r _ [42, 38, 43, 44, 45, 31, 46, 33, 47, 48, 49, 50, 19, 20, 21, 22, 23, 24, 25, 26, 27, 51, 52, 53, 54, 65, 66, 67, 68, 69, 70, 71, 72, 73, 74, 75, 64] (by decide +kernel) (by decide +kernel)
set_option maxRecDepth 20000 in
theorem gX5_begin_X0_start : GoodIn wsX5_begin (wsV RX5 91 RX0 yX0_start wsX0_start) := goodIn_app (goodIn_of _ (by decide +kernel)) ggX5_begin_X0_start
set_option maxRecDepth 20000 in
theorem ggX5_begin_X0_metCount : GoodIn wsX5_begin wsX0_metCount := goodIn_r _ [58, 49, 65, 66, 67, 68, 69, 70, 71, 72, 73, 74, 75] (by decide +kernel) (by decide +kernel)
set_option maxRecDepth 20000 in
theorem gX5_begin_X0_metCount : GoodIn wsX5_begin (wsV RX5 94 RX0 yX0_metCount wsX0_metCount) := goodIn_app (goodIn_of _ (by decide +kernel)) ggX5_begin_X0_metCount
theorem dX5_begin_0 : decode cX5_begin 0 = .ok (.aload_n 0, 1) := by decide +kernel
theorem dX5_begin_1 : decode cX5_begin 1 = .ok (.iload_n 1, 1) := by decide +kernel
theorem dX5_begin_2 : decode cX5_begin 2 = .ok (.invokevirtual 37, 3) := by decide +kernel
theorem dX5_begin_5 : decode cX5_begin 5 = .ok (.istore_n 2, 1) := by decide +kernel
theorem dX5_begin_6 : decode cX5_begin 6 = .ok (.aload_n 0, 1) := by decide +kernel
theorem dX5_begin_7 : decode cX5_begin 7 = .ok (.getfield 26, 3) := by decide +kernel
theorem dX5_begin_10 : decode cX5_begin 10 = .ok (.invokevirtual 79, 3) := by decide +kernel
theorem dX5_begin_13 : decode cX5_begin 13 = .ok (.ifCond .ne 13, 3) := by decide +kernel
theorem dX5_begin_16 : decode cX5_begin 16 = .ok (.aload_n 0, 1) := by decide +kernel
theorem dX5_begin_17 : decode cX5_begin 17 = .ok (.getfield 26, 3) := by decide +kernel
theorem dX5_begin_20 : decode cX5_begin 20 = .ok (.invokevirtual 83, 3) := by decide +kernel
theorem dX5_begin_23 : decode cX5_begin 23 = .ok (.ifCond .eq 13, 3) := by decide +kernel
theorem dX5_begin_26 : decode cX5_begin 26 = .ok (.new 86, 3) := by decide +kernel
theorem dX5_begin_29 : decode cX5_begin 29 = .ok (.dup, 1) := by decide +kernel
theorem dX5_begin_30 : decode cX5_begin 30 = .ok (.ldc 88, 2) := by decide +kernel
theorem dX5_begin_32 : decode cX5_begin 32 = .ok (.invokespecial 90, 3) := by decide +kernel
theorem dX5_begin_35 : decode cX5_begin 35 = .ok (.athrow, 1) := by decide +kernel
theorem dX5_begin_36 : decode cX5_begin 36 = .ok (.aload_n 0, 1) := by decide +kernel
theorem dX5_begin_37 : decode cX5_begin 37 = .ok (.getfield 26, 3) := by decide +kernel
theorem dX5_begin_40 : decode cX5_begin 40 = .ok (.iload_n 2, 1) := by decide +kernel
theorem dX5_begin_41 : decode cX5_begin 41 = .ok (.invokevirtual 91, 3) := by decide +kernel
theorem dX5_begin_44 : decode cX5_begin 44 = .ok (.aload_n 0, 1) := by decide +kernel
theorem dX5_begin_45 : decode cX5_begin 45 = .ok (.getfield 26, 3) := by decide +kernel
theorem dX5_begin_48 : decode cX5_begin 48 = .ok (.invokevirtual 94, 3) := by decide +kernel
theorem dX5_begin_51 : decode cX5_begin 51 = .ok (.ireturn, 1) := by decide +kernel
set_option maxRecDepth 20000 in
theorem ggX5_pass_X5_checkedForm : GoodIn wsX5_pass wsX5_checkedForm := goodIn_ca (goodIn_r _ [8, 9, 10, 11, 12, 13, 14, 15, 16, 17, 18, 19, 20, 21, 22, 23, 24, 25, 26, 27, 68, 69, 70, 71, 72, 73] (by decide +kernel) (by decide +kernel)) (goodIn_sub (fun _ h => List.mem_cons_of_mem _ (List.mem_append_right _ h)) (by decide +kernel))
set_option maxRecDepth 20000 in
theorem gX5_pass_X5_checkedForm : GoodIn wsX5_pass (wsV RX5 37 RX5 yX5_checkedForm wsX5_checkedForm) := goodIn_app (goodIn_of _ (by decide +kernel)) ggX5_pass_X5_checkedForm
set_option maxRecDepth 20000 in
theorem ggX5_pass_X0_isUnderWay : GoodIn wsX5_pass wsX0_isUnderWay := goodIn_r _ [32, 33, 74, 75, 76, 77, 78, 79, 80, 81, 82, 83, 84] (by decide +kernel) (by decide +kernel)
set_option maxRecDepth 20000 in
theorem gX5_pass_X0_isUnderWay : GoodIn wsX5_pass (wsV RX5 79 RX0 yX0_isUnderWay wsX0_isUnderWay) := goodIn_app (goodIn_of _ (by decide +kernel)) ggX5_pass_X0_isUnderWay
set_option maxRecDepth 20000 in
theorem ggX5_pass_X0_areAllPassed : GoodIn wsX5_pass wsX0_areAllPassed := goodIn_r _ [37, 38, 74, 75, 76, 77, 78, 79, 80, 81, 82, 83, 84] (by decide +kernel) (by decide +kernel)
set_option maxRecDepth 20000 in
theorem gX5_pass_X0_areAllPassed : GoodIn wsX5_pass (wsV RX5 98 RX0 yX0_areAllPassed wsX0_areAllPassed) := goodIn_app (goodIn_of _ (by decide +kernel)) ggX5_pass_X0_areAllPassed
set_option maxRecDepth 20000 in
theorem ggX5_pass_X0_moveTo : GoodIn wsX5_pass wsX0_moveTo := goodIn_r _ [42, 43, 38, 33, 44, 45, 46, 47, 48, 21, 49, 23, 24, 25, 26, 27, 50, 51, 52, 53, 54, 19, 20, 22, 55, 56, 57, 58, 31, 59, 60, 61, 62, 63, 74, 75, 76, 77, 78, 79, 80, 81, 82, 83, 84, 73] (by decide +kernel) (by decide +kernel)
set_option maxRecDepth 20000 in
theorem gX5_pass_X0_moveTo : GoodIn wsX5_pass (wsV RX5 103 RX0 yX0_moveTo wsX0_moveTo) := goodIn_app (goodIn_of _ (by decide +kernel)) ggX5_pass_X0_moveTo
set_option maxRecDepth 20000 in
theorem ggX5_pass_X0_metCount : GoodIn wsX5_pass wsX0_metCount := goodIn_r _ [67, 62, 74, 75, 76, 77, 78, 79, 80, 81, 82, 83, 84] (by decide +kernel) (by decide +kernel)
set_option maxRecDepth 20000 in
theorem gX5_pass_X0_metCount : GoodIn wsX5_pass (wsV RX5 94 RX0 yX0_metCount wsX0_metCount) := goodIn_app (goodIn_of _ (by decide +kernel)) ggX5_pass_X0_metCount
theorem dX5_pass_0 : decode cX5_pass 0 = .ok (.aload_n 0, 1) := by decide +kernel
theorem dX5_pass_1 : decode cX5_pass 1 = .ok (.iload_n 1, 1) := by decide +kernel
theorem dX5_pass_2 : decode cX5_pass 2 = .ok (.invokevirtual 37, 3) := by decide +kernel
theorem dX5_pass_5 : decode cX5_pass 5 = .ok (.istore_n 2, 1) := by decide +kernel
theorem dX5_pass_6 : decode cX5_pass 6 = .ok (.aload_n 0, 1) := by decide +kernel
theorem dX5_pass_7 : decode cX5_pass 7 = .ok (.getfield 26, 3) := by decide +kernel
theorem dX5_pass_10 : decode cX5_pass 10 = .ok (.invokevirtual 79, 3) := by decide +kernel
theorem dX5_pass_13 : decode cX5_pass 13 = .ok (.ifCond .eq 13, 3) := by decide +kernel
theorem dX5_pass_16 : decode cX5_pass 16 = .ok (.aload_n 0, 1) := by decide +kernel
theorem dX5_pass_17 : decode cX5_pass 17 = .ok (.getfield 26, 3) := by decide +kernel
theorem dX5_pass_20 : decode cX5_pass 20 = .ok (.invokevirtual 98, 3) := by decide +kernel
theorem dX5_pass_23 : decode cX5_pass 23 = .ok (.ifCond .eq 13, 3) := by decide +kernel
theorem dX5_pass_26 : decode cX5_pass 26 = .ok (.new 86, 3) := by decide +kernel
theorem dX5_pass_29 : decode cX5_pass 29 = .ok (.dup, 1) := by decide +kernel
theorem dX5_pass_30 : decode cX5_pass 30 = .ok (.ldc 101, 2) := by decide +kernel
theorem dX5_pass_32 : decode cX5_pass 32 = .ok (.invokespecial 90, 3) := by decide +kernel
theorem dX5_pass_35 : decode cX5_pass 35 = .ok (.athrow, 1) := by decide +kernel
theorem dX5_pass_36 : decode cX5_pass 36 = .ok (.aload_n 0, 1) := by decide +kernel
theorem dX5_pass_37 : decode cX5_pass 37 = .ok (.getfield 26, 3) := by decide +kernel
theorem dX5_pass_40 : decode cX5_pass 40 = .ok (.iload_n 2, 1) := by decide +kernel
theorem dX5_pass_41 : decode cX5_pass 41 = .ok (.invokevirtual 103, 3) := by decide +kernel
theorem dX5_pass_44 : decode cX5_pass 44 = .ok (.aload_n 0, 1) := by decide +kernel
theorem dX5_pass_45 : decode cX5_pass 45 = .ok (.getfield 26, 3) := by decide +kernel
theorem dX5_pass_48 : decode cX5_pass 48 = .ok (.invokevirtual 94, 3) := by decide +kernel
theorem dX5_pass_51 : decode cX5_pass 51 = .ok (.ireturn, 1) := by decide +kernel
set_option maxRecDepth 20000 in
theorem ggX5_end_X0_isUnderWay : GoodIn wsX5_end wsX0_isUnderWay := goodIn_r _ [8, 9, 39, 40, 41, 42, 43, 44, 45, 46, 47, 48, 49] (by decide +kernel) (by decide +kernel)
set_option maxRecDepth 20000 in
theorem gX5_end_X0_isUnderWay : GoodIn wsX5_end (wsV RX5 79 RX0 yX0_isUnderWay wsX0_isUnderWay) := goodIn_app (goodIn_of _ (by decide +kernel)) ggX5_end_X0_isUnderWay
set_option maxRecDepth 20000 in
theorem ggX5_end_X0_finish : GoodIn wsX5_end wsX0_finish := goodIn_r _ [13, 9, 14, 15, 16, 17, 18, 19, 20, 21, 22, 23, 24, 25, 26, 27, 28, 29, 30, 31, 32, 33, 34, 39, 40, 41, 42, 43, 44, 45, 46, 47, 48, 49, 50] (by decide +kernel) (by decide +kernel)
set_option maxRecDepth 20000 in
theorem gX5_end_X0_finish : GoodIn wsX5_end (wsV RX5 108 RX0 yX0_finish wsX0_finish) := goodIn_app (goodIn_of _ (by decide +kernel)) ggX5_end_X0_finish
theorem dX5_end_0 : decode cX5_end 0 = .ok (.aload_n 0, 1) := by decide +kernel
theorem dX5_end_1 : decode cX5_end 1 = .ok (.getfield 26, 3) := by decide +kernel
theorem dX5_end_4 : decode cX5_end 4 = .ok (.invokevirtual 79, 3) := by decide +kernel
theorem dX5_end_7 : decode cX5_end 7 = .ok (.ifCond .ne 13, 3) := by decide +kernel
theorem dX5_end_10 : decode cX5_end 10 = .ok (.new 86, 3) := by decide +kernel
theorem dX5_end_13 : decode cX5_end 13 = .ok (.dup, 1) := by decide +kernel
theorem dX5_end_14 : decode cX5_end 14 = .ok (.ldc 106, 2) := by decide +kernel
theorem dX5_end_16 : decode cX5_end 16 = .ok (.invokespecial 90, 3) := by decide +kernel
theorem dX5_end_19 : decode cX5_end 19 = .ok (.athrow, 1) := by decide +kernel
theorem dX5_end_20 : decode cX5_end 20 = .ok (.aload_n 0, 1) := by decide +kernel
theorem dX5_end_21 : decode cX5_end 21 = .ok (.getfield 26, 3) := by decide +kernel
theorem dX5_end_24 : decode cX5_end 24 = .ok (.iload_n 1, 1) := by decide +kernel
theorem dX5_end_25 : decode cX5_end 25 = .ok (.invokevirtual 108, 3) := by decide +kernel
theorem dX5_end_28 : decode cX5_end 28 = .ok (.ireturn, 1) := by decide +kernel
set_option maxRecDepth 20000 in
theorem ggX5_at_X0_current : GoodIn wsX5_at wsX0_current := goodIn_r _ [6, 7, 12, 13, 14, 15, 16, 17, 18, 19, 20, 21, 22] (by decide +kernel) (by decide +kernel)
set_option maxRecDepth 20000 in
theorem gX5_at_X0_current : GoodIn wsX5_at (wsV RX5 112 RX0 yX0_current wsX0_current) := goodIn_app (goodIn_of _ (by decide +kernel)) ggX5_at_X0_current
theorem dX5_at_0 : decode cX5_at 0 = .ok (.aload_n 0, 1) := by decide +kernel
theorem dX5_at_1 : decode cX5_at 1 = .ok (.getfield 26, 3) := by decide +kernel
theorem dX5_at_4 : decode cX5_at 4 = .ok (.invokevirtual 112, 3) := by decide +kernel
theorem dX5_at_7 : decode cX5_at 7 = .ok (.ireturn, 1) := by decide +kernel
set_option maxRecDepth 20000 in
theorem ggX5_met_X0_metCount : GoodIn wsX5_met wsX0_metCount := goodIn_r _ [6, 7, 12, 13, 14, 15, 16, 17, 18, 19, 20, 21, 22] (by decide +kernel) (by decide +kernel)
set_option maxRecDepth 20000 in
theorem gX5_met_X0_metCount : GoodIn wsX5_met (wsV RX5 94 RX0 yX0_metCount wsX0_metCount) := goodIn_app (goodIn_of _ (by decide +kernel)) ggX5_met_X0_metCount
theorem dX5_met_0 : decode cX5_met 0 = .ok (.aload_n 0, 1) := by decide +kernel
theorem dX5_met_1 : decode cX5_met 1 = .ok (.getfield 26, 3) := by decide +kernel
theorem dX5_met_4 : decode cX5_met 4 = .ok (.invokevirtual 94, 3) := by decide +kernel
theorem dX5_met_7 : decode cX5_met 7 = .ok (.ireturn, 1) := by decide +kernel
set_option maxRecDepth 20000 in
theorem ggX5_passings_X5_checkedForm : GoodIn wsX5_passings wsX5_checkedForm := goodIn_ca (goodIn_r _ [6, 7, 8, 9, 10, 11, 12, 13, 14, 15, 16, 17, 18, 19, 20, 21, 22, 23, 24, 25, 43, 44, 45, 46, 47, 48] (by decide +kernel) (by decide +kernel)) (goodIn_sub (fun _ h => List.mem_cons_of_mem _ (List.mem_append_right _ h)) (by decide +kernel))
set_option maxRecDepth 20000 in
theorem gX5_passings_X5_checkedForm : GoodIn wsX5_passings (wsV RX5 37 RX5 yX5_checkedForm wsX5_checkedForm) := goodIn_app (goodIn_of _ (by decide +kernel)) ggX5_passings_X5_checkedForm
set_option maxRecDepth 20000 in
theorem ggX5_passings_X0_countPassings : GoodIn wsX5_passings wsX0_countPassings := goodIn_r _ [30, 31, 32, 33, 34, 29, 35, 36, 37, 17, 18, 19, 20, 21, 22, 23, 24, 25, 38, 39, 40, 41, 42, 49, 50, 51, 52, 53, 54, 55, 56, 57, 58, 59, 48] (by decide +kernel) (by decide +kernel)
set_option maxRecDepth 20000 in
theorem gX5_passings_X0_countPassings : GoodIn wsX5_passings (wsV RX5 115 RX0 yX0_countPassings wsX0_countPassings) := goodIn_app (goodIn_of _ (by decide +kernel)) ggX5_passings_X0_countPassings
theorem dX5_passings_0 : decode cX5_passings 0 = .ok (.aload_n 0, 1) := by decide +kernel
theorem dX5_passings_1 : decode cX5_passings 1 = .ok (.iload_n 1, 1) := by decide +kernel
theorem dX5_passings_2 : decode cX5_passings 2 = .ok (.invokevirtual 37, 3) := by decide +kernel
theorem dX5_passings_5 : decode cX5_passings 5 = .ok (.istore_n 3, 1) := by decide +kernel
theorem dX5_passings_6 : decode cX5_passings 6 = .ok (.aload_n 0, 1) := by decide +kernel
theorem dX5_passings_7 : decode cX5_passings 7 = .ok (.iload_n 2, 1) := by decide +kernel
theorem dX5_passings_8 : decode cX5_passings 8 = .ok (.invokevirtual 37, 3) := by decide +kernel
theorem dX5_passings_11 : decode cX5_passings 11 = .ok (.istore 4, 2) := by decide +kernel
theorem dX5_passings_13 : decode cX5_passings 13 = .ok (.aload_n 0, 1) := by decide +kernel
theorem dX5_passings_14 : decode cX5_passings 14 = .ok (.getfield 26, 3) := by decide +kernel
theorem dX5_passings_17 : decode cX5_passings 17 = .ok (.iload_n 3, 1) := by decide +kernel
theorem dX5_passings_18 : decode cX5_passings 18 = .ok (.iload 4, 2) := by decide +kernel
theorem dX5_passings_20 : decode cX5_passings 20 = .ok (.invokevirtual 115, 3) := by decide +kernel
theorem dX5_passings_23 : decode cX5_passings 23 = .ok (.ireturn, 1) := by decide +kernel
set_option maxRecDepth 20000 in
theorem ggX5_isRight_X5_checkedForm : GoodIn wsX5_isRight wsX5_checkedForm := goodIn_ca (goodIn_r _ [6, 7, 8, 9, 10, 11, 12, 13, 14, 15, 16, 17, 18, 19, 20, 21, 22, 23, 24, 25, 33, 34, 35, 36, 37, 38] (by decide +kernel) (by decide +kernel)) (goodIn_sub (fun _ h => List.mem_cons_of_mem _ (List.mem_append_right _ h)) (by decide +kernel))
set_option maxRecDepth 20000 in
theorem gX5_isRight_X5_checkedForm : GoodIn wsX5_isRight (wsV RX5 37 RX5 yX5_checkedForm wsX5_checkedForm) := goodIn_app (goodIn_of _ (by decide +kernel)) ggX5_isRight_X5_checkedForm
set_option maxRecDepth 20000 in
theorem ggX5_isRight_X0_hasEndedRight : GoodIn wsX5_isRight wsX0_hasEndedRight := goodIn_r _ [30, 31, 32, 17, 18, 19, 20, 21, 22, 23, 24, 25, 39, 40, 41, 42, 43, 44, 45, 46, 47, 48, 49, 38] (by decide +kernel) (by decide +kernel)
set_option maxRecDepth 20000 in
theorem gX5_isRight_X0_hasEndedRight : GoodIn wsX5_isRight (wsV RX5 119 RX0 yX0_hasEndedRight wsX0_hasEndedRight) := goodIn_app (goodIn_of _ (by decide +kernel)) ggX5_isRight_X0_hasEndedRight
theorem dX5_isRight_0 : decode cX5_isRight 0 = .ok (.aload_n 0, 1) := by decide +kernel
theorem dX5_isRight_1 : decode cX5_isRight 1 = .ok (.getfield 26, 3) := by decide +kernel
theorem dX5_isRight_4 : decode cX5_isRight 4 = .ok (.aload_n 0, 1) := by decide +kernel
theorem dX5_isRight_5 : decode cX5_isRight 5 = .ok (.iload_n 1, 1) := by decide +kernel
theorem dX5_isRight_6 : decode cX5_isRight 6 = .ok (.invokevirtual 37, 3) := by decide +kernel
theorem dX5_isRight_9 : decode cX5_isRight 9 = .ok (.invokevirtual 119, 3) := by decide +kernel
theorem dX5_isRight_12 : decode cX5_isRight 12 = .ok (.ireturn, 1) := by decide +kernel
set_option maxRecDepth 20000 in
theorem ggX5_worth_X5_checkedForm : GoodIn wsX5_worth wsX5_checkedForm := goodIn_ca (goodIn_r _ [7, 8, 9, 10, 11, 12, 13, 14, 15, 16, 17, 18, 19, 20, 21, 22, 23, 24, 25, 26, 103, 104, 105, 106, 107, 108] (by decide +kernel) (by decide +kernel)) (goodIn_sub (fun _ h => List.mem_cons_of_mem _ (List.mem_append_right _ h)) (by decide +kernel))
set_option maxRecDepth 20000 in
theorem gX5_worth_X5_checkedForm : GoodIn wsX5_worth (wsV RX5 37 RX5 yX5_checkedForm wsX5_checkedForm) := goodIn_app (goodIn_of _ (by decide +kernel)) ggX5_worth_X5_checkedForm
set_option maxRecDepth 20000 in
theorem ggX5_worth_X4_find : GoodIn wsX5_worth wsX4_find := goodIn_r _ [31, 32, 33, 34, 35, 20, 36, 22, 37, 38, 39, 40, 41, 42, 43, 30, 44, 45, 46, 47, 48, 49, 50, 51, 52, 53, 54, 55, 56, 57, 58, 18, 19, 21, 23, 24, 25, 26, 59, 60, 61, 62, 63, 64, 65, 66, 67, 68, 69, 70, 71, 72, 73, 74, 75, 76, 77, 78, 79, 80, 81, 82, 83, 84, 85, 86, 87, 88, 89, 90, 91, 92, 93, 94, 95, 96, 97, 98, 109, 110, 108, 111, 112, 113, 114, 115, 116, 117, 118, 119, 120, 121] (by decide +kernel) (by decide +kernel)
set_option maxRecDepth 20000 in
theorem gX5_worth_X4_find : GoodIn wsX5_worth (wsV RX5 123 RX4 yX4_find wsX4_find) := goodIn_app (goodIn_of _ (by decide +kernel)) ggX5_worth_X4_find
set_option maxRecDepth 20000 in
theorem ggX5_worth_X4_of : GoodIn wsX5_worth wsX4_of := goodIn_r _ [102, 32, 83, 18, 19, 20, 21, 22, 23, 24, 25, 26, 109, 110, 108] (by decide +kernel) (by decide +kernel)
set_option maxRecDepth 20000 in
theorem gX5_worth_X4_of : GoodIn wsX5_worth (wsV RX5 127 RX4 yX4_of wsX4_of) := goodIn_app (goodIn_of _ (by decide +kernel)) ggX5_worth_X4_of
theorem dX5_worth_0 : decode cX5_worth 0 = .ok (.aload_n 0, 1) := by decide +kernel
theorem dX5_worth_1 : decode cX5_worth 1 = .ok (.iload_n 1, 1) := by decide +kernel
theorem dX5_worth_2 : decode cX5_worth 2 = .ok (.invokevirtual 37, 3) := by decide +kernel
theorem dX5_worth_5 : decode cX5_worth 5 = .ok (.istore_n 2, 1) := by decide +kernel
theorem dX5_worth_6 : decode cX5_worth 6 = .ok (.aload_n 0, 1) := by decide +kernel
theorem dX5_worth_7 : decode cX5_worth 7 = .ok (.getfield 33, 3) := by decide +kernel
theorem dX5_worth_10 : decode cX5_worth 10 = .ok (.aload_n 0, 1) := by decide +kernel
theorem dX5_worth_11 : decode cX5_worth 11 = .ok (.getfield 26, 3) := by decide +kernel
theorem dX5_worth_14 : decode cX5_worth 14 = .ok (.invokevirtual 123, 3) := by decide +kernel
theorem dX5_worth_17 : decode cX5_worth 17 = .ok (.aload_n 0, 1) := by decide +kernel
theorem dX5_worth_18 : decode cX5_worth 18 = .ok (.getfield 33, 3) := by decide +kernel
theorem dX5_worth_21 : decode cX5_worth 21 = .ok (.iload_n 2, 1) := by decide +kernel
theorem dX5_worth_22 : decode cX5_worth 22 = .ok (.invokevirtual 127, 3) := by decide +kernel
theorem dX5_worth_25 : decode cX5_worth 25 = .ok (.ireturn, 1) := by decide +kernel
set_option maxRecDepth 20000 in
theorem ggX5_steps_X5_checkedForm : GoodIn wsX5_steps wsX5_checkedForm := goodIn_ca (goodIn_r _ [6, 7, 8, 9, 10, 11, 12, 13, 14, 15, 16, 17, 18, 19, 20, 21, 22, 23, 24, 25, 115, 116, 117, 118, 119, 120] (by decide +kernel) (by decide +kernel)) (goodIn_sub (fun _ h => List.mem_cons_of_mem _ (List.mem_append_left _ (List.mem_append_right _ h))) (by decide +kernel))
set_option maxRecDepth 20000 in
theorem gX5_steps_X5_checkedForm : GoodIn wsX5_steps (wsV RX5 37 RX5 yX5_checkedForm wsX5_checkedForm) := goodIn_app (goodIn_of _ (by decide +kernel)) ggX5_steps_X5_checkedForm
set_option maxRecDepth 20000 in
theorem ggX5_steps_X5_requireSomeRight : GoodIn wsX5_steps wsX5_requireSomeRight := goodIn_ca (goodIn_r _ [29, 30, 31, 32, 33, 34, 35, 36, 37, 38, 115, 116, 117, 118, 121, 122, 123, 124, 125, 126, 127, 128, 129, 130, 131] (by decide +kernel) (by decide +kernel)) (goodIn_sub (fun _ h => List.mem_cons_of_mem _ (List.mem_append_right _ h)) (by decide +kernel))
set_option maxRecDepth 20000 in
theorem gX5_steps_X5_requireSomeRight : GoodIn wsX5_steps (wsV RX5 130 RX5 yX5_requireSomeRight wsX5_requireSomeRight) := goodIn_app (goodIn_of _ (by decide +kernel)) ggX5_steps_X5_requireSomeRight
set_option maxRecDepth 20000 in
theorem ggX5_steps_X5_findSteps : GoodIn wsX5_steps wsX5_findSteps := goodIn_r _ [42, 1, 32, 9, 43, 44, 45, 46, 47, 48, 49, 50, 51, 52, 19, 53, 21, 54, 55, 56, 57, 58, 59, 60, 36, 61, 62, 63, 64, 65, 66, 67, 68, 17, 18, 20, 22, 23, 24, 25, 69, 70, 71, 72, 73, 74, 75, 76, 77, 78, 79, 80, 81, 82, 83, 84, 85, 86, 87, 88, 89, 90, 91, 92, 13, 93, 15, 16, 94, 95, 96, 97, 98, 99, 100, 101, 102, 103, 104, 105, 106, 107, 108, 109, 11, 12, 14, 110, 115, 116, 117, 118, 132, 133, 120, 121, 122, 123, 124, 125, 126, 127, 128, 129, 130, 131, 119] (by decide +kernel) (by decide +kernel)
set_option maxRecDepth 20000 in
theorem gX5_steps_X5_findSteps : GoodIn wsX5_steps (wsV RX5 133 RX5 yX5_findSteps wsX5_findSteps) := goodIn_app (goodIn_of _ (by decide +kernel)) ggX5_steps_X5_findSteps
set_option maxRecDepth 20000 in
theorem ggX5_steps_X3_editsKnown : GoodIn wsX5_steps wsX3_editsKnown := goodIn_r _ [114, 48, 110, 17, 18, 19, 20, 21, 22, 23, 24, 25, 132, 133, 120] (by decide +kernel) (by decide +kernel)
set_option maxRecDepth 20000 in
theorem gX5_steps_X3_editsKnown : GoodIn wsX5_steps (wsV RX5 65 RX3 yX3_editsKnown wsX3_editsKnown) := goodIn_app (goodIn_of _ (by decide +kernel)) ggX5_steps_X3_editsKnown
theorem dX5_steps_0 : decode cX5_steps 0 = .ok (.aload_n 0, 1) := by decide +kernel
theorem dX5_steps_1 : decode cX5_steps 1 = .ok (.iload_n 1, 1) := by decide +kernel
theorem dX5_steps_2 : decode cX5_steps 2 = .ok (.invokevirtual 37, 3) := by decide +kernel
theorem dX5_steps_5 : decode cX5_steps 5 = .ok (.istore_n 2, 1) := by decide +kernel
theorem dX5_steps_6 : decode cX5_steps 6 = .ok (.aload_n 0, 1) := by decide +kernel
theorem dX5_steps_7 : decode cX5_steps 7 = .ok (.invokevirtual 130, 3) := by decide +kernel
theorem dX5_steps_10 : decode cX5_steps 10 = .ok (.aload_n 0, 1) := by decide +kernel
theorem dX5_steps_11 : decode cX5_steps 11 = .ok (.invokevirtual 133, 3) := by decide +kernel
theorem dX5_steps_14 : decode cX5_steps 14 = .ok (.aload_n 0, 1) := by decide +kernel
theorem dX5_steps_15 : decode cX5_steps 15 = .ok (.getfield 19, 3) := by decide +kernel
theorem dX5_steps_18 : decode cX5_steps 18 = .ok (.iload_n 2, 1) := by decide +kernel
theorem dX5_steps_19 : decode cX5_steps 19 = .ok (.invokevirtual 65, 3) := by decide +kernel
theorem dX5_steps_22 : decode cX5_steps 22 = .ok (.ireturn, 1) := by decide +kernel
set_option maxRecDepth 20000 in
theorem ggX5_hint_X5_checkedForm : GoodIn wsX5_hint wsX5_checkedForm := goodIn_ca (goodIn_r _ [9, 10, 11, 12, 13, 14, 15, 16, 17, 18, 19, 20, 21, 22, 23, 24, 25, 26, 27, 28, 179, 180, 181, 182, 183, 184] (by decide +kernel) (by decide +kernel)) (goodIn_sub (fun _ h => List.mem_cons_of_mem _ (List.mem_append_left _ (List.mem_append_right _ h))) (by decide +kernel))
set_option maxRecDepth 20000 in
theorem gX5_hint_X5_checkedForm : GoodIn wsX5_hint (wsV RX5 37 RX5 yX5_checkedForm wsX5_checkedForm) := goodIn_app (goodIn_of _ (by decide +kernel)) ggX5_hint_X5_checkedForm
set_option maxRecDepth 20000 in
theorem ggX5_hint_X5_requireSomeRight : GoodIn wsX5_hint wsX5_requireSomeRight := goodIn_ca (goodIn_r _ [32, 33, 34, 3, 35, 36, 37, 38, 39, 40, 179, 180, 181, 182, 185, 186, 187, 188, 189, 190, 191, 192, 193, 194, 195] (by decide +kernel) (by decide +kernel)) (goodIn_sub (fun _ h => List.mem_cons_of_mem _ (List.mem_append_right _ h)) (by decide +kernel))
set_option maxRecDepth 20000 in
theorem gX5_hint_X5_requireSomeRight : GoodIn wsX5_hint (wsV RX5 130 RX5 yX5_requireSomeRight wsX5_requireSomeRight) := goodIn_app (goodIn_of _ (by decide +kernel)) ggX5_hint_X5_requireSomeRight
set_option maxRecDepth 20000 in
theorem ggX5_hint_X0_hasEndedRight : GoodIn wsX5_hint wsX0_hasEndedRight := goodIn_r _ [44, 45, 46, 20, 21, 22, 23, 24, 25, 26, 27, 28, 185, 186, 187, 188, 189, 190, 191, 192, 193, 194, 195, 184] (by decide +kernel) (by decide +kernel)
set_option maxRecDepth 20000 in
theorem gX5_hint_X0_hasEndedRight : GoodIn wsX5_hint (wsV RX5 119 RX0 yX0_hasEndedRight wsX0_hasEndedRight) := goodIn_app (goodIn_of _ (by decide +kernel)) ggX5_hint_X0_hasEndedRight
set_option maxRecDepth 20000 in
theorem ggX5_hint_X5_findSteps : GoodIn wsX5_hint wsX5_findSteps := goodIn_r _ [50, 51, 3, 12, 52, 53, 54, 55, 56, 57, 58, 59, 60, 61, 22, 62, 24, 63, 64, 65, 66, 67, 68, 69, 38, 70, 71, 72, 73, 74, 75, 76, 46, 20, 21, 23, 25, 26, 27, 28, 41, 42, 43, 44, 45, 77, 78, 79, 80, 81, 82, 83, 84, 85, 86, 87, 88, 89, 90, 91, 92, 93, 94, 95, 16, 96, 18, 19, 97, 98, 99, 100, 101, 102, 103, 104, 105, 106, 107, 108, 109, 110, 111, 112, 14, 15, 17, 113, 179, 180, 181, 182, 196, 197, 184, 185, 186, 187, 188, 189, 190, 191, 192, 193, 194, 195, 183] (by decide +kernel) (by decide +kernel)
set_option maxRecDepth 20000 in
theorem gX5_hint_X5_findSteps : GoodIn wsX5_hint (wsV RX5 133 RX5 yX5_findSteps wsX5_findSteps) := goodIn_app (goodIn_of _ (by decide +kernel)) ggX5_hint_X5_findSteps
set_option maxRecDepth 20000 in
theorem ggX5_hint_X4_find : GoodIn wsX5_hint wsX4_find := goodIn_r _ [118, 119, 120, 60, 61, 22, 62, 24, 63, 64, 65, 66, 121, 122, 123, 117, 124, 125, 126, 127, 68, 69, 38, 70, 71, 128, 73, 74, 75, 76, 46, 20, 21, 23, 25, 26, 27, 28, 129, 130, 131, 132, 45, 133, 82, 83, 84, 134, 135, 136, 137, 138, 139, 140, 141, 142, 143, 144, 145, 146, 147, 148, 149, 150, 151, 152, 153, 154, 155, 156, 157, 158, 159, 160, 161, 162, 163, 164, 198, 199, 184, 185, 186, 187, 188, 189, 190, 191, 192, 193, 194, 195] (by decide +kernel) (by decide +kernel)
set_option maxRecDepth 20000 in
theorem gX5_hint_X4_find : GoodIn wsX5_hint (wsV RX5 123 RX4 yX4_find wsX4_find) := goodIn_app (goodIn_of _ (by decide +kernel)) ggX5_hint_X4_find
set_option maxRecDepth 20000 in
theorem ggX5_hint_X5_stepNearer : GoodIn wsX5_hint wsX5_stepNearer := goodIn_r _ [168, 51, 12, 4, 169, 170, 171, 55, 172, 57, 113, 20, 21, 22, 23, 24, 25, 26, 27, 28, 173, 106, 16, 107, 174, 109, 110, 111, 13, 14, 15, 17, 18, 19, 175, 176, 177, 117, 178, 119, 149, 179, 180, 181, 182, 196, 197, 184, 183, 198, 199] (by decide +kernel) (by decide +kernel)
set_option maxRecDepth 20000 in
theorem gX5_hint_X5_stepNearer : GoodIn wsX5_hint (wsV RX5 138 RX5 yX5_stepNearer wsX5_stepNearer) := goodIn_app (goodIn_of _ (by decide +kernel)) ggX5_hint_X5_stepNearer
theorem dX5_hint_0 : decode cX5_hint 0 = .ok (.aload_n 0, 1) := by decide +kernel
theorem dX5_hint_1 : decode cX5_hint 1 = .ok (.iload_n 1, 1) := by decide +kernel
theorem dX5_hint_2 : decode cX5_hint 2 = .ok (.invokevirtual 37, 3) := by decide +kernel
theorem dX5_hint_5 : decode cX5_hint 5 = .ok (.istore_n 2, 1) := by decide +kernel
theorem dX5_hint_6 : decode cX5_hint 6 = .ok (.aload_n 0, 1) := by decide +kernel
theorem dX5_hint_7 : decode cX5_hint 7 = .ok (.invokevirtual 130, 3) := by decide +kernel
theorem dX5_hint_10 : decode cX5_hint 10 = .ok (.aload_n 0, 1) := by decide +kernel
theorem dX5_hint_11 : decode cX5_hint 11 = .ok (.getfield 26, 3) := by decide +kernel
theorem dX5_hint_14 : decode cX5_hint 14 = .ok (.iload_n 2, 1) := by decide +kernel
theorem dX5_hint_15 : decode cX5_hint 15 = .ok (.invokevirtual 119, 3) := by decide +kernel
theorem dX5_hint_18 : decode cX5_hint 18 = .ok (.ifCond .eq 13, 3) := by decide +kernel
theorem dX5_hint_21 : decode cX5_hint 21 = .ok (.new 86, 3) := by decide +kernel
theorem dX5_hint_24 : decode cX5_hint 24 = .ok (.dup, 1) := by decide +kernel
theorem dX5_hint_25 : decode cX5_hint 25 = .ok (.ldc 136, 2) := by decide +kernel
theorem dX5_hint_27 : decode cX5_hint 27 = .ok (.invokespecial 90, 3) := by decide +kernel
theorem dX5_hint_30 : decode cX5_hint 30 = .ok (.athrow, 1) := by decide +kernel
theorem dX5_hint_31 : decode cX5_hint 31 = .ok (.aload_n 0, 1) := by decide +kernel
theorem dX5_hint_32 : decode cX5_hint 32 = .ok (.invokevirtual 133, 3) := by decide +kernel
theorem dX5_hint_35 : decode cX5_hint 35 = .ok (.aload_n 0, 1) := by decide +kernel
theorem dX5_hint_36 : decode cX5_hint 36 = .ok (.getfield 33, 3) := by decide +kernel
theorem dX5_hint_39 : decode cX5_hint 39 = .ok (.aload_n 0, 1) := by decide +kernel
theorem dX5_hint_40 : decode cX5_hint 40 = .ok (.getfield 26, 3) := by decide +kernel
theorem dX5_hint_43 : decode cX5_hint 43 = .ok (.invokevirtual 123, 3) := by decide +kernel
theorem dX5_hint_46 : decode cX5_hint 46 = .ok (.aload_n 0, 1) := by decide +kernel
theorem dX5_hint_47 : decode cX5_hint 47 = .ok (.iload_n 2, 1) := by decide +kernel
theorem dX5_hint_48 : decode cX5_hint 48 = .ok (.invokevirtual 138, 3) := by decide +kernel
theorem dX5_hint_51 : decode cX5_hint 51 = .ok (.ireturn, 1) := by decide +kernel
set_option maxRecDepth 20000 in
theorem ggX5_lead_X5_checkedForm : GoodIn wsX5_lead wsX5_checkedForm := goodIn_ca (goodIn_r _ [8, 9, 10, 11, 12, 13, 14, 15, 16, 17, 18, 19, 20, 21, 22, 23, 24, 25, 26, 27, 177, 178, 179, 180, 181, 182] (by decide +kernel) (by decide +kernel)) (goodIn_sub (fun _ h => List.mem_cons_of_mem _ (List.mem_append_left _ (List.mem_append_right _ h))) (by decide +kernel))
set_option maxRecDepth 20000 in
theorem gX5_lead_X5_checkedForm : GoodIn wsX5_lead (wsV RX5 37 RX5 yX5_checkedForm wsX5_checkedForm) := goodIn_app (goodIn_of _ (by decide +kernel)) ggX5_lead_X5_checkedForm
set_option maxRecDepth 20000 in
theorem ggX5_lead_X5_requireSomeRight : GoodIn wsX5_lead wsX5_requireSomeRight := goodIn_ca (goodIn_r _ [31, 32, 33, 2, 34, 35, 36, 37, 38, 39, 177, 178, 179, 180, 183, 184, 185, 186, 187, 188, 189, 190, 191, 192, 193] (by decide +kernel) (by decide +kernel)) (goodIn_sub (fun _ h => List.mem_cons_of_mem _ (List.mem_append_right _ h)) (by decide +kernel))
set_option maxRecDepth 20000 in
theorem gX5_lead_X5_requireSomeRight : GoodIn wsX5_lead (wsV RX5 130 RX5 yX5_requireSomeRight wsX5_requireSomeRight) := goodIn_app (goodIn_of _ (by decide +kernel)) ggX5_lead_X5_requireSomeRight
set_option maxRecDepth 20000 in
theorem ggX5_lead_X5_findSteps : GoodIn wsX5_lead wsX5_findSteps := goodIn_r _ [43, 3, 2, 11, 44, 45, 46, 47, 48, 49, 50, 51, 52, 53, 21, 54, 23, 55, 56, 57, 58, 59, 60, 61, 37, 62, 63, 64, 65, 66, 67, 68, 69, 19, 20, 22, 24, 25, 26, 27, 70, 71, 72, 73, 74, 75, 76, 77, 78, 79, 80, 81, 82, 83, 84, 85, 86, 87, 88, 89, 90, 91, 92, 93, 15, 94, 17, 18, 95, 96, 97, 98, 99, 100, 101, 102, 103, 104, 105, 106, 107, 108, 109, 110, 13, 14, 16, 111, 177, 178, 179, 180, 194, 195, 182, 183, 184, 185, 186, 187, 188, 189, 190, 191, 192, 193, 181] (by decide +kernel) (by decide +kernel)
set_option maxRecDepth 20000 in
theorem gX5_lead_X5_findSteps : GoodIn wsX5_lead (wsV RX5 133 RX5 yX5_findSteps wsX5_findSteps) := goodIn_app (goodIn_of _ (by decide +kernel)) ggX5_lead_X5_findSteps
set_option maxRecDepth 20000 in
theorem ggX5_lead_X4_find : GoodIn wsX5_lead wsX4_find := goodIn_r _ [116, 117, 118, 52, 53, 21, 54, 23, 55, 56, 57, 58, 119, 120, 121, 115, 122, 123, 124, 125, 60, 61, 37, 62, 63, 126, 65, 66, 67, 68, 69, 19, 20, 22, 24, 25, 26, 27, 127, 128, 129, 130, 74, 131, 80, 81, 82, 132, 133, 134, 135, 136, 137, 138, 139, 140, 141, 142, 143, 144, 145, 146, 147, 148, 149, 150, 151, 152, 153, 154, 155, 156, 157, 158, 159, 160, 161, 162, 196, 197, 182, 183, 184, 185, 186, 187, 188, 189, 190, 191, 192, 193] (by decide +kernel) (by decide +kernel)
set_option maxRecDepth 20000 in
theorem gX5_lead_X4_find : GoodIn wsX5_lead (wsV RX5 123 RX4 yX4_find wsX4_find) := goodIn_app (goodIn_of _ (by decide +kernel)) ggX5_lead_X4_find
set_option maxRecDepth 20000 in
theorem ggX5_lead_X3_editsKnown : GoodIn wsX5_lead wsX3_editsKnown := goodIn_r _ [166, 49, 111, 19, 20, 21, 22, 23, 24, 25, 26, 27, 194, 195, 182] (by decide +kernel) (by decide +kernel)
set_option maxRecDepth 20000 in
theorem gX5_lead_X3_editsKnown : GoodIn wsX5_lead (wsV RX5 65 RX3 yX3_editsKnown wsX3_editsKnown) := goodIn_app (goodIn_of _ (by decide +kernel)) ggX5_lead_X3_editsKnown
set_option maxRecDepth 20000 in
theorem ggX5_lead_X5_stepNearer : GoodIn wsX5_lead wsX5_stepNearer := goodIn_r _ [170, 3, 11, 1, 163, 164, 165, 47, 166, 49, 111, 19, 20, 21, 22, 23, 24, 25, 26, 27, 171, 104, 15, 105, 172, 107, 108, 109, 12, 13, 14, 16, 17, 18, 173, 174, 175, 115, 176, 117, 147, 177, 178, 179, 180, 194, 195, 182, 181, 196, 197] (by decide +kernel) (by decide +kernel)
set_option maxRecDepth 20000 in
theorem gX5_lead_X5_stepNearer : GoodIn wsX5_lead (wsV RX5 138 RX5 yX5_stepNearer wsX5_stepNearer) := goodIn_app (goodIn_of _ (by decide +kernel)) ggX5_lead_X5_stepNearer
theorem dX5_lead_0 : decode cX5_lead 0 = .ok (.aload_n 0, 1) := by decide +kernel
theorem dX5_lead_1 : decode cX5_lead 1 = .ok (.iload_n 1, 1) := by decide +kernel
theorem dX5_lead_2 : decode cX5_lead 2 = .ok (.invokevirtual 37, 3) := by decide +kernel
theorem dX5_lead_5 : decode cX5_lead 5 = .ok (.istore_n 2, 1) := by decide +kernel
theorem dX5_lead_6 : decode cX5_lead 6 = .ok (.aload_n 0, 1) := by decide +kernel
theorem dX5_lead_7 : decode cX5_lead 7 = .ok (.invokevirtual 130, 3) := by decide +kernel
theorem dX5_lead_10 : decode cX5_lead 10 = .ok (.aload_n 0, 1) := by decide +kernel
theorem dX5_lead_11 : decode cX5_lead 11 = .ok (.invokevirtual 133, 3) := by decide +kernel
theorem dX5_lead_14 : decode cX5_lead 14 = .ok (.aload_n 0, 1) := by decide +kernel
theorem dX5_lead_15 : decode cX5_lead 15 = .ok (.getfield 33, 3) := by decide +kernel
theorem dX5_lead_18 : decode cX5_lead 18 = .ok (.aload_n 0, 1) := by decide +kernel
theorem dX5_lead_19 : decode cX5_lead 19 = .ok (.getfield 26, 3) := by decide +kernel
theorem dX5_lead_22 : decode cX5_lead 22 = .ok (.invokevirtual 123, 3) := by decide +kernel
theorem dX5_lead_25 : decode cX5_lead 25 = .ok (.aload_n 0, 1) := by decide +kernel
theorem dX5_lead_26 : decode cX5_lead 26 = .ok (.getfield 19, 3) := by decide +kernel
theorem dX5_lead_29 : decode cX5_lead 29 = .ok (.iload_n 2, 1) := by decide +kernel
theorem dX5_lead_30 : decode cX5_lead 30 = .ok (.invokevirtual 65, 3) := by decide +kernel
theorem dX5_lead_33 : decode cX5_lead 33 = .ok (.istore_n 3, 1) := by decide +kernel
theorem dX5_lead_34 : decode cX5_lead 34 = .ok (.iload_n 3, 1) := by decide +kernel
theorem dX5_lead_35 : decode cX5_lead 35 = .ok (.ifCond .le 15, 3) := by decide +kernel
theorem dX5_lead_38 : decode cX5_lead 38 = .ok (.aload_n 0, 1) := by decide +kernel
theorem dX5_lead_39 : decode cX5_lead 39 = .ok (.iload_n 2, 1) := by decide +kernel
theorem dX5_lead_40 : decode cX5_lead 40 = .ok (.invokevirtual 138, 3) := by decide +kernel
theorem dX5_lead_43 : decode cX5_lead 43 = .ok (.istore_n 2, 1) := by decide +kernel
theorem dX5_lead_44 : decode cX5_lead 44 = .ok (.iinc 3 (-1), 3) := by decide +kernel
theorem dX5_lead_47 : decode cX5_lead 47 = .ok (.goto (-13), 3) := by decide +kernel
theorem dX5_lead_50 : decode cX5_lead 50 = .ok (.iload_n 2, 1) := by decide +kernel
theorem dX5_lead_51 : decode cX5_lead 51 = .ok (.ireturn, 1) := by decide +kernel
set_option maxRecDepth 20000 in
theorem ggX5_nearest_X5_checkedForm : GoodIn wsX5_nearest wsX5_checkedForm := goodIn_ca (goodIn_r _ [11, 12, 13, 5, 14, 15, 16, 17, 18, 19, 20, 21, 22, 23, 24, 25, 26, 27, 28, 29, 87, 88, 89, 90, 91, 92] (by decide +kernel) (by decide +kernel)) (goodIn_sub (fun _ h => List.mem_cons_of_mem _ (List.mem_append_right _ h)) (by decide +kernel))
set_option maxRecDepth 20000 in
theorem gX5_nearest_X5_checkedForm : GoodIn wsX5_nearest (wsV RX5 37 RX5 yX5_checkedForm wsX5_checkedForm) := goodIn_app (goodIn_of _ (by decide +kernel)) ggX5_nearest_X5_checkedForm
set_option maxRecDepth 20000 in
theorem ggX5_nearest_X0_metCount : GoodIn wsX5_nearest wsX0_metCount := goodIn_r _ [34, 35, 93, 94, 95, 96, 97, 98, 99, 100, 101, 102, 103] (by decide +kernel) (by decide +kernel)
set_option maxRecDepth 20000 in
theorem gX5_nearest_X0_metCount : GoodIn wsX5_nearest (wsV RX5 94 RX0 yX0_metCount wsX0_metCount) := goodIn_app (goodIn_of _ (by decide +kernel)) ggX5_nearest_X0_metCount
set_option maxRecDepth 20000 in
theorem ggX5_nearest_X3_goOutward : GoodIn wsX5_nearest wsX3_goOutward := goodIn_r _ [40, 41, 42, 43, 44, 39, 45, 46, 47, 48, 49, 50, 23, 51, 25, 52, 53, 54, 55, 56, 57, 58, 59, 60, 61, 62, 63, 26, 27, 28, 29, 64, 21, 22, 24, 65, 66, 67, 68, 69, 70, 17, 71, 72, 73, 74, 75, 76, 15, 16, 18, 19, 20, 104, 105, 92, 91] (by decide +kernel) (by decide +kernel)
set_option maxRecDepth 20000 in
theorem gX5_nearest_X3_goOutward : GoodIn wsX5_nearest (wsV RX5 61 RX3 yX3_goOutward wsX3_goOutward) := goodIn_app (goodIn_of _ (by decide +kernel)) ggX5_nearest_X3_goOutward
end
section
set_option maxRecDepth 20000 in
theorem ggX5_nearest_X0_metForm : GoodIn wsX5_nearest wsX0_metForm := goodIn_r _ [80, 81, 82, 21, 22, 23, 24, 25, 26, 27, 28, 29, 93, 94, 95, 96, 97, 98, 99, 100, 101, 102, 103, 92] (by decide +kernel) (by decide +kernel)
set_option maxRecDepth 20000 in
theorem gX5_nearest_X0_metForm : GoodIn wsX5_nearest (wsV RX5 147 RX0 yX0_metForm wsX0_metForm) := goodIn_app (goodIn_of _ (by decide +kernel)) ggX5_nearest_X0_metForm
set_option maxRecDepth 20000 in
theorem ggX5_nearest_X3_editsKnown : GoodIn wsX5_nearest wsX3_editsKnown := goodIn_r _ [86, 46, 64, 21, 22, 23, 24, 25, 26, 27, 28, 29, 104, 105, 92] (by decide +kernel) (by decide +kernel)
set_option maxRecDepth 20000 in
theorem gX5_nearest_X3_editsKnown : GoodIn wsX5_nearest (wsV RX5 65 RX3 yX3_editsKnown wsX3_editsKnown) := goodIn_app (goodIn_of _ (by decide +kernel)) ggX5_nearest_X3_editsKnown
theorem dX5_nearest_0 : decode cX5_nearest 0 = .ok (.aload_n 0, 1) := by decide +kernel
theorem dX5_nearest_1 : decode cX5_nearest 1 = .ok (.iload_n 1, 1) := by decide +kernel
theorem dX5_nearest_2 : decode cX5_nearest 2 = .ok (.invokevirtual 37, 3) := by decide +kernel
theorem dX5_nearest_5 : decode cX5_nearest 5 = .ok (.istore_n 2, 1) := by decide +kernel
theorem dX5_nearest_6 : decode cX5_nearest 6 = .ok (.aload_n 0, 1) := by decide +kernel
theorem dX5_nearest_7 : decode cX5_nearest 7 = .ok (.getfield 26, 3) := by decide +kernel
theorem dX5_nearest_10 : decode cX5_nearest 10 = .ok (.invokevirtual 94, 3) := by decide +kernel
theorem dX5_nearest_13 : decode cX5_nearest 13 = .ok (.ifCond .ne 13, 3) := by decide +kernel
theorem dX5_nearest_16 : decode cX5_nearest 16 = .ok (.new 141, 3) := by decide +kernel
theorem dX5_nearest_19 : decode cX5_nearest 19 = .ok (.dup, 1) := by decide +kernel
theorem dX5_nearest_20 : decode cX5_nearest 20 = .ok (.ldc 143, 2) := by decide +kernel
theorem dX5_nearest_22 : decode cX5_nearest 22 = .ok (.invokespecial 145, 3) := by decide +kernel
theorem dX5_nearest_25 : decode cX5_nearest 25 = .ok (.athrow, 1) := by decide +kernel
theorem dX5_nearest_26 : decode cX5_nearest 26 = .ok (.aload_n 0, 1) := by decide +kernel
theorem dX5_nearest_27 : decode cX5_nearest 27 = .ok (.getfield 19, 3) := by decide +kernel
theorem dX5_nearest_30 : decode cX5_nearest 30 = .ok (.aload_n 0, 1) := by decide +kernel
theorem dX5_nearest_31 : decode cX5_nearest 31 = .ok (.getfield 10, 3) := by decide +kernel
theorem dX5_nearest_34 : decode cX5_nearest 34 = .ok (.iload_n 2, 1) := by decide +kernel
theorem dX5_nearest_35 : decode cX5_nearest 35 = .ok (.invokevirtual 61, 3) := by decide +kernel
theorem dX5_nearest_38 : decode cX5_nearest 38 = .ok (.iconst (-1), 1) := by decide +kernel
theorem dX5_nearest_39 : decode cX5_nearest 39 = .ok (.istore_n 3, 1) := by decide +kernel
theorem dX5_nearest_40 : decode cX5_nearest 40 = .ok (.ldc 146, 2) := by decide +kernel
theorem dX5_nearest_42 : decode cX5_nearest 42 = .ok (.istore 4, 2) := by decide +kernel
theorem dX5_nearest_44 : decode cX5_nearest 44 = .ok (.iconst 0, 1) := by decide +kernel
theorem dX5_nearest_45 : decode cX5_nearest 45 = .ok (.istore 5, 2) := by decide +kernel
theorem dX5_nearest_47 : decode cX5_nearest 47 = .ok (.iload 5, 2) := by decide +kernel
theorem dX5_nearest_49 : decode cX5_nearest 49 = .ok (.aload_n 0, 1) := by decide +kernel
theorem dX5_nearest_50 : decode cX5_nearest 50 = .ok (.getfield 26, 3) := by decide +kernel
theorem dX5_nearest_53 : decode cX5_nearest 53 = .ok (.invokevirtual 94, 3) := by decide +kernel
theorem dX5_nearest_56 : decode cX5_nearest 56 = .ok (.if_icmp .ge 58, 3) := by decide +kernel
theorem dX5_nearest_59 : decode cX5_nearest 59 = .ok (.aload_n 0, 1) := by decide +kernel
theorem dX5_nearest_60 : decode cX5_nearest 60 = .ok (.getfield 26, 3) := by decide +kernel
theorem dX5_nearest_63 : decode cX5_nearest 63 = .ok (.iload 5, 2) := by decide +kernel
theorem dX5_nearest_65 : decode cX5_nearest 65 = .ok (.invokevirtual 147, 3) := by decide +kernel
theorem dX5_nearest_68 : decode cX5_nearest 68 = .ok (.istore 6, 2) := by decide +kernel
theorem dX5_nearest_70 : decode cX5_nearest 70 = .ok (.aload_n 0, 1) := by decide +kernel
theorem dX5_nearest_71 : decode cX5_nearest 71 = .ok (.getfield 19, 3) := by decide +kernel
theorem dX5_nearest_74 : decode cX5_nearest 74 = .ok (.iload 6, 2) := by decide +kernel
theorem dX5_nearest_76 : decode cX5_nearest 76 = .ok (.invokevirtual 65, 3) := by decide +kernel
theorem dX5_nearest_79 : decode cX5_nearest 79 = .ok (.istore 7, 2) := by decide +kernel
theorem dX5_nearest_81 : decode cX5_nearest 81 = .ok (.iload 7, 2) := by decide +kernel
theorem dX5_nearest_83 : decode cX5_nearest 83 = .ok (.iload 4, 2) := by decide +kernel
theorem dX5_nearest_85 : decode cX5_nearest 85 = .ok (.if_icmp .lt 16, 3) := by decide +kernel
theorem dX5_nearest_88 : decode cX5_nearest 88 = .ok (.iload 7, 2) := by decide +kernel
theorem dX5_nearest_90 : decode cX5_nearest 90 = .ok (.iload 4, 2) := by decide +kernel
theorem dX5_nearest_92 : decode cX5_nearest 92 = .ok (.if_icmp .ne 16, 3) := by decide +kernel
theorem dX5_nearest_95 : decode cX5_nearest 95 = .ok (.iload 6, 2) := by decide +kernel
theorem dX5_nearest_97 : decode cX5_nearest 97 = .ok (.iload_n 3, 1) := by decide +kernel
theorem dX5_nearest_98 : decode cX5_nearest 98 = .ok (.if_icmp .ge 10, 3) := by decide +kernel
theorem dX5_nearest_101 : decode cX5_nearest 101 = .ok (.iload 6, 2) := by decide +kernel
theorem dX5_nearest_103 : decode cX5_nearest 103 = .ok (.istore_n 3, 1) := by decide +kernel
theorem dX5_nearest_104 : decode cX5_nearest 104 = .ok (.iload 7, 2) := by decide +kernel
theorem dX5_nearest_106 : decode cX5_nearest 106 = .ok (.istore 4, 2) := by decide +kernel
theorem dX5_nearest_108 : decode cX5_nearest 108 = .ok (.iinc 5 1, 3) := by decide +kernel
theorem dX5_nearest_111 : decode cX5_nearest 111 = .ok (.goto (-64), 3) := by decide +kernel
theorem dX5_nearest_114 : decode cX5_nearest 114 = .ok (.iload_n 3, 1) := by decide +kernel
theorem dX5_nearest_115 : decode cX5_nearest 115 = .ok (.ireturn, 1) := by decide +kernel
set_option maxRecDepth 20000 in
theorem ggX5_checkedForm_X1_formOf : GoodIn wsX5_checkedForm wsX1_formOf := goodIn_r _ [8, 9, 10, 11, 12, 13, 14, 15, 16, 17, 18, 19, 24, 25] (by decide +kernel) (by decide +kernel)
set_option maxRecDepth 20000 in
theorem gX5_checkedForm_X1_formOf : GoodIn wsX5_checkedForm (wsV RX5 152 RX1 yX1_formOf wsX1_formOf) := goodIn_app (goodIn_of _ (by decide +kernel)) ggX5_checkedForm_X1_formOf
theorem dX5_checkedForm_0 : decode cX5_checkedForm 0 = .ok (.iload_n 1, 1) := by decide +kernel
theorem dX5_checkedForm_1 : decode cX5_checkedForm 1 = .ok (.ifCond .lt 10, 3) := by decide +kernel
theorem dX5_checkedForm_4 : decode cX5_checkedForm 4 = .ok (.iload_n 1, 1) := by decide +kernel
theorem dX5_checkedForm_5 : decode cX5_checkedForm 5 = .ok (.sipush 1296, 3) := by decide +kernel
theorem dX5_checkedForm_8 : decode cX5_checkedForm 8 = .ok (.if_icmp .lt 13, 3) := by decide +kernel
theorem dX5_checkedForm_11 : decode cX5_checkedForm 11 = .ok (.new 41, 3) := by decide +kernel
theorem dX5_checkedForm_14 : decode cX5_checkedForm 14 = .ok (.dup, 1) := by decide +kernel
theorem dX5_checkedForm_15 : decode cX5_checkedForm 15 = .ok (.ldc 150, 2) := by decide +kernel
theorem dX5_checkedForm_17 : decode cX5_checkedForm 17 = .ok (.invokespecial 45, 3) := by decide +kernel
theorem dX5_checkedForm_20 : decode cX5_checkedForm 20 = .ok (.athrow, 1) := by decide +kernel
theorem dX5_checkedForm_21 : decode cX5_checkedForm 21 = .ok (.aload_n 0, 1) := by decide +kernel
theorem dX5_checkedForm_22 : decode cX5_checkedForm 22 = .ok (.getfield 10, 3) := by decide +kernel
theorem dX5_checkedForm_25 : decode cX5_checkedForm 25 = .ok (.iload_n 1, 1) := by decide +kernel
theorem dX5_checkedForm_26 : decode cX5_checkedForm 26 = .ok (.invokevirtual 152, 3) := by decide +kernel
theorem dX5_checkedForm_29 : decode cX5_checkedForm 29 = .ok (.ireturn, 1) := by decide +kernel
set_option maxRecDepth 20000 in
theorem ggX5_requireSomeRight_X0_isSomeRight : GoodIn wsX5_requireSomeRight wsX0_isSomeRight := goodIn_r _ [8, 9, 14, 15, 16, 17, 18, 19, 20, 21, 22, 23, 24] (by decide +kernel) (by decide +kernel)
set_option maxRecDepth 20000 in
theorem gX5_requireSomeRight_X0_isSomeRight : GoodIn wsX5_requireSomeRight (wsV RX5 155 RX0 yX0_isSomeRight wsX0_isSomeRight) := goodIn_app (goodIn_of _ (by decide +kernel)) ggX5_requireSomeRight_X0_isSomeRight
theorem dX5_requireSomeRight_0 : decode cX5_requireSomeRight 0 = .ok (.aload_n 0, 1) := by decide +kernel
theorem dX5_requireSomeRight_1 : decode cX5_requireSomeRight 1 = .ok (.getfield 26, 3) := by decide +kernel
theorem dX5_requireSomeRight_4 : decode cX5_requireSomeRight 4 = .ok (.invokevirtual 155, 3) := by decide +kernel
theorem dX5_requireSomeRight_7 : decode cX5_requireSomeRight 7 = .ok (.ifCond .ne 13, 3) := by decide +kernel
theorem dX5_requireSomeRight_10 : decode cX5_requireSomeRight 10 = .ok (.new 141, 3) := by decide +kernel
theorem dX5_requireSomeRight_13 : decode cX5_requireSomeRight 13 = .ok (.dup, 1) := by decide +kernel
theorem dX5_requireSomeRight_14 : decode cX5_requireSomeRight 14 = .ok (.ldc 158, 2) := by decide +kernel
theorem dX5_requireSomeRight_16 : decode cX5_requireSomeRight 16 = .ok (.invokespecial 145, 3) := by decide +kernel
theorem dX5_requireSomeRight_19 : decode cX5_requireSomeRight 19 = .ok (.athrow, 1) := by decide +kernel
theorem dX5_requireSomeRight_20 : decode cX5_requireSomeRight 20 = .ok (.return_, 1) := by decide +kernel
set_option maxRecDepth 20000 in
theorem ggX5_findSteps_X3_forget : GoodIn wsX5_findSteps wsX3_forget := goodIn_r _ [8, 9, 10, 11, 12, 13, 14, 15, 16, 17, 18, 19, 20, 92, 93, 94] (by decide +kernel) (by decide +kernel)
set_option maxRecDepth 20000 in
theorem gX5_findSteps_X3_forget : GoodIn wsX5_findSteps (wsV RX5 68 RX3 yX3_forget wsX3_forget) := goodIn_app (goodIn_of _ (by decide +kernel)) ggX5_findSteps_X3_forget
set_option maxRecDepth 20000 in
theorem ggX5_findSteps_X0_metCount : GoodIn wsX5_findSteps wsX0_metCount := goodIn_r _ [25, 26, 95, 96, 97, 98, 99, 100, 101, 102, 103, 104, 105] (by decide +kernel) (by decide +kernel)
set_option maxRecDepth 20000 in
theorem gX5_findSteps_X0_metCount : GoodIn wsX5_findSteps (wsV RX5 94 RX0 yX0_metCount wsX0_metCount) := goodIn_app (goodIn_of _ (by decide +kernel)) ggX5_findSteps_X0_metCount
set_option maxRecDepth 20000 in
theorem ggX5_findSteps_X0_metForm : GoodIn wsX5_findSteps wsX0_metForm := goodIn_r _ [30, 31, 32, 33, 34, 14, 35, 16, 36, 37, 38, 39, 95, 96, 97, 98, 99, 100, 101, 102, 103, 104, 105, 94] (by decide +kernel) (by decide +kernel)
set_option maxRecDepth 20000 in
theorem gX5_findSteps_X0_metForm : GoodIn wsX5_findSteps (wsV RX5 147 RX0 yX0_metForm wsX0_metForm) := goodIn_app (goodIn_of _ (by decide +kernel)) ggX5_findSteps_X0_metForm
set_option maxRecDepth 20000 in
theorem ggX5_findSteps_X0_hasEndedRight : GoodIn wsX5_findSteps wsX0_hasEndedRight := goodIn_r _ [43, 44, 32, 33, 34, 14, 35, 16, 36, 37, 38, 39, 95, 96, 97, 98, 99, 100, 101, 102, 103, 104, 105, 94] (by decide +kernel) (by decide +kernel)
set_option maxRecDepth 20000 in
theorem gX5_findSteps_X0_hasEndedRight : GoodIn wsX5_findSteps (wsV RX5 119 RX0 yX0_hasEndedRight wsX0_hasEndedRight) := goodIn_app (goodIn_of _ (by decide +kernel)) ggX5_findSteps_X0_hasEndedRight
set_option maxRecDepth 20000 in
theorem ggX5_findSteps_X3_mark : GoodIn wsX5_findSteps wsX3_mark := goodIn_r _ [48, 9, 49, 50, 51, 14, 52, 16, 36, 37, 38, 39, 92, 93, 94] (by decide +kernel) (by decide +kernel)
set_option maxRecDepth 20000 in
theorem gX5_findSteps_X3_mark : GoodIn wsX5_findSteps (wsV RX5 71 RX3 yX3_mark wsX3_mark) := goodIn_app (goodIn_of _ (by decide +kernel)) ggX5_findSteps_X3_mark
set_option maxRecDepth 20000 in
theorem ggX5_findSteps_X3_settle : GoodIn wsX5_findSteps wsX3_settle := goodIn_r _ [56, 57, 58, 59, 7, 60, 9, 61, 62, 63, 64, 65, 66, 67, 33, 34, 14, 35, 16, 36, 37, 38, 39, 68, 69, 70, 71, 10, 72, 73, 74, 75, 76, 77, 78, 79, 80, 81, 82, 83, 84, 85, 86, 87, 49, 50, 51, 52, 92, 93, 106, 94] (by decide +kernel) (by decide +kernel)
set_option maxRecDepth 20000 in
theorem gX5_findSteps_X3_settle : GoodIn wsX5_findSteps (wsV RX5 75 RX3 yX3_settle wsX3_settle) := goodIn_app (goodIn_of _ (by decide +kernel)) ggX5_findSteps_X3_settle
theorem dX5_findSteps_0 : decode cX5_findSteps 0 = .ok (.aload_n 0, 1) := by decide +kernel
theorem dX5_findSteps_1 : decode cX5_findSteps 1 = .ok (.getfield 19, 3) := by decide +kernel
theorem dX5_findSteps_4 : decode cX5_findSteps 4 = .ok (.invokevirtual 68, 3) := by decide +kernel
theorem dX5_findSteps_7 : decode cX5_findSteps 7 = .ok (.iconst 0, 1) := by decide +kernel
theorem dX5_findSteps_8 : decode cX5_findSteps 8 = .ok (.istore_n 1, 1) := by decide +kernel
theorem dX5_findSteps_9 : decode cX5_findSteps 9 = .ok (.iload_n 1, 1) := by decide +kernel
theorem dX5_findSteps_10 : decode cX5_findSteps 10 = .ok (.aload_n 0, 1) := by decide +kernel
theorem dX5_findSteps_11 : decode cX5_findSteps 11 = .ok (.getfield 26, 3) := by decide +kernel
theorem dX5_findSteps_14 : decode cX5_findSteps 14 = .ok (.invokevirtual 94, 3) := by decide +kernel
theorem dX5_findSteps_17 : decode cX5_findSteps 17 = .ok (.if_icmp .ge 37, 3) := by decide +kernel
theorem dX5_findSteps_20 : decode cX5_findSteps 20 = .ok (.aload_n 0, 1) := by decide +kernel
theorem dX5_findSteps_21 : decode cX5_findSteps 21 = .ok (.getfield 26, 3) := by decide +kernel
theorem dX5_findSteps_24 : decode cX5_findSteps 24 = .ok (.iload_n 1, 1) := by decide +kernel
theorem dX5_findSteps_25 : decode cX5_findSteps 25 = .ok (.invokevirtual 147, 3) := by decide +kernel
theorem dX5_findSteps_28 : decode cX5_findSteps 28 = .ok (.istore_n 2, 1) := by decide +kernel
theorem dX5_findSteps_29 : decode cX5_findSteps 29 = .ok (.aload_n 0, 1) := by decide +kernel
theorem dX5_findSteps_30 : decode cX5_findSteps 30 = .ok (.getfield 26, 3) := by decide +kernel
theorem dX5_findSteps_33 : decode cX5_findSteps 33 = .ok (.iload_n 2, 1) := by decide +kernel
theorem dX5_findSteps_34 : decode cX5_findSteps 34 = .ok (.invokevirtual 119, 3) := by decide +kernel
theorem dX5_findSteps_37 : decode cX5_findSteps 37 = .ok (.ifCond .eq 11, 3) := by decide +kernel
theorem dX5_findSteps_40 : decode cX5_findSteps 40 = .ok (.aload_n 0, 1) := by decide +kernel
theorem dX5_findSteps_41 : decode cX5_findSteps 41 = .ok (.getfield 19, 3) := by decide +kernel
theorem dX5_findSteps_44 : decode cX5_findSteps 44 = .ok (.iload_n 2, 1) := by decide +kernel
theorem dX5_findSteps_45 : decode cX5_findSteps 45 = .ok (.invokevirtual 71, 3) := by decide +kernel
theorem dX5_findSteps_48 : decode cX5_findSteps 48 = .ok (.iinc 1 1, 3) := by decide +kernel
theorem dX5_findSteps_51 : decode cX5_findSteps 51 = .ok (.goto (-42), 3) := by decide +kernel
theorem dX5_findSteps_54 : decode cX5_findSteps 54 = .ok (.aload_n 0, 1) := by decide +kernel
theorem dX5_findSteps_55 : decode cX5_findSteps 55 = .ok (.getfield 19, 3) := by decide +kernel
theorem dX5_findSteps_58 : decode cX5_findSteps 58 = .ok (.aload_n 0, 1) := by decide +kernel
theorem dX5_findSteps_59 : decode cX5_findSteps 59 = .ok (.getfield 10, 3) := by decide +kernel
theorem dX5_findSteps_62 : decode cX5_findSteps 62 = .ok (.invokevirtual 75, 3) := by decide +kernel
theorem dX5_findSteps_65 : decode cX5_findSteps 65 = .ok (.return_, 1) := by decide +kernel
set_option maxRecDepth 20000 in
theorem ggX5_stepNearer_X3_editsKnown : GoodIn wsX5_stepNearer wsX3_editsKnown := goodIn_r _ [8, 9, 10, 11, 12, 13, 14, 15, 16, 17, 18, 19, 45, 46, 47] (by decide +kernel) (by decide +kernel)
set_option maxRecDepth 20000 in
theorem gX5_stepNearer_X3_editsKnown : GoodIn wsX5_stepNearer (wsV RX5 65 RX3 yX3_editsKnown wsX3_editsKnown) := goodIn_app (goodIn_of _ (by decide +kernel)) ggX5_stepNearer_X3_editsKnown
set_option maxRecDepth 20000 in
theorem ggX5_stepNearer_X1_weightOf : GoodIn wsX5_stepNearer wsX1_weightOf := goodIn_r _ [23] (by decide +kernel) (by decide +kernel)
set_option maxRecDepth 20000 in
theorem gX5_stepNearer_X1_weightOf : GoodIn wsX5_stepNearer (va_wsS RX5 160 yX1_weightOf wsX1_weightOf) := goodIn_app (goodIn_of _ (by decide +kernel)) ggX5_stepNearer_X1_weightOf
set_option maxRecDepth 20000 in
theorem ggX5_stepNearer_X1_without : GoodIn wsX5_stepNearer wsX1_without := goodIn_r _ [26, 27, 21, 22, 23] (by decide +kernel) (by decide +kernel)
set_option maxRecDepth 20000 in
theorem gX5_stepNearer_X1_without : GoodIn wsX5_stepNearer (va_wsS RX5 163 yX1_without wsX1_without) := goodIn_app (goodIn_of _ (by decide +kernel)) ggX5_stepNearer_X1_without
set_option maxRecDepth 20000 in
theorem ggX5_stepNearer_X1_formOf : GoodIn wsX5_stepNearer wsX1_formOf := goodIn_r _ [31, 32, 33, 11, 12, 13, 14, 15, 16, 17, 18, 19, 48, 47] (by decide +kernel) (by decide +kernel)
set_option maxRecDepth 20000 in
theorem gX5_stepNearer_X1_formOf : GoodIn wsX5_stepNearer (wsV RX5 152 RX1 yX1_formOf wsX1_formOf) := goodIn_app (goodIn_of _ (by decide +kernel)) ggX5_stepNearer_X1_formOf
set_option maxRecDepth 20000 in
theorem ggX5_stepNearer_X4_of : GoodIn wsX5_stepNearer wsX4_of := goodIn_r _ [38, 39, 40, 11, 12, 13, 14, 15, 16, 17, 18, 19, 49, 50, 47] (by decide +kernel) (by decide +kernel)
set_option maxRecDepth 20000 in
theorem gX5_stepNearer_X4_of : GoodIn wsX5_stepNearer (wsV RX5 127 RX4 yX4_of wsX4_of) := goodIn_app (goodIn_of _ (by decide +kernel)) ggX5_stepNearer_X4_of
theorem dX5_stepNearer_0 : decode cX5_stepNearer 0 = .ok (.aload_n 0, 1) := by decide +kernel
theorem dX5_stepNearer_1 : decode cX5_stepNearer 1 = .ok (.getfield 19, 3) := by decide +kernel
theorem dX5_stepNearer_4 : decode cX5_stepNearer 4 = .ok (.iload_n 1, 1) := by decide +kernel
theorem dX5_stepNearer_5 : decode cX5_stepNearer 5 = .ok (.invokevirtual 65, 3) := by decide +kernel
theorem dX5_stepNearer_8 : decode cX5_stepNearer 8 = .ok (.iconst 1, 1) := by decide +kernel
theorem dX5_stepNearer_9 : decode cX5_stepNearer 9 = .ok (.isub, 1) := by decide +kernel
theorem dX5_stepNearer_10 : decode cX5_stepNearer 10 = .ok (.istore_n 2, 1) := by decide +kernel
theorem dX5_stepNearer_11 : decode cX5_stepNearer 11 = .ok (.iload_n 1, 1) := by decide +kernel
theorem dX5_stepNearer_12 : decode cX5_stepNearer 12 = .ok (.istore_n 3, 1) := by decide +kernel
theorem dX5_stepNearer_13 : decode cX5_stepNearer 13 = .ok (.iconst (-1), 1) := by decide +kernel
theorem dX5_stepNearer_14 : decode cX5_stepNearer 14 = .ok (.istore 4, 2) := by decide +kernel
theorem dX5_stepNearer_16 : decode cX5_stepNearer 16 = .ok (.iconst 0, 1) := by decide +kernel
theorem dX5_stepNearer_17 : decode cX5_stepNearer 17 = .ok (.istore 5, 2) := by decide +kernel
theorem dX5_stepNearer_19 : decode cX5_stepNearer 19 = .ok (.iload 5, 2) := by decide +kernel
theorem dX5_stepNearer_21 : decode cX5_stepNearer 21 = .ok (.iconst 4, 1) := by decide +kernel
theorem dX5_stepNearer_22 : decode cX5_stepNearer 22 = .ok (.if_icmp .ge 120, 3) := by decide +kernel
theorem dX5_stepNearer_25 : decode cX5_stepNearer 25 = .ok (.iload 5, 2) := by decide +kernel
theorem dX5_stepNearer_27 : decode cX5_stepNearer 27 = .ok (.invokestatic 160, 3) := by decide +kernel
theorem dX5_stepNearer_30 : decode cX5_stepNearer 30 = .ok (.istore 6, 2) := by decide +kernel
theorem dX5_stepNearer_32 : decode cX5_stepNearer 32 = .ok (.iload_n 1, 1) := by decide +kernel
theorem dX5_stepNearer_33 : decode cX5_stepNearer 33 = .ok (.iload 5, 2) := by decide +kernel
theorem dX5_stepNearer_35 : decode cX5_stepNearer 35 = .ok (.invokestatic 163, 3) := by decide +kernel
theorem dX5_stepNearer_38 : decode cX5_stepNearer 38 = .ok (.istore 7, 2) := by decide +kernel
theorem dX5_stepNearer_40 : decode cX5_stepNearer 40 = .ok (.iconst 0, 1) := by decide +kernel
theorem dX5_stepNearer_41 : decode cX5_stepNearer 41 = .ok (.istore 8, 2) := by decide +kernel
theorem dX5_stepNearer_43 : decode cX5_stepNearer 43 = .ok (.iload 8, 2) := by decide +kernel
theorem dX5_stepNearer_45 : decode cX5_stepNearer 45 = .ok (.bipush 6, 2) := by decide +kernel
theorem dX5_stepNearer_47 : decode cX5_stepNearer 47 = .ok (.if_icmp .ge 89, 3) := by decide +kernel
theorem dX5_stepNearer_50 : decode cX5_stepNearer 50 = .ok (.aload_n 0, 1) := by decide +kernel
theorem dX5_stepNearer_51 : decode cX5_stepNearer 51 = .ok (.getfield 10, 3) := by decide +kernel
theorem dX5_stepNearer_54 : decode cX5_stepNearer 54 = .ok (.iload 7, 2) := by decide +kernel
theorem dX5_stepNearer_56 : decode cX5_stepNearer 56 = .ok (.iload 8, 2) := by decide +kernel
theorem dX5_stepNearer_58 : decode cX5_stepNearer 58 = .ok (.iload 6, 2) := by decide +kernel
theorem dX5_stepNearer_60 : decode cX5_stepNearer 60 = .ok (.imul, 1) := by decide +kernel
theorem dX5_stepNearer_61 : decode cX5_stepNearer 61 = .ok (.iadd, 1) := by decide +kernel
theorem dX5_stepNearer_62 : decode cX5_stepNearer 62 = .ok (.invokevirtual 152, 3) := by decide +kernel
theorem dX5_stepNearer_65 : decode cX5_stepNearer 65 = .ok (.istore 9, 2) := by decide +kernel
theorem dX5_stepNearer_67 : decode cX5_stepNearer 67 = .ok (.aload_n 0, 1) := by decide +kernel
theorem dX5_stepNearer_68 : decode cX5_stepNearer 68 = .ok (.getfield 33, 3) := by decide +kernel
theorem dX5_stepNearer_71 : decode cX5_stepNearer 71 = .ok (.iload 9, 2) := by decide +kernel
theorem dX5_stepNearer_73 : decode cX5_stepNearer 73 = .ok (.invokevirtual 127, 3) := by decide +kernel
theorem dX5_stepNearer_76 : decode cX5_stepNearer 76 = .ok (.istore 10, 2) := by decide +kernel
theorem dX5_stepNearer_78 : decode cX5_stepNearer 78 = .ok (.iload 10, 2) := by decide +kernel
theorem dX5_stepNearer_80 : decode cX5_stepNearer 80 = .ok (.iload 4, 2) := by decide +kernel
theorem dX5_stepNearer_82 : decode cX5_stepNearer 82 = .ok (.if_icmp .gt 16, 3) := by decide +kernel
theorem dX5_stepNearer_85 : decode cX5_stepNearer 85 = .ok (.iload 10, 2) := by decide +kernel
theorem dX5_stepNearer_87 : decode cX5_stepNearer 87 = .ok (.iload 4, 2) := by decide +kernel
theorem dX5_stepNearer_89 : decode cX5_stepNearer 89 = .ok (.if_icmp .ne 13, 3) := by decide +kernel
theorem dX5_stepNearer_92 : decode cX5_stepNearer 92 = .ok (.iload 9, 2) := by decide +kernel
theorem dX5_stepNearer_94 : decode cX5_stepNearer 94 = .ok (.iload_n 3, 1) := by decide +kernel
theorem dX5_stepNearer_95 : decode cX5_stepNearer 95 = .ok (.if_icmp .ge 7, 3) := by decide +kernel
theorem dX5_stepNearer_98 : decode cX5_stepNearer 98 = .ok (.iconst 1, 1) := by decide +kernel
theorem dX5_stepNearer_99 : decode cX5_stepNearer 99 = .ok (.goto 4, 3) := by decide +kernel
theorem dX5_stepNearer_102 : decode cX5_stepNearer 102 = .ok (.iconst 0, 1) := by decide +kernel
theorem dX5_stepNearer_103 : decode cX5_stepNearer 103 = .ok (.istore 11, 2) := by decide +kernel
theorem dX5_stepNearer_105 : decode cX5_stepNearer 105 = .ok (.aload_n 0, 1) := by decide +kernel
theorem dX5_stepNearer_106 : decode cX5_stepNearer 106 = .ok (.getfield 19, 3) := by decide +kernel
theorem dX5_stepNearer_109 : decode cX5_stepNearer 109 = .ok (.iload 9, 2) := by decide +kernel
theorem dX5_stepNearer_111 : decode cX5_stepNearer 111 = .ok (.invokevirtual 65, 3) := by decide +kernel
theorem dX5_stepNearer_114 : decode cX5_stepNearer 114 = .ok (.iload_n 2, 1) := by decide +kernel
theorem dX5_stepNearer_115 : decode cX5_stepNearer 115 = .ok (.if_icmp .ne 15, 3) := by decide +kernel
theorem dX5_stepNearer_118 : decode cX5_stepNearer 118 = .ok (.iload 11, 2) := by decide +kernel
theorem dX5_stepNearer_120 : decode cX5_stepNearer 120 = .ok (.ifCond .eq 10, 3) := by decide +kernel
theorem dX5_stepNearer_123 : decode cX5_stepNearer 123 = .ok (.iload 9, 2) := by decide +kernel
theorem dX5_stepNearer_125 : decode cX5_stepNearer 125 = .ok (.istore_n 3, 1) := by decide +kernel
theorem dX5_stepNearer_126 : decode cX5_stepNearer 126 = .ok (.iload 10, 2) := by decide +kernel
theorem dX5_stepNearer_128 : decode cX5_stepNearer 128 = .ok (.istore 4, 2) := by decide +kernel
theorem dX5_stepNearer_130 : decode cX5_stepNearer 130 = .ok (.iinc 8 1, 3) := by decide +kernel
theorem dX5_stepNearer_133 : decode cX5_stepNearer 133 = .ok (.goto (-90), 3) := by decide +kernel
theorem dX5_stepNearer_136 : decode cX5_stepNearer 136 = .ok (.iinc 5 1, 3) := by decide +kernel
theorem dX5_stepNearer_139 : decode cX5_stepNearer 139 = .ok (.goto (-120), 3) := by decide +kernel
theorem dX5_stepNearer_142 : decode cX5_stepNearer 142 = .ok (.iload_n 3, 1) := by decide +kernel
theorem dX5_stepNearer_143 : decode cX5_stepNearer 143 = .ok (.ireturn, 1) := by decide +kernel
end
section
set_option maxRecDepth 20000 in
theorem ggX6_init_X6_formed : GoodIn wsX6_init wsX6_formed := goodIn_r _ [24, 6, 25, 26, 27, 23, 28, 29, 30, 31, 32, 33, 34, 35, 36, 37, 38, 39, 40, 41, 42, 43, 44, 45, 46, 47, 48, 49] (by decide +kernel) (by decide +kernel)
set_option maxRecDepth 20000 in
theorem gX6_init_X6_formed : GoodIn wsX6_init (wsV RX6 52 RX6 yX6_formed wsX6_formed) := goodIn_app (goodIn_of _ (by decide +kernel)) ggX6_init_X6_formed
theorem dX6_init_0 : decode cX6_init 0 = .ok (.aload_n 0, 1) := by decide +kernel
theorem dX6_init_1 : decode cX6_init 1 = .ok (.invokespecial 1, 3) := by decide +kernel
theorem dX6_init_4 : decode cX6_init 4 = .ok (.aload_n 0, 1) := by decide +kernel
theorem dX6_init_5 : decode cX6_init 5 = .ok (.sipush 1296, 3) := by decide +kernel
theorem dX6_init_8 : decode cX6_init 8 = .ok (.newarray .int, 2) := by decide +kernel
theorem dX6_init_10 : decode cX6_init 10 = .ok (.putfield 7, 3) := by decide +kernel
theorem dX6_init_13 : decode cX6_init 13 = .ok (.aload_n 0, 1) := by decide +kernel
theorem dX6_init_14 : decode cX6_init 14 = .ok (.iconst 4, 1) := by decide +kernel
theorem dX6_init_15 : decode cX6_init 15 = .ok (.newarray .int, 2) := by decide +kernel
theorem dX6_init_17 : decode cX6_init 17 = .ok (.putfield 13, 3) := by decide +kernel
theorem dX6_init_20 : decode cX6_init 20 = .ok (.aload_n 0, 1) := by decide +kernel
theorem dX6_init_21 : decode cX6_init 21 = .ok (.sipush 1296, 3) := by decide +kernel
theorem dX6_init_24 : decode cX6_init 24 = .ok (.newarray .int, 2) := by decide +kernel
theorem dX6_init_26 : decode cX6_init 26 = .ok (.putfield 16, 3) := by decide +kernel
theorem dX6_init_29 : decode cX6_init 29 = .ok (.aload_n 0, 1) := by decide +kernel
theorem dX6_init_30 : decode cX6_init 30 = .ok (.sipush 1296, 3) := by decide +kernel
theorem dX6_init_33 : decode cX6_init 33 = .ok (.newarray .boolean, 2) := by decide +kernel
theorem dX6_init_35 : decode cX6_init 35 = .ok (.putfield 19, 3) := by decide +kernel
theorem dX6_init_38 : decode cX6_init 38 = .ok (.aload_n 0, 1) := by decide +kernel
theorem dX6_init_39 : decode cX6_init 39 = .ok (.sipush 1296, 3) := by decide +kernel
theorem dX6_init_42 : decode cX6_init 42 = .ok (.newarray .boolean, 2) := by decide +kernel
theorem dX6_init_44 : decode cX6_init 44 = .ok (.putfield 23, 3) := by decide +kernel
theorem dX6_init_47 : decode cX6_init 47 = .ok (.aload_n 0, 1) := by decide +kernel
theorem dX6_init_48 : decode cX6_init 48 = .ok (.sipush 1296, 3) := by decide +kernel
theorem dX6_init_51 : decode cX6_init 51 = .ok (.newarray .int, 2) := by decide +kernel
theorem dX6_init_53 : decode cX6_init 53 = .ok (.putfield 26, 3) := by decide +kernel
theorem dX6_init_56 : decode cX6_init 56 = .ok (.aload_n 0, 1) := by decide +kernel
theorem dX6_init_57 : decode cX6_init 57 = .ok (.sipush 1296, 3) := by decide +kernel
theorem dX6_init_60 : decode cX6_init 60 = .ok (.newarray .long, 2) := by decide +kernel
theorem dX6_init_62 : decode cX6_init 62 = .ok (.putfield 29, 3) := by decide +kernel
theorem dX6_init_65 : decode cX6_init 65 = .ok (.aload_n 0, 1) := by decide +kernel
theorem dX6_init_66 : decode cX6_init 66 = .ok (.sipush 1296, 3) := by decide +kernel
theorem dX6_init_69 : decode cX6_init 69 = .ok (.newarray .int, 2) := by decide +kernel
theorem dX6_init_71 : decode cX6_init 71 = .ok (.putfield 33, 3) := by decide +kernel
theorem dX6_init_74 : decode cX6_init 74 = .ok (.aload_n 0, 1) := by decide +kernel
theorem dX6_init_75 : decode cX6_init 75 = .ok (.iconst (-1), 1) := by decide +kernel
theorem dX6_init_76 : decode cX6_init 76 = .ok (.putfield 36, 3) := by decide +kernel
theorem dX6_init_79 : decode cX6_init 79 = .ok (.aload_n 0, 1) := by decide +kernel
theorem dX6_init_80 : decode cX6_init 80 = .ok (.sipush 300, 3) := by decide +kernel
theorem dX6_init_83 : decode cX6_init 83 = .ok (.newarray .int, 2) := by decide +kernel
theorem dX6_init_85 : decode cX6_init 85 = .ok (.putfield 40, 3) := by decide +kernel
theorem dX6_init_88 : decode cX6_init 88 = .ok (.aload_n 0, 1) := by decide +kernel
theorem dX6_init_89 : decode cX6_init 89 = .ok (.sipush 300, 3) := by decide +kernel
theorem dX6_init_92 : decode cX6_init 92 = .ok (.newarray .int, 2) := by decide +kernel
theorem dX6_init_94 : decode cX6_init 94 = .ok (.putfield 43, 3) := by decide +kernel
theorem dX6_init_97 : decode cX6_init 97 = .ok (.aload_n 0, 1) := by decide +kernel
theorem dX6_init_98 : decode cX6_init 98 = .ok (.bipush 60, 2) := by decide +kernel
theorem dX6_init_100 : decode cX6_init 100 = .ok (.newarray .int, 2) := by decide +kernel
theorem dX6_init_102 : decode cX6_init 102 = .ok (.putfield 46, 3) := by decide +kernel
theorem dX6_init_105 : decode cX6_init 105 = .ok (.aload_n 0, 1) := by decide +kernel
theorem dX6_init_106 : decode cX6_init 106 = .ok (.bipush 60, 2) := by decide +kernel
theorem dX6_init_108 : decode cX6_init 108 = .ok (.newarray .boolean, 2) := by decide +kernel
theorem dX6_init_110 : decode cX6_init 110 = .ok (.putfield 49, 3) := by decide +kernel
theorem dX6_init_113 : decode cX6_init 113 = .ok (.iconst 0, 1) := by decide +kernel
theorem dX6_init_114 : decode cX6_init 114 = .ok (.istore_n 1, 1) := by decide +kernel
theorem dX6_init_115 : decode cX6_init 115 = .ok (.iload_n 1, 1) := by decide +kernel
theorem dX6_init_116 : decode cX6_init 116 = .ok (.sipush 1296, 3) := by decide +kernel
theorem dX6_init_119 : decode cX6_init 119 = .ok (.if_icmp .ge 20, 3) := by decide +kernel
theorem dX6_init_122 : decode cX6_init 122 = .ok (.aload_n 0, 1) := by decide +kernel
theorem dX6_init_123 : decode cX6_init 123 = .ok (.getfield 7, 3) := by decide +kernel
theorem dX6_init_126 : decode cX6_init 126 = .ok (.iload_n 1, 1) := by decide +kernel
theorem dX6_init_127 : decode cX6_init 127 = .ok (.aload_n 0, 1) := by decide +kernel
theorem dX6_init_128 : decode cX6_init 128 = .ok (.iload_n 1, 1) := by decide +kernel
theorem dX6_init_129 : decode cX6_init 129 = .ok (.invokevirtual 52, 3) := by decide +kernel
theorem dX6_init_132 : decode cX6_init 132 = .ok (.iastore, 1) := by decide +kernel
theorem dX6_init_133 : decode cX6_init 133 = .ok (.iinc 1 1, 3) := by decide +kernel
theorem dX6_init_136 : decode cX6_init 136 = .ok (.goto (-21), 3) := by decide +kernel
theorem dX6_init_139 : decode cX6_init 139 = .ok (.return_, 1) := by decide +kernel
theorem dX6_thrown_0 : decode cX6_thrown 0 = .ok (.aload_n 0, 1) := by decide +kernel
theorem dX6_thrown_1 : decode cX6_thrown 1 = .ok (.getfield 56, 3) := by decide +kernel
theorem dX6_thrown_4 : decode cX6_thrown 4 = .ok (.ireturn, 1) := by decide +kernel
theorem dX6_goes_0 : decode cX6_goes 0 = .ok (.aload_n 0, 1) := by decide +kernel
theorem dX6_goes_1 : decode cX6_goes 1 = .ok (.iload_n 1, 1) := by decide +kernel
theorem dX6_goes_2 : decode cX6_goes 2 = .ok (.putfield 56, 3) := by decide +kernel
theorem dX6_goes_5 : decode cX6_goes 5 = .ok (.iload_n 1, 1) := by decide +kernel
theorem dX6_goes_6 : decode cX6_goes 6 = .ok (.ifCond .ne 7, 3) := by decide +kernel
theorem dX6_goes_9 : decode cX6_goes 9 = .ok (.iconst 1, 1) := by decide +kernel
theorem dX6_goes_10 : decode cX6_goes 10 = .ok (.goto 4, 3) := by decide +kernel
theorem dX6_goes_13 : decode cX6_goes 13 = .ok (.iconst 0, 1) := by decide +kernel
theorem dX6_goes_14 : decode cX6_goes 14 = .ok (.ireturn, 1) := by decide +kernel
theorem dX6_isCode_0 : decode cX6_isCode 0 = .ok (.iload_n 0, 1) := by decide +kernel
theorem dX6_isCode_1 : decode cX6_isCode 1 = .ok (.ifCond .lt 14, 3) := by decide +kernel
theorem dX6_isCode_4 : decode cX6_isCode 4 = .ok (.iload_n 0, 1) := by decide +kernel
theorem dX6_isCode_5 : decode cX6_isCode 5 = .ok (.sipush 1296, 3) := by decide +kernel
theorem dX6_isCode_8 : decode cX6_isCode 8 = .ok (.if_icmp .ge 7, 3) := by decide +kernel
theorem dX6_isCode_11 : decode cX6_isCode 11 = .ok (.iconst 1, 1) := by decide +kernel
theorem dX6_isCode_12 : decode cX6_isCode 12 = .ok (.goto 4, 3) := by decide +kernel
theorem dX6_isCode_15 : decode cX6_isCode 15 = .ok (.iconst 0, 1) := by decide +kernel
theorem dX6_isCode_16 : decode cX6_isCode 16 = .ok (.ireturn, 1) := by decide +kernel
theorem dX6_fits_0 : decode cX6_fits 0 = .ok (.iload_n 0, 1) := by decide +kernel
theorem dX6_fits_1 : decode cX6_fits 1 = .ok (.iconst 1, 1) := by decide +kernel
theorem dX6_fits_2 : decode cX6_fits 2 = .ok (.if_icmp .ne 19, 3) := by decide +kernel
theorem dX6_fits_5 : decode cX6_fits 5 = .ok (.iload_n 1, 1) := by decide +kernel
theorem dX6_fits_6 : decode cX6_fits 6 = .ok (.ifCond .ne 11, 3) := by decide +kernel
theorem dX6_fits_9 : decode cX6_fits 9 = .ok (.iload_n 2, 1) := by decide +kernel
theorem dX6_fits_10 : decode cX6_fits 10 = .ok (.ifCond .le 7, 3) := by decide +kernel
theorem dX6_fits_13 : decode cX6_fits 13 = .ok (.iconst 1, 1) := by decide +kernel
theorem dX6_fits_14 : decode cX6_fits 14 = .ok (.goto 68, 3) := by decide +kernel
theorem dX6_fits_17 : decode cX6_fits 17 = .ok (.iconst 0, 1) := by decide +kernel
theorem dX6_fits_18 : decode cX6_fits 18 = .ok (.goto 64, 3) := by decide +kernel
theorem dX6_fits_21 : decode cX6_fits 21 = .ok (.iload_n 0, 1) := by decide +kernel
theorem dX6_fits_22 : decode cX6_fits 22 = .ok (.iconst 2, 1) := by decide +kernel
theorem dX6_fits_23 : decode cX6_fits 23 = .ok (.if_icmp .ne 21, 3) := by decide +kernel
theorem dX6_fits_26 : decode cX6_fits 26 = .ok (.iload_n 1, 1) := by decide +kernel
theorem dX6_fits_27 : decode cX6_fits 27 = .ok (.iconst 5, 1) := by decide +kernel
theorem dX6_fits_28 : decode cX6_fits 28 = .ok (.if_icmp .ne 12, 3) := by decide +kernel
theorem dX6_fits_31 : decode cX6_fits 31 = .ok (.iload_n 2, 1) := by decide +kernel
theorem dX6_fits_32 : decode cX6_fits 32 = .ok (.iconst 4, 1) := by decide +kernel
theorem dX6_fits_33 : decode cX6_fits 33 = .ok (.if_icmp .ne 7, 3) := by decide +kernel
theorem dX6_fits_36 : decode cX6_fits 36 = .ok (.iconst 1, 1) := by decide +kernel
theorem dX6_fits_37 : decode cX6_fits 37 = .ok (.goto 45, 3) := by decide +kernel
theorem dX6_fits_40 : decode cX6_fits 40 = .ok (.iconst 0, 1) := by decide +kernel
theorem dX6_fits_41 : decode cX6_fits 41 = .ok (.goto 41, 3) := by decide +kernel
theorem dX6_fits_44 : decode cX6_fits 44 = .ok (.iload_n 0, 1) := by decide +kernel
theorem dX6_fits_45 : decode cX6_fits 45 = .ok (.iconst 3, 1) := by decide +kernel
theorem dX6_fits_46 : decode cX6_fits 46 = .ok (.if_icmp .ne 21, 3) := by decide +kernel
theorem dX6_fits_49 : decode cX6_fits 49 = .ok (.iload_n 1, 1) := by decide +kernel
theorem dX6_fits_50 : decode cX6_fits 50 = .ok (.iconst 3, 1) := by decide +kernel
theorem dX6_fits_51 : decode cX6_fits 51 = .ok (.if_icmp .ne 12, 3) := by decide +kernel
theorem dX6_fits_54 : decode cX6_fits 54 = .ok (.iload_n 2, 1) := by decide +kernel
theorem dX6_fits_55 : decode cX6_fits 55 = .ok (.iconst 3, 1) := by decide +kernel
theorem dX6_fits_56 : decode cX6_fits 56 = .ok (.if_icmp .ne 7, 3) := by decide +kernel
theorem dX6_fits_59 : decode cX6_fits 59 = .ok (.iconst 1, 1) := by decide +kernel
theorem dX6_fits_60 : decode cX6_fits 60 = .ok (.goto 22, 3) := by decide +kernel
theorem dX6_fits_63 : decode cX6_fits 63 = .ok (.iconst 0, 1) := by decide +kernel
theorem dX6_fits_64 : decode cX6_fits 64 = .ok (.goto 18, 3) := by decide +kernel
theorem dX6_fits_67 : decode cX6_fits 67 = .ok (.iload_n 1, 1) := by decide +kernel
theorem dX6_fits_68 : decode cX6_fits 68 = .ok (.iconst 2, 1) := by decide +kernel
theorem dX6_fits_69 : decode cX6_fits 69 = .ok (.if_icmp .ne 12, 3) := by decide +kernel
theorem dX6_fits_72 : decode cX6_fits 72 = .ok (.iload_n 2, 1) := by decide +kernel
theorem dX6_fits_73 : decode cX6_fits 73 = .ok (.iconst 1, 1) := by decide +kernel
theorem dX6_fits_74 : decode cX6_fits 74 = .ok (.if_icmp .ne 7, 3) := by decide +kernel
theorem dX6_fits_77 : decode cX6_fits 77 = .ok (.iconst 1, 1) := by decide +kernel
theorem dX6_fits_78 : decode cX6_fits 78 = .ok (.goto 4, 3) := by decide +kernel
theorem dX6_fits_81 : decode cX6_fits 81 = .ok (.iconst 0, 1) := by decide +kernel
theorem dX6_fits_82 : decode cX6_fits 82 = .ok (.ireturn, 1) := by decide +kernel
set_option maxRecDepth 20000 in
theorem ggX6_uses_X6_fits : GoodIn wsX6_uses wsX6_fits := goodIn_r _ [5] (by decide +kernel) (by decide +kernel)
set_option maxRecDepth 20000 in
theorem gX6_uses_X6_fits : GoodIn wsX6_uses (va_wsS RX6 59 yX6_fits wsX6_fits) := goodIn_app (goodIn_of _ (by decide +kernel)) ggX6_uses_X6_fits
theorem dX6_uses_0 : decode cX6_uses 0 = .ok (.iconst 0, 1) := by decide +kernel
theorem dX6_uses_1 : decode cX6_uses 1 = .ok (.istore_n 1, 1) := by decide +kernel
theorem dX6_uses_2 : decode cX6_uses 2 = .ok (.iload_n 1, 1) := by decide +kernel
theorem dX6_uses_3 : decode cX6_uses 3 = .ok (.bipush 12, 2) := by decide +kernel
theorem dX6_uses_5 : decode cX6_uses 5 = .ok (.if_icmp .ge 106, 3) := by decide +kernel
theorem dX6_uses_8 : decode cX6_uses 8 = .ok (.iconst 1, 1) := by decide +kernel
theorem dX6_uses_9 : decode cX6_uses 9 = .ok (.iload_n 1, 1) := by decide +kernel
theorem dX6_uses_10 : decode cX6_uses 10 = .ok (.iconst 3, 1) := by decide +kernel
theorem dX6_uses_11 : decode cX6_uses 11 = .ok (.idiv, 1) := by decide +kernel
theorem dX6_uses_12 : decode cX6_uses 12 = .ok (.iadd, 1) := by decide +kernel
theorem dX6_uses_13 : decode cX6_uses 13 = .ok (.istore_n 2, 1) := by decide +kernel
theorem dX6_uses_14 : decode cX6_uses 14 = .ok (.iload_n 1, 1) := by decide +kernel
theorem dX6_uses_15 : decode cX6_uses 15 = .ok (.iconst 3, 1) := by decide +kernel
theorem dX6_uses_16 : decode cX6_uses 16 = .ok (.irem, 1) := by decide +kernel
theorem dX6_uses_17 : decode cX6_uses 17 = .ok (.istore_n 3, 1) := by decide +kernel
theorem dX6_uses_18 : decode cX6_uses 18 = .ok (.iload_n 2, 1) := by decide +kernel
theorem dX6_uses_19 : decode cX6_uses 19 = .ok (.aload_n 0, 1) := by decide +kernel
theorem dX6_uses_20 : decode cX6_uses 20 = .ok (.getfield 13, 3) := by decide +kernel
theorem dX6_uses_23 : decode cX6_uses 23 = .ok (.iload_n 3, 1) := by decide +kernel
theorem dX6_uses_24 : decode cX6_uses 24 = .ok (.iaload, 1) := by decide +kernel
theorem dX6_uses_25 : decode cX6_uses 25 = .ok (.aload_n 0, 1) := by decide +kernel
theorem dX6_uses_26 : decode cX6_uses 26 = .ok (.getfield 13, 3) := by decide +kernel
theorem dX6_uses_29 : decode cX6_uses 29 = .ok (.iload_n 3, 1) := by decide +kernel
theorem dX6_uses_30 : decode cX6_uses 30 = .ok (.iconst 1, 1) := by decide +kernel
theorem dX6_uses_31 : decode cX6_uses 31 = .ok (.iadd, 1) := by decide +kernel
theorem dX6_uses_32 : decode cX6_uses 32 = .ok (.iaload, 1) := by decide +kernel
theorem dX6_uses_33 : decode cX6_uses 33 = .ok (.invokestatic 59, 3) := by decide +kernel
theorem dX6_uses_36 : decode cX6_uses 36 = .ok (.ifCond .eq 69, 3) := by decide +kernel
theorem dX6_uses_39 : decode cX6_uses 39 = .ok (.aload_n 0, 1) := by decide +kernel
theorem dX6_uses_40 : decode cX6_uses 40 = .ok (.getfield 13, 3) := by decide +kernel
theorem dX6_uses_43 : decode cX6_uses 43 = .ok (.iload_n 3, 1) := by decide +kernel
theorem dX6_uses_44 : decode cX6_uses 44 = .ok (.iaload, 1) := by decide +kernel
theorem dX6_uses_45 : decode cX6_uses 45 = .ok (.istore 4, 2) := by decide +kernel
theorem dX6_uses_47 : decode cX6_uses 47 = .ok (.aload_n 0, 1) := by decide +kernel
theorem dX6_uses_48 : decode cX6_uses 48 = .ok (.getfield 13, 3) := by decide +kernel
theorem dX6_uses_51 : decode cX6_uses 51 = .ok (.iload_n 3, 1) := by decide +kernel
theorem dX6_uses_52 : decode cX6_uses 52 = .ok (.iconst 1, 1) := by decide +kernel
theorem dX6_uses_53 : decode cX6_uses 53 = .ok (.iadd, 1) := by decide +kernel
theorem dX6_uses_54 : decode cX6_uses 54 = .ok (.iaload, 1) := by decide +kernel
theorem dX6_uses_55 : decode cX6_uses 55 = .ok (.istore 5, 2) := by decide +kernel
theorem dX6_uses_57 : decode cX6_uses 57 = .ok (.aload_n 0, 1) := by decide +kernel
theorem dX6_uses_58 : decode cX6_uses 58 = .ok (.getfield 13, 3) := by decide +kernel
theorem dX6_uses_61 : decode cX6_uses 61 = .ok (.iload_n 3, 1) := by decide +kernel
theorem dX6_uses_62 : decode cX6_uses 62 = .ok (.iload_n 2, 1) := by decide +kernel
theorem dX6_uses_63 : decode cX6_uses 63 = .ok (.iconst 4, 1) := by decide +kernel
theorem dX6_uses_64 : decode cX6_uses 64 = .ok (.if_icmp .ne 7, 3) := by decide +kernel
theorem dX6_uses_67 : decode cX6_uses 67 = .ok (.iconst 0, 1) := by decide +kernel
theorem dX6_uses_68 : decode cX6_uses 68 = .ok (.goto 15, 3) := by decide +kernel
theorem dX6_uses_71 : decode cX6_uses 71 = .ok (.iload_n 2, 1) := by decide +kernel
theorem dX6_uses_72 : decode cX6_uses 72 = .ok (.iconst 3, 1) := by decide +kernel
theorem dX6_uses_73 : decode cX6_uses 73 = .ok (.if_icmp .ne 8, 3) := by decide +kernel
theorem dX6_uses_76 : decode cX6_uses 76 = .ok (.iload 4, 2) := by decide +kernel
theorem dX6_uses_78 : decode cX6_uses 78 = .ok (.goto 5, 3) := by decide +kernel
theorem dX6_uses_81 : decode cX6_uses 81 = .ok (.iload 5, 2) := by decide +kernel
theorem dX6_uses_83 : decode cX6_uses 83 = .ok (.iastore, 1) := by decide +kernel
theorem dX6_uses_84 : decode cX6_uses 84 = .ok (.aload_n 0, 1) := by decide +kernel
theorem dX6_uses_85 : decode cX6_uses 85 = .ok (.getfield 13, 3) := by decide +kernel
theorem dX6_uses_88 : decode cX6_uses 88 = .ok (.iload_n 3, 1) := by decide +kernel
theorem dX6_uses_89 : decode cX6_uses 89 = .ok (.iconst 1, 1) := by decide +kernel
theorem dX6_uses_90 : decode cX6_uses 90 = .ok (.iadd, 1) := by decide +kernel
theorem dX6_uses_91 : decode cX6_uses 91 = .ok (.iload_n 2, 1) := by decide +kernel
theorem dX6_uses_92 : decode cX6_uses 92 = .ok (.iconst 2, 1) := by decide +kernel
theorem dX6_uses_93 : decode cX6_uses 93 = .ok (.if_icmp .le 7, 3) := by decide +kernel
theorem dX6_uses_96 : decode cX6_uses 96 = .ok (.iconst 0, 1) := by decide +kernel
theorem dX6_uses_97 : decode cX6_uses 97 = .ok (.goto 5, 3) := by decide +kernel
theorem dX6_uses_100 : decode cX6_uses 100 = .ok (.iload 4, 2) := by decide +kernel
theorem dX6_uses_102 : decode cX6_uses 102 = .ok (.iastore, 1) := by decide +kernel
theorem dX6_uses_103 : decode cX6_uses 103 = .ok (.iconst 1, 1) := by decide +kernel
theorem dX6_uses_104 : decode cX6_uses 104 = .ok (.ireturn, 1) := by decide +kernel
theorem dX6_uses_105 : decode cX6_uses 105 = .ok (.iinc 1 1, 3) := by decide +kernel
theorem dX6_uses_108 : decode cX6_uses 108 = .ok (.goto (-106), 3) := by decide +kernel
theorem dX6_uses_111 : decode cX6_uses 111 = .ok (.iconst 0, 1) := by decide +kernel
theorem dX6_uses_112 : decode cX6_uses 112 = .ok (.ireturn, 1) := by decide +kernel
set_option maxRecDepth 20000 in
theorem ggX6_formed_X6_uses : GoodIn wsX6_formed wsX6_uses := goodIn_r _ [6, 1, 7, 8, 5, 9, 10, 11, 12, 13, 14, 15, 16, 17, 18, 19, 20, 21, 22, 23, 24, 25, 26, 27] (by decide +kernel) (by decide +kernel)
set_option maxRecDepth 20000 in
theorem gX6_formed_X6_uses : GoodIn wsX6_formed (wsV RX6 63 RX6 yX6_uses wsX6_uses) := goodIn_app (goodIn_of _ (by decide +kernel)) ggX6_formed_X6_uses
theorem dX6_formed_0 : decode cX6_formed 0 = .ok (.iload_n 1, 1) := by decide +kernel
theorem dX6_formed_1 : decode cX6_formed 1 = .ok (.istore_n 2, 1) := by decide +kernel
theorem dX6_formed_2 : decode cX6_formed 2 = .ok (.iconst 3, 1) := by decide +kernel
theorem dX6_formed_3 : decode cX6_formed 3 = .ok (.istore_n 3, 1) := by decide +kernel
theorem dX6_formed_4 : decode cX6_formed 4 = .ok (.iload_n 3, 1) := by decide +kernel
theorem dX6_formed_5 : decode cX6_formed 5 = .ok (.ifCond .lt 24, 3) := by decide +kernel
theorem dX6_formed_8 : decode cX6_formed 8 = .ok (.aload_n 0, 1) := by decide +kernel
theorem dX6_formed_9 : decode cX6_formed 9 = .ok (.getfield 13, 3) := by decide +kernel
theorem dX6_formed_12 : decode cX6_formed 12 = .ok (.iload_n 3, 1) := by decide +kernel
theorem dX6_formed_13 : decode cX6_formed 13 = .ok (.iload_n 2, 1) := by decide +kernel
theorem dX6_formed_14 : decode cX6_formed 14 = .ok (.bipush 6, 2) := by decide +kernel
theorem dX6_formed_16 : decode cX6_formed 16 = .ok (.irem, 1) := by decide +kernel
theorem dX6_formed_17 : decode cX6_formed 17 = .ok (.iastore, 1) := by decide +kernel
theorem dX6_formed_18 : decode cX6_formed 18 = .ok (.iload_n 2, 1) := by decide +kernel
theorem dX6_formed_19 : decode cX6_formed 19 = .ok (.bipush 6, 2) := by decide +kernel
theorem dX6_formed_21 : decode cX6_formed 21 = .ok (.idiv, 1) := by decide +kernel
theorem dX6_formed_22 : decode cX6_formed 22 = .ok (.istore_n 2, 1) := by decide +kernel
theorem dX6_formed_23 : decode cX6_formed 23 = .ok (.iinc 3 (-1), 3) := by decide +kernel
theorem dX6_formed_26 : decode cX6_formed 26 = .ok (.goto (-22), 3) := by decide +kernel
theorem dX6_formed_29 : decode cX6_formed 29 = .ok (.iconst 1, 1) := by decide +kernel
theorem dX6_formed_30 : decode cX6_formed 30 = .ok (.istore_n 3, 1) := by decide +kernel
theorem dX6_formed_31 : decode cX6_formed 31 = .ok (.iload_n 3, 1) := by decide +kernel
theorem dX6_formed_32 : decode cX6_formed 32 = .ok (.ifCond .eq 11, 3) := by decide +kernel
theorem dX6_formed_35 : decode cX6_formed 35 = .ok (.aload_n 0, 1) := by decide +kernel
theorem dX6_formed_36 : decode cX6_formed 36 = .ok (.invokevirtual 63, 3) := by decide +kernel
theorem dX6_formed_39 : decode cX6_formed 39 = .ok (.istore_n 3, 1) := by decide +kernel
theorem dX6_formed_40 : decode cX6_formed 40 = .ok (.goto (-9), 3) := by decide +kernel
theorem dX6_formed_43 : decode cX6_formed 43 = .ok (.aload_n 0, 1) := by decide +kernel
theorem dX6_formed_44 : decode cX6_formed 44 = .ok (.getfield 13, 3) := by decide +kernel
theorem dX6_formed_47 : decode cX6_formed 47 = .ok (.iconst 0, 1) := by decide +kernel
theorem dX6_formed_48 : decode cX6_formed 48 = .ok (.iaload, 1) := by decide +kernel
theorem dX6_formed_49 : decode cX6_formed 49 = .ok (.bipush 6, 2) := by decide +kernel
theorem dX6_formed_51 : decode cX6_formed 51 = .ok (.imul, 1) := by decide +kernel
theorem dX6_formed_52 : decode cX6_formed 52 = .ok (.aload_n 0, 1) := by decide +kernel
theorem dX6_formed_53 : decode cX6_formed 53 = .ok (.getfield 13, 3) := by decide +kernel
theorem dX6_formed_56 : decode cX6_formed 56 = .ok (.iconst 1, 1) := by decide +kernel
theorem dX6_formed_57 : decode cX6_formed 57 = .ok (.iaload, 1) := by decide +kernel
theorem dX6_formed_58 : decode cX6_formed 58 = .ok (.iadd, 1) := by decide +kernel
theorem dX6_formed_59 : decode cX6_formed 59 = .ok (.bipush 6, 2) := by decide +kernel
theorem dX6_formed_61 : decode cX6_formed 61 = .ok (.imul, 1) := by decide +kernel
theorem dX6_formed_62 : decode cX6_formed 62 = .ok (.aload_n 0, 1) := by decide +kernel
theorem dX6_formed_63 : decode cX6_formed 63 = .ok (.getfield 13, 3) := by decide +kernel
theorem dX6_formed_66 : decode cX6_formed 66 = .ok (.iconst 2, 1) := by decide +kernel
theorem dX6_formed_67 : decode cX6_formed 67 = .ok (.iaload, 1) := by decide +kernel
theorem dX6_formed_68 : decode cX6_formed 68 = .ok (.iadd, 1) := by decide +kernel
theorem dX6_formed_69 : decode cX6_formed 69 = .ok (.bipush 6, 2) := by decide +kernel
theorem dX6_formed_71 : decode cX6_formed 71 = .ok (.imul, 1) := by decide +kernel
theorem dX6_formed_72 : decode cX6_formed 72 = .ok (.aload_n 0, 1) := by decide +kernel
theorem dX6_formed_73 : decode cX6_formed 73 = .ok (.getfield 13, 3) := by decide +kernel
theorem dX6_formed_76 : decode cX6_formed 76 = .ok (.iconst 3, 1) := by decide +kernel
theorem dX6_formed_77 : decode cX6_formed 77 = .ok (.iaload, 1) := by decide +kernel
theorem dX6_formed_78 : decode cX6_formed 78 = .ok (.iadd, 1) := by decide +kernel
theorem dX6_formed_79 : decode cX6_formed 79 = .ok (.ireturn, 1) := by decide +kernel
theorem dX6_unit_0 : decode cX6_unit 0 = .ok (.iload_n 0, 1) := by decide +kernel
theorem dX6_unit_1 : decode cX6_unit 1 = .ok (.ifCond .ne 9, 3) := by decide +kernel
theorem dX6_unit_4 : decode cX6_unit 4 = .ok (.sipush 216, 3) := by decide +kernel
theorem dX6_unit_7 : decode cX6_unit 7 = .ok (.goto 24, 3) := by decide +kernel
theorem dX6_unit_10 : decode cX6_unit 10 = .ok (.iload_n 0, 1) := by decide +kernel
theorem dX6_unit_11 : decode cX6_unit 11 = .ok (.iconst 1, 1) := by decide +kernel
theorem dX6_unit_12 : decode cX6_unit 12 = .ok (.if_icmp .ne 8, 3) := by decide +kernel
theorem dX6_unit_15 : decode cX6_unit 15 = .ok (.bipush 36, 2) := by decide +kernel
theorem dX6_unit_17 : decode cX6_unit 17 = .ok (.goto 14, 3) := by decide +kernel
theorem dX6_unit_20 : decode cX6_unit 20 = .ok (.iload_n 0, 1) := by decide +kernel
theorem dX6_unit_21 : decode cX6_unit 21 = .ok (.iconst 2, 1) := by decide +kernel
theorem dX6_unit_22 : decode cX6_unit 22 = .ok (.if_icmp .ne 8, 3) := by decide +kernel
theorem dX6_unit_25 : decode cX6_unit 25 = .ok (.bipush 6, 2) := by decide +kernel
theorem dX6_unit_27 : decode cX6_unit 27 = .ok (.goto 4, 3) := by decide +kernel
theorem dX6_unit_30 : decode cX6_unit 30 = .ok (.iconst 1, 1) := by decide +kernel
theorem dX6_unit_31 : decode cX6_unit 31 = .ok (.ireturn, 1) := by decide +kernel
set_option maxRecDepth 20000 in
theorem ggX6_edited_X6_unit : GoodIn wsX6_edited wsX6_unit := goodIn_r _ [5] (by decide +kernel) (by decide +kernel)
set_option maxRecDepth 20000 in
theorem gX6_edited_X6_unit : GoodIn wsX6_edited (va_wsS RX6 67 yX6_unit wsX6_unit) := goodIn_app (goodIn_of _ (by decide +kernel)) ggX6_edited_X6_unit
theorem dX6_edited_0 : decode cX6_edited 0 = .ok (.iload_n 2, 1) := by decide +kernel
theorem dX6_edited_1 : decode cX6_edited 1 = .ok (.bipush 6, 2) := by decide +kernel
theorem dX6_edited_3 : decode cX6_edited 3 = .ok (.idiv, 1) := by decide +kernel
theorem dX6_edited_4 : decode cX6_edited 4 = .ok (.invokestatic 67, 3) := by decide +kernel
theorem dX6_edited_7 : decode cX6_edited 7 = .ok (.istore_n 3, 1) := by decide +kernel
theorem dX6_edited_8 : decode cX6_edited 8 = .ok (.iload_n 1, 1) := by decide +kernel
theorem dX6_edited_9 : decode cX6_edited 9 = .ok (.iload_n 3, 1) := by decide +kernel
theorem dX6_edited_10 : decode cX6_edited 10 = .ok (.idiv, 1) := by decide +kernel
theorem dX6_edited_11 : decode cX6_edited 11 = .ok (.bipush 6, 2) := by decide +kernel
theorem dX6_edited_13 : decode cX6_edited 13 = .ok (.irem, 1) := by decide +kernel
theorem dX6_edited_14 : decode cX6_edited 14 = .ok (.istore 4, 2) := by decide +kernel
theorem dX6_edited_16 : decode cX6_edited 16 = .ok (.aload_n 0, 1) := by decide +kernel
theorem dX6_edited_17 : decode cX6_edited 17 = .ok (.getfield 7, 3) := by decide +kernel
theorem dX6_edited_20 : decode cX6_edited 20 = .ok (.iload_n 1, 1) := by decide +kernel
theorem dX6_edited_21 : decode cX6_edited 21 = .ok (.iload_n 2, 1) := by decide +kernel
theorem dX6_edited_22 : decode cX6_edited 22 = .ok (.bipush 6, 2) := by decide +kernel
theorem dX6_edited_24 : decode cX6_edited 24 = .ok (.irem, 1) := by decide +kernel
theorem dX6_edited_25 : decode cX6_edited 25 = .ok (.iload 4, 2) := by decide +kernel
theorem dX6_edited_27 : decode cX6_edited 27 = .ok (.isub, 1) := by decide +kernel
theorem dX6_edited_28 : decode cX6_edited 28 = .ok (.iload_n 3, 1) := by decide +kernel
theorem dX6_edited_29 : decode cX6_edited 29 = .ok (.imul, 1) := by decide +kernel
theorem dX6_edited_30 : decode cX6_edited 30 = .ok (.iadd, 1) := by decide +kernel
theorem dX6_edited_31 : decode cX6_edited 31 = .ok (.iaload, 1) := by decide +kernel
theorem dX6_edited_32 : decode cX6_edited 32 = .ok (.ireturn, 1) := by decide +kernel
set_option maxRecDepth 20000 in
theorem ggX6_form_X6_isCode : GoodIn wsX6_form wsX6_isCode := goodIn_r _ [5] (by decide +kernel) (by decide +kernel)
set_option maxRecDepth 20000 in
theorem gX6_form_X6_isCode : GoodIn wsX6_form (va_wsS RX6 70 yX6_isCode wsX6_isCode) := goodIn_app (goodIn_of _ (by decide +kernel)) ggX6_form_X6_isCode
set_option maxRecDepth 20000 in
theorem ggX6_form_X6_goes : GoodIn wsX6_form wsX6_goes := goodIn_r _ [9, 10, 11, 12, 13, 14, 15, 16, 17, 18, 19, 20, 21, 22, 23, 24, 25, 26, 27, 28] (by decide +kernel) (by decide +kernel)
set_option maxRecDepth 20000 in
theorem gX6_form_X6_goes : GoodIn wsX6_form (wsV RX6 74 RX6 yX6_goes wsX6_goes) := goodIn_app (goodIn_of _ (by decide +kernel)) ggX6_form_X6_goes
theorem dX6_form_0 : decode cX6_form 0 = .ok (.aload_n 0, 1) := by decide +kernel
theorem dX6_form_1 : decode cX6_form 1 = .ok (.iload_n 1, 1) := by decide +kernel
theorem dX6_form_2 : decode cX6_form 2 = .ok (.invokestatic 70, 3) := by decide +kernel
theorem dX6_form_5 : decode cX6_form 5 = .ok (.ifCond .eq 7, 3) := by decide +kernel
theorem dX6_form_8 : decode cX6_form 8 = .ok (.iconst 0, 1) := by decide +kernel
theorem dX6_form_9 : decode cX6_form 9 = .ok (.goto 4, 3) := by decide +kernel
theorem dX6_form_12 : decode cX6_form 12 = .ok (.iconst 1, 1) := by decide +kernel
theorem dX6_form_13 : decode cX6_form 13 = .ok (.invokevirtual 74, 3) := by decide +kernel
theorem dX6_form_16 : decode cX6_form 16 = .ok (.ifCond .eq 12, 3) := by decide +kernel
theorem dX6_form_19 : decode cX6_form 19 = .ok (.aload_n 0, 1) := by decide +kernel
theorem dX6_form_20 : decode cX6_form 20 = .ok (.getfield 7, 3) := by decide +kernel
theorem dX6_form_23 : decode cX6_form 23 = .ok (.iload_n 1, 1) := by decide +kernel
theorem dX6_form_24 : decode cX6_form 24 = .ok (.iaload, 1) := by decide +kernel
theorem dX6_form_25 : decode cX6_form 25 = .ok (.goto 4, 3) := by decide +kernel
theorem dX6_form_28 : decode cX6_form 28 = .ok (.iconst 0, 1) := by decide +kernel
theorem dX6_form_29 : decode cX6_form 29 = .ok (.ireturn, 1) := by decide +kernel
set_option maxRecDepth 20000 in
theorem ggX6_edit_X6_isCode : GoodIn wsX6_edit wsX6_isCode := goodIn_r _ [5] (by decide +kernel) (by decide +kernel)
set_option maxRecDepth 20000 in
theorem gX6_edit_X6_isCode : GoodIn wsX6_edit (va_wsS RX6 70 yX6_isCode wsX6_isCode) := goodIn_app (goodIn_of _ (by decide +kernel)) ggX6_edit_X6_isCode
set_option maxRecDepth 20000 in
theorem ggX6_edit_X6_goes : GoodIn wsX6_edit wsX6_goes := goodIn_r _ [9, 10, 18, 19, 20, 21, 22, 23, 24, 25, 26, 27, 28, 29, 30, 31, 32, 33, 34, 35] (by decide +kernel) (by decide +kernel)
set_option maxRecDepth 20000 in
theorem gX6_edit_X6_goes : GoodIn wsX6_edit (wsV RX6 74 RX6 yX6_goes wsX6_goes) := goodIn_app (goodIn_of _ (by decide +kernel)) ggX6_edit_X6_goes
set_option maxRecDepth 20000 in
theorem ggX6_edit_X6_edited : GoodIn wsX6_edit wsX6_edited := goodIn_r _ [14, 1, 15, 16, 4, 17, 18, 19, 20, 21, 22, 23, 24, 25, 26, 27, 28, 29, 30, 31, 32, 33, 34, 35] (by decide +kernel) (by decide +kernel)
set_option maxRecDepth 20000 in
theorem gX6_edit_X6_edited : GoodIn wsX6_edit (wsV RX6 77 RX6 yX6_edited wsX6_edited) := goodIn_app (goodIn_of _ (by decide +kernel)) ggX6_edit_X6_edited
theorem dX6_edit_0 : decode cX6_edit 0 = .ok (.iload_n 2, 1) := by decide +kernel
theorem dX6_edit_1 : decode cX6_edit 1 = .ok (.ifCond .lt 12, 3) := by decide +kernel
theorem dX6_edit_4 : decode cX6_edit 4 = .ok (.iload_n 2, 1) := by decide +kernel
theorem dX6_edit_5 : decode cX6_edit 5 = .ok (.iconst 4, 1) := by decide +kernel
theorem dX6_edit_6 : decode cX6_edit 6 = .ok (.if_icmp .ge 7, 3) := by decide +kernel
theorem dX6_edit_9 : decode cX6_edit 9 = .ok (.iconst 1, 1) := by decide +kernel
theorem dX6_edit_10 : decode cX6_edit 10 = .ok (.goto 4, 3) := by decide +kernel
theorem dX6_edit_13 : decode cX6_edit 13 = .ok (.iconst 0, 1) := by decide +kernel
theorem dX6_edit_14 : decode cX6_edit 14 = .ok (.istore 4, 2) := by decide +kernel
theorem dX6_edit_16 : decode cX6_edit 16 = .ok (.iload_n 3, 1) := by decide +kernel
theorem dX6_edit_17 : decode cX6_edit 17 = .ok (.ifCond .lt 13, 3) := by decide +kernel
theorem dX6_edit_20 : decode cX6_edit 20 = .ok (.iload_n 3, 1) := by decide +kernel
theorem dX6_edit_21 : decode cX6_edit 21 = .ok (.bipush 6, 2) := by decide +kernel
theorem dX6_edit_23 : decode cX6_edit 23 = .ok (.if_icmp .ge 7, 3) := by decide +kernel
theorem dX6_edit_26 : decode cX6_edit 26 = .ok (.iconst 1, 1) := by decide +kernel
theorem dX6_edit_27 : decode cX6_edit 27 = .ok (.goto 4, 3) := by decide +kernel
theorem dX6_edit_30 : decode cX6_edit 30 = .ok (.iconst 0, 1) := by decide +kernel
theorem dX6_edit_31 : decode cX6_edit 31 = .ok (.istore 5, 2) := by decide +kernel
theorem dX6_edit_33 : decode cX6_edit 33 = .ok (.aload_n 0, 1) := by decide +kernel
theorem dX6_edit_34 : decode cX6_edit 34 = .ok (.iload_n 1, 1) := by decide +kernel
theorem dX6_edit_35 : decode cX6_edit 35 = .ok (.invokestatic 70, 3) := by decide +kernel
theorem dX6_edit_38 : decode cX6_edit 38 = .ok (.ifCond .eq 8, 3) := by decide +kernel
theorem dX6_edit_41 : decode cX6_edit 41 = .ok (.iload 4, 2) := by decide +kernel
theorem dX6_edit_43 : decode cX6_edit 43 = .ok (.ifCond .ne 7, 3) := by decide +kernel
theorem dX6_edit_46 : decode cX6_edit 46 = .ok (.iconst 1, 1) := by decide +kernel
theorem dX6_edit_47 : decode cX6_edit 47 = .ok (.goto 13, 3) := by decide +kernel
theorem dX6_edit_50 : decode cX6_edit 50 = .ok (.iload 5, 2) := by decide +kernel
theorem dX6_edit_52 : decode cX6_edit 52 = .ok (.ifCond .eq 7, 3) := by decide +kernel
theorem dX6_edit_55 : decode cX6_edit 55 = .ok (.iconst 0, 1) := by decide +kernel
theorem dX6_edit_56 : decode cX6_edit 56 = .ok (.goto 4, 3) := by decide +kernel
theorem dX6_edit_59 : decode cX6_edit 59 = .ok (.iconst 2, 1) := by decide +kernel
theorem dX6_edit_60 : decode cX6_edit 60 = .ok (.invokevirtual 74, 3) := by decide +kernel
theorem dX6_edit_63 : decode cX6_edit 63 = .ok (.ifCond .eq 22, 3) := by decide +kernel
theorem dX6_edit_66 : decode cX6_edit 66 = .ok (.aload_n 0, 1) := by decide +kernel
theorem dX6_edit_67 : decode cX6_edit 67 = .ok (.aload_n 0, 1) := by decide +kernel
theorem dX6_edit_68 : decode cX6_edit 68 = .ok (.getfield 7, 3) := by decide +kernel
theorem dX6_edit_71 : decode cX6_edit 71 = .ok (.iload_n 1, 1) := by decide +kernel
theorem dX6_edit_72 : decode cX6_edit 72 = .ok (.iaload, 1) := by decide +kernel
theorem dX6_edit_73 : decode cX6_edit 73 = .ok (.bipush 6, 2) := by decide +kernel
theorem dX6_edit_75 : decode cX6_edit 75 = .ok (.iload_n 2, 1) := by decide +kernel
theorem dX6_edit_76 : decode cX6_edit 76 = .ok (.imul, 1) := by decide +kernel
theorem dX6_edit_77 : decode cX6_edit 77 = .ok (.iload_n 3, 1) := by decide +kernel
theorem dX6_edit_78 : decode cX6_edit 78 = .ok (.iadd, 1) := by decide +kernel
theorem dX6_edit_79 : decode cX6_edit 79 = .ok (.invokevirtual 77, 3) := by decide +kernel
theorem dX6_edit_82 : decode cX6_edit 82 = .ok (.goto 4, 3) := by decide +kernel
theorem dX6_edit_85 : decode cX6_edit 85 = .ok (.iconst 0, 1) := by decide +kernel
theorem dX6_edit_86 : decode cX6_edit 86 = .ok (.ireturn, 1) := by decide +kernel
set_option maxRecDepth 20000 in
theorem ggX6_neighbours_X6_isCode : GoodIn wsX6_neighbours wsX6_isCode := goodIn_r _ [5] (by decide +kernel) (by decide +kernel)
set_option maxRecDepth 20000 in
theorem gX6_neighbours_X6_isCode : GoodIn wsX6_neighbours (va_wsS RX6 70 yX6_isCode wsX6_isCode) := goodIn_app (goodIn_of _ (by decide +kernel)) ggX6_neighbours_X6_isCode
set_option maxRecDepth 20000 in
theorem ggX6_neighbours_X6_goes : GoodIn wsX6_neighbours wsX6_goes := goodIn_r _ [9, 10, 18, 19, 20, 21, 22, 23, 24, 25, 26, 27, 28, 29, 30, 31, 32, 33, 34, 35] (by decide +kernel) (by decide +kernel)
set_option maxRecDepth 20000 in
theorem gX6_neighbours_X6_goes : GoodIn wsX6_neighbours (wsV RX6 74 RX6 yX6_goes wsX6_goes) := goodIn_app (goodIn_of _ (by decide +kernel)) ggX6_neighbours_X6_goes
set_option maxRecDepth 20000 in
theorem ggX6_neighbours_X6_edited : GoodIn wsX6_neighbours wsX6_edited := goodIn_r _ [14, 1, 15, 16, 4, 17, 18, 19, 20, 21, 22, 23, 24, 25, 26, 27, 28, 29, 30, 31, 32, 33, 34, 35] (by decide +kernel) (by decide +kernel)
set_option maxRecDepth 20000 in
theorem gX6_neighbours_X6_edited : GoodIn wsX6_neighbours (wsV RX6 77 RX6 yX6_edited wsX6_edited) := goodIn_app (goodIn_of _ (by decide +kernel)) ggX6_neighbours_X6_edited
theorem dX6_neighbours_0 : decode cX6_neighbours 0 = .ok (.aload_n 0, 1) := by decide +kernel
theorem dX6_neighbours_1 : decode cX6_neighbours 1 = .ok (.iload_n 1, 1) := by decide +kernel
theorem dX6_neighbours_2 : decode cX6_neighbours 2 = .ok (.invokestatic 70, 3) := by decide +kernel
theorem dX6_neighbours_5 : decode cX6_neighbours 5 = .ok (.ifCond .eq 7, 3) := by decide +kernel
theorem dX6_neighbours_8 : decode cX6_neighbours 8 = .ok (.iconst 0, 1) := by decide +kernel
theorem dX6_neighbours_9 : decode cX6_neighbours 9 = .ok (.goto 4, 3) := by decide +kernel
theorem dX6_neighbours_12 : decode cX6_neighbours 12 = .ok (.iconst 1, 1) := by decide +kernel
theorem dX6_neighbours_13 : decode cX6_neighbours 13 = .ok (.invokevirtual 74, 3) := by decide +kernel
theorem dX6_neighbours_16 : decode cX6_neighbours 16 = .ok (.ifCond .ne 5, 3) := by decide +kernel
theorem dX6_neighbours_19 : decode cX6_neighbours 19 = .ok (.iconst 0, 1) := by decide +kernel
theorem dX6_neighbours_20 : decode cX6_neighbours 20 = .ok (.ireturn, 1) := by decide +kernel
end
section
theorem dX6_neighbours_21 : decode cX6_neighbours 21 = .ok (.iconst 0, 1) := by decide +kernel
theorem dX6_neighbours_22 : decode cX6_neighbours 22 = .ok (.istore_n 2, 1) := by decide +kernel
theorem dX6_neighbours_23 : decode cX6_neighbours 23 = .ok (.iconst 0, 1) := by decide +kernel
theorem dX6_neighbours_24 : decode cX6_neighbours 24 = .ok (.istore_n 3, 1) := by decide +kernel
theorem dX6_neighbours_25 : decode cX6_neighbours 25 = .ok (.iload_n 3, 1) := by decide +kernel
theorem dX6_neighbours_26 : decode cX6_neighbours 26 = .ok (.bipush 24, 2) := by decide +kernel
theorem dX6_neighbours_28 : decode cX6_neighbours 28 = .ok (.if_icmp .ge 78, 3) := by decide +kernel
theorem dX6_neighbours_31 : decode cX6_neighbours 31 = .ok (.iconst 1, 1) := by decide +kernel
theorem dX6_neighbours_32 : decode cX6_neighbours 32 = .ok (.istore 4, 2) := by decide +kernel
theorem dX6_neighbours_34 : decode cX6_neighbours 34 = .ok (.iconst 0, 1) := by decide +kernel
theorem dX6_neighbours_35 : decode cX6_neighbours 35 = .ok (.istore 5, 2) := by decide +kernel
theorem dX6_neighbours_37 : decode cX6_neighbours 37 = .ok (.iload 5, 2) := by decide +kernel
theorem dX6_neighbours_39 : decode cX6_neighbours 39 = .ok (.iload_n 3, 1) := by decide +kernel
theorem dX6_neighbours_40 : decode cX6_neighbours 40 = .ok (.if_icmp .ge 47, 3) := by decide +kernel
theorem dX6_neighbours_43 : decode cX6_neighbours 43 = .ok (.iload 4, 2) := by decide +kernel
theorem dX6_neighbours_45 : decode cX6_neighbours 45 = .ok (.ifCond .eq 33, 3) := by decide +kernel
theorem dX6_neighbours_48 : decode cX6_neighbours 48 = .ok (.aload_n 0, 1) := by decide +kernel
theorem dX6_neighbours_49 : decode cX6_neighbours 49 = .ok (.aload_n 0, 1) := by decide +kernel
theorem dX6_neighbours_50 : decode cX6_neighbours 50 = .ok (.getfield 7, 3) := by decide +kernel
theorem dX6_neighbours_53 : decode cX6_neighbours 53 = .ok (.iload_n 1, 1) := by decide +kernel
theorem dX6_neighbours_54 : decode cX6_neighbours 54 = .ok (.iaload, 1) := by decide +kernel
theorem dX6_neighbours_55 : decode cX6_neighbours 55 = .ok (.iload 5, 2) := by decide +kernel
theorem dX6_neighbours_57 : decode cX6_neighbours 57 = .ok (.invokevirtual 77, 3) := by decide +kernel
theorem dX6_neighbours_60 : decode cX6_neighbours 60 = .ok (.aload_n 0, 1) := by decide +kernel
theorem dX6_neighbours_61 : decode cX6_neighbours 61 = .ok (.aload_n 0, 1) := by decide +kernel
theorem dX6_neighbours_62 : decode cX6_neighbours 62 = .ok (.getfield 7, 3) := by decide +kernel
theorem dX6_neighbours_65 : decode cX6_neighbours 65 = .ok (.iload_n 1, 1) := by decide +kernel
theorem dX6_neighbours_66 : decode cX6_neighbours 66 = .ok (.iaload, 1) := by decide +kernel
theorem dX6_neighbours_67 : decode cX6_neighbours 67 = .ok (.iload_n 3, 1) := by decide +kernel
theorem dX6_neighbours_68 : decode cX6_neighbours 68 = .ok (.invokevirtual 77, 3) := by decide +kernel
theorem dX6_neighbours_71 : decode cX6_neighbours 71 = .ok (.if_icmp .eq 7, 3) := by decide +kernel
theorem dX6_neighbours_74 : decode cX6_neighbours 74 = .ok (.iconst 1, 1) := by decide +kernel
theorem dX6_neighbours_75 : decode cX6_neighbours 75 = .ok (.goto 4, 3) := by decide +kernel
theorem dX6_neighbours_78 : decode cX6_neighbours 78 = .ok (.iconst 0, 1) := by decide +kernel
theorem dX6_neighbours_79 : decode cX6_neighbours 79 = .ok (.istore 4, 2) := by decide +kernel
theorem dX6_neighbours_81 : decode cX6_neighbours 81 = .ok (.iinc 5 1, 3) := by decide +kernel
theorem dX6_neighbours_84 : decode cX6_neighbours 84 = .ok (.goto (-47), 3) := by decide +kernel
theorem dX6_neighbours_87 : decode cX6_neighbours 87 = .ok (.iload_n 2, 1) := by decide +kernel
theorem dX6_neighbours_88 : decode cX6_neighbours 88 = .ok (.iload 4, 2) := by decide +kernel
theorem dX6_neighbours_90 : decode cX6_neighbours 90 = .ok (.ifCond .eq 7, 3) := by decide +kernel
theorem dX6_neighbours_93 : decode cX6_neighbours 93 = .ok (.iconst 1, 1) := by decide +kernel
theorem dX6_neighbours_94 : decode cX6_neighbours 94 = .ok (.goto 4, 3) := by decide +kernel
theorem dX6_neighbours_97 : decode cX6_neighbours 97 = .ok (.iconst 0, 1) := by decide +kernel
theorem dX6_neighbours_98 : decode cX6_neighbours 98 = .ok (.iadd, 1) := by decide +kernel
theorem dX6_neighbours_99 : decode cX6_neighbours 99 = .ok (.istore_n 2, 1) := by decide +kernel
theorem dX6_neighbours_100 : decode cX6_neighbours 100 = .ok (.iinc 3 1, 3) := by decide +kernel
theorem dX6_neighbours_103 : decode cX6_neighbours 103 = .ok (.goto (-78), 3) := by decide +kernel
theorem dX6_neighbours_106 : decode cX6_neighbours 106 = .ok (.iload_n 2, 1) := by decide +kernel
theorem dX6_neighbours_107 : decode cX6_neighbours 107 = .ok (.ireturn, 1) := by decide +kernel
set_option maxRecDepth 20000 in
theorem ggX6_goesOutward_X6_edited : GoodIn wsX6_goesOutward wsX6_edited := goodIn_r _ [6, 7, 8, 9, 5, 10, 11, 12, 13, 14, 15, 16, 17, 18, 19, 20, 21, 22, 23, 24, 25, 26, 27, 28] (by decide +kernel) (by decide +kernel)
set_option maxRecDepth 20000 in
theorem gX6_goesOutward_X6_edited : GoodIn wsX6_goesOutward (wsV RX6 77 RX6 yX6_edited wsX6_edited) := goodIn_app (goodIn_of _ (by decide +kernel)) ggX6_goesOutward_X6_edited
theorem dX6_goesOutward_0 : decode cX6_goesOutward 0 = .ok (.iconst 0, 1) := by decide +kernel
theorem dX6_goesOutward_1 : decode cX6_goesOutward 1 = .ok (.istore_n 2, 1) := by decide +kernel
theorem dX6_goesOutward_2 : decode cX6_goesOutward 2 = .ok (.iload_n 2, 1) := by decide +kernel
theorem dX6_goesOutward_3 : decode cX6_goesOutward 3 = .ok (.sipush 1296, 3) := by decide +kernel
theorem dX6_goesOutward_6 : decode cX6_goesOutward 6 = .ok (.if_icmp .ge 26, 3) := by decide +kernel
theorem dX6_goesOutward_9 : decode cX6_goesOutward 9 = .ok (.aload_n 0, 1) := by decide +kernel
theorem dX6_goesOutward_10 : decode cX6_goesOutward 10 = .ok (.getfield 16, 3) := by decide +kernel
theorem dX6_goesOutward_13 : decode cX6_goesOutward 13 = .ok (.iload_n 2, 1) := by decide +kernel
theorem dX6_goesOutward_14 : decode cX6_goesOutward 14 = .ok (.iload_n 2, 1) := by decide +kernel
theorem dX6_goesOutward_15 : decode cX6_goesOutward 15 = .ok (.iload_n 1, 1) := by decide +kernel
theorem dX6_goesOutward_16 : decode cX6_goesOutward 16 = .ok (.if_icmp .ne 7, 3) := by decide +kernel
theorem dX6_goesOutward_19 : decode cX6_goesOutward 19 = .ok (.iconst 0, 1) := by decide +kernel
theorem dX6_goesOutward_20 : decode cX6_goesOutward 20 = .ok (.goto 5, 3) := by decide +kernel
theorem dX6_goesOutward_23 : decode cX6_goesOutward 23 = .ok (.bipush 100, 2) := by decide +kernel
theorem dX6_goesOutward_25 : decode cX6_goesOutward 25 = .ok (.iastore, 1) := by decide +kernel
theorem dX6_goesOutward_26 : decode cX6_goesOutward 26 = .ok (.iinc 2 1, 3) := by decide +kernel
theorem dX6_goesOutward_29 : decode cX6_goesOutward 29 = .ok (.goto (-27), 3) := by decide +kernel
theorem dX6_goesOutward_32 : decode cX6_goesOutward 32 = .ok (.iconst 1, 1) := by decide +kernel
theorem dX6_goesOutward_33 : decode cX6_goesOutward 33 = .ok (.istore_n 2, 1) := by decide +kernel
theorem dX6_goesOutward_34 : decode cX6_goesOutward 34 = .ok (.iconst 0, 1) := by decide +kernel
theorem dX6_goesOutward_35 : decode cX6_goesOutward 35 = .ok (.istore_n 3, 1) := by decide +kernel
theorem dX6_goesOutward_36 : decode cX6_goesOutward 36 = .ok (.iload_n 2, 1) := by decide +kernel
theorem dX6_goesOutward_37 : decode cX6_goesOutward 37 = .ok (.ifCond .eq 119, 3) := by decide +kernel
theorem dX6_goesOutward_40 : decode cX6_goesOutward 40 = .ok (.iconst 0, 1) := by decide +kernel
theorem dX6_goesOutward_41 : decode cX6_goesOutward 41 = .ok (.istore_n 2, 1) := by decide +kernel
theorem dX6_goesOutward_42 : decode cX6_goesOutward 42 = .ok (.iconst 0, 1) := by decide +kernel
theorem dX6_goesOutward_43 : decode cX6_goesOutward 43 = .ok (.istore 4, 2) := by decide +kernel
theorem dX6_goesOutward_45 : decode cX6_goesOutward 45 = .ok (.iload 4, 2) := by decide +kernel
theorem dX6_goesOutward_47 : decode cX6_goesOutward 47 = .ok (.sipush 1296, 3) := by decide +kernel
theorem dX6_goesOutward_50 : decode cX6_goesOutward 50 = .ok (.if_icmp .ge 100, 3) := by decide +kernel
theorem dX6_goesOutward_53 : decode cX6_goesOutward 53 = .ok (.iconst 0, 1) := by decide +kernel
theorem dX6_goesOutward_54 : decode cX6_goesOutward 54 = .ok (.istore 5, 2) := by decide +kernel
theorem dX6_goesOutward_56 : decode cX6_goesOutward 56 = .ok (.iload 5, 2) := by decide +kernel
theorem dX6_goesOutward_58 : decode cX6_goesOutward 58 = .ok (.bipush 24, 2) := by decide +kernel
theorem dX6_goesOutward_60 : decode cX6_goesOutward 60 = .ok (.if_icmp .ge 84, 3) := by decide +kernel
theorem dX6_goesOutward_63 : decode cX6_goesOutward 63 = .ok (.aload_n 0, 1) := by decide +kernel
theorem dX6_goesOutward_64 : decode cX6_goesOutward 64 = .ok (.getfield 16, 3) := by decide +kernel
theorem dX6_goesOutward_67 : decode cX6_goesOutward 67 = .ok (.iload 4, 2) := by decide +kernel
theorem dX6_goesOutward_69 : decode cX6_goesOutward 69 = .ok (.iaload, 1) := by decide +kernel
theorem dX6_goesOutward_70 : decode cX6_goesOutward 70 = .ok (.iload_n 3, 1) := by decide +kernel
theorem dX6_goesOutward_71 : decode cX6_goesOutward 71 = .ok (.if_icmp .ne 73, 3) := by decide +kernel
theorem dX6_goesOutward_74 : decode cX6_goesOutward 74 = .ok (.aload_n 0, 1) := by decide +kernel
theorem dX6_goesOutward_75 : decode cX6_goesOutward 75 = .ok (.iload 4, 2) := by decide +kernel
theorem dX6_goesOutward_77 : decode cX6_goesOutward 77 = .ok (.iload 5, 2) := by decide +kernel
theorem dX6_goesOutward_79 : decode cX6_goesOutward 79 = .ok (.invokevirtual 77, 3) := by decide +kernel
theorem dX6_goesOutward_82 : decode cX6_goesOutward 82 = .ok (.istore 6, 2) := by decide +kernel
theorem dX6_goesOutward_84 : decode cX6_goesOutward 84 = .ok (.iload_n 2, 1) := by decide +kernel
theorem dX6_goesOutward_85 : decode cX6_goesOutward 85 = .ok (.ifCond .ne 15, 3) := by decide +kernel
theorem dX6_goesOutward_88 : decode cX6_goesOutward 88 = .ok (.aload_n 0, 1) := by decide +kernel
theorem dX6_goesOutward_89 : decode cX6_goesOutward 89 = .ok (.getfield 16, 3) := by decide +kernel
theorem dX6_goesOutward_92 : decode cX6_goesOutward 92 = .ok (.iload 6, 2) := by decide +kernel
theorem dX6_goesOutward_94 : decode cX6_goesOutward 94 = .ok (.iaload, 1) := by decide +kernel
theorem dX6_goesOutward_95 : decode cX6_goesOutward 95 = .ok (.bipush 100, 2) := by decide +kernel
theorem dX6_goesOutward_97 : decode cX6_goesOutward 97 = .ok (.if_icmp .ne 7, 3) := by decide +kernel
theorem dX6_goesOutward_100 : decode cX6_goesOutward 100 = .ok (.iconst 1, 1) := by decide +kernel
theorem dX6_goesOutward_101 : decode cX6_goesOutward 101 = .ok (.goto 4, 3) := by decide +kernel
theorem dX6_goesOutward_104 : decode cX6_goesOutward 104 = .ok (.iconst 0, 1) := by decide +kernel
theorem dX6_goesOutward_105 : decode cX6_goesOutward 105 = .ok (.istore_n 2, 1) := by decide +kernel
theorem dX6_goesOutward_106 : decode cX6_goesOutward 106 = .ok (.aload_n 0, 1) := by decide +kernel
theorem dX6_goesOutward_107 : decode cX6_goesOutward 107 = .ok (.getfield 16, 3) := by decide +kernel
theorem dX6_goesOutward_110 : decode cX6_goesOutward 110 = .ok (.iload 6, 2) := by decide +kernel
theorem dX6_goesOutward_112 : decode cX6_goesOutward 112 = .ok (.aload_n 0, 1) := by decide +kernel
theorem dX6_goesOutward_113 : decode cX6_goesOutward 113 = .ok (.getfield 16, 3) := by decide +kernel
theorem dX6_goesOutward_116 : decode cX6_goesOutward 116 = .ok (.iload 6, 2) := by decide +kernel
theorem dX6_goesOutward_118 : decode cX6_goesOutward 118 = .ok (.iaload, 1) := by decide +kernel
theorem dX6_goesOutward_119 : decode cX6_goesOutward 119 = .ok (.bipush 100, 2) := by decide +kernel
theorem dX6_goesOutward_121 : decode cX6_goesOutward 121 = .ok (.if_icmp .ne 9, 3) := by decide +kernel
theorem dX6_goesOutward_124 : decode cX6_goesOutward 124 = .ok (.iload_n 3, 1) := by decide +kernel
theorem dX6_goesOutward_125 : decode cX6_goesOutward 125 = .ok (.iconst 1, 1) := by decide +kernel
theorem dX6_goesOutward_126 : decode cX6_goesOutward 126 = .ok (.iadd, 1) := by decide +kernel
theorem dX6_goesOutward_127 : decode cX6_goesOutward 127 = .ok (.goto 10, 3) := by decide +kernel
theorem dX6_goesOutward_130 : decode cX6_goesOutward 130 = .ok (.aload_n 0, 1) := by decide +kernel
theorem dX6_goesOutward_131 : decode cX6_goesOutward 131 = .ok (.getfield 16, 3) := by decide +kernel
theorem dX6_goesOutward_134 : decode cX6_goesOutward 134 = .ok (.iload 6, 2) := by decide +kernel
theorem dX6_goesOutward_136 : decode cX6_goesOutward 136 = .ok (.iaload, 1) := by decide +kernel
theorem dX6_goesOutward_137 : decode cX6_goesOutward 137 = .ok (.iastore, 1) := by decide +kernel
theorem dX6_goesOutward_138 : decode cX6_goesOutward 138 = .ok (.iinc 5 1, 3) := by decide +kernel
theorem dX6_goesOutward_141 : decode cX6_goesOutward 141 = .ok (.goto (-85), 3) := by decide +kernel
theorem dX6_goesOutward_144 : decode cX6_goesOutward 144 = .ok (.iinc 4 1, 3) := by decide +kernel
theorem dX6_goesOutward_147 : decode cX6_goesOutward 147 = .ok (.goto (-102), 3) := by decide +kernel
theorem dX6_goesOutward_150 : decode cX6_goesOutward 150 = .ok (.iinc 3 1, 3) := by decide +kernel
theorem dX6_goesOutward_153 : decode cX6_goesOutward 153 = .ok (.goto (-117), 3) := by decide +kernel
theorem dX6_goesOutward_156 : decode cX6_goesOutward 156 = .ok (.return_, 1) := by decide +kernel
set_option maxRecDepth 20000 in
theorem ggX6_goesInward_X6_edited : GoodIn wsX6_goesInward wsX6_edited := goodIn_r _ [8, 3, 9, 10, 7, 11, 12, 13, 14, 15, 16, 17, 18, 19, 20, 21, 22, 23, 24, 25, 26, 27, 28, 29] (by decide +kernel) (by decide +kernel)
set_option maxRecDepth 20000 in
theorem gX6_goesInward_X6_edited : GoodIn wsX6_goesInward (wsV RX6 77 RX6 yX6_edited wsX6_edited) := goodIn_app (goodIn_of _ (by decide +kernel)) ggX6_goesInward_X6_edited
theorem dX6_goesInward_0 : decode cX6_goesInward 0 = .ok (.iconst 0, 1) := by decide +kernel
theorem dX6_goesInward_1 : decode cX6_goesInward 1 = .ok (.istore_n 2, 1) := by decide +kernel
theorem dX6_goesInward_2 : decode cX6_goesInward 2 = .ok (.iload_n 2, 1) := by decide +kernel
theorem dX6_goesInward_3 : decode cX6_goesInward 3 = .ok (.sipush 1296, 3) := by decide +kernel
theorem dX6_goesInward_6 : decode cX6_goesInward 6 = .ok (.if_icmp .ge 40, 3) := by decide +kernel
theorem dX6_goesInward_9 : decode cX6_goesInward 9 = .ok (.aload_n 0, 1) := by decide +kernel
theorem dX6_goesInward_10 : decode cX6_goesInward 10 = .ok (.getfield 16, 3) := by decide +kernel
theorem dX6_goesInward_13 : decode cX6_goesInward 13 = .ok (.iload_n 2, 1) := by decide +kernel
theorem dX6_goesInward_14 : decode cX6_goesInward 14 = .ok (.iload_n 2, 1) := by decide +kernel
theorem dX6_goesInward_15 : decode cX6_goesInward 15 = .ok (.iload_n 1, 1) := by decide +kernel
theorem dX6_goesInward_16 : decode cX6_goesInward 16 = .ok (.if_icmp .eq 17, 3) := by decide +kernel
theorem dX6_goesInward_19 : decode cX6_goesInward 19 = .ok (.iload_n 1, 1) := by decide +kernel
theorem dX6_goesInward_20 : decode cX6_goesInward 20 = .ok (.iconst (-1), 1) := by decide +kernel
theorem dX6_goesInward_21 : decode cX6_goesInward 21 = .ok (.if_icmp .ne 16, 3) := by decide +kernel
theorem dX6_goesInward_24 : decode cX6_goesInward 24 = .ok (.aload_n 0, 1) := by decide +kernel
theorem dX6_goesInward_25 : decode cX6_goesInward 25 = .ok (.getfield 23, 3) := by decide +kernel
theorem dX6_goesInward_28 : decode cX6_goesInward 28 = .ok (.iload_n 2, 1) := by decide +kernel
theorem dX6_goesInward_29 : decode cX6_goesInward 29 = .ok (.baload, 1) := by decide +kernel
theorem dX6_goesInward_30 : decode cX6_goesInward 30 = .ok (.ifCond .eq 7, 3) := by decide +kernel
theorem dX6_goesInward_33 : decode cX6_goesInward 33 = .ok (.iconst 0, 1) := by decide +kernel
theorem dX6_goesInward_34 : decode cX6_goesInward 34 = .ok (.goto 5, 3) := by decide +kernel
theorem dX6_goesInward_37 : decode cX6_goesInward 37 = .ok (.bipush 100, 2) := by decide +kernel
theorem dX6_goesInward_39 : decode cX6_goesInward 39 = .ok (.iastore, 1) := by decide +kernel
theorem dX6_goesInward_40 : decode cX6_goesInward 40 = .ok (.iinc 2 1, 3) := by decide +kernel
theorem dX6_goesInward_43 : decode cX6_goesInward 43 = .ok (.goto (-41), 3) := by decide +kernel
theorem dX6_goesInward_46 : decode cX6_goesInward 46 = .ok (.iconst 1, 1) := by decide +kernel
theorem dX6_goesInward_47 : decode cX6_goesInward 47 = .ok (.istore_n 2, 1) := by decide +kernel
theorem dX6_goesInward_48 : decode cX6_goesInward 48 = .ok (.iconst 0, 1) := by decide +kernel
theorem dX6_goesInward_49 : decode cX6_goesInward 49 = .ok (.istore_n 3, 1) := by decide +kernel
theorem dX6_goesInward_50 : decode cX6_goesInward 50 = .ok (.iload_n 2, 1) := by decide +kernel
theorem dX6_goesInward_51 : decode cX6_goesInward 51 = .ok (.ifCond .eq 112, 3) := by decide +kernel
theorem dX6_goesInward_54 : decode cX6_goesInward 54 = .ok (.iconst 0, 1) := by decide +kernel
theorem dX6_goesInward_55 : decode cX6_goesInward 55 = .ok (.istore_n 2, 1) := by decide +kernel
theorem dX6_goesInward_56 : decode cX6_goesInward 56 = .ok (.iconst 0, 1) := by decide +kernel
theorem dX6_goesInward_57 : decode cX6_goesInward 57 = .ok (.istore 4, 2) := by decide +kernel
theorem dX6_goesInward_59 : decode cX6_goesInward 59 = .ok (.iload 4, 2) := by decide +kernel
theorem dX6_goesInward_61 : decode cX6_goesInward 61 = .ok (.sipush 1296, 3) := by decide +kernel
theorem dX6_goesInward_64 : decode cX6_goesInward 64 = .ok (.if_icmp .ge 93, 3) := by decide +kernel
theorem dX6_goesInward_67 : decode cX6_goesInward 67 = .ok (.aload_n 0, 1) := by decide +kernel
theorem dX6_goesInward_68 : decode cX6_goesInward 68 = .ok (.getfield 16, 3) := by decide +kernel
theorem dX6_goesInward_71 : decode cX6_goesInward 71 = .ok (.iload 4, 2) := by decide +kernel
theorem dX6_goesInward_73 : decode cX6_goesInward 73 = .ok (.iaload, 1) := by decide +kernel
theorem dX6_goesInward_74 : decode cX6_goesInward 74 = .ok (.bipush 100, 2) := by decide +kernel
theorem dX6_goesInward_76 : decode cX6_goesInward 76 = .ok (.if_icmp .ne 19, 3) := by decide +kernel
theorem dX6_goesInward_79 : decode cX6_goesInward 79 = .ok (.aload_n 0, 1) := by decide +kernel
theorem dX6_goesInward_80 : decode cX6_goesInward 80 = .ok (.getfield 7, 3) := by decide +kernel
theorem dX6_goesInward_83 : decode cX6_goesInward 83 = .ok (.iload 4, 2) := by decide +kernel
theorem dX6_goesInward_85 : decode cX6_goesInward 85 = .ok (.iaload, 1) := by decide +kernel
theorem dX6_goesInward_86 : decode cX6_goesInward 86 = .ok (.iload 4, 2) := by decide +kernel
theorem dX6_goesInward_88 : decode cX6_goesInward 88 = .ok (.if_icmp .ne 7, 3) := by decide +kernel
theorem dX6_goesInward_91 : decode cX6_goesInward 91 = .ok (.iconst 1, 1) := by decide +kernel
theorem dX6_goesInward_92 : decode cX6_goesInward 92 = .ok (.goto 4, 3) := by decide +kernel
theorem dX6_goesInward_95 : decode cX6_goesInward 95 = .ok (.iconst 0, 1) := by decide +kernel
theorem dX6_goesInward_96 : decode cX6_goesInward 96 = .ok (.istore 5, 2) := by decide +kernel
theorem dX6_goesInward_98 : decode cX6_goesInward 98 = .ok (.iconst 0, 1) := by decide +kernel
theorem dX6_goesInward_99 : decode cX6_goesInward 99 = .ok (.istore 6, 2) := by decide +kernel
theorem dX6_goesInward_101 : decode cX6_goesInward 101 = .ok (.iload 6, 2) := by decide +kernel
theorem dX6_goesInward_103 : decode cX6_goesInward 103 = .ok (.bipush 24, 2) := by decide +kernel
theorem dX6_goesInward_105 : decode cX6_goesInward 105 = .ok (.if_icmp .ge 46, 3) := by decide +kernel
theorem dX6_goesInward_108 : decode cX6_goesInward 108 = .ok (.iload 5, 2) := by decide +kernel
theorem dX6_goesInward_110 : decode cX6_goesInward 110 = .ok (.ifCond .eq 41, 3) := by decide +kernel
theorem dX6_goesInward_113 : decode cX6_goesInward 113 = .ok (.aload_n 0, 1) := by decide +kernel
theorem dX6_goesInward_114 : decode cX6_goesInward 114 = .ok (.getfield 16, 3) := by decide +kernel
theorem dX6_goesInward_117 : decode cX6_goesInward 117 = .ok (.aload_n 0, 1) := by decide +kernel
theorem dX6_goesInward_118 : decode cX6_goesInward 118 = .ok (.iload 4, 2) := by decide +kernel
theorem dX6_goesInward_120 : decode cX6_goesInward 120 = .ok (.iload 6, 2) := by decide +kernel
theorem dX6_goesInward_122 : decode cX6_goesInward 122 = .ok (.invokevirtual 77, 3) := by decide +kernel
theorem dX6_goesInward_125 : decode cX6_goesInward 125 = .ok (.iaload, 1) := by decide +kernel
theorem dX6_goesInward_126 : decode cX6_goesInward 126 = .ok (.iload_n 3, 1) := by decide +kernel
theorem dX6_goesInward_127 : decode cX6_goesInward 127 = .ok (.if_icmp .ne 18, 3) := by decide +kernel
theorem dX6_goesInward_130 : decode cX6_goesInward 130 = .ok (.aload_n 0, 1) := by decide +kernel
theorem dX6_goesInward_131 : decode cX6_goesInward 131 = .ok (.getfield 16, 3) := by decide +kernel
theorem dX6_goesInward_134 : decode cX6_goesInward 134 = .ok (.iload 4, 2) := by decide +kernel
theorem dX6_goesInward_136 : decode cX6_goesInward 136 = .ok (.iload_n 3, 1) := by decide +kernel
theorem dX6_goesInward_137 : decode cX6_goesInward 137 = .ok (.iconst 1, 1) := by decide +kernel
theorem dX6_goesInward_138 : decode cX6_goesInward 138 = .ok (.iadd, 1) := by decide +kernel
theorem dX6_goesInward_139 : decode cX6_goesInward 139 = .ok (.iastore, 1) := by decide +kernel
theorem dX6_goesInward_140 : decode cX6_goesInward 140 = .ok (.iconst 0, 1) := by decide +kernel
theorem dX6_goesInward_141 : decode cX6_goesInward 141 = .ok (.istore 5, 2) := by decide +kernel
theorem dX6_goesInward_143 : decode cX6_goesInward 143 = .ok (.iconst 1, 1) := by decide +kernel
theorem dX6_goesInward_144 : decode cX6_goesInward 144 = .ok (.istore_n 2, 1) := by decide +kernel
theorem dX6_goesInward_145 : decode cX6_goesInward 145 = .ok (.iinc 6 1, 3) := by decide +kernel
theorem dX6_goesInward_148 : decode cX6_goesInward 148 = .ok (.goto (-47), 3) := by decide +kernel
theorem dX6_goesInward_151 : decode cX6_goesInward 151 = .ok (.iinc 4 1, 3) := by decide +kernel
theorem dX6_goesInward_154 : decode cX6_goesInward 154 = .ok (.goto (-95), 3) := by decide +kernel
theorem dX6_goesInward_157 : decode cX6_goesInward 157 = .ok (.iinc 3 1, 3) := by decide +kernel
theorem dX6_goesInward_160 : decode cX6_goesInward 160 = .ok (.goto (-110), 3) := by decide +kernel
theorem dX6_goesInward_163 : decode cX6_goesInward 163 = .ok (.return_, 1) := by decide +kernel
set_option maxRecDepth 20000 in
theorem ggX6_distance_X6_isCode : GoodIn wsX6_distance wsX6_isCode := goodIn_r _ [6] (by decide +kernel) (by decide +kernel)
set_option maxRecDepth 20000 in
theorem gX6_distance_X6_isCode : GoodIn wsX6_distance (va_wsS RX6 70 yX6_isCode wsX6_isCode) := goodIn_app (goodIn_of _ (by decide +kernel)) ggX6_distance_X6_isCode
set_option maxRecDepth 20000 in
theorem ggX6_distance_X6_goes : GoodIn wsX6_distance wsX6_goes := goodIn_r _ [10, 11, 23, 24, 25, 26, 27, 28, 29, 30, 31, 32, 33, 34, 35, 36, 37, 38, 39, 40] (by decide +kernel) (by decide +kernel)
set_option maxRecDepth 20000 in
theorem gX6_distance_X6_goes : GoodIn wsX6_distance (wsV RX6 74 RX6 yX6_goes wsX6_goes) := goodIn_app (goodIn_of _ (by decide +kernel)) ggX6_distance_X6_goes
set_option maxRecDepth 20000 in
theorem ggX6_distance_X6_goesOutward : GoodIn wsX6_distance wsX6_goesOutward := goodIn_r _ [15, 2, 16, 17, 18, 5, 19, 1, 20, 21, 22, 23, 24, 25, 26, 27, 28, 29, 30, 31, 32, 33, 34, 35, 36, 37, 38, 39, 40] (by decide +kernel) (by decide +kernel)
set_option maxRecDepth 20000 in
theorem gX6_distance_X6_goesOutward : GoodIn wsX6_distance (wsV RX6 81 RX6 yX6_goesOutward wsX6_goesOutward) := goodIn_app (goodIn_of _ (by decide +kernel)) ggX6_distance_X6_goesOutward
theorem dX6_distance_0 : decode cX6_distance 0 = .ok (.aload_n 0, 1) := by decide +kernel
theorem dX6_distance_1 : decode cX6_distance 1 = .ok (.iload_n 1, 1) := by decide +kernel
theorem dX6_distance_2 : decode cX6_distance 2 = .ok (.invokestatic 70, 3) := by decide +kernel
theorem dX6_distance_5 : decode cX6_distance 5 = .ok (.ifCond .eq 14, 3) := by decide +kernel
theorem dX6_distance_8 : decode cX6_distance 8 = .ok (.iload_n 2, 1) := by decide +kernel
theorem dX6_distance_9 : decode cX6_distance 9 = .ok (.invokestatic 70, 3) := by decide +kernel
theorem dX6_distance_12 : decode cX6_distance 12 = .ok (.ifCond .eq 7, 3) := by decide +kernel
theorem dX6_distance_15 : decode cX6_distance 15 = .ok (.iconst 0, 1) := by decide +kernel
theorem dX6_distance_16 : decode cX6_distance 16 = .ok (.goto 4, 3) := by decide +kernel
theorem dX6_distance_19 : decode cX6_distance 19 = .ok (.iconst 1, 1) := by decide +kernel
theorem dX6_distance_20 : decode cX6_distance 20 = .ok (.invokevirtual 74, 3) := by decide +kernel
theorem dX6_distance_23 : decode cX6_distance 23 = .ok (.ifCond .ne 5, 3) := by decide +kernel
theorem dX6_distance_26 : decode cX6_distance 26 = .ok (.iconst 0, 1) := by decide +kernel
theorem dX6_distance_27 : decode cX6_distance 27 = .ok (.ireturn, 1) := by decide +kernel
theorem dX6_distance_28 : decode cX6_distance 28 = .ok (.aload_n 0, 1) := by decide +kernel
theorem dX6_distance_29 : decode cX6_distance 29 = .ok (.aload_n 0, 1) := by decide +kernel
theorem dX6_distance_30 : decode cX6_distance 30 = .ok (.getfield 7, 3) := by decide +kernel
theorem dX6_distance_33 : decode cX6_distance 33 = .ok (.iload_n 1, 1) := by decide +kernel
theorem dX6_distance_34 : decode cX6_distance 34 = .ok (.iaload, 1) := by decide +kernel
theorem dX6_distance_35 : decode cX6_distance 35 = .ok (.invokevirtual 81, 3) := by decide +kernel
theorem dX6_distance_38 : decode cX6_distance 38 = .ok (.aload_n 0, 1) := by decide +kernel
theorem dX6_distance_39 : decode cX6_distance 39 = .ok (.getfield 16, 3) := by decide +kernel
theorem dX6_distance_42 : decode cX6_distance 42 = .ok (.aload_n 0, 1) := by decide +kernel
theorem dX6_distance_43 : decode cX6_distance 43 = .ok (.getfield 7, 3) := by decide +kernel
theorem dX6_distance_46 : decode cX6_distance 46 = .ok (.iload_n 2, 1) := by decide +kernel
theorem dX6_distance_47 : decode cX6_distance 47 = .ok (.iaload, 1) := by decide +kernel
theorem dX6_distance_48 : decode cX6_distance 48 = .ok (.iaload, 1) := by decide +kernel
theorem dX6_distance_49 : decode cX6_distance 49 = .ok (.ireturn, 1) := by decide +kernel
set_option maxRecDepth 20000 in
theorem ggX6_distanceByRounds_X6_isCode : GoodIn wsX6_distanceByRounds wsX6_isCode := goodIn_r _ [6] (by decide +kernel) (by decide +kernel)
set_option maxRecDepth 20000 in
theorem gX6_distanceByRounds_X6_isCode : GoodIn wsX6_distanceByRounds (va_wsS RX6 70 yX6_isCode wsX6_isCode) := goodIn_app (goodIn_of _ (by decide +kernel)) ggX6_distanceByRounds_X6_isCode
set_option maxRecDepth 20000 in
theorem ggX6_distanceByRounds_X6_goes : GoodIn wsX6_distanceByRounds wsX6_goes := goodIn_r _ [10, 11, 24, 25, 26, 27, 28, 29, 30, 31, 32, 33, 34, 35, 36, 37, 38, 39, 40, 41] (by decide +kernel) (by decide +kernel)
set_option maxRecDepth 20000 in
theorem gX6_distanceByRounds_X6_goes : GoodIn wsX6_distanceByRounds (wsV RX6 74 RX6 yX6_goes wsX6_goes) := goodIn_app (goodIn_of _ (by decide +kernel)) ggX6_distanceByRounds_X6_goes
set_option maxRecDepth 20000 in
theorem ggX6_distanceByRounds_X6_goesInward : GoodIn wsX6_distanceByRounds wsX6_goesInward := goodIn_r _ [15, 2, 16, 1, 17, 18, 19, 5, 20, 21, 22, 23, 24, 25, 26, 27, 28, 29, 30, 31, 32, 33, 34, 35, 36, 37, 38, 39, 40, 41] (by decide +kernel) (by decide +kernel)
set_option maxRecDepth 20000 in
theorem gX6_distanceByRounds_X6_goesInward : GoodIn wsX6_distanceByRounds (wsV RX6 85 RX6 yX6_goesInward wsX6_goesInward) := goodIn_app (goodIn_of _ (by decide +kernel)) ggX6_distanceByRounds_X6_goesInward
theorem dX6_distanceByRounds_0 : decode cX6_distanceByRounds 0 = .ok (.aload_n 0, 1) := by decide +kernel
theorem dX6_distanceByRounds_1 : decode cX6_distanceByRounds 1 = .ok (.iload_n 1, 1) := by decide +kernel
theorem dX6_distanceByRounds_2 : decode cX6_distanceByRounds 2 = .ok (.invokestatic 70, 3) := by decide +kernel
theorem dX6_distanceByRounds_5 : decode cX6_distanceByRounds 5 = .ok (.ifCond .eq 14, 3) := by decide +kernel
theorem dX6_distanceByRounds_8 : decode cX6_distanceByRounds 8 = .ok (.iload_n 2, 1) := by decide +kernel
theorem dX6_distanceByRounds_9 : decode cX6_distanceByRounds 9 = .ok (.invokestatic 70, 3) := by decide +kernel
theorem dX6_distanceByRounds_12 : decode cX6_distanceByRounds 12 = .ok (.ifCond .eq 7, 3) := by decide +kernel
theorem dX6_distanceByRounds_15 : decode cX6_distanceByRounds 15 = .ok (.iconst 0, 1) := by decide +kernel
theorem dX6_distanceByRounds_16 : decode cX6_distanceByRounds 16 = .ok (.goto 4, 3) := by decide +kernel
theorem dX6_distanceByRounds_19 : decode cX6_distanceByRounds 19 = .ok (.iconst 1, 1) := by decide +kernel
theorem dX6_distanceByRounds_20 : decode cX6_distanceByRounds 20 = .ok (.invokevirtual 74, 3) := by decide +kernel
theorem dX6_distanceByRounds_23 : decode cX6_distanceByRounds 23 = .ok (.ifCond .ne 5, 3) := by decide +kernel
theorem dX6_distanceByRounds_26 : decode cX6_distanceByRounds 26 = .ok (.iconst 0, 1) := by decide +kernel
theorem dX6_distanceByRounds_27 : decode cX6_distanceByRounds 27 = .ok (.ireturn, 1) := by decide +kernel
theorem dX6_distanceByRounds_28 : decode cX6_distanceByRounds 28 = .ok (.aload_n 0, 1) := by decide +kernel
theorem dX6_distanceByRounds_29 : decode cX6_distanceByRounds 29 = .ok (.aload_n 0, 1) := by decide +kernel
theorem dX6_distanceByRounds_30 : decode cX6_distanceByRounds 30 = .ok (.getfield 7, 3) := by decide +kernel
theorem dX6_distanceByRounds_33 : decode cX6_distanceByRounds 33 = .ok (.iload_n 2, 1) := by decide +kernel
theorem dX6_distanceByRounds_34 : decode cX6_distanceByRounds 34 = .ok (.iaload, 1) := by decide +kernel
theorem dX6_distanceByRounds_35 : decode cX6_distanceByRounds 35 = .ok (.invokevirtual 85, 3) := by decide +kernel
theorem dX6_distanceByRounds_38 : decode cX6_distanceByRounds 38 = .ok (.aload_n 0, 1) := by decide +kernel
theorem dX6_distanceByRounds_39 : decode cX6_distanceByRounds 39 = .ok (.getfield 16, 3) := by decide +kernel
theorem dX6_distanceByRounds_42 : decode cX6_distanceByRounds 42 = .ok (.aload_n 0, 1) := by decide +kernel
theorem dX6_distanceByRounds_43 : decode cX6_distanceByRounds 43 = .ok (.getfield 7, 3) := by decide +kernel
theorem dX6_distanceByRounds_46 : decode cX6_distanceByRounds 46 = .ok (.iload_n 1, 1) := by decide +kernel
theorem dX6_distanceByRounds_47 : decode cX6_distanceByRounds 47 = .ok (.iaload, 1) := by decide +kernel
theorem dX6_distanceByRounds_48 : decode cX6_distanceByRounds 48 = .ok (.iaload, 1) := by decide +kernel
theorem dX6_distanceByRounds_49 : decode cX6_distanceByRounds 49 = .ok (.ireturn, 1) := by decide +kernel
theorem dX6_meets_0 : decode cX6_meets 0 = .ok (.aload_n 0, 1) := by decide +kernel
theorem dX6_meets_1 : decode cX6_meets 1 = .ok (.dup, 1) := by decide +kernel
theorem dX6_meets_2 : decode cX6_meets 2 = .ok (.getfield 88, 3) := by decide +kernel
theorem dX6_meets_5 : decode cX6_meets 5 = .ok (.aload_n 0, 1) := by decide +kernel
theorem dX6_meets_6 : decode cX6_meets 6 = .ok (.getfield 19, 3) := by decide +kernel
theorem dX6_meets_9 : decode cX6_meets 9 = .ok (.iload_n 1, 1) := by decide +kernel
theorem dX6_meets_10 : decode cX6_meets 10 = .ok (.baload, 1) := by decide +kernel
theorem dX6_meets_11 : decode cX6_meets 11 = .ok (.ifCond .eq 7, 3) := by decide +kernel
theorem dX6_meets_14 : decode cX6_meets 14 = .ok (.iconst 0, 1) := by decide +kernel
theorem dX6_meets_15 : decode cX6_meets 15 = .ok (.goto 4, 3) := by decide +kernel
theorem dX6_meets_18 : decode cX6_meets 18 = .ok (.iconst 1, 1) := by decide +kernel
theorem dX6_meets_19 : decode cX6_meets 19 = .ok (.iadd, 1) := by decide +kernel
theorem dX6_meets_20 : decode cX6_meets 20 = .ok (.putfield 88, 3) := by decide +kernel
theorem dX6_meets_23 : decode cX6_meets 23 = .ok (.aload_n 0, 1) := by decide +kernel
theorem dX6_meets_24 : decode cX6_meets 24 = .ok (.getfield 19, 3) := by decide +kernel
theorem dX6_meets_27 : decode cX6_meets 27 = .ok (.iload_n 1, 1) := by decide +kernel
theorem dX6_meets_28 : decode cX6_meets 28 = .ok (.iconst 1, 1) := by decide +kernel
theorem dX6_meets_29 : decode cX6_meets 29 = .ok (.bastore, 1) := by decide +kernel
theorem dX6_meets_30 : decode cX6_meets 30 = .ok (.aload_n 0, 1) := by decide +kernel
theorem dX6_meets_31 : decode cX6_meets 31 = .ok (.iload_n 1, 1) := by decide +kernel
theorem dX6_meets_32 : decode cX6_meets 32 = .ok (.putfield 36, 3) := by decide +kernel
theorem dX6_meets_35 : decode cX6_meets 35 = .ok (.return_, 1) := by decide +kernel
set_option maxRecDepth 20000 in
theorem ggX6_begin_X6_isCode : GoodIn wsX6_begin wsX6_isCode := goodIn_r _ [8] (by decide +kernel) (by decide +kernel)
set_option maxRecDepth 20000 in
theorem gX6_begin_X6_isCode : GoodIn wsX6_begin (va_wsS RX6 70 yX6_isCode wsX6_isCode) := goodIn_app (goodIn_of _ (by decide +kernel)) ggX6_begin_X6_isCode
set_option maxRecDepth 20000 in
theorem ggX6_begin_X6_goes : GoodIn wsX6_begin wsX6_goes := goodIn_r _ [12, 13, 19, 20, 21, 22, 23, 24, 25, 26, 27, 28, 29, 30, 31, 32, 33, 34, 35, 36] (by decide +kernel) (by decide +kernel)
set_option maxRecDepth 20000 in
theorem gX6_begin_X6_goes : GoodIn wsX6_begin (wsV RX6 74 RX6 yX6_goes wsX6_goes) := goodIn_app (goodIn_of _ (by decide +kernel)) ggX6_begin_X6_goes
set_option maxRecDepth 20000 in
theorem ggX6_begin_X6_meets : GoodIn wsX6_begin wsX6_meets := goodIn_r _ [17, 4, 18, 1, 19, 20, 21, 22, 23, 24, 25, 26, 27, 28, 29, 30, 31, 32, 33, 34, 35, 36] (by decide +kernel) (by decide +kernel)
set_option maxRecDepth 20000 in
theorem gX6_begin_X6_meets : GoodIn wsX6_begin (wsV RX6 94 RX6 yX6_meets wsX6_meets) := goodIn_app (goodIn_of _ (by decide +kernel)) ggX6_begin_X6_meets
theorem dX6_begin_0 : decode cX6_begin 0 = .ok (.aload_n 0, 1) := by decide +kernel
theorem dX6_begin_1 : decode cX6_begin 1 = .ok (.iload_n 1, 1) := by decide +kernel
theorem dX6_begin_2 : decode cX6_begin 2 = .ok (.invokestatic 70, 3) := by decide +kernel
theorem dX6_begin_5 : decode cX6_begin 5 = .ok (.ifCond .ne 7, 3) := by decide +kernel
theorem dX6_begin_8 : decode cX6_begin 8 = .ok (.iconst 1, 1) := by decide +kernel
theorem dX6_begin_9 : decode cX6_begin 9 = .ok (.goto 25, 3) := by decide +kernel
theorem dX6_begin_12 : decode cX6_begin 12 = .ok (.aload_n 0, 1) := by decide +kernel
theorem dX6_begin_13 : decode cX6_begin 13 = .ok (.getfield 36, 3) := by decide +kernel
theorem dX6_begin_16 : decode cX6_begin 16 = .ok (.iconst (-1), 1) := by decide +kernel
theorem dX6_begin_17 : decode cX6_begin 17 = .ok (.if_icmp .ne 12, 3) := by decide +kernel
theorem dX6_begin_20 : decode cX6_begin 20 = .ok (.aload_n 0, 1) := by decide +kernel
theorem dX6_begin_21 : decode cX6_begin 21 = .ok (.getfield 91, 3) := by decide +kernel
theorem dX6_begin_24 : decode cX6_begin 24 = .ok (.bipush 60, 2) := by decide +kernel
theorem dX6_begin_26 : decode cX6_begin 26 = .ok (.if_icmp .ne 7, 3) := by decide +kernel
theorem dX6_begin_29 : decode cX6_begin 29 = .ok (.iconst 2, 1) := by decide +kernel
theorem dX6_begin_30 : decode cX6_begin 30 = .ok (.goto 4, 3) := by decide +kernel
theorem dX6_begin_33 : decode cX6_begin 33 = .ok (.iconst 0, 1) := by decide +kernel
theorem dX6_begin_34 : decode cX6_begin 34 = .ok (.invokevirtual 74, 3) := by decide +kernel
theorem dX6_begin_37 : decode cX6_begin 37 = .ok (.ifCond .ne 5, 3) := by decide +kernel
theorem dX6_begin_40 : decode cX6_begin 40 = .ok (.iconst 0, 1) := by decide +kernel
theorem dX6_begin_41 : decode cX6_begin 41 = .ok (.ireturn, 1) := by decide +kernel
theorem dX6_begin_42 : decode cX6_begin 42 = .ok (.aload_n 0, 1) := by decide +kernel
theorem dX6_begin_43 : decode cX6_begin 43 = .ok (.dup, 1) := by decide +kernel
theorem dX6_begin_44 : decode cX6_begin 44 = .ok (.getfield 91, 3) := by decide +kernel
theorem dX6_begin_47 : decode cX6_begin 47 = .ok (.iconst 1, 1) := by decide +kernel
theorem dX6_begin_48 : decode cX6_begin 48 = .ok (.iadd, 1) := by decide +kernel
theorem dX6_begin_49 : decode cX6_begin 49 = .ok (.putfield 91, 3) := by decide +kernel
theorem dX6_begin_52 : decode cX6_begin 52 = .ok (.aload_n 0, 1) := by decide +kernel
theorem dX6_begin_53 : decode cX6_begin 53 = .ok (.aload_n 0, 1) := by decide +kernel
theorem dX6_begin_54 : decode cX6_begin 54 = .ok (.getfield 7, 3) := by decide +kernel
theorem dX6_begin_57 : decode cX6_begin 57 = .ok (.iload_n 1, 1) := by decide +kernel
theorem dX6_begin_58 : decode cX6_begin 58 = .ok (.iaload, 1) := by decide +kernel
theorem dX6_begin_59 : decode cX6_begin 59 = .ok (.invokevirtual 94, 3) := by decide +kernel
theorem dX6_begin_62 : decode cX6_begin 62 = .ok (.aload_n 0, 1) := by decide +kernel
theorem dX6_begin_63 : decode cX6_begin 63 = .ok (.getfield 88, 3) := by decide +kernel
theorem dX6_begin_66 : decode cX6_begin 66 = .ok (.ireturn, 1) := by decide +kernel
set_option maxRecDepth 20000 in
theorem ggX6_pass_X6_isCode : GoodIn wsX6_pass wsX6_isCode := goodIn_r _ [10] (by decide +kernel) (by decide +kernel)
set_option maxRecDepth 20000 in
theorem gX6_pass_X6_isCode : GoodIn wsX6_pass (va_wsS RX6 70 yX6_isCode wsX6_isCode) := goodIn_app (goodIn_of _ (by decide +kernel)) ggX6_pass_X6_isCode
set_option maxRecDepth 20000 in
theorem ggX6_pass_X6_goes : GoodIn wsX6_pass wsX6_goes := goodIn_r _ [14, 15, 21, 22, 23, 24, 25, 26, 27, 28, 29, 30, 31, 32, 33, 34, 35, 36, 37, 38] (by decide +kernel) (by decide +kernel)
set_option maxRecDepth 20000 in
theorem gX6_pass_X6_goes : GoodIn wsX6_pass (wsV RX6 74 RX6 yX6_goes wsX6_goes) := goodIn_app (goodIn_of _ (by decide +kernel)) ggX6_pass_X6_goes
set_option maxRecDepth 20000 in
theorem ggX6_pass_X6_meets : GoodIn wsX6_pass wsX6_meets := goodIn_r _ [19, 6, 20, 1, 21, 22, 23, 24, 25, 26, 27, 28, 29, 30, 31, 32, 33, 34, 35, 36, 37, 38] (by decide +kernel) (by decide +kernel)
set_option maxRecDepth 20000 in
theorem gX6_pass_X6_meets : GoodIn wsX6_pass (wsV RX6 94 RX6 yX6_meets wsX6_meets) := goodIn_app (goodIn_of _ (by decide +kernel)) ggX6_pass_X6_meets
theorem dX6_pass_0 : decode cX6_pass 0 = .ok (.aload_n 0, 1) := by decide +kernel
theorem dX6_pass_1 : decode cX6_pass 1 = .ok (.iload_n 1, 1) := by decide +kernel
theorem dX6_pass_2 : decode cX6_pass 2 = .ok (.invokestatic 70, 3) := by decide +kernel
theorem dX6_pass_5 : decode cX6_pass 5 = .ok (.ifCond .ne 7, 3) := by decide +kernel
theorem dX6_pass_8 : decode cX6_pass 8 = .ok (.iconst 1, 1) := by decide +kernel
theorem dX6_pass_9 : decode cX6_pass 9 = .ok (.goto 26, 3) := by decide +kernel
theorem dX6_pass_12 : decode cX6_pass 12 = .ok (.aload_n 0, 1) := by decide +kernel
theorem dX6_pass_13 : decode cX6_pass 13 = .ok (.getfield 36, 3) := by decide +kernel
theorem dX6_pass_16 : decode cX6_pass 16 = .ok (.iconst (-1), 1) := by decide +kernel
theorem dX6_pass_17 : decode cX6_pass 17 = .ok (.if_icmp .eq 13, 3) := by decide +kernel
theorem dX6_pass_20 : decode cX6_pass 20 = .ok (.aload_n 0, 1) := by decide +kernel
theorem dX6_pass_21 : decode cX6_pass 21 = .ok (.getfield 97, 3) := by decide +kernel
theorem dX6_pass_24 : decode cX6_pass 24 = .ok (.sipush 300, 3) := by decide +kernel
theorem dX6_pass_27 : decode cX6_pass 27 = .ok (.if_icmp .ne 7, 3) := by decide +kernel
theorem dX6_pass_30 : decode cX6_pass 30 = .ok (.iconst 2, 1) := by decide +kernel
theorem dX6_pass_31 : decode cX6_pass 31 = .ok (.goto 4, 3) := by decide +kernel
theorem dX6_pass_34 : decode cX6_pass 34 = .ok (.iconst 0, 1) := by decide +kernel
theorem dX6_pass_35 : decode cX6_pass 35 = .ok (.invokevirtual 74, 3) := by decide +kernel
theorem dX6_pass_38 : decode cX6_pass 38 = .ok (.ifCond .ne 5, 3) := by decide +kernel
theorem dX6_pass_41 : decode cX6_pass 41 = .ok (.iconst 0, 1) := by decide +kernel
theorem dX6_pass_42 : decode cX6_pass 42 = .ok (.ireturn, 1) := by decide +kernel
theorem dX6_pass_43 : decode cX6_pass 43 = .ok (.aload_n 0, 1) := by decide +kernel
theorem dX6_pass_44 : decode cX6_pass 44 = .ok (.getfield 40, 3) := by decide +kernel
theorem dX6_pass_47 : decode cX6_pass 47 = .ok (.aload_n 0, 1) := by decide +kernel
theorem dX6_pass_48 : decode cX6_pass 48 = .ok (.getfield 97, 3) := by decide +kernel
theorem dX6_pass_51 : decode cX6_pass 51 = .ok (.aload_n 0, 1) := by decide +kernel
theorem dX6_pass_52 : decode cX6_pass 52 = .ok (.getfield 36, 3) := by decide +kernel
theorem dX6_pass_55 : decode cX6_pass 55 = .ok (.iastore, 1) := by decide +kernel
theorem dX6_pass_56 : decode cX6_pass 56 = .ok (.aload_n 0, 1) := by decide +kernel
theorem dX6_pass_57 : decode cX6_pass 57 = .ok (.getfield 43, 3) := by decide +kernel
theorem dX6_pass_60 : decode cX6_pass 60 = .ok (.aload_n 0, 1) := by decide +kernel
theorem dX6_pass_61 : decode cX6_pass 61 = .ok (.getfield 97, 3) := by decide +kernel
theorem dX6_pass_64 : decode cX6_pass 64 = .ok (.aload_n 0, 1) := by decide +kernel
theorem dX6_pass_65 : decode cX6_pass 65 = .ok (.getfield 7, 3) := by decide +kernel
theorem dX6_pass_68 : decode cX6_pass 68 = .ok (.iload_n 1, 1) := by decide +kernel
theorem dX6_pass_69 : decode cX6_pass 69 = .ok (.iaload, 1) := by decide +kernel
theorem dX6_pass_70 : decode cX6_pass 70 = .ok (.iastore, 1) := by decide +kernel
theorem dX6_pass_71 : decode cX6_pass 71 = .ok (.aload_n 0, 1) := by decide +kernel
end
section
theorem dX6_pass_72 : decode cX6_pass 72 = .ok (.dup, 1) := by decide +kernel
theorem dX6_pass_73 : decode cX6_pass 73 = .ok (.getfield 97, 3) := by decide +kernel
theorem dX6_pass_76 : decode cX6_pass 76 = .ok (.iconst 1, 1) := by decide +kernel
theorem dX6_pass_77 : decode cX6_pass 77 = .ok (.iadd, 1) := by decide +kernel
theorem dX6_pass_78 : decode cX6_pass 78 = .ok (.putfield 97, 3) := by decide +kernel
theorem dX6_pass_81 : decode cX6_pass 81 = .ok (.aload_n 0, 1) := by decide +kernel
theorem dX6_pass_82 : decode cX6_pass 82 = .ok (.aload_n 0, 1) := by decide +kernel
theorem dX6_pass_83 : decode cX6_pass 83 = .ok (.getfield 7, 3) := by decide +kernel
theorem dX6_pass_86 : decode cX6_pass 86 = .ok (.iload_n 1, 1) := by decide +kernel
theorem dX6_pass_87 : decode cX6_pass 87 = .ok (.iaload, 1) := by decide +kernel
theorem dX6_pass_88 : decode cX6_pass 88 = .ok (.invokevirtual 94, 3) := by decide +kernel
theorem dX6_pass_91 : decode cX6_pass 91 = .ok (.aload_n 0, 1) := by decide +kernel
theorem dX6_pass_92 : decode cX6_pass 92 = .ok (.getfield 88, 3) := by decide +kernel
theorem dX6_pass_95 : decode cX6_pass 95 = .ok (.ireturn, 1) := by decide +kernel
set_option maxRecDepth 20000 in
theorem ggX6_end_X6_goes : GoodIn wsX6_end wsX6_goes := goodIn_r _ [10, 11, 12, 13, 14, 15, 16, 17, 18, 19, 20, 21, 22, 23, 24, 25, 26, 27, 28, 29] (by decide +kernel) (by decide +kernel)
set_option maxRecDepth 20000 in
theorem gX6_end_X6_goes : GoodIn wsX6_end (wsV RX6 74 RX6 yX6_goes wsX6_goes) := goodIn_app (goodIn_of _ (by decide +kernel)) ggX6_end_X6_goes
theorem dX6_end_0 : decode cX6_end 0 = .ok (.aload_n 0, 1) := by decide +kernel
theorem dX6_end_1 : decode cX6_end 1 = .ok (.aload_n 0, 1) := by decide +kernel
theorem dX6_end_2 : decode cX6_end 2 = .ok (.getfield 36, 3) := by decide +kernel
theorem dX6_end_5 : decode cX6_end 5 = .ok (.iconst (-1), 1) := by decide +kernel
theorem dX6_end_6 : decode cX6_end 6 = .ok (.if_icmp .ne 7, 3) := by decide +kernel
theorem dX6_end_9 : decode cX6_end 9 = .ok (.iconst 1, 1) := by decide +kernel
theorem dX6_end_10 : decode cX6_end 10 = .ok (.goto 4, 3) := by decide +kernel
theorem dX6_end_13 : decode cX6_end 13 = .ok (.iconst 0, 1) := by decide +kernel
theorem dX6_end_14 : decode cX6_end 14 = .ok (.invokevirtual 74, 3) := by decide +kernel
theorem dX6_end_17 : decode cX6_end 17 = .ok (.ifCond .ne 5, 3) := by decide +kernel
theorem dX6_end_20 : decode cX6_end 20 = .ok (.iconst 0, 1) := by decide +kernel
theorem dX6_end_21 : decode cX6_end 21 = .ok (.ireturn, 1) := by decide +kernel
theorem dX6_end_22 : decode cX6_end 22 = .ok (.aload_n 0, 1) := by decide +kernel
theorem dX6_end_23 : decode cX6_end 23 = .ok (.getfield 36, 3) := by decide +kernel
theorem dX6_end_26 : decode cX6_end 26 = .ok (.istore_n 2, 1) := by decide +kernel
theorem dX6_end_27 : decode cX6_end 27 = .ok (.aload_n 0, 1) := by decide +kernel
theorem dX6_end_28 : decode cX6_end 28 = .ok (.getfield 46, 3) := by decide +kernel
theorem dX6_end_31 : decode cX6_end 31 = .ok (.aload_n 0, 1) := by decide +kernel
theorem dX6_end_32 : decode cX6_end 32 = .ok (.getfield 100, 3) := by decide +kernel
theorem dX6_end_35 : decode cX6_end 35 = .ok (.iload_n 2, 1) := by decide +kernel
theorem dX6_end_36 : decode cX6_end 36 = .ok (.iastore, 1) := by decide +kernel
theorem dX6_end_37 : decode cX6_end 37 = .ok (.aload_n 0, 1) := by decide +kernel
theorem dX6_end_38 : decode cX6_end 38 = .ok (.getfield 49, 3) := by decide +kernel
theorem dX6_end_41 : decode cX6_end 41 = .ok (.aload_n 0, 1) := by decide +kernel
theorem dX6_end_42 : decode cX6_end 42 = .ok (.getfield 100, 3) := by decide +kernel
theorem dX6_end_45 : decode cX6_end 45 = .ok (.iload_n 1, 1) := by decide +kernel
theorem dX6_end_46 : decode cX6_end 46 = .ok (.bastore, 1) := by decide +kernel
theorem dX6_end_47 : decode cX6_end 47 = .ok (.aload_n 0, 1) := by decide +kernel
theorem dX6_end_48 : decode cX6_end 48 = .ok (.dup, 1) := by decide +kernel
theorem dX6_end_49 : decode cX6_end 49 = .ok (.getfield 100, 3) := by decide +kernel
theorem dX6_end_52 : decode cX6_end 52 = .ok (.iconst 1, 1) := by decide +kernel
theorem dX6_end_53 : decode cX6_end 53 = .ok (.iadd, 1) := by decide +kernel
theorem dX6_end_54 : decode cX6_end 54 = .ok (.putfield 100, 3) := by decide +kernel
theorem dX6_end_57 : decode cX6_end 57 = .ok (.aload_n 0, 1) := by decide +kernel
theorem dX6_end_58 : decode cX6_end 58 = .ok (.getfield 23, 3) := by decide +kernel
theorem dX6_end_61 : decode cX6_end 61 = .ok (.iload_n 2, 1) := by decide +kernel
theorem dX6_end_62 : decode cX6_end 62 = .ok (.aload_n 0, 1) := by decide +kernel
theorem dX6_end_63 : decode cX6_end 63 = .ok (.getfield 23, 3) := by decide +kernel
theorem dX6_end_66 : decode cX6_end 66 = .ok (.iload_n 2, 1) := by decide +kernel
theorem dX6_end_67 : decode cX6_end 67 = .ok (.baload, 1) := by decide +kernel
theorem dX6_end_68 : decode cX6_end 68 = .ok (.ifCond .ne 7, 3) := by decide +kernel
theorem dX6_end_71 : decode cX6_end 71 = .ok (.iload_n 1, 1) := by decide +kernel
theorem dX6_end_72 : decode cX6_end 72 = .ok (.ifCond .eq 7, 3) := by decide +kernel
theorem dX6_end_75 : decode cX6_end 75 = .ok (.iconst 1, 1) := by decide +kernel
theorem dX6_end_76 : decode cX6_end 76 = .ok (.goto 4, 3) := by decide +kernel
theorem dX6_end_79 : decode cX6_end 79 = .ok (.iconst 0, 1) := by decide +kernel
theorem dX6_end_80 : decode cX6_end 80 = .ok (.bastore, 1) := by decide +kernel
theorem dX6_end_81 : decode cX6_end 81 = .ok (.aload_n 0, 1) := by decide +kernel
theorem dX6_end_82 : decode cX6_end 82 = .ok (.iconst (-1), 1) := by decide +kernel
theorem dX6_end_83 : decode cX6_end 83 = .ok (.putfield 36, 3) := by decide +kernel
theorem dX6_end_86 : decode cX6_end 86 = .ok (.iload_n 2, 1) := by decide +kernel
theorem dX6_end_87 : decode cX6_end 87 = .ok (.ireturn, 1) := by decide +kernel
theorem dX6_at_0 : decode cX6_at 0 = .ok (.aload_n 0, 1) := by decide +kernel
theorem dX6_at_1 : decode cX6_at 1 = .ok (.iconst 0, 1) := by decide +kernel
theorem dX6_at_2 : decode cX6_at 2 = .ok (.putfield 56, 3) := by decide +kernel
theorem dX6_at_5 : decode cX6_at 5 = .ok (.aload_n 0, 1) := by decide +kernel
theorem dX6_at_6 : decode cX6_at 6 = .ok (.getfield 36, 3) := by decide +kernel
theorem dX6_at_9 : decode cX6_at 9 = .ok (.ireturn, 1) := by decide +kernel
theorem dX6_met_0 : decode cX6_met 0 = .ok (.aload_n 0, 1) := by decide +kernel
theorem dX6_met_1 : decode cX6_met 1 = .ok (.iconst 0, 1) := by decide +kernel
theorem dX6_met_2 : decode cX6_met 2 = .ok (.putfield 56, 3) := by decide +kernel
theorem dX6_met_5 : decode cX6_met 5 = .ok (.aload_n 0, 1) := by decide +kernel
theorem dX6_met_6 : decode cX6_met 6 = .ok (.getfield 88, 3) := by decide +kernel
theorem dX6_met_9 : decode cX6_met 9 = .ok (.ireturn, 1) := by decide +kernel
set_option maxRecDepth 20000 in
theorem ggX6_passings_X6_isCode : GoodIn wsX6_passings wsX6_isCode := goodIn_r _ [8] (by decide +kernel) (by decide +kernel)
set_option maxRecDepth 20000 in
theorem gX6_passings_X6_isCode : GoodIn wsX6_passings (va_wsS RX6 70 yX6_isCode wsX6_isCode) := goodIn_app (goodIn_of _ (by decide +kernel)) ggX6_passings_X6_isCode
set_option maxRecDepth 20000 in
theorem ggX6_passings_X6_goes : GoodIn wsX6_passings wsX6_goes := goodIn_r _ [12, 13, 14, 15, 16, 17, 18, 19, 20, 21, 22, 23, 24, 25, 26, 27, 28, 29, 30, 31] (by decide +kernel) (by decide +kernel)
set_option maxRecDepth 20000 in
theorem gX6_passings_X6_goes : GoodIn wsX6_passings (wsV RX6 74 RX6 yX6_goes wsX6_goes) := goodIn_app (goodIn_of _ (by decide +kernel)) ggX6_passings_X6_goes
theorem dX6_passings_0 : decode cX6_passings 0 = .ok (.aload_n 0, 1) := by decide +kernel
theorem dX6_passings_1 : decode cX6_passings 1 = .ok (.iload_n 1, 1) := by decide +kernel
theorem dX6_passings_2 : decode cX6_passings 2 = .ok (.invokestatic 70, 3) := by decide +kernel
theorem dX6_passings_5 : decode cX6_passings 5 = .ok (.ifCond .eq 14, 3) := by decide +kernel
theorem dX6_passings_8 : decode cX6_passings 8 = .ok (.iload_n 2, 1) := by decide +kernel
theorem dX6_passings_9 : decode cX6_passings 9 = .ok (.invokestatic 70, 3) := by decide +kernel
theorem dX6_passings_12 : decode cX6_passings 12 = .ok (.ifCond .eq 7, 3) := by decide +kernel
theorem dX6_passings_15 : decode cX6_passings 15 = .ok (.iconst 0, 1) := by decide +kernel
theorem dX6_passings_16 : decode cX6_passings 16 = .ok (.goto 4, 3) := by decide +kernel
theorem dX6_passings_19 : decode cX6_passings 19 = .ok (.iconst 1, 1) := by decide +kernel
theorem dX6_passings_20 : decode cX6_passings 20 = .ok (.invokevirtual 74, 3) := by decide +kernel
theorem dX6_passings_23 : decode cX6_passings 23 = .ok (.ifCond .ne 5, 3) := by decide +kernel
theorem dX6_passings_26 : decode cX6_passings 26 = .ok (.iconst 0, 1) := by decide +kernel
theorem dX6_passings_27 : decode cX6_passings 27 = .ok (.ireturn, 1) := by decide +kernel
theorem dX6_passings_28 : decode cX6_passings 28 = .ok (.iconst 0, 1) := by decide +kernel
theorem dX6_passings_29 : decode cX6_passings 29 = .ok (.istore_n 3, 1) := by decide +kernel
theorem dX6_passings_30 : decode cX6_passings 30 = .ok (.iconst 0, 1) := by decide +kernel
theorem dX6_passings_31 : decode cX6_passings 31 = .ok (.istore 4, 2) := by decide +kernel
theorem dX6_passings_33 : decode cX6_passings 33 = .ok (.iload 4, 2) := by decide +kernel
theorem dX6_passings_35 : decode cX6_passings 35 = .ok (.aload_n 0, 1) := by decide +kernel
theorem dX6_passings_36 : decode cX6_passings 36 = .ok (.getfield 97, 3) := by decide +kernel
theorem dX6_passings_39 : decode cX6_passings 39 = .ok (.if_icmp .ge 49, 3) := by decide +kernel
theorem dX6_passings_42 : decode cX6_passings 42 = .ok (.iload_n 3, 1) := by decide +kernel
theorem dX6_passings_43 : decode cX6_passings 43 = .ok (.aload_n 0, 1) := by decide +kernel
theorem dX6_passings_44 : decode cX6_passings 44 = .ok (.getfield 40, 3) := by decide +kernel
theorem dX6_passings_47 : decode cX6_passings 47 = .ok (.iload 4, 2) := by decide +kernel
theorem dX6_passings_49 : decode cX6_passings 49 = .ok (.iaload, 1) := by decide +kernel
theorem dX6_passings_50 : decode cX6_passings 50 = .ok (.aload_n 0, 1) := by decide +kernel
theorem dX6_passings_51 : decode cX6_passings 51 = .ok (.getfield 7, 3) := by decide +kernel
theorem dX6_passings_54 : decode cX6_passings 54 = .ok (.iload_n 1, 1) := by decide +kernel
theorem dX6_passings_55 : decode cX6_passings 55 = .ok (.iaload, 1) := by decide +kernel
theorem dX6_passings_56 : decode cX6_passings 56 = .ok (.if_icmp .ne 23, 3) := by decide +kernel
theorem dX6_passings_59 : decode cX6_passings 59 = .ok (.aload_n 0, 1) := by decide +kernel
theorem dX6_passings_60 : decode cX6_passings 60 = .ok (.getfield 43, 3) := by decide +kernel
theorem dX6_passings_63 : decode cX6_passings 63 = .ok (.iload 4, 2) := by decide +kernel
theorem dX6_passings_65 : decode cX6_passings 65 = .ok (.iaload, 1) := by decide +kernel
theorem dX6_passings_66 : decode cX6_passings 66 = .ok (.aload_n 0, 1) := by decide +kernel
theorem dX6_passings_67 : decode cX6_passings 67 = .ok (.getfield 7, 3) := by decide +kernel
theorem dX6_passings_70 : decode cX6_passings 70 = .ok (.iload_n 2, 1) := by decide +kernel
theorem dX6_passings_71 : decode cX6_passings 71 = .ok (.iaload, 1) := by decide +kernel
theorem dX6_passings_72 : decode cX6_passings 72 = .ok (.if_icmp .ne 7, 3) := by decide +kernel
theorem dX6_passings_75 : decode cX6_passings 75 = .ok (.iconst 1, 1) := by decide +kernel
theorem dX6_passings_76 : decode cX6_passings 76 = .ok (.goto 4, 3) := by decide +kernel
theorem dX6_passings_79 : decode cX6_passings 79 = .ok (.iconst 0, 1) := by decide +kernel
theorem dX6_passings_80 : decode cX6_passings 80 = .ok (.iadd, 1) := by decide +kernel
theorem dX6_passings_81 : decode cX6_passings 81 = .ok (.istore_n 3, 1) := by decide +kernel
theorem dX6_passings_82 : decode cX6_passings 82 = .ok (.iinc 4 1, 3) := by decide +kernel
theorem dX6_passings_85 : decode cX6_passings 85 = .ok (.goto (-52), 3) := by decide +kernel
theorem dX6_passings_88 : decode cX6_passings 88 = .ok (.iload_n 3, 1) := by decide +kernel
theorem dX6_passings_89 : decode cX6_passings 89 = .ok (.ireturn, 1) := by decide +kernel
set_option maxRecDepth 20000 in
theorem ggX6_isRight_X6_isCode : GoodIn wsX6_isRight wsX6_isCode := goodIn_r _ [6] (by decide +kernel) (by decide +kernel)
set_option maxRecDepth 20000 in
theorem gX6_isRight_X6_isCode : GoodIn wsX6_isRight (va_wsS RX6 70 yX6_isCode wsX6_isCode) := goodIn_app (goodIn_of _ (by decide +kernel)) ggX6_isRight_X6_isCode
set_option maxRecDepth 20000 in
theorem ggX6_isRight_X6_goes : GoodIn wsX6_isRight wsX6_goes := goodIn_r _ [10, 11, 12, 13, 14, 15, 16, 17, 18, 19, 20, 21, 22, 23, 24, 25, 26, 27, 28, 29] (by decide +kernel) (by decide +kernel)
set_option maxRecDepth 20000 in
theorem gX6_isRight_X6_goes : GoodIn wsX6_isRight (wsV RX6 74 RX6 yX6_goes wsX6_goes) := goodIn_app (goodIn_of _ (by decide +kernel)) ggX6_isRight_X6_goes
theorem dX6_isRight_0 : decode cX6_isRight 0 = .ok (.aload_n 0, 1) := by decide +kernel
theorem dX6_isRight_1 : decode cX6_isRight 1 = .ok (.iload_n 1, 1) := by decide +kernel
theorem dX6_isRight_2 : decode cX6_isRight 2 = .ok (.invokestatic 70, 3) := by decide +kernel
theorem dX6_isRight_5 : decode cX6_isRight 5 = .ok (.ifCond .eq 7, 3) := by decide +kernel
theorem dX6_isRight_8 : decode cX6_isRight 8 = .ok (.iconst 0, 1) := by decide +kernel
theorem dX6_isRight_9 : decode cX6_isRight 9 = .ok (.goto 4, 3) := by decide +kernel
theorem dX6_isRight_12 : decode cX6_isRight 12 = .ok (.iconst 1, 1) := by decide +kernel
theorem dX6_isRight_13 : decode cX6_isRight 13 = .ok (.invokevirtual 74, 3) := by decide +kernel
theorem dX6_isRight_16 : decode cX6_isRight 16 = .ok (.ifCond .eq 21, 3) := by decide +kernel
theorem dX6_isRight_19 : decode cX6_isRight 19 = .ok (.aload_n 0, 1) := by decide +kernel
theorem dX6_isRight_20 : decode cX6_isRight 20 = .ok (.getfield 23, 3) := by decide +kernel
theorem dX6_isRight_23 : decode cX6_isRight 23 = .ok (.aload_n 0, 1) := by decide +kernel
theorem dX6_isRight_24 : decode cX6_isRight 24 = .ok (.getfield 7, 3) := by decide +kernel
theorem dX6_isRight_27 : decode cX6_isRight 27 = .ok (.iload_n 1, 1) := by decide +kernel
theorem dX6_isRight_28 : decode cX6_isRight 28 = .ok (.iaload, 1) := by decide +kernel
theorem dX6_isRight_29 : decode cX6_isRight 29 = .ok (.baload, 1) := by decide +kernel
theorem dX6_isRight_30 : decode cX6_isRight 30 = .ok (.ifCond .eq 7, 3) := by decide +kernel
theorem dX6_isRight_33 : decode cX6_isRight 33 = .ok (.iconst 1, 1) := by decide +kernel
theorem dX6_isRight_34 : decode cX6_isRight 34 = .ok (.goto 4, 3) := by decide +kernel
theorem dX6_isRight_37 : decode cX6_isRight 37 = .ok (.iconst 0, 1) := by decide +kernel
theorem dX6_isRight_38 : decode cX6_isRight 38 = .ok (.ireturn, 1) := by decide +kernel
theorem dX6_laysWorths_0 : decode cX6_laysWorths 0 = .ok (.iconst 0, 1) := by decide +kernel
theorem dX6_laysWorths_1 : decode cX6_laysWorths 1 = .ok (.istore_n 1, 1) := by decide +kernel
theorem dX6_laysWorths_2 : decode cX6_laysWorths 2 = .ok (.iload_n 1, 1) := by decide +kernel
theorem dX6_laysWorths_3 : decode cX6_laysWorths 3 = .ok (.sipush 1296, 3) := by decide +kernel
theorem dX6_laysWorths_6 : decode cX6_laysWorths 6 = .ok (.if_icmp .ge 16, 3) := by decide +kernel
theorem dX6_laysWorths_9 : decode cX6_laysWorths 9 = .ok (.aload_n 0, 1) := by decide +kernel
theorem dX6_laysWorths_10 : decode cX6_laysWorths 10 = .ok (.getfield 26, 3) := by decide +kernel
theorem dX6_laysWorths_13 : decode cX6_laysWorths 13 = .ok (.iload_n 1, 1) := by decide +kernel
theorem dX6_laysWorths_14 : decode cX6_laysWorths 14 = .ok (.iconst 0, 1) := by decide +kernel
theorem dX6_laysWorths_15 : decode cX6_laysWorths 15 = .ok (.iastore, 1) := by decide +kernel
theorem dX6_laysWorths_16 : decode cX6_laysWorths 16 = .ok (.iinc 1 1, 3) := by decide +kernel
theorem dX6_laysWorths_19 : decode cX6_laysWorths 19 = .ok (.goto (-17), 3) := by decide +kernel
theorem dX6_laysWorths_22 : decode cX6_laysWorths 22 = .ok (.iconst 0, 1) := by decide +kernel
theorem dX6_laysWorths_23 : decode cX6_laysWorths 23 = .ok (.istore_n 1, 1) := by decide +kernel
theorem dX6_laysWorths_24 : decode cX6_laysWorths 24 = .ok (.iload_n 1, 1) := by decide +kernel
theorem dX6_laysWorths_25 : decode cX6_laysWorths 25 = .ok (.bipush 60, 2) := by decide +kernel
theorem dX6_laysWorths_27 : decode cX6_laysWorths 27 = .ok (.if_icmp .ge 205, 3) := by decide +kernel
theorem dX6_laysWorths_30 : decode cX6_laysWorths 30 = .ok (.iconst 0, 1) := by decide +kernel
theorem dX6_laysWorths_31 : decode cX6_laysWorths 31 = .ok (.istore_n 2, 1) := by decide +kernel
theorem dX6_laysWorths_32 : decode cX6_laysWorths 32 = .ok (.iload_n 2, 1) := by decide +kernel
theorem dX6_laysWorths_33 : decode cX6_laysWorths 33 = .ok (.sipush 1296, 3) := by decide +kernel
theorem dX6_laysWorths_36 : decode cX6_laysWorths 36 = .ok (.if_icmp .ge 23, 3) := by decide +kernel
theorem dX6_laysWorths_39 : decode cX6_laysWorths 39 = .ok (.aload_n 0, 1) := by decide +kernel
theorem dX6_laysWorths_40 : decode cX6_laysWorths 40 = .ok (.getfield 29, 3) := by decide +kernel
theorem dX6_laysWorths_43 : decode cX6_laysWorths 43 = .ok (.iload_n 2, 1) := by decide +kernel
theorem dX6_laysWorths_44 : decode cX6_laysWorths 44 = .ok (.lconst 0, 1) := by decide +kernel
theorem dX6_laysWorths_45 : decode cX6_laysWorths 45 = .ok (.lastore, 1) := by decide +kernel
theorem dX6_laysWorths_46 : decode cX6_laysWorths 46 = .ok (.aload_n 0, 1) := by decide +kernel
theorem dX6_laysWorths_47 : decode cX6_laysWorths 47 = .ok (.getfield 33, 3) := by decide +kernel
theorem dX6_laysWorths_50 : decode cX6_laysWorths 50 = .ok (.iload_n 2, 1) := by decide +kernel
theorem dX6_laysWorths_51 : decode cX6_laysWorths 51 = .ok (.iconst 0, 1) := by decide +kernel
theorem dX6_laysWorths_52 : decode cX6_laysWorths 52 = .ok (.iastore, 1) := by decide +kernel
theorem dX6_laysWorths_53 : decode cX6_laysWorths 53 = .ok (.iinc 2 1, 3) := by decide +kernel
theorem dX6_laysWorths_56 : decode cX6_laysWorths 56 = .ok (.goto (-24), 3) := by decide +kernel
theorem dX6_laysWorths_59 : decode cX6_laysWorths 59 = .ok (.iconst 0, 1) := by decide +kernel
theorem dX6_laysWorths_60 : decode cX6_laysWorths 60 = .ok (.istore_n 2, 1) := by decide +kernel
theorem dX6_laysWorths_61 : decode cX6_laysWorths 61 = .ok (.iload_n 2, 1) := by decide +kernel
theorem dX6_laysWorths_62 : decode cX6_laysWorths 62 = .ok (.aload_n 0, 1) := by decide +kernel
theorem dX6_laysWorths_63 : decode cX6_laysWorths 63 = .ok (.getfield 97, 3) := by decide +kernel
theorem dX6_laysWorths_66 : decode cX6_laysWorths 66 = .ok (.if_icmp .ge 50, 3) := by decide +kernel
theorem dX6_laysWorths_69 : decode cX6_laysWorths 69 = .ok (.aload_n 0, 1) := by decide +kernel
theorem dX6_laysWorths_70 : decode cX6_laysWorths 70 = .ok (.getfield 29, 3) := by decide +kernel
theorem dX6_laysWorths_73 : decode cX6_laysWorths 73 = .ok (.aload_n 0, 1) := by decide +kernel
theorem dX6_laysWorths_74 : decode cX6_laysWorths 74 = .ok (.getfield 40, 3) := by decide +kernel
theorem dX6_laysWorths_77 : decode cX6_laysWorths 77 = .ok (.iload_n 2, 1) := by decide +kernel
theorem dX6_laysWorths_78 : decode cX6_laysWorths 78 = .ok (.iaload, 1) := by decide +kernel
theorem dX6_laysWorths_79 : decode cX6_laysWorths 79 = .ok (.dup2, 1) := by decide +kernel
theorem dX6_laysWorths_80 : decode cX6_laysWorths 80 = .ok (.laload, 1) := by decide +kernel
theorem dX6_laysWorths_81 : decode cX6_laysWorths 81 = .ok (.aload_n 0, 1) := by decide +kernel
theorem dX6_laysWorths_82 : decode cX6_laysWorths 82 = .ok (.getfield 26, 3) := by decide +kernel
theorem dX6_laysWorths_85 : decode cX6_laysWorths 85 = .ok (.aload_n 0, 1) := by decide +kernel
theorem dX6_laysWorths_86 : decode cX6_laysWorths 86 = .ok (.getfield 43, 3) := by decide +kernel
theorem dX6_laysWorths_89 : decode cX6_laysWorths 89 = .ok (.iload_n 2, 1) := by decide +kernel
theorem dX6_laysWorths_90 : decode cX6_laysWorths 90 = .ok (.iaload, 1) := by decide +kernel
theorem dX6_laysWorths_91 : decode cX6_laysWorths 91 = .ok (.iaload, 1) := by decide +kernel
theorem dX6_laysWorths_92 : decode cX6_laysWorths 92 = .ok (.i2l, 1) := by decide +kernel
theorem dX6_laysWorths_93 : decode cX6_laysWorths 93 = .ok (.ladd, 1) := by decide +kernel
theorem dX6_laysWorths_94 : decode cX6_laysWorths 94 = .ok (.lastore, 1) := by decide +kernel
theorem dX6_laysWorths_95 : decode cX6_laysWorths 95 = .ok (.aload_n 0, 1) := by decide +kernel
theorem dX6_laysWorths_96 : decode cX6_laysWorths 96 = .ok (.getfield 33, 3) := by decide +kernel
theorem dX6_laysWorths_99 : decode cX6_laysWorths 99 = .ok (.aload_n 0, 1) := by decide +kernel
theorem dX6_laysWorths_100 : decode cX6_laysWorths 100 = .ok (.getfield 40, 3) := by decide +kernel
theorem dX6_laysWorths_103 : decode cX6_laysWorths 103 = .ok (.iload_n 2, 1) := by decide +kernel
theorem dX6_laysWorths_104 : decode cX6_laysWorths 104 = .ok (.iaload, 1) := by decide +kernel
theorem dX6_laysWorths_105 : decode cX6_laysWorths 105 = .ok (.dup2, 1) := by decide +kernel
theorem dX6_laysWorths_106 : decode cX6_laysWorths 106 = .ok (.iaload, 1) := by decide +kernel
theorem dX6_laysWorths_107 : decode cX6_laysWorths 107 = .ok (.iconst 1, 1) := by decide +kernel
theorem dX6_laysWorths_108 : decode cX6_laysWorths 108 = .ok (.iadd, 1) := by decide +kernel
theorem dX6_laysWorths_109 : decode cX6_laysWorths 109 = .ok (.iastore, 1) := by decide +kernel
theorem dX6_laysWorths_110 : decode cX6_laysWorths 110 = .ok (.iinc 2 1, 3) := by decide +kernel
theorem dX6_laysWorths_113 : decode cX6_laysWorths 113 = .ok (.goto (-52), 3) := by decide +kernel
theorem dX6_laysWorths_116 : decode cX6_laysWorths 116 = .ok (.iconst 0, 1) := by decide +kernel
theorem dX6_laysWorths_117 : decode cX6_laysWorths 117 = .ok (.istore_n 2, 1) := by decide +kernel
theorem dX6_laysWorths_118 : decode cX6_laysWorths 118 = .ok (.iload_n 2, 1) := by decide +kernel
theorem dX6_laysWorths_119 : decode cX6_laysWorths 119 = .ok (.aload_n 0, 1) := by decide +kernel
theorem dX6_laysWorths_120 : decode cX6_laysWorths 120 = .ok (.getfield 100, 3) := by decide +kernel
theorem dX6_laysWorths_123 : decode cX6_laysWorths 123 = .ok (.if_icmp .ge 54, 3) := by decide +kernel
theorem dX6_laysWorths_126 : decode cX6_laysWorths 126 = .ok (.aload_n 0, 1) := by decide +kernel
theorem dX6_laysWorths_127 : decode cX6_laysWorths 127 = .ok (.getfield 29, 3) := by decide +kernel
theorem dX6_laysWorths_130 : decode cX6_laysWorths 130 = .ok (.aload_n 0, 1) := by decide +kernel
theorem dX6_laysWorths_131 : decode cX6_laysWorths 131 = .ok (.getfield 46, 3) := by decide +kernel
theorem dX6_laysWorths_134 : decode cX6_laysWorths 134 = .ok (.iload_n 2, 1) := by decide +kernel
theorem dX6_laysWorths_135 : decode cX6_laysWorths 135 = .ok (.iaload, 1) := by decide +kernel
theorem dX6_laysWorths_136 : decode cX6_laysWorths 136 = .ok (.dup2, 1) := by decide +kernel
theorem dX6_laysWorths_137 : decode cX6_laysWorths 137 = .ok (.laload, 1) := by decide +kernel
theorem dX6_laysWorths_138 : decode cX6_laysWorths 138 = .ok (.aload_n 0, 1) := by decide +kernel
theorem dX6_laysWorths_139 : decode cX6_laysWorths 139 = .ok (.getfield 49, 3) := by decide +kernel
theorem dX6_laysWorths_142 : decode cX6_laysWorths 142 = .ok (.iload_n 2, 1) := by decide +kernel
theorem dX6_laysWorths_143 : decode cX6_laysWorths 143 = .ok (.baload, 1) := by decide +kernel
theorem dX6_laysWorths_144 : decode cX6_laysWorths 144 = .ok (.ifCond .eq 9, 3) := by decide +kernel
theorem dX6_laysWorths_147 : decode cX6_laysWorths 147 = .ok (.ldc2_w 103, 3) := by decide +kernel
theorem dX6_laysWorths_150 : decode cX6_laysWorths 150 = .ok (.goto 4, 3) := by decide +kernel
theorem dX6_laysWorths_153 : decode cX6_laysWorths 153 = .ok (.lconst 0, 1) := by decide +kernel
theorem dX6_laysWorths_154 : decode cX6_laysWorths 154 = .ok (.ladd, 1) := by decide +kernel
theorem dX6_laysWorths_155 : decode cX6_laysWorths 155 = .ok (.lastore, 1) := by decide +kernel
theorem dX6_laysWorths_156 : decode cX6_laysWorths 156 = .ok (.aload_n 0, 1) := by decide +kernel
theorem dX6_laysWorths_157 : decode cX6_laysWorths 157 = .ok (.getfield 33, 3) := by decide +kernel
theorem dX6_laysWorths_160 : decode cX6_laysWorths 160 = .ok (.aload_n 0, 1) := by decide +kernel
theorem dX6_laysWorths_161 : decode cX6_laysWorths 161 = .ok (.getfield 46, 3) := by decide +kernel
theorem dX6_laysWorths_164 : decode cX6_laysWorths 164 = .ok (.iload_n 2, 1) := by decide +kernel
theorem dX6_laysWorths_165 : decode cX6_laysWorths 165 = .ok (.iaload, 1) := by decide +kernel
theorem dX6_laysWorths_166 : decode cX6_laysWorths 166 = .ok (.dup2, 1) := by decide +kernel
theorem dX6_laysWorths_167 : decode cX6_laysWorths 167 = .ok (.iaload, 1) := by decide +kernel
theorem dX6_laysWorths_168 : decode cX6_laysWorths 168 = .ok (.iconst 1, 1) := by decide +kernel
theorem dX6_laysWorths_169 : decode cX6_laysWorths 169 = .ok (.iadd, 1) := by decide +kernel
theorem dX6_laysWorths_170 : decode cX6_laysWorths 170 = .ok (.iastore, 1) := by decide +kernel
theorem dX6_laysWorths_171 : decode cX6_laysWorths 171 = .ok (.iinc 2 1, 3) := by decide +kernel
theorem dX6_laysWorths_174 : decode cX6_laysWorths 174 = .ok (.goto (-56), 3) := by decide +kernel
theorem dX6_laysWorths_177 : decode cX6_laysWorths 177 = .ok (.iconst 0, 1) := by decide +kernel
theorem dX6_laysWorths_178 : decode cX6_laysWorths 178 = .ok (.istore_n 2, 1) := by decide +kernel
theorem dX6_laysWorths_179 : decode cX6_laysWorths 179 = .ok (.iload_n 2, 1) := by decide +kernel
theorem dX6_laysWorths_180 : decode cX6_laysWorths 180 = .ok (.sipush 1296, 3) := by decide +kernel
theorem dX6_laysWorths_183 : decode cX6_laysWorths 183 = .ok (.if_icmp .ge 43, 3) := by decide +kernel
theorem dX6_laysWorths_186 : decode cX6_laysWorths 186 = .ok (.aload_n 0, 1) := by decide +kernel
theorem dX6_laysWorths_187 : decode cX6_laysWorths 187 = .ok (.getfield 26, 3) := by decide +kernel
theorem dX6_laysWorths_190 : decode cX6_laysWorths 190 = .ok (.iload_n 2, 1) := by decide +kernel
theorem dX6_laysWorths_191 : decode cX6_laysWorths 191 = .ok (.aload_n 0, 1) := by decide +kernel
theorem dX6_laysWorths_192 : decode cX6_laysWorths 192 = .ok (.getfield 33, 3) := by decide +kernel
theorem dX6_laysWorths_195 : decode cX6_laysWorths 195 = .ok (.iload_n 2, 1) := by decide +kernel
theorem dX6_laysWorths_196 : decode cX6_laysWorths 196 = .ok (.iaload, 1) := by decide +kernel
theorem dX6_laysWorths_197 : decode cX6_laysWorths 197 = .ok (.ifCond .ne 7, 3) := by decide +kernel
theorem dX6_laysWorths_200 : decode cX6_laysWorths 200 = .ok (.iconst 0, 1) := by decide +kernel
theorem dX6_laysWorths_201 : decode cX6_laysWorths 201 = .ok (.goto 18, 3) := by decide +kernel
theorem dX6_laysWorths_204 : decode cX6_laysWorths 204 = .ok (.aload_n 0, 1) := by decide +kernel
theorem dX6_laysWorths_205 : decode cX6_laysWorths 205 = .ok (.getfield 29, 3) := by decide +kernel
theorem dX6_laysWorths_208 : decode cX6_laysWorths 208 = .ok (.iload_n 2, 1) := by decide +kernel
theorem dX6_laysWorths_209 : decode cX6_laysWorths 209 = .ok (.laload, 1) := by decide +kernel
theorem dX6_laysWorths_210 : decode cX6_laysWorths 210 = .ok (.aload_n 0, 1) := by decide +kernel
theorem dX6_laysWorths_211 : decode cX6_laysWorths 211 = .ok (.getfield 33, 3) := by decide +kernel
theorem dX6_laysWorths_214 : decode cX6_laysWorths 214 = .ok (.iload_n 2, 1) := by decide +kernel
theorem dX6_laysWorths_215 : decode cX6_laysWorths 215 = .ok (.iaload, 1) := by decide +kernel
theorem dX6_laysWorths_216 : decode cX6_laysWorths 216 = .ok (.i2l, 1) := by decide +kernel
theorem dX6_laysWorths_217 : decode cX6_laysWorths 217 = .ok (.ldiv, 1) := by decide +kernel
theorem dX6_laysWorths_218 : decode cX6_laysWorths 218 = .ok (.l2i, 1) := by decide +kernel
theorem dX6_laysWorths_219 : decode cX6_laysWorths 219 = .ok (.iastore, 1) := by decide +kernel
theorem dX6_laysWorths_220 : decode cX6_laysWorths 220 = .ok (.iinc 2 1, 3) := by decide +kernel
theorem dX6_laysWorths_223 : decode cX6_laysWorths 223 = .ok (.goto (-44), 3) := by decide +kernel
theorem dX6_laysWorths_226 : decode cX6_laysWorths 226 = .ok (.iinc 1 1, 3) := by decide +kernel
theorem dX6_laysWorths_229 : decode cX6_laysWorths 229 = .ok (.goto (-205), 3) := by decide +kernel
theorem dX6_laysWorths_232 : decode cX6_laysWorths 232 = .ok (.return_, 1) := by decide +kernel
set_option maxRecDepth 20000 in
theorem ggX6_worth_X6_isCode : GoodIn wsX6_worth wsX6_isCode := goodIn_r _ [6] (by decide +kernel) (by decide +kernel)
set_option maxRecDepth 20000 in
theorem gX6_worth_X6_isCode : GoodIn wsX6_worth (va_wsS RX6 70 yX6_isCode wsX6_isCode) := goodIn_app (goodIn_of _ (by decide +kernel)) ggX6_worth_X6_isCode
set_option maxRecDepth 20000 in
theorem ggX6_worth_X6_goes : GoodIn wsX6_worth wsX6_goes := goodIn_r _ [10, 11, 25, 26, 27, 28, 29, 30, 31, 32, 33, 34, 35, 36, 37, 38, 39, 40, 41, 42] (by decide +kernel) (by decide +kernel)
set_option maxRecDepth 20000 in
theorem gX6_worth_X6_goes : GoodIn wsX6_worth (wsV RX6 74 RX6 yX6_goes wsX6_goes) := goodIn_app (goodIn_of _ (by decide +kernel)) ggX6_worth_X6_goes
set_option maxRecDepth 20000 in
theorem ggX6_worth_X6_laysWorths : GoodIn wsX6_worth wsX6_laysWorths := goodIn_r _ [15, 1, 16, 17, 18, 19, 20, 21, 22, 23, 24, 25, 26, 27, 28, 29, 30, 31, 32, 33, 34, 35, 36, 37, 38, 39, 40, 41, 42] (by decide +kernel) (by decide +kernel)
set_option maxRecDepth 20000 in
theorem gX6_worth_X6_laysWorths : GoodIn wsX6_worth (wsV RX6 105 RX6 yX6_laysWorths wsX6_laysWorths) := goodIn_app (goodIn_of _ (by decide +kernel)) ggX6_worth_X6_laysWorths
theorem dX6_worth_0 : decode cX6_worth 0 = .ok (.aload_n 0, 1) := by decide +kernel
theorem dX6_worth_1 : decode cX6_worth 1 = .ok (.iload_n 1, 1) := by decide +kernel
theorem dX6_worth_2 : decode cX6_worth 2 = .ok (.invokestatic 70, 3) := by decide +kernel
theorem dX6_worth_5 : decode cX6_worth 5 = .ok (.ifCond .eq 7, 3) := by decide +kernel
theorem dX6_worth_8 : decode cX6_worth 8 = .ok (.iconst 0, 1) := by decide +kernel
theorem dX6_worth_9 : decode cX6_worth 9 = .ok (.goto 4, 3) := by decide +kernel
theorem dX6_worth_12 : decode cX6_worth 12 = .ok (.iconst 1, 1) := by decide +kernel
theorem dX6_worth_13 : decode cX6_worth 13 = .ok (.invokevirtual 74, 3) := by decide +kernel
theorem dX6_worth_16 : decode cX6_worth 16 = .ok (.ifCond .ne 5, 3) := by decide +kernel
theorem dX6_worth_19 : decode cX6_worth 19 = .ok (.iconst 0, 1) := by decide +kernel
theorem dX6_worth_20 : decode cX6_worth 20 = .ok (.ireturn, 1) := by decide +kernel
theorem dX6_worth_21 : decode cX6_worth 21 = .ok (.aload_n 0, 1) := by decide +kernel
theorem dX6_worth_22 : decode cX6_worth 22 = .ok (.invokevirtual 105, 3) := by decide +kernel
theorem dX6_worth_25 : decode cX6_worth 25 = .ok (.aload_n 0, 1) := by decide +kernel
theorem dX6_worth_26 : decode cX6_worth 26 = .ok (.getfield 26, 3) := by decide +kernel
theorem dX6_worth_29 : decode cX6_worth 29 = .ok (.aload_n 0, 1) := by decide +kernel
theorem dX6_worth_30 : decode cX6_worth 30 = .ok (.getfield 7, 3) := by decide +kernel
theorem dX6_worth_33 : decode cX6_worth 33 = .ok (.iload_n 1, 1) := by decide +kernel
theorem dX6_worth_34 : decode cX6_worth 34 = .ok (.iaload, 1) := by decide +kernel
theorem dX6_worth_35 : decode cX6_worth 35 = .ok (.iaload, 1) := by decide +kernel
theorem dX6_worth_36 : decode cX6_worth 36 = .ok (.ireturn, 1) := by decide +kernel
theorem dX6_isAnyRight_0 : decode cX6_isAnyRight 0 = .ok (.iconst 0, 1) := by decide +kernel
theorem dX6_isAnyRight_1 : decode cX6_isAnyRight 1 = .ok (.istore_n 1, 1) := by decide +kernel
theorem dX6_isAnyRight_2 : decode cX6_isAnyRight 2 = .ok (.iconst 0, 1) := by decide +kernel
theorem dX6_isAnyRight_3 : decode cX6_isAnyRight 3 = .ok (.istore_n 2, 1) := by decide +kernel
theorem dX6_isAnyRight_4 : decode cX6_isAnyRight 4 = .ok (.iload_n 2, 1) := by decide +kernel
theorem dX6_isAnyRight_5 : decode cX6_isAnyRight 5 = .ok (.aload_n 0, 1) := by decide +kernel
theorem dX6_isAnyRight_6 : decode cX6_isAnyRight 6 = .ok (.getfield 100, 3) := by decide +kernel
theorem dX6_isAnyRight_9 : decode cX6_isAnyRight 9 = .ok (.if_icmp .ge 28, 3) := by decide +kernel
theorem dX6_isAnyRight_12 : decode cX6_isAnyRight 12 = .ok (.iload_n 1, 1) := by decide +kernel
theorem dX6_isAnyRight_13 : decode cX6_isAnyRight 13 = .ok (.ifCond .ne 12, 3) := by decide +kernel
theorem dX6_isAnyRight_16 : decode cX6_isAnyRight 16 = .ok (.aload_n 0, 1) := by decide +kernel
theorem dX6_isAnyRight_17 : decode cX6_isAnyRight 17 = .ok (.getfield 49, 3) := by decide +kernel
theorem dX6_isAnyRight_20 : decode cX6_isAnyRight 20 = .ok (.iload_n 2, 1) := by decide +kernel
theorem dX6_isAnyRight_21 : decode cX6_isAnyRight 21 = .ok (.baload, 1) := by decide +kernel
theorem dX6_isAnyRight_22 : decode cX6_isAnyRight 22 = .ok (.ifCond .eq 7, 3) := by decide +kernel
theorem dX6_isAnyRight_25 : decode cX6_isAnyRight 25 = .ok (.iconst 1, 1) := by decide +kernel
theorem dX6_isAnyRight_26 : decode cX6_isAnyRight 26 = .ok (.goto 4, 3) := by decide +kernel
theorem dX6_isAnyRight_29 : decode cX6_isAnyRight 29 = .ok (.iconst 0, 1) := by decide +kernel
theorem dX6_isAnyRight_30 : decode cX6_isAnyRight 30 = .ok (.istore_n 1, 1) := by decide +kernel
theorem dX6_isAnyRight_31 : decode cX6_isAnyRight 31 = .ok (.iinc 2 1, 3) := by decide +kernel
theorem dX6_isAnyRight_34 : decode cX6_isAnyRight 34 = .ok (.goto (-30), 3) := by decide +kernel
theorem dX6_isAnyRight_37 : decode cX6_isAnyRight 37 = .ok (.iload_n 1, 1) := by decide +kernel
theorem dX6_isAnyRight_38 : decode cX6_isAnyRight 38 = .ok (.ireturn, 1) := by decide +kernel
set_option maxRecDepth 20000 in
theorem ggX6_steps_X6_isCode : GoodIn wsX6_steps wsX6_isCode := goodIn_r _ [6] (by decide +kernel) (by decide +kernel)
set_option maxRecDepth 20000 in
theorem gX6_steps_X6_isCode : GoodIn wsX6_steps (va_wsS RX6 70 yX6_isCode wsX6_isCode) := goodIn_app (goodIn_of _ (by decide +kernel)) ggX6_steps_X6_isCode
set_option maxRecDepth 20000 in
theorem ggX6_steps_X6_isAnyRight : GoodIn wsX6_steps wsX6_isAnyRight := goodIn_r _ [10, 11, 12, 30, 31, 32, 33, 34, 35, 36, 37, 38, 39, 40, 41, 42, 43, 44, 45, 46, 47] (by decide +kernel) (by decide +kernel)
set_option maxRecDepth 20000 in
theorem gX6_steps_X6_isAnyRight : GoodIn wsX6_steps (wsV RX6 108 RX6 yX6_isAnyRight wsX6_isAnyRight) := goodIn_app (goodIn_of _ (by decide +kernel)) ggX6_steps_X6_isAnyRight
set_option maxRecDepth 20000 in
theorem ggX6_steps_X6_goes : GoodIn wsX6_steps wsX6_goes := goodIn_r _ [16, 17, 30, 31, 32, 33, 34, 35, 36, 37, 38, 39, 40, 41, 42, 43, 44, 45, 46, 47] (by decide +kernel) (by decide +kernel)
set_option maxRecDepth 20000 in
theorem gX6_steps_X6_goes : GoodIn wsX6_steps (wsV RX6 74 RX6 yX6_goes wsX6_goes) := goodIn_app (goodIn_of _ (by decide +kernel)) ggX6_steps_X6_goes
set_option maxRecDepth 20000 in
theorem ggX6_steps_X6_goesInward : GoodIn wsX6_steps wsX6_goesInward := goodIn_r _ [21, 1, 22, 2, 23, 24, 25, 5, 26, 27, 28, 29, 30, 31, 32, 33, 34, 35, 36, 37, 38, 39, 40, 41, 42, 43, 44, 45, 46, 47] (by decide +kernel) (by decide +kernel)
set_option maxRecDepth 20000 in
theorem gX6_steps_X6_goesInward : GoodIn wsX6_steps (wsV RX6 85 RX6 yX6_goesInward wsX6_goesInward) := goodIn_app (goodIn_of _ (by decide +kernel)) ggX6_steps_X6_goesInward
theorem dX6_steps_0 : decode cX6_steps 0 = .ok (.aload_n 0, 1) := by decide +kernel
theorem dX6_steps_1 : decode cX6_steps 1 = .ok (.iload_n 1, 1) := by decide +kernel
theorem dX6_steps_2 : decode cX6_steps 2 = .ok (.invokestatic 70, 3) := by decide +kernel
theorem dX6_steps_5 : decode cX6_steps 5 = .ok (.ifCond .ne 7, 3) := by decide +kernel
theorem dX6_steps_8 : decode cX6_steps 8 = .ok (.iconst 1, 1) := by decide +kernel
theorem dX6_steps_9 : decode cX6_steps 9 = .ok (.goto 15, 3) := by decide +kernel
theorem dX6_steps_12 : decode cX6_steps 12 = .ok (.aload_n 0, 1) := by decide +kernel
theorem dX6_steps_13 : decode cX6_steps 13 = .ok (.invokevirtual 108, 3) := by decide +kernel
theorem dX6_steps_16 : decode cX6_steps 16 = .ok (.ifCond .eq 7, 3) := by decide +kernel
theorem dX6_steps_19 : decode cX6_steps 19 = .ok (.iconst 0, 1) := by decide +kernel
theorem dX6_steps_20 : decode cX6_steps 20 = .ok (.goto 4, 3) := by decide +kernel
theorem dX6_steps_23 : decode cX6_steps 23 = .ok (.iconst 2, 1) := by decide +kernel
theorem dX6_steps_24 : decode cX6_steps 24 = .ok (.invokevirtual 74, 3) := by decide +kernel
theorem dX6_steps_27 : decode cX6_steps 27 = .ok (.ifCond .ne 5, 3) := by decide +kernel
theorem dX6_steps_30 : decode cX6_steps 30 = .ok (.iconst 0, 1) := by decide +kernel
theorem dX6_steps_31 : decode cX6_steps 31 = .ok (.ireturn, 1) := by decide +kernel
theorem dX6_steps_32 : decode cX6_steps 32 = .ok (.aload_n 0, 1) := by decide +kernel
theorem dX6_steps_33 : decode cX6_steps 33 = .ok (.iconst (-1), 1) := by decide +kernel
theorem dX6_steps_34 : decode cX6_steps 34 = .ok (.invokevirtual 85, 3) := by decide +kernel
theorem dX6_steps_37 : decode cX6_steps 37 = .ok (.aload_n 0, 1) := by decide +kernel
theorem dX6_steps_38 : decode cX6_steps 38 = .ok (.getfield 16, 3) := by decide +kernel
theorem dX6_steps_41 : decode cX6_steps 41 = .ok (.aload_n 0, 1) := by decide +kernel
theorem dX6_steps_42 : decode cX6_steps 42 = .ok (.getfield 7, 3) := by decide +kernel
theorem dX6_steps_45 : decode cX6_steps 45 = .ok (.iload_n 1, 1) := by decide +kernel
theorem dX6_steps_46 : decode cX6_steps 46 = .ok (.iaload, 1) := by decide +kernel
theorem dX6_steps_47 : decode cX6_steps 47 = .ok (.iaload, 1) := by decide +kernel
theorem dX6_steps_48 : decode cX6_steps 48 = .ok (.ireturn, 1) := by decide +kernel
set_option maxRecDepth 20000 in
theorem ggX6_hinted_X6_edited : GoodIn wsX6_hinted wsX6_edited := goodIn_r _ [7, 8, 9, 10, 6, 11, 12, 13, 14, 15, 16, 17, 18, 19, 20, 21, 22, 23, 24, 25, 26, 27, 28, 29] (by decide +kernel) (by decide +kernel)
set_option maxRecDepth 20000 in
theorem gX6_hinted_X6_edited : GoodIn wsX6_hinted (wsV RX6 77 RX6 yX6_edited wsX6_edited) := goodIn_app (goodIn_of _ (by decide +kernel)) ggX6_hinted_X6_edited
theorem dX6_hinted_0 : decode cX6_hinted 0 = .ok (.iconst (-1), 1) := by decide +kernel
theorem dX6_hinted_1 : decode cX6_hinted 1 = .ok (.istore_n 2, 1) := by decide +kernel
theorem dX6_hinted_2 : decode cX6_hinted 2 = .ok (.iconst 0, 1) := by decide +kernel
theorem dX6_hinted_3 : decode cX6_hinted 3 = .ok (.istore_n 3, 1) := by decide +kernel
theorem dX6_hinted_4 : decode cX6_hinted 4 = .ok (.iload_n 3, 1) := by decide +kernel
theorem dX6_hinted_5 : decode cX6_hinted 5 = .ok (.bipush 24, 2) := by decide +kernel
theorem dX6_hinted_7 : decode cX6_hinted 7 = .ok (.if_icmp .ge 109, 3) := by decide +kernel
theorem dX6_hinted_10 : decode cX6_hinted 10 = .ok (.aload_n 0, 1) := by decide +kernel
theorem dX6_hinted_11 : decode cX6_hinted 11 = .ok (.iload_n 1, 1) := by decide +kernel
theorem dX6_hinted_12 : decode cX6_hinted 12 = .ok (.iload_n 3, 1) := by decide +kernel
theorem dX6_hinted_13 : decode cX6_hinted 13 = .ok (.invokevirtual 77, 3) := by decide +kernel
theorem dX6_hinted_16 : decode cX6_hinted 16 = .ok (.istore 4, 2) := by decide +kernel
theorem dX6_hinted_18 : decode cX6_hinted 18 = .ok (.aload_n 0, 1) := by decide +kernel
theorem dX6_hinted_19 : decode cX6_hinted 19 = .ok (.getfield 16, 3) := by decide +kernel
end
section
theorem dX6_hinted_22 : decode cX6_hinted 22 = .ok (.iload 4, 2) := by decide +kernel
theorem dX6_hinted_24 : decode cX6_hinted 24 = .ok (.iaload, 1) := by decide +kernel
theorem dX6_hinted_25 : decode cX6_hinted 25 = .ok (.aload_n 0, 1) := by decide +kernel
theorem dX6_hinted_26 : decode cX6_hinted 26 = .ok (.getfield 16, 3) := by decide +kernel
theorem dX6_hinted_29 : decode cX6_hinted 29 = .ok (.iload_n 1, 1) := by decide +kernel
theorem dX6_hinted_30 : decode cX6_hinted 30 = .ok (.iaload, 1) := by decide +kernel
theorem dX6_hinted_31 : decode cX6_hinted 31 = .ok (.iconst 1, 1) := by decide +kernel
theorem dX6_hinted_32 : decode cX6_hinted 32 = .ok (.isub, 1) := by decide +kernel
theorem dX6_hinted_33 : decode cX6_hinted 33 = .ok (.if_icmp .ne 7, 3) := by decide +kernel
theorem dX6_hinted_36 : decode cX6_hinted 36 = .ok (.iconst 1, 1) := by decide +kernel
theorem dX6_hinted_37 : decode cX6_hinted 37 = .ok (.goto 4, 3) := by decide +kernel
theorem dX6_hinted_40 : decode cX6_hinted 40 = .ok (.iconst 0, 1) := by decide +kernel
theorem dX6_hinted_41 : decode cX6_hinted 41 = .ok (.istore 5, 2) := by decide +kernel
theorem dX6_hinted_43 : decode cX6_hinted 43 = .ok (.iload_n 2, 1) := by decide +kernel
theorem dX6_hinted_44 : decode cX6_hinted 44 = .ok (.iconst (-1), 1) := by decide +kernel
theorem dX6_hinted_45 : decode cX6_hinted 45 = .ok (.if_icmp .eq 41, 3) := by decide +kernel
theorem dX6_hinted_48 : decode cX6_hinted 48 = .ok (.aload_n 0, 1) := by decide +kernel
theorem dX6_hinted_49 : decode cX6_hinted 49 = .ok (.getfield 26, 3) := by decide +kernel
theorem dX6_hinted_52 : decode cX6_hinted 52 = .ok (.iload 4, 2) := by decide +kernel
theorem dX6_hinted_54 : decode cX6_hinted 54 = .ok (.iaload, 1) := by decide +kernel
theorem dX6_hinted_55 : decode cX6_hinted 55 = .ok (.aload_n 0, 1) := by decide +kernel
theorem dX6_hinted_56 : decode cX6_hinted 56 = .ok (.getfield 26, 3) := by decide +kernel
theorem dX6_hinted_59 : decode cX6_hinted 59 = .ok (.iload_n 2, 1) := by decide +kernel
theorem dX6_hinted_60 : decode cX6_hinted 60 = .ok (.iaload, 1) := by decide +kernel
theorem dX6_hinted_61 : decode cX6_hinted 61 = .ok (.if_icmp .gt 25, 3) := by decide +kernel
theorem dX6_hinted_64 : decode cX6_hinted 64 = .ok (.aload_n 0, 1) := by decide +kernel
theorem dX6_hinted_65 : decode cX6_hinted 65 = .ok (.getfield 26, 3) := by decide +kernel
theorem dX6_hinted_68 : decode cX6_hinted 68 = .ok (.iload 4, 2) := by decide +kernel
theorem dX6_hinted_70 : decode cX6_hinted 70 = .ok (.iaload, 1) := by decide +kernel
theorem dX6_hinted_71 : decode cX6_hinted 71 = .ok (.aload_n 0, 1) := by decide +kernel
theorem dX6_hinted_72 : decode cX6_hinted 72 = .ok (.getfield 26, 3) := by decide +kernel
theorem dX6_hinted_75 : decode cX6_hinted 75 = .ok (.iload_n 2, 1) := by decide +kernel
theorem dX6_hinted_76 : decode cX6_hinted 76 = .ok (.iaload, 1) := by decide +kernel
theorem dX6_hinted_77 : decode cX6_hinted 77 = .ok (.if_icmp .ne 13, 3) := by decide +kernel
theorem dX6_hinted_80 : decode cX6_hinted 80 = .ok (.iload 4, 2) := by decide +kernel
theorem dX6_hinted_82 : decode cX6_hinted 82 = .ok (.iload_n 2, 1) := by decide +kernel
theorem dX6_hinted_83 : decode cX6_hinted 83 = .ok (.if_icmp .ge 7, 3) := by decide +kernel
theorem dX6_hinted_86 : decode cX6_hinted 86 = .ok (.iconst 1, 1) := by decide +kernel
theorem dX6_hinted_87 : decode cX6_hinted 87 = .ok (.goto 4, 3) := by decide +kernel
theorem dX6_hinted_90 : decode cX6_hinted 90 = .ok (.iconst 0, 1) := by decide +kernel
theorem dX6_hinted_91 : decode cX6_hinted 91 = .ok (.istore 6, 2) := by decide +kernel
theorem dX6_hinted_93 : decode cX6_hinted 93 = .ok (.iload 5, 2) := by decide +kernel
theorem dX6_hinted_95 : decode cX6_hinted 95 = .ok (.ifCond .eq 13, 3) := by decide +kernel
theorem dX6_hinted_98 : decode cX6_hinted 98 = .ok (.iload 6, 2) := by decide +kernel
theorem dX6_hinted_100 : decode cX6_hinted 100 = .ok (.ifCond .eq 8, 3) := by decide +kernel
theorem dX6_hinted_103 : decode cX6_hinted 103 = .ok (.iload 4, 2) := by decide +kernel
theorem dX6_hinted_105 : decode cX6_hinted 105 = .ok (.goto 4, 3) := by decide +kernel
theorem dX6_hinted_108 : decode cX6_hinted 108 = .ok (.iload_n 2, 1) := by decide +kernel
theorem dX6_hinted_109 : decode cX6_hinted 109 = .ok (.istore_n 2, 1) := by decide +kernel
theorem dX6_hinted_110 : decode cX6_hinted 110 = .ok (.iinc 3 1, 3) := by decide +kernel
theorem dX6_hinted_113 : decode cX6_hinted 113 = .ok (.goto (-109), 3) := by decide +kernel
theorem dX6_hinted_116 : decode cX6_hinted 116 = .ok (.iload_n 2, 1) := by decide +kernel
theorem dX6_hinted_117 : decode cX6_hinted 117 = .ok (.ireturn, 1) := by decide +kernel
set_option maxRecDepth 20000 in
theorem ggX6_hint_X6_isCode : GoodIn wsX6_hint wsX6_isCode := goodIn_r _ [6] (by decide +kernel) (by decide +kernel)
set_option maxRecDepth 20000 in
theorem gX6_hint_X6_isCode : GoodIn wsX6_hint (va_wsS RX6 70 yX6_isCode wsX6_isCode) := goodIn_app (goodIn_of _ (by decide +kernel)) ggX6_hint_X6_isCode
set_option maxRecDepth 20000 in
theorem ggX6_hint_X6_isAnyRight : GoodIn wsX6_hint wsX6_isAnyRight := goodIn_r _ [10, 11, 12, 46, 47, 48, 49, 50, 51, 52, 53, 54, 55, 56, 57, 58, 59, 60, 61, 62, 63] (by decide +kernel) (by decide +kernel)
set_option maxRecDepth 20000 in
theorem gX6_hint_X6_isAnyRight : GoodIn wsX6_hint (wsV RX6 108 RX6 yX6_isAnyRight wsX6_isAnyRight) := goodIn_app (goodIn_of _ (by decide +kernel)) ggX6_hint_X6_isAnyRight
set_option maxRecDepth 20000 in
theorem ggX6_hint_X6_goes : GoodIn wsX6_hint wsX6_goes := goodIn_r _ [16, 17, 46, 47, 48, 49, 50, 51, 52, 53, 54, 55, 56, 57, 58, 59, 60, 61, 62, 63] (by decide +kernel) (by decide +kernel)
set_option maxRecDepth 20000 in
theorem gX6_hint_X6_goes : GoodIn wsX6_hint (wsV RX6 74 RX6 yX6_goes wsX6_goes) := goodIn_app (goodIn_of _ (by decide +kernel)) ggX6_hint_X6_goes
set_option maxRecDepth 20000 in
theorem ggX6_hint_X6_goesInward : GoodIn wsX6_hint wsX6_goesInward := goodIn_r _ [21, 22, 1, 2, 23, 24, 25, 5, 26, 27, 28, 29, 46, 47, 48, 49, 50, 51, 52, 53, 54, 55, 56, 57, 58, 59, 60, 61, 62, 63] (by decide +kernel) (by decide +kernel)
set_option maxRecDepth 20000 in
theorem gX6_hint_X6_goesInward : GoodIn wsX6_hint (wsV RX6 85 RX6 yX6_goesInward wsX6_goesInward) := goodIn_app (goodIn_of _ (by decide +kernel)) ggX6_hint_X6_goesInward
set_option maxRecDepth 20000 in
theorem ggX6_hint_X6_laysWorths : GoodIn wsX6_hint wsX6_laysWorths := goodIn_r _ [33, 34, 35, 36, 37, 38, 39, 11, 40, 12, 41, 46, 47, 48, 49, 50, 51, 52, 53, 54, 55, 56, 57, 58, 59, 60, 61, 62, 63] (by decide +kernel) (by decide +kernel)
set_option maxRecDepth 20000 in
theorem gX6_hint_X6_laysWorths : GoodIn wsX6_hint (wsV RX6 105 RX6 yX6_laysWorths wsX6_laysWorths) := goodIn_app (goodIn_of _ (by decide +kernel)) ggX6_hint_X6_laysWorths
set_option maxRecDepth 20000 in
theorem ggX6_hint_X6_hinted : GoodIn wsX6_hint wsX6_hinted := goodIn_r _ [45, 22, 34, 23, 24, 25, 5, 26, 2, 27, 28, 29, 46, 47, 48, 49, 50, 51, 52, 53, 54, 55, 56, 57, 58, 59, 60, 61, 62, 63] (by decide +kernel) (by decide +kernel)
set_option maxRecDepth 20000 in
theorem gX6_hint_X6_hinted : GoodIn wsX6_hint (wsV RX6 111 RX6 yX6_hinted wsX6_hinted) := goodIn_app (goodIn_of _ (by decide +kernel)) ggX6_hint_X6_hinted
theorem dX6_hint_0 : decode cX6_hint 0 = .ok (.aload_n 0, 1) := by decide +kernel
theorem dX6_hint_1 : decode cX6_hint 1 = .ok (.iload_n 1, 1) := by decide +kernel
theorem dX6_hint_2 : decode cX6_hint 2 = .ok (.invokestatic 70, 3) := by decide +kernel
theorem dX6_hint_5 : decode cX6_hint 5 = .ok (.ifCond .ne 7, 3) := by decide +kernel
theorem dX6_hint_8 : decode cX6_hint 8 = .ok (.iconst 1, 1) := by decide +kernel
theorem dX6_hint_9 : decode cX6_hint 9 = .ok (.goto 33, 3) := by decide +kernel
theorem dX6_hint_12 : decode cX6_hint 12 = .ok (.aload_n 0, 1) := by decide +kernel
theorem dX6_hint_13 : decode cX6_hint 13 = .ok (.invokevirtual 108, 3) := by decide +kernel
theorem dX6_hint_16 : decode cX6_hint 16 = .ok (.ifCond .ne 7, 3) := by decide +kernel
theorem dX6_hint_19 : decode cX6_hint 19 = .ok (.iconst 2, 1) := by decide +kernel
theorem dX6_hint_20 : decode cX6_hint 20 = .ok (.goto 22, 3) := by decide +kernel
theorem dX6_hint_23 : decode cX6_hint 23 = .ok (.aload_n 0, 1) := by decide +kernel
theorem dX6_hint_24 : decode cX6_hint 24 = .ok (.getfield 23, 3) := by decide +kernel
theorem dX6_hint_27 : decode cX6_hint 27 = .ok (.aload_n 0, 1) := by decide +kernel
theorem dX6_hint_28 : decode cX6_hint 28 = .ok (.getfield 7, 3) := by decide +kernel
theorem dX6_hint_31 : decode cX6_hint 31 = .ok (.iload_n 1, 1) := by decide +kernel
theorem dX6_hint_32 : decode cX6_hint 32 = .ok (.iaload, 1) := by decide +kernel
theorem dX6_hint_33 : decode cX6_hint 33 = .ok (.baload, 1) := by decide +kernel
theorem dX6_hint_34 : decode cX6_hint 34 = .ok (.ifCond .eq 7, 3) := by decide +kernel
theorem dX6_hint_37 : decode cX6_hint 37 = .ok (.iconst 3, 1) := by decide +kernel
theorem dX6_hint_38 : decode cX6_hint 38 = .ok (.goto 4, 3) := by decide +kernel
theorem dX6_hint_41 : decode cX6_hint 41 = .ok (.iconst 0, 1) := by decide +kernel
theorem dX6_hint_42 : decode cX6_hint 42 = .ok (.invokevirtual 74, 3) := by decide +kernel
theorem dX6_hint_45 : decode cX6_hint 45 = .ok (.ifCond .ne 5, 3) := by decide +kernel
theorem dX6_hint_48 : decode cX6_hint 48 = .ok (.iconst 0, 1) := by decide +kernel
theorem dX6_hint_49 : decode cX6_hint 49 = .ok (.ireturn, 1) := by decide +kernel
theorem dX6_hint_50 : decode cX6_hint 50 = .ok (.aload_n 0, 1) := by decide +kernel
theorem dX6_hint_51 : decode cX6_hint 51 = .ok (.iconst (-1), 1) := by decide +kernel
theorem dX6_hint_52 : decode cX6_hint 52 = .ok (.invokevirtual 85, 3) := by decide +kernel
theorem dX6_hint_55 : decode cX6_hint 55 = .ok (.aload_n 0, 1) := by decide +kernel
theorem dX6_hint_56 : decode cX6_hint 56 = .ok (.invokevirtual 105, 3) := by decide +kernel
theorem dX6_hint_59 : decode cX6_hint 59 = .ok (.aload_n 0, 1) := by decide +kernel
theorem dX6_hint_60 : decode cX6_hint 60 = .ok (.aload_n 0, 1) := by decide +kernel
theorem dX6_hint_61 : decode cX6_hint 61 = .ok (.getfield 7, 3) := by decide +kernel
theorem dX6_hint_64 : decode cX6_hint 64 = .ok (.iload_n 1, 1) := by decide +kernel
theorem dX6_hint_65 : decode cX6_hint 65 = .ok (.iaload, 1) := by decide +kernel
theorem dX6_hint_66 : decode cX6_hint 66 = .ok (.invokevirtual 111, 3) := by decide +kernel
theorem dX6_hint_69 : decode cX6_hint 69 = .ok (.ireturn, 1) := by decide +kernel
set_option maxRecDepth 20000 in
theorem ggX6_lead_X6_isCode : GoodIn wsX6_lead wsX6_isCode := goodIn_r _ [6] (by decide +kernel) (by decide +kernel)
set_option maxRecDepth 20000 in
theorem gX6_lead_X6_isCode : GoodIn wsX6_lead (va_wsS RX6 70 yX6_isCode wsX6_isCode) := goodIn_app (goodIn_of _ (by decide +kernel)) ggX6_lead_X6_isCode
set_option maxRecDepth 20000 in
theorem ggX6_lead_X6_isAnyRight : GoodIn wsX6_lead wsX6_isAnyRight := goodIn_r _ [10, 11, 12, 46, 47, 48, 49, 50, 51, 52, 53, 54, 55, 56, 57, 58, 59, 60, 61, 62, 63] (by decide +kernel) (by decide +kernel)
set_option maxRecDepth 20000 in
theorem gX6_lead_X6_isAnyRight : GoodIn wsX6_lead (wsV RX6 108 RX6 yX6_isAnyRight wsX6_isAnyRight) := goodIn_app (goodIn_of _ (by decide +kernel)) ggX6_lead_X6_isAnyRight
set_option maxRecDepth 20000 in
theorem ggX6_lead_X6_goes : GoodIn wsX6_lead wsX6_goes := goodIn_r _ [16, 17, 46, 47, 48, 49, 50, 51, 52, 53, 54, 55, 56, 57, 58, 59, 60, 61, 62, 63] (by decide +kernel) (by decide +kernel)
set_option maxRecDepth 20000 in
theorem gX6_lead_X6_goes : GoodIn wsX6_lead (wsV RX6 74 RX6 yX6_goes wsX6_goes) := goodIn_app (goodIn_of _ (by decide +kernel)) ggX6_lead_X6_goes
set_option maxRecDepth 20000 in
theorem ggX6_lead_X6_goesInward : GoodIn wsX6_lead wsX6_goesInward := goodIn_r _ [21, 22, 2, 1, 23, 24, 25, 5, 26, 27, 28, 29, 46, 47, 48, 49, 50, 51, 52, 53, 54, 55, 56, 57, 58, 59, 60, 61, 62, 63] (by decide +kernel) (by decide +kernel)
set_option maxRecDepth 20000 in
theorem gX6_lead_X6_goesInward : GoodIn wsX6_lead (wsV RX6 85 RX6 yX6_goesInward wsX6_goesInward) := goodIn_app (goodIn_of _ (by decide +kernel)) ggX6_lead_X6_goesInward
set_option maxRecDepth 20000 in
theorem ggX6_lead_X6_laysWorths : GoodIn wsX6_lead wsX6_laysWorths := goodIn_r _ [33, 34, 35, 36, 37, 38, 39, 11, 40, 12, 41, 46, 47, 48, 49, 50, 51, 52, 53, 54, 55, 56, 57, 58, 59, 60, 61, 62, 63] (by decide +kernel) (by decide +kernel)
set_option maxRecDepth 20000 in
theorem gX6_lead_X6_laysWorths : GoodIn wsX6_lead (wsV RX6 105 RX6 yX6_laysWorths wsX6_laysWorths) := goodIn_app (goodIn_of _ (by decide +kernel)) ggX6_lead_X6_laysWorths
set_option maxRecDepth 20000 in
theorem ggX6_lead_X6_hinted : GoodIn wsX6_lead wsX6_hinted := goodIn_r _ [45, 22, 34, 23, 24, 25, 5, 26, 1, 27, 28, 29, 46, 47, 48, 49, 50, 51, 52, 53, 54, 55, 56, 57, 58, 59, 60, 61, 62, 63] (by decide +kernel) (by decide +kernel)
set_option maxRecDepth 20000 in
theorem gX6_lead_X6_hinted : GoodIn wsX6_lead (wsV RX6 111 RX6 yX6_hinted wsX6_hinted) := goodIn_app (goodIn_of _ (by decide +kernel)) ggX6_lead_X6_hinted
theorem dX6_lead_0 : decode cX6_lead 0 = .ok (.aload_n 0, 1) := by decide +kernel
theorem dX6_lead_1 : decode cX6_lead 1 = .ok (.iload_n 1, 1) := by decide +kernel
theorem dX6_lead_2 : decode cX6_lead 2 = .ok (.invokestatic 70, 3) := by decide +kernel
theorem dX6_lead_5 : decode cX6_lead 5 = .ok (.ifCond .ne 7, 3) := by decide +kernel
theorem dX6_lead_8 : decode cX6_lead 8 = .ok (.iconst 1, 1) := by decide +kernel
theorem dX6_lead_9 : decode cX6_lead 9 = .ok (.goto 15, 3) := by decide +kernel
theorem dX6_lead_12 : decode cX6_lead 12 = .ok (.aload_n 0, 1) := by decide +kernel
theorem dX6_lead_13 : decode cX6_lead 13 = .ok (.invokevirtual 108, 3) := by decide +kernel
theorem dX6_lead_16 : decode cX6_lead 16 = .ok (.ifCond .eq 7, 3) := by decide +kernel
theorem dX6_lead_19 : decode cX6_lead 19 = .ok (.iconst 0, 1) := by decide +kernel
theorem dX6_lead_20 : decode cX6_lead 20 = .ok (.goto 4, 3) := by decide +kernel
theorem dX6_lead_23 : decode cX6_lead 23 = .ok (.iconst 2, 1) := by decide +kernel
theorem dX6_lead_24 : decode cX6_lead 24 = .ok (.invokevirtual 74, 3) := by decide +kernel
theorem dX6_lead_27 : decode cX6_lead 27 = .ok (.ifCond .ne 5, 3) := by decide +kernel
theorem dX6_lead_30 : decode cX6_lead 30 = .ok (.iconst 0, 1) := by decide +kernel
theorem dX6_lead_31 : decode cX6_lead 31 = .ok (.ireturn, 1) := by decide +kernel
theorem dX6_lead_32 : decode cX6_lead 32 = .ok (.aload_n 0, 1) := by decide +kernel
theorem dX6_lead_33 : decode cX6_lead 33 = .ok (.iconst (-1), 1) := by decide +kernel
theorem dX6_lead_34 : decode cX6_lead 34 = .ok (.invokevirtual 85, 3) := by decide +kernel
theorem dX6_lead_37 : decode cX6_lead 37 = .ok (.aload_n 0, 1) := by decide +kernel
theorem dX6_lead_38 : decode cX6_lead 38 = .ok (.invokevirtual 105, 3) := by decide +kernel
theorem dX6_lead_41 : decode cX6_lead 41 = .ok (.aload_n 0, 1) := by decide +kernel
theorem dX6_lead_42 : decode cX6_lead 42 = .ok (.getfield 7, 3) := by decide +kernel
theorem dX6_lead_45 : decode cX6_lead 45 = .ok (.iload_n 1, 1) := by decide +kernel
theorem dX6_lead_46 : decode cX6_lead 46 = .ok (.iaload, 1) := by decide +kernel
theorem dX6_lead_47 : decode cX6_lead 47 = .ok (.istore_n 2, 1) := by decide +kernel
theorem dX6_lead_48 : decode cX6_lead 48 = .ok (.aload_n 0, 1) := by decide +kernel
theorem dX6_lead_49 : decode cX6_lead 49 = .ok (.getfield 23, 3) := by decide +kernel
theorem dX6_lead_52 : decode cX6_lead 52 = .ok (.iload_n 2, 1) := by decide +kernel
theorem dX6_lead_53 : decode cX6_lead 53 = .ok (.baload, 1) := by decide +kernel
theorem dX6_lead_54 : decode cX6_lead 54 = .ok (.ifCond .ne 12, 3) := by decide +kernel
theorem dX6_lead_57 : decode cX6_lead 57 = .ok (.aload_n 0, 1) := by decide +kernel
theorem dX6_lead_58 : decode cX6_lead 58 = .ok (.iload_n 2, 1) := by decide +kernel
theorem dX6_lead_59 : decode cX6_lead 59 = .ok (.invokevirtual 111, 3) := by decide +kernel
theorem dX6_lead_62 : decode cX6_lead 62 = .ok (.istore_n 2, 1) := by decide +kernel
theorem dX6_lead_63 : decode cX6_lead 63 = .ok (.goto (-15), 3) := by decide +kernel
theorem dX6_lead_66 : decode cX6_lead 66 = .ok (.iload_n 2, 1) := by decide +kernel
theorem dX6_lead_67 : decode cX6_lead 67 = .ok (.ireturn, 1) := by decide +kernel
set_option maxRecDepth 20000 in
theorem ggX6_nearest_X6_isCode : GoodIn wsX6_nearest wsX6_isCode := goodIn_r _ [8] (by decide +kernel) (by decide +kernel)
set_option maxRecDepth 20000 in
theorem gX6_nearest_X6_isCode : GoodIn wsX6_nearest (va_wsS RX6 70 yX6_isCode wsX6_isCode) := goodIn_app (goodIn_of _ (by decide +kernel)) ggX6_nearest_X6_isCode
set_option maxRecDepth 20000 in
theorem ggX6_nearest_X6_goes : GoodIn wsX6_nearest wsX6_goes := goodIn_r _ [12, 13, 25, 26, 27, 28, 29, 30, 31, 32, 33, 34, 35, 36, 37, 38, 39, 40, 41, 42] (by decide +kernel) (by decide +kernel)
set_option maxRecDepth 20000 in
theorem gX6_nearest_X6_goes : GoodIn wsX6_nearest (wsV RX6 74 RX6 yX6_goes wsX6_goes) := goodIn_app (goodIn_of _ (by decide +kernel)) ggX6_nearest_X6_goes
set_option maxRecDepth 20000 in
theorem ggX6_nearest_X6_goesOutward : GoodIn wsX6_nearest wsX6_goesOutward := goodIn_r _ [17, 4, 18, 19, 20, 7, 21, 2, 22, 23, 24, 25, 26, 27, 28, 29, 30, 31, 32, 33, 34, 35, 36, 37, 38, 39, 40, 41, 42] (by decide +kernel) (by decide +kernel)
set_option maxRecDepth 20000 in
theorem gX6_nearest_X6_goesOutward : GoodIn wsX6_nearest (wsV RX6 81 RX6 yX6_goesOutward wsX6_goesOutward) := goodIn_app (goodIn_of _ (by decide +kernel)) ggX6_nearest_X6_goesOutward
theorem dX6_nearest_0 : decode cX6_nearest 0 = .ok (.aload_n 0, 1) := by decide +kernel
theorem dX6_nearest_1 : decode cX6_nearest 1 = .ok (.iload_n 1, 1) := by decide +kernel
theorem dX6_nearest_2 : decode cX6_nearest 2 = .ok (.invokestatic 70, 3) := by decide +kernel
theorem dX6_nearest_5 : decode cX6_nearest 5 = .ok (.ifCond .ne 7, 3) := by decide +kernel
theorem dX6_nearest_8 : decode cX6_nearest 8 = .ok (.iconst 1, 1) := by decide +kernel
theorem dX6_nearest_9 : decode cX6_nearest 9 = .ok (.goto 15, 3) := by decide +kernel
theorem dX6_nearest_12 : decode cX6_nearest 12 = .ok (.aload_n 0, 1) := by decide +kernel
theorem dX6_nearest_13 : decode cX6_nearest 13 = .ok (.getfield 88, 3) := by decide +kernel
theorem dX6_nearest_16 : decode cX6_nearest 16 = .ok (.ifCond .le 7, 3) := by decide +kernel
theorem dX6_nearest_19 : decode cX6_nearest 19 = .ok (.iconst 0, 1) := by decide +kernel
theorem dX6_nearest_20 : decode cX6_nearest 20 = .ok (.goto 4, 3) := by decide +kernel
theorem dX6_nearest_23 : decode cX6_nearest 23 = .ok (.iconst 2, 1) := by decide +kernel
theorem dX6_nearest_24 : decode cX6_nearest 24 = .ok (.invokevirtual 74, 3) := by decide +kernel
theorem dX6_nearest_27 : decode cX6_nearest 27 = .ok (.ifCond .ne 5, 3) := by decide +kernel
theorem dX6_nearest_30 : decode cX6_nearest 30 = .ok (.iconst 0, 1) := by decide +kernel
theorem dX6_nearest_31 : decode cX6_nearest 31 = .ok (.ireturn, 1) := by decide +kernel
theorem dX6_nearest_32 : decode cX6_nearest 32 = .ok (.aload_n 0, 1) := by decide +kernel
theorem dX6_nearest_33 : decode cX6_nearest 33 = .ok (.aload_n 0, 1) := by decide +kernel
theorem dX6_nearest_34 : decode cX6_nearest 34 = .ok (.getfield 7, 3) := by decide +kernel
theorem dX6_nearest_37 : decode cX6_nearest 37 = .ok (.iload_n 1, 1) := by decide +kernel
theorem dX6_nearest_38 : decode cX6_nearest 38 = .ok (.iaload, 1) := by decide +kernel
theorem dX6_nearest_39 : decode cX6_nearest 39 = .ok (.invokevirtual 81, 3) := by decide +kernel
theorem dX6_nearest_42 : decode cX6_nearest 42 = .ok (.iconst (-1), 1) := by decide +kernel
theorem dX6_nearest_43 : decode cX6_nearest 43 = .ok (.istore_n 2, 1) := by decide +kernel
theorem dX6_nearest_44 : decode cX6_nearest 44 = .ok (.iconst 0, 1) := by decide +kernel
theorem dX6_nearest_45 : decode cX6_nearest 45 = .ok (.istore_n 3, 1) := by decide +kernel
theorem dX6_nearest_46 : decode cX6_nearest 46 = .ok (.iload_n 3, 1) := by decide +kernel
theorem dX6_nearest_47 : decode cX6_nearest 47 = .ok (.sipush 1296, 3) := by decide +kernel
theorem dX6_nearest_50 : decode cX6_nearest 50 = .ok (.if_icmp .ge 44, 3) := by decide +kernel
theorem dX6_nearest_53 : decode cX6_nearest 53 = .ok (.aload_n 0, 1) := by decide +kernel
theorem dX6_nearest_54 : decode cX6_nearest 54 = .ok (.getfield 19, 3) := by decide +kernel
theorem dX6_nearest_57 : decode cX6_nearest 57 = .ok (.iload_n 3, 1) := by decide +kernel
theorem dX6_nearest_58 : decode cX6_nearest 58 = .ok (.baload, 1) := by decide +kernel
theorem dX6_nearest_59 : decode cX6_nearest 59 = .ok (.ifCond .eq 27, 3) := by decide +kernel
theorem dX6_nearest_62 : decode cX6_nearest 62 = .ok (.iload_n 2, 1) := by decide +kernel
theorem dX6_nearest_63 : decode cX6_nearest 63 = .ok (.iconst (-1), 1) := by decide +kernel
theorem dX6_nearest_64 : decode cX6_nearest 64 = .ok (.if_icmp .eq 18, 3) := by decide +kernel
theorem dX6_nearest_67 : decode cX6_nearest 67 = .ok (.aload_n 0, 1) := by decide +kernel
theorem dX6_nearest_68 : decode cX6_nearest 68 = .ok (.getfield 16, 3) := by decide +kernel
theorem dX6_nearest_71 : decode cX6_nearest 71 = .ok (.iload_n 3, 1) := by decide +kernel
theorem dX6_nearest_72 : decode cX6_nearest 72 = .ok (.iaload, 1) := by decide +kernel
theorem dX6_nearest_73 : decode cX6_nearest 73 = .ok (.aload_n 0, 1) := by decide +kernel
theorem dX6_nearest_74 : decode cX6_nearest 74 = .ok (.getfield 16, 3) := by decide +kernel
theorem dX6_nearest_77 : decode cX6_nearest 77 = .ok (.iload_n 2, 1) := by decide +kernel
theorem dX6_nearest_78 : decode cX6_nearest 78 = .ok (.iaload, 1) := by decide +kernel
theorem dX6_nearest_79 : decode cX6_nearest 79 = .ok (.if_icmp .ge 7, 3) := by decide +kernel
theorem dX6_nearest_82 : decode cX6_nearest 82 = .ok (.iload_n 3, 1) := by decide +kernel
theorem dX6_nearest_83 : decode cX6_nearest 83 = .ok (.goto 4, 3) := by decide +kernel
theorem dX6_nearest_86 : decode cX6_nearest 86 = .ok (.iload_n 2, 1) := by decide +kernel
theorem dX6_nearest_87 : decode cX6_nearest 87 = .ok (.istore_n 2, 1) := by decide +kernel
theorem dX6_nearest_88 : decode cX6_nearest 88 = .ok (.iinc 3 1, 3) := by decide +kernel
theorem dX6_nearest_91 : decode cX6_nearest 91 = .ok (.goto (-45), 3) := by decide +kernel
theorem dX6_nearest_94 : decode cX6_nearest 94 = .ok (.iload_n 2, 1) := by decide +kernel
theorem dX6_nearest_95 : decode cX6_nearest 95 = .ok (.ireturn, 1) := by decide +kernel
end
section
section NKA
variable {p : Program} {l : Launch} {e : Env} {R : Room} {s : State} {m : MethodId} {args : Array Value} {below : List Frame} {meth : Method} {c : Code} {H : Heap} {locs : List Loc} {cells slots : Nat} {Q : State → Prop}
variable {cc : ByteArray} {pc : Nat} {ls : Array Slot} {rest : List Value}
/-- the top of the stack by another name -/
theorem n_top {x y : Int32} (h : x = y) (k : W p l e R s m args below meth c H locs cells slots Q (F0 m pc ls (.int y :: rest))) : W p l e R s m args below meth c H locs cells slots Q (F0 m pc ls (.int x :: rest)) := by rw [h]; exact k
theorem n_nameQ {g : JFrame} (k : ∀ Q' : State → Prop, Q' = Q → W p l e R s m args below meth c H locs cells slots Q' g) : W p l e R s m args below meth c H locs cells slots Q g := k Q rfl
theorem n_add (hexec : p.tables.exec = Jvm.exec) (hb : c.code = cc) {a b : Nat} (hdg : decode cc pc = .ok (.iadd, 1)) (k : W p l e R s m args below meth c H locs cells slots Q (F0 m (pc + 1) ls (.int (nI (a + b)) :: rest))) : W p l e R s m args below meth c H locs cells slots Q (F0 m pc ls (.int (nI b) :: .int (nI a) :: rest)) := lv_iadd hexec hb hdg (n_top (nI_add a b) k)
theorem n_sub (hexec : p.tables.exec = Jvm.exec) (hb : c.code = cc) {a b : Nat} (hdg : decode cc pc = .ok (.isub, 1)) (h : b ≤ a) (k : W p l e R s m args below meth c H locs cells slots Q (F0 m (pc + 1) ls (.int (nI (a - b)) :: rest))) : W p l e R s m args below meth c H locs cells slots Q (F0 m pc ls (.int (nI b) :: .int (nI a) :: rest)) := lv_isub hexec hb hdg (n_top (pk_sub h) k)
theorem n_mul (hexec : p.tables.exec = Jvm.exec) (hb : c.code = cc) {a b : Nat} (hdg : decode cc pc = .ok (.imul, 1)) (k : W p l e R s m args below meth c H locs cells slots Q (F0 m (pc + 1) ls (.int (nI (a * b)) :: rest))) : W p l e R s m args below meth c H locs cells slots Q (F0 m pc ls (.int (nI b) :: .int (nI a) :: rest)) := lv_imul hexec hb hdg (n_top (pk_mul a b) k)
theorem n_div (hexec : p.tables.exec = Jvm.exec) (hb : c.code = cc) {a b : Nat} (hdg : decode cc pc = .ok (.idiv, 1)) (ha : a < 2147483648) (h0 : 0 < b) (hb2 : b < 2147483648) (k : W p l e R s m args below meth c H locs cells slots Q (F0 m (pc + 1) ls (.int (nI (a / b)) :: rest))) : W p l e R s m args below meth c H locs cells slots Q (F0 m pc ls (.int (nI b) :: .int (nI a) :: rest)) := lv_idiv hexec hb hdg (nI_ne0 h0 hb2) (n_top (pk_div ha h0 hb2) k)
theorem n_rem (hexec : p.tables.exec = Jvm.exec) (hb : c.code = cc) {a b : Nat} (hdg : decode cc pc = .ok (.irem, 1)) (ha : a < 2147483648) (h0 : 0 < b) (hb2 : b < 2147483648) (k : W p l e R s m args below meth c H locs cells slots Q (F0 m (pc + 1) ls (.int (nI (a % b)) :: rest))) : W p l e R s m args below meth c H locs cells slots Q (F0 m pc ls (.int (nI b) :: .int (nI a) :: rest)) := lv_irem hexec hb hdg (nI_ne0 h0 hb2) (n_top (pk_rem ha h0 hb2) k)
theorem n_inc1 (a : Nat) : nI a + Int32.ofInt 1 = nI (a + 1) := nI_1 a
theorem n_dec1 (a : Nat) : nI (a + 1) + Int32.ofInt (-1) = nI a := pk_m1 a
theorem n_z : nI 0 = 0 := nI_0
theorem n_icmp_ge (hexec : p.tables.exec = Jvm.exec) (hb : c.code = cc) {a b : Nat} {off : Int} {tgt : Nat} (hdg : decode cc pc = .ok (.if_icmp .ge off, 3)) (ht : (pc : Int) + off = (tgt : Int)) (ha : a < 2147483648) (hb2 : b < 2147483648)
    (kt : b ≤ a → W p l e R s m args below meth c H locs cells slots Q (F0 m tgt ls rest)) (kf : a < b → W p l e R s m args below meth c H locs cells slots Q (F0 m (pc + 3) ls rest)) : W p l e R s m args below meth c H locs cells slots Q (F0 m pc ls (.int (nI b) :: .int (nI a) :: rest)) :=
  lv_icmp_ge hexec hb hdg ht (fun h => kt ((nI_leI hb2 ha).mp h)) (fun h => kf (Nat.lt_of_not_le (fun q => h ((nI_leI hb2 ha).mpr q))))
theorem n_icmp_lt (hexec : p.tables.exec = Jvm.exec) (hb : c.code = cc) {a b : Nat} {off : Int} {tgt : Nat} (hdg : decode cc pc = .ok (.if_icmp .lt off, 3)) (ht : (pc : Int) + off = (tgt : Int)) (ha : a < 2147483648) (hb2 : b < 2147483648)
    (kt : a < b → W p l e R s m args below meth c H locs cells slots Q (F0 m tgt ls rest)) (kf : b ≤ a → W p l e R s m args below meth c H locs cells slots Q (F0 m (pc + 3) ls rest)) : W p l e R s m args below meth c H locs cells slots Q (F0 m pc ls (.int (nI b) :: .int (nI a) :: rest)) :=
  lv_icmp_lt hexec hb hdg ht (fun h => kt ((nI_ltI ha hb2).mp h)) (fun h => kf (Nat.le_of_not_lt (fun q => h ((nI_ltI ha hb2).mpr q))))
theorem n_icmp_gt (hexec : p.tables.exec = Jvm.exec) (hb : c.code = cc) {a b : Nat} {off : Int} {tgt : Nat} (hdg : decode cc pc = .ok (.if_icmp .gt off, 3)) (ht : (pc : Int) + off = (tgt : Int)) (ha : a < 2147483648) (hb2 : b < 2147483648)
    (kt : b < a → W p l e R s m args below meth c H locs cells slots Q (F0 m tgt ls rest)) (kf : a ≤ b → W p l e R s m args below meth c H locs cells slots Q (F0 m (pc + 3) ls rest)) : W p l e R s m args below meth c H locs cells slots Q (F0 m pc ls (.int (nI b) :: .int (nI a) :: rest)) :=
  lv_icmp_gt hexec hb hdg ht (fun h => kt ((nI_ltI hb2 ha).mp h)) (fun h => kf (Nat.le_of_not_lt (fun q => h ((nI_ltI hb2 ha).mpr q))))
theorem n_icmp_le (hexec : p.tables.exec = Jvm.exec) (hb : c.code = cc) {a b : Nat} {off : Int} {tgt : Nat} (hdg : decode cc pc = .ok (.if_icmp .le off, 3)) (ht : (pc : Int) + off = (tgt : Int)) (ha : a < 2147483648) (hb2 : b < 2147483648)
    (kt : a ≤ b → W p l e R s m args below meth c H locs cells slots Q (F0 m tgt ls rest)) (kf : b < a → W p l e R s m args below meth c H locs cells slots Q (F0 m (pc + 3) ls rest)) : W p l e R s m args below meth c H locs cells slots Q (F0 m pc ls (.int (nI b) :: .int (nI a) :: rest)) :=
  lv_icmp_le hexec hb hdg ht (fun h => kt ((nI_leI ha hb2).mp h)) (fun h => kf (Nat.lt_of_not_le (fun q => h ((nI_leI ha hb2).mpr q))))
theorem n_icmp_eq (hexec : p.tables.exec = Jvm.exec) (hb : c.code = cc) {a b : Nat} {off : Int} {tgt : Nat} (hdg : decode cc pc = .ok (.if_icmp .eq off, 3)) (ht : (pc : Int) + off = (tgt : Int)) (ha : a < 2147483648) (hb2 : b < 2147483648)
    (kt : a = b → W p l e R s m args below meth c H locs cells slots Q (F0 m tgt ls rest)) (kf : a ≠ b → W p l e R s m args below meth c H locs cells slots Q (F0 m (pc + 3) ls rest)) : W p l e R s m args below meth c H locs cells slots Q (F0 m pc ls (.int (nI b) :: .int (nI a) :: rest)) :=
  lv_icmp_eq hexec hb hdg ht (fun h => kt ((nI_eq ha hb2).mp h)) (fun h => kf (fun q => h ((nI_eq ha hb2).mpr q)))
theorem n_icmp_ne (hexec : p.tables.exec = Jvm.exec) (hb : c.code = cc) {a b : Nat} {off : Int} {tgt : Nat} (hdg : decode cc pc = .ok (.if_icmp .ne off, 3)) (ht : (pc : Int) + off = (tgt : Int)) (ha : a < 2147483648) (hb2 : b < 2147483648)
    (kt : a ≠ b → W p l e R s m args below meth c H locs cells slots Q (F0 m tgt ls rest)) (kf : a = b → W p l e R s m args below meth c H locs cells slots Q (F0 m (pc + 3) ls rest)) : W p l e R s m args below meth c H locs cells slots Q (F0 m pc ls (.int (nI b) :: .int (nI a) :: rest)) :=
  lv_icmp_ne hexec hb hdg ht (fun h => kt (fun q => h ((nI_eq ha hb2).mpr q))) (fun h => kf ((nI_eq ha hb2).mp h))
theorem n_eq0 {a : Nat} (ha : a < 2147483648) : nI a = 0 ↔ a = 0 := by rw [← nI_0]; exact nI_eq ha (by decide)
theorem n_ifeq (hexec : p.tables.exec = Jvm.exec) (hb : c.code = cc) {a : Nat} {off : Int} {tgt : Nat} (hdg : decode cc pc = .ok (.ifCond .eq off, 3)) (ht : (pc : Int) + off = (tgt : Int)) (ha : a < 2147483648)
    (kt : a = 0 → W p l e R s m args below meth c H locs cells slots Q (F0 m tgt ls rest)) (kf : a ≠ 0 → W p l e R s m args below meth c H locs cells slots Q (F0 m (pc + 3) ls rest)) : W p l e R s m args below meth c H locs cells slots Q (F0 m pc ls (.int (nI a) :: rest)) :=
  lv_if_eq hexec hb hdg ht (fun h => kt ((n_eq0 ha).mp h)) (fun h => kf (fun q => h ((n_eq0 ha).mpr q)))
theorem n_ifne (hexec : p.tables.exec = Jvm.exec) (hb : c.code = cc) {a : Nat} {off : Int} {tgt : Nat} (hdg : decode cc pc = .ok (.ifCond .ne off, 3)) (ht : (pc : Int) + off = (tgt : Int)) (ha : a < 2147483648)
    (kt : a ≠ 0 → W p l e R s m args below meth c H locs cells slots Q (F0 m tgt ls rest)) (kf : a = 0 → W p l e R s m args below meth c H locs cells slots Q (F0 m (pc + 3) ls rest)) : W p l e R s m args below meth c H locs cells slots Q (F0 m pc ls (.int (nI a) :: rest)) :=
  lv_if_ne hexec hb hdg ht (fun h => kt (fun q => h ((n_eq0 ha).mpr q))) (fun h => kf ((n_eq0 ha).mp h))
theorem n_iflt (hexec : p.tables.exec = Jvm.exec) (hb : c.code = cc) {a : Nat} {off : Int} {tgt : Nat} (hdg : decode cc pc = .ok (.ifCond .lt off, 3)) (ht : (pc : Int) + off = (tgt : Int)) (ha : a < 2147483648)
    (kf : W p l e R s m args below meth c H locs cells slots Q (F0 m (pc + 3) ls rest)) : W p l e R s m args below meth c H locs cells slots Q (F0 m pc ls (.int (nI a) :: rest)) :=
  lv_if_lt hexec hb hdg ht (fun h => absurd h (nI_pos ha)) (fun _ => kf)
theorem n_ifge (hexec : p.tables.exec = Jvm.exec) (hb : c.code = cc) {a : Nat} {off : Int} {tgt : Nat} (hdg : decode cc pc = .ok (.ifCond .ge off, 3)) (ht : (pc : Int) + off = (tgt : Int)) (ha : a < 2147483648)
    (kt : W p l e R s m args below meth c H locs cells slots Q (F0 m tgt ls rest)) : W p l e R s m args below meth c H locs cells slots Q (F0 m pc ls (.int (nI a) :: rest)) :=
  lv_if_ge hexec hb hdg ht (fun _ => kt) (fun h => absurd (nI_pos' ha) h)
theorem n_ifle (hexec : p.tables.exec = Jvm.exec) (hb : c.code = cc) {a : Nat} {off : Int} {tgt : Nat} (hdg : decode cc pc = .ok (.ifCond .le off, 3)) (ht : (pc : Int) + off = (tgt : Int)) (ha : a < 2147483648)
    (kt : a = 0 → W p l e R s m args below meth c H locs cells slots Q (F0 m tgt ls rest)) (kf : 0 < a → W p l e R s m args below meth c H locs cells slots Q (F0 m (pc + 3) ls rest)) : W p l e R s m args below meth c H locs cells slots Q (F0 m pc ls (.int (nI a) :: rest)) :=
  lv_if_le hexec hb hdg ht (fun h => kt (Decidable.byContradiction fun q => nI_nle (Nat.pos_of_ne_zero q) ha h)) (fun h => kf (Nat.pos_of_ne_zero (fun q => h (by rw [q]; decide))))
theorem n_ifgt (hexec : p.tables.exec = Jvm.exec) (hb : c.code = cc) {a : Nat} {off : Int} {tgt : Nat} (hdg : decode cc pc = .ok (.ifCond .gt off, 3)) (ht : (pc : Int) + off = (tgt : Int)) (ha : a < 2147483648)
    (kt : 0 < a → W p l e R s m args below meth c H locs cells slots Q (F0 m tgt ls rest)) (kf : a = 0 → W p l e R s m args below meth c H locs cells slots Q (F0 m (pc + 3) ls rest)) : W p l e R s m args below meth c H locs cells slots Q (F0 m pc ls (.int (nI a) :: rest)) :=
  lv_if_gt hexec hb hdg ht (fun h => kt (Nat.pos_of_ne_zero (fun q => absurd h (by rw [q]; decide)))) (fun h => kf (Decidable.byContradiction fun q => h ((nI_0 ▸ nI_lt (Nat.pos_of_ne_zero q) ha))))
variable {D : va_G} {cl : List vw_C} {A : Nat → Prop} {a : Nat} {tys : List (ClassId × FieldType)} {ws ws' : va_W} {H0 : Heap}
theorem n_iald (hexec : p.tables.exec = Jvm.exec) (hb : c.code = cc) (hK : va_K D cl tys s) (hP : va_P D cl ws H) (q0 t0 : Nat) {cA : ClassId} {n k : Nat} {f : Nat → Int32} (ha : ws[q0]? = some (a, .inl (cA, n, .inl f))) (ht : tys[t0]? = some (cA, .int)) (hk : k < n) (hn : n < 2147483648) (hdg : decode cc pc = .ok (.iaload, 1))
    (kk : W p l e R s m args below meth c H locs cells slots Q (F0 m (pc + 1) ls (.int (f k) :: rest))) : W p l e R s m args below meth c H locs cells slots Q (F0 m pc ls (.int (nI k) :: .ref a :: rest)) := by
  refine va_iald hexec hb hK hP q0 t0 ha ht (vp_in_nI hk hn) hdg ?_
  rw [nI_clamp (Nat.lt_trans hk hn)]
  exact kk
theorem n_iast (hexec : p.tables.exec = Jvm.exec) (hb : c.code = cc) (hK : va_K D cl tys s) (hP : va_P D cl ws H) (hD : va_D A ws) (hS : va_S A H0 H locs) (q0 t0 : Nat) {cA : ClassId} {n k : Nat} {f : Nat → Int32} (ha : ws[q0]? = some (a, .inl (cA, n, .inl f))) (ht : tys[t0]? = some (cA, .int)) (hk : k < n) (hn : n < 2147483648) {x : Int32} (hdg : decode cc pc = .ok (.iastore, 1)) (hw : ws.set q0 (a, .inl (cA, n, .inl (upd f k x))) = ws')
    (kk : ∀ (H1 : Heap) (locs1 : List Loc), va_P D cl ws' H1 → va_D A ws' → va_S A H0 H1 locs1 → W p l e R s m args below meth c H1 locs1 cells slots Q (F0 m (pc + 1) ls rest)) : W p l e R s m args below meth c H locs cells slots Q (F0 m pc ls (.int x :: .int (nI k) :: .ref a :: rest)) := by
  refine va_iast hexec hb hK hP hD hS q0 t0 ha ht (vp_in_nI hk hn) hdg (fun H1 locs1 h1 h2 h3 => ?_)
  rw [nI_clamp (Nat.lt_trans hk hn), hw] at h1 h2
  exact kk H1 locs1 h1 h2 h3
end NKA
section NKB
theorem n_arrV {cA : ClassId} {n : Nat} {f g : Nat → Value} (h : ∀ j, j < n → f j = g j) : arrV cA n f = arrV cA n g := by
  unfold arrV
  congr 1
  apply Array.ext
  · simp
  · intro i h1 h2
    simp only [Array.getElem_ofFn]
    exact h i (by simpa using h1)
theorem n_D {A : Nat → Prop} {ws ws' : va_W} (hD : va_D A ws) (h : ws'.map Prod.fst = ws.map Prod.fst) : va_D A ws' := by
  have key : ∀ (k : Nat) (q : Nat × va_E), ws'[k]? = some q → ∃ q', ws[k]? = some q' ∧ q'.1 = q.1 := fun k q hk => by
    have h1 : (ws'.map Prod.fst)[k]? = some q.1 := by rw [List.getElem?_map, hk]; rfl
    rw [h, List.getElem?_map] at h1
    cases hq : ws[k]? with
    | none => rw [hq] at h1; cases h1
    | some q' => rw [hq] at h1; exact ⟨q', rfl, Option.some.inj h1⟩
  refine ⟨fun i j p q hi hj he => ?_, fun k q hk => ?_⟩
  · obtain ⟨p', h1, e1⟩ := key i p hi
    obtain ⟨q', h2, e2⟩ := key j q hj
    exact hD.1 i j p' q' h1 h2 (by rw [e1, e2, he])
  · obtain ⟨q', h1, e1⟩ := key k q hk
    rw [← e1]; exact hD.2 k q' h1
/-- another function for what an int array holds -/
theorem n_cg {D : va_G} {cl : List vw_C} {A : Nat → Prop} {H : Heap} {ws ws' : va_W} (hP : va_P D cl ws H) (hD : va_D A ws) (q0 : Nat) {a : Nat} {cA : ClassId} {n : Nat} {f g : Nat → Int32} (ha : ws[q0]? = some (a, .inl (cA, n, .inl f))) (hg : ∀ j, j < n → f j = g j) (hw : ws.set q0 (a, .inl (cA, n, .inl g)) = ws') : va_P D cl ws' H ∧ va_D A ws' := by
  have hlt : q0 < ws.length := (List.getElem?_eq_some_iff.mp ha).1
  constructor
  · intro k q hk
    rw [← hw, List.getElem?_set] at hk
    by_cases h : q0 = k
    · subst h
      rw [if_pos rfl, if_pos hlt] at hk
      cases hk
      have h1 := hP q0 _ ha
      show H[a]? = some (arrV cA n (fun j => .int (g j)))
      rw [← n_arrV (f := fun j => .int (f j)) (fun j hj => by rw [hg j hj])]
      exact h1
    · rw [if_neg h] at hk
      exact hP k q hk
  · refine n_D hD ?_
    rw [← hw]
    apply List.ext_getElem?
    intro k
    rw [List.getElem?_map, List.getElem?_map, List.getElem?_set]
    by_cases h : q0 = k
    · subst h
      rw [if_pos rfl, if_pos hlt, ha]; rfl
    · rw [if_neg h]
theorem n_fm {α β : Type} {f : α → Option β} {is : List α} {l : List β} (h : is.map f = l.map some) : is.filterMap f = l := by
  induction is generalizing l with
  | nil => cases l with
    | nil => rfl
    | cons _ _ => cases h
  | cons i is ih => cases l with
    | nil => cases h
    | cons b l =>
      simp only [List.map_cons, List.cons.injEq] at h
      rw [List.filterMap_cons, h.1]
      exact congrArg (b :: ·) (ih h.2)
end NKB
/-- a method that reads: the world stays, the answer is r -/
def nRd (l : Launch) (y : MethodName) (ws : List Cond) (rm : Room) (d : va_G) (tys : List (ClassId × FieldType)) (WC : va_W) (av : List Value) (r : Value) : Prop :=
  Met l y ws rm (va_Pc av (fun U => va_P d vwCl WC U.heap ∧ va_K d vwCl tys U)) (fun _ st oc t => oc = .returned (some r) ∧ t.heap = st.heap) 0 0 (fun _ => False)
/-- a method that writes: the world WC becomes WC', no cell comes, the answer is r -/
def nUp (l : Launch) (y : MethodName) (ws : List Cond) (rm : Room) (d : va_G) (tys : List (ClassId × FieldType)) (WC WC' : va_W) (av : List Value) (r : Option Value) : Prop :=
  ∀ sz : Nat, Met l y ws rm (va_Pc av (fun U => U.heap.size = sz ∧ va_P d vwCl WC U.heap ∧ va_K d vwCl tys U ∧ va_D (fun _ => True) WC)) (fun _ st oc t => (oc = .returned r ∧ va_P d vwCl WC' t.heap ∧ va_D (va_A WC sz) WC') ∧ va_F (va_A WC sz) st t) 0 0 (va_A WC sz)
section NKC
variable {p : Program} {l : Launch} {e : Env} {R : Room} {s : State} {m : MethodId} {args : Array Value} {below : List Frame} {meth : Method} {c : Code} {H : Heap} {locs : List Loc} {cells slots : Nat} {Q : State → Prop}
variable {cc bytes : ByteArray} {pc : Nat} {ls : Array Slot} {rest st0 : List Value} {y : MethodName} {maxL nL n index : Nat} {ret : Option FieldType} {ws Ts : List Cond} {rm : Room} {own C : String} {b : Addr} {As : List Value}
variable {d : va_G} {tys : List (ClassId × FieldType)} {WC WC' WS WS' wr : va_W} {r : Value} {ro : Option Value} {A : Nat → Prop} {H0 : Heap}
theorem n_rdB {av : List Value} {W' : va_W} : FrameBlind (va_Pc av (fun U => va_P d vwCl W' U.heap ∧ va_K d vwCl tys U)) := fun a U g mk q => by obtain ⟨q0, qP, qK⟩ := q; exact ⟨q0, qP, va_K.moved (u := U) (U := U.calling g mk a) (Vm.Alike.refl U.vm) qK⟩
theorem n_upB {av : List Value} {W' : va_W} {sz : Nat} : FrameBlind (va_Pc av (fun U => U.heap.size = sz ∧ va_P d vwCl W' U.heap ∧ va_K d vwCl tys U ∧ va_D (fun _ => True) W')) := fun a U g mk q => by obtain ⟨q0, q1, qP, qK, qD⟩ := q; exact ⟨q0, q1, qP, va_K.moved (u := U) (U := U.calling g mk a) (Vm.Alike.refl U.vm) qK, qD⟩
theorem n_rdV (S : CallFix p m c cc nL s args Ts own) (hM : nRd l y ws rm d tys WC (.ref b :: As) r) (cw : CallW R s args own C index y bytes maxL ret ws rm 0 0 n)
    (hrecv : ∃ cell : Cell, H[b]? = some cell ∧ cell.vm.isStatics = false ∧ s.vm.findClass C = some cell.cls) (hP : va_P d vwCl WC H) (hK : va_K d vwCl tys s)
    (hn : As.length = n) (hsize : ls.size = nL) (hstack : st0 = As.reverse ++ .ref b :: rest) (hW : (rest.map fun v => v.category).sum ≤ 8) (hdg : decode cc pc = .ok (.invokevirtual index, 3)) (hf : cells + 0 ≤ R.cells ∧ slots + 0 ≤ R.slots)
    (kk : W p l e R s m args below meth c H locs cells slots Q (F0 m (pc + 3) ls (r :: rest))) : W p l e R s m args below meth c H locs cells slots Q (F0 m pc ls st0) := by
  have hr := W.runV (p := p) (l := l) (e := e) (below := below) (meth := meth) (locs := locs) (cells := cells) (slots := slots) (rest := rest) (g := F0 m pc ls st0) S hM cw ⟨n_rdB, hrecv, fun U hU hW => ⟨rfl, by rw [hU]; exact hP, va_K.moved hW.alike hK⟩⟩ rfl hn hsize hstack (lv_room hW) hdg hf
  intro T hT X
  obtain ⟨v, st₀, t, T', L, h0, X', hL, e1, ⟨hv, hh⟩, st⟩ := hr T hT X
  cases hv
  obtain ⟨t2, a1, b1⟩ := kk T' (by rw [e1, hh, h0]) (Stand.forget X' (fun q h => (hL q h).elim))
  exact ⟨t2, st t2 a1, b1⟩
theorem n_rdS (S : CallFix p m c cc nL s args Ts own) (hM : nRd l y ws rm d tys WC As r) (cw : CallB R s args own index y bytes maxL ret ws rm 0 0 n ∧ (Cond.static y).before args s = true)
    (hP : va_P d vwCl WC H) (hK : va_K d vwCl tys s)
    (hn : As.length = n) (hsize : ls.size = nL) (hstack : st0 = As.reverse ++ rest) (hW : (rest.map fun v => v.category).sum ≤ 8) (hdg : decode cc pc = .ok (.invokestatic index, 3)) (hf : cells + 0 ≤ R.cells ∧ slots + 0 ≤ R.slots)
    (kk : W p l e R s m args below meth c H locs cells slots Q (F0 m (pc + 3) ls (r :: rest))) : W p l e R s m args below meth c H locs cells slots Q (F0 m pc ls st0) := by
  have hr := W.runS (p := p) (l := l) (e := e) (below := below) (meth := meth) (H := H) (locs := locs) (cells := cells) (slots := slots) (rest := rest) (g := F0 m pc ls st0) S hM cw ⟨n_rdB, fun U hU hW => ⟨rfl, by rw [hU]; exact hP, va_K.moved hW.alike hK⟩⟩ rfl hn hsize hstack (lv_room hW) hdg hf
  intro T hT X
  obtain ⟨v, st₀, t, T', L, h0, X', hL, e1, ⟨hv, hh⟩, st⟩ := hr T hT X
  cases hv
  obtain ⟨t2, a1, b1⟩ := kk T' (by rw [e1, hh, h0]) (Stand.forget X' (fun q h => (hL q h).elim))
  exact ⟨t2, st t2 a1, b1⟩
/-- behind a call that writes: the caller's world -/
theorem n_back {T : State} {st0' t T' : State} {L : List Loc} (hP : va_P d vwCl WS H) (hD : va_D A WS) (hS : va_S A H0 H locs) (hA : ∀ q, H0.size ≤ q → A q) (isC isR pm : List Nat)
    (hC : isC.map (fun i => WS[i]?) = WC.map some) (hR : isR.map (fun i => WS[i]?) = wr.map some) (hnd : va_nd isR = true ∧ va_nd pm = true) (hdis : ∀ i ∈ isR, i ∉ isC) (hpm : pm.map (fun i => (wr ++ WC')[i]?) = WS'.map some)
    (h0 : st0'.heap = H) (hL : ∀ q ∈ L, va_A WC H.size q.base) (e1 : T'.heap = t.heap) (hp : va_P d vwCl WC' t.heap) (hd : va_D (va_A WC H.size) WC') (hF : va_F (va_A WC H.size) st0' t) : va_P d vwCl WS' T'.heap ∧ va_D A WS' ∧ va_S A H0 T'.heap (locs ++ L) := by
  have hFc := va_free hD hS hA isC hC
  obtain ⟨hz, hk⟩ := hF
  rw [h0] at hz hk
  have hj := va_join hP hD isC isR hC hR hnd.1 hdis hk hFc hp hd
  refine ⟨by rw [e1]; exact hj.1.sub pm (n_fm hpm), hj.2.sub pm hnd.2 hpm, ?_⟩
  exact ⟨Nat.le_trans hS.1 (by rw [e1]; exact hz), fun q h1 h2 => by rw [e1, hk q (Nat.lt_of_lt_of_le h1 hS.1) (fun z => h2 (hFc q z))]; exact hS.2.1 q h1 h2, fun q hq => by
      rcases List.mem_append.mp hq with h | h
      · exact hS.2.2 q h
      · exact hFc _ (hL q h)⟩
theorem n_upV (S : CallFix p m c cc nL s args Ts own) (hM : nUp l y ws rm d tys WC WC' (.ref b :: As) ro) (cw : CallW R s args own C index y bytes maxL ret ws rm 0 0 n)
    (hrecv : ∃ cell : Cell, H[b]? = some cell ∧ cell.vm.isStatics = false ∧ s.vm.findClass C = some cell.cls) (hP : va_P d vwCl WS H) (hD : va_D A WS) (hS : va_S A H0 H locs) (hA : ∀ q, H0.size ≤ q → A q) (hK : va_K d vwCl tys s) (isC isR pm : List Nat)
    (hC : isC.map (fun i => WS[i]?) = WC.map some) (hR : isR.map (fun i => WS[i]?) = wr.map some) (hnc : va_nd isC = true) (hnd : va_nd isR = true ∧ va_nd pm = true) (hdis : ∀ i ∈ isR, i ∉ isC) (hpm : pm.map (fun i => (wr ++ WC')[i]?) = WS'.map some)
    (hn : As.length = n) (hsize : ls.size = nL) (hstack : st0 = As.reverse ++ .ref b :: rest) (hW : (rest.map fun v => v.category).sum ≤ 8) (hdg : decode cc pc = .ok (.invokevirtual index, 3)) (hf : cells + 0 ≤ R.cells ∧ slots + 0 ≤ R.slots)
    (kk : ∀ (H1 : Heap) (locs1 : List Loc), va_P d vwCl WS' H1 → va_D A WS' → va_S A H0 H1 locs1 → W p l e R s m args below meth c H1 locs1 cells slots Q (F0 m (pc + 3) ls (ro.toList ++ rest))) : W p l e R s m args below meth c H locs cells slots Q (F0 m pc ls st0) := by
  have hPc : va_P d vwCl WC H := hP.sub isC (n_fm hC)
  have hDc : va_D (fun _ => True) WC := (hD.sub isC hnc hC).weaken (fun _ _ _ _ => trivial)
  have hr := W.runV (p := p) (l := l) (e := e) (below := below) (meth := meth) (locs := locs) (cells := cells) (slots := slots) (rest := rest) (g := F0 m pc ls st0) S (hM H.size) cw ⟨n_upB, hrecv, fun U hU hW => ⟨rfl, by rw [hU], by rw [hU]; exact hPc, va_K.moved hW.alike hK, hDc⟩⟩ rfl hn hsize hstack (lv_room hW) hdg hf
  intro T hT X
  obtain ⟨v, st₀, t, T', L, h0, X', hL, e1, ⟨⟨hv, hp, hd⟩, hF⟩, st⟩ := hr T hT X
  cases hv
  obtain ⟨g1, g2, g3⟩ := n_back (T := T) hP hD hS hA isC isR pm hC hR hnd hdis hpm h0 hL e1 hp hd hF
  obtain ⟨t2, a1, b1⟩ := kk T'.heap (locs ++ L) g1 g2 g3 T' rfl X'
  exact ⟨t2, st t2 a1, b1⟩
theorem n_upS (S : CallFix p m c cc nL s args Ts own) (hM : nUp l y ws rm d tys WC WC' As ro) (cw : CallB R s args own index y bytes maxL ret ws rm 0 0 n ∧ (Cond.static y).before args s = true)
    (hP : va_P d vwCl WS H) (hD : va_D A WS) (hS : va_S A H0 H locs) (hA : ∀ q, H0.size ≤ q → A q) (hK : va_K d vwCl tys s) (isC isR pm : List Nat)
    (hC : isC.map (fun i => WS[i]?) = WC.map some) (hR : isR.map (fun i => WS[i]?) = wr.map some) (hnc : va_nd isC = true) (hnd : va_nd isR = true ∧ va_nd pm = true) (hdis : ∀ i ∈ isR, i ∉ isC) (hpm : pm.map (fun i => (wr ++ WC')[i]?) = WS'.map some)
    (hn : As.length = n) (hsize : ls.size = nL) (hstack : st0 = As.reverse ++ rest) (hW : (rest.map fun v => v.category).sum ≤ 8) (hdg : decode cc pc = .ok (.invokestatic index, 3)) (hf : cells + 0 ≤ R.cells ∧ slots + 0 ≤ R.slots)
    (kk : ∀ (H1 : Heap) (locs1 : List Loc), va_P d vwCl WS' H1 → va_D A WS' → va_S A H0 H1 locs1 → W p l e R s m args below meth c H1 locs1 cells slots Q (F0 m (pc + 3) ls (ro.toList ++ rest))) : W p l e R s m args below meth c H locs cells slots Q (F0 m pc ls st0) := by
  have hPc : va_P d vwCl WC H := hP.sub isC (n_fm hC)
  have hDc : va_D (fun _ => True) WC := (hD.sub isC hnc hC).weaken (fun _ _ _ _ => trivial)
  have hr := W.runS (p := p) (l := l) (e := e) (below := below) (meth := meth) (H := H) (locs := locs) (cells := cells) (slots := slots) (rest := rest) (g := F0 m pc ls st0) S (hM H.size) cw ⟨n_upB, fun U hU hW => ⟨rfl, by rw [hU], by rw [hU]; exact hPc, va_K.moved hW.alike hK, hDc⟩⟩ rfl hn hsize hstack (lv_room hW) hdg hf
  intro T hT X
  obtain ⟨v, st₀, t, T', L, h0, X', hL, e1, ⟨⟨hv, hp, hd⟩, hF⟩, st⟩ := hr T hT X
  cases hv
  obtain ⟨g1, g2, g3⟩ := n_back (T := T) hP hD hS hA isC isR pm hC hR hnd hdis hpm h0 hL e1 hp hd hF
  obtain ⟨t2, a1, b1⟩ := kk T'.heap (locs ++ L) g1 g2 g3 T' rfl X'
  exact ⟨t2, st t2 a1, b1⟩
end NKC
end
section
set_option maxHeartbeats 4000000 in
set_option maxRecDepth 100000 in
/-- an index within -/
theorem c_X2_holds (l : Launch) (d : va_G) (cI : ClassId) (q a n : Nat) (f : Nat → Int32) (k : Nat) (hk : k < n) (hn : n < 2147483648) : nRd l yX2_holds wsX2_holds ({ frames := 0, cells := 0, slots := 0, locals := 0 } : Room) d [(cI, .int)] [(q, .inr (2, [.ref a])), (a, .inl (cI, n, .inl (f)))] [.ref q, .int (nI (k))] (.int (nI (1))) := by
  refine Met.ofW (cc := cX2_holds) (maxL := 2) (ret := some .boolean) (by decide) rfl ?_
  intro p e s m args below meth c s₁ B hml hv
  obtain ⟨rfl, hP, hK⟩ := hv
  have hx := B.exec
  have hb := B.bytes
  have hr := B.returns
  have hts := atoms_spec (ws := wsX2_holds) B.pre
  have hown : s.vm.findClass RX2 = some m.cls := findClass_of_methodNamed B.named
  have hlocks := B.notSynchronized
  have hfl7 := hts (.fieldLink RX2 7 "Nudgelane$Row" "cells" "[I") (by decide +kernel)
  have hin2 : ∀ w ∈ u_ws RX2 TX2 1, w ∈ wsX2_holds := by decide +kernel
  have hP : va_P d vwCl [(q, .inr (2, [.ref a])), (a, .inl (cI, n, .inl (f)))] s.heap := hP
  have hl := lv_entry ([.ref q, .int (nI (k))]) (n := 2) (Nat.le_of_ble_eq_true rfl)
  rw [lg_entry_eq]
  generalize (lg_sl ([.ref q, .int (nI (k))]) ++ List.replicate (2 - (lg_sl ([.ref q, .int (nI (k))])).length) Slot.unset).toArray = ls at hl ⊢
  have hl : lv_has ls 2 [(0, .ref q), (1, .int (nI (k)))] := hl
  refine lv_iload_n hx hb dX2_holds_0 rfl (lv_at hl 1 rfl) ?_
  refine n_iflt (tgt := 17) hx hb dX2_holds_1 (by decide) (by omega) ?_
  refine lv_iload_n hx hb dX2_holds_4 rfl (lv_at hl 1 rfl) ?_
  refine lv_aload_n hx hb dX2_holds_5 rfl (lv_at hl 0 rfl) ?_
  refine va_get (D := d) (ci := 2) (v := .ref a) (C := RX2) (T := TX2) (N := 1) hx hb hts hin2 hown hK hP 0 rfl rfl 0 (by decide) hfl7 (fun _ h9 => h9) rfl dX2_holds_6 ?_
  refine va_alen hx hb hK hP 1 0 rfl rfl (v := nI (n)) rfl dX2_holds_9 ?_
  refine n_icmp_ge (tgt := 17) hx hb dX2_holds_10 (by decide) (by omega) (by omega) (fun c_2 => ?_) (fun c_2 => ?_)
  · exact absurd c_2 (by omega)
  refine lv_iconst (v := nI (1)) hx hb dX2_holds_13 (by decide) ?_
  refine lv_goto (tgt := 18) hx hb dX2_holds_14 (by decide) ?_
  exact W.zret (v := (nI (1))) hx hb hr (rfl) (fun t ht hW => ⟨rfl, ht⟩) (fun q h => by cases h) dX2_holds_18

set_option maxHeartbeats 4000000 in
set_option maxRecDepth 100000 in
/-- reads -/
theorem c_X2_get (l : Launch) (d : va_G) (cI : ClassId) (q a n : Nat) (f : Nat → Int32) (k : Nat) (hk : k < n) (hn : n < 2147483648) : nRd l yX2_get wsX2_get ({ frames := 1, cells := 0, slots := 0, locals := 21 } : Room) d [(cI, .int)] [(q, .inr (2, [.ref a])), (a, .inl (cI, n, .inl (f)))] [.ref q, .int (nI (k))] (.int (f k)) := by
  refine Met.ofW (cc := cX2_get) (maxL := 2) (ret := some .int) (by decide) rfl ?_
  intro p e s m args below meth c s₁ B hml hv
  obtain ⟨rfl, hP, hK⟩ := hv
  have hx := B.exec
  have hb := B.bytes
  have hr := B.returns
  have hts := atoms_spec (ws := wsX2_get) B.pre
  have hown : s.vm.findClass RX2 = some m.cls := findClass_of_methodNamed B.named
  have hlocks := B.notSynchronized
  have hfl7 := hts (.fieldLink RX2 7 "Nudgelane$Row" "cells" "[I") (by decide +kernel)
  have hin2 : ∀ w ∈ u_ws RX2 TX2 1, w ∈ wsX2_get := by decide +kernel
  have hP : va_P d vwCl [(q, .inr (2, [.ref a])), (a, .inl (cI, n, .inl (f)))] s.heap := hP
  have hl := lv_entry ([.ref q, .int (nI (k))]) (n := 2) (Nat.le_of_ble_eq_true rfl)
  rw [lg_entry_eq]
  generalize (lg_sl ([.ref q, .int (nI (k))]) ++ List.replicate (2 - (lg_sl ([.ref q, .int (nI (k))])).length) Slot.unset).toArray = ls at hl ⊢
  have hl : lv_has ls 2 [(0, .ref q), (1, .int (nI (k)))] := hl
  refine lv_aload_n hx hb dX2_get_0 rfl (lv_at hl 0 rfl) ?_
  refine lv_iload_n hx hb dX2_get_1 rfl (lv_at hl 1 rfl) ?_
  refine n_rdV (As := [.int (nI (k))]) (rest := []) (WC := [(q, .inr (2, [.ref a])), (a, .inl (cI, n, .inl (f)))]) ⟨hx, hb, hml, hown, hts⟩ (c_X2_holds l d cI q a n f k hk hn) (cwV 1 hts gX2_get_X2_holds rfl rfl rfl (by decide +kernel) ⟨Nat.le_of_ble_eq_true rfl, Nat.le_of_ble_eq_true rfl⟩) (va_recv hK hP (ci := 2) (q0 := 0) rfl rfl) (hP.sub [0, 1] rfl) hK rfl hl.1 rfl (Nat.le_of_ble_eq_true rfl) dX2_get_2 ⟨Nat.zero_le _, Nat.zero_le _⟩ ?_
  refine n_ifeq (tgt := 17) hx hb dX2_get_5 (by decide) (by decide) (fun c_1 => ?_) (fun c_1 => ?_)
  · exact absurd c_1 (by decide)
  refine lv_aload_n hx hb dX2_get_8 rfl (lv_at hl 0 rfl) ?_
  refine va_get (D := d) (ci := 2) (v := .ref a) (C := RX2) (T := TX2) (N := 1) hx hb hts hin2 hown hK hP 0 rfl rfl 0 (by decide) hfl7 (fun _ h9 => h9) rfl dX2_get_9 ?_
  refine lv_iload_n hx hb dX2_get_12 rfl (lv_at hl 1 rfl) ?_
  refine n_iald hx hb hK hP 1 0 rfl rfl (k := k) (by omega) (by omega) dX2_get_13 ?_
  refine lv_goto (tgt := 18) hx hb dX2_get_14 (by decide) ?_
  exact W.iret (v := (f k)) hx hb hr (fun t ht hW => ⟨rfl, ht⟩) (fun q h => by cases h) dX2_get_18

set_option maxHeartbeats 4000000 in
set_option maxRecDepth 100000 in
/-- writes -/
theorem c_X2_set (l : Launch) (d : va_G) (cI : ClassId) (q a n : Nat) (f : Nat → Int32) (k : Nat) (x : Int32) (hk : k < n) (hn : n < 2147483648) : nUp l yX2_set wsX2_set ({ frames := 1, cells := 0, slots := 0, locals := 21 } : Room) d [(cI, .int)] [(q, .inr (2, [.ref a])), (a, .inl (cI, n, .inl (f)))] [(q, .inr (2, [.ref a])), (a, .inl (cI, n, .inl (upd f k x)))] [.ref q, .int (nI (k)), .int (x)] none := by
  intro sz
  refine Met.ofW (cc := cX2_set) (maxL := 3) (ret := none) (by decide) rfl ?_
  intro p e s m args below meth c s₁ B hml hv
  obtain ⟨rfl, hsz, hP, hK, hD0⟩ := hv
  have hx := B.exec
  have hb := B.bytes
  have hr := B.returns
  have hts := atoms_spec (ws := wsX2_set) B.pre
  have hown : s.vm.findClass RX2 = some m.cls := findClass_of_methodNamed B.named
  have hlocks := B.notSynchronized
  have hfl7 := hts (.fieldLink RX2 7 "Nudgelane$Row" "cells" "[I") (by decide +kernel)
  have hin2 : ∀ w ∈ u_ws RX2 TX2 1, w ∈ wsX2_set := by decide +kernel
  subst hsz
  have hD := hD0.self (sz := s.heap.size)
  generalize hAe : va_A [(q, .inr (2, [.ref a])), (a, .inl (cI, n, .inl (f)))] s.heap.size = A at hD ⊢
  have hA : ∀ q : Nat, s.heap.size ≤ q → A q := fun q h => by rw [← hAe]; exact Or.inr h
  have hS : va_S A s.heap s.heap [] := va_S.rf
  have hP : va_P d vwCl [(q, .inr (2, [.ref a])), (a, .inl (cI, n, .inl (f)))] s.heap := hP
  have hl := lv_entry ([.ref q, .int (nI (k)), .int (x)]) (n := 3) (Nat.le_of_ble_eq_true rfl)
  rw [lg_entry_eq]
  generalize (lg_sl ([.ref q, .int (nI (k)), .int (x)]) ++ List.replicate (3 - (lg_sl ([.ref q, .int (nI (k)), .int (x)])).length) Slot.unset).toArray = ls at hl ⊢
  have hl : lv_has ls 3 [(0, .ref q), (1, .int (nI (k))), (2, .int (x))] := hl
  refine lv_aload_n hx hb dX2_set_0 rfl (lv_at hl 0 rfl) ?_
  refine lv_iload_n hx hb dX2_set_1 rfl (lv_at hl 1 rfl) ?_
  refine n_rdV (As := [.int (nI (k))]) (rest := []) (WC := [(q, .inr (2, [.ref a])), (a, .inl (cI, n, .inl (f)))]) ⟨hx, hb, hml, hown, hts⟩ (c_X2_holds l d cI q a n f k hk hn) (cwV 1 hts gX2_set_X2_holds rfl rfl rfl (by decide +kernel) ⟨Nat.le_of_ble_eq_true rfl, Nat.le_of_ble_eq_true rfl⟩) (va_recv hK hP (ci := 2) (q0 := 0) rfl rfl) (hP.sub [0, 1] rfl) hK rfl hl.1 rfl (Nat.le_of_ble_eq_true rfl) dX2_set_2 ⟨Nat.zero_le _, Nat.zero_le _⟩ ?_
  refine n_ifeq (tgt := 15) hx hb dX2_set_5 (by decide) (by decide) (fun c_1 => ?_) (fun c_1 => ?_)
  · exact absurd c_1 (by decide)
  refine lv_aload_n hx hb dX2_set_8 rfl (lv_at hl 0 rfl) ?_
  refine va_get (D := d) (ci := 2) (v := .ref a) (C := RX2) (T := TX2) (N := 1) hx hb hts hin2 hown hK hP 0 rfl rfl 0 (by decide) hfl7 (fun _ h9 => h9) rfl dX2_set_9 ?_
  refine lv_iload_n hx hb dX2_set_12 rfl (lv_at hl 1 rfl) ?_
  refine lv_iload_n hx hb dX2_set_13 rfl (lv_at hl 2 rfl) ?_
  refine n_iast (ws' := [(q, .inr (2, [.ref a])), (a, .inl (cI, n, .inl (upd f k (x))))]) hx hb hK hP hD hS 1 0 rfl rfl (k := k) (by omega) (by omega) dX2_set_14 rfl (fun H locs hP hD hS => ?_)
  exact W.vret hx hb hr (fun t ht hW => ⟨⟨rfl, by rw [ht]; exact hP, hD⟩, hS.F ht⟩) hS.2.2 dX2_set_15

set_option maxHeartbeats 4000000 in
set_option maxRecDepth 100000 in
/-- adds -/
theorem c_X2_add (l : Launch) (d : va_G) (cI : ClassId) (q a n : Nat) (f : Nat → Int32) (k : Nat) (x : Int32) (hk : k < n) (hn : n < 2147483648) : nUp l yX2_add wsX2_add ({ frames := 2, cells := 0, slots := 0, locals := 43 } : Room) d [(cI, .int)] [(q, .inr (2, [.ref a])), (a, .inl (cI, n, .inl (f)))] [(q, .inr (2, [.ref a])), (a, .inl (cI, n, .inl (upd f k (f k + x))))] [.ref q, .int (nI (k)), .int (x)] none := by
  intro sz
  refine Met.ofW (cc := cX2_add) (maxL := 3) (ret := none) (by decide) rfl ?_
  intro p e s m args below meth c s₁ B hml hv
  obtain ⟨rfl, hsz, hP, hK, hD0⟩ := hv
  have hx := B.exec
  have hb := B.bytes
  have hr := B.returns
  have hts := atoms_spec (ws := wsX2_add) B.pre
  have hown : s.vm.findClass RX2 = some m.cls := findClass_of_methodNamed B.named
  have hlocks := B.notSynchronized
  subst hsz
  have hD := hD0.self (sz := s.heap.size)
  generalize hAe : va_A [(q, .inr (2, [.ref a])), (a, .inl (cI, n, .inl (f)))] s.heap.size = A at hD ⊢
  have hA : ∀ q : Nat, s.heap.size ≤ q → A q := fun q h => by rw [← hAe]; exact Or.inr h
  have hS : va_S A s.heap s.heap [] := va_S.rf
  have hP : va_P d vwCl [(q, .inr (2, [.ref a])), (a, .inl (cI, n, .inl (f)))] s.heap := hP
  have hl := lv_entry ([.ref q, .int (nI (k)), .int (x)]) (n := 3) (Nat.le_of_ble_eq_true rfl)
  rw [lg_entry_eq]
  generalize (lg_sl ([.ref q, .int (nI (k)), .int (x)]) ++ List.replicate (3 - (lg_sl ([.ref q, .int (nI (k)), .int (x)])).length) Slot.unset).toArray = ls at hl ⊢
  have hl : lv_has ls 3 [(0, .ref q), (1, .int (nI (k))), (2, .int (x))] := hl
  refine lv_aload_n hx hb dX2_add_0 rfl (lv_at hl 0 rfl) ?_
  refine lv_iload_n hx hb dX2_add_1 rfl (lv_at hl 1 rfl) ?_
  refine lv_aload_n hx hb dX2_add_2 rfl (lv_at hl 0 rfl) ?_
  refine lv_iload_n hx hb dX2_add_3 rfl (lv_at hl 1 rfl) ?_
  refine n_rdV (As := [.int (nI (k))]) (rest := [.int (nI (k)), .ref q]) (WC := [(q, .inr (2, [.ref a])), (a, .inl (cI, n, .inl (f)))]) ⟨hx, hb, hml, hown, hts⟩ (c_X2_get l d cI q a n f k hk hn) (cwV 1 hts gX2_add_X2_get rfl rfl rfl (by decide +kernel) ⟨Nat.le_of_ble_eq_true rfl, Nat.le_of_ble_eq_true rfl⟩) (va_recv hK hP (ci := 2) (q0 := 0) rfl rfl) (hP.sub [0, 1] rfl) hK rfl hl.1 rfl (Nat.le_of_ble_eq_true rfl) dX2_add_4 ⟨Nat.zero_le _, Nat.zero_le _⟩ ?_
  refine lv_iload_n hx hb dX2_add_7 rfl (lv_at hl 2 rfl) ?_
  refine lv_iadd hx hb dX2_add_8 ?_
  refine n_upV (As := [.int (nI (k)), .int ((f k) + (x))]) (rest := []) (WC := [(q, .inr (2, [.ref a])), (a, .inl (cI, n, .inl (f)))]) (WC' := [(q, .inr (2, [.ref a])), (a, .inl (cI, n, .inl (upd f k (f k + x))))]) (wr := []) (WS' := [(q, .inr (2, [.ref a])), (a, .inl (cI, n, .inl (upd f k (f k + x))))]) ⟨hx, hb, hml, hown, hts⟩ (c_X2_set l d cI q a n f k (f k + x) hk hn) (cwV 2 hts gX2_add_X2_set rfl rfl rfl (by decide +kernel) ⟨Nat.le_of_ble_eq_true rfl, Nat.le_of_ble_eq_true rfl⟩) (va_recv hK hP (ci := 2) (q0 := 0) rfl rfl) hP hD hS hA hK [0, 1] [] [0, 1] rfl rfl (by decide) ⟨by decide, by decide⟩ (by decide) rfl rfl hl.1 rfl (Nat.le_of_ble_eq_true rfl) dX2_add_9 ⟨Nat.zero_le _, Nat.zero_le _⟩ (fun H locs hP hD hS => ?_)
  show W _ _ _ _ _ _ _ _ _ _ _ _ _ _ _ (F0 m _ ls [])
  exact W.vret hx hb hr (fun t ht hW => ⟨⟨rfl, by rw [ht]; exact hP, hD⟩, hS.F ht⟩) hS.2.2 dX2_add_12
end
section
/-- the weight of a place -/
def wt (j : Nat) : Nat := if j = 0 then 216 else if j = 1 then 36 else if j = 2 then 6 else 1
/-- the statement at a place -/
def dig (c j : Nat) : Nat := c / wt j % 6
def fitB (r x y : Nat) : Bool := if r = 1 then decide (x = 0 ∧ y ≠ 0) else if r = 2 then decide (x = 5 ∧ y = 4) else if r = 3 then decide (x = 3 ∧ y = 3) else decide (x = 2 ∧ y = 1)
/-- can the rule 1 + k / 3 be used at the place k % 3 -/
def fkb (c k : Nat) : Bool := fitB (1 + k / 3) (dig c (k % 3)) (dig c (k % 3 + 1))
/-- a place by another statement -/
def putd (c j v : Nat) : Nat := c - dig c j * wt j + v * wt j
def stp (c k : Nat) : Nat := if k < 6 then putd (putd c (k % 3) (dig c (k % 3 + 1))) (k % 3 + 1) (dig c (k % 3)) else if k < 9 then putd c (k % 3 + 1) 0 else putd (putd c (k % 3) 0) (k % 3 + 1) 0
def nxF (c : Nat) : Nat → Nat → Option Nat
  | 0, _ => none
  | n + 1, k => if fkb c k then some (stp c k) else nxF c n (k + 1)
/-- one use of a rule -/
def nxo (c : Nat) : Option Nat := nxF c 12 0
def nx (c : Nat) : Nat := (nxo c).getD c
def chg (c : Nat) : Bool := (nxo c).isSome
def nfF : Nat → Nat → Nat
  | 0, c => c
  | n + 1, c => if chg c then nfF n (nx c) else c
def tm : Nat → Nat → Bool
  | 0, c => !chg c
  | n + 1, c => if chg c then tm n (nx c) else true
/-- the form of a program -/
def form (c : Nat) : Nat := nfF 40 c
theorem dig_lt (c j : Nat) : dig c j < 6 := Nat.mod_lt _ (by decide)
theorem wt_0 : wt 0 = 216 := rfl
theorem wt_1 : wt 1 = 36 := rfl
theorem wt_2 : wt 2 = 6 := rfl
theorem wt_3 : wt 3 = 1 := rfl
theorem lt4 {j : Nat} (h : j < 4) : j = 0 ∨ j = 1 ∨ j = 2 ∨ j = 3 := by omega
theorem lt3 {j : Nat} (h : j < 3) : j = 0 ∨ j = 1 ∨ j = 2 := by omega
theorem wt_pos (j : Nat) : 0 < wt j := by unfold wt; split <;> (try split) <;> (try split) <;> decide
theorem wt_le (j : Nat) : wt j ≤ 216 := by unfold wt; split <;> (try split) <;> (try split) <;> decide
theorem pack_eq {c : Nat} (h : c < 1296) : ((dig c 0 * 6 + dig c 1) * 6 + dig c 2) * 6 + dig c 3 = c := by
  unfold dig
  rw [wt_0, wt_1, wt_2, wt_3]
  omega
/-- a check of all numbers under a bound, by the kernel -/
def allB (p : Nat → Bool) : Nat → Bool
  | 0 => true
  | n + 1 => p n && allB p n
theorem allB_of {p : Nat → Bool} : ∀ {n : Nat}, allB p n = true → ∀ k, k < n → p k = true
  | 0, _, k, hk => absurd hk (Nat.not_lt_zero k)
  | n + 1, h, k, hk => by
    have h' : p n = true ∧ allB p n = true := by simpa [allB] using h
    rcases Nat.lt_or_ge k n with q | q
    · exact allB_of h'.2 k q
    · rw [Nat.le_antisymm (Nat.lt_succ_iff.mp hk) q]; exact h'.1
set_option maxRecDepth 100000 in
theorem tm_all : allB (fun c => tm 40 c) 1296 = true := by decide +kernel
theorem tm_40 {c : Nat} (h : c < 1296) : tm 40 c = true := allB_of tm_all c h
set_option maxRecDepth 100000 in
theorem stp_all : allB (fun c => allB (fun k => !fkb c k || (decide (stp c k < 1296) && allB (fun j => decide (dig (stp c k) j = if k < 6 then (if j = k % 3 + 1 then dig c (k % 3) else if j = k % 3 then dig c (k % 3 + 1) else dig c j) else if k < 9 then (if j = k % 3 + 1 then 0 else dig c j) else (if j = k % 3 + 1 then 0 else if j = k % 3 then 0 else dig c j))) 4)) 12) 1296 = true := by decide +kernel
theorem stp_ok {c k : Nat} (hc : c < 1296) (hk : k < 12) (h : fkb c k = true) : stp c k < 1296 ∧ ∀ j, j < 4 → dig (stp c k) j = if k < 6 then (if j = k % 3 + 1 then dig c (k % 3) else if j = k % 3 then dig c (k % 3 + 1) else dig c j) else if k < 9 then (if j = k % 3 + 1 then 0 else dig c j) else (if j = k % 3 + 1 then 0 else if j = k % 3 then 0 else dig c j) := by
  have h1 := allB_of (allB_of stp_all c hc) k hk
  rw [h] at h1
  simp only [Bool.not_true, Bool.false_or, Bool.and_eq_true, decide_eq_true_eq] at h1
  exact ⟨h1.1, fun j hj => of_decide_eq_true (allB_of h1.2 j hj)⟩
theorem nxF_lt {c : Nat} (hc : c < 1296) : ∀ (n k : Nat), n + k = 12 → ∀ c', nxF c n k = some c' → c' < 1296
  | 0, k, _, c', h => by cases h
  | n + 1, k, hk, c', h => by
    unfold nxF at h
    split at h
    · rename_i hf
      cases h
      exact (stp_ok hc (by omega) hf).1
    · exact nxF_lt hc n (k + 1) (by omega) c' h
theorem nx_lt {c : Nat} (hc : c < 1296) : nx c < 1296 := by
  unfold nx nxo
  cases h : nxF c 12 0 with
  | none => exact hc
  | some c' => exact nxF_lt hc 12 0 rfl c' h
theorem nfF_lt : ∀ (n c : Nat), c < 1296 → nfF n c < 1296
  | 0, c, h => h
  | n + 1, c, h => by
    unfold nfF
    split
    · exact nfF_lt n _ (nx_lt h)
    · exact h
theorem form_lt {c : Nat} (h : c < 1296) : form c < 1296 := nfF_lt 40 c h
set_option maxRecDepth 100000 in
theorem form_all : allB (fun c => decide (form (form c) = form c)) 1296 = true := by decide +kernel
theorem form_form {c : Nat} (h : c < 1296) : form (form c) = form c := of_decide_eq_true (allB_of form_all c h)
end
section
set_option maxHeartbeats 4000000 in
set_option maxRecDepth 100000 in
theorem c_X1_weightOf_0 (l : Launch) (d : va_G) (cI : ClassId)  : nRd l yX1_weightOf wsX1_weightOf ({ frames := 0, cells := 0, slots := 0, locals := 0 } : Room) d [(cI, .int)] [] [.int (nI (0))] (.int (nI (216))) := by
  refine Met.ofW (cc := cX1_weightOf) (maxL := 3) (ret := some .int) (by decide) rfl ?_
  intro p e s m args below meth c s₁ B hml hv
  obtain ⟨rfl, hP, hK⟩ := hv
  have hx := B.exec
  have hb := B.bytes
  have hr := B.returns
  have hts := atoms_spec (ws := wsX1_weightOf) B.pre
  have hown : s.vm.findClass RX1 = some m.cls := findClass_of_methodNamed B.named
  have hlocks := B.notSynchronized
  have hP : va_P d vwCl [] s.heap := hP
  have hl := lv_entry ([.int (nI (0))]) (n := 3) (Nat.le_of_ble_eq_true rfl)
  rw [lg_entry_eq]
  generalize (lg_sl ([.int (nI (0))]) ++ List.replicate (3 - (lg_sl ([.int (nI (0))])).length) Slot.unset).toArray = ls at hl ⊢
  have hl : lv_has ls 3 [(0, .int (nI (0)))] := hl
  refine lv_iconst (v := nI (1)) hx hb dX1_weightOf_0 (by decide) ?_
  refine lv_istore_n (lv' := [(1, .int (nI (1))), (0, .int (nI (0)))]) hx hb dX1_weightOf_1 rfl hl (by decide) rfl (fun ls hl => ?_)
  refine lv_iload_n hx hb dX1_weightOf_2 rfl (lv_at hl 1 rfl) ?_
  refine lv_iconst (v := nI (1)) hx hb dX1_weightOf_3 (by decide) ?_
  refine n_add hx hb dX1_weightOf_4 ?_
  refine lv_istore_n (lv' := [(2, .int (nI (1))), (1, .int (nI (1))), (0, .int (nI (0)))]) hx hb dX1_weightOf_5 rfl hl (by decide) rfl (fun ls hl => ?_)
  refine lv_iload_n hx hb dX1_weightOf_6 rfl (lv_at hl 0 rfl) ?_
  refine lv_iconst (v := nI (4)) hx hb dX1_weightOf_7 (by decide) ?_
  refine n_icmp_ge (tgt := 22) hx hb dX1_weightOf_8 (by decide) (by decide) (by decide) (fun c_1 => ?_) (fun c_1 => ?_)
  · exact absurd c_1 (by decide)
  refine lv_iload_n hx hb dX1_weightOf_11 rfl (lv_at hl 1 rfl) ?_
  refine lv_bipush (v := nI (6)) hx hb dX1_weightOf_12 (by decide) ?_
  refine n_mul hx hb dX1_weightOf_14 ?_
  refine lv_istore_n (lv' := [(1, .int (nI (6))), (2, .int (nI (1))), (0, .int (nI (0)))]) hx hb dX1_weightOf_15 rfl hl (by decide) rfl (fun ls hl => ?_)
  refine lv_iinc (v := nI (2)) (lv' := [(2, .int (nI (2))), (1, .int (nI (6))), (0, .int (nI (0)))]) hx hb dX1_weightOf_16 hl (k := 1) rfl (by decide) (by decide) rfl (fun ls hl => ?_)
  refine lv_goto (tgt := 6) hx hb dX1_weightOf_19 (by decide) ?_
  refine lv_iload_n hx hb dX1_weightOf_6 rfl (lv_at hl 0 rfl) ?_
  refine lv_iconst (v := nI (4)) hx hb dX1_weightOf_7 (by decide) ?_
  refine n_icmp_ge (tgt := 22) hx hb dX1_weightOf_8 (by decide) (by decide) (by decide) (fun c_2 => ?_) (fun c_2 => ?_)
  · exact absurd c_2 (by decide)
  refine lv_iload_n hx hb dX1_weightOf_11 rfl (lv_at hl 1 rfl) ?_
  refine lv_bipush (v := nI (6)) hx hb dX1_weightOf_12 (by decide) ?_
  refine n_mul hx hb dX1_weightOf_14 ?_
  refine lv_istore_n (lv' := [(1, .int (nI (36))), (2, .int (nI (2))), (0, .int (nI (0)))]) hx hb dX1_weightOf_15 rfl hl (by decide) rfl (fun ls hl => ?_)
  refine lv_iinc (v := nI (3)) (lv' := [(2, .int (nI (3))), (1, .int (nI (36))), (0, .int (nI (0)))]) hx hb dX1_weightOf_16 hl (k := 1) rfl (by decide) (by decide) rfl (fun ls hl => ?_)
  refine lv_goto (tgt := 6) hx hb dX1_weightOf_19 (by decide) ?_
  refine lv_iload_n hx hb dX1_weightOf_6 rfl (lv_at hl 0 rfl) ?_
  refine lv_iconst (v := nI (4)) hx hb dX1_weightOf_7 (by decide) ?_
  refine n_icmp_ge (tgt := 22) hx hb dX1_weightOf_8 (by decide) (by decide) (by decide) (fun c_3 => ?_) (fun c_3 => ?_)
  · exact absurd c_3 (by decide)
  refine lv_iload_n hx hb dX1_weightOf_11 rfl (lv_at hl 1 rfl) ?_
  refine lv_bipush (v := nI (6)) hx hb dX1_weightOf_12 (by decide) ?_
  refine n_mul hx hb dX1_weightOf_14 ?_
  refine lv_istore_n (lv' := [(1, .int (nI (216))), (2, .int (nI (3))), (0, .int (nI (0)))]) hx hb dX1_weightOf_15 rfl hl (by decide) rfl (fun ls hl => ?_)
  refine lv_iinc (v := nI (4)) (lv' := [(2, .int (nI (4))), (1, .int (nI (216))), (0, .int (nI (0)))]) hx hb dX1_weightOf_16 hl (k := 1) rfl (by decide) (by decide) rfl (fun ls hl => ?_)
  refine lv_goto (tgt := 6) hx hb dX1_weightOf_19 (by decide) ?_
  refine lv_iload_n hx hb dX1_weightOf_6 rfl (lv_at hl 0 rfl) ?_
  refine lv_iconst (v := nI (4)) hx hb dX1_weightOf_7 (by decide) ?_
  refine n_icmp_ge (tgt := 22) hx hb dX1_weightOf_8 (by decide) (by decide) (by decide) (fun c_4 => ?_) (fun c_4 => ?_)
  rotate_left
  · exact absurd c_4 (by decide)
  refine lv_iload_n hx hb dX1_weightOf_22 rfl (lv_at hl 1 rfl) ?_
  exact W.iret (v := (nI (216))) hx hb hr (fun t ht hW => ⟨rfl, ht⟩) (fun q h => by cases h) dX1_weightOf_23

set_option maxHeartbeats 4000000 in
set_option maxRecDepth 100000 in
theorem c_X1_weightOf_1 (l : Launch) (d : va_G) (cI : ClassId)  : nRd l yX1_weightOf wsX1_weightOf ({ frames := 0, cells := 0, slots := 0, locals := 0 } : Room) d [(cI, .int)] [] [.int (nI (1))] (.int (nI (36))) := by
  refine Met.ofW (cc := cX1_weightOf) (maxL := 3) (ret := some .int) (by decide) rfl ?_
  intro p e s m args below meth c s₁ B hml hv
  obtain ⟨rfl, hP, hK⟩ := hv
  have hx := B.exec
  have hb := B.bytes
  have hr := B.returns
  have hts := atoms_spec (ws := wsX1_weightOf) B.pre
  have hown : s.vm.findClass RX1 = some m.cls := findClass_of_methodNamed B.named
  have hlocks := B.notSynchronized
  have hP : va_P d vwCl [] s.heap := hP
  have hl := lv_entry ([.int (nI (1))]) (n := 3) (Nat.le_of_ble_eq_true rfl)
  rw [lg_entry_eq]
  generalize (lg_sl ([.int (nI (1))]) ++ List.replicate (3 - (lg_sl ([.int (nI (1))])).length) Slot.unset).toArray = ls at hl ⊢
  have hl : lv_has ls 3 [(0, .int (nI (1)))] := hl
  refine lv_iconst (v := nI (1)) hx hb dX1_weightOf_0 (by decide) ?_
  refine lv_istore_n (lv' := [(1, .int (nI (1))), (0, .int (nI (1)))]) hx hb dX1_weightOf_1 rfl hl (by decide) rfl (fun ls hl => ?_)
  refine lv_iload_n hx hb dX1_weightOf_2 rfl (lv_at hl 1 rfl) ?_
  refine lv_iconst (v := nI (1)) hx hb dX1_weightOf_3 (by decide) ?_
  refine n_add hx hb dX1_weightOf_4 ?_
  refine lv_istore_n (lv' := [(2, .int (nI (2))), (1, .int (nI (1))), (0, .int (nI (1)))]) hx hb dX1_weightOf_5 rfl hl (by decide) rfl (fun ls hl => ?_)
  refine lv_iload_n hx hb dX1_weightOf_6 rfl (lv_at hl 0 rfl) ?_
  refine lv_iconst (v := nI (4)) hx hb dX1_weightOf_7 (by decide) ?_
  refine n_icmp_ge (tgt := 22) hx hb dX1_weightOf_8 (by decide) (by decide) (by decide) (fun c_1 => ?_) (fun c_1 => ?_)
  · exact absurd c_1 (by decide)
  refine lv_iload_n hx hb dX1_weightOf_11 rfl (lv_at hl 1 rfl) ?_
  refine lv_bipush (v := nI (6)) hx hb dX1_weightOf_12 (by decide) ?_
  refine n_mul hx hb dX1_weightOf_14 ?_
  refine lv_istore_n (lv' := [(1, .int (nI (6))), (2, .int (nI (2))), (0, .int (nI (1)))]) hx hb dX1_weightOf_15 rfl hl (by decide) rfl (fun ls hl => ?_)
  refine lv_iinc (v := nI (3)) (lv' := [(2, .int (nI (3))), (1, .int (nI (6))), (0, .int (nI (1)))]) hx hb dX1_weightOf_16 hl (k := 1) rfl (by decide) (by decide) rfl (fun ls hl => ?_)
  refine lv_goto (tgt := 6) hx hb dX1_weightOf_19 (by decide) ?_
  refine lv_iload_n hx hb dX1_weightOf_6 rfl (lv_at hl 0 rfl) ?_
  refine lv_iconst (v := nI (4)) hx hb dX1_weightOf_7 (by decide) ?_
  refine n_icmp_ge (tgt := 22) hx hb dX1_weightOf_8 (by decide) (by decide) (by decide) (fun c_2 => ?_) (fun c_2 => ?_)
  · exact absurd c_2 (by decide)
  refine lv_iload_n hx hb dX1_weightOf_11 rfl (lv_at hl 1 rfl) ?_
  refine lv_bipush (v := nI (6)) hx hb dX1_weightOf_12 (by decide) ?_
  refine n_mul hx hb dX1_weightOf_14 ?_
  refine lv_istore_n (lv' := [(1, .int (nI (36))), (2, .int (nI (3))), (0, .int (nI (1)))]) hx hb dX1_weightOf_15 rfl hl (by decide) rfl (fun ls hl => ?_)
  refine lv_iinc (v := nI (4)) (lv' := [(2, .int (nI (4))), (1, .int (nI (36))), (0, .int (nI (1)))]) hx hb dX1_weightOf_16 hl (k := 1) rfl (by decide) (by decide) rfl (fun ls hl => ?_)
  refine lv_goto (tgt := 6) hx hb dX1_weightOf_19 (by decide) ?_
  refine lv_iload_n hx hb dX1_weightOf_6 rfl (lv_at hl 0 rfl) ?_
  refine lv_iconst (v := nI (4)) hx hb dX1_weightOf_7 (by decide) ?_
  refine n_icmp_ge (tgt := 22) hx hb dX1_weightOf_8 (by decide) (by decide) (by decide) (fun c_3 => ?_) (fun c_3 => ?_)
  rotate_left
  · exact absurd c_3 (by decide)
  refine lv_iload_n hx hb dX1_weightOf_22 rfl (lv_at hl 1 rfl) ?_
  exact W.iret (v := (nI (36))) hx hb hr (fun t ht hW => ⟨rfl, ht⟩) (fun q h => by cases h) dX1_weightOf_23

set_option maxHeartbeats 4000000 in
set_option maxRecDepth 100000 in
theorem c_X1_weightOf_2 (l : Launch) (d : va_G) (cI : ClassId)  : nRd l yX1_weightOf wsX1_weightOf ({ frames := 0, cells := 0, slots := 0, locals := 0 } : Room) d [(cI, .int)] [] [.int (nI (2))] (.int (nI (6))) := by
  refine Met.ofW (cc := cX1_weightOf) (maxL := 3) (ret := some .int) (by decide) rfl ?_
  intro p e s m args below meth c s₁ B hml hv
  obtain ⟨rfl, hP, hK⟩ := hv
  have hx := B.exec
  have hb := B.bytes
  have hr := B.returns
  have hts := atoms_spec (ws := wsX1_weightOf) B.pre
  have hown : s.vm.findClass RX1 = some m.cls := findClass_of_methodNamed B.named
  have hlocks := B.notSynchronized
  have hP : va_P d vwCl [] s.heap := hP
  have hl := lv_entry ([.int (nI (2))]) (n := 3) (Nat.le_of_ble_eq_true rfl)
  rw [lg_entry_eq]
  generalize (lg_sl ([.int (nI (2))]) ++ List.replicate (3 - (lg_sl ([.int (nI (2))])).length) Slot.unset).toArray = ls at hl ⊢
  have hl : lv_has ls 3 [(0, .int (nI (2)))] := hl
  refine lv_iconst (v := nI (1)) hx hb dX1_weightOf_0 (by decide) ?_
  refine lv_istore_n (lv' := [(1, .int (nI (1))), (0, .int (nI (2)))]) hx hb dX1_weightOf_1 rfl hl (by decide) rfl (fun ls hl => ?_)
  refine lv_iload_n hx hb dX1_weightOf_2 rfl (lv_at hl 1 rfl) ?_
  refine lv_iconst (v := nI (1)) hx hb dX1_weightOf_3 (by decide) ?_
  refine n_add hx hb dX1_weightOf_4 ?_
  refine lv_istore_n (lv' := [(2, .int (nI (3))), (1, .int (nI (1))), (0, .int (nI (2)))]) hx hb dX1_weightOf_5 rfl hl (by decide) rfl (fun ls hl => ?_)
  refine lv_iload_n hx hb dX1_weightOf_6 rfl (lv_at hl 0 rfl) ?_
  refine lv_iconst (v := nI (4)) hx hb dX1_weightOf_7 (by decide) ?_
  refine n_icmp_ge (tgt := 22) hx hb dX1_weightOf_8 (by decide) (by decide) (by decide) (fun c_1 => ?_) (fun c_1 => ?_)
  · exact absurd c_1 (by decide)
  refine lv_iload_n hx hb dX1_weightOf_11 rfl (lv_at hl 1 rfl) ?_
  refine lv_bipush (v := nI (6)) hx hb dX1_weightOf_12 (by decide) ?_
  refine n_mul hx hb dX1_weightOf_14 ?_
  refine lv_istore_n (lv' := [(1, .int (nI (6))), (2, .int (nI (3))), (0, .int (nI (2)))]) hx hb dX1_weightOf_15 rfl hl (by decide) rfl (fun ls hl => ?_)
  refine lv_iinc (v := nI (4)) (lv' := [(2, .int (nI (4))), (1, .int (nI (6))), (0, .int (nI (2)))]) hx hb dX1_weightOf_16 hl (k := 1) rfl (by decide) (by decide) rfl (fun ls hl => ?_)
  refine lv_goto (tgt := 6) hx hb dX1_weightOf_19 (by decide) ?_
  refine lv_iload_n hx hb dX1_weightOf_6 rfl (lv_at hl 0 rfl) ?_
  refine lv_iconst (v := nI (4)) hx hb dX1_weightOf_7 (by decide) ?_
  refine n_icmp_ge (tgt := 22) hx hb dX1_weightOf_8 (by decide) (by decide) (by decide) (fun c_2 => ?_) (fun c_2 => ?_)
  rotate_left
  · exact absurd c_2 (by decide)
  refine lv_iload_n hx hb dX1_weightOf_22 rfl (lv_at hl 1 rfl) ?_
  exact W.iret (v := (nI (6))) hx hb hr (fun t ht hW => ⟨rfl, ht⟩) (fun q h => by cases h) dX1_weightOf_23

set_option maxHeartbeats 4000000 in
set_option maxRecDepth 100000 in
theorem c_X1_weightOf_3 (l : Launch) (d : va_G) (cI : ClassId)  : nRd l yX1_weightOf wsX1_weightOf ({ frames := 0, cells := 0, slots := 0, locals := 0 } : Room) d [(cI, .int)] [] [.int (nI (3))] (.int (nI (1))) := by
  refine Met.ofW (cc := cX1_weightOf) (maxL := 3) (ret := some .int) (by decide) rfl ?_
  intro p e s m args below meth c s₁ B hml hv
  obtain ⟨rfl, hP, hK⟩ := hv
  have hx := B.exec
  have hb := B.bytes
  have hr := B.returns
  have hts := atoms_spec (ws := wsX1_weightOf) B.pre
  have hown : s.vm.findClass RX1 = some m.cls := findClass_of_methodNamed B.named
  have hlocks := B.notSynchronized
  have hP : va_P d vwCl [] s.heap := hP
  have hl := lv_entry ([.int (nI (3))]) (n := 3) (Nat.le_of_ble_eq_true rfl)
  rw [lg_entry_eq]
  generalize (lg_sl ([.int (nI (3))]) ++ List.replicate (3 - (lg_sl ([.int (nI (3))])).length) Slot.unset).toArray = ls at hl ⊢
  have hl : lv_has ls 3 [(0, .int (nI (3)))] := hl
  refine lv_iconst (v := nI (1)) hx hb dX1_weightOf_0 (by decide) ?_
  refine lv_istore_n (lv' := [(1, .int (nI (1))), (0, .int (nI (3)))]) hx hb dX1_weightOf_1 rfl hl (by decide) rfl (fun ls hl => ?_)
  refine lv_iload_n hx hb dX1_weightOf_2 rfl (lv_at hl 1 rfl) ?_
  refine lv_iconst (v := nI (1)) hx hb dX1_weightOf_3 (by decide) ?_
  refine n_add hx hb dX1_weightOf_4 ?_
  refine lv_istore_n (lv' := [(2, .int (nI (4))), (1, .int (nI (1))), (0, .int (nI (3)))]) hx hb dX1_weightOf_5 rfl hl (by decide) rfl (fun ls hl => ?_)
  refine lv_iload_n hx hb dX1_weightOf_6 rfl (lv_at hl 0 rfl) ?_
  refine lv_iconst (v := nI (4)) hx hb dX1_weightOf_7 (by decide) ?_
  refine n_icmp_ge (tgt := 22) hx hb dX1_weightOf_8 (by decide) (by decide) (by decide) (fun c_1 => ?_) (fun c_1 => ?_)
  rotate_left
  · exact absurd c_1 (by decide)
  refine lv_iload_n hx hb dX1_weightOf_22 rfl (lv_at hl 1 rfl) ?_
  exact W.iret (v := (nI (1))) hx hb hr (fun t ht hW => ⟨rfl, ht⟩) (fun q h => by cases h) dX1_weightOf_23

theorem c_X1_weightOf (l : Launch) (d : va_G) (cI : ClassId) (j : Nat) (hj : j < 4) : nRd l yX1_weightOf wsX1_weightOf ({ frames := 0, cells := 0, slots := 0, locals := 0 } : Room) d [(cI, .int)] [] [.int (nI (j))] (.int (nI (wt j))) := by
  rcases lt4 hj with rfl | rfl | rfl | rfl
  · exact c_X1_weightOf_0 l d cI
  · exact c_X1_weightOf_1 l d cI
  · exact c_X1_weightOf_2 l d cI
  · exact c_X1_weightOf_3 l d cI
/-- a place emptied -/
def wo (c j : Nat) : Nat := c - c / wt j % 6 * wt j
theorem wo_ok (c j : Nat) : c / wt j % 6 * wt j ≤ c := Nat.le_trans (Nat.mul_le_mul_right _ (Nat.mod_le _ _)) (Nat.div_mul_le_self c (wt j))
set_option maxHeartbeats 4000000 in
set_option maxRecDepth 100000 in
/-- a place emptied -/
theorem c_X1_without (l : Launch) (d : va_G) (cI : ClassId) (c0 j : Nat) (hc : c0 < 1296) (hj : j < 4) : nRd l yX1_without wsX1_without ({ frames := 1, cells := 0, slots := 0, locals := 22 } : Room) d [(cI, .int)] [] [.int (nI (c0)), .int (nI (j))] (.int (nI (wo c0 j))) := by
  refine Met.ofW (cc := cX1_without) (maxL := 3) (ret := some .int) (by decide) rfl ?_
  intro p e s m args below meth c s₁ B hml hv
  obtain ⟨rfl, hP, hK⟩ := hv
  have hx := B.exec
  have hb := B.bytes
  have hr := B.returns
  have hts := atoms_spec (ws := wsX1_without) B.pre
  have hown : s.vm.findClass RX1 = some m.cls := findClass_of_methodNamed B.named
  have hlocks := B.notSynchronized
  have hP : va_P d vwCl [] s.heap := hP
  have hl := lv_entry ([.int (nI (c0)), .int (nI (j))]) (n := 3) (Nat.le_of_ble_eq_true rfl)
  rw [lg_entry_eq]
  generalize (lg_sl ([.int (nI (c0)), .int (nI (j))]) ++ List.replicate (3 - (lg_sl ([.int (nI (c0)), .int (nI (j))])).length) Slot.unset).toArray = ls at hl ⊢
  have hl : lv_has ls 3 [(0, .int (nI (c0))), (1, .int (nI (j)))] := hl
  refine lv_iload_n hx hb dX1_without_0 rfl (lv_at hl 1 rfl) ?_
  refine n_rdS (As := [.int (nI (j))]) (rest := []) (WC := []) ⟨hx, hb, hml, hown, hts⟩ (c_X1_weightOf l d cI j hj) (cwS 1 hts gX1_without_X1_weightOf rfl rfl rfl (by decide +kernel) ⟨Nat.le_of_ble_eq_true rfl, Nat.le_of_ble_eq_true rfl⟩) (hP.sub [] rfl) hK rfl hl.1 rfl (Nat.le_of_ble_eq_true rfl) dX1_without_1 ⟨Nat.zero_le _, Nat.zero_le _⟩ ?_
  refine lv_istore_n (lv' := [(2, .int (nI (wt j))), (0, .int (nI (c0))), (1, .int (nI (j)))]) hx hb dX1_without_4 rfl hl (by decide) rfl (fun ls hl => ?_)
  refine lv_iload_n hx hb dX1_without_5 rfl (lv_at hl 0 rfl) ?_
  refine n_ifle (tgt := 22) hx hb dX1_without_6 (by decide) (Nat.lt_of_le_of_lt (wt_le j) (by decide)) (fun c_1 => ?_) (fun c_1 => ?_)
  · exact absurd c_1 (Nat.pos_iff_ne_zero.mp (wt_pos j))
  refine lv_iload_n hx hb dX1_without_9 rfl (lv_at hl 1 rfl) ?_
  refine lv_iload_n hx hb dX1_without_10 rfl (lv_at hl 1 rfl) ?_
  refine lv_iload_n hx hb dX1_without_11 rfl (lv_at hl 0 rfl) ?_
  refine n_div hx hb dX1_without_12 (by omega) (wt_pos j) (Nat.lt_of_le_of_lt (wt_le j) (by decide)) ?_
  refine lv_bipush (v := nI (6)) hx hb dX1_without_13 (by decide) ?_
  refine n_rem hx hb dX1_without_15 (Nat.lt_of_le_of_lt (Nat.div_le_self _ _) (by omega)) (by decide) (by decide) ?_
  refine lv_iload_n hx hb dX1_without_16 rfl (lv_at hl 0 rfl) ?_
  refine n_mul hx hb dX1_without_17 ?_
  refine n_sub hx hb dX1_without_18 (wo_ok c0 j) ?_
  refine lv_goto (tgt := 23) hx hb dX1_without_19 (by decide) ?_
  exact W.iret (v := (nI (wo c0 j))) hx hb hr (fun t ht hW => ⟨rfl, ht⟩) (fun q h => by cases h) dX1_without_23

set_option maxHeartbeats 4000000 in
set_option maxRecDepth 100000 in
theorem c_X1_isUsable_1 (l : Launch) (d : va_G) (cI : ClassId) (x y : Nat) (hx6 : x < 6) (hy6 : y < 6) : nRd l yX1_isUsable wsX1_isUsable ({ frames := 0, cells := 0, slots := 0, locals := 0 } : Room) d [(cI, .int)] [] [.int (nI (1)), .int (nI (x)), .int (nI (y))] (.int (nI ((fitB 1 x y).toNat))) := by
  refine Met.ofW (cc := cX1_isUsable) (maxL := 3) (ret := some .boolean) (by decide) rfl ?_
  intro p e s m args below meth c s₁ B hml hv
  obtain ⟨rfl, hP, hK⟩ := hv
  have hx := B.exec
  have hb := B.bytes
  have hr := B.returns
  have hts := atoms_spec (ws := wsX1_isUsable) B.pre
  have hown : s.vm.findClass RX1 = some m.cls := findClass_of_methodNamed B.named
  have hlocks := B.notSynchronized
  have hP : va_P d vwCl [] s.heap := hP
  have hl := lv_entry ([.int (nI (1)), .int (nI (x)), .int (nI (y))]) (n := 3) (Nat.le_of_ble_eq_true rfl)
  rw [lg_entry_eq]
  generalize (lg_sl ([.int (nI (1)), .int (nI (x)), .int (nI (y))]) ++ List.replicate (3 - (lg_sl ([.int (nI (1)), .int (nI (x)), .int (nI (y))])).length) Slot.unset).toArray = ls at hl ⊢
  have hl : lv_has ls 3 [(0, .int (nI (1))), (1, .int (nI (x))), (2, .int (nI (y)))] := hl
  refine lv_iload_n hx hb dX1_isUsable_0 rfl (lv_at hl 0 rfl) ?_
  refine lv_tableIn (x := nI (1)) (off := 27) (tgt := 28) hx hb dX1_isUsable_1 (by decide) (by decide) rfl (by decide) ?_
  refine lv_iload_n hx hb dX1_isUsable_28 rfl (lv_at hl 1 rfl) ?_
  refine n_ifne (tgt := 40) hx hb dX1_isUsable_29 (by decide) (by omega) (fun c_1 => ?_) (fun c_1 => ?_)
  ·
    refine lv_iconst (v := nI (0)) hx hb dX1_isUsable_40 (by decide) ?_
    refine n_top (show (nI (0)) = (nI ((fitB 1 x y).toNat)) from by rw [show fitB 1 x y = false from decide_eq_false (by omega)]; rfl) ?_
    exact W.zret (v := (nI ((fitB 1 x y).toNat))) hx hb hr (by cases fitB 1 x y <;> rfl) (fun t ht hW => ⟨rfl, ht⟩) (fun q h => by cases h) dX1_isUsable_41
  ·
    refine lv_iload_n hx hb dX1_isUsable_32 rfl (lv_at hl 2 rfl) ?_
    refine n_ifeq (tgt := 40) hx hb dX1_isUsable_33 (by decide) (by omega) (fun c_2 => ?_) (fun c_2 => ?_)
    ·
      refine lv_iconst (v := nI (0)) hx hb dX1_isUsable_40 (by decide) ?_
      refine n_top (show (nI (0)) = (nI ((fitB 1 x y).toNat)) from by rw [show fitB 1 x y = false from decide_eq_false (by omega)]; rfl) ?_
      exact W.zret (v := (nI ((fitB 1 x y).toNat))) hx hb hr (by cases fitB 1 x y <;> rfl) (fun t ht hW => ⟨rfl, ht⟩) (fun q h => by cases h) dX1_isUsable_41
    ·
      refine lv_iconst (v := nI (1)) hx hb dX1_isUsable_36 (by decide) ?_
      refine lv_goto (tgt := 41) hx hb dX1_isUsable_37 (by decide) ?_
      refine n_top (show (nI (1)) = (nI ((fitB 1 x y).toNat)) from by rw [show fitB 1 x y = true from decide_eq_true (by omega)]; rfl) ?_
      exact W.zret (v := (nI ((fitB 1 x y).toNat))) hx hb hr (by cases fitB 1 x y <;> rfl) (fun t ht hW => ⟨rfl, ht⟩) (fun q h => by cases h) dX1_isUsable_41

set_option maxHeartbeats 4000000 in
set_option maxRecDepth 100000 in
theorem c_X1_isUsable_2 (l : Launch) (d : va_G) (cI : ClassId) (x y : Nat) (hx6 : x < 6) (hy6 : y < 6) : nRd l yX1_isUsable wsX1_isUsable ({ frames := 0, cells := 0, slots := 0, locals := 0 } : Room) d [(cI, .int)] [] [.int (nI (2)), .int (nI (x)), .int (nI (y))] (.int (nI ((fitB 2 x y).toNat))) := by
  refine Met.ofW (cc := cX1_isUsable) (maxL := 3) (ret := some .boolean) (by decide) rfl ?_
  intro p e s m args below meth c s₁ B hml hv
  obtain ⟨rfl, hP, hK⟩ := hv
  have hx := B.exec
  have hb := B.bytes
  have hr := B.returns
  have hts := atoms_spec (ws := wsX1_isUsable) B.pre
  have hown : s.vm.findClass RX1 = some m.cls := findClass_of_methodNamed B.named
  have hlocks := B.notSynchronized
  have hP : va_P d vwCl [] s.heap := hP
  have hl := lv_entry ([.int (nI (2)), .int (nI (x)), .int (nI (y))]) (n := 3) (Nat.le_of_ble_eq_true rfl)
  rw [lg_entry_eq]
  generalize (lg_sl ([.int (nI (2)), .int (nI (x)), .int (nI (y))]) ++ List.replicate (3 - (lg_sl ([.int (nI (2)), .int (nI (x)), .int (nI (y))])).length) Slot.unset).toArray = ls at hl ⊢
  have hl : lv_has ls 3 [(0, .int (nI (2))), (1, .int (nI (x))), (2, .int (nI (y)))] := hl
  refine lv_iload_n hx hb dX1_isUsable_0 rfl (lv_at hl 0 rfl) ?_
  refine lv_tableIn (x := nI (2)) (off := 41) (tgt := 42) hx hb dX1_isUsable_1 (by decide) (by decide) rfl (by decide) ?_
  refine lv_iload_n hx hb dX1_isUsable_42 rfl (lv_at hl 1 rfl) ?_
  refine lv_iconst (v := nI (5)) hx hb dX1_isUsable_43 (by decide) ?_
  refine n_icmp_ne (tgt := 56) hx hb dX1_isUsable_44 (by decide) (by omega) (by omega) (fun c_1 => ?_) (fun c_1 => ?_)
  ·
    refine lv_iconst (v := nI (0)) hx hb dX1_isUsable_56 (by decide) ?_
    refine n_top (show (nI (0)) = (nI ((fitB 2 x y).toNat)) from by rw [show fitB 2 x y = false from decide_eq_false (by omega)]; rfl) ?_
    exact W.zret (v := (nI ((fitB 2 x y).toNat))) hx hb hr (by cases fitB 2 x y <;> rfl) (fun t ht hW => ⟨rfl, ht⟩) (fun q h => by cases h) dX1_isUsable_57
  ·
    refine lv_iload_n hx hb dX1_isUsable_47 rfl (lv_at hl 2 rfl) ?_
    refine lv_iconst (v := nI (4)) hx hb dX1_isUsable_48 (by decide) ?_
    refine n_icmp_ne (tgt := 56) hx hb dX1_isUsable_49 (by decide) (by omega) (by omega) (fun c_2 => ?_) (fun c_2 => ?_)
    ·
      refine lv_iconst (v := nI (0)) hx hb dX1_isUsable_56 (by decide) ?_
      refine n_top (show (nI (0)) = (nI ((fitB 2 x y).toNat)) from by rw [show fitB 2 x y = false from decide_eq_false (by omega)]; rfl) ?_
      exact W.zret (v := (nI ((fitB 2 x y).toNat))) hx hb hr (by cases fitB 2 x y <;> rfl) (fun t ht hW => ⟨rfl, ht⟩) (fun q h => by cases h) dX1_isUsable_57
    ·
      refine lv_iconst (v := nI (1)) hx hb dX1_isUsable_52 (by decide) ?_
      refine lv_goto (tgt := 57) hx hb dX1_isUsable_53 (by decide) ?_
      refine n_top (show (nI (1)) = (nI ((fitB 2 x y).toNat)) from by rw [show fitB 2 x y = true from decide_eq_true (by omega)]; rfl) ?_
      exact W.zret (v := (nI ((fitB 2 x y).toNat))) hx hb hr (by cases fitB 2 x y <;> rfl) (fun t ht hW => ⟨rfl, ht⟩) (fun q h => by cases h) dX1_isUsable_57

set_option maxHeartbeats 4000000 in
set_option maxRecDepth 100000 in
theorem c_X1_isUsable_3 (l : Launch) (d : va_G) (cI : ClassId) (x y : Nat) (hx6 : x < 6) (hy6 : y < 6) : nRd l yX1_isUsable wsX1_isUsable ({ frames := 0, cells := 0, slots := 0, locals := 0 } : Room) d [(cI, .int)] [] [.int (nI (3)), .int (nI (x)), .int (nI (y))] (.int (nI ((fitB 3 x y).toNat))) := by
  refine Met.ofW (cc := cX1_isUsable) (maxL := 3) (ret := some .boolean) (by decide) rfl ?_
  intro p e s m args below meth c s₁ B hml hv
  obtain ⟨rfl, hP, hK⟩ := hv
  have hx := B.exec
  have hb := B.bytes
  have hr := B.returns
  have hts := atoms_spec (ws := wsX1_isUsable) B.pre
  have hown : s.vm.findClass RX1 = some m.cls := findClass_of_methodNamed B.named
  have hlocks := B.notSynchronized
  have hP : va_P d vwCl [] s.heap := hP
  have hl := lv_entry ([.int (nI (3)), .int (nI (x)), .int (nI (y))]) (n := 3) (Nat.le_of_ble_eq_true rfl)
  rw [lg_entry_eq]
  generalize (lg_sl ([.int (nI (3)), .int (nI (x)), .int (nI (y))]) ++ List.replicate (3 - (lg_sl ([.int (nI (3)), .int (nI (x)), .int (nI (y))])).length) Slot.unset).toArray = ls at hl ⊢
  have hl : lv_has ls 3 [(0, .int (nI (3))), (1, .int (nI (x))), (2, .int (nI (y)))] := hl
  refine lv_iload_n hx hb dX1_isUsable_0 rfl (lv_at hl 0 rfl) ?_
  refine lv_tableIn (x := nI (3)) (off := 57) (tgt := 58) hx hb dX1_isUsable_1 (by decide) (by decide) rfl (by decide) ?_
  refine lv_iload_n hx hb dX1_isUsable_58 rfl (lv_at hl 1 rfl) ?_
  refine lv_iconst (v := nI (3)) hx hb dX1_isUsable_59 (by decide) ?_
  refine n_icmp_ne (tgt := 72) hx hb dX1_isUsable_60 (by decide) (by omega) (by omega) (fun c_1 => ?_) (fun c_1 => ?_)
  ·
    refine lv_iconst (v := nI (0)) hx hb dX1_isUsable_72 (by decide) ?_
    refine n_top (show (nI (0)) = (nI ((fitB 3 x y).toNat)) from by rw [show fitB 3 x y = false from decide_eq_false (by omega)]; rfl) ?_
    exact W.zret (v := (nI ((fitB 3 x y).toNat))) hx hb hr (by cases fitB 3 x y <;> rfl) (fun t ht hW => ⟨rfl, ht⟩) (fun q h => by cases h) dX1_isUsable_73
  ·
    refine lv_iload_n hx hb dX1_isUsable_63 rfl (lv_at hl 2 rfl) ?_
    refine lv_iconst (v := nI (3)) hx hb dX1_isUsable_64 (by decide) ?_
    refine n_icmp_ne (tgt := 72) hx hb dX1_isUsable_65 (by decide) (by omega) (by omega) (fun c_2 => ?_) (fun c_2 => ?_)
    ·
      refine lv_iconst (v := nI (0)) hx hb dX1_isUsable_72 (by decide) ?_
      refine n_top (show (nI (0)) = (nI ((fitB 3 x y).toNat)) from by rw [show fitB 3 x y = false from decide_eq_false (by omega)]; rfl) ?_
      exact W.zret (v := (nI ((fitB 3 x y).toNat))) hx hb hr (by cases fitB 3 x y <;> rfl) (fun t ht hW => ⟨rfl, ht⟩) (fun q h => by cases h) dX1_isUsable_73
    ·
      refine lv_iconst (v := nI (1)) hx hb dX1_isUsable_68 (by decide) ?_
      refine lv_goto (tgt := 73) hx hb dX1_isUsable_69 (by decide) ?_
      refine n_top (show (nI (1)) = (nI ((fitB 3 x y).toNat)) from by rw [show fitB 3 x y = true from decide_eq_true (by omega)]; rfl) ?_
      exact W.zret (v := (nI ((fitB 3 x y).toNat))) hx hb hr (by cases fitB 3 x y <;> rfl) (fun t ht hW => ⟨rfl, ht⟩) (fun q h => by cases h) dX1_isUsable_73

set_option maxHeartbeats 4000000 in
set_option maxRecDepth 100000 in
theorem c_X1_isUsable_4 (l : Launch) (d : va_G) (cI : ClassId) (x y : Nat) (hx6 : x < 6) (hy6 : y < 6) : nRd l yX1_isUsable wsX1_isUsable ({ frames := 0, cells := 0, slots := 0, locals := 0 } : Room) d [(cI, .int)] [] [.int (nI (4)), .int (nI (x)), .int (nI (y))] (.int (nI ((fitB 4 x y).toNat))) := by
  refine Met.ofW (cc := cX1_isUsable) (maxL := 3) (ret := some .boolean) (by decide) rfl ?_
  intro p e s m args below meth c s₁ B hml hv
  obtain ⟨rfl, hP, hK⟩ := hv
  have hx := B.exec
  have hb := B.bytes
  have hr := B.returns
  have hts := atoms_spec (ws := wsX1_isUsable) B.pre
  have hown : s.vm.findClass RX1 = some m.cls := findClass_of_methodNamed B.named
  have hlocks := B.notSynchronized
  have hP : va_P d vwCl [] s.heap := hP
  have hl := lv_entry ([.int (nI (4)), .int (nI (x)), .int (nI (y))]) (n := 3) (Nat.le_of_ble_eq_true rfl)
  rw [lg_entry_eq]
  generalize (lg_sl ([.int (nI (4)), .int (nI (x)), .int (nI (y))]) ++ List.replicate (3 - (lg_sl ([.int (nI (4)), .int (nI (x)), .int (nI (y))])).length) Slot.unset).toArray = ls at hl ⊢
  have hl : lv_has ls 3 [(0, .int (nI (4))), (1, .int (nI (x))), (2, .int (nI (y)))] := hl
  refine lv_iload_n hx hb dX1_isUsable_0 rfl (lv_at hl 0 rfl) ?_
  refine lv_tableOut (x := nI (4)) (tgt := 74) hx hb dX1_isUsable_1 (by decide) (by decide) ?_
  refine lv_iload_n hx hb dX1_isUsable_74 rfl (lv_at hl 1 rfl) ?_
  refine lv_iconst (v := nI (2)) hx hb dX1_isUsable_75 (by decide) ?_
  refine n_icmp_ne (tgt := 88) hx hb dX1_isUsable_76 (by decide) (by omega) (by omega) (fun c_1 => ?_) (fun c_1 => ?_)
  ·
    refine lv_iconst (v := nI (0)) hx hb dX1_isUsable_88 (by decide) ?_
    refine n_top (show (nI (0)) = (nI ((fitB 4 x y).toNat)) from by rw [show fitB 4 x y = false from decide_eq_false (by omega)]; rfl) ?_
    exact W.zret (v := (nI ((fitB 4 x y).toNat))) hx hb hr (by cases fitB 4 x y <;> rfl) (fun t ht hW => ⟨rfl, ht⟩) (fun q h => by cases h) dX1_isUsable_89
  ·
    refine lv_iload_n hx hb dX1_isUsable_79 rfl (lv_at hl 2 rfl) ?_
    refine lv_iconst (v := nI (1)) hx hb dX1_isUsable_80 (by decide) ?_
    refine n_icmp_ne (tgt := 88) hx hb dX1_isUsable_81 (by decide) (by omega) (by omega) (fun c_2 => ?_) (fun c_2 => ?_)
    ·
      refine lv_iconst (v := nI (0)) hx hb dX1_isUsable_88 (by decide) ?_
      refine n_top (show (nI (0)) = (nI ((fitB 4 x y).toNat)) from by rw [show fitB 4 x y = false from decide_eq_false (by omega)]; rfl) ?_
      exact W.zret (v := (nI ((fitB 4 x y).toNat))) hx hb hr (by cases fitB 4 x y <;> rfl) (fun t ht hW => ⟨rfl, ht⟩) (fun q h => by cases h) dX1_isUsable_89
    ·
      refine lv_iconst (v := nI (1)) hx hb dX1_isUsable_84 (by decide) ?_
      refine lv_goto (tgt := 89) hx hb dX1_isUsable_85 (by decide) ?_
      refine n_top (show (nI (1)) = (nI ((fitB 4 x y).toNat)) from by rw [show fitB 4 x y = true from decide_eq_true (by omega)]; rfl) ?_
      exact W.zret (v := (nI ((fitB 4 x y).toNat))) hx hb hr (by cases fitB 4 x y <;> rfl) (fun t ht hW => ⟨rfl, ht⟩) (fun q h => by cases h) dX1_isUsable_89

theorem c_X1_isUsable (l : Launch) (d : va_G) (cI : ClassId) (r x y : Nat) (hr : r < 4) (hx6 : x < 6) (hy6 : y < 6) : nRd l yX1_isUsable wsX1_isUsable ({ frames := 0, cells := 0, slots := 0, locals := 0 } : Room) d [(cI, .int)] [] [.int (nI (r + 1)), .int (nI (x)), .int (nI (y))] (.int (nI ((fitB (r + 1) x y).toNat))) := by
  rcases lt4 hr with rfl | rfl | rfl | rfl
  · exact c_X1_isUsable_1 l d cI x y hx6 hy6
  · exact c_X1_isUsable_2 l d cI x y hx6 hy6
  · exact c_X1_isUsable_3 l d cI x y hx6 hy6
  · exact c_X1_isUsable_4 l d cI x y hx6 hy6
set_option maxHeartbeats 4000000 in
set_option maxRecDepth 100000 in
/-- the places of a code -/
theorem c_X1_unpack (l : Launch) (d : va_G) (cI : ClassId) (q a c0 : Nat) (f : Nat → Int32) (hc : c0 < 1296) : nUp l yX1_unpack wsX1_unpack ({ frames := 2, cells := 0, slots := 0, locals := 43 } : Room) d [(cI, .int)] [(q, .inr (2, [.ref a])), (a, .inl (cI, 4, .inl (f)))] [(q, .inr (2, [.ref a])), (a, .inl (cI, 4, .inl (fun j => nI (dig c0 j))))] [.int (nI (c0)), .ref q] none := by
  intro sz
  refine Met.ofW (cc := cX1_unpack) (maxL := 4) (ret := none) (by decide) rfl ?_
  intro p e s m args below meth c s₁ B hml hv
  obtain ⟨rfl, hsz, hP, hK, hD0⟩ := hv
  have hx := B.exec
  have hb := B.bytes
  have hr := B.returns
  have hts := atoms_spec (ws := wsX1_unpack) B.pre
  have hown : s.vm.findClass RX1 = some m.cls := findClass_of_methodNamed B.named
  have hlocks := B.notSynchronized
  subst hsz
  have hD := hD0.self (sz := s.heap.size)
  generalize hAe : va_A [(q, .inr (2, [.ref a])), (a, .inl (cI, 4, .inl (f)))] s.heap.size = A at hD ⊢
  have hA : ∀ q : Nat, s.heap.size ≤ q → A q := fun q h => by rw [← hAe]; exact Or.inr h
  have hS : va_S A s.heap s.heap [] := va_S.rf
  have hP : va_P d vwCl [(q, .inr (2, [.ref a])), (a, .inl (cI, 4, .inl (f)))] s.heap := hP
  have hl := lv_entry ([.int (nI (c0)), .ref q]) (n := 4) (Nat.le_of_ble_eq_true rfl)
  rw [lg_entry_eq]
  generalize (lg_sl ([.int (nI (c0)), .ref q]) ++ List.replicate (4 - (lg_sl ([.int (nI (c0)), .ref q])).length) Slot.unset).toArray = ls at hl ⊢
  have hl : lv_has ls 4 [(0, .int (nI (c0))), (1, .ref q)] := hl
  refine lv_iload_n hx hb dX1_unpack_0 rfl (lv_at hl 0 rfl) ?_
  refine lv_istore_n (lv' := [(2, .int (nI (c0))), (0, .int (nI (c0))), (1, .ref q)]) hx hb dX1_unpack_1 rfl hl (by decide) rfl (fun ls hl => ?_)
  refine lv_iconst (v := nI (3)) hx hb dX1_unpack_2 (by decide) ?_
  refine lv_istore_n (lv' := [(3, .int (nI (3))), (2, .int (nI (c0))), (0, .int (nI (c0))), (1, .ref q)]) hx hb dX1_unpack_3 rfl hl (by decide) rfl (fun ls hl => ?_)
  refine lv_iload_n hx hb dX1_unpack_4 rfl (lv_at hl 0 rfl) ?_
  refine n_iflt (tgt := 28) hx hb dX1_unpack_5 (by decide) (by decide) ?_
  refine lv_aload_n hx hb dX1_unpack_8 rfl (lv_at hl 3 rfl) ?_
  refine lv_iload_n hx hb dX1_unpack_9 rfl (lv_at hl 0 rfl) ?_
  refine lv_iload_n hx hb dX1_unpack_10 rfl (lv_at hl 1 rfl) ?_
  refine lv_bipush (v := nI (6)) hx hb dX1_unpack_11 (by decide) ?_
  refine n_rem hx hb dX1_unpack_13 (by omega) (by decide) (by decide) ?_
  refine n_upV (As := [.int (nI (3)), .int (nI (c0 % 6))]) (rest := []) (WC := [(q, .inr (2, [.ref a])), (a, .inl (cI, 4, .inl (f)))]) (WC' := [(q, .inr (2, [.ref a])), (a, .inl (cI, 4, .inl (upd f 3 (nI (c0 % 6)))))]) (wr := []) (WS' := [(q, .inr (2, [.ref a])), (a, .inl (cI, 4, .inl (upd f 3 (nI (c0 % 6)))))]) ⟨hx, hb, hml, hown, hts⟩ (c_X2_set l d cI q a 4 f 3 (nI (c0 % 6)) (by decide) (by decide)) (cwV 2 hts gX1_unpack_X2_set rfl rfl rfl (by decide +kernel) ⟨Nat.le_of_ble_eq_true rfl, Nat.le_of_ble_eq_true rfl⟩) (va_recv hK hP (ci := 2) (q0 := 0) rfl rfl) hP hD hS hA hK [0, 1] [] [0, 1] rfl rfl (by decide) ⟨by decide, by decide⟩ (by decide) rfl rfl hl.1 rfl (Nat.le_of_ble_eq_true rfl) dX1_unpack_14 ⟨Nat.zero_le _, Nat.zero_le _⟩ (fun H locs hP hD hS => ?_)
  show W _ _ _ _ _ _ _ _ _ _ _ _ _ _ _ (F0 m _ ls [])
  refine lv_iload_n hx hb dX1_unpack_17 rfl (lv_at hl 1 rfl) ?_
  refine lv_bipush (v := nI (6)) hx hb dX1_unpack_18 (by decide) ?_
  refine n_div hx hb dX1_unpack_20 (by omega) (by decide) (by decide) ?_
  refine lv_istore_n (lv' := [(2, .int (nI (c0 / 6))), (3, .int (nI (3))), (0, .int (nI (c0))), (1, .ref q)]) hx hb dX1_unpack_21 rfl hl (by decide) rfl (fun ls hl => ?_)
  refine lv_iinc (v := nI (2)) (lv' := [(3, .int (nI (2))), (2, .int (nI (c0 / 6))), (0, .int (nI (c0))), (1, .ref q)]) hx hb dX1_unpack_22 hl (k := 1) rfl (by decide) (by decide) rfl (fun ls hl => ?_)
  refine lv_goto (tgt := 4) hx hb dX1_unpack_25 (by decide) ?_
  refine lv_iload_n hx hb dX1_unpack_4 rfl (lv_at hl 0 rfl) ?_
  refine n_iflt (tgt := 28) hx hb dX1_unpack_5 (by decide) (by decide) ?_
  refine lv_aload_n hx hb dX1_unpack_8 rfl (lv_at hl 3 rfl) ?_
  refine lv_iload_n hx hb dX1_unpack_9 rfl (lv_at hl 0 rfl) ?_
  refine lv_iload_n hx hb dX1_unpack_10 rfl (lv_at hl 1 rfl) ?_
  refine lv_bipush (v := nI (6)) hx hb dX1_unpack_11 (by decide) ?_
  refine n_rem hx hb dX1_unpack_13 (by omega) (by decide) (by decide) ?_
  refine n_upV (As := [.int (nI (2)), .int (nI ((c0 / 6) % 6))]) (rest := []) (WC := [(q, .inr (2, [.ref a])), (a, .inl (cI, 4, .inl (upd f 3 (nI (c0 % 6)))))]) (WC' := [(q, .inr (2, [.ref a])), (a, .inl (cI, 4, .inl (upd (upd f 3 (nI (c0 % 6))) 2 (nI ((c0 / 6) % 6)))))]) (wr := []) (WS' := [(q, .inr (2, [.ref a])), (a, .inl (cI, 4, .inl (upd (upd f 3 (nI (c0 % 6))) 2 (nI ((c0 / 6) % 6)))))]) ⟨hx, hb, hml, hown, hts⟩ (c_X2_set l d cI q a 4 (upd f 3 (nI (c0 % 6))) 2 (nI ((c0 / 6) % 6)) (by decide) (by decide)) (cwV 2 hts gX1_unpack_X2_set rfl rfl rfl (by decide +kernel) ⟨Nat.le_of_ble_eq_true rfl, Nat.le_of_ble_eq_true rfl⟩) (va_recv hK hP (ci := 2) (q0 := 0) rfl rfl) hP hD hS hA hK [0, 1] [] [0, 1] rfl rfl (by decide) ⟨by decide, by decide⟩ (by decide) rfl rfl hl.1 rfl (Nat.le_of_ble_eq_true rfl) dX1_unpack_14 ⟨Nat.zero_le _, Nat.zero_le _⟩ (fun H locs hP hD hS => ?_)
  show W _ _ _ _ _ _ _ _ _ _ _ _ _ _ _ (F0 m _ ls [])
  refine lv_iload_n hx hb dX1_unpack_17 rfl (lv_at hl 1 rfl) ?_
  refine lv_bipush (v := nI (6)) hx hb dX1_unpack_18 (by decide) ?_
  refine n_div hx hb dX1_unpack_20 (by omega) (by decide) (by decide) ?_
  refine lv_istore_n (lv' := [(2, .int (nI ((c0 / 6) / 6))), (3, .int (nI (2))), (0, .int (nI (c0))), (1, .ref q)]) hx hb dX1_unpack_21 rfl hl (by decide) rfl (fun ls hl => ?_)
  refine lv_iinc (v := nI (1)) (lv' := [(3, .int (nI (1))), (2, .int (nI ((c0 / 6) / 6))), (0, .int (nI (c0))), (1, .ref q)]) hx hb dX1_unpack_22 hl (k := 1) rfl (by decide) (by decide) rfl (fun ls hl => ?_)
  refine lv_goto (tgt := 4) hx hb dX1_unpack_25 (by decide) ?_
  refine lv_iload_n hx hb dX1_unpack_4 rfl (lv_at hl 0 rfl) ?_
  refine n_iflt (tgt := 28) hx hb dX1_unpack_5 (by decide) (by decide) ?_
  refine lv_aload_n hx hb dX1_unpack_8 rfl (lv_at hl 3 rfl) ?_
  refine lv_iload_n hx hb dX1_unpack_9 rfl (lv_at hl 0 rfl) ?_
  refine lv_iload_n hx hb dX1_unpack_10 rfl (lv_at hl 1 rfl) ?_
  refine lv_bipush (v := nI (6)) hx hb dX1_unpack_11 (by decide) ?_
  refine n_rem hx hb dX1_unpack_13 (by omega) (by decide) (by decide) ?_
  refine n_upV (As := [.int (nI (1)), .int (nI (((c0 / 6) / 6) % 6))]) (rest := []) (WC := [(q, .inr (2, [.ref a])), (a, .inl (cI, 4, .inl (upd (upd f 3 (nI (c0 % 6))) 2 (nI ((c0 / 6) % 6)))))]) (WC' := [(q, .inr (2, [.ref a])), (a, .inl (cI, 4, .inl (upd (upd (upd f 3 (nI (c0 % 6))) 2 (nI ((c0 / 6) % 6))) 1 (nI (((c0 / 6) / 6) % 6)))))]) (wr := []) (WS' := [(q, .inr (2, [.ref a])), (a, .inl (cI, 4, .inl (upd (upd (upd f 3 (nI (c0 % 6))) 2 (nI ((c0 / 6) % 6))) 1 (nI (((c0 / 6) / 6) % 6)))))]) ⟨hx, hb, hml, hown, hts⟩ (c_X2_set l d cI q a 4 (upd (upd f 3 (nI (c0 % 6))) 2 (nI ((c0 / 6) % 6))) 1 (nI (((c0 / 6) / 6) % 6)) (by decide) (by decide)) (cwV 2 hts gX1_unpack_X2_set rfl rfl rfl (by decide +kernel) ⟨Nat.le_of_ble_eq_true rfl, Nat.le_of_ble_eq_true rfl⟩) (va_recv hK hP (ci := 2) (q0 := 0) rfl rfl) hP hD hS hA hK [0, 1] [] [0, 1] rfl rfl (by decide) ⟨by decide, by decide⟩ (by decide) rfl rfl hl.1 rfl (Nat.le_of_ble_eq_true rfl) dX1_unpack_14 ⟨Nat.zero_le _, Nat.zero_le _⟩ (fun H locs hP hD hS => ?_)
  show W _ _ _ _ _ _ _ _ _ _ _ _ _ _ _ (F0 m _ ls [])
  refine lv_iload_n hx hb dX1_unpack_17 rfl (lv_at hl 1 rfl) ?_
  refine lv_bipush (v := nI (6)) hx hb dX1_unpack_18 (by decide) ?_
  refine n_div hx hb dX1_unpack_20 (by omega) (by decide) (by decide) ?_
  refine lv_istore_n (lv' := [(2, .int (nI (((c0 / 6) / 6) / 6))), (3, .int (nI (1))), (0, .int (nI (c0))), (1, .ref q)]) hx hb dX1_unpack_21 rfl hl (by decide) rfl (fun ls hl => ?_)
  refine lv_iinc (v := nI (0)) (lv' := [(3, .int (nI (0))), (2, .int (nI (((c0 / 6) / 6) / 6))), (0, .int (nI (c0))), (1, .ref q)]) hx hb dX1_unpack_22 hl (k := 1) rfl (by decide) (by decide) rfl (fun ls hl => ?_)
  refine lv_goto (tgt := 4) hx hb dX1_unpack_25 (by decide) ?_
  refine lv_iload_n hx hb dX1_unpack_4 rfl (lv_at hl 0 rfl) ?_
  refine n_iflt (tgt := 28) hx hb dX1_unpack_5 (by decide) (by decide) ?_
  refine lv_aload_n hx hb dX1_unpack_8 rfl (lv_at hl 3 rfl) ?_
  refine lv_iload_n hx hb dX1_unpack_9 rfl (lv_at hl 0 rfl) ?_
  refine lv_iload_n hx hb dX1_unpack_10 rfl (lv_at hl 1 rfl) ?_
  refine lv_bipush (v := nI (6)) hx hb dX1_unpack_11 (by decide) ?_
  refine n_rem hx hb dX1_unpack_13 (by omega) (by decide) (by decide) ?_
  refine n_upV (As := [.int (nI (0)), .int (nI ((((c0 / 6) / 6) / 6) % 6))]) (rest := []) (WC := [(q, .inr (2, [.ref a])), (a, .inl (cI, 4, .inl (upd (upd (upd f 3 (nI (c0 % 6))) 2 (nI ((c0 / 6) % 6))) 1 (nI (((c0 / 6) / 6) % 6)))))]) (WC' := [(q, .inr (2, [.ref a])), (a, .inl (cI, 4, .inl (upd (upd (upd (upd f 3 (nI (c0 % 6))) 2 (nI ((c0 / 6) % 6))) 1 (nI (((c0 / 6) / 6) % 6))) 0 (nI ((((c0 / 6) / 6) / 6) % 6)))))]) (wr := []) (WS' := [(q, .inr (2, [.ref a])), (a, .inl (cI, 4, .inl (upd (upd (upd (upd f 3 (nI (c0 % 6))) 2 (nI ((c0 / 6) % 6))) 1 (nI (((c0 / 6) / 6) % 6))) 0 (nI ((((c0 / 6) / 6) / 6) % 6)))))]) ⟨hx, hb, hml, hown, hts⟩ (c_X2_set l d cI q a 4 (upd (upd (upd f 3 (nI (c0 % 6))) 2 (nI ((c0 / 6) % 6))) 1 (nI (((c0 / 6) / 6) % 6))) 0 (nI ((((c0 / 6) / 6) / 6) % 6)) (by decide) (by decide)) (cwV 2 hts gX1_unpack_X2_set rfl rfl rfl (by decide +kernel) ⟨Nat.le_of_ble_eq_true rfl, Nat.le_of_ble_eq_true rfl⟩) (va_recv hK hP (ci := 2) (q0 := 0) rfl rfl) hP hD hS hA hK [0, 1] [] [0, 1] rfl rfl (by decide) ⟨by decide, by decide⟩ (by decide) rfl rfl hl.1 rfl (Nat.le_of_ble_eq_true rfl) dX1_unpack_14 ⟨Nat.zero_le _, Nat.zero_le _⟩ (fun H locs hP hD hS => ?_)
  show W _ _ _ _ _ _ _ _ _ _ _ _ _ _ _ (F0 m _ ls [])
  refine lv_iload_n hx hb dX1_unpack_17 rfl (lv_at hl 1 rfl) ?_
  refine lv_bipush (v := nI (6)) hx hb dX1_unpack_18 (by decide) ?_
  refine n_div hx hb dX1_unpack_20 (by omega) (by decide) (by decide) ?_
  refine lv_istore_n (lv' := [(2, .int (nI ((((c0 / 6) / 6) / 6) / 6))), (3, .int (nI (0))), (0, .int (nI (c0))), (1, .ref q)]) hx hb dX1_unpack_21 rfl hl (by decide) rfl (fun ls hl => ?_)
  refine lv_iinc (v := (-1)) (lv' := [(3, .int (-1)), (2, .int (nI ((((c0 / 6) / 6) / 6) / 6))), (0, .int (nI (c0))), (1, .ref q)]) hx hb dX1_unpack_22 hl (k := 1) rfl (by decide) (by decide) rfl (fun ls hl => ?_)
  refine lv_goto (tgt := 4) hx hb dX1_unpack_25 (by decide) ?_
  refine lv_iload_n hx hb dX1_unpack_4 rfl (lv_at hl 0 rfl) ?_
  refine lv_if_lt (tgt := 28) hx hb dX1_unpack_5 (by decide) (fun c_5 => ?_) (fun c_5 => ?_)
  rotate_left
  · exact absurd c_5 (fun h => h (by decide))
  obtain ⟨hP, hD⟩ := n_cg (ws' := [(q, .inr (2, [.ref a])), (a, .inl (cI, 4, .inl (fun j => nI (dig c0 j))))]) hP hD 1 rfl (by intro j hj; rcases lt4 hj with rfl | rfl | rfl | rfl <;> simp only [upd, dig, wt] <;> simp <;> (try (congr 1; omega))) rfl
  exact W.vret hx hb hr (fun t ht hW => ⟨⟨rfl, by rw [ht]; exact hP, hD⟩, hS.F ht⟩) hS.2.2 dX1_unpack_28

set_option maxHeartbeats 4000000 in
set_option maxRecDepth 100000 in
/-- the code of the places -/
theorem c_X1_pack (l : Launch) (d : va_G) (cI : ClassId) (q a c0 : Nat) (hc : c0 < 1296) : nRd l yX1_pack wsX1_pack ({ frames := 2, cells := 0, slots := 0, locals := 42 } : Room) d [(cI, .int)] [(q, .inr (2, [.ref a])), (a, .inl (cI, 4, .inl (fun j => nI (dig c0 j))))] [.ref q] (.int (nI (c0))) := by
  refine Met.ofW (cc := cX1_pack) (maxL := 3) (ret := some .int) (by decide) rfl ?_
  intro p e s m args below meth c s₁ B hml hv
  obtain ⟨rfl, hP, hK⟩ := hv
  have hx := B.exec
  have hb := B.bytes
  have hr := B.returns
  have hts := atoms_spec (ws := wsX1_pack) B.pre
  have hown : s.vm.findClass RX1 = some m.cls := findClass_of_methodNamed B.named
  have hlocks := B.notSynchronized
  have hP : va_P d vwCl [(q, .inr (2, [.ref a])), (a, .inl (cI, 4, .inl (fun j => nI (dig c0 j))))] s.heap := hP
  have hl := lv_entry ([.ref q]) (n := 3) (Nat.le_of_ble_eq_true rfl)
  rw [lg_entry_eq]
  generalize (lg_sl ([.ref q]) ++ List.replicate (3 - (lg_sl ([.ref q])).length) Slot.unset).toArray = ls at hl ⊢
  have hl : lv_has ls 3 [(0, .ref q)] := hl
  refine lv_iconst (v := nI (0)) hx hb dX1_pack_0 (by decide) ?_
  refine lv_istore_n (lv' := [(1, .int (nI (0))), (0, .ref q)]) hx hb dX1_pack_1 rfl hl (by decide) rfl (fun ls hl => ?_)
  refine lv_iconst (v := nI (0)) hx hb dX1_pack_2 (by decide) ?_
  refine lv_istore_n (lv' := [(2, .int (nI (0))), (1, .int (nI (0))), (0, .ref q)]) hx hb dX1_pack_3 rfl hl (by decide) rfl (fun ls hl => ?_)
  refine lv_iload_n hx hb dX1_pack_4 rfl (lv_at hl 0 rfl) ?_
  refine lv_iconst (v := nI (4)) hx hb dX1_pack_5 (by decide) ?_
  refine n_icmp_ge (tgt := 26) hx hb dX1_pack_6 (by decide) (by decide) (by decide) (fun c_1 => ?_) (fun c_1 => ?_)
  · exact absurd c_1 (by decide)
  refine lv_iload_n hx hb dX1_pack_9 rfl (lv_at hl 1 rfl) ?_
  refine lv_bipush (v := nI (6)) hx hb dX1_pack_10 (by decide) ?_
  refine n_mul hx hb dX1_pack_12 ?_
  refine lv_aload_n hx hb dX1_pack_13 rfl (lv_at hl 2 rfl) ?_
  refine lv_iload_n hx hb dX1_pack_14 rfl (lv_at hl 0 rfl) ?_
  refine n_rdV (As := [.int (nI (0))]) (rest := [.int (nI (0))]) (WC := [(q, .inr (2, [.ref a])), (a, .inl (cI, 4, .inl (fun j => nI (dig c0 j))))]) ⟨hx, hb, hml, hown, hts⟩ (c_X2_get l d cI q a 4 (fun j => nI (dig c0 j)) 0 (by decide) (by decide)) (cwV 1 hts gX1_pack_X2_get rfl rfl rfl (by decide +kernel) ⟨Nat.le_of_ble_eq_true rfl, Nat.le_of_ble_eq_true rfl⟩) (va_recv hK hP (ci := 2) (q0 := 0) rfl rfl) (hP.sub [0, 1] rfl) hK rfl hl.1 rfl (Nat.le_of_ble_eq_true rfl) dX1_pack_15 ⟨Nat.zero_le _, Nat.zero_le _⟩ ?_
  refine n_add hx hb dX1_pack_18 ?_
  refine lv_istore_n (lv' := [(1, .int (nI (0 + (dig c0 0)))), (2, .int (nI (0))), (0, .ref q)]) hx hb dX1_pack_19 rfl hl (by decide) rfl (fun ls hl => ?_)
  refine lv_iinc (v := nI (1)) (lv' := [(2, .int (nI (1))), (1, .int (nI (0 + (dig c0 0)))), (0, .ref q)]) hx hb dX1_pack_20 hl (k := 1) rfl (by decide) (by decide) rfl (fun ls hl => ?_)
  refine lv_goto (tgt := 4) hx hb dX1_pack_23 (by decide) ?_
  refine lv_iload_n hx hb dX1_pack_4 rfl (lv_at hl 0 rfl) ?_
  refine lv_iconst (v := nI (4)) hx hb dX1_pack_5 (by decide) ?_
  refine n_icmp_ge (tgt := 26) hx hb dX1_pack_6 (by decide) (by decide) (by decide) (fun c_2 => ?_) (fun c_2 => ?_)
  · exact absurd c_2 (by decide)
  refine lv_iload_n hx hb dX1_pack_9 rfl (lv_at hl 1 rfl) ?_
  refine lv_bipush (v := nI (6)) hx hb dX1_pack_10 (by decide) ?_
  refine n_mul hx hb dX1_pack_12 ?_
  refine lv_aload_n hx hb dX1_pack_13 rfl (lv_at hl 2 rfl) ?_
  refine lv_iload_n hx hb dX1_pack_14 rfl (lv_at hl 0 rfl) ?_
  refine n_rdV (As := [.int (nI (1))]) (rest := [.int (nI ((0 + (dig c0 0)) * 6))]) (WC := [(q, .inr (2, [.ref a])), (a, .inl (cI, 4, .inl (fun j => nI (dig c0 j))))]) ⟨hx, hb, hml, hown, hts⟩ (c_X2_get l d cI q a 4 (fun j => nI (dig c0 j)) 1 (by decide) (by decide)) (cwV 1 hts gX1_pack_X2_get rfl rfl rfl (by decide +kernel) ⟨Nat.le_of_ble_eq_true rfl, Nat.le_of_ble_eq_true rfl⟩) (va_recv hK hP (ci := 2) (q0 := 0) rfl rfl) (hP.sub [0, 1] rfl) hK rfl hl.1 rfl (Nat.le_of_ble_eq_true rfl) dX1_pack_15 ⟨Nat.zero_le _, Nat.zero_le _⟩ ?_
  refine n_add hx hb dX1_pack_18 ?_
  refine lv_istore_n (lv' := [(1, .int (nI (((0 + (dig c0 0)) * 6) + (dig c0 1)))), (2, .int (nI (1))), (0, .ref q)]) hx hb dX1_pack_19 rfl hl (by decide) rfl (fun ls hl => ?_)
  refine lv_iinc (v := nI (2)) (lv' := [(2, .int (nI (2))), (1, .int (nI (((0 + (dig c0 0)) * 6) + (dig c0 1)))), (0, .ref q)]) hx hb dX1_pack_20 hl (k := 1) rfl (by decide) (by decide) rfl (fun ls hl => ?_)
  refine lv_goto (tgt := 4) hx hb dX1_pack_23 (by decide) ?_
  refine lv_iload_n hx hb dX1_pack_4 rfl (lv_at hl 0 rfl) ?_
  refine lv_iconst (v := nI (4)) hx hb dX1_pack_5 (by decide) ?_
  refine n_icmp_ge (tgt := 26) hx hb dX1_pack_6 (by decide) (by decide) (by decide) (fun c_3 => ?_) (fun c_3 => ?_)
  · exact absurd c_3 (by decide)
  refine lv_iload_n hx hb dX1_pack_9 rfl (lv_at hl 1 rfl) ?_
  refine lv_bipush (v := nI (6)) hx hb dX1_pack_10 (by decide) ?_
  refine n_mul hx hb dX1_pack_12 ?_
  refine lv_aload_n hx hb dX1_pack_13 rfl (lv_at hl 2 rfl) ?_
  refine lv_iload_n hx hb dX1_pack_14 rfl (lv_at hl 0 rfl) ?_
  refine n_rdV (As := [.int (nI (2))]) (rest := [.int (nI ((((0 + (dig c0 0)) * 6) + (dig c0 1)) * 6))]) (WC := [(q, .inr (2, [.ref a])), (a, .inl (cI, 4, .inl (fun j => nI (dig c0 j))))]) ⟨hx, hb, hml, hown, hts⟩ (c_X2_get l d cI q a 4 (fun j => nI (dig c0 j)) 2 (by decide) (by decide)) (cwV 1 hts gX1_pack_X2_get rfl rfl rfl (by decide +kernel) ⟨Nat.le_of_ble_eq_true rfl, Nat.le_of_ble_eq_true rfl⟩) (va_recv hK hP (ci := 2) (q0 := 0) rfl rfl) (hP.sub [0, 1] rfl) hK rfl hl.1 rfl (Nat.le_of_ble_eq_true rfl) dX1_pack_15 ⟨Nat.zero_le _, Nat.zero_le _⟩ ?_
  refine n_add hx hb dX1_pack_18 ?_
  refine lv_istore_n (lv' := [(1, .int (nI (((((0 + (dig c0 0)) * 6) + (dig c0 1)) * 6) + (dig c0 2)))), (2, .int (nI (2))), (0, .ref q)]) hx hb dX1_pack_19 rfl hl (by decide) rfl (fun ls hl => ?_)
  refine lv_iinc (v := nI (3)) (lv' := [(2, .int (nI (3))), (1, .int (nI (((((0 + (dig c0 0)) * 6) + (dig c0 1)) * 6) + (dig c0 2)))), (0, .ref q)]) hx hb dX1_pack_20 hl (k := 1) rfl (by decide) (by decide) rfl (fun ls hl => ?_)
  refine lv_goto (tgt := 4) hx hb dX1_pack_23 (by decide) ?_
  refine lv_iload_n hx hb dX1_pack_4 rfl (lv_at hl 0 rfl) ?_
  refine lv_iconst (v := nI (4)) hx hb dX1_pack_5 (by decide) ?_
  refine n_icmp_ge (tgt := 26) hx hb dX1_pack_6 (by decide) (by decide) (by decide) (fun c_4 => ?_) (fun c_4 => ?_)
  · exact absurd c_4 (by decide)
  refine lv_iload_n hx hb dX1_pack_9 rfl (lv_at hl 1 rfl) ?_
  refine lv_bipush (v := nI (6)) hx hb dX1_pack_10 (by decide) ?_
  refine n_mul hx hb dX1_pack_12 ?_
  refine lv_aload_n hx hb dX1_pack_13 rfl (lv_at hl 2 rfl) ?_
  refine lv_iload_n hx hb dX1_pack_14 rfl (lv_at hl 0 rfl) ?_
  refine n_rdV (As := [.int (nI (3))]) (rest := [.int (nI ((((((0 + (dig c0 0)) * 6) + (dig c0 1)) * 6) + (dig c0 2)) * 6))]) (WC := [(q, .inr (2, [.ref a])), (a, .inl (cI, 4, .inl (fun j => nI (dig c0 j))))]) ⟨hx, hb, hml, hown, hts⟩ (c_X2_get l d cI q a 4 (fun j => nI (dig c0 j)) 3 (by decide) (by decide)) (cwV 1 hts gX1_pack_X2_get rfl rfl rfl (by decide +kernel) ⟨Nat.le_of_ble_eq_true rfl, Nat.le_of_ble_eq_true rfl⟩) (va_recv hK hP (ci := 2) (q0 := 0) rfl rfl) (hP.sub [0, 1] rfl) hK rfl hl.1 rfl (Nat.le_of_ble_eq_true rfl) dX1_pack_15 ⟨Nat.zero_le _, Nat.zero_le _⟩ ?_
  refine n_add hx hb dX1_pack_18 ?_
  refine lv_istore_n (lv' := [(1, .int (nI (((((((0 + (dig c0 0)) * 6) + (dig c0 1)) * 6) + (dig c0 2)) * 6) + (dig c0 3)))), (2, .int (nI (3))), (0, .ref q)]) hx hb dX1_pack_19 rfl hl (by decide) rfl (fun ls hl => ?_)
  refine lv_iinc (v := nI (4)) (lv' := [(2, .int (nI (4))), (1, .int (nI (((((((0 + (dig c0 0)) * 6) + (dig c0 1)) * 6) + (dig c0 2)) * 6) + (dig c0 3)))), (0, .ref q)]) hx hb dX1_pack_20 hl (k := 1) rfl (by decide) (by decide) rfl (fun ls hl => ?_)
  refine lv_goto (tgt := 4) hx hb dX1_pack_23 (by decide) ?_
  refine lv_iload_n hx hb dX1_pack_4 rfl (lv_at hl 0 rfl) ?_
  refine lv_iconst (v := nI (4)) hx hb dX1_pack_5 (by decide) ?_
  refine n_icmp_ge (tgt := 26) hx hb dX1_pack_6 (by decide) (by decide) (by decide) (fun c_5 => ?_) (fun c_5 => ?_)
  rotate_left
  · exact absurd c_5 (by decide)
  refine lv_iload_n hx hb dX1_pack_26 rfl (lv_at hl 1 rfl) ?_
  refine n_top (show (nI (((((((0 + (dig c0 0)) * 6) + (dig c0 1)) * 6) + (dig c0 2)) * 6) + (dig c0 3))) = (nI (c0)) from congrArg nI (by have h := pack_eq hc; omega)) ?_
  exact W.iret (v := (nI (c0))) hx hb hr (fun t ht hW => ⟨rfl, ht⟩) (fun q h => by cases h) dX1_pack_27

set_option maxHeartbeats 4000000 in
set_option maxRecDepth 100000 in
theorem c_X1_use_1 (l : Launch) (d : va_G) (cI : ClassId) (q a c0 pl : Nat) (hc : c0 < 1296) (hpl : pl < 3) (hf : fkb c0 (pl) = true) : nUp l yX1_use wsX1_use ({ frames := 2, cells := 0, slots := 0, locals := 43 } : Room) d [(cI, .int)] [(q, .inr (2, [.ref a])), (a, .inl (cI, 4, .inl (fun j => nI (dig c0 j))))] [(q, .inr (2, [.ref a])), (a, .inl (cI, 4, .inl (fun j => nI (dig (stp c0 (pl)) j))))] [.int (nI (1)), .ref q, .int (nI (pl))] none := by
  intro sz
  refine Met.ofW (cc := cX1_use) (maxL := 5) (ret := none) (by decide) rfl ?_
  intro p e s m args below meth c s₁ B hml hv
  obtain ⟨rfl, hsz, hP, hK, hD0⟩ := hv
  have hx := B.exec
  have hb := B.bytes
  have hr := B.returns
  have hts := atoms_spec (ws := wsX1_use) B.pre
  have hown : s.vm.findClass RX1 = some m.cls := findClass_of_methodNamed B.named
  have hlocks := B.notSynchronized
  subst hsz
  have hD := hD0.self (sz := s.heap.size)
  generalize hAe : va_A [(q, .inr (2, [.ref a])), (a, .inl (cI, 4, .inl (fun j => nI (dig c0 j))))] s.heap.size = A at hD ⊢
  have hA : ∀ q : Nat, s.heap.size ≤ q → A q := fun q h => by rw [← hAe]; exact Or.inr h
  have hS : va_S A s.heap s.heap [] := va_S.rf
  have hP : va_P d vwCl [(q, .inr (2, [.ref a])), (a, .inl (cI, 4, .inl (fun j => nI (dig c0 j))))] s.heap := hP
  have hl := lv_entry ([.int (nI (1)), .ref q, .int (nI (pl))]) (n := 5) (Nat.le_of_ble_eq_true rfl)
  rw [lg_entry_eq]
  generalize (lg_sl ([.int (nI (1)), .ref q, .int (nI (pl))]) ++ List.replicate (5 - (lg_sl ([.int (nI (1)), .ref q, .int (nI (pl))])).length) Slot.unset).toArray = ls at hl ⊢
  have hl : lv_has ls 5 [(0, .int (nI (1))), (1, .ref q), (2, .int (nI (pl)))] := hl
  refine lv_aload_n hx hb dX1_use_0 rfl (lv_at hl 1 rfl) ?_
  refine lv_iload_n hx hb dX1_use_1 rfl (lv_at hl 2 rfl) ?_
  refine n_rdV (As := [.int (nI (pl))]) (rest := []) (WC := [(q, .inr (2, [.ref a])), (a, .inl (cI, 4, .inl (fun j => nI (dig c0 j))))]) ⟨hx, hb, hml, hown, hts⟩ (c_X2_get l d cI q a 4 (fun j => nI (dig c0 j)) pl (by omega) (by decide)) (cwV 1 hts gX1_use_X2_get rfl rfl rfl (by decide +kernel) ⟨Nat.le_of_ble_eq_true rfl, Nat.le_of_ble_eq_true rfl⟩) (va_recv hK hP (ci := 2) (q0 := 0) rfl rfl) (hP.sub [0, 1] rfl) hK rfl hl.1 rfl (Nat.le_of_ble_eq_true rfl) dX1_use_2 ⟨Nat.zero_le _, Nat.zero_le _⟩ ?_
  refine lv_istore_n (lv' := [(3, .int (nI (dig c0 pl))), (0, .int (nI (1))), (1, .ref q), (2, .int (nI (pl)))]) hx hb dX1_use_5 rfl hl (by decide) rfl (fun ls hl => ?_)
  refine lv_aload_n hx hb dX1_use_6 rfl (lv_at hl 2 rfl) ?_
  refine lv_iload_n hx hb dX1_use_7 rfl (lv_at hl 3 rfl) ?_
  refine lv_iconst (v := nI (1)) hx hb dX1_use_8 (by decide) ?_
  refine n_add hx hb dX1_use_9 ?_
  refine n_rdV (As := [.int (nI (pl + 1))]) (rest := []) (WC := [(q, .inr (2, [.ref a])), (a, .inl (cI, 4, .inl (fun j => nI (dig c0 j))))]) ⟨hx, hb, hml, hown, hts⟩ (c_X2_get l d cI q a 4 (fun j => nI (dig c0 j)) (pl + 1) (by omega) (by decide)) (cwV 1 hts gX1_use_X2_get rfl rfl rfl (by decide +kernel) ⟨Nat.le_of_ble_eq_true rfl, Nat.le_of_ble_eq_true rfl⟩) (va_recv hK hP (ci := 2) (q0 := 0) rfl rfl) (hP.sub [0, 1] rfl) hK rfl hl.1 rfl (Nat.le_of_ble_eq_true rfl) dX1_use_10 ⟨Nat.zero_le _, Nat.zero_le _⟩ ?_
  refine lv_istore (lv' := [(4, .int (nI (dig c0 (pl + 1)))), (3, .int (nI (dig c0 pl))), (0, .int (nI (1))), (1, .ref q), (2, .int (nI (pl)))]) hx hb dX1_use_13 hl (by decide) rfl (fun ls hl => ?_)
  refine lv_iload_n hx hb dX1_use_15 rfl (lv_at hl 2 rfl) ?_
  refine lv_tableIn (x := nI (1)) (off := 28) (tgt := 44) hx hb dX1_use_16 (by decide) (by decide) rfl (by decide) ?_
  refine lv_aload_n hx hb dX1_use_44 rfl (lv_at hl 3 rfl) ?_
  refine lv_iload_n hx hb dX1_use_45 rfl (lv_at hl 4 rfl) ?_
  refine lv_iload hx hb dX1_use_46 (lv_at hl 0 rfl) ?_
  refine n_upV (As := [.int (nI (pl)), .int (nI (dig c0 (pl + 1)))]) (rest := []) (WC := [(q, .inr (2, [.ref a])), (a, .inl (cI, 4, .inl (fun j => nI (dig c0 j))))]) (WC' := [(q, .inr (2, [.ref a])), (a, .inl (cI, 4, .inl (upd (fun j => nI (dig c0 j)) pl (nI (dig c0 (pl + 1))))))]) (wr := []) (WS' := [(q, .inr (2, [.ref a])), (a, .inl (cI, 4, .inl (upd (fun j => nI (dig c0 j)) pl (nI (dig c0 (pl + 1))))))]) ⟨hx, hb, hml, hown, hts⟩ (c_X2_set l d cI q a 4 (fun j => nI (dig c0 j)) pl (nI (dig c0 (pl + 1))) (by omega) (by decide)) (cwV 2 hts gX1_use_X2_set rfl rfl rfl (by decide +kernel) ⟨Nat.le_of_ble_eq_true rfl, Nat.le_of_ble_eq_true rfl⟩) (va_recv hK hP (ci := 2) (q0 := 0) rfl rfl) hP hD hS hA hK [0, 1] [] [0, 1] rfl rfl (by decide) ⟨by decide, by decide⟩ (by decide) rfl rfl hl.1 rfl (Nat.le_of_ble_eq_true rfl) dX1_use_48 ⟨Nat.zero_le _, Nat.zero_le _⟩ (fun H locs hP hD hS => ?_)
  show W _ _ _ _ _ _ _ _ _ _ _ _ _ _ _ (F0 m _ ls [])
  refine lv_aload_n hx hb dX1_use_51 rfl (lv_at hl 3 rfl) ?_
  refine lv_iload_n hx hb dX1_use_52 rfl (lv_at hl 4 rfl) ?_
  refine lv_iconst (v := nI (1)) hx hb dX1_use_53 (by decide) ?_
  refine n_add hx hb dX1_use_54 ?_
  refine lv_iload_n hx hb dX1_use_55 rfl (lv_at hl 1 rfl) ?_
  refine n_upV (As := [.int (nI (pl + 1)), .int (nI (dig c0 pl))]) (rest := []) (WC := [(q, .inr (2, [.ref a])), (a, .inl (cI, 4, .inl (upd (fun j => nI (dig c0 j)) pl (nI (dig c0 (pl + 1))))))]) (WC' := [(q, .inr (2, [.ref a])), (a, .inl (cI, 4, .inl (upd (upd (fun j => nI (dig c0 j)) pl (nI (dig c0 (pl + 1)))) (pl + 1) (nI (dig c0 pl)))))]) (wr := []) (WS' := [(q, .inr (2, [.ref a])), (a, .inl (cI, 4, .inl (upd (upd (fun j => nI (dig c0 j)) pl (nI (dig c0 (pl + 1)))) (pl + 1) (nI (dig c0 pl)))))]) ⟨hx, hb, hml, hown, hts⟩ (c_X2_set l d cI q a 4 (upd (fun j => nI (dig c0 j)) pl (nI (dig c0 (pl + 1)))) (pl + 1) (nI (dig c0 pl)) (by omega) (by decide)) (cwV 2 hts gX1_use_X2_set rfl rfl rfl (by decide +kernel) ⟨Nat.le_of_ble_eq_true rfl, Nat.le_of_ble_eq_true rfl⟩) (va_recv hK hP (ci := 2) (q0 := 0) rfl rfl) hP hD hS hA hK [0, 1] [] [0, 1] rfl rfl (by decide) ⟨by decide, by decide⟩ (by decide) rfl rfl hl.1 rfl (Nat.le_of_ble_eq_true rfl) dX1_use_56 ⟨Nat.zero_le _, Nat.zero_le _⟩ (fun H locs hP hD hS => ?_)
  show W _ _ _ _ _ _ _ _ _ _ _ _ _ _ _ (F0 m _ ls [])
  refine lv_goto (tgt := 87) hx hb dX1_use_59 (by decide) ?_
  obtain ⟨hP, hD⟩ := n_cg (ws' := [(q, .inr (2, [.ref a])), (a, .inl (cI, 4, .inl (fun j => nI (dig (stp c0 (pl)) j))))]) hP hD 1 rfl (by intro j hj; have h := (stp_ok hc (show pl < 12 from by omega) hf).2 j hj; rw [show (pl) % 3 = pl from by omega] at h; rw [if_pos (by omega)] at h; rw [h]; unfold upd; by_cases h1 : j = pl + 1 <;> by_cases h2 : j = pl <;> simp [h1, h2] <;> omega) rfl
  exact W.vret hx hb hr (fun t ht hW => ⟨⟨rfl, by rw [ht]; exact hP, hD⟩, hS.F ht⟩) hS.2.2 dX1_use_87

set_option maxHeartbeats 4000000 in
set_option maxRecDepth 100000 in
theorem c_X1_use_2 (l : Launch) (d : va_G) (cI : ClassId) (q a c0 pl : Nat) (hc : c0 < 1296) (hpl : pl < 3) (hf : fkb c0 (3 + pl) = true) : nUp l yX1_use wsX1_use ({ frames := 2, cells := 0, slots := 0, locals := 43 } : Room) d [(cI, .int)] [(q, .inr (2, [.ref a])), (a, .inl (cI, 4, .inl (fun j => nI (dig c0 j))))] [(q, .inr (2, [.ref a])), (a, .inl (cI, 4, .inl (fun j => nI (dig (stp c0 (3 + pl)) j))))] [.int (nI (2)), .ref q, .int (nI (pl))] none := by
  intro sz
  refine Met.ofW (cc := cX1_use) (maxL := 5) (ret := none) (by decide) rfl ?_
  intro p e s m args below meth c s₁ B hml hv
  obtain ⟨rfl, hsz, hP, hK, hD0⟩ := hv
  have hx := B.exec
  have hb := B.bytes
  have hr := B.returns
  have hts := atoms_spec (ws := wsX1_use) B.pre
  have hown : s.vm.findClass RX1 = some m.cls := findClass_of_methodNamed B.named
  have hlocks := B.notSynchronized
  subst hsz
  have hD := hD0.self (sz := s.heap.size)
  generalize hAe : va_A [(q, .inr (2, [.ref a])), (a, .inl (cI, 4, .inl (fun j => nI (dig c0 j))))] s.heap.size = A at hD ⊢
  have hA : ∀ q : Nat, s.heap.size ≤ q → A q := fun q h => by rw [← hAe]; exact Or.inr h
  have hS : va_S A s.heap s.heap [] := va_S.rf
  have hP : va_P d vwCl [(q, .inr (2, [.ref a])), (a, .inl (cI, 4, .inl (fun j => nI (dig c0 j))))] s.heap := hP
  have hl := lv_entry ([.int (nI (2)), .ref q, .int (nI (pl))]) (n := 5) (Nat.le_of_ble_eq_true rfl)
  rw [lg_entry_eq]
  generalize (lg_sl ([.int (nI (2)), .ref q, .int (nI (pl))]) ++ List.replicate (5 - (lg_sl ([.int (nI (2)), .ref q, .int (nI (pl))])).length) Slot.unset).toArray = ls at hl ⊢
  have hl : lv_has ls 5 [(0, .int (nI (2))), (1, .ref q), (2, .int (nI (pl)))] := hl
  refine lv_aload_n hx hb dX1_use_0 rfl (lv_at hl 1 rfl) ?_
  refine lv_iload_n hx hb dX1_use_1 rfl (lv_at hl 2 rfl) ?_
  refine n_rdV (As := [.int (nI (pl))]) (rest := []) (WC := [(q, .inr (2, [.ref a])), (a, .inl (cI, 4, .inl (fun j => nI (dig c0 j))))]) ⟨hx, hb, hml, hown, hts⟩ (c_X2_get l d cI q a 4 (fun j => nI (dig c0 j)) pl (by omega) (by decide)) (cwV 1 hts gX1_use_X2_get rfl rfl rfl (by decide +kernel) ⟨Nat.le_of_ble_eq_true rfl, Nat.le_of_ble_eq_true rfl⟩) (va_recv hK hP (ci := 2) (q0 := 0) rfl rfl) (hP.sub [0, 1] rfl) hK rfl hl.1 rfl (Nat.le_of_ble_eq_true rfl) dX1_use_2 ⟨Nat.zero_le _, Nat.zero_le _⟩ ?_
  refine lv_istore_n (lv' := [(3, .int (nI (dig c0 pl))), (0, .int (nI (2))), (1, .ref q), (2, .int (nI (pl)))]) hx hb dX1_use_5 rfl hl (by decide) rfl (fun ls hl => ?_)
  refine lv_aload_n hx hb dX1_use_6 rfl (lv_at hl 2 rfl) ?_
  refine lv_iload_n hx hb dX1_use_7 rfl (lv_at hl 3 rfl) ?_
  refine lv_iconst (v := nI (1)) hx hb dX1_use_8 (by decide) ?_
  refine n_add hx hb dX1_use_9 ?_
  refine n_rdV (As := [.int (nI (pl + 1))]) (rest := []) (WC := [(q, .inr (2, [.ref a])), (a, .inl (cI, 4, .inl (fun j => nI (dig c0 j))))]) ⟨hx, hb, hml, hown, hts⟩ (c_X2_get l d cI q a 4 (fun j => nI (dig c0 j)) (pl + 1) (by omega) (by decide)) (cwV 1 hts gX1_use_X2_get rfl rfl rfl (by decide +kernel) ⟨Nat.le_of_ble_eq_true rfl, Nat.le_of_ble_eq_true rfl⟩) (va_recv hK hP (ci := 2) (q0 := 0) rfl rfl) (hP.sub [0, 1] rfl) hK rfl hl.1 rfl (Nat.le_of_ble_eq_true rfl) dX1_use_10 ⟨Nat.zero_le _, Nat.zero_le _⟩ ?_
  refine lv_istore (lv' := [(4, .int (nI (dig c0 (pl + 1)))), (3, .int (nI (dig c0 pl))), (0, .int (nI (2))), (1, .ref q), (2, .int (nI (pl)))]) hx hb dX1_use_13 hl (by decide) rfl (fun ls hl => ?_)
  refine lv_iload_n hx hb dX1_use_15 rfl (lv_at hl 2 rfl) ?_
  refine lv_tableIn (x := nI (2)) (off := 28) (tgt := 44) hx hb dX1_use_16 (by decide) (by decide) rfl (by decide) ?_
  refine lv_aload_n hx hb dX1_use_44 rfl (lv_at hl 3 rfl) ?_
  refine lv_iload_n hx hb dX1_use_45 rfl (lv_at hl 4 rfl) ?_
  refine lv_iload hx hb dX1_use_46 (lv_at hl 0 rfl) ?_
  refine n_upV (As := [.int (nI (pl)), .int (nI (dig c0 (pl + 1)))]) (rest := []) (WC := [(q, .inr (2, [.ref a])), (a, .inl (cI, 4, .inl (fun j => nI (dig c0 j))))]) (WC' := [(q, .inr (2, [.ref a])), (a, .inl (cI, 4, .inl (upd (fun j => nI (dig c0 j)) pl (nI (dig c0 (pl + 1))))))]) (wr := []) (WS' := [(q, .inr (2, [.ref a])), (a, .inl (cI, 4, .inl (upd (fun j => nI (dig c0 j)) pl (nI (dig c0 (pl + 1))))))]) ⟨hx, hb, hml, hown, hts⟩ (c_X2_set l d cI q a 4 (fun j => nI (dig c0 j)) pl (nI (dig c0 (pl + 1))) (by omega) (by decide)) (cwV 2 hts gX1_use_X2_set rfl rfl rfl (by decide +kernel) ⟨Nat.le_of_ble_eq_true rfl, Nat.le_of_ble_eq_true rfl⟩) (va_recv hK hP (ci := 2) (q0 := 0) rfl rfl) hP hD hS hA hK [0, 1] [] [0, 1] rfl rfl (by decide) ⟨by decide, by decide⟩ (by decide) rfl rfl hl.1 rfl (Nat.le_of_ble_eq_true rfl) dX1_use_48 ⟨Nat.zero_le _, Nat.zero_le _⟩ (fun H locs hP hD hS => ?_)
  show W _ _ _ _ _ _ _ _ _ _ _ _ _ _ _ (F0 m _ ls [])
  refine lv_aload_n hx hb dX1_use_51 rfl (lv_at hl 3 rfl) ?_
  refine lv_iload_n hx hb dX1_use_52 rfl (lv_at hl 4 rfl) ?_
  refine lv_iconst (v := nI (1)) hx hb dX1_use_53 (by decide) ?_
  refine n_add hx hb dX1_use_54 ?_
  refine lv_iload_n hx hb dX1_use_55 rfl (lv_at hl 1 rfl) ?_
  refine n_upV (As := [.int (nI (pl + 1)), .int (nI (dig c0 pl))]) (rest := []) (WC := [(q, .inr (2, [.ref a])), (a, .inl (cI, 4, .inl (upd (fun j => nI (dig c0 j)) pl (nI (dig c0 (pl + 1))))))]) (WC' := [(q, .inr (2, [.ref a])), (a, .inl (cI, 4, .inl (upd (upd (fun j => nI (dig c0 j)) pl (nI (dig c0 (pl + 1)))) (pl + 1) (nI (dig c0 pl)))))]) (wr := []) (WS' := [(q, .inr (2, [.ref a])), (a, .inl (cI, 4, .inl (upd (upd (fun j => nI (dig c0 j)) pl (nI (dig c0 (pl + 1)))) (pl + 1) (nI (dig c0 pl)))))]) ⟨hx, hb, hml, hown, hts⟩ (c_X2_set l d cI q a 4 (upd (fun j => nI (dig c0 j)) pl (nI (dig c0 (pl + 1)))) (pl + 1) (nI (dig c0 pl)) (by omega) (by decide)) (cwV 2 hts gX1_use_X2_set rfl rfl rfl (by decide +kernel) ⟨Nat.le_of_ble_eq_true rfl, Nat.le_of_ble_eq_true rfl⟩) (va_recv hK hP (ci := 2) (q0 := 0) rfl rfl) hP hD hS hA hK [0, 1] [] [0, 1] rfl rfl (by decide) ⟨by decide, by decide⟩ (by decide) rfl rfl hl.1 rfl (Nat.le_of_ble_eq_true rfl) dX1_use_56 ⟨Nat.zero_le _, Nat.zero_le _⟩ (fun H locs hP hD hS => ?_)
  show W _ _ _ _ _ _ _ _ _ _ _ _ _ _ _ (F0 m _ ls [])
  refine lv_goto (tgt := 87) hx hb dX1_use_59 (by decide) ?_
  obtain ⟨hP, hD⟩ := n_cg (ws' := [(q, .inr (2, [.ref a])), (a, .inl (cI, 4, .inl (fun j => nI (dig (stp c0 (3 + pl)) j))))]) hP hD 1 rfl (by intro j hj; have h := (stp_ok hc (show 3 + pl < 12 from by omega) hf).2 j hj; rw [show (3 + pl) % 3 = pl from by omega] at h; rw [if_pos (by omega)] at h; rw [h]; unfold upd; by_cases h1 : j = pl + 1 <;> by_cases h2 : j = pl <;> simp [h1, h2] <;> omega) rfl
  exact W.vret hx hb hr (fun t ht hW => ⟨⟨rfl, by rw [ht]; exact hP, hD⟩, hS.F ht⟩) hS.2.2 dX1_use_87

set_option maxHeartbeats 4000000 in
set_option maxRecDepth 100000 in
theorem c_X1_use_3 (l : Launch) (d : va_G) (cI : ClassId) (q a c0 pl : Nat) (hc : c0 < 1296) (hpl : pl < 3) (hf : fkb c0 (6 + pl) = true) : nUp l yX1_use wsX1_use ({ frames := 2, cells := 0, slots := 0, locals := 43 } : Room) d [(cI, .int)] [(q, .inr (2, [.ref a])), (a, .inl (cI, 4, .inl (fun j => nI (dig c0 j))))] [(q, .inr (2, [.ref a])), (a, .inl (cI, 4, .inl (fun j => nI (dig (stp c0 (6 + pl)) j))))] [.int (nI (3)), .ref q, .int (nI (pl))] none := by
  intro sz
  refine Met.ofW (cc := cX1_use) (maxL := 5) (ret := none) (by decide) rfl ?_
  intro p e s m args below meth c s₁ B hml hv
  obtain ⟨rfl, hsz, hP, hK, hD0⟩ := hv
  have hx := B.exec
  have hb := B.bytes
  have hr := B.returns
  have hts := atoms_spec (ws := wsX1_use) B.pre
  have hown : s.vm.findClass RX1 = some m.cls := findClass_of_methodNamed B.named
  have hlocks := B.notSynchronized
  subst hsz
  have hD := hD0.self (sz := s.heap.size)
  generalize hAe : va_A [(q, .inr (2, [.ref a])), (a, .inl (cI, 4, .inl (fun j => nI (dig c0 j))))] s.heap.size = A at hD ⊢
  have hA : ∀ q : Nat, s.heap.size ≤ q → A q := fun q h => by rw [← hAe]; exact Or.inr h
  have hS : va_S A s.heap s.heap [] := va_S.rf
  have hP : va_P d vwCl [(q, .inr (2, [.ref a])), (a, .inl (cI, 4, .inl (fun j => nI (dig c0 j))))] s.heap := hP
  have hl := lv_entry ([.int (nI (3)), .ref q, .int (nI (pl))]) (n := 5) (Nat.le_of_ble_eq_true rfl)
  rw [lg_entry_eq]
  generalize (lg_sl ([.int (nI (3)), .ref q, .int (nI (pl))]) ++ List.replicate (5 - (lg_sl ([.int (nI (3)), .ref q, .int (nI (pl))])).length) Slot.unset).toArray = ls at hl ⊢
  have hl : lv_has ls 5 [(0, .int (nI (3))), (1, .ref q), (2, .int (nI (pl)))] := hl
  refine lv_aload_n hx hb dX1_use_0 rfl (lv_at hl 1 rfl) ?_
  refine lv_iload_n hx hb dX1_use_1 rfl (lv_at hl 2 rfl) ?_
  refine n_rdV (As := [.int (nI (pl))]) (rest := []) (WC := [(q, .inr (2, [.ref a])), (a, .inl (cI, 4, .inl (fun j => nI (dig c0 j))))]) ⟨hx, hb, hml, hown, hts⟩ (c_X2_get l d cI q a 4 (fun j => nI (dig c0 j)) pl (by omega) (by decide)) (cwV 1 hts gX1_use_X2_get rfl rfl rfl (by decide +kernel) ⟨Nat.le_of_ble_eq_true rfl, Nat.le_of_ble_eq_true rfl⟩) (va_recv hK hP (ci := 2) (q0 := 0) rfl rfl) (hP.sub [0, 1] rfl) hK rfl hl.1 rfl (Nat.le_of_ble_eq_true rfl) dX1_use_2 ⟨Nat.zero_le _, Nat.zero_le _⟩ ?_
  refine lv_istore_n (lv' := [(3, .int (nI (dig c0 pl))), (0, .int (nI (3))), (1, .ref q), (2, .int (nI (pl)))]) hx hb dX1_use_5 rfl hl (by decide) rfl (fun ls hl => ?_)
  refine lv_aload_n hx hb dX1_use_6 rfl (lv_at hl 2 rfl) ?_
  refine lv_iload_n hx hb dX1_use_7 rfl (lv_at hl 3 rfl) ?_
  refine lv_iconst (v := nI (1)) hx hb dX1_use_8 (by decide) ?_
  refine n_add hx hb dX1_use_9 ?_
  refine n_rdV (As := [.int (nI (pl + 1))]) (rest := []) (WC := [(q, .inr (2, [.ref a])), (a, .inl (cI, 4, .inl (fun j => nI (dig c0 j))))]) ⟨hx, hb, hml, hown, hts⟩ (c_X2_get l d cI q a 4 (fun j => nI (dig c0 j)) (pl + 1) (by omega) (by decide)) (cwV 1 hts gX1_use_X2_get rfl rfl rfl (by decide +kernel) ⟨Nat.le_of_ble_eq_true rfl, Nat.le_of_ble_eq_true rfl⟩) (va_recv hK hP (ci := 2) (q0 := 0) rfl rfl) (hP.sub [0, 1] rfl) hK rfl hl.1 rfl (Nat.le_of_ble_eq_true rfl) dX1_use_10 ⟨Nat.zero_le _, Nat.zero_le _⟩ ?_
  refine lv_istore (lv' := [(4, .int (nI (dig c0 (pl + 1)))), (3, .int (nI (dig c0 pl))), (0, .int (nI (3))), (1, .ref q), (2, .int (nI (pl)))]) hx hb dX1_use_13 hl (by decide) rfl (fun ls hl => ?_)
  refine lv_iload_n hx hb dX1_use_15 rfl (lv_at hl 2 rfl) ?_
  refine lv_tableIn (x := nI (3)) (off := 46) (tgt := 62) hx hb dX1_use_16 (by decide) (by decide) rfl (by decide) ?_
  refine lv_aload_n hx hb dX1_use_62 rfl (lv_at hl 3 rfl) ?_
  refine lv_iload_n hx hb dX1_use_63 rfl (lv_at hl 4 rfl) ?_
  refine lv_iconst (v := nI (1)) hx hb dX1_use_64 (by decide) ?_
  refine n_add hx hb dX1_use_65 ?_
  refine lv_iconst (v := nI (0)) hx hb dX1_use_66 (by decide) ?_
  refine n_upV (As := [.int (nI (pl + 1)), .int (nI (0))]) (rest := []) (WC := [(q, .inr (2, [.ref a])), (a, .inl (cI, 4, .inl (fun j => nI (dig c0 j))))]) (WC' := [(q, .inr (2, [.ref a])), (a, .inl (cI, 4, .inl (upd (fun j => nI (dig c0 j)) (pl + 1) (nI (0)))))]) (wr := []) (WS' := [(q, .inr (2, [.ref a])), (a, .inl (cI, 4, .inl (upd (fun j => nI (dig c0 j)) (pl + 1) (nI (0)))))]) ⟨hx, hb, hml, hown, hts⟩ (c_X2_set l d cI q a 4 (fun j => nI (dig c0 j)) (pl + 1) (nI (0)) (by omega) (by decide)) (cwV 2 hts gX1_use_X2_set rfl rfl rfl (by decide +kernel) ⟨Nat.le_of_ble_eq_true rfl, Nat.le_of_ble_eq_true rfl⟩) (va_recv hK hP (ci := 2) (q0 := 0) rfl rfl) hP hD hS hA hK [0, 1] [] [0, 1] rfl rfl (by decide) ⟨by decide, by decide⟩ (by decide) rfl rfl hl.1 rfl (Nat.le_of_ble_eq_true rfl) dX1_use_67 ⟨Nat.zero_le _, Nat.zero_le _⟩ (fun H locs hP hD hS => ?_)
  show W _ _ _ _ _ _ _ _ _ _ _ _ _ _ _ (F0 m _ ls [])
  refine lv_goto (tgt := 87) hx hb dX1_use_70 (by decide) ?_
  obtain ⟨hP, hD⟩ := n_cg (ws' := [(q, .inr (2, [.ref a])), (a, .inl (cI, 4, .inl (fun j => nI (dig (stp c0 (6 + pl)) j))))]) hP hD 1 rfl (by intro j hj; have h := (stp_ok hc (show 6 + pl < 12 from by omega) hf).2 j hj; rw [show (6 + pl) % 3 = pl from by omega] at h; rw [if_neg (by omega), if_pos (by omega)] at h; rw [h]; unfold upd; by_cases h1 : j = pl + 1 <;> by_cases h2 : j = pl <;> simp [h1, h2] <;> omega) rfl
  exact W.vret hx hb hr (fun t ht hW => ⟨⟨rfl, by rw [ht]; exact hP, hD⟩, hS.F ht⟩) hS.2.2 dX1_use_87

set_option maxHeartbeats 4000000 in
set_option maxRecDepth 100000 in
theorem c_X1_use_4 (l : Launch) (d : va_G) (cI : ClassId) (q a c0 pl : Nat) (hc : c0 < 1296) (hpl : pl < 3) (hf : fkb c0 (9 + pl) = true) : nUp l yX1_use wsX1_use ({ frames := 2, cells := 0, slots := 0, locals := 43 } : Room) d [(cI, .int)] [(q, .inr (2, [.ref a])), (a, .inl (cI, 4, .inl (fun j => nI (dig c0 j))))] [(q, .inr (2, [.ref a])), (a, .inl (cI, 4, .inl (fun j => nI (dig (stp c0 (9 + pl)) j))))] [.int (nI (4)), .ref q, .int (nI (pl))] none := by
  intro sz
  refine Met.ofW (cc := cX1_use) (maxL := 5) (ret := none) (by decide) rfl ?_
  intro p e s m args below meth c s₁ B hml hv
  obtain ⟨rfl, hsz, hP, hK, hD0⟩ := hv
  have hx := B.exec
  have hb := B.bytes
  have hr := B.returns
  have hts := atoms_spec (ws := wsX1_use) B.pre
  have hown : s.vm.findClass RX1 = some m.cls := findClass_of_methodNamed B.named
  have hlocks := B.notSynchronized
  subst hsz
  have hD := hD0.self (sz := s.heap.size)
  generalize hAe : va_A [(q, .inr (2, [.ref a])), (a, .inl (cI, 4, .inl (fun j => nI (dig c0 j))))] s.heap.size = A at hD ⊢
  have hA : ∀ q : Nat, s.heap.size ≤ q → A q := fun q h => by rw [← hAe]; exact Or.inr h
  have hS : va_S A s.heap s.heap [] := va_S.rf
  have hP : va_P d vwCl [(q, .inr (2, [.ref a])), (a, .inl (cI, 4, .inl (fun j => nI (dig c0 j))))] s.heap := hP
  have hl := lv_entry ([.int (nI (4)), .ref q, .int (nI (pl))]) (n := 5) (Nat.le_of_ble_eq_true rfl)
  rw [lg_entry_eq]
  generalize (lg_sl ([.int (nI (4)), .ref q, .int (nI (pl))]) ++ List.replicate (5 - (lg_sl ([.int (nI (4)), .ref q, .int (nI (pl))])).length) Slot.unset).toArray = ls at hl ⊢
  have hl : lv_has ls 5 [(0, .int (nI (4))), (1, .ref q), (2, .int (nI (pl)))] := hl
  refine lv_aload_n hx hb dX1_use_0 rfl (lv_at hl 1 rfl) ?_
  refine lv_iload_n hx hb dX1_use_1 rfl (lv_at hl 2 rfl) ?_
  refine n_rdV (As := [.int (nI (pl))]) (rest := []) (WC := [(q, .inr (2, [.ref a])), (a, .inl (cI, 4, .inl (fun j => nI (dig c0 j))))]) ⟨hx, hb, hml, hown, hts⟩ (c_X2_get l d cI q a 4 (fun j => nI (dig c0 j)) pl (by omega) (by decide)) (cwV 1 hts gX1_use_X2_get rfl rfl rfl (by decide +kernel) ⟨Nat.le_of_ble_eq_true rfl, Nat.le_of_ble_eq_true rfl⟩) (va_recv hK hP (ci := 2) (q0 := 0) rfl rfl) (hP.sub [0, 1] rfl) hK rfl hl.1 rfl (Nat.le_of_ble_eq_true rfl) dX1_use_2 ⟨Nat.zero_le _, Nat.zero_le _⟩ ?_
  refine lv_istore_n (lv' := [(3, .int (nI (dig c0 pl))), (0, .int (nI (4))), (1, .ref q), (2, .int (nI (pl)))]) hx hb dX1_use_5 rfl hl (by decide) rfl (fun ls hl => ?_)
  refine lv_aload_n hx hb dX1_use_6 rfl (lv_at hl 2 rfl) ?_
  refine lv_iload_n hx hb dX1_use_7 rfl (lv_at hl 3 rfl) ?_
  refine lv_iconst (v := nI (1)) hx hb dX1_use_8 (by decide) ?_
  refine n_add hx hb dX1_use_9 ?_
  refine n_rdV (As := [.int (nI (pl + 1))]) (rest := []) (WC := [(q, .inr (2, [.ref a])), (a, .inl (cI, 4, .inl (fun j => nI (dig c0 j))))]) ⟨hx, hb, hml, hown, hts⟩ (c_X2_get l d cI q a 4 (fun j => nI (dig c0 j)) (pl + 1) (by omega) (by decide)) (cwV 1 hts gX1_use_X2_get rfl rfl rfl (by decide +kernel) ⟨Nat.le_of_ble_eq_true rfl, Nat.le_of_ble_eq_true rfl⟩) (va_recv hK hP (ci := 2) (q0 := 0) rfl rfl) (hP.sub [0, 1] rfl) hK rfl hl.1 rfl (Nat.le_of_ble_eq_true rfl) dX1_use_10 ⟨Nat.zero_le _, Nat.zero_le _⟩ ?_
  refine lv_istore (lv' := [(4, .int (nI (dig c0 (pl + 1)))), (3, .int (nI (dig c0 pl))), (0, .int (nI (4))), (1, .ref q), (2, .int (nI (pl)))]) hx hb dX1_use_13 hl (by decide) rfl (fun ls hl => ?_)
  refine lv_iload_n hx hb dX1_use_15 rfl (lv_at hl 2 rfl) ?_
  refine lv_tableOut (x := nI (4)) (tgt := 73) hx hb dX1_use_16 (by decide) (by decide) ?_
  refine lv_aload_n hx hb dX1_use_73 rfl (lv_at hl 3 rfl) ?_
  refine lv_iload_n hx hb dX1_use_74 rfl (lv_at hl 4 rfl) ?_
  refine lv_iconst (v := nI (0)) hx hb dX1_use_75 (by decide) ?_
  refine n_upV (As := [.int (nI (pl)), .int (nI (0))]) (rest := []) (WC := [(q, .inr (2, [.ref a])), (a, .inl (cI, 4, .inl (fun j => nI (dig c0 j))))]) (WC' := [(q, .inr (2, [.ref a])), (a, .inl (cI, 4, .inl (upd (fun j => nI (dig c0 j)) pl (nI (0)))))]) (wr := []) (WS' := [(q, .inr (2, [.ref a])), (a, .inl (cI, 4, .inl (upd (fun j => nI (dig c0 j)) pl (nI (0)))))]) ⟨hx, hb, hml, hown, hts⟩ (c_X2_set l d cI q a 4 (fun j => nI (dig c0 j)) pl (nI (0)) (by omega) (by decide)) (cwV 2 hts gX1_use_X2_set rfl rfl rfl (by decide +kernel) ⟨Nat.le_of_ble_eq_true rfl, Nat.le_of_ble_eq_true rfl⟩) (va_recv hK hP (ci := 2) (q0 := 0) rfl rfl) hP hD hS hA hK [0, 1] [] [0, 1] rfl rfl (by decide) ⟨by decide, by decide⟩ (by decide) rfl rfl hl.1 rfl (Nat.le_of_ble_eq_true rfl) dX1_use_76 ⟨Nat.zero_le _, Nat.zero_le _⟩ (fun H locs hP hD hS => ?_)
  show W _ _ _ _ _ _ _ _ _ _ _ _ _ _ _ (F0 m _ ls [])
  refine lv_aload_n hx hb dX1_use_79 rfl (lv_at hl 3 rfl) ?_
  refine lv_iload_n hx hb dX1_use_80 rfl (lv_at hl 4 rfl) ?_
  refine lv_iconst (v := nI (1)) hx hb dX1_use_81 (by decide) ?_
  refine n_add hx hb dX1_use_82 ?_
  refine lv_iconst (v := nI (0)) hx hb dX1_use_83 (by decide) ?_
  refine n_upV (As := [.int (nI (pl + 1)), .int (nI (0))]) (rest := []) (WC := [(q, .inr (2, [.ref a])), (a, .inl (cI, 4, .inl (upd (fun j => nI (dig c0 j)) pl (nI (0)))))]) (WC' := [(q, .inr (2, [.ref a])), (a, .inl (cI, 4, .inl (upd (upd (fun j => nI (dig c0 j)) pl (nI (0))) (pl + 1) (nI (0)))))]) (wr := []) (WS' := [(q, .inr (2, [.ref a])), (a, .inl (cI, 4, .inl (upd (upd (fun j => nI (dig c0 j)) pl (nI (0))) (pl + 1) (nI (0)))))]) ⟨hx, hb, hml, hown, hts⟩ (c_X2_set l d cI q a 4 (upd (fun j => nI (dig c0 j)) pl (nI (0))) (pl + 1) (nI (0)) (by omega) (by decide)) (cwV 2 hts gX1_use_X2_set rfl rfl rfl (by decide +kernel) ⟨Nat.le_of_ble_eq_true rfl, Nat.le_of_ble_eq_true rfl⟩) (va_recv hK hP (ci := 2) (q0 := 0) rfl rfl) hP hD hS hA hK [0, 1] [] [0, 1] rfl rfl (by decide) ⟨by decide, by decide⟩ (by decide) rfl rfl hl.1 rfl (Nat.le_of_ble_eq_true rfl) dX1_use_84 ⟨Nat.zero_le _, Nat.zero_le _⟩ (fun H locs hP hD hS => ?_)
  show W _ _ _ _ _ _ _ _ _ _ _ _ _ _ _ (F0 m _ ls [])
  obtain ⟨hP, hD⟩ := n_cg (ws' := [(q, .inr (2, [.ref a])), (a, .inl (cI, 4, .inl (fun j => nI (dig (stp c0 (9 + pl)) j))))]) hP hD 1 rfl (by intro j hj; have h := (stp_ok hc (show 9 + pl < 12 from by omega) hf).2 j hj; rw [show (9 + pl) % 3 = pl from by omega] at h; rw [if_neg (by omega), if_neg (by omega)] at h; rw [h]; unfold upd; by_cases h1 : j = pl + 1 <;> by_cases h2 : j = pl <;> simp [h1, h2] <;> omega) rfl
  exact W.vret hx hb hr (fun t ht hW => ⟨⟨rfl, by rw [ht]; exact hP, hD⟩, hS.F ht⟩) hS.2.2 dX1_use_87

theorem c_X1_use (l : Launch) (d : va_G) (cI : ClassId) (q a c0 pl rr : Nat) (hc : c0 < 1296) (hpl : pl < 3) (hr4 : rr < 4) (hf : fkb c0 (3 * rr + pl) = true) : nUp l yX1_use wsX1_use ({ frames := 2, cells := 0, slots := 0, locals := 43 } : Room) d [(cI, .int)] [(q, .inr (2, [.ref a])), (a, .inl (cI, 4, .inl (fun j => nI (dig c0 j))))] [(q, .inr (2, [.ref a])), (a, .inl (cI, 4, .inl (fun j => nI (dig (stp c0 (3 * rr + pl)) j))))] [.int (nI (rr + 1)), .ref q, .int (nI pl)] none := by
  rcases lt4 hr4 with rfl | rfl | rfl | rfl
  · rw [show 3 * 0 + pl = pl from by omega] at hf ⊢; exact c_X1_use_1 l d cI q a c0 pl hc hpl hf
  · exact c_X1_use_2 l d cI q a c0 pl hc hpl hf
  · exact c_X1_use_3 l d cI q a c0 pl hc hpl hf
  · exact c_X1_use_4 l d cI q a c0 pl hc hpl hf
set_option maxHeartbeats 4000000 in
set_option maxRecDepth 100000 in
/-- one use of a rule, if one can be used -/
theorem c_X1_rewriteOnce (l : Launch) (d : va_G) (cI : ClassId) (q a c0 : Nat) (hc : c0 < 1296) : nUp l yX1_rewriteOnce wsX1_rewriteOnce ({ frames := 3, cells := 0, slots := 0, locals := 67 } : Room) d [(cI, .int)] [(q, .inr (2, [.ref a])), (a, .inl (cI, 4, .inl (fun j => nI (dig c0 j))))] [(q, .inr (2, [.ref a])), (a, .inl (cI, 4, .inl (fun j => nI (dig (nx c0) j))))] [.ref q] (some (.int (nI ((chg c0).toNat)))) := by
  intro sz
  refine Met.ofW (cc := cX1_rewriteOnce) (maxL := 3) (ret := some .boolean) (by decide) rfl ?_
  intro p e s m args below meth c s₁ B hml hv
  obtain ⟨rfl, hsz, hP, hK, hD0⟩ := hv
  have hx := B.exec
  have hb := B.bytes
  have hr := B.returns
  have hts := atoms_spec (ws := wsX1_rewriteOnce) B.pre
  have hown : s.vm.findClass RX1 = some m.cls := findClass_of_methodNamed B.named
  have hlocks := B.notSynchronized
  subst hsz
  have hD := hD0.self (sz := s.heap.size)
  generalize hAe : va_A [(q, .inr (2, [.ref a])), (a, .inl (cI, 4, .inl (fun j => nI (dig c0 j))))] s.heap.size = A at hD ⊢
  have hA : ∀ q : Nat, s.heap.size ≤ q → A q := fun q h => by rw [← hAe]; exact Or.inr h
  have hS : va_S A s.heap s.heap [] := va_S.rf
  have hP : va_P d vwCl [(q, .inr (2, [.ref a])), (a, .inl (cI, 4, .inl (fun j => nI (dig c0 j))))] s.heap := hP
  have hl := lv_entry ([.ref q]) (n := 3) (Nat.le_of_ble_eq_true rfl)
  rw [lg_entry_eq]
  generalize (lg_sl ([.ref q]) ++ List.replicate (3 - (lg_sl ([.ref q])).length) Slot.unset).toArray = ls at hl ⊢
  have hl : lv_has ls 3 [(0, .ref q)] := hl
  refine n_nameQ (fun Q hQ => ?_)
  refine lv_iconst (v := nI (1)) hx hb dX1_rewriteOnce_0 (by decide) ?_
  refine lv_istore_n (lv' := [(1, .int (nI (1))), (0, .ref q)]) hx hb dX1_rewriteOnce_1 rfl hl (by decide) rfl (fun ls hl => ?_)
  refine lv_iload_n hx hb dX1_rewriteOnce_2 rfl (lv_at hl 0 rfl) ?_
  refine lv_iconst (v := nI (4)) hx hb dX1_rewriteOnce_3 (by decide) ?_
  refine n_icmp_gt (tgt := 55) hx hb dX1_rewriteOnce_4 (by decide) (by decide) (by decide) (fun c_1 => ?_) (fun c_1 => ?_)
  · exact absurd c_1 (by decide)
  refine lv_iconst (v := nI (0)) hx hb dX1_rewriteOnce_7 (by decide) ?_
  refine lv_istore_n (lv' := [(2, .int (nI (0))), (1, .int (nI (1))), (0, .ref q)]) hx hb dX1_rewriteOnce_8 rfl hl (by decide) rfl (fun ls hl => ?_)
  have loop : ∀ (n pl rr : Nat), pl + 4 * rr + n = 16 → pl ≤ 3 → rr ≤ 3 → nxo c0 = nxF c0 (12 - (3 * rr + pl)) (3 * rr + pl) → ∀ (ls : Array Slot), lv_has ls 3 [(2, .int (nI (pl))), (1, .int (nI (rr + 1))), (0, .ref q)] → W p l e ({ frames := 3, cells := 0, slots := 0, locals := 67 } : Room) s m ([.ref q] : List Value).toArray below meth c s.heap [] 0 0 Q (F0 m 9 ls []) := by
    intro n
    induction n with
    | zero => intro pl rr h1 h2 h3; exact absurd h1 (by omega)
    | succ n ih =>
      intro pl rr h1 h2 h3 hnx ls hl
      refine lv_iload_n hx hb dX1_rewriteOnce_9 rfl (lv_at hl 0 rfl) ?_
      refine lv_iconst (v := nI (1)) hx hb dX1_rewriteOnce_10 (by decide) ?_
      refine n_add hx hb dX1_rewriteOnce_11 ?_
      refine lv_iconst (v := nI (4)) hx hb dX1_rewriteOnce_12 (by decide) ?_
      refine n_icmp_ge (tgt := 49) hx hb dX1_rewriteOnce_13 (by decide) (by omega) (by omega) (fun c_2 => ?_) (fun c_2 => ?_)
      ·
        refine lv_iinc (v := nI ((rr + 1) + 1)) (lv' := [(1, .int (nI ((rr + 1) + 1))), (2, .int (nI (pl))), (0, .ref q)]) hx hb dX1_rewriteOnce_49 hl (k := 1) rfl (n_inc1 _) (by decide) rfl (fun ls hl => ?_)
        refine lv_goto (tgt := 2) hx hb dX1_rewriteOnce_52 (by decide) ?_
        refine lv_iload_n hx hb dX1_rewriteOnce_2 rfl (lv_at hl 0 rfl) ?_
        refine lv_iconst (v := nI (4)) hx hb dX1_rewriteOnce_3 (by decide) ?_
        refine n_icmp_gt (tgt := 55) hx hb dX1_rewriteOnce_4 (by decide) (by omega) (by omega) (fun c_3 => ?_) (fun c_3 => ?_)
        ·
          have hn0 : nxo c0 = none := by rw [hnx, show 3 * rr + pl = 12 from by omega]; rfl
          refine lv_iconst (v := nI (0)) hx hb dX1_rewriteOnce_55 (by decide) ?_
          subst hQ
          rw [show nx c0 = c0 from by unfold nx; rw [hn0]; rfl]
          refine n_top (show (nI (0)) = (nI ((chg c0).toNat)) from by rw [show chg c0 = false from by unfold chg; rw [hn0]; rfl]; rfl) ?_
          exact W.zret (v := (nI ((chg c0).toNat))) hx hb hr (by cases chg c0 <;> rfl) (fun t ht hW => ⟨⟨rfl, by rw [ht]; exact hP, hD⟩, hS.F ht⟩) hS.2.2 dX1_rewriteOnce_56
        ·
          refine lv_iconst (v := nI (0)) hx hb dX1_rewriteOnce_7 (by decide) ?_
          refine lv_istore_n (lv' := [(2, .int (nI (0))), (1, .int (nI ((rr + 1) + 1))), (0, .ref q)]) hx hb dX1_rewriteOnce_8 rfl hl (by decide) rfl (fun ls hl => ?_)
          exact ih 0 (rr + 1) (by omega) (by omega) (by omega) (by rw [hnx, show 3 * rr + pl = 3 * (rr + 1) + 0 from by omega]) ls (lv_sub hl [0, 1, 2] rfl)
      ·
        refine lv_iload_n hx hb dX1_rewriteOnce_16 rfl (lv_at hl 1 rfl) ?_
        refine lv_aload_n hx hb dX1_rewriteOnce_17 rfl (lv_at hl 2 rfl) ?_
        refine lv_iload_n hx hb dX1_rewriteOnce_18 rfl (lv_at hl 0 rfl) ?_
        refine n_rdV (As := [.int (nI (pl))]) (rest := [.int (nI (rr + 1))]) (WC := [(q, .inr (2, [.ref a])), (a, .inl (cI, 4, .inl (fun j => nI (dig c0 j))))]) ⟨hx, hb, hml, hown, hts⟩ (c_X2_get l d cI q a 4 (fun j => nI (dig c0 j)) pl (by omega) (by decide)) (cwV 1 hts gX1_rewriteOnce_X2_get rfl rfl rfl (by decide +kernel) ⟨Nat.le_of_ble_eq_true rfl, Nat.le_of_ble_eq_true rfl⟩) (va_recv hK hP (ci := 2) (q0 := 0) rfl rfl) (hP.sub [0, 1] rfl) hK rfl hl.1 rfl (Nat.le_of_ble_eq_true rfl) dX1_rewriteOnce_19 ⟨Nat.zero_le _, Nat.zero_le _⟩ ?_
        refine lv_aload_n hx hb dX1_rewriteOnce_22 rfl (lv_at hl 2 rfl) ?_
        refine lv_iload_n hx hb dX1_rewriteOnce_23 rfl (lv_at hl 0 rfl) ?_
        refine lv_iconst (v := nI (1)) hx hb dX1_rewriteOnce_24 (by decide) ?_
        refine n_add hx hb dX1_rewriteOnce_25 ?_
        refine n_rdV (As := [.int (nI (pl + 1))]) (rest := [.int (nI (dig c0 pl)), .int (nI (rr + 1))]) (WC := [(q, .inr (2, [.ref a])), (a, .inl (cI, 4, .inl (fun j => nI (dig c0 j))))]) ⟨hx, hb, hml, hown, hts⟩ (c_X2_get l d cI q a 4 (fun j => nI (dig c0 j)) (pl + 1) (by omega) (by decide)) (cwV 1 hts gX1_rewriteOnce_X2_get rfl rfl rfl (by decide +kernel) ⟨Nat.le_of_ble_eq_true rfl, Nat.le_of_ble_eq_true rfl⟩) (va_recv hK hP (ci := 2) (q0 := 0) rfl rfl) (hP.sub [0, 1] rfl) hK rfl hl.1 rfl (Nat.le_of_ble_eq_true rfl) dX1_rewriteOnce_26 ⟨Nat.zero_le _, Nat.zero_le _⟩ ?_
        refine n_rdS (As := [.int (nI (rr + 1)), .int (nI (dig c0 pl)), .int (nI (dig c0 (pl + 1)))]) (rest := []) (WC := []) ⟨hx, hb, hml, hown, hts⟩ (c_X1_isUsable l d cI rr (dig c0 pl) (dig c0 (pl + 1)) (by omega) (dig_lt _ _) (dig_lt _ _)) (cwS 3 hts gX1_rewriteOnce_X1_isUsable rfl rfl rfl (by decide +kernel) ⟨Nat.le_of_ble_eq_true rfl, Nat.le_of_ble_eq_true rfl⟩) (hP.sub [] rfl) hK rfl hl.1 rfl (Nat.le_of_ble_eq_true rfl) dX1_rewriteOnce_29 ⟨Nat.zero_le _, Nat.zero_le _⟩ ?_
        have hk3 : (3 * rr + pl) / 3 = rr := by omega
        have hk4 : (3 * rr + pl) % 3 = pl := by omega
        have hfk : fkb c0 (3 * rr + pl) = fitB (rr + 1) (dig c0 pl) (dig c0 (pl + 1)) := by unfold fkb; rw [hk3, hk4, Nat.add_comm 1 rr]
        have hn1 : 12 - (3 * rr + pl) = (12 - (3 * rr + (pl + 1))) + 1 := by omega
        refine n_ifeq (tgt := 43) hx hb dX1_rewriteOnce_32 (by decide) (by cases fitB (rr + 1) (dig c0 pl) (dig c0 (pl + 1)) <;> decide) (fun c_4 => ?_) (fun c_4 => ?_)
        ·
          have hff : fkb c0 (3 * rr + pl) = false := by rw [hfk]; cases hz : fitB (rr + 1) (dig c0 pl) (dig c0 (pl + 1)) with | false => rfl | true => rw [hz] at c_4; exact absurd c_4 (by decide)
          refine lv_iinc (v := nI (pl + 1)) (lv' := [(2, .int (nI (pl + 1))), (1, .int (nI (rr + 1))), (0, .ref q)]) hx hb dX1_rewriteOnce_43 hl (k := 0) rfl (n_inc1 _) (by decide) rfl (fun ls hl => ?_)
          refine lv_goto (tgt := 9) hx hb dX1_rewriteOnce_46 (by decide) ?_
          exact ih (pl + 1) rr (by omega) (by omega) (by omega) (by rw [hnx, hn1]; show (if fkb c0 (3 * rr + pl) = true then _ else _) = _; rw [hff]; rfl) ls (lv_sub hl [0, 1, 2] rfl)
        ·
          have hff : fkb c0 (3 * rr + pl) = true := by rw [hfk]; cases hz : fitB (rr + 1) (dig c0 pl) (dig c0 (pl + 1)) with | true => rfl | false => rw [hz] at c_4; exact absurd rfl c_4
          have hn0 : nxo c0 = some (stp c0 (3 * rr + pl)) := by rw [hnx, hn1]; show (if fkb c0 (3 * rr + pl) = true then _ else _) = _; rw [hff]; rfl
          refine lv_iload_n hx hb dX1_rewriteOnce_35 rfl (lv_at hl 1 rfl) ?_
          refine lv_aload_n hx hb dX1_rewriteOnce_36 rfl (lv_at hl 2 rfl) ?_
          refine lv_iload_n hx hb dX1_rewriteOnce_37 rfl (lv_at hl 0 rfl) ?_
          refine n_upS (As := [.int (nI (rr + 1)), .ref q, .int (nI (pl))]) (rest := []) (WC := [(q, .inr (2, [.ref a])), (a, .inl (cI, 4, .inl (fun j => nI (dig c0 j))))]) (WC' := [(q, .inr (2, [.ref a])), (a, .inl (cI, 4, .inl (fun j => nI (dig (stp c0 (3 * rr + pl)) j))))]) (wr := []) (WS' := [(q, .inr (2, [.ref a])), (a, .inl (cI, 4, .inl (fun j => nI (dig (stp c0 (3 * rr + pl)) j))))]) ⟨hx, hb, hml, hown, hts⟩ (c_X1_use l d cI q a c0 pl rr hc (by omega) (by omega) hff) (cwS 3 hts gX1_rewriteOnce_X1_use rfl rfl rfl (by decide +kernel) ⟨Nat.le_of_ble_eq_true rfl, Nat.le_of_ble_eq_true rfl⟩) hP hD hS hA hK [0, 1] [] [0, 1] rfl rfl (by decide) ⟨by decide, by decide⟩ (by decide) rfl rfl hl.1 rfl (Nat.le_of_ble_eq_true rfl) dX1_rewriteOnce_38 ⟨Nat.zero_le _, Nat.zero_le _⟩ (fun H locs hP hD hS => ?_)
          show W _ _ _ _ _ _ _ _ _ _ _ _ _ _ _ (F0 m _ ls [])
          refine lv_iconst (v := nI (1)) hx hb dX1_rewriteOnce_41 (by decide) ?_
          subst hQ
          rw [show nx c0 = stp c0 (3 * rr + pl) from by unfold nx; rw [hn0]; rfl]
          refine n_top (show (nI (1)) = (nI ((chg c0).toNat)) from by rw [show chg c0 = true from by unfold chg; rw [hn0]; rfl]; rfl) ?_
          exact W.zret (v := (nI ((chg c0).toNat))) hx hb hr (by cases chg c0 <;> rfl) (fun t ht hW => ⟨⟨rfl, by rw [ht]; exact hP, hD⟩, hS.F ht⟩) hS.2.2 dX1_rewriteOnce_42
  exact loop 16 0 0 (by omega) (by omega) (by omega) rfl ls (lv_sub hl [0, 1, 2] rfl)

set_option maxHeartbeats 4000000 in
set_option maxRecDepth 100000 in
/-- the form of a code -/
theorem c_X1_reduce (l : Launch) (d : va_G) (cI : ClassId) (q a c0 : Nat) (f : Nat → Int32) (hc : c0 < 1296) : nUp l yX1_reduce wsX1_reduce ({ frames := 4, cells := 0, slots := 0, locals := 89 } : Room) d [(cI, .int)] [(q, .inr (2, [.ref a])), (a, .inl (cI, 4, .inl (f)))] [(q, .inr (2, [.ref a])), (a, .inl (cI, 4, .inl (fun j => nI (dig (form c0) j))))] [.int (nI (c0)), .ref q] (some (.int (nI (form c0)))) := by
  intro sz
  refine Met.ofW (cc := cX1_reduce) (maxL := 4) (ret := some .int) (by decide) rfl ?_
  intro p e s m args below meth c s₁ B hml hv
  obtain ⟨rfl, hsz, hP, hK, hD0⟩ := hv
  have hx := B.exec
  have hb := B.bytes
  have hr := B.returns
  have hts := atoms_spec (ws := wsX1_reduce) B.pre
  have hown : s.vm.findClass RX1 = some m.cls := findClass_of_methodNamed B.named
  have hlocks := B.notSynchronized
  subst hsz
  have hD := hD0.self (sz := s.heap.size)
  generalize hAe : va_A [(q, .inr (2, [.ref a])), (a, .inl (cI, 4, .inl (f)))] s.heap.size = A at hD ⊢
  have hA : ∀ q : Nat, s.heap.size ≤ q → A q := fun q h => by rw [← hAe]; exact Or.inr h
  have hS : va_S A s.heap s.heap [] := va_S.rf
  have hP : va_P d vwCl [(q, .inr (2, [.ref a])), (a, .inl (cI, 4, .inl (f)))] s.heap := hP
  have hl := lv_entry ([.int (nI (c0)), .ref q]) (n := 4) (Nat.le_of_ble_eq_true rfl)
  rw [lg_entry_eq]
  generalize (lg_sl ([.int (nI (c0)), .ref q]) ++ List.replicate (4 - (lg_sl ([.int (nI (c0)), .ref q])).length) Slot.unset).toArray = ls at hl ⊢
  have hl : lv_has ls 4 [(0, .int (nI (c0))), (1, .ref q)] := hl
  refine n_nameQ (fun Q hQ => ?_)
  refine lv_iload_n hx hb dX1_reduce_0 rfl (lv_at hl 0 rfl) ?_
  refine lv_aload_n hx hb dX1_reduce_1 rfl (lv_at hl 1 rfl) ?_
  refine n_upS (As := [.int (nI (c0)), .ref q]) (rest := []) (WC := [(q, .inr (2, [.ref a])), (a, .inl (cI, 4, .inl (f)))]) (WC' := [(q, .inr (2, [.ref a])), (a, .inl (cI, 4, .inl (fun j => nI (dig c0 j))))]) (wr := []) (WS' := [(q, .inr (2, [.ref a])), (a, .inl (cI, 4, .inl (fun j => nI (dig c0 j))))]) ⟨hx, hb, hml, hown, hts⟩ (c_X1_unpack l d cI q a c0 f hc) (cwS 2 hts gX1_reduce_X1_unpack rfl rfl rfl (by decide +kernel) ⟨Nat.le_of_ble_eq_true rfl, Nat.le_of_ble_eq_true rfl⟩) hP hD hS hA hK [0, 1] [] [0, 1] rfl rfl (by decide) ⟨by decide, by decide⟩ (by decide) rfl rfl hl.1 rfl (Nat.le_of_ble_eq_true rfl) dX1_reduce_2 ⟨Nat.zero_le _, Nat.zero_le _⟩ (fun H locs hP hD hS => ?_)
  show W _ _ _ _ _ _ _ _ _ _ _ _ _ _ _ (F0 m _ ls [])
  refine lv_iconst (v := nI (1)) hx hb dX1_reduce_5 (by decide) ?_
  refine lv_istore_n (lv' := [(2, .int (nI (1))), (0, .int (nI (c0))), (1, .ref q)]) hx hb dX1_reduce_6 rfl hl (by decide) rfl (fun ls hl => ?_)
  refine lv_iconst (v := nI (0)) hx hb dX1_reduce_7 (by decide) ?_
  refine lv_istore_n (lv' := [(3, .int (nI (0))), (2, .int (nI (1))), (0, .int (nI (c0))), (1, .ref q)]) hx hb dX1_reduce_8 rfl hl (by decide) rfl (fun ls hl => ?_)
  have loop : ∀ (n x u : Nat) (g : Bool), x < 1296 → u + n < 1000 → nfF n x = form c0 → tm n x = true → (g = false → x = form c0) → ∀ (H : Heap) (locs : List Loc), va_P d vwCl [(q, .inr (2, [.ref a])), (a, .inl (cI, 4, .inl (fun j => nI (dig x j))))] H → va_D A [(q, .inr (2, [.ref a])), (a, .inl (cI, 4, .inl (fun j => nI (dig x j))))] → va_S A s.heap H locs → ∀ (ls : Array Slot), lv_has ls 4 [(3, .int (nI (u))), (2, .int (nI (g.toNat))), (1, .ref q)] → W p l e ({ frames := 4, cells := 0, slots := 0, locals := 89 } : Room) s m ([.int (nI (c0)), .ref q] : List Value).toArray below meth c H locs 0 0 Q (F0 m 9 ls []) := by
    intro n
    induction n with
    | zero =>
      intro x u g hx1 h2 h3 h4 hg H locs hP hD hS ls hl
      have hch : chg x = false := by cases hz : chg x with | false => rfl | true => unfold tm at h4; rw [hz] at h4; exact absurd h4 (by decide)
      have hnx : nx x = x := by cases hz : nxo x with | none => unfold nx; rw [hz]; rfl | some y => unfold chg at hch; rw [hz] at hch; exact Bool.noConfusion hch
      refine lv_iload_n hx hb dX1_reduce_9 rfl (lv_at hl 1 rfl) ?_
      refine n_ifeq (tgt := 31) hx hb dX1_reduce_10 (by decide) (by cases g <;> decide) (fun c_1 => ?_) (fun c_1 => ?_)
      ·
        have hxf : x = form c0 := hg (by cases hz : g with | false => rfl | true => rw [hz] at c_1; exact absurd c_1 (by decide))
        refine lv_aload_n hx hb dX1_reduce_31 rfl (lv_at hl 2 rfl) ?_
        refine n_rdS (As := [.ref q]) (rest := []) (WC := [(q, .inr (2, [.ref a])), (a, .inl (cI, 4, .inl (fun j => nI (dig x j))))]) ⟨hx, hb, hml, hown, hts⟩ (c_X1_pack l d cI q a x hx1) (cwS 1 hts gX1_reduce_X1_pack rfl rfl rfl (by decide +kernel) ⟨Nat.le_of_ble_eq_true rfl, Nat.le_of_ble_eq_true rfl⟩) (hP.sub [0, 1] rfl) hK rfl hl.1 rfl (Nat.le_of_ble_eq_true rfl) dX1_reduce_32 ⟨Nat.zero_le _, Nat.zero_le _⟩ ?_
        subst hQ
        rw [← hxf]
        exact W.iret (v := (nI x)) hx hb hr (fun t ht hW => ⟨⟨rfl, by rw [ht]; exact hP, hD⟩, hS.F ht⟩) hS.2.2 dX1_reduce_35
      ·
        refine lv_iload_n hx hb dX1_reduce_13 rfl (lv_at hl 0 rfl) ?_
        refine lv_sipush (v := nI (1000)) hx hb dX1_reduce_14 (by decide) ?_
        refine n_icmp_ge (tgt := 31) hx hb dX1_reduce_17 (by decide) (by omega) (by omega) (fun c_2 => ?_) (fun c_2 => ?_)
        · exact absurd c_2 (by omega)
        refine lv_aload_n hx hb dX1_reduce_20 rfl (lv_at hl 2 rfl) ?_
        refine n_upS (As := [.ref q]) (rest := []) (WC := [(q, .inr (2, [.ref a])), (a, .inl (cI, 4, .inl (fun j => nI (dig x j))))]) (WC' := [(q, .inr (2, [.ref a])), (a, .inl (cI, 4, .inl (fun j => nI (dig (nx x) j))))]) (wr := []) (WS' := [(q, .inr (2, [.ref a])), (a, .inl (cI, 4, .inl (fun j => nI (dig (nx x) j))))]) ⟨hx, hb, hml, hown, hts⟩ (c_X1_rewriteOnce l d cI q a x hx1) (cwS 1 hts gX1_reduce_X1_rewriteOnce rfl rfl rfl (by decide +kernel) ⟨Nat.le_of_ble_eq_true rfl, Nat.le_of_ble_eq_true rfl⟩) hP hD hS hA hK [0, 1] [] [0, 1] rfl rfl (by decide) ⟨by decide, by decide⟩ (by decide) rfl rfl hl.1 rfl (Nat.le_of_ble_eq_true rfl) dX1_reduce_21 ⟨Nat.zero_le _, Nat.zero_le _⟩ (fun H locs hP hD hS => ?_)
        show W _ _ _ _ _ _ _ _ _ _ _ _ _ _ _ (F0 m _ ls (.int (nI ((chg x).toNat)) :: []))
        refine lv_istore_n (lv' := [(2, .int (nI ((chg x).toNat))), (3, .int (nI (u))), (1, .ref q)]) hx hb dX1_reduce_24 rfl hl (by decide) rfl (fun ls hl => ?_)
        refine lv_iinc (v := nI (u + 1)) (lv' := [(3, .int (nI (u + 1))), (2, .int (nI ((chg x).toNat))), (1, .ref q)]) hx hb dX1_reduce_25 hl (k := 1) rfl (n_inc1 _) (by decide) rfl (fun ls hl => ?_)
        refine lv_goto (tgt := 9) hx hb dX1_reduce_28 (by decide) ?_
        rw [hnx] at hP hD
        rw [hch] at hl
        have hl : lv_has ls 4 [(3, .int (nI (u + 1))), (2, .int (nI (0))), (1, .ref q)] := hl
        refine lv_iload_n hx hb dX1_reduce_9 rfl (lv_at hl 1 rfl) ?_
        refine n_ifeq (tgt := 31) hx hb dX1_reduce_10 (by decide) (by decide) (fun c_3 => ?_) (fun c_3 => ?_)
        rotate_left
        · exact absurd c_3 (by decide)
        refine lv_aload_n hx hb dX1_reduce_31 rfl (lv_at hl 2 rfl) ?_
        have hxf : x = form c0 := h3
        refine n_rdS (As := [.ref q]) (rest := []) (WC := [(q, .inr (2, [.ref a])), (a, .inl (cI, 4, .inl (fun j => nI (dig x j))))]) ⟨hx, hb, hml, hown, hts⟩ (c_X1_pack l d cI q a x hx1) (cwS 1 hts gX1_reduce_X1_pack rfl rfl rfl (by decide +kernel) ⟨Nat.le_of_ble_eq_true rfl, Nat.le_of_ble_eq_true rfl⟩) (hP.sub [0, 1] rfl) hK rfl hl.1 rfl (Nat.le_of_ble_eq_true rfl) dX1_reduce_32 ⟨Nat.zero_le _, Nat.zero_le _⟩ ?_
        subst hQ
        rw [← hxf]
        exact W.iret (v := (nI x)) hx hb hr (fun t ht hW => ⟨⟨rfl, by rw [ht]; exact hP, hD⟩, hS.F ht⟩) hS.2.2 dX1_reduce_35
    | succ n ih =>
      intro x u g hx1 h2 h3 h4 hg H locs hP hD hS ls hl
      refine lv_iload_n hx hb dX1_reduce_9 rfl (lv_at hl 1 rfl) ?_
      refine n_ifeq (tgt := 31) hx hb dX1_reduce_10 (by decide) (by cases g <;> decide) (fun c_4 => ?_) (fun c_4 => ?_)
      ·
        have hxf : x = form c0 := hg (by cases hz : g with | false => rfl | true => rw [hz] at c_4; exact absurd c_4 (by decide))
        refine lv_aload_n hx hb dX1_reduce_31 rfl (lv_at hl 2 rfl) ?_
        refine n_rdS (As := [.ref q]) (rest := []) (WC := [(q, .inr (2, [.ref a])), (a, .inl (cI, 4, .inl (fun j => nI (dig x j))))]) ⟨hx, hb, hml, hown, hts⟩ (c_X1_pack l d cI q a x hx1) (cwS 1 hts gX1_reduce_X1_pack rfl rfl rfl (by decide +kernel) ⟨Nat.le_of_ble_eq_true rfl, Nat.le_of_ble_eq_true rfl⟩) (hP.sub [0, 1] rfl) hK rfl hl.1 rfl (Nat.le_of_ble_eq_true rfl) dX1_reduce_32 ⟨Nat.zero_le _, Nat.zero_le _⟩ ?_
        subst hQ
        rw [← hxf]
        exact W.iret (v := (nI x)) hx hb hr (fun t ht hW => ⟨⟨rfl, by rw [ht]; exact hP, hD⟩, hS.F ht⟩) hS.2.2 dX1_reduce_35
      ·
        refine lv_iload_n hx hb dX1_reduce_13 rfl (lv_at hl 0 rfl) ?_
        refine lv_sipush (v := nI (1000)) hx hb dX1_reduce_14 (by decide) ?_
        refine n_icmp_ge (tgt := 31) hx hb dX1_reduce_17 (by decide) (by omega) (by omega) (fun c_5 => ?_) (fun c_5 => ?_)
        · exact absurd c_5 (by omega)
        refine lv_aload_n hx hb dX1_reduce_20 rfl (lv_at hl 2 rfl) ?_
        refine n_upS (As := [.ref q]) (rest := []) (WC := [(q, .inr (2, [.ref a])), (a, .inl (cI, 4, .inl (fun j => nI (dig x j))))]) (WC' := [(q, .inr (2, [.ref a])), (a, .inl (cI, 4, .inl (fun j => nI (dig (nx x) j))))]) (wr := []) (WS' := [(q, .inr (2, [.ref a])), (a, .inl (cI, 4, .inl (fun j => nI (dig (nx x) j))))]) ⟨hx, hb, hml, hown, hts⟩ (c_X1_rewriteOnce l d cI q a x hx1) (cwS 1 hts gX1_reduce_X1_rewriteOnce rfl rfl rfl (by decide +kernel) ⟨Nat.le_of_ble_eq_true rfl, Nat.le_of_ble_eq_true rfl⟩) hP hD hS hA hK [0, 1] [] [0, 1] rfl rfl (by decide) ⟨by decide, by decide⟩ (by decide) rfl rfl hl.1 rfl (Nat.le_of_ble_eq_true rfl) dX1_reduce_21 ⟨Nat.zero_le _, Nat.zero_le _⟩ (fun H locs hP hD hS => ?_)
        show W _ _ _ _ _ _ _ _ _ _ _ _ _ _ _ (F0 m _ ls (.int (nI ((chg x).toNat)) :: []))
        refine lv_istore_n (lv' := [(2, .int (nI ((chg x).toNat))), (3, .int (nI (u))), (1, .ref q)]) hx hb dX1_reduce_24 rfl hl (by decide) rfl (fun ls hl => ?_)
        refine lv_iinc (v := nI (u + 1)) (lv' := [(3, .int (nI (u + 1))), (2, .int (nI ((chg x).toNat))), (1, .ref q)]) hx hb dX1_reduce_25 hl (k := 1) rfl (n_inc1 _) (by decide) rfl (fun ls hl => ?_)
        refine lv_goto (tgt := 9) hx hb dX1_reduce_28 (by decide) ?_
        cases hz : chg x with
        | true =>
          rw [hz] at hl
          exact ih (nx x) (u + 1) true (nx_lt hx1) (by omega) (by rw [← h3]; show _ = (if chg x = true then _ else _); rw [hz]; rfl) (by have h5 : (if chg x = true then tm n (nx x) else true) = true := h4; rw [hz] at h5; exact h5) (fun h => by cases h) H locs hP hD hS ls (lv_sub hl [0, 1, 2] rfl)
        | false =>
          have hnx : nx x = x := by cases hy : nxo x with | none => unfold nx; rw [hy]; rfl | some y => unfold chg at hz; rw [hy] at hz; exact Bool.noConfusion hz
          have hxf : x = form c0 := by rw [← h3]; show x = (if chg x = true then _ else _); rw [hz]; rfl
          rw [hnx] at hP hD
          rw [hz] at hl
          have hl : lv_has ls 4 [(3, .int (nI (u + 1))), (2, .int (nI (0))), (1, .ref q)] := hl
          refine lv_iload_n hx hb dX1_reduce_9 rfl (lv_at hl 1 rfl) ?_
          refine n_ifeq (tgt := 31) hx hb dX1_reduce_10 (by decide) (by decide) (fun c_6 => ?_) (fun c_6 => ?_)
          rotate_left
          · exact absurd c_6 (by decide)
          refine lv_aload_n hx hb dX1_reduce_31 rfl (lv_at hl 2 rfl) ?_
          refine n_rdS (As := [.ref q]) (rest := []) (WC := [(q, .inr (2, [.ref a])), (a, .inl (cI, 4, .inl (fun j => nI (dig x j))))]) ⟨hx, hb, hml, hown, hts⟩ (c_X1_pack l d cI q a x hx1) (cwS 1 hts gX1_reduce_X1_pack rfl rfl rfl (by decide +kernel) ⟨Nat.le_of_ble_eq_true rfl, Nat.le_of_ble_eq_true rfl⟩) (hP.sub [0, 1] rfl) hK rfl hl.1 rfl (Nat.le_of_ble_eq_true rfl) dX1_reduce_32 ⟨Nat.zero_le _, Nat.zero_le _⟩ ?_
          subst hQ
          rw [← hxf]
          exact W.iret (v := (nI x)) hx hb hr (fun t ht hW => ⟨⟨rfl, by rw [ht]; exact hP, hD⟩, hS.F ht⟩) hS.2.2 dX1_reduce_35
  exact loop 40 c0 0 true hc (by omega) rfl (tm_40 hc) (fun h => by cases h) H locs hP hD hS ls (lv_sub hl [0, 1, 3] rfl)
end
section
theorem n_arr {ty : FieldType} {args : Array Value} {s : State} (h : (Cond.arrayClass ty).before args s = true) : ∃ cA : ClassId, ArrOfT s cA ty ∧ s.vm.findClass ("[" ++ ty.toString) = some cA := by
  obtain ⟨cA, kA, comp, h1, h2, h3⟩ := Cond.arrayClass_spec h
  exact ⟨cA, fun n z => ⟨fun k h => (by cases h), kA, h2, comp, h3⟩, h1⟩
section NKD
variable {p : Program} {l : Launch} {e : Env} {R : Room} {s : State} {m : MethodId} {args : Array Value} {below : List Frame} {meth : Method} {c : Code} {H : Heap} {locs : List Loc} {cells slots : Nat} {Q : State → Prop}
variable {cc : ByteArray} {pc : Nat} {ls : Array Slot} {rest : List Value} {D : va_G} {cl : List vw_C} {A : Nat → Prop} {tys : List (ClassId × FieldType)} {ws ws' : va_W} {H0 : Heap}
theorem n_newa (hexec : p.tables.exec = Jvm.exec) (hb : c.code = cc) {atype : ArrayType} (harr : (Cond.arrayClass (newarray.typeOf atype)).before args s = true) {ty : FieldType} (hty : newarray.typeOf atype = ty) (hK : va_K D cl tys s) (t0 : Nat) {cA : ClassId} (ht : tys[t0]? = some (cA, ty)) (hra : ∀ (U : State) (cB : ClassId), va_RA U cB ty = (U.vm.findClass ("[" ++ ty.toString) = some cB))
    (hP : va_P D cl ws H) (hD : va_D A ws) (hS : va_S A H0 H locs) (hA : ∀ q, H0.size ≤ q → A q)
    {N' : Nat} {a0 : vp_A} (ha : ∀ cB : ClassId, vp_cell cB a0 = arrV cB N' (fun _ => defaultValue ty)) (hN : N' < 2147483648) (hbytes : N' * componentBytes ty ≤ 536870912) (hcells : cells + 1 ≤ R.cells) (hslots : slots + N' ≤ R.slots) (hdg : decode cc pc = .ok (.newarray atype, 2))
    (kk : ∀ (q : Nat) (H1 : Heap), va_P D cl (ws ++ [(q, .inl (cA, a0))]) H1 → va_D A (ws ++ [(q, .inl (cA, a0))]) → va_S A H0 H1 locs →
      W p l e R s m args below meth c H1 locs (cells + 1) (slots + N') Q (F0 m (pc + 2) ls (.ref q :: rest))) : W p l e R s m args below meth c H locs cells slots Q (F0 m pc ls (.int (nI N') :: rest)) := by
  refine va_newa hexec hb harr hty hK hP hD hS hA ha (nI_pos hN) (nI_clamp hN) hbytes hcells hslots hdg (fun q cB H1 hK2 h1 h2 h3 => ?_)
  have e1 := (hK.2 t0 _ ht).2
  have e2 := (hK2.2 tys.length (cB, ty) (by rw [List.getElem?_append_right (Nat.le_refl _)]; simp)).2
  dsimp only at e1 e2
  rw [hra] at e1 e2
  have e3 : cB = cA := Option.some.inj (e2.symm.trans e1)
  subst e3
  exact kk q H1 h1 h2 h3
end NKD
/-- a constructor: the object at q becomes the world WN, with mc new cells of ms slots -/
def nNw {S : Type} (l : Launch) (y : MethodName) (ws : List Cond) (rm : Room) (d : va_G) (tys : List (ClassId × FieldType)) (q ci : Nat) (fs : List Value) (av : List Value) (mc ms : Nat) (WN : S → va_W) : Prop :=
  ∀ sz : Nat, Met l y ws rm (va_Pc (.ref q :: av) (fun U => U.heap.size = sz ∧ va_P d vwCl [(q, .inr (ci, fs))] U.heap ∧ va_K d vwCl tys U ∧ va_D (fun _ => True) [(q, .inr (ci, fs))])) (fun _ st oc t => (∃ u : S, oc = .returned none ∧ va_P d vwCl (WN u) t.heap ∧ va_D (va_A [(q, .inr (ci, fs))] sz) (WN u)) ∧ va_F (va_A [(q, .inr (ci, fs))] sz) st t) mc ms (va_A [(q, .inr (ci, fs))] sz)
section NKE
variable {p : Program} {l : Launch} {e : Env} {R : Room} {s : State} {m : MethodId} {args : Array Value} {below : List Frame} {meth : Method} {c : Code} {H : Heap} {locs : List Loc} {cells slots : Nat} {Q : State → Prop}
variable {cc bytes : ByteArray} {pc : Nat} {ls : Array Slot} {rest st0 : List Value} {y : MethodName} {maxL nL n index mc ms : Nat} {ws Ts : List Cond} {rm : Room} {own C : String} {As : List Value}
variable {d : va_G} {tys : List (ClassId × FieldType)} {WS wr : va_W} {A : Nat → Prop} {H0 : Heap} {q ci : Nat} {fs : List Value}
theorem n_nwI {S9 : Type} {WN : S9 → va_W} (S : CallFix p m c cc nL s args Ts own) (hM : nNw l y ws rm d tys q ci fs As mc ms WN) (cw : CallB R s args own index y bytes maxL none ws rm mc ms n ∧ y.name = "<init>" ∧ (Cond.instanceMethod y).before args s = true)
    (hP : va_P d vwCl WS H) (hD : va_D A WS) (hS : va_S A H0 H locs) (hA : ∀ q, H0.size ≤ q → A q) (hK : va_K d vwCl tys s) (iC : Nat) (isR : List Nat)
    (hC : [iC].map (fun i => WS[i]?) = [(q, .inr (ci, fs))].map some) (hR : isR.map (fun i => WS[i]?) = wr.map some) (hnd : va_nd isR = true) (hdis : ∀ i ∈ isR, i ∉ [iC])
    (hn : As.length = n) (hsize : ls.size = nL) (hstack : st0 = As.reverse ++ .ref q :: rest) (hW : (rest.map fun v => v.category).sum ≤ 8) (hdg : decode cc pc = .ok (.invokespecial index, 3)) (hf : cells + mc ≤ R.cells ∧ slots + ms ≤ R.slots)
    (kk : ∀ (u : S9) (H1 : Heap) (locs1 : List Loc), va_P d vwCl (wr ++ WN u) H1 → va_D A (wr ++ WN u) → va_S A H0 H1 locs1 → W p l e R s m args below meth c H1 locs1 (cells + mc) (slots + ms) Q (F0 m (pc + 3) ls rest)) : W p l e R s m args below meth c H locs cells slots Q (F0 m pc ls st0) := by
  have hPc : va_P d vwCl [(q, .inr (ci, fs))] H := hP.sub [iC] (n_fm hC)
  have hDc : va_D (fun _ => True) [(q, .inr (ci, fs))] := (hD.sub [iC] rfl hC).weaken (fun _ _ _ _ => trivial)
  have hr := W.runI (p := p) (l := l) (e := e) (below := below) (meth := meth) (H := H) (locs := locs) (cells := cells) (slots := slots) (b := q) (rest := rest) (g := F0 m pc ls st0) S (hM H.size) cw ⟨n_upB, fun U hU hW => ⟨rfl, by rw [hU], by rw [hU]; exact hPc, va_K.moved hW.alike hK, hDc⟩⟩ rfl hn hsize hstack (lv_room hW) hdg hf
  have hFc := va_free hD hS hA [iC] hC
  intro T hT X
  obtain ⟨v, st₀, t, T', L, h0, X', hL, e1, ⟨⟨u, hv, hp, hd⟩, hz, hk⟩, st⟩ := hr T hT X
  cases hv
  rw [h0] at hz hk
  have hj := va_join hP hD [iC] isR hC hR hnd hdis hk hFc hp hd
  obtain ⟨t2, a1, b1⟩ := kk u T'.heap (locs ++ L) (by rw [e1]; exact hj.1) hj.2 ⟨Nat.le_trans hS.1 (by rw [e1]; exact hz), fun q h1 h2 => by rw [e1, hk q (Nat.lt_of_lt_of_le h1 hS.1) (fun z => h2 (hFc q z))]; exact hS.2.1 q h1 h2, fun q hq => by
      rcases List.mem_append.mp hq with h | h
      · exact hS.2.2 q h
      · exact hFc _ (hL q h)⟩ T' rfl X'
  exact ⟨t2, st t2 a1, b1⟩
end NKE
end
section
set_option maxHeartbeats 4000000 in
set_option maxRecDepth 100000 in
theorem c_X2_init (l : Launch) (d : va_G) (cI : ClassId) (q : Nat) (n : Nat) (hn0 : 0 < n) (hn : n < 134217728) : nNw (S := Nat) l yX2_init wsX2_init ({ frames := 1, cells := 1, slots := n, locals := 12 } : Room) d [(cI, .int)] q 2 [.null] [.int (nI (n))] 1 n (fun a => [(q, .inr (2, [.ref a])), (a, .inl (cI, n, .inl (fun _ => 0)))]) := by
  intro sz
  refine Met.ofW (cc := cX2_init) (maxL := 2) (ret := none) (by decide) rfl ?_
  intro p e s m args below meth c s₁ B hml hv
  obtain ⟨rfl, hsz, hP, hK, hD0⟩ := hv
  have hx := B.exec
  have hb := B.bytes
  have hr := B.returns
  have hts := atoms_spec (ws := wsX2_init) B.pre
  have hown : s.vm.findClass RX2 = some m.cls := findClass_of_methodNamed B.named
  have hlocks := B.notSynchronized
  have hin : meth.name = "<init>" := (name_of_methodNamed B.named B.method).1
  have harint := hts (.arrayClass .int) (by decide +kernel)
  have hfl7 := hts (.fieldLink RX2 7 "Nudgelane$Row" "cells" "[I") (by decide +kernel)
  have hin2 : ∀ w ∈ u_ws RX2 TX2 1, w ∈ wsX2_init := by decide +kernel
  subst hsz
  have hD := hD0.self (sz := s.heap.size)
  generalize hAe : va_A [(q, .inr (2, [.null]))] s.heap.size = A at hD ⊢
  have hA : ∀ q : Nat, s.heap.size ≤ q → A q := fun q h => by rw [← hAe]; exact Or.inr h
  have hS : va_S A s.heap s.heap [] := va_S.rf
  have hP : va_P d vwCl [(q, .inr (2, [.null]))] s.heap := hP
  have hl := lv_entry ([.ref q, .int (nI (n))]) (n := 2) (Nat.le_of_ble_eq_true rfl)
  rw [lg_entry_eq]
  generalize (lg_sl ([.ref q, .int (nI (n))]) ++ List.replicate (2 - (lg_sl ([.ref q, .int (nI (n))])).length) Slot.unset).toArray = ls at hl ⊢
  have hl : lv_has ls 2 [(0, .ref q), (1, .int (nI (n)))] := hl
  refine lv_aload_n hx hb dX2_init_0 rfl (lv_at hl 0 rfl) ?_
  refine W.objInit hx hb hown (hts (.methodLink RX2 1 objectInit) (by decide +kernel)) (hts (.instanceMethod objectInit) (by decide +kernel)) (hts (.code objectInit ⟨#[0xb1]⟩ 1 none) (List.mem_of_getElem? (i := 3) rfl)) rfl (by rw [hml]; exact hl.1) rfl dX2_init_1 (Nat.le_of_ble_eq_true rfl) (Nat.le_of_ble_eq_true rfl) ?_
  refine W.eq (g2 := F0 m 4 ls []) rfl ?_
  refine lv_aload_n hx hb dX2_init_4 rfl (lv_at hl 0 rfl) ?_
  refine lv_iload_n hx hb dX2_init_5 rfl (lv_at hl 1 rfl) ?_
  refine n_ifle (tgt := 13) hx hb dX2_init_6 (by decide) (by omega) (fun c_1 => ?_) (fun c_1 => ?_)
  · exact absurd c_1 (by omega)
  refine lv_iload_n hx hb dX2_init_9 rfl (lv_at hl 1 rfl) ?_
  refine lv_goto (tgt := 14) hx hb dX2_init_10 (by decide) ?_
  refine n_newa (atype := .int) (ty := .int) (a0 := (n, .inl (fun _ => 0))) hx hb harint rfl hK 0 rfl (fun _ _ => rfl) hP hD hS hA (fun _ => rfl) (by omega) (by show n * 4 ≤ 536870912; omega) (by show 0 + 1 ≤ 1; decide) (by show 0 + n ≤ n; omega) dX2_init_14 (fun a H hP hD hS => ?_)
  have hP : va_P d vwCl [(q, .inr (2, [.null])), (a, .inl (cI, n, .inl (fun _ => 0)))] H := hP
  have hD : va_D A [(q, .inr (2, [.null])), (a, .inl (cI, n, .inl (fun _ => 0)))] := hD
  refine va_putF (D := d) (ci := 2) (v := .ref a) (ty := .array .int) (C := RX2) (T := TX2) (N := 1) hx hb hts hin2 tyX2 tyX2_ok nmX2 hown hK hP hD hS 0 rfl rfl 0 (by decide) hfl7 (fun _ h9 => h9) rfl hin rfl (by decide +kernel) rfl rfl (Nat.le_of_ble_eq_true rfl) dX2_init_16 (fun H locs hP hD hS => ?_)
  have hP : va_P d vwCl [(q, .inr (2, [.ref a])), (a, .inl (cI, n, .inl (fun _ => 0)))] H := hP
  have hD : va_D A [(q, .inr (2, [.ref a])), (a, .inl (cI, n, .inl (fun _ => 0)))] := hD
  refine W.widen (k := 1) (n := n) (by omega) (by omega) ?_
  exact W.vret hx hb hr (fun t ht hW => ⟨⟨a, rfl, by rw [ht]; exact hP.sub [0, 1] rfl, hD.sub [0, 1] (by decide) rfl⟩, hS.F ht⟩) hS.2.2 dX2_init_19

set_option maxHeartbeats 4000000 in
set_option maxRecDepth 100000 in
theorem c_X3_init (l : Launch) (d : va_G) (cI : ClassId) (q : Nat)  : nNw (S := Nat × Nat × Nat × Nat) l yX3_init wsX3_init ({ frames := 2, cells := 4, slots := 2594, locals := 33 } : Room) d [(cI, .int)] q 3 [.null, .null] [] 4 2594 (fun u => match u with | (k, ka, g, ga) => [(q, .inr (3, [.ref k, .ref g])), (k, .inr (2, [.ref ka])), (ka, .inl (cI, 1296, .inl (fun _ => 0))), (g, .inr (2, [.ref ga])), (ga, .inl (cI, 1296, .inl (fun _ => 0)))]) := by
  intro sz
  refine Met.ofW (cc := cX3_init) (maxL := 1) (ret := none) (by decide) rfl ?_
  intro p e s m args below meth c s₁ B hml hv
  obtain ⟨rfl, hsz, hP, hK, hD0⟩ := hv
  have hx := B.exec
  have hb := B.bytes
  have hr := B.returns
  have hts := atoms_spec (ws := wsX3_init) B.pre
  have hown : s.vm.findClass RX3 = some m.cls := findClass_of_methodNamed B.named
  have hlocks := B.notSynchronized
  have hin : meth.name = "<init>" := (name_of_methodNamed B.named B.method).1
  have hfl14 := hts (.fieldLink RX3 14 "Nudgelane$Ways" "known" "LNudgelane$Row;") (by decide +kernel)
  have hfl20 := hts (.fieldLink RX3 20 "Nudgelane$Ways" "queue" "LNudgelane$Row;") (by decide +kernel)
  have hin2 : ∀ w ∈ u_ws RX2 TX2 1, w ∈ wsX3_init := by decide +kernel
  have hin3 : ∀ w ∈ u_ws RX3 TX3 2, w ∈ wsX3_init := by decide +kernel
  subst hsz
  have hD := hD0.self (sz := s.heap.size)
  generalize hAe : va_A [(q, .inr (3, [.null, .null]))] s.heap.size = A at hD ⊢
  have hA : ∀ q : Nat, s.heap.size ≤ q → A q := fun q h => by rw [← hAe]; exact Or.inr h
  have hS : va_S A s.heap s.heap [] := va_S.rf
  have hP : va_P d vwCl [(q, .inr (3, [.null, .null]))] s.heap := hP
  have hl := lv_entry ([.ref q]) (n := 1) (Nat.le_of_ble_eq_true rfl)
  rw [lg_entry_eq]
  generalize (lg_sl ([.ref q]) ++ List.replicate (1 - (lg_sl ([.ref q])).length) Slot.unset).toArray = ls at hl ⊢
  have hl : lv_has ls 1 [(0, .ref q)] := hl
  refine lv_aload_n hx hb dX3_init_0 rfl (lv_at hl 0 rfl) ?_
  refine W.objInit hx hb hown (hts (.methodLink RX3 3 objectInit) (by decide +kernel)) (hts (.instanceMethod objectInit) (by decide +kernel)) (hts (.code objectInit ⟨#[0xb1]⟩ 1 none) (List.mem_of_getElem? (i := 3) rfl)) rfl (by rw [hml]; exact hl.1) rfl dX3_init_1 (Nat.le_of_ble_eq_true rfl) (Nat.le_of_ble_eq_true rfl) ?_
  refine W.eq (g2 := F0 m 4 ls []) rfl ?_
  refine lv_aload_n hx hb dX3_init_4 rfl (lv_at hl 0 rfl) ?_
  refine va_new (ci := 2) (fs := [.null]) (C := RX2) (T := TX2) (N := 1) hx hb hts hin2 tyX2 tyX2_ok hown (hts (.classLink RX3 9 RX2) (by decide +kernel)) (hts (.instantiable RX2 1) (by decide +kernel)) (hts (.initialized RX2) (by decide +kernel)) hK hP hD hS hA rfl (fun j hj => by match j, hj with | 0, _ => rfl | n + 1, h => exact absurd h (by omega)) (Nat.le_of_ble_eq_true rfl) (Nat.le_of_ble_eq_true rfl) dX3_init_5 (fun k H hP hD hS => ?_)
  have hP : va_P d vwCl [(q, .inr (3, [.null, .null])), (k, .inr (2, [.null]))] H := hP
  have hD : va_D A [(q, .inr (3, [.null, .null])), (k, .inr (2, [.null]))] := hD
  refine lv_dup hx hb dX3_init_8 rfl ?_
  refine lv_sipush (v := nI (1296)) hx hb dX3_init_9 (by decide) ?_
  refine n_nwI (As := [.int (nI (1296))]) (rest := [.ref k, .ref q]) (wr := [(q, .inr (3, [.null, .null]))]) ⟨hx, hb, hml, hown, hts⟩ (c_X2_init l d cI k 1296 (by decide) (by decide)) (cwI 1 hts gX3_init_X2_init rfl rfl rfl (hts (.initialized RX2) (by decide +kernel)) (hts (.methodLink RX3 11 yX2_init) (by decide +kernel)) (hts (.instanceMethod yX2_init) (by decide +kernel)) rfl (by decide +kernel) ⟨Nat.le_of_ble_eq_true rfl, Nat.le_of_ble_eq_true rfl⟩) hP hD hS hA hK 1 [0] rfl rfl (by decide) (by decide) rfl hl.1 rfl (Nat.le_of_ble_eq_true rfl) dX3_init_12 ⟨Nat.le_of_ble_eq_true rfl, Nat.le_of_ble_eq_true rfl⟩ (fun ka H locs hP hD hS => ?_)
  have hP : va_P d vwCl [(q, .inr (3, [.null, .null])), (k, .inr (2, [.ref ka])), (ka, .inl (cI, 1296, .inl (fun _ => 0)))] H := hP
  have hD : va_D A [(q, .inr (3, [.null, .null])), (k, .inr (2, [.ref ka])), (ka, .inl (cI, 1296, .inl (fun _ => 0)))] := hD
  refine va_putF (D := d) (ci := 3) (v := .ref k) (ty := .object "Nudgelane$Row") (C := RX3) (T := TX3) (N := 2) hx hb hts hin3 tyX3 tyX3_ok nmX3 hown hK hP hD hS 0 rfl rfl 0 (by decide) hfl14 (fun _ h9 => h9) rfl hin rfl (by decide +kernel) rfl rfl (Nat.le_of_ble_eq_true rfl) dX3_init_15 (fun H locs hP hD hS => ?_)
  have hP : va_P d vwCl [(q, .inr (3, [.ref k, .null])), (k, .inr (2, [.ref ka])), (ka, .inl (cI, 1296, .inl (fun _ => 0)))] H := hP
  have hD : va_D A [(q, .inr (3, [.ref k, .null])), (k, .inr (2, [.ref ka])), (ka, .inl (cI, 1296, .inl (fun _ => 0)))] := hD
  refine lv_aload_n hx hb dX3_init_18 rfl (lv_at hl 0 rfl) ?_
  refine va_new (ci := 2) (fs := [.null]) (C := RX2) (T := TX2) (N := 1) hx hb hts hin2 tyX2 tyX2_ok hown (hts (.classLink RX3 9 RX2) (by decide +kernel)) (hts (.instantiable RX2 1) (by decide +kernel)) (hts (.initialized RX2) (by decide +kernel)) hK hP hD hS hA rfl (fun j hj => by match j, hj with | 0, _ => rfl | n + 1, h => exact absurd h (by omega)) (Nat.le_of_ble_eq_true rfl) (Nat.le_of_ble_eq_true rfl) dX3_init_19 (fun g H hP hD hS => ?_)
  have hP : va_P d vwCl [(q, .inr (3, [.ref k, .null])), (k, .inr (2, [.ref ka])), (ka, .inl (cI, 1296, .inl (fun _ => 0))), (g, .inr (2, [.null]))] H := hP
  have hD : va_D A [(q, .inr (3, [.ref k, .null])), (k, .inr (2, [.ref ka])), (ka, .inl (cI, 1296, .inl (fun _ => 0))), (g, .inr (2, [.null]))] := hD
  refine lv_dup hx hb dX3_init_22 rfl ?_
  refine lv_sipush (v := nI (1296)) hx hb dX3_init_23 (by decide) ?_
  refine n_nwI (As := [.int (nI (1296))]) (rest := [.ref g, .ref q]) (wr := [(q, .inr (3, [.ref k, .null])), (k, .inr (2, [.ref ka])), (ka, .inl (cI, 1296, .inl (fun _ => 0)))]) ⟨hx, hb, hml, hown, hts⟩ (c_X2_init l d cI g 1296 (by decide) (by decide)) (cwI 1 hts gX3_init_X2_init rfl rfl rfl (hts (.initialized RX2) (by decide +kernel)) (hts (.methodLink RX3 11 yX2_init) (by decide +kernel)) (hts (.instanceMethod yX2_init) (by decide +kernel)) rfl (by decide +kernel) ⟨Nat.le_of_ble_eq_true rfl, Nat.le_of_ble_eq_true rfl⟩) hP hD hS hA hK 3 [0, 1, 2] rfl rfl (by decide) (by decide) rfl hl.1 rfl (Nat.le_of_ble_eq_true rfl) dX3_init_26 ⟨Nat.le_of_ble_eq_true rfl, Nat.le_of_ble_eq_true rfl⟩ (fun ga H locs hP hD hS => ?_)
  have hP : va_P d vwCl [(q, .inr (3, [.ref k, .null])), (k, .inr (2, [.ref ka])), (ka, .inl (cI, 1296, .inl (fun _ => 0))), (g, .inr (2, [.ref ga])), (ga, .inl (cI, 1296, .inl (fun _ => 0)))] H := hP
  have hD : va_D A [(q, .inr (3, [.ref k, .null])), (k, .inr (2, [.ref ka])), (ka, .inl (cI, 1296, .inl (fun _ => 0))), (g, .inr (2, [.ref ga])), (ga, .inl (cI, 1296, .inl (fun _ => 0)))] := hD
  refine va_putF (D := d) (ci := 3) (v := .ref g) (ty := .object "Nudgelane$Row") (C := RX3) (T := TX3) (N := 2) hx hb hts hin3 tyX3 tyX3_ok nmX3 hown hK hP hD hS 0 rfl rfl 1 (by decide) hfl20 (fun _ h9 => h9) rfl hin rfl (by decide +kernel) rfl rfl (Nat.le_of_ble_eq_true rfl) dX3_init_29 (fun H locs hP hD hS => ?_)
  have hP : va_P d vwCl [(q, .inr (3, [.ref k, .ref g])), (k, .inr (2, [.ref ka])), (ka, .inl (cI, 1296, .inl (fun _ => 0))), (g, .inr (2, [.ref ga])), (ga, .inl (cI, 1296, .inl (fun _ => 0)))] H := hP
  have hD : va_D A [(q, .inr (3, [.ref k, .ref g])), (k, .inr (2, [.ref ka])), (ka, .inl (cI, 1296, .inl (fun _ => 0))), (g, .inr (2, [.ref ga])), (ga, .inl (cI, 1296, .inl (fun _ => 0)))] := hD
  refine W.widen (k := 4) (n := 2594) (Nat.le_of_ble_eq_true rfl) (Nat.le_of_ble_eq_true rfl) ?_
  exact W.vret hx hb hr (fun t ht hW => ⟨⟨(k, ka, g, ga), rfl, by rw [ht]; exact hP.sub [0, 1, 2, 3, 4] rfl, hD.sub [0, 1, 2, 3, 4] (by decide) rfl⟩, hS.F ht⟩) hS.2.2 dX3_init_32

set_option maxHeartbeats 4000000 in
set_option maxRecDepth 100000 in
theorem c_X4_init (l : Launch) (d : va_G) (cI : ClassId) (q : Nat)  : nNw (S := Nat × Nat × Nat × Nat) l yX4_init wsX4_init ({ frames := 2, cells := 4, slots := 2594, locals := 33 } : Room) d [(cI, .int)] q 4 [.null, .null] [] 4 2594 (fun u => match u with | (k, ka, g, ga) => [(q, .inr (4, [.ref k, .ref g])), (k, .inr (2, [.ref ka])), (ka, .inl (cI, 1296, .inl (fun _ => 0))), (g, .inr (2, [.ref ga])), (ga, .inl (cI, 1296, .inl (fun _ => 0)))]) := by
  intro sz
  refine Met.ofW (cc := cX4_init) (maxL := 1) (ret := none) (by decide) rfl ?_
  intro p e s m args below meth c s₁ B hml hv
  obtain ⟨rfl, hsz, hP, hK, hD0⟩ := hv
  have hx := B.exec
  have hb := B.bytes
  have hr := B.returns
  have hts := atoms_spec (ws := wsX4_init) B.pre
  have hown : s.vm.findClass RX4 = some m.cls := findClass_of_methodNamed B.named
  have hlocks := B.notSynchronized
  have hin : meth.name = "<init>" := (name_of_methodNamed B.named B.method).1
  have hfl14 := hts (.fieldLink RX4 14 "Nudgelane$Worths" "worthNow" "LNudgelane$Row;") (by decide +kernel)
  have hfl20 := hts (.fieldLink RX4 20 "Nudgelane$Worths" "sums" "LNudgelane$Row;") (by decide +kernel)
  have hin2 : ∀ w ∈ u_ws RX2 TX2 1, w ∈ wsX4_init := by decide +kernel
  have hin4 : ∀ w ∈ u_ws RX4 TX4 2, w ∈ wsX4_init := by decide +kernel
  subst hsz
  have hD := hD0.self (sz := s.heap.size)
  generalize hAe : va_A [(q, .inr (4, [.null, .null]))] s.heap.size = A at hD ⊢
  have hA : ∀ q : Nat, s.heap.size ≤ q → A q := fun q h => by rw [← hAe]; exact Or.inr h
  have hS : va_S A s.heap s.heap [] := va_S.rf
  have hP : va_P d vwCl [(q, .inr (4, [.null, .null]))] s.heap := hP
  have hl := lv_entry ([.ref q]) (n := 1) (Nat.le_of_ble_eq_true rfl)
  rw [lg_entry_eq]
  generalize (lg_sl ([.ref q]) ++ List.replicate (1 - (lg_sl ([.ref q])).length) Slot.unset).toArray = ls at hl ⊢
  have hl : lv_has ls 1 [(0, .ref q)] := hl
  refine lv_aload_n hx hb dX4_init_0 rfl (lv_at hl 0 rfl) ?_
  refine W.objInit hx hb hown (hts (.methodLink RX4 3 objectInit) (by decide +kernel)) (hts (.instanceMethod objectInit) (by decide +kernel)) (hts (.code objectInit ⟨#[0xb1]⟩ 1 none) (List.mem_of_getElem? (i := 3) rfl)) rfl (by rw [hml]; exact hl.1) rfl dX4_init_1 (Nat.le_of_ble_eq_true rfl) (Nat.le_of_ble_eq_true rfl) ?_
  refine W.eq (g2 := F0 m 4 ls []) rfl ?_
  refine lv_aload_n hx hb dX4_init_4 rfl (lv_at hl 0 rfl) ?_
  refine va_new (ci := 2) (fs := [.null]) (C := RX2) (T := TX2) (N := 1) hx hb hts hin2 tyX2 tyX2_ok hown (hts (.classLink RX4 9 RX2) (by decide +kernel)) (hts (.instantiable RX2 1) (by decide +kernel)) (hts (.initialized RX2) (by decide +kernel)) hK hP hD hS hA rfl (fun j hj => by match j, hj with | 0, _ => rfl | n + 1, h => exact absurd h (by omega)) (Nat.le_of_ble_eq_true rfl) (Nat.le_of_ble_eq_true rfl) dX4_init_5 (fun k H hP hD hS => ?_)
  have hP : va_P d vwCl [(q, .inr (4, [.null, .null])), (k, .inr (2, [.null]))] H := hP
  have hD : va_D A [(q, .inr (4, [.null, .null])), (k, .inr (2, [.null]))] := hD
  refine lv_dup hx hb dX4_init_8 rfl ?_
  refine lv_sipush (v := nI (1296)) hx hb dX4_init_9 (by decide) ?_
  refine n_nwI (As := [.int (nI (1296))]) (rest := [.ref k, .ref q]) (wr := [(q, .inr (4, [.null, .null]))]) ⟨hx, hb, hml, hown, hts⟩ (c_X2_init l d cI k 1296 (by decide) (by decide)) (cwI 1 hts gX4_init_X2_init rfl rfl rfl (hts (.initialized RX2) (by decide +kernel)) (hts (.methodLink RX4 11 yX2_init) (by decide +kernel)) (hts (.instanceMethod yX2_init) (by decide +kernel)) rfl (by decide +kernel) ⟨Nat.le_of_ble_eq_true rfl, Nat.le_of_ble_eq_true rfl⟩) hP hD hS hA hK 1 [0] rfl rfl (by decide) (by decide) rfl hl.1 rfl (Nat.le_of_ble_eq_true rfl) dX4_init_12 ⟨Nat.le_of_ble_eq_true rfl, Nat.le_of_ble_eq_true rfl⟩ (fun ka H locs hP hD hS => ?_)
  have hP : va_P d vwCl [(q, .inr (4, [.null, .null])), (k, .inr (2, [.ref ka])), (ka, .inl (cI, 1296, .inl (fun _ => 0)))] H := hP
  have hD : va_D A [(q, .inr (4, [.null, .null])), (k, .inr (2, [.ref ka])), (ka, .inl (cI, 1296, .inl (fun _ => 0)))] := hD
  refine va_putF (D := d) (ci := 4) (v := .ref k) (ty := .object "Nudgelane$Row") (C := RX4) (T := TX4) (N := 2) hx hb hts hin4 tyX4 tyX4_ok nmX4 hown hK hP hD hS 0 rfl rfl 0 (by decide) hfl14 (fun _ h9 => h9) rfl hin rfl (by decide +kernel) rfl rfl (Nat.le_of_ble_eq_true rfl) dX4_init_15 (fun H locs hP hD hS => ?_)
  have hP : va_P d vwCl [(q, .inr (4, [.ref k, .null])), (k, .inr (2, [.ref ka])), (ka, .inl (cI, 1296, .inl (fun _ => 0)))] H := hP
  have hD : va_D A [(q, .inr (4, [.ref k, .null])), (k, .inr (2, [.ref ka])), (ka, .inl (cI, 1296, .inl (fun _ => 0)))] := hD
  refine lv_aload_n hx hb dX4_init_18 rfl (lv_at hl 0 rfl) ?_
  refine va_new (ci := 2) (fs := [.null]) (C := RX2) (T := TX2) (N := 1) hx hb hts hin2 tyX2 tyX2_ok hown (hts (.classLink RX4 9 RX2) (by decide +kernel)) (hts (.instantiable RX2 1) (by decide +kernel)) (hts (.initialized RX2) (by decide +kernel)) hK hP hD hS hA rfl (fun j hj => by match j, hj with | 0, _ => rfl | n + 1, h => exact absurd h (by omega)) (Nat.le_of_ble_eq_true rfl) (Nat.le_of_ble_eq_true rfl) dX4_init_19 (fun g H hP hD hS => ?_)
  have hP : va_P d vwCl [(q, .inr (4, [.ref k, .null])), (k, .inr (2, [.ref ka])), (ka, .inl (cI, 1296, .inl (fun _ => 0))), (g, .inr (2, [.null]))] H := hP
  have hD : va_D A [(q, .inr (4, [.ref k, .null])), (k, .inr (2, [.ref ka])), (ka, .inl (cI, 1296, .inl (fun _ => 0))), (g, .inr (2, [.null]))] := hD
  refine lv_dup hx hb dX4_init_22 rfl ?_
  refine lv_sipush (v := nI (1296)) hx hb dX4_init_23 (by decide) ?_
  refine n_nwI (As := [.int (nI (1296))]) (rest := [.ref g, .ref q]) (wr := [(q, .inr (4, [.ref k, .null])), (k, .inr (2, [.ref ka])), (ka, .inl (cI, 1296, .inl (fun _ => 0)))]) ⟨hx, hb, hml, hown, hts⟩ (c_X2_init l d cI g 1296 (by decide) (by decide)) (cwI 1 hts gX4_init_X2_init rfl rfl rfl (hts (.initialized RX2) (by decide +kernel)) (hts (.methodLink RX4 11 yX2_init) (by decide +kernel)) (hts (.instanceMethod yX2_init) (by decide +kernel)) rfl (by decide +kernel) ⟨Nat.le_of_ble_eq_true rfl, Nat.le_of_ble_eq_true rfl⟩) hP hD hS hA hK 3 [0, 1, 2] rfl rfl (by decide) (by decide) rfl hl.1 rfl (Nat.le_of_ble_eq_true rfl) dX4_init_26 ⟨Nat.le_of_ble_eq_true rfl, Nat.le_of_ble_eq_true rfl⟩ (fun ga H locs hP hD hS => ?_)
  have hP : va_P d vwCl [(q, .inr (4, [.ref k, .null])), (k, .inr (2, [.ref ka])), (ka, .inl (cI, 1296, .inl (fun _ => 0))), (g, .inr (2, [.ref ga])), (ga, .inl (cI, 1296, .inl (fun _ => 0)))] H := hP
  have hD : va_D A [(q, .inr (4, [.ref k, .null])), (k, .inr (2, [.ref ka])), (ka, .inl (cI, 1296, .inl (fun _ => 0))), (g, .inr (2, [.ref ga])), (ga, .inl (cI, 1296, .inl (fun _ => 0)))] := hD
  refine va_putF (D := d) (ci := 4) (v := .ref g) (ty := .object "Nudgelane$Row") (C := RX4) (T := TX4) (N := 2) hx hb hts hin4 tyX4 tyX4_ok nmX4 hown hK hP hD hS 0 rfl rfl 1 (by decide) hfl20 (fun _ h9 => h9) rfl hin rfl (by decide +kernel) rfl rfl (Nat.le_of_ble_eq_true rfl) dX4_init_29 (fun H locs hP hD hS => ?_)
  have hP : va_P d vwCl [(q, .inr (4, [.ref k, .ref g])), (k, .inr (2, [.ref ka])), (ka, .inl (cI, 1296, .inl (fun _ => 0))), (g, .inr (2, [.ref ga])), (ga, .inl (cI, 1296, .inl (fun _ => 0)))] H := hP
  have hD : va_D A [(q, .inr (4, [.ref k, .ref g])), (k, .inr (2, [.ref ka])), (ka, .inl (cI, 1296, .inl (fun _ => 0))), (g, .inr (2, [.ref ga])), (ga, .inl (cI, 1296, .inl (fun _ => 0)))] := hD
  refine W.widen (k := 4) (n := 2594) (Nat.le_of_ble_eq_true rfl) (Nat.le_of_ble_eq_true rfl) ?_
  exact W.vret hx hb hr (fun t ht hW => ⟨⟨(k, ka, g, ga), rfl, by rw [ht]; exact hP.sub [0, 1, 2, 3, 4] rfl, hD.sub [0, 1, 2, 3, 4] (by decide) rfl⟩, hS.F ht⟩) hS.2.2 dX4_init_32

set_option maxHeartbeats 4000000 in
set_option maxRecDepth 100000 in
theorem c_X0_init (l : Launch) (d : va_G) (cI : ClassId) (q : Nat)  : nNw (S := Nat × Nat × Nat × Nat × Nat × Nat × Nat × Nat × Nat × Nat × Nat × Nat) l yX0_init wsX0_init ({ frames := 2, cells := 12, slots := 4854, locals := 33 } : Room) d [(cI, .int)] q 0 [.null, .null, .null, .null, .null, .null, .int (nI (0)), .int (nI (0)), .int (nI (0)), .int (nI (0)), .int (nI (0))] [] 12 4854 (fun u => match u with | (f, fa, x, xa, v, va, g, ga, k, ka, z, za) => [(q, .inr (0, [.ref f, .ref x, .ref v, .ref g, .ref k, .ref z, .int (nI (0)), .int (nI (0)), .int (nI (0)), .int (-1), .int (nI (0))])), (f, .inr (2, [.ref fa])), (fa, .inl (cI, 300, .inl (fun _ => 0))), (x, .inr (2, [.ref xa])), (xa, .inl (cI, 300, .inl (fun _ => 0))), (v, .inr (2, [.ref va])), (va, .inl (cI, 1296, .inl (fun _ => 0))), (g, .inr (2, [.ref ga])), (ga, .inl (cI, 1296, .inl (fun _ => 0))), (k, .inr (2, [.ref ka])), (ka, .inl (cI, 1296, .inl (fun _ => 0))), (z, .inr (2, [.ref za])), (za, .inl (cI, 360, .inl (fun _ => 0)))]) := by
  intro sz
  refine Met.ofW (cc := cX0_init) (maxL := 1) (ret := none) (by decide) rfl ?_
  intro p e s m args below meth c s₁ B hml hv
  obtain ⟨rfl, hsz, hP, hK, hD0⟩ := hv
  have hx := B.exec
  have hb := B.bytes
  have hr := B.returns
  have hts := atoms_spec (ws := wsX0_init) B.pre
  have hown : s.vm.findClass RX0 = some m.cls := findClass_of_methodNamed B.named
  have hlocks := B.notSynchronized
  have hin : meth.name = "<init>" := (name_of_methodNamed B.named B.method).1
  have hfl14 := hts (.fieldLink RX0 14 "Nudgelane$Attempts" "froms" "LNudgelane$Row;") (by decide +kernel)
  have hfl20 := hts (.fieldLink RX0 20 "Nudgelane$Attempts" "tos" "LNudgelane$Row;") (by decide +kernel)
  have hfl23 := hts (.fieldLink RX0 23 "Nudgelane$Attempts" "leavings" "LNudgelane$Row;") (by decide +kernel)
  have hfl26 := hts (.fieldLink RX0 26 "Nudgelane$Attempts" "rightEnds" "LNudgelane$Row;") (by decide +kernel)
  have hfl29 := hts (.fieldLink RX0 29 "Nudgelane$Attempts" "metMarks" "LNudgelane$Row;") (by decide +kernel)
  have hfl32 := hts (.fieldLink RX0 32 "Nudgelane$Attempts" "metForms" "LNudgelane$Row;") (by decide +kernel)
  have hfl35 := hts (.fieldLink RX0 35 "Nudgelane$Attempts" "here" "I") (by decide +kernel)
  have hin0 : ∀ w ∈ u_ws RX0 TX0 11, w ∈ wsX0_init := by decide +kernel
  have hin2 : ∀ w ∈ u_ws RX2 TX2 1, w ∈ wsX0_init := by decide +kernel
  subst hsz
  have hD := hD0.self (sz := s.heap.size)
  generalize hAe : va_A [(q, .inr (0, [.null, .null, .null, .null, .null, .null, .int (nI (0)), .int (nI (0)), .int (nI (0)), .int (nI (0)), .int (nI (0))]))] s.heap.size = A at hD ⊢
  have hA : ∀ q : Nat, s.heap.size ≤ q → A q := fun q h => by rw [← hAe]; exact Or.inr h
  have hS : va_S A s.heap s.heap [] := va_S.rf
  have hP : va_P d vwCl [(q, .inr (0, [.null, .null, .null, .null, .null, .null, .int (nI (0)), .int (nI (0)), .int (nI (0)), .int (nI (0)), .int (nI (0))]))] s.heap := hP
  have hl := lv_entry ([.ref q]) (n := 1) (Nat.le_of_ble_eq_true rfl)
  rw [lg_entry_eq]
  generalize (lg_sl ([.ref q]) ++ List.replicate (1 - (lg_sl ([.ref q])).length) Slot.unset).toArray = ls at hl ⊢
  have hl : lv_has ls 1 [(0, .ref q)] := hl
  refine lv_aload_n hx hb dX0_init_0 rfl (lv_at hl 0 rfl) ?_
  refine W.objInit hx hb hown (hts (.methodLink RX0 3 objectInit) (by decide +kernel)) (hts (.instanceMethod objectInit) (by decide +kernel)) (hts (.code objectInit ⟨#[0xb1]⟩ 1 none) (List.mem_of_getElem? (i := 3) rfl)) rfl (by rw [hml]; exact hl.1) rfl dX0_init_1 (Nat.le_of_ble_eq_true rfl) (Nat.le_of_ble_eq_true rfl) ?_
  refine W.eq (g2 := F0 m 4 ls []) rfl ?_
  refine lv_aload_n hx hb dX0_init_4 rfl (lv_at hl 0 rfl) ?_
  refine va_new (ci := 2) (fs := [.null]) (C := RX2) (T := TX2) (N := 1) hx hb hts hin2 tyX2 tyX2_ok hown (hts (.classLink RX0 9 RX2) (by decide +kernel)) (hts (.instantiable RX2 1) (by decide +kernel)) (hts (.initialized RX2) (by decide +kernel)) hK hP hD hS hA rfl (fun j hj => by match j, hj with | 0, _ => rfl | n + 1, h => exact absurd h (by omega)) (Nat.le_of_ble_eq_true rfl) (Nat.le_of_ble_eq_true rfl) dX0_init_5 (fun f H hP hD hS => ?_)
  have hP : va_P d vwCl [(q, .inr (0, [.null, .null, .null, .null, .null, .null, .int (nI (0)), .int (nI (0)), .int (nI (0)), .int (nI (0)), .int (nI (0))])), (f, .inr (2, [.null]))] H := hP
  have hD : va_D A [(q, .inr (0, [.null, .null, .null, .null, .null, .null, .int (nI (0)), .int (nI (0)), .int (nI (0)), .int (nI (0)), .int (nI (0))])), (f, .inr (2, [.null]))] := hD
  refine lv_dup hx hb dX0_init_8 rfl ?_
  refine lv_sipush (v := nI (300)) hx hb dX0_init_9 (by decide) ?_
  refine n_nwI (As := [.int (nI (300))]) (rest := [.ref f, .ref q]) (wr := [(q, .inr (0, [.null, .null, .null, .null, .null, .null, .int (nI (0)), .int (nI (0)), .int (nI (0)), .int (nI (0)), .int (nI (0))]))]) ⟨hx, hb, hml, hown, hts⟩ (c_X2_init l d cI f 300 (by decide) (by decide)) (cwI 1 hts gX0_init_X2_init rfl rfl rfl (hts (.initialized RX2) (by decide +kernel)) (hts (.methodLink RX0 11 yX2_init) (by decide +kernel)) (hts (.instanceMethod yX2_init) (by decide +kernel)) rfl (by decide +kernel) ⟨Nat.le_of_ble_eq_true rfl, Nat.le_of_ble_eq_true rfl⟩) hP hD hS hA hK 1 [0] rfl rfl (by decide) (by decide) rfl hl.1 rfl (Nat.le_of_ble_eq_true rfl) dX0_init_12 ⟨Nat.le_of_ble_eq_true rfl, Nat.le_of_ble_eq_true rfl⟩ (fun fa H locs hP hD hS => ?_)
  have hP : va_P d vwCl [(q, .inr (0, [.null, .null, .null, .null, .null, .null, .int (nI (0)), .int (nI (0)), .int (nI (0)), .int (nI (0)), .int (nI (0))])), (f, .inr (2, [.ref fa])), (fa, .inl (cI, 300, .inl (fun _ => 0)))] H := hP
  have hD : va_D A [(q, .inr (0, [.null, .null, .null, .null, .null, .null, .int (nI (0)), .int (nI (0)), .int (nI (0)), .int (nI (0)), .int (nI (0))])), (f, .inr (2, [.ref fa])), (fa, .inl (cI, 300, .inl (fun _ => 0)))] := hD
  refine va_putF (D := d) (ci := 0) (v := .ref f) (ty := .object "Nudgelane$Row") (C := RX0) (T := TX0) (N := 11) hx hb hts hin0 tyX0 tyX0_ok nmX0 hown hK hP hD hS 0 rfl rfl 0 (by decide) hfl14 (fun _ h9 => h9) rfl hin rfl (by decide +kernel) rfl rfl (Nat.le_of_ble_eq_true rfl) dX0_init_15 (fun H locs hP hD hS => ?_)
  have hP : va_P d vwCl [(q, .inr (0, [.ref f, .null, .null, .null, .null, .null, .int (nI (0)), .int (nI (0)), .int (nI (0)), .int (nI (0)), .int (nI (0))])), (f, .inr (2, [.ref fa])), (fa, .inl (cI, 300, .inl (fun _ => 0)))] H := hP
  have hD : va_D A [(q, .inr (0, [.ref f, .null, .null, .null, .null, .null, .int (nI (0)), .int (nI (0)), .int (nI (0)), .int (nI (0)), .int (nI (0))])), (f, .inr (2, [.ref fa])), (fa, .inl (cI, 300, .inl (fun _ => 0)))] := hD
  refine lv_aload_n hx hb dX0_init_18 rfl (lv_at hl 0 rfl) ?_
  refine va_new (ci := 2) (fs := [.null]) (C := RX2) (T := TX2) (N := 1) hx hb hts hin2 tyX2 tyX2_ok hown (hts (.classLink RX0 9 RX2) (by decide +kernel)) (hts (.instantiable RX2 1) (by decide +kernel)) (hts (.initialized RX2) (by decide +kernel)) hK hP hD hS hA rfl (fun j hj => by match j, hj with | 0, _ => rfl | n + 1, h => exact absurd h (by omega)) (Nat.le_of_ble_eq_true rfl) (Nat.le_of_ble_eq_true rfl) dX0_init_19 (fun x H hP hD hS => ?_)
  have hP : va_P d vwCl [(q, .inr (0, [.ref f, .null, .null, .null, .null, .null, .int (nI (0)), .int (nI (0)), .int (nI (0)), .int (nI (0)), .int (nI (0))])), (f, .inr (2, [.ref fa])), (fa, .inl (cI, 300, .inl (fun _ => 0))), (x, .inr (2, [.null]))] H := hP
  have hD : va_D A [(q, .inr (0, [.ref f, .null, .null, .null, .null, .null, .int (nI (0)), .int (nI (0)), .int (nI (0)), .int (nI (0)), .int (nI (0))])), (f, .inr (2, [.ref fa])), (fa, .inl (cI, 300, .inl (fun _ => 0))), (x, .inr (2, [.null]))] := hD
  refine lv_dup hx hb dX0_init_22 rfl ?_
  refine lv_sipush (v := nI (300)) hx hb dX0_init_23 (by decide) ?_
  refine n_nwI (As := [.int (nI (300))]) (rest := [.ref x, .ref q]) (wr := [(q, .inr (0, [.ref f, .null, .null, .null, .null, .null, .int (nI (0)), .int (nI (0)), .int (nI (0)), .int (nI (0)), .int (nI (0))])), (f, .inr (2, [.ref fa])), (fa, .inl (cI, 300, .inl (fun _ => 0)))]) ⟨hx, hb, hml, hown, hts⟩ (c_X2_init l d cI x 300 (by decide) (by decide)) (cwI 1 hts gX0_init_X2_init rfl rfl rfl (hts (.initialized RX2) (by decide +kernel)) (hts (.methodLink RX0 11 yX2_init) (by decide +kernel)) (hts (.instanceMethod yX2_init) (by decide +kernel)) rfl (by decide +kernel) ⟨Nat.le_of_ble_eq_true rfl, Nat.le_of_ble_eq_true rfl⟩) hP hD hS hA hK 3 [0, 1, 2] rfl rfl (by decide) (by decide) rfl hl.1 rfl (Nat.le_of_ble_eq_true rfl) dX0_init_26 ⟨Nat.le_of_ble_eq_true rfl, Nat.le_of_ble_eq_true rfl⟩ (fun xa H locs hP hD hS => ?_)
  have hP : va_P d vwCl [(q, .inr (0, [.ref f, .null, .null, .null, .null, .null, .int (nI (0)), .int (nI (0)), .int (nI (0)), .int (nI (0)), .int (nI (0))])), (f, .inr (2, [.ref fa])), (fa, .inl (cI, 300, .inl (fun _ => 0))), (x, .inr (2, [.ref xa])), (xa, .inl (cI, 300, .inl (fun _ => 0)))] H := hP
  have hD : va_D A [(q, .inr (0, [.ref f, .null, .null, .null, .null, .null, .int (nI (0)), .int (nI (0)), .int (nI (0)), .int (nI (0)), .int (nI (0))])), (f, .inr (2, [.ref fa])), (fa, .inl (cI, 300, .inl (fun _ => 0))), (x, .inr (2, [.ref xa])), (xa, .inl (cI, 300, .inl (fun _ => 0)))] := hD
  refine va_putF (D := d) (ci := 0) (v := .ref x) (ty := .object "Nudgelane$Row") (C := RX0) (T := TX0) (N := 11) hx hb hts hin0 tyX0 tyX0_ok nmX0 hown hK hP hD hS 0 rfl rfl 1 (by decide) hfl20 (fun _ h9 => h9) rfl hin rfl (by decide +kernel) rfl rfl (Nat.le_of_ble_eq_true rfl) dX0_init_29 (fun H locs hP hD hS => ?_)
  have hP : va_P d vwCl [(q, .inr (0, [.ref f, .ref x, .null, .null, .null, .null, .int (nI (0)), .int (nI (0)), .int (nI (0)), .int (nI (0)), .int (nI (0))])), (f, .inr (2, [.ref fa])), (fa, .inl (cI, 300, .inl (fun _ => 0))), (x, .inr (2, [.ref xa])), (xa, .inl (cI, 300, .inl (fun _ => 0)))] H := hP
  have hD : va_D A [(q, .inr (0, [.ref f, .ref x, .null, .null, .null, .null, .int (nI (0)), .int (nI (0)), .int (nI (0)), .int (nI (0)), .int (nI (0))])), (f, .inr (2, [.ref fa])), (fa, .inl (cI, 300, .inl (fun _ => 0))), (x, .inr (2, [.ref xa])), (xa, .inl (cI, 300, .inl (fun _ => 0)))] := hD
  refine lv_aload_n hx hb dX0_init_32 rfl (lv_at hl 0 rfl) ?_
  refine va_new (ci := 2) (fs := [.null]) (C := RX2) (T := TX2) (N := 1) hx hb hts hin2 tyX2 tyX2_ok hown (hts (.classLink RX0 9 RX2) (by decide +kernel)) (hts (.instantiable RX2 1) (by decide +kernel)) (hts (.initialized RX2) (by decide +kernel)) hK hP hD hS hA rfl (fun j hj => by match j, hj with | 0, _ => rfl | n + 1, h => exact absurd h (by omega)) (Nat.le_of_ble_eq_true rfl) (Nat.le_of_ble_eq_true rfl) dX0_init_33 (fun v H hP hD hS => ?_)
  have hP : va_P d vwCl [(q, .inr (0, [.ref f, .ref x, .null, .null, .null, .null, .int (nI (0)), .int (nI (0)), .int (nI (0)), .int (nI (0)), .int (nI (0))])), (f, .inr (2, [.ref fa])), (fa, .inl (cI, 300, .inl (fun _ => 0))), (x, .inr (2, [.ref xa])), (xa, .inl (cI, 300, .inl (fun _ => 0))), (v, .inr (2, [.null]))] H := hP
  have hD : va_D A [(q, .inr (0, [.ref f, .ref x, .null, .null, .null, .null, .int (nI (0)), .int (nI (0)), .int (nI (0)), .int (nI (0)), .int (nI (0))])), (f, .inr (2, [.ref fa])), (fa, .inl (cI, 300, .inl (fun _ => 0))), (x, .inr (2, [.ref xa])), (xa, .inl (cI, 300, .inl (fun _ => 0))), (v, .inr (2, [.null]))] := hD
  refine lv_dup hx hb dX0_init_36 rfl ?_
  refine lv_sipush (v := nI (1296)) hx hb dX0_init_37 (by decide) ?_
  refine n_nwI (As := [.int (nI (1296))]) (rest := [.ref v, .ref q]) (wr := [(q, .inr (0, [.ref f, .ref x, .null, .null, .null, .null, .int (nI (0)), .int (nI (0)), .int (nI (0)), .int (nI (0)), .int (nI (0))])), (f, .inr (2, [.ref fa])), (fa, .inl (cI, 300, .inl (fun _ => 0))), (x, .inr (2, [.ref xa])), (xa, .inl (cI, 300, .inl (fun _ => 0)))]) ⟨hx, hb, hml, hown, hts⟩ (c_X2_init l d cI v 1296 (by decide) (by decide)) (cwI 1 hts gX0_init_X2_init rfl rfl rfl (hts (.initialized RX2) (by decide +kernel)) (hts (.methodLink RX0 11 yX2_init) (by decide +kernel)) (hts (.instanceMethod yX2_init) (by decide +kernel)) rfl (by decide +kernel) ⟨Nat.le_of_ble_eq_true rfl, Nat.le_of_ble_eq_true rfl⟩) hP hD hS hA hK 5 [0, 1, 2, 3, 4] rfl rfl (by decide) (by decide) rfl hl.1 rfl (Nat.le_of_ble_eq_true rfl) dX0_init_40 ⟨Nat.le_of_ble_eq_true rfl, Nat.le_of_ble_eq_true rfl⟩ (fun va H locs hP hD hS => ?_)
  have hP : va_P d vwCl [(q, .inr (0, [.ref f, .ref x, .null, .null, .null, .null, .int (nI (0)), .int (nI (0)), .int (nI (0)), .int (nI (0)), .int (nI (0))])), (f, .inr (2, [.ref fa])), (fa, .inl (cI, 300, .inl (fun _ => 0))), (x, .inr (2, [.ref xa])), (xa, .inl (cI, 300, .inl (fun _ => 0))), (v, .inr (2, [.ref va])), (va, .inl (cI, 1296, .inl (fun _ => 0)))] H := hP
  have hD : va_D A [(q, .inr (0, [.ref f, .ref x, .null, .null, .null, .null, .int (nI (0)), .int (nI (0)), .int (nI (0)), .int (nI (0)), .int (nI (0))])), (f, .inr (2, [.ref fa])), (fa, .inl (cI, 300, .inl (fun _ => 0))), (x, .inr (2, [.ref xa])), (xa, .inl (cI, 300, .inl (fun _ => 0))), (v, .inr (2, [.ref va])), (va, .inl (cI, 1296, .inl (fun _ => 0)))] := hD
  refine va_putF (D := d) (ci := 0) (v := .ref v) (ty := .object "Nudgelane$Row") (C := RX0) (T := TX0) (N := 11) hx hb hts hin0 tyX0 tyX0_ok nmX0 hown hK hP hD hS 0 rfl rfl 2 (by decide) hfl23 (fun _ h9 => h9) rfl hin rfl (by decide +kernel) rfl rfl (Nat.le_of_ble_eq_true rfl) dX0_init_43 (fun H locs hP hD hS => ?_)
  have hP : va_P d vwCl [(q, .inr (0, [.ref f, .ref x, .ref v, .null, .null, .null, .int (nI (0)), .int (nI (0)), .int (nI (0)), .int (nI (0)), .int (nI (0))])), (f, .inr (2, [.ref fa])), (fa, .inl (cI, 300, .inl (fun _ => 0))), (x, .inr (2, [.ref xa])), (xa, .inl (cI, 300, .inl (fun _ => 0))), (v, .inr (2, [.ref va])), (va, .inl (cI, 1296, .inl (fun _ => 0)))] H := hP
  have hD : va_D A [(q, .inr (0, [.ref f, .ref x, .ref v, .null, .null, .null, .int (nI (0)), .int (nI (0)), .int (nI (0)), .int (nI (0)), .int (nI (0))])), (f, .inr (2, [.ref fa])), (fa, .inl (cI, 300, .inl (fun _ => 0))), (x, .inr (2, [.ref xa])), (xa, .inl (cI, 300, .inl (fun _ => 0))), (v, .inr (2, [.ref va])), (va, .inl (cI, 1296, .inl (fun _ => 0)))] := hD
  refine lv_aload_n hx hb dX0_init_46 rfl (lv_at hl 0 rfl) ?_
  refine va_new (ci := 2) (fs := [.null]) (C := RX2) (T := TX2) (N := 1) hx hb hts hin2 tyX2 tyX2_ok hown (hts (.classLink RX0 9 RX2) (by decide +kernel)) (hts (.instantiable RX2 1) (by decide +kernel)) (hts (.initialized RX2) (by decide +kernel)) hK hP hD hS hA rfl (fun j hj => by match j, hj with | 0, _ => rfl | n + 1, h => exact absurd h (by omega)) (Nat.le_of_ble_eq_true rfl) (Nat.le_of_ble_eq_true rfl) dX0_init_47 (fun g H hP hD hS => ?_)
  have hP : va_P d vwCl [(q, .inr (0, [.ref f, .ref x, .ref v, .null, .null, .null, .int (nI (0)), .int (nI (0)), .int (nI (0)), .int (nI (0)), .int (nI (0))])), (f, .inr (2, [.ref fa])), (fa, .inl (cI, 300, .inl (fun _ => 0))), (x, .inr (2, [.ref xa])), (xa, .inl (cI, 300, .inl (fun _ => 0))), (v, .inr (2, [.ref va])), (va, .inl (cI, 1296, .inl (fun _ => 0))), (g, .inr (2, [.null]))] H := hP
  have hD : va_D A [(q, .inr (0, [.ref f, .ref x, .ref v, .null, .null, .null, .int (nI (0)), .int (nI (0)), .int (nI (0)), .int (nI (0)), .int (nI (0))])), (f, .inr (2, [.ref fa])), (fa, .inl (cI, 300, .inl (fun _ => 0))), (x, .inr (2, [.ref xa])), (xa, .inl (cI, 300, .inl (fun _ => 0))), (v, .inr (2, [.ref va])), (va, .inl (cI, 1296, .inl (fun _ => 0))), (g, .inr (2, [.null]))] := hD
  refine lv_dup hx hb dX0_init_50 rfl ?_
  refine lv_sipush (v := nI (1296)) hx hb dX0_init_51 (by decide) ?_
  refine n_nwI (As := [.int (nI (1296))]) (rest := [.ref g, .ref q]) (wr := [(q, .inr (0, [.ref f, .ref x, .ref v, .null, .null, .null, .int (nI (0)), .int (nI (0)), .int (nI (0)), .int (nI (0)), .int (nI (0))])), (f, .inr (2, [.ref fa])), (fa, .inl (cI, 300, .inl (fun _ => 0))), (x, .inr (2, [.ref xa])), (xa, .inl (cI, 300, .inl (fun _ => 0))), (v, .inr (2, [.ref va])), (va, .inl (cI, 1296, .inl (fun _ => 0)))]) ⟨hx, hb, hml, hown, hts⟩ (c_X2_init l d cI g 1296 (by decide) (by decide)) (cwI 1 hts gX0_init_X2_init rfl rfl rfl (hts (.initialized RX2) (by decide +kernel)) (hts (.methodLink RX0 11 yX2_init) (by decide +kernel)) (hts (.instanceMethod yX2_init) (by decide +kernel)) rfl (by decide +kernel) ⟨Nat.le_of_ble_eq_true rfl, Nat.le_of_ble_eq_true rfl⟩) hP hD hS hA hK 7 [0, 1, 2, 3, 4, 5, 6] rfl rfl (by decide) (by decide) rfl hl.1 rfl (Nat.le_of_ble_eq_true rfl) dX0_init_54 ⟨Nat.le_of_ble_eq_true rfl, Nat.le_of_ble_eq_true rfl⟩ (fun ga H locs hP hD hS => ?_)
  have hP : va_P d vwCl [(q, .inr (0, [.ref f, .ref x, .ref v, .null, .null, .null, .int (nI (0)), .int (nI (0)), .int (nI (0)), .int (nI (0)), .int (nI (0))])), (f, .inr (2, [.ref fa])), (fa, .inl (cI, 300, .inl (fun _ => 0))), (x, .inr (2, [.ref xa])), (xa, .inl (cI, 300, .inl (fun _ => 0))), (v, .inr (2, [.ref va])), (va, .inl (cI, 1296, .inl (fun _ => 0))), (g, .inr (2, [.ref ga])), (ga, .inl (cI, 1296, .inl (fun _ => 0)))] H := hP
  have hD : va_D A [(q, .inr (0, [.ref f, .ref x, .ref v, .null, .null, .null, .int (nI (0)), .int (nI (0)), .int (nI (0)), .int (nI (0)), .int (nI (0))])), (f, .inr (2, [.ref fa])), (fa, .inl (cI, 300, .inl (fun _ => 0))), (x, .inr (2, [.ref xa])), (xa, .inl (cI, 300, .inl (fun _ => 0))), (v, .inr (2, [.ref va])), (va, .inl (cI, 1296, .inl (fun _ => 0))), (g, .inr (2, [.ref ga])), (ga, .inl (cI, 1296, .inl (fun _ => 0)))] := hD
  refine va_putF (D := d) (ci := 0) (v := .ref g) (ty := .object "Nudgelane$Row") (C := RX0) (T := TX0) (N := 11) hx hb hts hin0 tyX0 tyX0_ok nmX0 hown hK hP hD hS 0 rfl rfl 3 (by decide) hfl26 (fun _ h9 => h9) rfl hin rfl (by decide +kernel) rfl rfl (Nat.le_of_ble_eq_true rfl) dX0_init_57 (fun H locs hP hD hS => ?_)
  have hP : va_P d vwCl [(q, .inr (0, [.ref f, .ref x, .ref v, .ref g, .null, .null, .int (nI (0)), .int (nI (0)), .int (nI (0)), .int (nI (0)), .int (nI (0))])), (f, .inr (2, [.ref fa])), (fa, .inl (cI, 300, .inl (fun _ => 0))), (x, .inr (2, [.ref xa])), (xa, .inl (cI, 300, .inl (fun _ => 0))), (v, .inr (2, [.ref va])), (va, .inl (cI, 1296, .inl (fun _ => 0))), (g, .inr (2, [.ref ga])), (ga, .inl (cI, 1296, .inl (fun _ => 0)))] H := hP
  have hD : va_D A [(q, .inr (0, [.ref f, .ref x, .ref v, .ref g, .null, .null, .int (nI (0)), .int (nI (0)), .int (nI (0)), .int (nI (0)), .int (nI (0))])), (f, .inr (2, [.ref fa])), (fa, .inl (cI, 300, .inl (fun _ => 0))), (x, .inr (2, [.ref xa])), (xa, .inl (cI, 300, .inl (fun _ => 0))), (v, .inr (2, [.ref va])), (va, .inl (cI, 1296, .inl (fun _ => 0))), (g, .inr (2, [.ref ga])), (ga, .inl (cI, 1296, .inl (fun _ => 0)))] := hD
  refine lv_aload_n hx hb dX0_init_60 rfl (lv_at hl 0 rfl) ?_
  refine va_new (ci := 2) (fs := [.null]) (C := RX2) (T := TX2) (N := 1) hx hb hts hin2 tyX2 tyX2_ok hown (hts (.classLink RX0 9 RX2) (by decide +kernel)) (hts (.instantiable RX2 1) (by decide +kernel)) (hts (.initialized RX2) (by decide +kernel)) hK hP hD hS hA rfl (fun j hj => by match j, hj with | 0, _ => rfl | n + 1, h => exact absurd h (by omega)) (Nat.le_of_ble_eq_true rfl) (Nat.le_of_ble_eq_true rfl) dX0_init_61 (fun k H hP hD hS => ?_)
  have hP : va_P d vwCl [(q, .inr (0, [.ref f, .ref x, .ref v, .ref g, .null, .null, .int (nI (0)), .int (nI (0)), .int (nI (0)), .int (nI (0)), .int (nI (0))])), (f, .inr (2, [.ref fa])), (fa, .inl (cI, 300, .inl (fun _ => 0))), (x, .inr (2, [.ref xa])), (xa, .inl (cI, 300, .inl (fun _ => 0))), (v, .inr (2, [.ref va])), (va, .inl (cI, 1296, .inl (fun _ => 0))), (g, .inr (2, [.ref ga])), (ga, .inl (cI, 1296, .inl (fun _ => 0))), (k, .inr (2, [.null]))] H := hP
  have hD : va_D A [(q, .inr (0, [.ref f, .ref x, .ref v, .ref g, .null, .null, .int (nI (0)), .int (nI (0)), .int (nI (0)), .int (nI (0)), .int (nI (0))])), (f, .inr (2, [.ref fa])), (fa, .inl (cI, 300, .inl (fun _ => 0))), (x, .inr (2, [.ref xa])), (xa, .inl (cI, 300, .inl (fun _ => 0))), (v, .inr (2, [.ref va])), (va, .inl (cI, 1296, .inl (fun _ => 0))), (g, .inr (2, [.ref ga])), (ga, .inl (cI, 1296, .inl (fun _ => 0))), (k, .inr (2, [.null]))] := hD
  refine lv_dup hx hb dX0_init_64 rfl ?_
  refine lv_sipush (v := nI (1296)) hx hb dX0_init_65 (by decide) ?_
  refine n_nwI (As := [.int (nI (1296))]) (rest := [.ref k, .ref q]) (wr := [(q, .inr (0, [.ref f, .ref x, .ref v, .ref g, .null, .null, .int (nI (0)), .int (nI (0)), .int (nI (0)), .int (nI (0)), .int (nI (0))])), (f, .inr (2, [.ref fa])), (fa, .inl (cI, 300, .inl (fun _ => 0))), (x, .inr (2, [.ref xa])), (xa, .inl (cI, 300, .inl (fun _ => 0))), (v, .inr (2, [.ref va])), (va, .inl (cI, 1296, .inl (fun _ => 0))), (g, .inr (2, [.ref ga])), (ga, .inl (cI, 1296, .inl (fun _ => 0)))]) ⟨hx, hb, hml, hown, hts⟩ (c_X2_init l d cI k 1296 (by decide) (by decide)) (cwI 1 hts gX0_init_X2_init rfl rfl rfl (hts (.initialized RX2) (by decide +kernel)) (hts (.methodLink RX0 11 yX2_init) (by decide +kernel)) (hts (.instanceMethod yX2_init) (by decide +kernel)) rfl (by decide +kernel) ⟨Nat.le_of_ble_eq_true rfl, Nat.le_of_ble_eq_true rfl⟩) hP hD hS hA hK 9 [0, 1, 2, 3, 4, 5, 6, 7, 8] rfl rfl (by decide) (by decide) rfl hl.1 rfl (Nat.le_of_ble_eq_true rfl) dX0_init_68 ⟨Nat.le_of_ble_eq_true rfl, Nat.le_of_ble_eq_true rfl⟩ (fun ka H locs hP hD hS => ?_)
  have hP : va_P d vwCl [(q, .inr (0, [.ref f, .ref x, .ref v, .ref g, .null, .null, .int (nI (0)), .int (nI (0)), .int (nI (0)), .int (nI (0)), .int (nI (0))])), (f, .inr (2, [.ref fa])), (fa, .inl (cI, 300, .inl (fun _ => 0))), (x, .inr (2, [.ref xa])), (xa, .inl (cI, 300, .inl (fun _ => 0))), (v, .inr (2, [.ref va])), (va, .inl (cI, 1296, .inl (fun _ => 0))), (g, .inr (2, [.ref ga])), (ga, .inl (cI, 1296, .inl (fun _ => 0))), (k, .inr (2, [.ref ka])), (ka, .inl (cI, 1296, .inl (fun _ => 0)))] H := hP
  have hD : va_D A [(q, .inr (0, [.ref f, .ref x, .ref v, .ref g, .null, .null, .int (nI (0)), .int (nI (0)), .int (nI (0)), .int (nI (0)), .int (nI (0))])), (f, .inr (2, [.ref fa])), (fa, .inl (cI, 300, .inl (fun _ => 0))), (x, .inr (2, [.ref xa])), (xa, .inl (cI, 300, .inl (fun _ => 0))), (v, .inr (2, [.ref va])), (va, .inl (cI, 1296, .inl (fun _ => 0))), (g, .inr (2, [.ref ga])), (ga, .inl (cI, 1296, .inl (fun _ => 0))), (k, .inr (2, [.ref ka])), (ka, .inl (cI, 1296, .inl (fun _ => 0)))] := hD
  refine va_putF (D := d) (ci := 0) (v := .ref k) (ty := .object "Nudgelane$Row") (C := RX0) (T := TX0) (N := 11) hx hb hts hin0 tyX0 tyX0_ok nmX0 hown hK hP hD hS 0 rfl rfl 4 (by decide) hfl29 (fun _ h9 => h9) rfl hin rfl (by decide +kernel) rfl rfl (Nat.le_of_ble_eq_true rfl) dX0_init_71 (fun H locs hP hD hS => ?_)
  have hP : va_P d vwCl [(q, .inr (0, [.ref f, .ref x, .ref v, .ref g, .ref k, .null, .int (nI (0)), .int (nI (0)), .int (nI (0)), .int (nI (0)), .int (nI (0))])), (f, .inr (2, [.ref fa])), (fa, .inl (cI, 300, .inl (fun _ => 0))), (x, .inr (2, [.ref xa])), (xa, .inl (cI, 300, .inl (fun _ => 0))), (v, .inr (2, [.ref va])), (va, .inl (cI, 1296, .inl (fun _ => 0))), (g, .inr (2, [.ref ga])), (ga, .inl (cI, 1296, .inl (fun _ => 0))), (k, .inr (2, [.ref ka])), (ka, .inl (cI, 1296, .inl (fun _ => 0)))] H := hP
  have hD : va_D A [(q, .inr (0, [.ref f, .ref x, .ref v, .ref g, .ref k, .null, .int (nI (0)), .int (nI (0)), .int (nI (0)), .int (nI (0)), .int (nI (0))])), (f, .inr (2, [.ref fa])), (fa, .inl (cI, 300, .inl (fun _ => 0))), (x, .inr (2, [.ref xa])), (xa, .inl (cI, 300, .inl (fun _ => 0))), (v, .inr (2, [.ref va])), (va, .inl (cI, 1296, .inl (fun _ => 0))), (g, .inr (2, [.ref ga])), (ga, .inl (cI, 1296, .inl (fun _ => 0))), (k, .inr (2, [.ref ka])), (ka, .inl (cI, 1296, .inl (fun _ => 0)))] := hD
  refine lv_aload_n hx hb dX0_init_74 rfl (lv_at hl 0 rfl) ?_
  refine va_new (ci := 2) (fs := [.null]) (C := RX2) (T := TX2) (N := 1) hx hb hts hin2 tyX2 tyX2_ok hown (hts (.classLink RX0 9 RX2) (by decide +kernel)) (hts (.instantiable RX2 1) (by decide +kernel)) (hts (.initialized RX2) (by decide +kernel)) hK hP hD hS hA rfl (fun j hj => by match j, hj with | 0, _ => rfl | n + 1, h => exact absurd h (by omega)) (Nat.le_of_ble_eq_true rfl) (Nat.le_of_ble_eq_true rfl) dX0_init_75 (fun z H hP hD hS => ?_)
  have hP : va_P d vwCl [(q, .inr (0, [.ref f, .ref x, .ref v, .ref g, .ref k, .null, .int (nI (0)), .int (nI (0)), .int (nI (0)), .int (nI (0)), .int (nI (0))])), (f, .inr (2, [.ref fa])), (fa, .inl (cI, 300, .inl (fun _ => 0))), (x, .inr (2, [.ref xa])), (xa, .inl (cI, 300, .inl (fun _ => 0))), (v, .inr (2, [.ref va])), (va, .inl (cI, 1296, .inl (fun _ => 0))), (g, .inr (2, [.ref ga])), (ga, .inl (cI, 1296, .inl (fun _ => 0))), (k, .inr (2, [.ref ka])), (ka, .inl (cI, 1296, .inl (fun _ => 0))), (z, .inr (2, [.null]))] H := hP
  have hD : va_D A [(q, .inr (0, [.ref f, .ref x, .ref v, .ref g, .ref k, .null, .int (nI (0)), .int (nI (0)), .int (nI (0)), .int (nI (0)), .int (nI (0))])), (f, .inr (2, [.ref fa])), (fa, .inl (cI, 300, .inl (fun _ => 0))), (x, .inr (2, [.ref xa])), (xa, .inl (cI, 300, .inl (fun _ => 0))), (v, .inr (2, [.ref va])), (va, .inl (cI, 1296, .inl (fun _ => 0))), (g, .inr (2, [.ref ga])), (ga, .inl (cI, 1296, .inl (fun _ => 0))), (k, .inr (2, [.ref ka])), (ka, .inl (cI, 1296, .inl (fun _ => 0))), (z, .inr (2, [.null]))] := hD
  refine lv_dup hx hb dX0_init_78 rfl ?_
  refine lv_sipush (v := nI (360)) hx hb dX0_init_79 (by decide) ?_
  refine n_nwI (As := [.int (nI (360))]) (rest := [.ref z, .ref q]) (wr := [(q, .inr (0, [.ref f, .ref x, .ref v, .ref g, .ref k, .null, .int (nI (0)), .int (nI (0)), .int (nI (0)), .int (nI (0)), .int (nI (0))])), (f, .inr (2, [.ref fa])), (fa, .inl (cI, 300, .inl (fun _ => 0))), (x, .inr (2, [.ref xa])), (xa, .inl (cI, 300, .inl (fun _ => 0))), (v, .inr (2, [.ref va])), (va, .inl (cI, 1296, .inl (fun _ => 0))), (g, .inr (2, [.ref ga])), (ga, .inl (cI, 1296, .inl (fun _ => 0))), (k, .inr (2, [.ref ka])), (ka, .inl (cI, 1296, .inl (fun _ => 0)))]) ⟨hx, hb, hml, hown, hts⟩ (c_X2_init l d cI z 360 (by decide) (by decide)) (cwI 1 hts gX0_init_X2_init rfl rfl rfl (hts (.initialized RX2) (by decide +kernel)) (hts (.methodLink RX0 11 yX2_init) (by decide +kernel)) (hts (.instanceMethod yX2_init) (by decide +kernel)) rfl (by decide +kernel) ⟨Nat.le_of_ble_eq_true rfl, Nat.le_of_ble_eq_true rfl⟩) hP hD hS hA hK 11 [0, 1, 2, 3, 4, 5, 6, 7, 8, 9, 10] rfl rfl (by decide) (by decide) rfl hl.1 rfl (Nat.le_of_ble_eq_true rfl) dX0_init_82 ⟨Nat.le_of_ble_eq_true rfl, Nat.le_of_ble_eq_true rfl⟩ (fun za H locs hP hD hS => ?_)
  have hP : va_P d vwCl [(q, .inr (0, [.ref f, .ref x, .ref v, .ref g, .ref k, .null, .int (nI (0)), .int (nI (0)), .int (nI (0)), .int (nI (0)), .int (nI (0))])), (f, .inr (2, [.ref fa])), (fa, .inl (cI, 300, .inl (fun _ => 0))), (x, .inr (2, [.ref xa])), (xa, .inl (cI, 300, .inl (fun _ => 0))), (v, .inr (2, [.ref va])), (va, .inl (cI, 1296, .inl (fun _ => 0))), (g, .inr (2, [.ref ga])), (ga, .inl (cI, 1296, .inl (fun _ => 0))), (k, .inr (2, [.ref ka])), (ka, .inl (cI, 1296, .inl (fun _ => 0))), (z, .inr (2, [.ref za])), (za, .inl (cI, 360, .inl (fun _ => 0)))] H := hP
  have hD : va_D A [(q, .inr (0, [.ref f, .ref x, .ref v, .ref g, .ref k, .null, .int (nI (0)), .int (nI (0)), .int (nI (0)), .int (nI (0)), .int (nI (0))])), (f, .inr (2, [.ref fa])), (fa, .inl (cI, 300, .inl (fun _ => 0))), (x, .inr (2, [.ref xa])), (xa, .inl (cI, 300, .inl (fun _ => 0))), (v, .inr (2, [.ref va])), (va, .inl (cI, 1296, .inl (fun _ => 0))), (g, .inr (2, [.ref ga])), (ga, .inl (cI, 1296, .inl (fun _ => 0))), (k, .inr (2, [.ref ka])), (ka, .inl (cI, 1296, .inl (fun _ => 0))), (z, .inr (2, [.ref za])), (za, .inl (cI, 360, .inl (fun _ => 0)))] := hD
  refine va_putF (D := d) (ci := 0) (v := .ref z) (ty := .object "Nudgelane$Row") (C := RX0) (T := TX0) (N := 11) hx hb hts hin0 tyX0 tyX0_ok nmX0 hown hK hP hD hS 0 rfl rfl 5 (by decide) hfl32 (fun _ h9 => h9) rfl hin rfl (by decide +kernel) rfl rfl (Nat.le_of_ble_eq_true rfl) dX0_init_85 (fun H locs hP hD hS => ?_)
  have hP : va_P d vwCl [(q, .inr (0, [.ref f, .ref x, .ref v, .ref g, .ref k, .ref z, .int (nI (0)), .int (nI (0)), .int (nI (0)), .int (nI (0)), .int (nI (0))])), (f, .inr (2, [.ref fa])), (fa, .inl (cI, 300, .inl (fun _ => 0))), (x, .inr (2, [.ref xa])), (xa, .inl (cI, 300, .inl (fun _ => 0))), (v, .inr (2, [.ref va])), (va, .inl (cI, 1296, .inl (fun _ => 0))), (g, .inr (2, [.ref ga])), (ga, .inl (cI, 1296, .inl (fun _ => 0))), (k, .inr (2, [.ref ka])), (ka, .inl (cI, 1296, .inl (fun _ => 0))), (z, .inr (2, [.ref za])), (za, .inl (cI, 360, .inl (fun _ => 0)))] H := hP
  have hD : va_D A [(q, .inr (0, [.ref f, .ref x, .ref v, .ref g, .ref k, .ref z, .int (nI (0)), .int (nI (0)), .int (nI (0)), .int (nI (0)), .int (nI (0))])), (f, .inr (2, [.ref fa])), (fa, .inl (cI, 300, .inl (fun _ => 0))), (x, .inr (2, [.ref xa])), (xa, .inl (cI, 300, .inl (fun _ => 0))), (v, .inr (2, [.ref va])), (va, .inl (cI, 1296, .inl (fun _ => 0))), (g, .inr (2, [.ref ga])), (ga, .inl (cI, 1296, .inl (fun _ => 0))), (k, .inr (2, [.ref ka])), (ka, .inl (cI, 1296, .inl (fun _ => 0))), (z, .inr (2, [.ref za])), (za, .inl (cI, 360, .inl (fun _ => 0)))] := hD
  refine lv_aload_n hx hb dX0_init_88 rfl (lv_at hl 0 rfl) ?_
  refine lv_iconst (v := (-1)) hx hb dX0_init_89 (by decide) ?_
  refine va_put (D := d) (ci := 0) (v := .int (-1)) (ty := .int) (C := RX0) (T := TX0) (N := 11) hx hb hts hin0 tyX0 tyX0_ok nmX0 hown hK hP hD hS 0 rfl rfl 9 (by decide) hfl35 (fun _ h9 => h9) rfl (by decide +kernel) rfl rfl (Nat.le_of_ble_eq_true rfl) dX0_init_90 (fun H locs hP hD hS => ?_)
  have hP : va_P d vwCl [(q, .inr (0, [.ref f, .ref x, .ref v, .ref g, .ref k, .ref z, .int (nI (0)), .int (nI (0)), .int (nI (0)), .int (-1), .int (nI (0))])), (f, .inr (2, [.ref fa])), (fa, .inl (cI, 300, .inl (fun _ => 0))), (x, .inr (2, [.ref xa])), (xa, .inl (cI, 300, .inl (fun _ => 0))), (v, .inr (2, [.ref va])), (va, .inl (cI, 1296, .inl (fun _ => 0))), (g, .inr (2, [.ref ga])), (ga, .inl (cI, 1296, .inl (fun _ => 0))), (k, .inr (2, [.ref ka])), (ka, .inl (cI, 1296, .inl (fun _ => 0))), (z, .inr (2, [.ref za])), (za, .inl (cI, 360, .inl (fun _ => 0)))] H := hP
  have hD : va_D A [(q, .inr (0, [.ref f, .ref x, .ref v, .ref g, .ref k, .ref z, .int (nI (0)), .int (nI (0)), .int (nI (0)), .int (-1), .int (nI (0))])), (f, .inr (2, [.ref fa])), (fa, .inl (cI, 300, .inl (fun _ => 0))), (x, .inr (2, [.ref xa])), (xa, .inl (cI, 300, .inl (fun _ => 0))), (v, .inr (2, [.ref va])), (va, .inl (cI, 1296, .inl (fun _ => 0))), (g, .inr (2, [.ref ga])), (ga, .inl (cI, 1296, .inl (fun _ => 0))), (k, .inr (2, [.ref ka])), (ka, .inl (cI, 1296, .inl (fun _ => 0))), (z, .inr (2, [.ref za])), (za, .inl (cI, 360, .inl (fun _ => 0)))] := hD
  refine W.widen (k := 12) (n := 4854) (Nat.le_of_ble_eq_true rfl) (Nat.le_of_ble_eq_true rfl) ?_
  exact W.vret hx hb hr (fun t ht hW => ⟨⟨(f, fa, x, xa, v, va, g, ga, k, ka, z, za), rfl, by rw [ht]; exact hP.sub [0, 1, 2, 3, 4, 5, 6, 7, 8, 9, 10, 11, 12] rfl, hD.sub [0, 1, 2, 3, 4, 5, 6, 7, 8, 9, 10, 11, 12] (by decide) rfl⟩, hS.F ht⟩) hS.2.2 dX0_init_93

set_option maxHeartbeats 4000000 in
set_option maxRecDepth 100000 in
/-- the form of every code -/
theorem c_X1_init (l : Launch) (d : va_G) (cI : ClassId) (q : Nat)  : nNw (S := Nat × Nat) l yX1_init wsX1_init ({ frames := 5, cells := 4, slots := 1302, locals := 112 } : Room) d [(cI, .int)] q 1 [.null] [] 4 1302 (fun u => match u with | (f, fa) => [(q, .inr (1, [.ref f])), (f, .inr (2, [.ref fa])), (fa, .inl (cI, 1296, .inl (fun j => nI (form j))))]) := by
  intro sz
  refine Met.ofW (cc := cX1_init) (maxL := 3) (ret := none) (by decide) rfl ?_
  intro p e s m args below meth c s₁ B hml hv
  obtain ⟨rfl, hsz, hP, hK, hD0⟩ := hv
  have hx := B.exec
  have hb := B.bytes
  have hr := B.returns
  have hts := atoms_spec (ws := wsX1_init) B.pre
  have hown : s.vm.findClass RX1 = some m.cls := findClass_of_methodNamed B.named
  have hlocks := B.notSynchronized
  have hin : meth.name = "<init>" := (name_of_methodNamed B.named B.method).1
  have hfl14 := hts (.fieldLink RX1 14 "Nudgelane$Programs" "forms" "LNudgelane$Row;") (by decide +kernel)
  have hin1 : ∀ w ∈ u_ws RX1 TX1 1, w ∈ wsX1_init := by decide +kernel
  have hin2 : ∀ w ∈ u_ws RX2 TX2 1, w ∈ wsX1_init := by decide +kernel
  subst hsz
  have hD := hD0.self (sz := s.heap.size)
  generalize hAe : va_A [(q, .inr (1, [.null]))] s.heap.size = A at hD ⊢
  have hA : ∀ q : Nat, s.heap.size ≤ q → A q := fun q h => by rw [← hAe]; exact Or.inr h
  have hS : va_S A s.heap s.heap [] := va_S.rf
  have hP : va_P d vwCl [(q, .inr (1, [.null]))] s.heap := hP
  have hl := lv_entry ([.ref q]) (n := 3) (Nat.le_of_ble_eq_true rfl)
  rw [lg_entry_eq]
  generalize (lg_sl ([.ref q]) ++ List.replicate (3 - (lg_sl ([.ref q])).length) Slot.unset).toArray = ls at hl ⊢
  have hl : lv_has ls 3 [(0, .ref q)] := hl
  refine n_nameQ (fun Q hQ => ?_)
  refine lv_aload_n hx hb dX1_init_0 rfl (lv_at hl 0 rfl) ?_
  refine W.objInit hx hb hown (hts (.methodLink RX1 3 objectInit) (by decide +kernel)) (hts (.instanceMethod objectInit) (by decide +kernel)) (hts (.code objectInit ⟨#[0xb1]⟩ 1 none) (List.mem_of_getElem? (i := 3) rfl)) rfl (by rw [hml]; exact hl.1) rfl dX1_init_1 (Nat.le_of_ble_eq_true rfl) (Nat.le_of_ble_eq_true rfl) ?_
  refine W.eq (g2 := F0 m 4 ls []) rfl ?_
  refine lv_aload_n hx hb dX1_init_4 rfl (lv_at hl 0 rfl) ?_
  refine va_new (ci := 2) (fs := [.null]) (C := RX2) (T := TX2) (N := 1) hx hb hts hin2 tyX2 tyX2_ok hown (hts (.classLink RX1 9 RX2) (by decide +kernel)) (hts (.instantiable RX2 1) (by decide +kernel)) (hts (.initialized RX2) (by decide +kernel)) hK hP hD hS hA rfl (fun j hj => by match j, hj with | 0, _ => rfl | n + 1, h => exact absurd h (by omega)) (Nat.le_of_ble_eq_true rfl) (Nat.le_of_ble_eq_true rfl) dX1_init_5 (fun f H hP hD hS => ?_)
  have hP : va_P d vwCl [(q, .inr (1, [.null])), (f, .inr (2, [.null]))] H := hP
  have hD : va_D A [(q, .inr (1, [.null])), (f, .inr (2, [.null]))] := hD
  refine lv_dup hx hb dX1_init_8 rfl ?_
  refine lv_sipush (v := nI (1296)) hx hb dX1_init_9 (by decide) ?_
  refine n_nwI (As := [.int (nI (1296))]) (rest := [.ref f, .ref q]) (wr := [(q, .inr (1, [.null]))]) ⟨hx, hb, hml, hown, hts⟩ (c_X2_init l d cI f 1296 (by decide) (by decide)) (cwI 1 hts gX1_init_X2_init rfl rfl rfl (hts (.initialized RX2) (by decide +kernel)) (hts (.methodLink RX1 11 yX2_init) (by decide +kernel)) (hts (.instanceMethod yX2_init) (by decide +kernel)) rfl (by decide +kernel) ⟨Nat.le_of_ble_eq_true rfl, Nat.le_of_ble_eq_true rfl⟩) hP hD hS hA hK 1 [0] rfl rfl (by decide) (by decide) rfl hl.1 rfl (Nat.le_of_ble_eq_true rfl) dX1_init_12 ⟨Nat.le_of_ble_eq_true rfl, Nat.le_of_ble_eq_true rfl⟩ (fun fa H locs hP hD hS => ?_)
  have hP : va_P d vwCl [(q, .inr (1, [.null])), (f, .inr (2, [.ref fa])), (fa, .inl (cI, 1296, .inl (fun _ => 0)))] H := hP
  have hD : va_D A [(q, .inr (1, [.null])), (f, .inr (2, [.ref fa])), (fa, .inl (cI, 1296, .inl (fun _ => 0)))] := hD
  refine va_putF (D := d) (ci := 1) (v := .ref f) (ty := .object "Nudgelane$Row") (C := RX1) (T := TX1) (N := 1) hx hb hts hin1 tyX1 tyX1_ok nmX1 hown hK hP hD hS 0 rfl rfl 0 (by decide) hfl14 (fun _ h9 => h9) rfl hin rfl (by decide +kernel) rfl rfl (Nat.le_of_ble_eq_true rfl) dX1_init_15 (fun H locs hP hD hS => ?_)
  have hP : va_P d vwCl [(q, .inr (1, [.ref f])), (f, .inr (2, [.ref fa])), (fa, .inl (cI, 1296, .inl (fun _ => 0)))] H := hP
  have hD : va_D A [(q, .inr (1, [.ref f])), (f, .inr (2, [.ref fa])), (fa, .inl (cI, 1296, .inl (fun _ => 0)))] := hD
  refine va_new (ci := 2) (fs := [.null]) (C := RX2) (T := TX2) (N := 1) hx hb hts hin2 tyX2 tyX2_ok hown (hts (.classLink RX1 9 RX2) (by decide +kernel)) (hts (.instantiable RX2 1) (by decide +kernel)) (hts (.initialized RX2) (by decide +kernel)) hK hP hD hS hA rfl (fun j hj => by match j, hj with | 0, _ => rfl | n + 1, h => exact absurd h (by omega)) (Nat.le_of_ble_eq_true rfl) (Nat.le_of_ble_eq_true rfl) dX1_init_18 (fun g H hP hD hS => ?_)
  have hP : va_P d vwCl [(q, .inr (1, [.ref f])), (f, .inr (2, [.ref fa])), (fa, .inl (cI, 1296, .inl (fun _ => 0))), (g, .inr (2, [.null]))] H := hP
  have hD : va_D A [(q, .inr (1, [.ref f])), (f, .inr (2, [.ref fa])), (fa, .inl (cI, 1296, .inl (fun _ => 0))), (g, .inr (2, [.null]))] := hD
  refine lv_dup hx hb dX1_init_21 rfl ?_
  refine lv_iconst (v := nI (4)) hx hb dX1_init_22 (by decide) ?_
  refine n_nwI (As := [.int (nI (4))]) (rest := [.ref g]) (wr := [(q, .inr (1, [.ref f])), (f, .inr (2, [.ref fa])), (fa, .inl (cI, 1296, .inl (fun _ => 0)))]) ⟨hx, hb, hml, hown, hts⟩ (c_X2_init l d cI g 4 (by decide) (by decide)) (cwI 1 hts gX1_init_X2_init rfl rfl rfl (hts (.initialized RX2) (by decide +kernel)) (hts (.methodLink RX1 11 yX2_init) (by decide +kernel)) (hts (.instanceMethod yX2_init) (by decide +kernel)) rfl (by decide +kernel) ⟨Nat.le_of_ble_eq_true rfl, Nat.le_of_ble_eq_true rfl⟩) hP hD hS hA hK 3 [0, 1, 2] rfl rfl (by decide) (by decide) rfl hl.1 rfl (Nat.le_of_ble_eq_true rfl) dX1_init_23 ⟨Nat.le_of_ble_eq_true rfl, Nat.le_of_ble_eq_true rfl⟩ (fun ga H locs hP hD hS => ?_)
  have hP : va_P d vwCl [(q, .inr (1, [.ref f])), (f, .inr (2, [.ref fa])), (fa, .inl (cI, 1296, .inl (fun _ => 0))), (g, .inr (2, [.ref ga])), (ga, .inl (cI, 4, .inl (fun _ => 0)))] H := hP
  have hD : va_D A [(q, .inr (1, [.ref f])), (f, .inr (2, [.ref fa])), (fa, .inl (cI, 1296, .inl (fun _ => 0))), (g, .inr (2, [.ref ga])), (ga, .inl (cI, 4, .inl (fun _ => 0)))] := hD
  refine lv_astore_n (lv' := [(1, .ref g), (0, .ref q)]) hx hb dX1_init_26 rfl hl (by decide) rfl (fun ls hl => ?_)
  refine lv_iconst (v := nI (0)) hx hb dX1_init_27 (by decide) ?_
  refine lv_istore_n (lv' := [(2, .int (nI (0))), (1, .ref g), (0, .ref q)]) hx hb dX1_init_28 rfl hl (by decide) rfl (fun ls hl => ?_)
  refine W.widen (k := 4) (n := 1302) (Nat.le_of_ble_eq_true rfl) (Nat.le_of_ble_eq_true rfl) ?_
  have loop : ∀ (n k : Nat) (g1 h1 : Nat → Int32), k + n = 1296 → (∀ j, j < k → g1 j = nI (form j)) → ∀ (H : Heap) (locs : List Loc), va_P d vwCl [(q, .inr (1, [.ref f])), (f, .inr (2, [.ref fa])), (fa, .inl (cI, 1296, .inl (g1))), (g, .inr (2, [.ref ga])), (ga, .inl (cI, 4, .inl (h1)))] H → va_D A [(q, .inr (1, [.ref f])), (f, .inr (2, [.ref fa])), (fa, .inl (cI, 1296, .inl (g1))), (g, .inr (2, [.ref ga])), (ga, .inl (cI, 4, .inl (h1)))] → va_S A s.heap H locs → ∀ (ls : Array Slot), lv_has ls 3 [(2, .int (nI (k))), (1, .ref g), (0, .ref q)] → W p l e ({ frames := 5, cells := 4, slots := 1302, locals := 112 } : Room) s m ([.ref q] : List Value).toArray below meth c H locs 4 1302 Q (F0 m 29 ls []) := by
    intro n
    induction n with
    | zero =>
      intro k g1 h1 hk hg H locs hP hD hS ls hl
      refine lv_iload_n hx hb dX1_init_29 rfl (lv_at hl 0 rfl) ?_
      refine lv_sipush (v := nI (1296)) hx hb dX1_init_30 (by decide) ?_
      refine n_icmp_ge (tgt := 55) hx hb dX1_init_33 (by decide) (by omega) (by omega) (fun c_1 => ?_) (fun c_1 => ?_)
      ·
        obtain ⟨hP, hD⟩ := n_cg (ws' := [(q, .inr (1, [.ref f])), (f, .inr (2, [.ref fa])), (fa, .inl (cI, 1296, .inl (fun j => nI (form j)))), (g, .inr (2, [.ref ga])), (ga, .inl (cI, 4, .inl (h1)))]) hP hD 2 rfl (by intro j hj; exact hg j (by omega)) rfl
        subst hQ
        refine W.widen (k := 4) (n := 1302) (Nat.le_refl _) (Nat.le_refl _) ?_
        exact W.vret hx hb hr (fun t ht hW => ⟨⟨(f, fa), rfl, by rw [ht]; exact hP.sub [0, 1, 2] rfl, hD.sub [0, 1, 2] (by decide) rfl⟩, hS.F ht⟩) hS.2.2 dX1_init_55
      · exact False.elim (by omega)
    | succ n ih =>
      intro k g1 h1 hk hg H locs hP hD hS ls hl
      refine lv_iload_n hx hb dX1_init_29 rfl (lv_at hl 0 rfl) ?_
      refine lv_sipush (v := nI (1296)) hx hb dX1_init_30 (by decide) ?_
      refine n_icmp_ge (tgt := 55) hx hb dX1_init_33 (by decide) (by omega) (by omega) (fun c_2 => ?_) (fun c_2 => ?_)
      · exact False.elim (by omega)
      ·
        refine lv_aload_n hx hb dX1_init_36 rfl (lv_at hl 2 rfl) ?_
        refine va_get (D := d) (ci := 1) (v := .ref f) (C := RX1) (T := TX1) (N := 1) hx hb hts hin1 hown hK hP 0 rfl rfl 0 (by decide) hfl14 (fun _ h9 => h9) rfl dX1_init_37 ?_
        refine lv_iload_n hx hb dX1_init_40 rfl (lv_at hl 0 rfl) ?_
        refine lv_iload_n hx hb dX1_init_41 rfl (lv_at hl 0 rfl) ?_
        refine lv_aload_n hx hb dX1_init_42 rfl (lv_at hl 1 rfl) ?_
        refine n_upS (As := [.int (nI (k)), .ref g]) (rest := [.int (nI (k)), .ref f]) (WC := [(g, .inr (2, [.ref ga])), (ga, .inl (cI, 4, .inl (h1)))]) (WC' := [(g, .inr (2, [.ref ga])), (ga, .inl (cI, 4, .inl (fun j => nI (dig (form k) j))))]) (wr := [(q, .inr (1, [.ref f])), (f, .inr (2, [.ref fa])), (fa, .inl (cI, 1296, .inl (g1)))]) (WS' := [(q, .inr (1, [.ref f])), (f, .inr (2, [.ref fa])), (fa, .inl (cI, 1296, .inl (g1))), (g, .inr (2, [.ref ga])), (ga, .inl (cI, 4, .inl (fun j => nI (dig (form k) j))))]) ⟨hx, hb, hml, hown, hts⟩ (c_X1_reduce l d cI g ga k h1 (by omega)) (cwS 2 hts gX1_init_X1_reduce rfl rfl rfl (by decide +kernel) ⟨Nat.le_of_ble_eq_true rfl, Nat.le_of_ble_eq_true rfl⟩) hP hD hS hA hK [3, 4] [0, 1, 2] [0, 1, 2, 3, 4] rfl rfl (by decide) ⟨by decide, by decide⟩ (by decide) rfl rfl hl.1 rfl (Nat.le_of_ble_eq_true rfl) dX1_init_43 ⟨Nat.le_of_ble_eq_true rfl, Nat.le_of_ble_eq_true rfl⟩ (fun H locs hP hD hS => ?_)
        show W _ _ _ _ _ _ _ _ _ _ _ _ _ _ _ (F0 m _ ls (.int (nI (form k)) :: [.int (nI (k)), .ref f]))
        refine n_upV (As := [.int (nI (k)), .int (nI (form k))]) (rest := []) (WC := [(f, .inr (2, [.ref fa])), (fa, .inl (cI, 1296, .inl (g1)))]) (WC' := [(f, .inr (2, [.ref fa])), (fa, .inl (cI, 1296, .inl (upd g1 k (nI (form k)))))]) (wr := [(q, .inr (1, [.ref f])), (g, .inr (2, [.ref ga])), (ga, .inl (cI, 4, .inl (fun j => nI (dig (form k) j))))]) (WS' := [(q, .inr (1, [.ref f])), (f, .inr (2, [.ref fa])), (fa, .inl (cI, 1296, .inl (upd g1 k (nI (form k))))), (g, .inr (2, [.ref ga])), (ga, .inl (cI, 4, .inl (fun j => nI (dig (form k) j))))]) ⟨hx, hb, hml, hown, hts⟩ (c_X2_set l d cI f fa 1296 g1 k (nI (form k)) (by omega) (by decide)) (cwV 2 hts gX1_init_X2_set rfl rfl rfl (by decide +kernel) ⟨Nat.le_of_ble_eq_true rfl, Nat.le_of_ble_eq_true rfl⟩) (va_recv hK hP (ci := 2) (q0 := 1) rfl rfl) hP hD hS hA hK [1, 2] [0, 3, 4] [0, 3, 4, 1, 2] rfl rfl (by decide) ⟨by decide, by decide⟩ (by decide) rfl rfl hl.1 rfl (Nat.le_of_ble_eq_true rfl) dX1_init_46 ⟨Nat.le_of_ble_eq_true rfl, Nat.le_of_ble_eq_true rfl⟩ (fun H locs hP hD hS => ?_)
        show W _ _ _ _ _ _ _ _ _ _ _ _ _ _ _ (F0 m _ ls [])
        refine lv_iinc (v := nI (k + 1)) (lv' := [(2, .int (nI (k + 1))), (1, .ref g), (0, .ref q)]) hx hb dX1_init_49 hl (k := 0) rfl (n_inc1 _) (by decide) rfl (fun ls hl => ?_)
        refine lv_goto (tgt := 29) hx hb dX1_init_52 (by decide) ?_
        exact ih (k + 1) _ _ (by omega) (fun j hj => by unfold upd; by_cases h : j = k <;> simp [h]; exact hg j (by omega)) H locs hP hD hS ls (lv_sub hl [0, 1, 2] rfl)
  exact loop 1296 0 _ _ rfl (fun j hj => absurd hj (Nat.not_lt_zero j)) H locs (hP.sub [0, 1, 2, 3, 4] rfl) (hD.sub [0, 1, 2, 3, 4] (by decide) rfl) hS ls (lv_sub hl [0, 1, 2] rfl)

set_option maxHeartbeats 4000000 in
set_option maxRecDepth 100000 in
/-- a new object -/
theorem c_X5_init (l : Launch) (d : va_G) (cI : ClassId) (q : Nat)  : nNw (S := Nat × Nat × Nat × Nat × (Nat × Nat) × (Nat × Nat × Nat × Nat) × (Nat × Nat × Nat × Nat × Nat × Nat × Nat × Nat × Nat × Nat × Nat × Nat) × (Nat × Nat × Nat × Nat)) l yX5_init wsX5_init ({ frames := 6, cells := 28, slots := 11360, locals := 134 } : Room) d [(cI, .int)] q 5 [.null, .null, .null, .null] [] 28 11360 (fun u => match u with | (p1, w1, a1, z1, (p1f, p1fa), (w1k, w1ka, w1g, w1ga), (a1f, a1fa, a1x, a1xa, a1v, a1va, a1g, a1ga, a1k, a1ka, a1z, a1za), (z1k, z1ka, z1g, z1ga)) => [(q, .inr (5, [.ref p1, .ref w1, .ref a1, .ref z1])), (p1, .inr (1, [.ref p1f])), (p1f, .inr (2, [.ref p1fa])), (p1fa, .inl (cI, 1296, .inl (fun j => nI (form j)))), (w1, .inr (3, [.ref w1k, .ref w1g])), (w1k, .inr (2, [.ref w1ka])), (w1ka, .inl (cI, 1296, .inl (fun _ => 0))), (w1g, .inr (2, [.ref w1ga])), (w1ga, .inl (cI, 1296, .inl (fun _ => 0))), (a1, .inr (0, [.ref a1f, .ref a1x, .ref a1v, .ref a1g, .ref a1k, .ref a1z, .int (nI (0)), .int (nI (0)), .int (nI (0)), .int (-1), .int (nI (0))])), (a1f, .inr (2, [.ref a1fa])), (a1fa, .inl (cI, 300, .inl (fun _ => 0))), (a1x, .inr (2, [.ref a1xa])), (a1xa, .inl (cI, 300, .inl (fun _ => 0))), (a1v, .inr (2, [.ref a1va])), (a1va, .inl (cI, 1296, .inl (fun _ => 0))), (a1g, .inr (2, [.ref a1ga])), (a1ga, .inl (cI, 1296, .inl (fun _ => 0))), (a1k, .inr (2, [.ref a1ka])), (a1ka, .inl (cI, 1296, .inl (fun _ => 0))), (a1z, .inr (2, [.ref a1za])), (a1za, .inl (cI, 360, .inl (fun _ => 0))), (z1, .inr (4, [.ref z1k, .ref z1g])), (z1k, .inr (2, [.ref z1ka])), (z1ka, .inl (cI, 1296, .inl (fun _ => 0))), (z1g, .inr (2, [.ref z1ga])), (z1ga, .inl (cI, 1296, .inl (fun _ => 0)))]) := by
  intro sz
  refine Met.ofW (cc := cX5_init) (maxL := 1) (ret := none) (by decide) rfl ?_
  intro p e s m args below meth c s₁ B hml hv
  obtain ⟨rfl, hsz, hP, hK, hD0⟩ := hv
  have hx := B.exec
  have hb := B.bytes
  have hr := B.returns
  have hts := atoms_spec (ws := wsX5_init) B.pre
  have hown : s.vm.findClass RX5 = some m.cls := findClass_of_methodNamed B.named
  have hlocks := B.notSynchronized
  have hin : meth.name = "<init>" := (name_of_methodNamed B.named B.method).1
  have hfl10 := hts (.fieldLink RX5 10 "Nudgelane" "programs" "LNudgelane$Programs;") (by decide +kernel)
  have hfl19 := hts (.fieldLink RX5 19 "Nudgelane" "ways" "LNudgelane$Ways;") (by decide +kernel)
  have hfl26 := hts (.fieldLink RX5 26 "Nudgelane" "attempts" "LNudgelane$Attempts;") (by decide +kernel)
  have hfl33 := hts (.fieldLink RX5 33 "Nudgelane" "worths" "LNudgelane$Worths;") (by decide +kernel)
  have hin0 : ∀ w ∈ u_ws RX0 TX0 11, w ∈ wsX5_init := by decide +kernel
  have hin1 : ∀ w ∈ u_ws RX1 TX1 1, w ∈ wsX5_init := by decide +kernel
  have hin3 : ∀ w ∈ u_ws RX3 TX3 2, w ∈ wsX5_init := by decide +kernel
  have hin4 : ∀ w ∈ u_ws RX4 TX4 2, w ∈ wsX5_init := by decide +kernel
  have hin5 : ∀ w ∈ u_ws RX5 TX5 4, w ∈ wsX5_init := by decide +kernel
  subst hsz
  have hD := hD0.self (sz := s.heap.size)
  generalize hAe : va_A [(q, .inr (5, [.null, .null, .null, .null]))] s.heap.size = A at hD ⊢
  have hA : ∀ q : Nat, s.heap.size ≤ q → A q := fun q h => by rw [← hAe]; exact Or.inr h
  have hS : va_S A s.heap s.heap [] := va_S.rf
  have hP : va_P d vwCl [(q, .inr (5, [.null, .null, .null, .null]))] s.heap := hP
  have hl := lv_entry ([.ref q]) (n := 1) (Nat.le_of_ble_eq_true rfl)
  rw [lg_entry_eq]
  generalize (lg_sl ([.ref q]) ++ List.replicate (1 - (lg_sl ([.ref q])).length) Slot.unset).toArray = ls at hl ⊢
  have hl : lv_has ls 1 [(0, .ref q)] := hl
  refine lv_aload_n hx hb dX5_init_0 rfl (lv_at hl 0 rfl) ?_
  refine W.objInit hx hb hown (hts (.methodLink RX5 1 objectInit) (by decide +kernel)) (hts (.instanceMethod objectInit) (by decide +kernel)) (hts (.code objectInit ⟨#[0xb1]⟩ 1 none) (List.mem_of_getElem? (i := 3) rfl)) rfl (by rw [hml]; exact hl.1) rfl dX5_init_1 (Nat.le_of_ble_eq_true rfl) (Nat.le_of_ble_eq_true rfl) ?_
  refine W.eq (g2 := F0 m 4 ls []) rfl ?_
  refine lv_aload_n hx hb dX5_init_4 rfl (lv_at hl 0 rfl) ?_
  refine va_new (ci := 1) (fs := [.null]) (C := RX1) (T := TX1) (N := 1) hx hb hts hin1 tyX1 tyX1_ok hown (hts (.classLink RX5 7 RX1) (by decide +kernel)) (hts (.instantiable RX1 1) (by decide +kernel)) (hts (.initialized RX1) (by decide +kernel)) hK hP hD hS hA rfl (fun j hj => by match j, hj with | 0, _ => rfl | n + 1, h => exact absurd h (by omega)) (Nat.le_of_ble_eq_true rfl) (Nat.le_of_ble_eq_true rfl) dX5_init_5 (fun p1 H hP hD hS => ?_)
  have hP : va_P d vwCl [(q, .inr (5, [.null, .null, .null, .null])), (p1, .inr (1, [.null]))] H := hP
  have hD : va_D A [(q, .inr (5, [.null, .null, .null, .null])), (p1, .inr (1, [.null]))] := hD
  refine lv_dup hx hb dX5_init_8 rfl ?_
  refine n_nwI (As := []) (rest := [.ref p1, .ref q]) (wr := [(q, .inr (5, [.null, .null, .null, .null]))]) ⟨hx, hb, hml, hown, hts⟩ (c_X1_init l d cI p1) (cwI 0 hts gX5_init_X1_init rfl rfl rfl (hts (.initialized RX1) (by decide +kernel)) (hts (.methodLink RX5 9 yX1_init) (by decide +kernel)) (hts (.instanceMethod yX1_init) (by decide +kernel)) rfl (by decide +kernel) ⟨Nat.le_of_ble_eq_true rfl, Nat.le_of_ble_eq_true rfl⟩) hP hD hS hA hK 1 [0] rfl rfl (by decide) (by decide) rfl hl.1 rfl (Nat.le_of_ble_eq_true rfl) dX5_init_9 ⟨Nat.le_of_ble_eq_true rfl, Nat.le_of_ble_eq_true rfl⟩ (fun u H locs hP hD hS => ?_)
  obtain ⟨p1f, p1fa⟩ := u
  have hP : va_P d vwCl [(q, .inr (5, [.null, .null, .null, .null])), (p1, .inr (1, [.ref p1f])), (p1f, .inr (2, [.ref p1fa])), (p1fa, .inl (cI, 1296, .inl (fun j => nI (form j))))] H := hP
  have hD : va_D A [(q, .inr (5, [.null, .null, .null, .null])), (p1, .inr (1, [.ref p1f])), (p1f, .inr (2, [.ref p1fa])), (p1fa, .inl (cI, 1296, .inl (fun j => nI (form j))))] := hD
  refine va_putF (D := d) (ci := 5) (v := .ref p1) (ty := .object "Nudgelane$Programs") (C := RX5) (T := TX5) (N := 4) hx hb hts hin5 tyX5 tyX5_ok nmX5 hown hK hP hD hS 0 rfl rfl 0 (by decide) hfl10 (fun _ h9 => h9) rfl hin rfl (by decide +kernel) rfl rfl (Nat.le_of_ble_eq_true rfl) dX5_init_12 (fun H locs hP hD hS => ?_)
  have hP : va_P d vwCl [(q, .inr (5, [.ref p1, .null, .null, .null])), (p1, .inr (1, [.ref p1f])), (p1f, .inr (2, [.ref p1fa])), (p1fa, .inl (cI, 1296, .inl (fun j => nI (form j))))] H := hP
  have hD : va_D A [(q, .inr (5, [.ref p1, .null, .null, .null])), (p1, .inr (1, [.ref p1f])), (p1f, .inr (2, [.ref p1fa])), (p1fa, .inl (cI, 1296, .inl (fun j => nI (form j))))] := hD
  refine lv_aload_n hx hb dX5_init_15 rfl (lv_at hl 0 rfl) ?_
  refine va_new (ci := 3) (fs := [.null, .null]) (C := RX3) (T := TX3) (N := 2) hx hb hts hin3 tyX3 tyX3_ok hown (hts (.classLink RX5 16 RX3) (by decide +kernel)) (hts (.instantiable RX3 2) (by decide +kernel)) (hts (.initialized RX3) (by decide +kernel)) hK hP hD hS hA rfl (fun j hj => by match j, hj with | 0, _ => rfl | 1, _ => rfl | n + 2, h => exact absurd h (by omega)) (Nat.le_of_ble_eq_true rfl) (Nat.le_of_ble_eq_true rfl) dX5_init_16 (fun w1 H hP hD hS => ?_)
  have hP : va_P d vwCl [(q, .inr (5, [.ref p1, .null, .null, .null])), (p1, .inr (1, [.ref p1f])), (p1f, .inr (2, [.ref p1fa])), (p1fa, .inl (cI, 1296, .inl (fun j => nI (form j)))), (w1, .inr (3, [.null, .null]))] H := hP
  have hD : va_D A [(q, .inr (5, [.ref p1, .null, .null, .null])), (p1, .inr (1, [.ref p1f])), (p1f, .inr (2, [.ref p1fa])), (p1fa, .inl (cI, 1296, .inl (fun j => nI (form j)))), (w1, .inr (3, [.null, .null]))] := hD
  refine lv_dup hx hb dX5_init_19 rfl ?_
  refine n_nwI (As := []) (rest := [.ref w1, .ref q]) (wr := [(q, .inr (5, [.ref p1, .null, .null, .null])), (p1, .inr (1, [.ref p1f])), (p1f, .inr (2, [.ref p1fa])), (p1fa, .inl (cI, 1296, .inl (fun j => nI (form j))))]) ⟨hx, hb, hml, hown, hts⟩ (c_X3_init l d cI w1) (cwI 0 hts gX5_init_X3_init rfl rfl rfl (hts (.initialized RX3) (by decide +kernel)) (hts (.methodLink RX5 18 yX3_init) (by decide +kernel)) (hts (.instanceMethod yX3_init) (by decide +kernel)) rfl (by decide +kernel) ⟨Nat.le_of_ble_eq_true rfl, Nat.le_of_ble_eq_true rfl⟩) hP hD hS hA hK 4 [0, 1, 2, 3] rfl rfl (by decide) (by decide) rfl hl.1 rfl (Nat.le_of_ble_eq_true rfl) dX5_init_20 ⟨Nat.le_of_ble_eq_true rfl, Nat.le_of_ble_eq_true rfl⟩ (fun u H locs hP hD hS => ?_)
  obtain ⟨w1k, w1ka, w1g, w1ga⟩ := u
  have hP : va_P d vwCl [(q, .inr (5, [.ref p1, .null, .null, .null])), (p1, .inr (1, [.ref p1f])), (p1f, .inr (2, [.ref p1fa])), (p1fa, .inl (cI, 1296, .inl (fun j => nI (form j)))), (w1, .inr (3, [.ref w1k, .ref w1g])), (w1k, .inr (2, [.ref w1ka])), (w1ka, .inl (cI, 1296, .inl (fun _ => 0))), (w1g, .inr (2, [.ref w1ga])), (w1ga, .inl (cI, 1296, .inl (fun _ => 0)))] H := hP
  have hD : va_D A [(q, .inr (5, [.ref p1, .null, .null, .null])), (p1, .inr (1, [.ref p1f])), (p1f, .inr (2, [.ref p1fa])), (p1fa, .inl (cI, 1296, .inl (fun j => nI (form j)))), (w1, .inr (3, [.ref w1k, .ref w1g])), (w1k, .inr (2, [.ref w1ka])), (w1ka, .inl (cI, 1296, .inl (fun _ => 0))), (w1g, .inr (2, [.ref w1ga])), (w1ga, .inl (cI, 1296, .inl (fun _ => 0)))] := hD
  refine va_putF (D := d) (ci := 5) (v := .ref w1) (ty := .object "Nudgelane$Ways") (C := RX5) (T := TX5) (N := 4) hx hb hts hin5 tyX5 tyX5_ok nmX5 hown hK hP hD hS 0 rfl rfl 1 (by decide) hfl19 (fun _ h9 => h9) rfl hin rfl (by decide +kernel) rfl rfl (Nat.le_of_ble_eq_true rfl) dX5_init_23 (fun H locs hP hD hS => ?_)
  have hP : va_P d vwCl [(q, .inr (5, [.ref p1, .ref w1, .null, .null])), (p1, .inr (1, [.ref p1f])), (p1f, .inr (2, [.ref p1fa])), (p1fa, .inl (cI, 1296, .inl (fun j => nI (form j)))), (w1, .inr (3, [.ref w1k, .ref w1g])), (w1k, .inr (2, [.ref w1ka])), (w1ka, .inl (cI, 1296, .inl (fun _ => 0))), (w1g, .inr (2, [.ref w1ga])), (w1ga, .inl (cI, 1296, .inl (fun _ => 0)))] H := hP
  have hD : va_D A [(q, .inr (5, [.ref p1, .ref w1, .null, .null])), (p1, .inr (1, [.ref p1f])), (p1f, .inr (2, [.ref p1fa])), (p1fa, .inl (cI, 1296, .inl (fun j => nI (form j)))), (w1, .inr (3, [.ref w1k, .ref w1g])), (w1k, .inr (2, [.ref w1ka])), (w1ka, .inl (cI, 1296, .inl (fun _ => 0))), (w1g, .inr (2, [.ref w1ga])), (w1ga, .inl (cI, 1296, .inl (fun _ => 0)))] := hD
  refine lv_aload_n hx hb dX5_init_26 rfl (lv_at hl 0 rfl) ?_
  refine va_new (ci := 0) (fs := [.null, .null, .null, .null, .null, .null, .int (nI (0)), .int (nI (0)), .int (nI (0)), .int (nI (0)), .int (nI (0))]) (C := RX0) (T := TX0) (N := 11) hx hb hts hin0 tyX0 tyX0_ok hown (hts (.classLink RX5 23 RX0) (by decide +kernel)) (hts (.instantiable RX0 11) (by decide +kernel)) (hts (.initialized RX0) (by decide +kernel)) hK hP hD hS hA rfl (fun j hj => by match j, hj with | 0, _ => rfl | 1, _ => rfl | 2, _ => rfl | 3, _ => rfl | 4, _ => rfl | 5, _ => rfl | 6, _ => rfl | 7, _ => rfl | 8, _ => rfl | 9, _ => rfl | 10, _ => rfl | n + 11, h => exact absurd h (by omega)) (Nat.le_of_ble_eq_true rfl) (Nat.le_of_ble_eq_true rfl) dX5_init_27 (fun a1 H hP hD hS => ?_)
  have hP : va_P d vwCl [(q, .inr (5, [.ref p1, .ref w1, .null, .null])), (p1, .inr (1, [.ref p1f])), (p1f, .inr (2, [.ref p1fa])), (p1fa, .inl (cI, 1296, .inl (fun j => nI (form j)))), (w1, .inr (3, [.ref w1k, .ref w1g])), (w1k, .inr (2, [.ref w1ka])), (w1ka, .inl (cI, 1296, .inl (fun _ => 0))), (w1g, .inr (2, [.ref w1ga])), (w1ga, .inl (cI, 1296, .inl (fun _ => 0))), (a1, .inr (0, [.null, .null, .null, .null, .null, .null, .int (nI (0)), .int (nI (0)), .int (nI (0)), .int (nI (0)), .int (nI (0))]))] H := hP
  have hD : va_D A [(q, .inr (5, [.ref p1, .ref w1, .null, .null])), (p1, .inr (1, [.ref p1f])), (p1f, .inr (2, [.ref p1fa])), (p1fa, .inl (cI, 1296, .inl (fun j => nI (form j)))), (w1, .inr (3, [.ref w1k, .ref w1g])), (w1k, .inr (2, [.ref w1ka])), (w1ka, .inl (cI, 1296, .inl (fun _ => 0))), (w1g, .inr (2, [.ref w1ga])), (w1ga, .inl (cI, 1296, .inl (fun _ => 0))), (a1, .inr (0, [.null, .null, .null, .null, .null, .null, .int (nI (0)), .int (nI (0)), .int (nI (0)), .int (nI (0)), .int (nI (0))]))] := hD
  refine lv_dup hx hb dX5_init_30 rfl ?_
  refine n_nwI (As := []) (rest := [.ref a1, .ref q]) (wr := [(q, .inr (5, [.ref p1, .ref w1, .null, .null])), (p1, .inr (1, [.ref p1f])), (p1f, .inr (2, [.ref p1fa])), (p1fa, .inl (cI, 1296, .inl (fun j => nI (form j)))), (w1, .inr (3, [.ref w1k, .ref w1g])), (w1k, .inr (2, [.ref w1ka])), (w1ka, .inl (cI, 1296, .inl (fun _ => 0))), (w1g, .inr (2, [.ref w1ga])), (w1ga, .inl (cI, 1296, .inl (fun _ => 0)))]) ⟨hx, hb, hml, hown, hts⟩ (c_X0_init l d cI a1) (cwI 0 hts gX5_init_X0_init rfl rfl rfl (hts (.initialized RX0) (by decide +kernel)) (hts (.methodLink RX5 25 yX0_init) (by decide +kernel)) (hts (.instanceMethod yX0_init) (by decide +kernel)) rfl (by decide +kernel) ⟨Nat.le_of_ble_eq_true rfl, Nat.le_of_ble_eq_true rfl⟩) hP hD hS hA hK 9 [0, 1, 2, 3, 4, 5, 6, 7, 8] rfl rfl (by decide) (by decide) rfl hl.1 rfl (Nat.le_of_ble_eq_true rfl) dX5_init_31 ⟨Nat.le_of_ble_eq_true rfl, Nat.le_of_ble_eq_true rfl⟩ (fun u H locs hP hD hS => ?_)
  obtain ⟨a1f, a1fa, a1x, a1xa, a1v, a1va, a1g, a1ga, a1k, a1ka, a1z, a1za⟩ := u
  have hP : va_P d vwCl [(q, .inr (5, [.ref p1, .ref w1, .null, .null])), (p1, .inr (1, [.ref p1f])), (p1f, .inr (2, [.ref p1fa])), (p1fa, .inl (cI, 1296, .inl (fun j => nI (form j)))), (w1, .inr (3, [.ref w1k, .ref w1g])), (w1k, .inr (2, [.ref w1ka])), (w1ka, .inl (cI, 1296, .inl (fun _ => 0))), (w1g, .inr (2, [.ref w1ga])), (w1ga, .inl (cI, 1296, .inl (fun _ => 0))), (a1, .inr (0, [.ref a1f, .ref a1x, .ref a1v, .ref a1g, .ref a1k, .ref a1z, .int (nI (0)), .int (nI (0)), .int (nI (0)), .int (-1), .int (nI (0))])), (a1f, .inr (2, [.ref a1fa])), (a1fa, .inl (cI, 300, .inl (fun _ => 0))), (a1x, .inr (2, [.ref a1xa])), (a1xa, .inl (cI, 300, .inl (fun _ => 0))), (a1v, .inr (2, [.ref a1va])), (a1va, .inl (cI, 1296, .inl (fun _ => 0))), (a1g, .inr (2, [.ref a1ga])), (a1ga, .inl (cI, 1296, .inl (fun _ => 0))), (a1k, .inr (2, [.ref a1ka])), (a1ka, .inl (cI, 1296, .inl (fun _ => 0))), (a1z, .inr (2, [.ref a1za])), (a1za, .inl (cI, 360, .inl (fun _ => 0)))] H := hP
  have hD : va_D A [(q, .inr (5, [.ref p1, .ref w1, .null, .null])), (p1, .inr (1, [.ref p1f])), (p1f, .inr (2, [.ref p1fa])), (p1fa, .inl (cI, 1296, .inl (fun j => nI (form j)))), (w1, .inr (3, [.ref w1k, .ref w1g])), (w1k, .inr (2, [.ref w1ka])), (w1ka, .inl (cI, 1296, .inl (fun _ => 0))), (w1g, .inr (2, [.ref w1ga])), (w1ga, .inl (cI, 1296, .inl (fun _ => 0))), (a1, .inr (0, [.ref a1f, .ref a1x, .ref a1v, .ref a1g, .ref a1k, .ref a1z, .int (nI (0)), .int (nI (0)), .int (nI (0)), .int (-1), .int (nI (0))])), (a1f, .inr (2, [.ref a1fa])), (a1fa, .inl (cI, 300, .inl (fun _ => 0))), (a1x, .inr (2, [.ref a1xa])), (a1xa, .inl (cI, 300, .inl (fun _ => 0))), (a1v, .inr (2, [.ref a1va])), (a1va, .inl (cI, 1296, .inl (fun _ => 0))), (a1g, .inr (2, [.ref a1ga])), (a1ga, .inl (cI, 1296, .inl (fun _ => 0))), (a1k, .inr (2, [.ref a1ka])), (a1ka, .inl (cI, 1296, .inl (fun _ => 0))), (a1z, .inr (2, [.ref a1za])), (a1za, .inl (cI, 360, .inl (fun _ => 0)))] := hD
  refine va_putF (D := d) (ci := 5) (v := .ref a1) (ty := .object "Nudgelane$Attempts") (C := RX5) (T := TX5) (N := 4) hx hb hts hin5 tyX5 tyX5_ok nmX5 hown hK hP hD hS 0 rfl rfl 2 (by decide) hfl26 (fun _ h9 => h9) rfl hin rfl (by decide +kernel) rfl rfl (Nat.le_of_ble_eq_true rfl) dX5_init_34 (fun H locs hP hD hS => ?_)
  have hP : va_P d vwCl [(q, .inr (5, [.ref p1, .ref w1, .ref a1, .null])), (p1, .inr (1, [.ref p1f])), (p1f, .inr (2, [.ref p1fa])), (p1fa, .inl (cI, 1296, .inl (fun j => nI (form j)))), (w1, .inr (3, [.ref w1k, .ref w1g])), (w1k, .inr (2, [.ref w1ka])), (w1ka, .inl (cI, 1296, .inl (fun _ => 0))), (w1g, .inr (2, [.ref w1ga])), (w1ga, .inl (cI, 1296, .inl (fun _ => 0))), (a1, .inr (0, [.ref a1f, .ref a1x, .ref a1v, .ref a1g, .ref a1k, .ref a1z, .int (nI (0)), .int (nI (0)), .int (nI (0)), .int (-1), .int (nI (0))])), (a1f, .inr (2, [.ref a1fa])), (a1fa, .inl (cI, 300, .inl (fun _ => 0))), (a1x, .inr (2, [.ref a1xa])), (a1xa, .inl (cI, 300, .inl (fun _ => 0))), (a1v, .inr (2, [.ref a1va])), (a1va, .inl (cI, 1296, .inl (fun _ => 0))), (a1g, .inr (2, [.ref a1ga])), (a1ga, .inl (cI, 1296, .inl (fun _ => 0))), (a1k, .inr (2, [.ref a1ka])), (a1ka, .inl (cI, 1296, .inl (fun _ => 0))), (a1z, .inr (2, [.ref a1za])), (a1za, .inl (cI, 360, .inl (fun _ => 0)))] H := hP
  have hD : va_D A [(q, .inr (5, [.ref p1, .ref w1, .ref a1, .null])), (p1, .inr (1, [.ref p1f])), (p1f, .inr (2, [.ref p1fa])), (p1fa, .inl (cI, 1296, .inl (fun j => nI (form j)))), (w1, .inr (3, [.ref w1k, .ref w1g])), (w1k, .inr (2, [.ref w1ka])), (w1ka, .inl (cI, 1296, .inl (fun _ => 0))), (w1g, .inr (2, [.ref w1ga])), (w1ga, .inl (cI, 1296, .inl (fun _ => 0))), (a1, .inr (0, [.ref a1f, .ref a1x, .ref a1v, .ref a1g, .ref a1k, .ref a1z, .int (nI (0)), .int (nI (0)), .int (nI (0)), .int (-1), .int (nI (0))])), (a1f, .inr (2, [.ref a1fa])), (a1fa, .inl (cI, 300, .inl (fun _ => 0))), (a1x, .inr (2, [.ref a1xa])), (a1xa, .inl (cI, 300, .inl (fun _ => 0))), (a1v, .inr (2, [.ref a1va])), (a1va, .inl (cI, 1296, .inl (fun _ => 0))), (a1g, .inr (2, [.ref a1ga])), (a1ga, .inl (cI, 1296, .inl (fun _ => 0))), (a1k, .inr (2, [.ref a1ka])), (a1ka, .inl (cI, 1296, .inl (fun _ => 0))), (a1z, .inr (2, [.ref a1za])), (a1za, .inl (cI, 360, .inl (fun _ => 0)))] := hD
  refine lv_aload_n hx hb dX5_init_37 rfl (lv_at hl 0 rfl) ?_
  refine va_new (ci := 4) (fs := [.null, .null]) (C := RX4) (T := TX4) (N := 2) hx hb hts hin4 tyX4 tyX4_ok hown (hts (.classLink RX5 30 RX4) (by decide +kernel)) (hts (.instantiable RX4 2) (by decide +kernel)) (hts (.initialized RX4) (by decide +kernel)) hK hP hD hS hA rfl (fun j hj => by match j, hj with | 0, _ => rfl | 1, _ => rfl | n + 2, h => exact absurd h (by omega)) (Nat.le_of_ble_eq_true rfl) (Nat.le_of_ble_eq_true rfl) dX5_init_38 (fun z1 H hP hD hS => ?_)
  have hP : va_P d vwCl [(q, .inr (5, [.ref p1, .ref w1, .ref a1, .null])), (p1, .inr (1, [.ref p1f])), (p1f, .inr (2, [.ref p1fa])), (p1fa, .inl (cI, 1296, .inl (fun j => nI (form j)))), (w1, .inr (3, [.ref w1k, .ref w1g])), (w1k, .inr (2, [.ref w1ka])), (w1ka, .inl (cI, 1296, .inl (fun _ => 0))), (w1g, .inr (2, [.ref w1ga])), (w1ga, .inl (cI, 1296, .inl (fun _ => 0))), (a1, .inr (0, [.ref a1f, .ref a1x, .ref a1v, .ref a1g, .ref a1k, .ref a1z, .int (nI (0)), .int (nI (0)), .int (nI (0)), .int (-1), .int (nI (0))])), (a1f, .inr (2, [.ref a1fa])), (a1fa, .inl (cI, 300, .inl (fun _ => 0))), (a1x, .inr (2, [.ref a1xa])), (a1xa, .inl (cI, 300, .inl (fun _ => 0))), (a1v, .inr (2, [.ref a1va])), (a1va, .inl (cI, 1296, .inl (fun _ => 0))), (a1g, .inr (2, [.ref a1ga])), (a1ga, .inl (cI, 1296, .inl (fun _ => 0))), (a1k, .inr (2, [.ref a1ka])), (a1ka, .inl (cI, 1296, .inl (fun _ => 0))), (a1z, .inr (2, [.ref a1za])), (a1za, .inl (cI, 360, .inl (fun _ => 0))), (z1, .inr (4, [.null, .null]))] H := hP
  have hD : va_D A [(q, .inr (5, [.ref p1, .ref w1, .ref a1, .null])), (p1, .inr (1, [.ref p1f])), (p1f, .inr (2, [.ref p1fa])), (p1fa, .inl (cI, 1296, .inl (fun j => nI (form j)))), (w1, .inr (3, [.ref w1k, .ref w1g])), (w1k, .inr (2, [.ref w1ka])), (w1ka, .inl (cI, 1296, .inl (fun _ => 0))), (w1g, .inr (2, [.ref w1ga])), (w1ga, .inl (cI, 1296, .inl (fun _ => 0))), (a1, .inr (0, [.ref a1f, .ref a1x, .ref a1v, .ref a1g, .ref a1k, .ref a1z, .int (nI (0)), .int (nI (0)), .int (nI (0)), .int (-1), .int (nI (0))])), (a1f, .inr (2, [.ref a1fa])), (a1fa, .inl (cI, 300, .inl (fun _ => 0))), (a1x, .inr (2, [.ref a1xa])), (a1xa, .inl (cI, 300, .inl (fun _ => 0))), (a1v, .inr (2, [.ref a1va])), (a1va, .inl (cI, 1296, .inl (fun _ => 0))), (a1g, .inr (2, [.ref a1ga])), (a1ga, .inl (cI, 1296, .inl (fun _ => 0))), (a1k, .inr (2, [.ref a1ka])), (a1ka, .inl (cI, 1296, .inl (fun _ => 0))), (a1z, .inr (2, [.ref a1za])), (a1za, .inl (cI, 360, .inl (fun _ => 0))), (z1, .inr (4, [.null, .null]))] := hD
  refine lv_dup hx hb dX5_init_41 rfl ?_
  refine n_nwI (As := []) (rest := [.ref z1, .ref q]) (wr := [(q, .inr (5, [.ref p1, .ref w1, .ref a1, .null])), (p1, .inr (1, [.ref p1f])), (p1f, .inr (2, [.ref p1fa])), (p1fa, .inl (cI, 1296, .inl (fun j => nI (form j)))), (w1, .inr (3, [.ref w1k, .ref w1g])), (w1k, .inr (2, [.ref w1ka])), (w1ka, .inl (cI, 1296, .inl (fun _ => 0))), (w1g, .inr (2, [.ref w1ga])), (w1ga, .inl (cI, 1296, .inl (fun _ => 0))), (a1, .inr (0, [.ref a1f, .ref a1x, .ref a1v, .ref a1g, .ref a1k, .ref a1z, .int (nI (0)), .int (nI (0)), .int (nI (0)), .int (-1), .int (nI (0))])), (a1f, .inr (2, [.ref a1fa])), (a1fa, .inl (cI, 300, .inl (fun _ => 0))), (a1x, .inr (2, [.ref a1xa])), (a1xa, .inl (cI, 300, .inl (fun _ => 0))), (a1v, .inr (2, [.ref a1va])), (a1va, .inl (cI, 1296, .inl (fun _ => 0))), (a1g, .inr (2, [.ref a1ga])), (a1ga, .inl (cI, 1296, .inl (fun _ => 0))), (a1k, .inr (2, [.ref a1ka])), (a1ka, .inl (cI, 1296, .inl (fun _ => 0))), (a1z, .inr (2, [.ref a1za])), (a1za, .inl (cI, 360, .inl (fun _ => 0)))]) ⟨hx, hb, hml, hown, hts⟩ (c_X4_init l d cI z1) (cwI 0 hts gX5_init_X4_init rfl rfl rfl (hts (.initialized RX4) (by decide +kernel)) (hts (.methodLink RX5 32 yX4_init) (by decide +kernel)) (hts (.instanceMethod yX4_init) (by decide +kernel)) rfl (by decide +kernel) ⟨Nat.le_of_ble_eq_true rfl, Nat.le_of_ble_eq_true rfl⟩) hP hD hS hA hK 22 [0, 1, 2, 3, 4, 5, 6, 7, 8, 9, 10, 11, 12, 13, 14, 15, 16, 17, 18, 19, 20, 21] rfl rfl (by decide) (by decide) rfl hl.1 rfl (Nat.le_of_ble_eq_true rfl) dX5_init_42 ⟨Nat.le_of_ble_eq_true rfl, Nat.le_of_ble_eq_true rfl⟩ (fun u H locs hP hD hS => ?_)
  obtain ⟨z1k, z1ka, z1g, z1ga⟩ := u
  have hP : va_P d vwCl [(q, .inr (5, [.ref p1, .ref w1, .ref a1, .null])), (p1, .inr (1, [.ref p1f])), (p1f, .inr (2, [.ref p1fa])), (p1fa, .inl (cI, 1296, .inl (fun j => nI (form j)))), (w1, .inr (3, [.ref w1k, .ref w1g])), (w1k, .inr (2, [.ref w1ka])), (w1ka, .inl (cI, 1296, .inl (fun _ => 0))), (w1g, .inr (2, [.ref w1ga])), (w1ga, .inl (cI, 1296, .inl (fun _ => 0))), (a1, .inr (0, [.ref a1f, .ref a1x, .ref a1v, .ref a1g, .ref a1k, .ref a1z, .int (nI (0)), .int (nI (0)), .int (nI (0)), .int (-1), .int (nI (0))])), (a1f, .inr (2, [.ref a1fa])), (a1fa, .inl (cI, 300, .inl (fun _ => 0))), (a1x, .inr (2, [.ref a1xa])), (a1xa, .inl (cI, 300, .inl (fun _ => 0))), (a1v, .inr (2, [.ref a1va])), (a1va, .inl (cI, 1296, .inl (fun _ => 0))), (a1g, .inr (2, [.ref a1ga])), (a1ga, .inl (cI, 1296, .inl (fun _ => 0))), (a1k, .inr (2, [.ref a1ka])), (a1ka, .inl (cI, 1296, .inl (fun _ => 0))), (a1z, .inr (2, [.ref a1za])), (a1za, .inl (cI, 360, .inl (fun _ => 0))), (z1, .inr (4, [.ref z1k, .ref z1g])), (z1k, .inr (2, [.ref z1ka])), (z1ka, .inl (cI, 1296, .inl (fun _ => 0))), (z1g, .inr (2, [.ref z1ga])), (z1ga, .inl (cI, 1296, .inl (fun _ => 0)))] H := hP
  have hD : va_D A [(q, .inr (5, [.ref p1, .ref w1, .ref a1, .null])), (p1, .inr (1, [.ref p1f])), (p1f, .inr (2, [.ref p1fa])), (p1fa, .inl (cI, 1296, .inl (fun j => nI (form j)))), (w1, .inr (3, [.ref w1k, .ref w1g])), (w1k, .inr (2, [.ref w1ka])), (w1ka, .inl (cI, 1296, .inl (fun _ => 0))), (w1g, .inr (2, [.ref w1ga])), (w1ga, .inl (cI, 1296, .inl (fun _ => 0))), (a1, .inr (0, [.ref a1f, .ref a1x, .ref a1v, .ref a1g, .ref a1k, .ref a1z, .int (nI (0)), .int (nI (0)), .int (nI (0)), .int (-1), .int (nI (0))])), (a1f, .inr (2, [.ref a1fa])), (a1fa, .inl (cI, 300, .inl (fun _ => 0))), (a1x, .inr (2, [.ref a1xa])), (a1xa, .inl (cI, 300, .inl (fun _ => 0))), (a1v, .inr (2, [.ref a1va])), (a1va, .inl (cI, 1296, .inl (fun _ => 0))), (a1g, .inr (2, [.ref a1ga])), (a1ga, .inl (cI, 1296, .inl (fun _ => 0))), (a1k, .inr (2, [.ref a1ka])), (a1ka, .inl (cI, 1296, .inl (fun _ => 0))), (a1z, .inr (2, [.ref a1za])), (a1za, .inl (cI, 360, .inl (fun _ => 0))), (z1, .inr (4, [.ref z1k, .ref z1g])), (z1k, .inr (2, [.ref z1ka])), (z1ka, .inl (cI, 1296, .inl (fun _ => 0))), (z1g, .inr (2, [.ref z1ga])), (z1ga, .inl (cI, 1296, .inl (fun _ => 0)))] := hD
  refine va_putF (D := d) (ci := 5) (v := .ref z1) (ty := .object "Nudgelane$Worths") (C := RX5) (T := TX5) (N := 4) hx hb hts hin5 tyX5 tyX5_ok nmX5 hown hK hP hD hS 0 rfl rfl 3 (by decide) hfl33 (fun _ h9 => h9) rfl hin rfl (by decide +kernel) rfl rfl (Nat.le_of_ble_eq_true rfl) dX5_init_45 (fun H locs hP hD hS => ?_)
  have hP : va_P d vwCl [(q, .inr (5, [.ref p1, .ref w1, .ref a1, .ref z1])), (p1, .inr (1, [.ref p1f])), (p1f, .inr (2, [.ref p1fa])), (p1fa, .inl (cI, 1296, .inl (fun j => nI (form j)))), (w1, .inr (3, [.ref w1k, .ref w1g])), (w1k, .inr (2, [.ref w1ka])), (w1ka, .inl (cI, 1296, .inl (fun _ => 0))), (w1g, .inr (2, [.ref w1ga])), (w1ga, .inl (cI, 1296, .inl (fun _ => 0))), (a1, .inr (0, [.ref a1f, .ref a1x, .ref a1v, .ref a1g, .ref a1k, .ref a1z, .int (nI (0)), .int (nI (0)), .int (nI (0)), .int (-1), .int (nI (0))])), (a1f, .inr (2, [.ref a1fa])), (a1fa, .inl (cI, 300, .inl (fun _ => 0))), (a1x, .inr (2, [.ref a1xa])), (a1xa, .inl (cI, 300, .inl (fun _ => 0))), (a1v, .inr (2, [.ref a1va])), (a1va, .inl (cI, 1296, .inl (fun _ => 0))), (a1g, .inr (2, [.ref a1ga])), (a1ga, .inl (cI, 1296, .inl (fun _ => 0))), (a1k, .inr (2, [.ref a1ka])), (a1ka, .inl (cI, 1296, .inl (fun _ => 0))), (a1z, .inr (2, [.ref a1za])), (a1za, .inl (cI, 360, .inl (fun _ => 0))), (z1, .inr (4, [.ref z1k, .ref z1g])), (z1k, .inr (2, [.ref z1ka])), (z1ka, .inl (cI, 1296, .inl (fun _ => 0))), (z1g, .inr (2, [.ref z1ga])), (z1ga, .inl (cI, 1296, .inl (fun _ => 0)))] H := hP
  have hD : va_D A [(q, .inr (5, [.ref p1, .ref w1, .ref a1, .ref z1])), (p1, .inr (1, [.ref p1f])), (p1f, .inr (2, [.ref p1fa])), (p1fa, .inl (cI, 1296, .inl (fun j => nI (form j)))), (w1, .inr (3, [.ref w1k, .ref w1g])), (w1k, .inr (2, [.ref w1ka])), (w1ka, .inl (cI, 1296, .inl (fun _ => 0))), (w1g, .inr (2, [.ref w1ga])), (w1ga, .inl (cI, 1296, .inl (fun _ => 0))), (a1, .inr (0, [.ref a1f, .ref a1x, .ref a1v, .ref a1g, .ref a1k, .ref a1z, .int (nI (0)), .int (nI (0)), .int (nI (0)), .int (-1), .int (nI (0))])), (a1f, .inr (2, [.ref a1fa])), (a1fa, .inl (cI, 300, .inl (fun _ => 0))), (a1x, .inr (2, [.ref a1xa])), (a1xa, .inl (cI, 300, .inl (fun _ => 0))), (a1v, .inr (2, [.ref a1va])), (a1va, .inl (cI, 1296, .inl (fun _ => 0))), (a1g, .inr (2, [.ref a1ga])), (a1ga, .inl (cI, 1296, .inl (fun _ => 0))), (a1k, .inr (2, [.ref a1ka])), (a1ka, .inl (cI, 1296, .inl (fun _ => 0))), (a1z, .inr (2, [.ref a1za])), (a1za, .inl (cI, 360, .inl (fun _ => 0))), (z1, .inr (4, [.ref z1k, .ref z1g])), (z1k, .inr (2, [.ref z1ka])), (z1ka, .inl (cI, 1296, .inl (fun _ => 0))), (z1g, .inr (2, [.ref z1ga])), (z1ga, .inl (cI, 1296, .inl (fun _ => 0)))] := hD
  refine W.widen (k := 28) (n := 11360) (Nat.le_of_ble_eq_true rfl) (Nat.le_of_ble_eq_true rfl) ?_
  exact W.vret hx hb hr (fun t ht hW => ⟨⟨(p1, w1, a1, z1, (p1f, p1fa), (w1k, w1ka, w1g, w1ga), (a1f, a1fa, a1x, a1xa, a1v, a1va, a1g, a1ga, a1k, a1ka, a1z, a1za), (z1k, z1ka, z1g, z1ga)), rfl, by rw [ht]; exact hP.sub [0, 1, 2, 3, 4, 5, 6, 7, 8, 9, 10, 11, 12, 13, 14, 15, 16, 17, 18, 19, 20, 21, 22, 23, 24, 25, 26] rfl, hD.sub [0, 1, 2, 3, 4, 5, 6, 7, 8, 9, 10, 11, 12, 13, 14, 15, 16, 17, 18, 19, 20, 21, 22, 23, 24, 25, 26] (by decide) rfl⟩, hS.F ht⟩) hS.2.2 dX5_init_48
end
section
set_option maxHeartbeats 4000000 in
set_option maxRecDepth 100000 in
theorem c_X6_fits_1 (l : Launch) (d : va_G) (cI cJ cZ : ClassId) (x y : Nat) (hx6 : x < 6) (hy6 : y < 6) : nRd l yX6_fits wsX6_fits ({ frames := 0, cells := 0, slots := 0, locals := 0 } : Room) d [(cI, .int), (cJ, .long), (cZ, .boolean)] [] [.int (nI (1)), .int (nI (x)), .int (nI (y))] (.int (nI ((fitB 1 x y).toNat))) := by
  refine Met.ofW (cc := cX6_fits) (maxL := 3) (ret := some .boolean) (by decide) rfl ?_
  intro p e s m args below meth c s₁ B hml hv
  obtain ⟨rfl, hP, hK⟩ := hv
  have hx := B.exec
  have hb := B.bytes
  have hr := B.returns
  have hts := atoms_spec (ws := wsX6_fits) B.pre
  have hown : s.vm.findClass RX6 = some m.cls := findClass_of_methodNamed B.named
  have hlocks := B.notSynchronized
  have hP : va_P d vwCl [] s.heap := hP
  have hl := lv_entry ([.int (nI (1)), .int (nI (x)), .int (nI (y))]) (n := 3) (Nat.le_of_ble_eq_true rfl)
  rw [lg_entry_eq]
  generalize (lg_sl ([.int (nI (1)), .int (nI (x)), .int (nI (y))]) ++ List.replicate (3 - (lg_sl ([.int (nI (1)), .int (nI (x)), .int (nI (y))])).length) Slot.unset).toArray = ls at hl ⊢
  have hl : lv_has ls 3 [(0, .int (nI (1))), (1, .int (nI (x))), (2, .int (nI (y)))] := hl
  refine lv_iload_n hx hb dX6_fits_0 rfl (lv_at hl 0 rfl) ?_
  refine lv_iconst (v := nI (1)) hx hb dX6_fits_1 (by decide) ?_
  refine n_icmp_ne (tgt := 21) hx hb dX6_fits_2 (by decide) (by decide) (by decide) (fun c_1 => ?_) (fun c_1 => ?_)
  · exact absurd c_1 (by decide)
  refine lv_iload_n hx hb dX6_fits_5 rfl (lv_at hl 1 rfl) ?_
  refine n_ifne (tgt := 17) hx hb dX6_fits_6 (by decide) (by omega) (fun c_2 => ?_) (fun c_2 => ?_)
  ·
    refine lv_iconst (v := nI (0)) hx hb dX6_fits_17 (by decide) ?_
    refine lv_goto (tgt := 82) hx hb dX6_fits_18 (by decide) ?_
    refine n_top (show (nI (0)) = (nI ((fitB 1 x y).toNat)) from by rw [show fitB 1 x y = false from decide_eq_false (by omega)]; rfl) ?_
    exact W.zret (v := (nI ((fitB 1 x y).toNat))) hx hb hr (by cases fitB 1 x y <;> rfl) (fun t ht hW => ⟨rfl, ht⟩) (fun q h => by cases h) dX6_fits_82
  ·
    refine lv_iload_n hx hb dX6_fits_9 rfl (lv_at hl 2 rfl) ?_
    refine n_ifle (tgt := 17) hx hb dX6_fits_10 (by decide) (by omega) (fun c_3 => ?_) (fun c_3 => ?_)
    ·
      refine lv_iconst (v := nI (0)) hx hb dX6_fits_17 (by decide) ?_
      refine lv_goto (tgt := 82) hx hb dX6_fits_18 (by decide) ?_
      refine n_top (show (nI (0)) = (nI ((fitB 1 x y).toNat)) from by rw [show fitB 1 x y = false from decide_eq_false (by omega)]; rfl) ?_
      exact W.zret (v := (nI ((fitB 1 x y).toNat))) hx hb hr (by cases fitB 1 x y <;> rfl) (fun t ht hW => ⟨rfl, ht⟩) (fun q h => by cases h) dX6_fits_82
    ·
      refine lv_iconst (v := nI (1)) hx hb dX6_fits_13 (by decide) ?_
      refine lv_goto (tgt := 82) hx hb dX6_fits_14 (by decide) ?_
      refine n_top (show (nI (1)) = (nI ((fitB 1 x y).toNat)) from by rw [show fitB 1 x y = true from decide_eq_true (by omega)]; rfl) ?_
      exact W.zret (v := (nI ((fitB 1 x y).toNat))) hx hb hr (by cases fitB 1 x y <;> rfl) (fun t ht hW => ⟨rfl, ht⟩) (fun q h => by cases h) dX6_fits_82

set_option maxHeartbeats 4000000 in
set_option maxRecDepth 100000 in
theorem c_X6_fits_2 (l : Launch) (d : va_G) (cI cJ cZ : ClassId) (x y : Nat) (hx6 : x < 6) (hy6 : y < 6) : nRd l yX6_fits wsX6_fits ({ frames := 0, cells := 0, slots := 0, locals := 0 } : Room) d [(cI, .int), (cJ, .long), (cZ, .boolean)] [] [.int (nI (2)), .int (nI (x)), .int (nI (y))] (.int (nI ((fitB 2 x y).toNat))) := by
  refine Met.ofW (cc := cX6_fits) (maxL := 3) (ret := some .boolean) (by decide) rfl ?_
  intro p e s m args below meth c s₁ B hml hv
  obtain ⟨rfl, hP, hK⟩ := hv
  have hx := B.exec
  have hb := B.bytes
  have hr := B.returns
  have hts := atoms_spec (ws := wsX6_fits) B.pre
  have hown : s.vm.findClass RX6 = some m.cls := findClass_of_methodNamed B.named
  have hlocks := B.notSynchronized
  have hP : va_P d vwCl [] s.heap := hP
  have hl := lv_entry ([.int (nI (2)), .int (nI (x)), .int (nI (y))]) (n := 3) (Nat.le_of_ble_eq_true rfl)
  rw [lg_entry_eq]
  generalize (lg_sl ([.int (nI (2)), .int (nI (x)), .int (nI (y))]) ++ List.replicate (3 - (lg_sl ([.int (nI (2)), .int (nI (x)), .int (nI (y))])).length) Slot.unset).toArray = ls at hl ⊢
  have hl : lv_has ls 3 [(0, .int (nI (2))), (1, .int (nI (x))), (2, .int (nI (y)))] := hl
  refine lv_iload_n hx hb dX6_fits_0 rfl (lv_at hl 0 rfl) ?_
  refine lv_iconst (v := nI (1)) hx hb dX6_fits_1 (by decide) ?_
  refine n_icmp_ne (tgt := 21) hx hb dX6_fits_2 (by decide) (by decide) (by decide) (fun c_1 => ?_) (fun c_1 => ?_)
  rotate_left
  · exact absurd c_1 (by decide)
  refine lv_iload_n hx hb dX6_fits_21 rfl (lv_at hl 0 rfl) ?_
  refine lv_iconst (v := nI (2)) hx hb dX6_fits_22 (by decide) ?_
  refine n_icmp_ne (tgt := 44) hx hb dX6_fits_23 (by decide) (by decide) (by decide) (fun c_2 => ?_) (fun c_2 => ?_)
  · exact absurd c_2 (by decide)
  refine lv_iload_n hx hb dX6_fits_26 rfl (lv_at hl 1 rfl) ?_
  refine lv_iconst (v := nI (5)) hx hb dX6_fits_27 (by decide) ?_
  refine n_icmp_ne (tgt := 40) hx hb dX6_fits_28 (by decide) (by omega) (by omega) (fun c_3 => ?_) (fun c_3 => ?_)
  ·
    refine lv_iconst (v := nI (0)) hx hb dX6_fits_40 (by decide) ?_
    refine lv_goto (tgt := 82) hx hb dX6_fits_41 (by decide) ?_
    refine n_top (show (nI (0)) = (nI ((fitB 2 x y).toNat)) from by rw [show fitB 2 x y = false from decide_eq_false (by omega)]; rfl) ?_
    exact W.zret (v := (nI ((fitB 2 x y).toNat))) hx hb hr (by cases fitB 2 x y <;> rfl) (fun t ht hW => ⟨rfl, ht⟩) (fun q h => by cases h) dX6_fits_82
  ·
    refine lv_iload_n hx hb dX6_fits_31 rfl (lv_at hl 2 rfl) ?_
    refine lv_iconst (v := nI (4)) hx hb dX6_fits_32 (by decide) ?_
    refine n_icmp_ne (tgt := 40) hx hb dX6_fits_33 (by decide) (by omega) (by omega) (fun c_4 => ?_) (fun c_4 => ?_)
    ·
      refine lv_iconst (v := nI (0)) hx hb dX6_fits_40 (by decide) ?_
      refine lv_goto (tgt := 82) hx hb dX6_fits_41 (by decide) ?_
      refine n_top (show (nI (0)) = (nI ((fitB 2 x y).toNat)) from by rw [show fitB 2 x y = false from decide_eq_false (by omega)]; rfl) ?_
      exact W.zret (v := (nI ((fitB 2 x y).toNat))) hx hb hr (by cases fitB 2 x y <;> rfl) (fun t ht hW => ⟨rfl, ht⟩) (fun q h => by cases h) dX6_fits_82
    ·
      refine lv_iconst (v := nI (1)) hx hb dX6_fits_36 (by decide) ?_
      refine lv_goto (tgt := 82) hx hb dX6_fits_37 (by decide) ?_
      refine n_top (show (nI (1)) = (nI ((fitB 2 x y).toNat)) from by rw [show fitB 2 x y = true from decide_eq_true (by omega)]; rfl) ?_
      exact W.zret (v := (nI ((fitB 2 x y).toNat))) hx hb hr (by cases fitB 2 x y <;> rfl) (fun t ht hW => ⟨rfl, ht⟩) (fun q h => by cases h) dX6_fits_82

set_option maxHeartbeats 4000000 in
set_option maxRecDepth 100000 in
theorem c_X6_fits_3 (l : Launch) (d : va_G) (cI cJ cZ : ClassId) (x y : Nat) (hx6 : x < 6) (hy6 : y < 6) : nRd l yX6_fits wsX6_fits ({ frames := 0, cells := 0, slots := 0, locals := 0 } : Room) d [(cI, .int), (cJ, .long), (cZ, .boolean)] [] [.int (nI (3)), .int (nI (x)), .int (nI (y))] (.int (nI ((fitB 3 x y).toNat))) := by
  refine Met.ofW (cc := cX6_fits) (maxL := 3) (ret := some .boolean) (by decide) rfl ?_
  intro p e s m args below meth c s₁ B hml hv
  obtain ⟨rfl, hP, hK⟩ := hv
  have hx := B.exec
  have hb := B.bytes
  have hr := B.returns
  have hts := atoms_spec (ws := wsX6_fits) B.pre
  have hown : s.vm.findClass RX6 = some m.cls := findClass_of_methodNamed B.named
  have hlocks := B.notSynchronized
  have hP : va_P d vwCl [] s.heap := hP
  have hl := lv_entry ([.int (nI (3)), .int (nI (x)), .int (nI (y))]) (n := 3) (Nat.le_of_ble_eq_true rfl)
  rw [lg_entry_eq]
  generalize (lg_sl ([.int (nI (3)), .int (nI (x)), .int (nI (y))]) ++ List.replicate (3 - (lg_sl ([.int (nI (3)), .int (nI (x)), .int (nI (y))])).length) Slot.unset).toArray = ls at hl ⊢
  have hl : lv_has ls 3 [(0, .int (nI (3))), (1, .int (nI (x))), (2, .int (nI (y)))] := hl
  refine lv_iload_n hx hb dX6_fits_0 rfl (lv_at hl 0 rfl) ?_
  refine lv_iconst (v := nI (1)) hx hb dX6_fits_1 (by decide) ?_
  refine n_icmp_ne (tgt := 21) hx hb dX6_fits_2 (by decide) (by decide) (by decide) (fun c_1 => ?_) (fun c_1 => ?_)
  rotate_left
  · exact absurd c_1 (by decide)
  refine lv_iload_n hx hb dX6_fits_21 rfl (lv_at hl 0 rfl) ?_
  refine lv_iconst (v := nI (2)) hx hb dX6_fits_22 (by decide) ?_
  refine n_icmp_ne (tgt := 44) hx hb dX6_fits_23 (by decide) (by decide) (by decide) (fun c_2 => ?_) (fun c_2 => ?_)
  rotate_left
  · exact absurd c_2 (by decide)
  refine lv_iload_n hx hb dX6_fits_44 rfl (lv_at hl 0 rfl) ?_
  refine lv_iconst (v := nI (3)) hx hb dX6_fits_45 (by decide) ?_
  refine n_icmp_ne (tgt := 67) hx hb dX6_fits_46 (by decide) (by decide) (by decide) (fun c_3 => ?_) (fun c_3 => ?_)
  · exact absurd c_3 (by decide)
  refine lv_iload_n hx hb dX6_fits_49 rfl (lv_at hl 1 rfl) ?_
  refine lv_iconst (v := nI (3)) hx hb dX6_fits_50 (by decide) ?_
  refine n_icmp_ne (tgt := 63) hx hb dX6_fits_51 (by decide) (by omega) (by omega) (fun c_4 => ?_) (fun c_4 => ?_)
  ·
    refine lv_iconst (v := nI (0)) hx hb dX6_fits_63 (by decide) ?_
    refine lv_goto (tgt := 82) hx hb dX6_fits_64 (by decide) ?_
    refine n_top (show (nI (0)) = (nI ((fitB 3 x y).toNat)) from by rw [show fitB 3 x y = false from decide_eq_false (by omega)]; rfl) ?_
    exact W.zret (v := (nI ((fitB 3 x y).toNat))) hx hb hr (by cases fitB 3 x y <;> rfl) (fun t ht hW => ⟨rfl, ht⟩) (fun q h => by cases h) dX6_fits_82
  ·
    refine lv_iload_n hx hb dX6_fits_54 rfl (lv_at hl 2 rfl) ?_
    refine lv_iconst (v := nI (3)) hx hb dX6_fits_55 (by decide) ?_
    refine n_icmp_ne (tgt := 63) hx hb dX6_fits_56 (by decide) (by omega) (by omega) (fun c_5 => ?_) (fun c_5 => ?_)
    ·
      refine lv_iconst (v := nI (0)) hx hb dX6_fits_63 (by decide) ?_
      refine lv_goto (tgt := 82) hx hb dX6_fits_64 (by decide) ?_
      refine n_top (show (nI (0)) = (nI ((fitB 3 x y).toNat)) from by rw [show fitB 3 x y = false from decide_eq_false (by omega)]; rfl) ?_
      exact W.zret (v := (nI ((fitB 3 x y).toNat))) hx hb hr (by cases fitB 3 x y <;> rfl) (fun t ht hW => ⟨rfl, ht⟩) (fun q h => by cases h) dX6_fits_82
    ·
      refine lv_iconst (v := nI (1)) hx hb dX6_fits_59 (by decide) ?_
      refine lv_goto (tgt := 82) hx hb dX6_fits_60 (by decide) ?_
      refine n_top (show (nI (1)) = (nI ((fitB 3 x y).toNat)) from by rw [show fitB 3 x y = true from decide_eq_true (by omega)]; rfl) ?_
      exact W.zret (v := (nI ((fitB 3 x y).toNat))) hx hb hr (by cases fitB 3 x y <;> rfl) (fun t ht hW => ⟨rfl, ht⟩) (fun q h => by cases h) dX6_fits_82

set_option maxHeartbeats 4000000 in
set_option maxRecDepth 100000 in
theorem c_X6_fits_4 (l : Launch) (d : va_G) (cI cJ cZ : ClassId) (x y : Nat) (hx6 : x < 6) (hy6 : y < 6) : nRd l yX6_fits wsX6_fits ({ frames := 0, cells := 0, slots := 0, locals := 0 } : Room) d [(cI, .int), (cJ, .long), (cZ, .boolean)] [] [.int (nI (4)), .int (nI (x)), .int (nI (y))] (.int (nI ((fitB 4 x y).toNat))) := by
  refine Met.ofW (cc := cX6_fits) (maxL := 3) (ret := some .boolean) (by decide) rfl ?_
  intro p e s m args below meth c s₁ B hml hv
  obtain ⟨rfl, hP, hK⟩ := hv
  have hx := B.exec
  have hb := B.bytes
  have hr := B.returns
  have hts := atoms_spec (ws := wsX6_fits) B.pre
  have hown : s.vm.findClass RX6 = some m.cls := findClass_of_methodNamed B.named
  have hlocks := B.notSynchronized
  have hP : va_P d vwCl [] s.heap := hP
  have hl := lv_entry ([.int (nI (4)), .int (nI (x)), .int (nI (y))]) (n := 3) (Nat.le_of_ble_eq_true rfl)
  rw [lg_entry_eq]
  generalize (lg_sl ([.int (nI (4)), .int (nI (x)), .int (nI (y))]) ++ List.replicate (3 - (lg_sl ([.int (nI (4)), .int (nI (x)), .int (nI (y))])).length) Slot.unset).toArray = ls at hl ⊢
  have hl : lv_has ls 3 [(0, .int (nI (4))), (1, .int (nI (x))), (2, .int (nI (y)))] := hl
  refine lv_iload_n hx hb dX6_fits_0 rfl (lv_at hl 0 rfl) ?_
  refine lv_iconst (v := nI (1)) hx hb dX6_fits_1 (by decide) ?_
  refine n_icmp_ne (tgt := 21) hx hb dX6_fits_2 (by decide) (by decide) (by decide) (fun c_1 => ?_) (fun c_1 => ?_)
  rotate_left
  · exact absurd c_1 (by decide)
  refine lv_iload_n hx hb dX6_fits_21 rfl (lv_at hl 0 rfl) ?_
  refine lv_iconst (v := nI (2)) hx hb dX6_fits_22 (by decide) ?_
  refine n_icmp_ne (tgt := 44) hx hb dX6_fits_23 (by decide) (by decide) (by decide) (fun c_2 => ?_) (fun c_2 => ?_)
  rotate_left
  · exact absurd c_2 (by decide)
  refine lv_iload_n hx hb dX6_fits_44 rfl (lv_at hl 0 rfl) ?_
  refine lv_iconst (v := nI (3)) hx hb dX6_fits_45 (by decide) ?_
  refine n_icmp_ne (tgt := 67) hx hb dX6_fits_46 (by decide) (by decide) (by decide) (fun c_3 => ?_) (fun c_3 => ?_)
  rotate_left
  · exact absurd c_3 (by decide)
  refine lv_iload_n hx hb dX6_fits_67 rfl (lv_at hl 1 rfl) ?_
  refine lv_iconst (v := nI (2)) hx hb dX6_fits_68 (by decide) ?_
  refine n_icmp_ne (tgt := 81) hx hb dX6_fits_69 (by decide) (by omega) (by omega) (fun c_4 => ?_) (fun c_4 => ?_)
  ·
    refine lv_iconst (v := nI (0)) hx hb dX6_fits_81 (by decide) ?_
    refine n_top (show (nI (0)) = (nI ((fitB 4 x y).toNat)) from by rw [show fitB 4 x y = false from decide_eq_false (by omega)]; rfl) ?_
    exact W.zret (v := (nI ((fitB 4 x y).toNat))) hx hb hr (by cases fitB 4 x y <;> rfl) (fun t ht hW => ⟨rfl, ht⟩) (fun q h => by cases h) dX6_fits_82
  ·
    refine lv_iload_n hx hb dX6_fits_72 rfl (lv_at hl 2 rfl) ?_
    refine lv_iconst (v := nI (1)) hx hb dX6_fits_73 (by decide) ?_
    refine n_icmp_ne (tgt := 81) hx hb dX6_fits_74 (by decide) (by omega) (by omega) (fun c_5 => ?_) (fun c_5 => ?_)
    ·
      refine lv_iconst (v := nI (0)) hx hb dX6_fits_81 (by decide) ?_
      refine n_top (show (nI (0)) = (nI ((fitB 4 x y).toNat)) from by rw [show fitB 4 x y = false from decide_eq_false (by omega)]; rfl) ?_
      exact W.zret (v := (nI ((fitB 4 x y).toNat))) hx hb hr (by cases fitB 4 x y <;> rfl) (fun t ht hW => ⟨rfl, ht⟩) (fun q h => by cases h) dX6_fits_82
    ·
      refine lv_iconst (v := nI (1)) hx hb dX6_fits_77 (by decide) ?_
      refine lv_goto (tgt := 82) hx hb dX6_fits_78 (by decide) ?_
      refine n_top (show (nI (1)) = (nI ((fitB 4 x y).toNat)) from by rw [show fitB 4 x y = true from decide_eq_true (by omega)]; rfl) ?_
      exact W.zret (v := (nI ((fitB 4 x y).toNat))) hx hb hr (by cases fitB 4 x y <;> rfl) (fun t ht hW => ⟨rfl, ht⟩) (fun q h => by cases h) dX6_fits_82

theorem c_X6_fits (l : Launch) (d : va_G) (cI cJ cZ : ClassId) (r x y : Nat) (hr : r < 4) (hx6 : x < 6) (hy6 : y < 6) : nRd l yX6_fits wsX6_fits ({ frames := 0, cells := 0, slots := 0, locals := 0 } : Room) d [(cI, .int), (cJ, .long), (cZ, .boolean)] [] [.int (nI (1 + r)), .int (nI x), .int (nI y)] (.int (nI (fitB (1 + r) x y).toNat)) := by
  rcases lt4 hr with rfl | rfl | rfl | rfl
  · exact c_X6_fits_1 l d cI cJ cZ x y hx6 hy6
  · exact c_X6_fits_2 l d cI cJ cZ x y hx6 hy6
  · exact c_X6_fits_3 l d cI cJ cZ x y hx6 hy6
  · exact c_X6_fits_4 l d cI cJ cZ x y hx6 hy6
set_option maxHeartbeats 4000000 in
set_option maxRecDepth 100000 in
theorem c_X6_uses (l : Launch) (d : va_G) (cI cJ cZ : ClassId) (mo xo xd xf xm xr xw xs xc yf yt ye yw : Nat) (vm vb va vp ve vt : Int32) (c0 : Nat) (hc : c0 < 1296) : nUp l yX6_uses wsX6_uses ({ frames := 1, cells := 0, slots := 0, locals := 22 } : Room) d [(cI, .int), (cJ, .long), (cZ, .boolean)] [(mo, .inr (6, [.ref xo, .ref xd, .ref xf, .ref xm, .ref xr, .ref xw, .ref xs, .ref xc, .int (vm), .int (vb), .int (va), .int (vp), .ref yf, .ref yt, .int (ve), .ref ye, .ref yw, .int (vt)])), (xd, .inl (cI, 4, .inl (fun j => nI (dig c0 j))))] [(mo, .inr (6, [.ref xo, .ref xd, .ref xf, .ref xm, .ref xr, .ref xw, .ref xs, .ref xc, .int (vm), .int (vb), .int (va), .int (vp), .ref yf, .ref yt, .int (ve), .ref ye, .ref yw, .int (vt)])), (xd, .inl (cI, 4, .inl (fun j => nI (dig (nx c0) j))))] [.ref mo] (some (.int (nI ((chg c0).toNat)))) := by
  intro sz
  refine Met.ofW (cc := cX6_uses) (maxL := 6) (ret := some .boolean) (by decide) rfl ?_
  intro p e s m args below meth c s₁ B hml hv
  obtain ⟨rfl, hsz, hP, hK, hD0⟩ := hv
  have hx := B.exec
  have hb := B.bytes
  have hr := B.returns
  have hts := atoms_spec (ws := wsX6_uses) B.pre
  have hown : s.vm.findClass RX6 = some m.cls := findClass_of_methodNamed B.named
  have hlocks := B.notSynchronized
  have hfl13 := hts (.fieldLink RX6 13 "NudgelaneModel" "digits" "[I") (by decide +kernel)
  have hin6 : ∀ w ∈ u_ws RX6 TX6 18, w ∈ wsX6_uses := by decide +kernel
  subst hsz
  have hD := hD0.self (sz := s.heap.size)
  generalize hAe : va_A [(mo, .inr (6, [.ref xo, .ref xd, .ref xf, .ref xm, .ref xr, .ref xw, .ref xs, .ref xc, .int (vm), .int (vb), .int (va), .int (vp), .ref yf, .ref yt, .int (ve), .ref ye, .ref yw, .int (vt)])), (xd, .inl (cI, 4, .inl (fun j => nI (dig c0 j))))] s.heap.size = A at hD ⊢
  have hA : ∀ q : Nat, s.heap.size ≤ q → A q := fun q h => by rw [← hAe]; exact Or.inr h
  have hS : va_S A s.heap s.heap [] := va_S.rf
  have hP : va_P d vwCl [(mo, .inr (6, [.ref xo, .ref xd, .ref xf, .ref xm, .ref xr, .ref xw, .ref xs, .ref xc, .int (vm), .int (vb), .int (va), .int (vp), .ref yf, .ref yt, .int (ve), .ref ye, .ref yw, .int (vt)])), (xd, .inl (cI, 4, .inl (fun j => nI (dig c0 j))))] s.heap := hP
  have hl := lv_entry ([.ref mo]) (n := 6) (Nat.le_of_ble_eq_true rfl)
  rw [lg_entry_eq]
  generalize (lg_sl ([.ref mo]) ++ List.replicate (6 - (lg_sl ([.ref mo])).length) Slot.unset).toArray = ls at hl ⊢
  have hl : lv_has ls 6 [(0, .ref mo)] := hl
  refine n_nameQ (fun Q hQ => ?_)
  refine lv_iconst (v := nI (0)) hx hb dX6_uses_0 (by decide) ?_
  refine lv_istore_n (lv' := [(1, .int (nI (0))), (0, .ref mo)]) hx hb dX6_uses_1 rfl hl (by decide) rfl (fun ls hl => ?_)
  have loop : ∀ (n k : Nat), k + n = 12 → nxo c0 = nxF c0 (12 - k) k → ∀ (ls : Array Slot), lv_has ls 6 [(1, .int (nI (k))), (0, .ref mo)] → W p l e ({ frames := 1, cells := 0, slots := 0, locals := 22 } : Room) s m ([.ref mo] : List Value).toArray below meth c s.heap [] 0 0 Q (F0 m 2 ls []) := by
    intro n
    induction n with
    | zero =>
      intro k h1 hnx ls hl
      have hn0 : nxo c0 = none := by rw [hnx, show k = 12 from by omega]; rfl
      refine lv_iload_n hx hb dX6_uses_2 rfl (lv_at hl 0 rfl) ?_
      refine lv_bipush (v := nI (12)) hx hb dX6_uses_3 (by decide) ?_
      refine n_icmp_ge (tgt := 111) hx hb dX6_uses_5 (by decide) (by omega) (by omega) (fun c_1 => ?_) (fun c_1 => ?_)
      ·
        refine lv_iconst (v := nI (0)) hx hb dX6_uses_111 (by decide) ?_
        subst hQ
        rw [show nx c0 = c0 from by unfold nx; rw [hn0]; rfl]
        refine n_top (show (nI (0)) = (nI ((chg c0).toNat)) from by rw [show chg c0 = false from by unfold chg; rw [hn0]; rfl]; rfl) ?_
        exact W.zret (v := (nI ((chg c0).toNat))) hx hb hr (by cases chg c0 <;> rfl) (fun t ht hW => ⟨⟨rfl, by rw [ht]; exact hP, hD⟩, hS.F ht⟩) hS.2.2 dX6_uses_112
      · exact False.elim (by omega)
    | succ n ih =>
      intro k h1 hnx ls hl
      refine lv_iload_n hx hb dX6_uses_2 rfl (lv_at hl 0 rfl) ?_
      refine lv_bipush (v := nI (12)) hx hb dX6_uses_3 (by decide) ?_
      refine n_icmp_ge (tgt := 111) hx hb dX6_uses_5 (by decide) (by omega) (by omega) (fun c_2 => ?_) (fun c_2 => ?_)
      · exact False.elim (by omega)
      ·
        refine lv_iconst (v := nI (1)) hx hb dX6_uses_8 (by decide) ?_
        refine lv_iload_n hx hb dX6_uses_9 rfl (lv_at hl 0 rfl) ?_
        refine lv_iconst (v := nI (3)) hx hb dX6_uses_10 (by decide) ?_
        refine n_div hx hb dX6_uses_11 (by omega) (by omega) (by omega) ?_
        refine n_add hx hb dX6_uses_12 ?_
        refine lv_istore_n (lv' := [(2, .int (nI (1 + (k / 3)))), (1, .int (nI (k))), (0, .ref mo)]) hx hb dX6_uses_13 rfl hl (by decide) rfl (fun ls hl => ?_)
        refine lv_iload_n hx hb dX6_uses_14 rfl (lv_at hl 1 rfl) ?_
        refine lv_iconst (v := nI (3)) hx hb dX6_uses_15 (by decide) ?_
        refine n_rem hx hb dX6_uses_16 (by omega) (by omega) (by omega) ?_
        refine lv_istore_n (lv' := [(3, .int (nI (k % 3))), (2, .int (nI (1 + (k / 3)))), (1, .int (nI (k))), (0, .ref mo)]) hx hb dX6_uses_17 rfl hl (by decide) rfl (fun ls hl => ?_)
        refine lv_iload_n hx hb dX6_uses_18 rfl (lv_at hl 1 rfl) ?_
        refine lv_aload_n hx hb dX6_uses_19 rfl (lv_at hl 3 rfl) ?_
        refine va_get (D := d) (ci := 6) (v := .ref xd) (C := RX6) (T := TX6) (N := 18) hx hb hts hin6 hown hK hP 0 rfl rfl 1 (by decide) hfl13 (fun _ h9 => h9) rfl dX6_uses_20 ?_
        refine lv_iload_n hx hb dX6_uses_23 rfl (lv_at hl 0 rfl) ?_
        refine n_iald hx hb hK hP 1 0 rfl rfl (k := k % 3) (by omega) (by omega) dX6_uses_24 ?_
        refine lv_aload_n hx hb dX6_uses_25 rfl (lv_at hl 3 rfl) ?_
        refine va_get (D := d) (ci := 6) (v := .ref xd) (C := RX6) (T := TX6) (N := 18) hx hb hts hin6 hown hK hP 0 rfl rfl 1 (by decide) hfl13 (fun _ h9 => h9) rfl dX6_uses_26 ?_
        refine lv_iload_n hx hb dX6_uses_29 rfl (lv_at hl 0 rfl) ?_
        refine lv_iconst (v := nI (1)) hx hb dX6_uses_30 (by decide) ?_
        refine n_add hx hb dX6_uses_31 ?_
        refine n_iald hx hb hK hP 1 0 rfl rfl (k := (k % 3) + 1) (by omega) (by omega) dX6_uses_32 ?_
        refine n_rdS (As := [.int (nI (1 + (k / 3))), .int (nI (dig c0 (k % 3))), .int (nI (dig c0 ((k % 3) + 1)))]) (rest := []) (WC := []) ⟨hx, hb, hml, hown, hts⟩ (c_X6_fits l d cI cJ cZ (k / 3) (dig c0 (k % 3)) (dig c0 ((k % 3) + 1)) (by omega) (dig_lt _ _) (dig_lt _ _)) (cwS 3 hts gX6_uses_X6_fits rfl rfl rfl (by decide +kernel) ⟨Nat.le_of_ble_eq_true rfl, Nat.le_of_ble_eq_true rfl⟩) (hP.sub [] rfl) hK rfl hl.1 rfl (Nat.le_of_ble_eq_true rfl) dX6_uses_33 ⟨Nat.zero_le _, Nat.zero_le _⟩ ?_
        have hfk : fkb c0 k = fitB (1 + k / 3) (dig c0 (k % 3)) (dig c0 (k % 3 + 1)) := rfl
        have hn1 : 12 - k = (12 - (k + 1)) + 1 := by omega
        refine n_ifeq (tgt := 105) hx hb dX6_uses_36 (by decide) (by cases fitB (1 + k / 3) (dig c0 (k % 3)) (dig c0 (k % 3 + 1)) <;> decide) (fun c_3 => ?_) (fun c_3 => ?_)
        ·
          have hff : fkb c0 k = false := by rw [hfk]; cases hz : fitB (1 + k / 3) (dig c0 (k % 3)) (dig c0 (k % 3 + 1)) with | false => rfl | true => rw [hz] at c_3; exact absurd c_3 (by decide)
          refine lv_iinc (v := nI (k + 1)) (lv' := [(1, .int (nI (k + 1))), (3, .int (nI (k % 3))), (2, .int (nI (1 + (k / 3)))), (0, .ref mo)]) hx hb dX6_uses_105 hl (k := 2) rfl (n_inc1 _) (by decide) rfl (fun ls hl => ?_)
          refine lv_goto (tgt := 2) hx hb dX6_uses_108 (by decide) ?_
          exact ih (k + 1) (by omega) (by rw [hnx, hn1]; show (if fkb c0 k = true then _ else _) = _; rw [hff]; rfl) ls (lv_sub hl [0, 3] rfl)
        ·
          have hff : fkb c0 k = true := by rw [hfk]; cases hz : fitB (1 + k / 3) (dig c0 (k % 3)) (dig c0 (k % 3 + 1)) with | true => rfl | false => rw [hz] at c_3; exact absurd rfl c_3
          have hn0 : nxo c0 = some (stp c0 k) := by rw [hnx, hn1]; show (if fkb c0 k = true then _ else _) = _; rw [hff]; rfl
          have hstp := (stp_ok hc (show k < 12 from by omega) hff).2
          refine lv_aload_n hx hb dX6_uses_39 rfl (lv_at hl 3 rfl) ?_
          refine va_get (D := d) (ci := 6) (v := .ref xd) (C := RX6) (T := TX6) (N := 18) hx hb hts hin6 hown hK hP 0 rfl rfl 1 (by decide) hfl13 (fun _ h9 => h9) rfl dX6_uses_40 ?_
          refine lv_iload_n hx hb dX6_uses_43 rfl (lv_at hl 0 rfl) ?_
          refine n_iald hx hb hK hP 1 0 rfl rfl (k := k % 3) (by omega) (by omega) dX6_uses_44 ?_
          refine lv_istore (lv' := [(4, .int (nI (dig c0 (k % 3)))), (3, .int (nI (k % 3))), (2, .int (nI (1 + (k / 3)))), (1, .int (nI (k))), (0, .ref mo)]) hx hb dX6_uses_45 hl (by decide) rfl (fun ls hl => ?_)
          refine lv_aload_n hx hb dX6_uses_47 rfl (lv_at hl 4 rfl) ?_
          refine va_get (D := d) (ci := 6) (v := .ref xd) (C := RX6) (T := TX6) (N := 18) hx hb hts hin6 hown hK hP 0 rfl rfl 1 (by decide) hfl13 (fun _ h9 => h9) rfl dX6_uses_48 ?_
          refine lv_iload_n hx hb dX6_uses_51 rfl (lv_at hl 1 rfl) ?_
          refine lv_iconst (v := nI (1)) hx hb dX6_uses_52 (by decide) ?_
          refine n_add hx hb dX6_uses_53 ?_
          refine n_iald hx hb hK hP 1 0 rfl rfl (k := (k % 3) + 1) (by omega) (by omega) dX6_uses_54 ?_
          refine lv_istore (lv' := [(5, .int (nI (dig c0 ((k % 3) + 1)))), (4, .int (nI (dig c0 (k % 3)))), (3, .int (nI (k % 3))), (2, .int (nI (1 + (k / 3)))), (1, .int (nI (k))), (0, .ref mo)]) hx hb dX6_uses_55 hl (by decide) rfl (fun ls hl => ?_)
          refine lv_aload_n hx hb dX6_uses_57 rfl (lv_at hl 5 rfl) ?_
          refine va_get (D := d) (ci := 6) (v := .ref xd) (C := RX6) (T := TX6) (N := 18) hx hb hts hin6 hown hK hP 0 rfl rfl 1 (by decide) hfl13 (fun _ h9 => h9) rfl dX6_uses_58 ?_
          refine lv_iload_n hx hb dX6_uses_61 rfl (lv_at hl 2 rfl) ?_
          refine lv_iload_n hx hb dX6_uses_62 rfl (lv_at hl 3 rfl) ?_
          refine lv_iconst (v := nI (4)) hx hb dX6_uses_63 (by decide) ?_
          refine n_icmp_ne (tgt := 71) hx hb dX6_uses_64 (by decide) (by omega) (by omega) (fun c_4 => ?_) (fun c_4 => ?_)
          ·
            refine lv_iload_n hx hb dX6_uses_71 rfl (lv_at hl 3 rfl) ?_
            refine lv_iconst (v := nI (3)) hx hb dX6_uses_72 (by decide) ?_
            refine n_icmp_ne (tgt := 81) hx hb dX6_uses_73 (by decide) (by omega) (by omega) (fun c_5 => ?_) (fun c_5 => ?_)
            ·
              refine lv_iload hx hb dX6_uses_81 (lv_at hl 0 rfl) ?_
              refine n_iast (ws' := [(mo, .inr (6, [.ref xo, .ref xd, .ref xf, .ref xm, .ref xr, .ref xw, .ref xs, .ref xc, .int (vm), .int (vb), .int (va), .int (vp), .ref yf, .ref yt, .int (ve), .ref ye, .ref yw, .int (vt)])), (xd, .inl (cI, 4, .inl (upd (fun j => nI (dig c0 j)) (k % 3) (nI (dig c0 ((k % 3) + 1))))))]) hx hb hK hP hD hS 1 0 rfl rfl (k := k % 3) (by omega) (by omega) dX6_uses_83 rfl (fun H locs hP hD hS => ?_)
              refine lv_aload_n hx hb dX6_uses_84 rfl (lv_at hl 5 rfl) ?_
              refine va_get (D := d) (ci := 6) (v := .ref xd) (C := RX6) (T := TX6) (N := 18) hx hb hts hin6 hown hK hP 0 rfl rfl 1 (by decide) hfl13 (fun _ h9 => h9) rfl dX6_uses_85 ?_
              refine lv_iload_n hx hb dX6_uses_88 rfl (lv_at hl 2 rfl) ?_
              refine lv_iconst (v := nI (1)) hx hb dX6_uses_89 (by decide) ?_
              refine n_add hx hb dX6_uses_90 ?_
              refine lv_iload_n hx hb dX6_uses_91 rfl (lv_at hl 3 rfl) ?_
              refine lv_iconst (v := nI (2)) hx hb dX6_uses_92 (by decide) ?_
              refine n_icmp_le (tgt := 100) hx hb dX6_uses_93 (by decide) (by omega) (by omega) (fun c_6 => ?_) (fun c_6 => ?_)
              ·
                refine lv_iload hx hb dX6_uses_100 (lv_at hl 1 rfl) ?_
                refine n_iast (ws' := [(mo, .inr (6, [.ref xo, .ref xd, .ref xf, .ref xm, .ref xr, .ref xw, .ref xs, .ref xc, .int (vm), .int (vb), .int (va), .int (vp), .ref yf, .ref yt, .int (ve), .ref ye, .ref yw, .int (vt)])), (xd, .inl (cI, 4, .inl (upd (upd (fun j => nI (dig c0 j)) (k % 3) (nI (dig c0 ((k % 3) + 1)))) ((k % 3) + 1) (nI (dig c0 (k % 3))))))]) hx hb hK hP hD hS 1 0 rfl rfl (k := (k % 3) + 1) (by omega) (by omega) dX6_uses_102 rfl (fun H locs hP hD hS => ?_)
                refine lv_iconst (v := nI (1)) hx hb dX6_uses_103 (by decide) ?_
                obtain ⟨hP, hD⟩ := n_cg (ws' := [(mo, .inr (6, [.ref xo, .ref xd, .ref xf, .ref xm, .ref xr, .ref xw, .ref xs, .ref xc, .int (vm), .int (vb), .int (va), .int (vp), .ref yf, .ref yt, .int (ve), .ref ye, .ref yw, .int (vt)])), (xd, .inl (cI, 4, .inl (fun j => nI (dig (stp c0 k) j))))]) hP hD 1 rfl (by intro j hj; have h := hstp j hj; (first | rw [if_pos (show k < 6 by omega)] at h | rw [if_neg (show ¬ k < 6 by omega), if_pos (show k < 9 by omega)] at h | rw [if_neg (show ¬ k < 6 by omega), if_neg (show ¬ k < 9 by omega)] at h); rw [h]; unfold upd; by_cases h1 : j = k % 3 + 1 <;> by_cases h2 : j = k % 3 <;> simp [h1, h2] <;> omega) rfl
                subst hQ
                rw [show nx c0 = stp c0 k from by unfold nx; rw [hn0]; rfl]
                refine n_top (show (nI (1)) = (nI ((chg c0).toNat)) from by rw [show chg c0 = true from by unfold chg; rw [hn0]; rfl]; rfl) ?_
                exact W.zret (v := (nI ((chg c0).toNat))) hx hb hr (by cases chg c0 <;> rfl) (fun t ht hW => ⟨⟨rfl, by rw [ht]; exact hP, hD⟩, hS.F ht⟩) hS.2.2 dX6_uses_104
              ·
                exact False.elim (by omega)
            ·
              refine lv_iload hx hb dX6_uses_76 (lv_at hl 1 rfl) ?_
              refine lv_goto (tgt := 83) hx hb dX6_uses_78 (by decide) ?_
              refine n_iast (ws' := [(mo, .inr (6, [.ref xo, .ref xd, .ref xf, .ref xm, .ref xr, .ref xw, .ref xs, .ref xc, .int (vm), .int (vb), .int (va), .int (vp), .ref yf, .ref yt, .int (ve), .ref ye, .ref yw, .int (vt)])), (xd, .inl (cI, 4, .inl (upd (fun j => nI (dig c0 j)) (k % 3) (nI (dig c0 (k % 3))))))]) hx hb hK hP hD hS 1 0 rfl rfl (k := k % 3) (by omega) (by omega) dX6_uses_83 rfl (fun H locs hP hD hS => ?_)
              refine lv_aload_n hx hb dX6_uses_84 rfl (lv_at hl 5 rfl) ?_
              refine va_get (D := d) (ci := 6) (v := .ref xd) (C := RX6) (T := TX6) (N := 18) hx hb hts hin6 hown hK hP 0 rfl rfl 1 (by decide) hfl13 (fun _ h9 => h9) rfl dX6_uses_85 ?_
              refine lv_iload_n hx hb dX6_uses_88 rfl (lv_at hl 2 rfl) ?_
              refine lv_iconst (v := nI (1)) hx hb dX6_uses_89 (by decide) ?_
              refine n_add hx hb dX6_uses_90 ?_
              refine lv_iload_n hx hb dX6_uses_91 rfl (lv_at hl 3 rfl) ?_
              refine lv_iconst (v := nI (2)) hx hb dX6_uses_92 (by decide) ?_
              refine n_icmp_le (tgt := 100) hx hb dX6_uses_93 (by decide) (by omega) (by omega) (fun c_7 => ?_) (fun c_7 => ?_)
              ·
                exact False.elim (by omega)
              ·
                refine lv_iconst (v := nI (0)) hx hb dX6_uses_96 (by decide) ?_
                refine lv_goto (tgt := 102) hx hb dX6_uses_97 (by decide) ?_
                refine n_iast (ws' := [(mo, .inr (6, [.ref xo, .ref xd, .ref xf, .ref xm, .ref xr, .ref xw, .ref xs, .ref xc, .int (vm), .int (vb), .int (va), .int (vp), .ref yf, .ref yt, .int (ve), .ref ye, .ref yw, .int (vt)])), (xd, .inl (cI, 4, .inl (upd (upd (fun j => nI (dig c0 j)) (k % 3) (nI (dig c0 (k % 3)))) ((k % 3) + 1) (nI (0)))))]) hx hb hK hP hD hS 1 0 rfl rfl (k := (k % 3) + 1) (by omega) (by omega) dX6_uses_102 rfl (fun H locs hP hD hS => ?_)
                refine lv_iconst (v := nI (1)) hx hb dX6_uses_103 (by decide) ?_
                obtain ⟨hP, hD⟩ := n_cg (ws' := [(mo, .inr (6, [.ref xo, .ref xd, .ref xf, .ref xm, .ref xr, .ref xw, .ref xs, .ref xc, .int (vm), .int (vb), .int (va), .int (vp), .ref yf, .ref yt, .int (ve), .ref ye, .ref yw, .int (vt)])), (xd, .inl (cI, 4, .inl (fun j => nI (dig (stp c0 k) j))))]) hP hD 1 rfl (by intro j hj; have h := hstp j hj; (first | rw [if_pos (show k < 6 by omega)] at h | rw [if_neg (show ¬ k < 6 by omega), if_pos (show k < 9 by omega)] at h | rw [if_neg (show ¬ k < 6 by omega), if_neg (show ¬ k < 9 by omega)] at h); rw [h]; unfold upd; by_cases h1 : j = k % 3 + 1 <;> by_cases h2 : j = k % 3 <;> simp [h1, h2] <;> omega) rfl
                subst hQ
                rw [show nx c0 = stp c0 k from by unfold nx; rw [hn0]; rfl]
                refine n_top (show (nI (1)) = (nI ((chg c0).toNat)) from by rw [show chg c0 = true from by unfold chg; rw [hn0]; rfl]; rfl) ?_
                exact W.zret (v := (nI ((chg c0).toNat))) hx hb hr (by cases chg c0 <;> rfl) (fun t ht hW => ⟨⟨rfl, by rw [ht]; exact hP, hD⟩, hS.F ht⟩) hS.2.2 dX6_uses_104
          ·
            refine lv_iconst (v := nI (0)) hx hb dX6_uses_67 (by decide) ?_
            refine lv_goto (tgt := 83) hx hb dX6_uses_68 (by decide) ?_
            refine n_iast (ws' := [(mo, .inr (6, [.ref xo, .ref xd, .ref xf, .ref xm, .ref xr, .ref xw, .ref xs, .ref xc, .int (vm), .int (vb), .int (va), .int (vp), .ref yf, .ref yt, .int (ve), .ref ye, .ref yw, .int (vt)])), (xd, .inl (cI, 4, .inl (upd (fun j => nI (dig c0 j)) (k % 3) (nI (0)))))]) hx hb hK hP hD hS 1 0 rfl rfl (k := k % 3) (by omega) (by omega) dX6_uses_83 rfl (fun H locs hP hD hS => ?_)
            refine lv_aload_n hx hb dX6_uses_84 rfl (lv_at hl 5 rfl) ?_
            refine va_get (D := d) (ci := 6) (v := .ref xd) (C := RX6) (T := TX6) (N := 18) hx hb hts hin6 hown hK hP 0 rfl rfl 1 (by decide) hfl13 (fun _ h9 => h9) rfl dX6_uses_85 ?_
            refine lv_iload_n hx hb dX6_uses_88 rfl (lv_at hl 2 rfl) ?_
            refine lv_iconst (v := nI (1)) hx hb dX6_uses_89 (by decide) ?_
            refine n_add hx hb dX6_uses_90 ?_
            refine lv_iload_n hx hb dX6_uses_91 rfl (lv_at hl 3 rfl) ?_
            refine lv_iconst (v := nI (2)) hx hb dX6_uses_92 (by decide) ?_
            refine n_icmp_le (tgt := 100) hx hb dX6_uses_93 (by decide) (by omega) (by omega) (fun c_8 => ?_) (fun c_8 => ?_)
            ·
              exact False.elim (by omega)
            ·
              refine lv_iconst (v := nI (0)) hx hb dX6_uses_96 (by decide) ?_
              refine lv_goto (tgt := 102) hx hb dX6_uses_97 (by decide) ?_
              refine n_iast (ws' := [(mo, .inr (6, [.ref xo, .ref xd, .ref xf, .ref xm, .ref xr, .ref xw, .ref xs, .ref xc, .int (vm), .int (vb), .int (va), .int (vp), .ref yf, .ref yt, .int (ve), .ref ye, .ref yw, .int (vt)])), (xd, .inl (cI, 4, .inl (upd (upd (fun j => nI (dig c0 j)) (k % 3) (nI (0))) ((k % 3) + 1) (nI (0)))))]) hx hb hK hP hD hS 1 0 rfl rfl (k := (k % 3) + 1) (by omega) (by omega) dX6_uses_102 rfl (fun H locs hP hD hS => ?_)
              refine lv_iconst (v := nI (1)) hx hb dX6_uses_103 (by decide) ?_
              obtain ⟨hP, hD⟩ := n_cg (ws' := [(mo, .inr (6, [.ref xo, .ref xd, .ref xf, .ref xm, .ref xr, .ref xw, .ref xs, .ref xc, .int (vm), .int (vb), .int (va), .int (vp), .ref yf, .ref yt, .int (ve), .ref ye, .ref yw, .int (vt)])), (xd, .inl (cI, 4, .inl (fun j => nI (dig (stp c0 k) j))))]) hP hD 1 rfl (by intro j hj; have h := hstp j hj; (first | rw [if_pos (show k < 6 by omega)] at h | rw [if_neg (show ¬ k < 6 by omega), if_pos (show k < 9 by omega)] at h | rw [if_neg (show ¬ k < 6 by omega), if_neg (show ¬ k < 9 by omega)] at h); rw [h]; unfold upd; by_cases h1 : j = k % 3 + 1 <;> by_cases h2 : j = k % 3 <;> simp [h1, h2] <;> omega) rfl
              subst hQ
              rw [show nx c0 = stp c0 k from by unfold nx; rw [hn0]; rfl]
              refine n_top (show (nI (1)) = (nI ((chg c0).toNat)) from by rw [show chg c0 = true from by unfold chg; rw [hn0]; rfl]; rfl) ?_
              exact W.zret (v := (nI ((chg c0).toNat))) hx hb hr (by cases chg c0 <;> rfl) (fun t ht hW => ⟨⟨rfl, by rw [ht]; exact hP, hD⟩, hS.F ht⟩) hS.2.2 dX6_uses_104
  exact loop 12 0 rfl rfl ls (lv_sub hl [0, 1] rfl)

set_option maxHeartbeats 4000000 in
set_option maxRecDepth 100000 in
theorem c_X6_formed (l : Launch) (d : va_G) (cI cJ cZ : ClassId) (mo xo xd xf xm xr xw xs xc yf yt ye yw : Nat) (vm vb va vp ve vt : Int32) (c0 : Nat) (f : Nat → Int32) (hc : c0 < 1296) : nUp l yX6_formed wsX6_formed ({ frames := 2, cells := 0, slots := 0, locals := 47 } : Room) d [(cI, .int), (cJ, .long), (cZ, .boolean)] [(mo, .inr (6, [.ref xo, .ref xd, .ref xf, .ref xm, .ref xr, .ref xw, .ref xs, .ref xc, .int (vm), .int (vb), .int (va), .int (vp), .ref yf, .ref yt, .int (ve), .ref ye, .ref yw, .int (vt)])), (xd, .inl (cI, 4, .inl (f)))] [(mo, .inr (6, [.ref xo, .ref xd, .ref xf, .ref xm, .ref xr, .ref xw, .ref xs, .ref xc, .int (vm), .int (vb), .int (va), .int (vp), .ref yf, .ref yt, .int (ve), .ref ye, .ref yw, .int (vt)])), (xd, .inl (cI, 4, .inl (fun j => nI (dig (form c0) j))))] [.ref mo, .int (nI (c0))] (some (.int (nI (form c0)))) := by
  intro sz
  refine Met.ofW (cc := cX6_formed) (maxL := 4) (ret := some .int) (by decide) rfl ?_
  intro p e s m args below meth c s₁ B hml hv
  obtain ⟨rfl, hsz, hP, hK, hD0⟩ := hv
  have hx := B.exec
  have hb := B.bytes
  have hr := B.returns
  have hts := atoms_spec (ws := wsX6_formed) B.pre
  have hown : s.vm.findClass RX6 = some m.cls := findClass_of_methodNamed B.named
  have hlocks := B.notSynchronized
  have hfl13 := hts (.fieldLink RX6 13 "NudgelaneModel" "digits" "[I") (by decide +kernel)
  have hin6 : ∀ w ∈ u_ws RX6 TX6 18, w ∈ wsX6_formed := by decide +kernel
  subst hsz
  have hD := hD0.self (sz := s.heap.size)
  generalize hAe : va_A [(mo, .inr (6, [.ref xo, .ref xd, .ref xf, .ref xm, .ref xr, .ref xw, .ref xs, .ref xc, .int (vm), .int (vb), .int (va), .int (vp), .ref yf, .ref yt, .int (ve), .ref ye, .ref yw, .int (vt)])), (xd, .inl (cI, 4, .inl (f)))] s.heap.size = A at hD ⊢
  have hA : ∀ q : Nat, s.heap.size ≤ q → A q := fun q h => by rw [← hAe]; exact Or.inr h
  have hS : va_S A s.heap s.heap [] := va_S.rf
  have hP : va_P d vwCl [(mo, .inr (6, [.ref xo, .ref xd, .ref xf, .ref xm, .ref xr, .ref xw, .ref xs, .ref xc, .int (vm), .int (vb), .int (va), .int (vp), .ref yf, .ref yt, .int (ve), .ref ye, .ref yw, .int (vt)])), (xd, .inl (cI, 4, .inl (f)))] s.heap := hP
  have hl := lv_entry ([.ref mo, .int (nI (c0))]) (n := 4) (Nat.le_of_ble_eq_true rfl)
  rw [lg_entry_eq]
  generalize (lg_sl ([.ref mo, .int (nI (c0))]) ++ List.replicate (4 - (lg_sl ([.ref mo, .int (nI (c0))])).length) Slot.unset).toArray = ls at hl ⊢
  have hl : lv_has ls 4 [(0, .ref mo), (1, .int (nI (c0)))] := hl
  refine n_nameQ (fun Q hQ => ?_)
  refine lv_iload_n hx hb dX6_formed_0 rfl (lv_at hl 1 rfl) ?_
  refine lv_istore_n (lv' := [(2, .int (nI (c0))), (0, .ref mo), (1, .int (nI (c0)))]) hx hb dX6_formed_1 rfl hl (by decide) rfl (fun ls hl => ?_)
  refine lv_iconst (v := nI (3)) hx hb dX6_formed_2 (by decide) ?_
  refine lv_istore_n (lv' := [(3, .int (nI (3))), (2, .int (nI (c0))), (0, .ref mo), (1, .int (nI (c0)))]) hx hb dX6_formed_3 rfl hl (by decide) rfl (fun ls hl => ?_)
  refine lv_iload_n hx hb dX6_formed_4 rfl (lv_at hl 0 rfl) ?_
  refine n_iflt (tgt := 29) hx hb dX6_formed_5 (by decide) (by decide) ?_
  refine lv_aload_n hx hb dX6_formed_8 rfl (lv_at hl 2 rfl) ?_
  refine va_get (D := d) (ci := 6) (v := .ref xd) (C := RX6) (T := TX6) (N := 18) hx hb hts hin6 hown hK hP 0 rfl rfl 1 (by decide) hfl13 (fun _ h9 => h9) rfl dX6_formed_9 ?_
  refine lv_iload_n hx hb dX6_formed_12 rfl (lv_at hl 0 rfl) ?_
  refine lv_iload_n hx hb dX6_formed_13 rfl (lv_at hl 1 rfl) ?_
  refine lv_bipush (v := nI (6)) hx hb dX6_formed_14 (by decide) ?_
  refine n_rem hx hb dX6_formed_16 (by omega) (by decide) (by decide) ?_
  refine n_iast (ws' := [(mo, .inr (6, [.ref xo, .ref xd, .ref xf, .ref xm, .ref xr, .ref xw, .ref xs, .ref xc, .int (vm), .int (vb), .int (va), .int (vp), .ref yf, .ref yt, .int (ve), .ref ye, .ref yw, .int (vt)])), (xd, .inl (cI, 4, .inl (upd f 3 (nI (c0 % 6)))))]) hx hb hK hP hD hS 1 0 rfl rfl (k := 3) (by decide) (by decide) dX6_formed_17 rfl (fun H locs hP hD hS => ?_)
  refine lv_iload_n hx hb dX6_formed_18 rfl (lv_at hl 1 rfl) ?_
  refine lv_bipush (v := nI (6)) hx hb dX6_formed_19 (by decide) ?_
  refine n_div hx hb dX6_formed_21 (by omega) (by decide) (by decide) ?_
  refine lv_istore_n (lv' := [(2, .int (nI (c0 / 6))), (3, .int (nI (3))), (0, .ref mo), (1, .int (nI (c0)))]) hx hb dX6_formed_22 rfl hl (by decide) rfl (fun ls hl => ?_)
  refine lv_iinc (v := nI (2)) (lv' := [(3, .int (nI (2))), (2, .int (nI (c0 / 6))), (0, .ref mo), (1, .int (nI (c0)))]) hx hb dX6_formed_23 hl (k := 1) rfl (by decide) (by decide) rfl (fun ls hl => ?_)
  refine lv_goto (tgt := 4) hx hb dX6_formed_26 (by decide) ?_
  refine lv_iload_n hx hb dX6_formed_4 rfl (lv_at hl 0 rfl) ?_
  refine n_iflt (tgt := 29) hx hb dX6_formed_5 (by decide) (by decide) ?_
  refine lv_aload_n hx hb dX6_formed_8 rfl (lv_at hl 2 rfl) ?_
  refine va_get (D := d) (ci := 6) (v := .ref xd) (C := RX6) (T := TX6) (N := 18) hx hb hts hin6 hown hK hP 0 rfl rfl 1 (by decide) hfl13 (fun _ h9 => h9) rfl dX6_formed_9 ?_
  refine lv_iload_n hx hb dX6_formed_12 rfl (lv_at hl 0 rfl) ?_
  refine lv_iload_n hx hb dX6_formed_13 rfl (lv_at hl 1 rfl) ?_
  refine lv_bipush (v := nI (6)) hx hb dX6_formed_14 (by decide) ?_
  refine n_rem hx hb dX6_formed_16 (by omega) (by decide) (by decide) ?_
  refine n_iast (ws' := [(mo, .inr (6, [.ref xo, .ref xd, .ref xf, .ref xm, .ref xr, .ref xw, .ref xs, .ref xc, .int (vm), .int (vb), .int (va), .int (vp), .ref yf, .ref yt, .int (ve), .ref ye, .ref yw, .int (vt)])), (xd, .inl (cI, 4, .inl (upd (upd f 3 (nI (c0 % 6))) 2 (nI ((c0 / 6) % 6)))))]) hx hb hK hP hD hS 1 0 rfl rfl (k := 2) (by decide) (by decide) dX6_formed_17 rfl (fun H locs hP hD hS => ?_)
  refine lv_iload_n hx hb dX6_formed_18 rfl (lv_at hl 1 rfl) ?_
  refine lv_bipush (v := nI (6)) hx hb dX6_formed_19 (by decide) ?_
  refine n_div hx hb dX6_formed_21 (by omega) (by decide) (by decide) ?_
  refine lv_istore_n (lv' := [(2, .int (nI ((c0 / 6) / 6))), (3, .int (nI (2))), (0, .ref mo), (1, .int (nI (c0)))]) hx hb dX6_formed_22 rfl hl (by decide) rfl (fun ls hl => ?_)
  refine lv_iinc (v := nI (1)) (lv' := [(3, .int (nI (1))), (2, .int (nI ((c0 / 6) / 6))), (0, .ref mo), (1, .int (nI (c0)))]) hx hb dX6_formed_23 hl (k := 1) rfl (by decide) (by decide) rfl (fun ls hl => ?_)
  refine lv_goto (tgt := 4) hx hb dX6_formed_26 (by decide) ?_
  refine lv_iload_n hx hb dX6_formed_4 rfl (lv_at hl 0 rfl) ?_
  refine n_iflt (tgt := 29) hx hb dX6_formed_5 (by decide) (by decide) ?_
  refine lv_aload_n hx hb dX6_formed_8 rfl (lv_at hl 2 rfl) ?_
  refine va_get (D := d) (ci := 6) (v := .ref xd) (C := RX6) (T := TX6) (N := 18) hx hb hts hin6 hown hK hP 0 rfl rfl 1 (by decide) hfl13 (fun _ h9 => h9) rfl dX6_formed_9 ?_
  refine lv_iload_n hx hb dX6_formed_12 rfl (lv_at hl 0 rfl) ?_
  refine lv_iload_n hx hb dX6_formed_13 rfl (lv_at hl 1 rfl) ?_
  refine lv_bipush (v := nI (6)) hx hb dX6_formed_14 (by decide) ?_
  refine n_rem hx hb dX6_formed_16 (by omega) (by decide) (by decide) ?_
  refine n_iast (ws' := [(mo, .inr (6, [.ref xo, .ref xd, .ref xf, .ref xm, .ref xr, .ref xw, .ref xs, .ref xc, .int (vm), .int (vb), .int (va), .int (vp), .ref yf, .ref yt, .int (ve), .ref ye, .ref yw, .int (vt)])), (xd, .inl (cI, 4, .inl (upd (upd (upd f 3 (nI (c0 % 6))) 2 (nI ((c0 / 6) % 6))) 1 (nI (((c0 / 6) / 6) % 6)))))]) hx hb hK hP hD hS 1 0 rfl rfl (k := 1) (by decide) (by decide) dX6_formed_17 rfl (fun H locs hP hD hS => ?_)
  refine lv_iload_n hx hb dX6_formed_18 rfl (lv_at hl 1 rfl) ?_
  refine lv_bipush (v := nI (6)) hx hb dX6_formed_19 (by decide) ?_
  refine n_div hx hb dX6_formed_21 (by omega) (by decide) (by decide) ?_
  refine lv_istore_n (lv' := [(2, .int (nI (((c0 / 6) / 6) / 6))), (3, .int (nI (1))), (0, .ref mo), (1, .int (nI (c0)))]) hx hb dX6_formed_22 rfl hl (by decide) rfl (fun ls hl => ?_)
  refine lv_iinc (v := nI (0)) (lv' := [(3, .int (nI (0))), (2, .int (nI (((c0 / 6) / 6) / 6))), (0, .ref mo), (1, .int (nI (c0)))]) hx hb dX6_formed_23 hl (k := 1) rfl (by decide) (by decide) rfl (fun ls hl => ?_)
  refine lv_goto (tgt := 4) hx hb dX6_formed_26 (by decide) ?_
  refine lv_iload_n hx hb dX6_formed_4 rfl (lv_at hl 0 rfl) ?_
  refine n_iflt (tgt := 29) hx hb dX6_formed_5 (by decide) (by decide) ?_
  refine lv_aload_n hx hb dX6_formed_8 rfl (lv_at hl 2 rfl) ?_
  refine va_get (D := d) (ci := 6) (v := .ref xd) (C := RX6) (T := TX6) (N := 18) hx hb hts hin6 hown hK hP 0 rfl rfl 1 (by decide) hfl13 (fun _ h9 => h9) rfl dX6_formed_9 ?_
  refine lv_iload_n hx hb dX6_formed_12 rfl (lv_at hl 0 rfl) ?_
  refine lv_iload_n hx hb dX6_formed_13 rfl (lv_at hl 1 rfl) ?_
  refine lv_bipush (v := nI (6)) hx hb dX6_formed_14 (by decide) ?_
  refine n_rem hx hb dX6_formed_16 (by omega) (by decide) (by decide) ?_
  refine n_iast (ws' := [(mo, .inr (6, [.ref xo, .ref xd, .ref xf, .ref xm, .ref xr, .ref xw, .ref xs, .ref xc, .int (vm), .int (vb), .int (va), .int (vp), .ref yf, .ref yt, .int (ve), .ref ye, .ref yw, .int (vt)])), (xd, .inl (cI, 4, .inl (upd (upd (upd (upd f 3 (nI (c0 % 6))) 2 (nI ((c0 / 6) % 6))) 1 (nI (((c0 / 6) / 6) % 6))) 0 (nI ((((c0 / 6) / 6) / 6) % 6)))))]) hx hb hK hP hD hS 1 0 rfl rfl (k := 0) (by decide) (by decide) dX6_formed_17 rfl (fun H locs hP hD hS => ?_)
  refine lv_iload_n hx hb dX6_formed_18 rfl (lv_at hl 1 rfl) ?_
  refine lv_bipush (v := nI (6)) hx hb dX6_formed_19 (by decide) ?_
  refine n_div hx hb dX6_formed_21 (by omega) (by decide) (by decide) ?_
  refine lv_istore_n (lv' := [(2, .int (nI ((((c0 / 6) / 6) / 6) / 6))), (3, .int (nI (0))), (0, .ref mo), (1, .int (nI (c0)))]) hx hb dX6_formed_22 rfl hl (by decide) rfl (fun ls hl => ?_)
  refine lv_iinc (v := (-1)) (lv' := [(3, .int (-1)), (2, .int (nI ((((c0 / 6) / 6) / 6) / 6))), (0, .ref mo), (1, .int (nI (c0)))]) hx hb dX6_formed_23 hl (k := 1) rfl (by decide) (by decide) rfl (fun ls hl => ?_)
  refine lv_goto (tgt := 4) hx hb dX6_formed_26 (by decide) ?_
  refine lv_iload_n hx hb dX6_formed_4 rfl (lv_at hl 0 rfl) ?_
  refine lv_if_lt (tgt := 29) hx hb dX6_formed_5 (by decide) (fun c_5 => ?_) (fun c_5 => ?_)
  rotate_left
  · exact absurd c_5 (fun h => h (by decide))
  obtain ⟨hP, hD⟩ := n_cg (ws' := [(mo, .inr (6, [.ref xo, .ref xd, .ref xf, .ref xm, .ref xr, .ref xw, .ref xs, .ref xc, .int (vm), .int (vb), .int (va), .int (vp), .ref yf, .ref yt, .int (ve), .ref ye, .ref yw, .int (vt)])), (xd, .inl (cI, 4, .inl (fun j => nI (dig c0 j))))]) hP hD 1 rfl (by intro j hj; rcases lt4 hj with rfl | rfl | rfl | rfl <;> simp only [upd, dig, wt] <;> simp <;> (try (congr 1; omega))) rfl
  refine lv_iconst (v := nI (1)) hx hb dX6_formed_29 (by decide) ?_
  refine lv_istore_n (lv' := [(3, .int (nI (1))), (2, .int (nI ((((c0 / 6) / 6) / 6) / 6))), (0, .ref mo), (1, .int (nI (c0)))]) hx hb dX6_formed_30 rfl hl (by decide) rfl (fun ls hl => ?_)
  have loop : ∀ (n x : Nat) (g : Bool), x < 1296 → nfF n x = form c0 → tm n x = true → (g = false → x = form c0) → ∀ (H : Heap) (locs : List Loc), va_P d vwCl [(mo, .inr (6, [.ref xo, .ref xd, .ref xf, .ref xm, .ref xr, .ref xw, .ref xs, .ref xc, .int (vm), .int (vb), .int (va), .int (vp), .ref yf, .ref yt, .int (ve), .ref ye, .ref yw, .int (vt)])), (xd, .inl (cI, 4, .inl (fun j => nI (dig x j))))] H → va_D A [(mo, .inr (6, [.ref xo, .ref xd, .ref xf, .ref xm, .ref xr, .ref xw, .ref xs, .ref xc, .int (vm), .int (vb), .int (va), .int (vp), .ref yf, .ref yt, .int (ve), .ref ye, .ref yw, .int (vt)])), (xd, .inl (cI, 4, .inl (fun j => nI (dig x j))))] → va_S A s.heap H locs → ∀ (ls : Array Slot), lv_has ls 4 [(3, .int (nI (g.toNat))), (0, .ref mo)] → W p l e ({ frames := 2, cells := 0, slots := 0, locals := 47 } : Room) s m ([.ref mo, .int (nI (c0))] : List Value).toArray below meth c H locs 0 0 Q (F0 m 31 ls []) := by
    intro n
    induction n with
    | zero =>
      intro x g hx1 h3 h4 hg H locs hP hD hS ls hl
      have hch : chg x = false := by cases hz : chg x with | false => rfl | true => unfold tm at h4; rw [hz] at h4; exact absurd h4 (by decide)
      have hnx : nx x = x := by cases hz : nxo x with | none => unfold nx; rw [hz]; rfl | some y => unfold chg at hch; rw [hz] at hch; exact Bool.noConfusion hch
      refine lv_iload_n hx hb dX6_formed_31 rfl (lv_at hl 0 rfl) ?_
      refine n_ifeq (tgt := 43) hx hb dX6_formed_32 (by decide) (by cases g <;> decide) (fun c_6 => ?_) (fun c_6 => ?_)
      ·
        have hxf : x = form c0 := hg (by cases hz : g with | false => rfl | true => rw [hz] at c_6; exact absurd c_6 (by decide))
        have hpk := pack_eq hx1
        refine lv_aload_n hx hb dX6_formed_43 rfl (lv_at hl 1 rfl) ?_
        refine va_get (D := d) (ci := 6) (v := .ref xd) (C := RX6) (T := TX6) (N := 18) hx hb hts hin6 hown hK hP 0 rfl rfl 1 (by decide) hfl13 (fun _ h9 => h9) rfl dX6_formed_44 ?_
        refine lv_iconst (v := nI (0)) hx hb dX6_formed_47 (by decide) ?_
        refine n_iald hx hb hK hP 1 0 rfl rfl (k := 0) (by decide) (by decide) dX6_formed_48 ?_
        refine lv_bipush (v := nI (6)) hx hb dX6_formed_49 (by decide) ?_
        refine n_mul hx hb dX6_formed_51 ?_
        refine lv_aload_n hx hb dX6_formed_52 rfl (lv_at hl 1 rfl) ?_
        refine va_get (D := d) (ci := 6) (v := .ref xd) (C := RX6) (T := TX6) (N := 18) hx hb hts hin6 hown hK hP 0 rfl rfl 1 (by decide) hfl13 (fun _ h9 => h9) rfl dX6_formed_53 ?_
        refine lv_iconst (v := nI (1)) hx hb dX6_formed_56 (by decide) ?_
        refine n_iald hx hb hK hP 1 0 rfl rfl (k := 1) (by decide) (by decide) dX6_formed_57 ?_
        refine n_add hx hb dX6_formed_58 ?_
        refine lv_bipush (v := nI (6)) hx hb dX6_formed_59 (by decide) ?_
        refine n_mul hx hb dX6_formed_61 ?_
        refine lv_aload_n hx hb dX6_formed_62 rfl (lv_at hl 1 rfl) ?_
        refine va_get (D := d) (ci := 6) (v := .ref xd) (C := RX6) (T := TX6) (N := 18) hx hb hts hin6 hown hK hP 0 rfl rfl 1 (by decide) hfl13 (fun _ h9 => h9) rfl dX6_formed_63 ?_
        refine lv_iconst (v := nI (2)) hx hb dX6_formed_66 (by decide) ?_
        refine n_iald hx hb hK hP 1 0 rfl rfl (k := 2) (by decide) (by decide) dX6_formed_67 ?_
        refine n_add hx hb dX6_formed_68 ?_
        refine lv_bipush (v := nI (6)) hx hb dX6_formed_69 (by decide) ?_
        refine n_mul hx hb dX6_formed_71 ?_
        refine lv_aload_n hx hb dX6_formed_72 rfl (lv_at hl 1 rfl) ?_
        refine va_get (D := d) (ci := 6) (v := .ref xd) (C := RX6) (T := TX6) (N := 18) hx hb hts hin6 hown hK hP 0 rfl rfl 1 (by decide) hfl13 (fun _ h9 => h9) rfl dX6_formed_73 ?_
        refine lv_iconst (v := nI (3)) hx hb dX6_formed_76 (by decide) ?_
        refine n_iald hx hb hK hP 1 0 rfl rfl (k := 3) (by decide) (by decide) dX6_formed_77 ?_
        refine n_add hx hb dX6_formed_78 ?_
        refine n_top (show (nI (((((((dig x 0) * 6) + (dig x 1)) * 6) + (dig x 2)) * 6) + (dig x 3))) = nI x from congrArg nI (by omega)) ?_
        subst hQ
        rw [← hxf]
        exact W.iret (v := (nI x)) hx hb hr (fun t ht hW => ⟨⟨rfl, by rw [ht]; exact hP, hD⟩, hS.F ht⟩) hS.2.2 dX6_formed_79
      ·
        refine lv_aload_n hx hb dX6_formed_35 rfl (lv_at hl 1 rfl) ?_
        refine n_upV (As := []) (rest := []) (WC := [(mo, .inr (6, [.ref xo, .ref xd, .ref xf, .ref xm, .ref xr, .ref xw, .ref xs, .ref xc, .int (vm), .int (vb), .int (va), .int (vp), .ref yf, .ref yt, .int (ve), .ref ye, .ref yw, .int (vt)])), (xd, .inl (cI, 4, .inl (fun j => nI (dig x j))))]) (WC' := [(mo, .inr (6, [.ref xo, .ref xd, .ref xf, .ref xm, .ref xr, .ref xw, .ref xs, .ref xc, .int (vm), .int (vb), .int (va), .int (vp), .ref yf, .ref yt, .int (ve), .ref ye, .ref yw, .int (vt)])), (xd, .inl (cI, 4, .inl (fun j => nI (dig (nx x) j))))]) (wr := []) (WS' := [(mo, .inr (6, [.ref xo, .ref xd, .ref xf, .ref xm, .ref xr, .ref xw, .ref xs, .ref xc, .int (vm), .int (vb), .int (va), .int (vp), .ref yf, .ref yt, .int (ve), .ref ye, .ref yw, .int (vt)])), (xd, .inl (cI, 4, .inl (fun j => nI (dig (nx x) j))))]) ⟨hx, hb, hml, hown, hts⟩ (c_X6_uses l d cI cJ cZ mo xo xd xf xm xr xw xs xc yf yt ye yw vm vb va vp ve vt x hx1) (cwV 0 hts gX6_formed_X6_uses rfl rfl rfl (by decide +kernel) ⟨Nat.le_of_ble_eq_true rfl, Nat.le_of_ble_eq_true rfl⟩) (va_recv hK hP (ci := 6) (q0 := 0) rfl rfl) hP hD hS hA hK [0, 1] [] [0, 1] rfl rfl (by decide) ⟨by decide, by decide⟩ (by decide) rfl rfl hl.1 rfl (Nat.le_of_ble_eq_true rfl) dX6_formed_36 ⟨Nat.zero_le _, Nat.zero_le _⟩ (fun H locs hP hD hS => ?_)
        show W _ _ _ _ _ _ _ _ _ _ _ _ _ _ _ (F0 m _ ls (.int (nI ((chg x).toNat)) :: []))
        refine lv_istore_n (lv' := [(3, .int (nI ((chg x).toNat))), (0, .ref mo)]) hx hb dX6_formed_39 rfl hl (by decide) rfl (fun ls hl => ?_)
        refine lv_goto (tgt := 31) hx hb dX6_formed_40 (by decide) ?_
        rw [hnx] at hP hD
        rw [hch] at hl
        have hl : lv_has ls 4 [(3, .int (nI (0))), (0, .ref mo)] := hl
        refine lv_iload_n hx hb dX6_formed_31 rfl (lv_at hl 0 rfl) ?_
        refine n_ifeq (tgt := 43) hx hb dX6_formed_32 (by decide) (by decide) (fun c_7 => ?_) (fun c_7 => ?_)
        rotate_left
        · exact absurd c_7 (by decide)
        have hxf : x = form c0 := h3
        have hpk := pack_eq hx1
        refine lv_aload_n hx hb dX6_formed_43 rfl (lv_at hl 1 rfl) ?_
        refine va_get (D := d) (ci := 6) (v := .ref xd) (C := RX6) (T := TX6) (N := 18) hx hb hts hin6 hown hK hP 0 rfl rfl 1 (by decide) hfl13 (fun _ h9 => h9) rfl dX6_formed_44 ?_
        refine lv_iconst (v := nI (0)) hx hb dX6_formed_47 (by decide) ?_
        refine n_iald hx hb hK hP 1 0 rfl rfl (k := 0) (by decide) (by decide) dX6_formed_48 ?_
        refine lv_bipush (v := nI (6)) hx hb dX6_formed_49 (by decide) ?_
        refine n_mul hx hb dX6_formed_51 ?_
        refine lv_aload_n hx hb dX6_formed_52 rfl (lv_at hl 1 rfl) ?_
        refine va_get (D := d) (ci := 6) (v := .ref xd) (C := RX6) (T := TX6) (N := 18) hx hb hts hin6 hown hK hP 0 rfl rfl 1 (by decide) hfl13 (fun _ h9 => h9) rfl dX6_formed_53 ?_
        refine lv_iconst (v := nI (1)) hx hb dX6_formed_56 (by decide) ?_
        refine n_iald hx hb hK hP 1 0 rfl rfl (k := 1) (by decide) (by decide) dX6_formed_57 ?_
        refine n_add hx hb dX6_formed_58 ?_
        refine lv_bipush (v := nI (6)) hx hb dX6_formed_59 (by decide) ?_
        refine n_mul hx hb dX6_formed_61 ?_
        refine lv_aload_n hx hb dX6_formed_62 rfl (lv_at hl 1 rfl) ?_
        refine va_get (D := d) (ci := 6) (v := .ref xd) (C := RX6) (T := TX6) (N := 18) hx hb hts hin6 hown hK hP 0 rfl rfl 1 (by decide) hfl13 (fun _ h9 => h9) rfl dX6_formed_63 ?_
        refine lv_iconst (v := nI (2)) hx hb dX6_formed_66 (by decide) ?_
        refine n_iald hx hb hK hP 1 0 rfl rfl (k := 2) (by decide) (by decide) dX6_formed_67 ?_
        refine n_add hx hb dX6_formed_68 ?_
        refine lv_bipush (v := nI (6)) hx hb dX6_formed_69 (by decide) ?_
        refine n_mul hx hb dX6_formed_71 ?_
        refine lv_aload_n hx hb dX6_formed_72 rfl (lv_at hl 1 rfl) ?_
        refine va_get (D := d) (ci := 6) (v := .ref xd) (C := RX6) (T := TX6) (N := 18) hx hb hts hin6 hown hK hP 0 rfl rfl 1 (by decide) hfl13 (fun _ h9 => h9) rfl dX6_formed_73 ?_
        refine lv_iconst (v := nI (3)) hx hb dX6_formed_76 (by decide) ?_
        refine n_iald hx hb hK hP 1 0 rfl rfl (k := 3) (by decide) (by decide) dX6_formed_77 ?_
        refine n_add hx hb dX6_formed_78 ?_
        refine n_top (show (nI (((((((dig x 0) * 6) + (dig x 1)) * 6) + (dig x 2)) * 6) + (dig x 3))) = nI x from congrArg nI (by omega)) ?_
        subst hQ
        rw [← hxf]
        exact W.iret (v := (nI x)) hx hb hr (fun t ht hW => ⟨⟨rfl, by rw [ht]; exact hP, hD⟩, hS.F ht⟩) hS.2.2 dX6_formed_79
    | succ n ih =>
      intro x g hx1 h3 h4 hg H locs hP hD hS ls hl
      refine lv_iload_n hx hb dX6_formed_31 rfl (lv_at hl 0 rfl) ?_
      refine n_ifeq (tgt := 43) hx hb dX6_formed_32 (by decide) (by cases g <;> decide) (fun c_8 => ?_) (fun c_8 => ?_)
      ·
        have hxf : x = form c0 := hg (by cases hz : g with | false => rfl | true => rw [hz] at c_8; exact absurd c_8 (by decide))
        have hpk := pack_eq hx1
        refine lv_aload_n hx hb dX6_formed_43 rfl (lv_at hl 1 rfl) ?_
        refine va_get (D := d) (ci := 6) (v := .ref xd) (C := RX6) (T := TX6) (N := 18) hx hb hts hin6 hown hK hP 0 rfl rfl 1 (by decide) hfl13 (fun _ h9 => h9) rfl dX6_formed_44 ?_
        refine lv_iconst (v := nI (0)) hx hb dX6_formed_47 (by decide) ?_
        refine n_iald hx hb hK hP 1 0 rfl rfl (k := 0) (by decide) (by decide) dX6_formed_48 ?_
        refine lv_bipush (v := nI (6)) hx hb dX6_formed_49 (by decide) ?_
        refine n_mul hx hb dX6_formed_51 ?_
        refine lv_aload_n hx hb dX6_formed_52 rfl (lv_at hl 1 rfl) ?_
        refine va_get (D := d) (ci := 6) (v := .ref xd) (C := RX6) (T := TX6) (N := 18) hx hb hts hin6 hown hK hP 0 rfl rfl 1 (by decide) hfl13 (fun _ h9 => h9) rfl dX6_formed_53 ?_
        refine lv_iconst (v := nI (1)) hx hb dX6_formed_56 (by decide) ?_
        refine n_iald hx hb hK hP 1 0 rfl rfl (k := 1) (by decide) (by decide) dX6_formed_57 ?_
        refine n_add hx hb dX6_formed_58 ?_
        refine lv_bipush (v := nI (6)) hx hb dX6_formed_59 (by decide) ?_
        refine n_mul hx hb dX6_formed_61 ?_
        refine lv_aload_n hx hb dX6_formed_62 rfl (lv_at hl 1 rfl) ?_
        refine va_get (D := d) (ci := 6) (v := .ref xd) (C := RX6) (T := TX6) (N := 18) hx hb hts hin6 hown hK hP 0 rfl rfl 1 (by decide) hfl13 (fun _ h9 => h9) rfl dX6_formed_63 ?_
        refine lv_iconst (v := nI (2)) hx hb dX6_formed_66 (by decide) ?_
        refine n_iald hx hb hK hP 1 0 rfl rfl (k := 2) (by decide) (by decide) dX6_formed_67 ?_
        refine n_add hx hb dX6_formed_68 ?_
        refine lv_bipush (v := nI (6)) hx hb dX6_formed_69 (by decide) ?_
        refine n_mul hx hb dX6_formed_71 ?_
        refine lv_aload_n hx hb dX6_formed_72 rfl (lv_at hl 1 rfl) ?_
        refine va_get (D := d) (ci := 6) (v := .ref xd) (C := RX6) (T := TX6) (N := 18) hx hb hts hin6 hown hK hP 0 rfl rfl 1 (by decide) hfl13 (fun _ h9 => h9) rfl dX6_formed_73 ?_
        refine lv_iconst (v := nI (3)) hx hb dX6_formed_76 (by decide) ?_
        refine n_iald hx hb hK hP 1 0 rfl rfl (k := 3) (by decide) (by decide) dX6_formed_77 ?_
        refine n_add hx hb dX6_formed_78 ?_
        refine n_top (show (nI (((((((dig x 0) * 6) + (dig x 1)) * 6) + (dig x 2)) * 6) + (dig x 3))) = nI x from congrArg nI (by omega)) ?_
        subst hQ
        rw [← hxf]
        exact W.iret (v := (nI x)) hx hb hr (fun t ht hW => ⟨⟨rfl, by rw [ht]; exact hP, hD⟩, hS.F ht⟩) hS.2.2 dX6_formed_79
      ·
        refine lv_aload_n hx hb dX6_formed_35 rfl (lv_at hl 1 rfl) ?_
        refine n_upV (As := []) (rest := []) (WC := [(mo, .inr (6, [.ref xo, .ref xd, .ref xf, .ref xm, .ref xr, .ref xw, .ref xs, .ref xc, .int (vm), .int (vb), .int (va), .int (vp), .ref yf, .ref yt, .int (ve), .ref ye, .ref yw, .int (vt)])), (xd, .inl (cI, 4, .inl (fun j => nI (dig x j))))]) (WC' := [(mo, .inr (6, [.ref xo, .ref xd, .ref xf, .ref xm, .ref xr, .ref xw, .ref xs, .ref xc, .int (vm), .int (vb), .int (va), .int (vp), .ref yf, .ref yt, .int (ve), .ref ye, .ref yw, .int (vt)])), (xd, .inl (cI, 4, .inl (fun j => nI (dig (nx x) j))))]) (wr := []) (WS' := [(mo, .inr (6, [.ref xo, .ref xd, .ref xf, .ref xm, .ref xr, .ref xw, .ref xs, .ref xc, .int (vm), .int (vb), .int (va), .int (vp), .ref yf, .ref yt, .int (ve), .ref ye, .ref yw, .int (vt)])), (xd, .inl (cI, 4, .inl (fun j => nI (dig (nx x) j))))]) ⟨hx, hb, hml, hown, hts⟩ (c_X6_uses l d cI cJ cZ mo xo xd xf xm xr xw xs xc yf yt ye yw vm vb va vp ve vt x hx1) (cwV 0 hts gX6_formed_X6_uses rfl rfl rfl (by decide +kernel) ⟨Nat.le_of_ble_eq_true rfl, Nat.le_of_ble_eq_true rfl⟩) (va_recv hK hP (ci := 6) (q0 := 0) rfl rfl) hP hD hS hA hK [0, 1] [] [0, 1] rfl rfl (by decide) ⟨by decide, by decide⟩ (by decide) rfl rfl hl.1 rfl (Nat.le_of_ble_eq_true rfl) dX6_formed_36 ⟨Nat.zero_le _, Nat.zero_le _⟩ (fun H locs hP hD hS => ?_)
        show W _ _ _ _ _ _ _ _ _ _ _ _ _ _ _ (F0 m _ ls (.int (nI ((chg x).toNat)) :: []))
        refine lv_istore_n (lv' := [(3, .int (nI ((chg x).toNat))), (0, .ref mo)]) hx hb dX6_formed_39 rfl hl (by decide) rfl (fun ls hl => ?_)
        refine lv_goto (tgt := 31) hx hb dX6_formed_40 (by decide) ?_
        cases hz : chg x with
        | true =>
          rw [hz] at hl
          exact ih (nx x) true (nx_lt hx1) (by rw [← h3]; show _ = (if chg x = true then _ else _); rw [hz]; rfl) (by have h5 : (if chg x = true then tm n (nx x) else true) = true := h4; rw [hz] at h5; exact h5) (fun h => by cases h) H locs hP hD hS ls (lv_sub hl [0, 1] rfl)
        | false =>
          have hnx : nx x = x := by cases hy : nxo x with | none => unfold nx; rw [hy]; rfl | some y => unfold chg at hz; rw [hy] at hz; exact Bool.noConfusion hz
          rw [hnx] at hP hD
          rw [hz] at hl
          have hl : lv_has ls 4 [(3, .int (nI (0))), (0, .ref mo)] := hl
          refine lv_iload_n hx hb dX6_formed_31 rfl (lv_at hl 0 rfl) ?_
          refine n_ifeq (tgt := 43) hx hb dX6_formed_32 (by decide) (by decide) (fun c_9 => ?_) (fun c_9 => ?_)
          rotate_left
          · exact absurd c_9 (by decide)
          have hxf : x = form c0 := by rw [← h3]; show x = (if chg x = true then _ else _); rw [hz]; rfl
          have hpk := pack_eq hx1
          refine lv_aload_n hx hb dX6_formed_43 rfl (lv_at hl 1 rfl) ?_
          refine va_get (D := d) (ci := 6) (v := .ref xd) (C := RX6) (T := TX6) (N := 18) hx hb hts hin6 hown hK hP 0 rfl rfl 1 (by decide) hfl13 (fun _ h9 => h9) rfl dX6_formed_44 ?_
          refine lv_iconst (v := nI (0)) hx hb dX6_formed_47 (by decide) ?_
          refine n_iald hx hb hK hP 1 0 rfl rfl (k := 0) (by decide) (by decide) dX6_formed_48 ?_
          refine lv_bipush (v := nI (6)) hx hb dX6_formed_49 (by decide) ?_
          refine n_mul hx hb dX6_formed_51 ?_
          refine lv_aload_n hx hb dX6_formed_52 rfl (lv_at hl 1 rfl) ?_
          refine va_get (D := d) (ci := 6) (v := .ref xd) (C := RX6) (T := TX6) (N := 18) hx hb hts hin6 hown hK hP 0 rfl rfl 1 (by decide) hfl13 (fun _ h9 => h9) rfl dX6_formed_53 ?_
          refine lv_iconst (v := nI (1)) hx hb dX6_formed_56 (by decide) ?_
          refine n_iald hx hb hK hP 1 0 rfl rfl (k := 1) (by decide) (by decide) dX6_formed_57 ?_
          refine n_add hx hb dX6_formed_58 ?_
          refine lv_bipush (v := nI (6)) hx hb dX6_formed_59 (by decide) ?_
          refine n_mul hx hb dX6_formed_61 ?_
          refine lv_aload_n hx hb dX6_formed_62 rfl (lv_at hl 1 rfl) ?_
          refine va_get (D := d) (ci := 6) (v := .ref xd) (C := RX6) (T := TX6) (N := 18) hx hb hts hin6 hown hK hP 0 rfl rfl 1 (by decide) hfl13 (fun _ h9 => h9) rfl dX6_formed_63 ?_
          refine lv_iconst (v := nI (2)) hx hb dX6_formed_66 (by decide) ?_
          refine n_iald hx hb hK hP 1 0 rfl rfl (k := 2) (by decide) (by decide) dX6_formed_67 ?_
          refine n_add hx hb dX6_formed_68 ?_
          refine lv_bipush (v := nI (6)) hx hb dX6_formed_69 (by decide) ?_
          refine n_mul hx hb dX6_formed_71 ?_
          refine lv_aload_n hx hb dX6_formed_72 rfl (lv_at hl 1 rfl) ?_
          refine va_get (D := d) (ci := 6) (v := .ref xd) (C := RX6) (T := TX6) (N := 18) hx hb hts hin6 hown hK hP 0 rfl rfl 1 (by decide) hfl13 (fun _ h9 => h9) rfl dX6_formed_73 ?_
          refine lv_iconst (v := nI (3)) hx hb dX6_formed_76 (by decide) ?_
          refine n_iald hx hb hK hP 1 0 rfl rfl (k := 3) (by decide) (by decide) dX6_formed_77 ?_
          refine n_add hx hb dX6_formed_78 ?_
          refine n_top (show (nI (((((((dig x 0) * 6) + (dig x 1)) * 6) + (dig x 2)) * 6) + (dig x 3))) = nI x from congrArg nI (by omega)) ?_
          subst hQ
          rw [← hxf]
          exact W.iret (v := (nI x)) hx hb hr (fun t ht hW => ⟨⟨rfl, by rw [ht]; exact hP, hD⟩, hS.F ht⟩) hS.2.2 dX6_formed_79
  exact loop 40 c0 true hc rfl (tm_40 hc) (fun h => by cases h) H locs hP hD hS ls (lv_sub hl [0, 2] rfl)

set_option maxHeartbeats 4000000 in
set_option maxRecDepth 100000 in
theorem c_X6_init (l : Launch) (d : va_G) (cI cJ cZ : ClassId) (q : Nat)  : nNw (S := (Nat → Int32) × Nat × Nat × Nat × Nat × Nat × Nat × Nat × Nat × Nat × Nat × Nat × Nat) l yX6_init wsX6_init ({ frames := 3, cells := 12, slots := 9796, locals := 70 } : Room) d [(cI, .int), (cJ, .long), (cZ, .boolean)] q 6 [.null, .null, .null, .null, .null, .null, .null, .null, .int (nI (0)), .int (nI (0)), .int (nI (0)), .int (nI (0)), .null, .null, .int (nI (0)), .null, .null, .int (nI (0))] [] 12 9796 (fun u => match u with | (h1, xo, xd, xf, xm, xr, xw, xs, xc, yf, yt, ye, yw) => [(q, .inr (6, [.ref xo, .ref xd, .ref xf, .ref xm, .ref xr, .ref xw, .ref xs, .ref xc, .int (nI (0)), .int (nI (0)), .int (-1), .int (nI (0)), .ref yf, .ref yt, .int (nI (0)), .ref ye, .ref yw, .int (nI (0))])), (xo, .inl (cI, 1296, .inl (fun j => nI (form j)))), (xd, .inl (cI, 4, .inl (h1))), (xf, .inl (cI, 1296, .inl (fun _ => 0))), (xm, .inl (cZ, 1296, .inl (fun _ => 0))), (xr, .inl (cZ, 1296, .inl (fun _ => 0))), (xw, .inl (cI, 1296, .inl (fun _ => 0))), (xs, .inl (cJ, 1296, .inr (.inl (fun _ => 0)))), (xc, .inl (cI, 1296, .inl (fun _ => 0))), (yf, .inl (cI, 300, .inl (fun _ => 0))), (yt, .inl (cI, 300, .inl (fun _ => 0))), (ye, .inl (cI, 60, .inl (fun _ => 0))), (yw, .inl (cZ, 60, .inl (fun _ => 0)))]) := by
  intro sz
  refine Met.ofW (cc := cX6_init) (maxL := 2) (ret := none) (by decide) rfl ?_
  intro p e s m args below meth c s₁ B hml hv
  obtain ⟨rfl, hsz, hP, hK, hD0⟩ := hv
  have hx := B.exec
  have hb := B.bytes
  have hr := B.returns
  have hts := atoms_spec (ws := wsX6_init) B.pre
  have hown : s.vm.findClass RX6 = some m.cls := findClass_of_methodNamed B.named
  have hlocks := B.notSynchronized
  have hin : meth.name = "<init>" := (name_of_methodNamed B.named B.method).1
  have harboolean := hts (.arrayClass .boolean) (by decide +kernel)
  have harint := hts (.arrayClass .int) (by decide +kernel)
  have harlong := hts (.arrayClass .long) (by decide +kernel)
  have hfl13 := hts (.fieldLink RX6 13 "NudgelaneModel" "digits" "[I") (by decide +kernel)
  have hfl16 := hts (.fieldLink RX6 16 "NudgelaneModel" "far" "[I") (by decide +kernel)
  have hfl19 := hts (.fieldLink RX6 19 "NudgelaneModel" "isMet" "[Z") (by decide +kernel)
  have hfl23 := hts (.fieldLink RX6 23 "NudgelaneModel" "isRight" "[Z") (by decide +kernel)
  have hfl26 := hts (.fieldLink RX6 26 "NudgelaneModel" "worths" "[I") (by decide +kernel)
  have hfl29 := hts (.fieldLink RX6 29 "NudgelaneModel" "sums" "[J") (by decide +kernel)
  have hfl33 := hts (.fieldLink RX6 33 "NudgelaneModel" "counts" "[I") (by decide +kernel)
  have hfl36 := hts (.fieldLink RX6 36 "NudgelaneModel" "at" "I") (by decide +kernel)
  have hfl40 := hts (.fieldLink RX6 40 "NudgelaneModel" "froms" "[I") (by decide +kernel)
  have hfl43 := hts (.fieldLink RX6 43 "NudgelaneModel" "tos" "[I") (by decide +kernel)
  have hfl46 := hts (.fieldLink RX6 46 "NudgelaneModel" "ends" "[I") (by decide +kernel)
  have hfl49 := hts (.fieldLink RX6 49 "NudgelaneModel" "wasRight" "[Z") (by decide +kernel)
  have hfl7 := hts (.fieldLink RX6 7 "NudgelaneModel" "forms" "[I") (by decide +kernel)
  have hin6 : ∀ w ∈ u_ws RX6 TX6 18, w ∈ wsX6_init := by decide +kernel
  subst hsz
  have hD := hD0.self (sz := s.heap.size)
  generalize hAe : va_A [(q, .inr (6, [.null, .null, .null, .null, .null, .null, .null, .null, .int (nI (0)), .int (nI (0)), .int (nI (0)), .int (nI (0)), .null, .null, .int (nI (0)), .null, .null, .int (nI (0))]))] s.heap.size = A at hD ⊢
  have hA : ∀ q : Nat, s.heap.size ≤ q → A q := fun q h => by rw [← hAe]; exact Or.inr h
  have hS : va_S A s.heap s.heap [] := va_S.rf
  have hP : va_P d vwCl [(q, .inr (6, [.null, .null, .null, .null, .null, .null, .null, .null, .int (nI (0)), .int (nI (0)), .int (nI (0)), .int (nI (0)), .null, .null, .int (nI (0)), .null, .null, .int (nI (0))]))] s.heap := hP
  have hl := lv_entry ([.ref q]) (n := 2) (Nat.le_of_ble_eq_true rfl)
  rw [lg_entry_eq]
  generalize (lg_sl ([.ref q]) ++ List.replicate (2 - (lg_sl ([.ref q])).length) Slot.unset).toArray = ls at hl ⊢
  have hl : lv_has ls 2 [(0, .ref q)] := hl
  refine n_nameQ (fun Q hQ => ?_)
  refine lv_aload_n hx hb dX6_init_0 rfl (lv_at hl 0 rfl) ?_
  refine W.objInit hx hb hown (hts (.methodLink RX6 1 objectInit) (by decide +kernel)) (hts (.instanceMethod objectInit) (by decide +kernel)) (hts (.code objectInit ⟨#[0xb1]⟩ 1 none) (List.mem_of_getElem? (i := 3) rfl)) rfl (by rw [hml]; exact hl.1) rfl dX6_init_1 (Nat.le_of_ble_eq_true rfl) (Nat.le_of_ble_eq_true rfl) ?_
  refine W.eq (g2 := F0 m 4 ls []) rfl ?_
  refine lv_aload_n hx hb dX6_init_4 rfl (lv_at hl 0 rfl) ?_
  refine lv_sipush (v := nI (1296)) hx hb dX6_init_5 (by decide) ?_
  refine n_newa (atype := .int) (ty := .int) (a0 := (1296, .inl (fun _ => 0))) hx hb harint rfl hK 0 rfl (fun _ _ => rfl) hP hD hS hA (fun _ => rfl) (by decide) (Nat.le_of_ble_eq_true rfl) (Nat.le_of_ble_eq_true rfl) (Nat.le_of_ble_eq_true rfl) dX6_init_8 (fun xo H hP hD hS => ?_)
  have hP : va_P d vwCl [(q, .inr (6, [.null, .null, .null, .null, .null, .null, .null, .null, .int (nI (0)), .int (nI (0)), .int (nI (0)), .int (nI (0)), .null, .null, .int (nI (0)), .null, .null, .int (nI (0))])), (xo, .inl (cI, 1296, .inl (fun _ => 0)))] H := hP
  have hD : va_D A [(q, .inr (6, [.null, .null, .null, .null, .null, .null, .null, .null, .int (nI (0)), .int (nI (0)), .int (nI (0)), .int (nI (0)), .null, .null, .int (nI (0)), .null, .null, .int (nI (0))])), (xo, .inl (cI, 1296, .inl (fun _ => 0)))] := hD
  refine va_putF (D := d) (ci := 6) (v := .ref xo) (ty := .array .int) (C := RX6) (T := TX6) (N := 18) hx hb hts hin6 tyX6 tyX6_ok nmX6 hown hK hP hD hS 0 rfl rfl 0 (by decide) hfl7 (fun _ h9 => h9) rfl hin rfl (by decide +kernel) rfl rfl (Nat.le_of_ble_eq_true rfl) dX6_init_10 (fun H locs hP hD hS => ?_)
  have hP : va_P d vwCl [(q, .inr (6, [.ref xo, .null, .null, .null, .null, .null, .null, .null, .int (nI (0)), .int (nI (0)), .int (nI (0)), .int (nI (0)), .null, .null, .int (nI (0)), .null, .null, .int (nI (0))])), (xo, .inl (cI, 1296, .inl (fun _ => 0)))] H := hP
  have hD : va_D A [(q, .inr (6, [.ref xo, .null, .null, .null, .null, .null, .null, .null, .int (nI (0)), .int (nI (0)), .int (nI (0)), .int (nI (0)), .null, .null, .int (nI (0)), .null, .null, .int (nI (0))])), (xo, .inl (cI, 1296, .inl (fun _ => 0)))] := hD
  refine lv_aload_n hx hb dX6_init_13 rfl (lv_at hl 0 rfl) ?_
  refine lv_iconst (v := nI (4)) hx hb dX6_init_14 (by decide) ?_
  refine n_newa (atype := .int) (ty := .int) (a0 := (4, .inl (fun _ => 0))) hx hb harint rfl hK 0 rfl (fun _ _ => rfl) hP hD hS hA (fun _ => rfl) (by decide) (Nat.le_of_ble_eq_true rfl) (Nat.le_of_ble_eq_true rfl) (Nat.le_of_ble_eq_true rfl) dX6_init_15 (fun xd H hP hD hS => ?_)
  have hP : va_P d vwCl [(q, .inr (6, [.ref xo, .null, .null, .null, .null, .null, .null, .null, .int (nI (0)), .int (nI (0)), .int (nI (0)), .int (nI (0)), .null, .null, .int (nI (0)), .null, .null, .int (nI (0))])), (xo, .inl (cI, 1296, .inl (fun _ => 0))), (xd, .inl (cI, 4, .inl (fun _ => 0)))] H := hP
  have hD : va_D A [(q, .inr (6, [.ref xo, .null, .null, .null, .null, .null, .null, .null, .int (nI (0)), .int (nI (0)), .int (nI (0)), .int (nI (0)), .null, .null, .int (nI (0)), .null, .null, .int (nI (0))])), (xo, .inl (cI, 1296, .inl (fun _ => 0))), (xd, .inl (cI, 4, .inl (fun _ => 0)))] := hD
  refine va_putF (D := d) (ci := 6) (v := .ref xd) (ty := .array .int) (C := RX6) (T := TX6) (N := 18) hx hb hts hin6 tyX6 tyX6_ok nmX6 hown hK hP hD hS 0 rfl rfl 1 (by decide) hfl13 (fun _ h9 => h9) rfl hin rfl (by decide +kernel) rfl rfl (Nat.le_of_ble_eq_true rfl) dX6_init_17 (fun H locs hP hD hS => ?_)
  have hP : va_P d vwCl [(q, .inr (6, [.ref xo, .ref xd, .null, .null, .null, .null, .null, .null, .int (nI (0)), .int (nI (0)), .int (nI (0)), .int (nI (0)), .null, .null, .int (nI (0)), .null, .null, .int (nI (0))])), (xo, .inl (cI, 1296, .inl (fun _ => 0))), (xd, .inl (cI, 4, .inl (fun _ => 0)))] H := hP
  have hD : va_D A [(q, .inr (6, [.ref xo, .ref xd, .null, .null, .null, .null, .null, .null, .int (nI (0)), .int (nI (0)), .int (nI (0)), .int (nI (0)), .null, .null, .int (nI (0)), .null, .null, .int (nI (0))])), (xo, .inl (cI, 1296, .inl (fun _ => 0))), (xd, .inl (cI, 4, .inl (fun _ => 0)))] := hD
  refine lv_aload_n hx hb dX6_init_20 rfl (lv_at hl 0 rfl) ?_
  refine lv_sipush (v := nI (1296)) hx hb dX6_init_21 (by decide) ?_
  refine n_newa (atype := .int) (ty := .int) (a0 := (1296, .inl (fun _ => 0))) hx hb harint rfl hK 0 rfl (fun _ _ => rfl) hP hD hS hA (fun _ => rfl) (by decide) (Nat.le_of_ble_eq_true rfl) (Nat.le_of_ble_eq_true rfl) (Nat.le_of_ble_eq_true rfl) dX6_init_24 (fun xf H hP hD hS => ?_)
  have hP : va_P d vwCl [(q, .inr (6, [.ref xo, .ref xd, .null, .null, .null, .null, .null, .null, .int (nI (0)), .int (nI (0)), .int (nI (0)), .int (nI (0)), .null, .null, .int (nI (0)), .null, .null, .int (nI (0))])), (xo, .inl (cI, 1296, .inl (fun _ => 0))), (xd, .inl (cI, 4, .inl (fun _ => 0))), (xf, .inl (cI, 1296, .inl (fun _ => 0)))] H := hP
  have hD : va_D A [(q, .inr (6, [.ref xo, .ref xd, .null, .null, .null, .null, .null, .null, .int (nI (0)), .int (nI (0)), .int (nI (0)), .int (nI (0)), .null, .null, .int (nI (0)), .null, .null, .int (nI (0))])), (xo, .inl (cI, 1296, .inl (fun _ => 0))), (xd, .inl (cI, 4, .inl (fun _ => 0))), (xf, .inl (cI, 1296, .inl (fun _ => 0)))] := hD
  refine va_putF (D := d) (ci := 6) (v := .ref xf) (ty := .array .int) (C := RX6) (T := TX6) (N := 18) hx hb hts hin6 tyX6 tyX6_ok nmX6 hown hK hP hD hS 0 rfl rfl 2 (by decide) hfl16 (fun _ h9 => h9) rfl hin rfl (by decide +kernel) rfl rfl (Nat.le_of_ble_eq_true rfl) dX6_init_26 (fun H locs hP hD hS => ?_)
  have hP : va_P d vwCl [(q, .inr (6, [.ref xo, .ref xd, .ref xf, .null, .null, .null, .null, .null, .int (nI (0)), .int (nI (0)), .int (nI (0)), .int (nI (0)), .null, .null, .int (nI (0)), .null, .null, .int (nI (0))])), (xo, .inl (cI, 1296, .inl (fun _ => 0))), (xd, .inl (cI, 4, .inl (fun _ => 0))), (xf, .inl (cI, 1296, .inl (fun _ => 0)))] H := hP
  have hD : va_D A [(q, .inr (6, [.ref xo, .ref xd, .ref xf, .null, .null, .null, .null, .null, .int (nI (0)), .int (nI (0)), .int (nI (0)), .int (nI (0)), .null, .null, .int (nI (0)), .null, .null, .int (nI (0))])), (xo, .inl (cI, 1296, .inl (fun _ => 0))), (xd, .inl (cI, 4, .inl (fun _ => 0))), (xf, .inl (cI, 1296, .inl (fun _ => 0)))] := hD
  refine lv_aload_n hx hb dX6_init_29 rfl (lv_at hl 0 rfl) ?_
  refine lv_sipush (v := nI (1296)) hx hb dX6_init_30 (by decide) ?_
  refine n_newa (atype := .boolean) (ty := .boolean) (a0 := (1296, .inl (fun _ => 0))) hx hb harboolean rfl hK 2 rfl (fun _ _ => rfl) hP hD hS hA (fun _ => rfl) (by decide) (Nat.le_of_ble_eq_true rfl) (Nat.le_of_ble_eq_true rfl) (Nat.le_of_ble_eq_true rfl) dX6_init_33 (fun xm H hP hD hS => ?_)
  have hP : va_P d vwCl [(q, .inr (6, [.ref xo, .ref xd, .ref xf, .null, .null, .null, .null, .null, .int (nI (0)), .int (nI (0)), .int (nI (0)), .int (nI (0)), .null, .null, .int (nI (0)), .null, .null, .int (nI (0))])), (xo, .inl (cI, 1296, .inl (fun _ => 0))), (xd, .inl (cI, 4, .inl (fun _ => 0))), (xf, .inl (cI, 1296, .inl (fun _ => 0))), (xm, .inl (cZ, 1296, .inl (fun _ => 0)))] H := hP
  have hD : va_D A [(q, .inr (6, [.ref xo, .ref xd, .ref xf, .null, .null, .null, .null, .null, .int (nI (0)), .int (nI (0)), .int (nI (0)), .int (nI (0)), .null, .null, .int (nI (0)), .null, .null, .int (nI (0))])), (xo, .inl (cI, 1296, .inl (fun _ => 0))), (xd, .inl (cI, 4, .inl (fun _ => 0))), (xf, .inl (cI, 1296, .inl (fun _ => 0))), (xm, .inl (cZ, 1296, .inl (fun _ => 0)))] := hD
  refine va_putF (D := d) (ci := 6) (v := .ref xm) (ty := .array .boolean) (C := RX6) (T := TX6) (N := 18) hx hb hts hin6 tyX6 tyX6_ok nmX6 hown hK hP hD hS 0 rfl rfl 3 (by decide) hfl19 (fun _ h9 => h9) rfl hin rfl (by decide +kernel) rfl rfl (Nat.le_of_ble_eq_true rfl) dX6_init_35 (fun H locs hP hD hS => ?_)
  have hP : va_P d vwCl [(q, .inr (6, [.ref xo, .ref xd, .ref xf, .ref xm, .null, .null, .null, .null, .int (nI (0)), .int (nI (0)), .int (nI (0)), .int (nI (0)), .null, .null, .int (nI (0)), .null, .null, .int (nI (0))])), (xo, .inl (cI, 1296, .inl (fun _ => 0))), (xd, .inl (cI, 4, .inl (fun _ => 0))), (xf, .inl (cI, 1296, .inl (fun _ => 0))), (xm, .inl (cZ, 1296, .inl (fun _ => 0)))] H := hP
  have hD : va_D A [(q, .inr (6, [.ref xo, .ref xd, .ref xf, .ref xm, .null, .null, .null, .null, .int (nI (0)), .int (nI (0)), .int (nI (0)), .int (nI (0)), .null, .null, .int (nI (0)), .null, .null, .int (nI (0))])), (xo, .inl (cI, 1296, .inl (fun _ => 0))), (xd, .inl (cI, 4, .inl (fun _ => 0))), (xf, .inl (cI, 1296, .inl (fun _ => 0))), (xm, .inl (cZ, 1296, .inl (fun _ => 0)))] := hD
  refine lv_aload_n hx hb dX6_init_38 rfl (lv_at hl 0 rfl) ?_
  refine lv_sipush (v := nI (1296)) hx hb dX6_init_39 (by decide) ?_
  refine n_newa (atype := .boolean) (ty := .boolean) (a0 := (1296, .inl (fun _ => 0))) hx hb harboolean rfl hK 2 rfl (fun _ _ => rfl) hP hD hS hA (fun _ => rfl) (by decide) (Nat.le_of_ble_eq_true rfl) (Nat.le_of_ble_eq_true rfl) (Nat.le_of_ble_eq_true rfl) dX6_init_42 (fun xr H hP hD hS => ?_)
  have hP : va_P d vwCl [(q, .inr (6, [.ref xo, .ref xd, .ref xf, .ref xm, .null, .null, .null, .null, .int (nI (0)), .int (nI (0)), .int (nI (0)), .int (nI (0)), .null, .null, .int (nI (0)), .null, .null, .int (nI (0))])), (xo, .inl (cI, 1296, .inl (fun _ => 0))), (xd, .inl (cI, 4, .inl (fun _ => 0))), (xf, .inl (cI, 1296, .inl (fun _ => 0))), (xm, .inl (cZ, 1296, .inl (fun _ => 0))), (xr, .inl (cZ, 1296, .inl (fun _ => 0)))] H := hP
  have hD : va_D A [(q, .inr (6, [.ref xo, .ref xd, .ref xf, .ref xm, .null, .null, .null, .null, .int (nI (0)), .int (nI (0)), .int (nI (0)), .int (nI (0)), .null, .null, .int (nI (0)), .null, .null, .int (nI (0))])), (xo, .inl (cI, 1296, .inl (fun _ => 0))), (xd, .inl (cI, 4, .inl (fun _ => 0))), (xf, .inl (cI, 1296, .inl (fun _ => 0))), (xm, .inl (cZ, 1296, .inl (fun _ => 0))), (xr, .inl (cZ, 1296, .inl (fun _ => 0)))] := hD
  refine va_putF (D := d) (ci := 6) (v := .ref xr) (ty := .array .boolean) (C := RX6) (T := TX6) (N := 18) hx hb hts hin6 tyX6 tyX6_ok nmX6 hown hK hP hD hS 0 rfl rfl 4 (by decide) hfl23 (fun _ h9 => h9) rfl hin rfl (by decide +kernel) rfl rfl (Nat.le_of_ble_eq_true rfl) dX6_init_44 (fun H locs hP hD hS => ?_)
  have hP : va_P d vwCl [(q, .inr (6, [.ref xo, .ref xd, .ref xf, .ref xm, .ref xr, .null, .null, .null, .int (nI (0)), .int (nI (0)), .int (nI (0)), .int (nI (0)), .null, .null, .int (nI (0)), .null, .null, .int (nI (0))])), (xo, .inl (cI, 1296, .inl (fun _ => 0))), (xd, .inl (cI, 4, .inl (fun _ => 0))), (xf, .inl (cI, 1296, .inl (fun _ => 0))), (xm, .inl (cZ, 1296, .inl (fun _ => 0))), (xr, .inl (cZ, 1296, .inl (fun _ => 0)))] H := hP
  have hD : va_D A [(q, .inr (6, [.ref xo, .ref xd, .ref xf, .ref xm, .ref xr, .null, .null, .null, .int (nI (0)), .int (nI (0)), .int (nI (0)), .int (nI (0)), .null, .null, .int (nI (0)), .null, .null, .int (nI (0))])), (xo, .inl (cI, 1296, .inl (fun _ => 0))), (xd, .inl (cI, 4, .inl (fun _ => 0))), (xf, .inl (cI, 1296, .inl (fun _ => 0))), (xm, .inl (cZ, 1296, .inl (fun _ => 0))), (xr, .inl (cZ, 1296, .inl (fun _ => 0)))] := hD
  refine lv_aload_n hx hb dX6_init_47 rfl (lv_at hl 0 rfl) ?_
  refine lv_sipush (v := nI (1296)) hx hb dX6_init_48 (by decide) ?_
  refine n_newa (atype := .int) (ty := .int) (a0 := (1296, .inl (fun _ => 0))) hx hb harint rfl hK 0 rfl (fun _ _ => rfl) hP hD hS hA (fun _ => rfl) (by decide) (Nat.le_of_ble_eq_true rfl) (Nat.le_of_ble_eq_true rfl) (Nat.le_of_ble_eq_true rfl) dX6_init_51 (fun xw H hP hD hS => ?_)
  have hP : va_P d vwCl [(q, .inr (6, [.ref xo, .ref xd, .ref xf, .ref xm, .ref xr, .null, .null, .null, .int (nI (0)), .int (nI (0)), .int (nI (0)), .int (nI (0)), .null, .null, .int (nI (0)), .null, .null, .int (nI (0))])), (xo, .inl (cI, 1296, .inl (fun _ => 0))), (xd, .inl (cI, 4, .inl (fun _ => 0))), (xf, .inl (cI, 1296, .inl (fun _ => 0))), (xm, .inl (cZ, 1296, .inl (fun _ => 0))), (xr, .inl (cZ, 1296, .inl (fun _ => 0))), (xw, .inl (cI, 1296, .inl (fun _ => 0)))] H := hP
  have hD : va_D A [(q, .inr (6, [.ref xo, .ref xd, .ref xf, .ref xm, .ref xr, .null, .null, .null, .int (nI (0)), .int (nI (0)), .int (nI (0)), .int (nI (0)), .null, .null, .int (nI (0)), .null, .null, .int (nI (0))])), (xo, .inl (cI, 1296, .inl (fun _ => 0))), (xd, .inl (cI, 4, .inl (fun _ => 0))), (xf, .inl (cI, 1296, .inl (fun _ => 0))), (xm, .inl (cZ, 1296, .inl (fun _ => 0))), (xr, .inl (cZ, 1296, .inl (fun _ => 0))), (xw, .inl (cI, 1296, .inl (fun _ => 0)))] := hD
  refine va_putF (D := d) (ci := 6) (v := .ref xw) (ty := .array .int) (C := RX6) (T := TX6) (N := 18) hx hb hts hin6 tyX6 tyX6_ok nmX6 hown hK hP hD hS 0 rfl rfl 5 (by decide) hfl26 (fun _ h9 => h9) rfl hin rfl (by decide +kernel) rfl rfl (Nat.le_of_ble_eq_true rfl) dX6_init_53 (fun H locs hP hD hS => ?_)
  have hP : va_P d vwCl [(q, .inr (6, [.ref xo, .ref xd, .ref xf, .ref xm, .ref xr, .ref xw, .null, .null, .int (nI (0)), .int (nI (0)), .int (nI (0)), .int (nI (0)), .null, .null, .int (nI (0)), .null, .null, .int (nI (0))])), (xo, .inl (cI, 1296, .inl (fun _ => 0))), (xd, .inl (cI, 4, .inl (fun _ => 0))), (xf, .inl (cI, 1296, .inl (fun _ => 0))), (xm, .inl (cZ, 1296, .inl (fun _ => 0))), (xr, .inl (cZ, 1296, .inl (fun _ => 0))), (xw, .inl (cI, 1296, .inl (fun _ => 0)))] H := hP
  have hD : va_D A [(q, .inr (6, [.ref xo, .ref xd, .ref xf, .ref xm, .ref xr, .ref xw, .null, .null, .int (nI (0)), .int (nI (0)), .int (nI (0)), .int (nI (0)), .null, .null, .int (nI (0)), .null, .null, .int (nI (0))])), (xo, .inl (cI, 1296, .inl (fun _ => 0))), (xd, .inl (cI, 4, .inl (fun _ => 0))), (xf, .inl (cI, 1296, .inl (fun _ => 0))), (xm, .inl (cZ, 1296, .inl (fun _ => 0))), (xr, .inl (cZ, 1296, .inl (fun _ => 0))), (xw, .inl (cI, 1296, .inl (fun _ => 0)))] := hD
  refine lv_aload_n hx hb dX6_init_56 rfl (lv_at hl 0 rfl) ?_
  refine lv_sipush (v := nI (1296)) hx hb dX6_init_57 (by decide) ?_
  refine n_newa (atype := .long) (ty := .long) (a0 := (1296, .inr (.inl (fun _ => 0)))) hx hb harlong rfl hK 1 rfl (fun _ _ => rfl) hP hD hS hA (fun _ => rfl) (by decide) (Nat.le_of_ble_eq_true rfl) (Nat.le_of_ble_eq_true rfl) (Nat.le_of_ble_eq_true rfl) dX6_init_60 (fun xs H hP hD hS => ?_)
  have hP : va_P d vwCl [(q, .inr (6, [.ref xo, .ref xd, .ref xf, .ref xm, .ref xr, .ref xw, .null, .null, .int (nI (0)), .int (nI (0)), .int (nI (0)), .int (nI (0)), .null, .null, .int (nI (0)), .null, .null, .int (nI (0))])), (xo, .inl (cI, 1296, .inl (fun _ => 0))), (xd, .inl (cI, 4, .inl (fun _ => 0))), (xf, .inl (cI, 1296, .inl (fun _ => 0))), (xm, .inl (cZ, 1296, .inl (fun _ => 0))), (xr, .inl (cZ, 1296, .inl (fun _ => 0))), (xw, .inl (cI, 1296, .inl (fun _ => 0))), (xs, .inl (cJ, 1296, .inr (.inl (fun _ => 0))))] H := hP
  have hD : va_D A [(q, .inr (6, [.ref xo, .ref xd, .ref xf, .ref xm, .ref xr, .ref xw, .null, .null, .int (nI (0)), .int (nI (0)), .int (nI (0)), .int (nI (0)), .null, .null, .int (nI (0)), .null, .null, .int (nI (0))])), (xo, .inl (cI, 1296, .inl (fun _ => 0))), (xd, .inl (cI, 4, .inl (fun _ => 0))), (xf, .inl (cI, 1296, .inl (fun _ => 0))), (xm, .inl (cZ, 1296, .inl (fun _ => 0))), (xr, .inl (cZ, 1296, .inl (fun _ => 0))), (xw, .inl (cI, 1296, .inl (fun _ => 0))), (xs, .inl (cJ, 1296, .inr (.inl (fun _ => 0))))] := hD
  refine va_putF (D := d) (ci := 6) (v := .ref xs) (ty := .array .long) (C := RX6) (T := TX6) (N := 18) hx hb hts hin6 tyX6 tyX6_ok nmX6 hown hK hP hD hS 0 rfl rfl 6 (by decide) hfl29 (fun _ h9 => h9) rfl hin rfl (by decide +kernel) rfl rfl (Nat.le_of_ble_eq_true rfl) dX6_init_62 (fun H locs hP hD hS => ?_)
  have hP : va_P d vwCl [(q, .inr (6, [.ref xo, .ref xd, .ref xf, .ref xm, .ref xr, .ref xw, .ref xs, .null, .int (nI (0)), .int (nI (0)), .int (nI (0)), .int (nI (0)), .null, .null, .int (nI (0)), .null, .null, .int (nI (0))])), (xo, .inl (cI, 1296, .inl (fun _ => 0))), (xd, .inl (cI, 4, .inl (fun _ => 0))), (xf, .inl (cI, 1296, .inl (fun _ => 0))), (xm, .inl (cZ, 1296, .inl (fun _ => 0))), (xr, .inl (cZ, 1296, .inl (fun _ => 0))), (xw, .inl (cI, 1296, .inl (fun _ => 0))), (xs, .inl (cJ, 1296, .inr (.inl (fun _ => 0))))] H := hP
  have hD : va_D A [(q, .inr (6, [.ref xo, .ref xd, .ref xf, .ref xm, .ref xr, .ref xw, .ref xs, .null, .int (nI (0)), .int (nI (0)), .int (nI (0)), .int (nI (0)), .null, .null, .int (nI (0)), .null, .null, .int (nI (0))])), (xo, .inl (cI, 1296, .inl (fun _ => 0))), (xd, .inl (cI, 4, .inl (fun _ => 0))), (xf, .inl (cI, 1296, .inl (fun _ => 0))), (xm, .inl (cZ, 1296, .inl (fun _ => 0))), (xr, .inl (cZ, 1296, .inl (fun _ => 0))), (xw, .inl (cI, 1296, .inl (fun _ => 0))), (xs, .inl (cJ, 1296, .inr (.inl (fun _ => 0))))] := hD
  refine lv_aload_n hx hb dX6_init_65 rfl (lv_at hl 0 rfl) ?_
  refine lv_sipush (v := nI (1296)) hx hb dX6_init_66 (by decide) ?_
  refine n_newa (atype := .int) (ty := .int) (a0 := (1296, .inl (fun _ => 0))) hx hb harint rfl hK 0 rfl (fun _ _ => rfl) hP hD hS hA (fun _ => rfl) (by decide) (Nat.le_of_ble_eq_true rfl) (Nat.le_of_ble_eq_true rfl) (Nat.le_of_ble_eq_true rfl) dX6_init_69 (fun xc H hP hD hS => ?_)
  have hP : va_P d vwCl [(q, .inr (6, [.ref xo, .ref xd, .ref xf, .ref xm, .ref xr, .ref xw, .ref xs, .null, .int (nI (0)), .int (nI (0)), .int (nI (0)), .int (nI (0)), .null, .null, .int (nI (0)), .null, .null, .int (nI (0))])), (xo, .inl (cI, 1296, .inl (fun _ => 0))), (xd, .inl (cI, 4, .inl (fun _ => 0))), (xf, .inl (cI, 1296, .inl (fun _ => 0))), (xm, .inl (cZ, 1296, .inl (fun _ => 0))), (xr, .inl (cZ, 1296, .inl (fun _ => 0))), (xw, .inl (cI, 1296, .inl (fun _ => 0))), (xs, .inl (cJ, 1296, .inr (.inl (fun _ => 0)))), (xc, .inl (cI, 1296, .inl (fun _ => 0)))] H := hP
  have hD : va_D A [(q, .inr (6, [.ref xo, .ref xd, .ref xf, .ref xm, .ref xr, .ref xw, .ref xs, .null, .int (nI (0)), .int (nI (0)), .int (nI (0)), .int (nI (0)), .null, .null, .int (nI (0)), .null, .null, .int (nI (0))])), (xo, .inl (cI, 1296, .inl (fun _ => 0))), (xd, .inl (cI, 4, .inl (fun _ => 0))), (xf, .inl (cI, 1296, .inl (fun _ => 0))), (xm, .inl (cZ, 1296, .inl (fun _ => 0))), (xr, .inl (cZ, 1296, .inl (fun _ => 0))), (xw, .inl (cI, 1296, .inl (fun _ => 0))), (xs, .inl (cJ, 1296, .inr (.inl (fun _ => 0)))), (xc, .inl (cI, 1296, .inl (fun _ => 0)))] := hD
  refine va_putF (D := d) (ci := 6) (v := .ref xc) (ty := .array .int) (C := RX6) (T := TX6) (N := 18) hx hb hts hin6 tyX6 tyX6_ok nmX6 hown hK hP hD hS 0 rfl rfl 7 (by decide) hfl33 (fun _ h9 => h9) rfl hin rfl (by decide +kernel) rfl rfl (Nat.le_of_ble_eq_true rfl) dX6_init_71 (fun H locs hP hD hS => ?_)
  have hP : va_P d vwCl [(q, .inr (6, [.ref xo, .ref xd, .ref xf, .ref xm, .ref xr, .ref xw, .ref xs, .ref xc, .int (nI (0)), .int (nI (0)), .int (nI (0)), .int (nI (0)), .null, .null, .int (nI (0)), .null, .null, .int (nI (0))])), (xo, .inl (cI, 1296, .inl (fun _ => 0))), (xd, .inl (cI, 4, .inl (fun _ => 0))), (xf, .inl (cI, 1296, .inl (fun _ => 0))), (xm, .inl (cZ, 1296, .inl (fun _ => 0))), (xr, .inl (cZ, 1296, .inl (fun _ => 0))), (xw, .inl (cI, 1296, .inl (fun _ => 0))), (xs, .inl (cJ, 1296, .inr (.inl (fun _ => 0)))), (xc, .inl (cI, 1296, .inl (fun _ => 0)))] H := hP
  have hD : va_D A [(q, .inr (6, [.ref xo, .ref xd, .ref xf, .ref xm, .ref xr, .ref xw, .ref xs, .ref xc, .int (nI (0)), .int (nI (0)), .int (nI (0)), .int (nI (0)), .null, .null, .int (nI (0)), .null, .null, .int (nI (0))])), (xo, .inl (cI, 1296, .inl (fun _ => 0))), (xd, .inl (cI, 4, .inl (fun _ => 0))), (xf, .inl (cI, 1296, .inl (fun _ => 0))), (xm, .inl (cZ, 1296, .inl (fun _ => 0))), (xr, .inl (cZ, 1296, .inl (fun _ => 0))), (xw, .inl (cI, 1296, .inl (fun _ => 0))), (xs, .inl (cJ, 1296, .inr (.inl (fun _ => 0)))), (xc, .inl (cI, 1296, .inl (fun _ => 0)))] := hD
  refine lv_aload_n hx hb dX6_init_74 rfl (lv_at hl 0 rfl) ?_
  refine lv_iconst (v := (-1)) hx hb dX6_init_75 (by decide) ?_
  refine va_put (D := d) (ci := 6) (v := .int (-1)) (ty := .int) (C := RX6) (T := TX6) (N := 18) hx hb hts hin6 tyX6 tyX6_ok nmX6 hown hK hP hD hS 0 rfl rfl 10 (by decide) hfl36 (fun _ h9 => h9) rfl (by decide +kernel) rfl rfl (Nat.le_of_ble_eq_true rfl) dX6_init_76 (fun H locs hP hD hS => ?_)
  have hP : va_P d vwCl [(q, .inr (6, [.ref xo, .ref xd, .ref xf, .ref xm, .ref xr, .ref xw, .ref xs, .ref xc, .int (nI (0)), .int (nI (0)), .int (-1), .int (nI (0)), .null, .null, .int (nI (0)), .null, .null, .int (nI (0))])), (xo, .inl (cI, 1296, .inl (fun _ => 0))), (xd, .inl (cI, 4, .inl (fun _ => 0))), (xf, .inl (cI, 1296, .inl (fun _ => 0))), (xm, .inl (cZ, 1296, .inl (fun _ => 0))), (xr, .inl (cZ, 1296, .inl (fun _ => 0))), (xw, .inl (cI, 1296, .inl (fun _ => 0))), (xs, .inl (cJ, 1296, .inr (.inl (fun _ => 0)))), (xc, .inl (cI, 1296, .inl (fun _ => 0)))] H := hP
  have hD : va_D A [(q, .inr (6, [.ref xo, .ref xd, .ref xf, .ref xm, .ref xr, .ref xw, .ref xs, .ref xc, .int (nI (0)), .int (nI (0)), .int (-1), .int (nI (0)), .null, .null, .int (nI (0)), .null, .null, .int (nI (0))])), (xo, .inl (cI, 1296, .inl (fun _ => 0))), (xd, .inl (cI, 4, .inl (fun _ => 0))), (xf, .inl (cI, 1296, .inl (fun _ => 0))), (xm, .inl (cZ, 1296, .inl (fun _ => 0))), (xr, .inl (cZ, 1296, .inl (fun _ => 0))), (xw, .inl (cI, 1296, .inl (fun _ => 0))), (xs, .inl (cJ, 1296, .inr (.inl (fun _ => 0)))), (xc, .inl (cI, 1296, .inl (fun _ => 0)))] := hD
  refine lv_aload_n hx hb dX6_init_79 rfl (lv_at hl 0 rfl) ?_
  refine lv_sipush (v := nI (300)) hx hb dX6_init_80 (by decide) ?_
  refine n_newa (atype := .int) (ty := .int) (a0 := (300, .inl (fun _ => 0))) hx hb harint rfl hK 0 rfl (fun _ _ => rfl) hP hD hS hA (fun _ => rfl) (by decide) (Nat.le_of_ble_eq_true rfl) (Nat.le_of_ble_eq_true rfl) (Nat.le_of_ble_eq_true rfl) dX6_init_83 (fun yf H hP hD hS => ?_)
  have hP : va_P d vwCl [(q, .inr (6, [.ref xo, .ref xd, .ref xf, .ref xm, .ref xr, .ref xw, .ref xs, .ref xc, .int (nI (0)), .int (nI (0)), .int (-1), .int (nI (0)), .null, .null, .int (nI (0)), .null, .null, .int (nI (0))])), (xo, .inl (cI, 1296, .inl (fun _ => 0))), (xd, .inl (cI, 4, .inl (fun _ => 0))), (xf, .inl (cI, 1296, .inl (fun _ => 0))), (xm, .inl (cZ, 1296, .inl (fun _ => 0))), (xr, .inl (cZ, 1296, .inl (fun _ => 0))), (xw, .inl (cI, 1296, .inl (fun _ => 0))), (xs, .inl (cJ, 1296, .inr (.inl (fun _ => 0)))), (xc, .inl (cI, 1296, .inl (fun _ => 0))), (yf, .inl (cI, 300, .inl (fun _ => 0)))] H := hP
  have hD : va_D A [(q, .inr (6, [.ref xo, .ref xd, .ref xf, .ref xm, .ref xr, .ref xw, .ref xs, .ref xc, .int (nI (0)), .int (nI (0)), .int (-1), .int (nI (0)), .null, .null, .int (nI (0)), .null, .null, .int (nI (0))])), (xo, .inl (cI, 1296, .inl (fun _ => 0))), (xd, .inl (cI, 4, .inl (fun _ => 0))), (xf, .inl (cI, 1296, .inl (fun _ => 0))), (xm, .inl (cZ, 1296, .inl (fun _ => 0))), (xr, .inl (cZ, 1296, .inl (fun _ => 0))), (xw, .inl (cI, 1296, .inl (fun _ => 0))), (xs, .inl (cJ, 1296, .inr (.inl (fun _ => 0)))), (xc, .inl (cI, 1296, .inl (fun _ => 0))), (yf, .inl (cI, 300, .inl (fun _ => 0)))] := hD
  refine va_putF (D := d) (ci := 6) (v := .ref yf) (ty := .array .int) (C := RX6) (T := TX6) (N := 18) hx hb hts hin6 tyX6 tyX6_ok nmX6 hown hK hP hD hS 0 rfl rfl 12 (by decide) hfl40 (fun _ h9 => h9) rfl hin rfl (by decide +kernel) rfl rfl (Nat.le_of_ble_eq_true rfl) dX6_init_85 (fun H locs hP hD hS => ?_)
  have hP : va_P d vwCl [(q, .inr (6, [.ref xo, .ref xd, .ref xf, .ref xm, .ref xr, .ref xw, .ref xs, .ref xc, .int (nI (0)), .int (nI (0)), .int (-1), .int (nI (0)), .ref yf, .null, .int (nI (0)), .null, .null, .int (nI (0))])), (xo, .inl (cI, 1296, .inl (fun _ => 0))), (xd, .inl (cI, 4, .inl (fun _ => 0))), (xf, .inl (cI, 1296, .inl (fun _ => 0))), (xm, .inl (cZ, 1296, .inl (fun _ => 0))), (xr, .inl (cZ, 1296, .inl (fun _ => 0))), (xw, .inl (cI, 1296, .inl (fun _ => 0))), (xs, .inl (cJ, 1296, .inr (.inl (fun _ => 0)))), (xc, .inl (cI, 1296, .inl (fun _ => 0))), (yf, .inl (cI, 300, .inl (fun _ => 0)))] H := hP
  have hD : va_D A [(q, .inr (6, [.ref xo, .ref xd, .ref xf, .ref xm, .ref xr, .ref xw, .ref xs, .ref xc, .int (nI (0)), .int (nI (0)), .int (-1), .int (nI (0)), .ref yf, .null, .int (nI (0)), .null, .null, .int (nI (0))])), (xo, .inl (cI, 1296, .inl (fun _ => 0))), (xd, .inl (cI, 4, .inl (fun _ => 0))), (xf, .inl (cI, 1296, .inl (fun _ => 0))), (xm, .inl (cZ, 1296, .inl (fun _ => 0))), (xr, .inl (cZ, 1296, .inl (fun _ => 0))), (xw, .inl (cI, 1296, .inl (fun _ => 0))), (xs, .inl (cJ, 1296, .inr (.inl (fun _ => 0)))), (xc, .inl (cI, 1296, .inl (fun _ => 0))), (yf, .inl (cI, 300, .inl (fun _ => 0)))] := hD
  refine lv_aload_n hx hb dX6_init_88 rfl (lv_at hl 0 rfl) ?_
  refine lv_sipush (v := nI (300)) hx hb dX6_init_89 (by decide) ?_
  refine n_newa (atype := .int) (ty := .int) (a0 := (300, .inl (fun _ => 0))) hx hb harint rfl hK 0 rfl (fun _ _ => rfl) hP hD hS hA (fun _ => rfl) (by decide) (Nat.le_of_ble_eq_true rfl) (Nat.le_of_ble_eq_true rfl) (Nat.le_of_ble_eq_true rfl) dX6_init_92 (fun yt H hP hD hS => ?_)
  have hP : va_P d vwCl [(q, .inr (6, [.ref xo, .ref xd, .ref xf, .ref xm, .ref xr, .ref xw, .ref xs, .ref xc, .int (nI (0)), .int (nI (0)), .int (-1), .int (nI (0)), .ref yf, .null, .int (nI (0)), .null, .null, .int (nI (0))])), (xo, .inl (cI, 1296, .inl (fun _ => 0))), (xd, .inl (cI, 4, .inl (fun _ => 0))), (xf, .inl (cI, 1296, .inl (fun _ => 0))), (xm, .inl (cZ, 1296, .inl (fun _ => 0))), (xr, .inl (cZ, 1296, .inl (fun _ => 0))), (xw, .inl (cI, 1296, .inl (fun _ => 0))), (xs, .inl (cJ, 1296, .inr (.inl (fun _ => 0)))), (xc, .inl (cI, 1296, .inl (fun _ => 0))), (yf, .inl (cI, 300, .inl (fun _ => 0))), (yt, .inl (cI, 300, .inl (fun _ => 0)))] H := hP
  have hD : va_D A [(q, .inr (6, [.ref xo, .ref xd, .ref xf, .ref xm, .ref xr, .ref xw, .ref xs, .ref xc, .int (nI (0)), .int (nI (0)), .int (-1), .int (nI (0)), .ref yf, .null, .int (nI (0)), .null, .null, .int (nI (0))])), (xo, .inl (cI, 1296, .inl (fun _ => 0))), (xd, .inl (cI, 4, .inl (fun _ => 0))), (xf, .inl (cI, 1296, .inl (fun _ => 0))), (xm, .inl (cZ, 1296, .inl (fun _ => 0))), (xr, .inl (cZ, 1296, .inl (fun _ => 0))), (xw, .inl (cI, 1296, .inl (fun _ => 0))), (xs, .inl (cJ, 1296, .inr (.inl (fun _ => 0)))), (xc, .inl (cI, 1296, .inl (fun _ => 0))), (yf, .inl (cI, 300, .inl (fun _ => 0))), (yt, .inl (cI, 300, .inl (fun _ => 0)))] := hD
  refine va_putF (D := d) (ci := 6) (v := .ref yt) (ty := .array .int) (C := RX6) (T := TX6) (N := 18) hx hb hts hin6 tyX6 tyX6_ok nmX6 hown hK hP hD hS 0 rfl rfl 13 (by decide) hfl43 (fun _ h9 => h9) rfl hin rfl (by decide +kernel) rfl rfl (Nat.le_of_ble_eq_true rfl) dX6_init_94 (fun H locs hP hD hS => ?_)
  have hP : va_P d vwCl [(q, .inr (6, [.ref xo, .ref xd, .ref xf, .ref xm, .ref xr, .ref xw, .ref xs, .ref xc, .int (nI (0)), .int (nI (0)), .int (-1), .int (nI (0)), .ref yf, .ref yt, .int (nI (0)), .null, .null, .int (nI (0))])), (xo, .inl (cI, 1296, .inl (fun _ => 0))), (xd, .inl (cI, 4, .inl (fun _ => 0))), (xf, .inl (cI, 1296, .inl (fun _ => 0))), (xm, .inl (cZ, 1296, .inl (fun _ => 0))), (xr, .inl (cZ, 1296, .inl (fun _ => 0))), (xw, .inl (cI, 1296, .inl (fun _ => 0))), (xs, .inl (cJ, 1296, .inr (.inl (fun _ => 0)))), (xc, .inl (cI, 1296, .inl (fun _ => 0))), (yf, .inl (cI, 300, .inl (fun _ => 0))), (yt, .inl (cI, 300, .inl (fun _ => 0)))] H := hP
  have hD : va_D A [(q, .inr (6, [.ref xo, .ref xd, .ref xf, .ref xm, .ref xr, .ref xw, .ref xs, .ref xc, .int (nI (0)), .int (nI (0)), .int (-1), .int (nI (0)), .ref yf, .ref yt, .int (nI (0)), .null, .null, .int (nI (0))])), (xo, .inl (cI, 1296, .inl (fun _ => 0))), (xd, .inl (cI, 4, .inl (fun _ => 0))), (xf, .inl (cI, 1296, .inl (fun _ => 0))), (xm, .inl (cZ, 1296, .inl (fun _ => 0))), (xr, .inl (cZ, 1296, .inl (fun _ => 0))), (xw, .inl (cI, 1296, .inl (fun _ => 0))), (xs, .inl (cJ, 1296, .inr (.inl (fun _ => 0)))), (xc, .inl (cI, 1296, .inl (fun _ => 0))), (yf, .inl (cI, 300, .inl (fun _ => 0))), (yt, .inl (cI, 300, .inl (fun _ => 0)))] := hD
  refine lv_aload_n hx hb dX6_init_97 rfl (lv_at hl 0 rfl) ?_
  refine lv_bipush (v := nI (60)) hx hb dX6_init_98 (by decide) ?_
  refine n_newa (atype := .int) (ty := .int) (a0 := (60, .inl (fun _ => 0))) hx hb harint rfl hK 0 rfl (fun _ _ => rfl) hP hD hS hA (fun _ => rfl) (by decide) (Nat.le_of_ble_eq_true rfl) (Nat.le_of_ble_eq_true rfl) (Nat.le_of_ble_eq_true rfl) dX6_init_100 (fun ye H hP hD hS => ?_)
  have hP : va_P d vwCl [(q, .inr (6, [.ref xo, .ref xd, .ref xf, .ref xm, .ref xr, .ref xw, .ref xs, .ref xc, .int (nI (0)), .int (nI (0)), .int (-1), .int (nI (0)), .ref yf, .ref yt, .int (nI (0)), .null, .null, .int (nI (0))])), (xo, .inl (cI, 1296, .inl (fun _ => 0))), (xd, .inl (cI, 4, .inl (fun _ => 0))), (xf, .inl (cI, 1296, .inl (fun _ => 0))), (xm, .inl (cZ, 1296, .inl (fun _ => 0))), (xr, .inl (cZ, 1296, .inl (fun _ => 0))), (xw, .inl (cI, 1296, .inl (fun _ => 0))), (xs, .inl (cJ, 1296, .inr (.inl (fun _ => 0)))), (xc, .inl (cI, 1296, .inl (fun _ => 0))), (yf, .inl (cI, 300, .inl (fun _ => 0))), (yt, .inl (cI, 300, .inl (fun _ => 0))), (ye, .inl (cI, 60, .inl (fun _ => 0)))] H := hP
  have hD : va_D A [(q, .inr (6, [.ref xo, .ref xd, .ref xf, .ref xm, .ref xr, .ref xw, .ref xs, .ref xc, .int (nI (0)), .int (nI (0)), .int (-1), .int (nI (0)), .ref yf, .ref yt, .int (nI (0)), .null, .null, .int (nI (0))])), (xo, .inl (cI, 1296, .inl (fun _ => 0))), (xd, .inl (cI, 4, .inl (fun _ => 0))), (xf, .inl (cI, 1296, .inl (fun _ => 0))), (xm, .inl (cZ, 1296, .inl (fun _ => 0))), (xr, .inl (cZ, 1296, .inl (fun _ => 0))), (xw, .inl (cI, 1296, .inl (fun _ => 0))), (xs, .inl (cJ, 1296, .inr (.inl (fun _ => 0)))), (xc, .inl (cI, 1296, .inl (fun _ => 0))), (yf, .inl (cI, 300, .inl (fun _ => 0))), (yt, .inl (cI, 300, .inl (fun _ => 0))), (ye, .inl (cI, 60, .inl (fun _ => 0)))] := hD
  refine va_putF (D := d) (ci := 6) (v := .ref ye) (ty := .array .int) (C := RX6) (T := TX6) (N := 18) hx hb hts hin6 tyX6 tyX6_ok nmX6 hown hK hP hD hS 0 rfl rfl 15 (by decide) hfl46 (fun _ h9 => h9) rfl hin rfl (by decide +kernel) rfl rfl (Nat.le_of_ble_eq_true rfl) dX6_init_102 (fun H locs hP hD hS => ?_)
  have hP : va_P d vwCl [(q, .inr (6, [.ref xo, .ref xd, .ref xf, .ref xm, .ref xr, .ref xw, .ref xs, .ref xc, .int (nI (0)), .int (nI (0)), .int (-1), .int (nI (0)), .ref yf, .ref yt, .int (nI (0)), .ref ye, .null, .int (nI (0))])), (xo, .inl (cI, 1296, .inl (fun _ => 0))), (xd, .inl (cI, 4, .inl (fun _ => 0))), (xf, .inl (cI, 1296, .inl (fun _ => 0))), (xm, .inl (cZ, 1296, .inl (fun _ => 0))), (xr, .inl (cZ, 1296, .inl (fun _ => 0))), (xw, .inl (cI, 1296, .inl (fun _ => 0))), (xs, .inl (cJ, 1296, .inr (.inl (fun _ => 0)))), (xc, .inl (cI, 1296, .inl (fun _ => 0))), (yf, .inl (cI, 300, .inl (fun _ => 0))), (yt, .inl (cI, 300, .inl (fun _ => 0))), (ye, .inl (cI, 60, .inl (fun _ => 0)))] H := hP
  have hD : va_D A [(q, .inr (6, [.ref xo, .ref xd, .ref xf, .ref xm, .ref xr, .ref xw, .ref xs, .ref xc, .int (nI (0)), .int (nI (0)), .int (-1), .int (nI (0)), .ref yf, .ref yt, .int (nI (0)), .ref ye, .null, .int (nI (0))])), (xo, .inl (cI, 1296, .inl (fun _ => 0))), (xd, .inl (cI, 4, .inl (fun _ => 0))), (xf, .inl (cI, 1296, .inl (fun _ => 0))), (xm, .inl (cZ, 1296, .inl (fun _ => 0))), (xr, .inl (cZ, 1296, .inl (fun _ => 0))), (xw, .inl (cI, 1296, .inl (fun _ => 0))), (xs, .inl (cJ, 1296, .inr (.inl (fun _ => 0)))), (xc, .inl (cI, 1296, .inl (fun _ => 0))), (yf, .inl (cI, 300, .inl (fun _ => 0))), (yt, .inl (cI, 300, .inl (fun _ => 0))), (ye, .inl (cI, 60, .inl (fun _ => 0)))] := hD
  refine lv_aload_n hx hb dX6_init_105 rfl (lv_at hl 0 rfl) ?_
  refine lv_bipush (v := nI (60)) hx hb dX6_init_106 (by decide) ?_
  refine n_newa (atype := .boolean) (ty := .boolean) (a0 := (60, .inl (fun _ => 0))) hx hb harboolean rfl hK 2 rfl (fun _ _ => rfl) hP hD hS hA (fun _ => rfl) (by decide) (Nat.le_of_ble_eq_true rfl) (Nat.le_of_ble_eq_true rfl) (Nat.le_of_ble_eq_true rfl) dX6_init_108 (fun yw H hP hD hS => ?_)
  have hP : va_P d vwCl [(q, .inr (6, [.ref xo, .ref xd, .ref xf, .ref xm, .ref xr, .ref xw, .ref xs, .ref xc, .int (nI (0)), .int (nI (0)), .int (-1), .int (nI (0)), .ref yf, .ref yt, .int (nI (0)), .ref ye, .null, .int (nI (0))])), (xo, .inl (cI, 1296, .inl (fun _ => 0))), (xd, .inl (cI, 4, .inl (fun _ => 0))), (xf, .inl (cI, 1296, .inl (fun _ => 0))), (xm, .inl (cZ, 1296, .inl (fun _ => 0))), (xr, .inl (cZ, 1296, .inl (fun _ => 0))), (xw, .inl (cI, 1296, .inl (fun _ => 0))), (xs, .inl (cJ, 1296, .inr (.inl (fun _ => 0)))), (xc, .inl (cI, 1296, .inl (fun _ => 0))), (yf, .inl (cI, 300, .inl (fun _ => 0))), (yt, .inl (cI, 300, .inl (fun _ => 0))), (ye, .inl (cI, 60, .inl (fun _ => 0))), (yw, .inl (cZ, 60, .inl (fun _ => 0)))] H := hP
  have hD : va_D A [(q, .inr (6, [.ref xo, .ref xd, .ref xf, .ref xm, .ref xr, .ref xw, .ref xs, .ref xc, .int (nI (0)), .int (nI (0)), .int (-1), .int (nI (0)), .ref yf, .ref yt, .int (nI (0)), .ref ye, .null, .int (nI (0))])), (xo, .inl (cI, 1296, .inl (fun _ => 0))), (xd, .inl (cI, 4, .inl (fun _ => 0))), (xf, .inl (cI, 1296, .inl (fun _ => 0))), (xm, .inl (cZ, 1296, .inl (fun _ => 0))), (xr, .inl (cZ, 1296, .inl (fun _ => 0))), (xw, .inl (cI, 1296, .inl (fun _ => 0))), (xs, .inl (cJ, 1296, .inr (.inl (fun _ => 0)))), (xc, .inl (cI, 1296, .inl (fun _ => 0))), (yf, .inl (cI, 300, .inl (fun _ => 0))), (yt, .inl (cI, 300, .inl (fun _ => 0))), (ye, .inl (cI, 60, .inl (fun _ => 0))), (yw, .inl (cZ, 60, .inl (fun _ => 0)))] := hD
  refine va_putF (D := d) (ci := 6) (v := .ref yw) (ty := .array .boolean) (C := RX6) (T := TX6) (N := 18) hx hb hts hin6 tyX6 tyX6_ok nmX6 hown hK hP hD hS 0 rfl rfl 16 (by decide) hfl49 (fun _ h9 => h9) rfl hin rfl (by decide +kernel) rfl rfl (Nat.le_of_ble_eq_true rfl) dX6_init_110 (fun H locs hP hD hS => ?_)
  have hP : va_P d vwCl [(q, .inr (6, [.ref xo, .ref xd, .ref xf, .ref xm, .ref xr, .ref xw, .ref xs, .ref xc, .int (nI (0)), .int (nI (0)), .int (-1), .int (nI (0)), .ref yf, .ref yt, .int (nI (0)), .ref ye, .ref yw, .int (nI (0))])), (xo, .inl (cI, 1296, .inl (fun _ => 0))), (xd, .inl (cI, 4, .inl (fun _ => 0))), (xf, .inl (cI, 1296, .inl (fun _ => 0))), (xm, .inl (cZ, 1296, .inl (fun _ => 0))), (xr, .inl (cZ, 1296, .inl (fun _ => 0))), (xw, .inl (cI, 1296, .inl (fun _ => 0))), (xs, .inl (cJ, 1296, .inr (.inl (fun _ => 0)))), (xc, .inl (cI, 1296, .inl (fun _ => 0))), (yf, .inl (cI, 300, .inl (fun _ => 0))), (yt, .inl (cI, 300, .inl (fun _ => 0))), (ye, .inl (cI, 60, .inl (fun _ => 0))), (yw, .inl (cZ, 60, .inl (fun _ => 0)))] H := hP
  have hD : va_D A [(q, .inr (6, [.ref xo, .ref xd, .ref xf, .ref xm, .ref xr, .ref xw, .ref xs, .ref xc, .int (nI (0)), .int (nI (0)), .int (-1), .int (nI (0)), .ref yf, .ref yt, .int (nI (0)), .ref ye, .ref yw, .int (nI (0))])), (xo, .inl (cI, 1296, .inl (fun _ => 0))), (xd, .inl (cI, 4, .inl (fun _ => 0))), (xf, .inl (cI, 1296, .inl (fun _ => 0))), (xm, .inl (cZ, 1296, .inl (fun _ => 0))), (xr, .inl (cZ, 1296, .inl (fun _ => 0))), (xw, .inl (cI, 1296, .inl (fun _ => 0))), (xs, .inl (cJ, 1296, .inr (.inl (fun _ => 0)))), (xc, .inl (cI, 1296, .inl (fun _ => 0))), (yf, .inl (cI, 300, .inl (fun _ => 0))), (yt, .inl (cI, 300, .inl (fun _ => 0))), (ye, .inl (cI, 60, .inl (fun _ => 0))), (yw, .inl (cZ, 60, .inl (fun _ => 0)))] := hD
  refine lv_iconst (v := nI (0)) hx hb dX6_init_113 (by decide) ?_
  refine lv_istore_n (lv' := [(1, .int (nI (0))), (0, .ref q)]) hx hb dX6_init_114 rfl hl (by decide) rfl (fun ls hl => ?_)
  refine W.widen (k := 12) (n := 9796) (Nat.le_of_ble_eq_true rfl) (Nat.le_of_ble_eq_true rfl) ?_
  have loop : ∀ (n k : Nat) (g1 h1 : Nat → Int32), k + n = 1296 → (∀ j, j < k → g1 j = nI (form j)) → ∀ (H : Heap) (locs : List Loc), va_P d vwCl [(q, .inr (6, [.ref xo, .ref xd, .ref xf, .ref xm, .ref xr, .ref xw, .ref xs, .ref xc, .int (nI (0)), .int (nI (0)), .int (-1), .int (nI (0)), .ref yf, .ref yt, .int (nI (0)), .ref ye, .ref yw, .int (nI (0))])), (xo, .inl (cI, 1296, .inl (g1))), (xd, .inl (cI, 4, .inl (h1))), (xf, .inl (cI, 1296, .inl (fun _ => 0))), (xm, .inl (cZ, 1296, .inl (fun _ => 0))), (xr, .inl (cZ, 1296, .inl (fun _ => 0))), (xw, .inl (cI, 1296, .inl (fun _ => 0))), (xs, .inl (cJ, 1296, .inr (.inl (fun _ => 0)))), (xc, .inl (cI, 1296, .inl (fun _ => 0))), (yf, .inl (cI, 300, .inl (fun _ => 0))), (yt, .inl (cI, 300, .inl (fun _ => 0))), (ye, .inl (cI, 60, .inl (fun _ => 0))), (yw, .inl (cZ, 60, .inl (fun _ => 0)))] H → va_D A [(q, .inr (6, [.ref xo, .ref xd, .ref xf, .ref xm, .ref xr, .ref xw, .ref xs, .ref xc, .int (nI (0)), .int (nI (0)), .int (-1), .int (nI (0)), .ref yf, .ref yt, .int (nI (0)), .ref ye, .ref yw, .int (nI (0))])), (xo, .inl (cI, 1296, .inl (g1))), (xd, .inl (cI, 4, .inl (h1))), (xf, .inl (cI, 1296, .inl (fun _ => 0))), (xm, .inl (cZ, 1296, .inl (fun _ => 0))), (xr, .inl (cZ, 1296, .inl (fun _ => 0))), (xw, .inl (cI, 1296, .inl (fun _ => 0))), (xs, .inl (cJ, 1296, .inr (.inl (fun _ => 0)))), (xc, .inl (cI, 1296, .inl (fun _ => 0))), (yf, .inl (cI, 300, .inl (fun _ => 0))), (yt, .inl (cI, 300, .inl (fun _ => 0))), (ye, .inl (cI, 60, .inl (fun _ => 0))), (yw, .inl (cZ, 60, .inl (fun _ => 0)))] → va_S A s.heap H locs → ∀ (ls : Array Slot), lv_has ls 2 [(1, .int (nI (k))), (0, .ref q)] → W p l e ({ frames := 3, cells := 12, slots := 9796, locals := 70 } : Room) s m ([.ref q] : List Value).toArray below meth c H locs 12 9796 Q (F0 m 115 ls []) := by
    intro n
    induction n with
    | zero =>
      intro k g1 h1 hk hg H locs hP hD hS ls hl
      refine lv_iload_n hx hb dX6_init_115 rfl (lv_at hl 0 rfl) ?_
      refine lv_sipush (v := nI (1296)) hx hb dX6_init_116 (by decide) ?_
      refine n_icmp_ge (tgt := 139) hx hb dX6_init_119 (by decide) (by omega) (by omega) (fun c_1 => ?_) (fun c_1 => ?_)
      ·
        obtain ⟨hP, hD⟩ := n_cg (ws' := [(q, .inr (6, [.ref xo, .ref xd, .ref xf, .ref xm, .ref xr, .ref xw, .ref xs, .ref xc, .int (nI (0)), .int (nI (0)), .int (-1), .int (nI (0)), .ref yf, .ref yt, .int (nI (0)), .ref ye, .ref yw, .int (nI (0))])), (xo, .inl (cI, 1296, .inl (fun j => nI (form j)))), (xd, .inl (cI, 4, .inl (h1))), (xf, .inl (cI, 1296, .inl (fun _ => 0))), (xm, .inl (cZ, 1296, .inl (fun _ => 0))), (xr, .inl (cZ, 1296, .inl (fun _ => 0))), (xw, .inl (cI, 1296, .inl (fun _ => 0))), (xs, .inl (cJ, 1296, .inr (.inl (fun _ => 0)))), (xc, .inl (cI, 1296, .inl (fun _ => 0))), (yf, .inl (cI, 300, .inl (fun _ => 0))), (yt, .inl (cI, 300, .inl (fun _ => 0))), (ye, .inl (cI, 60, .inl (fun _ => 0))), (yw, .inl (cZ, 60, .inl (fun _ => 0)))]) hP hD 1 rfl (by intro j hj; exact hg j (by omega)) rfl
        subst hQ
        refine W.widen (k := 12) (n := 9796) (Nat.le_refl _) (Nat.le_refl _) ?_
        exact W.vret hx hb hr (fun t ht hW => ⟨⟨(h1, xo, xd, xf, xm, xr, xw, xs, xc, yf, yt, ye, yw), rfl, by rw [ht]; exact hP.sub [0, 1, 2, 3, 4, 5, 6, 7, 8, 9, 10, 11, 12] rfl, hD.sub [0, 1, 2, 3, 4, 5, 6, 7, 8, 9, 10, 11, 12] (by decide) rfl⟩, hS.F ht⟩) hS.2.2 dX6_init_139
      · exact False.elim (by omega)
    | succ n ih =>
      intro k g1 h1 hk hg H locs hP hD hS ls hl
      refine lv_iload_n hx hb dX6_init_115 rfl (lv_at hl 0 rfl) ?_
      refine lv_sipush (v := nI (1296)) hx hb dX6_init_116 (by decide) ?_
      refine n_icmp_ge (tgt := 139) hx hb dX6_init_119 (by decide) (by omega) (by omega) (fun c_2 => ?_) (fun c_2 => ?_)
      · exact False.elim (by omega)
      ·
        refine lv_aload_n hx hb dX6_init_122 rfl (lv_at hl 1 rfl) ?_
        refine va_get (D := d) (ci := 6) (v := .ref xo) (C := RX6) (T := TX6) (N := 18) hx hb hts hin6 hown hK hP 0 rfl rfl 0 (by decide) hfl7 (fun _ h9 => h9) rfl dX6_init_123 ?_
        refine lv_iload_n hx hb dX6_init_126 rfl (lv_at hl 0 rfl) ?_
        refine lv_aload_n hx hb dX6_init_127 rfl (lv_at hl 1 rfl) ?_
        refine lv_iload_n hx hb dX6_init_128 rfl (lv_at hl 0 rfl) ?_
        refine n_upV (As := [.int (nI (k))]) (rest := [.int (nI (k)), .ref xo]) (WC := [(q, .inr (6, [.ref xo, .ref xd, .ref xf, .ref xm, .ref xr, .ref xw, .ref xs, .ref xc, .int (nI (0)), .int (nI (0)), .int (-1), .int (nI (0)), .ref yf, .ref yt, .int (nI (0)), .ref ye, .ref yw, .int (nI (0))])), (xd, .inl (cI, 4, .inl (h1)))]) (WC' := [(q, .inr (6, [.ref xo, .ref xd, .ref xf, .ref xm, .ref xr, .ref xw, .ref xs, .ref xc, .int (nI (0)), .int (nI (0)), .int (-1), .int (nI (0)), .ref yf, .ref yt, .int (nI (0)), .ref ye, .ref yw, .int (nI (0))])), (xd, .inl (cI, 4, .inl (fun j => nI (dig (form k) j))))]) (wr := [(xo, .inl (cI, 1296, .inl (g1))), (xf, .inl (cI, 1296, .inl (fun _ => 0))), (xm, .inl (cZ, 1296, .inl (fun _ => 0))), (xr, .inl (cZ, 1296, .inl (fun _ => 0))), (xw, .inl (cI, 1296, .inl (fun _ => 0))), (xs, .inl (cJ, 1296, .inr (.inl (fun _ => 0)))), (xc, .inl (cI, 1296, .inl (fun _ => 0))), (yf, .inl (cI, 300, .inl (fun _ => 0))), (yt, .inl (cI, 300, .inl (fun _ => 0))), (ye, .inl (cI, 60, .inl (fun _ => 0))), (yw, .inl (cZ, 60, .inl (fun _ => 0)))]) (WS' := [(q, .inr (6, [.ref xo, .ref xd, .ref xf, .ref xm, .ref xr, .ref xw, .ref xs, .ref xc, .int (nI (0)), .int (nI (0)), .int (-1), .int (nI (0)), .ref yf, .ref yt, .int (nI (0)), .ref ye, .ref yw, .int (nI (0))])), (xo, .inl (cI, 1296, .inl (g1))), (xd, .inl (cI, 4, .inl (fun j => nI (dig (form k) j)))), (xf, .inl (cI, 1296, .inl (fun _ => 0))), (xm, .inl (cZ, 1296, .inl (fun _ => 0))), (xr, .inl (cZ, 1296, .inl (fun _ => 0))), (xw, .inl (cI, 1296, .inl (fun _ => 0))), (xs, .inl (cJ, 1296, .inr (.inl (fun _ => 0)))), (xc, .inl (cI, 1296, .inl (fun _ => 0))), (yf, .inl (cI, 300, .inl (fun _ => 0))), (yt, .inl (cI, 300, .inl (fun _ => 0))), (ye, .inl (cI, 60, .inl (fun _ => 0))), (yw, .inl (cZ, 60, .inl (fun _ => 0)))]) ⟨hx, hb, hml, hown, hts⟩ (c_X6_formed l d cI cJ cZ q xo xd xf xm xr xw xs xc yf yt ye yw (nI 0) (nI 0) (-1) (nI 0) (nI 0) (nI 0) k h1 (by omega)) (cwV 1 hts gX6_init_X6_formed rfl rfl rfl (by decide +kernel) ⟨Nat.le_of_ble_eq_true rfl, Nat.le_of_ble_eq_true rfl⟩) (va_recv hK hP (ci := 6) (q0 := 0) rfl rfl) hP hD hS hA hK [0, 2] [1, 3, 4, 5, 6, 7, 8, 9, 10, 11, 12] [11, 0, 12, 1, 2, 3, 4, 5, 6, 7, 8, 9, 10] rfl rfl (by decide) ⟨by decide, by decide⟩ (by decide) rfl rfl hl.1 rfl (Nat.le_of_ble_eq_true rfl) dX6_init_129 ⟨Nat.le_of_ble_eq_true rfl, Nat.le_of_ble_eq_true rfl⟩ (fun H locs hP hD hS => ?_)
        show W _ _ _ _ _ _ _ _ _ _ _ _ _ _ _ (F0 m _ ls (.int (nI (form k)) :: [.int (nI (k)), .ref xo]))
        refine n_iast (ws' := [(q, .inr (6, [.ref xo, .ref xd, .ref xf, .ref xm, .ref xr, .ref xw, .ref xs, .ref xc, .int (nI (0)), .int (nI (0)), .int (-1), .int (nI (0)), .ref yf, .ref yt, .int (nI (0)), .ref ye, .ref yw, .int (nI (0))])), (xo, .inl (cI, 1296, .inl (upd g1 k (nI (form k))))), (xd, .inl (cI, 4, .inl (fun j => nI (dig (form k) j)))), (xf, .inl (cI, 1296, .inl (fun _ => 0))), (xm, .inl (cZ, 1296, .inl (fun _ => 0))), (xr, .inl (cZ, 1296, .inl (fun _ => 0))), (xw, .inl (cI, 1296, .inl (fun _ => 0))), (xs, .inl (cJ, 1296, .inr (.inl (fun _ => 0)))), (xc, .inl (cI, 1296, .inl (fun _ => 0))), (yf, .inl (cI, 300, .inl (fun _ => 0))), (yt, .inl (cI, 300, .inl (fun _ => 0))), (ye, .inl (cI, 60, .inl (fun _ => 0))), (yw, .inl (cZ, 60, .inl (fun _ => 0)))]) hx hb hK hP hD hS 1 0 rfl rfl (k := k) (by omega) (by omega) dX6_init_132 rfl (fun H locs hP hD hS => ?_)
        refine lv_iinc (v := nI (k + 1)) (lv' := [(1, .int (nI (k + 1))), (0, .ref q)]) hx hb dX6_init_133 hl (k := 0) rfl (n_inc1 _) (by decide) rfl (fun ls hl => ?_)
        refine lv_goto (tgt := 115) hx hb dX6_init_136 (by decide) ?_
        exact ih (k + 1) _ _ (by omega) (fun j hj => by unfold upd; by_cases h : j = k <;> simp [h]; exact hg j (by omega)) H locs hP hD hS ls (lv_sub hl [0, 1] rfl)
  exact loop 1296 0 _ _ rfl (fun j hj => absurd hj (Nat.not_lt_zero j)) H locs hP hD hS ls (lv_sub hl [0, 1] rfl)
end
