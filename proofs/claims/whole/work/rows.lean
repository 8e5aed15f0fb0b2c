section
-- ===== PART A: goes FIRST, ahead of the names: the tables' words, and 'selects' of the private methods out of them =====
/-- a private method of a class that the tables say can be made, by its rows of tables_1 -/
def lw_okq (q : MethodName × Nat) : Prop := (q.1.cls ≠ "java/lang/invoke/MethodHandle" ∧ q.1.cls ≠ "java/lang/invoke/VarHandle") ∧ Cond.instantiable q.1.cls q.2 ∈ tables_1 ∧ Cond.privateMethod q.1 ∈ tables_1 ∧ Cond.instanceMethod q.1 ∈ tables_1
theorem lw_p0 : lw_okq (⟨"CutLengths", "renewPlan", "()V"⟩, 7) := ⟨⟨by decide +kernel, by decide +kernel⟩, List.mem_of_getElem? (i := 16) (by decide +kernel), List.mem_of_getElem? (i := 155) (by decide +kernel), List.mem_of_getElem? (i := 156) (by decide +kernel)⟩
theorem lw_p1 : lw_okq (⟨"CutLengths$Plan", "takeScrap", "(I)V"⟩, 3) := ⟨⟨by decide +kernel, by decide +kernel⟩, List.mem_of_getElem? (i := 87) (by decide +kernel), List.mem_of_getElem? (i := 167) (by decide +kernel), List.mem_of_getElem? (i := 168) (by decide +kernel)⟩
theorem lw_p2 : lw_okq (⟨"CutLengths$Plan", "takeBestPiece", "(IIILCutLengths$Strand;LCutLengths$WantedLengths;)V"⟩, 3) := ⟨⟨by decide +kernel, by decide +kernel⟩, List.mem_of_getElem? (i := 87) (by decide +kernel), List.mem_of_getElem? (i := 175) (by decide +kernel), List.mem_of_getElem? (i := 176) (by decide +kernel)⟩
theorem lw_p3 : lw_okq (⟨"CutLengths$Plan", "isBetter", "(II)Z"⟩, 3) := ⟨⟨by decide +kernel, by decide +kernel⟩, List.mem_of_getElem? (i := 87) (by decide +kernel), List.mem_of_getElem? (i := 186) (by decide +kernel), List.mem_of_getElem? (i := 187) (by decide +kernel)⟩
theorem lw_p4 : lw_okq (⟨"CutLengths$Plan", "takePiece", "(III)V"⟩, 3) := ⟨⟨by decide +kernel, by decide +kernel⟩, List.mem_of_getElem? (i := 87) (by decide +kernel), List.mem_of_getElem? (i := 190) (by decide +kernel), List.mem_of_getElem? (i := 191) (by decide +kernel)⟩
theorem lw_p5 : lw_okq (⟨"java/lang/Throwable", "fillInStackTrace", "(I)Ljava/lang/Throwable;"⟩, 6) := ⟨⟨by decide +kernel, by decide +kernel⟩, List.mem_of_getElem? (i := 246) (by decide +kernel), List.mem_of_getElem? (i := 244) (by decide +kernel), List.mem_of_getElem? (i := 245) (by decide +kernel)⟩
theorem lw_p6 : lw_okq (⟨"CutLengths", "tellSpan", "(III)V"⟩, 7) := ⟨⟨by decide +kernel, by decide +kernel⟩, List.mem_of_getElem? (i := 16) (by decide +kernel), List.mem_of_getElem? (i := 334) (by decide +kernel), List.mem_of_getElem? (i := 335) (by decide +kernel)⟩
theorem lw_p7 : lw_okq (⟨"CutLengths", "isSlab", "(I)Z"⟩, 7) := ⟨⟨by decide +kernel, by decide +kernel⟩, List.mem_of_getElem? (i := 16) (by decide +kernel), List.mem_of_getElem? (i := 437) (by decide +kernel), List.mem_of_getElem? (i := 438) (by decide +kernel)⟩
theorem lw_p8 : lw_okq (⟨"CutLengthsModel", "throwing", "(ZZ)Z"⟩, 24) := ⟨⟨by decide +kernel, by decide +kernel⟩, List.mem_of_getElem? (i := 462) (by decide +kernel), List.mem_of_getElem? (i := 554) (by decide +kernel), List.mem_of_getElem? (i := 555) (by decide +kernel)⟩
theorem lw_p9 : lw_okq (⟨"CutLengthsModel", "plan", "()V"⟩, 24) := ⟨⟨by decide +kernel, by decide +kernel⟩, List.mem_of_getElem? (i := 462) (by decide +kernel), List.mem_of_getElem? (i := 592) (by decide +kernel), List.mem_of_getElem? (i := 593) (by decide +kernel)⟩
theorem lw_p10 : lw_okq (⟨"CutLengthsModel", "isGood", "(I)Z"⟩, 24) := ⟨⟨by decide +kernel, by decide +kernel⟩, List.mem_of_getElem? (i := 462) (by decide +kernel), List.mem_of_getElem? (i := 596) (by decide +kernel), List.mem_of_getElem? (i := 597) (by decide +kernel)⟩
theorem lw_p11 : lw_okq (⟨"CutLengthsModel", "look", "(I)V"⟩, 24) := ⟨⟨by decide +kernel, by decide +kernel⟩, List.mem_of_getElem? (i := 462) (by decide +kernel), List.mem_of_getElem? (i := 600) (by decide +kernel), List.mem_of_getElem? (i := 601) (by decide +kernel)⟩
theorem lw_p12 : lw_okq (⟨"CutLengthsModel", "isBarred", "(I)Z"⟩, 24) := ⟨⟨by decide +kernel, by decide +kernel⟩, List.mem_of_getElem? (i := 462) (by decide +kernel), List.mem_of_getElem? (i := 604) (by decide +kernel), List.mem_of_getElem? (i := 605) (by decide +kernel)⟩
theorem lw_p13 : lw_okq (⟨"CutLengthsModel", "endOf", "(I)I"⟩, 24) := ⟨⟨by decide +kernel, by decide +kernel⟩, List.mem_of_getElem? (i := 462) (by decide +kernel), List.mem_of_getElem? (i := 612) (by decide +kernel), List.mem_of_getElem? (i := 613) (by decide +kernel)⟩
def lw_privs_1 : List (MethodName × Nat) := [(⟨"CutLengths", "renewPlan", "()V"⟩, 7), (⟨"CutLengths$Plan", "takeScrap", "(I)V"⟩, 3), (⟨"CutLengths$Plan", "takeBestPiece", "(IIILCutLengths$Strand;LCutLengths$WantedLengths;)V"⟩, 3), (⟨"CutLengths$Plan", "isBetter", "(II)Z"⟩, 3), (⟨"CutLengths$Plan", "takePiece", "(III)V"⟩, 3), (⟨"java/lang/Throwable", "fillInStackTrace", "(I)Ljava/lang/Throwable;"⟩, 6), (⟨"CutLengths", "tellSpan", "(III)V"⟩, 7), (⟨"CutLengths", "isSlab", "(I)Z"⟩, 7), (⟨"CutLengthsModel", "throwing", "(ZZ)Z"⟩, 24), (⟨"CutLengthsModel", "plan", "()V"⟩, 24), (⟨"CutLengthsModel", "isGood", "(I)Z"⟩, 24), (⟨"CutLengthsModel", "look", "(I)V"⟩, 24), (⟨"CutLengthsModel", "isBarred", "(I)Z"⟩, 24), (⟨"CutLengthsModel", "endOf", "(I)I"⟩, 24)]
theorem lw_r1 : ∀ q ∈ lw_privs_1, lw_okq q := List.forall_mem_cons.mpr ⟨lw_p0, List.forall_mem_cons.mpr ⟨lw_p1, List.forall_mem_cons.mpr ⟨lw_p2, List.forall_mem_cons.mpr ⟨lw_p3, List.forall_mem_cons.mpr ⟨lw_p4, List.forall_mem_cons.mpr ⟨lw_p5, List.forall_mem_cons.mpr ⟨lw_p6, List.forall_mem_cons.mpr ⟨lw_p7, List.forall_mem_cons.mpr ⟨lw_p8, List.forall_mem_cons.mpr ⟨lw_p9, List.forall_mem_cons.mpr ⟨lw_p10, List.forall_mem_cons.mpr ⟨lw_p11, List.forall_mem_cons.mpr ⟨lw_p12, List.forall_mem_cons.mpr ⟨lw_p13, fun _ h => absurd h List.not_mem_nil⟩⟩⟩⟩⟩⟩⟩⟩⟩⟩⟩⟩⟩⟩
def lw_privs : List (MethodName × Nat) := lw_privs_1
def lw_tbl : List Cond := k2_sels lw_privs ++ tables_1
theorem lw_privs_ok : ∀ q ∈ lw_privs, lw_okq q := lw_r1
end
section
/-! ===== BEGIN words of one list among another's, by their places ===== -/
theorem goodIn_r {big : List Cond} (ws : List Cond) (ps : List Nat) (hp : ws = ps.filterMap (fun i => big[i]?)) (h : ws.all goodWord = true) : GoodIn big ws := by
  intro w hw
  have h1 := List.all_eq_true.mp h w hw
  rw [hp] at hw
  obtain ⟨i, -, hi⟩ := List.mem_filterMap.mp hw
  have hm : w ∈ big := by first | exact List.mem_of_getElem? hi | exact List.getElem?_mem hi
  exact ⟨hm, good_of_word h1⟩
theorem goodIn_app {big a b : List Cond} (ha : GoodIn big a) (hb : GoodIn big b) : GoodIn big (a ++ b) := fun w h => (List.mem_append.mp h).elim (ha w) (hb w)
theorem goodIn_ca {big a b : List Cond} {c : Cond} (ha : GoodIn big (c :: a)) (hb : GoodIn big b) : GoodIn big (c :: (a ++ b)) := fun w h => (List.mem_cons.mp h).elim (fun e => ha w (List.mem_cons.mpr (Or.inl e))) (fun h => (List.mem_append.mp h).elim (fun h => ha w (List.mem_cons.mpr (Or.inr h))) (hb w))
theorem goodIn_sub {big ws : List Cond} (hm : ∀ w ∈ ws, w ∈ big) (h : ws.all goodWord = true) : GoodIn big ws := fun w hw => ⟨hm w hw, good_of_word (List.all_eq_true.mp h w hw)⟩
/-! ===== END ===== -/

/-! ===== BEGIN exceptions that leave a method, and their catching by the caller (launches without stack traces) ===== -/
section VXA
/-! The laws vx_back, vx_callV, vx_callS, vx_callSW, vx_throw0, vx_throwS follow proofs of the library, with one case more: JvmDerived/Free/Laws.lean (Back.of_free), Shelf42/LK1.lean (callV, callS), Shelf/KitTraced.lean (throwNew0V, throwNewS). -/
/-- where a method has thrown q: the class by its name, the cell, what was written, the world -/
def vx_T (XC : String → State → State → Prop) (st : State) (q : Addr) (t : State) (mc ms : Nat) (free : Addr → Prop) : Prop :=
  ∃ (E : String) (ce : Cell) (L : List Loc), XC E st t ∧ t.heap[q]? = some ce ∧ ce.vm = .none ∧ st.vm.findClass E = some ce.cls ∧ st.WarmedH t.vm ∧ st.sameButNew ({ t with vm := st.vm } : State) L mc ms ∧ ∀ z ∈ L, free z.base
def vx_Q (Qc : Array Value → State → Outcome → State → Prop) (XC : String → State → State → Prop) (mc ms : Nat) (free : Addr → Prop) : Array Value → State → Outcome → State → Prop := fun a st o t =>
  (Qc a st o t ∧ ∃ L, FrameEnd st o t L mc ms ∧ ∀ q ∈ L, free q.base) ∨ ∃ q, o = .threw q ∧ vx_T XC st q t mc ms free
/-- a callee that returns or throws -/
def vx_Met (l : Launch) (y : MethodName) (ws : List Cond) (rm : Room) (Pc : Array Value → State → Prop) (Qc : Array Value → State → Outcome → State → Prop) (XC : String → State → State → Prop) (mc ms : Nat) (free : Addr → Prop) : Prop :=
  MetFree l y (headSpec ws rm) Pc (fun _ _ _ _ _ => True) (vx_Q Qc XC mc ms free)
def vx_Post (XC : String → State → State → Prop) (mc ms : Nat) (free : Addr → Prop) : Pt → Array Value → Addr → Pt → Prop := fun A a q B =>
  ∃ (g : JFrame) (mk : MethodId) (t : State) (L : List Loc) (E : String) (ce : Cell), B.U.heap = t.heap ∧ B.U.vm = t.vm ∧ XC E (A.U.calling g mk a) t ∧ t.heap[q]? = some ce ∧ ce.vm = .none ∧ A.U.vm.findClass E = some ce.cls ∧ B.locs = A.locs ++ L ∧ (∀ z ∈ L, free z.base) ∧ B.cells = A.cells + mc ∧ B.slots = A.slots + ms
def vx_Back (l : Launch) (R : Room) (p : Program) (e : Env) (below : List Frame) (s : State) (sargs : Array Value) (y : MethodName) (len W9 : Nat)
    (Pre : Pt → Array Value → Prop) (Post : Pt → Array Value → Option Value → Pt → Prop) (PostX : Pt → Array Value → Addr → Pt → Prop) : Prop :=
  ∀ (m : MethodId) (meth : Method) (c : Code) (A : Pt) (g : JFrame) (ig : Instr) (mk : MethodId) (a : Array Value),
    Stand p l e R s m sargs below meth c A.U A.locs A.cells A.slots → g.method = m → g.locals.size = c.maxLocals → decode c.code g.pc = .ok (ig, len) →
    2 * g.monitorRoom + (g.stack.map fun v => v.category).sum ≤ W9 → A.U.methodNamed? y = some mk → Pre A a →
    (∃ (v : Option Value) (B : Pt), Stand p l e R s m sargs below meth c B.U B.locs B.cells B.slots ∧ Post A a v B ∧
      Steps p.tables e below (doInvoke e (A.U.setTop g) [] mk a).1 (B.U.setTop { g with pc := g.pc + len, stack := v.toList ++ g.stack })) ∨
    (∃ (q : Addr) (B : Pt), Stand p l e R s m sargs below meth c B.U B.locs B.cells B.slots ∧ PostX A a q B ∧
      Steps p.tables e below (doInvoke e (A.U.setTop g) [] mk a).1 ((B.U.setTop g).pushFrame (.throwing q)))
section Payer
variable {l : Launch} {R : Room} {p : Program} {e : Env} {below : List Frame} {s : State} {sargs : Array Value} {y : MethodName} {len W9 : Nat}
theorem vx_back {ws : List Cond} {rm : Room} {Pc : Array Value → State → Prop} {Qc : Array Value → State → Outcome → State → Prop} {XC : String → State → State → Prop} {mc ms : Nat} {free : Addr → Prop} {bytes : ByteArray} {maxL : Nat} {ret : Option FieldType}
    (hM : vx_Met l y ws rm Pc Qc XC mc ms free) (hblind : FrameBlind Pc) (hrc : rm.cells = mc) (hrs : rm.slots = ms)
    (hframes : rm.frames + 1 ≤ R.frames) (hlocals : W9 + (maxL + 11) + rm.locals ≤ R.locals)
    (hws : ∀ w ∈ ws, ∀ a' U, s.WarmedH U.vm → w.before a' U = true) (hcode : Cond.code y bytes maxL ret ∈ ws) (hinit : ∀ a' U, s.WarmedH U.vm → (Cond.initialized y.cls).before a' U = true) :
    vx_Back l R p e below s sargs y len W9 (PreOf R mc ms Pc) (PostOf Qc mc ms free) (vx_Post XC mc ms free) := by
  intro m meth c A g ig mk a X hg hsize hdg hW hn hp
  have h1 : (headSpec ws rm).pre.before a A.U = true := atoms_intro fun w hw => hws w hw _ _ X.warmed
  have h2 : (Cond.code y bytes maxL ret).before a A.U = true := hws _ hcode _ _ X.warmed
  have h3 : (Cond.initialized y.cls).before a A.U = true := hinit _ _ X.warmed
  have h4 : A.cells + (headSpec ws rm).room.cells ≤ R.cells := by rw [show (headSpec ws rm).room.cells = mc from hrc]; exact hp.1
  have h5 : A.slots + (headSpec ws rm).room.slots ≤ R.slots := by rw [show (headSpec ws rm).room.slots = ms from hrs]; exact hp.2.1
  have hPc : Pc a (A.U.calling g mk a) := hblind _ _ _ _ hp.2.2
  obtain ⟨U, Ls, c0, s0⟩ := A
  dsimp only [Pt.U, Pt.locs, Pt.cells, Pt.slots] at h1 h2 h3 h4 h5 X hn hPc ⊢
  obtain ⟨methY, cY, hmY, hcY, -, hlY, -, -, -, -⟩ := Cond.code_spec hn h2
  obtain ⟨kY, hkY, -⟩ := className_of_methodNamed hn
  have hinitY : kY.init = .initialized := Cond.initialized_spec (findClass_of_methodNamed hn) hkY h3
  have h : At U g.method c below := by rw [hg]; exact X.here
  have hlocals9 : W9 + (maxL + 11) + (headSpec ws rm).room.locals ≤ R.locals := hlocals
  have happ : (headSpec ws rm).appliesLoose y e.platform (U.calling g mk a) = true :=
    Spec.appliesLoose_calling (g := g) h hdg hn hkY hinitY
      (X.room_calling (g := g) (R' := (headSpec ws rm).room) hsize hmY hcY hframes (by rw [hlY]; omega) h4 h5) h1
  obtain ⟨mid, hmid⟩ := h.above
  have hfr : (U.setTop g).frames = (.java g :: mid) ++ below := by rw [State.frames_setTop' g h.top, hmid]; rfl
  obtain ⟨o, s₂, hsteps, -, hend, hq⟩ := Steps.callFree hM p X.admits X.cas X.clock (acts := []) hfr happ hPc trivial
  have hq' : vx_Q Qc XC mc ms free a (U.calling g mk a) o s₂ := hq
  rw [State.frames_setTop' g h.top] at hend
  obtain ⟨g₀, hg0⟩ := Option.isSome_iff_exists.mp h.top
  obtain ⟨r, hr⟩ := State.topJava?_eq_some.mp hg0
  have hr' : (({ U with heap := s₂.heap, slotsUsed := s₂.slotsUsed } : State).setVm s₂.vm).frames = .java g₀ :: r := hr
  rcases hq' with ⟨hqc, L, hfe, hL⟩ | ⟨q, rfl, E, ce, L, hx, hce, hcv, hcl, hW₂, hsm, hL⟩
  · obtain ⟨⟨v, rfl⟩, hW₂, e2, q2, q3, q4, q5, q6⟩ := id hfe
    have e3 : s₂ = ({ (U.calling g mk a).setFrames s₂.frames with heap := s₂.heap, slotsUsed := s₂.slotsUsed } : State).setVm s₂.vm := by
      have : s₂ = ({ s₂ with vm := (U.calling g mk a).vm } : State).setVm s₂.vm := rfl
      rw [e2] at this
      exact this
    obtain ⟨c₂, i₂, len₂, hc₂, hd₂, hf₂⟩ := hend
    have hW' : U.WarmedH s₂.vm := hW₂
    have hcc : c₂ = c := by
      have h1 : s₂.code? g.method = U.code? g.method := by
        rw [State.code?_eq, State.code?_eq, hW'.alike.method?]
      exact Option.some.inj (hc₂.symm.trans (h1.trans h.code))
    subst hcc
    have hlen : len₂ = len := by rw [hdg] at hd₂; cases hd₂; rfl
    subst hlen
    have hs₂ : s₂ = (({ U with heap := s₂.heap, slotsUsed := s₂.slotsUsed } : State).setVm s₂.vm).setTop { g with pc := g.pc + len₂, stack := v.toList ++ g.stack } := by
      refine e3.trans ?_
      rw [hf₂, State.calling_eq h.top, State.setFrames_setFrames, State.setTop_of_frames _ hr', hr]
      rfl
    have hsame : U.sameButNew ({ U with heap := s₂.heap, slotsUsed := s₂.slotsUsed } : State) L mc ms := by
      refine ⟨?_, q2, q3, q4, q5, q6⟩
      obtain ⟨t, ht, -⟩ := State.frames_cons hr
      show ({ U with heap := s₂.heap, slotsUsed := s₂.slotsUsed } : State) = { U.setFrames U.frames with heap := s₂.heap, slotsUsed := s₂.slotsUsed }
      rw [State.setFrames_self ht]
    subst hg
    refine Or.inl ⟨v, ⟨(({ U with heap := s₂.heap, slotsUsed := s₂.slotsUsed } : State).setVm s₂.vm), Ls ++ L, c0 + mc, s0 + ms⟩,
      ⟨X.admits, X.cas, X.clock, X.frames, X.room, X.hears, X.method, X.code, (X.here.setHeapUsed s₂.heap s₂.slotsUsed).setVm hW'.alike, X.tail, State.WarmedH.trans X.warmed hW', X.limits, X.bytes, X.same.trans (hsame.setVm s.vm)⟩,
      ⟨g, mk, s₂, L, rfl, rfl, hqc, rfl, hL, rfl, rfl⟩, ?_⟩
    show Steps p.tables e below _ ((({ U with heap := s₂.heap, slotsUsed := s₂.slotsUsed } : State).setVm s₂.vm).setTop { g with pc := g.pc + len₂, stack := v.toList ++ g.stack })
    rw [← hs₂]
    exact hsteps
  · obtain ⟨e2, q2, q3, q4, q5, q6⟩ := id hsm
    have e3 : s₂ = ({ (U.calling g mk a).setFrames s₂.frames with heap := s₂.heap, slotsUsed := s₂.slotsUsed } : State).setVm s₂.vm := by
      have : s₂ = ({ s₂ with vm := (U.calling g mk a).vm } : State).setVm s₂.vm := rfl
      rw [e2] at this
      exact this
    have hf₂ : s₂.frames = .throwing q :: .java g :: U.frames.tail := hend
    have hW' : U.WarmedH s₂.vm := hW₂
    have hs₂ : s₂ = ((({ U with heap := s₂.heap, slotsUsed := s₂.slotsUsed } : State).setVm s₂.vm).setTop g).pushFrame (.throwing q) := by
      refine e3.trans ?_
      rw [hf₂, State.calling_eq h.top, State.setFrames_setFrames, State.pushFrame, State.frames_setTop _ hr', State.setTop_of_frames _ hr', State.setFrames_setFrames, hr]
      rfl
    have hsame : U.sameButNew ({ U with heap := s₂.heap, slotsUsed := s₂.slotsUsed } : State) L mc ms := by
      refine ⟨?_, q2, q3, q4, q5, q6⟩
      obtain ⟨t, ht, -⟩ := State.frames_cons hr
      show ({ U with heap := s₂.heap, slotsUsed := s₂.slotsUsed } : State) = { U.setFrames U.frames with heap := s₂.heap, slotsUsed := s₂.slotsUsed }
      rw [State.setFrames_self ht]
    subst hg
    refine Or.inr ⟨q, ⟨(({ U with heap := s₂.heap, slotsUsed := s₂.slotsUsed } : State).setVm s₂.vm), Ls ++ L, c0 + mc, s0 + ms⟩,
      ⟨X.admits, X.cas, X.clock, X.frames, X.room, X.hears, X.method, X.code, (X.here.setHeapUsed s₂.heap s₂.slotsUsed).setVm hW'.alike, X.tail, State.WarmedH.trans X.warmed hW', X.limits, X.bytes, X.same.trans (hsame.setVm s.vm)⟩,
      ⟨g, mk, s₂, L, E, ce, rfl, rfl, hx, hce, hcv, hcl, rfl, hL, rfl, rfl⟩, ?_⟩
    show Steps p.tables e below _ (((({ U with heap := s₂.heap, slotsUsed := s₂.slotsUsed } : State).setVm s₂.vm).setTop g).pushFrame (.throwing q))
    rw [← hs₂]
    exact hsteps
end Payer
section Calls
variable {p : Program} {l : Launch} {e : Env} {R : Room} {s : State} {m : MethodId} {args : Array Value} {below : List Frame} {meth : Method} {c : Code} {T : State} {locs : List Loc} {cells slots : Nat}
theorem vx_callV (X : Stand p l e R s m args below meth c T locs cells slots) (hexec : p.tables.exec = Jvm.exec) {own C : String} {index : Nat} {y : MethodName} {bytes : ByteArray} {maxL : Nat} {ret : Option FieldType}
    (hown : s.vm.findClass own = some m.cls) (hlink : (Cond.methodLink own index y).before args s = true) (hinst : (Cond.instanceMethod y).before args s = true) (hsel : (Cond.selects C y y).before args s = true)
    (hcode : (Cond.code y bytes maxL ret).before args s = true) (hy : y.cls ≠ "java/lang/invoke/MethodHandle" ∧ y.cls ≠ "java/lang/invoke/VarHandle")
    {W9 : Nat} {Pre : Pt → Array Value → Prop} {Post : Pt → Array Value → Option Value → Pt → Prop} {PostX : Pt → Array Value → Addr → Pt → Prop} (hK : vx_Back l R p e below s args y 3 W9 Pre Post PostX)
    {b : Addr} {cellB : Cell} (hcell : T.heap[b]? = some cellB) (hobj : cellB.vm.isStatics = false) (hcls : s.vm.findClass C = some cellB.cls)
    {g : JFrame} (hg : g.method = m) (hsize : g.locals.size = c.maxLocals) {argsL rest : List Value} (hlen : ∀ sig, parseMethodDescriptor y.desc = some sig → argsL.length = sig.parameters.length)
    (hstack : g.stack = argsL.reverse ++ .ref b :: rest) (hW : 2 * g.monitorRoom + (rest.map fun v => v.category).sum ≤ W9) (hdg : decode c.code g.pc = .ok (.invokevirtual index, 3))
    (hpre : ∀ vm₁, s.WarmedH vm₁ → Pre ⟨T.setVm vm₁, locs, cells, slots⟩ (Value.ref b :: argsL).toArray) :
    (∃ (v : Option Value) (vm₁ : Vm) (B : Pt), s.WarmedH vm₁ ∧ Stand p l e R s m args below meth c B.U B.locs B.cells B.slots ∧ Post ⟨T.setVm vm₁, locs, cells, slots⟩ (Value.ref b :: argsL).toArray v B ∧
      ∀ target, Steps p.tables e below (B.U.setTop { g with pc := g.pc + 3, stack := v.toList ++ rest }) target → Steps p.tables e below (T.setTop g) target) ∨
    (∃ (q : Addr) (vm₁ : Vm) (B : Pt), s.WarmedH vm₁ ∧ Stand p l e R s m args below meth c B.U B.locs B.cells B.slots ∧ PostX ⟨T.setVm vm₁, locs, cells, slots⟩ (Value.ref b :: argsL).toArray q B ∧
      Steps p.tables e below (T.setTop g) ((B.U.setTop { g with stack := rest }).pushFrame (.throwing q))) := by
  obtain ⟨mk, methM, hnamed, hmethM, hstM, habM⟩ := Cond.instanceMethod_spec hinst
  obtain ⟨methM', cM, hmethM', -, -, -, -, -, -, hsigM⟩ := Cond.code_spec hnamed hcode
  cases hmethM.symm.trans hmethM'
  obtain ⟨c2, r2, m2, q1, q2, q3, q4, kP, hkP, hkPi⟩ := Cond.selects_spec hsel
  cases hcls.symm.trans q1
  cases (State.methodFound?_of_named hnamed hy).symm.trans q2
  cases hnamed.symm.trans q3
  have hselP : selectMethod e.platform s.vm cellB.cls mk = .method mk := by rw [Launch.admits_selectMethod X.admits]; exact q4
  obtain ⟨vm₁, X₁, hstep₁⟩ := X.invokevirtual hexec hown hlink hnamed hmethM hstM hkP hkPi hy (a := b) (cell := cellB) hcell
    (fun z h => by rw [h] at hobj; cases hobj) hselP hmethM habM hkP hkPi (g := g) hg (argsL := argsL) (rest := rest) (hlen _ hsigM) hstack hdg
  rcases hK m meth c ⟨T.setVm vm₁, locs, cells, slots⟩ { g with stack := rest } (.invokevirtual index) mk (Value.ref b :: argsL).toArray X₁ hg hsize hdg hW (X₁.named hnamed) (hpre vm₁ X₁.warmed) with ⟨v, B, X', hpost, hsteps⟩ | ⟨q, B, X', hpost, hsteps⟩
  · exact Or.inl ⟨v, vm₁, B, X₁.warmed, X', hpost, fun target h => hstep₁ _ fun acts => by rw [doInvoke_state]; exact hsteps.trans h⟩
  · exact Or.inr ⟨q, vm₁, B, X₁.warmed, X', hpost, hstep₁ _ fun acts => by rw [doInvoke_state]; exact hsteps⟩
theorem vx_callS (X : Stand p l e R s m args below meth c T locs cells slots) (hexec : p.tables.exec = Jvm.exec) {own : String} {index : Nat} {y : MethodName} {bytes : ByteArray} {maxL : Nat} {ret : Option FieldType}
    (hown : s.vm.findClass own = some m.cls) (hlink : (Cond.methodLink own index y).before args s = true) (hstat : (Cond.static y).before args s = true) (hinit : (Cond.initialized y.cls).before args s = true)
    (hcode : (Cond.code y bytes maxL ret).before args s = true) (hy : y.cls ≠ "java/lang/invoke/MethodHandle" ∧ y.cls ≠ "java/lang/invoke/VarHandle")
    {W9 : Nat} {Pre : Pt → Array Value → Prop} {Post : Pt → Array Value → Option Value → Pt → Prop} {PostX : Pt → Array Value → Addr → Pt → Prop} (hK : vx_Back l R p e below s args y 3 W9 Pre Post PostX)
    {g : JFrame} (hg : g.method = m) (hsize : g.locals.size = c.maxLocals) {argsL rest : List Value} (hlen : ∀ sig, parseMethodDescriptor y.desc = some sig → argsL.length = sig.parameters.length)
    (hstack : g.stack = argsL.reverse ++ rest) (hW : 2 * g.monitorRoom + (rest.map fun v => v.category).sum ≤ W9) (hdg : decode c.code g.pc = .ok (.invokestatic index, 3))
    (hpre : ∀ vm₁, s.WarmedH vm₁ → Pre ⟨T.setVm vm₁, locs, cells, slots⟩ argsL.toArray) :
    (∃ (v : Option Value) (vm₁ : Vm) (B : Pt), s.WarmedH vm₁ ∧ Stand p l e R s m args below meth c B.U B.locs B.cells B.slots ∧ Post ⟨T.setVm vm₁, locs, cells, slots⟩ argsL.toArray v B ∧
      ∀ target, Steps p.tables e below (B.U.setTop { g with pc := g.pc + 3, stack := v.toList ++ rest }) target → Steps p.tables e below (T.setTop g) target) ∨
    (∃ (q : Addr) (vm₁ : Vm) (B : Pt), s.WarmedH vm₁ ∧ Stand p l e R s m args below meth c B.U B.locs B.cells B.slots ∧ PostX ⟨T.setVm vm₁, locs, cells, slots⟩ argsL.toArray q B ∧
      Steps p.tables e below (T.setTop g) ((B.U.setTop { g with stack := rest }).pushFrame (.throwing q))) := by
  obtain ⟨mk, hnamed⟩ := Cond.code_named hcode
  obtain ⟨methM, cM, hmethM, -, -, -, -, -, -, hsigM⟩ := Cond.code_spec hnamed hcode
  have hstatic : methM.isStatic = true := Cond.static_spec hnamed hmethM hstat
  obtain ⟨kP, hkP, -⟩ := className_of_methodNamed hnamed
  have hinitP : kP.init = .initialized := Cond.initialized_spec (findClass_of_methodNamed hnamed) hkP hinit
  obtain ⟨vm₁, X₁, hstep₁⟩ := X.invokestatic hexec hown hlink hnamed hmethM hstatic hkP hinitP hy (g := g) hg (argsL := argsL) (rest := rest) (hlen _ hsigM) hstack hdg
  rcases hK m meth c ⟨T.setVm vm₁, locs, cells, slots⟩ { g with stack := rest } (.invokestatic index) mk argsL.toArray X₁ hg hsize hdg hW (X₁.named hnamed) (hpre vm₁ X₁.warmed) with ⟨v, B, X', hpost, hsteps⟩ | ⟨q, B, X', hpost, hsteps⟩
  · exact Or.inl ⟨v, vm₁, B, X₁.warmed, X', hpost, fun target h => hstep₁ _ fun acts => by rw [doInvoke_state]; exact hsteps.trans h⟩
  · exact Or.inr ⟨q, vm₁, B, X₁.warmed, X', hpost, hstep₁ _ fun acts => by rw [doInvoke_state]; exact hsteps⟩
end Calls
theorem vx_cls {s : State} {T : State} {vm₁ : Vm} {E : String} {k : ClassId} (hW : s.WarmedH vm₁) (h : (T.setVm vm₁).vm.findClass E = some k) : s.vm.findClass E = some k := by
  have h1 : vm₁.findClass E = some k := h
  rw [hW.alike.findClass] at h1
  exact h1
/-- the method's frame g, with q thrown over it -/
def vx_W (p : Program) (l : Launch) (e : Env) (R : Room) (s : State) (m : MethodId) (args : Array Value) (below : List Frame) (meth : Method) (c : Code) (H : Heap) (locs : List Loc) (cells slots : Nat) (Q : State → Prop) (g : JFrame) (q : Addr) : Prop :=
  ∀ T : State, T.heap = H → Stand p l e R s m args below meth c T locs cells slots → ∃ t, Steps p.tables e below ((T.setTop g).pushFrame (.throwing q)) t ∧ Q t
def vx_Run (p : Program) (l : Launch) (e : Env) (R : Room) (s : State) (m : MethodId) (args : Array Value) (below : List Frame) (meth : Method) (c : Code) (H : Heap) (locs : List Loc) (cells slots mc ms : Nat) (g : JFrame) (rest : List Value) (Qa : State → Outcome → State → Prop) (XC : String → State → State → Prop) (free : Addr → Prop) : Prop :=
  ∀ T : State, T.heap = H → Stand p l e R s m args below meth c T locs cells slots →
    (∃ (v : Option Value) (st₀ t T' : State) (L : List Loc), st₀.heap = H ∧ Stand p l e R s m args below meth c T' (locs ++ L) (cells + mc) (slots + ms) ∧ (∀ q ∈ L, free q.base) ∧ T'.heap = t.heap ∧ T'.vm = t.vm ∧ Qa st₀ (.returned v) t ∧
      Goes p e below T g T' { g with pc := g.pc + 3, stack := v.toList ++ rest }) ∨
    (∃ (q : Addr) (st₀ t T' : State) (L : List Loc) (E : String) (ce : Cell), st₀.heap = H ∧ Stand p l e R s m args below meth c T' (locs ++ L) (cells + mc) (slots + ms) ∧ (∀ z ∈ L, free z.base) ∧ T'.heap = t.heap ∧ T'.vm = t.vm ∧ XC E st₀ t ∧ t.heap[q]? = some ce ∧ ce.vm = .none ∧ s.vm.findClass E = some ce.cls ∧
      Steps p.tables e below (T.setTop g) ((T'.setTop { g with stack := rest }).pushFrame (.throwing q)))
def vx_X {S : Type} (px : S → Prop) (B : String → S → State → Prop) (A : Nat → Prop) : String → State → State → Prop := fun E st t => ∃ u : S, px u ∧ B E u t ∧ va_F A st t
section Runs
variable {p : Program} {l : Launch} {e : Env} {R : Room} {s : State} {m : MethodId} {args : Array Value} {below : List Frame} {meth : Method} {c : Code} {H : Heap} {locs : List Loc} {cells slots : Nat}
variable {y : MethodName} {bytes cc : ByteArray} {maxL nL mc ms n index : Nat} {ret : Option FieldType} {ws : List Cond} {rm : Room} {Pc : Array Value → State → Prop} {Qc : Array Value → State → Outcome → State → Prop} {XC : String → State → State → Prop} {free : Addr → Prop} {Ts : List Cond} {own C : String} {b : Addr} {As rest : List Value} {g : JFrame}
theorem vx_callBack (cb : CallB R s args own index y bytes maxL ret ws rm mc ms n) (hM : vx_Met l y ws rm Pc Qc XC mc ms free) (hbl : FrameBlind Pc) : vx_Back l R p e below s args y 3 8 (PreOf R mc ms Pc) (PostOf Qc mc ms free) (vx_Post XC mc ms free) := by
  obtain ⟨hrc, hrs, hfr, hlo, hws, hcw, -, hini, -⟩ := cb
  exact vx_back (bytes := bytes) (maxL := maxL) (ret := ret) hM hbl hrc hrs hfr hlo hws hcw (fun a' U hW => word_at hW (Or.inl (by first | rfl | simp [Cond.onTables, Cond.keeps, Cond.steady])) hini)
theorem vx_runV (S : CallFix p m c cc nL s args Ts own) (hM : vx_Met l y ws rm Pc Qc XC mc ms free) (cw : CallW R s args own C index y bytes maxL ret ws rm mc ms n) (hp : PreV s H C b Pc As)
    (hg : g.method = m) (hn : As.length = n) (hsize : g.locals.size = nL) (hstack : g.stack = As.reverse ++ .ref b :: rest) (hW : 2 * g.monitorRoom + (rest.map fun v => v.category).sum ≤ 8) (hdg : decode cc g.pc = .ok (.invokevirtual index, 3)) (hf : cells + mc ≤ R.cells ∧ slots + ms ≤ R.slots) :
    vx_Run p l e R s m args below meth c H locs cells slots mc ms g rest (Qc (Value.ref b :: As).toArray) XC free := by
  have hK : vx_Back l R p e below s args y 3 8 (PreOf R mc ms Pc) (PostOf Qc mc ms free) (vx_Post XC mc ms free) := vx_callBack cw.1 hM hp.1
  obtain ⟨⟨-, -, -, -, -, -, hcode, -, hy, hlen, hl⟩, hin, hse⟩ := cw
  obtain ⟨hx, hb, hml, ho, -⟩ := S
  obtain ⟨-, ⟨cellB, hcB, hoB, hclB⟩, hPc⟩ := hp
  intro T hT X
  rcases vx_callV X hx (C := C) (bytes := bytes) (maxL := maxL) (ret := ret) ho hl hin hse hcode hy hK (by rw [hT]; exact hcB) hoB hclB hg (hsize.trans hml.symm) (argsL := As) (rest := rest) (fun sig h => hn.trans (hlen sig h)) hstack hW (by rw [hb]; exact hdg)
    (fun vm₁ hW₁ => ⟨hf.1, hf.2, hPc (T.setVm vm₁) hT hW₁⟩) with ⟨v, vm₁, ⟨U', l2, c2, s2⟩, hW₁, X', ⟨g', mk, t, L, e1, e2, hq, h1, hL, h2, h3⟩, st⟩ | ⟨q, vm₁, ⟨U', l2, c2, s2⟩, hW₁, X', ⟨g', mk, t, L, E, ce, e1, e2, hq, hce, hcv, hcl, h1, hL, h2, h3⟩, st⟩
  · dsimp only [Pt.U, Pt.locs, Pt.cells, Pt.slots] at X' e1 e2 h1 h2 h3 st
    subst h1; subst h2; subst h3
    exact Or.inl ⟨v, (T.setVm vm₁).calling g' mk (Value.ref b :: As).toArray, t, U', L, hT, X', hL, e1, e2, hq, st⟩
  · dsimp only [Pt.U, Pt.locs, Pt.cells, Pt.slots] at X' e1 e2 h1 h2 h3 st hcl
    subst h1; subst h2; subst h3
    exact Or.inr ⟨q, (T.setVm vm₁).calling g' mk (Value.ref b :: As).toArray, t, U', L, E, ce, hT, X', hL, e1, e2, hq, hce, hcv, vx_cls hW₁ hcl, st⟩
theorem vx_runS (S : CallFix p m c cc nL s args Ts own) (hM : vx_Met l y ws rm Pc Qc XC mc ms free) (cw : CallB R s args own index y bytes maxL ret ws rm mc ms n ∧ (Cond.static y).before args s = true) (hp : PreS s H Pc As)
    (hg : g.method = m) (hn : As.length = n) (hsize : g.locals.size = nL) (hstack : g.stack = As.reverse ++ rest) (hW : 2 * g.monitorRoom + (rest.map fun v => v.category).sum ≤ 8) (hdg : decode cc g.pc = .ok (.invokestatic index, 3)) (hf : cells + mc ≤ R.cells ∧ slots + ms ≤ R.slots) :
    vx_Run p l e R s m args below meth c H locs cells slots mc ms g rest (Qc As.toArray) XC free := by
  have hK : vx_Back l R p e below s args y 3 8 (PreOf R mc ms Pc) (PostOf Qc mc ms free) (vx_Post XC mc ms free) := vx_callBack cw.1 hM hp.1
  obtain ⟨⟨-, -, -, -, -, -, hcode, hini, hy, hlen, hl⟩, hstt⟩ := cw
  obtain ⟨hx, hb, hml, ho, -⟩ := S
  intro T hT X
  rcases vx_callS X hx (bytes := bytes) (maxL := maxL) (ret := ret) ho hl hstt hini hcode hy hK hg (hsize.trans hml.symm) (argsL := As) (rest := rest) (fun sig h => hn.trans (hlen sig h)) hstack hW (by rw [hb]; exact hdg)
    (fun vm₁ hW₁ => ⟨hf.1, hf.2, hp.2 (T.setVm vm₁) hT hW₁⟩) with ⟨v, vm₁, ⟨U', l2, c2, s2⟩, hW₁, X', ⟨g', mk, t, L, e1, e2, hq, h1, hL, h2, h3⟩, st⟩ | ⟨q, vm₁, ⟨U', l2, c2, s2⟩, hW₁, X', ⟨g', mk, t, L, E, ce, e1, e2, hq, hce, hcv, hcl, h1, hL, h2, h3⟩, st⟩
  · dsimp only [Pt.U, Pt.locs, Pt.cells, Pt.slots] at X' e1 e2 h1 h2 h3 st
    subst h1; subst h2; subst h3
    exact Or.inl ⟨v, (T.setVm vm₁).calling g' mk As.toArray, t, U', L, hT, X', hL, e1, e2, hq, st⟩
  · dsimp only [Pt.U, Pt.locs, Pt.cells, Pt.slots] at X' e1 e2 h1 h2 h3 st hcl
    subst h1; subst h2; subst h3
    exact Or.inr ⟨q, (T.setVm vm₁).calling g' mk As.toArray, t, U', L, E, ce, hT, X', hL, e1, e2, hq, hce, hcv, vx_cls hW₁ hcl, st⟩
end Runs
section Rows
variable {p : Program} {l : Launch} {e : Env} {R : Room} {s : State} {m : MethodId} {args : Array Value} {below : List Frame} {meth : Method} {c : Code} {H : Heap} {locs : List Loc} {cells slots : Nat} {Q : State → Prop}
variable {mc ms : Nat} {free : Addr → Prop} {A0 A1 : Nat → Prop} {H0 : Heap} {a : Array Value} {pc : Nat} {ls : Array Slot} {st0 rest : List Value}
theorem vx_keep {st₀ t T' : State} {L : List Loc} (h0 : st₀.heap = H) (e1 : T'.heap = t.heap) (hS : va_S A0 H0 H locs) (hA : ∀ q, q < H.size → A1 q → A0 q) (hf : ∀ q, free q → A0 q) (hL : ∀ q ∈ L, free q.base) (hF : va_F A1 st₀ t) :
    H.size ≤ T'.heap.size ∧ (∀ q : Nat, q < H.size → ¬ A1 q → T'.heap[q]? = H[q]?) ∧ va_S A0 H0 T'.heap (locs ++ L) := by
  obtain ⟨hz, hk⟩ := hF
  rw [h0] at hz hk
  exact ⟨by rw [e1]; exact hz, fun q h1 h2 => by rw [e1]; exact hk q h1 h2,
    ⟨Nat.le_trans hS.1 (by rw [e1]; exact hz), fun q h1 h2 => by rw [e1, hk q (Nat.lt_of_lt_of_le h1 hS.1) (fun z => h2 (hA q (Nat.lt_of_lt_of_le h1 hS.1) z))]; exact hS.2.1 q h1 h2, fun q hq => by
      rcases List.mem_append.mp hq with h | h
      · exact hS.2.2 q h
      · exact hf _ (hL q h)⟩⟩
theorem vx_calli {S SX : Type} {post : Int32 → S → Prop} {px : SX → Prop} {B : S → State → Prop} {BX : String → SX → State → Prop} {AX : Nat → Prop} (hr : vx_Run p l e R s m args below meth c H locs cells slots mc ms (F0 m pc ls st0) rest (va_Qi post B A1 a) (vx_X px BX AX) free) (hS : va_S A0 H0 H locs) (hA : ∀ q, q < H.size → A1 q → A0 q) (hf : ∀ q, free q → A0 q) (hAX : ∀ q, q < H.size → AX q → A0 q)
    (kx : ∀ (E : String) (ce : Cell) (q9 : Addr) (u : SX) (t : State) (H1 : Heap) (locs1 : List Loc), t.heap = H1 → s.vm.Alike t.vm → px u → BX E u t → H.size ≤ H1.size → (∀ q : Nat, q < H.size → ¬ AX q → H1[q]? = H[q]?) → va_S A0 H0 H1 locs1 → H1[q9]? = some ce → ce.vm = .none → s.vm.findClass E = some ce.cls → vx_W p l e R s m args below meth c H1 locs1 (cells + mc) (slots + ms) Q (F0 m pc ls rest) q9)
    (kk : ∀ (r : Int32) (u : S) (t : State) (H1 : Heap) (locs1 : List Loc), t.heap = H1 → s.vm.Alike t.vm → post r u → B u t → H.size ≤ H1.size → (∀ q : Nat, q < H.size → ¬ A1 q → H1[q]? = H[q]?) → va_S A0 H0 H1 locs1 → W p l e R s m args below meth c H1 locs1 (cells + mc) (slots + ms) Q (F0 m (pc + 3) ls (.int r :: rest))) : W p l e R s m args below meth c H locs cells slots Q (F0 m pc ls st0) := by
  intro T hT X
  rcases hr T hT X with ⟨v, st₀, t, T', L, h0, X', hL, e1, e2, ⟨⟨r, u, hv, hp, hb⟩, hF⟩, st⟩ | ⟨q, st₀, t, T', L, E, ce, h0, X', hL, e1, e2, ⟨u, hp, hb, hF⟩, hce, hcv, hcl, st⟩
  · cases hv
    obtain ⟨k1, k2, k3⟩ := vx_keep h0 e1 hS hA hf hL hF
    obtain ⟨t2, a1, b1⟩ := kk r u t T'.heap (locs ++ L) e1.symm (by rw [← e2]; exact X'.warmed.alike) hp hb k1 k2 k3 T' rfl X'
    exact ⟨t2, st t2 a1, b1⟩
  · obtain ⟨k1, k2, k3⟩ := vx_keep h0 e1 hS hAX hf hL hF
    obtain ⟨t2, a1, b1⟩ := kx E ce q u t T'.heap (locs ++ L) e1.symm (by rw [← e2]; exact X'.warmed.alike) hp hb k1 k2 k3 (by rw [e1]; exact hce) hcv hcl T' rfl X'
    exact ⟨t2, st.trans a1, b1⟩
theorem vx_calll {S SX : Type} {post : Int64 → S → Prop} {px : SX → Prop} {B : S → State → Prop} {BX : String → SX → State → Prop} {AX : Nat → Prop} (hr : vx_Run p l e R s m args below meth c H locs cells slots mc ms (F0 m pc ls st0) rest (va_Ql post B A1 a) (vx_X px BX AX) free) (hS : va_S A0 H0 H locs) (hA : ∀ q, q < H.size → A1 q → A0 q) (hf : ∀ q, free q → A0 q) (hAX : ∀ q, q < H.size → AX q → A0 q)
    (kx : ∀ (E : String) (ce : Cell) (q9 : Addr) (u : SX) (t : State) (H1 : Heap) (locs1 : List Loc), t.heap = H1 → s.vm.Alike t.vm → px u → BX E u t → H.size ≤ H1.size → (∀ q : Nat, q < H.size → ¬ AX q → H1[q]? = H[q]?) → va_S A0 H0 H1 locs1 → H1[q9]? = some ce → ce.vm = .none → s.vm.findClass E = some ce.cls → vx_W p l e R s m args below meth c H1 locs1 (cells + mc) (slots + ms) Q (F0 m pc ls rest) q9)
    (kk : ∀ (r : Int64) (u : S) (t : State) (H1 : Heap) (locs1 : List Loc), t.heap = H1 → s.vm.Alike t.vm → post r u → B u t → H.size ≤ H1.size → (∀ q : Nat, q < H.size → ¬ A1 q → H1[q]? = H[q]?) → va_S A0 H0 H1 locs1 → W p l e R s m args below meth c H1 locs1 (cells + mc) (slots + ms) Q (F0 m (pc + 3) ls (.long r :: rest))) : W p l e R s m args below meth c H locs cells slots Q (F0 m pc ls st0) := by
  intro T hT X
  rcases hr T hT X with ⟨v, st₀, t, T', L, h0, X', hL, e1, e2, ⟨⟨r, u, hv, hp, hb⟩, hF⟩, st⟩ | ⟨q, st₀, t, T', L, E, ce, h0, X', hL, e1, e2, ⟨u, hp, hb, hF⟩, hce, hcv, hcl, st⟩
  · cases hv
    obtain ⟨k1, k2, k3⟩ := vx_keep h0 e1 hS hA hf hL hF
    obtain ⟨t2, a1, b1⟩ := kk r u t T'.heap (locs ++ L) e1.symm (by rw [← e2]; exact X'.warmed.alike) hp hb k1 k2 k3 T' rfl X'
    exact ⟨t2, st t2 a1, b1⟩
  · obtain ⟨k1, k2, k3⟩ := vx_keep h0 e1 hS hAX hf hL hF
    obtain ⟨t2, a1, b1⟩ := kx E ce q u t T'.heap (locs ++ L) e1.symm (by rw [← e2]; exact X'.warmed.alike) hp hb k1 k2 k3 (by rw [e1]; exact hce) hcv hcl T' rfl X'
    exact ⟨t2, st.trans a1, b1⟩
theorem vx_callf {S SX : Type} {post : UInt32 → S → Prop} {px : SX → Prop} {B : S → State → Prop} {BX : String → SX → State → Prop} {AX : Nat → Prop} (hr : vx_Run p l e R s m args below meth c H locs cells slots mc ms (F0 m pc ls st0) rest (va_Qf post B A1 a) (vx_X px BX AX) free) (hS : va_S A0 H0 H locs) (hA : ∀ q, q < H.size → A1 q → A0 q) (hf : ∀ q, free q → A0 q) (hAX : ∀ q, q < H.size → AX q → A0 q)
    (kx : ∀ (E : String) (ce : Cell) (q9 : Addr) (u : SX) (t : State) (H1 : Heap) (locs1 : List Loc), t.heap = H1 → s.vm.Alike t.vm → px u → BX E u t → H.size ≤ H1.size → (∀ q : Nat, q < H.size → ¬ AX q → H1[q]? = H[q]?) → va_S A0 H0 H1 locs1 → H1[q9]? = some ce → ce.vm = .none → s.vm.findClass E = some ce.cls → vx_W p l e R s m args below meth c H1 locs1 (cells + mc) (slots + ms) Q (F0 m pc ls rest) q9)
    (kk : ∀ (r : UInt32) (u : S) (t : State) (H1 : Heap) (locs1 : List Loc), t.heap = H1 → s.vm.Alike t.vm → post r u → B u t → H.size ≤ H1.size → (∀ q : Nat, q < H.size → ¬ A1 q → H1[q]? = H[q]?) → va_S A0 H0 H1 locs1 → W p l e R s m args below meth c H1 locs1 (cells + mc) (slots + ms) Q (F0 m (pc + 3) ls (.float r :: rest))) : W p l e R s m args below meth c H locs cells slots Q (F0 m pc ls st0) := by
  intro T hT X
  rcases hr T hT X with ⟨v, st₀, t, T', L, h0, X', hL, e1, e2, ⟨⟨r, u, hv, hp, hb⟩, hF⟩, st⟩ | ⟨q, st₀, t, T', L, E, ce, h0, X', hL, e1, e2, ⟨u, hp, hb, hF⟩, hce, hcv, hcl, st⟩
  · cases hv
    obtain ⟨k1, k2, k3⟩ := vx_keep h0 e1 hS hA hf hL hF
    obtain ⟨t2, a1, b1⟩ := kk r u t T'.heap (locs ++ L) e1.symm (by rw [← e2]; exact X'.warmed.alike) hp hb k1 k2 k3 T' rfl X'
    exact ⟨t2, st t2 a1, b1⟩
  · obtain ⟨k1, k2, k3⟩ := vx_keep h0 e1 hS hAX hf hL hF
    obtain ⟨t2, a1, b1⟩ := kx E ce q u t T'.heap (locs ++ L) e1.symm (by rw [← e2]; exact X'.warmed.alike) hp hb k1 k2 k3 (by rw [e1]; exact hce) hcv hcl T' rfl X'
    exact ⟨t2, st.trans a1, b1⟩
theorem vx_calld {S SX : Type} {post : UInt64 → S → Prop} {px : SX → Prop} {B : S → State → Prop} {BX : String → SX → State → Prop} {AX : Nat → Prop} (hr : vx_Run p l e R s m args below meth c H locs cells slots mc ms (F0 m pc ls st0) rest (va_Qd post B A1 a) (vx_X px BX AX) free) (hS : va_S A0 H0 H locs) (hA : ∀ q, q < H.size → A1 q → A0 q) (hf : ∀ q, free q → A0 q) (hAX : ∀ q, q < H.size → AX q → A0 q)
    (kx : ∀ (E : String) (ce : Cell) (q9 : Addr) (u : SX) (t : State) (H1 : Heap) (locs1 : List Loc), t.heap = H1 → s.vm.Alike t.vm → px u → BX E u t → H.size ≤ H1.size → (∀ q : Nat, q < H.size → ¬ AX q → H1[q]? = H[q]?) → va_S A0 H0 H1 locs1 → H1[q9]? = some ce → ce.vm = .none → s.vm.findClass E = some ce.cls → vx_W p l e R s m args below meth c H1 locs1 (cells + mc) (slots + ms) Q (F0 m pc ls rest) q9)
    (kk : ∀ (r : UInt64) (u : S) (t : State) (H1 : Heap) (locs1 : List Loc), t.heap = H1 → s.vm.Alike t.vm → post r u → B u t → H.size ≤ H1.size → (∀ q : Nat, q < H.size → ¬ A1 q → H1[q]? = H[q]?) → va_S A0 H0 H1 locs1 → W p l e R s m args below meth c H1 locs1 (cells + mc) (slots + ms) Q (F0 m (pc + 3) ls (.double r :: rest))) : W p l e R s m args below meth c H locs cells slots Q (F0 m pc ls st0) := by
  intro T hT X
  rcases hr T hT X with ⟨v, st₀, t, T', L, h0, X', hL, e1, e2, ⟨⟨r, u, hv, hp, hb⟩, hF⟩, st⟩ | ⟨q, st₀, t, T', L, E, ce, h0, X', hL, e1, e2, ⟨u, hp, hb, hF⟩, hce, hcv, hcl, st⟩
  · cases hv
    obtain ⟨k1, k2, k3⟩ := vx_keep h0 e1 hS hA hf hL hF
    obtain ⟨t2, a1, b1⟩ := kk r u t T'.heap (locs ++ L) e1.symm (by rw [← e2]; exact X'.warmed.alike) hp hb k1 k2 k3 T' rfl X'
    exact ⟨t2, st t2 a1, b1⟩
  · obtain ⟨k1, k2, k3⟩ := vx_keep h0 e1 hS hAX hf hL hF
    obtain ⟨t2, a1, b1⟩ := kx E ce q u t T'.heap (locs ++ L) e1.symm (by rw [← e2]; exact X'.warmed.alike) hp hb k1 k2 k3 (by rw [e1]; exact hce) hcv hcl T' rfl X'
    exact ⟨t2, st.trans a1, b1⟩
theorem vx_callv {S SX : Type} {post : S → Prop} {px : SX → Prop} {B : S → State → Prop} {BX : String → SX → State → Prop} {AX : Nat → Prop} (hr : vx_Run p l e R s m args below meth c H locs cells slots mc ms (F0 m pc ls st0) rest (va_Qv post B A1 a) (vx_X px BX AX) free) (hS : va_S A0 H0 H locs) (hA : ∀ q, q < H.size → A1 q → A0 q) (hf : ∀ q, free q → A0 q) (hAX : ∀ q, q < H.size → AX q → A0 q)
    (kx : ∀ (E : String) (ce : Cell) (q9 : Addr) (u : SX) (t : State) (H1 : Heap) (locs1 : List Loc), t.heap = H1 → s.vm.Alike t.vm → px u → BX E u t → H.size ≤ H1.size → (∀ q : Nat, q < H.size → ¬ AX q → H1[q]? = H[q]?) → va_S A0 H0 H1 locs1 → H1[q9]? = some ce → ce.vm = .none → s.vm.findClass E = some ce.cls → vx_W p l e R s m args below meth c H1 locs1 (cells + mc) (slots + ms) Q (F0 m pc ls rest) q9)
    (kk : ∀ (u : S) (t : State) (H1 : Heap) (locs1 : List Loc), t.heap = H1 → s.vm.Alike t.vm → post u → B u t → H.size ≤ H1.size → (∀ q : Nat, q < H.size → ¬ A1 q → H1[q]? = H[q]?) → va_S A0 H0 H1 locs1 → W p l e R s m args below meth c H1 locs1 (cells + mc) (slots + ms) Q (F0 m (pc + 3) ls (rest))) : W p l e R s m args below meth c H locs cells slots Q (F0 m pc ls st0) := by
  intro T hT X
  rcases hr T hT X with ⟨v, st₀, t, T', L, h0, X', hL, e1, e2, ⟨⟨u, hv, hp, hb⟩, hF⟩, st⟩ | ⟨q, st₀, t, T', L, E, ce, h0, X', hL, e1, e2, ⟨u, hp, hb, hF⟩, hce, hcv, hcl, st⟩
  · cases hv
    obtain ⟨k1, k2, k3⟩ := vx_keep h0 e1 hS hA hf hL hF
    obtain ⟨t2, a1, b1⟩ := kk u t T'.heap (locs ++ L) e1.symm (by rw [← e2]; exact X'.warmed.alike) hp hb k1 k2 k3 T' rfl X'
    exact ⟨t2, st t2 a1, b1⟩
  · obtain ⟨k1, k2, k3⟩ := vx_keep h0 e1 hS hAX hf hL hF
    obtain ⟨t2, a1, b1⟩ := kx E ce q u t T'.heap (locs ++ L) e1.symm (by rw [← e2]; exact X'.warmed.alike) hp hb k1 k2 k3 (by rw [e1]; exact hce) hcv hcl T' rfl X'
    exact ⟨t2, st.trans a1, b1⟩
/-- caught by the row x of this method's table; the rows ahead don't take it -/
theorem vx_catch {own name : String} {E : String} {ce : Cell} {q : Addr} (hown : s.vm.findClass own = some m.cls) (pre : List ExceptionTableEntry) (x : ExceptionTableEntry) (suf : List ExceptionTableEntry) (hsplit : c.exceptionTable.toList = pre ++ x :: suf)
    (hpass : ∀ z ∈ pre, covers z pc = false ∨ (z.catchType ≠ 0 ∧ ∃ nm : String, (Cond.classLink own z.catchType nm).before args s = true ∧ va_Nc E nm s)) (hx : covers x pc = true) (h0 : x.catchType ≠ 0)
    (hlink : (Cond.classLink own x.catchType name).before args s = true) (hcast : (Cond.castable E name).before args s = true) (hcell : H[q]? = some ce) (hv : ce.vm = .none) (hcl : s.vm.findClass E = some ce.cls)
    (kk : W p l e R s m args below meth c H locs cells slots Q (F0 m x.handlerPc ls [.ref q])) : vx_W p l e R s m args below meth c H locs cells slots Q (F0 m pc ls rest) q := by
  intro T hT X
  have hpl : e.platform.magicAccessors = ({} : Platform).magicAccessors := by rw [X.admits.platform]
  obtain ⟨c3, c4, hc3, hc4, hasg⟩ := Cond.castable_spec hcast
  cases Option.some.inj (hc3.symm.trans hcl)
  obtain ⟨c5, hc5, hcl5⟩ := Cond.classLink_spec hown hlink e.platform hpl
  cases Option.some.inj (hc4.symm.trans hc5)
  obtain ⟨vm', X', st⟩ := X.thenCaughtThrough q (g := F0 m pc ls rest) rfl (Steps.refl _) (by rw [hT]; exact hcell) (by rw [hv]; rfl) (by obtain ⟨k9, h9, -⟩ := Vm.findClass_spec hcl; exact ⟨k9, h9⟩) pre x suf hsplit
    (fun z hz => by
      rcases hpass z hz with h | ⟨hz0, nm, hl1, hn1⟩
      · exact Or.inl h
      · obtain ⟨c6, hc6, hcl6⟩ := Cond.classLink_spec hown hl1 e.platform hpl
        obtain ⟨a8, b8, h1, h2, h3⟩ := hn1
        cases Option.some.inj (h1.symm.trans hcl)
        cases Option.some.inj (h2.symm.trans hc6)
        exact Or.inr ⟨hz0, _, hcl6, h3⟩) hx (Or.inr ⟨h0, c4, hcl5, hasg⟩)
  obtain ⟨t, a1, b1⟩ := kk (T.setVm vm') hT X'
  exact ⟨t, st.trans a1, b1⟩
end Rows
section Ends
variable {p : Program} {l : Launch} {e : Env} {R : Room} {s : State} {m : MethodId} {args : Array Value} {below : List Frame} {meth : Method} {c : Code} {H : Heap} {locs : List Loc} {cells slots : Nat} {Q : State → Prop}
variable {mc ms : Nat} {free : Addr → Prop} {A0 A1 : Nat → Prop} {H0 : Heap} {a : Array Value} {ls : Array Slot} {st0 rest : List Value}
variable {Qc : Array Value → State → Outcome → State → Prop} {XC : String → State → State → Prop}
/-- what a body that may throw owes at its end -/
def vx_MQ (below : List Frame) (Qc : Array Value → State → Outcome → State → Prop) (XC : String → State → State → Prop) (a : Array Value) (s : State) (mc ms : Nat) (free : Addr → Prop) : State → Prop := fun t =>
  ∃ o, t.status = .running ∧ Ended t below o ∧ vx_Q Qc XC mc ms free a s o t
theorem vx_ret {g : JFrame} {mc ms : Nat} (k : W p l e R s m args below meth c H locs cells slots (MQ below Qc args s mc ms free) g) : W p l e R s m args below meth c H locs cells slots (vx_MQ below Qc XC args s mc ms free) g := by
  intro T hT X
  obtain ⟨t, a1, o, b1, b2, b3, b4⟩ := k T hT X
  exact ⟨t, a1, o, b1, b2, Or.inl ⟨b3, b4⟩⟩
/-- not caught here: it goes on to the caller -/
theorem vx_widen {g : JFrame} {q : Addr} {k n : Nat} (h1 : cells ≤ k) (h2 : slots ≤ n) (kk : vx_W p l e R s m args below meth c H locs k n Q g q) : vx_W p l e R s m args below meth c H locs cells slots Q g q := fun T hT X => kk T hT (stand_widen X h1 h2)
theorem vx_out {pc : Nat} {E : String} {ce : Cell} {q : Addr} {mc ms : Nat} (hout : ∀ x ∈ c.exceptionTable.toList, covers x pc = false) (hlocks : meth.locks = false) (hcell : H[q]? = some ce) (hv : ce.vm = .none) (hcl : s.vm.findClass E = some ce.cls)
    (hx : ∀ t : State, t.heap = H → s.vm.Alike t.vm → XC E s t) (hf : ∀ z ∈ locs, free z.base) (hc : cells ≤ mc) (hs : slots ≤ ms) :
    vx_W p l e R s m args below meth c H locs cells slots (vx_MQ below Qc XC args s mc ms free) (F0 m pc ls rest) q := by
  intro T hT X
  obtain ⟨st1, hrun, hend, hW, hsm⟩ := X.leaveThrown q (g := F0 m pc ls rest) rfl rfl rfl hout hlocks
  have hcell9 : (T.setFrames (.throwing q :: below)).heap[q]? = some ce := by
    show T.heap[q]? = some ce
    rw [hT]; exact hcell
  exact ⟨_, st1, .threw q, hrun, hend, Or.inr ⟨q, rfl, E, ce, locs, hx _ hT hW.alike, hcell9, hv, hcl, hW, hsm.mono hc hs, hf⟩⟩
theorem vx_frame {U : State} {k n : Nat} (h : s.sameButNew ({ U with vm := s.vm } : State) locs k n) : s.heap.size ≤ U.heap.size ∧ ∀ q : Nat, q < s.heap.size → (∀ z ∈ locs, z.base ≠ q) → U.heap[q]? = s.heap[q]? := by
  obtain ⟨-, h2, -, -, -, h6⟩ := h
  refine ⟨h2, fun q hq hz => ?_⟩
  obtain ⟨c9, e1, e2, e3, e4⟩ := h6 q _ (Array.getElem?_eq_getElem hq)
  have hs : c9.slots = (s.heap[q]).slots := Array.ext_getElem? fun i => e4 i fun hm => hz _ hm rfl
  have h9 : c9 = s.heap[q] := by
    rw [hs] at e2
    exact e2
  have e5 : U.heap[q]? = some c9 := e1
  rw [e5, h9, Array.getElem?_eq_getElem hq]
/-- the words of a throw but the four that speak of the heap -/
def vx_no (w : Cond) : Bool := decide (w ≠ .isRef (.static Bundle.tN "UNASSIGNED_STACK" Bundle.steD)) && decide (w ≠ .isRef (.static Bundle.tN "SUPPRESSED_SENTINEL" Bundle.listD)) && decide (w ≠ .laysStatic Bundle.tN "UNASSIGNED_STACK" Bundle.steD) && decide (w ≠ .laysStatic Bundle.tN "SUPPRESSED_SENTINEL" Bundle.listD)
def vx_at0 (own : String) (ic : Nat) (X : String) (names : List String) : List Cond := (Bundle.ownAtoms0 own ic X names).filter vx_no
def vx_atS (own : String) (ic : Nat) (X : String) (names : List String) : List Cond := (Bundle.ownAtoms own ic X names).filter vx_no
/-- a word that the tables alone decide, or a good one -/
def vx_ot (w : Cond) : Bool := w.onTables || goodWord w
theorem vx_ot_at {args a' : Array Value} {s U : State} {w : Cond} (hW : s.WarmedH U.vm) (hvm : s.vm = U.vm) (hg : vx_ot w = true) (h : w.before args s = true) : w.before a' U = true := by
  simp only [vx_ot, Bool.or_eq_true] at hg
  rcases hg with hg | hg
  · exact va_tabs hg hvm h
  · exact word_at hW (good_of_word hg) h
/-- a list's words: the good ones out of the method's own list, the others by premises of their own -/
theorem vx_hat {args : Array Value} {s : State} {L B : List Cond} (h1 : ∀ w ∈ L.filter goodWord, w.before args s = true) (h2 : ∀ w ∈ L.filter (fun w => !goodWord w), w ∈ B) (h3 : ∀ w ∈ B, w.before args s = true) : ∀ w ∈ L, w.before args s = true := by
  intro w hw
  by_cases g : goodWord w = true
  · exact h1 w (List.mem_filter.mpr ⟨hw, g⟩)
  · refine h3 w (h2 w (List.mem_filter.mpr ⟨hw, ?_⟩))
    show (!goodWord w) = true
    cases hgw : goodWord w
    · rfl
    · exact absurd hgw g
theorem vx_c {args : Array Value} {s : State} {w : Cond} {B : List Cond} (h : w.before args s = true) (t : ∀ w ∈ B, w.before args s = true) : ∀ w' ∈ w :: B, w'.before args s = true := fun w' h' => (List.mem_cons.mp h').elim (fun e => by rw [e]; exact h) (t w')
theorem vx_n {args : Array Value} {s : State} : ∀ w ∈ ([] : List Cond), w.before args s = true := fun _ h => nomatch h
theorem vx_own {args : Array Value} {s : State} {L : List Cond} (h1 : ∀ w ∈ L.filter vx_no, w.before args s = true)
    (hU : (Cond.isRef (.static Bundle.tN "UNASSIGNED_STACK" Bundle.steD)).before args s = true) (hN : (Cond.isRef (.static Bundle.tN "SUPPRESSED_SENTINEL" Bundle.listD)).before args s = true)
    (lU : (Cond.laysStatic Bundle.tN "UNASSIGNED_STACK" Bundle.steD).before args s = true) (lN : (Cond.laysStatic Bundle.tN "SUPPRESSED_SENTINEL" Bundle.listD).before args s = true) : ∀ w ∈ L, w.before args s = true := by
  intro w hw
  by_cases e1 : w = .isRef (.static Bundle.tN "UNASSIGNED_STACK" Bundle.steD)
  · rw [e1]; exact hU
  · by_cases e2 : w = .isRef (.static Bundle.tN "SUPPRESSED_SENTINEL" Bundle.listD)
    · rw [e2]; exact hN
    · by_cases e3 : w = .laysStatic Bundle.tN "UNASSIGNED_STACK" Bundle.steD
      · rw [e3]; exact lU
      · by_cases e4 : w = .laysStatic Bundle.tN "SUPPRESSED_SENTINEL" Bundle.listD
        · rw [e4]; exact lN
        · exact h1 w (List.mem_filter.mpr ⟨hw, by unfold vx_no; rw [decide_eq_true e1, decide_eq_true e2, decide_eq_true e3, decide_eq_true e4]; rfl⟩)
/-- where a static field lies, its class's statics cell in H -/
def vx_L (C n d : String) (A : Nat → Prop) (U : State) (H : Heap) : Prop := ∃ (c : ClassId) (k : Class) (i : Nat) (f : Field) (a : Nat) (cell : Cell), U.vm.findClass C = some c ∧ U.fieldFound? C n d = some (c, k, i, f) ∧ f.isStatic = true ∧ k.statics = some a ∧ H[a]? = some cell ∧ cell.vm.isStatics = true ∧ cell.cls = c ∧ f.slot < cell.slots.size ∧ k.staticTypes[f.slot]? = some f.type ∧ ¬ A a
theorem vx_L.moved {C n d : String} {A : Nat → Prop} {u U : State} {H : Heap} (hvm : u.vm.Alike U.vm) (h : vx_L C n d A u H) : vx_L C n d A U H := by
  obtain ⟨c, k, i, f, a, cell, h1, h2, h3, h4, h5, h6, h7, h8, h9, h10⟩ := h
  obtain ⟨k', hi', he⟩ := State.fieldFound?_setVm hvm h2
  exact ⟨c, k', i, f, a, cell, by rw [hvm.findClass]; exact h1, hi', h3, by rw [he]; exact h4, h5, h6, h7, h8, by rw [he]; exact h9, h10⟩
theorem vx_L.kept {C n d : String} {A : Nat → Prop} {U : State} {H H1 : Heap} (h : vx_L C n d A U H) (hq : ∀ a : Nat, a < H.size → ¬ A a → H1[a]? = H[a]?) : vx_L C n d A U H1 := by
  obtain ⟨c, k, i, f, a, cell, h1, h2, h3, h4, h5, h6, h7, h8, h9, h10⟩ := h
  exact ⟨c, k, i, f, a, cell, h1, h2, h3, h4, by rw [hq a (Array.getElem?_eq_some_iff.mp h5).1 h10]; exact h5, h6, h7, h8, h9, h10⟩
theorem vx_L.narrow {C n d : String} {A B : Nat → Prop} {U : State} {H : Heap} (h : vx_L C n d A U H) (hAB : ∀ q, B q → A q) : vx_L C n d B U H := by
  obtain ⟨c, k, i, f, a, cell, h1, h2, h3, h4, h5, h6, h7, h8, h9, h10⟩ := h
  exact ⟨c, k, i, f, a, cell, h1, h2, h3, h4, h5, h6, h7, h8, h9, fun z => h10 (hAB _ z)⟩
theorem vx_L.word {C n d : String} {A : Nat → Prop} {s : State} {args : Array Value} (h : vx_L C n d A s s.heap) : (Cond.laysStatic C n d).before args s = true := by
  obtain ⟨c, k, i, f, a, cell, h1, h2, h3, h4, h5, h6, h7, h8, h9, -⟩ := h
  show (Cond.laysStatic C n d).holds args s none s [] = true
  exact Cond.laysStatic_of h1 h2 h3 h4 h5 h6 h7 h8 h9
/-- .. and what it holds: null or some reference -/
def vx_Zq (C n d : String) (A : Nat → Prop) (U : State) (H : Heap) : Prop := va_Zq C n d A U H ∧ vx_L C n d A U H
theorem vx_Zq.moved {C n d : String} {A : Nat → Prop} {u U : State} {H : Heap} (hvm : u.vm.Alike U.vm) (h : vx_Zq C n d A u H) : vx_Zq C n d A U H := ⟨va_Zq.moved hvm h.1, vx_L.moved hvm h.2⟩
theorem vx_Zq.kept {C n d : String} {A : Nat → Prop} {U : State} {H H1 : Heap} (h : vx_Zq C n d A U H) (hq : ∀ a : Nat, a < H.size → ¬ A a → H1[a]? = H[a]?) : vx_Zq C n d A U H1 := ⟨va_Zq.kept h.1 hq, vx_L.kept h.2 hq⟩
theorem vx_Zq.narrow {C n d : String} {A B : Nat → Prop} {U : State} {H : Heap} (h : vx_Zq C n d A U H) (hAB : ∀ q, B q → A q) : vx_Zq C n d B U H := ⟨va_Zq.narrow h.1 hAB, vx_L.narrow h.2 hAB⟩
theorem vx_Zqof {args : Array Value} {s : State} {C n d : String} {A : Nat → Prop} (hl : (Cond.laysStatic C n d).before args s = true) (hini : (Cond.initialized C).before args s = true) (h : (Cond.isRef (.static C n d)).before args s = true) (hA : ∀ a : Nat, a < s.heap.size → ¬ A a) : vx_Zq C n d A s s.heap := by
  refine ⟨va_Zqof hl hini h hA, ?_⟩
  obtain ⟨c, k, i, f, a, cell, h1, h2, h3, h4, h5, h6, h7, h8, h9⟩ := Cond.laysStatic_spec hl
  exact ⟨c, k, i, f, a, cell, h1, h2, h3, h4, h5, h6, h7, h8, h9, hA a (Array.getElem?_eq_some_iff.mp h5).1⟩
theorem vx_isRef {C n d : String} {v : Value} {A : Nat → Prop} {s : State} {args : Array Value} (h : va_Z C n d v A s s.heap) (hv : v.isRef = true) : (Cond.isRef (.static C n d)).before args s = true := by
  obtain ⟨cf, kf, fi, f, a, cell, h1, h2, h3, h4, h5, h6, h7, -⟩ := h
  have he : (Term.static C n d).eval args s none [] s = some v := by
    simp [Term.eval, State.fieldNamed?, h1, h2, h4, h5, h6, h7]
  simp only [Cond.before, Cond.holds, Cond.value, he]
  cases v <;> simp_all [Value.isRef]
theorem vx_isRefq {C n d : String} {A : Nat → Prop} {s : State} {args : Array Value} (h : va_Zq C n d A s s.heap) : (Cond.isRef (.static C n d)).before args s = true := by
  rcases h with h | ⟨t, h⟩
  · exact vx_isRef h rfl
  · exact vx_isRef h rfl
/-- the same frame, seen from here: as if the method were called anew in this heap -/
theorem vx_rebase {T : State} (X : Stand p l e R s m args below meth c T locs cells slots) {R' : Room} (hf : R'.frames ≤ R.frames) (hl : R'.locals ≤ R.locals) (hc : cells + R'.cells ≤ R.cells) (hs : slots + R'.slots ≤ R.slots) :
    Stand p l e R' ((T.setVm s.vm).setFrames (.invoking m args :: below)) m args below meth c T [] 0 0 := by
  have htop : (T.setVm s.vm).topJava?.isSome := X.here.top
  have hF : ((T.setVm s.vm).setFrames (.invoking m args :: below)).frames = .invoking m args :: below := State.frames_setFrames _ (State.cur_lt_of_top htop)
  obtain ⟨g₀, hg0⟩ := Option.isSome_iff_exists.mp htop
  obtain ⟨r, hr⟩ := State.topJava?_eq_some.mp hg0
  have hl9 : e.platform.stackLimits (T.setVm s.vm).me = e.platform.stackLimits s.me := X.limits
  have hb9 : (T.setVm s.vm).me.stackBytes = s.me.stackBytes := X.bytes
  refine ⟨X.admits, X.cas, X.clock, hF, ?_, X.hears, X.method, X.code, X.here, X.tail, X.warmed, ?_, ?_, ?_⟩
  · have h := X.room
    have hU : ((T.setVm s.vm).setFrames (.invoking m args :: below)).localsInUse = s.localsInUse := by
      rw [State.localsInUse_invoking hF (meth := meth) (c := c) X.method X.code, State.localsInUse_invoking X.frames X.method X.code]
    simp only [State.hasRoom, Bool.and_eq_true, decide_eq_true_eq] at h ⊢
    obtain ⟨⟨⟨⟨h1, h2, h3, h4, h5, h6⟩, h7⟩, h8⟩, h9⟩ := h
    rw [X.frames, List.length_cons] at h2 h3
    have q1 := X.heapSize
    have q2 := X.used
    simp only [hF, hU, List.length_cons, State.stackLimits_setFrames, State.stackBytes_setFrames, hl9, hb9]
    refine ⟨⟨⟨⟨by omega, by omega, by omega, by omega, by omega, h6⟩, ?_⟩, ?_⟩, X.book⟩
    · show T.heap.size + R'.cells ≤ e.platform.maxCells
      omega
    · show T.slotsUsed + R'.slots ≤ e.platform.maxSlots
      omega
  · rw [State.stackLimits_setFrames]; rfl
  · rw [State.stackBytes_setFrames]; rfl
  · refine ⟨?_, Nat.le_refl _, Nat.le_refl _, ?_, ?_, fun a c9 h9 => ⟨c9, h9, rfl, rfl, fun _ _ => rfl⟩⟩
    · obtain ⟨t, ht, -⟩ := State.frames_cons hr
      show T.setVm s.vm = { ((T.setVm s.vm).setFrames (.invoking m args :: below)).setFrames (T.setVm s.vm).frames with heap := T.heap, slotsUsed := T.slotsUsed }
      rw [State.setFrames_setFrames, State.setFrames_self ht]
      rfl
    · show T.slotsUsed = T.slotsUsed + ((T.heap.toList.drop T.heap.size).map (·.slots.size)).sum
      rw [List.drop_eq_nil_of_le (Nat.le_of_eq Array.length_toList)]
      rfl
    · show ((T.heap.toList.drop T.heap.size).map (·.slots.size)).sum ≤ 0
      rw [List.drop_eq_nil_of_le (Nat.le_of_eq Array.length_toList)]
      exact Nat.le_refl _
/-- 'throw new E()': new; dup; invokespecial; athrow -/
theorem vx_throw0 {cc : ByteArray} {pc : Nat} (hexec : p.tables.exec = Jvm.exec) (hb : c.code = cc) (hl : l.stackTraces = false) {own cls : String} {names : List String} {ik ic mc ms : Nat} {A : Nat → Prop}
    (hown : s.vm.findClass own = some m.cls) (hcls : Bundle.fit cls = true) (hnames : ∀ n ∈ names, Bundle.fit n = true)
    (hk : (Cond.classLink own ik cls).before args s = true) (hini : (Cond.initialized cls).before args s = true) (hat : ∀ w ∈ vx_at0 own ic cls names, w.before args s = true)
    (hgood : ∀ w ∈ Cond.classLink own ik cls :: Cond.initialized cls :: vx_at0 own ic cls names, vx_ot w = true)
    (hU : vx_Zq Bundle.tN "UNASSIGNED_STACK" Bundle.steD A s s.heap) (hN : vx_Zq Bundle.tN "SUPPRESSED_SENTINEL" Bundle.listD A s s.heap) (hS : va_S A s.heap H locs) (hsize : ls.size = c.maxLocals)
    (d0 : decode cc pc = .ok (.new ik, 3)) (d3 : decode cc (pc + 3) = .ok (.dup, 1)) (d4 : decode cc (pc + 4) = .ok (.invokespecial ic, 3)) (d7 : decode cc (pc + 7) = .ok (.athrow, 1))
    (hout : ∀ x ∈ c.exceptionTable.toList, covers x (pc + 7) = false)
    (hRframes : names.length + 3 < R.frames) (hRlocals : (rest.map fun v => v.category).sum + (13 * (names.length + 1) + 42) ≤ R.locals) (hRcells : cells + 1 ≤ R.cells) (hRslots : slots + 6 ≤ R.slots) (hlocks : meth.locks = false)
    (hx : ∀ t : State, s.vm.Alike t.vm → H.size ≤ t.heap.size → (∀ q : Nat, q < H.size → t.heap[q]? = H[q]?) → XC cls s t)
    (hf : ∀ z ∈ locs, free z.base) (hc : cells + 1 ≤ mc) (hs : slots + 6 ≤ ms) :
    W p l e R s m args below meth c H locs cells slots (vx_MQ below Qc XC args s mc ms free) (F0 m pc ls rest) := by
  intro T hT X
  have htr : e.platform.stackTraces = false := (show e.platform.stackTraces = l.stackTraces by rw [X.admits.platform]).trans hl
  have Y := vx_rebase X (R' := { frames := R.frames, locals := R.locals, cells := 1, slots := 6 }) (Nat.le_refl _) (Nat.le_refl _) hRcells hRslots
  obtain ⟨s', hA⟩ : ∃ z, z = (T.setVm s.vm).setFrames (.invoking m args :: below) := ⟨_, rfl⟩
  rw [← hA] at Y
  have hvm : s'.vm = s.vm := by rw [hA]; rfl
  have hhp : s'.heap = H := by rw [hA]; exact hT
  have hW0 : s.WarmedH s'.vm := by rw [hvm]; exact State.WarmedH.refl s
  have hat' : ∀ w ∈ vx_at0 own ic cls names, w.before args s' = true := fun w hw => vx_ot_at hW0 hvm.symm (hgood w (List.mem_cons_of_mem _ (List.mem_cons_of_mem _ hw))) (hat w hw)
  have hk' : (Cond.classLink own ik cls).before args s' = true := vx_ot_at hW0 hvm.symm (hgood _ List.mem_cons_self) hk
  have hini' : (Cond.initialized cls).before args s' = true := vx_ot_at hW0 hvm.symm (hgood _ (List.mem_cons_of_mem _ List.mem_cons_self)) hini
  have hU' : vx_Zq Bundle.tN "UNASSIGNED_STACK" Bundle.steD A s' s'.heap := by rw [hhp]; exact vx_Zq.moved hW0.alike (hU.kept hS.2.1)
  have hN' : vx_Zq Bundle.tN "SUPPRESSED_SENTINEL" Bundle.listD A s' s'.heap := by rw [hhp]; exact vx_Zq.moved hW0.alike (hN.kept hS.2.1)
  have h : ∀ w ∈ Bundle.ownAtoms0 own ic cls names, w.before args s' = true := vx_own hat' (vx_isRefq hU'.1) (vx_isRefq hN'.1) hU'.2.word hN'.2.word
  have hown' : s'.vm.findClass own = some m.cls := by rw [hvm]; exact hown
  have hins : (Cond.instantiable cls 6).before args s' = true := h _ (by simp [Bundle.ownAtoms0])
  obtain ⟨vm₁, cX, kX, hfX, hkX, -, -, X₁, st1⟩ := Y.newCold hexec (own := own) (C := cls) (index := ik) (n := 6) hown' hk' hins hini'
    (g := F0 m pc ls rest) rfl (by rw [hb]; exact d0) (Nat.le_refl _) (Nat.le_refl _)
  generalize hT1 : (T.setVm vm₁).pushCell { cls := cX, slots := kX.instanceTypes.map defaultValue, vm := .none } = T1 at X₁ st1
  have hcat : (Value.ref T.heap.size).category = 1 := rfl
  have hcellA : T1.heap[T.heap.size]? = some (freshCell cX kX) := by rw [← hT1]; exact State.heap_pushCell_size _ _
  have d3' : decode c.code (pc + 3) = .ok (.dup, 1) := by rw [hb]; exact d3
  obtain ⟨U, hsteps, hrun, hend, hW, hsame, ce, hce, hO⟩ := X₁.ctorThrow0 hexec htr (own := own) (cls := cls) (names := names) (ic := ic) hown' hcls hnames h (fun x hx => nomatch hx) hfX hkX hcellA (by rw [hhp, hT]; exact Nat.le_refl _)
    (g := { method := m, pc := pc + 4, locals := ls, stack := .ref T.heap.size :: .ref T.heap.size :: rest, locked := none }) rfl hsize rfl rfl (rest := rest) rfl
    (by rw [hb]; exact d4) (by rw [hb]; exact d7) hout hRframes (by simp only [List.map_cons, List.sum_cons, hcat]; omega) hlocks
  obtain ⟨f1, f2⟩ := vx_frame hsame
  rw [hhp] at f1 f2
  have hWs : s.WarmedH U.vm := State.WarmedH.trans hW0 hW
  have hcl : s.vm.findClass cls = some ce.cls := by
    have h9 := hO.cls
    rw [hvm] at h9
    exact h9
  have hall : s.sameButNew ({ U with vm := s.vm } : State) locs mc ms := by
    subst hA
    obtain ⟨e1, e2⟩ := hsame
    rw [State.setFrames_setFrames] at e1
    have h2 : (T.setVm s.vm).sameButNew ({ U with vm := s.vm } : State) [] (0 + 1) (0 + 6) := ⟨e1, e2⟩
    have h3 := X.same.trans h2
    rw [List.append_nil] at h3
    exact h3.mono hc hs
  refine ⟨U, ?_, .threw T.heap.size, hrun, hend, Or.inr ⟨T.heap.size, rfl, cls, ce, locs, hx U hWs.alike f1 (fun q hq => f2 q hq (fun z hz => nomatch hz)), hce, hO.vm, hcl, hWs, hall, hf⟩⟩
  refine st1 _ ?_
  show Steps p.tables e below (T1.setTop { method := m, pc := pc + 3, locals := ls, stack := .ref T.heap.size :: rest, locked := none }) _
  jvm_step X₁.here [X₁.here.top, hexec, d3', Value.category]
  exact hsteps
/-- 'throw new E("text")': new; dup; ldc; invokespecial; athrow -/
theorem vx_throwS {cc : ByteArray} {pc : Nat} (hexec : p.tables.exec = Jvm.exec) (hb : c.code = cc) (hl : l.stackTraces = false) {own cls text : String} {names : List String} {ik is ic mc ms sa : Nat} {A : Nat → Prop}
    (hown : s.vm.findClass own = some m.cls) (hcls : Bundle.fit cls = true) (hnames : ∀ n ∈ names, Bundle.fit n = true)
    (hk : (Cond.classLink own ik cls).before args s = true) (hini : (Cond.initialized cls).before args s = true) (hstr : vk_R own is text sa s) (hat : ∀ w ∈ vx_atS own ic cls names, w.before args s = true)
    (hgood : ∀ w ∈ Cond.classLink own ik cls :: Cond.initialized cls :: vx_atS own ic cls names, vx_ot w = true)
    (hU : vx_Zq Bundle.tN "UNASSIGNED_STACK" Bundle.steD A s s.heap) (hN : vx_Zq Bundle.tN "SUPPRESSED_SENTINEL" Bundle.listD A s s.heap) (hS : va_S A s.heap H locs) (hsize : ls.size = c.maxLocals)
    (d0 : decode cc pc = .ok (.new ik, 3)) (d3 : decode cc (pc + 3) = .ok (.dup, 1)) (d4 : decode cc (pc + 4) = .ok (.ldc is, 2)) (d6 : decode cc (pc + 6) = .ok (.invokespecial ic, 3)) (d9 : decode cc (pc + 9) = .ok (.athrow, 1))
    (hout : ∀ x ∈ c.exceptionTable.toList, covers x (pc + 9) = false)
    (hRframes : names.length + 3 < R.frames) (hRlocals : (rest.map fun v => v.category).sum + (13 * (names.length + 1) + 43) ≤ R.locals) (hRcells : cells + 1 ≤ R.cells) (hRslots : slots + 6 ≤ R.slots) (hlocks : meth.locks = false)
    (hx : ∀ t : State, s.vm.Alike t.vm → H.size ≤ t.heap.size → (∀ q : Nat, q < H.size → t.heap[q]? = H[q]?) → XC cls s t)
    (hf : ∀ z ∈ locs, free z.base) (hc : cells + 1 ≤ mc) (hs : slots + 6 ≤ ms) :
    W p l e R s m args below meth c H locs cells slots (vx_MQ below Qc XC args s mc ms free) (F0 m pc ls rest) := by
  intro T hT X
  have htr : e.platform.stackTraces = false := (show e.platform.stackTraces = l.stackTraces by rw [X.admits.platform]).trans hl
  have Y := vx_rebase X (R' := { frames := R.frames, locals := R.locals, cells := 1, slots := 6 }) (Nat.le_refl _) (Nat.le_refl _) hRcells hRslots
  obtain ⟨s', hA⟩ : ∃ z, z = (T.setVm s.vm).setFrames (.invoking m args :: below) := ⟨_, rfl⟩
  rw [← hA] at Y
  have hvm : s'.vm = s.vm := by rw [hA]; rfl
  have hhp : s'.heap = H := by rw [hA]; exact hT
  have hW0 : s.WarmedH s'.vm := by rw [hvm]; exact State.WarmedH.refl s
  have hat' : ∀ w ∈ vx_atS own ic cls names, w.before args s' = true := fun w hw => vx_ot_at hW0 hvm.symm (hgood w (List.mem_cons_of_mem _ (List.mem_cons_of_mem _ hw))) (hat w hw)
  have hk' : (Cond.classLink own ik cls).before args s' = true := vx_ot_at hW0 hvm.symm (hgood _ List.mem_cons_self) hk
  have hini' : (Cond.initialized cls).before args s' = true := vx_ot_at hW0 hvm.symm (hgood _ (List.mem_cons_of_mem _ List.mem_cons_self)) hini
  have hU' : vx_Zq Bundle.tN "UNASSIGNED_STACK" Bundle.steD A s' s'.heap := by rw [hhp]; exact vx_Zq.moved hW0.alike (hU.kept hS.2.1)
  have hN' : vx_Zq Bundle.tN "SUPPRESSED_SENTINEL" Bundle.listD A s' s'.heap := by rw [hhp]; exact vx_Zq.moved hW0.alike (hN.kept hS.2.1)
  have h : ∀ w ∈ Bundle.ownAtoms own ic cls names, w.before args s' = true := vx_own hat' (vx_isRefq hU'.1) (vx_isRefq hN'.1) hU'.2.word hN'.2.word
  have hown' : s'.vm.findClass own = some m.cls := by rw [hvm]; exact hown
  have hins : (Cond.instantiable cls 6).before args s' = true := h _ (by simp [Bundle.ownAtoms])
  obtain ⟨vm₁, cX, kX, hfX, hkX, -, -, X₁, st1⟩ := Y.newCold hexec (own := own) (C := cls) (index := ik) (n := 6) hown' hk' hins hini'
    (g := F0 m pc ls rest) rfl (by rw [hb]; exact d0) (Nat.le_refl _) (Nat.le_refl _)
  generalize hT1 : (T.setVm vm₁).pushCell { cls := cX, slots := kX.instanceTypes.map defaultValue, vm := .none } = T1 at X₁ st1
  have hcat : (Value.ref T.heap.size).category = 1 := rfl
  have hcellA : T1.heap[T.heap.size]? = some (freshCell cX kX) := by rw [← hT1]; exact State.heap_pushCell_size _ _
  have d3' : decode c.code (pc + 3) = .ok (.dup, 1) := by rw [hb]; exact d3
  have d4' : decode c.code (pc + 4) = .ok (.ldc is, 2) := by rw [hb]; exact d4
  have hstr' : vk_R own is text sa s' := vk_R.warm hW0 hstr
  obtain ⟨U, hsteps, hrun, hend, hW, hsame, ce, hce, hO⟩ := X₁.ctorThrowS hexec htr (own := own) (cls := cls) (names := names) (ic := ic) hown' hcls hnames h (fun x hx => nomatch hx) hfX hkX hcellA (by rw [hhp, hT]; exact Nat.le_refl _) (msg := .ref sa) rfl
    (g := { method := m, pc := pc + 6, locals := ls, stack := .ref sa :: .ref T.heap.size :: .ref T.heap.size :: rest, locked := none }) rfl hsize rfl rfl (rest := rest) rfl
    (by rw [hb]; exact d6) (by rw [hb]; exact d9) hout hRframes (by simp only [List.map_cons, List.sum_cons, hcat]; omega) hlocks
  obtain ⟨f1, f2⟩ := vx_frame hsame
  rw [hhp] at f1 f2
  have hWs : s.WarmedH U.vm := State.WarmedH.trans hW0 hW
  have hcl : s.vm.findClass cls = some ce.cls := by
    have h9 := hO.cls
    rw [hvm] at h9
    exact h9
  have hall : s.sameButNew ({ U with vm := s.vm } : State) locs mc ms := by
    subst hA
    obtain ⟨e1, e2⟩ := hsame
    rw [State.setFrames_setFrames] at e1
    have h2 : (T.setVm s.vm).sameButNew ({ U with vm := s.vm } : State) [] (0 + 1) (0 + 6) := ⟨e1, e2⟩
    have h3 := X.same.trans h2
    rw [List.append_nil] at h3
    exact h3.mono hc hs
  refine ⟨U, ?_, .threw T.heap.size, hrun, hend, Or.inr ⟨T.heap.size, rfl, cls, ce, locs, hx U hWs.alike f1 (fun q hq => f2 q hq (fun z hz => nomatch hz)), hce, hO.vm, hcl, hWs, hall, hf⟩⟩
  refine st1 _ ?_
  show Steps p.tables e below (T1.setTop { method := m, pc := pc + 3, locals := ls, stack := .ref T.heap.size :: rest, locked := none }) _
  jvm_step X₁.here [X₁.here.top, hexec, d3', Value.category]
  exact X₁.ldcString hexec (own := own) (text := text) (index := is) (a := sa) hown' hstr'.1 hstr'.2
    (g := { method := m, pc := pc + 4, locals := ls, stack := .ref T.heap.size :: .ref T.heap.size :: rest, locked := none }) rfl d4' _ hsteps
/-- 'throw new E("text")', the text by a wide index -/
theorem vx_throwSW {cc : ByteArray} {pc : Nat} (hexec : p.tables.exec = Jvm.exec) (hb : c.code = cc) (hl : l.stackTraces = false) {own cls text : String} {names : List String} {ik is ic mc ms sa : Nat} {A : Nat → Prop}
    (hown : s.vm.findClass own = some m.cls) (hcls : Bundle.fit cls = true) (hnames : ∀ n ∈ names, Bundle.fit n = true)
    (hk : (Cond.classLink own ik cls).before args s = true) (hini : (Cond.initialized cls).before args s = true) (hstr : vk_R own is text sa s) (hat : ∀ w ∈ vx_atS own ic cls names, w.before args s = true)
    (hgood : ∀ w ∈ Cond.classLink own ik cls :: Cond.initialized cls :: vx_atS own ic cls names, vx_ot w = true)
    (hU : vx_Zq Bundle.tN "UNASSIGNED_STACK" Bundle.steD A s s.heap) (hN : vx_Zq Bundle.tN "SUPPRESSED_SENTINEL" Bundle.listD A s s.heap) (hS : va_S A s.heap H locs) (hsize : ls.size = c.maxLocals)
    (d0 : decode cc pc = .ok (.new ik, 3)) (d3 : decode cc (pc + 3) = .ok (.dup, 1)) (d4 : decode cc (pc + 4) = .ok (.ldc_w is, 3)) (d7 : decode cc (pc + 7) = .ok (.invokespecial ic, 3)) (d10 : decode cc (pc + 10) = .ok (.athrow, 1))
    (hout : ∀ x ∈ c.exceptionTable.toList, covers x (pc + 10) = false)
    (hRframes : names.length + 3 < R.frames) (hRlocals : (rest.map fun v => v.category).sum + (13 * (names.length + 1) + 43) ≤ R.locals) (hRcells : cells + 1 ≤ R.cells) (hRslots : slots + 6 ≤ R.slots) (hlocks : meth.locks = false)
    (hx : ∀ t : State, s.vm.Alike t.vm → H.size ≤ t.heap.size → (∀ q : Nat, q < H.size → t.heap[q]? = H[q]?) → XC cls s t)
    (hf : ∀ z ∈ locs, free z.base) (hc : cells + 1 ≤ mc) (hs : slots + 6 ≤ ms) :
    W p l e R s m args below meth c H locs cells slots (vx_MQ below Qc XC args s mc ms free) (F0 m pc ls rest) := by
  intro T hT X
  have htr : e.platform.stackTraces = false := (show e.platform.stackTraces = l.stackTraces by rw [X.admits.platform]).trans hl
  have Y := vx_rebase X (R' := { frames := R.frames, locals := R.locals, cells := 1, slots := 6 }) (Nat.le_refl _) (Nat.le_refl _) hRcells hRslots
  obtain ⟨s', hA⟩ : ∃ z, z = (T.setVm s.vm).setFrames (.invoking m args :: below) := ⟨_, rfl⟩
  rw [← hA] at Y
  have hvm : s'.vm = s.vm := by rw [hA]; rfl
  have hhp : s'.heap = H := by rw [hA]; exact hT
  have hW0 : s.WarmedH s'.vm := by rw [hvm]; exact State.WarmedH.refl s
  have hat' : ∀ w ∈ vx_atS own ic cls names, w.before args s' = true := fun w hw => vx_ot_at hW0 hvm.symm (hgood w (List.mem_cons_of_mem _ (List.mem_cons_of_mem _ hw))) (hat w hw)
  have hk' : (Cond.classLink own ik cls).before args s' = true := vx_ot_at hW0 hvm.symm (hgood _ List.mem_cons_self) hk
  have hini' : (Cond.initialized cls).before args s' = true := vx_ot_at hW0 hvm.symm (hgood _ (List.mem_cons_of_mem _ List.mem_cons_self)) hini
  have hU' : vx_Zq Bundle.tN "UNASSIGNED_STACK" Bundle.steD A s' s'.heap := by rw [hhp]; exact vx_Zq.moved hW0.alike (hU.kept hS.2.1)
  have hN' : vx_Zq Bundle.tN "SUPPRESSED_SENTINEL" Bundle.listD A s' s'.heap := by rw [hhp]; exact vx_Zq.moved hW0.alike (hN.kept hS.2.1)
  have h : ∀ w ∈ Bundle.ownAtoms own ic cls names, w.before args s' = true := vx_own hat' (vx_isRefq hU'.1) (vx_isRefq hN'.1) hU'.2.word hN'.2.word
  have hown' : s'.vm.findClass own = some m.cls := by rw [hvm]; exact hown
  have hins : (Cond.instantiable cls 6).before args s' = true := h _ (by simp [Bundle.ownAtoms])
  obtain ⟨vm₁, cX, kX, hfX, hkX, -, -, X₁, st1⟩ := Y.newCold hexec (own := own) (C := cls) (index := ik) (n := 6) hown' hk' hins hini'
    (g := F0 m pc ls rest) rfl (by rw [hb]; exact d0) (Nat.le_refl _) (Nat.le_refl _)
  generalize hT1 : (T.setVm vm₁).pushCell { cls := cX, slots := kX.instanceTypes.map defaultValue, vm := .none } = T1 at X₁ st1
  have hcat : (Value.ref T.heap.size).category = 1 := rfl
  have hcellA : T1.heap[T.heap.size]? = some (freshCell cX kX) := by rw [← hT1]; exact State.heap_pushCell_size _ _
  have d3' : decode c.code (pc + 3) = .ok (.dup, 1) := by rw [hb]; exact d3
  have d4' : decode c.code (pc + 4) = .ok (.ldc_w is, 3) := by rw [hb]; exact d4
  have hstr' : vk_R own is text sa s' := vk_R.warm hW0 hstr
  obtain ⟨U, hsteps, hrun, hend, hW, hsame, ce, hce, hO⟩ := X₁.ctorThrowS hexec htr (own := own) (cls := cls) (names := names) (ic := ic) hown' hcls hnames h (fun x hx => nomatch hx) hfX hkX hcellA (by rw [hhp, hT]; exact Nat.le_refl _) (msg := .ref sa) rfl
    (g := { method := m, pc := pc + 7, locals := ls, stack := .ref sa :: .ref T.heap.size :: .ref T.heap.size :: rest, locked := none }) rfl hsize rfl rfl (rest := rest) rfl
    (by rw [hb]; exact d7) (by rw [hb]; exact d10) hout hRframes (by simp only [List.map_cons, List.sum_cons, hcat]; omega) hlocks
  obtain ⟨f1, f2⟩ := vx_frame hsame
  rw [hhp] at f1 f2
  have hWs : s.WarmedH U.vm := State.WarmedH.trans hW0 hW
  have hcl : s.vm.findClass cls = some ce.cls := by
    have h9 := hO.cls
    rw [hvm] at h9
    exact h9
  have hall : s.sameButNew ({ U with vm := s.vm } : State) locs mc ms := by
    subst hA
    obtain ⟨e1, e2⟩ := hsame
    rw [State.setFrames_setFrames] at e1
    have h2 : (T.setVm s.vm).sameButNew ({ U with vm := s.vm } : State) [] (0 + 1) (0 + 6) := ⟨e1, e2⟩
    have h3 := X.same.trans h2
    rw [List.append_nil] at h3
    exact h3.mono hc hs
  refine ⟨U, ?_, .threw T.heap.size, hrun, hend, Or.inr ⟨T.heap.size, rfl, cls, ce, locs, hx U hWs.alike f1 (fun q hq => f2 q hq (fun z hz => nomatch hz)), hce, hO.vm, hcl, hWs, hall, hf⟩⟩
  refine st1 _ ?_
  show Steps p.tables e below (T1.setTop { method := m, pc := pc + 3, locals := ls, stack := .ref T.heap.size :: rest, locked := none }) _
  jvm_step X₁.here [X₁.here.top, hexec, d3', Value.category]
  exact X₁.ldcStringW hexec (own := own) (text := text) (index := is) (a := sa) hown' hstr'.1 hstr'.2
    (g := { method := m, pc := pc + 4, locals := ls, stack := .ref T.heap.size :: .ref T.heap.size :: rest, locked := none }) rfl d4' _ hsteps
end Ends
section Bodies
variable {l : Launch}
theorem vx_ofW {y : MethodName} {ws ws' : List Cond} {rm : Room} {Pc : Array Value → State → Prop} {Qc : Array Value → State → Outcome → State → Prop} {XC : String → State → State → Prop} {mc ms : Nat} {free : Addr → Prop} {cc : ByteArray} {maxL : Nat} {ret : Option FieldType}
    (hy : plainName y.cls = true) (hw : ws = Cond.code y cc maxL ret :: ws')
    (body : ∀ p e s m args below meth c s₁, BodyLoose p l y (headSpec ws rm) cc maxL ret e s m args below meth c s₁ → c.maxLocals = maxL → (∀ x ∈ c.exceptionTable.toList, False) → Pc args s →
      W p l e (headSpec ws rm).room s m args below meth c s.heap [] 0 0 (vx_MQ below Qc XC args s mc ms free) (entryFrame m args maxL)) : vx_Met l y ws rm Pc Qc XC mc ms free := by
  refine MetFree.of_bodyS (code := cc) (maxLocals := maxL) (ret := ret) hy ?_ ?_
  · intro args s m h hn
    obtain ⟨meth, c, h1, h2, h3, h4, h5, h6, -, -⟩ := Cond.code_spec hn (atoms_spec (ws := ws) h _ (by rw [hw]; exact List.mem_cons_self))
    exact ⟨meth, c, h1, h2, h3, h4, h5, h6⟩
  · intro p e s m args below meth c s₁ B hml hP _
    have hh0 : s₁.heap = s.heap := by rw [B.state]; rfl
    have ht : ∀ x ∈ c.exceptionTable.toList, False := by
      obtain ⟨meth9, c9, h1, h2, -, -, -, -, h7, -⟩ := Cond.code_spec B.named (atoms_spec (ws := ws) B.pre _ (by rw [hw]; exact List.mem_cons_self))
      cases Option.some.inj (h1.symm.trans B.method)
      cases Option.some.inj (h2.symm.trans (Stand.of_body B).code)
      intro x hx
      rw [Array.isEmpty_iff.mp h7] at hx
      cases hx
    obtain ⟨t, a1, o, b1, b2, b3⟩ := body p e s m args below meth c s₁ B hml ht hP s₁ hh0 (Stand.of_body B)
    exact ⟨t, o, a1, b1, b2, b3⟩
/-- the table of a body with handlers -/
theorem vx_table {p : Program} {x y : MethodName} {S : Spec} {cc bytes : ByteArray} {maxL maxL' : Nat} {ret ret' : Option FieldType} {e : Env} {s s₁ : State} {m : MethodId} {args : Array Value} {below : List Frame} {meth : Method} {c : Code} {hh : List (Nat × Nat × Nat × Nat)}
    (B : BodyLoose p l y S cc maxL ret e s m args below meth c s₁) (h : (Cond.codeWith y bytes maxL' ret' hh).before args s = true) : c.exceptionTable.toList = tableOf hh := by
  obtain ⟨m9, meth9, c9, hn9, h1, h2, -, -, h6, -⟩ := Cond.codeWith_spec h
  cases Option.some.inj (hn9.symm.trans B.named)
  cases Option.some.inj (h1.symm.trans B.method)
  cases Option.some.inj (h2.symm.trans (Stand.of_body B).code)
  rw [← h6, table_eq]
end Bodies
end VXA
/-! ===== END ===== -/
/-! ===== BEGIN a static call of a method with an exception table ===== -/
section VXS
variable {p : Program} {l : Launch} {e : Env} {R : Room} {s : State} {m : MethodId} {args : Array Value} {below : List Frame} {meth : Method} {c : Code} {T : State} {H : Heap} {locs : List Loc} {cells slots : Nat}
abbrev vx_CSW (R : Room) (s : State) (args : Array Value) (own : String) (index : Nat) (y : MethodName) (bytes : ByteArray) (maxL : Nat) (ret : Option FieldType) (hh : List (Nat × Nat × Nat × Nat)) (ws : List Cond) (rm : Room) (mc ms n : Nat) : Prop :=
  (rm.cells = mc ∧ rm.slots = ms ∧ rm.frames + 1 ≤ R.frames ∧ 8 + (maxL + 11) + rm.locals ≤ R.locals ∧ (∀ w ∈ ws, ∀ (a' : Array Value) (U : State), s.WarmedH U.vm → w.before a' U = true) ∧ Cond.codeWith y bytes maxL ret hh ∈ ws) ∧
  (Cond.codeWith y bytes maxL ret hh).before args s = true ∧ (Cond.initialized y.cls).before args s = true ∧ (y.cls ≠ "java/lang/invoke/MethodHandle" ∧ y.cls ≠ "java/lang/invoke/VarHandle") ∧
  (∀ sig, parseMethodDescriptor y.desc = some sig → n = sig.parameters.length) ∧ (Cond.methodLink own index y).before args s = true ∧ (Cond.static y).before args s = true
theorem vx_cwSW {own : String} {index maxL mc ms : Nat} {y : MethodName} {bytes : ByteArray} {ret : Option FieldType} {hh : List (Nat × Nat × Nat × Nat)} {Ts ws ws' : List Cond} {rm : Room} (n : Nat) (ht : ∀ w ∈ Ts, w.before args s = true) (hT : GoodIn Ts (va_wsS own index y ws)) (hw : ws = Cond.codeWith y bytes maxL ret hh :: ws') (hrc : rm.cells = mc) (hrs : rm.slots = ms)
    (hd : y.cls ≠ "java/lang/invoke/MethodHandle" ∧ y.cls ≠ "java/lang/invoke/VarHandle" ∧ (parseMethodDescriptor y.desc).map (fun d => d.parameters.length) = some n) (hR : rm.frames + 1 ≤ R.frames ∧ 8 + (maxL + 11) + rm.locals ≤ R.locals) :
    vx_CSW R s args own index y bytes maxL ret hh ws rm mc ms n := by
  have ok : ∀ w ∈ va_wsS own index y ws, w.before args s = true := fun w h => ht w (hT w h).1
  have hG : GoodIn Ts ws := fun w h => hT w (by unfold va_wsS; exact List.mem_append_right _ h)
  have hc : Cond.codeWith y bytes maxL ret hh ∈ ws := by rw [hw]; exact List.mem_cons_self
  refine ⟨⟨hrc, hrs, hR.1, hR.2, pay_in ht hG, hc⟩, ht _ (hG _ hc).1, ok _ (by simp [va_wsS]), ⟨hd.1, hd.2.1⟩, fun sig h => ?_, ok _ (by simp [va_wsS]), ok _ (by simp [va_wsS])⟩
  have h2 := hd.2.2
  rw [h] at h2
  exact (Option.some.inj h2).symm
theorem vx_callSW (X : Stand p l e R s m args below meth c T locs cells slots) (hexec : p.tables.exec = Jvm.exec) {own : String} {index : Nat} {y : MethodName} {bytes : ByteArray} {maxL : Nat} {ret : Option FieldType} {hh : List (Nat × Nat × Nat × Nat)}
    (hown : s.vm.findClass own = some m.cls) (hlink : (Cond.methodLink own index y).before args s = true) (hstat : (Cond.static y).before args s = true) (hinit : (Cond.initialized y.cls).before args s = true)
    (hcode : (Cond.codeWith y bytes maxL ret hh).before args s = true) (hy : y.cls ≠ "java/lang/invoke/MethodHandle" ∧ y.cls ≠ "java/lang/invoke/VarHandle")
    {W9 : Nat} {Pre : Pt → Array Value → Prop} {Post : Pt → Array Value → Option Value → Pt → Prop} (hK : Back l R p e below s args y 3 W9 Pre Post)
    {g : JFrame} (hg : g.method = m) (hsize : g.locals.size = c.maxLocals) {argsL rest : List Value} (hlen : ∀ sig, parseMethodDescriptor y.desc = some sig → argsL.length = sig.parameters.length)
    (hstack : g.stack = argsL.reverse ++ rest) (hW : 2 * g.monitorRoom + (rest.map fun v => v.category).sum ≤ W9) (hdg : decode c.code g.pc = .ok (.invokestatic index, 3))
    (hpre : ∀ vm₁, s.WarmedH vm₁ → Pre ⟨T.setVm vm₁, locs, cells, slots⟩ argsL.toArray) :
    ∃ (v : Option Value) (vm₁ : Vm) (B : Pt), s.WarmedH vm₁ ∧ Stand p l e R s m args below meth c B.U B.locs B.cells B.slots ∧ Post ⟨T.setVm vm₁, locs, cells, slots⟩ argsL.toArray v B ∧
      ∀ target, Steps p.tables e below (B.U.setTop { g with pc := g.pc + 3, stack := v.toList ++ rest }) target → Steps p.tables e below (T.setTop g) target := by
  obtain ⟨mk, methM, cM, hnamed, hmethM, -, -, -, -, -, -, hsigM⟩ := Cond.codeWith_spec hcode
  have hstatic : methM.isStatic = true := Cond.static_spec hnamed hmethM hstat
  obtain ⟨kP, hkP, -⟩ := className_of_methodNamed hnamed
  have hinitP : kP.init = .initialized := Cond.initialized_spec (findClass_of_methodNamed hnamed) hkP hinit
  obtain ⟨vm₁, X₁, hstep₁⟩ := X.invokestatic hexec hown hlink hnamed hmethM hstatic hkP hinitP hy (g := g) hg (argsL := argsL) (rest := rest) (hlen _ hsigM) hstack hdg
  obtain ⟨v, B, X', hpost, hsteps⟩ := hK m meth c ⟨T.setVm vm₁, locs, cells, slots⟩ { g with stack := rest } (.invokestatic index) mk argsL.toArray X₁ hg hsize hdg hW (X₁.named hnamed) (hpre vm₁ X₁.warmed)
  exact ⟨v, vm₁, B, X₁.warmed, X', hpost, fun target h => hstep₁ _ fun acts => by rw [doInvoke_state]; exact hsteps.trans h⟩
theorem vx_runSW {y : MethodName} {bytes cc : ByteArray} {maxL nL mc ms n index : Nat} {ret : Option FieldType} {hh : List (Nat × Nat × Nat × Nat)} {ws : List Cond} {rm : Room} {Pc : Array Value → State → Prop} {Qc : Array Value → State → Outcome → State → Prop} {free : Addr → Prop} {Ts : List Cond} {own : String} {As rest : List Value} {g : JFrame}
    (S : CallFix p m c cc nL s args Ts own) (hM : Met l y ws rm Pc Qc mc ms free) (cw : vx_CSW R s args own index y bytes maxL ret hh ws rm mc ms n) (hp : PreS s H Pc As)
    (hg : g.method = m) (hn : As.length = n) (hsize : g.locals.size = nL) (hstack : g.stack = As.reverse ++ rest) (hW : 2 * g.monitorRoom + (rest.map fun v => v.category).sum ≤ 8) (hdg : decode cc g.pc = .ok (.invokestatic index, 3)) (hf : cells + mc ≤ R.cells ∧ slots + ms ≤ R.slots) :
    va_Run p l e R s m args below meth c H locs cells slots mc ms g rest (Qc As.toArray) (free) := by
  obtain ⟨⟨hrc, hrs, hfr, hlo, hws, hcw⟩, hcode, hini, hy, hlen, hl, hstt⟩ := cw
  have hK : Back l R p e below s args y 3 8 (PreOf R mc ms Pc) (PostOf Qc mc ms free) := va_backW (hh := hh) (bytes := bytes) (maxL := maxL) (ret := ret) hM hp.1 hrc hrs hfr hlo hws hcw (fun a' U hW => word_at hW (Or.inl (by first | rfl | simp [Cond.onTables, Cond.keeps, Cond.steady])) hini)
  obtain ⟨hx, hb, hml, ho, -⟩ := S
  intro T hT X
  obtain ⟨v, vm₁, ⟨U', l2, c2, s2⟩, hW₁, X', ⟨g', mk, t, L, e1, e2, hq, h1, hL, h2, h3⟩, st⟩ := vx_callSW X hx (hh := hh) (bytes := bytes) (maxL := maxL) (ret := ret) ho hl hstt hini hcode hy hK hg (hsize.trans hml.symm) (argsL := As) (rest := rest) (fun sig h => hn.trans (hlen sig h)) hstack hW (by rw [hb]; exact hdg)
    (fun vm₁ hW₁ => ⟨hf.1, hf.2, hp.2 (T.setVm vm₁) hT hW₁⟩)
  dsimp only [Pt.U, Pt.locs, Pt.cells, Pt.slots] at X' e1 e2 h1 h2 h3 st
  subst h1; subst h2; subst h3
  exact ⟨v, (T.setVm vm₁).calling g' mk As.toArray, t, U', L, hT, X', hL, e1, e2, hq, st⟩
/-- not caught here, past rows that name other classes: it goes on to the caller -/
theorem vx_outP {p : Program} {l : Launch} {e : Env} {R : Room} {s : State} {m : MethodId} {args : Array Value} {below : List Frame} {meth : Method} {c : Code} {H : Heap} {locs : List Loc} {cells slots : Nat} {free : Addr → Prop} {ls : Array Slot} {rest : List Value} {Qc : Array Value → State → Outcome → State → Prop} {XC : String → State → State → Prop}
    {pc : Nat} {own E : String} {ce : Cell} {q : Addr} {mc ms : Nat} (hown : s.vm.findClass own = some m.cls) (hlocks : meth.locks = false)
    (hpass : ∀ z ∈ c.exceptionTable.toList, covers z pc = false ∨ (z.catchType ≠ 0 ∧ ∃ nm : String, (Cond.classLink own z.catchType nm).before args s = true ∧ va_Nc E nm s)) (hcell : H[q]? = some ce) (hv : ce.vm = .none) (hcl : s.vm.findClass E = some ce.cls)
    (hx : ∀ t : State, t.heap = H → s.vm.Alike t.vm → XC E s t) (hf : ∀ z ∈ locs, free z.base) (hc : cells ≤ mc) (hs : slots ≤ ms) :
    vx_W p l e R s m args below meth c H locs cells slots (vx_MQ below Qc XC args s mc ms free) (F0 m pc ls rest) q := by
  intro T hT X
  have hpl : e.platform.magicAccessors = ({} : Platform).magicAccessors := by rw [X.admits.platform]
  obtain ⟨vm', hW', X', st⟩ := X.outThrough hlocks q (g := F0 m pc ls rest) rfl rfl rfl (cell := ce) (by rw [hT]; exact hcell) (by rw [hv]; rfl)
    (by obtain ⟨k9, h9, -⟩ := Vm.findClass_spec hcl; exact ⟨k9, h9⟩) (fun z hz => by
      rcases hpass z hz with h | ⟨hz0, nm, hl1, hn1⟩
      · exact Or.inl h
      · obtain ⟨c6, hc6, hcl6⟩ := Cond.classLink_spec hown hl1 e.platform hpl
        obtain ⟨a8, b8, h1, h2, h3⟩ := hn1
        cases Option.some.inj (h1.symm.trans hcl)
        cases Option.some.inj (h2.symm.trans hc6)
        exact Or.inr ⟨hz0, _, hcl6, h3⟩)
  obtain ⟨g₀, hfr⟩ := X'.frames_eq
  have hcell9 : ((T.setVm vm').setFrames (.throwing q :: below)).heap[q]? = some ce := by
    show T.heap[q]? = some ce
    rw [hT]; exact hcell
  have hend : Ended ((T.setVm vm').setFrames (.throwing q :: below)) below (.threw q) := State.frames_setFrames _ (State.cur_lt_of_frames hfr)
  refine ⟨(T.setVm vm').setFrames (.throwing q :: below), ?_, .threw q, X'.here.running, hend, Or.inr ⟨q, rfl, E, ce, locs, hx _ hT (X'.ends _).1.alike, hcell9, hv, hcl, (X'.ends _).1, (X'.ends _).2.mono hc hs, hf⟩⟩
  rw [X.pushThrowing_eq]
  exact st
/-- a thing of a world lies in the heap -/
theorem vx_lt {D : va_G} {cl : List vw_C} {ws : va_W} {H1 : Heap} (h : va_P D cl ws H1) {k : Nat} {q : Nat × va_E} (hk : ws[k]? = some q) : q.1 < H1.size := (h k q hk).lt
end VXS
/-! ===== END ===== -/
/-! ===== BEGIN methods with a table of their own: called by a name, returning or throwing ===== -/
section VXH
/-! vx_backW, vx_callVX, vx_callSX, vx_callVW, vx_runVW, vx_runVX, vx_runSX, vx_ofWH follow the same proofs as their sisters above (Free/Laws.lean, Shelf42/LK1.lean); vx_outP calls Shelf42/NT130.lean (outThrough). -/
section
variable {l : Launch} {R : Room} {p : Program} {e : Env} {below : List Frame} {s : State} {sargs : Array Value} {y : MethodName} {len W9 : Nat}
theorem vx_backW {ws : List Cond} {rm : Room} {Pc : Array Value → State → Prop} {Qc : Array Value → State → Outcome → State → Prop} {XC : String → State → State → Prop} {mc ms : Nat} {free : Addr → Prop} {bytes : ByteArray} {maxL : Nat} {ret : Option FieldType} {hh : List (Nat × Nat × Nat × Nat)}
    (hM : vx_Met l y ws rm Pc Qc XC mc ms free) (hblind : FrameBlind Pc) (hrc : rm.cells = mc) (hrs : rm.slots = ms)
    (hframes : rm.frames + 1 ≤ R.frames) (hlocals : W9 + (maxL + 11) + rm.locals ≤ R.locals)
    (hws : ∀ w ∈ ws, ∀ a' U, s.WarmedH U.vm → w.before a' U = true) (hcode : Cond.codeWith y bytes maxL ret hh ∈ ws) (hinit : ∀ a' U, s.WarmedH U.vm → (Cond.initialized y.cls).before a' U = true) :
    vx_Back l R p e below s sargs y len W9 (PreOf R mc ms Pc) (PostOf Qc mc ms free) (vx_Post XC mc ms free) := by
  intro m meth c A g ig mk a X hg hsize hdg hW hn hp
  have h1 : (headSpec ws rm).pre.before a A.U = true := atoms_intro fun w hw => hws w hw _ _ X.warmed
  have h2 : (Cond.codeWith y bytes maxL ret hh).before a A.U = true := hws _ hcode _ _ X.warmed
  have h3 : (Cond.initialized y.cls).before a A.U = true := hinit _ _ X.warmed
  have h4 : A.cells + (headSpec ws rm).room.cells ≤ R.cells := by rw [show (headSpec ws rm).room.cells = mc from hrc]; exact hp.1
  have h5 : A.slots + (headSpec ws rm).room.slots ≤ R.slots := by rw [show (headSpec ws rm).room.slots = ms from hrs]; exact hp.2.1
  have hPc : Pc a (A.U.calling g mk a) := hblind _ _ _ _ hp.2.2
  obtain ⟨U, Ls, c0, s0⟩ := A
  dsimp only [Pt.U, Pt.locs, Pt.cells, Pt.slots] at h1 h2 h3 h4 h5 X hn hPc ⊢
  obtain ⟨m9, methY, cY, hn9, hmY, hcY, -, hlY, -⟩ := Cond.codeWith_spec h2
  cases Option.some.inj (hn9.symm.trans hn)
  obtain ⟨kY, hkY, -⟩ := className_of_methodNamed hn
  have hinitY : kY.init = .initialized := Cond.initialized_spec (findClass_of_methodNamed hn) hkY h3
  have h : At U g.method c below := by rw [hg]; exact X.here
  have hlocals9 : W9 + (maxL + 11) + (headSpec ws rm).room.locals ≤ R.locals := hlocals
  have happ : (headSpec ws rm).appliesLoose y e.platform (U.calling g mk a) = true :=
    Spec.appliesLoose_calling (g := g) h hdg hn hkY hinitY
      (X.room_calling (g := g) (R' := (headSpec ws rm).room) hsize hmY hcY hframes (by rw [hlY]; omega) h4 h5) h1
  obtain ⟨mid, hmid⟩ := h.above
  have hfr : (U.setTop g).frames = (.java g :: mid) ++ below := by rw [State.frames_setTop' g h.top, hmid]; rfl
  obtain ⟨o, s₂, hsteps, -, hend, hq⟩ := Steps.callFree hM p X.admits X.cas X.clock (acts := []) hfr happ hPc trivial
  have hq' : vx_Q Qc XC mc ms free a (U.calling g mk a) o s₂ := hq
  rw [State.frames_setTop' g h.top] at hend
  obtain ⟨g₀, hg0⟩ := Option.isSome_iff_exists.mp h.top
  obtain ⟨r, hr⟩ := State.topJava?_eq_some.mp hg0
  have hr' : (({ U with heap := s₂.heap, slotsUsed := s₂.slotsUsed } : State).setVm s₂.vm).frames = .java g₀ :: r := hr
  rcases hq' with ⟨hqc, L, hfe, hL⟩ | ⟨q, rfl, E, ce, L, hx, hce, hcv, hcl, hW₂, hsm, hL⟩
  · obtain ⟨⟨v, rfl⟩, hW₂, e2, q2, q3, q4, q5, q6⟩ := id hfe
    have e3 : s₂ = ({ (U.calling g mk a).setFrames s₂.frames with heap := s₂.heap, slotsUsed := s₂.slotsUsed } : State).setVm s₂.vm := by
      have : s₂ = ({ s₂ with vm := (U.calling g mk a).vm } : State).setVm s₂.vm := rfl
      rw [e2] at this
      exact this
    obtain ⟨c₂, i₂, len₂, hc₂, hd₂, hf₂⟩ := hend
    have hW' : U.WarmedH s₂.vm := hW₂
    have hcc : c₂ = c := by
      have h1 : s₂.code? g.method = U.code? g.method := by
        rw [State.code?_eq, State.code?_eq, hW'.alike.method?]
      exact Option.some.inj (hc₂.symm.trans (h1.trans h.code))
    subst hcc
    have hlen : len₂ = len := by rw [hdg] at hd₂; cases hd₂; rfl
    subst hlen
    have hs₂ : s₂ = (({ U with heap := s₂.heap, slotsUsed := s₂.slotsUsed } : State).setVm s₂.vm).setTop { g with pc := g.pc + len₂, stack := v.toList ++ g.stack } := by
      refine e3.trans ?_
      rw [hf₂, State.calling_eq h.top, State.setFrames_setFrames, State.setTop_of_frames _ hr', hr]
      rfl
    have hsame : U.sameButNew ({ U with heap := s₂.heap, slotsUsed := s₂.slotsUsed } : State) L mc ms := by
      refine ⟨?_, q2, q3, q4, q5, q6⟩
      obtain ⟨t, ht, -⟩ := State.frames_cons hr
      show ({ U with heap := s₂.heap, slotsUsed := s₂.slotsUsed } : State) = { U.setFrames U.frames with heap := s₂.heap, slotsUsed := s₂.slotsUsed }
      rw [State.setFrames_self ht]
    subst hg
    refine Or.inl ⟨v, ⟨(({ U with heap := s₂.heap, slotsUsed := s₂.slotsUsed } : State).setVm s₂.vm), Ls ++ L, c0 + mc, s0 + ms⟩,
      ⟨X.admits, X.cas, X.clock, X.frames, X.room, X.hears, X.method, X.code, (X.here.setHeapUsed s₂.heap s₂.slotsUsed).setVm hW'.alike, X.tail, State.WarmedH.trans X.warmed hW', X.limits, X.bytes, X.same.trans (hsame.setVm s.vm)⟩,
      ⟨g, mk, s₂, L, rfl, rfl, hqc, rfl, hL, rfl, rfl⟩, ?_⟩
    show Steps p.tables e below _ ((({ U with heap := s₂.heap, slotsUsed := s₂.slotsUsed } : State).setVm s₂.vm).setTop { g with pc := g.pc + len₂, stack := v.toList ++ g.stack })
    rw [← hs₂]
    exact hsteps
  · obtain ⟨e2, q2, q3, q4, q5, q6⟩ := id hsm
    have e3 : s₂ = ({ (U.calling g mk a).setFrames s₂.frames with heap := s₂.heap, slotsUsed := s₂.slotsUsed } : State).setVm s₂.vm := by
      have : s₂ = ({ s₂ with vm := (U.calling g mk a).vm } : State).setVm s₂.vm := rfl
      rw [e2] at this
      exact this
    have hf₂ : s₂.frames = .throwing q :: .java g :: U.frames.tail := hend
    have hW' : U.WarmedH s₂.vm := hW₂
    have hs₂ : s₂ = ((({ U with heap := s₂.heap, slotsUsed := s₂.slotsUsed } : State).setVm s₂.vm).setTop g).pushFrame (.throwing q) := by
      refine e3.trans ?_
      rw [hf₂, State.calling_eq h.top, State.setFrames_setFrames, State.pushFrame, State.frames_setTop _ hr', State.setTop_of_frames _ hr', State.setFrames_setFrames, hr]
      rfl
    have hsame : U.sameButNew ({ U with heap := s₂.heap, slotsUsed := s₂.slotsUsed } : State) L mc ms := by
      refine ⟨?_, q2, q3, q4, q5, q6⟩
      obtain ⟨t, ht, -⟩ := State.frames_cons hr
      show ({ U with heap := s₂.heap, slotsUsed := s₂.slotsUsed } : State) = { U.setFrames U.frames with heap := s₂.heap, slotsUsed := s₂.slotsUsed }
      rw [State.setFrames_self ht]
    subst hg
    refine Or.inr ⟨q, ⟨(({ U with heap := s₂.heap, slotsUsed := s₂.slotsUsed } : State).setVm s₂.vm), Ls ++ L, c0 + mc, s0 + ms⟩,
      ⟨X.admits, X.cas, X.clock, X.frames, X.room, X.hears, X.method, X.code, (X.here.setHeapUsed s₂.heap s₂.slotsUsed).setVm hW'.alike, X.tail, State.WarmedH.trans X.warmed hW', X.limits, X.bytes, X.same.trans (hsame.setVm s.vm)⟩,
      ⟨g, mk, s₂, L, E, ce, rfl, rfl, hx, hce, hcv, hcl, rfl, hL, rfl, rfl⟩, ?_⟩
    show Steps p.tables e below _ (((({ U with heap := s₂.heap, slotsUsed := s₂.slotsUsed } : State).setVm s₂.vm).setTop g).pushFrame (.throwing q))
    rw [← hs₂]
    exact hsteps
end
variable {p : Program} {l : Launch} {e : Env} {R : Room} {s : State} {m : MethodId} {args : Array Value} {below : List Frame} {meth : Method} {c : Code} {T : State} {H : Heap} {locs : List Loc} {cells slots : Nat}
theorem vx_callVX (X : Stand p l e R s m args below meth c T locs cells slots) (hexec : p.tables.exec = Jvm.exec) {own C : String} {index : Nat} {y : MethodName} {bytes : ByteArray} {maxL : Nat} {ret : Option FieldType} {hh : List (Nat × Nat × Nat × Nat)}
    (hown : s.vm.findClass own = some m.cls) (hlink : (Cond.methodLink own index y).before args s = true) (hinst : (Cond.instanceMethod y).before args s = true) (hsel : (Cond.selects C y y).before args s = true)
    (hcode : (Cond.codeWith y bytes maxL ret hh).before args s = true) (hy : y.cls ≠ "java/lang/invoke/MethodHandle" ∧ y.cls ≠ "java/lang/invoke/VarHandle")
    {W9 : Nat} {Pre : Pt → Array Value → Prop} {Post : Pt → Array Value → Option Value → Pt → Prop} {PostX : Pt → Array Value → Addr → Pt → Prop} (hK : vx_Back l R p e below s args y 3 W9 Pre Post PostX)
    {b : Addr} {cellB : Cell} (hcell : T.heap[b]? = some cellB) (hobj : cellB.vm.isStatics = false) (hcls : s.vm.findClass C = some cellB.cls)
    {g : JFrame} (hg : g.method = m) (hsize : g.locals.size = c.maxLocals) {argsL rest : List Value} (hlen : ∀ sig, parseMethodDescriptor y.desc = some sig → argsL.length = sig.parameters.length)
    (hstack : g.stack = argsL.reverse ++ .ref b :: rest) (hW : 2 * g.monitorRoom + (rest.map fun v => v.category).sum ≤ W9) (hdg : decode c.code g.pc = .ok (.invokevirtual index, 3))
    (hpre : ∀ vm₁, s.WarmedH vm₁ → Pre ⟨T.setVm vm₁, locs, cells, slots⟩ (Value.ref b :: argsL).toArray) :
    (∃ (v : Option Value) (vm₁ : Vm) (B : Pt), s.WarmedH vm₁ ∧ Stand p l e R s m args below meth c B.U B.locs B.cells B.slots ∧ Post ⟨T.setVm vm₁, locs, cells, slots⟩ (Value.ref b :: argsL).toArray v B ∧
      ∀ target, Steps p.tables e below (B.U.setTop { g with pc := g.pc + 3, stack := v.toList ++ rest }) target → Steps p.tables e below (T.setTop g) target) ∨
    (∃ (q : Addr) (vm₁ : Vm) (B : Pt), s.WarmedH vm₁ ∧ Stand p l e R s m args below meth c B.U B.locs B.cells B.slots ∧ PostX ⟨T.setVm vm₁, locs, cells, slots⟩ (Value.ref b :: argsL).toArray q B ∧
      Steps p.tables e below (T.setTop g) ((B.U.setTop { g with stack := rest }).pushFrame (.throwing q))) := by
  obtain ⟨mk, methM, hnamed, hmethM, hstM, habM⟩ := Cond.instanceMethod_spec hinst
  obtain ⟨m8, methM', cM, hn8, hmethM', -, -, -, -, -, -, hsigM⟩ := Cond.codeWith_spec hcode
  cases Option.some.inj (hn8.symm.trans hnamed)
  cases hmethM.symm.trans hmethM'
  obtain ⟨c2, r2, m2, q1, q2, q3, q4, kP, hkP, hkPi⟩ := Cond.selects_spec hsel
  cases hcls.symm.trans q1
  cases (State.methodFound?_of_named hnamed hy).symm.trans q2
  cases hnamed.symm.trans q3
  have hselP : selectMethod e.platform s.vm cellB.cls mk = .method mk := by rw [Launch.admits_selectMethod X.admits]; exact q4
  obtain ⟨vm₁, X₁, hstep₁⟩ := X.invokevirtual hexec hown hlink hnamed hmethM hstM hkP hkPi hy (a := b) (cell := cellB) hcell
    (fun z h => by rw [h] at hobj; cases hobj) hselP hmethM habM hkP hkPi (g := g) hg (argsL := argsL) (rest := rest) (hlen _ hsigM) hstack hdg
  rcases hK m meth c ⟨T.setVm vm₁, locs, cells, slots⟩ { g with stack := rest } (.invokevirtual index) mk (Value.ref b :: argsL).toArray X₁ hg hsize hdg hW (X₁.named hnamed) (hpre vm₁ X₁.warmed) with ⟨v, B, X', hpost, hsteps⟩ | ⟨q, B, X', hpost, hsteps⟩
  · exact Or.inl ⟨v, vm₁, B, X₁.warmed, X', hpost, fun target h => hstep₁ _ fun acts => by rw [doInvoke_state]; exact hsteps.trans h⟩
  · exact Or.inr ⟨q, vm₁, B, X₁.warmed, X', hpost, hstep₁ _ fun acts => by rw [doInvoke_state]; exact hsteps⟩
theorem vx_callSX (X : Stand p l e R s m args below meth c T locs cells slots) (hexec : p.tables.exec = Jvm.exec) {own : String} {index : Nat} {y : MethodName} {bytes : ByteArray} {maxL : Nat} {ret : Option FieldType} {hh : List (Nat × Nat × Nat × Nat)}
    (hown : s.vm.findClass own = some m.cls) (hlink : (Cond.methodLink own index y).before args s = true) (hstat : (Cond.static y).before args s = true) (hinit : (Cond.initialized y.cls).before args s = true)
    (hcode : (Cond.codeWith y bytes maxL ret hh).before args s = true) (hy : y.cls ≠ "java/lang/invoke/MethodHandle" ∧ y.cls ≠ "java/lang/invoke/VarHandle")
    {W9 : Nat} {Pre : Pt → Array Value → Prop} {Post : Pt → Array Value → Option Value → Pt → Prop} {PostX : Pt → Array Value → Addr → Pt → Prop} (hK : vx_Back l R p e below s args y 3 W9 Pre Post PostX)
    {g : JFrame} (hg : g.method = m) (hsize : g.locals.size = c.maxLocals) {argsL rest : List Value} (hlen : ∀ sig, parseMethodDescriptor y.desc = some sig → argsL.length = sig.parameters.length)
    (hstack : g.stack = argsL.reverse ++ rest) (hW : 2 * g.monitorRoom + (rest.map fun v => v.category).sum ≤ W9) (hdg : decode c.code g.pc = .ok (.invokestatic index, 3))
    (hpre : ∀ vm₁, s.WarmedH vm₁ → Pre ⟨T.setVm vm₁, locs, cells, slots⟩ argsL.toArray) :
    (∃ (v : Option Value) (vm₁ : Vm) (B : Pt), s.WarmedH vm₁ ∧ Stand p l e R s m args below meth c B.U B.locs B.cells B.slots ∧ Post ⟨T.setVm vm₁, locs, cells, slots⟩ argsL.toArray v B ∧
      ∀ target, Steps p.tables e below (B.U.setTop { g with pc := g.pc + 3, stack := v.toList ++ rest }) target → Steps p.tables e below (T.setTop g) target) ∨
    (∃ (q : Addr) (vm₁ : Vm) (B : Pt), s.WarmedH vm₁ ∧ Stand p l e R s m args below meth c B.U B.locs B.cells B.slots ∧ PostX ⟨T.setVm vm₁, locs, cells, slots⟩ argsL.toArray q B ∧
      Steps p.tables e below (T.setTop g) ((B.U.setTop { g with stack := rest }).pushFrame (.throwing q))) := by
  obtain ⟨mk, methM, cM, hnamed, hmethM, -, -, -, -, -, -, hsigM⟩ := Cond.codeWith_spec hcode
  have hstatic : methM.isStatic = true := Cond.static_spec hnamed hmethM hstat
  obtain ⟨kP, hkP, -⟩ := className_of_methodNamed hnamed
  have hinitP : kP.init = .initialized := Cond.initialized_spec (findClass_of_methodNamed hnamed) hkP hinit
  obtain ⟨vm₁, X₁, hstep₁⟩ := X.invokestatic hexec hown hlink hnamed hmethM hstatic hkP hinitP hy (g := g) hg (argsL := argsL) (rest := rest) (hlen _ hsigM) hstack hdg
  rcases hK m meth c ⟨T.setVm vm₁, locs, cells, slots⟩ { g with stack := rest } (.invokestatic index) mk argsL.toArray X₁ hg hsize hdg hW (X₁.named hnamed) (hpre vm₁ X₁.warmed) with ⟨v, B, X', hpost, hsteps⟩ | ⟨q, B, X', hpost, hsteps⟩
  · exact Or.inl ⟨v, vm₁, B, X₁.warmed, X', hpost, fun target h => hstep₁ _ fun acts => by rw [doInvoke_state]; exact hsteps.trans h⟩
  · exact Or.inr ⟨q, vm₁, B, X₁.warmed, X', hpost, hstep₁ _ fun acts => by rw [doInvoke_state]; exact hsteps⟩
theorem vx_callVW (X : Stand p l e R s m args below meth c T locs cells slots) (hexec : p.tables.exec = Jvm.exec) {own C : String} {index : Nat} {y : MethodName} {bytes : ByteArray} {maxL : Nat} {ret : Option FieldType} {hh : List (Nat × Nat × Nat × Nat)}
    (hown : s.vm.findClass own = some m.cls) (hlink : (Cond.methodLink own index y).before args s = true) (hinst : (Cond.instanceMethod y).before args s = true) (hsel : (Cond.selects C y y).before args s = true)
    (hcode : (Cond.codeWith y bytes maxL ret hh).before args s = true) (hy : y.cls ≠ "java/lang/invoke/MethodHandle" ∧ y.cls ≠ "java/lang/invoke/VarHandle")
    {W9 : Nat} {Pre : Pt → Array Value → Prop} {Post : Pt → Array Value → Option Value → Pt → Prop} (hK : Back l R p e below s args y 3 W9 Pre Post)
    {b : Addr} {cellB : Cell} (hcell : T.heap[b]? = some cellB) (hobj : cellB.vm.isStatics = false) (hcls : s.vm.findClass C = some cellB.cls)
    {g : JFrame} (hg : g.method = m) (hsize : g.locals.size = c.maxLocals) {argsL rest : List Value} (hlen : ∀ sig, parseMethodDescriptor y.desc = some sig → argsL.length = sig.parameters.length)
    (hstack : g.stack = argsL.reverse ++ .ref b :: rest) (hW : 2 * g.monitorRoom + (rest.map fun v => v.category).sum ≤ W9) (hdg : decode c.code g.pc = .ok (.invokevirtual index, 3))
    (hpre : ∀ vm₁, s.WarmedH vm₁ → Pre ⟨T.setVm vm₁, locs, cells, slots⟩ (Value.ref b :: argsL).toArray) :
    ∃ (v : Option Value) (vm₁ : Vm) (B : Pt), s.WarmedH vm₁ ∧ Stand p l e R s m args below meth c B.U B.locs B.cells B.slots ∧ Post ⟨T.setVm vm₁, locs, cells, slots⟩ (Value.ref b :: argsL).toArray v B ∧
      ∀ target, Steps p.tables e below (B.U.setTop { g with pc := g.pc + 3, stack := v.toList ++ rest }) target → Steps p.tables e below (T.setTop g) target := by
  obtain ⟨mk, methM, hnamed, hmethM, hstM, habM⟩ := Cond.instanceMethod_spec hinst
  obtain ⟨m8, methM', cM, hn8, hmethM', -, -, -, -, -, -, hsigM⟩ := Cond.codeWith_spec hcode
  cases Option.some.inj (hn8.symm.trans hnamed)
  cases hmethM.symm.trans hmethM'
  obtain ⟨c2, r2, m2, q1, q2, q3, q4, kP, hkP, hkPi⟩ := Cond.selects_spec hsel
  cases hcls.symm.trans q1
  cases (State.methodFound?_of_named hnamed hy).symm.trans q2
  cases hnamed.symm.trans q3
  have hselP : selectMethod e.platform s.vm cellB.cls mk = .method mk := by rw [Launch.admits_selectMethod X.admits]; exact q4
  obtain ⟨vm₁, X₁, hstep₁⟩ := X.invokevirtual hexec hown hlink hnamed hmethM hstM hkP hkPi hy (a := b) (cell := cellB) hcell
    (fun z h => by rw [h] at hobj; cases hobj) hselP hmethM habM hkP hkPi (g := g) hg (argsL := argsL) (rest := rest) (hlen _ hsigM) hstack hdg
  obtain ⟨v, B, X', hpost, hsteps⟩ := hK m meth c ⟨T.setVm vm₁, locs, cells, slots⟩ { g with stack := rest } (.invokevirtual index) mk (Value.ref b :: argsL).toArray X₁ hg hsize hdg hW (X₁.named hnamed) (hpre vm₁ X₁.warmed)
  exact ⟨v, vm₁, B, X₁.warmed, X', hpost, fun target h => hstep₁ _ fun acts => by rw [doInvoke_state]; exact hsteps.trans h⟩
abbrev vx_CVW (R : Room) (s : State) (args : Array Value) (own C : String) (index : Nat) (y : MethodName) (bytes : ByteArray) (maxL : Nat) (ret : Option FieldType) (hh : List (Nat × Nat × Nat × Nat)) (ws : List Cond) (rm : Room) (mc ms n : Nat) : Prop :=
  (rm.cells = mc ∧ rm.slots = ms ∧ rm.frames + 1 ≤ R.frames ∧ 8 + (maxL + 11) + rm.locals ≤ R.locals ∧ (∀ w ∈ ws, ∀ (a' : Array Value) (U : State), s.WarmedH U.vm → w.before a' U = true) ∧ Cond.codeWith y bytes maxL ret hh ∈ ws) ∧
  (Cond.codeWith y bytes maxL ret hh).before args s = true ∧ (Cond.initialized y.cls).before args s = true ∧ (y.cls ≠ "java/lang/invoke/MethodHandle" ∧ y.cls ≠ "java/lang/invoke/VarHandle") ∧
  (∀ sig, parseMethodDescriptor y.desc = some sig → n = sig.parameters.length) ∧ (Cond.methodLink own index y).before args s = true ∧ (Cond.instanceMethod y).before args s = true ∧ (Cond.selects C y y).before args s = true
theorem vx_cwVW {own C : String} {index maxL mc ms : Nat} {y : MethodName} {bytes : ByteArray} {ret : Option FieldType} {hh : List (Nat × Nat × Nat × Nat)} {Ts ws ws' : List Cond} {rm : Room} (n : Nat) (ht : ∀ w ∈ Ts, w.before args s = true) (hT : GoodIn Ts (wsV own index C y ws)) (hw : ws = Cond.codeWith y bytes maxL ret hh :: ws') (hrc : rm.cells = mc) (hrs : rm.slots = ms)
    (hd : y.cls = C ∧ y.cls ≠ "java/lang/invoke/MethodHandle" ∧ y.cls ≠ "java/lang/invoke/VarHandle" ∧ (parseMethodDescriptor y.desc).map (fun d => d.parameters.length) = some n) (hR : rm.frames + 1 ≤ R.frames ∧ 8 + (maxL + 11) + rm.locals ≤ R.locals) :
    vx_CVW R s args own C index y bytes maxL ret hh ws rm mc ms n := by
  obtain ⟨hC, hd⟩ := hd
  subst hC
  have ok : ∀ w ∈ wsV own index y.cls y ws, w.before args s = true := fun w h => ht w (hT w h).1
  have hG : GoodIn Ts ws := fun w h => hT w (by unfold wsV; exact List.mem_append_right _ h)
  have hc : Cond.codeWith y bytes maxL ret hh ∈ ws := by rw [hw]; exact List.mem_cons_self
  refine ⟨⟨hrc, hrs, hR.1, hR.2, pay_in ht hG, hc⟩, ht _ (hG _ hc).1, ok _ (by simp [wsV]), ⟨hd.1, hd.2.1⟩, fun sig h => ?_, ok _ (by simp [wsV]), ok _ (by simp [wsV]), ok _ (by simp [wsV])⟩
  have h2 := hd.2.2
  rw [h] at h2
  exact (Option.some.inj h2).symm
theorem vx_runVW {y : MethodName} {bytes cc : ByteArray} {maxL nL mc ms n index : Nat} {ret : Option FieldType} {hh : List (Nat × Nat × Nat × Nat)} {ws : List Cond} {rm : Room} {Pc : Array Value → State → Prop} {Qc : Array Value → State → Outcome → State → Prop} {free : Addr → Prop} {Ts : List Cond} {own C : String} {b : Addr} {As rest : List Value} {g : JFrame}
    (S : CallFix p m c cc nL s args Ts own) (hM : Met l y ws rm Pc Qc mc ms free) (cw : vx_CVW R s args own C index y bytes maxL ret hh ws rm mc ms n) (hp : PreV s H C b Pc As)
    (hg : g.method = m) (hn : As.length = n) (hsize : g.locals.size = nL) (hstack : g.stack = As.reverse ++ .ref b :: rest) (hW : 2 * g.monitorRoom + (rest.map fun v => v.category).sum ≤ 8) (hdg : decode cc g.pc = .ok (.invokevirtual index, 3)) (hf : cells + mc ≤ R.cells ∧ slots + ms ≤ R.slots) :
    va_Run p l e R s m args below meth c H locs cells slots mc ms g rest (Qc (Value.ref b :: As).toArray) free := by
  obtain ⟨⟨hrc, hrs, hfr, hlo, hws, hcw⟩, hcode, hini, hy, hlen, hl, hin, hse⟩ := cw
  have hK : Back l R p e below s args y 3 8 (PreOf R mc ms Pc) (PostOf Qc mc ms free) := va_backW (hh := hh) (bytes := bytes) (maxL := maxL) (ret := ret) hM hp.1 hrc hrs hfr hlo hws hcw (fun a' U hW => word_at hW (Or.inl (by first | rfl | simp [Cond.onTables, Cond.keeps, Cond.steady])) hini)
  obtain ⟨hx, hb, hml, ho, -⟩ := S
  obtain ⟨-, ⟨cellB, hcB, hoB, hclB⟩, hPc⟩ := hp
  intro T hT X
  obtain ⟨v, vm₁, ⟨U', l2, c2, s2⟩, hW₁, X', ⟨g', mk, t, L, e1, e2, hq, h1, hL, h2, h3⟩, st⟩ := vx_callVW X hx (C := C) (hh := hh) (bytes := bytes) (maxL := maxL) (ret := ret) ho hl hin hse hcode hy hK (by rw [hT]; exact hcB) hoB hclB hg (hsize.trans hml.symm) (argsL := As) (rest := rest) (fun sig h => hn.trans (hlen sig h)) hstack hW (by rw [hb]; exact hdg)
    (fun vm₁ hW₁ => ⟨hf.1, hf.2, hPc (T.setVm vm₁) hT hW₁⟩)
  dsimp only [Pt.U, Pt.locs, Pt.cells, Pt.slots] at X' e1 e2 h1 h2 h3 st
  subst h1; subst h2; subst h3
  exact ⟨v, (T.setVm vm₁).calling g' mk (Value.ref b :: As).toArray, t, U', L, hT, X', hL, e1, e2, hq, st⟩
section
variable {y : MethodName} {bytes cc : ByteArray} {maxL nL mc ms n index : Nat} {ret : Option FieldType} {ws : List Cond} {rm : Room} {Pc : Array Value → State → Prop} {Qc : Array Value → State → Outcome → State → Prop} {XC : String → State → State → Prop} {free : Addr → Prop} {Ts : List Cond} {own C : String} {b : Addr} {As rest : List Value} {g : JFrame}
theorem vx_runVX {hh : List (Nat × Nat × Nat × Nat)} (S : CallFix p m c cc nL s args Ts own) (hM : vx_Met l y ws rm Pc Qc XC mc ms free) (cw : vx_CVW R s args own C index y bytes maxL ret hh ws rm mc ms n) (hp : PreV s H C b Pc As)
    (hg : g.method = m) (hn : As.length = n) (hsize : g.locals.size = nL) (hstack : g.stack = As.reverse ++ .ref b :: rest) (hW : 2 * g.monitorRoom + (rest.map fun v => v.category).sum ≤ 8) (hdg : decode cc g.pc = .ok (.invokevirtual index, 3)) (hf : cells + mc ≤ R.cells ∧ slots + ms ≤ R.slots) :
    vx_Run p l e R s m args below meth c H locs cells slots mc ms g rest (Qc (Value.ref b :: As).toArray) XC free := by
  obtain ⟨⟨hrc, hrs, hfr, hlo, hws, hcw⟩, hcode, hini, hy, hlen, hl, hin, hse⟩ := cw
  have hK : vx_Back l R p e below s args y 3 8 (PreOf R mc ms Pc) (PostOf Qc mc ms free) (vx_Post XC mc ms free) := vx_backW (hh := hh) (bytes := bytes) (maxL := maxL) (ret := ret) hM hp.1 hrc hrs hfr hlo hws hcw (fun a' U hW => word_at hW (Or.inl (by first | rfl | simp [Cond.onTables, Cond.keeps, Cond.steady])) hini)
  obtain ⟨hx, hb, hml, ho, -⟩ := S
  obtain ⟨-, ⟨cellB, hcB, hoB, hclB⟩, hPc⟩ := hp
  intro T hT X
  rcases vx_callVX X hx (C := C) (hh := hh) (bytes := bytes) (maxL := maxL) (ret := ret) ho hl hin hse hcode hy hK (by rw [hT]; exact hcB) hoB hclB hg (hsize.trans hml.symm) (argsL := As) (rest := rest) (fun sig h => hn.trans (hlen sig h)) hstack hW (by rw [hb]; exact hdg)
    (fun vm₁ hW₁ => ⟨hf.1, hf.2, hPc (T.setVm vm₁) hT hW₁⟩) with ⟨v, vm₁, ⟨U', l2, c2, s2⟩, hW₁, X', ⟨g', mk, t, L, e1, e2, hq, h1, hL, h2, h3⟩, st⟩ | ⟨q, vm₁, ⟨U', l2, c2, s2⟩, hW₁, X', ⟨g', mk, t, L, E, ce, e1, e2, hq, hce, hcv, hcl, h1, hL, h2, h3⟩, st⟩
  · dsimp only [Pt.U, Pt.locs, Pt.cells, Pt.slots] at X' e1 e2 h1 h2 h3 st
    subst h1; subst h2; subst h3
    exact Or.inl ⟨v, (T.setVm vm₁).calling g' mk (Value.ref b :: As).toArray, t, U', L, hT, X', hL, e1, e2, hq, st⟩
  · dsimp only [Pt.U, Pt.locs, Pt.cells, Pt.slots] at X' e1 e2 h1 h2 h3 st hcl
    subst h1; subst h2; subst h3
    exact Or.inr ⟨q, (T.setVm vm₁).calling g' mk (Value.ref b :: As).toArray, t, U', L, E, ce, hT, X', hL, e1, e2, hq, hce, hcv, vx_cls hW₁ hcl, st⟩
theorem vx_runSX {hh : List (Nat × Nat × Nat × Nat)} (S : CallFix p m c cc nL s args Ts own) (hM : vx_Met l y ws rm Pc Qc XC mc ms free) (cw : vx_CSW R s args own index y bytes maxL ret hh ws rm mc ms n) (hp : PreS s H Pc As)
    (hg : g.method = m) (hn : As.length = n) (hsize : g.locals.size = nL) (hstack : g.stack = As.reverse ++ rest) (hW : 2 * g.monitorRoom + (rest.map fun v => v.category).sum ≤ 8) (hdg : decode cc g.pc = .ok (.invokestatic index, 3)) (hf : cells + mc ≤ R.cells ∧ slots + ms ≤ R.slots) :
    vx_Run p l e R s m args below meth c H locs cells slots mc ms g rest (Qc As.toArray) XC free := by
  obtain ⟨⟨hrc, hrs, hfr, hlo, hws, hcw⟩, hcode, hini, hy, hlen, hl, hstt⟩ := cw
  have hK : vx_Back l R p e below s args y 3 8 (PreOf R mc ms Pc) (PostOf Qc mc ms free) (vx_Post XC mc ms free) := vx_backW (hh := hh) (bytes := bytes) (maxL := maxL) (ret := ret) hM hp.1 hrc hrs hfr hlo hws hcw (fun a' U hW => word_at hW (Or.inl (by first | rfl | simp [Cond.onTables, Cond.keeps, Cond.steady])) hini)
  obtain ⟨hx, hb, hml, ho, -⟩ := S
  intro T hT X
  rcases vx_callSX X hx (hh := hh) (bytes := bytes) (maxL := maxL) (ret := ret) ho hl hstt hini hcode hy hK hg (hsize.trans hml.symm) (argsL := As) (rest := rest) (fun sig h => hn.trans (hlen sig h)) hstack hW (by rw [hb]; exact hdg)
    (fun vm₁ hW₁ => ⟨hf.1, hf.2, hp.2 (T.setVm vm₁) hT hW₁⟩) with ⟨v, vm₁, ⟨U', l2, c2, s2⟩, hW₁, X', ⟨g', mk, t, L, e1, e2, hq, h1, hL, h2, h3⟩, st⟩ | ⟨q, vm₁, ⟨U', l2, c2, s2⟩, hW₁, X', ⟨g', mk, t, L, E, ce, e1, e2, hq, hce, hcv, hcl, h1, hL, h2, h3⟩, st⟩
  · dsimp only [Pt.U, Pt.locs, Pt.cells, Pt.slots] at X' e1 e2 h1 h2 h3 st
    subst h1; subst h2; subst h3
    exact Or.inl ⟨v, (T.setVm vm₁).calling g' mk As.toArray, t, U', L, hT, X', hL, e1, e2, hq, st⟩
  · dsimp only [Pt.U, Pt.locs, Pt.cells, Pt.slots] at X' e1 e2 h1 h2 h3 st hcl
    subst h1; subst h2; subst h3
    exact Or.inr ⟨q, (T.setVm vm₁).calling g' mk As.toArray, t, U', L, E, ce, hT, X', hL, e1, e2, hq, hce, hcv, vx_cls hW₁ hcl, st⟩
end
end VXH
theorem vx_ofWH {l : Launch} {y : MethodName} {ws ws' : List Cond} {rm : Room} {Pc : Array Value → State → Prop} {Qc : Array Value → State → Outcome → State → Prop} {XC : String → State → State → Prop} {mc ms : Nat} {free : Addr → Prop} {cc : ByteArray} {maxL : Nat} {ret : Option FieldType} {hh : List (Nat × Nat × Nat × Nat)}
    (hy : plainName y.cls = true) (hw : ws = Cond.codeWith y cc maxL ret hh :: ws')
    (body : ∀ p e s m args below meth c s₁, BodyLoose p l y (headSpec ws rm) cc maxL ret e s m args below meth c s₁ → c.maxLocals = maxL → Pc args s →
      W p l e (headSpec ws rm).room s m args below meth c s.heap [] 0 0 (vx_MQ below Qc XC args s mc ms free) (entryFrame m args maxL)) : vx_Met l y ws rm Pc Qc XC mc ms free := by
  refine MetFree.of_bodyS (code := cc) (maxLocals := maxL) (ret := ret) hy ?_ ?_
  · intro args s m h hn
    obtain ⟨m9, meth, c, hn9, h1, h2, h3, h4, -, h5, h6, -⟩ := Cond.codeWith_spec (atoms_spec (ws := ws) h _ (by rw [hw]; exact List.mem_cons_self))
    cases hn.symm.trans hn9
    exact ⟨meth, c, h1, h2, h3, h4, h5, h6⟩
  · intro p e s m args below meth c s₁ B hml hP _
    have hh0 : s₁.heap = s.heap := by rw [B.state]; rfl
    obtain ⟨t, a1, o, b1, b2, b3⟩ := body p e s m args below meth c s₁ B hml hP s₁ hh0 (Stand.of_body B)
    exact ⟨t, o, a1, b1, b2, b3⟩
/-! ===== END ===== -/
end
section
/-! NAMES: classes, methods, the good words of the tables in one list, each word by its place (written by wip/whole/mk_names.py) -/
def R_Cut : String := "CutLengths"
def T_Cut : u_T := fun k => match k with
  | 0 => ("CutLengths", "strand", "LCutLengths$Strand;", true)
  | 1 => ("CutLengths", "lengths", "LCutLengths$WantedLengths;", true)
  | 2 => ("CutLengths", "plan", "LCutLengths$Plan;", true)
  | 3 => ("CutLengths", "slabs", "LCutLengths$Slabs;", true)
  | 4 => ("CutLengths", "millimetres", "I", false)
  | 5 => ("CutLengths", "kilos", "I", false)
  | _ => ("CutLengths", "planIsOld", "Z", false)
def t_Cut : Nat → FieldType := fun k => match k with
  | 0 => .object "CutLengths$Strand"
  | 1 => .object "CutLengths$WantedLengths"
  | 2 => .object "CutLengths$Plan"
  | 3 => .object "CutLengths$Slabs"
  | 4 => .int
  | 5 => .int
  | _ => .boolean
theorem n_Cut : ∀ a, a < 7 → ∀ b, b < 7 → a ≠ b → (T_Cut a).2.1 ≠ (T_Cut b).2.1 := by decide +kernel
theorem t_Cut_ok : ∀ k, k < 7 → parseFieldDescriptor (T_Cut k).2.2.1 = some (t_Cut k) := by decide +kernel
def R_Strand : String := "CutLengths$Strand"
def T_Strand : u_T := fun k => match k with
  | 0 => ("CutLengths$Strand", "end", "I", false)
  | 1 => ("CutLengths$Strand", "torch", "I", false)
  | 2 => ("CutLengths$Strand", "front", "I", false)
  | 3 => ("CutLengths$Strand", "back", "I", false)
  | 4 => ("CutLengths$Strand", "badParts", "I", false)
  | 5 => ("CutLengths$Strand", "bars", "I", false)
  | 6 => ("CutLengths$Strand", "badSteps", "[Z", true)
  | _ => ("CutLengths$Strand", "barredPlaces", "[Z", true)
def t_Strand : Nat → FieldType := fun k => match k with
  | 0 => .int
  | 1 => .int
  | 2 => .int
  | 3 => .int
  | 4 => .int
  | 5 => .int
  | 6 => .array .boolean
  | _ => .array .boolean
theorem n_Strand : ∀ a, a < 8 → ∀ b, b < 8 → a ≠ b → (T_Strand a).2.1 ≠ (T_Strand b).2.1 := by decide +kernel
theorem t_Strand_ok : ∀ k, k < 8 → parseFieldDescriptor (T_Strand k).2.2.1 = some (t_Strand k) := by decide +kernel
def R_Wanted : String := "CutLengths$WantedLengths"
def T_Wanted : u_T := fun k => match k with
  | 0 => ("CutLengths$WantedLengths", "size", "I", false)
  | 1 => ("CutLengths$WantedLengths", "low", "[I", true)
  | _ => ("CutLengths$WantedLengths", "high", "[I", true)
def t_Wanted : Nat → FieldType := fun k => match k with
  | 0 => .int
  | 1 => .array .int
  | _ => .array .int
theorem n_Wanted : ∀ a, a < 3 → ∀ b, b < 3 → a ≠ b → (T_Wanted a).2.1 ≠ (T_Wanted b).2.1 := by decide +kernel
theorem t_Wanted_ok : ∀ k, k < 3 → parseFieldDescriptor (T_Wanted k).2.2.1 = some (t_Wanted k) := by decide +kernel
def R_Plan : String := "CutLengths$Plan"
def T_Plan : u_T := fun k => match k with
  | 0 => ("CutLengths$Plan", "scrapAhead", "[I", true)
  | 1 => ("CutLengths$Plan", "wanted", "[I", true)
  | _ => ("CutLengths$Plan", "steps", "[I", true)
def t_Plan : Nat → FieldType := fun k => match k with
  | 0 => .array .int
  | 1 => .array .int
  | _ => .array .int
theorem n_Plan : ∀ a, a < 3 → ∀ b, b < 3 → a ≠ b → (T_Plan a).2.1 ≠ (T_Plan b).2.1 := by decide +kernel
theorem t_Plan_ok : ∀ k, k < 3 → parseFieldDescriptor (T_Plan k).2.2.1 = some (t_Plan k) := by decide +kernel
def R_Slabs : String := "CutLengths$Slabs"
def T_Slabs : u_T := fun k => match k with
  | 0 => ("CutLengths$Slabs", "size", "I", false)
  | 1 => ("CutLengths$Slabs", "wanted", "[I", true)
  | 2 => ("CutLengths$Slabs", "begin", "[I", true)
  | _ => ("CutLengths$Slabs", "steps", "[I", true)
def t_Slabs : Nat → FieldType := fun k => match k with
  | 0 => .int
  | 1 => .array .int
  | 2 => .array .int
  | _ => .array .int
theorem n_Slabs : ∀ a, a < 4 → ∀ b, b < 4 → a ≠ b → (T_Slabs a).2.1 ≠ (T_Slabs b).2.1 := by decide +kernel
theorem t_Slabs_ok : ∀ k, k < 4 → parseFieldDescriptor (T_Slabs k).2.2.1 = some (t_Slabs k) := by decide +kernel
def R_Model : String := "CutLengthsModel"
def T_Model : u_T := fun k => match k with
  | 0 => ("CutLengthsModel", "thrown", "I", false)
  | 1 => ("CutLengthsModel", "millimetres", "I", false)
  | 2 => ("CutLengthsModel", "kilos", "I", false)
  | 3 => ("CutLengthsModel", "n", "I", false)
  | 4 => ("CutLengthsModel", "torch", "I", false)
  | 5 => ("CutLengthsModel", "front", "I", false)
  | 6 => ("CutLengthsModel", "back", "I", false)
  | 7 => ("CutLengthsModel", "wants", "I", false)
  | 8 => ("CutLengthsModel", "low", "[I", true)
  | 9 => ("CutLengthsModel", "high", "[I", true)
  | 10 => ("CutLengthsModel", "bads", "I", false)
  | 11 => ("CutLengthsModel", "badFrom", "[I", true)
  | 12 => ("CutLengthsModel", "badTo", "[I", true)
  | 13 => ("CutLengthsModel", "bars", "I", false)
  | 14 => ("CutLengthsModel", "barFrom", "[I", true)
  | 15 => ("CutLengthsModel", "barTo", "[I", true)
  | 16 => ("CutLengthsModel", "slabs", "I", false)
  | 17 => ("CutLengthsModel", "slabWant", "[I", true)
  | 18 => ("CutLengthsModel", "slabFrom", "[I", true)
  | 19 => ("CutLengthsModel", "slabSteps", "[I", true)
  | 20 => ("CutLengthsModel", "losses", "[I", true)
  | 21 => ("CutLengthsModel", "firsts", "[I", true)
  | 22 => ("CutLengthsModel", "lengths", "[I", true)
  | _ => ("CutLengthsModel", "goods", "[I", true)
def t_Model : Nat → FieldType := fun k => match k with
  | 0 => .int
  | 1 => .int
  | 2 => .int
  | 3 => .int
  | 4 => .int
  | 5 => .int
  | 6 => .int
  | 7 => .int
  | 8 => .array .int
  | 9 => .array .int
  | 10 => .int
  | 11 => .array .int
  | 12 => .array .int
  | 13 => .int
  | 14 => .array .int
  | 15 => .array .int
  | 16 => .int
  | 17 => .array .int
  | 18 => .array .int
  | 19 => .array .int
  | 20 => .array .int
  | 21 => .array .int
  | 22 => .array .int
  | _ => .array .int
theorem n_Model : ∀ a, a < 24 → ∀ b, b < 24 → a ≠ b → (T_Model a).2.1 ≠ (T_Model b).2.1 := by decide +kernel
theorem t_Model_ok : ∀ k, k < 24 → parseFieldDescriptor (T_Model k).2.2.1 = some (t_Model k) := by decide +kernel
abbrev y_Cut_init : MethodName := ⟨"CutLengths", "<init>", "()V"⟩
abbrev y_Cut_step : MethodName := ⟨"CutLengths", "step", "(II)V"⟩
abbrev y_Cut_cast : MethodName := ⟨"CutLengths", "cast", "(I)I"⟩
abbrev y_Cut_want : MethodName := ⟨"CutLengths", "want", "(II)I"⟩
abbrev y_Cut_span : MethodName := ⟨"CutLengths", "span", "(III)V"⟩
abbrev y_Cut_trim : MethodName := ⟨"CutLengths", "trim", "(II)V"⟩
abbrev y_Cut_bad : MethodName := ⟨"CutLengths", "bad", "(II)I"⟩
abbrev y_Cut_bar : MethodName := ⟨"CutLengths", "bar", "(II)I"⟩
abbrev y_Cut_loss : MethodName := ⟨"CutLengths", "loss", "()I"⟩
abbrev y_Cut_part : MethodName := ⟨"CutLengths", "part", "(II)I"⟩
abbrev y_Cut_cut : MethodName := ⟨"CutLengths", "cut", "()I"⟩
abbrev y_Cut_slab : MethodName := ⟨"CutLengths", "slab", "(II)I"⟩
abbrev y_Cut_weight : MethodName := ⟨"CutLengths", "weight", "(I)J"⟩
abbrev y_Cut_count : MethodName := ⟨"CutLengths", "count", "(I)I"⟩
abbrev y_Cut_torch : MethodName := ⟨"CutLengths", "torch", "()I"⟩
abbrev y_Cut_tellSpan : MethodName := ⟨"CutLengths", "tellSpan", "(III)V"⟩
abbrev y_Cut_renewPlan : MethodName := ⟨"CutLengths", "renewPlan", "()V"⟩
abbrev y_Cut_isSlab : MethodName := ⟨"CutLengths", "isSlab", "(I)Z"⟩
abbrev y_Cut_isOutside : MethodName := ⟨"CutLengths", "isOutside", "(III)Z"⟩
abbrev y_Cut_isSpan : MethodName := ⟨"CutLengths", "isSpan", "(II)Z"⟩
abbrev y_Cut_isStretch : MethodName := ⟨"CutLengths", "isStretch", "(II)Z"⟩
abbrev y_Cut_isWhat : MethodName := ⟨"CutLengths", "isWhat", "(I)Z"⟩
abbrev y_Cut_pick : MethodName := ⟨"CutLengths", "pick", "(IIII)I"⟩
abbrev y_Model_init : MethodName := ⟨"CutLengthsModel", "<init>", "()V"⟩
abbrev y_Model_thrown : MethodName := ⟨"CutLengthsModel", "thrown", "()I"⟩
abbrev y_Model_throwing : MethodName := ⟨"CutLengthsModel", "throwing", "(ZZ)Z"⟩
abbrev y_Model_in : MethodName := ⟨"CutLengthsModel", "in", "(III)Z"⟩
abbrev y_Model_step : MethodName := ⟨"CutLengthsModel", "step", "(II)V"⟩
abbrev y_Model_cast : MethodName := ⟨"CutLengthsModel", "cast", "(I)I"⟩
abbrev y_Model_isSpan : MethodName := ⟨"CutLengthsModel", "isSpan", "(II)Z"⟩
abbrev y_Model_want : MethodName := ⟨"CutLengthsModel", "want", "(II)I"⟩
abbrev y_Model_span : MethodName := ⟨"CutLengthsModel", "span", "(III)V"⟩
abbrev y_Model_trim : MethodName := ⟨"CutLengthsModel", "trim", "(II)V"⟩
abbrev y_Model_isRow : MethodName := ⟨"CutLengthsModel", "isRow", "(II)Z"⟩
abbrev y_Model_bad : MethodName := ⟨"CutLengthsModel", "bad", "(II)I"⟩
abbrev y_Model_bar : MethodName := ⟨"CutLengthsModel", "bar", "(II)I"⟩
abbrev y_Model_isGood : MethodName := ⟨"CutLengthsModel", "isGood", "(I)Z"⟩
abbrev y_Model_isBarred : MethodName := ⟨"CutLengthsModel", "isBarred", "(I)Z"⟩
abbrev y_Model_look : MethodName := ⟨"CutLengthsModel", "look", "(I)V"⟩
abbrev y_Model_plan : MethodName := ⟨"CutLengthsModel", "plan", "()V"⟩
abbrev y_Model_loss : MethodName := ⟨"CutLengthsModel", "loss", "()I"⟩
abbrev y_Model_endOf : MethodName := ⟨"CutLengthsModel", "endOf", "(I)I"⟩
abbrev y_Model_part : MethodName := ⟨"CutLengthsModel", "part", "(II)I"⟩
abbrev y_Model_cut : MethodName := ⟨"CutLengthsModel", "cut", "()I"⟩
abbrev y_Model_slab : MethodName := ⟨"CutLengthsModel", "slab", "(II)I"⟩
abbrev y_Model_weight : MethodName := ⟨"CutLengthsModel", "weight", "(I)J"⟩
abbrev y_Model_count : MethodName := ⟨"CutLengthsModel", "count", "(I)I"⟩
abbrev y_Model_torch : MethodName := ⟨"CutLengthsModel", "torch", "()I"⟩
abbrev y_Plan_init : MethodName := ⟨"CutLengths$Plan", "<init>", "()V"⟩
abbrev y_Plan_make : MethodName := ⟨"CutLengths$Plan", "make", "(LCutLengths$Strand;LCutLengths$WantedLengths;)V"⟩
abbrev y_Plan_beginOfPart : MethodName := ⟨"CutLengths$Plan", "beginOfPart", "(ILCutLengths$Strand;)I"⟩
abbrev y_Plan_takeScrap : MethodName := ⟨"CutLengths$Plan", "takeScrap", "(I)V"⟩
abbrev y_Plan_takeBestPiece : MethodName := ⟨"CutLengths$Plan", "takeBestPiece", "(IIILCutLengths$Strand;LCutLengths$WantedLengths;)V"⟩
abbrev y_Plan_takePiece : MethodName := ⟨"CutLengths$Plan", "takePiece", "(III)V"⟩
abbrev y_Plan_isBetter : MethodName := ⟨"CutLengths$Plan", "isBetter", "(II)Z"⟩
abbrev y_Slabs_init : MethodName := ⟨"CutLengths$Slabs", "<init>", "()V"⟩
abbrev y_Slabs_append : MethodName := ⟨"CutLengths$Slabs", "append", "(III)V"⟩
abbrev y_Slabs_howManyOf : MethodName := ⟨"CutLengths$Slabs", "howManyOf", "(I)I"⟩
abbrev y_Strand_init : MethodName := ⟨"CutLengths$Strand", "<init>", "()V"⟩
abbrev y_Strand_markBad : MethodName := ⟨"CutLengths$Strand", "markBad", "(II)V"⟩
abbrev y_Strand_markBarred : MethodName := ⟨"CutLengths$Strand", "markBarred", "(II)V"⟩
abbrev y_Strand_isSound : MethodName := ⟨"CutLengths$Strand", "isSound", "(I)Z"⟩
abbrev y_Strand_pieceMayBegin : MethodName := ⟨"CutLengths$Strand", "pieceMayBegin", "(I)Z"⟩
abbrev y_Strand_pieceMayEnd : MethodName := ⟨"CutLengths$Strand", "pieceMayEnd", "(I)Z"⟩
abbrev y_Wanted_init : MethodName := ⟨"CutLengths$WantedLengths", "<init>", "()V"⟩
abbrev y_Law_step : MethodName := ⟨"CutLengthsLaw", "step", "(LCutLengths;II)I"⟩
abbrev y_Law_cast : MethodName := ⟨"CutLengthsLaw", "cast", "(LCutLengths;I[J)I"⟩
abbrev y_Law_want : MethodName := ⟨"CutLengthsLaw", "want", "(LCutLengths;II[J)I"⟩
abbrev y_Law_span : MethodName := ⟨"CutLengthsLaw", "span", "(LCutLengths;III)I"⟩
abbrev y_Law_trim : MethodName := ⟨"CutLengthsLaw", "trim", "(LCutLengths;II)I"⟩
abbrev y_Law_bad : MethodName := ⟨"CutLengthsLaw", "bad", "(LCutLengths;II[J)I"⟩
abbrev y_Law_bar : MethodName := ⟨"CutLengthsLaw", "bar", "(LCutLengths;II[J)I"⟩
abbrev y_Law_part : MethodName := ⟨"CutLengthsLaw", "part", "(LCutLengths;II[J)I"⟩
abbrev y_Law_cut : MethodName := ⟨"CutLengthsLaw", "cut", "(LCutLengths;[J)I"⟩
abbrev y_Law_slab : MethodName := ⟨"CutLengthsLaw", "slab", "(LCutLengths;II[J)I"⟩
abbrev y_Law_weight : MethodName := ⟨"CutLengthsLaw", "weight", "(LCutLengths;I[J)I"⟩
abbrev y_Law_count : MethodName := ⟨"CutLengthsLaw", "count", "(LCutLengths;I[J)I"⟩
abbrev y_Law_law : MethodName := ⟨"CutLengthsLaw", "law", "([I)Z"⟩
abbrev zw_Cut_init : Cond := Cond.code ⟨"CutLengths", "<init>", "()V"⟩ prog_1_method_1_code 1 none
abbrev zw_Cut_step : Cond := Cond.code ⟨"CutLengths", "step", "(II)V"⟩ prog_1_method_2_code 3 none
abbrev zw_Cut_cast : Cond := Cond.code ⟨"CutLengths", "cast", "(I)I"⟩ prog_1_method_3_code 2 (some FieldType.int)
abbrev zw_Cut_want : Cond := Cond.code ⟨"CutLengths", "want", "(II)I"⟩ prog_1_method_4_code 4 (some FieldType.int)
abbrev zw_Cut_span : Cond := Cond.code ⟨"CutLengths", "span", "(III)V"⟩ prog_1_method_5_code 4 none
abbrev zw_Cut_trim : Cond := Cond.code ⟨"CutLengths", "trim", "(II)V"⟩ prog_1_method_6_code 3 none
abbrev zw_Cut_bad : Cond := Cond.code ⟨"CutLengths", "bad", "(II)I"⟩ prog_1_method_7_code 3 (some FieldType.int)
abbrev zw_Cut_bar : Cond := Cond.code ⟨"CutLengths", "bar", "(II)I"⟩ prog_1_method_8_code 3 (some FieldType.int)
abbrev zw_Cut_loss : Cond := Cond.code ⟨"CutLengths", "loss", "()I"⟩ prog_1_method_9_code 1 (some FieldType.int)
abbrev zw_Cut_part : Cond := Cond.code ⟨"CutLengths", "part", "(II)I"⟩ prog_1_method_10_code 4 (some FieldType.int)
abbrev zw_Cut_cut : Cond := Cond.code ⟨"CutLengths", "cut", "()I"⟩ prog_1_method_11_code 3 (some FieldType.int)
abbrev zw_Cut_slab : Cond := Cond.code ⟨"CutLengths", "slab", "(II)I"⟩ prog_1_method_12_code 3 (some FieldType.int)
abbrev zw_Cut_weight : Cond := Cond.code ⟨"CutLengths", "weight", "(I)J"⟩ prog_1_method_13_code 4 (some FieldType.long)
abbrev zw_Cut_count : Cond := Cond.code ⟨"CutLengths", "count", "(I)I"⟩ prog_1_method_14_code 2 (some FieldType.int)
abbrev zw_Cut_torch : Cond := Cond.code ⟨"CutLengths", "torch", "()I"⟩ prog_1_method_15_code 1 (some FieldType.int)
abbrev zw_Cut_tellSpan : Cond := Cond.code ⟨"CutLengths", "tellSpan", "(III)V"⟩ prog_1_method_16_code 4 none
abbrev zw_Cut_renewPlan : Cond := Cond.code ⟨"CutLengths", "renewPlan", "()V"⟩ prog_1_method_17_code 1 none
abbrev zw_Cut_isSlab : Cond := Cond.code ⟨"CutLengths", "isSlab", "(I)Z"⟩ prog_1_method_18_code 2 (some FieldType.boolean)
abbrev zw_Cut_isOutside : Cond := Cond.code ⟨"CutLengths", "isOutside", "(III)Z"⟩ prog_1_method_19_code 3 (some FieldType.boolean)
abbrev zw_Cut_isSpan : Cond := Cond.code ⟨"CutLengths", "isSpan", "(II)Z"⟩ prog_1_method_20_code 2 (some FieldType.boolean)
abbrev zw_Cut_isStretch : Cond := Cond.code ⟨"CutLengths", "isStretch", "(II)Z"⟩ prog_1_method_21_code 2 (some FieldType.boolean)
abbrev zw_Cut_isWhat : Cond := Cond.code ⟨"CutLengths", "isWhat", "(I)Z"⟩ prog_1_method_22_code 1 (some FieldType.boolean)
abbrev zw_Cut_pick : Cond := Cond.code ⟨"CutLengths", "pick", "(IIII)I"⟩ prog_1_method_23_code 4 (some FieldType.int)
abbrev zw_Model_init : Cond := Cond.code ⟨"CutLengthsModel", "<init>", "()V"⟩ prog_7_method_1_code 1 none
abbrev zw_Model_thrown : Cond := Cond.code ⟨"CutLengthsModel", "thrown", "()I"⟩ prog_7_method_2_code 1 (some FieldType.int)
abbrev zw_Model_throwing : Cond := Cond.code ⟨"CutLengthsModel", "throwing", "(ZZ)Z"⟩ prog_7_method_3_code 3 (some FieldType.boolean)
abbrev zw_Model_in : Cond := Cond.code ⟨"CutLengthsModel", "in", "(III)Z"⟩ prog_7_method_4_code 3 (some FieldType.boolean)
abbrev zw_Model_step : Cond := Cond.code ⟨"CutLengthsModel", "step", "(II)V"⟩ prog_7_method_5_code 3 none
abbrev zw_Model_cast : Cond := Cond.code ⟨"CutLengthsModel", "cast", "(I)I"⟩ prog_7_method_6_code 2 (some FieldType.int)
abbrev zw_Model_isSpan : Cond := Cond.code ⟨"CutLengthsModel", "isSpan", "(II)Z"⟩ prog_7_method_7_code 2 (some FieldType.boolean)
abbrev zw_Model_want : Cond := Cond.code ⟨"CutLengthsModel", "want", "(II)I"⟩ prog_7_method_8_code 3 (some FieldType.int)
abbrev zw_Model_span : Cond := Cond.code ⟨"CutLengthsModel", "span", "(III)V"⟩ prog_7_method_9_code 4 none
abbrev zw_Model_trim : Cond := Cond.code ⟨"CutLengthsModel", "trim", "(II)V"⟩ prog_7_method_10_code 3 none
abbrev zw_Model_isRow : Cond := Cond.code ⟨"CutLengthsModel", "isRow", "(II)Z"⟩ prog_7_method_11_code 2 (some FieldType.boolean)
abbrev zw_Model_bad : Cond := Cond.code ⟨"CutLengthsModel", "bad", "(II)I"⟩ prog_7_method_12_code 3 (some FieldType.int)
abbrev zw_Model_bar : Cond := Cond.code ⟨"CutLengthsModel", "bar", "(II)I"⟩ prog_7_method_13_code 3 (some FieldType.int)
abbrev zw_Model_isGood : Cond := Cond.code ⟨"CutLengthsModel", "isGood", "(I)Z"⟩ prog_7_method_14_code 4 (some FieldType.boolean)
abbrev zw_Model_isBarred : Cond := Cond.code ⟨"CutLengthsModel", "isBarred", "(I)Z"⟩ prog_7_method_15_code 4 (some FieldType.boolean)
abbrev zw_Model_look : Cond := Cond.code ⟨"CutLengthsModel", "look", "(I)V"⟩ prog_7_method_16_code 6 none
abbrev zw_Model_plan : Cond := Cond.code ⟨"CutLengthsModel", "plan", "()V"⟩ prog_7_method_17_code 2 none
abbrev zw_Model_loss : Cond := Cond.code ⟨"CutLengthsModel", "loss", "()I"⟩ prog_7_method_18_code 1 (some FieldType.int)
abbrev zw_Model_endOf : Cond := Cond.code ⟨"CutLengthsModel", "endOf", "(I)I"⟩ prog_7_method_19_code 3 (some FieldType.int)
abbrev zw_Model_part : Cond := Cond.code ⟨"CutLengthsModel", "part", "(II)I"⟩ prog_7_method_20_code 5 (some FieldType.int)
abbrev zw_Model_cut : Cond := Cond.code ⟨"CutLengthsModel", "cut", "()I"⟩ prog_7_method_21_code 1 (some FieldType.int)
abbrev zw_Model_slab : Cond := Cond.code ⟨"CutLengthsModel", "slab", "(II)I"⟩ prog_7_method_22_code 3 (some FieldType.int)
abbrev zw_Model_weight : Cond := Cond.code ⟨"CutLengthsModel", "weight", "(I)J"⟩ prog_7_method_23_code 2 (some FieldType.long)
abbrev zw_Model_count : Cond := Cond.code ⟨"CutLengthsModel", "count", "(I)I"⟩ prog_7_method_24_code 4 (some FieldType.int)
abbrev zw_Model_torch : Cond := Cond.code ⟨"CutLengthsModel", "torch", "()I"⟩ prog_7_method_25_code 1 (some FieldType.int)
abbrev zw_Plan_init : Cond := Cond.code ⟨"CutLengths$Plan", "<init>", "()V"⟩ prog_2_method_1_code 1 none
abbrev zw_Plan_make : Cond := Cond.code ⟨"CutLengths$Plan", "make", "(LCutLengths$Strand;LCutLengths$WantedLengths;)V"⟩ prog_2_method_2_code 6 none
abbrev zw_Plan_beginOfPart : Cond := Cond.code ⟨"CutLengths$Plan", "beginOfPart", "(ILCutLengths$Strand;)I"⟩ prog_2_method_3_code 6 (some FieldType.int)
abbrev zw_Plan_takeScrap : Cond := Cond.code ⟨"CutLengths$Plan", "takeScrap", "(I)V"⟩ prog_2_method_4_code 3 none
abbrev zw_Plan_takeBestPiece : Cond := Cond.code ⟨"CutLengths$Plan", "takeBestPiece", "(IIILCutLengths$Strand;LCutLengths$WantedLengths;)V"⟩ prog_2_method_5_code 10 none
abbrev zw_Plan_takePiece : Cond := Cond.code ⟨"CutLengths$Plan", "takePiece", "(III)V"⟩ prog_2_method_6_code 4 none
abbrev zw_Plan_isBetter : Cond := Cond.code ⟨"CutLengths$Plan", "isBetter", "(II)Z"⟩ prog_2_method_7_code 5 (some FieldType.boolean)
abbrev zw_Slabs_init : Cond := Cond.code ⟨"CutLengths$Slabs", "<init>", "()V"⟩ prog_3_method_1_code 1 none
abbrev zw_Slabs_append : Cond := Cond.code ⟨"CutLengths$Slabs", "append", "(III)V"⟩ prog_3_method_2_code 4 none
abbrev zw_Slabs_howManyOf : Cond := Cond.code ⟨"CutLengths$Slabs", "howManyOf", "(I)I"⟩ prog_3_method_3_code 4 (some FieldType.int)
abbrev zw_Strand_init : Cond := Cond.code ⟨"CutLengths$Strand", "<init>", "()V"⟩ prog_4_method_1_code 1 none
abbrev zw_Strand_markBad : Cond := Cond.code ⟨"CutLengths$Strand", "markBad", "(II)V"⟩ prog_4_method_2_code 4 none
abbrev zw_Strand_markBarred : Cond := Cond.code ⟨"CutLengths$Strand", "markBarred", "(II)V"⟩ prog_4_method_3_code 4 none
abbrev zw_Strand_isSound : Cond := Cond.code ⟨"CutLengths$Strand", "isSound", "(I)Z"⟩ prog_4_method_4_code 2 (some FieldType.boolean)
abbrev zw_Strand_pieceMayBegin : Cond := Cond.code ⟨"CutLengths$Strand", "pieceMayBegin", "(I)Z"⟩ prog_4_method_5_code 2 (some FieldType.boolean)
abbrev zw_Strand_pieceMayEnd : Cond := Cond.code ⟨"CutLengths$Strand", "pieceMayEnd", "(I)Z"⟩ prog_4_method_6_code 2 (some FieldType.boolean)
abbrev zw_Wanted_init : Cond := Cond.code ⟨"CutLengths$WantedLengths", "<init>", "()V"⟩ prog_5_method_1_code 1 none
abbrev zw_Law_step : Cond := Cond.codeWith ⟨"CutLengthsLaw", "step", "(LCutLengths;II)I"⟩ method_3_code 4 (some FieldType.int) [(0, 6, 9, 13), (0, 6, 12, 15)]
abbrev zw_Law_cast : Cond := Cond.codeWith ⟨"CutLengthsLaw", "cast", "(LCutLengths;I[J)I"⟩ method_4_code 4 (some FieldType.int) [(0, 9, 12, 15), (0, 9, 15, 21)]
abbrev zw_Law_want : Cond := Cond.codeWith ⟨"CutLengthsLaw", "want", "(LCutLengths;II[J)I"⟩ method_5_code 5 (some FieldType.int) [(0, 10, 13, 13), (0, 10, 17, 15)]
abbrev zw_Law_span : Cond := Cond.codeWith ⟨"CutLengthsLaw", "span", "(LCutLengths;III)I"⟩ method_6_code 5 (some FieldType.int) [(0, 7, 10, 31), (0, 7, 14, 15)]
abbrev zw_Law_trim : Cond := Cond.codeWith ⟨"CutLengthsLaw", "trim", "(LCutLengths;II)I"⟩ method_7_code 4 (some FieldType.int) [(0, 6, 9, 15)]
abbrev zw_Law_bad : Cond := Cond.codeWith ⟨"CutLengthsLaw", "bad", "(LCutLengths;II[J)I"⟩ method_8_code 5 (some FieldType.int) [(0, 10, 13, 13), (0, 10, 17, 15)]
abbrev zw_Law_bar : Cond := Cond.codeWith ⟨"CutLengthsLaw", "bar", "(LCutLengths;II[J)I"⟩ method_9_code 5 (some FieldType.int) [(0, 10, 13, 13), (0, 10, 17, 15)]
abbrev zw_Law_part : Cond := Cond.codeWith ⟨"CutLengthsLaw", "part", "(LCutLengths;II[J)I"⟩ method_10_code 5 (some FieldType.int) [(0, 10, 13, 31)]
abbrev zw_Law_cut : Cond := Cond.codeWith ⟨"CutLengthsLaw", "cut", "(LCutLengths;[J)I"⟩ method_11_code 3 (some FieldType.int) [(0, 8, 11, 13), (0, 8, 14, 21)]
abbrev zw_Law_slab : Cond := Cond.codeWith ⟨"CutLengthsLaw", "slab", "(LCutLengths;II[J)I"⟩ method_12_code 5 (some FieldType.int) [(0, 10, 13, 31)]
abbrev zw_Law_weight : Cond := Cond.codeWith ⟨"CutLengthsLaw", "weight", "(LCutLengths;I[J)I"⟩ method_13_code 4 (some FieldType.int) [(0, 8, 11, 31)]
abbrev zw_Law_count : Cond := Cond.codeWith ⟨"CutLengthsLaw", "count", "(LCutLengths;I[J)I"⟩ method_14_code 4 (some FieldType.int) [(0, 9, 12, 31)]
/-- the good words of the tables -/
def zW : List Cond := lw_tbl.filter goodWord
theorem zW_in {w : Cond} (i : Nat) (h : lw_tbl[i]? = some w) (hg : goodWord w = true) : w ∈ zW := List.mem_filter.mpr ⟨List.mem_of_getElem? h, hg⟩
theorem zW_good {w : Cond} (h : w ∈ zW) : (w.onTables && w.keeps) = true ∨ ∃ ty, w = .arrayClass ty := good_of_word (List.mem_filter.mp h).2
theorem zW_tbl {w : Cond} (h : w ∈ zW) : w ∈ lw_tbl := (List.mem_filter.mp h).1
theorem zgA : GoodIn zW zW := fun w h => ⟨h, zW_good h⟩
theorem zgC {big ws : List Cond} {c : Cond} (h : c ∈ zW) (hb : ∀ w ∈ zW, w ∈ big) (hw : GoodIn big ws) : GoodIn big (c :: ws) := fun w q => by
  rcases List.mem_cons.mp q with rfl | q
  · exact ⟨hb _ h, zW_good h⟩
  · exact hw w q
theorem zgI {c1 : Cond} (h : c1 ∈ zW) : GoodIn zW (c1 :: zW) := zgC h (fun _ q => q) zgA
theorem zgV {own C : String} {idx : Nat} {y : MethodName} {c1 : Cond} (h1 : Cond.methodLink own idx y ∈ zW) (h2 : Cond.instanceMethod y ∈ zW) (h3 : Cond.selects C y y ∈ zW) (h4 : Cond.initialized C ∈ zW) (h5 : c1 ∈ zW) : GoodIn zW (wsV own idx C y (c1 :: zW)) :=
  zgC h1 (fun _ q => q) (zgC h2 (fun _ q => q) (zgC h3 (fun _ q => q) (zgC h4 (fun _ q => q) (zgI h5))))
theorem zgS {own : String} {idx : Nat} {y : MethodName} {c1 : Cond} (h1 : Cond.methodLink own idx y ∈ zW) (h2 : Cond.static y ∈ zW) (h3 : Cond.initialized y.cls ∈ zW) (h5 : c1 ∈ zW) : GoodIn zW (va_wsS own idx y (c1 :: zW)) :=
  zgC h1 (fun _ q => q) (zgC h2 (fun _ q => q) (zgC h3 (fun _ q => q) (zgI h5)))
theorem tw_0 : Cond.selects "CutLengths" ⟨"CutLengths", "renewPlan", "()V"⟩ ⟨"CutLengths", "renewPlan", "()V"⟩ ∈ zW := zW_in 0 (by decide +kernel) (by decide +kernel)
theorem tw_1 : Cond.selects "CutLengths$Plan" ⟨"CutLengths$Plan", "takeScrap", "(I)V"⟩ ⟨"CutLengths$Plan", "takeScrap", "(I)V"⟩ ∈ zW := zW_in 1 (by decide +kernel) (by decide +kernel)
theorem tw_2 : Cond.selects "CutLengths$Plan" ⟨"CutLengths$Plan", "takeBestPiece", "(IIILCutLengths$Strand;LCutLengths$WantedLengths;)V"⟩ ⟨"CutLengths$Plan", "takeBestPiece", "(IIILCutLengths$Strand;LCutLengths$WantedLengths;)V"⟩ ∈ zW := zW_in 2 (by decide +kernel) (by decide +kernel)
theorem tw_3 : Cond.selects "CutLengths$Plan" ⟨"CutLengths$Plan", "isBetter", "(II)Z"⟩ ⟨"CutLengths$Plan", "isBetter", "(II)Z"⟩ ∈ zW := zW_in 3 (by decide +kernel) (by decide +kernel)
theorem tw_4 : Cond.selects "CutLengths$Plan" ⟨"CutLengths$Plan", "takePiece", "(III)V"⟩ ⟨"CutLengths$Plan", "takePiece", "(III)V"⟩ ∈ zW := zW_in 4 (by decide +kernel) (by decide +kernel)
theorem tw_6 : Cond.selects "CutLengths" ⟨"CutLengths", "tellSpan", "(III)V"⟩ ⟨"CutLengths", "tellSpan", "(III)V"⟩ ∈ zW := zW_in 6 (by decide +kernel) (by decide +kernel)
theorem tw_7 : Cond.selects "CutLengths" ⟨"CutLengths", "isSlab", "(I)Z"⟩ ⟨"CutLengths", "isSlab", "(I)Z"⟩ ∈ zW := zW_in 7 (by decide +kernel) (by decide +kernel)
theorem tw_8 : Cond.selects "CutLengthsModel" ⟨"CutLengthsModel", "throwing", "(ZZ)Z"⟩ ⟨"CutLengthsModel", "throwing", "(ZZ)Z"⟩ ∈ zW := zW_in 8 (by decide +kernel) (by decide +kernel)
theorem tw_9 : Cond.selects "CutLengthsModel" ⟨"CutLengthsModel", "plan", "()V"⟩ ⟨"CutLengthsModel", "plan", "()V"⟩ ∈ zW := zW_in 9 (by decide +kernel) (by decide +kernel)
theorem tw_10 : Cond.selects "CutLengthsModel" ⟨"CutLengthsModel", "isGood", "(I)Z"⟩ ⟨"CutLengthsModel", "isGood", "(I)Z"⟩ ∈ zW := zW_in 10 (by decide +kernel) (by decide +kernel)
theorem tw_11 : Cond.selects "CutLengthsModel" ⟨"CutLengthsModel", "look", "(I)V"⟩ ⟨"CutLengthsModel", "look", "(I)V"⟩ ∈ zW := zW_in 11 (by decide +kernel) (by decide +kernel)
theorem tw_12 : Cond.selects "CutLengthsModel" ⟨"CutLengthsModel", "isBarred", "(I)Z"⟩ ⟨"CutLengthsModel", "isBarred", "(I)Z"⟩ ∈ zW := zW_in 12 (by decide +kernel) (by decide +kernel)
theorem tw_13 : Cond.selects "CutLengthsModel" ⟨"CutLengthsModel", "endOf", "(I)I"⟩ ⟨"CutLengthsModel", "endOf", "(I)I"⟩ ∈ zW := zW_in 13 (by decide +kernel) (by decide +kernel)
theorem tw_14 : Cond.initialized "CutLengthsLaw" ∈ zW := zW_in 14 (by decide +kernel) (by decide +kernel)
theorem tw_15 : Cond.initialized "CutLengths" ∈ zW := zW_in 15 (by decide +kernel) (by decide +kernel)
theorem tw_16 : Cond.initialized "CutLengths$Strand" ∈ zW := zW_in 16 (by decide +kernel) (by decide +kernel)
theorem tw_17 : Cond.initialized "CutLengths$WantedLengths" ∈ zW := zW_in 17 (by decide +kernel) (by decide +kernel)
theorem tw_18 : Cond.initialized "CutLengths$Plan" ∈ zW := zW_in 18 (by decide +kernel) (by decide +kernel)
theorem tw_19 : Cond.initialized "CutLengths$Slabs" ∈ zW := zW_in 19 (by decide +kernel) (by decide +kernel)
theorem tw_20 : Cond.initialized "CutLengthsModel" ∈ zW := zW_in 20 (by decide +kernel) (by decide +kernel)
theorem tw_22 : Cond.initialized "java/lang/Exception" ∈ zW := zW_in 22 (by decide +kernel) (by decide +kernel)
theorem tw_23 : Cond.initialized "java/lang/RuntimeException" ∈ zW := zW_in 23 (by decide +kernel) (by decide +kernel)
theorem tw_24 : Cond.initialized "java/lang/IllegalStateException" ∈ zW := zW_in 24 (by decide +kernel) (by decide +kernel)
theorem tw_25 : Cond.initialized "java/lang/IllegalArgumentException" ∈ zW := zW_in 25 (by decide +kernel) (by decide +kernel)
theorem tw_26 : Cond.initialized "java/lang/UnsupportedOperationException" ∈ zW := zW_in 26 (by decide +kernel) (by decide +kernel)
theorem tw_27 : Cond.initialized "java/lang/IndexOutOfBoundsException" ∈ zW := zW_in 27 (by decide +kernel) (by decide +kernel)
theorem tw_28 : Cond.initialized "java/lang/Math" ∈ zW := zW_in 28 (by decide +kernel) (by decide +kernel)
theorem tw_29 : Cond.classLink "CutLengthsLaw" 8 "CutLengths" ∈ zW := zW_in 29 (by decide +kernel) (by decide +kernel)
theorem tw_30 : Cond.instantiable "CutLengths" 7 ∈ zW := zW_in 30 (by decide +kernel) (by decide +kernel)
theorem tw_31 : Cond.methodLink "CutLengthsLaw" 59 ⟨"CutLengths", "<init>", "()V"⟩ ∈ zW := zW_in 31 (by decide +kernel) (by decide +kernel)
theorem tw_32 : Cond.instanceMethod ⟨"CutLengths", "<init>", "()V"⟩ ∈ zW := zW_in 32 (by decide +kernel) (by decide +kernel)
theorem tw_33 : Cond.code ⟨"CutLengths", "<init>", "()V"⟩ prog_1_method_1_code 1 none ∈ zW := zW_in 33 (by decide +kernel) (by decide +kernel)
theorem tw_34 : Cond.methodLink "CutLengths" 3 ⟨"java/lang/Object", "<init>", "()V"⟩ ∈ zW := zW_in 34 (by decide +kernel) (by decide +kernel)
theorem tw_35 : Cond.instanceMethod ⟨"java/lang/Object", "<init>", "()V"⟩ ∈ zW := zW_in 35 (by decide +kernel) (by decide +kernel)
theorem tw_36 : Cond.code ⟨"java/lang/Object", "<init>", "()V"⟩ object_method_1_code 1 none ∈ zW := zW_in 36 (by decide +kernel) (by decide +kernel)
theorem tw_37 : Cond.classLink "CutLengths" 9 "CutLengths$Strand" ∈ zW := zW_in 37 (by decide +kernel) (by decide +kernel)
theorem tw_38 : Cond.instantiable "CutLengths$Strand" 8 ∈ zW := zW_in 38 (by decide +kernel) (by decide +kernel)
theorem tw_40 : Cond.instanceMethod ⟨"CutLengths$Strand", "<init>", "()V"⟩ ∈ zW := zW_in 40 (by decide +kernel) (by decide +kernel)
theorem tw_41 : Cond.code ⟨"CutLengths$Strand", "<init>", "()V"⟩ prog_4_method_1_code 1 none ∈ zW := zW_in 41 (by decide +kernel) (by decide +kernel)
theorem tw_42 : Cond.methodLink "CutLengths$Strand" 3 ⟨"java/lang/Object", "<init>", "()V"⟩ ∈ zW := zW_in 42 (by decide +kernel) (by decide +kernel)
theorem tw_43 : Cond.fieldLink "CutLengths$Strand" 9 "CutLengths$Strand" "end" "I" ∈ zW := zW_in 43 (by decide +kernel) (by decide +kernel)
theorem tw_44 : Cond.fieldLink "CutLengths$Plan" 21 "CutLengths$Strand" "end" "I" ∈ zW := zW_in 44 (by decide +kernel) (by decide +kernel)
theorem tw_45 : Cond.fieldLink "CutLengths" 71 "CutLengths$Strand" "end" "I" ∈ zW := zW_in 45 (by decide +kernel) (by decide +kernel)
theorem tw_46 : Cond.fieldLink "CutLengths$Strand" 15 "CutLengths$Strand" "torch" "I" ∈ zW := zW_in 46 (by decide +kernel) (by decide +kernel)
theorem tw_47 : Cond.fieldLink "CutLengths$Plan" 27 "CutLengths$Strand" "torch" "I" ∈ zW := zW_in 47 (by decide +kernel) (by decide +kernel)
theorem tw_48 : Cond.fieldLink "CutLengths" 136 "CutLengths$Strand" "torch" "I" ∈ zW := zW_in 48 (by decide +kernel) (by decide +kernel)
theorem tw_49 : Cond.fieldLink "CutLengths$Strand" 18 "CutLengths$Strand" "front" "I" ∈ zW := zW_in 49 (by decide +kernel) (by decide +kernel)
theorem tw_50 : Cond.fieldLink "CutLengths" 99 "CutLengths$Strand" "front" "I" ∈ zW := zW_in 50 (by decide +kernel) (by decide +kernel)
theorem tw_51 : Cond.fieldLink "CutLengths$Strand" 21 "CutLengths$Strand" "back" "I" ∈ zW := zW_in 51 (by decide +kernel) (by decide +kernel)
theorem tw_52 : Cond.fieldLink "CutLengths" 102 "CutLengths$Strand" "back" "I" ∈ zW := zW_in 52 (by decide +kernel) (by decide +kernel)
theorem tw_53 : Cond.fieldLink "CutLengths$Strand" 24 "CutLengths$Strand" "badParts" "I" ∈ zW := zW_in 53 (by decide +kernel) (by decide +kernel)
theorem tw_54 : Cond.fieldLink "CutLengths" 105 "CutLengths$Strand" "badParts" "I" ∈ zW := zW_in 54 (by decide +kernel) (by decide +kernel)
theorem tw_55 : Cond.fieldLink "CutLengths$Strand" 27 "CutLengths$Strand" "bars" "I" ∈ zW := zW_in 55 (by decide +kernel) (by decide +kernel)
theorem tw_56 : Cond.fieldLink "CutLengths" 119 "CutLengths$Strand" "bars" "I" ∈ zW := zW_in 56 (by decide +kernel) (by decide +kernel)
theorem tw_57 : Cond.fieldLink "CutLengths$Strand" 30 "CutLengths$Strand" "badSteps" "[Z" ∈ zW := zW_in 57 (by decide +kernel) (by decide +kernel)
theorem tw_58 : Cond.fieldLink "CutLengths$Strand" 34 "CutLengths$Strand" "barredPlaces" "[Z" ∈ zW := zW_in 58 (by decide +kernel) (by decide +kernel)
theorem tw_59 : Cond.lays "CutLengths$Strand" "CutLengths$Strand" "end" "I" ∈ zW := zW_in 59 (by decide +kernel) (by decide +kernel)
theorem tw_61 : Cond.lays "CutLengths$Strand" "CutLengths$Strand" "torch" "I" ∈ zW := zW_in 61 (by decide +kernel) (by decide +kernel)
theorem tw_63 : Cond.lays "CutLengths$Strand" "CutLengths$Strand" "front" "I" ∈ zW := zW_in 63 (by decide +kernel) (by decide +kernel)
theorem tw_65 : Cond.lays "CutLengths$Strand" "CutLengths$Strand" "back" "I" ∈ zW := zW_in 65 (by decide +kernel) (by decide +kernel)
theorem tw_67 : Cond.lays "CutLengths$Strand" "CutLengths$Strand" "badParts" "I" ∈ zW := zW_in 67 (by decide +kernel) (by decide +kernel)
theorem tw_69 : Cond.lays "CutLengths$Strand" "CutLengths$Strand" "bars" "I" ∈ zW := zW_in 69 (by decide +kernel) (by decide +kernel)
theorem tw_71 : Cond.laysFinal "CutLengths$Strand" "CutLengths$Strand" "badSteps" "[Z" ∈ zW := zW_in 71 (by decide +kernel) (by decide +kernel)
theorem tw_73 : Cond.laysFinal "CutLengths$Strand" "CutLengths$Strand" "barredPlaces" "[Z" ∈ zW := zW_in 73 (by decide +kernel) (by decide +kernel)
theorem tw_76 : Cond.arrayClass FieldType.boolean ∈ zW := zW_in 76 (by decide +kernel) (by decide +kernel)
theorem tw_77 : Cond.classLink "CutLengths" 16 "CutLengths$WantedLengths" ∈ zW := zW_in 77 (by decide +kernel) (by decide +kernel)
theorem tw_78 : Cond.instantiable "CutLengths$WantedLengths" 3 ∈ zW := zW_in 78 (by decide +kernel) (by decide +kernel)
theorem tw_80 : Cond.instanceMethod ⟨"CutLengths$WantedLengths", "<init>", "()V"⟩ ∈ zW := zW_in 80 (by decide +kernel) (by decide +kernel)
theorem tw_81 : Cond.code ⟨"CutLengths$WantedLengths", "<init>", "()V"⟩ prog_5_method_1_code 1 none ∈ zW := zW_in 81 (by decide +kernel) (by decide +kernel)
theorem tw_82 : Cond.methodLink "CutLengths$WantedLengths" 3 ⟨"java/lang/Object", "<init>", "()V"⟩ ∈ zW := zW_in 82 (by decide +kernel) (by decide +kernel)
theorem tw_83 : Cond.fieldLink "CutLengths$WantedLengths" 9 "CutLengths$WantedLengths" "size" "I" ∈ zW := zW_in 83 (by decide +kernel) (by decide +kernel)
theorem tw_84 : Cond.fieldLink "CutLengths" 79 "CutLengths$WantedLengths" "size" "I" ∈ zW := zW_in 84 (by decide +kernel) (by decide +kernel)
theorem tw_85 : Cond.fieldLink "CutLengths$Plan" 51 "CutLengths$WantedLengths" "size" "I" ∈ zW := zW_in 85 (by decide +kernel) (by decide +kernel)
theorem tw_86 : Cond.fieldLink "CutLengths$WantedLengths" 15 "CutLengths$WantedLengths" "low" "[I" ∈ zW := zW_in 86 (by decide +kernel) (by decide +kernel)
theorem tw_87 : Cond.fieldLink "CutLengths$Plan" 59 "CutLengths$WantedLengths" "low" "[I" ∈ zW := zW_in 87 (by decide +kernel) (by decide +kernel)
theorem tw_88 : Cond.fieldLink "CutLengths" 184 "CutLengths$WantedLengths" "low" "[I" ∈ zW := zW_in 88 (by decide +kernel) (by decide +kernel)
theorem tw_89 : Cond.fieldLink "CutLengths$WantedLengths" 19 "CutLengths$WantedLengths" "high" "[I" ∈ zW := zW_in 89 (by decide +kernel) (by decide +kernel)
theorem tw_90 : Cond.fieldLink "CutLengths$Plan" 56 "CutLengths$WantedLengths" "high" "[I" ∈ zW := zW_in 90 (by decide +kernel) (by decide +kernel)
theorem tw_91 : Cond.fieldLink "CutLengths" 187 "CutLengths$WantedLengths" "high" "[I" ∈ zW := zW_in 91 (by decide +kernel) (by decide +kernel)
theorem tw_92 : Cond.lays "CutLengths$WantedLengths" "CutLengths$WantedLengths" "size" "I" ∈ zW := zW_in 92 (by decide +kernel) (by decide +kernel)
theorem tw_94 : Cond.laysFinal "CutLengths$WantedLengths" "CutLengths$WantedLengths" "low" "[I" ∈ zW := zW_in 94 (by decide +kernel) (by decide +kernel)
theorem tw_96 : Cond.laysFinal "CutLengths$WantedLengths" "CutLengths$WantedLengths" "high" "[I" ∈ zW := zW_in 96 (by decide +kernel) (by decide +kernel)
theorem tw_99 : Cond.arrayClass FieldType.int ∈ zW := zW_in 99 (by decide +kernel) (by decide +kernel)
theorem tw_100 : Cond.classLink "CutLengths" 23 "CutLengths$Plan" ∈ zW := zW_in 100 (by decide +kernel) (by decide +kernel)
theorem tw_101 : Cond.instantiable "CutLengths$Plan" 3 ∈ zW := zW_in 101 (by decide +kernel) (by decide +kernel)
theorem tw_103 : Cond.instanceMethod ⟨"CutLengths$Plan", "<init>", "()V"⟩ ∈ zW := zW_in 103 (by decide +kernel) (by decide +kernel)
theorem tw_104 : Cond.code ⟨"CutLengths$Plan", "<init>", "()V"⟩ prog_2_method_1_code 1 none ∈ zW := zW_in 104 (by decide +kernel) (by decide +kernel)
theorem tw_105 : Cond.methodLink "CutLengths$Plan" 3 ⟨"java/lang/Object", "<init>", "()V"⟩ ∈ zW := zW_in 105 (by decide +kernel) (by decide +kernel)
theorem tw_106 : Cond.fieldLink "CutLengths$Plan" 9 "CutLengths$Plan" "scrapAhead" "[I" ∈ zW := zW_in 106 (by decide +kernel) (by decide +kernel)
theorem tw_107 : Cond.fieldLink "CutLengths" 132 "CutLengths$Plan" "scrapAhead" "[I" ∈ zW := zW_in 107 (by decide +kernel) (by decide +kernel)
theorem tw_108 : Cond.fieldLink "CutLengths$Plan" 15 "CutLengths$Plan" "wanted" "[I" ∈ zW := zW_in 108 (by decide +kernel) (by decide +kernel)
theorem tw_109 : Cond.fieldLink "CutLengths" 149 "CutLengths$Plan" "wanted" "[I" ∈ zW := zW_in 109 (by decide +kernel) (by decide +kernel)
theorem tw_110 : Cond.fieldLink "CutLengths$Plan" 18 "CutLengths$Plan" "steps" "[I" ∈ zW := zW_in 110 (by decide +kernel) (by decide +kernel)
theorem tw_111 : Cond.fieldLink "CutLengths" 152 "CutLengths$Plan" "steps" "[I" ∈ zW := zW_in 111 (by decide +kernel) (by decide +kernel)
theorem tw_112 : Cond.laysFinal "CutLengths$Plan" "CutLengths$Plan" "scrapAhead" "[I" ∈ zW := zW_in 112 (by decide +kernel) (by decide +kernel)
theorem tw_114 : Cond.laysFinal "CutLengths$Plan" "CutLengths$Plan" "wanted" "[I" ∈ zW := zW_in 114 (by decide +kernel) (by decide +kernel)
theorem tw_116 : Cond.laysFinal "CutLengths$Plan" "CutLengths$Plan" "steps" "[I" ∈ zW := zW_in 116 (by decide +kernel) (by decide +kernel)
theorem tw_119 : Cond.classLink "CutLengths" 30 "CutLengths$Slabs" ∈ zW := zW_in 119 (by decide +kernel) (by decide +kernel)
theorem tw_120 : Cond.instantiable "CutLengths$Slabs" 4 ∈ zW := zW_in 120 (by decide +kernel) (by decide +kernel)
theorem tw_122 : Cond.instanceMethod ⟨"CutLengths$Slabs", "<init>", "()V"⟩ ∈ zW := zW_in 122 (by decide +kernel) (by decide +kernel)
theorem tw_123 : Cond.code ⟨"CutLengths$Slabs", "<init>", "()V"⟩ prog_3_method_1_code 1 none ∈ zW := zW_in 123 (by decide +kernel) (by decide +kernel)
theorem tw_124 : Cond.methodLink "CutLengths$Slabs" 3 ⟨"java/lang/Object", "<init>", "()V"⟩ ∈ zW := zW_in 124 (by decide +kernel) (by decide +kernel)
theorem tw_125 : Cond.fieldLink "CutLengths$Slabs" 9 "CutLengths$Slabs" "size" "I" ∈ zW := zW_in 125 (by decide +kernel) (by decide +kernel)
theorem tw_126 : Cond.fieldLink "CutLengths" 48 "CutLengths$Slabs" "size" "I" ∈ zW := zW_in 126 (by decide +kernel) (by decide +kernel)
theorem tw_127 : Cond.fieldLink "CutLengths$Slabs" 15 "CutLengths$Slabs" "wanted" "[I" ∈ zW := zW_in 127 (by decide +kernel) (by decide +kernel)
theorem tw_128 : Cond.fieldLink "CutLengths" 171 "CutLengths$Slabs" "wanted" "[I" ∈ zW := zW_in 128 (by decide +kernel) (by decide +kernel)
theorem tw_129 : Cond.fieldLink "CutLengths$Slabs" 19 "CutLengths$Slabs" "begin" "[I" ∈ zW := zW_in 129 (by decide +kernel) (by decide +kernel)
theorem tw_130 : Cond.fieldLink "CutLengths" 172 "CutLengths$Slabs" "begin" "[I" ∈ zW := zW_in 130 (by decide +kernel) (by decide +kernel)
theorem tw_131 : Cond.fieldLink "CutLengths$Slabs" 22 "CutLengths$Slabs" "steps" "[I" ∈ zW := zW_in 131 (by decide +kernel) (by decide +kernel)
theorem tw_132 : Cond.fieldLink "CutLengths" 175 "CutLengths$Slabs" "steps" "[I" ∈ zW := zW_in 132 (by decide +kernel) (by decide +kernel)
theorem tw_133 : Cond.lays "CutLengths$Slabs" "CutLengths$Slabs" "size" "I" ∈ zW := zW_in 133 (by decide +kernel) (by decide +kernel)
theorem tw_135 : Cond.laysFinal "CutLengths$Slabs" "CutLengths$Slabs" "wanted" "[I" ∈ zW := zW_in 135 (by decide +kernel) (by decide +kernel)
theorem tw_137 : Cond.laysFinal "CutLengths$Slabs" "CutLengths$Slabs" "begin" "[I" ∈ zW := zW_in 137 (by decide +kernel) (by decide +kernel)
theorem tw_139 : Cond.laysFinal "CutLengths$Slabs" "CutLengths$Slabs" "steps" "[I" ∈ zW := zW_in 139 (by decide +kernel) (by decide +kernel)
theorem tw_142 : Cond.fieldLink "CutLengths" 12 "CutLengths" "strand" "LCutLengths$Strand;" ∈ zW := zW_in 142 (by decide +kernel) (by decide +kernel)
theorem tw_143 : Cond.fieldLink "CutLengths" 19 "CutLengths" "lengths" "LCutLengths$WantedLengths;" ∈ zW := zW_in 143 (by decide +kernel) (by decide +kernel)
theorem tw_144 : Cond.fieldLink "CutLengths" 26 "CutLengths" "plan" "LCutLengths$Plan;" ∈ zW := zW_in 144 (by decide +kernel) (by decide +kernel)
theorem tw_145 : Cond.fieldLink "CutLengths" 33 "CutLengths" "slabs" "LCutLengths$Slabs;" ∈ zW := zW_in 145 (by decide +kernel) (by decide +kernel)
theorem tw_146 : Cond.fieldLink "CutLengths" 37 "CutLengths" "millimetres" "I" ∈ zW := zW_in 146 (by decide +kernel) (by decide +kernel)
theorem tw_147 : Cond.fieldLink "CutLengths" 41 "CutLengths" "kilos" "I" ∈ zW := zW_in 147 (by decide +kernel) (by decide +kernel)
theorem tw_148 : Cond.fieldLink "CutLengths" 44 "CutLengths" "planIsOld" "Z" ∈ zW := zW_in 148 (by decide +kernel) (by decide +kernel)
theorem tw_149 : Cond.laysFinal "CutLengths" "CutLengths" "strand" "LCutLengths$Strand;" ∈ zW := zW_in 149 (by decide +kernel) (by decide +kernel)
theorem tw_151 : Cond.laysFinal "CutLengths" "CutLengths" "lengths" "LCutLengths$WantedLengths;" ∈ zW := zW_in 151 (by decide +kernel) (by decide +kernel)
theorem tw_153 : Cond.laysFinal "CutLengths" "CutLengths" "plan" "LCutLengths$Plan;" ∈ zW := zW_in 153 (by decide +kernel) (by decide +kernel)
theorem tw_155 : Cond.laysFinal "CutLengths" "CutLengths" "slabs" "LCutLengths$Slabs;" ∈ zW := zW_in 155 (by decide +kernel) (by decide +kernel)
theorem tw_157 : Cond.lays "CutLengths" "CutLengths" "millimetres" "I" ∈ zW := zW_in 157 (by decide +kernel) (by decide +kernel)
theorem tw_159 : Cond.lays "CutLengths" "CutLengths" "kilos" "I" ∈ zW := zW_in 159 (by decide +kernel) (by decide +kernel)
theorem tw_161 : Cond.lays "CutLengths" "CutLengths" "planIsOld" "Z" ∈ zW := zW_in 161 (by decide +kernel) (by decide +kernel)
theorem tw_164 : Cond.methodLink "CutLengthsLaw" 93 ⟨"CutLengths", "loss", "()I"⟩ ∈ zW := zW_in 164 (by decide +kernel) (by decide +kernel)
theorem tw_165 : Cond.instanceMethod ⟨"CutLengths", "loss", "()I"⟩ ∈ zW := zW_in 165 (by decide +kernel) (by decide +kernel)
theorem tw_166 : Cond.selects "CutLengths" ⟨"CutLengths", "loss", "()I"⟩ ⟨"CutLengths", "loss", "()I"⟩ ∈ zW := zW_in 166 (by decide +kernel) (by decide +kernel)
theorem tw_167 : Cond.code ⟨"CutLengths", "loss", "()I"⟩ prog_1_method_9_code 1 (some FieldType.int) ∈ zW := zW_in 167 (by decide +kernel) (by decide +kernel)
theorem tw_168 : Cond.methodLink "CutLengths" 129 ⟨"CutLengths", "renewPlan", "()V"⟩ ∈ zW := zW_in 168 (by decide +kernel) (by decide +kernel)
theorem tw_170 : Cond.instanceMethod ⟨"CutLengths", "renewPlan", "()V"⟩ ∈ zW := zW_in 170 (by decide +kernel) (by decide +kernel)
theorem tw_171 : Cond.code ⟨"CutLengths", "renewPlan", "()V"⟩ prog_1_method_17_code 1 none ∈ zW := zW_in 171 (by decide +kernel) (by decide +kernel)
theorem tw_172 : Cond.methodLink "CutLengths" 190 ⟨"CutLengths$Plan", "make", "(LCutLengths$Strand;LCutLengths$WantedLengths;)V"⟩ ∈ zW := zW_in 172 (by decide +kernel) (by decide +kernel)
theorem tw_173 : Cond.instanceMethod ⟨"CutLengths$Plan", "make", "(LCutLengths$Strand;LCutLengths$WantedLengths;)V"⟩ ∈ zW := zW_in 173 (by decide +kernel) (by decide +kernel)
theorem tw_174 : Cond.selects "CutLengths$Plan" ⟨"CutLengths$Plan", "make", "(LCutLengths$Strand;LCutLengths$WantedLengths;)V"⟩ ⟨"CutLengths$Plan", "make", "(LCutLengths$Strand;LCutLengths$WantedLengths;)V"⟩ ∈ zW := zW_in 174 (by decide +kernel) (by decide +kernel)
theorem tw_175 : Cond.code ⟨"CutLengths$Plan", "make", "(LCutLengths$Strand;LCutLengths$WantedLengths;)V"⟩ prog_2_method_2_code 6 none ∈ zW := zW_in 175 (by decide +kernel) (by decide +kernel)
theorem tw_176 : Cond.methodLink "CutLengths$Plan" 30 ⟨"CutLengths$Strand", "isSound", "(I)Z"⟩ ∈ zW := zW_in 176 (by decide +kernel) (by decide +kernel)
theorem tw_177 : Cond.instanceMethod ⟨"CutLengths$Strand", "isSound", "(I)Z"⟩ ∈ zW := zW_in 177 (by decide +kernel) (by decide +kernel)
theorem tw_178 : Cond.selects "CutLengths$Strand" ⟨"CutLengths$Strand", "isSound", "(I)Z"⟩ ⟨"CutLengths$Strand", "isSound", "(I)Z"⟩ ∈ zW := zW_in 178 (by decide +kernel) (by decide +kernel)
theorem tw_179 : Cond.code ⟨"CutLengths$Strand", "isSound", "(I)Z"⟩ prog_4_method_4_code 2 (some FieldType.boolean) ∈ zW := zW_in 179 (by decide +kernel) (by decide +kernel)
theorem tw_180 : Cond.methodLink "CutLengths$Plan" 34 ⟨"CutLengths$Plan", "takeScrap", "(I)V"⟩ ∈ zW := zW_in 180 (by decide +kernel) (by decide +kernel)
theorem tw_182 : Cond.instanceMethod ⟨"CutLengths$Plan", "takeScrap", "(I)V"⟩ ∈ zW := zW_in 182 (by decide +kernel) (by decide +kernel)
theorem tw_183 : Cond.code ⟨"CutLengths$Plan", "takeScrap", "(I)V"⟩ prog_2_method_4_code 3 none ∈ zW := zW_in 183 (by decide +kernel) (by decide +kernel)
theorem tw_184 : Cond.methodLink "CutLengths$Plan" 38 ⟨"CutLengths$Strand", "pieceMayBegin", "(I)Z"⟩ ∈ zW := zW_in 184 (by decide +kernel) (by decide +kernel)
theorem tw_185 : Cond.instanceMethod ⟨"CutLengths$Strand", "pieceMayBegin", "(I)Z"⟩ ∈ zW := zW_in 185 (by decide +kernel) (by decide +kernel)
theorem tw_186 : Cond.selects "CutLengths$Strand" ⟨"CutLengths$Strand", "pieceMayBegin", "(I)Z"⟩ ⟨"CutLengths$Strand", "pieceMayBegin", "(I)Z"⟩ ∈ zW := zW_in 186 (by decide +kernel) (by decide +kernel)
theorem tw_187 : Cond.code ⟨"CutLengths$Strand", "pieceMayBegin", "(I)Z"⟩ prog_4_method_5_code 2 (some FieldType.boolean) ∈ zW := zW_in 187 (by decide +kernel) (by decide +kernel)
theorem tw_188 : Cond.methodLink "CutLengths$Plan" 41 ⟨"CutLengths$Plan", "takeBestPiece", "(IIILCutLengths$Strand;LCutLengths$WantedLengths;)V"⟩ ∈ zW := zW_in 188 (by decide +kernel) (by decide +kernel)
theorem tw_190 : Cond.instanceMethod ⟨"CutLengths$Plan", "takeBestPiece", "(IIILCutLengths$Strand;LCutLengths$WantedLengths;)V"⟩ ∈ zW := zW_in 190 (by decide +kernel) (by decide +kernel)
theorem tw_191 : Cond.code ⟨"CutLengths$Plan", "takeBestPiece", "(IIILCutLengths$Strand;LCutLengths$WantedLengths;)V"⟩ prog_2_method_5_code 10 none ∈ zW := zW_in 191 (by decide +kernel) (by decide +kernel)
theorem tw_192 : Cond.methodLink "CutLengths$Plan" 45 ⟨"java/lang/Math", "min", "(II)I"⟩ ∈ zW := zW_in 192 (by decide +kernel) (by decide +kernel)
theorem tw_193 : Cond.static ⟨"java/lang/Math", "min", "(II)I"⟩ ∈ zW := zW_in 193 (by decide +kernel) (by decide +kernel)
theorem tw_194 : Cond.code ⟨"java/lang/Math", "min", "(II)I"⟩ prog_12_method_69_code 2 (some FieldType.int) ∈ zW := zW_in 194 (by decide +kernel) (by decide +kernel)
theorem tw_195 : Cond.methodLink "CutLengths$Plan" 62 ⟨"CutLengths$Strand", "pieceMayEnd", "(I)Z"⟩ ∈ zW := zW_in 195 (by decide +kernel) (by decide +kernel)
theorem tw_196 : Cond.instanceMethod ⟨"CutLengths$Strand", "pieceMayEnd", "(I)Z"⟩ ∈ zW := zW_in 196 (by decide +kernel) (by decide +kernel)
theorem tw_197 : Cond.selects "CutLengths$Strand" ⟨"CutLengths$Strand", "pieceMayEnd", "(I)Z"⟩ ⟨"CutLengths$Strand", "pieceMayEnd", "(I)Z"⟩ ∈ zW := zW_in 197 (by decide +kernel) (by decide +kernel)
theorem tw_198 : Cond.code ⟨"CutLengths$Strand", "pieceMayEnd", "(I)Z"⟩ prog_4_method_6_code 2 (some FieldType.boolean) ∈ zW := zW_in 198 (by decide +kernel) (by decide +kernel)
theorem tw_199 : Cond.methodLink "CutLengths$Plan" 65 ⟨"CutLengths$Plan", "isBetter", "(II)Z"⟩ ∈ zW := zW_in 199 (by decide +kernel) (by decide +kernel)
theorem tw_201 : Cond.instanceMethod ⟨"CutLengths$Plan", "isBetter", "(II)Z"⟩ ∈ zW := zW_in 201 (by decide +kernel) (by decide +kernel)
theorem tw_202 : Cond.code ⟨"CutLengths$Plan", "isBetter", "(II)Z"⟩ prog_2_method_7_code 5 (some FieldType.boolean) ∈ zW := zW_in 202 (by decide +kernel) (by decide +kernel)
theorem tw_203 : Cond.methodLink "CutLengths$Plan" 69 ⟨"CutLengths$Plan", "takePiece", "(III)V"⟩ ∈ zW := zW_in 203 (by decide +kernel) (by decide +kernel)
theorem tw_205 : Cond.instanceMethod ⟨"CutLengths$Plan", "takePiece", "(III)V"⟩ ∈ zW := zW_in 205 (by decide +kernel) (by decide +kernel)
theorem tw_206 : Cond.code ⟨"CutLengths$Plan", "takePiece", "(III)V"⟩ prog_2_method_6_code 4 none ∈ zW := zW_in 206 (by decide +kernel) (by decide +kernel)
theorem tw_207 : Cond.methodLink "CutLengthsLaw" 113 ⟨"CutLengths", "torch", "()I"⟩ ∈ zW := zW_in 207 (by decide +kernel) (by decide +kernel)
theorem tw_208 : Cond.instanceMethod ⟨"CutLengths", "torch", "()I"⟩ ∈ zW := zW_in 208 (by decide +kernel) (by decide +kernel)
theorem tw_209 : Cond.selects "CutLengths" ⟨"CutLengths", "torch", "()I"⟩ ⟨"CutLengths", "torch", "()I"⟩ ∈ zW := zW_in 209 (by decide +kernel) (by decide +kernel)
theorem tw_210 : Cond.code ⟨"CutLengths", "torch", "()I"⟩ prog_1_method_15_code 1 (some FieldType.int) ∈ zW := zW_in 210 (by decide +kernel) (by decide +kernel)
theorem tw_211 : Cond.methodLink "CutLengthsLaw" 63 ⟨"CutLengthsLaw", "step", "(LCutLengths;II)I"⟩ ∈ zW := zW_in 211 (by decide +kernel) (by decide +kernel)
theorem tw_212 : Cond.static ⟨"CutLengthsLaw", "step", "(LCutLengths;II)I"⟩ ∈ zW := zW_in 212 (by decide +kernel) (by decide +kernel)
theorem tw_213 : Cond.codeWith ⟨"CutLengthsLaw", "step", "(LCutLengths;II)I"⟩ method_3_code 4 (some FieldType.int) [(0, 6, 9, 13), (0, 6, 12, 15)] ∈ zW := zW_in 213 (by decide +kernel) (by decide +kernel)
theorem tw_214 : Cond.classLink "CutLengthsLaw" 13 "java/lang/IllegalStateException" ∈ zW := zW_in 214 (by decide +kernel) (by decide +kernel)
theorem tw_215 : Cond.classLink "CutLengthsLaw" 15 "java/lang/IllegalArgumentException" ∈ zW := zW_in 215 (by decide +kernel) (by decide +kernel)
theorem tw_216 : Cond.methodLink "CutLengthsLaw" 7 ⟨"CutLengths", "step", "(II)V"⟩ ∈ zW := zW_in 216 (by decide +kernel) (by decide +kernel)
theorem tw_217 : Cond.instanceMethod ⟨"CutLengths", "step", "(II)V"⟩ ∈ zW := zW_in 217 (by decide +kernel) (by decide +kernel)
theorem tw_218 : Cond.selects "CutLengths" ⟨"CutLengths", "step", "(II)V"⟩ ⟨"CutLengths", "step", "(II)V"⟩ ∈ zW := zW_in 218 (by decide +kernel) (by decide +kernel)
theorem tw_219 : Cond.code ⟨"CutLengths", "step", "(II)V"⟩ prog_1_method_2_code 3 none ∈ zW := zW_in 219 (by decide +kernel) (by decide +kernel)
theorem tw_220 : Cond.classLink "CutLengths" 51 "java/lang/IllegalStateException" ∈ zW := zW_in 220 (by decide +kernel) (by decide +kernel)
theorem tw_221 : Cond.instantiable "java/lang/IllegalStateException" 6 ∈ zW := zW_in 221 (by decide +kernel) (by decide +kernel)
theorem tw_263 : Cond.methodLink "CutLengths" 55 ⟨"java/lang/IllegalStateException", "<init>", "(Ljava/lang/String;)V"⟩ ∈ zW := zW_in 263 (by decide +kernel) (by decide +kernel)
theorem tw_264 : Cond.instanceMethod ⟨"java/lang/IllegalStateException", "<init>", "(Ljava/lang/String;)V"⟩ ∈ zW := zW_in 264 (by decide +kernel) (by decide +kernel)
theorem tw_265 : Cond.code ⟨"java/lang/IllegalStateException", "<init>", "(Ljava/lang/String;)V"⟩ prog_10_method_2_code 2 none ∈ zW := zW_in 265 (by decide +kernel) (by decide +kernel)
theorem tw_266 : Cond.methodLink "java/lang/IllegalStateException" 7 ⟨"java/lang/RuntimeException", "<init>", "(Ljava/lang/String;)V"⟩ ∈ zW := zW_in 266 (by decide +kernel) (by decide +kernel)
theorem tw_267 : Cond.instanceMethod ⟨"java/lang/RuntimeException", "<init>", "(Ljava/lang/String;)V"⟩ ∈ zW := zW_in 267 (by decide +kernel) (by decide +kernel)
theorem tw_268 : Cond.code ⟨"java/lang/RuntimeException", "<init>", "(Ljava/lang/String;)V"⟩ prog_13_method_2_code 2 none ∈ zW := zW_in 268 (by decide +kernel) (by decide +kernel)
theorem tw_269 : Cond.methodLink "java/lang/RuntimeException" 7 ⟨"java/lang/Exception", "<init>", "(Ljava/lang/String;)V"⟩ ∈ zW := zW_in 269 (by decide +kernel) (by decide +kernel)
theorem tw_270 : Cond.instanceMethod ⟨"java/lang/Exception", "<init>", "(Ljava/lang/String;)V"⟩ ∈ zW := zW_in 270 (by decide +kernel) (by decide +kernel)
theorem tw_271 : Cond.code ⟨"java/lang/Exception", "<init>", "(Ljava/lang/String;)V"⟩ prog_8_method_2_code 2 none ∈ zW := zW_in 271 (by decide +kernel) (by decide +kernel)
theorem tw_288 : Cond.arrayClass FieldType.byte ∈ zW := zW_in 288 (by decide +kernel) (by decide +kernel)
theorem tw_289 : Cond.constant "CutLengths" 58 65536 ∈ zW := zW_in 289 (by decide +kernel) (by decide +kernel)
theorem tw_290 : Cond.methodLink "CutLengths" 59 ⟨"CutLengths", "isOutside", "(III)Z"⟩ ∈ zW := zW_in 290 (by decide +kernel) (by decide +kernel)
theorem tw_291 : Cond.static ⟨"CutLengths", "isOutside", "(III)Z"⟩ ∈ zW := zW_in 291 (by decide +kernel) (by decide +kernel)
theorem tw_292 : Cond.code ⟨"CutLengths", "isOutside", "(III)Z"⟩ prog_1_method_19_code 3 (some FieldType.boolean) ∈ zW := zW_in 292 (by decide +kernel) (by decide +kernel)
theorem tw_293 : Cond.constant "CutLengths" 63 100000 ∈ zW := zW_in 293 (by decide +kernel) (by decide +kernel)
theorem tw_294 : Cond.classLink "CutLengths" 64 "java/lang/IllegalArgumentException" ∈ zW := zW_in 294 (by decide +kernel) (by decide +kernel)
theorem tw_295 : Cond.instantiable "java/lang/IllegalArgumentException" 6 ∈ zW := zW_in 295 (by decide +kernel) (by decide +kernel)
theorem tw_304 : Cond.methodLink "CutLengths" 68 ⟨"java/lang/IllegalArgumentException", "<init>", "(Ljava/lang/String;)V"⟩ ∈ zW := zW_in 304 (by decide +kernel) (by decide +kernel)
theorem tw_305 : Cond.instanceMethod ⟨"java/lang/IllegalArgumentException", "<init>", "(Ljava/lang/String;)V"⟩ ∈ zW := zW_in 305 (by decide +kernel) (by decide +kernel)
theorem tw_306 : Cond.code ⟨"java/lang/IllegalArgumentException", "<init>", "(Ljava/lang/String;)V"⟩ prog_9_method_2_code 2 none ∈ zW := zW_in 306 (by decide +kernel) (by decide +kernel)
theorem tw_307 : Cond.methodLink "java/lang/IllegalArgumentException" 7 ⟨"java/lang/RuntimeException", "<init>", "(Ljava/lang/String;)V"⟩ ∈ zW := zW_in 307 (by decide +kernel) (by decide +kernel)
theorem tw_310 : Cond.methodLink "CutLengthsLaw" 72 ⟨"CutLengthsLaw", "cast", "(LCutLengths;I[J)I"⟩ ∈ zW := zW_in 310 (by decide +kernel) (by decide +kernel)
theorem tw_311 : Cond.static ⟨"CutLengthsLaw", "cast", "(LCutLengths;I[J)I"⟩ ∈ zW := zW_in 311 (by decide +kernel) (by decide +kernel)
theorem tw_312 : Cond.codeWith ⟨"CutLengthsLaw", "cast", "(LCutLengths;I[J)I"⟩ method_4_code 4 (some FieldType.int) [(0, 9, 12, 15), (0, 9, 15, 21)] ∈ zW := zW_in 312 (by decide +kernel) (by decide +kernel)
theorem tw_313 : Cond.classLink "CutLengthsLaw" 21 "java/lang/UnsupportedOperationException" ∈ zW := zW_in 313 (by decide +kernel) (by decide +kernel)
theorem tw_314 : Cond.methodLink "CutLengthsLaw" 17 ⟨"CutLengths", "cast", "(I)I"⟩ ∈ zW := zW_in 314 (by decide +kernel) (by decide +kernel)
theorem tw_315 : Cond.instanceMethod ⟨"CutLengths", "cast", "(I)I"⟩ ∈ zW := zW_in 315 (by decide +kernel) (by decide +kernel)
theorem tw_316 : Cond.selects "CutLengths" ⟨"CutLengths", "cast", "(I)I"⟩ ⟨"CutLengths", "cast", "(I)I"⟩ ∈ zW := zW_in 316 (by decide +kernel) (by decide +kernel)
theorem tw_317 : Cond.code ⟨"CutLengths", "cast", "(I)I"⟩ prog_1_method_3_code 2 (some FieldType.int) ∈ zW := zW_in 317 (by decide +kernel) (by decide +kernel)
theorem tw_319 : Cond.classLink "CutLengths" 74 "java/lang/UnsupportedOperationException" ∈ zW := zW_in 319 (by decide +kernel) (by decide +kernel)
theorem tw_320 : Cond.instantiable "java/lang/UnsupportedOperationException" 6 ∈ zW := zW_in 320 (by decide +kernel) (by decide +kernel)
theorem tw_329 : Cond.methodLink "CutLengths" 78 ⟨"java/lang/UnsupportedOperationException", "<init>", "(Ljava/lang/String;)V"⟩ ∈ zW := zW_in 329 (by decide +kernel) (by decide +kernel)
theorem tw_330 : Cond.instanceMethod ⟨"java/lang/UnsupportedOperationException", "<init>", "(Ljava/lang/String;)V"⟩ ∈ zW := zW_in 330 (by decide +kernel) (by decide +kernel)
theorem tw_331 : Cond.code ⟨"java/lang/UnsupportedOperationException", "<init>", "(Ljava/lang/String;)V"⟩ prog_16_method_2_code 2 none ∈ zW := zW_in 331 (by decide +kernel) (by decide +kernel)
theorem tw_332 : Cond.methodLink "java/lang/UnsupportedOperationException" 7 ⟨"java/lang/RuntimeException", "<init>", "(Ljava/lang/String;)V"⟩ ∈ zW := zW_in 332 (by decide +kernel) (by decide +kernel)
theorem tw_335 : Cond.methodLink "CutLengthsLaw" 76 ⟨"CutLengthsLaw", "want", "(LCutLengths;II[J)I"⟩ ∈ zW := zW_in 335 (by decide +kernel) (by decide +kernel)
theorem tw_336 : Cond.static ⟨"CutLengthsLaw", "want", "(LCutLengths;II[J)I"⟩ ∈ zW := zW_in 336 (by decide +kernel) (by decide +kernel)
theorem tw_337 : Cond.codeWith ⟨"CutLengthsLaw", "want", "(LCutLengths;II[J)I"⟩ method_5_code 5 (some FieldType.int) [(0, 10, 13, 13), (0, 10, 17, 15)] ∈ zW := zW_in 337 (by decide +kernel) (by decide +kernel)
theorem tw_338 : Cond.methodLink "CutLengthsLaw" 23 ⟨"CutLengths", "want", "(II)I"⟩ ∈ zW := zW_in 338 (by decide +kernel) (by decide +kernel)
theorem tw_339 : Cond.instanceMethod ⟨"CutLengths", "want", "(II)I"⟩ ∈ zW := zW_in 339 (by decide +kernel) (by decide +kernel)
theorem tw_340 : Cond.selects "CutLengths" ⟨"CutLengths", "want", "(II)I"⟩ ⟨"CutLengths", "want", "(II)I"⟩ ∈ zW := zW_in 340 (by decide +kernel) (by decide +kernel)
theorem tw_341 : Cond.code ⟨"CutLengths", "want", "(II)I"⟩ prog_1_method_4_code 4 (some FieldType.int) ∈ zW := zW_in 341 (by decide +kernel) (by decide +kernel)
theorem tw_343 : Cond.methodLink "CutLengths" 82 ⟨"CutLengths", "isSpan", "(II)Z"⟩ ∈ zW := zW_in 343 (by decide +kernel) (by decide +kernel)
theorem tw_344 : Cond.static ⟨"CutLengths", "isSpan", "(II)Z"⟩ ∈ zW := zW_in 344 (by decide +kernel) (by decide +kernel)
theorem tw_345 : Cond.code ⟨"CutLengths", "isSpan", "(II)Z"⟩ prog_1_method_20_code 2 (some FieldType.boolean) ∈ zW := zW_in 345 (by decide +kernel) (by decide +kernel)
theorem tw_347 : Cond.methodLink "CutLengths" 88 ⟨"CutLengths", "tellSpan", "(III)V"⟩ ∈ zW := zW_in 347 (by decide +kernel) (by decide +kernel)
theorem tw_349 : Cond.instanceMethod ⟨"CutLengths", "tellSpan", "(III)V"⟩ ∈ zW := zW_in 349 (by decide +kernel) (by decide +kernel)
theorem tw_350 : Cond.code ⟨"CutLengths", "tellSpan", "(III)V"⟩ prog_1_method_16_code 4 none ∈ zW := zW_in 350 (by decide +kernel) (by decide +kernel)
theorem tw_351 : Cond.methodLink "CutLengthsLaw" 80 ⟨"CutLengthsLaw", "span", "(LCutLengths;III)I"⟩ ∈ zW := zW_in 351 (by decide +kernel) (by decide +kernel)
theorem tw_352 : Cond.static ⟨"CutLengthsLaw", "span", "(LCutLengths;III)I"⟩ ∈ zW := zW_in 352 (by decide +kernel) (by decide +kernel)
theorem tw_353 : Cond.codeWith ⟨"CutLengthsLaw", "span", "(LCutLengths;III)I"⟩ method_6_code 5 (some FieldType.int) [(0, 7, 10, 31), (0, 7, 14, 15)] ∈ zW := zW_in 353 (by decide +kernel) (by decide +kernel)
theorem tw_354 : Cond.classLink "CutLengthsLaw" 31 "java/lang/IndexOutOfBoundsException" ∈ zW := zW_in 354 (by decide +kernel) (by decide +kernel)
theorem tw_355 : Cond.methodLink "CutLengthsLaw" 27 ⟨"CutLengths", "span", "(III)V"⟩ ∈ zW := zW_in 355 (by decide +kernel) (by decide +kernel)
theorem tw_356 : Cond.instanceMethod ⟨"CutLengths", "span", "(III)V"⟩ ∈ zW := zW_in 356 (by decide +kernel) (by decide +kernel)
theorem tw_357 : Cond.selects "CutLengths" ⟨"CutLengths", "span", "(III)V"⟩ ⟨"CutLengths", "span", "(III)V"⟩ ∈ zW := zW_in 357 (by decide +kernel) (by decide +kernel)
theorem tw_358 : Cond.code ⟨"CutLengths", "span", "(III)V"⟩ prog_1_method_5_code 4 none ∈ zW := zW_in 358 (by decide +kernel) (by decide +kernel)
theorem tw_359 : Cond.classLink "CutLengths" 92 "java/lang/IndexOutOfBoundsException" ∈ zW := zW_in 359 (by decide +kernel) (by decide +kernel)
theorem tw_360 : Cond.instantiable "java/lang/IndexOutOfBoundsException" 6 ∈ zW := zW_in 360 (by decide +kernel) (by decide +kernel)
theorem tw_369 : Cond.methodLink "CutLengths" 96 ⟨"java/lang/IndexOutOfBoundsException", "<init>", "(Ljava/lang/String;)V"⟩ ∈ zW := zW_in 369 (by decide +kernel) (by decide +kernel)
theorem tw_370 : Cond.instanceMethod ⟨"java/lang/IndexOutOfBoundsException", "<init>", "(Ljava/lang/String;)V"⟩ ∈ zW := zW_in 370 (by decide +kernel) (by decide +kernel)
theorem tw_371 : Cond.code ⟨"java/lang/IndexOutOfBoundsException", "<init>", "(Ljava/lang/String;)V"⟩ prog_11_method_2_code 2 none ∈ zW := zW_in 371 (by decide +kernel) (by decide +kernel)
theorem tw_372 : Cond.methodLink "java/lang/IndexOutOfBoundsException" 7 ⟨"java/lang/RuntimeException", "<init>", "(Ljava/lang/String;)V"⟩ ∈ zW := zW_in 372 (by decide +kernel) (by decide +kernel)
theorem tw_375 : Cond.methodLink "CutLengthsLaw" 84 ⟨"CutLengthsLaw", "trim", "(LCutLengths;II)I"⟩ ∈ zW := zW_in 375 (by decide +kernel) (by decide +kernel)
theorem tw_376 : Cond.static ⟨"CutLengthsLaw", "trim", "(LCutLengths;II)I"⟩ ∈ zW := zW_in 376 (by decide +kernel) (by decide +kernel)
theorem tw_377 : Cond.codeWith ⟨"CutLengthsLaw", "trim", "(LCutLengths;II)I"⟩ method_7_code 4 (some FieldType.int) [(0, 6, 9, 15)] ∈ zW := zW_in 377 (by decide +kernel) (by decide +kernel)
theorem tw_378 : Cond.methodLink "CutLengthsLaw" 33 ⟨"CutLengths", "trim", "(II)V"⟩ ∈ zW := zW_in 378 (by decide +kernel) (by decide +kernel)
theorem tw_379 : Cond.instanceMethod ⟨"CutLengths", "trim", "(II)V"⟩ ∈ zW := zW_in 379 (by decide +kernel) (by decide +kernel)
theorem tw_380 : Cond.selects "CutLengths" ⟨"CutLengths", "trim", "(II)V"⟩ ⟨"CutLengths", "trim", "(II)V"⟩ ∈ zW := zW_in 380 (by decide +kernel) (by decide +kernel)
theorem tw_381 : Cond.code ⟨"CutLengths", "trim", "(II)V"⟩ prog_1_method_6_code 3 none ∈ zW := zW_in 381 (by decide +kernel) (by decide +kernel)
theorem tw_383 : Cond.methodLink "CutLengthsLaw" 87 ⟨"CutLengthsLaw", "bad", "(LCutLengths;II[J)I"⟩ ∈ zW := zW_in 383 (by decide +kernel) (by decide +kernel)
theorem tw_384 : Cond.static ⟨"CutLengthsLaw", "bad", "(LCutLengths;II[J)I"⟩ ∈ zW := zW_in 384 (by decide +kernel) (by decide +kernel)
theorem tw_385 : Cond.codeWith ⟨"CutLengthsLaw", "bad", "(LCutLengths;II[J)I"⟩ method_8_code 5 (some FieldType.int) [(0, 10, 13, 13), (0, 10, 17, 15)] ∈ zW := zW_in 385 (by decide +kernel) (by decide +kernel)
theorem tw_386 : Cond.methodLink "CutLengthsLaw" 36 ⟨"CutLengths", "bad", "(II)I"⟩ ∈ zW := zW_in 386 (by decide +kernel) (by decide +kernel)
theorem tw_387 : Cond.instanceMethod ⟨"CutLengths", "bad", "(II)I"⟩ ∈ zW := zW_in 387 (by decide +kernel) (by decide +kernel)
theorem tw_388 : Cond.selects "CutLengths" ⟨"CutLengths", "bad", "(II)I"⟩ ⟨"CutLengths", "bad", "(II)I"⟩ ∈ zW := zW_in 388 (by decide +kernel) (by decide +kernel)
theorem tw_389 : Cond.code ⟨"CutLengths", "bad", "(II)I"⟩ prog_1_method_7_code 3 (some FieldType.int) ∈ zW := zW_in 389 (by decide +kernel) (by decide +kernel)
theorem tw_391 : Cond.methodLink "CutLengths" 110 ⟨"CutLengths", "isStretch", "(II)Z"⟩ ∈ zW := zW_in 391 (by decide +kernel) (by decide +kernel)
theorem tw_392 : Cond.static ⟨"CutLengths", "isStretch", "(II)Z"⟩ ∈ zW := zW_in 392 (by decide +kernel) (by decide +kernel)
theorem tw_393 : Cond.code ⟨"CutLengths", "isStretch", "(II)Z"⟩ prog_1_method_21_code 2 (some FieldType.boolean) ∈ zW := zW_in 393 (by decide +kernel) (by decide +kernel)
theorem tw_395 : Cond.methodLink "CutLengths" 115 ⟨"CutLengths$Strand", "markBad", "(II)V"⟩ ∈ zW := zW_in 395 (by decide +kernel) (by decide +kernel)
theorem tw_396 : Cond.instanceMethod ⟨"CutLengths$Strand", "markBad", "(II)V"⟩ ∈ zW := zW_in 396 (by decide +kernel) (by decide +kernel)
theorem tw_397 : Cond.selects "CutLengths$Strand" ⟨"CutLengths$Strand", "markBad", "(II)V"⟩ ⟨"CutLengths$Strand", "markBad", "(II)V"⟩ ∈ zW := zW_in 397 (by decide +kernel) (by decide +kernel)
theorem tw_398 : Cond.code ⟨"CutLengths$Strand", "markBad", "(II)V"⟩ prog_4_method_2_code 4 none ∈ zW := zW_in 398 (by decide +kernel) (by decide +kernel)
theorem tw_399 : Cond.methodLink "CutLengthsLaw" 90 ⟨"CutLengthsLaw", "bar", "(LCutLengths;II[J)I"⟩ ∈ zW := zW_in 399 (by decide +kernel) (by decide +kernel)
theorem tw_400 : Cond.static ⟨"CutLengthsLaw", "bar", "(LCutLengths;II[J)I"⟩ ∈ zW := zW_in 400 (by decide +kernel) (by decide +kernel)
theorem tw_401 : Cond.codeWith ⟨"CutLengthsLaw", "bar", "(LCutLengths;II[J)I"⟩ method_9_code 5 (some FieldType.int) [(0, 10, 13, 13), (0, 10, 17, 15)] ∈ zW := zW_in 401 (by decide +kernel) (by decide +kernel)
theorem tw_402 : Cond.methodLink "CutLengthsLaw" 39 ⟨"CutLengths", "bar", "(II)I"⟩ ∈ zW := zW_in 402 (by decide +kernel) (by decide +kernel)
theorem tw_403 : Cond.instanceMethod ⟨"CutLengths", "bar", "(II)I"⟩ ∈ zW := zW_in 403 (by decide +kernel) (by decide +kernel)
theorem tw_404 : Cond.selects "CutLengths" ⟨"CutLengths", "bar", "(II)I"⟩ ⟨"CutLengths", "bar", "(II)I"⟩ ∈ zW := zW_in 404 (by decide +kernel) (by decide +kernel)
theorem tw_405 : Cond.code ⟨"CutLengths", "bar", "(II)I"⟩ prog_1_method_8_code 3 (some FieldType.int) ∈ zW := zW_in 405 (by decide +kernel) (by decide +kernel)
theorem tw_408 : Cond.methodLink "CutLengths" 126 ⟨"CutLengths$Strand", "markBarred", "(II)V"⟩ ∈ zW := zW_in 408 (by decide +kernel) (by decide +kernel)
theorem tw_409 : Cond.instanceMethod ⟨"CutLengths$Strand", "markBarred", "(II)V"⟩ ∈ zW := zW_in 409 (by decide +kernel) (by decide +kernel)
theorem tw_410 : Cond.selects "CutLengths$Strand" ⟨"CutLengths$Strand", "markBarred", "(II)V"⟩ ⟨"CutLengths$Strand", "markBarred", "(II)V"⟩ ∈ zW := zW_in 410 (by decide +kernel) (by decide +kernel)
theorem tw_411 : Cond.code ⟨"CutLengths$Strand", "markBarred", "(II)V"⟩ prog_4_method_3_code 4 none ∈ zW := zW_in 411 (by decide +kernel) (by decide +kernel)
theorem tw_412 : Cond.methodLink "CutLengthsLaw" 97 ⟨"CutLengthsLaw", "part", "(LCutLengths;II[J)I"⟩ ∈ zW := zW_in 412 (by decide +kernel) (by decide +kernel)
theorem tw_413 : Cond.static ⟨"CutLengthsLaw", "part", "(LCutLengths;II[J)I"⟩ ∈ zW := zW_in 413 (by decide +kernel) (by decide +kernel)
theorem tw_414 : Cond.codeWith ⟨"CutLengthsLaw", "part", "(LCutLengths;II[J)I"⟩ method_10_code 5 (some FieldType.int) [(0, 10, 13, 31)] ∈ zW := zW_in 414 (by decide +kernel) (by decide +kernel)
theorem tw_415 : Cond.methodLink "CutLengthsLaw" 42 ⟨"CutLengths", "part", "(II)I"⟩ ∈ zW := zW_in 415 (by decide +kernel) (by decide +kernel)
theorem tw_416 : Cond.instanceMethod ⟨"CutLengths", "part", "(II)I"⟩ ∈ zW := zW_in 416 (by decide +kernel) (by decide +kernel)
theorem tw_417 : Cond.selects "CutLengths" ⟨"CutLengths", "part", "(II)I"⟩ ⟨"CutLengths", "part", "(II)I"⟩ ∈ zW := zW_in 417 (by decide +kernel) (by decide +kernel)
theorem tw_418 : Cond.code ⟨"CutLengths", "part", "(II)I"⟩ prog_1_method_10_code 4 (some FieldType.int) ∈ zW := zW_in 418 (by decide +kernel) (by decide +kernel)
theorem tw_419 : Cond.methodLink "CutLengths" 139 ⟨"CutLengths", "isWhat", "(I)Z"⟩ ∈ zW := zW_in 419 (by decide +kernel) (by decide +kernel)
theorem tw_420 : Cond.static ⟨"CutLengths", "isWhat", "(I)Z"⟩ ∈ zW := zW_in 420 (by decide +kernel) (by decide +kernel)
theorem tw_421 : Cond.code ⟨"CutLengths", "isWhat", "(I)Z"⟩ prog_1_method_22_code 1 (some FieldType.boolean) ∈ zW := zW_in 421 (by decide +kernel) (by decide +kernel)
theorem tw_423 : Cond.methodLink "CutLengths" 145 ⟨"CutLengths$Plan", "beginOfPart", "(ILCutLengths$Strand;)I"⟩ ∈ zW := zW_in 423 (by decide +kernel) (by decide +kernel)
theorem tw_424 : Cond.instanceMethod ⟨"CutLengths$Plan", "beginOfPart", "(ILCutLengths$Strand;)I"⟩ ∈ zW := zW_in 424 (by decide +kernel) (by decide +kernel)
theorem tw_425 : Cond.selects "CutLengths$Plan" ⟨"CutLengths$Plan", "beginOfPart", "(ILCutLengths$Strand;)I"⟩ ⟨"CutLengths$Plan", "beginOfPart", "(ILCutLengths$Strand;)I"⟩ ∈ zW := zW_in 425 (by decide +kernel) (by decide +kernel)
theorem tw_426 : Cond.code ⟨"CutLengths$Plan", "beginOfPart", "(ILCutLengths$Strand;)I"⟩ prog_2_method_3_code 6 (some FieldType.int) ∈ zW := zW_in 426 (by decide +kernel) (by decide +kernel)
theorem tw_427 : Cond.methodLink "CutLengths" 155 ⟨"CutLengths", "pick", "(IIII)I"⟩ ∈ zW := zW_in 427 (by decide +kernel) (by decide +kernel)
theorem tw_428 : Cond.static ⟨"CutLengths", "pick", "(IIII)I"⟩ ∈ zW := zW_in 428 (by decide +kernel) (by decide +kernel)
theorem tw_429 : Cond.code ⟨"CutLengths", "pick", "(IIII)I"⟩ prog_1_method_23_code 4 (some FieldType.int) ∈ zW := zW_in 429 (by decide +kernel) (by decide +kernel)
theorem tw_430 : Cond.methodLink "CutLengthsLaw" 100 ⟨"CutLengthsLaw", "cut", "(LCutLengths;[J)I"⟩ ∈ zW := zW_in 430 (by decide +kernel) (by decide +kernel)
theorem tw_431 : Cond.static ⟨"CutLengthsLaw", "cut", "(LCutLengths;[J)I"⟩ ∈ zW := zW_in 431 (by decide +kernel) (by decide +kernel)
theorem tw_432 : Cond.codeWith ⟨"CutLengthsLaw", "cut", "(LCutLengths;[J)I"⟩ method_11_code 3 (some FieldType.int) [(0, 8, 11, 13), (0, 8, 14, 21)] ∈ zW := zW_in 432 (by decide +kernel) (by decide +kernel)
theorem tw_433 : Cond.methodLink "CutLengthsLaw" 45 ⟨"CutLengths", "cut", "()I"⟩ ∈ zW := zW_in 433 (by decide +kernel) (by decide +kernel)
theorem tw_434 : Cond.instanceMethod ⟨"CutLengths", "cut", "()I"⟩ ∈ zW := zW_in 434 (by decide +kernel) (by decide +kernel)
theorem tw_435 : Cond.selects "CutLengths" ⟨"CutLengths", "cut", "()I"⟩ ⟨"CutLengths", "cut", "()I"⟩ ∈ zW := zW_in 435 (by decide +kernel) (by decide +kernel)
theorem tw_436 : Cond.code ⟨"CutLengths", "cut", "()I"⟩ prog_1_method_11_code 3 (some FieldType.int) ∈ zW := zW_in 436 (by decide +kernel) (by decide +kernel)
theorem tw_439 : Cond.methodLink "CutLengths" 163 ⟨"CutLengths$Slabs", "append", "(III)V"⟩ ∈ zW := zW_in 439 (by decide +kernel) (by decide +kernel)
theorem tw_440 : Cond.instanceMethod ⟨"CutLengths$Slabs", "append", "(III)V"⟩ ∈ zW := zW_in 440 (by decide +kernel) (by decide +kernel)
theorem tw_441 : Cond.selects "CutLengths$Slabs" ⟨"CutLengths$Slabs", "append", "(III)V"⟩ ⟨"CutLengths$Slabs", "append", "(III)V"⟩ ∈ zW := zW_in 441 (by decide +kernel) (by decide +kernel)
theorem tw_442 : Cond.code ⟨"CutLengths$Slabs", "append", "(III)V"⟩ prog_3_method_2_code 4 none ∈ zW := zW_in 442 (by decide +kernel) (by decide +kernel)
theorem tw_443 : Cond.methodLink "CutLengthsLaw" 104 ⟨"CutLengthsLaw", "slab", "(LCutLengths;II[J)I"⟩ ∈ zW := zW_in 443 (by decide +kernel) (by decide +kernel)
theorem tw_444 : Cond.static ⟨"CutLengthsLaw", "slab", "(LCutLengths;II[J)I"⟩ ∈ zW := zW_in 444 (by decide +kernel) (by decide +kernel)
theorem tw_445 : Cond.codeWith ⟨"CutLengthsLaw", "slab", "(LCutLengths;II[J)I"⟩ method_12_code 5 (some FieldType.int) [(0, 10, 13, 31)] ∈ zW := zW_in 445 (by decide +kernel) (by decide +kernel)
theorem tw_446 : Cond.methodLink "CutLengthsLaw" 49 ⟨"CutLengths", "slab", "(II)I"⟩ ∈ zW := zW_in 446 (by decide +kernel) (by decide +kernel)
theorem tw_447 : Cond.instanceMethod ⟨"CutLengths", "slab", "(II)I"⟩ ∈ zW := zW_in 447 (by decide +kernel) (by decide +kernel)
theorem tw_448 : Cond.selects "CutLengths" ⟨"CutLengths", "slab", "(II)I"⟩ ⟨"CutLengths", "slab", "(II)I"⟩ ∈ zW := zW_in 448 (by decide +kernel) (by decide +kernel)
theorem tw_449 : Cond.code ⟨"CutLengths", "slab", "(II)I"⟩ prog_1_method_12_code 3 (some FieldType.int) ∈ zW := zW_in 449 (by decide +kernel) (by decide +kernel)
theorem tw_450 : Cond.methodLink "CutLengths" 166 ⟨"CutLengths", "isSlab", "(I)Z"⟩ ∈ zW := zW_in 450 (by decide +kernel) (by decide +kernel)
theorem tw_452 : Cond.instanceMethod ⟨"CutLengths", "isSlab", "(I)Z"⟩ ∈ zW := zW_in 452 (by decide +kernel) (by decide +kernel)
theorem tw_453 : Cond.code ⟨"CutLengths", "isSlab", "(I)Z"⟩ prog_1_method_18_code 2 (some FieldType.boolean) ∈ zW := zW_in 453 (by decide +kernel) (by decide +kernel)
theorem tw_455 : Cond.methodLink "CutLengthsLaw" 107 ⟨"CutLengthsLaw", "weight", "(LCutLengths;I[J)I"⟩ ∈ zW := zW_in 455 (by decide +kernel) (by decide +kernel)
theorem tw_456 : Cond.static ⟨"CutLengthsLaw", "weight", "(LCutLengths;I[J)I"⟩ ∈ zW := zW_in 456 (by decide +kernel) (by decide +kernel)
theorem tw_457 : Cond.codeWith ⟨"CutLengthsLaw", "weight", "(LCutLengths;I[J)I"⟩ method_13_code 4 (some FieldType.int) [(0, 8, 11, 31)] ∈ zW := zW_in 457 (by decide +kernel) (by decide +kernel)
theorem tw_458 : Cond.methodLink "CutLengthsLaw" 52 ⟨"CutLengths", "weight", "(I)J"⟩ ∈ zW := zW_in 458 (by decide +kernel) (by decide +kernel)
theorem tw_459 : Cond.instanceMethod ⟨"CutLengths", "weight", "(I)J"⟩ ∈ zW := zW_in 459 (by decide +kernel) (by decide +kernel)
theorem tw_460 : Cond.selects "CutLengths" ⟨"CutLengths", "weight", "(I)J"⟩ ⟨"CutLengths", "weight", "(I)J"⟩ ∈ zW := zW_in 460 (by decide +kernel) (by decide +kernel)
theorem tw_461 : Cond.code ⟨"CutLengths", "weight", "(I)J"⟩ prog_1_method_13_code 4 (some FieldType.long) ∈ zW := zW_in 461 (by decide +kernel) (by decide +kernel)
theorem tw_463 : Cond.constantLong "CutLengths" 178 1000 ∈ zW := zW_in 463 (by decide +kernel) (by decide +kernel)
theorem tw_464 : Cond.methodLink "CutLengthsLaw" 110 ⟨"CutLengthsLaw", "count", "(LCutLengths;I[J)I"⟩ ∈ zW := zW_in 464 (by decide +kernel) (by decide +kernel)
theorem tw_465 : Cond.static ⟨"CutLengthsLaw", "count", "(LCutLengths;I[J)I"⟩ ∈ zW := zW_in 465 (by decide +kernel) (by decide +kernel)
theorem tw_466 : Cond.codeWith ⟨"CutLengthsLaw", "count", "(LCutLengths;I[J)I"⟩ method_14_code 4 (some FieldType.int) [(0, 9, 12, 31)] ∈ zW := zW_in 466 (by decide +kernel) (by decide +kernel)
theorem tw_467 : Cond.methodLink "CutLengthsLaw" 56 ⟨"CutLengths", "count", "(I)I"⟩ ∈ zW := zW_in 467 (by decide +kernel) (by decide +kernel)
theorem tw_468 : Cond.instanceMethod ⟨"CutLengths", "count", "(I)I"⟩ ∈ zW := zW_in 468 (by decide +kernel) (by decide +kernel)
theorem tw_469 : Cond.selects "CutLengths" ⟨"CutLengths", "count", "(I)I"⟩ ⟨"CutLengths", "count", "(I)I"⟩ ∈ zW := zW_in 469 (by decide +kernel) (by decide +kernel)
theorem tw_470 : Cond.code ⟨"CutLengths", "count", "(I)I"⟩ prog_1_method_14_code 2 (some FieldType.int) ∈ zW := zW_in 470 (by decide +kernel) (by decide +kernel)
theorem tw_471 : Cond.methodLink "CutLengths" 180 ⟨"CutLengths$Slabs", "howManyOf", "(I)I"⟩ ∈ zW := zW_in 471 (by decide +kernel) (by decide +kernel)
theorem tw_472 : Cond.instanceMethod ⟨"CutLengths$Slabs", "howManyOf", "(I)I"⟩ ∈ zW := zW_in 472 (by decide +kernel) (by decide +kernel)
theorem tw_473 : Cond.selects "CutLengths$Slabs" ⟨"CutLengths$Slabs", "howManyOf", "(I)I"⟩ ⟨"CutLengths$Slabs", "howManyOf", "(I)I"⟩ ∈ zW := zW_in 473 (by decide +kernel) (by decide +kernel)
theorem tw_474 : Cond.code ⟨"CutLengths$Slabs", "howManyOf", "(I)I"⟩ prog_3_method_3_code 4 (some FieldType.int) ∈ zW := zW_in 474 (by decide +kernel) (by decide +kernel)
theorem tw_475 : Cond.classLink "CutLengthsLaw" 60 "CutLengthsModel" ∈ zW := zW_in 475 (by decide +kernel) (by decide +kernel)
theorem tw_476 : Cond.instantiable "CutLengthsModel" 24 ∈ zW := zW_in 476 (by decide +kernel) (by decide +kernel)
theorem tw_477 : Cond.methodLink "CutLengthsLaw" 62 ⟨"CutLengthsModel", "<init>", "()V"⟩ ∈ zW := zW_in 477 (by decide +kernel) (by decide +kernel)
theorem tw_478 : Cond.instanceMethod ⟨"CutLengthsModel", "<init>", "()V"⟩ ∈ zW := zW_in 478 (by decide +kernel) (by decide +kernel)
theorem tw_479 : Cond.code ⟨"CutLengthsModel", "<init>", "()V"⟩ prog_7_method_1_code 1 none ∈ zW := zW_in 479 (by decide +kernel) (by decide +kernel)
theorem tw_480 : Cond.methodLink "CutLengthsModel" 1 ⟨"java/lang/Object", "<init>", "()V"⟩ ∈ zW := zW_in 480 (by decide +kernel) (by decide +kernel)
theorem tw_481 : Cond.fieldLink "CutLengthsModel" 56 "CutLengthsModel" "thrown" "I" ∈ zW := zW_in 481 (by decide +kernel) (by decide +kernel)
theorem tw_482 : Cond.fieldLink "CutLengthsModel" 7 "CutLengthsModel" "millimetres" "I" ∈ zW := zW_in 482 (by decide +kernel) (by decide +kernel)
theorem tw_483 : Cond.fieldLink "CutLengthsModel" 13 "CutLengthsModel" "kilos" "I" ∈ zW := zW_in 483 (by decide +kernel) (by decide +kernel)
theorem tw_484 : Cond.fieldLink "CutLengthsModel" 72 "CutLengthsModel" "n" "I" ∈ zW := zW_in 484 (by decide +kernel) (by decide +kernel)
theorem tw_485 : Cond.fieldLink "CutLengthsModel" 97 "CutLengthsModel" "torch" "I" ∈ zW := zW_in 485 (by decide +kernel) (by decide +kernel)
theorem tw_486 : Cond.fieldLink "CutLengthsModel" 82 "CutLengthsModel" "front" "I" ∈ zW := zW_in 486 (by decide +kernel) (by decide +kernel)
theorem tw_487 : Cond.fieldLink "CutLengthsModel" 85 "CutLengthsModel" "back" "I" ∈ zW := zW_in 487 (by decide +kernel) (by decide +kernel)
theorem tw_488 : Cond.fieldLink "CutLengthsModel" 75 "CutLengthsModel" "wants" "I" ∈ zW := zW_in 488 (by decide +kernel) (by decide +kernel)
theorem tw_489 : Cond.fieldLink "CutLengthsModel" 16 "CutLengthsModel" "low" "[I" ∈ zW := zW_in 489 (by decide +kernel) (by decide +kernel)
theorem tw_490 : Cond.fieldLink "CutLengthsModel" 20 "CutLengthsModel" "high" "[I" ∈ zW := zW_in 490 (by decide +kernel) (by decide +kernel)
theorem tw_491 : Cond.fieldLink "CutLengthsModel" 88 "CutLengthsModel" "bads" "I" ∈ zW := zW_in 491 (by decide +kernel) (by decide +kernel)
theorem tw_492 : Cond.fieldLink "CutLengthsModel" 23 "CutLengthsModel" "badFrom" "[I" ∈ zW := zW_in 492 (by decide +kernel) (by decide +kernel)
theorem tw_493 : Cond.fieldLink "CutLengthsModel" 26 "CutLengthsModel" "badTo" "[I" ∈ zW := zW_in 493 (by decide +kernel) (by decide +kernel)
theorem tw_494 : Cond.fieldLink "CutLengthsModel" 94 "CutLengthsModel" "bars" "I" ∈ zW := zW_in 494 (by decide +kernel) (by decide +kernel)
theorem tw_495 : Cond.fieldLink "CutLengthsModel" 29 "CutLengthsModel" "barFrom" "[I" ∈ zW := zW_in 495 (by decide +kernel) (by decide +kernel)
theorem tw_496 : Cond.fieldLink "CutLengthsModel" 32 "CutLengthsModel" "barTo" "[I" ∈ zW := zW_in 496 (by decide +kernel) (by decide +kernel)
theorem tw_497 : Cond.fieldLink "CutLengthsModel" 59 "CutLengthsModel" "slabs" "I" ∈ zW := zW_in 497 (by decide +kernel) (by decide +kernel)
theorem tw_498 : Cond.fieldLink "CutLengthsModel" 35 "CutLengthsModel" "slabWant" "[I" ∈ zW := zW_in 498 (by decide +kernel) (by decide +kernel)
theorem tw_499 : Cond.fieldLink "CutLengthsModel" 38 "CutLengthsModel" "slabFrom" "[I" ∈ zW := zW_in 499 (by decide +kernel) (by decide +kernel)
theorem tw_500 : Cond.fieldLink "CutLengthsModel" 41 "CutLengthsModel" "slabSteps" "[I" ∈ zW := zW_in 500 (by decide +kernel) (by decide +kernel)
theorem tw_501 : Cond.fieldLink "CutLengthsModel" 44 "CutLengthsModel" "losses" "[I" ∈ zW := zW_in 501 (by decide +kernel) (by decide +kernel)
theorem tw_502 : Cond.fieldLink "CutLengthsModel" 47 "CutLengthsModel" "firsts" "[I" ∈ zW := zW_in 502 (by decide +kernel) (by decide +kernel)
theorem tw_503 : Cond.fieldLink "CutLengthsModel" 50 "CutLengthsModel" "lengths" "[I" ∈ zW := zW_in 503 (by decide +kernel) (by decide +kernel)
theorem tw_504 : Cond.fieldLink "CutLengthsModel" 53 "CutLengthsModel" "goods" "[I" ∈ zW := zW_in 504 (by decide +kernel) (by decide +kernel)
theorem tw_505 : Cond.lays "CutLengthsModel" "CutLengthsModel" "thrown" "I" ∈ zW := zW_in 505 (by decide +kernel) (by decide +kernel)
theorem tw_507 : Cond.lays "CutLengthsModel" "CutLengthsModel" "millimetres" "I" ∈ zW := zW_in 507 (by decide +kernel) (by decide +kernel)
theorem tw_509 : Cond.lays "CutLengthsModel" "CutLengthsModel" "kilos" "I" ∈ zW := zW_in 509 (by decide +kernel) (by decide +kernel)
theorem tw_511 : Cond.lays "CutLengthsModel" "CutLengthsModel" "n" "I" ∈ zW := zW_in 511 (by decide +kernel) (by decide +kernel)
theorem tw_513 : Cond.lays "CutLengthsModel" "CutLengthsModel" "torch" "I" ∈ zW := zW_in 513 (by decide +kernel) (by decide +kernel)
theorem tw_515 : Cond.lays "CutLengthsModel" "CutLengthsModel" "front" "I" ∈ zW := zW_in 515 (by decide +kernel) (by decide +kernel)
theorem tw_517 : Cond.lays "CutLengthsModel" "CutLengthsModel" "back" "I" ∈ zW := zW_in 517 (by decide +kernel) (by decide +kernel)
theorem tw_519 : Cond.lays "CutLengthsModel" "CutLengthsModel" "wants" "I" ∈ zW := zW_in 519 (by decide +kernel) (by decide +kernel)
theorem tw_521 : Cond.laysFinal "CutLengthsModel" "CutLengthsModel" "low" "[I" ∈ zW := zW_in 521 (by decide +kernel) (by decide +kernel)
theorem tw_523 : Cond.laysFinal "CutLengthsModel" "CutLengthsModel" "high" "[I" ∈ zW := zW_in 523 (by decide +kernel) (by decide +kernel)
theorem tw_525 : Cond.lays "CutLengthsModel" "CutLengthsModel" "bads" "I" ∈ zW := zW_in 525 (by decide +kernel) (by decide +kernel)
theorem tw_527 : Cond.laysFinal "CutLengthsModel" "CutLengthsModel" "badFrom" "[I" ∈ zW := zW_in 527 (by decide +kernel) (by decide +kernel)
theorem tw_529 : Cond.laysFinal "CutLengthsModel" "CutLengthsModel" "badTo" "[I" ∈ zW := zW_in 529 (by decide +kernel) (by decide +kernel)
theorem tw_531 : Cond.lays "CutLengthsModel" "CutLengthsModel" "bars" "I" ∈ zW := zW_in 531 (by decide +kernel) (by decide +kernel)
theorem tw_533 : Cond.laysFinal "CutLengthsModel" "CutLengthsModel" "barFrom" "[I" ∈ zW := zW_in 533 (by decide +kernel) (by decide +kernel)
theorem tw_535 : Cond.laysFinal "CutLengthsModel" "CutLengthsModel" "barTo" "[I" ∈ zW := zW_in 535 (by decide +kernel) (by decide +kernel)
theorem tw_537 : Cond.lays "CutLengthsModel" "CutLengthsModel" "slabs" "I" ∈ zW := zW_in 537 (by decide +kernel) (by decide +kernel)
theorem tw_539 : Cond.laysFinal "CutLengthsModel" "CutLengthsModel" "slabWant" "[I" ∈ zW := zW_in 539 (by decide +kernel) (by decide +kernel)
theorem tw_541 : Cond.laysFinal "CutLengthsModel" "CutLengthsModel" "slabFrom" "[I" ∈ zW := zW_in 541 (by decide +kernel) (by decide +kernel)
theorem tw_543 : Cond.laysFinal "CutLengthsModel" "CutLengthsModel" "slabSteps" "[I" ∈ zW := zW_in 543 (by decide +kernel) (by decide +kernel)
theorem tw_545 : Cond.laysFinal "CutLengthsModel" "CutLengthsModel" "losses" "[I" ∈ zW := zW_in 545 (by decide +kernel) (by decide +kernel)
theorem tw_547 : Cond.laysFinal "CutLengthsModel" "CutLengthsModel" "firsts" "[I" ∈ zW := zW_in 547 (by decide +kernel) (by decide +kernel)
theorem tw_549 : Cond.laysFinal "CutLengthsModel" "CutLengthsModel" "lengths" "[I" ∈ zW := zW_in 549 (by decide +kernel) (by decide +kernel)
theorem tw_551 : Cond.laysFinal "CutLengthsModel" "CutLengthsModel" "goods" "[I" ∈ zW := zW_in 551 (by decide +kernel) (by decide +kernel)
theorem tw_554 : Cond.methodLink "CutLengthsLaw" 69 ⟨"CutLengthsModel", "thrown", "()I"⟩ ∈ zW := zW_in 554 (by decide +kernel) (by decide +kernel)
theorem tw_555 : Cond.instanceMethod ⟨"CutLengthsModel", "thrown", "()I"⟩ ∈ zW := zW_in 555 (by decide +kernel) (by decide +kernel)
theorem tw_556 : Cond.selects "CutLengthsModel" ⟨"CutLengthsModel", "thrown", "()I"⟩ ⟨"CutLengthsModel", "thrown", "()I"⟩ ∈ zW := zW_in 556 (by decide +kernel) (by decide +kernel)
theorem tw_557 : Cond.code ⟨"CutLengthsModel", "thrown", "()I"⟩ prog_7_method_2_code 1 (some FieldType.int) ∈ zW := zW_in 557 (by decide +kernel) (by decide +kernel)
theorem tw_558 : Cond.methodLink "CutLengthsLaw" 68 ⟨"CutLengthsModel", "step", "(II)V"⟩ ∈ zW := zW_in 558 (by decide +kernel) (by decide +kernel)
theorem tw_559 : Cond.instanceMethod ⟨"CutLengthsModel", "step", "(II)V"⟩ ∈ zW := zW_in 559 (by decide +kernel) (by decide +kernel)
theorem tw_560 : Cond.selects "CutLengthsModel" ⟨"CutLengthsModel", "step", "(II)V"⟩ ⟨"CutLengthsModel", "step", "(II)V"⟩ ∈ zW := zW_in 560 (by decide +kernel) (by decide +kernel)
theorem tw_561 : Cond.code ⟨"CutLengthsModel", "step", "(II)V"⟩ prog_7_method_5_code 3 none ∈ zW := zW_in 561 (by decide +kernel) (by decide +kernel)
theorem tw_562 : Cond.constant "CutLengthsModel" 62 65536 ∈ zW := zW_in 562 (by decide +kernel) (by decide +kernel)
theorem tw_563 : Cond.methodLink "CutLengthsModel" 63 ⟨"CutLengthsModel", "in", "(III)Z"⟩ ∈ zW := zW_in 563 (by decide +kernel) (by decide +kernel)
theorem tw_564 : Cond.static ⟨"CutLengthsModel", "in", "(III)Z"⟩ ∈ zW := zW_in 564 (by decide +kernel) (by decide +kernel)
theorem tw_565 : Cond.code ⟨"CutLengthsModel", "in", "(III)Z"⟩ prog_7_method_4_code 3 (some FieldType.boolean) ∈ zW := zW_in 565 (by decide +kernel) (by decide +kernel)
theorem tw_566 : Cond.constant "CutLengthsModel" 67 100000 ∈ zW := zW_in 566 (by decide +kernel) (by decide +kernel)
theorem tw_567 : Cond.methodLink "CutLengthsModel" 68 ⟨"CutLengthsModel", "throwing", "(ZZ)Z"⟩ ∈ zW := zW_in 567 (by decide +kernel) (by decide +kernel)
theorem tw_569 : Cond.instanceMethod ⟨"CutLengthsModel", "throwing", "(ZZ)Z"⟩ ∈ zW := zW_in 569 (by decide +kernel) (by decide +kernel)
theorem tw_570 : Cond.code ⟨"CutLengthsModel", "throwing", "(ZZ)Z"⟩ prog_7_method_3_code 3 (some FieldType.boolean) ∈ zW := zW_in 570 (by decide +kernel) (by decide +kernel)
theorem tw_571 : Cond.methodLink "CutLengthsLaw" 75 ⟨"CutLengthsModel", "cast", "(I)I"⟩ ∈ zW := zW_in 571 (by decide +kernel) (by decide +kernel)
theorem tw_572 : Cond.instanceMethod ⟨"CutLengthsModel", "cast", "(I)I"⟩ ∈ zW := zW_in 572 (by decide +kernel) (by decide +kernel)
theorem tw_573 : Cond.selects "CutLengthsModel" ⟨"CutLengthsModel", "cast", "(I)I"⟩ ⟨"CutLengthsModel", "cast", "(I)I"⟩ ∈ zW := zW_in 573 (by decide +kernel) (by decide +kernel)
theorem tw_574 : Cond.code ⟨"CutLengthsModel", "cast", "(I)I"⟩ prog_7_method_6_code 2 (some FieldType.int) ∈ zW := zW_in 574 (by decide +kernel) (by decide +kernel)
theorem tw_575 : Cond.methodLink "CutLengthsLaw" 79 ⟨"CutLengthsModel", "want", "(II)I"⟩ ∈ zW := zW_in 575 (by decide +kernel) (by decide +kernel)
theorem tw_576 : Cond.instanceMethod ⟨"CutLengthsModel", "want", "(II)I"⟩ ∈ zW := zW_in 576 (by decide +kernel) (by decide +kernel)
theorem tw_577 : Cond.selects "CutLengthsModel" ⟨"CutLengthsModel", "want", "(II)I"⟩ ⟨"CutLengthsModel", "want", "(II)I"⟩ ∈ zW := zW_in 577 (by decide +kernel) (by decide +kernel)
theorem tw_578 : Cond.code ⟨"CutLengthsModel", "want", "(II)I"⟩ prog_7_method_8_code 3 (some FieldType.int) ∈ zW := zW_in 578 (by decide +kernel) (by decide +kernel)
theorem tw_579 : Cond.methodLink "CutLengthsModel" 78 ⟨"CutLengthsModel", "isSpan", "(II)Z"⟩ ∈ zW := zW_in 579 (by decide +kernel) (by decide +kernel)
theorem tw_580 : Cond.static ⟨"CutLengthsModel", "isSpan", "(II)Z"⟩ ∈ zW := zW_in 580 (by decide +kernel) (by decide +kernel)
theorem tw_581 : Cond.code ⟨"CutLengthsModel", "isSpan", "(II)Z"⟩ prog_7_method_7_code 2 (some FieldType.boolean) ∈ zW := zW_in 581 (by decide +kernel) (by decide +kernel)
theorem tw_582 : Cond.methodLink "CutLengthsLaw" 83 ⟨"CutLengthsModel", "span", "(III)V"⟩ ∈ zW := zW_in 582 (by decide +kernel) (by decide +kernel)
theorem tw_583 : Cond.instanceMethod ⟨"CutLengthsModel", "span", "(III)V"⟩ ∈ zW := zW_in 583 (by decide +kernel) (by decide +kernel)
theorem tw_584 : Cond.selects "CutLengthsModel" ⟨"CutLengthsModel", "span", "(III)V"⟩ ⟨"CutLengthsModel", "span", "(III)V"⟩ ∈ zW := zW_in 584 (by decide +kernel) (by decide +kernel)
theorem tw_585 : Cond.code ⟨"CutLengthsModel", "span", "(III)V"⟩ prog_7_method_9_code 4 none ∈ zW := zW_in 585 (by decide +kernel) (by decide +kernel)
theorem tw_586 : Cond.methodLink "CutLengthsLaw" 86 ⟨"CutLengthsModel", "trim", "(II)V"⟩ ∈ zW := zW_in 586 (by decide +kernel) (by decide +kernel)
theorem tw_587 : Cond.instanceMethod ⟨"CutLengthsModel", "trim", "(II)V"⟩ ∈ zW := zW_in 587 (by decide +kernel) (by decide +kernel)
theorem tw_588 : Cond.selects "CutLengthsModel" ⟨"CutLengthsModel", "trim", "(II)V"⟩ ⟨"CutLengthsModel", "trim", "(II)V"⟩ ∈ zW := zW_in 588 (by decide +kernel) (by decide +kernel)
theorem tw_589 : Cond.code ⟨"CutLengthsModel", "trim", "(II)V"⟩ prog_7_method_10_code 3 none ∈ zW := zW_in 589 (by decide +kernel) (by decide +kernel)
theorem tw_590 : Cond.methodLink "CutLengthsLaw" 89 ⟨"CutLengthsModel", "bad", "(II)I"⟩ ∈ zW := zW_in 590 (by decide +kernel) (by decide +kernel)
theorem tw_591 : Cond.instanceMethod ⟨"CutLengthsModel", "bad", "(II)I"⟩ ∈ zW := zW_in 591 (by decide +kernel) (by decide +kernel)
theorem tw_592 : Cond.selects "CutLengthsModel" ⟨"CutLengthsModel", "bad", "(II)I"⟩ ⟨"CutLengthsModel", "bad", "(II)I"⟩ ∈ zW := zW_in 592 (by decide +kernel) (by decide +kernel)
theorem tw_593 : Cond.code ⟨"CutLengthsModel", "bad", "(II)I"⟩ prog_7_method_12_code 3 (some FieldType.int) ∈ zW := zW_in 593 (by decide +kernel) (by decide +kernel)
theorem tw_594 : Cond.methodLink "CutLengthsModel" 91 ⟨"CutLengthsModel", "isRow", "(II)Z"⟩ ∈ zW := zW_in 594 (by decide +kernel) (by decide +kernel)
theorem tw_595 : Cond.static ⟨"CutLengthsModel", "isRow", "(II)Z"⟩ ∈ zW := zW_in 595 (by decide +kernel) (by decide +kernel)
theorem tw_596 : Cond.code ⟨"CutLengthsModel", "isRow", "(II)Z"⟩ prog_7_method_11_code 2 (some FieldType.boolean) ∈ zW := zW_in 596 (by decide +kernel) (by decide +kernel)
theorem tw_597 : Cond.methodLink "CutLengthsLaw" 92 ⟨"CutLengthsModel", "bar", "(II)I"⟩ ∈ zW := zW_in 597 (by decide +kernel) (by decide +kernel)
theorem tw_598 : Cond.instanceMethod ⟨"CutLengthsModel", "bar", "(II)I"⟩ ∈ zW := zW_in 598 (by decide +kernel) (by decide +kernel)
theorem tw_599 : Cond.selects "CutLengthsModel" ⟨"CutLengthsModel", "bar", "(II)I"⟩ ⟨"CutLengthsModel", "bar", "(II)I"⟩ ∈ zW := zW_in 599 (by decide +kernel) (by decide +kernel)
theorem tw_600 : Cond.code ⟨"CutLengthsModel", "bar", "(II)I"⟩ prog_7_method_13_code 3 (some FieldType.int) ∈ zW := zW_in 600 (by decide +kernel) (by decide +kernel)
theorem tw_601 : Cond.methodLink "CutLengthsLaw" 96 ⟨"CutLengthsModel", "loss", "()I"⟩ ∈ zW := zW_in 601 (by decide +kernel) (by decide +kernel)
theorem tw_602 : Cond.instanceMethod ⟨"CutLengthsModel", "loss", "()I"⟩ ∈ zW := zW_in 602 (by decide +kernel) (by decide +kernel)
theorem tw_603 : Cond.selects "CutLengthsModel" ⟨"CutLengthsModel", "loss", "()I"⟩ ⟨"CutLengthsModel", "loss", "()I"⟩ ∈ zW := zW_in 603 (by decide +kernel) (by decide +kernel)
theorem tw_604 : Cond.code ⟨"CutLengthsModel", "loss", "()I"⟩ prog_7_method_18_code 1 (some FieldType.int) ∈ zW := zW_in 604 (by decide +kernel) (by decide +kernel)
theorem tw_605 : Cond.methodLink "CutLengthsModel" 111 ⟨"CutLengthsModel", "plan", "()V"⟩ ∈ zW := zW_in 605 (by decide +kernel) (by decide +kernel)
theorem tw_607 : Cond.instanceMethod ⟨"CutLengthsModel", "plan", "()V"⟩ ∈ zW := zW_in 607 (by decide +kernel) (by decide +kernel)
theorem tw_608 : Cond.code ⟨"CutLengthsModel", "plan", "()V"⟩ prog_7_method_17_code 2 none ∈ zW := zW_in 608 (by decide +kernel) (by decide +kernel)
theorem tw_609 : Cond.methodLink "CutLengthsModel" 104 ⟨"CutLengthsModel", "isGood", "(I)Z"⟩ ∈ zW := zW_in 609 (by decide +kernel) (by decide +kernel)
theorem tw_611 : Cond.instanceMethod ⟨"CutLengthsModel", "isGood", "(I)Z"⟩ ∈ zW := zW_in 611 (by decide +kernel) (by decide +kernel)
theorem tw_612 : Cond.code ⟨"CutLengthsModel", "isGood", "(I)Z"⟩ prog_7_method_14_code 4 (some FieldType.boolean) ∈ zW := zW_in 612 (by decide +kernel) (by decide +kernel)
theorem tw_613 : Cond.methodLink "CutLengthsModel" 107 ⟨"CutLengthsModel", "look", "(I)V"⟩ ∈ zW := zW_in 613 (by decide +kernel) (by decide +kernel)
theorem tw_615 : Cond.instanceMethod ⟨"CutLengthsModel", "look", "(I)V"⟩ ∈ zW := zW_in 615 (by decide +kernel) (by decide +kernel)
theorem tw_616 : Cond.code ⟨"CutLengthsModel", "look", "(I)V"⟩ prog_7_method_16_code 6 none ∈ zW := zW_in 616 (by decide +kernel) (by decide +kernel)
theorem tw_617 : Cond.methodLink "CutLengthsModel" 100 ⟨"CutLengthsModel", "isBarred", "(I)Z"⟩ ∈ zW := zW_in 617 (by decide +kernel) (by decide +kernel)
theorem tw_619 : Cond.instanceMethod ⟨"CutLengthsModel", "isBarred", "(I)Z"⟩ ∈ zW := zW_in 619 (by decide +kernel) (by decide +kernel)
theorem tw_620 : Cond.code ⟨"CutLengthsModel", "isBarred", "(I)Z"⟩ prog_7_method_15_code 4 (some FieldType.boolean) ∈ zW := zW_in 620 (by decide +kernel) (by decide +kernel)
theorem tw_621 : Cond.methodLink "CutLengthsLaw" 99 ⟨"CutLengthsModel", "part", "(II)I"⟩ ∈ zW := zW_in 621 (by decide +kernel) (by decide +kernel)
theorem tw_622 : Cond.instanceMethod ⟨"CutLengthsModel", "part", "(II)I"⟩ ∈ zW := zW_in 622 (by decide +kernel) (by decide +kernel)
theorem tw_623 : Cond.selects "CutLengthsModel" ⟨"CutLengthsModel", "part", "(II)I"⟩ ⟨"CutLengthsModel", "part", "(II)I"⟩ ∈ zW := zW_in 623 (by decide +kernel) (by decide +kernel)
theorem tw_624 : Cond.code ⟨"CutLengthsModel", "part", "(II)I"⟩ prog_7_method_20_code 5 (some FieldType.int) ∈ zW := zW_in 624 (by decide +kernel) (by decide +kernel)
theorem tw_625 : Cond.methodLink "CutLengthsModel" 114 ⟨"CutLengthsModel", "endOf", "(I)I"⟩ ∈ zW := zW_in 625 (by decide +kernel) (by decide +kernel)
theorem tw_627 : Cond.instanceMethod ⟨"CutLengthsModel", "endOf", "(I)I"⟩ ∈ zW := zW_in 627 (by decide +kernel) (by decide +kernel)
theorem tw_628 : Cond.code ⟨"CutLengthsModel", "endOf", "(I)I"⟩ prog_7_method_19_code 3 (some FieldType.int) ∈ zW := zW_in 628 (by decide +kernel) (by decide +kernel)
theorem tw_629 : Cond.methodLink "CutLengthsLaw" 103 ⟨"CutLengthsModel", "cut", "()I"⟩ ∈ zW := zW_in 629 (by decide +kernel) (by decide +kernel)
theorem tw_630 : Cond.instanceMethod ⟨"CutLengthsModel", "cut", "()I"⟩ ∈ zW := zW_in 630 (by decide +kernel) (by decide +kernel)
theorem tw_631 : Cond.selects "CutLengthsModel" ⟨"CutLengthsModel", "cut", "()I"⟩ ⟨"CutLengthsModel", "cut", "()I"⟩ ∈ zW := zW_in 631 (by decide +kernel) (by decide +kernel)
theorem tw_632 : Cond.code ⟨"CutLengthsModel", "cut", "()I"⟩ prog_7_method_21_code 1 (some FieldType.int) ∈ zW := zW_in 632 (by decide +kernel) (by decide +kernel)
theorem tw_633 : Cond.methodLink "CutLengthsLaw" 106 ⟨"CutLengthsModel", "slab", "(II)I"⟩ ∈ zW := zW_in 633 (by decide +kernel) (by decide +kernel)
theorem tw_634 : Cond.instanceMethod ⟨"CutLengthsModel", "slab", "(II)I"⟩ ∈ zW := zW_in 634 (by decide +kernel) (by decide +kernel)
theorem tw_635 : Cond.selects "CutLengthsModel" ⟨"CutLengthsModel", "slab", "(II)I"⟩ ⟨"CutLengthsModel", "slab", "(II)I"⟩ ∈ zW := zW_in 635 (by decide +kernel) (by decide +kernel)
theorem tw_636 : Cond.code ⟨"CutLengthsModel", "slab", "(II)I"⟩ prog_7_method_22_code 3 (some FieldType.int) ∈ zW := zW_in 636 (by decide +kernel) (by decide +kernel)
theorem tw_637 : Cond.methodLink "CutLengthsLaw" 109 ⟨"CutLengthsModel", "weight", "(I)J"⟩ ∈ zW := zW_in 637 (by decide +kernel) (by decide +kernel)
theorem tw_638 : Cond.instanceMethod ⟨"CutLengthsModel", "weight", "(I)J"⟩ ∈ zW := zW_in 638 (by decide +kernel) (by decide +kernel)
theorem tw_639 : Cond.selects "CutLengthsModel" ⟨"CutLengthsModel", "weight", "(I)J"⟩ ⟨"CutLengthsModel", "weight", "(I)J"⟩ ∈ zW := zW_in 639 (by decide +kernel) (by decide +kernel)
theorem tw_640 : Cond.code ⟨"CutLengthsModel", "weight", "(I)J"⟩ prog_7_method_23_code 2 (some FieldType.long) ∈ zW := zW_in 640 (by decide +kernel) (by decide +kernel)
theorem tw_641 : Cond.constantLong "CutLengthsModel" 118 1000 ∈ zW := zW_in 641 (by decide +kernel) (by decide +kernel)
theorem tw_642 : Cond.methodLink "CutLengthsLaw" 112 ⟨"CutLengthsModel", "count", "(I)I"⟩ ∈ zW := zW_in 642 (by decide +kernel) (by decide +kernel)
theorem tw_643 : Cond.instanceMethod ⟨"CutLengthsModel", "count", "(I)I"⟩ ∈ zW := zW_in 643 (by decide +kernel) (by decide +kernel)
theorem tw_644 : Cond.selects "CutLengthsModel" ⟨"CutLengthsModel", "count", "(I)I"⟩ ⟨"CutLengthsModel", "count", "(I)I"⟩ ∈ zW := zW_in 644 (by decide +kernel) (by decide +kernel)
theorem tw_645 : Cond.code ⟨"CutLengthsModel", "count", "(I)I"⟩ prog_7_method_24_code 4 (some FieldType.int) ∈ zW := zW_in 645 (by decide +kernel) (by decide +kernel)
theorem tw_646 : Cond.methodLink "CutLengthsLaw" 116 ⟨"CutLengthsModel", "torch", "()I"⟩ ∈ zW := zW_in 646 (by decide +kernel) (by decide +kernel)
theorem tw_647 : Cond.instanceMethod ⟨"CutLengthsModel", "torch", "()I"⟩ ∈ zW := zW_in 647 (by decide +kernel) (by decide +kernel)
theorem tw_648 : Cond.selects "CutLengthsModel" ⟨"CutLengthsModel", "torch", "()I"⟩ ⟨"CutLengthsModel", "torch", "()I"⟩ ∈ zW := zW_in 648 (by decide +kernel) (by decide +kernel)
theorem tw_649 : Cond.code ⟨"CutLengthsModel", "torch", "()I"⟩ prog_7_method_25_code 1 (some FieldType.int) ∈ zW := zW_in 649 (by decide +kernel) (by decide +kernel)
theorem tw_650 : Cond.arrayClass FieldType.long ∈ zW := zW_in 650 (by decide +kernel) (by decide +kernel)
theorem i_Cut : ∀ w ∈ u_ws "CutLengths" T_Cut 7, w ∈ zW := by
  show ∀ w ∈ [Cond.laysFinal "CutLengths" "CutLengths" "strand" "LCutLengths$Strand;", Cond.laysFinal "CutLengths" "CutLengths" "lengths" "LCutLengths$WantedLengths;", Cond.laysFinal "CutLengths" "CutLengths" "plan" "LCutLengths$Plan;", Cond.laysFinal "CutLengths" "CutLengths" "slabs" "LCutLengths$Slabs;", Cond.lays "CutLengths" "CutLengths" "millimetres" "I", Cond.lays "CutLengths" "CutLengths" "kilos" "I", Cond.lays "CutLengths" "CutLengths" "planIsOld" "Z"], w ∈ zW
  exact List.forall_mem_cons.mpr ⟨tw_149, List.forall_mem_cons.mpr ⟨tw_151, List.forall_mem_cons.mpr ⟨tw_153, List.forall_mem_cons.mpr ⟨tw_155, List.forall_mem_cons.mpr ⟨tw_157, List.forall_mem_cons.mpr ⟨tw_159, List.forall_mem_cons.mpr ⟨tw_161, fun _ h => absurd h List.not_mem_nil⟩⟩⟩⟩⟩⟩⟩
theorem i_Strand : ∀ w ∈ u_ws "CutLengths$Strand" T_Strand 8, w ∈ zW := by
  show ∀ w ∈ [Cond.lays "CutLengths$Strand" "CutLengths$Strand" "end" "I", Cond.lays "CutLengths$Strand" "CutLengths$Strand" "torch" "I", Cond.lays "CutLengths$Strand" "CutLengths$Strand" "front" "I", Cond.lays "CutLengths$Strand" "CutLengths$Strand" "back" "I", Cond.lays "CutLengths$Strand" "CutLengths$Strand" "badParts" "I", Cond.lays "CutLengths$Strand" "CutLengths$Strand" "bars" "I", Cond.laysFinal "CutLengths$Strand" "CutLengths$Strand" "badSteps" "[Z", Cond.laysFinal "CutLengths$Strand" "CutLengths$Strand" "barredPlaces" "[Z"], w ∈ zW
  exact List.forall_mem_cons.mpr ⟨tw_59, List.forall_mem_cons.mpr ⟨tw_61, List.forall_mem_cons.mpr ⟨tw_63, List.forall_mem_cons.mpr ⟨tw_65, List.forall_mem_cons.mpr ⟨tw_67, List.forall_mem_cons.mpr ⟨tw_69, List.forall_mem_cons.mpr ⟨tw_71, List.forall_mem_cons.mpr ⟨tw_73, fun _ h => absurd h List.not_mem_nil⟩⟩⟩⟩⟩⟩⟩⟩
theorem i_Wanted : ∀ w ∈ u_ws "CutLengths$WantedLengths" T_Wanted 3, w ∈ zW := by
  show ∀ w ∈ [Cond.lays "CutLengths$WantedLengths" "CutLengths$WantedLengths" "size" "I", Cond.laysFinal "CutLengths$WantedLengths" "CutLengths$WantedLengths" "low" "[I", Cond.laysFinal "CutLengths$WantedLengths" "CutLengths$WantedLengths" "high" "[I"], w ∈ zW
  exact List.forall_mem_cons.mpr ⟨tw_92, List.forall_mem_cons.mpr ⟨tw_94, List.forall_mem_cons.mpr ⟨tw_96, fun _ h => absurd h List.not_mem_nil⟩⟩⟩
theorem i_Plan : ∀ w ∈ u_ws "CutLengths$Plan" T_Plan 3, w ∈ zW := by
  show ∀ w ∈ [Cond.laysFinal "CutLengths$Plan" "CutLengths$Plan" "scrapAhead" "[I", Cond.laysFinal "CutLengths$Plan" "CutLengths$Plan" "wanted" "[I", Cond.laysFinal "CutLengths$Plan" "CutLengths$Plan" "steps" "[I"], w ∈ zW
  exact List.forall_mem_cons.mpr ⟨tw_112, List.forall_mem_cons.mpr ⟨tw_114, List.forall_mem_cons.mpr ⟨tw_116, fun _ h => absurd h List.not_mem_nil⟩⟩⟩
theorem i_Slabs : ∀ w ∈ u_ws "CutLengths$Slabs" T_Slabs 4, w ∈ zW := by
  show ∀ w ∈ [Cond.lays "CutLengths$Slabs" "CutLengths$Slabs" "size" "I", Cond.laysFinal "CutLengths$Slabs" "CutLengths$Slabs" "wanted" "[I", Cond.laysFinal "CutLengths$Slabs" "CutLengths$Slabs" "begin" "[I", Cond.laysFinal "CutLengths$Slabs" "CutLengths$Slabs" "steps" "[I"], w ∈ zW
  exact List.forall_mem_cons.mpr ⟨tw_133, List.forall_mem_cons.mpr ⟨tw_135, List.forall_mem_cons.mpr ⟨tw_137, List.forall_mem_cons.mpr ⟨tw_139, fun _ h => absurd h List.not_mem_nil⟩⟩⟩⟩
theorem i_Model : ∀ w ∈ u_ws "CutLengthsModel" T_Model 24, w ∈ zW := by
  show ∀ w ∈ [Cond.lays "CutLengthsModel" "CutLengthsModel" "thrown" "I", Cond.lays "CutLengthsModel" "CutLengthsModel" "millimetres" "I", Cond.lays "CutLengthsModel" "CutLengthsModel" "kilos" "I", Cond.lays "CutLengthsModel" "CutLengthsModel" "n" "I", Cond.lays "CutLengthsModel" "CutLengthsModel" "torch" "I", Cond.lays "CutLengthsModel" "CutLengthsModel" "front" "I", Cond.lays "CutLengthsModel" "CutLengthsModel" "back" "I", Cond.lays "CutLengthsModel" "CutLengthsModel" "wants" "I", Cond.laysFinal "CutLengthsModel" "CutLengthsModel" "low" "[I", Cond.laysFinal "CutLengthsModel" "CutLengthsModel" "high" "[I", Cond.lays "CutLengthsModel" "CutLengthsModel" "bads" "I", Cond.laysFinal "CutLengthsModel" "CutLengthsModel" "badFrom" "[I", Cond.laysFinal "CutLengthsModel" "CutLengthsModel" "badTo" "[I", Cond.lays "CutLengthsModel" "CutLengthsModel" "bars" "I", Cond.laysFinal "CutLengthsModel" "CutLengthsModel" "barFrom" "[I", Cond.laysFinal "CutLengthsModel" "CutLengthsModel" "barTo" "[I", Cond.lays "CutLengthsModel" "CutLengthsModel" "slabs" "I", Cond.laysFinal "CutLengthsModel" "CutLengthsModel" "slabWant" "[I", Cond.laysFinal "CutLengthsModel" "CutLengthsModel" "slabFrom" "[I", Cond.laysFinal "CutLengthsModel" "CutLengthsModel" "slabSteps" "[I", Cond.laysFinal "CutLengthsModel" "CutLengthsModel" "losses" "[I", Cond.laysFinal "CutLengthsModel" "CutLengthsModel" "firsts" "[I", Cond.laysFinal "CutLengthsModel" "CutLengthsModel" "lengths" "[I", Cond.laysFinal "CutLengthsModel" "CutLengthsModel" "goods" "[I"], w ∈ zW
  exact List.forall_mem_cons.mpr ⟨tw_505, List.forall_mem_cons.mpr ⟨tw_507, List.forall_mem_cons.mpr ⟨tw_509, List.forall_mem_cons.mpr ⟨tw_511, List.forall_mem_cons.mpr ⟨tw_513, List.forall_mem_cons.mpr ⟨tw_515, List.forall_mem_cons.mpr ⟨tw_517, List.forall_mem_cons.mpr ⟨tw_519, List.forall_mem_cons.mpr ⟨tw_521, List.forall_mem_cons.mpr ⟨tw_523, List.forall_mem_cons.mpr ⟨tw_525, List.forall_mem_cons.mpr ⟨tw_527, List.forall_mem_cons.mpr ⟨tw_529, List.forall_mem_cons.mpr ⟨tw_531, List.forall_mem_cons.mpr ⟨tw_533, List.forall_mem_cons.mpr ⟨tw_535, List.forall_mem_cons.mpr ⟨tw_537, List.forall_mem_cons.mpr ⟨tw_539, List.forall_mem_cons.mpr ⟨tw_541, List.forall_mem_cons.mpr ⟨tw_543, List.forall_mem_cons.mpr ⟨tw_545, List.forall_mem_cons.mpr ⟨tw_547, List.forall_mem_cons.mpr ⟨tw_549, List.forall_mem_cons.mpr ⟨tw_551, fun _ h => absurd h List.not_mem_nil⟩⟩⟩⟩⟩⟩⟩⟩⟩⟩⟩⟩⟩⟩⟩⟩⟩⟩⟩⟩⟩⟩⟩⟩
abbrev vwCl : List vw_C := [("CutLengths", T_Cut, 7), ("CutLengths$Strand", T_Strand, 8), ("CutLengths$WantedLengths", T_Wanted, 3), ("CutLengths$Plan", T_Plan, 3), ("CutLengths$Slabs", T_Slabs, 4), ("CutLengthsModel", T_Model, 24)]
abbrev wC (a : Nat → Nat) (cI cZ : ClassId) (v : Nat → Nat) (f : Nat → Nat → Nat) (w : Nat → Nat → Int32) : va_W := [(a 0, .inr (0, [.ref (a 1), .ref (a 4), .ref (a 7), .ref (a 11), .int (nI (v 0)), .int (nI (v 1)), .int (nI (v 2))])), (a 1, .inr (1, [.int (nI (v 3)), .int (nI (v 4)), .int (nI (v 5)), .int (nI (v 6)), .int (nI (v 7)), .int (nI (v 8)), .ref (a 2), .ref (a 3)])), (a 2, .inl (cZ, 300, .inl (fun j => nI (f 0 j)))), (a 3, .inl (cZ, 301, .inl (fun j => nI (f 1 j)))), (a 4, .inr (2, [.int (nI (v 9)), .ref (a 5), .ref (a 6)])), (a 5, .inl (cI, 6, .inl (fun j => nI (f 2 j)))), (a 6, .inl (cI, 6, .inl (fun j => nI (f 3 j)))), (a 7, .inr (3, [.ref (a 8), .ref (a 9), .ref (a 10)])), (a 8, .inl (cI, 301, .inl (fun j => nI (f 4 j)))), (a 9, .inl (cI, 301, .inl (w 0))), (a 10, .inl (cI, 301, .inl (fun j => nI (f 5 j)))), (a 11, .inr (4, [.int (nI (v 10)), .ref (a 12), .ref (a 13), .ref (a 14)])), (a 12, .inl (cI, 100, .inl (w 1))), (a 13, .inl (cI, 100, .inl (fun j => nI (f 6 j)))), (a 14, .inl (cI, 100, .inl (fun j => nI (f 7 j))))]
abbrev wM (a : Nat → Nat) (cI : ClassId) (v : Nat → Nat) (f : Nat → Nat → Nat) (w : Nat → Nat → Int32) : va_W := [(a 0, .inr (5, [.int (nI (v 0)), .int (nI (v 1)), .int (nI (v 2)), .int (nI (v 3)), .int (nI (v 4)), .int (nI (v 5)), .int (nI (v 6)), .int (nI (v 7)), .ref (a 1), .ref (a 2), .int (nI (v 8)), .ref (a 3), .ref (a 4), .int (nI (v 9)), .ref (a 5), .ref (a 6), .int (nI (v 10)), .ref (a 7), .ref (a 8), .ref (a 9), .ref (a 10), .ref (a 11), .ref (a 12), .ref (a 13)])), (a 1, .inl (cI, 6, .inl (fun j => nI (f 0 j)))), (a 2, .inl (cI, 6, .inl (fun j => nI (f 1 j)))), (a 3, .inl (cI, 20, .inl (fun j => nI (f 2 j)))), (a 4, .inl (cI, 20, .inl (fun j => nI (f 3 j)))), (a 5, .inl (cI, 20, .inl (fun j => nI (f 4 j)))), (a 6, .inl (cI, 20, .inl (fun j => nI (f 5 j)))), (a 7, .inl (cI, 100, .inl (w 0))), (a 8, .inl (cI, 100, .inl (fun j => nI (f 6 j)))), (a 9, .inl (cI, 100, .inl (fun j => nI (f 7 j)))), (a 10, .inl (cI, 301, .inl (fun j => nI (f 8 j)))), (a 11, .inl (cI, 301, .inl (w 1))), (a 12, .inl (cI, 301, .inl (fun j => nI (f 9 j)))), (a 13, .inl (cI, 302, .inl (fun j => nI (f 10 j))))]
end
section
/-! decode rows (written by wip/whole/mk_names.py) -/
theorem d_Cut_init_0 : decode prog_1_method_1_code 0 = .ok (.aload_n 0, 1) := by decide +kernel
theorem d_Cut_init_1 : decode prog_1_method_1_code 1 = .ok (.invokespecial 3, 3) := by decide +kernel
theorem d_Cut_init_4 : decode prog_1_method_1_code 4 = .ok (.aload_n 0, 1) := by decide +kernel
theorem d_Cut_init_5 : decode prog_1_method_1_code 5 = .ok (.new 9, 3) := by decide +kernel
theorem d_Cut_init_8 : decode prog_1_method_1_code 8 = .ok (.dup, 1) := by decide +kernel
theorem d_Cut_init_9 : decode prog_1_method_1_code 9 = .ok (.invokespecial 11, 3) := by decide +kernel
theorem d_Cut_init_12 : decode prog_1_method_1_code 12 = .ok (.putfield 12, 3) := by decide +kernel
theorem d_Cut_init_15 : decode prog_1_method_1_code 15 = .ok (.aload_n 0, 1) := by decide +kernel
theorem d_Cut_init_16 : decode prog_1_method_1_code 16 = .ok (.new 16, 3) := by decide +kernel
theorem d_Cut_init_19 : decode prog_1_method_1_code 19 = .ok (.dup, 1) := by decide +kernel
theorem d_Cut_init_20 : decode prog_1_method_1_code 20 = .ok (.invokespecial 18, 3) := by decide +kernel
theorem d_Cut_init_23 : decode prog_1_method_1_code 23 = .ok (.putfield 19, 3) := by decide +kernel
theorem d_Cut_init_26 : decode prog_1_method_1_code 26 = .ok (.aload_n 0, 1) := by decide +kernel
theorem d_Cut_init_27 : decode prog_1_method_1_code 27 = .ok (.new 23, 3) := by decide +kernel
theorem d_Cut_init_30 : decode prog_1_method_1_code 30 = .ok (.dup, 1) := by decide +kernel
theorem d_Cut_init_31 : decode prog_1_method_1_code 31 = .ok (.invokespecial 25, 3) := by decide +kernel
theorem d_Cut_init_34 : decode prog_1_method_1_code 34 = .ok (.putfield 26, 3) := by decide +kernel
theorem d_Cut_init_37 : decode prog_1_method_1_code 37 = .ok (.aload_n 0, 1) := by decide +kernel
theorem d_Cut_init_38 : decode prog_1_method_1_code 38 = .ok (.new 30, 3) := by decide +kernel
theorem d_Cut_init_41 : decode prog_1_method_1_code 41 = .ok (.dup, 1) := by decide +kernel
theorem d_Cut_init_42 : decode prog_1_method_1_code 42 = .ok (.invokespecial 32, 3) := by decide +kernel
theorem d_Cut_init_45 : decode prog_1_method_1_code 45 = .ok (.putfield 33, 3) := by decide +kernel
theorem d_Cut_init_48 : decode prog_1_method_1_code 48 = .ok (.aload_n 0, 1) := by decide +kernel
theorem d_Cut_init_49 : decode prog_1_method_1_code 49 = .ok (.bipush 100, 2) := by decide +kernel
theorem d_Cut_init_51 : decode prog_1_method_1_code 51 = .ok (.putfield 37, 3) := by decide +kernel
theorem d_Cut_init_54 : decode prog_1_method_1_code 54 = .ok (.aload_n 0, 1) := by decide +kernel
theorem d_Cut_init_55 : decode prog_1_method_1_code 55 = .ok (.sipush 1000, 3) := by decide +kernel
theorem d_Cut_init_58 : decode prog_1_method_1_code 58 = .ok (.putfield 41, 3) := by decide +kernel
theorem d_Cut_init_61 : decode prog_1_method_1_code 61 = .ok (.aload_n 0, 1) := by decide +kernel
theorem d_Cut_init_62 : decode prog_1_method_1_code 62 = .ok (.iconst 1, 1) := by decide +kernel
theorem d_Cut_init_63 : decode prog_1_method_1_code 63 = .ok (.putfield 44, 3) := by decide +kernel
theorem d_Cut_init_66 : decode prog_1_method_1_code 66 = .ok (.return_, 1) := by decide +kernel
theorem d_Cut_step_0 : decode prog_1_method_2_code 0 = .ok (.aload_n 0, 1) := by decide +kernel
theorem d_Cut_step_1 : decode prog_1_method_2_code 1 = .ok (.getfield 33, 3) := by decide +kernel
theorem d_Cut_step_4 : decode prog_1_method_2_code 4 = .ok (.getfield 48, 3) := by decide +kernel
theorem d_Cut_step_7 : decode prog_1_method_2_code 7 = .ok (.ifCond .le 13, 3) := by decide +kernel
theorem d_Cut_step_10 : decode prog_1_method_2_code 10 = .ok (.new 51, 3) := by decide +kernel
theorem d_Cut_step_13 : decode prog_1_method_2_code 13 = .ok (.dup, 1) := by decide +kernel
theorem d_Cut_step_14 : decode prog_1_method_2_code 14 = .ok (.ldc 53, 2) := by decide +kernel
theorem d_Cut_step_16 : decode prog_1_method_2_code 16 = .ok (.invokespecial 55, 3) := by decide +kernel
theorem d_Cut_step_19 : decode prog_1_method_2_code 19 = .ok (.athrow, 1) := by decide +kernel
theorem d_Cut_step_20 : decode prog_1_method_2_code 20 = .ok (.iload_n 1, 1) := by decide +kernel
theorem d_Cut_step_21 : decode prog_1_method_2_code 21 = .ok (.iconst 1, 1) := by decide +kernel
theorem d_Cut_step_22 : decode prog_1_method_2_code 22 = .ok (.ldc 58, 2) := by decide +kernel
theorem d_Cut_step_24 : decode prog_1_method_2_code 24 = .ok (.invokestatic 59, 3) := by decide +kernel
theorem d_Cut_step_27 : decode prog_1_method_2_code 27 = .ok (.ifCond .ne 13, 3) := by decide +kernel
theorem d_Cut_step_30 : decode prog_1_method_2_code 30 = .ok (.iload_n 2, 1) := by decide +kernel
theorem d_Cut_step_31 : decode prog_1_method_2_code 31 = .ok (.iconst 1, 1) := by decide +kernel
theorem d_Cut_step_32 : decode prog_1_method_2_code 32 = .ok (.ldc 63, 2) := by decide +kernel
theorem d_Cut_step_34 : decode prog_1_method_2_code 34 = .ok (.invokestatic 59, 3) := by decide +kernel
theorem d_Cut_step_37 : decode prog_1_method_2_code 37 = .ok (.ifCond .eq 13, 3) := by decide +kernel
theorem d_Cut_step_40 : decode prog_1_method_2_code 40 = .ok (.new 64, 3) := by decide +kernel
theorem d_Cut_step_43 : decode prog_1_method_2_code 43 = .ok (.dup, 1) := by decide +kernel
theorem d_Cut_step_44 : decode prog_1_method_2_code 44 = .ok (.ldc 66, 2) := by decide +kernel
theorem d_Cut_step_46 : decode prog_1_method_2_code 46 = .ok (.invokespecial 68, 3) := by decide +kernel
theorem d_Cut_step_49 : decode prog_1_method_2_code 49 = .ok (.athrow, 1) := by decide +kernel
theorem d_Cut_step_50 : decode prog_1_method_2_code 50 = .ok (.aload_n 0, 1) := by decide +kernel
theorem d_Cut_step_51 : decode prog_1_method_2_code 51 = .ok (.iload_n 1, 1) := by decide +kernel
theorem d_Cut_step_52 : decode prog_1_method_2_code 52 = .ok (.putfield 37, 3) := by decide +kernel
theorem d_Cut_step_55 : decode prog_1_method_2_code 55 = .ok (.aload_n 0, 1) := by decide +kernel
theorem d_Cut_step_56 : decode prog_1_method_2_code 56 = .ok (.iload_n 2, 1) := by decide +kernel
theorem d_Cut_step_57 : decode prog_1_method_2_code 57 = .ok (.putfield 41, 3) := by decide +kernel
theorem d_Cut_step_60 : decode prog_1_method_2_code 60 = .ok (.return_, 1) := by decide +kernel
theorem d_Cut_cast_0 : decode prog_1_method_3_code 0 = .ok (.iload_n 1, 1) := by decide +kernel
theorem d_Cut_cast_1 : decode prog_1_method_3_code 1 = .ok (.ifCond .ge 13, 3) := by decide +kernel
theorem d_Cut_cast_4 : decode prog_1_method_3_code 4 = .ok (.new 64, 3) := by decide +kernel
theorem d_Cut_cast_7 : decode prog_1_method_3_code 7 = .ok (.dup, 1) := by decide +kernel
theorem d_Cut_cast_8 : decode prog_1_method_3_code 8 = .ok (.ldc 69, 2) := by decide +kernel
theorem d_Cut_cast_10 : decode prog_1_method_3_code 10 = .ok (.invokespecial 68, 3) := by decide +kernel
theorem d_Cut_cast_13 : decode prog_1_method_3_code 13 = .ok (.athrow, 1) := by decide +kernel
theorem d_Cut_cast_14 : decode prog_1_method_3_code 14 = .ok (.iload_n 1, 1) := by decide +kernel
theorem d_Cut_cast_15 : decode prog_1_method_3_code 15 = .ok (.sipush 300, 3) := by decide +kernel
theorem d_Cut_cast_18 : decode prog_1_method_3_code 18 = .ok (.aload_n 0, 1) := by decide +kernel
theorem d_Cut_cast_19 : decode prog_1_method_3_code 19 = .ok (.getfield 12, 3) := by decide +kernel
theorem d_Cut_cast_22 : decode prog_1_method_3_code 22 = .ok (.getfield 71, 3) := by decide +kernel
theorem d_Cut_cast_25 : decode prog_1_method_3_code 25 = .ok (.isub, 1) := by decide +kernel
theorem d_Cut_cast_26 : decode prog_1_method_3_code 26 = .ok (.if_icmp .le 13, 3) := by decide +kernel
theorem d_Cut_cast_29 : decode prog_1_method_3_code 29 = .ok (.new 74, 3) := by decide +kernel
theorem d_Cut_cast_32 : decode prog_1_method_3_code 32 = .ok (.dup, 1) := by decide +kernel
theorem d_Cut_cast_33 : decode prog_1_method_3_code 33 = .ok (.ldc 76, 2) := by decide +kernel
theorem d_Cut_cast_35 : decode prog_1_method_3_code 35 = .ok (.invokespecial 78, 3) := by decide +kernel
theorem d_Cut_cast_38 : decode prog_1_method_3_code 38 = .ok (.athrow, 1) := by decide +kernel
theorem d_Cut_cast_39 : decode prog_1_method_3_code 39 = .ok (.aload_n 0, 1) := by decide +kernel
theorem d_Cut_cast_40 : decode prog_1_method_3_code 40 = .ok (.getfield 12, 3) := by decide +kernel
theorem d_Cut_cast_43 : decode prog_1_method_3_code 43 = .ok (.dup, 1) := by decide +kernel
theorem d_Cut_cast_44 : decode prog_1_method_3_code 44 = .ok (.getfield 71, 3) := by decide +kernel
theorem d_Cut_cast_47 : decode prog_1_method_3_code 47 = .ok (.iload_n 1, 1) := by decide +kernel
theorem d_Cut_cast_48 : decode prog_1_method_3_code 48 = .ok (.iadd, 1) := by decide +kernel
theorem d_Cut_cast_49 : decode prog_1_method_3_code 49 = .ok (.putfield 71, 3) := by decide +kernel
theorem d_Cut_cast_52 : decode prog_1_method_3_code 52 = .ok (.aload_n 0, 1) := by decide +kernel
theorem d_Cut_cast_53 : decode prog_1_method_3_code 53 = .ok (.iconst 1, 1) := by decide +kernel
theorem d_Cut_cast_54 : decode prog_1_method_3_code 54 = .ok (.putfield 44, 3) := by decide +kernel
theorem d_Cut_cast_57 : decode prog_1_method_3_code 57 = .ok (.aload_n 0, 1) := by decide +kernel
theorem d_Cut_cast_58 : decode prog_1_method_3_code 58 = .ok (.getfield 12, 3) := by decide +kernel
theorem d_Cut_cast_61 : decode prog_1_method_3_code 61 = .ok (.getfield 71, 3) := by decide +kernel
theorem d_Cut_cast_64 : decode prog_1_method_3_code 64 = .ok (.ireturn, 1) := by decide +kernel
theorem d_Cut_want_0 : decode prog_1_method_4_code 0 = .ok (.aload_n 0, 1) := by decide +kernel
theorem d_Cut_want_1 : decode prog_1_method_4_code 1 = .ok (.getfield 19, 3) := by decide +kernel
theorem d_Cut_want_4 : decode prog_1_method_4_code 4 = .ok (.getfield 79, 3) := by decide +kernel
theorem d_Cut_want_7 : decode prog_1_method_4_code 7 = .ok (.bipush 6, 2) := by decide +kernel
theorem d_Cut_want_9 : decode prog_1_method_4_code 9 = .ok (.if_icmp .lt 13, 3) := by decide +kernel
theorem d_Cut_want_12 : decode prog_1_method_4_code 12 = .ok (.new 51, 3) := by decide +kernel
theorem d_Cut_want_15 : decode prog_1_method_4_code 15 = .ok (.dup, 1) := by decide +kernel
theorem d_Cut_want_16 : decode prog_1_method_4_code 16 = .ok (.ldc 80, 2) := by decide +kernel
theorem d_Cut_want_18 : decode prog_1_method_4_code 18 = .ok (.invokespecial 55, 3) := by decide +kernel
theorem d_Cut_want_21 : decode prog_1_method_4_code 21 = .ok (.athrow, 1) := by decide +kernel
theorem d_Cut_want_22 : decode prog_1_method_4_code 22 = .ok (.iload_n 1, 1) := by decide +kernel
theorem d_Cut_want_23 : decode prog_1_method_4_code 23 = .ok (.iload_n 2, 1) := by decide +kernel
theorem d_Cut_want_24 : decode prog_1_method_4_code 24 = .ok (.invokestatic 82, 3) := by decide +kernel
theorem d_Cut_want_27 : decode prog_1_method_4_code 27 = .ok (.ifCond .ne 13, 3) := by decide +kernel
theorem d_Cut_want_30 : decode prog_1_method_4_code 30 = .ok (.new 64, 3) := by decide +kernel
theorem d_Cut_want_33 : decode prog_1_method_4_code 33 = .ok (.dup, 1) := by decide +kernel
theorem d_Cut_want_34 : decode prog_1_method_4_code 34 = .ok (.ldc 86, 2) := by decide +kernel
theorem d_Cut_want_36 : decode prog_1_method_4_code 36 = .ok (.invokespecial 68, 3) := by decide +kernel
theorem d_Cut_want_39 : decode prog_1_method_4_code 39 = .ok (.athrow, 1) := by decide +kernel
theorem d_Cut_want_40 : decode prog_1_method_4_code 40 = .ok (.aload_n 0, 1) := by decide +kernel
theorem d_Cut_want_41 : decode prog_1_method_4_code 41 = .ok (.getfield 19, 3) := by decide +kernel
theorem d_Cut_want_44 : decode prog_1_method_4_code 44 = .ok (.getfield 79, 3) := by decide +kernel
theorem d_Cut_want_47 : decode prog_1_method_4_code 47 = .ok (.istore_n 3, 1) := by decide +kernel
theorem d_Cut_want_48 : decode prog_1_method_4_code 48 = .ok (.aload_n 0, 1) := by decide +kernel
theorem d_Cut_want_49 : decode prog_1_method_4_code 49 = .ok (.getfield 19, 3) := by decide +kernel
theorem d_Cut_want_52 : decode prog_1_method_4_code 52 = .ok (.dup, 1) := by decide +kernel
theorem d_Cut_want_53 : decode prog_1_method_4_code 53 = .ok (.getfield 79, 3) := by decide +kernel
theorem d_Cut_want_56 : decode prog_1_method_4_code 56 = .ok (.iconst 1, 1) := by decide +kernel
theorem d_Cut_want_57 : decode prog_1_method_4_code 57 = .ok (.iadd, 1) := by decide +kernel
theorem d_Cut_want_58 : decode prog_1_method_4_code 58 = .ok (.putfield 79, 3) := by decide +kernel
theorem d_Cut_want_61 : decode prog_1_method_4_code 61 = .ok (.aload_n 0, 1) := by decide +kernel
theorem d_Cut_want_62 : decode prog_1_method_4_code 62 = .ok (.iload_n 3, 1) := by decide +kernel
theorem d_Cut_want_63 : decode prog_1_method_4_code 63 = .ok (.iload_n 1, 1) := by decide +kernel
theorem d_Cut_want_64 : decode prog_1_method_4_code 64 = .ok (.iload_n 2, 1) := by decide +kernel
theorem d_Cut_want_65 : decode prog_1_method_4_code 65 = .ok (.invokevirtual 88, 3) := by decide +kernel
theorem d_Cut_want_68 : decode prog_1_method_4_code 68 = .ok (.iload_n 3, 1) := by decide +kernel
theorem d_Cut_want_69 : decode prog_1_method_4_code 69 = .ok (.ireturn, 1) := by decide +kernel
theorem d_Cut_span_0 : decode prog_1_method_5_code 0 = .ok (.iload_n 1, 1) := by decide +kernel
theorem d_Cut_span_1 : decode prog_1_method_5_code 1 = .ok (.ifCond .lt 14, 3) := by decide +kernel
theorem d_Cut_span_4 : decode prog_1_method_5_code 4 = .ok (.iload_n 1, 1) := by decide +kernel
theorem d_Cut_span_5 : decode prog_1_method_5_code 5 = .ok (.aload_n 0, 1) := by decide +kernel
theorem d_Cut_span_6 : decode prog_1_method_5_code 6 = .ok (.getfield 19, 3) := by decide +kernel
theorem d_Cut_span_9 : decode prog_1_method_5_code 9 = .ok (.getfield 79, 3) := by decide +kernel
theorem d_Cut_span_12 : decode prog_1_method_5_code 12 = .ok (.if_icmp .lt 13, 3) := by decide +kernel
theorem d_Cut_span_15 : decode prog_1_method_5_code 15 = .ok (.new 92, 3) := by decide +kernel
theorem d_Cut_span_18 : decode prog_1_method_5_code 18 = .ok (.dup, 1) := by decide +kernel
theorem d_Cut_span_19 : decode prog_1_method_5_code 19 = .ok (.ldc 94, 2) := by decide +kernel
theorem d_Cut_span_21 : decode prog_1_method_5_code 21 = .ok (.invokespecial 96, 3) := by decide +kernel
theorem d_Cut_span_24 : decode prog_1_method_5_code 24 = .ok (.athrow, 1) := by decide +kernel
theorem d_Cut_span_25 : decode prog_1_method_5_code 25 = .ok (.iload_n 2, 1) := by decide +kernel
theorem d_Cut_span_26 : decode prog_1_method_5_code 26 = .ok (.iload_n 3, 1) := by decide +kernel
theorem d_Cut_span_27 : decode prog_1_method_5_code 27 = .ok (.invokestatic 82, 3) := by decide +kernel
theorem d_Cut_span_30 : decode prog_1_method_5_code 30 = .ok (.ifCond .ne 13, 3) := by decide +kernel
theorem d_Cut_span_33 : decode prog_1_method_5_code 33 = .ok (.new 64, 3) := by decide +kernel
theorem d_Cut_span_36 : decode prog_1_method_5_code 36 = .ok (.dup, 1) := by decide +kernel
theorem d_Cut_span_37 : decode prog_1_method_5_code 37 = .ok (.ldc 86, 2) := by decide +kernel
theorem d_Cut_span_39 : decode prog_1_method_5_code 39 = .ok (.invokespecial 68, 3) := by decide +kernel
theorem d_Cut_span_42 : decode prog_1_method_5_code 42 = .ok (.athrow, 1) := by decide +kernel
theorem d_Cut_span_43 : decode prog_1_method_5_code 43 = .ok (.aload_n 0, 1) := by decide +kernel
theorem d_Cut_span_44 : decode prog_1_method_5_code 44 = .ok (.iload_n 1, 1) := by decide +kernel
theorem d_Cut_span_45 : decode prog_1_method_5_code 45 = .ok (.iload_n 2, 1) := by decide +kernel
theorem d_Cut_span_46 : decode prog_1_method_5_code 46 = .ok (.iload_n 3, 1) := by decide +kernel
theorem d_Cut_span_47 : decode prog_1_method_5_code 47 = .ok (.invokevirtual 88, 3) := by decide +kernel
theorem d_Cut_span_50 : decode prog_1_method_5_code 50 = .ok (.return_, 1) := by decide +kernel
theorem d_Cut_trim_0 : decode prog_1_method_6_code 0 = .ok (.iload_n 1, 1) := by decide +kernel
theorem d_Cut_trim_1 : decode prog_1_method_6_code 1 = .ok (.iconst 0, 1) := by decide +kernel
theorem d_Cut_trim_2 : decode prog_1_method_6_code 2 = .ok (.sipush 300, 3) := by decide +kernel
theorem d_Cut_trim_5 : decode prog_1_method_6_code 5 = .ok (.invokestatic 59, 3) := by decide +kernel
theorem d_Cut_trim_8 : decode prog_1_method_6_code 8 = .ok (.ifCond .ne 14, 3) := by decide +kernel
theorem d_Cut_trim_11 : decode prog_1_method_6_code 11 = .ok (.iload_n 2, 1) := by decide +kernel
theorem d_Cut_trim_12 : decode prog_1_method_6_code 12 = .ok (.iconst 0, 1) := by decide +kernel
theorem d_Cut_trim_13 : decode prog_1_method_6_code 13 = .ok (.sipush 300, 3) := by decide +kernel
theorem d_Cut_trim_16 : decode prog_1_method_6_code 16 = .ok (.invokestatic 59, 3) := by decide +kernel
theorem d_Cut_trim_19 : decode prog_1_method_6_code 19 = .ok (.ifCond .eq 13, 3) := by decide +kernel
theorem d_Cut_trim_22 : decode prog_1_method_6_code 22 = .ok (.new 64, 3) := by decide +kernel
theorem d_Cut_trim_25 : decode prog_1_method_6_code 25 = .ok (.dup, 1) := by decide +kernel
theorem d_Cut_trim_26 : decode prog_1_method_6_code 26 = .ok (.ldc 97, 2) := by decide +kernel
theorem d_Cut_trim_28 : decode prog_1_method_6_code 28 = .ok (.invokespecial 68, 3) := by decide +kernel
theorem d_Cut_trim_31 : decode prog_1_method_6_code 31 = .ok (.athrow, 1) := by decide +kernel
theorem d_Cut_trim_32 : decode prog_1_method_6_code 32 = .ok (.aload_n 0, 1) := by decide +kernel
theorem d_Cut_trim_33 : decode prog_1_method_6_code 33 = .ok (.getfield 12, 3) := by decide +kernel
theorem d_Cut_trim_36 : decode prog_1_method_6_code 36 = .ok (.iload_n 1, 1) := by decide +kernel
theorem d_Cut_trim_37 : decode prog_1_method_6_code 37 = .ok (.putfield 99, 3) := by decide +kernel
theorem d_Cut_trim_40 : decode prog_1_method_6_code 40 = .ok (.aload_n 0, 1) := by decide +kernel
theorem d_Cut_trim_41 : decode prog_1_method_6_code 41 = .ok (.getfield 12, 3) := by decide +kernel
theorem d_Cut_trim_44 : decode prog_1_method_6_code 44 = .ok (.iload_n 2, 1) := by decide +kernel
theorem d_Cut_trim_45 : decode prog_1_method_6_code 45 = .ok (.putfield 102, 3) := by decide +kernel
theorem d_Cut_trim_48 : decode prog_1_method_6_code 48 = .ok (.aload_n 0, 1) := by decide +kernel
theorem d_Cut_trim_49 : decode prog_1_method_6_code 49 = .ok (.iconst 1, 1) := by decide +kernel
theorem d_Cut_trim_50 : decode prog_1_method_6_code 50 = .ok (.putfield 44, 3) := by decide +kernel
theorem d_Cut_trim_53 : decode prog_1_method_6_code 53 = .ok (.return_, 1) := by decide +kernel
theorem d_Cut_bad_0 : decode prog_1_method_7_code 0 = .ok (.aload_n 0, 1) := by decide +kernel
theorem d_Cut_bad_1 : decode prog_1_method_7_code 1 = .ok (.getfield 12, 3) := by decide +kernel
theorem d_Cut_bad_4 : decode prog_1_method_7_code 4 = .ok (.getfield 105, 3) := by decide +kernel
theorem d_Cut_bad_7 : decode prog_1_method_7_code 7 = .ok (.bipush 20, 2) := by decide +kernel
theorem d_Cut_bad_9 : decode prog_1_method_7_code 9 = .ok (.if_icmp .lt 13, 3) := by decide +kernel
theorem d_Cut_bad_12 : decode prog_1_method_7_code 12 = .ok (.new 51, 3) := by decide +kernel
theorem d_Cut_bad_15 : decode prog_1_method_7_code 15 = .ok (.dup, 1) := by decide +kernel
theorem d_Cut_bad_16 : decode prog_1_method_7_code 16 = .ok (.ldc 108, 2) := by decide +kernel
theorem d_Cut_bad_18 : decode prog_1_method_7_code 18 = .ok (.invokespecial 55, 3) := by decide +kernel
theorem d_Cut_bad_21 : decode prog_1_method_7_code 21 = .ok (.athrow, 1) := by decide +kernel
theorem d_Cut_bad_22 : decode prog_1_method_7_code 22 = .ok (.iload_n 1, 1) := by decide +kernel
theorem d_Cut_bad_23 : decode prog_1_method_7_code 23 = .ok (.iload_n 2, 1) := by decide +kernel
theorem d_Cut_bad_24 : decode prog_1_method_7_code 24 = .ok (.invokestatic 110, 3) := by decide +kernel
theorem d_Cut_bad_27 : decode prog_1_method_7_code 27 = .ok (.ifCond .ne 13, 3) := by decide +kernel
theorem d_Cut_bad_30 : decode prog_1_method_7_code 30 = .ok (.new 64, 3) := by decide +kernel
theorem d_Cut_bad_33 : decode prog_1_method_7_code 33 = .ok (.dup, 1) := by decide +kernel
theorem d_Cut_bad_34 : decode prog_1_method_7_code 34 = .ok (.ldc 113, 2) := by decide +kernel
theorem d_Cut_bad_36 : decode prog_1_method_7_code 36 = .ok (.invokespecial 68, 3) := by decide +kernel
theorem d_Cut_bad_39 : decode prog_1_method_7_code 39 = .ok (.athrow, 1) := by decide +kernel
theorem d_Cut_bad_40 : decode prog_1_method_7_code 40 = .ok (.aload_n 0, 1) := by decide +kernel
theorem d_Cut_bad_41 : decode prog_1_method_7_code 41 = .ok (.getfield 12, 3) := by decide +kernel
theorem d_Cut_bad_44 : decode prog_1_method_7_code 44 = .ok (.iload_n 1, 1) := by decide +kernel
theorem d_Cut_bad_45 : decode prog_1_method_7_code 45 = .ok (.iload_n 2, 1) := by decide +kernel
theorem d_Cut_bad_46 : decode prog_1_method_7_code 46 = .ok (.invokevirtual 115, 3) := by decide +kernel
theorem d_Cut_bad_49 : decode prog_1_method_7_code 49 = .ok (.aload_n 0, 1) := by decide +kernel
theorem d_Cut_bad_50 : decode prog_1_method_7_code 50 = .ok (.iconst 1, 1) := by decide +kernel
theorem d_Cut_bad_51 : decode prog_1_method_7_code 51 = .ok (.putfield 44, 3) := by decide +kernel
theorem d_Cut_bad_54 : decode prog_1_method_7_code 54 = .ok (.aload_n 0, 1) := by decide +kernel
theorem d_Cut_bad_55 : decode prog_1_method_7_code 55 = .ok (.getfield 12, 3) := by decide +kernel
theorem d_Cut_bad_58 : decode prog_1_method_7_code 58 = .ok (.getfield 105, 3) := by decide +kernel
theorem d_Cut_bad_61 : decode prog_1_method_7_code 61 = .ok (.ireturn, 1) := by decide +kernel
theorem d_Cut_bar_0 : decode prog_1_method_8_code 0 = .ok (.aload_n 0, 1) := by decide +kernel
theorem d_Cut_bar_1 : decode prog_1_method_8_code 1 = .ok (.getfield 12, 3) := by decide +kernel
theorem d_Cut_bar_4 : decode prog_1_method_8_code 4 = .ok (.getfield 119, 3) := by decide +kernel
theorem d_Cut_bar_7 : decode prog_1_method_8_code 7 = .ok (.bipush 20, 2) := by decide +kernel
theorem d_Cut_bar_9 : decode prog_1_method_8_code 9 = .ok (.if_icmp .lt 13, 3) := by decide +kernel
theorem d_Cut_bar_12 : decode prog_1_method_8_code 12 = .ok (.new 51, 3) := by decide +kernel
theorem d_Cut_bar_15 : decode prog_1_method_8_code 15 = .ok (.dup, 1) := by decide +kernel
theorem d_Cut_bar_16 : decode prog_1_method_8_code 16 = .ok (.ldc 122, 2) := by decide +kernel
theorem d_Cut_bar_18 : decode prog_1_method_8_code 18 = .ok (.invokespecial 55, 3) := by decide +kernel
theorem d_Cut_bar_21 : decode prog_1_method_8_code 21 = .ok (.athrow, 1) := by decide +kernel
theorem d_Cut_bar_22 : decode prog_1_method_8_code 22 = .ok (.iload_n 1, 1) := by decide +kernel
theorem d_Cut_bar_23 : decode prog_1_method_8_code 23 = .ok (.iload_n 2, 1) := by decide +kernel
theorem d_Cut_bar_24 : decode prog_1_method_8_code 24 = .ok (.invokestatic 110, 3) := by decide +kernel
theorem d_Cut_bar_27 : decode prog_1_method_8_code 27 = .ok (.ifCond .ne 13, 3) := by decide +kernel
theorem d_Cut_bar_30 : decode prog_1_method_8_code 30 = .ok (.new 64, 3) := by decide +kernel
theorem d_Cut_bar_33 : decode prog_1_method_8_code 33 = .ok (.dup, 1) := by decide +kernel
theorem d_Cut_bar_34 : decode prog_1_method_8_code 34 = .ok (.ldc 124, 2) := by decide +kernel
theorem d_Cut_bar_36 : decode prog_1_method_8_code 36 = .ok (.invokespecial 68, 3) := by decide +kernel
theorem d_Cut_bar_39 : decode prog_1_method_8_code 39 = .ok (.athrow, 1) := by decide +kernel
theorem d_Cut_bar_40 : decode prog_1_method_8_code 40 = .ok (.aload_n 0, 1) := by decide +kernel
theorem d_Cut_bar_41 : decode prog_1_method_8_code 41 = .ok (.getfield 12, 3) := by decide +kernel
theorem d_Cut_bar_44 : decode prog_1_method_8_code 44 = .ok (.iload_n 1, 1) := by decide +kernel
theorem d_Cut_bar_45 : decode prog_1_method_8_code 45 = .ok (.iload_n 2, 1) := by decide +kernel
theorem d_Cut_bar_46 : decode prog_1_method_8_code 46 = .ok (.invokevirtual 126, 3) := by decide +kernel
theorem d_Cut_bar_49 : decode prog_1_method_8_code 49 = .ok (.aload_n 0, 1) := by decide +kernel
theorem d_Cut_bar_50 : decode prog_1_method_8_code 50 = .ok (.iconst 1, 1) := by decide +kernel
theorem d_Cut_bar_51 : decode prog_1_method_8_code 51 = .ok (.putfield 44, 3) := by decide +kernel
theorem d_Cut_bar_54 : decode prog_1_method_8_code 54 = .ok (.aload_n 0, 1) := by decide +kernel
theorem d_Cut_bar_55 : decode prog_1_method_8_code 55 = .ok (.getfield 12, 3) := by decide +kernel
theorem d_Cut_bar_58 : decode prog_1_method_8_code 58 = .ok (.getfield 119, 3) := by decide +kernel
theorem d_Cut_bar_61 : decode prog_1_method_8_code 61 = .ok (.ireturn, 1) := by decide +kernel
theorem d_Cut_loss_0 : decode prog_1_method_9_code 0 = .ok (.aload_n 0, 1) := by decide +kernel
theorem d_Cut_loss_1 : decode prog_1_method_9_code 1 = .ok (.invokevirtual 129, 3) := by decide +kernel
theorem d_Cut_loss_4 : decode prog_1_method_9_code 4 = .ok (.aload_n 0, 1) := by decide +kernel
theorem d_Cut_loss_5 : decode prog_1_method_9_code 5 = .ok (.getfield 26, 3) := by decide +kernel
theorem d_Cut_loss_8 : decode prog_1_method_9_code 8 = .ok (.getfield 132, 3) := by decide +kernel
theorem d_Cut_loss_11 : decode prog_1_method_9_code 11 = .ok (.aload_n 0, 1) := by decide +kernel
theorem d_Cut_loss_12 : decode prog_1_method_9_code 12 = .ok (.getfield 12, 3) := by decide +kernel
theorem d_Cut_loss_15 : decode prog_1_method_9_code 15 = .ok (.getfield 136, 3) := by decide +kernel
theorem d_Cut_loss_18 : decode prog_1_method_9_code 18 = .ok (.iaload, 1) := by decide +kernel
theorem d_Cut_loss_19 : decode prog_1_method_9_code 19 = .ok (.ireturn, 1) := by decide +kernel
theorem d_Cut_part_0 : decode prog_1_method_10_code 0 = .ok (.iload_n 1, 1) := by decide +kernel
theorem d_Cut_part_1 : decode prog_1_method_10_code 1 = .ok (.ifCond .lt 10, 3) := by decide +kernel
theorem d_Cut_part_4 : decode prog_1_method_10_code 4 = .ok (.iload_n 2, 1) := by decide +kernel
theorem d_Cut_part_5 : decode prog_1_method_10_code 5 = .ok (.invokestatic 139, 3) := by decide +kernel
theorem d_Cut_part_8 : decode prog_1_method_10_code 8 = .ok (.ifCond .ne 13, 3) := by decide +kernel
theorem d_Cut_part_11 : decode prog_1_method_10_code 11 = .ok (.new 92, 3) := by decide +kernel
theorem d_Cut_part_14 : decode prog_1_method_10_code 14 = .ok (.dup, 1) := by decide +kernel
theorem d_Cut_part_15 : decode prog_1_method_10_code 15 = .ok (.ldc 143, 2) := by decide +kernel
theorem d_Cut_part_17 : decode prog_1_method_10_code 17 = .ok (.invokespecial 96, 3) := by decide +kernel
theorem d_Cut_part_20 : decode prog_1_method_10_code 20 = .ok (.athrow, 1) := by decide +kernel
theorem d_Cut_part_21 : decode prog_1_method_10_code 21 = .ok (.aload_n 0, 1) := by decide +kernel
theorem d_Cut_part_22 : decode prog_1_method_10_code 22 = .ok (.invokevirtual 129, 3) := by decide +kernel
theorem d_Cut_part_25 : decode prog_1_method_10_code 25 = .ok (.aload_n 0, 1) := by decide +kernel
theorem d_Cut_part_26 : decode prog_1_method_10_code 26 = .ok (.getfield 26, 3) := by decide +kernel
theorem d_Cut_part_29 : decode prog_1_method_10_code 29 = .ok (.iload_n 1, 1) := by decide +kernel
theorem d_Cut_part_30 : decode prog_1_method_10_code 30 = .ok (.aload_n 0, 1) := by decide +kernel
theorem d_Cut_part_31 : decode prog_1_method_10_code 31 = .ok (.getfield 12, 3) := by decide +kernel
theorem d_Cut_part_34 : decode prog_1_method_10_code 34 = .ok (.invokevirtual 145, 3) := by decide +kernel
theorem d_Cut_part_37 : decode prog_1_method_10_code 37 = .ok (.istore_n 3, 1) := by decide +kernel
theorem d_Cut_part_38 : decode prog_1_method_10_code 38 = .ok (.iload_n 3, 1) := by decide +kernel
theorem d_Cut_part_39 : decode prog_1_method_10_code 39 = .ok (.aload_n 0, 1) := by decide +kernel
theorem d_Cut_part_40 : decode prog_1_method_10_code 40 = .ok (.getfield 12, 3) := by decide +kernel
theorem d_Cut_part_43 : decode prog_1_method_10_code 43 = .ok (.getfield 71, 3) := by decide +kernel
theorem d_Cut_part_46 : decode prog_1_method_10_code 46 = .ok (.if_icmp .lt 6, 3) := by decide +kernel
theorem d_Cut_part_49 : decode prog_1_method_10_code 49 = .ok (.bipush (-2), 2) := by decide +kernel
theorem d_Cut_part_51 : decode prog_1_method_10_code 51 = .ok (.ireturn, 1) := by decide +kernel
theorem d_Cut_part_52 : decode prog_1_method_10_code 52 = .ok (.iload_n 2, 1) := by decide +kernel
theorem d_Cut_part_53 : decode prog_1_method_10_code 53 = .ok (.aload_n 0, 1) := by decide +kernel
theorem d_Cut_part_54 : decode prog_1_method_10_code 54 = .ok (.getfield 26, 3) := by decide +kernel
theorem d_Cut_part_57 : decode prog_1_method_10_code 57 = .ok (.getfield 149, 3) := by decide +kernel
theorem d_Cut_part_60 : decode prog_1_method_10_code 60 = .ok (.iload_n 3, 1) := by decide +kernel
theorem d_Cut_part_61 : decode prog_1_method_10_code 61 = .ok (.iaload, 1) := by decide +kernel
theorem d_Cut_part_62 : decode prog_1_method_10_code 62 = .ok (.iload_n 3, 1) := by decide +kernel
theorem d_Cut_part_63 : decode prog_1_method_10_code 63 = .ok (.aload_n 0, 1) := by decide +kernel
theorem d_Cut_part_64 : decode prog_1_method_10_code 64 = .ok (.getfield 26, 3) := by decide +kernel
theorem d_Cut_part_67 : decode prog_1_method_10_code 67 = .ok (.getfield 152, 3) := by decide +kernel
theorem d_Cut_part_70 : decode prog_1_method_10_code 70 = .ok (.iload_n 3, 1) := by decide +kernel
theorem d_Cut_part_71 : decode prog_1_method_10_code 71 = .ok (.iaload, 1) := by decide +kernel
theorem d_Cut_part_72 : decode prog_1_method_10_code 72 = .ok (.invokestatic 155, 3) := by decide +kernel
theorem d_Cut_part_75 : decode prog_1_method_10_code 75 = .ok (.ireturn, 1) := by decide +kernel
theorem d_Cut_cut_0 : decode prog_1_method_11_code 0 = .ok (.aload_n 0, 1) := by decide +kernel
theorem d_Cut_cut_1 : decode prog_1_method_11_code 1 = .ok (.getfield 12, 3) := by decide +kernel
theorem d_Cut_cut_4 : decode prog_1_method_11_code 4 = .ok (.getfield 136, 3) := by decide +kernel
theorem d_Cut_cut_7 : decode prog_1_method_11_code 7 = .ok (.aload_n 0, 1) := by decide +kernel
theorem d_Cut_cut_8 : decode prog_1_method_11_code 8 = .ok (.getfield 12, 3) := by decide +kernel
theorem d_Cut_cut_11 : decode prog_1_method_11_code 11 = .ok (.getfield 71, 3) := by decide +kernel
theorem d_Cut_cut_14 : decode prog_1_method_11_code 14 = .ok (.if_icmp .lt 13, 3) := by decide +kernel
theorem d_Cut_cut_17 : decode prog_1_method_11_code 17 = .ok (.new 51, 3) := by decide +kernel
theorem d_Cut_cut_20 : decode prog_1_method_11_code 20 = .ok (.dup, 1) := by decide +kernel
theorem d_Cut_cut_21 : decode prog_1_method_11_code 21 = .ok (.ldc 159, 2) := by decide +kernel
theorem d_Cut_cut_23 : decode prog_1_method_11_code 23 = .ok (.invokespecial 55, 3) := by decide +kernel
theorem d_Cut_cut_26 : decode prog_1_method_11_code 26 = .ok (.athrow, 1) := by decide +kernel
theorem d_Cut_cut_27 : decode prog_1_method_11_code 27 = .ok (.aload_n 0, 1) := by decide +kernel
theorem d_Cut_cut_28 : decode prog_1_method_11_code 28 = .ok (.getfield 33, 3) := by decide +kernel
theorem d_Cut_cut_31 : decode prog_1_method_11_code 31 = .ok (.getfield 48, 3) := by decide +kernel
theorem d_Cut_cut_34 : decode prog_1_method_11_code 34 = .ok (.bipush 100, 2) := by decide +kernel
theorem d_Cut_cut_36 : decode prog_1_method_11_code 36 = .ok (.if_icmp .lt 13, 3) := by decide +kernel
theorem d_Cut_cut_39 : decode prog_1_method_11_code 39 = .ok (.new 74, 3) := by decide +kernel
theorem d_Cut_cut_42 : decode prog_1_method_11_code 42 = .ok (.dup, 1) := by decide +kernel
theorem d_Cut_cut_43 : decode prog_1_method_11_code 43 = .ok (.ldc 161, 2) := by decide +kernel
theorem d_Cut_cut_45 : decode prog_1_method_11_code 45 = .ok (.invokespecial 78, 3) := by decide +kernel
theorem d_Cut_cut_48 : decode prog_1_method_11_code 48 = .ok (.athrow, 1) := by decide +kernel
theorem d_Cut_cut_49 : decode prog_1_method_11_code 49 = .ok (.aload_n 0, 1) := by decide +kernel
theorem d_Cut_cut_50 : decode prog_1_method_11_code 50 = .ok (.invokevirtual 129, 3) := by decide +kernel
theorem d_Cut_cut_53 : decode prog_1_method_11_code 53 = .ok (.aload_n 0, 1) := by decide +kernel
theorem d_Cut_cut_54 : decode prog_1_method_11_code 54 = .ok (.getfield 12, 3) := by decide +kernel
theorem d_Cut_cut_57 : decode prog_1_method_11_code 57 = .ok (.getfield 136, 3) := by decide +kernel
theorem d_Cut_cut_60 : decode prog_1_method_11_code 60 = .ok (.istore_n 1, 1) := by decide +kernel
theorem d_Cut_cut_61 : decode prog_1_method_11_code 61 = .ok (.aload_n 0, 1) := by decide +kernel
theorem d_Cut_cut_62 : decode prog_1_method_11_code 62 = .ok (.getfield 33, 3) := by decide +kernel
theorem d_Cut_cut_65 : decode prog_1_method_11_code 65 = .ok (.getfield 48, 3) := by decide +kernel
theorem d_Cut_cut_68 : decode prog_1_method_11_code 68 = .ok (.istore_n 2, 1) := by decide +kernel
theorem d_Cut_cut_69 : decode prog_1_method_11_code 69 = .ok (.aload_n 0, 1) := by decide +kernel
theorem d_Cut_cut_70 : decode prog_1_method_11_code 70 = .ok (.getfield 33, 3) := by decide +kernel
theorem d_Cut_cut_73 : decode prog_1_method_11_code 73 = .ok (.aload_n 0, 1) := by decide +kernel
theorem d_Cut_cut_74 : decode prog_1_method_11_code 74 = .ok (.getfield 26, 3) := by decide +kernel
theorem d_Cut_cut_77 : decode prog_1_method_11_code 77 = .ok (.getfield 149, 3) := by decide +kernel
theorem d_Cut_cut_80 : decode prog_1_method_11_code 80 = .ok (.iload_n 1, 1) := by decide +kernel
theorem d_Cut_cut_81 : decode prog_1_method_11_code 81 = .ok (.iaload, 1) := by decide +kernel
theorem d_Cut_cut_82 : decode prog_1_method_11_code 82 = .ok (.iload_n 1, 1) := by decide +kernel
theorem d_Cut_cut_83 : decode prog_1_method_11_code 83 = .ok (.aload_n 0, 1) := by decide +kernel
theorem d_Cut_cut_84 : decode prog_1_method_11_code 84 = .ok (.getfield 26, 3) := by decide +kernel
theorem d_Cut_cut_87 : decode prog_1_method_11_code 87 = .ok (.getfield 152, 3) := by decide +kernel
theorem d_Cut_cut_90 : decode prog_1_method_11_code 90 = .ok (.iload_n 1, 1) := by decide +kernel
theorem d_Cut_cut_91 : decode prog_1_method_11_code 91 = .ok (.iaload, 1) := by decide +kernel
theorem d_Cut_cut_92 : decode prog_1_method_11_code 92 = .ok (.invokevirtual 163, 3) := by decide +kernel
theorem d_Cut_cut_95 : decode prog_1_method_11_code 95 = .ok (.aload_n 0, 1) := by decide +kernel
theorem d_Cut_cut_96 : decode prog_1_method_11_code 96 = .ok (.getfield 12, 3) := by decide +kernel
theorem d_Cut_cut_99 : decode prog_1_method_11_code 99 = .ok (.iload_n 1, 1) := by decide +kernel
theorem d_Cut_cut_100 : decode prog_1_method_11_code 100 = .ok (.aload_n 0, 1) := by decide +kernel
theorem d_Cut_cut_101 : decode prog_1_method_11_code 101 = .ok (.getfield 26, 3) := by decide +kernel
theorem d_Cut_cut_104 : decode prog_1_method_11_code 104 = .ok (.getfield 152, 3) := by decide +kernel
theorem d_Cut_cut_107 : decode prog_1_method_11_code 107 = .ok (.iload_n 1, 1) := by decide +kernel
theorem d_Cut_cut_108 : decode prog_1_method_11_code 108 = .ok (.iaload, 1) := by decide +kernel
theorem d_Cut_cut_109 : decode prog_1_method_11_code 109 = .ok (.iadd, 1) := by decide +kernel
theorem d_Cut_cut_110 : decode prog_1_method_11_code 110 = .ok (.putfield 136, 3) := by decide +kernel
theorem d_Cut_cut_113 : decode prog_1_method_11_code 113 = .ok (.iload_n 2, 1) := by decide +kernel
theorem d_Cut_cut_114 : decode prog_1_method_11_code 114 = .ok (.ireturn, 1) := by decide +kernel
theorem d_Cut_slab_0 : decode prog_1_method_12_code 0 = .ok (.aload_n 0, 1) := by decide +kernel
theorem d_Cut_slab_1 : decode prog_1_method_12_code 1 = .ok (.iload_n 1, 1) := by decide +kernel
theorem d_Cut_slab_2 : decode prog_1_method_12_code 2 = .ok (.invokevirtual 166, 3) := by decide +kernel
theorem d_Cut_slab_5 : decode prog_1_method_12_code 5 = .ok (.ifCond .eq 10, 3) := by decide +kernel
theorem d_Cut_slab_8 : decode prog_1_method_12_code 8 = .ok (.iload_n 2, 1) := by decide +kernel
theorem d_Cut_slab_9 : decode prog_1_method_12_code 9 = .ok (.invokestatic 139, 3) := by decide +kernel
theorem d_Cut_slab_12 : decode prog_1_method_12_code 12 = .ok (.ifCond .ne 13, 3) := by decide +kernel
theorem d_Cut_slab_15 : decode prog_1_method_12_code 15 = .ok (.new 92, 3) := by decide +kernel
theorem d_Cut_slab_18 : decode prog_1_method_12_code 18 = .ok (.dup, 1) := by decide +kernel
theorem d_Cut_slab_19 : decode prog_1_method_12_code 19 = .ok (.ldc 169, 2) := by decide +kernel
theorem d_Cut_slab_21 : decode prog_1_method_12_code 21 = .ok (.invokespecial 96, 3) := by decide +kernel
theorem d_Cut_slab_24 : decode prog_1_method_12_code 24 = .ok (.athrow, 1) := by decide +kernel
theorem d_Cut_slab_25 : decode prog_1_method_12_code 25 = .ok (.iload_n 2, 1) := by decide +kernel
theorem d_Cut_slab_26 : decode prog_1_method_12_code 26 = .ok (.aload_n 0, 1) := by decide +kernel
theorem d_Cut_slab_27 : decode prog_1_method_12_code 27 = .ok (.getfield 33, 3) := by decide +kernel
theorem d_Cut_slab_30 : decode prog_1_method_12_code 30 = .ok (.getfield 171, 3) := by decide +kernel
theorem d_Cut_slab_33 : decode prog_1_method_12_code 33 = .ok (.iload_n 1, 1) := by decide +kernel
theorem d_Cut_slab_34 : decode prog_1_method_12_code 34 = .ok (.iaload, 1) := by decide +kernel
theorem d_Cut_slab_35 : decode prog_1_method_12_code 35 = .ok (.aload_n 0, 1) := by decide +kernel
theorem d_Cut_slab_36 : decode prog_1_method_12_code 36 = .ok (.getfield 33, 3) := by decide +kernel
theorem d_Cut_slab_39 : decode prog_1_method_12_code 39 = .ok (.getfield 172, 3) := by decide +kernel
theorem d_Cut_slab_42 : decode prog_1_method_12_code 42 = .ok (.iload_n 1, 1) := by decide +kernel
theorem d_Cut_slab_43 : decode prog_1_method_12_code 43 = .ok (.iaload, 1) := by decide +kernel
theorem d_Cut_slab_44 : decode prog_1_method_12_code 44 = .ok (.aload_n 0, 1) := by decide +kernel
theorem d_Cut_slab_45 : decode prog_1_method_12_code 45 = .ok (.getfield 33, 3) := by decide +kernel
theorem d_Cut_slab_48 : decode prog_1_method_12_code 48 = .ok (.getfield 175, 3) := by decide +kernel
theorem d_Cut_slab_51 : decode prog_1_method_12_code 51 = .ok (.iload_n 1, 1) := by decide +kernel
theorem d_Cut_slab_52 : decode prog_1_method_12_code 52 = .ok (.iaload, 1) := by decide +kernel
theorem d_Cut_slab_53 : decode prog_1_method_12_code 53 = .ok (.invokestatic 155, 3) := by decide +kernel
theorem d_Cut_slab_56 : decode prog_1_method_12_code 56 = .ok (.ireturn, 1) := by decide +kernel
theorem d_Cut_weight_0 : decode prog_1_method_13_code 0 = .ok (.aload_n 0, 1) := by decide +kernel
theorem d_Cut_weight_1 : decode prog_1_method_13_code 1 = .ok (.iload_n 1, 1) := by decide +kernel
theorem d_Cut_weight_2 : decode prog_1_method_13_code 2 = .ok (.invokevirtual 166, 3) := by decide +kernel
theorem d_Cut_weight_5 : decode prog_1_method_13_code 5 = .ok (.ifCond .ne 13, 3) := by decide +kernel
theorem d_Cut_weight_8 : decode prog_1_method_13_code 8 = .ok (.new 92, 3) := by decide +kernel
theorem d_Cut_weight_11 : decode prog_1_method_13_code 11 = .ok (.dup, 1) := by decide +kernel
theorem d_Cut_weight_12 : decode prog_1_method_13_code 12 = .ok (.ldc 176, 2) := by decide +kernel
theorem d_Cut_weight_14 : decode prog_1_method_13_code 14 = .ok (.invokespecial 96, 3) := by decide +kernel
theorem d_Cut_weight_17 : decode prog_1_method_13_code 17 = .ok (.athrow, 1) := by decide +kernel
theorem d_Cut_weight_18 : decode prog_1_method_13_code 18 = .ok (.aload_n 0, 1) := by decide +kernel
theorem d_Cut_weight_19 : decode prog_1_method_13_code 19 = .ok (.getfield 33, 3) := by decide +kernel
theorem d_Cut_weight_22 : decode prog_1_method_13_code 22 = .ok (.getfield 175, 3) := by decide +kernel
theorem d_Cut_weight_25 : decode prog_1_method_13_code 25 = .ok (.iload_n 1, 1) := by decide +kernel
theorem d_Cut_weight_26 : decode prog_1_method_13_code 26 = .ok (.iaload, 1) := by decide +kernel
theorem d_Cut_weight_27 : decode prog_1_method_13_code 27 = .ok (.i2l, 1) := by decide +kernel
theorem d_Cut_weight_28 : decode prog_1_method_13_code 28 = .ok (.aload_n 0, 1) := by decide +kernel
theorem d_Cut_weight_29 : decode prog_1_method_13_code 29 = .ok (.getfield 37, 3) := by decide +kernel
theorem d_Cut_weight_32 : decode prog_1_method_13_code 32 = .ok (.i2l, 1) := by decide +kernel
theorem d_Cut_weight_33 : decode prog_1_method_13_code 33 = .ok (.lmul, 1) := by decide +kernel
theorem d_Cut_weight_34 : decode prog_1_method_13_code 34 = .ok (.lstore_n 2, 1) := by decide +kernel
theorem d_Cut_weight_35 : decode prog_1_method_13_code 35 = .ok (.lload_n 2, 1) := by decide +kernel
theorem d_Cut_weight_36 : decode prog_1_method_13_code 36 = .ok (.aload_n 0, 1) := by decide +kernel
theorem d_Cut_weight_37 : decode prog_1_method_13_code 37 = .ok (.getfield 41, 3) := by decide +kernel
theorem d_Cut_weight_40 : decode prog_1_method_13_code 40 = .ok (.i2l, 1) := by decide +kernel
theorem d_Cut_weight_41 : decode prog_1_method_13_code 41 = .ok (.lmul, 1) := by decide +kernel
theorem d_Cut_weight_42 : decode prog_1_method_13_code 42 = .ok (.ldc2_w 178, 3) := by decide +kernel
theorem d_Cut_weight_45 : decode prog_1_method_13_code 45 = .ok (.ldiv, 1) := by decide +kernel
theorem d_Cut_weight_46 : decode prog_1_method_13_code 46 = .ok (.lreturn, 1) := by decide +kernel
theorem d_Cut_count_0 : decode prog_1_method_14_code 0 = .ok (.iload_n 1, 1) := by decide +kernel
theorem d_Cut_count_1 : decode prog_1_method_14_code 1 = .ok (.iconst (-1), 1) := by decide +kernel
theorem d_Cut_count_2 : decode prog_1_method_14_code 2 = .ok (.if_icmp .lt 14, 3) := by decide +kernel
theorem d_Cut_count_5 : decode prog_1_method_14_code 5 = .ok (.iload_n 1, 1) := by decide +kernel
theorem d_Cut_count_6 : decode prog_1_method_14_code 6 = .ok (.aload_n 0, 1) := by decide +kernel
theorem d_Cut_count_7 : decode prog_1_method_14_code 7 = .ok (.getfield 19, 3) := by decide +kernel
theorem d_Cut_count_10 : decode prog_1_method_14_code 10 = .ok (.getfield 79, 3) := by decide +kernel
theorem d_Cut_count_13 : decode prog_1_method_14_code 13 = .ok (.if_icmp .lt 13, 3) := by decide +kernel
theorem d_Cut_count_16 : decode prog_1_method_14_code 16 = .ok (.new 92, 3) := by decide +kernel
theorem d_Cut_count_19 : decode prog_1_method_14_code 19 = .ok (.dup, 1) := by decide +kernel
theorem d_Cut_count_20 : decode prog_1_method_14_code 20 = .ok (.ldc 94, 2) := by decide +kernel
theorem d_Cut_count_22 : decode prog_1_method_14_code 22 = .ok (.invokespecial 96, 3) := by decide +kernel
theorem d_Cut_count_25 : decode prog_1_method_14_code 25 = .ok (.athrow, 1) := by decide +kernel
theorem d_Cut_count_26 : decode prog_1_method_14_code 26 = .ok (.aload_n 0, 1) := by decide +kernel
theorem d_Cut_count_27 : decode prog_1_method_14_code 27 = .ok (.getfield 33, 3) := by decide +kernel
theorem d_Cut_count_30 : decode prog_1_method_14_code 30 = .ok (.iload_n 1, 1) := by decide +kernel
theorem d_Cut_count_31 : decode prog_1_method_14_code 31 = .ok (.invokevirtual 180, 3) := by decide +kernel
theorem d_Cut_count_34 : decode prog_1_method_14_code 34 = .ok (.ireturn, 1) := by decide +kernel
theorem d_Cut_torch_0 : decode prog_1_method_15_code 0 = .ok (.aload_n 0, 1) := by decide +kernel
theorem d_Cut_torch_1 : decode prog_1_method_15_code 1 = .ok (.getfield 12, 3) := by decide +kernel
theorem d_Cut_torch_4 : decode prog_1_method_15_code 4 = .ok (.getfield 136, 3) := by decide +kernel
theorem d_Cut_torch_7 : decode prog_1_method_15_code 7 = .ok (.ireturn, 1) := by decide +kernel
theorem d_Cut_tellSpan_0 : decode prog_1_method_16_code 0 = .ok (.aload_n 0, 1) := by decide +kernel
theorem d_Cut_tellSpan_1 : decode prog_1_method_16_code 1 = .ok (.getfield 19, 3) := by decide +kernel
theorem d_Cut_tellSpan_4 : decode prog_1_method_16_code 4 = .ok (.getfield 184, 3) := by decide +kernel
theorem d_Cut_tellSpan_7 : decode prog_1_method_16_code 7 = .ok (.iload_n 1, 1) := by decide +kernel
theorem d_Cut_tellSpan_8 : decode prog_1_method_16_code 8 = .ok (.iload_n 2, 1) := by decide +kernel
theorem d_Cut_tellSpan_9 : decode prog_1_method_16_code 9 = .ok (.iastore, 1) := by decide +kernel
theorem d_Cut_tellSpan_10 : decode prog_1_method_16_code 10 = .ok (.aload_n 0, 1) := by decide +kernel
theorem d_Cut_tellSpan_11 : decode prog_1_method_16_code 11 = .ok (.getfield 19, 3) := by decide +kernel
theorem d_Cut_tellSpan_14 : decode prog_1_method_16_code 14 = .ok (.getfield 187, 3) := by decide +kernel
theorem d_Cut_tellSpan_17 : decode prog_1_method_16_code 17 = .ok (.iload_n 1, 1) := by decide +kernel
theorem d_Cut_tellSpan_18 : decode prog_1_method_16_code 18 = .ok (.iload_n 3, 1) := by decide +kernel
theorem d_Cut_tellSpan_19 : decode prog_1_method_16_code 19 = .ok (.iastore, 1) := by decide +kernel
theorem d_Cut_tellSpan_20 : decode prog_1_method_16_code 20 = .ok (.aload_n 0, 1) := by decide +kernel
theorem d_Cut_tellSpan_21 : decode prog_1_method_16_code 21 = .ok (.iconst 1, 1) := by decide +kernel
theorem d_Cut_tellSpan_22 : decode prog_1_method_16_code 22 = .ok (.putfield 44, 3) := by decide +kernel
theorem d_Cut_tellSpan_25 : decode prog_1_method_16_code 25 = .ok (.return_, 1) := by decide +kernel
theorem d_Cut_renewPlan_0 : decode prog_1_method_17_code 0 = .ok (.aload_n 0, 1) := by decide +kernel
theorem d_Cut_renewPlan_1 : decode prog_1_method_17_code 1 = .ok (.getfield 44, 3) := by decide +kernel
theorem d_Cut_renewPlan_4 : decode prog_1_method_17_code 4 = .ok (.ifCond .eq 23, 3) := by decide +kernel
theorem d_Cut_renewPlan_7 : decode prog_1_method_17_code 7 = .ok (.aload_n 0, 1) := by decide +kernel
theorem d_Cut_renewPlan_8 : decode prog_1_method_17_code 8 = .ok (.getfield 26, 3) := by decide +kernel
theorem d_Cut_renewPlan_11 : decode prog_1_method_17_code 11 = .ok (.aload_n 0, 1) := by decide +kernel
theorem d_Cut_renewPlan_12 : decode prog_1_method_17_code 12 = .ok (.getfield 12, 3) := by decide +kernel
theorem d_Cut_renewPlan_15 : decode prog_1_method_17_code 15 = .ok (.aload_n 0, 1) := by decide +kernel
theorem d_Cut_renewPlan_16 : decode prog_1_method_17_code 16 = .ok (.getfield 19, 3) := by decide +kernel
theorem d_Cut_renewPlan_19 : decode prog_1_method_17_code 19 = .ok (.invokevirtual 190, 3) := by decide +kernel
theorem d_Cut_renewPlan_22 : decode prog_1_method_17_code 22 = .ok (.aload_n 0, 1) := by decide +kernel
theorem d_Cut_renewPlan_23 : decode prog_1_method_17_code 23 = .ok (.iconst 0, 1) := by decide +kernel
theorem d_Cut_renewPlan_24 : decode prog_1_method_17_code 24 = .ok (.putfield 44, 3) := by decide +kernel
theorem d_Cut_renewPlan_27 : decode prog_1_method_17_code 27 = .ok (.return_, 1) := by decide +kernel
theorem d_Cut_isSlab_0 : decode prog_1_method_18_code 0 = .ok (.iload_n 1, 1) := by decide +kernel
theorem d_Cut_isSlab_1 : decode prog_1_method_18_code 1 = .ok (.ifCond .lt 18, 3) := by decide +kernel
theorem d_Cut_isSlab_4 : decode prog_1_method_18_code 4 = .ok (.iload_n 1, 1) := by decide +kernel
theorem d_Cut_isSlab_5 : decode prog_1_method_18_code 5 = .ok (.aload_n 0, 1) := by decide +kernel
theorem d_Cut_isSlab_6 : decode prog_1_method_18_code 6 = .ok (.getfield 33, 3) := by decide +kernel
theorem d_Cut_isSlab_9 : decode prog_1_method_18_code 9 = .ok (.getfield 48, 3) := by decide +kernel
theorem d_Cut_isSlab_12 : decode prog_1_method_18_code 12 = .ok (.if_icmp .ge 7, 3) := by decide +kernel
theorem d_Cut_isSlab_15 : decode prog_1_method_18_code 15 = .ok (.iconst 1, 1) := by decide +kernel
theorem d_Cut_isSlab_16 : decode prog_1_method_18_code 16 = .ok (.goto 4, 3) := by decide +kernel
theorem d_Cut_isSlab_19 : decode prog_1_method_18_code 19 = .ok (.iconst 0, 1) := by decide +kernel
theorem d_Cut_isSlab_20 : decode prog_1_method_18_code 20 = .ok (.ireturn, 1) := by decide +kernel
theorem d_Cut_isOutside_0 : decode prog_1_method_19_code 0 = .ok (.iload_n 0, 1) := by decide +kernel
theorem d_Cut_isOutside_1 : decode prog_1_method_19_code 1 = .ok (.iload_n 1, 1) := by decide +kernel
theorem d_Cut_isOutside_2 : decode prog_1_method_19_code 2 = .ok (.if_icmp .lt 8, 3) := by decide +kernel
theorem d_Cut_isOutside_5 : decode prog_1_method_19_code 5 = .ok (.iload_n 0, 1) := by decide +kernel
theorem d_Cut_isOutside_6 : decode prog_1_method_19_code 6 = .ok (.iload_n 2, 1) := by decide +kernel
theorem d_Cut_isOutside_7 : decode prog_1_method_19_code 7 = .ok (.if_icmp .le 7, 3) := by decide +kernel
theorem d_Cut_isOutside_10 : decode prog_1_method_19_code 10 = .ok (.iconst 1, 1) := by decide +kernel
theorem d_Cut_isOutside_11 : decode prog_1_method_19_code 11 = .ok (.goto 4, 3) := by decide +kernel
theorem d_Cut_isOutside_14 : decode prog_1_method_19_code 14 = .ok (.iconst 0, 1) := by decide +kernel
theorem d_Cut_isOutside_15 : decode prog_1_method_19_code 15 = .ok (.ireturn, 1) := by decide +kernel
theorem d_Cut_isSpan_0 : decode prog_1_method_20_code 0 = .ok (.iload_n 0, 1) := by decide +kernel
theorem d_Cut_isSpan_1 : decode prog_1_method_20_code 1 = .ok (.iconst 1, 1) := by decide +kernel
theorem d_Cut_isSpan_2 : decode prog_1_method_20_code 2 = .ok (.if_icmp .lt 18, 3) := by decide +kernel
theorem d_Cut_isSpan_5 : decode prog_1_method_20_code 5 = .ok (.iload_n 0, 1) := by decide +kernel
theorem d_Cut_isSpan_6 : decode prog_1_method_20_code 6 = .ok (.iload_n 1, 1) := by decide +kernel
theorem d_Cut_isSpan_7 : decode prog_1_method_20_code 7 = .ok (.if_icmp .gt 13, 3) := by decide +kernel
theorem d_Cut_isSpan_10 : decode prog_1_method_20_code 10 = .ok (.iload_n 1, 1) := by decide +kernel
theorem d_Cut_isSpan_11 : decode prog_1_method_20_code 11 = .ok (.bipush 60, 2) := by decide +kernel
theorem d_Cut_isSpan_13 : decode prog_1_method_20_code 13 = .ok (.if_icmp .gt 7, 3) := by decide +kernel
theorem d_Cut_isSpan_16 : decode prog_1_method_20_code 16 = .ok (.iconst 1, 1) := by decide +kernel
theorem d_Cut_isSpan_17 : decode prog_1_method_20_code 17 = .ok (.goto 4, 3) := by decide +kernel
theorem d_Cut_isSpan_20 : decode prog_1_method_20_code 20 = .ok (.iconst 0, 1) := by decide +kernel
theorem d_Cut_isSpan_21 : decode prog_1_method_20_code 21 = .ok (.ireturn, 1) := by decide +kernel
theorem d_Cut_isStretch_0 : decode prog_1_method_21_code 0 = .ok (.iload_n 0, 1) := by decide +kernel
theorem d_Cut_isStretch_1 : decode prog_1_method_21_code 1 = .ok (.ifCond .lt 19, 3) := by decide +kernel
theorem d_Cut_isStretch_4 : decode prog_1_method_21_code 4 = .ok (.iload_n 0, 1) := by decide +kernel
theorem d_Cut_isStretch_5 : decode prog_1_method_21_code 5 = .ok (.iload_n 1, 1) := by decide +kernel
theorem d_Cut_isStretch_6 : decode prog_1_method_21_code 6 = .ok (.if_icmp .gt 14, 3) := by decide +kernel
theorem d_Cut_isStretch_9 : decode prog_1_method_21_code 9 = .ok (.iload_n 1, 1) := by decide +kernel
theorem d_Cut_isStretch_10 : decode prog_1_method_21_code 10 = .ok (.sipush 300, 3) := by decide +kernel
theorem d_Cut_isStretch_13 : decode prog_1_method_21_code 13 = .ok (.if_icmp .gt 7, 3) := by decide +kernel
theorem d_Cut_isStretch_16 : decode prog_1_method_21_code 16 = .ok (.iconst 1, 1) := by decide +kernel
theorem d_Cut_isStretch_17 : decode prog_1_method_21_code 17 = .ok (.goto 4, 3) := by decide +kernel
theorem d_Cut_isStretch_20 : decode prog_1_method_21_code 20 = .ok (.iconst 0, 1) := by decide +kernel
theorem d_Cut_isStretch_21 : decode prog_1_method_21_code 21 = .ok (.ireturn, 1) := by decide +kernel
theorem d_Cut_isWhat_0 : decode prog_1_method_22_code 0 = .ok (.iload_n 0, 1) := by decide +kernel
theorem d_Cut_isWhat_1 : decode prog_1_method_22_code 1 = .ok (.ifCond .lt 12, 3) := by decide +kernel
theorem d_Cut_isWhat_4 : decode prog_1_method_22_code 4 = .ok (.iload_n 0, 1) := by decide +kernel
theorem d_Cut_isWhat_5 : decode prog_1_method_22_code 5 = .ok (.iconst 2, 1) := by decide +kernel
theorem d_Cut_isWhat_6 : decode prog_1_method_22_code 6 = .ok (.if_icmp .gt 7, 3) := by decide +kernel
theorem d_Cut_isWhat_9 : decode prog_1_method_22_code 9 = .ok (.iconst 1, 1) := by decide +kernel
theorem d_Cut_isWhat_10 : decode prog_1_method_22_code 10 = .ok (.goto 4, 3) := by decide +kernel
theorem d_Cut_isWhat_13 : decode prog_1_method_22_code 13 = .ok (.iconst 0, 1) := by decide +kernel
theorem d_Cut_isWhat_14 : decode prog_1_method_22_code 14 = .ok (.ireturn, 1) := by decide +kernel
theorem d_Cut_pick_0 : decode prog_1_method_23_code 0 = .ok (.iload_n 0, 1) := by decide +kernel
theorem d_Cut_pick_1 : decode prog_1_method_23_code 1 = .ok (.ifCond .ne 5, 3) := by decide +kernel
theorem d_Cut_pick_4 : decode prog_1_method_23_code 4 = .ok (.iload_n 1, 1) := by decide +kernel
theorem d_Cut_pick_5 : decode prog_1_method_23_code 5 = .ok (.ireturn, 1) := by decide +kernel
theorem d_Cut_pick_6 : decode prog_1_method_23_code 6 = .ok (.iload_n 0, 1) := by decide +kernel
theorem d_Cut_pick_7 : decode prog_1_method_23_code 7 = .ok (.iconst 1, 1) := by decide +kernel
theorem d_Cut_pick_8 : decode prog_1_method_23_code 8 = .ok (.if_icmp .ne 7, 3) := by decide +kernel
theorem d_Cut_pick_11 : decode prog_1_method_23_code 11 = .ok (.iload_n 2, 1) := by decide +kernel
theorem d_Cut_pick_12 : decode prog_1_method_23_code 12 = .ok (.goto 4, 3) := by decide +kernel
theorem d_Cut_pick_15 : decode prog_1_method_23_code 15 = .ok (.iload_n 3, 1) := by decide +kernel
theorem d_Cut_pick_16 : decode prog_1_method_23_code 16 = .ok (.ireturn, 1) := by decide +kernel
theorem d_Plan_init_0 : decode prog_2_method_1_code 0 = .ok (.aload_n 0, 1) := by decide +kernel
theorem d_Plan_init_1 : decode prog_2_method_1_code 1 = .ok (.invokespecial 3, 3) := by decide +kernel
theorem d_Plan_init_4 : decode prog_2_method_1_code 4 = .ok (.aload_n 0, 1) := by decide +kernel
theorem d_Plan_init_5 : decode prog_2_method_1_code 5 = .ok (.sipush 301, 3) := by decide +kernel
theorem d_Plan_init_8 : decode prog_2_method_1_code 8 = .ok (.newarray .int, 2) := by decide +kernel
theorem d_Plan_init_10 : decode prog_2_method_1_code 10 = .ok (.putfield 9, 3) := by decide +kernel
theorem d_Plan_init_13 : decode prog_2_method_1_code 13 = .ok (.aload_n 0, 1) := by decide +kernel
theorem d_Plan_init_14 : decode prog_2_method_1_code 14 = .ok (.sipush 301, 3) := by decide +kernel
theorem d_Plan_init_17 : decode prog_2_method_1_code 17 = .ok (.newarray .int, 2) := by decide +kernel
theorem d_Plan_init_19 : decode prog_2_method_1_code 19 = .ok (.putfield 15, 3) := by decide +kernel
theorem d_Plan_init_22 : decode prog_2_method_1_code 22 = .ok (.aload_n 0, 1) := by decide +kernel
theorem d_Plan_init_23 : decode prog_2_method_1_code 23 = .ok (.sipush 301, 3) := by decide +kernel
theorem d_Plan_init_26 : decode prog_2_method_1_code 26 = .ok (.newarray .int, 2) := by decide +kernel
theorem d_Plan_init_28 : decode prog_2_method_1_code 28 = .ok (.putfield 18, 3) := by decide +kernel
theorem d_Plan_init_31 : decode prog_2_method_1_code 31 = .ok (.return_, 1) := by decide +kernel
theorem d_Plan_make_0 : decode prog_2_method_2_code 0 = .ok (.aload_n 0, 1) := by decide +kernel
theorem d_Plan_make_1 : decode prog_2_method_2_code 1 = .ok (.getfield 9, 3) := by decide +kernel
theorem d_Plan_make_4 : decode prog_2_method_2_code 4 = .ok (.aload_n 1, 1) := by decide +kernel
theorem d_Plan_make_5 : decode prog_2_method_2_code 5 = .ok (.getfield 21, 3) := by decide +kernel
theorem d_Plan_make_8 : decode prog_2_method_2_code 8 = .ok (.iconst 0, 1) := by decide +kernel
theorem d_Plan_make_9 : decode prog_2_method_2_code 9 = .ok (.iastore, 1) := by decide +kernel
theorem d_Plan_make_10 : decode prog_2_method_2_code 10 = .ok (.aload_n 0, 1) := by decide +kernel
theorem d_Plan_make_11 : decode prog_2_method_2_code 11 = .ok (.getfield 15, 3) := by decide +kernel
theorem d_Plan_make_14 : decode prog_2_method_2_code 14 = .ok (.aload_n 1, 1) := by decide +kernel
theorem d_Plan_make_15 : decode prog_2_method_2_code 15 = .ok (.getfield 21, 3) := by decide +kernel
theorem d_Plan_make_18 : decode prog_2_method_2_code 18 = .ok (.bipush (-2), 2) := by decide +kernel
theorem d_Plan_make_20 : decode prog_2_method_2_code 20 = .ok (.iastore, 1) := by decide +kernel
theorem d_Plan_make_21 : decode prog_2_method_2_code 21 = .ok (.aload_n 0, 1) := by decide +kernel
theorem d_Plan_make_22 : decode prog_2_method_2_code 22 = .ok (.getfield 18, 3) := by decide +kernel
theorem d_Plan_make_25 : decode prog_2_method_2_code 25 = .ok (.aload_n 1, 1) := by decide +kernel
theorem d_Plan_make_26 : decode prog_2_method_2_code 26 = .ok (.getfield 21, 3) := by decide +kernel
theorem d_Plan_make_29 : decode prog_2_method_2_code 29 = .ok (.iconst 0, 1) := by decide +kernel
theorem d_Plan_make_30 : decode prog_2_method_2_code 30 = .ok (.iastore, 1) := by decide +kernel
theorem d_Plan_make_31 : decode prog_2_method_2_code 31 = .ok (.iconst 0, 1) := by decide +kernel
theorem d_Plan_make_32 : decode prog_2_method_2_code 32 = .ok (.istore_n 3, 1) := by decide +kernel
theorem d_Plan_make_33 : decode prog_2_method_2_code 33 = .ok (.iconst 0, 1) := by decide +kernel
theorem d_Plan_make_34 : decode prog_2_method_2_code 34 = .ok (.istore 4, 2) := by decide +kernel
theorem d_Plan_make_36 : decode prog_2_method_2_code 36 = .ok (.aload_n 1, 1) := by decide +kernel
theorem d_Plan_make_37 : decode prog_2_method_2_code 37 = .ok (.getfield 21, 3) := by decide +kernel
theorem d_Plan_make_40 : decode prog_2_method_2_code 40 = .ok (.iconst 1, 1) := by decide +kernel
theorem d_Plan_make_41 : decode prog_2_method_2_code 41 = .ok (.isub, 1) := by decide +kernel
theorem d_Plan_make_42 : decode prog_2_method_2_code 42 = .ok (.istore 5, 2) := by decide +kernel
theorem d_Plan_make_44 : decode prog_2_method_2_code 44 = .ok (.iload 5, 2) := by decide +kernel
theorem d_Plan_make_46 : decode prog_2_method_2_code 46 = .ok (.aload_n 1, 1) := by decide +kernel
theorem d_Plan_make_47 : decode prog_2_method_2_code 47 = .ok (.getfield 27, 3) := by decide +kernel
theorem d_Plan_make_50 : decode prog_2_method_2_code 50 = .ok (.if_icmp .lt 55, 3) := by decide +kernel
theorem d_Plan_make_53 : decode prog_2_method_2_code 53 = .ok (.aload_n 1, 1) := by decide +kernel
theorem d_Plan_make_54 : decode prog_2_method_2_code 54 = .ok (.iload 5, 2) := by decide +kernel
theorem d_Plan_make_56 : decode prog_2_method_2_code 56 = .ok (.invokevirtual 30, 3) := by decide +kernel
theorem d_Plan_make_59 : decode prog_2_method_2_code 59 = .ok (.ifCond .eq 9, 3) := by decide +kernel
theorem d_Plan_make_62 : decode prog_2_method_2_code 62 = .ok (.iinc 3 1, 3) := by decide +kernel
theorem d_Plan_make_65 : decode prog_2_method_2_code 65 = .ok (.goto 8, 3) := by decide +kernel
theorem d_Plan_make_68 : decode prog_2_method_2_code 68 = .ok (.iconst 0, 1) := by decide +kernel
theorem d_Plan_make_69 : decode prog_2_method_2_code 69 = .ok (.istore_n 3, 1) := by decide +kernel
theorem d_Plan_make_70 : decode prog_2_method_2_code 70 = .ok (.iinc 4 1, 3) := by decide +kernel
theorem d_Plan_make_73 : decode prog_2_method_2_code 73 = .ok (.aload_n 0, 1) := by decide +kernel
theorem d_Plan_make_74 : decode prog_2_method_2_code 74 = .ok (.iload 5, 2) := by decide +kernel
theorem d_Plan_make_76 : decode prog_2_method_2_code 76 = .ok (.invokevirtual 34, 3) := by decide +kernel
theorem d_Plan_make_79 : decode prog_2_method_2_code 79 = .ok (.aload_n 1, 1) := by decide +kernel
theorem d_Plan_make_80 : decode prog_2_method_2_code 80 = .ok (.iload 5, 2) := by decide +kernel
theorem d_Plan_make_82 : decode prog_2_method_2_code 82 = .ok (.invokevirtual 38, 3) := by decide +kernel
theorem d_Plan_make_85 : decode prog_2_method_2_code 85 = .ok (.ifCond .eq 14, 3) := by decide +kernel
theorem d_Plan_make_88 : decode prog_2_method_2_code 88 = .ok (.aload_n 0, 1) := by decide +kernel
theorem d_Plan_make_89 : decode prog_2_method_2_code 89 = .ok (.iload 5, 2) := by decide +kernel
theorem d_Plan_make_91 : decode prog_2_method_2_code 91 = .ok (.iload_n 3, 1) := by decide +kernel
theorem d_Plan_make_92 : decode prog_2_method_2_code 92 = .ok (.iload 4, 2) := by decide +kernel
theorem d_Plan_make_94 : decode prog_2_method_2_code 94 = .ok (.aload_n 1, 1) := by decide +kernel
theorem d_Plan_make_95 : decode prog_2_method_2_code 95 = .ok (.aload_n 2, 1) := by decide +kernel
theorem d_Plan_make_96 : decode prog_2_method_2_code 96 = .ok (.invokevirtual 41, 3) := by decide +kernel
theorem d_Plan_make_99 : decode prog_2_method_2_code 99 = .ok (.iinc 5 (-1), 3) := by decide +kernel
theorem d_Plan_make_102 : decode prog_2_method_2_code 102 = .ok (.goto (-58), 3) := by decide +kernel
theorem d_Plan_make_105 : decode prog_2_method_2_code 105 = .ok (.return_, 1) := by decide +kernel
theorem d_Plan_beginOfPart_0 : decode prog_2_method_3_code 0 = .ok (.iload_n 1, 1) := by decide +kernel
theorem d_Plan_beginOfPart_1 : decode prog_2_method_3_code 1 = .ok (.sipush 300, 3) := by decide +kernel
theorem d_Plan_beginOfPart_4 : decode prog_2_method_3_code 4 = .ok (.invokestatic 45, 3) := by decide +kernel
theorem d_Plan_beginOfPart_7 : decode prog_2_method_3_code 7 = .ok (.istore_n 3, 1) := by decide +kernel
theorem d_Plan_beginOfPart_8 : decode prog_2_method_3_code 8 = .ok (.aload_n 2, 1) := by decide +kernel
theorem d_Plan_beginOfPart_9 : decode prog_2_method_3_code 9 = .ok (.getfield 27, 3) := by decide +kernel
theorem d_Plan_beginOfPart_12 : decode prog_2_method_3_code 12 = .ok (.istore 4, 2) := by decide +kernel
theorem d_Plan_beginOfPart_14 : decode prog_2_method_3_code 14 = .ok (.iconst 0, 1) := by decide +kernel
theorem d_Plan_beginOfPart_15 : decode prog_2_method_3_code 15 = .ok (.istore 5, 2) := by decide +kernel
theorem d_Plan_beginOfPart_17 : decode prog_2_method_3_code 17 = .ok (.iload 5, 2) := by decide +kernel
theorem d_Plan_beginOfPart_19 : decode prog_2_method_3_code 19 = .ok (.iload_n 3, 1) := by decide +kernel
theorem d_Plan_beginOfPart_20 : decode prog_2_method_3_code 20 = .ok (.if_icmp .ge 30, 3) := by decide +kernel
theorem d_Plan_beginOfPart_23 : decode prog_2_method_3_code 23 = .ok (.iload 4, 2) := by decide +kernel
theorem d_Plan_beginOfPart_25 : decode prog_2_method_3_code 25 = .ok (.aload_n 2, 1) := by decide +kernel
theorem d_Plan_beginOfPart_26 : decode prog_2_method_3_code 26 = .ok (.getfield 21, 3) := by decide +kernel
theorem d_Plan_beginOfPart_29 : decode prog_2_method_3_code 29 = .ok (.if_icmp .ge 21, 3) := by decide +kernel
theorem d_Plan_beginOfPart_32 : decode prog_2_method_3_code 32 = .ok (.iload 4, 2) := by decide +kernel
theorem d_Plan_beginOfPart_34 : decode prog_2_method_3_code 34 = .ok (.aload_n 0, 1) := by decide +kernel
theorem d_Plan_beginOfPart_35 : decode prog_2_method_3_code 35 = .ok (.getfield 18, 3) := by decide +kernel
theorem d_Plan_beginOfPart_38 : decode prog_2_method_3_code 38 = .ok (.iload 4, 2) := by decide +kernel
theorem d_Plan_beginOfPart_40 : decode prog_2_method_3_code 40 = .ok (.iaload, 1) := by decide +kernel
theorem d_Plan_beginOfPart_41 : decode prog_2_method_3_code 41 = .ok (.iadd, 1) := by decide +kernel
theorem d_Plan_beginOfPart_42 : decode prog_2_method_3_code 42 = .ok (.istore 4, 2) := by decide +kernel
theorem d_Plan_beginOfPart_44 : decode prog_2_method_3_code 44 = .ok (.iinc 5 1, 3) := by decide +kernel
theorem d_Plan_beginOfPart_47 : decode prog_2_method_3_code 47 = .ok (.goto (-30), 3) := by decide +kernel
theorem d_Plan_beginOfPart_50 : decode prog_2_method_3_code 50 = .ok (.iload 4, 2) := by decide +kernel
theorem d_Plan_beginOfPart_52 : decode prog_2_method_3_code 52 = .ok (.ireturn, 1) := by decide +kernel
theorem d_Plan_takeScrap_0 : decode prog_2_method_4_code 0 = .ok (.aload_n 0, 1) := by decide +kernel
theorem d_Plan_takeScrap_1 : decode prog_2_method_4_code 1 = .ok (.getfield 15, 3) := by decide +kernel
theorem d_Plan_takeScrap_4 : decode prog_2_method_4_code 4 = .ok (.iload_n 1, 1) := by decide +kernel
theorem d_Plan_takeScrap_5 : decode prog_2_method_4_code 5 = .ok (.iconst 1, 1) := by decide +kernel
theorem d_Plan_takeScrap_6 : decode prog_2_method_4_code 6 = .ok (.iadd, 1) := by decide +kernel
theorem d_Plan_takeScrap_7 : decode prog_2_method_4_code 7 = .ok (.iaload, 1) := by decide +kernel
theorem d_Plan_takeScrap_8 : decode prog_2_method_4_code 8 = .ok (.iconst (-1), 1) := by decide +kernel
theorem d_Plan_takeScrap_9 : decode prog_2_method_4_code 9 = .ok (.if_icmp .ne 7, 3) := by decide +kernel
theorem d_Plan_takeScrap_12 : decode prog_2_method_4_code 12 = .ok (.iconst 1, 1) := by decide +kernel
theorem d_Plan_takeScrap_13 : decode prog_2_method_4_code 13 = .ok (.goto 4, 3) := by decide +kernel
theorem d_Plan_takeScrap_16 : decode prog_2_method_4_code 16 = .ok (.iconst 0, 1) := by decide +kernel
theorem d_Plan_takeScrap_17 : decode prog_2_method_4_code 17 = .ok (.istore_n 2, 1) := by decide +kernel
theorem d_Plan_takeScrap_18 : decode prog_2_method_4_code 18 = .ok (.aload_n 0, 1) := by decide +kernel
theorem d_Plan_takeScrap_19 : decode prog_2_method_4_code 19 = .ok (.getfield 9, 3) := by decide +kernel
theorem d_Plan_takeScrap_22 : decode prog_2_method_4_code 22 = .ok (.iload_n 1, 1) := by decide +kernel
theorem d_Plan_takeScrap_23 : decode prog_2_method_4_code 23 = .ok (.aload_n 0, 1) := by decide +kernel
theorem d_Plan_takeScrap_24 : decode prog_2_method_4_code 24 = .ok (.getfield 9, 3) := by decide +kernel
theorem d_Plan_takeScrap_27 : decode prog_2_method_4_code 27 = .ok (.iload_n 1, 1) := by decide +kernel
theorem d_Plan_takeScrap_28 : decode prog_2_method_4_code 28 = .ok (.iconst 1, 1) := by decide +kernel
theorem d_Plan_takeScrap_29 : decode prog_2_method_4_code 29 = .ok (.iadd, 1) := by decide +kernel
theorem d_Plan_takeScrap_30 : decode prog_2_method_4_code 30 = .ok (.iaload, 1) := by decide +kernel
theorem d_Plan_takeScrap_31 : decode prog_2_method_4_code 31 = .ok (.iconst 1, 1) := by decide +kernel
theorem d_Plan_takeScrap_32 : decode prog_2_method_4_code 32 = .ok (.iadd, 1) := by decide +kernel
theorem d_Plan_takeScrap_33 : decode prog_2_method_4_code 33 = .ok (.iastore, 1) := by decide +kernel
theorem d_Plan_takeScrap_34 : decode prog_2_method_4_code 34 = .ok (.aload_n 0, 1) := by decide +kernel
theorem d_Plan_takeScrap_35 : decode prog_2_method_4_code 35 = .ok (.getfield 15, 3) := by decide +kernel
theorem d_Plan_takeScrap_38 : decode prog_2_method_4_code 38 = .ok (.iload_n 1, 1) := by decide +kernel
theorem d_Plan_takeScrap_39 : decode prog_2_method_4_code 39 = .ok (.iconst (-1), 1) := by decide +kernel
theorem d_Plan_takeScrap_40 : decode prog_2_method_4_code 40 = .ok (.iastore, 1) := by decide +kernel
theorem d_Plan_takeScrap_41 : decode prog_2_method_4_code 41 = .ok (.aload_n 0, 1) := by decide +kernel
theorem d_Plan_takeScrap_42 : decode prog_2_method_4_code 42 = .ok (.getfield 18, 3) := by decide +kernel
theorem d_Plan_takeScrap_45 : decode prog_2_method_4_code 45 = .ok (.iload_n 1, 1) := by decide +kernel
theorem d_Plan_takeScrap_46 : decode prog_2_method_4_code 46 = .ok (.iload_n 2, 1) := by decide +kernel
theorem d_Plan_takeScrap_47 : decode prog_2_method_4_code 47 = .ok (.ifCond .eq 16, 3) := by decide +kernel
theorem d_Plan_takeScrap_50 : decode prog_2_method_4_code 50 = .ok (.aload_n 0, 1) := by decide +kernel
theorem d_Plan_takeScrap_51 : decode prog_2_method_4_code 51 = .ok (.getfield 18, 3) := by decide +kernel
theorem d_Plan_takeScrap_54 : decode prog_2_method_4_code 54 = .ok (.iload_n 1, 1) := by decide +kernel
theorem d_Plan_takeScrap_55 : decode prog_2_method_4_code 55 = .ok (.iconst 1, 1) := by decide +kernel
theorem d_Plan_takeScrap_56 : decode prog_2_method_4_code 56 = .ok (.iadd, 1) := by decide +kernel
theorem d_Plan_takeScrap_57 : decode prog_2_method_4_code 57 = .ok (.iaload, 1) := by decide +kernel
theorem d_Plan_takeScrap_58 : decode prog_2_method_4_code 58 = .ok (.iconst 1, 1) := by decide +kernel
theorem d_Plan_takeScrap_59 : decode prog_2_method_4_code 59 = .ok (.iadd, 1) := by decide +kernel
theorem d_Plan_takeScrap_60 : decode prog_2_method_4_code 60 = .ok (.goto 4, 3) := by decide +kernel
theorem d_Plan_takeScrap_63 : decode prog_2_method_4_code 63 = .ok (.iconst 1, 1) := by decide +kernel
theorem d_Plan_takeScrap_64 : decode prog_2_method_4_code 64 = .ok (.iastore, 1) := by decide +kernel
theorem d_Plan_takeScrap_65 : decode prog_2_method_4_code 65 = .ok (.return_, 1) := by decide +kernel
theorem d_Plan_takeBestPiece_0 : decode prog_2_method_5_code 0 = .ok (.iconst 0, 1) := by decide +kernel
theorem d_Plan_takeBestPiece_1 : decode prog_2_method_5_code 1 = .ok (.istore 6, 2) := by decide +kernel
theorem d_Plan_takeBestPiece_3 : decode prog_2_method_5_code 3 = .ok (.iload 6, 2) := by decide +kernel
theorem d_Plan_takeBestPiece_5 : decode prog_2_method_5_code 5 = .ok (.aload 5, 2) := by decide +kernel
theorem d_Plan_takeBestPiece_7 : decode prog_2_method_5_code 7 = .ok (.getfield 51, 3) := by decide +kernel
theorem d_Plan_takeBestPiece_10 : decode prog_2_method_5_code 10 = .ok (.if_icmp .ge 102, 3) := by decide +kernel
theorem d_Plan_takeBestPiece_13 : decode prog_2_method_5_code 13 = .ok (.aload 5, 2) := by decide +kernel
theorem d_Plan_takeBestPiece_15 : decode prog_2_method_5_code 15 = .ok (.getfield 56, 3) := by decide +kernel
theorem d_Plan_takeBestPiece_18 : decode prog_2_method_5_code 18 = .ok (.iload 6, 2) := by decide +kernel
theorem d_Plan_takeBestPiece_20 : decode prog_2_method_5_code 20 = .ok (.iaload, 1) := by decide +kernel
theorem d_Plan_takeBestPiece_21 : decode prog_2_method_5_code 21 = .ok (.iload_n 2, 1) := by decide +kernel
theorem d_Plan_takeBestPiece_22 : decode prog_2_method_5_code 22 = .ok (.invokestatic 45, 3) := by decide +kernel
theorem d_Plan_takeBestPiece_25 : decode prog_2_method_5_code 25 = .ok (.istore 7, 2) := by decide +kernel
theorem d_Plan_takeBestPiece_27 : decode prog_2_method_5_code 27 = .ok (.iload 7, 2) := by decide +kernel
theorem d_Plan_takeBestPiece_29 : decode prog_2_method_5_code 29 = .ok (.istore 8, 2) := by decide +kernel
theorem d_Plan_takeBestPiece_31 : decode prog_2_method_5_code 31 = .ok (.iload 8, 2) := by decide +kernel
theorem d_Plan_takeBestPiece_33 : decode prog_2_method_5_code 33 = .ok (.aload 5, 2) := by decide +kernel
theorem d_Plan_takeBestPiece_35 : decode prog_2_method_5_code 35 = .ok (.getfield 59, 3) := by decide +kernel
theorem d_Plan_takeBestPiece_38 : decode prog_2_method_5_code 38 = .ok (.iload 6, 2) := by decide +kernel
theorem d_Plan_takeBestPiece_40 : decode prog_2_method_5_code 40 = .ok (.iaload, 1) := by decide +kernel
theorem d_Plan_takeBestPiece_41 : decode prog_2_method_5_code 41 = .ok (.if_icmp .lt 65, 3) := by decide +kernel
theorem d_Plan_takeBestPiece_44 : decode prog_2_method_5_code 44 = .ok (.iload_n 1, 1) := by decide +kernel
theorem d_Plan_takeBestPiece_45 : decode prog_2_method_5_code 45 = .ok (.iload 8, 2) := by decide +kernel
theorem d_Plan_takeBestPiece_47 : decode prog_2_method_5_code 47 = .ok (.iadd, 1) := by decide +kernel
theorem d_Plan_takeBestPiece_48 : decode prog_2_method_5_code 48 = .ok (.istore 9, 2) := by decide +kernel
theorem d_Plan_takeBestPiece_50 : decode prog_2_method_5_code 50 = .ok (.aload 4, 2) := by decide +kernel
theorem d_Plan_takeBestPiece_52 : decode prog_2_method_5_code 52 = .ok (.iload 9, 2) := by decide +kernel
theorem d_Plan_takeBestPiece_54 : decode prog_2_method_5_code 54 = .ok (.invokevirtual 62, 3) := by decide +kernel
theorem d_Plan_takeBestPiece_57 : decode prog_2_method_5_code 57 = .ok (.ifCond .eq 22, 3) := by decide +kernel
theorem d_Plan_takeBestPiece_60 : decode prog_2_method_5_code 60 = .ok (.aload_n 0, 1) := by decide +kernel
theorem d_Plan_takeBestPiece_61 : decode prog_2_method_5_code 61 = .ok (.iload_n 1, 1) := by decide +kernel
theorem d_Plan_takeBestPiece_62 : decode prog_2_method_5_code 62 = .ok (.iload 9, 2) := by decide +kernel
theorem d_Plan_takeBestPiece_64 : decode prog_2_method_5_code 64 = .ok (.invokevirtual 65, 3) := by decide +kernel
theorem d_Plan_takeBestPiece_67 : decode prog_2_method_5_code 67 = .ok (.ifCond .eq 12, 3) := by decide +kernel
theorem d_Plan_takeBestPiece_70 : decode prog_2_method_5_code 70 = .ok (.aload_n 0, 1) := by decide +kernel
theorem d_Plan_takeBestPiece_71 : decode prog_2_method_5_code 71 = .ok (.iload_n 1, 1) := by decide +kernel
theorem d_Plan_takeBestPiece_72 : decode prog_2_method_5_code 72 = .ok (.iload 6, 2) := by decide +kernel
theorem d_Plan_takeBestPiece_74 : decode prog_2_method_5_code 74 = .ok (.iload 8, 2) := by decide +kernel
theorem d_Plan_takeBestPiece_76 : decode prog_2_method_5_code 76 = .ok (.invokevirtual 69, 3) := by decide +kernel
theorem d_Plan_takeBestPiece_79 : decode prog_2_method_5_code 79 = .ok (.aload_n 0, 1) := by decide +kernel
theorem d_Plan_takeBestPiece_80 : decode prog_2_method_5_code 80 = .ok (.getfield 15, 3) := by decide +kernel
theorem d_Plan_takeBestPiece_83 : decode prog_2_method_5_code 83 = .ok (.iload_n 1, 1) := by decide +kernel
theorem d_Plan_takeBestPiece_84 : decode prog_2_method_5_code 84 = .ok (.iaload, 1) := by decide +kernel
theorem d_Plan_takeBestPiece_85 : decode prog_2_method_5_code 85 = .ok (.iconst (-1), 1) := by decide +kernel
theorem d_Plan_takeBestPiece_86 : decode prog_2_method_5_code 86 = .ok (.if_icmp .eq 14, 3) := by decide +kernel
theorem d_Plan_takeBestPiece_89 : decode prog_2_method_5_code 89 = .ok (.aload_n 0, 1) := by decide +kernel
theorem d_Plan_takeBestPiece_90 : decode prog_2_method_5_code 90 = .ok (.getfield 9, 3) := by decide +kernel
theorem d_Plan_takeBestPiece_93 : decode prog_2_method_5_code 93 = .ok (.iload_n 1, 1) := by decide +kernel
theorem d_Plan_takeBestPiece_94 : decode prog_2_method_5_code 94 = .ok (.iaload, 1) := by decide +kernel
theorem d_Plan_takeBestPiece_95 : decode prog_2_method_5_code 95 = .ok (.iload_n 3, 1) := by decide +kernel
theorem d_Plan_takeBestPiece_96 : decode prog_2_method_5_code 96 = .ok (.if_icmp .ne 4, 3) := by decide +kernel
theorem d_Plan_takeBestPiece_99 : decode prog_2_method_5_code 99 = .ok (.return_, 1) := by decide +kernel
theorem d_Plan_takeBestPiece_100 : decode prog_2_method_5_code 100 = .ok (.iinc 8 (-1), 3) := by decide +kernel
theorem d_Plan_takeBestPiece_103 : decode prog_2_method_5_code 103 = .ok (.goto (-72), 3) := by decide +kernel
theorem d_Plan_takeBestPiece_106 : decode prog_2_method_5_code 106 = .ok (.iinc 6 1, 3) := by decide +kernel
theorem d_Plan_takeBestPiece_109 : decode prog_2_method_5_code 109 = .ok (.goto (-106), 3) := by decide +kernel
theorem d_Plan_takeBestPiece_112 : decode prog_2_method_5_code 112 = .ok (.return_, 1) := by decide +kernel
theorem d_Plan_takePiece_0 : decode prog_2_method_6_code 0 = .ok (.aload_n 0, 1) := by decide +kernel
theorem d_Plan_takePiece_1 : decode prog_2_method_6_code 1 = .ok (.getfield 9, 3) := by decide +kernel
theorem d_Plan_takePiece_4 : decode prog_2_method_6_code 4 = .ok (.iload_n 1, 1) := by decide +kernel
theorem d_Plan_takePiece_5 : decode prog_2_method_6_code 5 = .ok (.aload_n 0, 1) := by decide +kernel
theorem d_Plan_takePiece_6 : decode prog_2_method_6_code 6 = .ok (.getfield 9, 3) := by decide +kernel
theorem d_Plan_takePiece_9 : decode prog_2_method_6_code 9 = .ok (.iload_n 1, 1) := by decide +kernel
theorem d_Plan_takePiece_10 : decode prog_2_method_6_code 10 = .ok (.iload_n 3, 1) := by decide +kernel
theorem d_Plan_takePiece_11 : decode prog_2_method_6_code 11 = .ok (.iadd, 1) := by decide +kernel
theorem d_Plan_takePiece_12 : decode prog_2_method_6_code 12 = .ok (.iaload, 1) := by decide +kernel
theorem d_Plan_takePiece_13 : decode prog_2_method_6_code 13 = .ok (.iastore, 1) := by decide +kernel
theorem d_Plan_takePiece_14 : decode prog_2_method_6_code 14 = .ok (.aload_n 0, 1) := by decide +kernel
theorem d_Plan_takePiece_15 : decode prog_2_method_6_code 15 = .ok (.getfield 15, 3) := by decide +kernel
theorem d_Plan_takePiece_18 : decode prog_2_method_6_code 18 = .ok (.iload_n 1, 1) := by decide +kernel
theorem d_Plan_takePiece_19 : decode prog_2_method_6_code 19 = .ok (.iload_n 2, 1) := by decide +kernel
theorem d_Plan_takePiece_20 : decode prog_2_method_6_code 20 = .ok (.iastore, 1) := by decide +kernel
theorem d_Plan_takePiece_21 : decode prog_2_method_6_code 21 = .ok (.aload_n 0, 1) := by decide +kernel
theorem d_Plan_takePiece_22 : decode prog_2_method_6_code 22 = .ok (.getfield 18, 3) := by decide +kernel
theorem d_Plan_takePiece_25 : decode prog_2_method_6_code 25 = .ok (.iload_n 1, 1) := by decide +kernel
theorem d_Plan_takePiece_26 : decode prog_2_method_6_code 26 = .ok (.iload_n 3, 1) := by decide +kernel
theorem d_Plan_takePiece_27 : decode prog_2_method_6_code 27 = .ok (.iastore, 1) := by decide +kernel
theorem d_Plan_takePiece_28 : decode prog_2_method_6_code 28 = .ok (.return_, 1) := by decide +kernel
theorem d_Plan_isBetter_0 : decode prog_2_method_7_code 0 = .ok (.aload_n 0, 1) := by decide +kernel
theorem d_Plan_isBetter_1 : decode prog_2_method_7_code 1 = .ok (.getfield 9, 3) := by decide +kernel
theorem d_Plan_isBetter_4 : decode prog_2_method_7_code 4 = .ok (.iload_n 2, 1) := by decide +kernel
theorem d_Plan_isBetter_5 : decode prog_2_method_7_code 5 = .ok (.iaload, 1) := by decide +kernel
theorem d_Plan_isBetter_6 : decode prog_2_method_7_code 6 = .ok (.aload_n 0, 1) := by decide +kernel
theorem d_Plan_isBetter_7 : decode prog_2_method_7_code 7 = .ok (.getfield 9, 3) := by decide +kernel
theorem d_Plan_isBetter_10 : decode prog_2_method_7_code 10 = .ok (.iload_n 1, 1) := by decide +kernel
theorem d_Plan_isBetter_11 : decode prog_2_method_7_code 11 = .ok (.iaload, 1) := by decide +kernel
theorem d_Plan_isBetter_12 : decode prog_2_method_7_code 12 = .ok (.if_icmp .ge 7, 3) := by decide +kernel
theorem d_Plan_isBetter_15 : decode prog_2_method_7_code 15 = .ok (.iconst 1, 1) := by decide +kernel
theorem d_Plan_isBetter_16 : decode prog_2_method_7_code 16 = .ok (.goto 4, 3) := by decide +kernel
theorem d_Plan_isBetter_19 : decode prog_2_method_7_code 19 = .ok (.iconst 0, 1) := by decide +kernel
theorem d_Plan_isBetter_20 : decode prog_2_method_7_code 20 = .ok (.istore_n 3, 1) := by decide +kernel
theorem d_Plan_isBetter_21 : decode prog_2_method_7_code 21 = .ok (.aload_n 0, 1) := by decide +kernel
theorem d_Plan_isBetter_22 : decode prog_2_method_7_code 22 = .ok (.getfield 9, 3) := by decide +kernel
theorem d_Plan_isBetter_25 : decode prog_2_method_7_code 25 = .ok (.iload_n 2, 1) := by decide +kernel
theorem d_Plan_isBetter_26 : decode prog_2_method_7_code 26 = .ok (.iaload, 1) := by decide +kernel
theorem d_Plan_isBetter_27 : decode prog_2_method_7_code 27 = .ok (.aload_n 0, 1) := by decide +kernel
theorem d_Plan_isBetter_28 : decode prog_2_method_7_code 28 = .ok (.getfield 9, 3) := by decide +kernel
theorem d_Plan_isBetter_31 : decode prog_2_method_7_code 31 = .ok (.iload_n 1, 1) := by decide +kernel
theorem d_Plan_isBetter_32 : decode prog_2_method_7_code 32 = .ok (.iaload, 1) := by decide +kernel
theorem d_Plan_isBetter_33 : decode prog_2_method_7_code 33 = .ok (.if_icmp .ne 17, 3) := by decide +kernel
theorem d_Plan_isBetter_36 : decode prog_2_method_7_code 36 = .ok (.aload_n 0, 1) := by decide +kernel
theorem d_Plan_isBetter_37 : decode prog_2_method_7_code 37 = .ok (.getfield 15, 3) := by decide +kernel
theorem d_Plan_isBetter_40 : decode prog_2_method_7_code 40 = .ok (.iload_n 1, 1) := by decide +kernel
theorem d_Plan_isBetter_41 : decode prog_2_method_7_code 41 = .ok (.iaload, 1) := by decide +kernel
theorem d_Plan_isBetter_42 : decode prog_2_method_7_code 42 = .ok (.iconst (-1), 1) := by decide +kernel
theorem d_Plan_isBetter_43 : decode prog_2_method_7_code 43 = .ok (.if_icmp .ne 7, 3) := by decide +kernel
theorem d_Plan_isBetter_46 : decode prog_2_method_7_code 46 = .ok (.iconst 1, 1) := by decide +kernel
theorem d_Plan_isBetter_47 : decode prog_2_method_7_code 47 = .ok (.goto 4, 3) := by decide +kernel
theorem d_Plan_isBetter_50 : decode prog_2_method_7_code 50 = .ok (.iconst 0, 1) := by decide +kernel
theorem d_Plan_isBetter_51 : decode prog_2_method_7_code 51 = .ok (.istore 4, 2) := by decide +kernel
theorem d_Plan_isBetter_53 : decode prog_2_method_7_code 53 = .ok (.iload_n 3, 1) := by decide +kernel
theorem d_Plan_isBetter_54 : decode prog_2_method_7_code 54 = .ok (.ifCond .ne 8, 3) := by decide +kernel
theorem d_Plan_isBetter_57 : decode prog_2_method_7_code 57 = .ok (.iload 4, 2) := by decide +kernel
theorem d_Plan_isBetter_59 : decode prog_2_method_7_code 59 = .ok (.ifCond .eq 7, 3) := by decide +kernel
theorem d_Plan_isBetter_62 : decode prog_2_method_7_code 62 = .ok (.iconst 1, 1) := by decide +kernel
theorem d_Plan_isBetter_63 : decode prog_2_method_7_code 63 = .ok (.goto 4, 3) := by decide +kernel
theorem d_Plan_isBetter_66 : decode prog_2_method_7_code 66 = .ok (.iconst 0, 1) := by decide +kernel
theorem d_Plan_isBetter_67 : decode prog_2_method_7_code 67 = .ok (.ireturn, 1) := by decide +kernel
theorem d_Slabs_init_0 : decode prog_3_method_1_code 0 = .ok (.aload_n 0, 1) := by decide +kernel
theorem d_Slabs_init_1 : decode prog_3_method_1_code 1 = .ok (.invokespecial 3, 3) := by decide +kernel
theorem d_Slabs_init_4 : decode prog_3_method_1_code 4 = .ok (.aload_n 0, 1) := by decide +kernel
theorem d_Slabs_init_5 : decode prog_3_method_1_code 5 = .ok (.iconst 0, 1) := by decide +kernel
theorem d_Slabs_init_6 : decode prog_3_method_1_code 6 = .ok (.putfield 9, 3) := by decide +kernel
theorem d_Slabs_init_9 : decode prog_3_method_1_code 9 = .ok (.aload_n 0, 1) := by decide +kernel
theorem d_Slabs_init_10 : decode prog_3_method_1_code 10 = .ok (.bipush 100, 2) := by decide +kernel
theorem d_Slabs_init_12 : decode prog_3_method_1_code 12 = .ok (.newarray .int, 2) := by decide +kernel
theorem d_Slabs_init_14 : decode prog_3_method_1_code 14 = .ok (.putfield 15, 3) := by decide +kernel
theorem d_Slabs_init_17 : decode prog_3_method_1_code 17 = .ok (.aload_n 0, 1) := by decide +kernel
theorem d_Slabs_init_18 : decode prog_3_method_1_code 18 = .ok (.bipush 100, 2) := by decide +kernel
theorem d_Slabs_init_20 : decode prog_3_method_1_code 20 = .ok (.newarray .int, 2) := by decide +kernel
theorem d_Slabs_init_22 : decode prog_3_method_1_code 22 = .ok (.putfield 19, 3) := by decide +kernel
theorem d_Slabs_init_25 : decode prog_3_method_1_code 25 = .ok (.aload_n 0, 1) := by decide +kernel
theorem d_Slabs_init_26 : decode prog_3_method_1_code 26 = .ok (.bipush 100, 2) := by decide +kernel
theorem d_Slabs_init_28 : decode prog_3_method_1_code 28 = .ok (.newarray .int, 2) := by decide +kernel
theorem d_Slabs_init_30 : decode prog_3_method_1_code 30 = .ok (.putfield 22, 3) := by decide +kernel
theorem d_Slabs_init_33 : decode prog_3_method_1_code 33 = .ok (.return_, 1) := by decide +kernel
theorem d_Slabs_append_0 : decode prog_3_method_2_code 0 = .ok (.aload_n 0, 1) := by decide +kernel
theorem d_Slabs_append_1 : decode prog_3_method_2_code 1 = .ok (.getfield 15, 3) := by decide +kernel
theorem d_Slabs_append_4 : decode prog_3_method_2_code 4 = .ok (.aload_n 0, 1) := by decide +kernel
theorem d_Slabs_append_5 : decode prog_3_method_2_code 5 = .ok (.getfield 9, 3) := by decide +kernel
theorem d_Slabs_append_8 : decode prog_3_method_2_code 8 = .ok (.iload_n 1, 1) := by decide +kernel
theorem d_Slabs_append_9 : decode prog_3_method_2_code 9 = .ok (.iastore, 1) := by decide +kernel
theorem d_Slabs_append_10 : decode prog_3_method_2_code 10 = .ok (.aload_n 0, 1) := by decide +kernel
theorem d_Slabs_append_11 : decode prog_3_method_2_code 11 = .ok (.getfield 19, 3) := by decide +kernel
theorem d_Slabs_append_14 : decode prog_3_method_2_code 14 = .ok (.aload_n 0, 1) := by decide +kernel
theorem d_Slabs_append_15 : decode prog_3_method_2_code 15 = .ok (.getfield 9, 3) := by decide +kernel
theorem d_Slabs_append_18 : decode prog_3_method_2_code 18 = .ok (.iload_n 2, 1) := by decide +kernel
theorem d_Slabs_append_19 : decode prog_3_method_2_code 19 = .ok (.iastore, 1) := by decide +kernel
theorem d_Slabs_append_20 : decode prog_3_method_2_code 20 = .ok (.aload_n 0, 1) := by decide +kernel
theorem d_Slabs_append_21 : decode prog_3_method_2_code 21 = .ok (.getfield 22, 3) := by decide +kernel
theorem d_Slabs_append_24 : decode prog_3_method_2_code 24 = .ok (.aload_n 0, 1) := by decide +kernel
theorem d_Slabs_append_25 : decode prog_3_method_2_code 25 = .ok (.getfield 9, 3) := by decide +kernel
theorem d_Slabs_append_28 : decode prog_3_method_2_code 28 = .ok (.iload_n 3, 1) := by decide +kernel
theorem d_Slabs_append_29 : decode prog_3_method_2_code 29 = .ok (.iastore, 1) := by decide +kernel
theorem d_Slabs_append_30 : decode prog_3_method_2_code 30 = .ok (.aload_n 0, 1) := by decide +kernel
theorem d_Slabs_append_31 : decode prog_3_method_2_code 31 = .ok (.dup, 1) := by decide +kernel
theorem d_Slabs_append_32 : decode prog_3_method_2_code 32 = .ok (.getfield 9, 3) := by decide +kernel
theorem d_Slabs_append_35 : decode prog_3_method_2_code 35 = .ok (.iconst 1, 1) := by decide +kernel
theorem d_Slabs_append_36 : decode prog_3_method_2_code 36 = .ok (.iadd, 1) := by decide +kernel
theorem d_Slabs_append_37 : decode prog_3_method_2_code 37 = .ok (.putfield 9, 3) := by decide +kernel
theorem d_Slabs_append_40 : decode prog_3_method_2_code 40 = .ok (.return_, 1) := by decide +kernel
theorem d_Slabs_howManyOf_0 : decode prog_3_method_3_code 0 = .ok (.iconst 0, 1) := by decide +kernel
theorem d_Slabs_howManyOf_1 : decode prog_3_method_3_code 1 = .ok (.istore_n 2, 1) := by decide +kernel
theorem d_Slabs_howManyOf_2 : decode prog_3_method_3_code 2 = .ok (.iconst 0, 1) := by decide +kernel
theorem d_Slabs_howManyOf_3 : decode prog_3_method_3_code 3 = .ok (.istore_n 3, 1) := by decide +kernel
theorem d_Slabs_howManyOf_4 : decode prog_3_method_3_code 4 = .ok (.iload_n 3, 1) := by decide +kernel
theorem d_Slabs_howManyOf_5 : decode prog_3_method_3_code 5 = .ok (.aload_n 0, 1) := by decide +kernel
theorem d_Slabs_howManyOf_6 : decode prog_3_method_3_code 6 = .ok (.getfield 9, 3) := by decide +kernel
theorem d_Slabs_howManyOf_9 : decode prog_3_method_3_code 9 = .ok (.if_icmp .ge 22, 3) := by decide +kernel
theorem d_Slabs_howManyOf_12 : decode prog_3_method_3_code 12 = .ok (.aload_n 0, 1) := by decide +kernel
theorem d_Slabs_howManyOf_13 : decode prog_3_method_3_code 13 = .ok (.getfield 15, 3) := by decide +kernel
theorem d_Slabs_howManyOf_16 : decode prog_3_method_3_code 16 = .ok (.iload_n 3, 1) := by decide +kernel
theorem d_Slabs_howManyOf_17 : decode prog_3_method_3_code 17 = .ok (.iaload, 1) := by decide +kernel
theorem d_Slabs_howManyOf_18 : decode prog_3_method_3_code 18 = .ok (.iload_n 1, 1) := by decide +kernel
theorem d_Slabs_howManyOf_19 : decode prog_3_method_3_code 19 = .ok (.if_icmp .ne 6, 3) := by decide +kernel
theorem d_Slabs_howManyOf_22 : decode prog_3_method_3_code 22 = .ok (.iinc 2 1, 3) := by decide +kernel
theorem d_Slabs_howManyOf_25 : decode prog_3_method_3_code 25 = .ok (.iinc 3 1, 3) := by decide +kernel
theorem d_Slabs_howManyOf_28 : decode prog_3_method_3_code 28 = .ok (.goto (-24), 3) := by decide +kernel
theorem d_Slabs_howManyOf_31 : decode prog_3_method_3_code 31 = .ok (.iload_n 2, 1) := by decide +kernel
theorem d_Slabs_howManyOf_32 : decode prog_3_method_3_code 32 = .ok (.ireturn, 1) := by decide +kernel
theorem d_Strand_init_0 : decode prog_4_method_1_code 0 = .ok (.aload_n 0, 1) := by decide +kernel
theorem d_Strand_init_1 : decode prog_4_method_1_code 1 = .ok (.invokespecial 3, 3) := by decide +kernel
theorem d_Strand_init_4 : decode prog_4_method_1_code 4 = .ok (.aload_n 0, 1) := by decide +kernel
theorem d_Strand_init_5 : decode prog_4_method_1_code 5 = .ok (.iconst 0, 1) := by decide +kernel
theorem d_Strand_init_6 : decode prog_4_method_1_code 6 = .ok (.putfield 9, 3) := by decide +kernel
theorem d_Strand_init_9 : decode prog_4_method_1_code 9 = .ok (.aload_n 0, 1) := by decide +kernel
theorem d_Strand_init_10 : decode prog_4_method_1_code 10 = .ok (.iconst 0, 1) := by decide +kernel
theorem d_Strand_init_11 : decode prog_4_method_1_code 11 = .ok (.putfield 15, 3) := by decide +kernel
theorem d_Strand_init_14 : decode prog_4_method_1_code 14 = .ok (.aload_n 0, 1) := by decide +kernel
theorem d_Strand_init_15 : decode prog_4_method_1_code 15 = .ok (.iconst 0, 1) := by decide +kernel
theorem d_Strand_init_16 : decode prog_4_method_1_code 16 = .ok (.putfield 18, 3) := by decide +kernel
theorem d_Strand_init_19 : decode prog_4_method_1_code 19 = .ok (.aload_n 0, 1) := by decide +kernel
theorem d_Strand_init_20 : decode prog_4_method_1_code 20 = .ok (.iconst 0, 1) := by decide +kernel
theorem d_Strand_init_21 : decode prog_4_method_1_code 21 = .ok (.putfield 21, 3) := by decide +kernel
theorem d_Strand_init_24 : decode prog_4_method_1_code 24 = .ok (.aload_n 0, 1) := by decide +kernel
theorem d_Strand_init_25 : decode prog_4_method_1_code 25 = .ok (.iconst 0, 1) := by decide +kernel
theorem d_Strand_init_26 : decode prog_4_method_1_code 26 = .ok (.putfield 24, 3) := by decide +kernel
theorem d_Strand_init_29 : decode prog_4_method_1_code 29 = .ok (.aload_n 0, 1) := by decide +kernel
theorem d_Strand_init_30 : decode prog_4_method_1_code 30 = .ok (.iconst 0, 1) := by decide +kernel
theorem d_Strand_init_31 : decode prog_4_method_1_code 31 = .ok (.putfield 27, 3) := by decide +kernel
theorem d_Strand_init_34 : decode prog_4_method_1_code 34 = .ok (.aload_n 0, 1) := by decide +kernel
theorem d_Strand_init_35 : decode prog_4_method_1_code 35 = .ok (.sipush 300, 3) := by decide +kernel
theorem d_Strand_init_38 : decode prog_4_method_1_code 38 = .ok (.newarray .boolean, 2) := by decide +kernel
theorem d_Strand_init_40 : decode prog_4_method_1_code 40 = .ok (.putfield 30, 3) := by decide +kernel
theorem d_Strand_init_43 : decode prog_4_method_1_code 43 = .ok (.aload_n 0, 1) := by decide +kernel
theorem d_Strand_init_44 : decode prog_4_method_1_code 44 = .ok (.sipush 301, 3) := by decide +kernel
theorem d_Strand_init_47 : decode prog_4_method_1_code 47 = .ok (.newarray .boolean, 2) := by decide +kernel
theorem d_Strand_init_49 : decode prog_4_method_1_code 49 = .ok (.putfield 34, 3) := by decide +kernel
theorem d_Strand_init_52 : decode prog_4_method_1_code 52 = .ok (.return_, 1) := by decide +kernel
theorem d_Strand_markBad_0 : decode prog_4_method_2_code 0 = .ok (.iload_n 1, 1) := by decide +kernel
theorem d_Strand_markBad_1 : decode prog_4_method_2_code 1 = .ok (.istore_n 3, 1) := by decide +kernel
theorem d_Strand_markBad_2 : decode prog_4_method_2_code 2 = .ok (.iload_n 3, 1) := by decide +kernel
theorem d_Strand_markBad_3 : decode prog_4_method_2_code 3 = .ok (.iload_n 2, 1) := by decide +kernel
theorem d_Strand_markBad_4 : decode prog_4_method_2_code 4 = .ok (.if_icmp .ge 16, 3) := by decide +kernel
theorem d_Strand_markBad_7 : decode prog_4_method_2_code 7 = .ok (.aload_n 0, 1) := by decide +kernel
theorem d_Strand_markBad_8 : decode prog_4_method_2_code 8 = .ok (.getfield 30, 3) := by decide +kernel
theorem d_Strand_markBad_11 : decode prog_4_method_2_code 11 = .ok (.iload_n 3, 1) := by decide +kernel
theorem d_Strand_markBad_12 : decode prog_4_method_2_code 12 = .ok (.iconst 1, 1) := by decide +kernel
theorem d_Strand_markBad_13 : decode prog_4_method_2_code 13 = .ok (.bastore, 1) := by decide +kernel
theorem d_Strand_markBad_14 : decode prog_4_method_2_code 14 = .ok (.iinc 3 1, 3) := by decide +kernel
theorem d_Strand_markBad_17 : decode prog_4_method_2_code 17 = .ok (.goto (-15), 3) := by decide +kernel
theorem d_Strand_markBad_20 : decode prog_4_method_2_code 20 = .ok (.aload_n 0, 1) := by decide +kernel
theorem d_Strand_markBad_21 : decode prog_4_method_2_code 21 = .ok (.dup, 1) := by decide +kernel
theorem d_Strand_markBad_22 : decode prog_4_method_2_code 22 = .ok (.getfield 24, 3) := by decide +kernel
theorem d_Strand_markBad_25 : decode prog_4_method_2_code 25 = .ok (.iconst 1, 1) := by decide +kernel
theorem d_Strand_markBad_26 : decode prog_4_method_2_code 26 = .ok (.iadd, 1) := by decide +kernel
theorem d_Strand_markBad_27 : decode prog_4_method_2_code 27 = .ok (.putfield 24, 3) := by decide +kernel
theorem d_Strand_markBad_30 : decode prog_4_method_2_code 30 = .ok (.return_, 1) := by decide +kernel
theorem d_Strand_markBarred_0 : decode prog_4_method_3_code 0 = .ok (.iload_n 1, 1) := by decide +kernel
theorem d_Strand_markBarred_1 : decode prog_4_method_3_code 1 = .ok (.istore_n 3, 1) := by decide +kernel
theorem d_Strand_markBarred_2 : decode prog_4_method_3_code 2 = .ok (.iload_n 3, 1) := by decide +kernel
theorem d_Strand_markBarred_3 : decode prog_4_method_3_code 3 = .ok (.iload_n 2, 1) := by decide +kernel
theorem d_Strand_markBarred_4 : decode prog_4_method_3_code 4 = .ok (.if_icmp .gt 16, 3) := by decide +kernel
theorem d_Strand_markBarred_7 : decode prog_4_method_3_code 7 = .ok (.aload_n 0, 1) := by decide +kernel
theorem d_Strand_markBarred_8 : decode prog_4_method_3_code 8 = .ok (.getfield 34, 3) := by decide +kernel
theorem d_Strand_markBarred_11 : decode prog_4_method_3_code 11 = .ok (.iload_n 3, 1) := by decide +kernel
theorem d_Strand_markBarred_12 : decode prog_4_method_3_code 12 = .ok (.iconst 1, 1) := by decide +kernel
theorem d_Strand_markBarred_13 : decode prog_4_method_3_code 13 = .ok (.bastore, 1) := by decide +kernel
theorem d_Strand_markBarred_14 : decode prog_4_method_3_code 14 = .ok (.iinc 3 1, 3) := by decide +kernel
theorem d_Strand_markBarred_17 : decode prog_4_method_3_code 17 = .ok (.goto (-15), 3) := by decide +kernel
theorem d_Strand_markBarred_20 : decode prog_4_method_3_code 20 = .ok (.aload_n 0, 1) := by decide +kernel
theorem d_Strand_markBarred_21 : decode prog_4_method_3_code 21 = .ok (.dup, 1) := by decide +kernel
theorem d_Strand_markBarred_22 : decode prog_4_method_3_code 22 = .ok (.getfield 27, 3) := by decide +kernel
theorem d_Strand_markBarred_25 : decode prog_4_method_3_code 25 = .ok (.iconst 1, 1) := by decide +kernel
theorem d_Strand_markBarred_26 : decode prog_4_method_3_code 26 = .ok (.iadd, 1) := by decide +kernel
theorem d_Strand_markBarred_27 : decode prog_4_method_3_code 27 = .ok (.putfield 27, 3) := by decide +kernel
theorem d_Strand_markBarred_30 : decode prog_4_method_3_code 30 = .ok (.return_, 1) := by decide +kernel
theorem d_Strand_isSound_0 : decode prog_4_method_4_code 0 = .ok (.iload_n 1, 1) := by decide +kernel
theorem d_Strand_isSound_1 : decode prog_4_method_4_code 1 = .ok (.aload_n 0, 1) := by decide +kernel
theorem d_Strand_isSound_2 : decode prog_4_method_4_code 2 = .ok (.getfield 18, 3) := by decide +kernel
theorem d_Strand_isSound_5 : decode prog_4_method_4_code 5 = .ok (.if_icmp .lt 29, 3) := by decide +kernel
theorem d_Strand_isSound_8 : decode prog_4_method_4_code 8 = .ok (.iload_n 1, 1) := by decide +kernel
theorem d_Strand_isSound_9 : decode prog_4_method_4_code 9 = .ok (.aload_n 0, 1) := by decide +kernel
theorem d_Strand_isSound_10 : decode prog_4_method_4_code 10 = .ok (.getfield 9, 3) := by decide +kernel
theorem d_Strand_isSound_13 : decode prog_4_method_4_code 13 = .ok (.aload_n 0, 1) := by decide +kernel
theorem d_Strand_isSound_14 : decode prog_4_method_4_code 14 = .ok (.getfield 21, 3) := by decide +kernel
theorem d_Strand_isSound_17 : decode prog_4_method_4_code 17 = .ok (.isub, 1) := by decide +kernel
theorem d_Strand_isSound_18 : decode prog_4_method_4_code 18 = .ok (.if_icmp .ge 16, 3) := by decide +kernel
theorem d_Strand_isSound_21 : decode prog_4_method_4_code 21 = .ok (.aload_n 0, 1) := by decide +kernel
theorem d_Strand_isSound_22 : decode prog_4_method_4_code 22 = .ok (.getfield 30, 3) := by decide +kernel
theorem d_Strand_isSound_25 : decode prog_4_method_4_code 25 = .ok (.iload_n 1, 1) := by decide +kernel
theorem d_Strand_isSound_26 : decode prog_4_method_4_code 26 = .ok (.baload, 1) := by decide +kernel
theorem d_Strand_isSound_27 : decode prog_4_method_4_code 27 = .ok (.ifCond .ne 7, 3) := by decide +kernel
theorem d_Strand_isSound_30 : decode prog_4_method_4_code 30 = .ok (.iconst 1, 1) := by decide +kernel
theorem d_Strand_isSound_31 : decode prog_4_method_4_code 31 = .ok (.goto 4, 3) := by decide +kernel
theorem d_Strand_isSound_34 : decode prog_4_method_4_code 34 = .ok (.iconst 0, 1) := by decide +kernel
theorem d_Strand_isSound_35 : decode prog_4_method_4_code 35 = .ok (.ireturn, 1) := by decide +kernel
theorem d_Strand_pieceMayBegin_0 : decode prog_4_method_5_code 0 = .ok (.iload_n 1, 1) := by decide +kernel
theorem d_Strand_pieceMayBegin_1 : decode prog_4_method_5_code 1 = .ok (.aload_n 0, 1) := by decide +kernel
theorem d_Strand_pieceMayBegin_2 : decode prog_4_method_5_code 2 = .ok (.getfield 15, 3) := by decide +kernel
theorem d_Strand_pieceMayBegin_5 : decode prog_4_method_5_code 5 = .ok (.if_icmp .eq 12, 3) := by decide +kernel
theorem d_Strand_pieceMayBegin_8 : decode prog_4_method_5_code 8 = .ok (.aload_n 0, 1) := by decide +kernel
theorem d_Strand_pieceMayBegin_9 : decode prog_4_method_5_code 9 = .ok (.getfield 34, 3) := by decide +kernel
theorem d_Strand_pieceMayBegin_12 : decode prog_4_method_5_code 12 = .ok (.iload_n 1, 1) := by decide +kernel
theorem d_Strand_pieceMayBegin_13 : decode prog_4_method_5_code 13 = .ok (.baload, 1) := by decide +kernel
theorem d_Strand_pieceMayBegin_14 : decode prog_4_method_5_code 14 = .ok (.ifCond .ne 7, 3) := by decide +kernel
theorem d_Strand_pieceMayBegin_17 : decode prog_4_method_5_code 17 = .ok (.iconst 1, 1) := by decide +kernel
theorem d_Strand_pieceMayBegin_18 : decode prog_4_method_5_code 18 = .ok (.goto 4, 3) := by decide +kernel
theorem d_Strand_pieceMayBegin_21 : decode prog_4_method_5_code 21 = .ok (.iconst 0, 1) := by decide +kernel
theorem d_Strand_pieceMayBegin_22 : decode prog_4_method_5_code 22 = .ok (.ireturn, 1) := by decide +kernel
theorem d_Strand_pieceMayEnd_0 : decode prog_4_method_6_code 0 = .ok (.iload_n 1, 1) := by decide +kernel
theorem d_Strand_pieceMayEnd_1 : decode prog_4_method_6_code 1 = .ok (.aload_n 0, 1) := by decide +kernel
theorem d_Strand_pieceMayEnd_2 : decode prog_4_method_6_code 2 = .ok (.getfield 9, 3) := by decide +kernel
theorem d_Strand_pieceMayEnd_5 : decode prog_4_method_6_code 5 = .ok (.if_icmp .eq 12, 3) := by decide +kernel
theorem d_Strand_pieceMayEnd_8 : decode prog_4_method_6_code 8 = .ok (.aload_n 0, 1) := by decide +kernel
theorem d_Strand_pieceMayEnd_9 : decode prog_4_method_6_code 9 = .ok (.getfield 34, 3) := by decide +kernel
theorem d_Strand_pieceMayEnd_12 : decode prog_4_method_6_code 12 = .ok (.iload_n 1, 1) := by decide +kernel
theorem d_Strand_pieceMayEnd_13 : decode prog_4_method_6_code 13 = .ok (.baload, 1) := by decide +kernel
theorem d_Strand_pieceMayEnd_14 : decode prog_4_method_6_code 14 = .ok (.ifCond .ne 7, 3) := by decide +kernel
theorem d_Strand_pieceMayEnd_17 : decode prog_4_method_6_code 17 = .ok (.iconst 1, 1) := by decide +kernel
theorem d_Strand_pieceMayEnd_18 : decode prog_4_method_6_code 18 = .ok (.goto 4, 3) := by decide +kernel
theorem d_Strand_pieceMayEnd_21 : decode prog_4_method_6_code 21 = .ok (.iconst 0, 1) := by decide +kernel
theorem d_Strand_pieceMayEnd_22 : decode prog_4_method_6_code 22 = .ok (.ireturn, 1) := by decide +kernel
theorem d_Wanted_init_0 : decode prog_5_method_1_code 0 = .ok (.aload_n 0, 1) := by decide +kernel
theorem d_Wanted_init_1 : decode prog_5_method_1_code 1 = .ok (.invokespecial 3, 3) := by decide +kernel
theorem d_Wanted_init_4 : decode prog_5_method_1_code 4 = .ok (.aload_n 0, 1) := by decide +kernel
theorem d_Wanted_init_5 : decode prog_5_method_1_code 5 = .ok (.iconst 0, 1) := by decide +kernel
theorem d_Wanted_init_6 : decode prog_5_method_1_code 6 = .ok (.putfield 9, 3) := by decide +kernel
theorem d_Wanted_init_9 : decode prog_5_method_1_code 9 = .ok (.aload_n 0, 1) := by decide +kernel
theorem d_Wanted_init_10 : decode prog_5_method_1_code 10 = .ok (.bipush 6, 2) := by decide +kernel
theorem d_Wanted_init_12 : decode prog_5_method_1_code 12 = .ok (.newarray .int, 2) := by decide +kernel
theorem d_Wanted_init_14 : decode prog_5_method_1_code 14 = .ok (.putfield 15, 3) := by decide +kernel
theorem d_Wanted_init_17 : decode prog_5_method_1_code 17 = .ok (.aload_n 0, 1) := by decide +kernel
theorem d_Wanted_init_18 : decode prog_5_method_1_code 18 = .ok (.bipush 6, 2) := by decide +kernel
theorem d_Wanted_init_20 : decode prog_5_method_1_code 20 = .ok (.newarray .int, 2) := by decide +kernel
theorem d_Wanted_init_22 : decode prog_5_method_1_code 22 = .ok (.putfield 19, 3) := by decide +kernel
theorem d_Wanted_init_25 : decode prog_5_method_1_code 25 = .ok (.return_, 1) := by decide +kernel
end
section
/-! decode rows (written by wip/whole/mk_names.py) -/
theorem d_Model_init_0 : decode prog_7_method_1_code 0 = .ok (.aload_n 0, 1) := by decide +kernel
theorem d_Model_init_1 : decode prog_7_method_1_code 1 = .ok (.invokespecial 1, 3) := by decide +kernel
theorem d_Model_init_4 : decode prog_7_method_1_code 4 = .ok (.aload_n 0, 1) := by decide +kernel
theorem d_Model_init_5 : decode prog_7_method_1_code 5 = .ok (.bipush 100, 2) := by decide +kernel
theorem d_Model_init_7 : decode prog_7_method_1_code 7 = .ok (.putfield 7, 3) := by decide +kernel
theorem d_Model_init_10 : decode prog_7_method_1_code 10 = .ok (.aload_n 0, 1) := by decide +kernel
theorem d_Model_init_11 : decode prog_7_method_1_code 11 = .ok (.sipush 1000, 3) := by decide +kernel
theorem d_Model_init_14 : decode prog_7_method_1_code 14 = .ok (.putfield 13, 3) := by decide +kernel
theorem d_Model_init_17 : decode prog_7_method_1_code 17 = .ok (.aload_n 0, 1) := by decide +kernel
theorem d_Model_init_18 : decode prog_7_method_1_code 18 = .ok (.bipush 6, 2) := by decide +kernel
theorem d_Model_init_20 : decode prog_7_method_1_code 20 = .ok (.newarray .int, 2) := by decide +kernel
theorem d_Model_init_22 : decode prog_7_method_1_code 22 = .ok (.putfield 16, 3) := by decide +kernel
theorem d_Model_init_25 : decode prog_7_method_1_code 25 = .ok (.aload_n 0, 1) := by decide +kernel
theorem d_Model_init_26 : decode prog_7_method_1_code 26 = .ok (.bipush 6, 2) := by decide +kernel
theorem d_Model_init_28 : decode prog_7_method_1_code 28 = .ok (.newarray .int, 2) := by decide +kernel
theorem d_Model_init_30 : decode prog_7_method_1_code 30 = .ok (.putfield 20, 3) := by decide +kernel
theorem d_Model_init_33 : decode prog_7_method_1_code 33 = .ok (.aload_n 0, 1) := by decide +kernel
theorem d_Model_init_34 : decode prog_7_method_1_code 34 = .ok (.bipush 20, 2) := by decide +kernel
theorem d_Model_init_36 : decode prog_7_method_1_code 36 = .ok (.newarray .int, 2) := by decide +kernel
theorem d_Model_init_38 : decode prog_7_method_1_code 38 = .ok (.putfield 23, 3) := by decide +kernel
theorem d_Model_init_41 : decode prog_7_method_1_code 41 = .ok (.aload_n 0, 1) := by decide +kernel
theorem d_Model_init_42 : decode prog_7_method_1_code 42 = .ok (.bipush 20, 2) := by decide +kernel
theorem d_Model_init_44 : decode prog_7_method_1_code 44 = .ok (.newarray .int, 2) := by decide +kernel
theorem d_Model_init_46 : decode prog_7_method_1_code 46 = .ok (.putfield 26, 3) := by decide +kernel
theorem d_Model_init_49 : decode prog_7_method_1_code 49 = .ok (.aload_n 0, 1) := by decide +kernel
theorem d_Model_init_50 : decode prog_7_method_1_code 50 = .ok (.bipush 20, 2) := by decide +kernel
theorem d_Model_init_52 : decode prog_7_method_1_code 52 = .ok (.newarray .int, 2) := by decide +kernel
theorem d_Model_init_54 : decode prog_7_method_1_code 54 = .ok (.putfield 29, 3) := by decide +kernel
theorem d_Model_init_57 : decode prog_7_method_1_code 57 = .ok (.aload_n 0, 1) := by decide +kernel
theorem d_Model_init_58 : decode prog_7_method_1_code 58 = .ok (.bipush 20, 2) := by decide +kernel
theorem d_Model_init_60 : decode prog_7_method_1_code 60 = .ok (.newarray .int, 2) := by decide +kernel
theorem d_Model_init_62 : decode prog_7_method_1_code 62 = .ok (.putfield 32, 3) := by decide +kernel
theorem d_Model_init_65 : decode prog_7_method_1_code 65 = .ok (.aload_n 0, 1) := by decide +kernel
theorem d_Model_init_66 : decode prog_7_method_1_code 66 = .ok (.bipush 100, 2) := by decide +kernel
theorem d_Model_init_68 : decode prog_7_method_1_code 68 = .ok (.newarray .int, 2) := by decide +kernel
theorem d_Model_init_70 : decode prog_7_method_1_code 70 = .ok (.putfield 35, 3) := by decide +kernel
theorem d_Model_init_73 : decode prog_7_method_1_code 73 = .ok (.aload_n 0, 1) := by decide +kernel
theorem d_Model_init_74 : decode prog_7_method_1_code 74 = .ok (.bipush 100, 2) := by decide +kernel
theorem d_Model_init_76 : decode prog_7_method_1_code 76 = .ok (.newarray .int, 2) := by decide +kernel
theorem d_Model_init_78 : decode prog_7_method_1_code 78 = .ok (.putfield 38, 3) := by decide +kernel
theorem d_Model_init_81 : decode prog_7_method_1_code 81 = .ok (.aload_n 0, 1) := by decide +kernel
theorem d_Model_init_82 : decode prog_7_method_1_code 82 = .ok (.bipush 100, 2) := by decide +kernel
theorem d_Model_init_84 : decode prog_7_method_1_code 84 = .ok (.newarray .int, 2) := by decide +kernel
theorem d_Model_init_86 : decode prog_7_method_1_code 86 = .ok (.putfield 41, 3) := by decide +kernel
theorem d_Model_init_89 : decode prog_7_method_1_code 89 = .ok (.aload_n 0, 1) := by decide +kernel
theorem d_Model_init_90 : decode prog_7_method_1_code 90 = .ok (.sipush 301, 3) := by decide +kernel
theorem d_Model_init_93 : decode prog_7_method_1_code 93 = .ok (.newarray .int, 2) := by decide +kernel
theorem d_Model_init_95 : decode prog_7_method_1_code 95 = .ok (.putfield 44, 3) := by decide +kernel
theorem d_Model_init_98 : decode prog_7_method_1_code 98 = .ok (.aload_n 0, 1) := by decide +kernel
theorem d_Model_init_99 : decode prog_7_method_1_code 99 = .ok (.sipush 301, 3) := by decide +kernel
theorem d_Model_init_102 : decode prog_7_method_1_code 102 = .ok (.newarray .int, 2) := by decide +kernel
theorem d_Model_init_104 : decode prog_7_method_1_code 104 = .ok (.putfield 47, 3) := by decide +kernel
theorem d_Model_init_107 : decode prog_7_method_1_code 107 = .ok (.aload_n 0, 1) := by decide +kernel
theorem d_Model_init_108 : decode prog_7_method_1_code 108 = .ok (.sipush 301, 3) := by decide +kernel
theorem d_Model_init_111 : decode prog_7_method_1_code 111 = .ok (.newarray .int, 2) := by decide +kernel
theorem d_Model_init_113 : decode prog_7_method_1_code 113 = .ok (.putfield 50, 3) := by decide +kernel
theorem d_Model_init_116 : decode prog_7_method_1_code 116 = .ok (.aload_n 0, 1) := by decide +kernel
theorem d_Model_init_117 : decode prog_7_method_1_code 117 = .ok (.sipush 302, 3) := by decide +kernel
theorem d_Model_init_120 : decode prog_7_method_1_code 120 = .ok (.newarray .int, 2) := by decide +kernel
theorem d_Model_init_122 : decode prog_7_method_1_code 122 = .ok (.putfield 53, 3) := by decide +kernel
theorem d_Model_init_125 : decode prog_7_method_1_code 125 = .ok (.return_, 1) := by decide +kernel
theorem d_Model_thrown_0 : decode prog_7_method_2_code 0 = .ok (.aload_n 0, 1) := by decide +kernel
theorem d_Model_thrown_1 : decode prog_7_method_2_code 1 = .ok (.getfield 56, 3) := by decide +kernel
theorem d_Model_thrown_4 : decode prog_7_method_2_code 4 = .ok (.ireturn, 1) := by decide +kernel
theorem d_Model_throwing_0 : decode prog_7_method_3_code 0 = .ok (.aload_n 0, 1) := by decide +kernel
theorem d_Model_throwing_1 : decode prog_7_method_3_code 1 = .ok (.iload_n 1, 1) := by decide +kernel
theorem d_Model_throwing_2 : decode prog_7_method_3_code 2 = .ok (.ifCond .eq 7, 3) := by decide +kernel
theorem d_Model_throwing_5 : decode prog_7_method_3_code 5 = .ok (.iconst 1, 1) := by decide +kernel
theorem d_Model_throwing_6 : decode prog_7_method_3_code 6 = .ok (.goto 12, 3) := by decide +kernel
theorem d_Model_throwing_9 : decode prog_7_method_3_code 9 = .ok (.iload_n 2, 1) := by decide +kernel
theorem d_Model_throwing_10 : decode prog_7_method_3_code 10 = .ok (.ifCond .eq 7, 3) := by decide +kernel
theorem d_Model_throwing_13 : decode prog_7_method_3_code 13 = .ok (.iconst 2, 1) := by decide +kernel
theorem d_Model_throwing_14 : decode prog_7_method_3_code 14 = .ok (.goto 4, 3) := by decide +kernel
theorem d_Model_throwing_17 : decode prog_7_method_3_code 17 = .ok (.iconst 0, 1) := by decide +kernel
theorem d_Model_throwing_18 : decode prog_7_method_3_code 18 = .ok (.putfield 56, 3) := by decide +kernel
theorem d_Model_throwing_21 : decode prog_7_method_3_code 21 = .ok (.aload_n 0, 1) := by decide +kernel
theorem d_Model_throwing_22 : decode prog_7_method_3_code 22 = .ok (.getfield 56, 3) := by decide +kernel
theorem d_Model_throwing_25 : decode prog_7_method_3_code 25 = .ok (.ifCond .le 7, 3) := by decide +kernel
theorem d_Model_throwing_28 : decode prog_7_method_3_code 28 = .ok (.iconst 1, 1) := by decide +kernel
theorem d_Model_throwing_29 : decode prog_7_method_3_code 29 = .ok (.goto 4, 3) := by decide +kernel
theorem d_Model_throwing_32 : decode prog_7_method_3_code 32 = .ok (.iconst 0, 1) := by decide +kernel
theorem d_Model_throwing_33 : decode prog_7_method_3_code 33 = .ok (.ireturn, 1) := by decide +kernel
theorem d_Model_in_0 : decode prog_7_method_4_code 0 = .ok (.iload_n 0, 1) := by decide +kernel
theorem d_Model_in_1 : decode prog_7_method_4_code 1 = .ok (.iload_n 1, 1) := by decide +kernel
theorem d_Model_in_2 : decode prog_7_method_4_code 2 = .ok (.if_icmp .lt 12, 3) := by decide +kernel
theorem d_Model_in_5 : decode prog_7_method_4_code 5 = .ok (.iload_n 0, 1) := by decide +kernel
theorem d_Model_in_6 : decode prog_7_method_4_code 6 = .ok (.iload_n 2, 1) := by decide +kernel
theorem d_Model_in_7 : decode prog_7_method_4_code 7 = .ok (.if_icmp .gt 7, 3) := by decide +kernel
theorem d_Model_in_10 : decode prog_7_method_4_code 10 = .ok (.iconst 1, 1) := by decide +kernel
theorem d_Model_in_11 : decode prog_7_method_4_code 11 = .ok (.goto 4, 3) := by decide +kernel
theorem d_Model_in_14 : decode prog_7_method_4_code 14 = .ok (.iconst 0, 1) := by decide +kernel
theorem d_Model_in_15 : decode prog_7_method_4_code 15 = .ok (.ireturn, 1) := by decide +kernel
theorem d_Model_step_0 : decode prog_7_method_5_code 0 = .ok (.aload_n 0, 1) := by decide +kernel
theorem d_Model_step_1 : decode prog_7_method_5_code 1 = .ok (.aload_n 0, 1) := by decide +kernel
theorem d_Model_step_2 : decode prog_7_method_5_code 2 = .ok (.getfield 59, 3) := by decide +kernel
theorem d_Model_step_5 : decode prog_7_method_5_code 5 = .ok (.ifCond .le 7, 3) := by decide +kernel
theorem d_Model_step_8 : decode prog_7_method_5_code 8 = .ok (.iconst 1, 1) := by decide +kernel
theorem d_Model_step_9 : decode prog_7_method_5_code 9 = .ok (.goto 4, 3) := by decide +kernel
theorem d_Model_step_12 : decode prog_7_method_5_code 12 = .ok (.iconst 0, 1) := by decide +kernel
theorem d_Model_step_13 : decode prog_7_method_5_code 13 = .ok (.iload_n 1, 1) := by decide +kernel
theorem d_Model_step_14 : decode prog_7_method_5_code 14 = .ok (.iconst 1, 1) := by decide +kernel
theorem d_Model_step_15 : decode prog_7_method_5_code 15 = .ok (.ldc 62, 2) := by decide +kernel
theorem d_Model_step_17 : decode prog_7_method_5_code 17 = .ok (.invokestatic 63, 3) := by decide +kernel
theorem d_Model_step_20 : decode prog_7_method_5_code 20 = .ok (.ifCond .eq 13, 3) := by decide +kernel
theorem d_Model_step_23 : decode prog_7_method_5_code 23 = .ok (.iload_n 2, 1) := by decide +kernel
theorem d_Model_step_24 : decode prog_7_method_5_code 24 = .ok (.iconst 1, 1) := by decide +kernel
theorem d_Model_step_25 : decode prog_7_method_5_code 25 = .ok (.ldc 67, 2) := by decide +kernel
theorem d_Model_step_27 : decode prog_7_method_5_code 27 = .ok (.invokestatic 63, 3) := by decide +kernel
theorem d_Model_step_30 : decode prog_7_method_5_code 30 = .ok (.ifCond .ne 7, 3) := by decide +kernel
theorem d_Model_step_33 : decode prog_7_method_5_code 33 = .ok (.iconst 1, 1) := by decide +kernel
theorem d_Model_step_34 : decode prog_7_method_5_code 34 = .ok (.goto 4, 3) := by decide +kernel
theorem d_Model_step_37 : decode prog_7_method_5_code 37 = .ok (.iconst 0, 1) := by decide +kernel
theorem d_Model_step_38 : decode prog_7_method_5_code 38 = .ok (.invokevirtual 68, 3) := by decide +kernel
theorem d_Model_step_41 : decode prog_7_method_5_code 41 = .ok (.ifCond .eq 4, 3) := by decide +kernel
theorem d_Model_step_44 : decode prog_7_method_5_code 44 = .ok (.return_, 1) := by decide +kernel
theorem d_Model_step_45 : decode prog_7_method_5_code 45 = .ok (.aload_n 0, 1) := by decide +kernel
theorem d_Model_step_46 : decode prog_7_method_5_code 46 = .ok (.iload_n 1, 1) := by decide +kernel
theorem d_Model_step_47 : decode prog_7_method_5_code 47 = .ok (.putfield 7, 3) := by decide +kernel
theorem d_Model_step_50 : decode prog_7_method_5_code 50 = .ok (.aload_n 0, 1) := by decide +kernel
theorem d_Model_step_51 : decode prog_7_method_5_code 51 = .ok (.iload_n 2, 1) := by decide +kernel
theorem d_Model_step_52 : decode prog_7_method_5_code 52 = .ok (.putfield 13, 3) := by decide +kernel
theorem d_Model_step_55 : decode prog_7_method_5_code 55 = .ok (.return_, 1) := by decide +kernel
theorem d_Model_cast_0 : decode prog_7_method_6_code 0 = .ok (.aload_n 0, 1) := by decide +kernel
theorem d_Model_cast_1 : decode prog_7_method_6_code 1 = .ok (.iload_n 1, 1) := by decide +kernel
theorem d_Model_cast_2 : decode prog_7_method_6_code 2 = .ok (.ifCond .ge 7, 3) := by decide +kernel
theorem d_Model_cast_5 : decode prog_7_method_6_code 5 = .ok (.iconst 1, 1) := by decide +kernel
theorem d_Model_cast_6 : decode prog_7_method_6_code 6 = .ok (.goto 4, 3) := by decide +kernel
theorem d_Model_cast_9 : decode prog_7_method_6_code 9 = .ok (.iconst 0, 1) := by decide +kernel
theorem d_Model_cast_10 : decode prog_7_method_6_code 10 = .ok (.iload_n 1, 1) := by decide +kernel
theorem d_Model_cast_11 : decode prog_7_method_6_code 11 = .ok (.sipush 300, 3) := by decide +kernel
theorem d_Model_cast_14 : decode prog_7_method_6_code 14 = .ok (.aload_n 0, 1) := by decide +kernel
theorem d_Model_cast_15 : decode prog_7_method_6_code 15 = .ok (.getfield 72, 3) := by decide +kernel
theorem d_Model_cast_18 : decode prog_7_method_6_code 18 = .ok (.isub, 1) := by decide +kernel
theorem d_Model_cast_19 : decode prog_7_method_6_code 19 = .ok (.if_icmp .le 7, 3) := by decide +kernel
theorem d_Model_cast_22 : decode prog_7_method_6_code 22 = .ok (.iconst 1, 1) := by decide +kernel
theorem d_Model_cast_23 : decode prog_7_method_6_code 23 = .ok (.goto 4, 3) := by decide +kernel
theorem d_Model_cast_26 : decode prog_7_method_6_code 26 = .ok (.iconst 0, 1) := by decide +kernel
theorem d_Model_cast_27 : decode prog_7_method_6_code 27 = .ok (.invokevirtual 68, 3) := by decide +kernel
theorem d_Model_cast_30 : decode prog_7_method_6_code 30 = .ok (.ifCond .eq 5, 3) := by decide +kernel
theorem d_Model_cast_33 : decode prog_7_method_6_code 33 = .ok (.iconst 0, 1) := by decide +kernel
theorem d_Model_cast_34 : decode prog_7_method_6_code 34 = .ok (.ireturn, 1) := by decide +kernel
theorem d_Model_cast_35 : decode prog_7_method_6_code 35 = .ok (.aload_n 0, 1) := by decide +kernel
theorem d_Model_cast_36 : decode prog_7_method_6_code 36 = .ok (.dup, 1) := by decide +kernel
theorem d_Model_cast_37 : decode prog_7_method_6_code 37 = .ok (.getfield 72, 3) := by decide +kernel
theorem d_Model_cast_40 : decode prog_7_method_6_code 40 = .ok (.iload_n 1, 1) := by decide +kernel
theorem d_Model_cast_41 : decode prog_7_method_6_code 41 = .ok (.iadd, 1) := by decide +kernel
theorem d_Model_cast_42 : decode prog_7_method_6_code 42 = .ok (.putfield 72, 3) := by decide +kernel
theorem d_Model_cast_45 : decode prog_7_method_6_code 45 = .ok (.aload_n 0, 1) := by decide +kernel
theorem d_Model_cast_46 : decode prog_7_method_6_code 46 = .ok (.getfield 72, 3) := by decide +kernel
theorem d_Model_cast_49 : decode prog_7_method_6_code 49 = .ok (.ireturn, 1) := by decide +kernel
theorem d_Model_isSpan_0 : decode prog_7_method_7_code 0 = .ok (.iload_n 0, 1) := by decide +kernel
theorem d_Model_isSpan_1 : decode prog_7_method_7_code 1 = .ok (.iconst 1, 1) := by decide +kernel
theorem d_Model_isSpan_2 : decode prog_7_method_7_code 2 = .ok (.bipush 60, 2) := by decide +kernel
theorem d_Model_isSpan_4 : decode prog_7_method_7_code 4 = .ok (.invokestatic 63, 3) := by decide +kernel
theorem d_Model_isSpan_7 : decode prog_7_method_7_code 7 = .ok (.ifCond .eq 17, 3) := by decide +kernel
theorem d_Model_isSpan_10 : decode prog_7_method_7_code 10 = .ok (.iload_n 1, 1) := by decide +kernel
theorem d_Model_isSpan_11 : decode prog_7_method_7_code 11 = .ok (.iload_n 0, 1) := by decide +kernel
theorem d_Model_isSpan_12 : decode prog_7_method_7_code 12 = .ok (.bipush 60, 2) := by decide +kernel
theorem d_Model_isSpan_14 : decode prog_7_method_7_code 14 = .ok (.invokestatic 63, 3) := by decide +kernel
theorem d_Model_isSpan_17 : decode prog_7_method_7_code 17 = .ok (.ifCond .eq 7, 3) := by decide +kernel
theorem d_Model_isSpan_20 : decode prog_7_method_7_code 20 = .ok (.iconst 1, 1) := by decide +kernel
theorem d_Model_isSpan_21 : decode prog_7_method_7_code 21 = .ok (.goto 4, 3) := by decide +kernel
theorem d_Model_isSpan_24 : decode prog_7_method_7_code 24 = .ok (.iconst 0, 1) := by decide +kernel
theorem d_Model_isSpan_25 : decode prog_7_method_7_code 25 = .ok (.ireturn, 1) := by decide +kernel
theorem d_Model_want_0 : decode prog_7_method_8_code 0 = .ok (.aload_n 0, 1) := by decide +kernel
theorem d_Model_want_1 : decode prog_7_method_8_code 1 = .ok (.aload_n 0, 1) := by decide +kernel
theorem d_Model_want_2 : decode prog_7_method_8_code 2 = .ok (.getfield 75, 3) := by decide +kernel
theorem d_Model_want_5 : decode prog_7_method_8_code 5 = .ok (.bipush 6, 2) := by decide +kernel
theorem d_Model_want_7 : decode prog_7_method_8_code 7 = .ok (.if_icmp .ne 7, 3) := by decide +kernel
theorem d_Model_want_10 : decode prog_7_method_8_code 10 = .ok (.iconst 1, 1) := by decide +kernel
theorem d_Model_want_11 : decode prog_7_method_8_code 11 = .ok (.goto 4, 3) := by decide +kernel
theorem d_Model_want_14 : decode prog_7_method_8_code 14 = .ok (.iconst 0, 1) := by decide +kernel
theorem d_Model_want_15 : decode prog_7_method_8_code 15 = .ok (.iload_n 1, 1) := by decide +kernel
theorem d_Model_want_16 : decode prog_7_method_8_code 16 = .ok (.iload_n 2, 1) := by decide +kernel
theorem d_Model_want_17 : decode prog_7_method_8_code 17 = .ok (.invokestatic 78, 3) := by decide +kernel
theorem d_Model_want_20 : decode prog_7_method_8_code 20 = .ok (.ifCond .ne 7, 3) := by decide +kernel
theorem d_Model_want_23 : decode prog_7_method_8_code 23 = .ok (.iconst 1, 1) := by decide +kernel
theorem d_Model_want_24 : decode prog_7_method_8_code 24 = .ok (.goto 4, 3) := by decide +kernel
theorem d_Model_want_27 : decode prog_7_method_8_code 27 = .ok (.iconst 0, 1) := by decide +kernel
theorem d_Model_want_28 : decode prog_7_method_8_code 28 = .ok (.invokevirtual 68, 3) := by decide +kernel
theorem d_Model_want_31 : decode prog_7_method_8_code 31 = .ok (.ifCond .eq 5, 3) := by decide +kernel
theorem d_Model_want_34 : decode prog_7_method_8_code 34 = .ok (.iconst 0, 1) := by decide +kernel
theorem d_Model_want_35 : decode prog_7_method_8_code 35 = .ok (.ireturn, 1) := by decide +kernel
theorem d_Model_want_36 : decode prog_7_method_8_code 36 = .ok (.aload_n 0, 1) := by decide +kernel
theorem d_Model_want_37 : decode prog_7_method_8_code 37 = .ok (.getfield 16, 3) := by decide +kernel
theorem d_Model_want_40 : decode prog_7_method_8_code 40 = .ok (.aload_n 0, 1) := by decide +kernel
theorem d_Model_want_41 : decode prog_7_method_8_code 41 = .ok (.getfield 75, 3) := by decide +kernel
theorem d_Model_want_44 : decode prog_7_method_8_code 44 = .ok (.iload_n 1, 1) := by decide +kernel
theorem d_Model_want_45 : decode prog_7_method_8_code 45 = .ok (.iastore, 1) := by decide +kernel
theorem d_Model_want_46 : decode prog_7_method_8_code 46 = .ok (.aload_n 0, 1) := by decide +kernel
theorem d_Model_want_47 : decode prog_7_method_8_code 47 = .ok (.getfield 20, 3) := by decide +kernel
theorem d_Model_want_50 : decode prog_7_method_8_code 50 = .ok (.aload_n 0, 1) := by decide +kernel
theorem d_Model_want_51 : decode prog_7_method_8_code 51 = .ok (.getfield 75, 3) := by decide +kernel
theorem d_Model_want_54 : decode prog_7_method_8_code 54 = .ok (.iload_n 2, 1) := by decide +kernel
theorem d_Model_want_55 : decode prog_7_method_8_code 55 = .ok (.iastore, 1) := by decide +kernel
theorem d_Model_want_56 : decode prog_7_method_8_code 56 = .ok (.aload_n 0, 1) := by decide +kernel
theorem d_Model_want_57 : decode prog_7_method_8_code 57 = .ok (.dup, 1) := by decide +kernel
theorem d_Model_want_58 : decode prog_7_method_8_code 58 = .ok (.getfield 75, 3) := by decide +kernel
theorem d_Model_want_61 : decode prog_7_method_8_code 61 = .ok (.iconst 1, 1) := by decide +kernel
theorem d_Model_want_62 : decode prog_7_method_8_code 62 = .ok (.iadd, 1) := by decide +kernel
theorem d_Model_want_63 : decode prog_7_method_8_code 63 = .ok (.putfield 75, 3) := by decide +kernel
theorem d_Model_want_66 : decode prog_7_method_8_code 66 = .ok (.aload_n 0, 1) := by decide +kernel
theorem d_Model_want_67 : decode prog_7_method_8_code 67 = .ok (.getfield 75, 3) := by decide +kernel
theorem d_Model_want_70 : decode prog_7_method_8_code 70 = .ok (.iconst 1, 1) := by decide +kernel
theorem d_Model_want_71 : decode prog_7_method_8_code 71 = .ok (.isub, 1) := by decide +kernel
theorem d_Model_want_72 : decode prog_7_method_8_code 72 = .ok (.ireturn, 1) := by decide +kernel
theorem d_Model_span_0 : decode prog_7_method_9_code 0 = .ok (.aload_n 0, 1) := by decide +kernel
theorem d_Model_span_1 : decode prog_7_method_9_code 1 = .ok (.iload_n 1, 1) := by decide +kernel
theorem d_Model_span_2 : decode prog_7_method_9_code 2 = .ok (.iconst 0, 1) := by decide +kernel
theorem d_Model_span_3 : decode prog_7_method_9_code 3 = .ok (.aload_n 0, 1) := by decide +kernel
theorem d_Model_span_4 : decode prog_7_method_9_code 4 = .ok (.getfield 75, 3) := by decide +kernel
theorem d_Model_span_7 : decode prog_7_method_9_code 7 = .ok (.iconst 1, 1) := by decide +kernel
theorem d_Model_span_8 : decode prog_7_method_9_code 8 = .ok (.isub, 1) := by decide +kernel
theorem d_Model_span_9 : decode prog_7_method_9_code 9 = .ok (.invokestatic 63, 3) := by decide +kernel
theorem d_Model_span_12 : decode prog_7_method_9_code 12 = .ok (.ifCond .ne 7, 3) := by decide +kernel
theorem d_Model_span_15 : decode prog_7_method_9_code 15 = .ok (.iconst 1, 1) := by decide +kernel
theorem d_Model_span_16 : decode prog_7_method_9_code 16 = .ok (.goto 4, 3) := by decide +kernel
theorem d_Model_span_19 : decode prog_7_method_9_code 19 = .ok (.iconst 0, 1) := by decide +kernel
theorem d_Model_span_20 : decode prog_7_method_9_code 20 = .ok (.iload_n 2, 1) := by decide +kernel
theorem d_Model_span_21 : decode prog_7_method_9_code 21 = .ok (.iload_n 3, 1) := by decide +kernel
theorem d_Model_span_22 : decode prog_7_method_9_code 22 = .ok (.invokestatic 78, 3) := by decide +kernel
theorem d_Model_span_25 : decode prog_7_method_9_code 25 = .ok (.ifCond .ne 7, 3) := by decide +kernel
theorem d_Model_span_28 : decode prog_7_method_9_code 28 = .ok (.iconst 1, 1) := by decide +kernel
theorem d_Model_span_29 : decode prog_7_method_9_code 29 = .ok (.goto 4, 3) := by decide +kernel
theorem d_Model_span_32 : decode prog_7_method_9_code 32 = .ok (.iconst 0, 1) := by decide +kernel
theorem d_Model_span_33 : decode prog_7_method_9_code 33 = .ok (.invokevirtual 68, 3) := by decide +kernel
theorem d_Model_span_36 : decode prog_7_method_9_code 36 = .ok (.ifCond .eq 4, 3) := by decide +kernel
theorem d_Model_span_39 : decode prog_7_method_9_code 39 = .ok (.return_, 1) := by decide +kernel
theorem d_Model_span_40 : decode prog_7_method_9_code 40 = .ok (.aload_n 0, 1) := by decide +kernel
theorem d_Model_span_41 : decode prog_7_method_9_code 41 = .ok (.getfield 16, 3) := by decide +kernel
theorem d_Model_span_44 : decode prog_7_method_9_code 44 = .ok (.iload_n 1, 1) := by decide +kernel
theorem d_Model_span_45 : decode prog_7_method_9_code 45 = .ok (.iload_n 2, 1) := by decide +kernel
theorem d_Model_span_46 : decode prog_7_method_9_code 46 = .ok (.iastore, 1) := by decide +kernel
theorem d_Model_span_47 : decode prog_7_method_9_code 47 = .ok (.aload_n 0, 1) := by decide +kernel
theorem d_Model_span_48 : decode prog_7_method_9_code 48 = .ok (.getfield 20, 3) := by decide +kernel
theorem d_Model_span_51 : decode prog_7_method_9_code 51 = .ok (.iload_n 1, 1) := by decide +kernel
theorem d_Model_span_52 : decode prog_7_method_9_code 52 = .ok (.iload_n 3, 1) := by decide +kernel
theorem d_Model_span_53 : decode prog_7_method_9_code 53 = .ok (.iastore, 1) := by decide +kernel
theorem d_Model_span_54 : decode prog_7_method_9_code 54 = .ok (.return_, 1) := by decide +kernel
theorem d_Model_trim_0 : decode prog_7_method_10_code 0 = .ok (.aload_n 0, 1) := by decide +kernel
theorem d_Model_trim_1 : decode prog_7_method_10_code 1 = .ok (.iload_n 1, 1) := by decide +kernel
theorem d_Model_trim_2 : decode prog_7_method_10_code 2 = .ok (.iconst 0, 1) := by decide +kernel
theorem d_Model_trim_3 : decode prog_7_method_10_code 3 = .ok (.sipush 300, 3) := by decide +kernel
theorem d_Model_trim_6 : decode prog_7_method_10_code 6 = .ok (.invokestatic 63, 3) := by decide +kernel
theorem d_Model_trim_9 : decode prog_7_method_10_code 9 = .ok (.ifCond .eq 14, 3) := by decide +kernel
theorem d_Model_trim_12 : decode prog_7_method_10_code 12 = .ok (.iload_n 2, 1) := by decide +kernel
theorem d_Model_trim_13 : decode prog_7_method_10_code 13 = .ok (.iconst 0, 1) := by decide +kernel
theorem d_Model_trim_14 : decode prog_7_method_10_code 14 = .ok (.sipush 300, 3) := by decide +kernel
theorem d_Model_trim_17 : decode prog_7_method_10_code 17 = .ok (.invokestatic 63, 3) := by decide +kernel
theorem d_Model_trim_20 : decode prog_7_method_10_code 20 = .ok (.ifCond .ne 7, 3) := by decide +kernel
theorem d_Model_trim_23 : decode prog_7_method_10_code 23 = .ok (.iconst 1, 1) := by decide +kernel
theorem d_Model_trim_24 : decode prog_7_method_10_code 24 = .ok (.goto 4, 3) := by decide +kernel
theorem d_Model_trim_27 : decode prog_7_method_10_code 27 = .ok (.iconst 0, 1) := by decide +kernel
theorem d_Model_trim_28 : decode prog_7_method_10_code 28 = .ok (.iconst 0, 1) := by decide +kernel
theorem d_Model_trim_29 : decode prog_7_method_10_code 29 = .ok (.invokevirtual 68, 3) := by decide +kernel
theorem d_Model_trim_32 : decode prog_7_method_10_code 32 = .ok (.ifCond .eq 4, 3) := by decide +kernel
theorem d_Model_trim_35 : decode prog_7_method_10_code 35 = .ok (.return_, 1) := by decide +kernel
theorem d_Model_trim_36 : decode prog_7_method_10_code 36 = .ok (.aload_n 0, 1) := by decide +kernel
theorem d_Model_trim_37 : decode prog_7_method_10_code 37 = .ok (.iload_n 1, 1) := by decide +kernel
theorem d_Model_trim_38 : decode prog_7_method_10_code 38 = .ok (.putfield 82, 3) := by decide +kernel
theorem d_Model_trim_41 : decode prog_7_method_10_code 41 = .ok (.aload_n 0, 1) := by decide +kernel
theorem d_Model_trim_42 : decode prog_7_method_10_code 42 = .ok (.iload_n 2, 1) := by decide +kernel
theorem d_Model_trim_43 : decode prog_7_method_10_code 43 = .ok (.putfield 85, 3) := by decide +kernel
theorem d_Model_trim_46 : decode prog_7_method_10_code 46 = .ok (.return_, 1) := by decide +kernel
theorem d_Model_isRow_0 : decode prog_7_method_11_code 0 = .ok (.iload_n 0, 1) := by decide +kernel
theorem d_Model_isRow_1 : decode prog_7_method_11_code 1 = .ok (.iconst 0, 1) := by decide +kernel
theorem d_Model_isRow_2 : decode prog_7_method_11_code 2 = .ok (.sipush 300, 3) := by decide +kernel
theorem d_Model_isRow_5 : decode prog_7_method_11_code 5 = .ok (.invokestatic 63, 3) := by decide +kernel
theorem d_Model_isRow_8 : decode prog_7_method_11_code 8 = .ok (.ifCond .eq 18, 3) := by decide +kernel
theorem d_Model_isRow_11 : decode prog_7_method_11_code 11 = .ok (.iload_n 1, 1) := by decide +kernel
theorem d_Model_isRow_12 : decode prog_7_method_11_code 12 = .ok (.iload_n 0, 1) := by decide +kernel
theorem d_Model_isRow_13 : decode prog_7_method_11_code 13 = .ok (.sipush 300, 3) := by decide +kernel
theorem d_Model_isRow_16 : decode prog_7_method_11_code 16 = .ok (.invokestatic 63, 3) := by decide +kernel
theorem d_Model_isRow_19 : decode prog_7_method_11_code 19 = .ok (.ifCond .eq 7, 3) := by decide +kernel
theorem d_Model_isRow_22 : decode prog_7_method_11_code 22 = .ok (.iconst 1, 1) := by decide +kernel
theorem d_Model_isRow_23 : decode prog_7_method_11_code 23 = .ok (.goto 4, 3) := by decide +kernel
theorem d_Model_isRow_26 : decode prog_7_method_11_code 26 = .ok (.iconst 0, 1) := by decide +kernel
theorem d_Model_isRow_27 : decode prog_7_method_11_code 27 = .ok (.ireturn, 1) := by decide +kernel
theorem d_Model_bad_0 : decode prog_7_method_12_code 0 = .ok (.aload_n 0, 1) := by decide +kernel
theorem d_Model_bad_1 : decode prog_7_method_12_code 1 = .ok (.aload_n 0, 1) := by decide +kernel
theorem d_Model_bad_2 : decode prog_7_method_12_code 2 = .ok (.getfield 88, 3) := by decide +kernel
theorem d_Model_bad_5 : decode prog_7_method_12_code 5 = .ok (.bipush 20, 2) := by decide +kernel
theorem d_Model_bad_7 : decode prog_7_method_12_code 7 = .ok (.if_icmp .ne 7, 3) := by decide +kernel
theorem d_Model_bad_10 : decode prog_7_method_12_code 10 = .ok (.iconst 1, 1) := by decide +kernel
theorem d_Model_bad_11 : decode prog_7_method_12_code 11 = .ok (.goto 4, 3) := by decide +kernel
theorem d_Model_bad_14 : decode prog_7_method_12_code 14 = .ok (.iconst 0, 1) := by decide +kernel
theorem d_Model_bad_15 : decode prog_7_method_12_code 15 = .ok (.iload_n 1, 1) := by decide +kernel
theorem d_Model_bad_16 : decode prog_7_method_12_code 16 = .ok (.iload_n 2, 1) := by decide +kernel
theorem d_Model_bad_17 : decode prog_7_method_12_code 17 = .ok (.invokestatic 91, 3) := by decide +kernel
theorem d_Model_bad_20 : decode prog_7_method_12_code 20 = .ok (.ifCond .ne 7, 3) := by decide +kernel
theorem d_Model_bad_23 : decode prog_7_method_12_code 23 = .ok (.iconst 1, 1) := by decide +kernel
theorem d_Model_bad_24 : decode prog_7_method_12_code 24 = .ok (.goto 4, 3) := by decide +kernel
theorem d_Model_bad_27 : decode prog_7_method_12_code 27 = .ok (.iconst 0, 1) := by decide +kernel
theorem d_Model_bad_28 : decode prog_7_method_12_code 28 = .ok (.invokevirtual 68, 3) := by decide +kernel
theorem d_Model_bad_31 : decode prog_7_method_12_code 31 = .ok (.ifCond .eq 5, 3) := by decide +kernel
theorem d_Model_bad_34 : decode prog_7_method_12_code 34 = .ok (.iconst 0, 1) := by decide +kernel
theorem d_Model_bad_35 : decode prog_7_method_12_code 35 = .ok (.ireturn, 1) := by decide +kernel
theorem d_Model_bad_36 : decode prog_7_method_12_code 36 = .ok (.aload_n 0, 1) := by decide +kernel
theorem d_Model_bad_37 : decode prog_7_method_12_code 37 = .ok (.getfield 23, 3) := by decide +kernel
theorem d_Model_bad_40 : decode prog_7_method_12_code 40 = .ok (.aload_n 0, 1) := by decide +kernel
theorem d_Model_bad_41 : decode prog_7_method_12_code 41 = .ok (.getfield 88, 3) := by decide +kernel
theorem d_Model_bad_44 : decode prog_7_method_12_code 44 = .ok (.iload_n 1, 1) := by decide +kernel
theorem d_Model_bad_45 : decode prog_7_method_12_code 45 = .ok (.iastore, 1) := by decide +kernel
theorem d_Model_bad_46 : decode prog_7_method_12_code 46 = .ok (.aload_n 0, 1) := by decide +kernel
theorem d_Model_bad_47 : decode prog_7_method_12_code 47 = .ok (.getfield 26, 3) := by decide +kernel
theorem d_Model_bad_50 : decode prog_7_method_12_code 50 = .ok (.aload_n 0, 1) := by decide +kernel
theorem d_Model_bad_51 : decode prog_7_method_12_code 51 = .ok (.getfield 88, 3) := by decide +kernel
theorem d_Model_bad_54 : decode prog_7_method_12_code 54 = .ok (.iload_n 2, 1) := by decide +kernel
theorem d_Model_bad_55 : decode prog_7_method_12_code 55 = .ok (.iastore, 1) := by decide +kernel
theorem d_Model_bad_56 : decode prog_7_method_12_code 56 = .ok (.aload_n 0, 1) := by decide +kernel
theorem d_Model_bad_57 : decode prog_7_method_12_code 57 = .ok (.dup, 1) := by decide +kernel
theorem d_Model_bad_58 : decode prog_7_method_12_code 58 = .ok (.getfield 88, 3) := by decide +kernel
theorem d_Model_bad_61 : decode prog_7_method_12_code 61 = .ok (.iconst 1, 1) := by decide +kernel
theorem d_Model_bad_62 : decode prog_7_method_12_code 62 = .ok (.iadd, 1) := by decide +kernel
theorem d_Model_bad_63 : decode prog_7_method_12_code 63 = .ok (.putfield 88, 3) := by decide +kernel
theorem d_Model_bad_66 : decode prog_7_method_12_code 66 = .ok (.aload_n 0, 1) := by decide +kernel
theorem d_Model_bad_67 : decode prog_7_method_12_code 67 = .ok (.getfield 88, 3) := by decide +kernel
theorem d_Model_bad_70 : decode prog_7_method_12_code 70 = .ok (.ireturn, 1) := by decide +kernel
theorem d_Model_bar_0 : decode prog_7_method_13_code 0 = .ok (.aload_n 0, 1) := by decide +kernel
theorem d_Model_bar_1 : decode prog_7_method_13_code 1 = .ok (.aload_n 0, 1) := by decide +kernel
theorem d_Model_bar_2 : decode prog_7_method_13_code 2 = .ok (.getfield 94, 3) := by decide +kernel
theorem d_Model_bar_5 : decode prog_7_method_13_code 5 = .ok (.bipush 20, 2) := by decide +kernel
theorem d_Model_bar_7 : decode prog_7_method_13_code 7 = .ok (.if_icmp .ne 7, 3) := by decide +kernel
theorem d_Model_bar_10 : decode prog_7_method_13_code 10 = .ok (.iconst 1, 1) := by decide +kernel
theorem d_Model_bar_11 : decode prog_7_method_13_code 11 = .ok (.goto 4, 3) := by decide +kernel
theorem d_Model_bar_14 : decode prog_7_method_13_code 14 = .ok (.iconst 0, 1) := by decide +kernel
theorem d_Model_bar_15 : decode prog_7_method_13_code 15 = .ok (.iload_n 1, 1) := by decide +kernel
theorem d_Model_bar_16 : decode prog_7_method_13_code 16 = .ok (.iload_n 2, 1) := by decide +kernel
theorem d_Model_bar_17 : decode prog_7_method_13_code 17 = .ok (.invokestatic 91, 3) := by decide +kernel
theorem d_Model_bar_20 : decode prog_7_method_13_code 20 = .ok (.ifCond .ne 7, 3) := by decide +kernel
theorem d_Model_bar_23 : decode prog_7_method_13_code 23 = .ok (.iconst 1, 1) := by decide +kernel
theorem d_Model_bar_24 : decode prog_7_method_13_code 24 = .ok (.goto 4, 3) := by decide +kernel
theorem d_Model_bar_27 : decode prog_7_method_13_code 27 = .ok (.iconst 0, 1) := by decide +kernel
theorem d_Model_bar_28 : decode prog_7_method_13_code 28 = .ok (.invokevirtual 68, 3) := by decide +kernel
theorem d_Model_bar_31 : decode prog_7_method_13_code 31 = .ok (.ifCond .eq 5, 3) := by decide +kernel
theorem d_Model_bar_34 : decode prog_7_method_13_code 34 = .ok (.iconst 0, 1) := by decide +kernel
theorem d_Model_bar_35 : decode prog_7_method_13_code 35 = .ok (.ireturn, 1) := by decide +kernel
theorem d_Model_bar_36 : decode prog_7_method_13_code 36 = .ok (.aload_n 0, 1) := by decide +kernel
theorem d_Model_bar_37 : decode prog_7_method_13_code 37 = .ok (.getfield 29, 3) := by decide +kernel
theorem d_Model_bar_40 : decode prog_7_method_13_code 40 = .ok (.aload_n 0, 1) := by decide +kernel
theorem d_Model_bar_41 : decode prog_7_method_13_code 41 = .ok (.getfield 94, 3) := by decide +kernel
theorem d_Model_bar_44 : decode prog_7_method_13_code 44 = .ok (.iload_n 1, 1) := by decide +kernel
theorem d_Model_bar_45 : decode prog_7_method_13_code 45 = .ok (.iastore, 1) := by decide +kernel
theorem d_Model_bar_46 : decode prog_7_method_13_code 46 = .ok (.aload_n 0, 1) := by decide +kernel
theorem d_Model_bar_47 : decode prog_7_method_13_code 47 = .ok (.getfield 32, 3) := by decide +kernel
theorem d_Model_bar_50 : decode prog_7_method_13_code 50 = .ok (.aload_n 0, 1) := by decide +kernel
theorem d_Model_bar_51 : decode prog_7_method_13_code 51 = .ok (.getfield 94, 3) := by decide +kernel
theorem d_Model_bar_54 : decode prog_7_method_13_code 54 = .ok (.iload_n 2, 1) := by decide +kernel
theorem d_Model_bar_55 : decode prog_7_method_13_code 55 = .ok (.iastore, 1) := by decide +kernel
theorem d_Model_bar_56 : decode prog_7_method_13_code 56 = .ok (.aload_n 0, 1) := by decide +kernel
theorem d_Model_bar_57 : decode prog_7_method_13_code 57 = .ok (.dup, 1) := by decide +kernel
theorem d_Model_bar_58 : decode prog_7_method_13_code 58 = .ok (.getfield 94, 3) := by decide +kernel
theorem d_Model_bar_61 : decode prog_7_method_13_code 61 = .ok (.iconst 1, 1) := by decide +kernel
theorem d_Model_bar_62 : decode prog_7_method_13_code 62 = .ok (.iadd, 1) := by decide +kernel
theorem d_Model_bar_63 : decode prog_7_method_13_code 63 = .ok (.putfield 94, 3) := by decide +kernel
theorem d_Model_bar_66 : decode prog_7_method_13_code 66 = .ok (.aload_n 0, 1) := by decide +kernel
theorem d_Model_bar_67 : decode prog_7_method_13_code 67 = .ok (.getfield 94, 3) := by decide +kernel
theorem d_Model_bar_70 : decode prog_7_method_13_code 70 = .ok (.ireturn, 1) := by decide +kernel
theorem d_Model_isGood_0 : decode prog_7_method_14_code 0 = .ok (.iload_n 1, 1) := by decide +kernel
theorem d_Model_isGood_1 : decode prog_7_method_14_code 1 = .ok (.aload_n 0, 1) := by decide +kernel
theorem d_Model_isGood_2 : decode prog_7_method_14_code 2 = .ok (.getfield 82, 3) := by decide +kernel
theorem d_Model_isGood_5 : decode prog_7_method_14_code 5 = .ok (.if_icmp .lt 20, 3) := by decide +kernel
theorem d_Model_isGood_8 : decode prog_7_method_14_code 8 = .ok (.iload_n 1, 1) := by decide +kernel
theorem d_Model_isGood_9 : decode prog_7_method_14_code 9 = .ok (.aload_n 0, 1) := by decide +kernel
theorem d_Model_isGood_10 : decode prog_7_method_14_code 10 = .ok (.getfield 72, 3) := by decide +kernel
theorem d_Model_isGood_13 : decode prog_7_method_14_code 13 = .ok (.aload_n 0, 1) := by decide +kernel
theorem d_Model_isGood_14 : decode prog_7_method_14_code 14 = .ok (.getfield 85, 3) := by decide +kernel
theorem d_Model_isGood_17 : decode prog_7_method_14_code 17 = .ok (.isub, 1) := by decide +kernel
theorem d_Model_isGood_18 : decode prog_7_method_14_code 18 = .ok (.if_icmp .ge 7, 3) := by decide +kernel
theorem d_Model_isGood_21 : decode prog_7_method_14_code 21 = .ok (.iconst 1, 1) := by decide +kernel
theorem d_Model_isGood_22 : decode prog_7_method_14_code 22 = .ok (.goto 4, 3) := by decide +kernel
theorem d_Model_isGood_25 : decode prog_7_method_14_code 25 = .ok (.iconst 0, 1) := by decide +kernel
theorem d_Model_isGood_26 : decode prog_7_method_14_code 26 = .ok (.istore_n 2, 1) := by decide +kernel
theorem d_Model_isGood_27 : decode prog_7_method_14_code 27 = .ok (.iconst 0, 1) := by decide +kernel
theorem d_Model_isGood_28 : decode prog_7_method_14_code 28 = .ok (.istore_n 3, 1) := by decide +kernel
theorem d_Model_isGood_29 : decode prog_7_method_14_code 29 = .ok (.iload_n 3, 1) := by decide +kernel
theorem d_Model_isGood_30 : decode prog_7_method_14_code 30 = .ok (.aload_n 0, 1) := by decide +kernel
theorem d_Model_isGood_31 : decode prog_7_method_14_code 31 = .ok (.getfield 88, 3) := by decide +kernel
theorem d_Model_isGood_34 : decode prog_7_method_14_code 34 = .ok (.if_icmp .ge 40, 3) := by decide +kernel
theorem d_Model_isGood_37 : decode prog_7_method_14_code 37 = .ok (.iload_n 2, 1) := by decide +kernel
theorem d_Model_isGood_38 : decode prog_7_method_14_code 38 = .ok (.ifCond .eq 28, 3) := by decide +kernel
theorem d_Model_isGood_41 : decode prog_7_method_14_code 41 = .ok (.iload_n 1, 1) := by decide +kernel
theorem d_Model_isGood_42 : decode prog_7_method_14_code 42 = .ok (.aload_n 0, 1) := by decide +kernel
theorem d_Model_isGood_43 : decode prog_7_method_14_code 43 = .ok (.getfield 23, 3) := by decide +kernel
theorem d_Model_isGood_46 : decode prog_7_method_14_code 46 = .ok (.iload_n 3, 1) := by decide +kernel
theorem d_Model_isGood_47 : decode prog_7_method_14_code 47 = .ok (.iaload, 1) := by decide +kernel
theorem d_Model_isGood_48 : decode prog_7_method_14_code 48 = .ok (.aload_n 0, 1) := by decide +kernel
theorem d_Model_isGood_49 : decode prog_7_method_14_code 49 = .ok (.getfield 26, 3) := by decide +kernel
theorem d_Model_isGood_52 : decode prog_7_method_14_code 52 = .ok (.iload_n 3, 1) := by decide +kernel
theorem d_Model_isGood_53 : decode prog_7_method_14_code 53 = .ok (.iaload, 1) := by decide +kernel
theorem d_Model_isGood_54 : decode prog_7_method_14_code 54 = .ok (.iconst 1, 1) := by decide +kernel
theorem d_Model_isGood_55 : decode prog_7_method_14_code 55 = .ok (.isub, 1) := by decide +kernel
theorem d_Model_isGood_56 : decode prog_7_method_14_code 56 = .ok (.invokestatic 63, 3) := by decide +kernel
theorem d_Model_isGood_59 : decode prog_7_method_14_code 59 = .ok (.ifCond .ne 7, 3) := by decide +kernel
theorem d_Model_isGood_62 : decode prog_7_method_14_code 62 = .ok (.iconst 1, 1) := by decide +kernel
theorem d_Model_isGood_63 : decode prog_7_method_14_code 63 = .ok (.goto 4, 3) := by decide +kernel
theorem d_Model_isGood_66 : decode prog_7_method_14_code 66 = .ok (.iconst 0, 1) := by decide +kernel
theorem d_Model_isGood_67 : decode prog_7_method_14_code 67 = .ok (.istore_n 2, 1) := by decide +kernel
theorem d_Model_isGood_68 : decode prog_7_method_14_code 68 = .ok (.iinc 3 1, 3) := by decide +kernel
theorem d_Model_isGood_71 : decode prog_7_method_14_code 71 = .ok (.goto (-42), 3) := by decide +kernel
theorem d_Model_isGood_74 : decode prog_7_method_14_code 74 = .ok (.iload_n 2, 1) := by decide +kernel
theorem d_Model_isGood_75 : decode prog_7_method_14_code 75 = .ok (.ireturn, 1) := by decide +kernel
theorem d_Model_isBarred_0 : decode prog_7_method_15_code 0 = .ok (.iconst 0, 1) := by decide +kernel
theorem d_Model_isBarred_1 : decode prog_7_method_15_code 1 = .ok (.istore_n 2, 1) := by decide +kernel
theorem d_Model_isBarred_2 : decode prog_7_method_15_code 2 = .ok (.iconst 0, 1) := by decide +kernel
theorem d_Model_isBarred_3 : decode prog_7_method_15_code 3 = .ok (.istore_n 3, 1) := by decide +kernel
theorem d_Model_isBarred_4 : decode prog_7_method_15_code 4 = .ok (.iload_n 3, 1) := by decide +kernel
theorem d_Model_isBarred_5 : decode prog_7_method_15_code 5 = .ok (.aload_n 0, 1) := by decide +kernel
theorem d_Model_isBarred_6 : decode prog_7_method_15_code 6 = .ok (.getfield 94, 3) := by decide +kernel
theorem d_Model_isBarred_9 : decode prog_7_method_15_code 9 = .ok (.if_icmp .ge 38, 3) := by decide +kernel
theorem d_Model_isBarred_12 : decode prog_7_method_15_code 12 = .ok (.iload_n 2, 1) := by decide +kernel
theorem d_Model_isBarred_13 : decode prog_7_method_15_code 13 = .ok (.ifCond .ne 22, 3) := by decide +kernel
theorem d_Model_isBarred_16 : decode prog_7_method_15_code 16 = .ok (.iload_n 1, 1) := by decide +kernel
theorem d_Model_isBarred_17 : decode prog_7_method_15_code 17 = .ok (.aload_n 0, 1) := by decide +kernel
theorem d_Model_isBarred_18 : decode prog_7_method_15_code 18 = .ok (.getfield 29, 3) := by decide +kernel
theorem d_Model_isBarred_21 : decode prog_7_method_15_code 21 = .ok (.iload_n 3, 1) := by decide +kernel
theorem d_Model_isBarred_22 : decode prog_7_method_15_code 22 = .ok (.iaload, 1) := by decide +kernel
theorem d_Model_isBarred_23 : decode prog_7_method_15_code 23 = .ok (.aload_n 0, 1) := by decide +kernel
theorem d_Model_isBarred_24 : decode prog_7_method_15_code 24 = .ok (.getfield 32, 3) := by decide +kernel
theorem d_Model_isBarred_27 : decode prog_7_method_15_code 27 = .ok (.iload_n 3, 1) := by decide +kernel
theorem d_Model_isBarred_28 : decode prog_7_method_15_code 28 = .ok (.iaload, 1) := by decide +kernel
theorem d_Model_isBarred_29 : decode prog_7_method_15_code 29 = .ok (.invokestatic 63, 3) := by decide +kernel
theorem d_Model_isBarred_32 : decode prog_7_method_15_code 32 = .ok (.ifCond .eq 7, 3) := by decide +kernel
theorem d_Model_isBarred_35 : decode prog_7_method_15_code 35 = .ok (.iconst 1, 1) := by decide +kernel
theorem d_Model_isBarred_36 : decode prog_7_method_15_code 36 = .ok (.goto 4, 3) := by decide +kernel
theorem d_Model_isBarred_39 : decode prog_7_method_15_code 39 = .ok (.iconst 0, 1) := by decide +kernel
theorem d_Model_isBarred_40 : decode prog_7_method_15_code 40 = .ok (.istore_n 2, 1) := by decide +kernel
theorem d_Model_isBarred_41 : decode prog_7_method_15_code 41 = .ok (.iinc 3 1, 3) := by decide +kernel
theorem d_Model_isBarred_44 : decode prog_7_method_15_code 44 = .ok (.goto (-40), 3) := by decide +kernel
theorem d_Model_isBarred_47 : decode prog_7_method_15_code 47 = .ok (.iload_n 2, 1) := by decide +kernel
theorem d_Model_isBarred_48 : decode prog_7_method_15_code 48 = .ok (.ireturn, 1) := by decide +kernel
theorem d_Model_look_0 : decode prog_7_method_16_code 0 = .ok (.aload_n 0, 1) := by decide +kernel
theorem d_Model_look_1 : decode prog_7_method_16_code 1 = .ok (.getfield 44, 3) := by decide +kernel
theorem d_Model_look_4 : decode prog_7_method_16_code 4 = .ok (.iload_n 1, 1) := by decide +kernel
theorem d_Model_look_5 : decode prog_7_method_16_code 5 = .ok (.aload_n 0, 1) := by decide +kernel
theorem d_Model_look_6 : decode prog_7_method_16_code 6 = .ok (.getfield 44, 3) := by decide +kernel
theorem d_Model_look_9 : decode prog_7_method_16_code 9 = .ok (.iload_n 1, 1) := by decide +kernel
theorem d_Model_look_10 : decode prog_7_method_16_code 10 = .ok (.iconst 1, 1) := by decide +kernel
theorem d_Model_look_11 : decode prog_7_method_16_code 11 = .ok (.iadd, 1) := by decide +kernel
theorem d_Model_look_12 : decode prog_7_method_16_code 12 = .ok (.iaload, 1) := by decide +kernel
theorem d_Model_look_13 : decode prog_7_method_16_code 13 = .ok (.iconst 1, 1) := by decide +kernel
theorem d_Model_look_14 : decode prog_7_method_16_code 14 = .ok (.iadd, 1) := by decide +kernel
theorem d_Model_look_15 : decode prog_7_method_16_code 15 = .ok (.iastore, 1) := by decide +kernel
theorem d_Model_look_16 : decode prog_7_method_16_code 16 = .ok (.aload_n 0, 1) := by decide +kernel
theorem d_Model_look_17 : decode prog_7_method_16_code 17 = .ok (.getfield 47, 3) := by decide +kernel
theorem d_Model_look_20 : decode prog_7_method_16_code 20 = .ok (.iload_n 1, 1) := by decide +kernel
theorem d_Model_look_21 : decode prog_7_method_16_code 21 = .ok (.iconst (-1), 1) := by decide +kernel
theorem d_Model_look_22 : decode prog_7_method_16_code 22 = .ok (.iastore, 1) := by decide +kernel
theorem d_Model_look_23 : decode prog_7_method_16_code 23 = .ok (.aload_n 0, 1) := by decide +kernel
theorem d_Model_look_24 : decode prog_7_method_16_code 24 = .ok (.getfield 50, 3) := by decide +kernel
theorem d_Model_look_27 : decode prog_7_method_16_code 27 = .ok (.iload_n 1, 1) := by decide +kernel
theorem d_Model_look_28 : decode prog_7_method_16_code 28 = .ok (.iconst 1, 1) := by decide +kernel
theorem d_Model_look_29 : decode prog_7_method_16_code 29 = .ok (.iastore, 1) := by decide +kernel
theorem d_Model_look_30 : decode prog_7_method_16_code 30 = .ok (.iload_n 1, 1) := by decide +kernel
theorem d_Model_look_31 : decode prog_7_method_16_code 31 = .ok (.aload_n 0, 1) := by decide +kernel
theorem d_Model_look_32 : decode prog_7_method_16_code 32 = .ok (.getfield 97, 3) := by decide +kernel
theorem d_Model_look_35 : decode prog_7_method_16_code 35 = .ok (.if_icmp .eq 12, 3) := by decide +kernel
theorem d_Model_look_38 : decode prog_7_method_16_code 38 = .ok (.aload_n 0, 1) := by decide +kernel
theorem d_Model_look_39 : decode prog_7_method_16_code 39 = .ok (.iload_n 1, 1) := by decide +kernel
theorem d_Model_look_40 : decode prog_7_method_16_code 40 = .ok (.invokevirtual 100, 3) := by decide +kernel
theorem d_Model_look_43 : decode prog_7_method_16_code 43 = .ok (.ifCond .eq 4, 3) := by decide +kernel
theorem d_Model_look_46 : decode prog_7_method_16_code 46 = .ok (.return_, 1) := by decide +kernel
theorem d_Model_look_47 : decode prog_7_method_16_code 47 = .ok (.aload_n 0, 1) := by decide +kernel
theorem d_Model_look_48 : decode prog_7_method_16_code 48 = .ok (.getfield 75, 3) := by decide +kernel
theorem d_Model_look_51 : decode prog_7_method_16_code 51 = .ok (.iconst 1, 1) := by decide +kernel
theorem d_Model_look_52 : decode prog_7_method_16_code 52 = .ok (.isub, 1) := by decide +kernel
theorem d_Model_look_53 : decode prog_7_method_16_code 53 = .ok (.istore_n 2, 1) := by decide +kernel
theorem d_Model_look_54 : decode prog_7_method_16_code 54 = .ok (.iload_n 2, 1) := by decide +kernel
theorem d_Model_look_55 : decode prog_7_method_16_code 55 = .ok (.ifCond .lt 120, 3) := by decide +kernel
theorem d_Model_look_58 : decode prog_7_method_16_code 58 = .ok (.aload_n 0, 1) := by decide +kernel
theorem d_Model_look_59 : decode prog_7_method_16_code 59 = .ok (.getfield 16, 3) := by decide +kernel
theorem d_Model_look_62 : decode prog_7_method_16_code 62 = .ok (.iload_n 2, 1) := by decide +kernel
theorem d_Model_look_63 : decode prog_7_method_16_code 63 = .ok (.iaload, 1) := by decide +kernel
theorem d_Model_look_64 : decode prog_7_method_16_code 64 = .ok (.istore_n 3, 1) := by decide +kernel
theorem d_Model_look_65 : decode prog_7_method_16_code 65 = .ok (.iload_n 3, 1) := by decide +kernel
theorem d_Model_look_66 : decode prog_7_method_16_code 66 = .ok (.aload_n 0, 1) := by decide +kernel
theorem d_Model_look_67 : decode prog_7_method_16_code 67 = .ok (.getfield 20, 3) := by decide +kernel
theorem d_Model_look_70 : decode prog_7_method_16_code 70 = .ok (.iload_n 2, 1) := by decide +kernel
theorem d_Model_look_71 : decode prog_7_method_16_code 71 = .ok (.iaload, 1) := by decide +kernel
theorem d_Model_look_72 : decode prog_7_method_16_code 72 = .ok (.if_icmp .gt 97, 3) := by decide +kernel
theorem d_Model_look_75 : decode prog_7_method_16_code 75 = .ok (.iload_n 3, 1) := by decide +kernel
theorem d_Model_look_76 : decode prog_7_method_16_code 76 = .ok (.aload_n 0, 1) := by decide +kernel
theorem d_Model_look_77 : decode prog_7_method_16_code 77 = .ok (.getfield 53, 3) := by decide +kernel
theorem d_Model_look_80 : decode prog_7_method_16_code 80 = .ok (.iload_n 1, 1) := by decide +kernel
theorem d_Model_look_81 : decode prog_7_method_16_code 81 = .ok (.iaload, 1) := by decide +kernel
theorem d_Model_look_82 : decode prog_7_method_16_code 82 = .ok (.if_icmp .gt 87, 3) := by decide +kernel
theorem d_Model_look_85 : decode prog_7_method_16_code 85 = .ok (.iload_n 1, 1) := by decide +kernel
theorem d_Model_look_86 : decode prog_7_method_16_code 86 = .ok (.iload_n 3, 1) := by decide +kernel
theorem d_Model_look_87 : decode prog_7_method_16_code 87 = .ok (.iadd, 1) := by decide +kernel
theorem d_Model_look_88 : decode prog_7_method_16_code 88 = .ok (.istore 4, 2) := by decide +kernel
theorem d_Model_look_90 : decode prog_7_method_16_code 90 = .ok (.aload_n 0, 1) := by decide +kernel
theorem d_Model_look_91 : decode prog_7_method_16_code 91 = .ok (.getfield 44, 3) := by decide +kernel
theorem d_Model_look_94 : decode prog_7_method_16_code 94 = .ok (.iload 4, 2) := by decide +kernel
theorem d_Model_look_96 : decode prog_7_method_16_code 96 = .ok (.iaload, 1) := by decide +kernel
theorem d_Model_look_97 : decode prog_7_method_16_code 97 = .ok (.aload_n 0, 1) := by decide +kernel
theorem d_Model_look_98 : decode prog_7_method_16_code 98 = .ok (.getfield 44, 3) := by decide +kernel
theorem d_Model_look_101 : decode prog_7_method_16_code 101 = .ok (.iload_n 1, 1) := by decide +kernel
theorem d_Model_look_102 : decode prog_7_method_16_code 102 = .ok (.iaload, 1) := by decide +kernel
theorem d_Model_look_103 : decode prog_7_method_16_code 103 = .ok (.if_icmp .gt 25, 3) := by decide +kernel
theorem d_Model_look_106 : decode prog_7_method_16_code 106 = .ok (.iload 4, 2) := by decide +kernel
theorem d_Model_look_108 : decode prog_7_method_16_code 108 = .ok (.aload_n 0, 1) := by decide +kernel
theorem d_Model_look_109 : decode prog_7_method_16_code 109 = .ok (.getfield 72, 3) := by decide +kernel
theorem d_Model_look_112 : decode prog_7_method_16_code 112 = .ok (.if_icmp .eq 12, 3) := by decide +kernel
theorem d_Model_look_115 : decode prog_7_method_16_code 115 = .ok (.aload_n 0, 1) := by decide +kernel
theorem d_Model_look_116 : decode prog_7_method_16_code 116 = .ok (.iload 4, 2) := by decide +kernel
theorem d_Model_look_118 : decode prog_7_method_16_code 118 = .ok (.invokevirtual 100, 3) := by decide +kernel
theorem d_Model_look_121 : decode prog_7_method_16_code 121 = .ok (.ifCond .ne 7, 3) := by decide +kernel
theorem d_Model_look_124 : decode prog_7_method_16_code 124 = .ok (.iconst 1, 1) := by decide +kernel
theorem d_Model_look_125 : decode prog_7_method_16_code 125 = .ok (.goto 4, 3) := by decide +kernel
theorem d_Model_look_128 : decode prog_7_method_16_code 128 = .ok (.iconst 0, 1) := by decide +kernel
theorem d_Model_look_129 : decode prog_7_method_16_code 129 = .ok (.istore 5, 2) := by decide +kernel
theorem d_Model_look_131 : decode prog_7_method_16_code 131 = .ok (.iload 5, 2) := by decide +kernel
theorem d_Model_look_133 : decode prog_7_method_16_code 133 = .ok (.ifCond .eq 30, 3) := by decide +kernel
theorem d_Model_look_136 : decode prog_7_method_16_code 136 = .ok (.aload_n 0, 1) := by decide +kernel
theorem d_Model_look_137 : decode prog_7_method_16_code 137 = .ok (.getfield 44, 3) := by decide +kernel
theorem d_Model_look_140 : decode prog_7_method_16_code 140 = .ok (.iload_n 1, 1) := by decide +kernel
theorem d_Model_look_141 : decode prog_7_method_16_code 141 = .ok (.aload_n 0, 1) := by decide +kernel
theorem d_Model_look_142 : decode prog_7_method_16_code 142 = .ok (.getfield 44, 3) := by decide +kernel
theorem d_Model_look_145 : decode prog_7_method_16_code 145 = .ok (.iload 4, 2) := by decide +kernel
theorem d_Model_look_147 : decode prog_7_method_16_code 147 = .ok (.iaload, 1) := by decide +kernel
theorem d_Model_look_148 : decode prog_7_method_16_code 148 = .ok (.iastore, 1) := by decide +kernel
theorem d_Model_look_149 : decode prog_7_method_16_code 149 = .ok (.aload_n 0, 1) := by decide +kernel
theorem d_Model_look_150 : decode prog_7_method_16_code 150 = .ok (.getfield 47, 3) := by decide +kernel
theorem d_Model_look_153 : decode prog_7_method_16_code 153 = .ok (.iload_n 1, 1) := by decide +kernel
theorem d_Model_look_154 : decode prog_7_method_16_code 154 = .ok (.iload_n 2, 1) := by decide +kernel
theorem d_Model_look_155 : decode prog_7_method_16_code 155 = .ok (.iastore, 1) := by decide +kernel
theorem d_Model_look_156 : decode prog_7_method_16_code 156 = .ok (.aload_n 0, 1) := by decide +kernel
theorem d_Model_look_157 : decode prog_7_method_16_code 157 = .ok (.getfield 50, 3) := by decide +kernel
theorem d_Model_look_160 : decode prog_7_method_16_code 160 = .ok (.iload_n 1, 1) := by decide +kernel
theorem d_Model_look_161 : decode prog_7_method_16_code 161 = .ok (.iload_n 3, 1) := by decide +kernel
theorem d_Model_look_162 : decode prog_7_method_16_code 162 = .ok (.iastore, 1) := by decide +kernel
theorem d_Model_look_163 : decode prog_7_method_16_code 163 = .ok (.iinc 3 1, 3) := by decide +kernel
theorem d_Model_look_166 : decode prog_7_method_16_code 166 = .ok (.goto (-101), 3) := by decide +kernel
theorem d_Model_look_169 : decode prog_7_method_16_code 169 = .ok (.iinc 2 (-1), 3) := by decide +kernel
theorem d_Model_look_172 : decode prog_7_method_16_code 172 = .ok (.goto (-118), 3) := by decide +kernel
theorem d_Model_look_175 : decode prog_7_method_16_code 175 = .ok (.return_, 1) := by decide +kernel
theorem d_Model_plan_0 : decode prog_7_method_17_code 0 = .ok (.aload_n 0, 1) := by decide +kernel
theorem d_Model_plan_1 : decode prog_7_method_17_code 1 = .ok (.getfield 44, 3) := by decide +kernel
theorem d_Model_plan_4 : decode prog_7_method_17_code 4 = .ok (.aload_n 0, 1) := by decide +kernel
theorem d_Model_plan_5 : decode prog_7_method_17_code 5 = .ok (.getfield 72, 3) := by decide +kernel
theorem d_Model_plan_8 : decode prog_7_method_17_code 8 = .ok (.iconst 0, 1) := by decide +kernel
theorem d_Model_plan_9 : decode prog_7_method_17_code 9 = .ok (.iastore, 1) := by decide +kernel
theorem d_Model_plan_10 : decode prog_7_method_17_code 10 = .ok (.aload_n 0, 1) := by decide +kernel
theorem d_Model_plan_11 : decode prog_7_method_17_code 11 = .ok (.getfield 53, 3) := by decide +kernel
theorem d_Model_plan_14 : decode prog_7_method_17_code 14 = .ok (.aload_n 0, 1) := by decide +kernel
theorem d_Model_plan_15 : decode prog_7_method_17_code 15 = .ok (.getfield 72, 3) := by decide +kernel
theorem d_Model_plan_18 : decode prog_7_method_17_code 18 = .ok (.iconst 0, 1) := by decide +kernel
theorem d_Model_plan_19 : decode prog_7_method_17_code 19 = .ok (.iastore, 1) := by decide +kernel
theorem d_Model_plan_20 : decode prog_7_method_17_code 20 = .ok (.aload_n 0, 1) := by decide +kernel
theorem d_Model_plan_21 : decode prog_7_method_17_code 21 = .ok (.getfield 72, 3) := by decide +kernel
theorem d_Model_plan_24 : decode prog_7_method_17_code 24 = .ok (.iconst 1, 1) := by decide +kernel
theorem d_Model_plan_25 : decode prog_7_method_17_code 25 = .ok (.isub, 1) := by decide +kernel
theorem d_Model_plan_26 : decode prog_7_method_17_code 26 = .ok (.istore_n 1, 1) := by decide +kernel
theorem d_Model_plan_27 : decode prog_7_method_17_code 27 = .ok (.iload_n 1, 1) := by decide +kernel
theorem d_Model_plan_28 : decode prog_7_method_17_code 28 = .ok (.aload_n 0, 1) := by decide +kernel
theorem d_Model_plan_29 : decode prog_7_method_17_code 29 = .ok (.getfield 97, 3) := by decide +kernel
theorem d_Model_plan_32 : decode prog_7_method_17_code 32 = .ok (.if_icmp .lt 42, 3) := by decide +kernel
theorem d_Model_plan_35 : decode prog_7_method_17_code 35 = .ok (.aload_n 0, 1) := by decide +kernel
theorem d_Model_plan_36 : decode prog_7_method_17_code 36 = .ok (.getfield 53, 3) := by decide +kernel
theorem d_Model_plan_39 : decode prog_7_method_17_code 39 = .ok (.iload_n 1, 1) := by decide +kernel
theorem d_Model_plan_40 : decode prog_7_method_17_code 40 = .ok (.aload_n 0, 1) := by decide +kernel
theorem d_Model_plan_41 : decode prog_7_method_17_code 41 = .ok (.iload_n 1, 1) := by decide +kernel
theorem d_Model_plan_42 : decode prog_7_method_17_code 42 = .ok (.invokevirtual 104, 3) := by decide +kernel
theorem d_Model_plan_45 : decode prog_7_method_17_code 45 = .ok (.ifCond .eq 16, 3) := by decide +kernel
theorem d_Model_plan_48 : decode prog_7_method_17_code 48 = .ok (.aload_n 0, 1) := by decide +kernel
theorem d_Model_plan_49 : decode prog_7_method_17_code 49 = .ok (.getfield 53, 3) := by decide +kernel
theorem d_Model_plan_52 : decode prog_7_method_17_code 52 = .ok (.iload_n 1, 1) := by decide +kernel
theorem d_Model_plan_53 : decode prog_7_method_17_code 53 = .ok (.iconst 1, 1) := by decide +kernel
theorem d_Model_plan_54 : decode prog_7_method_17_code 54 = .ok (.iadd, 1) := by decide +kernel
theorem d_Model_plan_55 : decode prog_7_method_17_code 55 = .ok (.iaload, 1) := by decide +kernel
theorem d_Model_plan_56 : decode prog_7_method_17_code 56 = .ok (.iconst 1, 1) := by decide +kernel
theorem d_Model_plan_57 : decode prog_7_method_17_code 57 = .ok (.iadd, 1) := by decide +kernel
theorem d_Model_plan_58 : decode prog_7_method_17_code 58 = .ok (.goto 4, 3) := by decide +kernel
theorem d_Model_plan_61 : decode prog_7_method_17_code 61 = .ok (.iconst 0, 1) := by decide +kernel
theorem d_Model_plan_62 : decode prog_7_method_17_code 62 = .ok (.iastore, 1) := by decide +kernel
theorem d_Model_plan_63 : decode prog_7_method_17_code 63 = .ok (.aload_n 0, 1) := by decide +kernel
theorem d_Model_plan_64 : decode prog_7_method_17_code 64 = .ok (.iload_n 1, 1) := by decide +kernel
theorem d_Model_plan_65 : decode prog_7_method_17_code 65 = .ok (.invokevirtual 107, 3) := by decide +kernel
theorem d_Model_plan_68 : decode prog_7_method_17_code 68 = .ok (.iinc 1 (-1), 3) := by decide +kernel
theorem d_Model_plan_71 : decode prog_7_method_17_code 71 = .ok (.goto (-44), 3) := by decide +kernel
theorem d_Model_plan_74 : decode prog_7_method_17_code 74 = .ok (.return_, 1) := by decide +kernel
theorem d_Model_loss_0 : decode prog_7_method_18_code 0 = .ok (.aload_n 0, 1) := by decide +kernel
theorem d_Model_loss_1 : decode prog_7_method_18_code 1 = .ok (.iconst 0, 1) := by decide +kernel
theorem d_Model_loss_2 : decode prog_7_method_18_code 2 = .ok (.putfield 56, 3) := by decide +kernel
theorem d_Model_loss_5 : decode prog_7_method_18_code 5 = .ok (.aload_n 0, 1) := by decide +kernel
theorem d_Model_loss_6 : decode prog_7_method_18_code 6 = .ok (.invokevirtual 111, 3) := by decide +kernel
theorem d_Model_loss_9 : decode prog_7_method_18_code 9 = .ok (.aload_n 0, 1) := by decide +kernel
theorem d_Model_loss_10 : decode prog_7_method_18_code 10 = .ok (.getfield 44, 3) := by decide +kernel
theorem d_Model_loss_13 : decode prog_7_method_18_code 13 = .ok (.aload_n 0, 1) := by decide +kernel
theorem d_Model_loss_14 : decode prog_7_method_18_code 14 = .ok (.getfield 97, 3) := by decide +kernel
theorem d_Model_loss_17 : decode prog_7_method_18_code 17 = .ok (.iaload, 1) := by decide +kernel
theorem d_Model_loss_18 : decode prog_7_method_18_code 18 = .ok (.ireturn, 1) := by decide +kernel
theorem d_Model_endOf_0 : decode prog_7_method_19_code 0 = .ok (.aload_n 0, 1) := by decide +kernel
theorem d_Model_endOf_1 : decode prog_7_method_19_code 1 = .ok (.getfield 47, 3) := by decide +kernel
theorem d_Model_endOf_4 : decode prog_7_method_19_code 4 = .ok (.iload_n 1, 1) := by decide +kernel
theorem d_Model_endOf_5 : decode prog_7_method_19_code 5 = .ok (.iaload, 1) := by decide +kernel
theorem d_Model_endOf_6 : decode prog_7_method_19_code 6 = .ok (.iconst (-1), 1) := by decide +kernel
theorem d_Model_endOf_7 : decode prog_7_method_19_code 7 = .ok (.if_icmp .eq 12, 3) := by decide +kernel
theorem d_Model_endOf_10 : decode prog_7_method_19_code 10 = .ok (.iload_n 1, 1) := by decide +kernel
theorem d_Model_endOf_11 : decode prog_7_method_19_code 11 = .ok (.aload_n 0, 1) := by decide +kernel
theorem d_Model_endOf_12 : decode prog_7_method_19_code 12 = .ok (.getfield 50, 3) := by decide +kernel
theorem d_Model_endOf_15 : decode prog_7_method_19_code 15 = .ok (.iload_n 1, 1) := by decide +kernel
theorem d_Model_endOf_16 : decode prog_7_method_19_code 16 = .ok (.iaload, 1) := by decide +kernel
theorem d_Model_endOf_17 : decode prog_7_method_19_code 17 = .ok (.iadd, 1) := by decide +kernel
theorem d_Model_endOf_18 : decode prog_7_method_19_code 18 = .ok (.ireturn, 1) := by decide +kernel
theorem d_Model_endOf_19 : decode prog_7_method_19_code 19 = .ok (.iload_n 1, 1) := by decide +kernel
theorem d_Model_endOf_20 : decode prog_7_method_19_code 20 = .ok (.istore_n 2, 1) := by decide +kernel
theorem d_Model_endOf_21 : decode prog_7_method_19_code 21 = .ok (.iload_n 2, 1) := by decide +kernel
theorem d_Model_endOf_22 : decode prog_7_method_19_code 22 = .ok (.aload_n 0, 1) := by decide +kernel
theorem d_Model_endOf_23 : decode prog_7_method_19_code 23 = .ok (.getfield 72, 3) := by decide +kernel
theorem d_Model_endOf_26 : decode prog_7_method_19_code 26 = .ok (.if_icmp .ge 19, 3) := by decide +kernel
theorem d_Model_endOf_29 : decode prog_7_method_19_code 29 = .ok (.aload_n 0, 1) := by decide +kernel
theorem d_Model_endOf_30 : decode prog_7_method_19_code 30 = .ok (.getfield 47, 3) := by decide +kernel
theorem d_Model_endOf_33 : decode prog_7_method_19_code 33 = .ok (.iload_n 2, 1) := by decide +kernel
theorem d_Model_endOf_34 : decode prog_7_method_19_code 34 = .ok (.iaload, 1) := by decide +kernel
theorem d_Model_endOf_35 : decode prog_7_method_19_code 35 = .ok (.iconst (-1), 1) := by decide +kernel
theorem d_Model_endOf_36 : decode prog_7_method_19_code 36 = .ok (.if_icmp .ne 9, 3) := by decide +kernel
theorem d_Model_endOf_39 : decode prog_7_method_19_code 39 = .ok (.iinc 2 1, 3) := by decide +kernel
theorem d_Model_endOf_42 : decode prog_7_method_19_code 42 = .ok (.goto (-21), 3) := by decide +kernel
theorem d_Model_endOf_45 : decode prog_7_method_19_code 45 = .ok (.iload_n 2, 1) := by decide +kernel
theorem d_Model_endOf_46 : decode prog_7_method_19_code 46 = .ok (.ireturn, 1) := by decide +kernel
theorem d_Model_part_0 : decode prog_7_method_20_code 0 = .ok (.aload_n 0, 1) := by decide +kernel
theorem d_Model_part_1 : decode prog_7_method_20_code 1 = .ok (.iload_n 1, 1) := by decide +kernel
theorem d_Model_part_2 : decode prog_7_method_20_code 2 = .ok (.ifCond .lt 12, 3) := by decide +kernel
theorem d_Model_part_5 : decode prog_7_method_20_code 5 = .ok (.iload_n 2, 1) := by decide +kernel
theorem d_Model_part_6 : decode prog_7_method_20_code 6 = .ok (.iconst 0, 1) := by decide +kernel
theorem d_Model_part_7 : decode prog_7_method_20_code 7 = .ok (.iconst 2, 1) := by decide +kernel
theorem d_Model_part_8 : decode prog_7_method_20_code 8 = .ok (.invokestatic 63, 3) := by decide +kernel
theorem d_Model_part_11 : decode prog_7_method_20_code 11 = .ok (.ifCond .ne 7, 3) := by decide +kernel
theorem d_Model_part_14 : decode prog_7_method_20_code 14 = .ok (.iconst 1, 1) := by decide +kernel
theorem d_Model_part_15 : decode prog_7_method_20_code 15 = .ok (.goto 4, 3) := by decide +kernel
theorem d_Model_part_18 : decode prog_7_method_20_code 18 = .ok (.iconst 0, 1) := by decide +kernel
theorem d_Model_part_19 : decode prog_7_method_20_code 19 = .ok (.iconst 0, 1) := by decide +kernel
theorem d_Model_part_20 : decode prog_7_method_20_code 20 = .ok (.invokevirtual 68, 3) := by decide +kernel
theorem d_Model_part_23 : decode prog_7_method_20_code 23 = .ok (.ifCond .eq 5, 3) := by decide +kernel
theorem d_Model_part_26 : decode prog_7_method_20_code 26 = .ok (.iconst 0, 1) := by decide +kernel
theorem d_Model_part_27 : decode prog_7_method_20_code 27 = .ok (.ireturn, 1) := by decide +kernel
theorem d_Model_part_28 : decode prog_7_method_20_code 28 = .ok (.aload_n 0, 1) := by decide +kernel
theorem d_Model_part_29 : decode prog_7_method_20_code 29 = .ok (.invokevirtual 111, 3) := by decide +kernel
theorem d_Model_part_32 : decode prog_7_method_20_code 32 = .ok (.aload_n 0, 1) := by decide +kernel
theorem d_Model_part_33 : decode prog_7_method_20_code 33 = .ok (.getfield 97, 3) := by decide +kernel
theorem d_Model_part_36 : decode prog_7_method_20_code 36 = .ok (.istore_n 3, 1) := by decide +kernel
theorem d_Model_part_37 : decode prog_7_method_20_code 37 = .ok (.iconst 0, 1) := by decide +kernel
theorem d_Model_part_38 : decode prog_7_method_20_code 38 = .ok (.istore 4, 2) := by decide +kernel
theorem d_Model_part_40 : decode prog_7_method_20_code 40 = .ok (.iload 4, 2) := by decide +kernel
theorem d_Model_part_42 : decode prog_7_method_20_code 42 = .ok (.iload_n 1, 1) := by decide +kernel
theorem d_Model_part_43 : decode prog_7_method_20_code 43 = .ok (.if_icmp .ge 23, 3) := by decide +kernel
theorem d_Model_part_46 : decode prog_7_method_20_code 46 = .ok (.iload_n 3, 1) := by decide +kernel
theorem d_Model_part_47 : decode prog_7_method_20_code 47 = .ok (.aload_n 0, 1) := by decide +kernel
theorem d_Model_part_48 : decode prog_7_method_20_code 48 = .ok (.getfield 72, 3) := by decide +kernel
theorem d_Model_part_51 : decode prog_7_method_20_code 51 = .ok (.if_icmp .ge 15, 3) := by decide +kernel
theorem d_Model_part_54 : decode prog_7_method_20_code 54 = .ok (.aload_n 0, 1) := by decide +kernel
theorem d_Model_part_55 : decode prog_7_method_20_code 55 = .ok (.iload_n 3, 1) := by decide +kernel
theorem d_Model_part_56 : decode prog_7_method_20_code 56 = .ok (.invokevirtual 114, 3) := by decide +kernel
theorem d_Model_part_59 : decode prog_7_method_20_code 59 = .ok (.istore_n 3, 1) := by decide +kernel
theorem d_Model_part_60 : decode prog_7_method_20_code 60 = .ok (.iinc 4 1, 3) := by decide +kernel
theorem d_Model_part_63 : decode prog_7_method_20_code 63 = .ok (.goto (-23), 3) := by decide +kernel
theorem d_Model_part_66 : decode prog_7_method_20_code 66 = .ok (.iload_n 3, 1) := by decide +kernel
theorem d_Model_part_67 : decode prog_7_method_20_code 67 = .ok (.aload_n 0, 1) := by decide +kernel
theorem d_Model_part_68 : decode prog_7_method_20_code 68 = .ok (.getfield 72, 3) := by decide +kernel
theorem d_Model_part_71 : decode prog_7_method_20_code 71 = .ok (.if_icmp .ne 6, 3) := by decide +kernel
theorem d_Model_part_74 : decode prog_7_method_20_code 74 = .ok (.bipush (-2), 2) := by decide +kernel
theorem d_Model_part_76 : decode prog_7_method_20_code 76 = .ok (.ireturn, 1) := by decide +kernel
theorem d_Model_part_77 : decode prog_7_method_20_code 77 = .ok (.iload_n 2, 1) := by decide +kernel
theorem d_Model_part_78 : decode prog_7_method_20_code 78 = .ok (.ifCond .ne 12, 3) := by decide +kernel
theorem d_Model_part_81 : decode prog_7_method_20_code 81 = .ok (.aload_n 0, 1) := by decide +kernel
theorem d_Model_part_82 : decode prog_7_method_20_code 82 = .ok (.getfield 47, 3) := by decide +kernel
theorem d_Model_part_85 : decode prog_7_method_20_code 85 = .ok (.iload_n 3, 1) := by decide +kernel
theorem d_Model_part_86 : decode prog_7_method_20_code 86 = .ok (.iaload, 1) := by decide +kernel
theorem d_Model_part_87 : decode prog_7_method_20_code 87 = .ok (.goto 19, 3) := by decide +kernel
theorem d_Model_part_90 : decode prog_7_method_20_code 90 = .ok (.iload_n 2, 1) := by decide +kernel
theorem d_Model_part_91 : decode prog_7_method_20_code 91 = .ok (.iconst 1, 1) := by decide +kernel
theorem d_Model_part_92 : decode prog_7_method_20_code 92 = .ok (.if_icmp .ne 7, 3) := by decide +kernel
theorem d_Model_part_95 : decode prog_7_method_20_code 95 = .ok (.iload_n 3, 1) := by decide +kernel
theorem d_Model_part_96 : decode prog_7_method_20_code 96 = .ok (.goto 10, 3) := by decide +kernel
theorem d_Model_part_99 : decode prog_7_method_20_code 99 = .ok (.aload_n 0, 1) := by decide +kernel
theorem d_Model_part_100 : decode prog_7_method_20_code 100 = .ok (.iload_n 3, 1) := by decide +kernel
theorem d_Model_part_101 : decode prog_7_method_20_code 101 = .ok (.invokevirtual 114, 3) := by decide +kernel
theorem d_Model_part_104 : decode prog_7_method_20_code 104 = .ok (.iload_n 3, 1) := by decide +kernel
theorem d_Model_part_105 : decode prog_7_method_20_code 105 = .ok (.isub, 1) := by decide +kernel
theorem d_Model_part_106 : decode prog_7_method_20_code 106 = .ok (.ireturn, 1) := by decide +kernel
theorem d_Model_cut_0 : decode prog_7_method_21_code 0 = .ok (.aload_n 0, 1) := by decide +kernel
theorem d_Model_cut_1 : decode prog_7_method_21_code 1 = .ok (.aload_n 0, 1) := by decide +kernel
theorem d_Model_cut_2 : decode prog_7_method_21_code 2 = .ok (.getfield 97, 3) := by decide +kernel
theorem d_Model_cut_5 : decode prog_7_method_21_code 5 = .ok (.aload_n 0, 1) := by decide +kernel
theorem d_Model_cut_6 : decode prog_7_method_21_code 6 = .ok (.getfield 72, 3) := by decide +kernel
theorem d_Model_cut_9 : decode prog_7_method_21_code 9 = .ok (.if_icmp .ne 7, 3) := by decide +kernel
theorem d_Model_cut_12 : decode prog_7_method_21_code 12 = .ok (.iconst 1, 1) := by decide +kernel
theorem d_Model_cut_13 : decode prog_7_method_21_code 13 = .ok (.goto 4, 3) := by decide +kernel
theorem d_Model_cut_16 : decode prog_7_method_21_code 16 = .ok (.iconst 0, 1) := by decide +kernel
theorem d_Model_cut_17 : decode prog_7_method_21_code 17 = .ok (.aload_n 0, 1) := by decide +kernel
theorem d_Model_cut_18 : decode prog_7_method_21_code 18 = .ok (.getfield 59, 3) := by decide +kernel
theorem d_Model_cut_21 : decode prog_7_method_21_code 21 = .ok (.bipush 100, 2) := by decide +kernel
theorem d_Model_cut_23 : decode prog_7_method_21_code 23 = .ok (.if_icmp .ne 7, 3) := by decide +kernel
theorem d_Model_cut_26 : decode prog_7_method_21_code 26 = .ok (.iconst 1, 1) := by decide +kernel
theorem d_Model_cut_27 : decode prog_7_method_21_code 27 = .ok (.goto 4, 3) := by decide +kernel
theorem d_Model_cut_30 : decode prog_7_method_21_code 30 = .ok (.iconst 0, 1) := by decide +kernel
theorem d_Model_cut_31 : decode prog_7_method_21_code 31 = .ok (.invokevirtual 68, 3) := by decide +kernel
theorem d_Model_cut_34 : decode prog_7_method_21_code 34 = .ok (.ifCond .eq 5, 3) := by decide +kernel
theorem d_Model_cut_37 : decode prog_7_method_21_code 37 = .ok (.iconst 0, 1) := by decide +kernel
theorem d_Model_cut_38 : decode prog_7_method_21_code 38 = .ok (.ireturn, 1) := by decide +kernel
theorem d_Model_cut_39 : decode prog_7_method_21_code 39 = .ok (.aload_n 0, 1) := by decide +kernel
theorem d_Model_cut_40 : decode prog_7_method_21_code 40 = .ok (.invokevirtual 111, 3) := by decide +kernel
theorem d_Model_cut_43 : decode prog_7_method_21_code 43 = .ok (.aload_n 0, 1) := by decide +kernel
theorem d_Model_cut_44 : decode prog_7_method_21_code 44 = .ok (.getfield 35, 3) := by decide +kernel
theorem d_Model_cut_47 : decode prog_7_method_21_code 47 = .ok (.aload_n 0, 1) := by decide +kernel
theorem d_Model_cut_48 : decode prog_7_method_21_code 48 = .ok (.getfield 59, 3) := by decide +kernel
theorem d_Model_cut_51 : decode prog_7_method_21_code 51 = .ok (.aload_n 0, 1) := by decide +kernel
theorem d_Model_cut_52 : decode prog_7_method_21_code 52 = .ok (.getfield 47, 3) := by decide +kernel
theorem d_Model_cut_55 : decode prog_7_method_21_code 55 = .ok (.aload_n 0, 1) := by decide +kernel
theorem d_Model_cut_56 : decode prog_7_method_21_code 56 = .ok (.getfield 97, 3) := by decide +kernel
theorem d_Model_cut_59 : decode prog_7_method_21_code 59 = .ok (.iaload, 1) := by decide +kernel
theorem d_Model_cut_60 : decode prog_7_method_21_code 60 = .ok (.iastore, 1) := by decide +kernel
theorem d_Model_cut_61 : decode prog_7_method_21_code 61 = .ok (.aload_n 0, 1) := by decide +kernel
theorem d_Model_cut_62 : decode prog_7_method_21_code 62 = .ok (.getfield 38, 3) := by decide +kernel
theorem d_Model_cut_65 : decode prog_7_method_21_code 65 = .ok (.aload_n 0, 1) := by decide +kernel
theorem d_Model_cut_66 : decode prog_7_method_21_code 66 = .ok (.getfield 59, 3) := by decide +kernel
theorem d_Model_cut_69 : decode prog_7_method_21_code 69 = .ok (.aload_n 0, 1) := by decide +kernel
theorem d_Model_cut_70 : decode prog_7_method_21_code 70 = .ok (.getfield 97, 3) := by decide +kernel
theorem d_Model_cut_73 : decode prog_7_method_21_code 73 = .ok (.iastore, 1) := by decide +kernel
theorem d_Model_cut_74 : decode prog_7_method_21_code 74 = .ok (.aload_n 0, 1) := by decide +kernel
theorem d_Model_cut_75 : decode prog_7_method_21_code 75 = .ok (.getfield 41, 3) := by decide +kernel
theorem d_Model_cut_78 : decode prog_7_method_21_code 78 = .ok (.aload_n 0, 1) := by decide +kernel
theorem d_Model_cut_79 : decode prog_7_method_21_code 79 = .ok (.getfield 59, 3) := by decide +kernel
theorem d_Model_cut_82 : decode prog_7_method_21_code 82 = .ok (.aload_n 0, 1) := by decide +kernel
theorem d_Model_cut_83 : decode prog_7_method_21_code 83 = .ok (.aload_n 0, 1) := by decide +kernel
theorem d_Model_cut_84 : decode prog_7_method_21_code 84 = .ok (.getfield 97, 3) := by decide +kernel
theorem d_Model_cut_87 : decode prog_7_method_21_code 87 = .ok (.invokevirtual 114, 3) := by decide +kernel
theorem d_Model_cut_90 : decode prog_7_method_21_code 90 = .ok (.aload_n 0, 1) := by decide +kernel
theorem d_Model_cut_91 : decode prog_7_method_21_code 91 = .ok (.getfield 97, 3) := by decide +kernel
theorem d_Model_cut_94 : decode prog_7_method_21_code 94 = .ok (.isub, 1) := by decide +kernel
theorem d_Model_cut_95 : decode prog_7_method_21_code 95 = .ok (.iastore, 1) := by decide +kernel
theorem d_Model_cut_96 : decode prog_7_method_21_code 96 = .ok (.aload_n 0, 1) := by decide +kernel
theorem d_Model_cut_97 : decode prog_7_method_21_code 97 = .ok (.aload_n 0, 1) := by decide +kernel
theorem d_Model_cut_98 : decode prog_7_method_21_code 98 = .ok (.aload_n 0, 1) := by decide +kernel
theorem d_Model_cut_99 : decode prog_7_method_21_code 99 = .ok (.getfield 97, 3) := by decide +kernel
theorem d_Model_cut_102 : decode prog_7_method_21_code 102 = .ok (.invokevirtual 114, 3) := by decide +kernel
theorem d_Model_cut_105 : decode prog_7_method_21_code 105 = .ok (.putfield 97, 3) := by decide +kernel
theorem d_Model_cut_108 : decode prog_7_method_21_code 108 = .ok (.aload_n 0, 1) := by decide +kernel
theorem d_Model_cut_109 : decode prog_7_method_21_code 109 = .ok (.dup, 1) := by decide +kernel
theorem d_Model_cut_110 : decode prog_7_method_21_code 110 = .ok (.getfield 59, 3) := by decide +kernel
theorem d_Model_cut_113 : decode prog_7_method_21_code 113 = .ok (.iconst 1, 1) := by decide +kernel
theorem d_Model_cut_114 : decode prog_7_method_21_code 114 = .ok (.iadd, 1) := by decide +kernel
theorem d_Model_cut_115 : decode prog_7_method_21_code 115 = .ok (.putfield 59, 3) := by decide +kernel
theorem d_Model_cut_118 : decode prog_7_method_21_code 118 = .ok (.aload_n 0, 1) := by decide +kernel
theorem d_Model_cut_119 : decode prog_7_method_21_code 119 = .ok (.getfield 59, 3) := by decide +kernel
theorem d_Model_cut_122 : decode prog_7_method_21_code 122 = .ok (.iconst 1, 1) := by decide +kernel
theorem d_Model_cut_123 : decode prog_7_method_21_code 123 = .ok (.isub, 1) := by decide +kernel
theorem d_Model_cut_124 : decode prog_7_method_21_code 124 = .ok (.ireturn, 1) := by decide +kernel
theorem d_Model_slab_0 : decode prog_7_method_22_code 0 = .ok (.aload_n 0, 1) := by decide +kernel
theorem d_Model_slab_1 : decode prog_7_method_22_code 1 = .ok (.iload_n 1, 1) := by decide +kernel
theorem d_Model_slab_2 : decode prog_7_method_22_code 2 = .ok (.iconst 0, 1) := by decide +kernel
theorem d_Model_slab_3 : decode prog_7_method_22_code 3 = .ok (.aload_n 0, 1) := by decide +kernel
theorem d_Model_slab_4 : decode prog_7_method_22_code 4 = .ok (.getfield 59, 3) := by decide +kernel
theorem d_Model_slab_7 : decode prog_7_method_22_code 7 = .ok (.iconst 1, 1) := by decide +kernel
theorem d_Model_slab_8 : decode prog_7_method_22_code 8 = .ok (.isub, 1) := by decide +kernel
theorem d_Model_slab_9 : decode prog_7_method_22_code 9 = .ok (.invokestatic 63, 3) := by decide +kernel
theorem d_Model_slab_12 : decode prog_7_method_22_code 12 = .ok (.ifCond .eq 12, 3) := by decide +kernel
theorem d_Model_slab_15 : decode prog_7_method_22_code 15 = .ok (.iload_n 2, 1) := by decide +kernel
theorem d_Model_slab_16 : decode prog_7_method_22_code 16 = .ok (.iconst 0, 1) := by decide +kernel
theorem d_Model_slab_17 : decode prog_7_method_22_code 17 = .ok (.iconst 2, 1) := by decide +kernel
theorem d_Model_slab_18 : decode prog_7_method_22_code 18 = .ok (.invokestatic 63, 3) := by decide +kernel
theorem d_Model_slab_21 : decode prog_7_method_22_code 21 = .ok (.ifCond .ne 7, 3) := by decide +kernel
theorem d_Model_slab_24 : decode prog_7_method_22_code 24 = .ok (.iconst 1, 1) := by decide +kernel
theorem d_Model_slab_25 : decode prog_7_method_22_code 25 = .ok (.goto 4, 3) := by decide +kernel
theorem d_Model_slab_28 : decode prog_7_method_22_code 28 = .ok (.iconst 0, 1) := by decide +kernel
theorem d_Model_slab_29 : decode prog_7_method_22_code 29 = .ok (.iconst 0, 1) := by decide +kernel
theorem d_Model_slab_30 : decode prog_7_method_22_code 30 = .ok (.invokevirtual 68, 3) := by decide +kernel
theorem d_Model_slab_33 : decode prog_7_method_22_code 33 = .ok (.ifCond .eq 5, 3) := by decide +kernel
theorem d_Model_slab_36 : decode prog_7_method_22_code 36 = .ok (.iconst 0, 1) := by decide +kernel
theorem d_Model_slab_37 : decode prog_7_method_22_code 37 = .ok (.ireturn, 1) := by decide +kernel
theorem d_Model_slab_38 : decode prog_7_method_22_code 38 = .ok (.iload_n 2, 1) := by decide +kernel
theorem d_Model_slab_39 : decode prog_7_method_22_code 39 = .ok (.ifCond .ne 12, 3) := by decide +kernel
theorem d_Model_slab_42 : decode prog_7_method_22_code 42 = .ok (.aload_n 0, 1) := by decide +kernel
theorem d_Model_slab_43 : decode prog_7_method_22_code 43 = .ok (.getfield 35, 3) := by decide +kernel
theorem d_Model_slab_46 : decode prog_7_method_22_code 46 = .ok (.iload_n 1, 1) := by decide +kernel
theorem d_Model_slab_47 : decode prog_7_method_22_code 47 = .ok (.iaload, 1) := by decide +kernel
theorem d_Model_slab_48 : decode prog_7_method_22_code 48 = .ok (.goto 23, 3) := by decide +kernel
theorem d_Model_slab_51 : decode prog_7_method_22_code 51 = .ok (.iload_n 2, 1) := by decide +kernel
theorem d_Model_slab_52 : decode prog_7_method_22_code 52 = .ok (.iconst 1, 1) := by decide +kernel
theorem d_Model_slab_53 : decode prog_7_method_22_code 53 = .ok (.if_icmp .ne 12, 3) := by decide +kernel
theorem d_Model_slab_56 : decode prog_7_method_22_code 56 = .ok (.aload_n 0, 1) := by decide +kernel
theorem d_Model_slab_57 : decode prog_7_method_22_code 57 = .ok (.getfield 38, 3) := by decide +kernel
theorem d_Model_slab_60 : decode prog_7_method_22_code 60 = .ok (.iload_n 1, 1) := by decide +kernel
theorem d_Model_slab_61 : decode prog_7_method_22_code 61 = .ok (.iaload, 1) := by decide +kernel
theorem d_Model_slab_62 : decode prog_7_method_22_code 62 = .ok (.goto 9, 3) := by decide +kernel
theorem d_Model_slab_65 : decode prog_7_method_22_code 65 = .ok (.aload_n 0, 1) := by decide +kernel
theorem d_Model_slab_66 : decode prog_7_method_22_code 66 = .ok (.getfield 41, 3) := by decide +kernel
theorem d_Model_slab_69 : decode prog_7_method_22_code 69 = .ok (.iload_n 1, 1) := by decide +kernel
theorem d_Model_slab_70 : decode prog_7_method_22_code 70 = .ok (.iaload, 1) := by decide +kernel
theorem d_Model_slab_71 : decode prog_7_method_22_code 71 = .ok (.ireturn, 1) := by decide +kernel
theorem d_Model_weight_0 : decode prog_7_method_23_code 0 = .ok (.aload_n 0, 1) := by decide +kernel
theorem d_Model_weight_1 : decode prog_7_method_23_code 1 = .ok (.iload_n 1, 1) := by decide +kernel
theorem d_Model_weight_2 : decode prog_7_method_23_code 2 = .ok (.iconst 0, 1) := by decide +kernel
theorem d_Model_weight_3 : decode prog_7_method_23_code 3 = .ok (.aload_n 0, 1) := by decide +kernel
theorem d_Model_weight_4 : decode prog_7_method_23_code 4 = .ok (.getfield 59, 3) := by decide +kernel
theorem d_Model_weight_7 : decode prog_7_method_23_code 7 = .ok (.iconst 1, 1) := by decide +kernel
theorem d_Model_weight_8 : decode prog_7_method_23_code 8 = .ok (.isub, 1) := by decide +kernel
theorem d_Model_weight_9 : decode prog_7_method_23_code 9 = .ok (.invokestatic 63, 3) := by decide +kernel
theorem d_Model_weight_12 : decode prog_7_method_23_code 12 = .ok (.ifCond .ne 7, 3) := by decide +kernel
theorem d_Model_weight_15 : decode prog_7_method_23_code 15 = .ok (.iconst 1, 1) := by decide +kernel
theorem d_Model_weight_16 : decode prog_7_method_23_code 16 = .ok (.goto 4, 3) := by decide +kernel
theorem d_Model_weight_19 : decode prog_7_method_23_code 19 = .ok (.iconst 0, 1) := by decide +kernel
theorem d_Model_weight_20 : decode prog_7_method_23_code 20 = .ok (.iconst 0, 1) := by decide +kernel
theorem d_Model_weight_21 : decode prog_7_method_23_code 21 = .ok (.invokevirtual 68, 3) := by decide +kernel
theorem d_Model_weight_24 : decode prog_7_method_23_code 24 = .ok (.ifCond .eq 5, 3) := by decide +kernel
theorem d_Model_weight_27 : decode prog_7_method_23_code 27 = .ok (.lconst 0, 1) := by decide +kernel
theorem d_Model_weight_28 : decode prog_7_method_23_code 28 = .ok (.lreturn, 1) := by decide +kernel
theorem d_Model_weight_29 : decode prog_7_method_23_code 29 = .ok (.aload_n 0, 1) := by decide +kernel
theorem d_Model_weight_30 : decode prog_7_method_23_code 30 = .ok (.getfield 41, 3) := by decide +kernel
theorem d_Model_weight_33 : decode prog_7_method_23_code 33 = .ok (.iload_n 1, 1) := by decide +kernel
theorem d_Model_weight_34 : decode prog_7_method_23_code 34 = .ok (.iaload, 1) := by decide +kernel
theorem d_Model_weight_35 : decode prog_7_method_23_code 35 = .ok (.i2l, 1) := by decide +kernel
theorem d_Model_weight_36 : decode prog_7_method_23_code 36 = .ok (.aload_n 0, 1) := by decide +kernel
theorem d_Model_weight_37 : decode prog_7_method_23_code 37 = .ok (.getfield 7, 3) := by decide +kernel
theorem d_Model_weight_40 : decode prog_7_method_23_code 40 = .ok (.i2l, 1) := by decide +kernel
theorem d_Model_weight_41 : decode prog_7_method_23_code 41 = .ok (.lmul, 1) := by decide +kernel
theorem d_Model_weight_42 : decode prog_7_method_23_code 42 = .ok (.aload_n 0, 1) := by decide +kernel
theorem d_Model_weight_43 : decode prog_7_method_23_code 43 = .ok (.getfield 13, 3) := by decide +kernel
theorem d_Model_weight_46 : decode prog_7_method_23_code 46 = .ok (.i2l, 1) := by decide +kernel
theorem d_Model_weight_47 : decode prog_7_method_23_code 47 = .ok (.lmul, 1) := by decide +kernel
theorem d_Model_weight_48 : decode prog_7_method_23_code 48 = .ok (.ldc2_w 118, 3) := by decide +kernel
theorem d_Model_weight_51 : decode prog_7_method_23_code 51 = .ok (.ldiv, 1) := by decide +kernel
theorem d_Model_weight_52 : decode prog_7_method_23_code 52 = .ok (.lreturn, 1) := by decide +kernel
theorem d_Model_count_0 : decode prog_7_method_24_code 0 = .ok (.aload_n 0, 1) := by decide +kernel
theorem d_Model_count_1 : decode prog_7_method_24_code 1 = .ok (.iload_n 1, 1) := by decide +kernel
theorem d_Model_count_2 : decode prog_7_method_24_code 2 = .ok (.iconst (-1), 1) := by decide +kernel
theorem d_Model_count_3 : decode prog_7_method_24_code 3 = .ok (.aload_n 0, 1) := by decide +kernel
theorem d_Model_count_4 : decode prog_7_method_24_code 4 = .ok (.getfield 75, 3) := by decide +kernel
theorem d_Model_count_7 : decode prog_7_method_24_code 7 = .ok (.iconst 1, 1) := by decide +kernel
theorem d_Model_count_8 : decode prog_7_method_24_code 8 = .ok (.isub, 1) := by decide +kernel
theorem d_Model_count_9 : decode prog_7_method_24_code 9 = .ok (.invokestatic 63, 3) := by decide +kernel
theorem d_Model_count_12 : decode prog_7_method_24_code 12 = .ok (.ifCond .ne 7, 3) := by decide +kernel
theorem d_Model_count_15 : decode prog_7_method_24_code 15 = .ok (.iconst 1, 1) := by decide +kernel
theorem d_Model_count_16 : decode prog_7_method_24_code 16 = .ok (.goto 4, 3) := by decide +kernel
theorem d_Model_count_19 : decode prog_7_method_24_code 19 = .ok (.iconst 0, 1) := by decide +kernel
theorem d_Model_count_20 : decode prog_7_method_24_code 20 = .ok (.iconst 0, 1) := by decide +kernel
theorem d_Model_count_21 : decode prog_7_method_24_code 21 = .ok (.invokevirtual 68, 3) := by decide +kernel
theorem d_Model_count_24 : decode prog_7_method_24_code 24 = .ok (.ifCond .eq 5, 3) := by decide +kernel
theorem d_Model_count_27 : decode prog_7_method_24_code 27 = .ok (.iconst 0, 1) := by decide +kernel
theorem d_Model_count_28 : decode prog_7_method_24_code 28 = .ok (.ireturn, 1) := by decide +kernel
theorem d_Model_count_29 : decode prog_7_method_24_code 29 = .ok (.iconst 0, 1) := by decide +kernel
theorem d_Model_count_30 : decode prog_7_method_24_code 30 = .ok (.istore_n 2, 1) := by decide +kernel
theorem d_Model_count_31 : decode prog_7_method_24_code 31 = .ok (.iconst 0, 1) := by decide +kernel
theorem d_Model_count_32 : decode prog_7_method_24_code 32 = .ok (.istore_n 3, 1) := by decide +kernel
theorem d_Model_count_33 : decode prog_7_method_24_code 33 = .ok (.iload_n 3, 1) := by decide +kernel
theorem d_Model_count_34 : decode prog_7_method_24_code 34 = .ok (.aload_n 0, 1) := by decide +kernel
theorem d_Model_count_35 : decode prog_7_method_24_code 35 = .ok (.getfield 59, 3) := by decide +kernel
theorem d_Model_count_38 : decode prog_7_method_24_code 38 = .ok (.if_icmp .ge 27, 3) := by decide +kernel
theorem d_Model_count_41 : decode prog_7_method_24_code 41 = .ok (.iload_n 2, 1) := by decide +kernel
theorem d_Model_count_42 : decode prog_7_method_24_code 42 = .ok (.aload_n 0, 1) := by decide +kernel
theorem d_Model_count_43 : decode prog_7_method_24_code 43 = .ok (.getfield 35, 3) := by decide +kernel
theorem d_Model_count_46 : decode prog_7_method_24_code 46 = .ok (.iload_n 3, 1) := by decide +kernel
theorem d_Model_count_47 : decode prog_7_method_24_code 47 = .ok (.iaload, 1) := by decide +kernel
theorem d_Model_count_48 : decode prog_7_method_24_code 48 = .ok (.iload_n 1, 1) := by decide +kernel
theorem d_Model_count_49 : decode prog_7_method_24_code 49 = .ok (.if_icmp .ne 7, 3) := by decide +kernel
theorem d_Model_count_52 : decode prog_7_method_24_code 52 = .ok (.iconst 1, 1) := by decide +kernel
theorem d_Model_count_53 : decode prog_7_method_24_code 53 = .ok (.goto 4, 3) := by decide +kernel
theorem d_Model_count_56 : decode prog_7_method_24_code 56 = .ok (.iconst 0, 1) := by decide +kernel
theorem d_Model_count_57 : decode prog_7_method_24_code 57 = .ok (.iadd, 1) := by decide +kernel
theorem d_Model_count_58 : decode prog_7_method_24_code 58 = .ok (.istore_n 2, 1) := by decide +kernel
theorem d_Model_count_59 : decode prog_7_method_24_code 59 = .ok (.iinc 3 1, 3) := by decide +kernel
theorem d_Model_count_62 : decode prog_7_method_24_code 62 = .ok (.goto (-29), 3) := by decide +kernel
theorem d_Model_count_65 : decode prog_7_method_24_code 65 = .ok (.iload_n 2, 1) := by decide +kernel
theorem d_Model_count_66 : decode prog_7_method_24_code 66 = .ok (.ireturn, 1) := by decide +kernel
theorem d_Model_torch_0 : decode prog_7_method_25_code 0 = .ok (.aload_n 0, 1) := by decide +kernel
theorem d_Model_torch_1 : decode prog_7_method_25_code 1 = .ok (.iconst 0, 1) := by decide +kernel
theorem d_Model_torch_2 : decode prog_7_method_25_code 2 = .ok (.putfield 56, 3) := by decide +kernel
theorem d_Model_torch_5 : decode prog_7_method_25_code 5 = .ok (.aload_n 0, 1) := by decide +kernel
theorem d_Model_torch_6 : decode prog_7_method_25_code 6 = .ok (.getfield 97, 3) := by decide +kernel
theorem d_Model_torch_9 : decode prog_7_method_25_code 9 = .ok (.ireturn, 1) := by decide +kernel
end
section
/-! decode rows (written by wip/whole/mk_names.py) -/
theorem d_Law_step_0 : decode method_3_code 0 = .ok (.aload_n 0, 1) := by decide +kernel
theorem d_Law_step_1 : decode method_3_code 1 = .ok (.iload_n 1, 1) := by decide +kernel
theorem d_Law_step_2 : decode method_3_code 2 = .ok (.iload_n 2, 1) := by decide +kernel
theorem d_Law_step_3 : decode method_3_code 3 = .ok (.invokevirtual 7, 3) := by decide +kernel
theorem d_Law_step_6 : decode method_3_code 6 = .ok (.goto 9, 3) := by decide +kernel
theorem d_Law_step_9 : decode method_3_code 9 = .ok (.astore_n 3, 1) := by decide +kernel
theorem d_Law_step_10 : decode method_3_code 10 = .ok (.iconst 1, 1) := by decide +kernel
theorem d_Law_step_11 : decode method_3_code 11 = .ok (.ireturn, 1) := by decide +kernel
theorem d_Law_step_12 : decode method_3_code 12 = .ok (.astore_n 3, 1) := by decide +kernel
theorem d_Law_step_13 : decode method_3_code 13 = .ok (.iconst 2, 1) := by decide +kernel
theorem d_Law_step_14 : decode method_3_code 14 = .ok (.ireturn, 1) := by decide +kernel
theorem d_Law_step_15 : decode method_3_code 15 = .ok (.iconst 0, 1) := by decide +kernel
theorem d_Law_step_16 : decode method_3_code 16 = .ok (.ireturn, 1) := by decide +kernel
theorem d_Law_cast_0 : decode method_4_code 0 = .ok (.aload_n 2, 1) := by decide +kernel
theorem d_Law_cast_1 : decode method_4_code 1 = .ok (.iconst 0, 1) := by decide +kernel
theorem d_Law_cast_2 : decode method_4_code 2 = .ok (.aload_n 0, 1) := by decide +kernel
theorem d_Law_cast_3 : decode method_4_code 3 = .ok (.iload_n 1, 1) := by decide +kernel
theorem d_Law_cast_4 : decode method_4_code 4 = .ok (.invokevirtual 17, 3) := by decide +kernel
theorem d_Law_cast_7 : decode method_4_code 7 = .ok (.i2l, 1) := by decide +kernel
theorem d_Law_cast_8 : decode method_4_code 8 = .ok (.lastore, 1) := by decide +kernel
theorem d_Law_cast_9 : decode method_4_code 9 = .ok (.goto 9, 3) := by decide +kernel
theorem d_Law_cast_12 : decode method_4_code 12 = .ok (.astore_n 3, 1) := by decide +kernel
theorem d_Law_cast_13 : decode method_4_code 13 = .ok (.iconst 1, 1) := by decide +kernel
theorem d_Law_cast_14 : decode method_4_code 14 = .ok (.ireturn, 1) := by decide +kernel
theorem d_Law_cast_15 : decode method_4_code 15 = .ok (.astore_n 3, 1) := by decide +kernel
theorem d_Law_cast_16 : decode method_4_code 16 = .ok (.iconst 2, 1) := by decide +kernel
theorem d_Law_cast_17 : decode method_4_code 17 = .ok (.ireturn, 1) := by decide +kernel
theorem d_Law_cast_18 : decode method_4_code 18 = .ok (.iconst 0, 1) := by decide +kernel
theorem d_Law_cast_19 : decode method_4_code 19 = .ok (.ireturn, 1) := by decide +kernel
theorem d_Law_want_0 : decode method_5_code 0 = .ok (.aload_n 3, 1) := by decide +kernel
theorem d_Law_want_1 : decode method_5_code 1 = .ok (.iconst 0, 1) := by decide +kernel
theorem d_Law_want_2 : decode method_5_code 2 = .ok (.aload_n 0, 1) := by decide +kernel
theorem d_Law_want_3 : decode method_5_code 3 = .ok (.iload_n 1, 1) := by decide +kernel
theorem d_Law_want_4 : decode method_5_code 4 = .ok (.iload_n 2, 1) := by decide +kernel
theorem d_Law_want_5 : decode method_5_code 5 = .ok (.invokevirtual 23, 3) := by decide +kernel
theorem d_Law_want_8 : decode method_5_code 8 = .ok (.i2l, 1) := by decide +kernel
theorem d_Law_want_9 : decode method_5_code 9 = .ok (.lastore, 1) := by decide +kernel
theorem d_Law_want_10 : decode method_5_code 10 = .ok (.goto 11, 3) := by decide +kernel
theorem d_Law_want_13 : decode method_5_code 13 = .ok (.astore 4, 2) := by decide +kernel
theorem d_Law_want_15 : decode method_5_code 15 = .ok (.iconst 1, 1) := by decide +kernel
theorem d_Law_want_16 : decode method_5_code 16 = .ok (.ireturn, 1) := by decide +kernel
theorem d_Law_want_17 : decode method_5_code 17 = .ok (.astore 4, 2) := by decide +kernel
theorem d_Law_want_19 : decode method_5_code 19 = .ok (.iconst 2, 1) := by decide +kernel
theorem d_Law_want_20 : decode method_5_code 20 = .ok (.ireturn, 1) := by decide +kernel
theorem d_Law_want_21 : decode method_5_code 21 = .ok (.iconst 0, 1) := by decide +kernel
theorem d_Law_want_22 : decode method_5_code 22 = .ok (.ireturn, 1) := by decide +kernel
theorem d_Law_span_0 : decode method_6_code 0 = .ok (.aload_n 0, 1) := by decide +kernel
theorem d_Law_span_1 : decode method_6_code 1 = .ok (.iload_n 1, 1) := by decide +kernel
theorem d_Law_span_2 : decode method_6_code 2 = .ok (.iload_n 2, 1) := by decide +kernel
theorem d_Law_span_3 : decode method_6_code 3 = .ok (.iload_n 3, 1) := by decide +kernel
theorem d_Law_span_4 : decode method_6_code 4 = .ok (.invokevirtual 27, 3) := by decide +kernel
theorem d_Law_span_7 : decode method_6_code 7 = .ok (.goto 11, 3) := by decide +kernel
theorem d_Law_span_10 : decode method_6_code 10 = .ok (.astore 4, 2) := by decide +kernel
theorem d_Law_span_12 : decode method_6_code 12 = .ok (.iconst 1, 1) := by decide +kernel
theorem d_Law_span_13 : decode method_6_code 13 = .ok (.ireturn, 1) := by decide +kernel
theorem d_Law_span_14 : decode method_6_code 14 = .ok (.astore 4, 2) := by decide +kernel
theorem d_Law_span_16 : decode method_6_code 16 = .ok (.iconst 2, 1) := by decide +kernel
theorem d_Law_span_17 : decode method_6_code 17 = .ok (.ireturn, 1) := by decide +kernel
theorem d_Law_span_18 : decode method_6_code 18 = .ok (.iconst 0, 1) := by decide +kernel
theorem d_Law_span_19 : decode method_6_code 19 = .ok (.ireturn, 1) := by decide +kernel
theorem d_Law_trim_0 : decode method_7_code 0 = .ok (.aload_n 0, 1) := by decide +kernel
theorem d_Law_trim_1 : decode method_7_code 1 = .ok (.iload_n 1, 1) := by decide +kernel
theorem d_Law_trim_2 : decode method_7_code 2 = .ok (.iload_n 2, 1) := by decide +kernel
theorem d_Law_trim_3 : decode method_7_code 3 = .ok (.invokevirtual 33, 3) := by decide +kernel
theorem d_Law_trim_6 : decode method_7_code 6 = .ok (.goto 6, 3) := by decide +kernel
theorem d_Law_trim_9 : decode method_7_code 9 = .ok (.astore_n 3, 1) := by decide +kernel
theorem d_Law_trim_10 : decode method_7_code 10 = .ok (.iconst 1, 1) := by decide +kernel
theorem d_Law_trim_11 : decode method_7_code 11 = .ok (.ireturn, 1) := by decide +kernel
theorem d_Law_trim_12 : decode method_7_code 12 = .ok (.iconst 0, 1) := by decide +kernel
theorem d_Law_trim_13 : decode method_7_code 13 = .ok (.ireturn, 1) := by decide +kernel
theorem d_Law_bad_0 : decode method_8_code 0 = .ok (.aload_n 3, 1) := by decide +kernel
theorem d_Law_bad_1 : decode method_8_code 1 = .ok (.iconst 0, 1) := by decide +kernel
theorem d_Law_bad_2 : decode method_8_code 2 = .ok (.aload_n 0, 1) := by decide +kernel
theorem d_Law_bad_3 : decode method_8_code 3 = .ok (.iload_n 1, 1) := by decide +kernel
theorem d_Law_bad_4 : decode method_8_code 4 = .ok (.iload_n 2, 1) := by decide +kernel
theorem d_Law_bad_5 : decode method_8_code 5 = .ok (.invokevirtual 36, 3) := by decide +kernel
theorem d_Law_bad_8 : decode method_8_code 8 = .ok (.i2l, 1) := by decide +kernel
theorem d_Law_bad_9 : decode method_8_code 9 = .ok (.lastore, 1) := by decide +kernel
theorem d_Law_bad_10 : decode method_8_code 10 = .ok (.goto 11, 3) := by decide +kernel
theorem d_Law_bad_13 : decode method_8_code 13 = .ok (.astore 4, 2) := by decide +kernel
theorem d_Law_bad_15 : decode method_8_code 15 = .ok (.iconst 1, 1) := by decide +kernel
theorem d_Law_bad_16 : decode method_8_code 16 = .ok (.ireturn, 1) := by decide +kernel
theorem d_Law_bad_17 : decode method_8_code 17 = .ok (.astore 4, 2) := by decide +kernel
theorem d_Law_bad_19 : decode method_8_code 19 = .ok (.iconst 2, 1) := by decide +kernel
theorem d_Law_bad_20 : decode method_8_code 20 = .ok (.ireturn, 1) := by decide +kernel
theorem d_Law_bad_21 : decode method_8_code 21 = .ok (.iconst 0, 1) := by decide +kernel
theorem d_Law_bad_22 : decode method_8_code 22 = .ok (.ireturn, 1) := by decide +kernel
theorem d_Law_bar_0 : decode method_9_code 0 = .ok (.aload_n 3, 1) := by decide +kernel
theorem d_Law_bar_1 : decode method_9_code 1 = .ok (.iconst 0, 1) := by decide +kernel
theorem d_Law_bar_2 : decode method_9_code 2 = .ok (.aload_n 0, 1) := by decide +kernel
theorem d_Law_bar_3 : decode method_9_code 3 = .ok (.iload_n 1, 1) := by decide +kernel
theorem d_Law_bar_4 : decode method_9_code 4 = .ok (.iload_n 2, 1) := by decide +kernel
theorem d_Law_bar_5 : decode method_9_code 5 = .ok (.invokevirtual 39, 3) := by decide +kernel
theorem d_Law_bar_8 : decode method_9_code 8 = .ok (.i2l, 1) := by decide +kernel
theorem d_Law_bar_9 : decode method_9_code 9 = .ok (.lastore, 1) := by decide +kernel
theorem d_Law_bar_10 : decode method_9_code 10 = .ok (.goto 11, 3) := by decide +kernel
theorem d_Law_bar_13 : decode method_9_code 13 = .ok (.astore 4, 2) := by decide +kernel
theorem d_Law_bar_15 : decode method_9_code 15 = .ok (.iconst 1, 1) := by decide +kernel
theorem d_Law_bar_16 : decode method_9_code 16 = .ok (.ireturn, 1) := by decide +kernel
theorem d_Law_bar_17 : decode method_9_code 17 = .ok (.astore 4, 2) := by decide +kernel
theorem d_Law_bar_19 : decode method_9_code 19 = .ok (.iconst 2, 1) := by decide +kernel
theorem d_Law_bar_20 : decode method_9_code 20 = .ok (.ireturn, 1) := by decide +kernel
theorem d_Law_bar_21 : decode method_9_code 21 = .ok (.iconst 0, 1) := by decide +kernel
theorem d_Law_bar_22 : decode method_9_code 22 = .ok (.ireturn, 1) := by decide +kernel
theorem d_Law_part_0 : decode method_10_code 0 = .ok (.aload_n 3, 1) := by decide +kernel
theorem d_Law_part_1 : decode method_10_code 1 = .ok (.iconst 0, 1) := by decide +kernel
theorem d_Law_part_2 : decode method_10_code 2 = .ok (.aload_n 0, 1) := by decide +kernel
theorem d_Law_part_3 : decode method_10_code 3 = .ok (.iload_n 1, 1) := by decide +kernel
theorem d_Law_part_4 : decode method_10_code 4 = .ok (.iload_n 2, 1) := by decide +kernel
theorem d_Law_part_5 : decode method_10_code 5 = .ok (.invokevirtual 42, 3) := by decide +kernel
theorem d_Law_part_8 : decode method_10_code 8 = .ok (.i2l, 1) := by decide +kernel
theorem d_Law_part_9 : decode method_10_code 9 = .ok (.lastore, 1) := by decide +kernel
theorem d_Law_part_10 : decode method_10_code 10 = .ok (.goto 7, 3) := by decide +kernel
theorem d_Law_part_13 : decode method_10_code 13 = .ok (.astore 4, 2) := by decide +kernel
theorem d_Law_part_15 : decode method_10_code 15 = .ok (.iconst 1, 1) := by decide +kernel
theorem d_Law_part_16 : decode method_10_code 16 = .ok (.ireturn, 1) := by decide +kernel
theorem d_Law_part_17 : decode method_10_code 17 = .ok (.iconst 0, 1) := by decide +kernel
theorem d_Law_part_18 : decode method_10_code 18 = .ok (.ireturn, 1) := by decide +kernel
theorem d_Law_cut_0 : decode method_11_code 0 = .ok (.aload_n 1, 1) := by decide +kernel
theorem d_Law_cut_1 : decode method_11_code 1 = .ok (.iconst 0, 1) := by decide +kernel
theorem d_Law_cut_2 : decode method_11_code 2 = .ok (.aload_n 0, 1) := by decide +kernel
theorem d_Law_cut_3 : decode method_11_code 3 = .ok (.invokevirtual 45, 3) := by decide +kernel
theorem d_Law_cut_6 : decode method_11_code 6 = .ok (.i2l, 1) := by decide +kernel
theorem d_Law_cut_7 : decode method_11_code 7 = .ok (.lastore, 1) := by decide +kernel
theorem d_Law_cut_8 : decode method_11_code 8 = .ok (.goto 9, 3) := by decide +kernel
theorem d_Law_cut_11 : decode method_11_code 11 = .ok (.astore_n 2, 1) := by decide +kernel
theorem d_Law_cut_12 : decode method_11_code 12 = .ok (.iconst 1, 1) := by decide +kernel
theorem d_Law_cut_13 : decode method_11_code 13 = .ok (.ireturn, 1) := by decide +kernel
theorem d_Law_cut_14 : decode method_11_code 14 = .ok (.astore_n 2, 1) := by decide +kernel
theorem d_Law_cut_15 : decode method_11_code 15 = .ok (.iconst 2, 1) := by decide +kernel
theorem d_Law_cut_16 : decode method_11_code 16 = .ok (.ireturn, 1) := by decide +kernel
theorem d_Law_cut_17 : decode method_11_code 17 = .ok (.iconst 0, 1) := by decide +kernel
theorem d_Law_cut_18 : decode method_11_code 18 = .ok (.ireturn, 1) := by decide +kernel
theorem d_Law_slab_0 : decode method_12_code 0 = .ok (.aload_n 3, 1) := by decide +kernel
theorem d_Law_slab_1 : decode method_12_code 1 = .ok (.iconst 0, 1) := by decide +kernel
theorem d_Law_slab_2 : decode method_12_code 2 = .ok (.aload_n 0, 1) := by decide +kernel
theorem d_Law_slab_3 : decode method_12_code 3 = .ok (.iload_n 1, 1) := by decide +kernel
theorem d_Law_slab_4 : decode method_12_code 4 = .ok (.iload_n 2, 1) := by decide +kernel
theorem d_Law_slab_5 : decode method_12_code 5 = .ok (.invokevirtual 49, 3) := by decide +kernel
theorem d_Law_slab_8 : decode method_12_code 8 = .ok (.i2l, 1) := by decide +kernel
theorem d_Law_slab_9 : decode method_12_code 9 = .ok (.lastore, 1) := by decide +kernel
theorem d_Law_slab_10 : decode method_12_code 10 = .ok (.goto 7, 3) := by decide +kernel
theorem d_Law_slab_13 : decode method_12_code 13 = .ok (.astore 4, 2) := by decide +kernel
theorem d_Law_slab_15 : decode method_12_code 15 = .ok (.iconst 1, 1) := by decide +kernel
theorem d_Law_slab_16 : decode method_12_code 16 = .ok (.ireturn, 1) := by decide +kernel
theorem d_Law_slab_17 : decode method_12_code 17 = .ok (.iconst 0, 1) := by decide +kernel
theorem d_Law_slab_18 : decode method_12_code 18 = .ok (.ireturn, 1) := by decide +kernel
theorem d_Law_weight_0 : decode method_13_code 0 = .ok (.aload_n 2, 1) := by decide +kernel
theorem d_Law_weight_1 : decode method_13_code 1 = .ok (.iconst 0, 1) := by decide +kernel
theorem d_Law_weight_2 : decode method_13_code 2 = .ok (.aload_n 0, 1) := by decide +kernel
theorem d_Law_weight_3 : decode method_13_code 3 = .ok (.iload_n 1, 1) := by decide +kernel
theorem d_Law_weight_4 : decode method_13_code 4 = .ok (.invokevirtual 52, 3) := by decide +kernel
theorem d_Law_weight_7 : decode method_13_code 7 = .ok (.lastore, 1) := by decide +kernel
theorem d_Law_weight_8 : decode method_13_code 8 = .ok (.goto 6, 3) := by decide +kernel
theorem d_Law_weight_11 : decode method_13_code 11 = .ok (.astore_n 3, 1) := by decide +kernel
theorem d_Law_weight_12 : decode method_13_code 12 = .ok (.iconst 1, 1) := by decide +kernel
theorem d_Law_weight_13 : decode method_13_code 13 = .ok (.ireturn, 1) := by decide +kernel
theorem d_Law_weight_14 : decode method_13_code 14 = .ok (.iconst 0, 1) := by decide +kernel
theorem d_Law_weight_15 : decode method_13_code 15 = .ok (.ireturn, 1) := by decide +kernel
theorem d_Law_count_0 : decode method_14_code 0 = .ok (.aload_n 2, 1) := by decide +kernel
theorem d_Law_count_1 : decode method_14_code 1 = .ok (.iconst 0, 1) := by decide +kernel
theorem d_Law_count_2 : decode method_14_code 2 = .ok (.aload_n 0, 1) := by decide +kernel
theorem d_Law_count_3 : decode method_14_code 3 = .ok (.iload_n 1, 1) := by decide +kernel
theorem d_Law_count_4 : decode method_14_code 4 = .ok (.invokevirtual 56, 3) := by decide +kernel
theorem d_Law_count_7 : decode method_14_code 7 = .ok (.i2l, 1) := by decide +kernel
theorem d_Law_count_8 : decode method_14_code 8 = .ok (.lastore, 1) := by decide +kernel
theorem d_Law_count_9 : decode method_14_code 9 = .ok (.goto 6, 3) := by decide +kernel
theorem d_Law_count_12 : decode method_14_code 12 = .ok (.astore_n 3, 1) := by decide +kernel
theorem d_Law_count_13 : decode method_14_code 13 = .ok (.iconst 1, 1) := by decide +kernel
theorem d_Law_count_14 : decode method_14_code 14 = .ok (.ireturn, 1) := by decide +kernel
theorem d_Law_count_15 : decode method_14_code 15 = .ok (.iconst 0, 1) := by decide +kernel
theorem d_Law_count_16 : decode method_14_code 16 = .ok (.ireturn, 1) := by decide +kernel
end
section
/-! ROWS OF OUR OWN over the kit: numbers as Int, arrays of Nat, calls that only read -/
theorem zz_lt {x y : Int32} {a b : Int} (hx : x.toInt = a) (hy : y.toInt = b) : x < y ↔ a < b := by rw [Int32.lt_iff_toInt_lt, hx, hy]
theorem zz_le {x y : Int32} {a b : Int} (hx : x.toInt = a) (hy : y.toInt = b) : x ≤ y ↔ a ≤ b := by rw [Int32.le_iff_toInt_le, hx, hy]
theorem zz_eq {x y : Int32} {a b : Int} (hx : x.toInt = a) (hy : y.toInt = b) : x = y ↔ a = b := by rw [← Int32.toInt_inj, hx, hy]
theorem zz_inc (k : Nat) : nI k + Int32.ofInt 1 = nI (k + 1) := nI_1 k
theorem zz_dec (x : Int32) : x + Int32.ofInt (-1) = x - 1 := by
  rw [Int32.sub_eq_add_neg]
  rfl
theorem zz_pred {k : Nat} (h : 0 < k) : nI k - 1 = nI (k - 1) := by
  obtain ⟨j, rfl⟩ : ∃ j, k = j + 1 := ⟨k - 1, by omega⟩
  exact nI_pred j
theorem zz_zero {k : Nat} (h : k < 2 ^ 31) : nI k = 0 ↔ k = 0 := by
  have h0 : (0 : Int32) = nI 0 := rfl
  rw [h0, nI_eq h (by decide)]
theorem zz_min {x y : Nat} (hx : x < 2 ^ 31) (hy : y < 2 ^ 31) : (if nI y < nI x then nI y else nI x) = nI (min x y) := by
  by_cases h : y < x
  · rw [if_pos ((nI_ltI hy hx).mpr h), Nat.min_eq_right (Nat.le_of_lt h)]
  · rw [if_neg (fun q => h ((nI_ltI hy hx).mp q)), Nat.min_eq_left (by omega)]
theorem zz_upd (f : Nat → Nat) (i x : Nat) : upd (fun j => nI (f j)) i (nI x) = fun j => nI (va_up f i x j) := by
  funext j
  unfold upd va_up
  split <;> rfl
theorem zz_updR (f : Nat → Int32) (i : Nat) (x : Int32) : upd f i x = va_up f i x := by
  funext j
  unfold upd va_up
  rfl
section ZK
variable {p : Program} {l : Launch} {e : Env} {R : Room} {s : State} {m : MethodId} {args : Array Value} {below : List Frame} {meth : Method} {c : Code} {H : Heap} {locs : List Loc} {cells slots : Nat} {Q : State → Prop}
variable {cc : ByteArray} {pc : Nat} {ls : Array Slot} {rest st0 : List Value} {D : va_G} {cl : List vw_C} {tys : List (ClassId × FieldType)} {ws : va_W} {A : Nat → Prop} {H0 : Heap} {a : Nat}
/-- a call that only reads: its answer, the heap as it was -/
def zr (r : Int32) : Array Value → State → Outcome → State → Prop := fun _ st o t => o = .returned (some (.int r)) ∧ t.heap = st.heap
theorem zz_r {r r' : Int32} {av : Array Value} {st t : State} (h : r' = r) (ht : t.heap = st.heap) : zr r av st (.returned (some (.int r'))) t := ⟨by rw [h], ht⟩
theorem zz_ro {r : Int32} {av : Array Value} (hr : va_Run p l e R s m args below meth c H locs cells slots 0 0 (F0 m pc ls st0) rest (zr r av) (fun _ => False))
    (kk : W p l e R s m args below meth c H locs cells slots Q (F0 m (pc + 3) ls (.int r :: rest))) : W p l e R s m args below meth c H locs cells slots Q (F0 m pc ls st0) := by
  intro T hT X
  obtain ⟨v, st₀, t, T', L, h0, X', hL, e1, e2, ⟨hv, hh⟩, st⟩ := hr T hT X
  cases hv
  obtain ⟨t2, a1, b1⟩ := kk T' (by rw [e1, hh, h0]) (Stand.forget X' (fun q h => (hL q h).elim))
  exact ⟨t2, st t2 a1, b1⟩
theorem zz_top {x y : Int32} (h : x = y) (k : W p l e R s m args below meth c H locs cells slots Q (F0 m pc ls (.int y :: rest))) : W p l e R s m args below meth c H locs cells slots Q (F0 m pc ls (.int x :: rest)) := by
  rw [h]; exact k
theorem zz_topl {x y : Int64} (h : x = y) (k : W p l e R s m args below meth c H locs cells slots Q (F0 m pc ls (.long y :: rest))) : W p l e R s m args below meth c H locs cells slots Q (F0 m pc ls (.long x :: rest)) := by
  rw [h]; exact k
theorem zz_nald (hexec : p.tables.exec = Jvm.exec) (hb : c.code = cc) (hK : va_K D cl tys s) (hP : va_P D cl ws H) (q0 t0 : Nat) {cA : ClassId} {n : Nat} {f : Nat → Nat} (ha : ws[q0]? = some (a, .inl (cA, n, .inl (fun j => nI (f j))))) (ht : tys[t0]? = some (cA, .int)) {i : Nat} (hi : i < n) (hn : n < 2 ^ 31) (hdg : decode cc pc = .ok (.iaload, 1))
    (kk : W p l e R s m args below meth c H locs cells slots Q (F0 m (pc + 1) ls (.int (nI (f i)) :: rest))) : W p l e R s m args below meth c H locs cells slots Q (F0 m pc ls (.int (nI i) :: .ref a :: rest)) := by
  refine va_iald hexec hb hK hP q0 t0 ha ht (vp_in_nI hi hn) hdg ?_
  rw [nI_clamp (Nat.lt_trans hi hn)]
  exact kk
theorem zz_iald (hexec : p.tables.exec = Jvm.exec) (hb : c.code = cc) (hK : va_K D cl tys s) (hP : va_P D cl ws H) (q0 t0 : Nat) {cA : ClassId} {n : Nat} {f : Nat → Int32} (ha : ws[q0]? = some (a, .inl (cA, n, .inl f))) (ht : tys[t0]? = some (cA, .int)) {i : Nat} (hi : i < n) (hn : n < 2 ^ 31) (hdg : decode cc pc = .ok (.iaload, 1))
    (kk : W p l e R s m args below meth c H locs cells slots Q (F0 m (pc + 1) ls (.int (f i) :: rest))) : W p l e R s m args below meth c H locs cells slots Q (F0 m pc ls (.int (nI i) :: .ref a :: rest)) := by
  refine va_iald hexec hb hK hP q0 t0 ha ht (vp_in_nI hi hn) hdg ?_
  rw [nI_clamp (Nat.lt_trans hi hn)]
  exact kk
theorem zz_zald (hexec : p.tables.exec = Jvm.exec) (hb : c.code = cc) (hK : va_K D cl tys s) (hP : va_P D cl ws H) (q0 t0 : Nat) {cA : ClassId} {n : Nat} {f : Nat → Nat} (ha : ws[q0]? = some (a, .inl (cA, n, .inl (fun j => nI (f j))))) (ht : tys[t0]? = some (cA, .boolean)) {i : Nat} (hi : i < n) (hn : n < 2 ^ 31) (hdg : decode cc pc = .ok (.baload, 1))
    (kk : W p l e R s m args below meth c H locs cells slots Q (F0 m (pc + 1) ls (.int (nI (f i)) :: rest))) : W p l e R s m args below meth c H locs cells slots Q (F0 m pc ls (.int (nI i) :: .ref a :: rest)) := by
  refine va_zald hexec hb hK hP q0 t0 ha ht (vp_in_nI hi hn) hdg ?_
  rw [nI_clamp (Nat.lt_trans hi hn)]
  exact kk
theorem zz_nast (hexec : p.tables.exec = Jvm.exec) (hb : c.code = cc) (hK : va_K D cl tys s) (hP : va_P D cl ws H) (hD : va_D A ws) (hS : va_S A H0 H locs) (q0 t0 : Nat) {cA : ClassId} {n : Nat} {f : Nat → Nat} (ha : ws[q0]? = some (a, .inl (cA, n, .inl (fun j => nI (f j))))) (ht : tys[t0]? = some (cA, .int)) {i x : Nat} (hi : i < n) (hn : n < 2 ^ 31) (hdg : decode cc pc = .ok (.iastore, 1))
    (kk : ∀ (H1 : Heap) (locs1 : List Loc), va_P D cl (ws.set q0 (a, .inl (cA, n, .inl (fun j => nI (va_up f i x j))))) H1 → va_D A (ws.set q0 (a, .inl (cA, n, .inl (fun j => nI (va_up f i x j))))) → va_S A H0 H1 locs1 → W p l e R s m args below meth c H1 locs1 cells slots Q (F0 m (pc + 1) ls rest)) : W p l e R s m args below meth c H locs cells slots Q (F0 m pc ls (.int (nI x) :: .int (nI i) :: .ref a :: rest)) := by
  refine va_iast hexec hb hK hP hD hS q0 t0 ha ht (vp_in_nI hi hn) hdg (fun H1 locs1 h1 h2 h3 => ?_)
  rw [nI_clamp (Nat.lt_trans hi hn), zz_upd] at h1 h2
  exact kk H1 locs1 h1 h2 h3
theorem zz_iast (hexec : p.tables.exec = Jvm.exec) (hb : c.code = cc) (hK : va_K D cl tys s) (hP : va_P D cl ws H) (hD : va_D A ws) (hS : va_S A H0 H locs) (q0 t0 : Nat) {cA : ClassId} {n : Nat} {f : Nat → Int32} (ha : ws[q0]? = some (a, .inl (cA, n, .inl f))) (ht : tys[t0]? = some (cA, .int)) {i : Nat} {x : Int32} (hi : i < n) (hn : n < 2 ^ 31) (hdg : decode cc pc = .ok (.iastore, 1))
    (kk : ∀ (H1 : Heap) (locs1 : List Loc), va_P D cl (ws.set q0 (a, .inl (cA, n, .inl (va_up f i x)))) H1 → va_D A (ws.set q0 (a, .inl (cA, n, .inl (va_up f i x)))) → va_S A H0 H1 locs1 → W p l e R s m args below meth c H1 locs1 cells slots Q (F0 m (pc + 1) ls rest)) : W p l e R s m args below meth c H locs cells slots Q (F0 m pc ls (.int x :: .int (nI i) :: .ref a :: rest)) := by
  refine va_iast hexec hb hK hP hD hS q0 t0 ha ht (vp_in_nI hi hn) hdg (fun H1 locs1 h1 h2 h3 => ?_)
  rw [nI_clamp (Nat.lt_trans hi hn), zz_updR] at h1 h2
  exact kk H1 locs1 h1 h2 h3
theorem zz_zast (hexec : p.tables.exec = Jvm.exec) (hb : c.code = cc) (hK : va_K D cl tys s) (hP : va_P D cl ws H) (hD : va_D A ws) (hS : va_S A H0 H locs) (q0 t0 : Nat) {cA : ClassId} {n : Nat} {f : Nat → Nat} (ha : ws[q0]? = some (a, .inl (cA, n, .inl (fun j => nI (f j))))) (ht : tys[t0]? = some (cA, .boolean)) {i : Nat} (hi : i < n) (hn : n < 2 ^ 31) (hdg : decode cc pc = .ok (.bastore, 1))
    (kk : ∀ (H1 : Heap) (locs1 : List Loc), va_P D cl (ws.set q0 (a, .inl (cA, n, .inl (fun j => nI (va_up f i 1 j))))) H1 → va_D A (ws.set q0 (a, .inl (cA, n, .inl (fun j => nI (va_up f i 1 j))))) → va_S A H0 H1 locs1 → W p l e R s m args below meth c H1 locs1 cells slots Q (F0 m (pc + 1) ls rest)) : W p l e R s m args below meth c H locs cells slots Q (F0 m pc ls (.int (nI 1) :: .int (nI i) :: .ref a :: rest)) := by
  refine va_zast hexec hb hK hP hD hS q0 t0 ha ht (vp_in_nI hi hn) hdg (fun H1 locs1 h1 h2 h3 => ?_)
  rw [nI_clamp (Nat.lt_trans hi hn), show vp_nar .boolean (nI 1) = nI 1 from rfl, zz_upd] at h1 h2
  exact kk H1 locs1 h1 h2 h3
end ZK
end
section
/-! PURE: the plan, as both sides make it. Numbers are Nat; a first of -1 is scrap. -/
def zu {α : Type} (f : Nat → α) (k : Nat) (x : α) : Nat → α := fun j => cond (Nat.beq j k) x (f j)
/-- how many steps from place n - k on are good (not 0), side by side -/
def zrk (G : Nat → Nat) (n : Nat) : Nat → Nat
  | 0 => 0
  | k + 1 => if G (n - (k + 1)) = 0 then 0 else zrk G n k + 1
def zrun (G : Nat → Nat) (n p : Nat) : Nat := zrk G n (n - p)
/-- how many steps from place n - k on are not good -/
def zsk (G : Nat → Nat) (n : Nat) : Nat → Nat
  | 0 => 0
  | k + 1 => if G (n - (k + 1)) = 0 then zsk G n k + 1 else zsk G n k
def zsure (G : Nat → Nat) (n p : Nat) : Nat := zsk G n (n - p)
theorem zrun_n {G : Nat → Nat} {n : Nat} : zrun G n n = 0 := by
  unfold zrun
  rw [Nat.sub_self]
  rfl
theorem zsure_n {G : Nat → Nat} {n : Nat} : zsure G n n = 0 := by
  unfold zsure
  rw [Nat.sub_self]
  rfl
theorem zrun_s {G : Nat → Nat} {n p : Nat} (h : p < n) : zrun G n p = if G p = 0 then 0 else zrun G n (p + 1) + 1 := by
  unfold zrun
  have e : n - p = (n - (p + 1)) + 1 := by omega
  have e2 : n - (n - (p + 1) + 1) = p := by omega
  rw [e]
  show (if G (n - (n - (p + 1) + 1)) = 0 then 0 else zrk G n (n - (p + 1)) + 1) = _
  rw [e2]
theorem zsure_s {G : Nat → Nat} {n p : Nat} (h : p < n) : zsure G n p = if G p = 0 then zsure G n (p + 1) + 1 else zsure G n (p + 1) := by
  unfold zsure
  have e : n - p = (n - (p + 1)) + 1 := by omega
  have e2 : n - (n - (p + 1) + 1) = p := by omega
  rw [e]
  show (if G (n - (n - (p + 1) + 1)) = 0 then zsk G n (n - (p + 1)) + 1 else zsk G n (n - (p + 1))) = _
  rw [e2]
theorem zrk_le {G : Nat → Nat} {n : Nat} : ∀ k, zrk G n k ≤ k := by
  intro k
  induction k with
  | zero => exact Nat.le_refl 0
  | succ k ih =>
    show (if G (n - (k + 1)) = 0 then 0 else zrk G n k + 1) ≤ k + 1
    split <;> omega
theorem zrun_le {G : Nat → Nat} {n p : Nat} : zrun G n p ≤ n - p := zrk_le _
theorem zsk_le {G : Nat → Nat} {n : Nat} : ∀ k, zsk G n k ≤ k := by
  intro k
  induction k with
  | zero => exact Nat.le_refl 0
  | succ k ih =>
    show (if G (n - (k + 1)) = 0 then zsk G n k + 1 else zsk G n k) ≤ k + 1
    split <;> omega
theorem zsure_le {G : Nat → Nat} {n p : Nat} : zsure G n p ≤ n - p := zsk_le _
theorem zsure_same {G : Nat → Nat} {n : Nat} : ∀ (l p : Nat), p ≤ n → l ≤ zrun G n p → zsure G n (p + l) = zsure G n p := by
  intro l
  induction l with
  | zero => intro p _ _; rfl
  | succ l ih =>
    intro p hp h
    have h1 := zrun_le (G := G) (n := n) (p := p)
    have hlt : p < n := by omega
    rw [zrun_s hlt] at h
    by_cases hg : G p = 0
    · rw [if_pos hg] at h; omega
    · rw [if_neg hg] at h
      have e : p + (l + 1) = (p + 1) + l := by omega
      rw [e, ih (p + 1) hlt (by omega), zsure_s hlt, if_neg hg]
/-- of the candidates P at place p the best, or scrap (loss s0, steps S0): its loss a, its first F, its steps S -/
def zB (P : Nat → Nat → Prop) (L : Nat → Nat) (p s0 S0 a : Nat) (F : Int32) (S : Nat) : Prop :=
  (F = -1 ∧ S = S0 ∧ a = s0 ∧ ∀ w l, P w l → s0 < L (p + l)) ∨
  (∃ w l, w < 6 ∧ P w l ∧ F = nI w ∧ S = l ∧ a = L (p + l) ∧ a ≤ s0 ∧ (∀ w' l', P w' l' → a ≤ L (p + l')) ∧ ∀ w' l', P w' l' → (w' < w ∨ (w' = w ∧ l < l')) → a < L (p + l'))
theorem zne {w : Nat} (h : w < 6) : nI w ≠ -1 := by
  rcases (show w = 0 ∨ w = 1 ∨ w = 2 ∨ w = 3 ∨ w = 4 ∨ w = 5 by omega) with rfl | rfl | rfl | rfl | rfl | rfl <;> decide
theorem zB_congr {P P' : Nat → Nat → Prop} {L : Nat → Nat} {p s0 S0 a S : Nat} {F : Int32} (h : ∀ w l, P w l ↔ P' w l) (hb : zB P L p s0 S0 a F S) : zB P' L p s0 S0 a F S := by
  have e : P = P' := by
    funext w l
    exact propext (h w l)
  rw [← e]
  exact hb
theorem zB_le {P : Nat → Nat → Prop} {L : Nat → Nat} {p s0 S0 a S : Nat} {F : Int32} (hb : zB P L p s0 S0 a F S) : a ≤ s0 := by
  rcases hb with ⟨-, -, h, -⟩ | ⟨w, l, -, -, -, -, -, h, -⟩
  · omega
  · exact h
theorem zB_min {P : Nat → Nat → Prop} {L : Nat → Nat} {p s0 S0 a S : Nat} {F : Int32} (hb : zB P L p s0 S0 a F S) : ∀ w l, P w l → a ≤ L (p + l) := by
  intro w l h
  rcases hb with ⟨-, -, h1, h2⟩ | ⟨w0, l0, -, -, -, -, -, -, h1, -⟩
  · have := h2 w l h
    omega
  · exact h1 w l h
theorem zB_nil {P : Nat → Nat → Prop} {L : Nat → Nat} {p s0 S0 : Nat} (h : ∀ w l, ¬ P w l) : zB P L p s0 S0 s0 (-1) S0 :=
  Or.inl ⟨rfl, rfl, rfl, fun w l q => absurd q (h w l)⟩
/-- one more, liked better than all before -/
theorem zB_pre {P P' : Nat → Nat → Prop} {L : Nat → Nat} {p s0 S0 a S w l : Nat} {F : Int32} (hb : zB P L p s0 S0 a F S) (hw : w < 6)
    (hP : ∀ w' l', P' w' l' ↔ P w' l' ∨ (w' = w ∧ l' = l)) (hl : ∀ w' l', P w' l' → w < w' ∨ (w = w' ∧ l' < l)) :
    (L (p + l) ≤ a → zB P' L p s0 S0 (L (p + l)) (nI w) l) ∧ (a < L (p + l) → zB P' L p s0 S0 a F S) := by
  have hm := zB_min hb
  have hz := zB_le hb
  constructor
  · intro h
    refine Or.inr ⟨w, l, hw, (hP w l).mpr (Or.inr ⟨rfl, rfl⟩), rfl, rfl, rfl, Nat.le_trans h hz, ?_, ?_⟩
    · intro w' l' h'
      rcases (hP w' l').mp h' with h1 | ⟨-, h2⟩
      · have := hm w' l' h1
        omega
      · rw [h2]
        exact Nat.le_refl _
    · intro w' l' h' hp
      rcases (hP w' l').mp h' with h1 | ⟨h1, h2⟩
      · have := hl w' l' h1
        omega
      · omega
  · intro h
    rcases hb with ⟨h1, h2, h3, h4⟩ | ⟨w0, l0, g0, g1, g2, g3, g4, g5, g6, g7⟩
    · refine Or.inl ⟨h1, h2, h3, ?_⟩
      intro w' l' h'
      rcases (hP w' l').mp h' with q | ⟨-, q⟩
      · exact h4 w' l' q
      · rw [q]; omega
    · refine Or.inr ⟨w0, l0, g0, (hP w0 l0).mpr (Or.inl g1), g2, g3, g4, g5, ?_, ?_⟩
      · intro w' l' h'
        rcases (hP w' l').mp h' with q | ⟨-, q⟩
        · exact g6 w' l' q
        · rw [q]; omega
      · intro w' l' h' hp
        rcases (hP w' l').mp h' with q | ⟨-, q⟩
        · exact g7 w' l' q hp
        · rw [q]; omega
/-- one more, liked less than all before -/
theorem zB_post {P P' : Nat → Nat → Prop} {L : Nat → Nat} {p s0 S0 a S w l : Nat} {F : Int32} (hb : zB P L p s0 S0 a F S) (hw : w < 6)
    (hP : ∀ w' l', P' w' l' ↔ P w' l' ∨ (w' = w ∧ l' = l)) (hl : ∀ w' l', P w' l' → w' < w ∨ (w' = w ∧ l < l')) :
    ((L (p + l) < a ∨ (L (p + l) = a ∧ F = -1)) → zB P' L p s0 S0 (L (p + l)) (nI w) l) ∧ (¬ (L (p + l) < a ∨ (L (p + l) = a ∧ F = -1)) → zB P' L p s0 S0 a F S) := by
  have hm := zB_min hb
  have hz := zB_le hb
  constructor
  · intro h
    refine Or.inr ⟨w, l, hw, (hP w l).mpr (Or.inr ⟨rfl, rfl⟩), rfl, rfl, rfl, by omega, ?_, ?_⟩
    · intro w' l' h'
      rcases (hP w' l').mp h' with h1 | ⟨-, h2⟩
      · have := hm w' l' h1
        omega
      · rw [h2]
        exact Nat.le_refl _
    · intro w' l' h' hp
      rcases (hP w' l').mp h' with h1 | ⟨h1, h2⟩
      · rcases h with h | ⟨h, hF⟩
        · have := hm w' l' h1
          omega
        · rcases hb with ⟨-, -, q3, q4⟩ | ⟨w0, l0, g0, g1, g2, -⟩
          · have := q4 w' l' h1
            omega
          · exact absurd (g2.symm.trans hF) (zne g0)
      · omega
  · intro h
    rcases hb with ⟨h1, h2, h3, h4⟩ | ⟨w0, l0, g0, g1, g2, g3, g4, g5, g6, g7⟩
    · refine Or.inl ⟨h1, h2, h3, ?_⟩
      intro w' l' h'
      rcases (hP w' l').mp h' with q | ⟨-, q⟩
      · exact h4 w' l' q
      · rw [q]
        by_cases e : L (p + l) = a
        · exact absurd (Or.inr ⟨e, h1⟩) h
        · have : ¬ L (p + l) < a := fun q => h (Or.inl q)
          omega
    · have h5 : ¬ L (p + l) < a := fun q => h (Or.inl q)
      refine Or.inr ⟨w0, l0, g0, (hP w0 l0).mpr (Or.inl g1), g2, g3, g4, g5, ?_, ?_⟩
      · intro w' l' h'
        rcases (hP w' l').mp h' with q | ⟨-, q⟩
        · exact g6 w' l' q
        · rw [q]; omega
      · intro w' l' h' hp
        rcases (hP w' l').mp h' with q | ⟨q0, q⟩
        · exact g7 w' l' q hp
        · have := hl w0 l0 g1
          omega
/-- those that come later can't be better -/
theorem zB_all {P P' : Nat → Nat → Prop} {L : Nat → Nat} {p s0 S0 a S : Nat} {F : Int32} (hb : zB P L p s0 S0 a F S) (hF : F ≠ -1) (h1 : ∀ w l, P w l → P' w l)
    (h2 : ∀ w l, P' w l → P w l ∨ (a ≤ L (p + l) ∧ ∀ w0 l0, P w0 l0 → w0 < w ∨ (w0 = w ∧ l < l0))) : zB P' L p s0 S0 a F S := by
  rcases hb with ⟨q, -⟩ | ⟨w0, l0, g0, g1, g2, g3, g4, g5, g6, g7⟩
  · exact absurd q hF
  · refine Or.inr ⟨w0, l0, g0, h1 _ _ g1, g2, g3, g4, g5, ?_, ?_⟩
    · intro w' l' h'
      rcases h2 w' l' h' with q | ⟨q, -⟩
      · exact g6 w' l' q
      · exact q
    · intro w' l' h' hp
      rcases h2 w' l' h' with q | ⟨-, q⟩
      · exact g7 w' l' q hp
      · have := q w0 l0 g1
        omega
theorem zB_uni {P : Nat → Nat → Prop} {L : Nat → Nat} {p s0 S0 S1 a a' S S' : Nat} {F F' : Int32} (hb : zB P L p s0 S0 a F S) (hb' : zB P L p s0 S1 a' F' S') : a = a' ∧ F = F' ∧ (F ≠ -1 → S = S') := by
  have hm := zB_min hb
  have hm' := zB_min hb'
  rcases hb with ⟨h1, h2, h3, h4⟩ | ⟨w0, l0, g0, g1, g2, g3, g4, g5, g6, g7⟩
  · rcases hb' with ⟨k1, k2, k3, k4⟩ | ⟨w1, l1, k0, k1, k2, k3, k4, k5, k6, k7⟩
    · exact ⟨by omega, h1.trans k1.symm, fun q => absurd h1 q⟩
    · have := h4 w1 l1 k1
      omega
  · rcases hb' with ⟨k1, k2, k3, k4⟩ | ⟨w1, l1, k0, k1, k2, k3, k4, k5, k6, k7⟩
    · have := k4 w0 l0 g1
      omega
    · have e1 := g6 w1 l1 k1
      have e2 := k6 w0 l0 g1
      have n1 : ¬ (w1 < w0 ∨ (w1 = w0 ∧ l0 < l1)) := fun q => by
        have := g7 w1 l1 k1 q
        omega
      have n2 : ¬ (w0 < w1 ∨ (w0 = w1 ∧ l1 < l0)) := fun q => by
        have := k7 w0 l0 g1 q
        omega
      have ew : w0 = w1 := by omega
      have el : l0 = l1 := by omega
      refine ⟨by omega, ?_, fun _ => by omega⟩
      rw [g2, k2, ew]
theorem zB_L {P : Nat → Nat → Prop} {L L' : Nat → Nat} {p s0 S0 a S : Nat} {F : Int32} (hL : ∀ w l, P w l → L (p + l) = L' (p + l)) (hb : zB P L p s0 S0 a F S) : zB P L' p s0 S0 a F S := by
  rcases hb with ⟨h1, h2, h3, h4⟩ | ⟨w0, l0, g0, g1, g2, g3, g4, g5, g6, g7⟩
  · exact Or.inl ⟨h1, h2, h3, fun w l q => by rw [← hL w l q]; exact h4 w l q⟩
  · exact Or.inr ⟨w0, l0, g0, g1, g2, g3, by rw [← hL w0 l0 g1]; exact g4, g5, fun w l q => by rw [← hL w l q]; exact g6 w l q, fun w l q r => by rw [← hL w l q]; exact g7 w l q r⟩
/-- the pieces that may begin at p: r good steps from p on -/
def zcand (n t W : Nat) (lo hi B : Nat → Nat) (r p : Nat) : Nat → Nat → Prop := fun w l => (p = t ∨ B p = 0) ∧ w < W ∧ lo w ≤ l ∧ l ≤ hi w ∧ l ≤ r ∧ (p + l = n ∨ B (p + l) = 0)
/-- the plan from t on -/
def zPl (n t W : Nat) (lo hi G B L : Nat → Nat) (F : Nat → Int32) (S S0 : Nat → Nat) : Prop :=
  L n = 0 ∧ ∀ p, t ≤ p → p < n → zB (zcand n t W lo hi B (zrun G n p) p) L p (L (p + 1) + 1) (S0 p) (L p) (F p) (S p)
theorem zPl_uni {n t W : Nat} {lo hi G B L L' : Nat → Nat} {F F' : Nat → Int32} {S S' S0 S1 : Nat → Nat} (hlo : ∀ w, w < W → 1 ≤ lo w) (h : zPl n t W lo hi G B L F S S0) (h' : zPl n t W lo hi G B L' F' S' S1) :
    ∀ k p, k = n - p → t ≤ p → p ≤ n → L p = L' p ∧ (p < n → F p = F' p ∧ (F p ≠ -1 → S p = S' p)) := by
  intro k
  induction k using Nat.strongRecOn with
  | _ k ih =>
    intro p hk ht hp
    by_cases hn : p = n
    · subst hn
      exact ⟨h.1.trans h'.1.symm, fun q => absurd q (Nat.lt_irrefl p)⟩
    · have hlt : p < n := by omega
      have b := h.2 p ht hlt
      have b' := h'.2 p ht hlt
      have e1 : L (p + 1) = L' (p + 1) := (ih (n - (p + 1)) (by omega) (p + 1) rfl (by omega) (by omega)).1
      have b2 := zB_L (L' := L') (fun w l q => by
        obtain ⟨-, q2, q3, -, q5, -⟩ := q
        have h1 := hlo w q2
        have h2 := zrun_le (G := G) (n := n) (p := p)
        exact (ih (n - (p + l)) (by omega) (p + l) rfl (by omega) (by omega)).1) b
      rw [e1] at b2
      obtain ⟨u1, u2, u3⟩ := zB_uni b2 b'
      exact ⟨u1, fun _ => ⟨u2, u3⟩⟩
theorem zPl_torch {n t t' W : Nat} {lo hi G B L : Nat → Nat} {F : Nat → Int32} {S S0 : Nat → Nat} (h : zPl n t W lo hi G B L F S S0) (ht : t ≤ t') (hb : t' = n ∨ B t' = 0) : zPl n t' W lo hi G B L F S S0 := by
  refine ⟨h.1, fun p hp hlt => ?_⟩
  refine zB_congr ?_ (h.2 p (by omega) hlt)
  intro w l
  unfold zcand
  have e : (p = t ∨ B p = 0) ↔ (p = t' ∨ B p = 0) := by
    constructor
    · rintro (q | q)
      · exact Or.inl (by omega)
      · exact Or.inr q
    · rintro (q | q)
      · rcases hb with hb | hb
        · omega
        · exact Or.inr (by rw [q]; exact hb)
      · exact Or.inr q
  rw [e]
/-- where a piece of the plan ends no bar is, or the strand's end -/
theorem zPl_end {n t W : Nat} {lo hi G B L : Nat → Nat} {F : Nat → Int32} {S S0 : Nat → Nat} (h : zPl n t W lo hi G B L F S S0) {p : Nat} (ht : t ≤ p) (hp : p < n) (hF : F p ≠ -1) :
    ∃ w, w < 6 ∧ w < W ∧ F p = nI w ∧ lo w ≤ S p ∧ S p ≤ hi w ∧ p + S p ≤ n ∧ (p = t ∨ B p = 0) ∧ (p + S p = n ∨ B (p + S p) = 0) := by
  rcases h.2 p ht hp with ⟨q, -⟩ | ⟨w, l, g0, ⟨c1, c2, c3, c4, c5, c6⟩, g2, g3, -⟩
  · exact absurd q hF
  · have h2 := zrun_le (G := G) (n := n) (p := p)
    exact ⟨w, g0, c2, g2, by omega, by omega, by omega, c1, by rw [g3]; exact c6⟩
end
section
/-! PURE, second part: bars and bad parts told one by one; where a part ends; the i-th part -/
theorem zrk_congr {G G' : Nat → Nat} {n : Nat} (h : ∀ q, q < n → G q = G' q) : ∀ k, k ≤ n → zrk G n k = zrk G' n k := by
  intro k
  induction k with
  | zero => intro _; rfl
  | succ k ih =>
    intro hk
    show (if G (n - (k + 1)) = 0 then 0 else zrk G n k + 1) = (if G' (n - (k + 1)) = 0 then 0 else zrk G' n k + 1)
    rw [h (n - (k + 1)) (by omega), ih (by omega)]
theorem zrun_congr {G G' : Nat → Nat} {n p : Nat} (h : ∀ q, q < n → G q = G' q) : zrun G n p = zrun G' n p := zrk_congr h _ (Nat.sub_le n p)
/-- 1 where one of the first k bars holds p -/
def zbar (fr to : Nat → Nat) (p : Nat) : Nat → Nat
  | 0 => 0
  | k + 1 => if zbar fr to p k = 0 ∧ ¬ (fr k ≤ p ∧ p ≤ to k) then 0 else 1
/-- 1 where one of the first k bad parts holds p -/
def zbad (fr to : Nat → Nat) (p : Nat) : Nat → Nat
  | 0 => 0
  | k + 1 => if zbad fr to p k = 0 ∧ ¬ (fr k ≤ p ∧ p < to k) then 0 else 1
def zgd (g0 : Nat) (fr to : Nat → Nat) (p : Nat) : Nat → Nat
  | 0 => g0
  | k + 1 => if zgd g0 fr to p k = 0 ∨ (fr k ≤ p ∧ p < to k) then 0 else 1
theorem zbar_le {fr to : Nat → Nat} {p : Nat} : ∀ k, zbar fr to p k ≤ 1 := by
  intro k
  cases k with
  | zero => exact Nat.zero_le 1
  | succ k =>
    show (if zbar fr to p k = 0 ∧ ¬ (fr k ≤ p ∧ p ≤ to k) then 0 else 1) ≤ 1
    split <;> omega
theorem zbad_le {fr to : Nat → Nat} {p : Nat} : ∀ k, zbad fr to p k ≤ 1 := by
  intro k
  cases k with
  | zero => exact Nat.zero_le 1
  | succ k =>
    show (if zbad fr to p k = 0 ∧ ¬ (fr k ≤ p ∧ p < to k) then 0 else 1) ≤ 1
    split <;> omega
theorem zgd_le {g0 : Nat} {fr to : Nat → Nat} {p : Nat} (h : g0 ≤ 1) : ∀ k, zgd g0 fr to p k ≤ 1 := by
  intro k
  cases k with
  | zero => exact h
  | succ k =>
    show (if zgd g0 fr to p k = 0 ∨ (fr k ≤ p ∧ p < to k) then 0 else 1) ≤ 1
    split <;> omega
theorem zgd_bad {g0 : Nat} {fr to : Nat → Nat} {p : Nat} (h : g0 ≤ 1) : ∀ k, zgd g0 fr to p k = if g0 = 0 ∨ ¬ zbad fr to p k = 0 then 0 else 1 := by
  intro k
  induction k with
  | zero =>
    show g0 = if g0 = 0 ∨ ¬ (0 : Nat) = 0 then 0 else 1
    split <;> omega
  | succ k ih =>
    show (if zgd g0 fr to p k = 0 ∨ (fr k ≤ p ∧ p < to k) then 0 else 1) = if g0 = 0 ∨ ¬ (if zbad fr to p k = 0 ∧ ¬ (fr k ≤ p ∧ p < to k) then 0 else 1) = 0 then 0 else 1
    rw [ih]
    by_cases h1 : g0 = 0 <;> by_cases h2 : zbad fr to p k = 0 <;> by_cases h3 : fr k ≤ p ∧ p < to k <;> simp [h1, h2, h3]
theorem zbar_congr {fr to fr' to' : Nat → Nat} {p : Nat} : ∀ k, (∀ j, j < k → fr j = fr' j ∧ to j = to' j) → zbar fr to p k = zbar fr' to' p k := by
  intro k
  induction k with
  | zero => intro _; rfl
  | succ k ih =>
    intro h
    show (if zbar fr to p k = 0 ∧ ¬ (fr k ≤ p ∧ p ≤ to k) then 0 else 1) = (if zbar fr' to' p k = 0 ∧ ¬ (fr' k ≤ p ∧ p ≤ to' k) then 0 else 1)
    rw [ih (fun j hj => h j (by omega)), (h k (by omega)).1, (h k (by omega)).2]
theorem zbad_congr {fr to fr' to' : Nat → Nat} {p : Nat} : ∀ k, (∀ j, j < k → fr j = fr' j ∧ to j = to' j) → zbad fr to p k = zbad fr' to' p k := by
  intro k
  induction k with
  | zero => intro _; rfl
  | succ k ih =>
    intro h
    show (if zbad fr to p k = 0 ∧ ¬ (fr k ≤ p ∧ p < to k) then 0 else 1) = (if zbad fr' to' p k = 0 ∧ ¬ (fr' k ≤ p ∧ p < to' k) then 0 else 1)
    rw [ih (fun j hj => h j (by omega)), (h k (by omega)).1, (h k (by omega)).2]
/-- the first place from n - k on whose first isn't scrap, or n -/
def zsck (F : Nat → Int32) (n : Nat) : Nat → Nat
  | 0 => n
  | k + 1 => if F (n - (k + 1)) = -1 then zsck F n k else n - (k + 1)
def zscan (F : Nat → Int32) (n p : Nat) : Nat := zsck F n (n - p)
theorem zscan_n {F : Nat → Int32} {n : Nat} : zscan F n n = n := by
  unfold zscan
  rw [Nat.sub_self]
  rfl
theorem zscan_s {F : Nat → Int32} {n p : Nat} (h : p < n) : zscan F n p = if F p = -1 then zscan F n (p + 1) else p := by
  unfold zscan
  have e : n - p = (n - (p + 1)) + 1 := by omega
  have e2 : n - (n - (p + 1) + 1) = p := by omega
  rw [e]
  show (if F (n - (n - (p + 1) + 1)) = -1 then zsck F n (n - (p + 1)) else n - (n - (p + 1) + 1)) = _
  rw [e2]
theorem zscan_le {F : Nat → Int32} {n : Nat} : ∀ k p, k = n - p → p ≤ n → p ≤ zscan F n p ∧ zscan F n p ≤ n := by
  intro k
  induction k with
  | zero =>
    intro p hk hp
    have e : p = n := by omega
    rw [e, zscan_n]
    exact ⟨Nat.le_refl n, Nat.le_refl n⟩
  | succ k ih =>
    intro p hk hp
    rw [zscan_s (by omega)]
    split
    · have := ih (p + 1) (by omega) (by omega)
      omega
    · omega
/-- behind the part that begins at p -/
def zend (F : Nat → Int32) (S : Nat → Nat) (n p : Nat) : Nat := if F p = -1 then zscan F n p else p + S p
/-- the steps of scrap side by side, as they are counted backwards, reach just so far -/
theorem zend_scrap {F : Nat → Int32} {S S0 : Nat → Nat} {n t : Nat} (hS : ∀ p, t ≤ p → p < n → F p = -1 → S p = S0 p) (h0 : ∀ p, t ≤ p → p < n → S0 p = if p + 1 < n ∧ F (p + 1) = -1 then S (p + 1) + 1 else 1) :
    ∀ k p, k = n - p → t ≤ p → p < n → p + S p = zend F S n p := by
  intro k
  induction k with
  | zero => intro p hk ht hp; omega
  | succ k ih =>
    intro p hk ht hp
    unfold zend
    by_cases hF : F p = -1
    · rw [if_pos hF, hS p ht hp hF, h0 p ht hp, zscan_s hp, if_pos hF]
      by_cases hn : p + 1 < n
      · by_cases hF1 : F (p + 1) = -1
        · rw [if_pos ⟨hn, hF1⟩]
          have := ih (p + 1) (by omega) (by omega) hn
          unfold zend at this
          rw [if_pos hF1] at this
          omega
        · rw [if_neg (fun q => hF1 q.2), zscan_s hn, if_neg hF1]
      · have e : p + 1 = n := by omega
        rw [if_neg (fun q => hn q.1), e, zscan_n]
    · rw [if_neg hF]
/-- i times on, as long as the end isn't reached -/
def zit (E : Nat → Nat) (n : Nat) : Nat → Nat → Nat
  | 0, p => p
  | k + 1, p => if p < n then zit E n k (E p) else p
theorem zit_n {E : Nat → Nat} {n p : Nat} (h : ¬ p < n) : ∀ k, zit E n k p = p := by
  intro k
  cases k with
  | zero => rfl
  | succ k =>
    show (if p < n then zit E n k (E p) else p) = p
    rw [if_neg h]
theorem zit_full {E : Nat → Nat} {n t : Nat} (hE : ∀ p, t ≤ p → p < n → p < E p ∧ E p ≤ n) : ∀ k p, t ≤ p → p ≤ n → n - p ≤ k → zit E n k p = n := by
  intro k
  induction k with
  | zero =>
    intro p ht hp hk
    show p = n
    omega
  | succ k ih =>
    intro p ht hp hk
    show (if p < n then zit E n k (E p) else p) = n
    by_cases h : p < n
    · rw [if_pos h]
      have := hE p ht h
      exact ih (E p) (by omega) this.2 (by omega)
    · rw [if_neg h]
      omega
theorem zit_congr {E E' : Nat → Nat} {n t : Nat} (hE : ∀ p, t ≤ p → p < n → E p = E' p ∧ t ≤ E p) : ∀ k p, t ≤ p → zit E n k p = zit E' n k p := by
  intro k
  induction k with
  | zero => intro p _; rfl
  | succ k ih =>
    intro p ht
    show (if p < n then zit E n k (E p) else p) = (if p < n then zit E' n k (E' p) else p)
    by_cases h : p < n
    · rw [if_pos h, if_pos h, ← (hE p ht h).1]
      exact ih (E p) (hE p ht h).2
    · rw [if_neg h, if_neg h]
theorem zit_in {E : Nat → Nat} {n t : Nat} (hE : ∀ p, t ≤ p → p < n → p < E p ∧ E p ≤ n) : ∀ k p, t ≤ p → p ≤ n → t ≤ zit E n k p ∧ zit E n k p ≤ n := by
  intro k
  induction k with
  | zero => intro p ht hp; exact ⟨ht, hp⟩
  | succ k ih =>
    intro p ht hp
    show t ≤ (if p < n then zit E n k (E p) else p) ∧ (if p < n then zit E n k (E p) else p) ≤ n
    by_cases h : p < n
    · rw [if_pos h]
      have := hE p ht h
      exact ih (E p) (by omega) this.2
    · rw [if_neg h]
      exact ⟨ht, hp⟩
/-- how many of the first k are x -/
def zcnt (f : Nat → Int32) (x : Int32) : Nat → Nat
  | 0 => 0
  | k + 1 => if f k = x then zcnt f x k + 1 else zcnt f x k
theorem zcnt_le {f : Nat → Int32} {x : Int32} : ∀ k, zcnt f x k ≤ k := by
  intro k
  induction k with
  | zero => exact Nat.le_refl 0
  | succ k ih =>
    show (if f k = x then zcnt f x k + 1 else zcnt f x k) ≤ k + 1
    split <;> omega
theorem zcnt_congr {f g : Nat → Int32} {x : Int32} : ∀ k, (∀ j, j < k → f j = g j) → zcnt f x k = zcnt g x k := by
  intro k
  induction k with
  | zero => intro _; rfl
  | succ k ih =>
    intro h
    show (if f k = x then zcnt f x k + 1 else zcnt f x k) = (if g k = x then zcnt g x k + 1 else zcnt g x k)
    rw [h k (by omega), ih (fun j hj => h j (by omega))]
end
section
/-! PURE, third part: one candidate more, as the class tries them; the plan grown by one place -/
def zG (v : Nat → Nat) (f : Nat → Nat → Nat) (p : Nat) : Nat := if v 5 ≤ p ∧ p + v 6 < v 3 ∧ f 0 p = 0 then 1 else 0
def zS0 (F : Nat → Int32) (S : Nat → Nat) (p : Nat) : Nat := if F (p + 1) = -1 then S (p + 1) + 1 else 1
/-- candidates (x, l) with t < l, and all of lower wanted lengths -/
def zPa (c : Nat → Nat → Prop) (x t : Nat) : Nat → Nat → Prop := fun w l => c w l ∧ (w < x ∨ (w = x ∧ t < l))
theorem zstep {n t0 W : Nat} {lo hi B L : Nat → Nat} {r p s0 S0 a S x t : Nat} {F : Int32} (hb : zB (zPa (zcand n t0 W lo hi B r p) x t) L p s0 S0 a F S) (h0 : 0 < t) (hx : x < W) (hW : W ≤ 6) (hl : lo x ≤ t) (hh : t ≤ hi x) (hr : t ≤ r) (hm : p = t0 ∨ B p = 0) :
    ((p + t = n ∨ B (p + t) = 0) → (L (p + t) < a ∨ (L (p + t) = a ∧ F = -1)) → zB (zPa (zcand n t0 W lo hi B r p) x (t - 1)) L p s0 S0 (L (p + t)) (nI x) t) ∧
    (¬ ((p + t = n ∨ B (p + t) = 0) ∧ (L (p + t) < a ∨ (L (p + t) = a ∧ F = -1))) → zB (zPa (zcand n t0 W lo hi B r p) x (t - 1)) L p s0 S0 a F S) := by
  by_cases hE : p + t = n ∨ B (p + t) = 0
  · have hP : ∀ w' l', zPa (zcand n t0 W lo hi B r p) x (t - 1) w' l' ↔ zPa (zcand n t0 W lo hi B r p) x t w' l' ∨ (w' = x ∧ l' = t) := by
      intro w' l'
      unfold zPa
      constructor
      · rintro ⟨q1, q2⟩
        by_cases e : w' = x ∧ l' = t
        · exact Or.inr e
        · refine Or.inl ⟨q1, ?_⟩
          omega
      · rintro (⟨q1, q2⟩ | ⟨e1, e2⟩)
        · refine ⟨q1, ?_⟩
          omega
        · refine ⟨?_, Or.inr ⟨e1, by omega⟩⟩
          rw [e1, e2]
          exact ⟨hm, hx, hl, hh, hr, hE⟩
    have hq : ∀ w' l', zPa (zcand n t0 W lo hi B r p) x t w' l' → w' < x ∨ (w' = x ∧ t < l') := fun w' l' q => q.2
    obtain ⟨k1, k2⟩ := zB_post hb (by omega) hP hq
    exact ⟨fun _ h => k1 h, fun h => k2 (fun q => h ⟨hE, q⟩)⟩
  · refine ⟨fun h => absurd h hE, fun _ => zB_congr ?_ hb⟩
    intro w' l'
    unfold zPa
    constructor
    · rintro ⟨q1, q2⟩
      exact ⟨q1, by omega⟩
    · rintro ⟨q1, q2⟩
      refine ⟨q1, ?_⟩
      by_cases e : w' = x ∧ l' = t
      · obtain ⟨e1, e2⟩ := e
        rw [e2] at q1
        exact absurd q1.2.2.2.2.2 hE
      · omega
theorem zstop {n t0 W : Nat} {lo hi B L : Nat → Nat} {r p s0 S0 a S x t : Nat} {F : Int32} (hb : zB (zPa (zcand n t0 W lo hi B r p) x t) L p s0 S0 a F S) (hF : ¬ F = -1) (hs : ∀ l, 0 < l → l ≤ r → a ≤ L (p + l)) (hlo : ∀ w, w < W → 1 ≤ lo w) : zB (zcand n t0 W lo hi B r p) L p s0 S0 a F S := by
  refine zB_all hb hF (fun w l q => q.1) (fun w l q => ?_)
  by_cases h : w < x ∨ (w = x ∧ t < l)
  · exact Or.inl ⟨q, h⟩
  · refine Or.inr ⟨hs l ?_ q.2.2.2.2.1, ?_⟩
    · have := hlo w q.2.1
      have := q.2.2.1
      omega
    · intro w0 l0 q0
      have := q0.2
      omega
theorem zbegin {n t0 W : Nat} {lo hi B L : Nat → Nat} {r p s0 S0 : Nat} {x : Nat} (h : x = 0) : zB (fun w l => zcand n t0 W lo hi B r p w l ∧ w < x) L p s0 S0 s0 (-1) S0 := zB_nil (fun w l q => by have := q.2; omega)
theorem zinner {n t0 W : Nat} {lo hi B L : Nat → Nat} {r p s0 S0 a S x : Nat} {F : Int32} (hb : zB (fun w l => zcand n t0 W lo hi B r p w l ∧ w < x) L p s0 S0 a F S) : zB (zPa (zcand n t0 W lo hi B r p) x (min (hi x) r)) L p s0 S0 a F S := by
  refine zB_congr ?_ hb
  intro w l
  unfold zPa
  constructor
  · rintro ⟨q1, q2⟩
    exact ⟨q1, Or.inl q2⟩
  · rintro ⟨q1, q2⟩
    refine ⟨q1, ?_⟩
    rcases q2 with q2 | ⟨q2, q3⟩
    · exact q2
    · have h4 := q1.2.2.2.1
      have h5 := q1.2.2.2.2.1
      rw [q2] at h4
      omega
theorem zouter {n t0 W : Nat} {lo hi B L : Nat → Nat} {r p s0 S0 a S x t : Nat} {F : Int32} (hb : zB (zPa (zcand n t0 W lo hi B r p) x t) L p s0 S0 a F S) (ht : t < lo x) : zB (fun w l => zcand n t0 W lo hi B r p w l ∧ w < x + 1) L p s0 S0 a F S := by
  refine zB_congr ?_ hb
  intro w l
  unfold zPa
  constructor
  · rintro ⟨q1, q2⟩
    exact ⟨q1, by omega⟩
  · rintro ⟨q1, q2⟩
    refine ⟨q1, ?_⟩
    by_cases e : w < x
    · exact Or.inl e
    · have e1 : w = x := by omega
      have h4 := q1.2.2.1
      rw [e1] at h4
      exact Or.inr ⟨e1, by omega⟩
theorem zfull {n t0 W : Nat} {lo hi B L : Nat → Nat} {r p s0 S0 a S x : Nat} {F : Int32} (hb : zB (fun w l => zcand n t0 W lo hi B r p w l ∧ w < x) L p s0 S0 a F S) (hx : W ≤ x) : zB (zcand n t0 W lo hi B r p) L p s0 S0 a F S := by
  refine zB_congr ?_ hb
  intro w l
  constructor
  · exact fun q => q.1
  · exact fun q => ⟨q, Nat.lt_of_lt_of_le q.2.1 hx⟩
/-- the plan from place k on -/
def zinv (n t W : Nat) (lo hi G B : Nat → Nat) (k : Nat) (L : Nat → Nat) (F : Nat → Int32) (S : Nat → Nat) : Prop :=
  L n = 0 ∧ F n = -2 ∧ (∀ p, k ≤ p → p < n → zB (zcand n t W lo hi B (zrun G n p) p) L p (L (p + 1) + 1) (zS0 F S p) (L p) (F p) (S p)) ∧ ∀ p, k ≤ p → p ≤ n → zsure G n p ≤ L p ∧ L p ≤ n - p
theorem zinv_0 {n t W : Nat} {lo hi G B L S : Nat → Nat} {F : Nat → Int32} (h1 : L n = 0) (h2 : F n = -2) : zinv n t W lo hi G B n L F S := by
  refine ⟨h1, h2, fun p q1 q2 => absurd q2 (by omega), fun p q1 q2 => ?_⟩
  have e : p = n := by omega
  rw [e, h1, zsure_n]
  exact ⟨Nat.le_refl 0, Nat.zero_le _⟩
/-- in a good stretch nothing ahead loses less than what is sure -/
theorem zinv_sure {n t W : Nat} {lo hi G B L S : Nat → Nat} {F : Nat → Int32} {p : Nat} (h : zinv n t W lo hi G B (p + 1) L F S) (hp : p < n) : ∀ l, 0 < l → l ≤ zrun G n p → zsure G n p ≤ L (p + l) := by
  intro l h0 hl
  have h1 := zrun_le (G := G) (n := n) (p := p)
  rw [← zsure_same l p (by omega) hl]
  exact (h.2.2.2 (p + l) (by omega) (by omega)).1
theorem zinv_step {n t W : Nat} {lo hi G B L L' S S' : Nat → Nat} {F F' : Nat → Int32} {p a s : Nat} {x : Int32} (hlo : ∀ w, w < W → 1 ≤ lo w) (h : zinv n t W lo hi G B (p + 1) L F S) (hp : p < n)
    (hb : zB (zcand n t W lo hi B (zrun G n p) p) L p (L (p + 1) + 1) (zS0 F S p) a x s) (hLp : L' p = a) (hLq : ∀ q, q ≠ p → L' q = L q) (hFp : F' p = x) (hFq : ∀ q, q ≠ p → F' q = F q) (hSp : S' p = s) (hSq : ∀ q, q ≠ p → S' q = S q) : zinv n t W lo hi G B p L' F' S' := by
  have key : ∀ q, p ≤ q → zS0 F' S' q = zS0 F S q := by
    intro q hq
    unfold zS0
    rw [hFq (q + 1) (by omega), hSq (q + 1) (by omega)]
  refine ⟨by rw [hLq n (by omega)]; exact h.1, by rw [hFq n (by omega)]; exact h.2.1, fun q h1 h2 => ?_, fun q h1 h2 => ?_⟩
  · by_cases e : q = p
    · rw [key q h1, e, hLp, hFp, hSp, hLq (p + 1) (by omega)]
      refine zB_L (fun w l c => (hLq (p + l) ?_).symm) hb
      have := hlo w c.2.1
      have := c.2.2.1
      omega
    · rw [key q h1, hLq q e, hFq q e, hSq q e, hLq (q + 1) (by omega)]
      refine zB_L (fun w l c => (hLq (q + l) (by omega)).symm) (h.2.2.1 q (by omega) h2)
  · by_cases e : q = p
    · rw [e, hLp]
      have h3 := h.2.2.2 (p + 1) (Nat.le_refl _) hp
      have h4 := zB_le hb
      have h5 := zsure_s (G := G) hp
      refine ⟨?_, by omega⟩
      rcases hb with ⟨-, -, q3, -⟩ | ⟨w0, l0, -, c, -, -, g4, -⟩
      · rw [h5]
        split <;> omega
      · rw [g4]
        refine zinv_sure h hp l0 ?_ c.2.2.2.2.1
        have := hlo w0 c.2.1
        have := c.2.2.1
        omega
    · rw [hLq q e]
      exact h.2.2.2 q (by omega) h2
/-- the class's plan is made -/
def zCP (v : Nat → Nat) (f : Nat → Nat → Nat) (L S : Nat → Nat) (F : Nat → Int32) : Prop := zinv (v 3) (v 4) (v 9) (f 2) (f 3) (zG v f) (f 1) (v 4) L F S
end
section
/-! PURE, fourth part: one candidate more, as the reference tries them -/
/-- candidates (x, l') with l' < l, and all of higher wanted lengths -/
def zQa (c : Nat → Nat → Prop) (x l : Nat) : Nat → Nat → Prop := fun w' l' => c w' l' ∧ (x < w' ∨ (w' = x ∧ l' < l))
theorem zstepM {n t0 W : Nat} {lo hi B L : Nat → Nat} {r p s0 S0 a S x l : Nat} {F : Int32} (hb : zB (zQa (zcand n t0 W lo hi B r p) x l) L p s0 S0 a F S) (hx : x < W) (hW : W ≤ 6) (hl : lo x ≤ l) (hh : l ≤ hi x) (hr : l ≤ r) (hm : p = t0 ∨ B p = 0) :
    ((p + l = n ∨ B (p + l) = 0) → L (p + l) ≤ a → zB (zQa (zcand n t0 W lo hi B r p) x (l + 1)) L p s0 S0 (L (p + l)) (nI x) l) ∧
    (¬ ((p + l = n ∨ B (p + l) = 0) ∧ L (p + l) ≤ a) → zB (zQa (zcand n t0 W lo hi B r p) x (l + 1)) L p s0 S0 a F S) := by
  by_cases hE : p + l = n ∨ B (p + l) = 0
  · have hP : ∀ w' l', zQa (zcand n t0 W lo hi B r p) x (l + 1) w' l' ↔ zQa (zcand n t0 W lo hi B r p) x l w' l' ∨ (w' = x ∧ l' = l) := by
      intro w' l'
      unfold zQa
      constructor
      · rintro ⟨q1, q2⟩
        by_cases e : w' = x ∧ l' = l
        · exact Or.inr e
        · refine Or.inl ⟨q1, ?_⟩
          omega
      · rintro (⟨q1, q2⟩ | ⟨e1, e2⟩)
        · refine ⟨q1, ?_⟩
          omega
        · refine ⟨?_, Or.inr ⟨e1, by omega⟩⟩
          rw [e1, e2]
          exact ⟨hm, hx, hl, hh, hr, hE⟩
    have hq : ∀ w' l', zQa (zcand n t0 W lo hi B r p) x l w' l' → x < w' ∨ (x = w' ∧ l' < l) := fun w' l' q => by
      have := q.2
      omega
    obtain ⟨k1, k2⟩ := zB_pre hb (by omega) hP hq
    exact ⟨fun _ h => k1 h, fun h => k2 (Nat.lt_of_not_le (fun q => h ⟨hE, q⟩))⟩
  · refine ⟨fun h => absurd h hE, fun _ => zB_congr ?_ hb⟩
    intro w' l'
    unfold zQa
    constructor
    · rintro ⟨q1, q2⟩
      exact ⟨q1, by omega⟩
    · rintro ⟨q1, q2⟩
      refine ⟨q1, ?_⟩
      by_cases e : w' = x ∧ l' = l
      · obtain ⟨e1, e2⟩ := e
        rw [e2] at q1
        exact absurd q1.2.2.2.2.2 hE
      · omega
theorem zbeginM {n t0 W : Nat} {lo hi B L : Nat → Nat} {r p s0 S0 : Nat} : zB (fun w l => zcand n t0 W lo hi B r p w l ∧ W ≤ w) L p s0 S0 s0 (-1) S0 := zB_nil (fun w l q => by
  have := q.2
  have := q.1.2.1
  omega)
theorem zinnerM {n t0 W : Nat} {lo hi B L : Nat → Nat} {r p s0 S0 a S x : Nat} {F : Int32} (hb : zB (fun w l => zcand n t0 W lo hi B r p w l ∧ x + 1 ≤ w) L p s0 S0 a F S) : zB (zQa (zcand n t0 W lo hi B r p) x (lo x)) L p s0 S0 a F S := by
  refine zB_congr ?_ hb
  intro w l
  unfold zQa
  constructor
  · rintro ⟨q1, q2⟩
    exact ⟨q1, Or.inl q2⟩
  · rintro ⟨q1, q2⟩
    refine ⟨q1, ?_⟩
    rcases q2 with q2 | ⟨q2, q3⟩
    · exact q2
    · have h4 := q1.2.2.1
      rw [q2] at h4
      omega
theorem zouterM {n t0 W : Nat} {lo hi B L : Nat → Nat} {r p s0 S0 a S x l : Nat} {F : Int32} (hb : zB (zQa (zcand n t0 W lo hi B r p) x l) L p s0 S0 a F S) (hl : hi x < l ∨ r < l) : zB (fun w l => zcand n t0 W lo hi B r p w l ∧ x ≤ w) L p s0 S0 a F S := by
  refine zB_congr ?_ hb
  intro w l'
  unfold zQa
  constructor
  · rintro ⟨q1, q2⟩
    exact ⟨q1, by omega⟩
  · rintro ⟨q1, q2⟩
    refine ⟨q1, ?_⟩
    by_cases e : x < w
    · exact Or.inl e
    · have e1 : w = x := by omega
      have h4 := q1.2.2.2.1
      have h5 := q1.2.2.2.2.1
      rw [e1] at h4
      exact Or.inr ⟨e1, by omega⟩
theorem zfullM {n t0 W : Nat} {lo hi B L : Nat → Nat} {r p s0 S0 a S : Nat} {F : Int32} (hb : zB (fun w l => zcand n t0 W lo hi B r p w l ∧ 0 ≤ w) L p s0 S0 a F S) : zB (zcand n t0 W lo hi B r p) L p s0 S0 a F S := zB_congr (fun w l => ⟨fun q => q.1, fun q => ⟨q, Nat.zero_le _⟩⟩) hb
/-- the reference's numbers, and its plan from place k on -/
def zJ (v : Nat → Nat) (f : Nat → Nat → Nat) : Prop :=
  v 3 ≤ 300 ∧ v 4 ≤ v 3 ∧ v 5 ≤ 300 ∧ v 6 ≤ 300 ∧ v 7 ≤ 6 ∧ v 8 ≤ 20 ∧ v 9 ≤ 20 ∧ v 10 ≤ 100 ∧ v 1 ≤ 65536 ∧ v 2 ≤ 100000 ∧
  (∀ k, k < v 7 → 1 ≤ f 0 k ∧ f 0 k ≤ f 1 k ∧ f 1 k ≤ 60) ∧ (∀ k, k < v 8 → f 2 k ≤ 300 ∧ f 3 k ≤ 300) ∧ (∀ k, k < v 9 → f 4 k ≤ 300 ∧ f 5 k ≤ 300) ∧ ∀ k, k < v 10 → f 6 k ≤ 300 ∧ f 7 k ≤ 300
def zMG (v : Nat → Nat) (f : Nat → Nat → Nat) (p : Nat) : Nat := zgd (if v 5 ≤ p ∧ p + v 6 < v 3 then 1 else 0) (f 2) (f 3) p (v 8)
def zMB (v : Nat → Nat) (f : Nat → Nat → Nat) (p : Nat) : Nat := zbar (f 4) (f 5) p (v 9)
def zinvM (n t W : Nat) (lo hi G B : Nat → Nat) (k : Nat) (L : Nat → Nat) (F : Nat → Int32) (S Gd : Nat → Nat) : Prop :=
  L n = 0 ∧ Gd n = 0 ∧ (∀ p, k ≤ p → p < n → zB (zcand n t W lo hi B (zrun G n p) p) L p (L (p + 1) + 1) 1 (L p) (F p) (S p)) ∧ ∀ p, k ≤ p → p ≤ n → Gd p = zrun G n p ∧ L p ≤ n - p
theorem zinvM_0 {n t W : Nat} {lo hi G B L S Gd : Nat → Nat} {F : Nat → Int32} (h1 : L n = 0) (h2 : Gd n = 0) : zinvM n t W lo hi G B n L F S Gd := by
  refine ⟨h1, h2, fun p q1 q2 => absurd q2 (by omega), fun p q1 q2 => ?_⟩
  have e : p = n := by omega
  rw [e, h1, h2, zrun_n]
  exact ⟨rfl, Nat.zero_le _⟩
theorem zinvM_step {n t W : Nat} {lo hi G B L L' S S' Gd Gd' : Nat → Nat} {F F' : Nat → Int32} {p a s : Nat} {x : Int32} (hlo : ∀ w, w < W → 1 ≤ lo w) (h : zinvM n t W lo hi G B (p + 1) L F S Gd) (hp : p < n)
    (hb : zB (zcand n t W lo hi B (zrun G n p) p) L p (L (p + 1) + 1) 1 a x s) (hLp : L' p = a) (hLq : ∀ q, q ≠ p → L' q = L q) (hFp : F' p = x) (hFq : ∀ q, q ≠ p → F' q = F q) (hSp : S' p = s) (hSq : ∀ q, q ≠ p → S' q = S q)
    (hGp : Gd' p = zrun G n p) (hGq : ∀ q, q ≠ p → Gd' q = Gd q) : zinvM n t W lo hi G B p L' F' S' Gd' := by
  refine ⟨by rw [hLq n (by omega)]; exact h.1, by rw [hGq n (by omega)]; exact h.2.1, fun q h1 h2 => ?_, fun q h1 h2 => ?_⟩
  · by_cases e : q = p
    · rw [e, hLp, hFp, hSp, hLq (p + 1) (by omega)]
      refine zB_L (fun w l c => (hLq (p + l) ?_).symm) hb
      have := hlo w c.2.1
      have := c.2.2.1
      omega
    · rw [hLq q e, hFq q e, hSq q e, hLq (q + 1) (by omega)]
      refine zB_L (fun w l c => (hLq (q + l) (by omega)).symm) (h.2.2.1 q (by omega) h2)
  · by_cases e : q = p
    · rw [e, hLp, hGp]
      have h3 := h.2.2.2 (p + 1) (Nat.le_refl _) hp
      have h4 := zB_le hb
      exact ⟨rfl, by omega⟩
    · rw [hLq q e, hGq q e]
      exact h.2.2.2 q (by omega) h2
/-- the reference's plan is made -/
def zMP (v : Nat → Nat) (f : Nat → Nat → Nat) (L S Gd : Nat → Nat) (F : Nat → Int32) : Prop := zinvM (v 3) (v 4) (v 7) (f 0) (f 1) (zMG v f) (zMB v f) (v 4) L F S Gd
theorem zend_in {v : Nat → Nat} {f : Nat → Nat → Nat} {L S Gd : Nat → Nat} {F : Nat → Int32} (hlo : ∀ w, w < v 7 → 1 ≤ f 0 w) (h : zMP v f L S Gd F) {p : Nat} (h1 : v 4 ≤ p) (h2 : p < v 3) : p < zend F S (v 3) p ∧ zend F S (v 3) p ≤ v 3 := by
  unfold zend
  by_cases hF : F p = -1
  · rw [if_pos hF, zscan_s h2, if_pos hF]
    have := zscan_le (F := F) (n := v 3) _ (p + 1) rfl (by omega)
    omega
  · rw [if_neg hF]
    rcases h.2.2.1 p h1 h2 with ⟨q, -⟩ | ⟨w0, l0, -, c, -, q3, -⟩
    · exact absurd q hF
    · have h3 := zrun_le (G := zMG v f) (n := v 3) (p := p)
      have h4 := hlo w0 c.2.1
      have h5 := c.2.2.1
      have h6 := c.2.2.2.2.1
      rw [q3]
      omega
end
section
/-! STATIC TESTS of the class and of the reference (rows written by wip/whole/mk_class.py) -/
theorem tw_min : Cond.code Lib.Math.min.name Lib.Math.min.code 2 (some .int) ∈ zW := zW_in 194 (by decide +kernel) (by decide +kernel)
set_option maxHeartbeats 4000000 in
set_option maxRecDepth 100000 in
theorem c_Cut_isOutside (l : Launch)  (p0 p1 p2 : Int32) (z0 z1 z2 : Int) (h0 : p0.toInt = z0) (h1 : p1.toInt = z1) (h2 : p2.toInt = z2) : Met l y_Cut_isOutside (zw_Cut_isOutside :: zW) ({ frames := 0, cells := 0, slots := 0, locals := 0 }) (va_Pc [.int (p0), .int (p1), .int (p2)] (fun U => True)) (zr (nI (if z0 < z1 ∨ z2 < z0 then 1 else 0))) 0 0 (fun _ => False) := by
  refine Met.ofW (cc := prog_1_method_19_code) (maxL := 3) (ret := (some .boolean)) (by decide) rfl ?_
  intro p e s m args below meth c s₁ B hml hv
  obtain ⟨rfl, -⟩ := hv
  have hx := B.exec
  have hb := B.bytes
  have hr := B.returns
  have hz : ∀ w ∈ zW, w.before ([.int (p0), .int (p1), .int (p2)]).toArray s = true := fun w h => atoms_spec (ws := (zw_Cut_isOutside :: zW)) B.pre w (List.mem_cons_of_mem _ h)
  have hown : s.vm.findClass "CutLengths" = some m.cls := findClass_of_methodNamed B.named
  have hlocks := B.notSynchronized
  have hl := lv_entry ([.int (p0), .int (p1), .int (p2)]) (n := 3) (Nat.le_of_ble_eq_true rfl)
  rw [lg_entry_eq]
  generalize (lg_sl ([.int (p0), .int (p1), .int (p2)]) ++ List.replicate (3 - (lg_sl ([.int (p0), .int (p1), .int (p2)])).length) Slot.unset).toArray = ls at hl ⊢
  have hl : lv_has ls 3 [(0, .int (p0)), (1, .int (p1)), (2, .int (p2))] := hl
  refine lv_iload_n hx hb d_Cut_isOutside_0 rfl (lv_at hl 0 rfl) ?_
  refine lv_iload_n hx hb d_Cut_isOutside_1 rfl (lv_at hl 1 rfl) ?_
  refine lv_icmp_lt (tgt := 10) hx hb d_Cut_isOutside_2 (by decide) (fun c_2 => ?_) (fun c_2 => ?_)
  · have c_2 : z0 < z1 := (zz_lt (h0) (h1)).mp c_2
    refine lv_iconst (v := nI (1)) hx hb d_Cut_isOutside_10 (by decide) ?_
    refine lv_goto (tgt := 15) hx hb d_Cut_isOutside_11 (by decide) ?_
    exact W.zret (v := nI (1)) hx hb hr (rfl) (fun t9 ht hW => zz_r (congrArg nI (if_pos (by omega)).symm) ht) (fun q h => by cases h) d_Cut_isOutside_15
  · have c_2 : ¬ (z0 < z1) := fun q => c_2 ((zz_lt (h0) (h1)).mpr q)
    refine lv_iload_n hx hb d_Cut_isOutside_5 rfl (lv_at hl 0 rfl) ?_
    refine lv_iload_n hx hb d_Cut_isOutside_6 rfl (lv_at hl 2 rfl) ?_
    refine lv_icmp_le (tgt := 14) hx hb d_Cut_isOutside_7 (by decide) (fun c_7 => ?_) (fun c_7 => ?_)
    · have c_7 : z0 ≤ z2 := (zz_le (h0) (h2)).mp c_7
      refine lv_iconst (v := nI (0)) hx hb d_Cut_isOutside_14 (by decide) ?_
      exact W.zret (v := nI (0)) hx hb hr (rfl) (fun t9 ht hW => zz_r (congrArg nI (if_neg (by omega)).symm) ht) (fun q h => by cases h) d_Cut_isOutside_15
    · have c_7 : ¬ (z0 ≤ z2) := fun q => c_7 ((zz_le (h0) (h2)).mpr q)
      refine lv_iconst (v := nI (1)) hx hb d_Cut_isOutside_10 (by decide) ?_
      refine lv_goto (tgt := 15) hx hb d_Cut_isOutside_11 (by decide) ?_
      exact W.zret (v := nI (1)) hx hb hr (rfl) (fun t9 ht hW => zz_r (congrArg nI (if_pos (by omega)).symm) ht) (fun q h => by cases h) d_Cut_isOutside_15
set_option maxHeartbeats 4000000 in
set_option maxRecDepth 100000 in
theorem c_Cut_isSpan (l : Launch)  (p0 p1 : Int32) (z0 z1 : Int) (h0 : p0.toInt = z0) (h1 : p1.toInt = z1) : Met l y_Cut_isSpan (zw_Cut_isSpan :: zW) ({ frames := 0, cells := 0, slots := 0, locals := 0 }) (va_Pc [.int (p0), .int (p1)] (fun U => True)) (zr (nI (if 1 ≤ z0 ∧ z0 ≤ z1 ∧ z1 ≤ 60 then 1 else 0))) 0 0 (fun _ => False) := by
  refine Met.ofW (cc := prog_1_method_20_code) (maxL := 2) (ret := (some .boolean)) (by decide) rfl ?_
  intro p e s m args below meth c s₁ B hml hv
  obtain ⟨rfl, -⟩ := hv
  have hx := B.exec
  have hb := B.bytes
  have hr := B.returns
  have hz : ∀ w ∈ zW, w.before ([.int (p0), .int (p1)]).toArray s = true := fun w h => atoms_spec (ws := (zw_Cut_isSpan :: zW)) B.pre w (List.mem_cons_of_mem _ h)
  have hown : s.vm.findClass "CutLengths" = some m.cls := findClass_of_methodNamed B.named
  have hlocks := B.notSynchronized
  have hl := lv_entry ([.int (p0), .int (p1)]) (n := 2) (Nat.le_of_ble_eq_true rfl)
  rw [lg_entry_eq]
  generalize (lg_sl ([.int (p0), .int (p1)]) ++ List.replicate (2 - (lg_sl ([.int (p0), .int (p1)])).length) Slot.unset).toArray = ls at hl ⊢
  have hl : lv_has ls 2 [(0, .int (p0)), (1, .int (p1))] := hl
  refine lv_iload_n hx hb d_Cut_isSpan_0 rfl (lv_at hl 0 rfl) ?_
  refine lv_iconst (v := nI (1)) hx hb d_Cut_isSpan_1 (by decide) ?_
  refine lv_icmp_lt (tgt := 20) hx hb d_Cut_isSpan_2 (by decide) (fun c_2 => ?_) (fun c_2 => ?_)
  · have c_2 : z0 < (1 : Int) := (zz_lt (h0) ((by decide))).mp c_2
    refine lv_iconst (v := nI (0)) hx hb d_Cut_isSpan_20 (by decide) ?_
    exact W.zret (v := nI (0)) hx hb hr (rfl) (fun t9 ht hW => zz_r (congrArg nI (if_neg (by omega)).symm) ht) (fun q h => by cases h) d_Cut_isSpan_21
  · have c_2 : ¬ (z0 < (1 : Int)) := fun q => c_2 ((zz_lt (h0) ((by decide))).mpr q)
    refine lv_iload_n hx hb d_Cut_isSpan_5 rfl (lv_at hl 0 rfl) ?_
    refine lv_iload_n hx hb d_Cut_isSpan_6 rfl (lv_at hl 1 rfl) ?_
    refine lv_icmp_gt (tgt := 20) hx hb d_Cut_isSpan_7 (by decide) (fun c_7 => ?_) (fun c_7 => ?_)
    · have c_7 : z1 < z0 := (zz_lt (h1) (h0)).mp c_7
      refine lv_iconst (v := nI (0)) hx hb d_Cut_isSpan_20 (by decide) ?_
      exact W.zret (v := nI (0)) hx hb hr (rfl) (fun t9 ht hW => zz_r (congrArg nI (if_neg (by omega)).symm) ht) (fun q h => by cases h) d_Cut_isSpan_21
    · have c_7 : ¬ (z1 < z0) := fun q => c_7 ((zz_lt (h1) (h0)).mpr q)
      refine lv_iload_n hx hb d_Cut_isSpan_10 rfl (lv_at hl 1 rfl) ?_
      refine lv_bipush (v := nI (60)) hx hb d_Cut_isSpan_11 (by decide) ?_
      refine lv_icmp_gt (tgt := 20) hx hb d_Cut_isSpan_13 (by decide) (fun c_13 => ?_) (fun c_13 => ?_)
      · have c_13 : (60 : Int) < z1 := (zz_lt ((by decide)) (h1)).mp c_13
        refine lv_iconst (v := nI (0)) hx hb d_Cut_isSpan_20 (by decide) ?_
        exact W.zret (v := nI (0)) hx hb hr (rfl) (fun t9 ht hW => zz_r (congrArg nI (if_neg (by omega)).symm) ht) (fun q h => by cases h) d_Cut_isSpan_21
      · have c_13 : ¬ ((60 : Int) < z1) := fun q => c_13 ((zz_lt ((by decide)) (h1)).mpr q)
        refine lv_iconst (v := nI (1)) hx hb d_Cut_isSpan_16 (by decide) ?_
        refine lv_goto (tgt := 21) hx hb d_Cut_isSpan_17 (by decide) ?_
        exact W.zret (v := nI (1)) hx hb hr (rfl) (fun t9 ht hW => zz_r (congrArg nI (if_pos (by omega)).symm) ht) (fun q h => by cases h) d_Cut_isSpan_21
set_option maxHeartbeats 4000000 in
set_option maxRecDepth 100000 in
theorem c_Cut_isStretch (l : Launch)  (p0 p1 : Int32) (z0 z1 : Int) (h0 : p0.toInt = z0) (h1 : p1.toInt = z1) : Met l y_Cut_isStretch (zw_Cut_isStretch :: zW) ({ frames := 0, cells := 0, slots := 0, locals := 0 }) (va_Pc [.int (p0), .int (p1)] (fun U => True)) (zr (nI (if 0 ≤ z0 ∧ z0 ≤ z1 ∧ z1 ≤ 300 then 1 else 0))) 0 0 (fun _ => False) := by
  refine Met.ofW (cc := prog_1_method_21_code) (maxL := 2) (ret := (some .boolean)) (by decide) rfl ?_
  intro p e s m args below meth c s₁ B hml hv
  obtain ⟨rfl, -⟩ := hv
  have hx := B.exec
  have hb := B.bytes
  have hr := B.returns
  have hz : ∀ w ∈ zW, w.before ([.int (p0), .int (p1)]).toArray s = true := fun w h => atoms_spec (ws := (zw_Cut_isStretch :: zW)) B.pre w (List.mem_cons_of_mem _ h)
  have hown : s.vm.findClass "CutLengths" = some m.cls := findClass_of_methodNamed B.named
  have hlocks := B.notSynchronized
  have hl := lv_entry ([.int (p0), .int (p1)]) (n := 2) (Nat.le_of_ble_eq_true rfl)
  rw [lg_entry_eq]
  generalize (lg_sl ([.int (p0), .int (p1)]) ++ List.replicate (2 - (lg_sl ([.int (p0), .int (p1)])).length) Slot.unset).toArray = ls at hl ⊢
  have hl : lv_has ls 2 [(0, .int (p0)), (1, .int (p1))] := hl
  refine lv_iload_n hx hb d_Cut_isStretch_0 rfl (lv_at hl 0 rfl) ?_
  refine lv_if_lt (tgt := 20) hx hb d_Cut_isStretch_1 (by decide) (fun c_1 => ?_) (fun c_1 => ?_)
  · have c_1 : z0 < (0 : Int) := (zz_lt (h0) ((by decide))).mp c_1
    refine lv_iconst (v := nI (0)) hx hb d_Cut_isStretch_20 (by decide) ?_
    exact W.zret (v := nI (0)) hx hb hr (rfl) (fun t9 ht hW => zz_r (congrArg nI (if_neg (by omega)).symm) ht) (fun q h => by cases h) d_Cut_isStretch_21
  · have c_1 : ¬ (z0 < (0 : Int)) := fun q => c_1 ((zz_lt (h0) ((by decide))).mpr q)
    refine lv_iload_n hx hb d_Cut_isStretch_4 rfl (lv_at hl 0 rfl) ?_
    refine lv_iload_n hx hb d_Cut_isStretch_5 rfl (lv_at hl 1 rfl) ?_
    refine lv_icmp_gt (tgt := 20) hx hb d_Cut_isStretch_6 (by decide) (fun c_6 => ?_) (fun c_6 => ?_)
    · have c_6 : z1 < z0 := (zz_lt (h1) (h0)).mp c_6
      refine lv_iconst (v := nI (0)) hx hb d_Cut_isStretch_20 (by decide) ?_
      exact W.zret (v := nI (0)) hx hb hr (rfl) (fun t9 ht hW => zz_r (congrArg nI (if_neg (by omega)).symm) ht) (fun q h => by cases h) d_Cut_isStretch_21
    · have c_6 : ¬ (z1 < z0) := fun q => c_6 ((zz_lt (h1) (h0)).mpr q)
      refine lv_iload_n hx hb d_Cut_isStretch_9 rfl (lv_at hl 1 rfl) ?_
      refine lv_sipush (v := nI (300)) hx hb d_Cut_isStretch_10 (by decide) ?_
      refine lv_icmp_gt (tgt := 20) hx hb d_Cut_isStretch_13 (by decide) (fun c_13 => ?_) (fun c_13 => ?_)
      · have c_13 : (300 : Int) < z1 := (zz_lt ((by decide)) (h1)).mp c_13
        refine lv_iconst (v := nI (0)) hx hb d_Cut_isStretch_20 (by decide) ?_
        exact W.zret (v := nI (0)) hx hb hr (rfl) (fun t9 ht hW => zz_r (congrArg nI (if_neg (by omega)).symm) ht) (fun q h => by cases h) d_Cut_isStretch_21
      · have c_13 : ¬ ((300 : Int) < z1) := fun q => c_13 ((zz_lt ((by decide)) (h1)).mpr q)
        refine lv_iconst (v := nI (1)) hx hb d_Cut_isStretch_16 (by decide) ?_
        refine lv_goto (tgt := 21) hx hb d_Cut_isStretch_17 (by decide) ?_
        exact W.zret (v := nI (1)) hx hb hr (rfl) (fun t9 ht hW => zz_r (congrArg nI (if_pos (by omega)).symm) ht) (fun q h => by cases h) d_Cut_isStretch_21
set_option maxHeartbeats 4000000 in
set_option maxRecDepth 100000 in
theorem c_Cut_isWhat (l : Launch)  (p0 : Int32) (z0 : Int) (h0 : p0.toInt = z0) : Met l y_Cut_isWhat (zw_Cut_isWhat :: zW) ({ frames := 0, cells := 0, slots := 0, locals := 0 }) (va_Pc [.int (p0)] (fun U => True)) (zr (nI (if 0 ≤ z0 ∧ z0 ≤ 2 then 1 else 0))) 0 0 (fun _ => False) := by
  refine Met.ofW (cc := prog_1_method_22_code) (maxL := 1) (ret := (some .boolean)) (by decide) rfl ?_
  intro p e s m args below meth c s₁ B hml hv
  obtain ⟨rfl, -⟩ := hv
  have hx := B.exec
  have hb := B.bytes
  have hr := B.returns
  have hz : ∀ w ∈ zW, w.before ([.int (p0)]).toArray s = true := fun w h => atoms_spec (ws := (zw_Cut_isWhat :: zW)) B.pre w (List.mem_cons_of_mem _ h)
  have hown : s.vm.findClass "CutLengths" = some m.cls := findClass_of_methodNamed B.named
  have hlocks := B.notSynchronized
  have hl := lv_entry ([.int (p0)]) (n := 1) (Nat.le_of_ble_eq_true rfl)
  rw [lg_entry_eq]
  generalize (lg_sl ([.int (p0)]) ++ List.replicate (1 - (lg_sl ([.int (p0)])).length) Slot.unset).toArray = ls at hl ⊢
  have hl : lv_has ls 1 [(0, .int (p0))] := hl
  refine lv_iload_n hx hb d_Cut_isWhat_0 rfl (lv_at hl 0 rfl) ?_
  refine lv_if_lt (tgt := 13) hx hb d_Cut_isWhat_1 (by decide) (fun c_1 => ?_) (fun c_1 => ?_)
  · have c_1 : z0 < (0 : Int) := (zz_lt (h0) ((by decide))).mp c_1
    refine lv_iconst (v := nI (0)) hx hb d_Cut_isWhat_13 (by decide) ?_
    exact W.zret (v := nI (0)) hx hb hr (rfl) (fun t9 ht hW => zz_r (congrArg nI (if_neg (by omega)).symm) ht) (fun q h => by cases h) d_Cut_isWhat_14
  · have c_1 : ¬ (z0 < (0 : Int)) := fun q => c_1 ((zz_lt (h0) ((by decide))).mpr q)
    refine lv_iload_n hx hb d_Cut_isWhat_4 rfl (lv_at hl 0 rfl) ?_
    refine lv_iconst (v := nI (2)) hx hb d_Cut_isWhat_5 (by decide) ?_
    refine lv_icmp_gt (tgt := 13) hx hb d_Cut_isWhat_6 (by decide) (fun c_6 => ?_) (fun c_6 => ?_)
    · have c_6 : (2 : Int) < z0 := (zz_lt ((by decide)) (h0)).mp c_6
      refine lv_iconst (v := nI (0)) hx hb d_Cut_isWhat_13 (by decide) ?_
      exact W.zret (v := nI (0)) hx hb hr (rfl) (fun t9 ht hW => zz_r (congrArg nI (if_neg (by omega)).symm) ht) (fun q h => by cases h) d_Cut_isWhat_14
    · have c_6 : ¬ ((2 : Int) < z0) := fun q => c_6 ((zz_lt ((by decide)) (h0)).mpr q)
      refine lv_iconst (v := nI (1)) hx hb d_Cut_isWhat_9 (by decide) ?_
      refine lv_goto (tgt := 14) hx hb d_Cut_isWhat_10 (by decide) ?_
      exact W.zret (v := nI (1)) hx hb hr (rfl) (fun t9 ht hW => zz_r (congrArg nI (if_pos (by omega)).symm) ht) (fun q h => by cases h) d_Cut_isWhat_14
set_option maxHeartbeats 4000000 in
set_option maxRecDepth 100000 in
theorem c_Cut_pick (l : Launch)  (p0 p1 p2 p3 : Int32) (z0 : Int) (h0 : p0.toInt = z0) : Met l y_Cut_pick (zw_Cut_pick :: zW) ({ frames := 0, cells := 0, slots := 0, locals := 0 }) (va_Pc [.int (p0), .int (p1), .int (p2), .int (p3)] (fun U => True)) (zr (if z0 = 0 then p1 else if z0 = 1 then p2 else p3)) 0 0 (fun _ => False) := by
  refine Met.ofW (cc := prog_1_method_23_code) (maxL := 4) (ret := (some .int)) (by decide) rfl ?_
  intro p e s m args below meth c s₁ B hml hv
  obtain ⟨rfl, -⟩ := hv
  have hx := B.exec
  have hb := B.bytes
  have hr := B.returns
  have hz : ∀ w ∈ zW, w.before ([.int (p0), .int (p1), .int (p2), .int (p3)]).toArray s = true := fun w h => atoms_spec (ws := (zw_Cut_pick :: zW)) B.pre w (List.mem_cons_of_mem _ h)
  have hown : s.vm.findClass "CutLengths" = some m.cls := findClass_of_methodNamed B.named
  have hlocks := B.notSynchronized
  have hl := lv_entry ([.int (p0), .int (p1), .int (p2), .int (p3)]) (n := 4) (Nat.le_of_ble_eq_true rfl)
  rw [lg_entry_eq]
  generalize (lg_sl ([.int (p0), .int (p1), .int (p2), .int (p3)]) ++ List.replicate (4 - (lg_sl ([.int (p0), .int (p1), .int (p2), .int (p3)])).length) Slot.unset).toArray = ls at hl ⊢
  have hl : lv_has ls 4 [(0, .int (p0)), (1, .int (p1)), (2, .int (p2)), (3, .int (p3))] := hl
  refine lv_iload_n hx hb d_Cut_pick_0 rfl (lv_at hl 0 rfl) ?_
  refine lv_if_ne (tgt := 6) hx hb d_Cut_pick_1 (by decide) (fun c_1 => ?_) (fun c_1 => ?_)
  · have c_1 : ¬ (z0 = (0 : Int)) := fun q => c_1 ((zz_eq (h0) ((by decide))).mpr q)
    refine lv_iload_n hx hb d_Cut_pick_6 rfl (lv_at hl 0 rfl) ?_
    refine lv_iconst (v := nI (1)) hx hb d_Cut_pick_7 (by decide) ?_
    refine lv_icmp_ne (tgt := 15) hx hb d_Cut_pick_8 (by decide) (fun c_8 => ?_) (fun c_8 => ?_)
    · have c_8 : ¬ (z0 = (1 : Int)) := fun q => c_8 ((zz_eq (h0) ((by decide))).mpr q)
      refine lv_iload_n hx hb d_Cut_pick_15 rfl (lv_at hl 3 rfl) ?_
      exact W.iret (v := p3) hx hb hr (fun t9 ht hW => zz_r ((by first | rw [if_pos (by omega)] | rw [if_neg (by omega), if_pos (by omega)] | rw [if_neg (by omega), if_neg (by omega)])) ht) (fun q h => by cases h) d_Cut_pick_16
    · have c_8 : z0 = (1 : Int) := (zz_eq (h0) ((by decide))).mp c_8
      refine lv_iload_n hx hb d_Cut_pick_11 rfl (lv_at hl 2 rfl) ?_
      refine lv_goto (tgt := 16) hx hb d_Cut_pick_12 (by decide) ?_
      exact W.iret (v := p2) hx hb hr (fun t9 ht hW => zz_r ((by first | rw [if_pos (by omega)] | rw [if_neg (by omega), if_pos (by omega)] | rw [if_neg (by omega), if_neg (by omega)])) ht) (fun q h => by cases h) d_Cut_pick_16
  · have c_1 : z0 = (0 : Int) := (zz_eq (h0) ((by decide))).mp c_1
    refine lv_iload_n hx hb d_Cut_pick_4 rfl (lv_at hl 1 rfl) ?_
    exact W.iret (v := p1) hx hb hr (fun t9 ht hW => zz_r ((by first | rw [if_pos (by omega)] | rw [if_neg (by omega), if_pos (by omega)] | rw [if_neg (by omega), if_neg (by omega)])) ht) (fun q h => by cases h) d_Cut_pick_5
set_option maxHeartbeats 4000000 in
set_option maxRecDepth 100000 in
theorem c_Model_in (l : Launch)  (p0 p1 p2 : Int32) (z0 z1 z2 : Int) (h0 : p0.toInt = z0) (h1 : p1.toInt = z1) (h2 : p2.toInt = z2) : Met l y_Model_in (zw_Model_in :: zW) ({ frames := 0, cells := 0, slots := 0, locals := 0 }) (va_Pc [.int (p0), .int (p1), .int (p2)] (fun U => True)) (zr (nI (if z1 ≤ z0 ∧ z0 ≤ z2 then 1 else 0))) 0 0 (fun _ => False) := by
  refine Met.ofW (cc := prog_7_method_4_code) (maxL := 3) (ret := (some .boolean)) (by decide) rfl ?_
  intro p e s m args below meth c s₁ B hml hv
  obtain ⟨rfl, -⟩ := hv
  have hx := B.exec
  have hb := B.bytes
  have hr := B.returns
  have hz : ∀ w ∈ zW, w.before ([.int (p0), .int (p1), .int (p2)]).toArray s = true := fun w h => atoms_spec (ws := (zw_Model_in :: zW)) B.pre w (List.mem_cons_of_mem _ h)
  have hown : s.vm.findClass "CutLengthsModel" = some m.cls := findClass_of_methodNamed B.named
  have hlocks := B.notSynchronized
  have hl := lv_entry ([.int (p0), .int (p1), .int (p2)]) (n := 3) (Nat.le_of_ble_eq_true rfl)
  rw [lg_entry_eq]
  generalize (lg_sl ([.int (p0), .int (p1), .int (p2)]) ++ List.replicate (3 - (lg_sl ([.int (p0), .int (p1), .int (p2)])).length) Slot.unset).toArray = ls at hl ⊢
  have hl : lv_has ls 3 [(0, .int (p0)), (1, .int (p1)), (2, .int (p2))] := hl
  refine lv_iload_n hx hb d_Model_in_0 rfl (lv_at hl 0 rfl) ?_
  refine lv_iload_n hx hb d_Model_in_1 rfl (lv_at hl 1 rfl) ?_
  refine lv_icmp_lt (tgt := 14) hx hb d_Model_in_2 (by decide) (fun c_2 => ?_) (fun c_2 => ?_)
  · have c_2 : z0 < z1 := (zz_lt (h0) (h1)).mp c_2
    refine lv_iconst (v := nI (0)) hx hb d_Model_in_14 (by decide) ?_
    exact W.zret (v := nI (0)) hx hb hr (rfl) (fun t9 ht hW => zz_r (congrArg nI (if_neg (by omega)).symm) ht) (fun q h => by cases h) d_Model_in_15
  · have c_2 : ¬ (z0 < z1) := fun q => c_2 ((zz_lt (h0) (h1)).mpr q)
    refine lv_iload_n hx hb d_Model_in_5 rfl (lv_at hl 0 rfl) ?_
    refine lv_iload_n hx hb d_Model_in_6 rfl (lv_at hl 2 rfl) ?_
    refine lv_icmp_gt (tgt := 14) hx hb d_Model_in_7 (by decide) (fun c_7 => ?_) (fun c_7 => ?_)
    · have c_7 : z2 < z0 := (zz_lt (h2) (h0)).mp c_7
      refine lv_iconst (v := nI (0)) hx hb d_Model_in_14 (by decide) ?_
      exact W.zret (v := nI (0)) hx hb hr (rfl) (fun t9 ht hW => zz_r (congrArg nI (if_neg (by omega)).symm) ht) (fun q h => by cases h) d_Model_in_15
    · have c_7 : ¬ (z2 < z0) := fun q => c_7 ((zz_lt (h2) (h0)).mpr q)
      refine lv_iconst (v := nI (1)) hx hb d_Model_in_10 (by decide) ?_
      refine lv_goto (tgt := 15) hx hb d_Model_in_11 (by decide) ?_
      exact W.zret (v := nI (1)) hx hb hr (rfl) (fun t9 ht hW => zz_r (congrArg nI (if_pos (by omega)).symm) ht) (fun q h => by cases h) d_Model_in_15
set_option maxHeartbeats 4000000 in
set_option maxRecDepth 100000 in
theorem c_Model_isSpan (l : Launch)  (p0 p1 : Int32) (z0 z1 : Int) (h0 : p0.toInt = z0) (h1 : p1.toInt = z1) : Met l y_Model_isSpan (zw_Model_isSpan :: zW) ({ frames := 1, cells := 0, slots := 0, locals := 22 }) (va_Pc [.int (p0), .int (p1)] (fun U => True)) (zr (nI (if (1 ≤ z0 ∧ z0 ≤ 60) ∧ z0 ≤ z1 ∧ z1 ≤ 60 then 1 else 0))) 0 0 (fun _ => False) := by
  refine Met.ofW (cc := prog_7_method_7_code) (maxL := 2) (ret := (some .boolean)) (by decide) rfl ?_
  intro p e s m args below meth c s₁ B hml hv
  obtain ⟨rfl, -⟩ := hv
  have hx := B.exec
  have hb := B.bytes
  have hr := B.returns
  have hz : ∀ w ∈ zW, w.before ([.int (p0), .int (p1)]).toArray s = true := fun w h => atoms_spec (ws := (zw_Model_isSpan :: zW)) B.pre w (List.mem_cons_of_mem _ h)
  have hown : s.vm.findClass "CutLengthsModel" = some m.cls := findClass_of_methodNamed B.named
  have hlocks := B.notSynchronized
  have hl := lv_entry ([.int (p0), .int (p1)]) (n := 2) (Nat.le_of_ble_eq_true rfl)
  rw [lg_entry_eq]
  generalize (lg_sl ([.int (p0), .int (p1)]) ++ List.replicate (2 - (lg_sl ([.int (p0), .int (p1)])).length) Slot.unset).toArray = ls at hl ⊢
  have hl : lv_has ls 2 [(0, .int (p0)), (1, .int (p1))] := hl
  refine lv_iload_n hx hb d_Model_isSpan_0 rfl (lv_at hl 0 rfl) ?_
  refine lv_iconst (v := nI (1)) hx hb d_Model_isSpan_1 (by decide) ?_
  refine lv_bipush (v := nI (60)) hx hb d_Model_isSpan_2 (by decide) ?_
  refine zz_ro (va_runS (As := [.int (p0), .int (nI (1)), .int (nI (60))]) (rest := []) ⟨hx, hb, hml, hown, hz⟩ (c_Model_in l (p0) (nI (1)) (nI (60)) (z0) ((1 : Int)) ((60 : Int)) (h0) ((by decide)) ((by decide))) (va_cwS 3 hz (zgS tw_563 tw_564 tw_20 tw_565) rfl rfl rfl (by decide +kernel) ⟨Nat.le_of_ble_eq_true rfl, Nat.le_of_ble_eq_true rfl⟩) ⟨fun _ _ _ _ q => q, fun U hU hW => ⟨rfl, trivial⟩⟩ rfl rfl hl.1 rfl (lv_room (Nat.le_of_ble_eq_true rfl)) d_Model_isSpan_4 ⟨Nat.zero_le _, Nat.zero_le _⟩) ?_
  by_cases q_4 : ((1 : Int)) ≤ (z0) ∧ (z0) ≤ ((60 : Int))
  · refine zz_top (congrArg nI (if_pos q_4)) ?_
    refine lv_if_eq (tgt := 24) hx hb d_Model_isSpan_7 (by decide) (fun c9 => absurd c9 (by decide)) (fun _ => ?_)
    refine lv_iload_n hx hb d_Model_isSpan_10 rfl (lv_at hl 1 rfl) ?_
    refine lv_iload_n hx hb d_Model_isSpan_11 rfl (lv_at hl 0 rfl) ?_
    refine lv_bipush (v := nI (60)) hx hb d_Model_isSpan_12 (by decide) ?_
    refine zz_ro (va_runS (As := [.int (p1), .int (p0), .int (nI (60))]) (rest := []) ⟨hx, hb, hml, hown, hz⟩ (c_Model_in l (p1) (p0) (nI (60)) (z1) (z0) ((60 : Int)) (h1) (h0) ((by decide))) (va_cwS 3 hz (zgS tw_563 tw_564 tw_20 tw_565) rfl rfl rfl (by decide +kernel) ⟨Nat.le_of_ble_eq_true rfl, Nat.le_of_ble_eq_true rfl⟩) ⟨fun _ _ _ _ q => q, fun U hU hW => ⟨rfl, trivial⟩⟩ rfl rfl hl.1 rfl (lv_room (Nat.le_of_ble_eq_true rfl)) d_Model_isSpan_14 ⟨Nat.zero_le _, Nat.zero_le _⟩) ?_
    by_cases q_14 : (z0) ≤ (z1) ∧ (z1) ≤ ((60 : Int))
    · refine zz_top (congrArg nI (if_pos q_14)) ?_
      refine lv_if_eq (tgt := 24) hx hb d_Model_isSpan_17 (by decide) (fun c9 => absurd c9 (by decide)) (fun _ => ?_)
      refine lv_iconst (v := nI (1)) hx hb d_Model_isSpan_20 (by decide) ?_
      refine lv_goto (tgt := 25) hx hb d_Model_isSpan_21 (by decide) ?_
      exact W.zret (v := nI (1)) hx hb hr (rfl) (fun t9 ht hW => zz_r (congrArg nI (if_pos (by omega)).symm) ht) (fun q h => by cases h) d_Model_isSpan_25
    · refine zz_top (congrArg nI (if_neg q_14)) ?_
      refine lv_if_eq (tgt := 24) hx hb d_Model_isSpan_17 (by decide) (fun _ => ?_) (fun c9 => absurd c9 (by decide))
      refine lv_iconst (v := nI (0)) hx hb d_Model_isSpan_24 (by decide) ?_
      exact W.zret (v := nI (0)) hx hb hr (rfl) (fun t9 ht hW => zz_r (congrArg nI (if_neg (by omega)).symm) ht) (fun q h => by cases h) d_Model_isSpan_25
  · refine zz_top (congrArg nI (if_neg q_4)) ?_
    refine lv_if_eq (tgt := 24) hx hb d_Model_isSpan_7 (by decide) (fun _ => ?_) (fun c9 => absurd c9 (by decide))
    refine lv_iconst (v := nI (0)) hx hb d_Model_isSpan_24 (by decide) ?_
    exact W.zret (v := nI (0)) hx hb hr (rfl) (fun t9 ht hW => zz_r (congrArg nI (if_neg (by omega)).symm) ht) (fun q h => by cases h) d_Model_isSpan_25
set_option maxHeartbeats 4000000 in
set_option maxRecDepth 100000 in
theorem c_Model_isRow (l : Launch)  (p0 p1 : Int32) (z0 z1 : Int) (h0 : p0.toInt = z0) (h1 : p1.toInt = z1) : Met l y_Model_isRow (zw_Model_isRow :: zW) ({ frames := 1, cells := 0, slots := 0, locals := 22 }) (va_Pc [.int (p0), .int (p1)] (fun U => True)) (zr (nI (if (0 ≤ z0 ∧ z0 ≤ 300) ∧ z0 ≤ z1 ∧ z1 ≤ 300 then 1 else 0))) 0 0 (fun _ => False) := by
  refine Met.ofW (cc := prog_7_method_11_code) (maxL := 2) (ret := (some .boolean)) (by decide) rfl ?_
  intro p e s m args below meth c s₁ B hml hv
  obtain ⟨rfl, -⟩ := hv
  have hx := B.exec
  have hb := B.bytes
  have hr := B.returns
  have hz : ∀ w ∈ zW, w.before ([.int (p0), .int (p1)]).toArray s = true := fun w h => atoms_spec (ws := (zw_Model_isRow :: zW)) B.pre w (List.mem_cons_of_mem _ h)
  have hown : s.vm.findClass "CutLengthsModel" = some m.cls := findClass_of_methodNamed B.named
  have hlocks := B.notSynchronized
  have hl := lv_entry ([.int (p0), .int (p1)]) (n := 2) (Nat.le_of_ble_eq_true rfl)
  rw [lg_entry_eq]
  generalize (lg_sl ([.int (p0), .int (p1)]) ++ List.replicate (2 - (lg_sl ([.int (p0), .int (p1)])).length) Slot.unset).toArray = ls at hl ⊢
  have hl : lv_has ls 2 [(0, .int (p0)), (1, .int (p1))] := hl
  refine lv_iload_n hx hb d_Model_isRow_0 rfl (lv_at hl 0 rfl) ?_
  refine lv_iconst (v := nI (0)) hx hb d_Model_isRow_1 (by decide) ?_
  refine lv_sipush (v := nI (300)) hx hb d_Model_isRow_2 (by decide) ?_
  refine zz_ro (va_runS (As := [.int (p0), .int (nI (0)), .int (nI (300))]) (rest := []) ⟨hx, hb, hml, hown, hz⟩ (c_Model_in l (p0) (nI (0)) (nI (300)) (z0) ((0 : Int)) ((300 : Int)) (h0) ((by decide)) ((by decide))) (va_cwS 3 hz (zgS tw_563 tw_564 tw_20 tw_565) rfl rfl rfl (by decide +kernel) ⟨Nat.le_of_ble_eq_true rfl, Nat.le_of_ble_eq_true rfl⟩) ⟨fun _ _ _ _ q => q, fun U hU hW => ⟨rfl, trivial⟩⟩ rfl rfl hl.1 rfl (lv_room (Nat.le_of_ble_eq_true rfl)) d_Model_isRow_5 ⟨Nat.zero_le _, Nat.zero_le _⟩) ?_
  by_cases q_5 : ((0 : Int)) ≤ (z0) ∧ (z0) ≤ ((300 : Int))
  · refine zz_top (congrArg nI (if_pos q_5)) ?_
    refine lv_if_eq (tgt := 26) hx hb d_Model_isRow_8 (by decide) (fun c9 => absurd c9 (by decide)) (fun _ => ?_)
    refine lv_iload_n hx hb d_Model_isRow_11 rfl (lv_at hl 1 rfl) ?_
    refine lv_iload_n hx hb d_Model_isRow_12 rfl (lv_at hl 0 rfl) ?_
    refine lv_sipush (v := nI (300)) hx hb d_Model_isRow_13 (by decide) ?_
    refine zz_ro (va_runS (As := [.int (p1), .int (p0), .int (nI (300))]) (rest := []) ⟨hx, hb, hml, hown, hz⟩ (c_Model_in l (p1) (p0) (nI (300)) (z1) (z0) ((300 : Int)) (h1) (h0) ((by decide))) (va_cwS 3 hz (zgS tw_563 tw_564 tw_20 tw_565) rfl rfl rfl (by decide +kernel) ⟨Nat.le_of_ble_eq_true rfl, Nat.le_of_ble_eq_true rfl⟩) ⟨fun _ _ _ _ q => q, fun U hU hW => ⟨rfl, trivial⟩⟩ rfl rfl hl.1 rfl (lv_room (Nat.le_of_ble_eq_true rfl)) d_Model_isRow_16 ⟨Nat.zero_le _, Nat.zero_le _⟩) ?_
    by_cases q_16 : (z0) ≤ (z1) ∧ (z1) ≤ ((300 : Int))
    · refine zz_top (congrArg nI (if_pos q_16)) ?_
      refine lv_if_eq (tgt := 26) hx hb d_Model_isRow_19 (by decide) (fun c9 => absurd c9 (by decide)) (fun _ => ?_)
      refine lv_iconst (v := nI (1)) hx hb d_Model_isRow_22 (by decide) ?_
      refine lv_goto (tgt := 27) hx hb d_Model_isRow_23 (by decide) ?_
      exact W.zret (v := nI (1)) hx hb hr (rfl) (fun t9 ht hW => zz_r (congrArg nI (if_pos (by omega)).symm) ht) (fun q h => by cases h) d_Model_isRow_27
    · refine zz_top (congrArg nI (if_neg q_16)) ?_
      refine lv_if_eq (tgt := 26) hx hb d_Model_isRow_19 (by decide) (fun _ => ?_) (fun c9 => absurd c9 (by decide))
      refine lv_iconst (v := nI (0)) hx hb d_Model_isRow_26 (by decide) ?_
      exact W.zret (v := nI (0)) hx hb hr (rfl) (fun t9 ht hW => zz_r (congrArg nI (if_neg (by omega)).symm) ht) (fun q h => by cases h) d_Model_isRow_27
  · refine zz_top (congrArg nI (if_neg q_5)) ?_
    refine lv_if_eq (tgt := 26) hx hb d_Model_isRow_8 (by decide) (fun _ => ?_) (fun c9 => absurd c9 (by decide))
    refine lv_iconst (v := nI (0)) hx hb d_Model_isRow_26 (by decide) ?_
    exact W.zret (v := nI (0)) hx hb hr (rfl) (fun t9 ht hW => zz_r (congrArg nI (if_neg (by omega)).symm) ht) (fun q h => by cases h) d_Model_isRow_27
end
section
/-! READING METHODS of the class (rows written by wip/whole/mk_class.py) -/
/-- what always holds of the class's numbers -/
def zI (v : Nat → Nat) (f : Nat → Nat → Nat) : Prop :=
  v 3 ≤ 300 ∧ v 4 ≤ v 3 ∧ v 5 ≤ 300 ∧ v 6 ≤ 300 ∧ v 7 ≤ 20 ∧ v 8 ≤ 20 ∧ v 9 ≤ 6 ∧ v 10 ≤ 100 ∧ v 2 ≤ 1 ∧ v 0 ≤ 65536 ∧ v 1 ≤ 100000 ∧
  (∀ k, k < v 9 → 1 ≤ f 2 k ∧ f 2 k ≤ f 3 k ∧ f 3 k ≤ 60) ∧ (∀ p, f 0 p ≤ 1) ∧ (∀ p, f 1 p ≤ 1) ∧ ∀ k, k < v 10 → f 6 k ≤ 300 ∧ f 7 k ≤ 300
set_option maxHeartbeats 4000000 in
set_option maxRecDepth 100000 in
theorem c_Strand_isSound (l : Launch) (dC : Nat → ClassId) (dI : Nat → Nat → Nat) (a : Nat → Nat) (cI cZ : ClassId) (v : Nat → Nat) (f : Nat → Nat → Nat) (w : Nat → Nat → Int32) (j : Nat) (hj : j < 300) (hI : zI v f) : Met l y_Strand_isSound (zw_Strand_isSound :: zW) ({ frames := 0, cells := 0, slots := 0, locals := 0 }) (va_Pc [.ref (a 1), .int (nI (j))] (fun U => va_P (dC, dI) vwCl (wC a cI cZ v f w) U.heap ∧ va_K (dC, dI) vwCl [(cI, .int), (cZ, .boolean)] U)) (zr (nI (if v 5 ≤ j ∧ j + v 6 < v 3 ∧ f 0 j = 0 then 1 else 0))) 0 0 (fun _ => False) := by
  refine Met.ofW (cc := prog_4_method_4_code) (maxL := 2) (ret := (some .boolean)) (by decide) rfl ?_
  intro p e s m args below meth c s₁ B hml hv
  obtain ⟨rfl, hP, hK⟩ := hv
  have hx := B.exec
  have hb := B.bytes
  have hr := B.returns
  have hz : ∀ w ∈ zW, w.before ([.ref (a 1), .int (nI (j))]).toArray s = true := fun w h => atoms_spec (ws := (zw_Strand_isSound :: zW)) B.pre w (List.mem_cons_of_mem _ h)
  have hown : s.vm.findClass "CutLengths$Strand" = some m.cls := findClass_of_methodNamed B.named
  have hlocks := B.notSynchronized
  obtain ⟨i3, i4, i5, i6, i7, i8, i9, i10, i2, i0, i1, iw, ib, ic, isl⟩ := id hI
  have hb9 := ib j
  have hl := lv_entry ([.ref (a 1), .int (nI (j))]) (n := 2) (Nat.le_of_ble_eq_true rfl)
  rw [lg_entry_eq]
  generalize (lg_sl ([.ref (a 1), .int (nI (j))]) ++ List.replicate (2 - (lg_sl ([.ref (a 1), .int (nI (j))])).length) Slot.unset).toArray = ls at hl ⊢
  have hl : lv_has ls 2 [(0, .ref (a 1)), (1, .int (nI (j)))] := hl
  refine lv_iload_n hx hb d_Strand_isSound_0 rfl (lv_at hl 1 rfl) ?_
  refine lv_aload_n hx hb d_Strand_isSound_1 rfl (lv_at hl 0 rfl) ?_
  refine va_get (D := (dC, dI)) (ci := 1) (v := .int (nI (v 5))) (C := "CutLengths$Strand") (T := T_Strand) (N := 8) hx hb hz i_Strand hown hK hP 1 rfl rfl 2 (by decide) (hz _ tw_49) (fun _ h9 => h9) rfl d_Strand_isSound_2 ?_
  refine lv_icmp_lt (tgt := 34) hx hb d_Strand_isSound_5 (by decide) (fun c_5 => ?_) (fun c_5 => ?_)
  · have c_5 : ((j : Nat) : Int) < ((v 5 : Nat) : Int) := (zz_lt (nI_toInt (by omega)) (nI_toInt (by omega))).mp c_5
    refine lv_iconst (v := nI (0)) hx hb d_Strand_isSound_34 (by decide) ?_
    exact W.zret (v := nI (0)) hx hb hr (rfl) (fun t9 ht hW => zz_r (congrArg nI (if_neg (by omega)).symm) ht) (fun q h => by cases h) d_Strand_isSound_35
  · have c_5 : ¬ (((j : Nat) : Int) < ((v 5 : Nat) : Int)) := fun q => c_5 ((zz_lt (nI_toInt (by omega)) (nI_toInt (by omega))).mpr q)
    refine lv_iload_n hx hb d_Strand_isSound_8 rfl (lv_at hl 1 rfl) ?_
    refine lv_aload_n hx hb d_Strand_isSound_9 rfl (lv_at hl 0 rfl) ?_
    refine va_get (D := (dC, dI)) (ci := 1) (v := .int (nI (v 3))) (C := "CutLengths$Strand") (T := T_Strand) (N := 8) hx hb hz i_Strand hown hK hP 1 rfl rfl 0 (by decide) (hz _ tw_43) (fun _ h9 => h9) rfl d_Strand_isSound_10 ?_
    refine lv_aload_n hx hb d_Strand_isSound_13 rfl (lv_at hl 0 rfl) ?_
    refine va_get (D := (dC, dI)) (ci := 1) (v := .int (nI (v 6))) (C := "CutLengths$Strand") (T := T_Strand) (N := 8) hx hb hz i_Strand hown hK hP 1 rfl rfl 3 (by decide) (hz _ tw_51) (fun _ h9 => h9) rfl d_Strand_isSound_14 ?_
    refine lv_isub hx hb d_Strand_isSound_17 ?_
    refine lv_icmp_ge (tgt := 34) hx hb d_Strand_isSound_18 (by decide) (fun c_18 => ?_) (fun c_18 => ?_)
    · have c_18 : ((v 3 : Nat) : Int) - ((v 6 : Nat) : Int) ≤ ((j : Nat) : Int) := (zz_le (pk_sub_toInt (by omega) (by omega)) (nI_toInt (by omega))).mp c_18
      refine lv_iconst (v := nI (0)) hx hb d_Strand_isSound_34 (by decide) ?_
      exact W.zret (v := nI (0)) hx hb hr (rfl) (fun t9 ht hW => zz_r (congrArg nI (if_neg (by omega)).symm) ht) (fun q h => by cases h) d_Strand_isSound_35
    · have c_18 : ¬ (((v 3 : Nat) : Int) - ((v 6 : Nat) : Int) ≤ ((j : Nat) : Int)) := fun q => c_18 ((zz_le (pk_sub_toInt (by omega) (by omega)) (nI_toInt (by omega))).mpr q)
      refine lv_aload_n hx hb d_Strand_isSound_21 rfl (lv_at hl 0 rfl) ?_
      refine va_get (D := (dC, dI)) (ci := 1) (v := .ref (a 2)) (C := "CutLengths$Strand") (T := T_Strand) (N := 8) hx hb hz i_Strand hown hK hP 1 rfl rfl 6 (by decide) (hz _ tw_57) (fun _ h9 => h9) rfl d_Strand_isSound_22 ?_
      refine lv_iload_n hx hb d_Strand_isSound_25 rfl (lv_at hl 1 rfl) ?_
      refine zz_zald hx hb hK hP 2 1 (f := f 0) (i := j) rfl rfl (by omega) (by decide) d_Strand_isSound_26 ?_
      refine lv_if_ne (tgt := 34) hx hb d_Strand_isSound_27 (by decide) (fun c_27 => ?_) (fun c_27 => ?_)
      · have c_27 : ¬ (((f 0 j : Nat) : Int) = (0 : Int)) := fun q => c_27 ((zz_eq (nI_toInt (by omega)) ((by decide))).mpr q)
        refine lv_iconst (v := nI (0)) hx hb d_Strand_isSound_34 (by decide) ?_
        exact W.zret (v := nI (0)) hx hb hr (rfl) (fun t9 ht hW => zz_r (congrArg nI (if_neg (by omega)).symm) ht) (fun q h => by cases h) d_Strand_isSound_35
      · have c_27 : ((f 0 j : Nat) : Int) = (0 : Int) := (zz_eq (nI_toInt (by omega)) ((by decide))).mp c_27
        refine lv_iconst (v := nI (1)) hx hb d_Strand_isSound_30 (by decide) ?_
        refine lv_goto (tgt := 35) hx hb d_Strand_isSound_31 (by decide) ?_
        exact W.zret (v := nI (1)) hx hb hr (rfl) (fun t9 ht hW => zz_r (congrArg nI (if_pos (by omega)).symm) ht) (fun q h => by cases h) d_Strand_isSound_35
set_option maxHeartbeats 4000000 in
set_option maxRecDepth 100000 in
theorem c_Strand_pieceMayBegin (l : Launch) (dC : Nat → ClassId) (dI : Nat → Nat → Nat) (a : Nat → Nat) (cI cZ : ClassId) (v : Nat → Nat) (f : Nat → Nat → Nat) (w : Nat → Nat → Int32) (j : Nat) (hj : j < 301) (hI : zI v f) : Met l y_Strand_pieceMayBegin (zw_Strand_pieceMayBegin :: zW) ({ frames := 0, cells := 0, slots := 0, locals := 0 }) (va_Pc [.ref (a 1), .int (nI (j))] (fun U => va_P (dC, dI) vwCl (wC a cI cZ v f w) U.heap ∧ va_K (dC, dI) vwCl [(cI, .int), (cZ, .boolean)] U)) (zr (nI (if j = v 4 ∨ f 1 j = 0 then 1 else 0))) 0 0 (fun _ => False) := by
  refine Met.ofW (cc := prog_4_method_5_code) (maxL := 2) (ret := (some .boolean)) (by decide) rfl ?_
  intro p e s m args below meth c s₁ B hml hv
  obtain ⟨rfl, hP, hK⟩ := hv
  have hx := B.exec
  have hb := B.bytes
  have hr := B.returns
  have hz : ∀ w ∈ zW, w.before ([.ref (a 1), .int (nI (j))]).toArray s = true := fun w h => atoms_spec (ws := (zw_Strand_pieceMayBegin :: zW)) B.pre w (List.mem_cons_of_mem _ h)
  have hown : s.vm.findClass "CutLengths$Strand" = some m.cls := findClass_of_methodNamed B.named
  have hlocks := B.notSynchronized
  obtain ⟨i3, i4, i5, i6, i7, i8, i9, i10, i2, i0, i1, iw, ib, ic, isl⟩ := id hI
  have hb9 := ic j
  have hl := lv_entry ([.ref (a 1), .int (nI (j))]) (n := 2) (Nat.le_of_ble_eq_true rfl)
  rw [lg_entry_eq]
  generalize (lg_sl ([.ref (a 1), .int (nI (j))]) ++ List.replicate (2 - (lg_sl ([.ref (a 1), .int (nI (j))])).length) Slot.unset).toArray = ls at hl ⊢
  have hl : lv_has ls 2 [(0, .ref (a 1)), (1, .int (nI (j)))] := hl
  refine lv_iload_n hx hb d_Strand_pieceMayBegin_0 rfl (lv_at hl 1 rfl) ?_
  refine lv_aload_n hx hb d_Strand_pieceMayBegin_1 rfl (lv_at hl 0 rfl) ?_
  refine va_get (D := (dC, dI)) (ci := 1) (v := .int (nI (v 4))) (C := "CutLengths$Strand") (T := T_Strand) (N := 8) hx hb hz i_Strand hown hK hP 1 rfl rfl 1 (by decide) (hz _ tw_46) (fun _ h9 => h9) rfl d_Strand_pieceMayBegin_2 ?_
  refine lv_icmp_eq (tgt := 17) hx hb d_Strand_pieceMayBegin_5 (by decide) (fun c_5 => ?_) (fun c_5 => ?_)
  · have c_5 : ((j : Nat) : Int) = ((v 4 : Nat) : Int) := (zz_eq (nI_toInt (by omega)) (nI_toInt (by omega))).mp c_5
    refine lv_iconst (v := nI (1)) hx hb d_Strand_pieceMayBegin_17 (by decide) ?_
    refine lv_goto (tgt := 22) hx hb d_Strand_pieceMayBegin_18 (by decide) ?_
    exact W.zret (v := nI (1)) hx hb hr (rfl) (fun t9 ht hW => zz_r (congrArg nI (if_pos (by omega)).symm) ht) (fun q h => by cases h) d_Strand_pieceMayBegin_22
  · have c_5 : ¬ (((j : Nat) : Int) = ((v 4 : Nat) : Int)) := fun q => c_5 ((zz_eq (nI_toInt (by omega)) (nI_toInt (by omega))).mpr q)
    refine lv_aload_n hx hb d_Strand_pieceMayBegin_8 rfl (lv_at hl 0 rfl) ?_
    refine va_get (D := (dC, dI)) (ci := 1) (v := .ref (a 3)) (C := "CutLengths$Strand") (T := T_Strand) (N := 8) hx hb hz i_Strand hown hK hP 1 rfl rfl 7 (by decide) (hz _ tw_58) (fun _ h9 => h9) rfl d_Strand_pieceMayBegin_9 ?_
    refine lv_iload_n hx hb d_Strand_pieceMayBegin_12 rfl (lv_at hl 1 rfl) ?_
    refine zz_zald hx hb hK hP 3 1 (f := f 1) (i := j) rfl rfl (by omega) (by decide) d_Strand_pieceMayBegin_13 ?_
    refine lv_if_ne (tgt := 21) hx hb d_Strand_pieceMayBegin_14 (by decide) (fun c_14 => ?_) (fun c_14 => ?_)
    · have c_14 : ¬ (((f 1 j : Nat) : Int) = (0 : Int)) := fun q => c_14 ((zz_eq (nI_toInt (by omega)) ((by decide))).mpr q)
      refine lv_iconst (v := nI (0)) hx hb d_Strand_pieceMayBegin_21 (by decide) ?_
      exact W.zret (v := nI (0)) hx hb hr (rfl) (fun t9 ht hW => zz_r (congrArg nI (if_neg (by omega)).symm) ht) (fun q h => by cases h) d_Strand_pieceMayBegin_22
    · have c_14 : ((f 1 j : Nat) : Int) = (0 : Int) := (zz_eq (nI_toInt (by omega)) ((by decide))).mp c_14
      refine lv_iconst (v := nI (1)) hx hb d_Strand_pieceMayBegin_17 (by decide) ?_
      refine lv_goto (tgt := 22) hx hb d_Strand_pieceMayBegin_18 (by decide) ?_
      exact W.zret (v := nI (1)) hx hb hr (rfl) (fun t9 ht hW => zz_r (congrArg nI (if_pos (by omega)).symm) ht) (fun q h => by cases h) d_Strand_pieceMayBegin_22
set_option maxHeartbeats 4000000 in
set_option maxRecDepth 100000 in
theorem c_Strand_pieceMayEnd (l : Launch) (dC : Nat → ClassId) (dI : Nat → Nat → Nat) (a : Nat → Nat) (cI cZ : ClassId) (v : Nat → Nat) (f : Nat → Nat → Nat) (w : Nat → Nat → Int32) (j : Nat) (hj : j < 301) (hI : zI v f) : Met l y_Strand_pieceMayEnd (zw_Strand_pieceMayEnd :: zW) ({ frames := 0, cells := 0, slots := 0, locals := 0 }) (va_Pc [.ref (a 1), .int (nI (j))] (fun U => va_P (dC, dI) vwCl (wC a cI cZ v f w) U.heap ∧ va_K (dC, dI) vwCl [(cI, .int), (cZ, .boolean)] U)) (zr (nI (if j = v 3 ∨ f 1 j = 0 then 1 else 0))) 0 0 (fun _ => False) := by
  refine Met.ofW (cc := prog_4_method_6_code) (maxL := 2) (ret := (some .boolean)) (by decide) rfl ?_
  intro p e s m args below meth c s₁ B hml hv
  obtain ⟨rfl, hP, hK⟩ := hv
  have hx := B.exec
  have hb := B.bytes
  have hr := B.returns
  have hz : ∀ w ∈ zW, w.before ([.ref (a 1), .int (nI (j))]).toArray s = true := fun w h => atoms_spec (ws := (zw_Strand_pieceMayEnd :: zW)) B.pre w (List.mem_cons_of_mem _ h)
  have hown : s.vm.findClass "CutLengths$Strand" = some m.cls := findClass_of_methodNamed B.named
  have hlocks := B.notSynchronized
  obtain ⟨i3, i4, i5, i6, i7, i8, i9, i10, i2, i0, i1, iw, ib, ic, isl⟩ := id hI
  have hb9 := ic j
  have hl := lv_entry ([.ref (a 1), .int (nI (j))]) (n := 2) (Nat.le_of_ble_eq_true rfl)
  rw [lg_entry_eq]
  generalize (lg_sl ([.ref (a 1), .int (nI (j))]) ++ List.replicate (2 - (lg_sl ([.ref (a 1), .int (nI (j))])).length) Slot.unset).toArray = ls at hl ⊢
  have hl : lv_has ls 2 [(0, .ref (a 1)), (1, .int (nI (j)))] := hl
  refine lv_iload_n hx hb d_Strand_pieceMayEnd_0 rfl (lv_at hl 1 rfl) ?_
  refine lv_aload_n hx hb d_Strand_pieceMayEnd_1 rfl (lv_at hl 0 rfl) ?_
  refine va_get (D := (dC, dI)) (ci := 1) (v := .int (nI (v 3))) (C := "CutLengths$Strand") (T := T_Strand) (N := 8) hx hb hz i_Strand hown hK hP 1 rfl rfl 0 (by decide) (hz _ tw_43) (fun _ h9 => h9) rfl d_Strand_pieceMayEnd_2 ?_
  refine lv_icmp_eq (tgt := 17) hx hb d_Strand_pieceMayEnd_5 (by decide) (fun c_5 => ?_) (fun c_5 => ?_)
  · have c_5 : ((j : Nat) : Int) = ((v 3 : Nat) : Int) := (zz_eq (nI_toInt (by omega)) (nI_toInt (by omega))).mp c_5
    refine lv_iconst (v := nI (1)) hx hb d_Strand_pieceMayEnd_17 (by decide) ?_
    refine lv_goto (tgt := 22) hx hb d_Strand_pieceMayEnd_18 (by decide) ?_
    exact W.zret (v := nI (1)) hx hb hr (rfl) (fun t9 ht hW => zz_r (congrArg nI (if_pos (by omega)).symm) ht) (fun q h => by cases h) d_Strand_pieceMayEnd_22
  · have c_5 : ¬ (((j : Nat) : Int) = ((v 3 : Nat) : Int)) := fun q => c_5 ((zz_eq (nI_toInt (by omega)) (nI_toInt (by omega))).mpr q)
    refine lv_aload_n hx hb d_Strand_pieceMayEnd_8 rfl (lv_at hl 0 rfl) ?_
    refine va_get (D := (dC, dI)) (ci := 1) (v := .ref (a 3)) (C := "CutLengths$Strand") (T := T_Strand) (N := 8) hx hb hz i_Strand hown hK hP 1 rfl rfl 7 (by decide) (hz _ tw_58) (fun _ h9 => h9) rfl d_Strand_pieceMayEnd_9 ?_
    refine lv_iload_n hx hb d_Strand_pieceMayEnd_12 rfl (lv_at hl 1 rfl) ?_
    refine zz_zald hx hb hK hP 3 1 (f := f 1) (i := j) rfl rfl (by omega) (by decide) d_Strand_pieceMayEnd_13 ?_
    refine lv_if_ne (tgt := 21) hx hb d_Strand_pieceMayEnd_14 (by decide) (fun c_14 => ?_) (fun c_14 => ?_)
    · have c_14 : ¬ (((f 1 j : Nat) : Int) = (0 : Int)) := fun q => c_14 ((zz_eq (nI_toInt (by omega)) ((by decide))).mpr q)
      refine lv_iconst (v := nI (0)) hx hb d_Strand_pieceMayEnd_21 (by decide) ?_
      exact W.zret (v := nI (0)) hx hb hr (rfl) (fun t9 ht hW => zz_r (congrArg nI (if_neg (by omega)).symm) ht) (fun q h => by cases h) d_Strand_pieceMayEnd_22
    · have c_14 : ((f 1 j : Nat) : Int) = (0 : Int) := (zz_eq (nI_toInt (by omega)) ((by decide))).mp c_14
      refine lv_iconst (v := nI (1)) hx hb d_Strand_pieceMayEnd_17 (by decide) ?_
      refine lv_goto (tgt := 22) hx hb d_Strand_pieceMayEnd_18 (by decide) ?_
      exact W.zret (v := nI (1)) hx hb hr (rfl) (fun t9 ht hW => zz_r (congrArg nI (if_pos (by omega)).symm) ht) (fun q h => by cases h) d_Strand_pieceMayEnd_22
set_option maxHeartbeats 4000000 in
set_option maxRecDepth 100000 in
theorem c_Plan_isBetter (l : Launch) (dC : Nat → ClassId) (dI : Nat → Nat → Nat) (a : Nat → Nat) (cI cZ : ClassId) (v : Nat → Nat) (f : Nat → Nat → Nat) (w : Nat → Nat → Int32) (j k : Nat) (hj : j < 301) (hk : k < 301) (hLj : f 4 j ≤ 300) (hLk : f 4 k ≤ 300) : Met l y_Plan_isBetter (zw_Plan_isBetter :: zW) ({ frames := 0, cells := 0, slots := 0, locals := 0 }) (va_Pc [.ref (a 7), .int (nI (j)), .int (nI (k))] (fun U => va_P (dC, dI) vwCl (wC a cI cZ v f w) U.heap ∧ va_K (dC, dI) vwCl [(cI, .int), (cZ, .boolean)] U)) (zr (nI (if f 4 k < f 4 j ∨ (f 4 k = f 4 j ∧ w 0 j = -1) then 1 else 0))) 0 0 (fun _ => False) := by
  refine Met.ofW (cc := prog_2_method_7_code) (maxL := 5) (ret := (some .boolean)) (by decide) rfl ?_
  intro p e s m args below meth c s₁ B hml hv
  obtain ⟨rfl, hP, hK⟩ := hv
  have hx := B.exec
  have hb := B.bytes
  have hr := B.returns
  have hz : ∀ w ∈ zW, w.before ([.ref (a 7), .int (nI (j)), .int (nI (k))]).toArray s = true := fun w h => atoms_spec (ws := (zw_Plan_isBetter :: zW)) B.pre w (List.mem_cons_of_mem _ h)
  have hown : s.vm.findClass "CutLengths$Plan" = some m.cls := findClass_of_methodNamed B.named
  have hlocks := B.notSynchronized
  have hl := lv_entry ([.ref (a 7), .int (nI (j)), .int (nI (k))]) (n := 5) (Nat.le_of_ble_eq_true rfl)
  rw [lg_entry_eq]
  generalize (lg_sl ([.ref (a 7), .int (nI (j)), .int (nI (k))]) ++ List.replicate (5 - (lg_sl ([.ref (a 7), .int (nI (j)), .int (nI (k))])).length) Slot.unset).toArray = ls at hl ⊢
  have hl : lv_has ls 5 [(0, .ref (a 7)), (1, .int (nI (j))), (2, .int (nI (k)))] := hl
  refine lv_aload_n hx hb d_Plan_isBetter_0 rfl (lv_at hl 0 rfl) ?_
  refine va_get (D := (dC, dI)) (ci := 3) (v := .ref (a 8)) (C := "CutLengths$Plan") (T := T_Plan) (N := 3) hx hb hz i_Plan hown hK hP 7 rfl rfl 0 (by decide) (hz _ tw_106) (fun _ h9 => h9) rfl d_Plan_isBetter_1 ?_
  refine lv_iload_n hx hb d_Plan_isBetter_4 rfl (lv_at hl 2 rfl) ?_
  refine zz_nald hx hb hK hP 8 0 (f := f 4) (i := k) rfl rfl (by omega) (by decide) d_Plan_isBetter_5 ?_
  refine lv_aload_n hx hb d_Plan_isBetter_6 rfl (lv_at hl 0 rfl) ?_
  refine va_get (D := (dC, dI)) (ci := 3) (v := .ref (a 8)) (C := "CutLengths$Plan") (T := T_Plan) (N := 3) hx hb hz i_Plan hown hK hP 7 rfl rfl 0 (by decide) (hz _ tw_106) (fun _ h9 => h9) rfl d_Plan_isBetter_7 ?_
  refine lv_iload_n hx hb d_Plan_isBetter_10 rfl (lv_at hl 1 rfl) ?_
  refine zz_nald hx hb hK hP 8 0 (f := f 4) (i := j) rfl rfl (by omega) (by decide) d_Plan_isBetter_11 ?_
  refine lv_icmp_ge (tgt := 19) hx hb d_Plan_isBetter_12 (by decide) (fun c_12 => ?_) (fun c_12 => ?_)
  · have c_12 : ((f 4 j : Nat) : Int) ≤ ((f 4 k : Nat) : Int) := (zz_le (nI_toInt (by omega)) (nI_toInt (by omega))).mp c_12
    refine lv_iconst (v := nI (0)) hx hb d_Plan_isBetter_19 (by decide) ?_
    refine lv_istore_n (lv' := [(3, .int (nI (0))), (0, .ref (a 7)), (1, .int (nI (j))), (2, .int (nI (k)))]) hx hb d_Plan_isBetter_20 rfl hl (by decide) rfl (fun ls hl => ?_)
    refine lv_aload_n hx hb d_Plan_isBetter_21 rfl (lv_at hl 1 rfl) ?_
    refine va_get (D := (dC, dI)) (ci := 3) (v := .ref (a 8)) (C := "CutLengths$Plan") (T := T_Plan) (N := 3) hx hb hz i_Plan hown hK hP 7 rfl rfl 0 (by decide) (hz _ tw_106) (fun _ h9 => h9) rfl d_Plan_isBetter_22 ?_
    refine lv_iload_n hx hb d_Plan_isBetter_25 rfl (lv_at hl 3 rfl) ?_
    refine zz_nald hx hb hK hP 8 0 (f := f 4) (i := k) rfl rfl (by omega) (by decide) d_Plan_isBetter_26 ?_
    refine lv_aload_n hx hb d_Plan_isBetter_27 rfl (lv_at hl 1 rfl) ?_
    refine va_get (D := (dC, dI)) (ci := 3) (v := .ref (a 8)) (C := "CutLengths$Plan") (T := T_Plan) (N := 3) hx hb hz i_Plan hown hK hP 7 rfl rfl 0 (by decide) (hz _ tw_106) (fun _ h9 => h9) rfl d_Plan_isBetter_28 ?_
    refine lv_iload_n hx hb d_Plan_isBetter_31 rfl (lv_at hl 2 rfl) ?_
    refine zz_nald hx hb hK hP 8 0 (f := f 4) (i := j) rfl rfl (by omega) (by decide) d_Plan_isBetter_32 ?_
    refine lv_icmp_ne (tgt := 50) hx hb d_Plan_isBetter_33 (by decide) (fun c_33 => ?_) (fun c_33 => ?_)
    · have c_33 : ¬ (((f 4 k : Nat) : Int) = ((f 4 j : Nat) : Int)) := fun q => c_33 ((zz_eq (nI_toInt (by omega)) (nI_toInt (by omega))).mpr q)
      refine lv_iconst (v := nI (0)) hx hb d_Plan_isBetter_50 (by decide) ?_
      refine lv_istore (lv' := [(4, .int (nI (0))), (3, .int (nI (0))), (0, .ref (a 7)), (1, .int (nI (j))), (2, .int (nI (k)))]) hx hb d_Plan_isBetter_51 hl (by decide) rfl (fun ls hl => ?_)
      refine lv_iload_n hx hb d_Plan_isBetter_53 rfl (lv_at hl 1 rfl) ?_
      refine lv_if_ne (tgt := 62) hx hb d_Plan_isBetter_54 (by decide) (fun c9 => absurd c9 (by decide)) (fun _ => ?_)
      refine lv_iload hx hb d_Plan_isBetter_57 (lv_at hl 0 rfl) ?_
      refine lv_if_eq (tgt := 66) hx hb d_Plan_isBetter_59 (by decide) (fun _ => ?_) (fun c9 => absurd c9 (by decide))
      refine lv_iconst (v := nI (0)) hx hb d_Plan_isBetter_66 (by decide) ?_
      exact W.zret (v := nI (0)) hx hb hr (rfl) (fun t9 ht hW => zz_r (congrArg nI (if_neg (fun q => by rcases q with q | ⟨q1, q2⟩ <;> first | omega | exact absurd q2 (by assumption))).symm) ht) (fun q h => by cases h) d_Plan_isBetter_67
    · have c_33 : ((f 4 k : Nat) : Int) = ((f 4 j : Nat) : Int) := (zz_eq (nI_toInt (by omega)) (nI_toInt (by omega))).mp c_33
      refine lv_aload_n hx hb d_Plan_isBetter_36 rfl (lv_at hl 1 rfl) ?_
      refine va_get (D := (dC, dI)) (ci := 3) (v := .ref (a 9)) (C := "CutLengths$Plan") (T := T_Plan) (N := 3) hx hb hz i_Plan hown hK hP 7 rfl rfl 1 (by decide) (hz _ tw_108) (fun _ h9 => h9) rfl d_Plan_isBetter_37 ?_
      refine lv_iload_n hx hb d_Plan_isBetter_40 rfl (lv_at hl 2 rfl) ?_
      refine zz_iald hx hb hK hP 9 0 (f := w 0) (i := j) rfl rfl (by omega) (by decide) d_Plan_isBetter_41 ?_
      refine lv_iconst (v := -1) hx hb d_Plan_isBetter_42 (by decide) ?_
      refine lv_icmp_ne (tgt := 50) hx hb d_Plan_isBetter_43 (by decide) (fun c_43 => ?_) (fun c_43 => ?_)
      · have c_43 : ¬ (w 0 j = -1) := c_43
        refine lv_iconst (v := nI (0)) hx hb d_Plan_isBetter_50 (by decide) ?_
        refine lv_istore (lv' := [(4, .int (nI (0))), (3, .int (nI (0))), (0, .ref (a 7)), (1, .int (nI (j))), (2, .int (nI (k)))]) hx hb d_Plan_isBetter_51 hl (by decide) rfl (fun ls hl => ?_)
        refine lv_iload_n hx hb d_Plan_isBetter_53 rfl (lv_at hl 1 rfl) ?_
        refine lv_if_ne (tgt := 62) hx hb d_Plan_isBetter_54 (by decide) (fun c9 => absurd c9 (by decide)) (fun _ => ?_)
        refine lv_iload hx hb d_Plan_isBetter_57 (lv_at hl 0 rfl) ?_
        refine lv_if_eq (tgt := 66) hx hb d_Plan_isBetter_59 (by decide) (fun _ => ?_) (fun c9 => absurd c9 (by decide))
        refine lv_iconst (v := nI (0)) hx hb d_Plan_isBetter_66 (by decide) ?_
        exact W.zret (v := nI (0)) hx hb hr (rfl) (fun t9 ht hW => zz_r (congrArg nI (if_neg (fun q => by rcases q with q | ⟨q1, q2⟩ <;> first | omega | exact absurd q2 (by assumption))).symm) ht) (fun q h => by cases h) d_Plan_isBetter_67
      · have c_43 : w 0 j = -1 := c_43
        refine lv_iconst (v := nI (1)) hx hb d_Plan_isBetter_46 (by decide) ?_
        refine lv_goto (tgt := 51) hx hb d_Plan_isBetter_47 (by decide) ?_
        refine lv_istore (lv' := [(4, .int (nI (1))), (3, .int (nI (0))), (0, .ref (a 7)), (1, .int (nI (j))), (2, .int (nI (k)))]) hx hb d_Plan_isBetter_51 hl (by decide) rfl (fun ls hl => ?_)
        refine lv_iload_n hx hb d_Plan_isBetter_53 rfl (lv_at hl 1 rfl) ?_
        refine lv_if_ne (tgt := 62) hx hb d_Plan_isBetter_54 (by decide) (fun c9 => absurd c9 (by decide)) (fun _ => ?_)
        refine lv_iload hx hb d_Plan_isBetter_57 (lv_at hl 0 rfl) ?_
        refine lv_if_eq (tgt := 66) hx hb d_Plan_isBetter_59 (by decide) (fun c9 => absurd c9 (by decide)) (fun _ => ?_)
        refine lv_iconst (v := nI (1)) hx hb d_Plan_isBetter_62 (by decide) ?_
        refine lv_goto (tgt := 67) hx hb d_Plan_isBetter_63 (by decide) ?_
        exact W.zret (v := nI (1)) hx hb hr (rfl) (fun t9 ht hW => zz_r (congrArg nI (if_pos (by first | exact Or.inl (by omega) | exact Or.inr ⟨by omega, by assumption⟩)).symm) ht) (fun q h => by cases h) d_Plan_isBetter_67
  · have c_12 : ¬ (((f 4 j : Nat) : Int) ≤ ((f 4 k : Nat) : Int)) := fun q => c_12 ((zz_le (nI_toInt (by omega)) (nI_toInt (by omega))).mpr q)
    refine lv_iconst (v := nI (1)) hx hb d_Plan_isBetter_15 (by decide) ?_
    refine lv_goto (tgt := 20) hx hb d_Plan_isBetter_16 (by decide) ?_
    refine lv_istore_n (lv' := [(3, .int (nI (1))), (0, .ref (a 7)), (1, .int (nI (j))), (2, .int (nI (k)))]) hx hb d_Plan_isBetter_20 rfl hl (by decide) rfl (fun ls hl => ?_)
    refine lv_aload_n hx hb d_Plan_isBetter_21 rfl (lv_at hl 1 rfl) ?_
    refine va_get (D := (dC, dI)) (ci := 3) (v := .ref (a 8)) (C := "CutLengths$Plan") (T := T_Plan) (N := 3) hx hb hz i_Plan hown hK hP 7 rfl rfl 0 (by decide) (hz _ tw_106) (fun _ h9 => h9) rfl d_Plan_isBetter_22 ?_
    refine lv_iload_n hx hb d_Plan_isBetter_25 rfl (lv_at hl 3 rfl) ?_
    refine zz_nald hx hb hK hP 8 0 (f := f 4) (i := k) rfl rfl (by omega) (by decide) d_Plan_isBetter_26 ?_
    refine lv_aload_n hx hb d_Plan_isBetter_27 rfl (lv_at hl 1 rfl) ?_
    refine va_get (D := (dC, dI)) (ci := 3) (v := .ref (a 8)) (C := "CutLengths$Plan") (T := T_Plan) (N := 3) hx hb hz i_Plan hown hK hP 7 rfl rfl 0 (by decide) (hz _ tw_106) (fun _ h9 => h9) rfl d_Plan_isBetter_28 ?_
    refine lv_iload_n hx hb d_Plan_isBetter_31 rfl (lv_at hl 2 rfl) ?_
    refine zz_nald hx hb hK hP 8 0 (f := f 4) (i := j) rfl rfl (by omega) (by decide) d_Plan_isBetter_32 ?_
    refine lv_icmp_ne (tgt := 50) hx hb d_Plan_isBetter_33 (by decide) (fun c_33 => ?_) (fun c_33 => ?_)
    · have c_33 : ¬ (((f 4 k : Nat) : Int) = ((f 4 j : Nat) : Int)) := fun q => c_33 ((zz_eq (nI_toInt (by omega)) (nI_toInt (by omega))).mpr q)
      refine lv_iconst (v := nI (0)) hx hb d_Plan_isBetter_50 (by decide) ?_
      refine lv_istore (lv' := [(4, .int (nI (0))), (3, .int (nI (1))), (0, .ref (a 7)), (1, .int (nI (j))), (2, .int (nI (k)))]) hx hb d_Plan_isBetter_51 hl (by decide) rfl (fun ls hl => ?_)
      refine lv_iload_n hx hb d_Plan_isBetter_53 rfl (lv_at hl 1 rfl) ?_
      refine lv_if_ne (tgt := 62) hx hb d_Plan_isBetter_54 (by decide) (fun _ => ?_) (fun c9 => absurd c9 (by decide))
      refine lv_iconst (v := nI (1)) hx hb d_Plan_isBetter_62 (by decide) ?_
      refine lv_goto (tgt := 67) hx hb d_Plan_isBetter_63 (by decide) ?_
      exact W.zret (v := nI (1)) hx hb hr (rfl) (fun t9 ht hW => zz_r (congrArg nI (if_pos (by first | exact Or.inl (by omega) | exact Or.inr ⟨by omega, by assumption⟩)).symm) ht) (fun q h => by cases h) d_Plan_isBetter_67
    · have c_33 : ((f 4 k : Nat) : Int) = ((f 4 j : Nat) : Int) := (zz_eq (nI_toInt (by omega)) (nI_toInt (by omega))).mp c_33
      refine lv_aload_n hx hb d_Plan_isBetter_36 rfl (lv_at hl 1 rfl) ?_
      refine va_get (D := (dC, dI)) (ci := 3) (v := .ref (a 9)) (C := "CutLengths$Plan") (T := T_Plan) (N := 3) hx hb hz i_Plan hown hK hP 7 rfl rfl 1 (by decide) (hz _ tw_108) (fun _ h9 => h9) rfl d_Plan_isBetter_37 ?_
      refine lv_iload_n hx hb d_Plan_isBetter_40 rfl (lv_at hl 2 rfl) ?_
      refine zz_iald hx hb hK hP 9 0 (f := w 0) (i := j) rfl rfl (by omega) (by decide) d_Plan_isBetter_41 ?_
      refine lv_iconst (v := -1) hx hb d_Plan_isBetter_42 (by decide) ?_
      refine lv_icmp_ne (tgt := 50) hx hb d_Plan_isBetter_43 (by decide) (fun c_43 => ?_) (fun c_43 => ?_)
      · have c_43 : ¬ (w 0 j = -1) := c_43
        refine lv_iconst (v := nI (0)) hx hb d_Plan_isBetter_50 (by decide) ?_
        refine lv_istore (lv' := [(4, .int (nI (0))), (3, .int (nI (1))), (0, .ref (a 7)), (1, .int (nI (j))), (2, .int (nI (k)))]) hx hb d_Plan_isBetter_51 hl (by decide) rfl (fun ls hl => ?_)
        refine lv_iload_n hx hb d_Plan_isBetter_53 rfl (lv_at hl 1 rfl) ?_
        refine lv_if_ne (tgt := 62) hx hb d_Plan_isBetter_54 (by decide) (fun _ => ?_) (fun c9 => absurd c9 (by decide))
        refine lv_iconst (v := nI (1)) hx hb d_Plan_isBetter_62 (by decide) ?_
        refine lv_goto (tgt := 67) hx hb d_Plan_isBetter_63 (by decide) ?_
        exact W.zret (v := nI (1)) hx hb hr (rfl) (fun t9 ht hW => zz_r (congrArg nI (if_pos (by first | exact Or.inl (by omega) | exact Or.inr ⟨by omega, by assumption⟩)).symm) ht) (fun q h => by cases h) d_Plan_isBetter_67
      · have c_43 : w 0 j = -1 := c_43
        refine lv_iconst (v := nI (1)) hx hb d_Plan_isBetter_46 (by decide) ?_
        refine lv_goto (tgt := 51) hx hb d_Plan_isBetter_47 (by decide) ?_
        refine lv_istore (lv' := [(4, .int (nI (1))), (3, .int (nI (1))), (0, .ref (a 7)), (1, .int (nI (j))), (2, .int (nI (k)))]) hx hb d_Plan_isBetter_51 hl (by decide) rfl (fun ls hl => ?_)
        refine lv_iload_n hx hb d_Plan_isBetter_53 rfl (lv_at hl 1 rfl) ?_
        refine lv_if_ne (tgt := 62) hx hb d_Plan_isBetter_54 (by decide) (fun _ => ?_) (fun c9 => absurd c9 (by decide))
        refine lv_iconst (v := nI (1)) hx hb d_Plan_isBetter_62 (by decide) ?_
        refine lv_goto (tgt := 67) hx hb d_Plan_isBetter_63 (by decide) ?_
        exact W.zret (v := nI (1)) hx hb hr (rfl) (fun t9 ht hW => zz_r (congrArg nI (if_pos (by first | exact Or.inl (by omega) | exact Or.inr ⟨by omega, by assumption⟩)).symm) ht) (fun q h => by cases h) d_Plan_isBetter_67
set_option maxHeartbeats 4000000 in
set_option maxRecDepth 100000 in
theorem c_Cut_isSlab (l : Launch) (dC : Nat → ClassId) (dI : Nat → Nat → Nat) (a : Nat → Nat) (cI cZ : ClassId) (v : Nat → Nat) (f : Nat → Nat → Nat) (w : Nat → Nat → Int32) (p0 : Int32) (z0 : Int) (h0 : p0.toInt = z0) (hI : zI v f) : Met l y_Cut_isSlab (zw_Cut_isSlab :: zW) ({ frames := 0, cells := 0, slots := 0, locals := 0 }) (va_Pc [.ref (a 0), .int (p0)] (fun U => va_P (dC, dI) vwCl (wC a cI cZ v f w) U.heap ∧ va_K (dC, dI) vwCl [(cI, .int), (cZ, .boolean)] U)) (zr (nI (if 0 ≤ z0 ∧ z0 < (v 10 : Nat) then 1 else 0))) 0 0 (fun _ => False) := by
  refine Met.ofW (cc := prog_1_method_18_code) (maxL := 2) (ret := (some .boolean)) (by decide) rfl ?_
  intro p e s m args below meth c s₁ B hml hv
  obtain ⟨rfl, hP, hK⟩ := hv
  have hx := B.exec
  have hb := B.bytes
  have hr := B.returns
  have hz : ∀ w ∈ zW, w.before ([.ref (a 0), .int (p0)]).toArray s = true := fun w h => atoms_spec (ws := (zw_Cut_isSlab :: zW)) B.pre w (List.mem_cons_of_mem _ h)
  have hown : s.vm.findClass "CutLengths" = some m.cls := findClass_of_methodNamed B.named
  have hlocks := B.notSynchronized
  obtain ⟨i3, i4, i5, i6, i7, i8, i9, i10, i2, i0, i1, iw, ib, ic, isl⟩ := id hI
  have hl := lv_entry ([.ref (a 0), .int (p0)]) (n := 2) (Nat.le_of_ble_eq_true rfl)
  rw [lg_entry_eq]
  generalize (lg_sl ([.ref (a 0), .int (p0)]) ++ List.replicate (2 - (lg_sl ([.ref (a 0), .int (p0)])).length) Slot.unset).toArray = ls at hl ⊢
  have hl : lv_has ls 2 [(0, .ref (a 0)), (1, .int (p0))] := hl
  refine lv_iload_n hx hb d_Cut_isSlab_0 rfl (lv_at hl 1 rfl) ?_
  refine lv_if_lt (tgt := 19) hx hb d_Cut_isSlab_1 (by decide) (fun c_1 => ?_) (fun c_1 => ?_)
  · have c_1 : z0 < (0 : Int) := (zz_lt (h0) ((by decide))).mp c_1
    refine lv_iconst (v := nI (0)) hx hb d_Cut_isSlab_19 (by decide) ?_
    exact W.zret (v := nI (0)) hx hb hr (rfl) (fun t9 ht hW => zz_r (congrArg nI (if_neg (by omega)).symm) ht) (fun q h => by cases h) d_Cut_isSlab_20
  · have c_1 : ¬ (z0 < (0 : Int)) := fun q => c_1 ((zz_lt (h0) ((by decide))).mpr q)
    refine lv_iload_n hx hb d_Cut_isSlab_4 rfl (lv_at hl 1 rfl) ?_
    refine lv_aload_n hx hb d_Cut_isSlab_5 rfl (lv_at hl 0 rfl) ?_
    refine va_get (D := (dC, dI)) (ci := 0) (v := .ref (a 11)) (C := "CutLengths") (T := T_Cut) (N := 7) hx hb hz i_Cut hown hK hP 0 rfl rfl 3 (by decide) (hz _ tw_145) (fun _ h9 => h9) rfl d_Cut_isSlab_6 ?_
    refine va_get (D := (dC, dI)) (ci := 4) (v := .int (nI (v 10))) (C := "CutLengths$Slabs") (T := T_Slabs) (N := 4) hx hb hz i_Slabs hown hK hP 11 rfl rfl 0 (by decide) (hz _ tw_126) (fun _ h9 => h9) rfl d_Cut_isSlab_9 ?_
    refine lv_icmp_ge (tgt := 19) hx hb d_Cut_isSlab_12 (by decide) (fun c_12 => ?_) (fun c_12 => ?_)
    · have c_12 : ((v 10 : Nat) : Int) ≤ z0 := (zz_le (nI_toInt (by omega)) (h0)).mp c_12
      refine lv_iconst (v := nI (0)) hx hb d_Cut_isSlab_19 (by decide) ?_
      exact W.zret (v := nI (0)) hx hb hr (rfl) (fun t9 ht hW => zz_r (congrArg nI (if_neg (by omega)).symm) ht) (fun q h => by cases h) d_Cut_isSlab_20
    · have c_12 : ¬ (((v 10 : Nat) : Int) ≤ z0) := fun q => c_12 ((zz_le (nI_toInt (by omega)) (h0)).mpr q)
      refine lv_iconst (v := nI (1)) hx hb d_Cut_isSlab_15 (by decide) ?_
      refine lv_goto (tgt := 20) hx hb d_Cut_isSlab_16 (by decide) ?_
      exact W.zret (v := nI (1)) hx hb hr (rfl) (fun t9 ht hW => zz_r (congrArg nI (if_pos (by omega)).symm) ht) (fun q h => by cases h) d_Cut_isSlab_20
set_option maxHeartbeats 4000000 in
set_option maxRecDepth 100000 in
theorem c_Cut_torch (l : Launch) (dC : Nat → ClassId) (dI : Nat → Nat → Nat) (a : Nat → Nat) (cI cZ : ClassId) (v : Nat → Nat) (f : Nat → Nat → Nat) (w : Nat → Nat → Int32)  : Met l y_Cut_torch (zw_Cut_torch :: zW) ({ frames := 0, cells := 0, slots := 0, locals := 0 }) (va_Pc [.ref (a 0)] (fun U => va_P (dC, dI) vwCl (wC a cI cZ v f w) U.heap ∧ va_K (dC, dI) vwCl [(cI, .int), (cZ, .boolean)] U)) (zr (nI (v 4))) 0 0 (fun _ => False) := by
  refine Met.ofW (cc := prog_1_method_15_code) (maxL := 1) (ret := (some .int)) (by decide) rfl ?_
  intro p e s m args below meth c s₁ B hml hv
  obtain ⟨rfl, hP, hK⟩ := hv
  have hx := B.exec
  have hb := B.bytes
  have hr := B.returns
  have hz : ∀ w ∈ zW, w.before ([.ref (a 0)]).toArray s = true := fun w h => atoms_spec (ws := (zw_Cut_torch :: zW)) B.pre w (List.mem_cons_of_mem _ h)
  have hown : s.vm.findClass "CutLengths" = some m.cls := findClass_of_methodNamed B.named
  have hlocks := B.notSynchronized
  have hl := lv_entry ([.ref (a 0)]) (n := 1) (Nat.le_of_ble_eq_true rfl)
  rw [lg_entry_eq]
  generalize (lg_sl ([.ref (a 0)]) ++ List.replicate (1 - (lg_sl ([.ref (a 0)])).length) Slot.unset).toArray = ls at hl ⊢
  have hl : lv_has ls 1 [(0, .ref (a 0))] := hl
  refine lv_aload_n hx hb d_Cut_torch_0 rfl (lv_at hl 0 rfl) ?_
  refine va_get (D := (dC, dI)) (ci := 0) (v := .ref (a 1)) (C := "CutLengths") (T := T_Cut) (N := 7) hx hb hz i_Cut hown hK hP 0 rfl rfl 0 (by decide) (hz _ tw_142) (fun _ h9 => h9) rfl d_Cut_torch_1 ?_
  refine va_get (D := (dC, dI)) (ci := 1) (v := .int (nI (v 4))) (C := "CutLengths$Strand") (T := T_Strand) (N := 8) hx hb hz i_Strand hown hK hP 1 rfl rfl 1 (by decide) (hz _ tw_48) (fun _ h9 => h9) rfl d_Cut_torch_4 ?_
  exact W.iret (v := nI (v 4)) hx hb hr (fun t9 ht hW => zz_r (rfl) ht) (fun q h => by cases h) d_Cut_torch_7
set_option maxHeartbeats 4000000 in
set_option maxRecDepth 100000 in
theorem c_Slabs_howManyOf (l : Launch) (dC : Nat → ClassId) (dI : Nat → Nat → Nat) (a : Nat → Nat) (cI cZ : ClassId) (v : Nat → Nat) (f : Nat → Nat → Nat) (w : Nat → Nat → Int32) (x : Int32) (hI : zI v f) : Met l y_Slabs_howManyOf (zw_Slabs_howManyOf :: zW) ({ frames := 0, cells := 0, slots := 0, locals := 0 }) (va_Pc [.ref (a 11), .int (x)] (fun U => va_P (dC, dI) vwCl (wC a cI cZ v f w) U.heap ∧ va_K (dC, dI) vwCl [(cI, .int), (cZ, .boolean)] U)) (zr (nI (zcnt (w 1) x (v 10)))) 0 0 (fun _ => False) := by
  refine Met.ofW (cc := prog_3_method_3_code) (maxL := 4) (ret := (some .int)) (by decide) rfl ?_
  intro p e s m args below meth c s₁ B hml hv
  obtain ⟨rfl, hP, hK⟩ := hv
  have hx := B.exec
  have hb := B.bytes
  have hr := B.returns
  have hz : ∀ w ∈ zW, w.before ([.ref (a 11), .int (x)]).toArray s = true := fun w h => atoms_spec (ws := (zw_Slabs_howManyOf :: zW)) B.pre w (List.mem_cons_of_mem _ h)
  have hown : s.vm.findClass "CutLengths$Slabs" = some m.cls := findClass_of_methodNamed B.named
  have hlocks := B.notSynchronized
  obtain ⟨i3, i4, i5, i6, i7, i8, i9, i10, i2, i0, i1, iw, ib, ic, isl⟩ := id hI
  have hl := lv_entry ([.ref (a 11), .int (x)]) (n := 4) (Nat.le_of_ble_eq_true rfl)
  rw [lg_entry_eq]
  generalize (lg_sl ([.ref (a 11), .int (x)]) ++ List.replicate (4 - (lg_sl ([.ref (a 11), .int (x)])).length) Slot.unset).toArray = ls at hl ⊢
  have hl : lv_has ls 4 [(0, .ref (a 11)), (1, .int (x))] := hl
  refine lv_iconst (v := nI (0)) hx hb d_Slabs_howManyOf_0 (by decide) ?_
  refine lv_istore_n (lv' := [(2, .int (nI (0))), (0, .ref (a 11)), (1, .int (x))]) hx hb d_Slabs_howManyOf_1 rfl hl (by decide) rfl (fun ls hl => ?_)
  refine lv_iconst (v := nI (0)) hx hb d_Slabs_howManyOf_2 (by decide) ?_
  refine lv_istore_n (lv' := [(3, .int (nI (0))), (2, .int (nI (0))), (0, .ref (a 11)), (1, .int (x))]) hx hb d_Slabs_howManyOf_3 rfl hl (by decide) rfl (fun ls hl => ?_)
  have loop : ∀ (n : Nat) (i : Nat), (i ≤ v 10) → (v 10 < i + n) → ∀ ls : Array Slot, lv_has ls 4 [(3, .int (nI (i))), (2, .int (nI (zcnt (w 1) x i))), (0, .ref (a 11)), (1, .int (x))] → W p l e (headSpec (zw_Slabs_howManyOf :: zW) ({ frames := 0, cells := 0, slots := 0, locals := 0 })).room s m ([.ref (a 11), .int (x)]).toArray below meth c s.heap [] 0 0 (MQ below (zr (nI (zcnt (w 1) x (v 10)))) ([.ref (a 11), .int (x)]).toArray s 0 0 (fun _ => False)) (F0 m 4 ls []) := by
    intro n
    induction n with
    | zero =>
      intro i hi hn
      exact absurd hn (by omega)
    | succ n ih_loop =>
      intro i hi hn ls hl
      have hz9 := zcnt_le (f := w 1) (x := x) i
      refine lv_iload_n hx hb d_Slabs_howManyOf_4 rfl (lv_at hl 0 rfl) ?_
      refine lv_aload_n hx hb d_Slabs_howManyOf_5 rfl (lv_at hl 2 rfl) ?_
      refine va_get (D := (dC, dI)) (ci := 4) (v := .int (nI (v 10))) (C := "CutLengths$Slabs") (T := T_Slabs) (N := 4) hx hb hz i_Slabs hown hK hP 11 rfl rfl 0 (by decide) (hz _ tw_125) (fun _ h9 => h9) rfl d_Slabs_howManyOf_6 ?_
      refine lv_icmp_ge (tgt := 31) hx hb d_Slabs_howManyOf_9 (by decide) (fun c_9 => ?_) (fun c_9 => ?_)
      · have c_9 : ((v 10 : Nat) : Int) ≤ ((i : Nat) : Int) := (zz_le (nI_toInt (by omega)) (nI_toInt (by omega))).mp c_9
        refine lv_iload_n hx hb d_Slabs_howManyOf_31 rfl (lv_at hl 1 rfl) ?_
        exact W.iret (v := nI (zcnt (w 1) x i)) hx hb hr (fun t9 ht hW => zz_r (by rw [show i = v 10 from by omega]) ht) (fun q h => by cases h) d_Slabs_howManyOf_32
      · have c_9 : ¬ (((v 10 : Nat) : Int) ≤ ((i : Nat) : Int)) := fun q => c_9 ((zz_le (nI_toInt (by omega)) (nI_toInt (by omega))).mpr q)
        refine lv_aload_n hx hb d_Slabs_howManyOf_12 rfl (lv_at hl 2 rfl) ?_
        refine va_get (D := (dC, dI)) (ci := 4) (v := .ref (a 12)) (C := "CutLengths$Slabs") (T := T_Slabs) (N := 4) hx hb hz i_Slabs hown hK hP 11 rfl rfl 1 (by decide) (hz _ tw_127) (fun _ h9 => h9) rfl d_Slabs_howManyOf_13 ?_
        refine lv_iload_n hx hb d_Slabs_howManyOf_16 rfl (lv_at hl 0 rfl) ?_
        refine zz_iald hx hb hK hP 12 0 (f := w 1) (i := i) rfl rfl (by omega) (by decide) d_Slabs_howManyOf_17 ?_
        refine lv_iload_n hx hb d_Slabs_howManyOf_18 rfl (lv_at hl 3 rfl) ?_
        refine lv_icmp_ne (tgt := 25) hx hb d_Slabs_howManyOf_19 (by decide) (fun c_19 => ?_) (fun c_19 => ?_)
        · have c_19 : ¬ (w 1 i = x) := c_19
          refine lv_iinc (v := nI (i + 1)) (lv' := [(3, .int (nI (i + 1))), (2, .int (nI (zcnt (w 1) x i))), (0, .ref (a 11)), (1, .int (x))]) hx hb d_Slabs_howManyOf_25 hl (k := 0) rfl (zz_inc _) (by decide) rfl (fun ls hl => ?_)
          refine lv_goto (tgt := 4) hx hb d_Slabs_howManyOf_28 (by decide) ?_
          exact ih_loop (i + 1) (by omega) (by omega) ls (by rw [show zcnt (w 1) x (i + 1) = zcnt (w 1) x i from if_neg c_19]; exact lv_sub hl [0, 1, 2, 3] rfl)
        · have c_19 : w 1 i = x := c_19
          refine lv_iinc (v := nI (zcnt (w 1) x i + 1)) (lv' := [(2, .int (nI (zcnt (w 1) x i + 1))), (3, .int (nI (i))), (0, .ref (a 11)), (1, .int (x))]) hx hb d_Slabs_howManyOf_22 hl (k := 1) rfl (zz_inc _) (by decide) rfl (fun ls hl => ?_)
          refine lv_iinc (v := nI (i + 1)) (lv' := [(3, .int (nI (i + 1))), (2, .int (nI (zcnt (w 1) x i + 1))), (0, .ref (a 11)), (1, .int (x))]) hx hb d_Slabs_howManyOf_25 hl (k := 1) rfl (zz_inc _) (by decide) rfl (fun ls hl => ?_)
          refine lv_goto (tgt := 4) hx hb d_Slabs_howManyOf_28 (by decide) ?_
          exact ih_loop (i + 1) (by omega) (by omega) ls (by rw [show zcnt (w 1) x (i + 1) = zcnt (w 1) x i + 1 from if_pos c_19]; exact lv_sub hl [0, 1, 2, 3] rfl)
  exact loop (v 10 + 1) 0 (Nat.zero_le _) (by omega) ls (lv_sub hl [0, 1, 2, 3] rfl)
set_option maxHeartbeats 4000000 in
set_option maxRecDepth 100000 in
theorem c_Plan_beginOfPart (l : Launch) (dC : Nat → ClassId) (dI : Nat → Nat → Nat) (a : Nat → Nat) (cI cZ : ClassId) (v : Nat → Nat) (f : Nat → Nat → Nat) (w : Nat → Nat → Int32) (i : Nat) (hi : i < 2 ^ 31) (hI : zI v f) (hE : ∀ p, v 4 ≤ p → p < v 3 → p < p + f 5 p ∧ p + f 5 p ≤ v 3) : Met l y_Plan_beginOfPart (zw_Plan_beginOfPart :: zW) ({ frames := 1, cells := 0, slots := 0, locals := 30 }) (va_Pc [.ref (a 7), .int (nI (i)), .ref (a 1)] (fun U => va_P (dC, dI) vwCl (wC a cI cZ v f w) U.heap ∧ va_K (dC, dI) vwCl [(cI, .int), (cZ, .boolean)] U)) (zr (nI (zit (fun p => p + f 5 p) (v 3) (min i 300) (v 4)))) 0 0 (fun _ => False) := by
  refine Met.ofW (cc := prog_2_method_3_code) (maxL := 6) (ret := (some .int)) (by decide) rfl ?_
  intro p e s m args below meth c s₁ B hml hv
  obtain ⟨rfl, hP, hK⟩ := hv
  have hx := B.exec
  have hb := B.bytes
  have hr := B.returns
  have hz : ∀ w ∈ zW, w.before ([.ref (a 7), .int (nI (i)), .ref (a 1)]).toArray s = true := fun w h => atoms_spec (ws := (zw_Plan_beginOfPart :: zW)) B.pre w (List.mem_cons_of_mem _ h)
  have hown : s.vm.findClass "CutLengths$Plan" = some m.cls := findClass_of_methodNamed B.named
  have hlocks := B.notSynchronized
  obtain ⟨i3, i4, i5, i6, i7, i8, i9, i10, i2, i0, i1, iw, ib, ic, isl⟩ := id hI
  have hz0 := hz
  have m9 : min i 300 ≤ 300 := Nat.min_le_right _ _
  have hl := lv_entry ([.ref (a 7), .int (nI (i)), .ref (a 1)]) (n := 6) (Nat.le_of_ble_eq_true rfl)
  rw [lg_entry_eq]
  generalize (lg_sl ([.ref (a 7), .int (nI (i)), .ref (a 1)]) ++ List.replicate (6 - (lg_sl ([.ref (a 7), .int (nI (i)), .ref (a 1)])).length) Slot.unset).toArray = ls at hl ⊢
  have hl : lv_has ls 6 [(0, .ref (a 7)), (1, .int (nI (i))), (2, .ref (a 1))] := hl
  refine lv_iload_n hx hb d_Plan_beginOfPart_0 rfl (lv_at hl 1 rfl) ?_
  refine lv_sipush (v := nI (300)) hx hb d_Plan_beginOfPart_1 (by decide) ?_
  refine va_mmin hx hb (by rw [hml]; exact hl.1.symm) hown (hz _ tw_192) (hz _ tw_193) (hz _ tw_28) (hz _ tw_min) (Nat.le_of_ble_eq_true rfl) (Nat.le_of_ble_eq_true rfl) (Nat.zero_le _) (Nat.zero_le _) d_Plan_beginOfPart_4 ?_
  refine zz_top (zz_min (by omega) (by omega)) ?_
  refine lv_istore_n (lv' := [(3, .int (nI (min (i) (300)))), (0, .ref (a 7)), (1, .int (nI (i))), (2, .ref (a 1))]) hx hb d_Plan_beginOfPart_7 rfl hl (by decide) rfl (fun ls hl => ?_)
  refine lv_aload_n hx hb d_Plan_beginOfPart_8 rfl (lv_at hl 3 rfl) ?_
  refine va_get (D := (dC, dI)) (ci := 1) (v := .int (nI (v 4))) (C := "CutLengths$Strand") (T := T_Strand) (N := 8) hx hb hz i_Strand hown hK hP 1 rfl rfl 1 (by decide) (hz _ tw_47) (fun _ h9 => h9) rfl d_Plan_beginOfPart_9 ?_
  refine lv_istore (lv' := [(4, .int (nI (v 4))), (3, .int (nI (min (i) (300)))), (0, .ref (a 7)), (1, .int (nI (i))), (2, .ref (a 1))]) hx hb d_Plan_beginOfPart_12 hl (by decide) rfl (fun ls hl => ?_)
  refine lv_iconst (v := nI (0)) hx hb d_Plan_beginOfPart_14 (by decide) ?_
  refine lv_istore (lv' := [(5, .int (nI (0))), (4, .int (nI (v 4))), (3, .int (nI (min (i) (300)))), (0, .ref (a 7)), (1, .int (nI (i))), (2, .ref (a 1))]) hx hb d_Plan_beginOfPart_15 hl (by decide) rfl (fun ls hl => ?_)
  have loop : ∀ (n : Nat) (k x : Nat), (k ≤ min i 300) → (v 4 ≤ x) → (x ≤ v 3) → (zit (fun p => p + f 5 p) (v 3) (min i 300 - k) x = zit (fun p => p + f 5 p) (v 3) (min i 300) (v 4)) → (min i 300 < k + n) → ∀ ls : Array Slot, lv_has ls 6 [(5, .int (nI (k))), (4, .int (nI (x))), (3, .int (nI (min i 300))), (0, .ref (a 7)), (1, .int (nI (i))), (2, .ref (a 1))] → W p l e (headSpec (zw_Plan_beginOfPart :: zW) ({ frames := 1, cells := 0, slots := 0, locals := 30 })).room s m ([.ref (a 7), .int (nI (i)), .ref (a 1)]).toArray below meth c s.heap [] 0 0 (MQ below (zr (nI (zit (fun p => p + f 5 p) (v 3) (min i 300) (v 4)))) ([.ref (a 7), .int (nI (i)), .ref (a 1)]).toArray s 0 0 (fun _ => False)) (F0 m 17 ls []) := by
    intro n
    induction n with
    | zero =>
      intro k x hk hx1 hx2 hz hn
      exact absurd hn (by omega)
    | succ n ih_loop =>
      intro k x hk hx1 hx2 hz hn ls hl
      have hzz := hz
      clear hz
      have hz : ∀ w ∈ zW, w.before ([.ref (a 7), .int (nI (i)), .ref (a 1)]).toArray s = true := hz0
      have hEx := hE x hx1
      refine lv_iload hx hb d_Plan_beginOfPart_17 (lv_at hl 0 rfl) ?_
      refine lv_iload_n hx hb d_Plan_beginOfPart_19 rfl (lv_at hl 2 rfl) ?_
      refine lv_icmp_ge (tgt := 50) hx hb d_Plan_beginOfPart_20 (by decide) (fun c_20 => ?_) (fun c_20 => ?_)
      · have c_20 : ((min i 300 : Nat) : Int) ≤ ((k : Nat) : Int) := (zz_le (nI_toInt (by omega)) (nI_toInt (by omega))).mp c_20
        refine lv_iload hx hb d_Plan_beginOfPart_50 (lv_at hl 1 rfl) ?_
        exact W.iret (v := nI (x)) hx hb hr (fun t9 ht hW => zz_r (by rw [← hzz]; first | (rw [show min i 300 - k = 0 from by omega]; done) | (rw [zit_n (by omega)]; done) | (rw [show min i 300 - k = 0 from by omega]; rfl) | (rw [zit_n (by omega)])) ht) (fun q h => by cases h) d_Plan_beginOfPart_52
      · have c_20 : ¬ (((min i 300 : Nat) : Int) ≤ ((k : Nat) : Int)) := fun q => c_20 ((zz_le (nI_toInt (by omega)) (nI_toInt (by omega))).mpr q)
        refine lv_iload hx hb d_Plan_beginOfPart_23 (lv_at hl 1 rfl) ?_
        refine lv_aload_n hx hb d_Plan_beginOfPart_25 rfl (lv_at hl 5 rfl) ?_
        refine va_get (D := (dC, dI)) (ci := 1) (v := .int (nI (v 3))) (C := "CutLengths$Strand") (T := T_Strand) (N := 8) hx hb hz i_Strand hown hK hP 1 rfl rfl 0 (by decide) (hz _ tw_44) (fun _ h9 => h9) rfl d_Plan_beginOfPart_26 ?_
        refine lv_icmp_ge (tgt := 50) hx hb d_Plan_beginOfPart_29 (by decide) (fun c_29 => ?_) (fun c_29 => ?_)
        · have c_29 : ((v 3 : Nat) : Int) ≤ ((x : Nat) : Int) := (zz_le (nI_toInt (by omega)) (nI_toInt (by omega))).mp c_29
          refine lv_iload hx hb d_Plan_beginOfPart_50 (lv_at hl 1 rfl) ?_
          exact W.iret (v := nI (x)) hx hb hr (fun t9 ht hW => zz_r (by rw [← hzz]; first | (rw [show min i 300 - k = 0 from by omega]; done) | (rw [zit_n (by omega)]; done) | (rw [show min i 300 - k = 0 from by omega]; rfl) | (rw [zit_n (by omega)])) ht) (fun q h => by cases h) d_Plan_beginOfPart_52
        · have c_29 : ¬ (((v 3 : Nat) : Int) ≤ ((x : Nat) : Int)) := fun q => c_29 ((zz_le (nI_toInt (by omega)) (nI_toInt (by omega))).mpr q)
          refine lv_iload hx hb d_Plan_beginOfPart_32 (lv_at hl 1 rfl) ?_
          refine lv_aload_n hx hb d_Plan_beginOfPart_34 rfl (lv_at hl 3 rfl) ?_
          refine va_get (D := (dC, dI)) (ci := 3) (v := .ref (a 10)) (C := "CutLengths$Plan") (T := T_Plan) (N := 3) hx hb hz i_Plan hown hK hP 7 rfl rfl 2 (by decide) (hz _ tw_110) (fun _ h9 => h9) rfl d_Plan_beginOfPart_35 ?_
          refine lv_iload hx hb d_Plan_beginOfPart_38 (lv_at hl 1 rfl) ?_
          refine zz_nald hx hb hK hP 10 0 (f := f 5) (i := x) rfl rfl (by omega) (by decide) d_Plan_beginOfPart_40 ?_
          refine lv_iadd hx hb d_Plan_beginOfPart_41 ?_
          refine zz_top (nI_add (x) (f 5 x)) ?_
          refine lv_istore (lv' := [(4, .int (nI (x + (f 5 x)))), (5, .int (nI (k))), (3, .int (nI (min i 300))), (0, .ref (a 7)), (1, .int (nI (i))), (2, .ref (a 1))]) hx hb d_Plan_beginOfPart_42 hl (by decide) rfl (fun ls hl => ?_)
          refine lv_iinc (v := nI (k + 1)) (lv' := [(5, .int (nI (k + 1))), (4, .int (nI (x + (f 5 x)))), (3, .int (nI (min i 300))), (0, .ref (a 7)), (1, .int (nI (i))), (2, .ref (a 1))]) hx hb d_Plan_beginOfPart_44 hl (k := 1) rfl (zz_inc _) (by decide) rfl (fun ls hl => ?_)
          refine lv_goto (tgt := 17) hx hb d_Plan_beginOfPart_47 (by decide) ?_
          exact ih_loop (k + 1) (x + f 5 x) (by omega) (by omega) (by omega) (by rw [← hzz, show min i 300 - k = (min i 300 - (k + 1)) + 1 from by omega]; exact (if_pos (by omega)).symm) (by omega) ls (lv_sub hl [0, 1, 2, 3, 4, 5] rfl)
  exact loop (min i 300 + 1) 0 (v 4) (Nat.zero_le _) (Nat.le_refl _) i4 rfl (by omega) ls (lv_sub hl [0, 1, 2, 3, 4, 5] rfl)
end
section
/-! WRITING METHODS of the class, the small ones (rows written by wip/whole/mk_class.py) -/
theorem zmark {g h : Nat → Nat} {i k : Nat} (hg : ∀ p, g p = if i ≤ p ∧ p < k then 1 else h p) (hi : i ≤ k) : ∀ p, va_up g k 1 p = if i ≤ p ∧ p < k + 1 then 1 else h p := by
  intro p
  by_cases e : p = k
  · rw [e, va_up_self, if_pos (by omega)]
  · rw [va_up_ne _ _ e, hg p]
    by_cases q : i ≤ p ∧ p < k
    · rw [if_pos q, if_pos (by omega)]
    · rw [if_neg q, if_neg (by omega)]
theorem zz_decn {t : Nat} (h : 0 < t) : nI t + Int32.ofInt (-1) = nI (t - 1) := by rw [zz_dec]; exact zz_pred h
set_option maxHeartbeats 4000000 in
set_option maxRecDepth 100000 in
theorem c_Strand_markBad (l : Launch) (dC : Nat → ClassId) (dI : Nat → Nat → Nat) (a : Nat → Nat) (cI cZ : ClassId) (v : Nat → Nat) (f : Nat → Nat → Nat) (w : Nat → Nat → Int32) (sz : Nat) (i j : Nat) (hij : i ≤ j) (hj : j ≤ 300) (hI : zI v f) : Met l y_Strand_markBad (zw_Strand_markBad :: zW) ({ frames := 0, cells := 0, slots := 0, locals := 0 }) (va_Pc [.ref (a 1), .int (nI (i)), .int (nI (j))] (fun U => U.heap.size = sz ∧ va_P (dC, dI) vwCl (wC a cI cZ v f w) U.heap ∧ va_K (dC, dI) vwCl [(cI, .int), (cZ, .boolean)] U ∧ va_D (fun _ => True) (wC a cI cZ v f w))) (va_Qv (fun (u : Nat → Nat) => ∀ p, u p = if i ≤ p ∧ p < j then 1 else f 0 p) (fun (u : Nat → Nat) t => match u with | g => va_P (dC, dI) vwCl (wC a cI cZ (zu v 7 (v 7 + 1)) (zu f 0 (g)) w) t.heap ∧ va_K (dC, dI) vwCl [(cI, .int), (cZ, .boolean)] t ∧ va_D (va_A (wC a cI cZ v f w) sz) (wC a cI cZ (zu v 7 (v 7 + 1)) (zu f 0 (g)) w)) (va_A (wC a cI cZ v f w) sz)) 0 0 (va_A (wC a cI cZ v f w) sz) := by
  refine Met.ofW (cc := prog_4_method_2_code) (maxL := 4) (ret := none) (by decide) rfl ?_
  intro p e s m args below meth c s₁ B hml hv
  obtain ⟨rfl, hsz, hP, hK, hD0⟩ := hv
  have hx := B.exec
  have hb := B.bytes
  have hr := B.returns
  have hz : ∀ w ∈ zW, w.before ([.ref (a 1), .int (nI (i)), .int (nI (j))]).toArray s = true := fun w h => atoms_spec (ws := (zw_Strand_markBad :: zW)) B.pre w (List.mem_cons_of_mem _ h)
  have hown : s.vm.findClass "CutLengths$Strand" = some m.cls := findClass_of_methodNamed B.named
  have hlocks := B.notSynchronized
  subst hsz
  have hD := hD0.self (sz := s.heap.size)
  generalize hAe : va_A (wC a cI cZ v f w) s.heap.size = A at hD ⊢
  have hA : ∀ q : Nat, s.heap.size ≤ q → A q := fun q h => by rw [← hAe]; exact Or.inr h
  have hS : va_S A s.heap s.heap [] := va_S.rf
  have hP : va_P (dC, dI) vwCl (wC a cI cZ v f w) s.heap := hP
  obtain ⟨i3, i4, i5, i6, i7, i8, i9, i10, i2, i0, i1, iw, ib, ic, isl⟩ := id hI
  have hl := lv_entry ([.ref (a 1), .int (nI (i)), .int (nI (j))]) (n := 4) (Nat.le_of_ble_eq_true rfl)
  rw [lg_entry_eq]
  generalize (lg_sl ([.ref (a 1), .int (nI (i)), .int (nI (j))]) ++ List.replicate (4 - (lg_sl ([.ref (a 1), .int (nI (i)), .int (nI (j))])).length) Slot.unset).toArray = ls at hl ⊢
  have hl : lv_has ls 4 [(0, .ref (a 1)), (1, .int (nI (i))), (2, .int (nI (j)))] := hl
  refine lv_iload_n hx hb d_Strand_markBad_0 rfl (lv_at hl 1 rfl) ?_
  refine lv_istore_n (lv' := [(3, .int (nI (i))), (0, .ref (a 1)), (1, .int (nI (i))), (2, .int (nI (j)))]) hx hb d_Strand_markBad_1 rfl hl (by decide) rfl (fun ls hl => ?_)
  have loop : ∀ (n : Nat) (k : Nat) (g : Nat → Nat), (i ≤ k) → (k ≤ j) → (∀ p, g p = if i ≤ p ∧ p < k then 1 else f 0 p) → (j < k + n) → ∀ (H : Heap) (locs : List Loc), va_P (dC, dI) vwCl (wC a cI cZ v (zu f 0 (g)) w) H → va_D A (wC a cI cZ v (zu f 0 (g)) w) → va_S A s.heap H locs → ∀ ls : Array Slot, lv_has ls 4 [(3, .int (nI (k))), (0, .ref (a 1)), (1, .int (nI (i))), (2, .int (nI (j)))] → W p l e (headSpec (zw_Strand_markBad :: zW) ({ frames := 0, cells := 0, slots := 0, locals := 0 })).room s m ([.ref (a 1), .int (nI (i)), .int (nI (j))]).toArray below meth c H locs 0 0 (MQ below (va_Qv (fun (u : Nat → Nat) => ∀ p, u p = if i ≤ p ∧ p < j then 1 else f 0 p) (fun (u : Nat → Nat) t => match u with | g => va_P (dC, dI) vwCl (wC a cI cZ (zu v 7 (v 7 + 1)) (zu f 0 (g)) w) t.heap ∧ va_K (dC, dI) vwCl [(cI, .int), (cZ, .boolean)] t ∧ va_D A (wC a cI cZ (zu v 7 (v 7 + 1)) (zu f 0 (g)) w)) A) ([.ref (a 1), .int (nI (i)), .int (nI (j))]).toArray s 0 0 A) (F0 m 2 ls []) := by
    intro n
    induction n with
    | zero =>
      intro k g hk1 hk2 hg hn
      exact absurd hn (by omega)
    | succ n ih_loop =>
      intro k g hk1 hk2 hg hn H locs hP hD hS ls hl
      refine lv_iload_n hx hb d_Strand_markBad_2 rfl (lv_at hl 0 rfl) ?_
      refine lv_iload_n hx hb d_Strand_markBad_3 rfl (lv_at hl 3 rfl) ?_
      refine lv_icmp_ge (tgt := 20) hx hb d_Strand_markBad_4 (by decide) (fun c_4 => ?_) (fun c_4 => ?_)
      · have c_4 : ((j : Nat) : Int) ≤ ((k : Nat) : Int) := (zz_le (nI_toInt (by omega)) (nI_toInt (by omega))).mp c_4
        refine lv_aload_n hx hb d_Strand_markBad_20 rfl (lv_at hl 1 rfl) ?_
        refine lv_dup hx hb d_Strand_markBad_21 rfl ?_
        refine va_get (D := (dC, dI)) (ci := 1) (v := .int (nI (v 7))) (C := "CutLengths$Strand") (T := T_Strand) (N := 8) hx hb hz i_Strand hown hK hP 1 rfl rfl 4 (by decide) (hz _ tw_53) (fun _ h9 => h9) rfl d_Strand_markBad_22 ?_
        refine lv_iconst (v := nI (1)) hx hb d_Strand_markBad_25 (by decide) ?_
        refine lv_iadd hx hb d_Strand_markBad_26 ?_
        refine zz_top (nI_add (v 7) (1)) ?_
        refine va_put (D := (dC, dI)) (ci := 1) (v := .int (nI ((v 7) + 1))) (ty := .int) (C := "CutLengths$Strand") (T := T_Strand) (N := 8) hx hb hz i_Strand t_Strand t_Strand_ok n_Strand hown hK hP hD hS 1 rfl rfl 4 (by decide) (hz _ tw_53) (fun _ h9 => h9) rfl (by decide +kernel) rfl rfl (Nat.le_of_ble_eq_true rfl) d_Strand_markBad_27 (fun H locs hP hD hS => ?_)
        have hP : va_P (dC, dI) vwCl (wC a cI cZ (zu v 7 ((v 7) + 1)) (zu f 0 (g)) w) H := hP
        have hD : va_D A (wC a cI cZ (zu v 7 ((v 7) + 1)) (zu f 0 (g)) w) := hD
        exact W.vret hx hb hr (fun t9 ht hW => ⟨⟨g, rfl, (by rw [show j = k from by omega]; exact hg), by rw [ht]; exact hP, va_K.moved hW.alike hK, hD⟩, hS.F ht⟩) hS.2.2 d_Strand_markBad_30
      · have c_4 : ¬ (((j : Nat) : Int) ≤ ((k : Nat) : Int)) := fun q => c_4 ((zz_le (nI_toInt (by omega)) (nI_toInt (by omega))).mpr q)
        refine lv_aload_n hx hb d_Strand_markBad_7 rfl (lv_at hl 1 rfl) ?_
        refine va_get (D := (dC, dI)) (ci := 1) (v := .ref (a 2)) (C := "CutLengths$Strand") (T := T_Strand) (N := 8) hx hb hz i_Strand hown hK hP 1 rfl rfl 6 (by decide) (hz _ tw_57) (fun _ h9 => h9) rfl d_Strand_markBad_8 ?_
        refine lv_iload_n hx hb d_Strand_markBad_11 rfl (lv_at hl 0 rfl) ?_
        refine lv_iconst (v := nI (1)) hx hb d_Strand_markBad_12 (by decide) ?_
        refine zz_zast hx hb hK hP hD hS 2 1 (f := g) (i := k) rfl rfl (by omega) (by decide) d_Strand_markBad_13 (fun H locs hP hD hS => ?_)
        have hP : va_P (dC, dI) vwCl (wC a cI cZ v (zu f 0 (va_up g k 1)) w) H := hP
        have hD : va_D A (wC a cI cZ v (zu f 0 (va_up g k 1)) w) := hD
        refine lv_iinc (v := nI (k + 1)) (lv' := [(3, .int (nI (k + 1))), (0, .ref (a 1)), (1, .int (nI (i))), (2, .int (nI (j)))]) hx hb d_Strand_markBad_14 hl (k := 0) rfl (zz_inc _) (by decide) rfl (fun ls hl => ?_)
        refine lv_goto (tgt := 2) hx hb d_Strand_markBad_17 (by decide) ?_
        exact ih_loop (k + 1) (va_up g k 1) (by omega) (by omega) (zmark hg hk1) (by omega) H locs hP hD hS ls (lv_sub hl [0, 1, 2, 3] rfl)
  exact loop (j + 1) i (f 0) (Nat.le_refl _) (by omega) (fun p => (if_neg (by omega)).symm) (by omega) s.heap [] hP hD hS ls (lv_sub hl [0, 1, 2, 3] rfl)
set_option maxHeartbeats 4000000 in
set_option maxRecDepth 100000 in
theorem c_Strand_markBarred (l : Launch) (dC : Nat → ClassId) (dI : Nat → Nat → Nat) (a : Nat → Nat) (cI cZ : ClassId) (v : Nat → Nat) (f : Nat → Nat → Nat) (w : Nat → Nat → Int32) (sz : Nat) (i j : Nat) (hij : i ≤ j) (hj : j ≤ 300) (hI : zI v f) : Met l y_Strand_markBarred (zw_Strand_markBarred :: zW) ({ frames := 0, cells := 0, slots := 0, locals := 0 }) (va_Pc [.ref (a 1), .int (nI (i)), .int (nI (j))] (fun U => U.heap.size = sz ∧ va_P (dC, dI) vwCl (wC a cI cZ v f w) U.heap ∧ va_K (dC, dI) vwCl [(cI, .int), (cZ, .boolean)] U ∧ va_D (fun _ => True) (wC a cI cZ v f w))) (va_Qv (fun (u : Nat → Nat) => ∀ p, u p = if i ≤ p ∧ p < (j + 1) then 1 else f 1 p) (fun (u : Nat → Nat) t => match u with | g => va_P (dC, dI) vwCl (wC a cI cZ (zu v 8 (v 8 + 1)) (zu f 1 (g)) w) t.heap ∧ va_K (dC, dI) vwCl [(cI, .int), (cZ, .boolean)] t ∧ va_D (va_A (wC a cI cZ v f w) sz) (wC a cI cZ (zu v 8 (v 8 + 1)) (zu f 1 (g)) w)) (va_A (wC a cI cZ v f w) sz)) 0 0 (va_A (wC a cI cZ v f w) sz) := by
  refine Met.ofW (cc := prog_4_method_3_code) (maxL := 4) (ret := none) (by decide) rfl ?_
  intro p e s m args below meth c s₁ B hml hv
  obtain ⟨rfl, hsz, hP, hK, hD0⟩ := hv
  have hx := B.exec
  have hb := B.bytes
  have hr := B.returns
  have hz : ∀ w ∈ zW, w.before ([.ref (a 1), .int (nI (i)), .int (nI (j))]).toArray s = true := fun w h => atoms_spec (ws := (zw_Strand_markBarred :: zW)) B.pre w (List.mem_cons_of_mem _ h)
  have hown : s.vm.findClass "CutLengths$Strand" = some m.cls := findClass_of_methodNamed B.named
  have hlocks := B.notSynchronized
  subst hsz
  have hD := hD0.self (sz := s.heap.size)
  generalize hAe : va_A (wC a cI cZ v f w) s.heap.size = A at hD ⊢
  have hA : ∀ q : Nat, s.heap.size ≤ q → A q := fun q h => by rw [← hAe]; exact Or.inr h
  have hS : va_S A s.heap s.heap [] := va_S.rf
  have hP : va_P (dC, dI) vwCl (wC a cI cZ v f w) s.heap := hP
  obtain ⟨i3, i4, i5, i6, i7, i8, i9, i10, i2, i0, i1, iw, ib, ic, isl⟩ := id hI
  have hl := lv_entry ([.ref (a 1), .int (nI (i)), .int (nI (j))]) (n := 4) (Nat.le_of_ble_eq_true rfl)
  rw [lg_entry_eq]
  generalize (lg_sl ([.ref (a 1), .int (nI (i)), .int (nI (j))]) ++ List.replicate (4 - (lg_sl ([.ref (a 1), .int (nI (i)), .int (nI (j))])).length) Slot.unset).toArray = ls at hl ⊢
  have hl : lv_has ls 4 [(0, .ref (a 1)), (1, .int (nI (i))), (2, .int (nI (j)))] := hl
  refine lv_iload_n hx hb d_Strand_markBarred_0 rfl (lv_at hl 1 rfl) ?_
  refine lv_istore_n (lv' := [(3, .int (nI (i))), (0, .ref (a 1)), (1, .int (nI (i))), (2, .int (nI (j)))]) hx hb d_Strand_markBarred_1 rfl hl (by decide) rfl (fun ls hl => ?_)
  have loop : ∀ (n : Nat) (k : Nat) (g : Nat → Nat), (i ≤ k) → (k ≤ (j + 1)) → (∀ p, g p = if i ≤ p ∧ p < k then 1 else f 1 p) → ((j + 1) < k + n) → ∀ (H : Heap) (locs : List Loc), va_P (dC, dI) vwCl (wC a cI cZ v (zu f 1 (g)) w) H → va_D A (wC a cI cZ v (zu f 1 (g)) w) → va_S A s.heap H locs → ∀ ls : Array Slot, lv_has ls 4 [(3, .int (nI (k))), (0, .ref (a 1)), (1, .int (nI (i))), (2, .int (nI (j)))] → W p l e (headSpec (zw_Strand_markBarred :: zW) ({ frames := 0, cells := 0, slots := 0, locals := 0 })).room s m ([.ref (a 1), .int (nI (i)), .int (nI (j))]).toArray below meth c H locs 0 0 (MQ below (va_Qv (fun (u : Nat → Nat) => ∀ p, u p = if i ≤ p ∧ p < (j + 1) then 1 else f 1 p) (fun (u : Nat → Nat) t => match u with | g => va_P (dC, dI) vwCl (wC a cI cZ (zu v 8 (v 8 + 1)) (zu f 1 (g)) w) t.heap ∧ va_K (dC, dI) vwCl [(cI, .int), (cZ, .boolean)] t ∧ va_D A (wC a cI cZ (zu v 8 (v 8 + 1)) (zu f 1 (g)) w)) A) ([.ref (a 1), .int (nI (i)), .int (nI (j))]).toArray s 0 0 A) (F0 m 2 ls []) := by
    intro n
    induction n with
    | zero =>
      intro k g hk1 hk2 hg hn
      exact absurd hn (by omega)
    | succ n ih_loop =>
      intro k g hk1 hk2 hg hn H locs hP hD hS ls hl
      refine lv_iload_n hx hb d_Strand_markBarred_2 rfl (lv_at hl 0 rfl) ?_
      refine lv_iload_n hx hb d_Strand_markBarred_3 rfl (lv_at hl 3 rfl) ?_
      refine lv_icmp_gt (tgt := 20) hx hb d_Strand_markBarred_4 (by decide) (fun c_4 => ?_) (fun c_4 => ?_)
      · have c_4 : ((j : Nat) : Int) < ((k : Nat) : Int) := (zz_lt (nI_toInt (by omega)) (nI_toInt (by omega))).mp c_4
        refine lv_aload_n hx hb d_Strand_markBarred_20 rfl (lv_at hl 1 rfl) ?_
        refine lv_dup hx hb d_Strand_markBarred_21 rfl ?_
        refine va_get (D := (dC, dI)) (ci := 1) (v := .int (nI (v 8))) (C := "CutLengths$Strand") (T := T_Strand) (N := 8) hx hb hz i_Strand hown hK hP 1 rfl rfl 5 (by decide) (hz _ tw_55) (fun _ h9 => h9) rfl d_Strand_markBarred_22 ?_
        refine lv_iconst (v := nI (1)) hx hb d_Strand_markBarred_25 (by decide) ?_
        refine lv_iadd hx hb d_Strand_markBarred_26 ?_
        refine zz_top (nI_add (v 8) (1)) ?_
        refine va_put (D := (dC, dI)) (ci := 1) (v := .int (nI ((v 8) + 1))) (ty := .int) (C := "CutLengths$Strand") (T := T_Strand) (N := 8) hx hb hz i_Strand t_Strand t_Strand_ok n_Strand hown hK hP hD hS 1 rfl rfl 5 (by decide) (hz _ tw_55) (fun _ h9 => h9) rfl (by decide +kernel) rfl rfl (Nat.le_of_ble_eq_true rfl) d_Strand_markBarred_27 (fun H locs hP hD hS => ?_)
        have hP : va_P (dC, dI) vwCl (wC a cI cZ (zu v 8 ((v 8) + 1)) (zu f 1 (g)) w) H := hP
        have hD : va_D A (wC a cI cZ (zu v 8 ((v 8) + 1)) (zu f 1 (g)) w) := hD
        exact W.vret hx hb hr (fun t9 ht hW => ⟨⟨g, rfl, (by rw [show (j + 1) = k from by omega]; exact hg), by rw [ht]; exact hP, va_K.moved hW.alike hK, hD⟩, hS.F ht⟩) hS.2.2 d_Strand_markBarred_30
      · have c_4 : ¬ (((j : Nat) : Int) < ((k : Nat) : Int)) := fun q => c_4 ((zz_lt (nI_toInt (by omega)) (nI_toInt (by omega))).mpr q)
        refine lv_aload_n hx hb d_Strand_markBarred_7 rfl (lv_at hl 1 rfl) ?_
        refine va_get (D := (dC, dI)) (ci := 1) (v := .ref (a 3)) (C := "CutLengths$Strand") (T := T_Strand) (N := 8) hx hb hz i_Strand hown hK hP 1 rfl rfl 7 (by decide) (hz _ tw_58) (fun _ h9 => h9) rfl d_Strand_markBarred_8 ?_
        refine lv_iload_n hx hb d_Strand_markBarred_11 rfl (lv_at hl 0 rfl) ?_
        refine lv_iconst (v := nI (1)) hx hb d_Strand_markBarred_12 (by decide) ?_
        refine zz_zast hx hb hK hP hD hS 3 1 (f := g) (i := k) rfl rfl (by omega) (by decide) d_Strand_markBarred_13 (fun H locs hP hD hS => ?_)
        have hP : va_P (dC, dI) vwCl (wC a cI cZ v (zu f 1 (va_up g k 1)) w) H := hP
        have hD : va_D A (wC a cI cZ v (zu f 1 (va_up g k 1)) w) := hD
        refine lv_iinc (v := nI (k + 1)) (lv' := [(3, .int (nI (k + 1))), (0, .ref (a 1)), (1, .int (nI (i))), (2, .int (nI (j)))]) hx hb d_Strand_markBarred_14 hl (k := 0) rfl (zz_inc _) (by decide) rfl (fun ls hl => ?_)
        refine lv_goto (tgt := 2) hx hb d_Strand_markBarred_17 (by decide) ?_
        exact ih_loop (k + 1) (va_up g k 1) (by omega) (by omega) (zmark hg hk1) (by omega) H locs hP hD hS ls (lv_sub hl [0, 1, 2, 3] rfl)
  exact loop ((j + 1) + 1) i (f 1) (Nat.le_refl _) (by omega) (fun p => (if_neg (by omega)).symm) (by omega) s.heap [] hP hD hS ls (lv_sub hl [0, 1, 2, 3] rfl)
set_option maxHeartbeats 4000000 in
set_option maxRecDepth 100000 in
theorem c_Plan_takeScrap (l : Launch) (dC : Nat → ClassId) (dI : Nat → Nat → Nat) (a : Nat → Nat) (cI cZ : ClassId) (v : Nat → Nat) (f : Nat → Nat → Nat) (w : Nat → Nat → Int32) (sz : Nat) (j : Nat) (hj : j < 300) : Met l y_Plan_takeScrap (zw_Plan_takeScrap :: zW) ({ frames := 0, cells := 0, slots := 0, locals := 0 }) (va_Pc [.ref (a 7), .int (nI (j))] (fun U => U.heap.size = sz ∧ va_P (dC, dI) vwCl (wC a cI cZ v f w) U.heap ∧ va_K (dC, dI) vwCl [(cI, .int), (cZ, .boolean)] U ∧ va_D (fun _ => True) (wC a cI cZ v f w))) (va_Qv (fun (u : Nat) => u = if w 0 (j + 1) = -1 then f 5 (j + 1) + 1 else 1) (fun (u : Nat) t => match u with | x => va_P (dC, dI) vwCl (wC a cI cZ v (zu (zu f 4 (va_up (f 4) j (f 4 (j + 1) + 1))) 5 (va_up (f 5) j x)) (zu w 0 (va_up (w 0) j (-1)))) t.heap ∧ va_K (dC, dI) vwCl [(cI, .int), (cZ, .boolean)] t ∧ va_D (va_A (wC a cI cZ v f w) sz) (wC a cI cZ v (zu (zu f 4 (va_up (f 4) j (f 4 (j + 1) + 1))) 5 (va_up (f 5) j x)) (zu w 0 (va_up (w 0) j (-1))))) (va_A (wC a cI cZ v f w) sz)) 0 0 (va_A (wC a cI cZ v f w) sz) := by
  refine Met.ofW (cc := prog_2_method_4_code) (maxL := 3) (ret := none) (by decide) rfl ?_
  intro p e s m args below meth c s₁ B hml hv
  obtain ⟨rfl, hsz, hP, hK, hD0⟩ := hv
  have hx := B.exec
  have hb := B.bytes
  have hr := B.returns
  have hz : ∀ w ∈ zW, w.before ([.ref (a 7), .int (nI (j))]).toArray s = true := fun w h => atoms_spec (ws := (zw_Plan_takeScrap :: zW)) B.pre w (List.mem_cons_of_mem _ h)
  have hown : s.vm.findClass "CutLengths$Plan" = some m.cls := findClass_of_methodNamed B.named
  have hlocks := B.notSynchronized
  subst hsz
  have hD := hD0.self (sz := s.heap.size)
  generalize hAe : va_A (wC a cI cZ v f w) s.heap.size = A at hD ⊢
  have hA : ∀ q : Nat, s.heap.size ≤ q → A q := fun q h => by rw [← hAe]; exact Or.inr h
  have hS : va_S A s.heap s.heap [] := va_S.rf
  have hP : va_P (dC, dI) vwCl (wC a cI cZ v f w) s.heap := hP
  have hl := lv_entry ([.ref (a 7), .int (nI (j))]) (n := 3) (Nat.le_of_ble_eq_true rfl)
  rw [lg_entry_eq]
  generalize (lg_sl ([.ref (a 7), .int (nI (j))]) ++ List.replicate (3 - (lg_sl ([.ref (a 7), .int (nI (j))])).length) Slot.unset).toArray = ls at hl ⊢
  have hl : lv_has ls 3 [(0, .ref (a 7)), (1, .int (nI (j)))] := hl
  refine lv_aload_n hx hb d_Plan_takeScrap_0 rfl (lv_at hl 0 rfl) ?_
  refine va_get (D := (dC, dI)) (ci := 3) (v := .ref (a 9)) (C := "CutLengths$Plan") (T := T_Plan) (N := 3) hx hb hz i_Plan hown hK hP 7 rfl rfl 1 (by decide) (hz _ tw_108) (fun _ h9 => h9) rfl d_Plan_takeScrap_1 ?_
  refine lv_iload_n hx hb d_Plan_takeScrap_4 rfl (lv_at hl 1 rfl) ?_
  refine lv_iconst (v := nI (1)) hx hb d_Plan_takeScrap_5 (by decide) ?_
  refine lv_iadd hx hb d_Plan_takeScrap_6 ?_
  refine zz_top (nI_add (j) (1)) ?_
  refine zz_iald hx hb hK hP 9 0 (f := w 0) (i := j + 1) rfl rfl (by omega) (by decide) d_Plan_takeScrap_7 ?_
  refine lv_iconst (v := -1) hx hb d_Plan_takeScrap_8 (by decide) ?_
  refine lv_icmp_ne (tgt := 16) hx hb d_Plan_takeScrap_9 (by decide) (fun c_9 => ?_) (fun c_9 => ?_)
  · have c_9 : ¬ (w 0 (j + 1) = -1) := c_9
    refine lv_iconst (v := nI (0)) hx hb d_Plan_takeScrap_16 (by decide) ?_
    refine lv_istore_n (lv' := [(2, .int (nI (0))), (0, .ref (a 7)), (1, .int (nI (j)))]) hx hb d_Plan_takeScrap_17 rfl hl (by decide) rfl (fun ls hl => ?_)
    refine lv_aload_n hx hb d_Plan_takeScrap_18 rfl (lv_at hl 1 rfl) ?_
    refine va_get (D := (dC, dI)) (ci := 3) (v := .ref (a 8)) (C := "CutLengths$Plan") (T := T_Plan) (N := 3) hx hb hz i_Plan hown hK hP 7 rfl rfl 0 (by decide) (hz _ tw_106) (fun _ h9 => h9) rfl d_Plan_takeScrap_19 ?_
    refine lv_iload_n hx hb d_Plan_takeScrap_22 rfl (lv_at hl 2 rfl) ?_
    refine lv_aload_n hx hb d_Plan_takeScrap_23 rfl (lv_at hl 1 rfl) ?_
    refine va_get (D := (dC, dI)) (ci := 3) (v := .ref (a 8)) (C := "CutLengths$Plan") (T := T_Plan) (N := 3) hx hb hz i_Plan hown hK hP 7 rfl rfl 0 (by decide) (hz _ tw_106) (fun _ h9 => h9) rfl d_Plan_takeScrap_24 ?_
    refine lv_iload_n hx hb d_Plan_takeScrap_27 rfl (lv_at hl 2 rfl) ?_
    refine lv_iconst (v := nI (1)) hx hb d_Plan_takeScrap_28 (by decide) ?_
    refine lv_iadd hx hb d_Plan_takeScrap_29 ?_
    refine zz_top (nI_add (j) (1)) ?_
    refine zz_nald hx hb hK hP 8 0 (f := f 4) (i := j + 1) rfl rfl (by omega) (by decide) d_Plan_takeScrap_30 ?_
    refine lv_iconst (v := nI (1)) hx hb d_Plan_takeScrap_31 (by decide) ?_
    refine lv_iadd hx hb d_Plan_takeScrap_32 ?_
    refine zz_top (nI_add (f 4 (j + 1)) (1)) ?_
    refine zz_nast hx hb hK hP hD hS 8 0 (f := f 4) (i := j) (x := (f 4 (j + 1)) + 1) rfl rfl (by omega) (by decide) d_Plan_takeScrap_33 (fun H locs hP hD hS => ?_)
    have hP : va_P (dC, dI) vwCl (wC a cI cZ v (zu f 4 (va_up (f 4) j ((f 4 (j + 1)) + 1))) w) H := hP
    have hD : va_D A (wC a cI cZ v (zu f 4 (va_up (f 4) j ((f 4 (j + 1)) + 1))) w) := hD
    refine lv_aload_n hx hb d_Plan_takeScrap_34 rfl (lv_at hl 1 rfl) ?_
    refine va_get (D := (dC, dI)) (ci := 3) (v := .ref (a 9)) (C := "CutLengths$Plan") (T := T_Plan) (N := 3) hx hb hz i_Plan hown hK hP 7 rfl rfl 1 (by decide) (hz _ tw_108) (fun _ h9 => h9) rfl d_Plan_takeScrap_35 ?_
    refine lv_iload_n hx hb d_Plan_takeScrap_38 rfl (lv_at hl 2 rfl) ?_
    refine lv_iconst (v := -1) hx hb d_Plan_takeScrap_39 (by decide) ?_
    refine zz_iast hx hb hK hP hD hS 9 0 (f := w 0) (i := j) (x := -1) rfl rfl (by omega) (by decide) d_Plan_takeScrap_40 (fun H locs hP hD hS => ?_)
    have hP : va_P (dC, dI) vwCl (wC a cI cZ v (zu f 4 (va_up (f 4) j ((f 4 (j + 1)) + 1))) (zu w 0 (va_up (w 0) j (-1)))) H := hP
    have hD : va_D A (wC a cI cZ v (zu f 4 (va_up (f 4) j ((f 4 (j + 1)) + 1))) (zu w 0 (va_up (w 0) j (-1)))) := hD
    refine lv_aload_n hx hb d_Plan_takeScrap_41 rfl (lv_at hl 1 rfl) ?_
    refine va_get (D := (dC, dI)) (ci := 3) (v := .ref (a 10)) (C := "CutLengths$Plan") (T := T_Plan) (N := 3) hx hb hz i_Plan hown hK hP 7 rfl rfl 2 (by decide) (hz _ tw_110) (fun _ h9 => h9) rfl d_Plan_takeScrap_42 ?_
    refine lv_iload_n hx hb d_Plan_takeScrap_45 rfl (lv_at hl 2 rfl) ?_
    refine lv_iload_n hx hb d_Plan_takeScrap_46 rfl (lv_at hl 0 rfl) ?_
    refine lv_if_eq (tgt := 63) hx hb d_Plan_takeScrap_47 (by decide) (fun _ => ?_) (fun c9 => absurd c9 (by decide))
    refine lv_iconst (v := nI (1)) hx hb d_Plan_takeScrap_63 (by decide) ?_
    refine zz_nast hx hb hK hP hD hS 10 0 (f := f 5) (i := j) (x := 1) rfl rfl (by omega) (by decide) d_Plan_takeScrap_64 (fun H locs hP hD hS => ?_)
    have hP : va_P (dC, dI) vwCl (wC a cI cZ v (zu (zu f 4 (va_up (f 4) j ((f 4 (j + 1)) + 1))) 5 (va_up (f 5) j 1)) (zu w 0 (va_up (w 0) j (-1)))) H := hP
    have hD : va_D A (wC a cI cZ v (zu (zu f 4 (va_up (f 4) j ((f 4 (j + 1)) + 1))) 5 (va_up (f 5) j 1)) (zu w 0 (va_up (w 0) j (-1)))) := hD
    exact W.vret hx hb hr (fun t9 ht hW => ⟨⟨1, rfl, (if_neg c_9).symm, by rw [ht]; exact hP, va_K.moved hW.alike hK, hD⟩, hS.F ht⟩) hS.2.2 d_Plan_takeScrap_65
  · have c_9 : w 0 (j + 1) = -1 := c_9
    refine lv_iconst (v := nI (1)) hx hb d_Plan_takeScrap_12 (by decide) ?_
    refine lv_goto (tgt := 17) hx hb d_Plan_takeScrap_13 (by decide) ?_
    refine lv_istore_n (lv' := [(2, .int (nI (1))), (0, .ref (a 7)), (1, .int (nI (j)))]) hx hb d_Plan_takeScrap_17 rfl hl (by decide) rfl (fun ls hl => ?_)
    refine lv_aload_n hx hb d_Plan_takeScrap_18 rfl (lv_at hl 1 rfl) ?_
    refine va_get (D := (dC, dI)) (ci := 3) (v := .ref (a 8)) (C := "CutLengths$Plan") (T := T_Plan) (N := 3) hx hb hz i_Plan hown hK hP 7 rfl rfl 0 (by decide) (hz _ tw_106) (fun _ h9 => h9) rfl d_Plan_takeScrap_19 ?_
    refine lv_iload_n hx hb d_Plan_takeScrap_22 rfl (lv_at hl 2 rfl) ?_
    refine lv_aload_n hx hb d_Plan_takeScrap_23 rfl (lv_at hl 1 rfl) ?_
    refine va_get (D := (dC, dI)) (ci := 3) (v := .ref (a 8)) (C := "CutLengths$Plan") (T := T_Plan) (N := 3) hx hb hz i_Plan hown hK hP 7 rfl rfl 0 (by decide) (hz _ tw_106) (fun _ h9 => h9) rfl d_Plan_takeScrap_24 ?_
    refine lv_iload_n hx hb d_Plan_takeScrap_27 rfl (lv_at hl 2 rfl) ?_
    refine lv_iconst (v := nI (1)) hx hb d_Plan_takeScrap_28 (by decide) ?_
    refine lv_iadd hx hb d_Plan_takeScrap_29 ?_
    refine zz_top (nI_add (j) (1)) ?_
    refine zz_nald hx hb hK hP 8 0 (f := f 4) (i := j + 1) rfl rfl (by omega) (by decide) d_Plan_takeScrap_30 ?_
    refine lv_iconst (v := nI (1)) hx hb d_Plan_takeScrap_31 (by decide) ?_
    refine lv_iadd hx hb d_Plan_takeScrap_32 ?_
    refine zz_top (nI_add (f 4 (j + 1)) (1)) ?_
    refine zz_nast hx hb hK hP hD hS 8 0 (f := f 4) (i := j) (x := (f 4 (j + 1)) + 1) rfl rfl (by omega) (by decide) d_Plan_takeScrap_33 (fun H locs hP hD hS => ?_)
    have hP : va_P (dC, dI) vwCl (wC a cI cZ v (zu f 4 (va_up (f 4) j ((f 4 (j + 1)) + 1))) w) H := hP
    have hD : va_D A (wC a cI cZ v (zu f 4 (va_up (f 4) j ((f 4 (j + 1)) + 1))) w) := hD
    refine lv_aload_n hx hb d_Plan_takeScrap_34 rfl (lv_at hl 1 rfl) ?_
    refine va_get (D := (dC, dI)) (ci := 3) (v := .ref (a 9)) (C := "CutLengths$Plan") (T := T_Plan) (N := 3) hx hb hz i_Plan hown hK hP 7 rfl rfl 1 (by decide) (hz _ tw_108) (fun _ h9 => h9) rfl d_Plan_takeScrap_35 ?_
    refine lv_iload_n hx hb d_Plan_takeScrap_38 rfl (lv_at hl 2 rfl) ?_
    refine lv_iconst (v := -1) hx hb d_Plan_takeScrap_39 (by decide) ?_
    refine zz_iast hx hb hK hP hD hS 9 0 (f := w 0) (i := j) (x := -1) rfl rfl (by omega) (by decide) d_Plan_takeScrap_40 (fun H locs hP hD hS => ?_)
    have hP : va_P (dC, dI) vwCl (wC a cI cZ v (zu f 4 (va_up (f 4) j ((f 4 (j + 1)) + 1))) (zu w 0 (va_up (w 0) j (-1)))) H := hP
    have hD : va_D A (wC a cI cZ v (zu f 4 (va_up (f 4) j ((f 4 (j + 1)) + 1))) (zu w 0 (va_up (w 0) j (-1)))) := hD
    refine lv_aload_n hx hb d_Plan_takeScrap_41 rfl (lv_at hl 1 rfl) ?_
    refine va_get (D := (dC, dI)) (ci := 3) (v := .ref (a 10)) (C := "CutLengths$Plan") (T := T_Plan) (N := 3) hx hb hz i_Plan hown hK hP 7 rfl rfl 2 (by decide) (hz _ tw_110) (fun _ h9 => h9) rfl d_Plan_takeScrap_42 ?_
    refine lv_iload_n hx hb d_Plan_takeScrap_45 rfl (lv_at hl 2 rfl) ?_
    refine lv_iload_n hx hb d_Plan_takeScrap_46 rfl (lv_at hl 0 rfl) ?_
    refine lv_if_eq (tgt := 63) hx hb d_Plan_takeScrap_47 (by decide) (fun c9 => absurd c9 (by decide)) (fun _ => ?_)
    refine lv_aload_n hx hb d_Plan_takeScrap_50 rfl (lv_at hl 1 rfl) ?_
    refine va_get (D := (dC, dI)) (ci := 3) (v := .ref (a 10)) (C := "CutLengths$Plan") (T := T_Plan) (N := 3) hx hb hz i_Plan hown hK hP 7 rfl rfl 2 (by decide) (hz _ tw_110) (fun _ h9 => h9) rfl d_Plan_takeScrap_51 ?_
    refine lv_iload_n hx hb d_Plan_takeScrap_54 rfl (lv_at hl 2 rfl) ?_
    refine lv_iconst (v := nI (1)) hx hb d_Plan_takeScrap_55 (by decide) ?_
    refine lv_iadd hx hb d_Plan_takeScrap_56 ?_
    refine zz_top (nI_add (j) (1)) ?_
    refine zz_nald hx hb hK hP 10 0 (f := f 5) (i := j + 1) rfl rfl (by omega) (by decide) d_Plan_takeScrap_57 ?_
    refine lv_iconst (v := nI (1)) hx hb d_Plan_takeScrap_58 (by decide) ?_
    refine lv_iadd hx hb d_Plan_takeScrap_59 ?_
    refine zz_top (nI_add (f 5 (j + 1)) (1)) ?_
    refine lv_goto (tgt := 64) hx hb d_Plan_takeScrap_60 (by decide) ?_
    refine zz_nast hx hb hK hP hD hS 10 0 (f := f 5) (i := j) (x := (f 5 (j + 1)) + 1) rfl rfl (by omega) (by decide) d_Plan_takeScrap_64 (fun H locs hP hD hS => ?_)
    have hP : va_P (dC, dI) vwCl (wC a cI cZ v (zu (zu f 4 (va_up (f 4) j ((f 4 (j + 1)) + 1))) 5 (va_up (f 5) j ((f 5 (j + 1)) + 1))) (zu w 0 (va_up (w 0) j (-1)))) H := hP
    have hD : va_D A (wC a cI cZ v (zu (zu f 4 (va_up (f 4) j ((f 4 (j + 1)) + 1))) 5 (va_up (f 5) j ((f 5 (j + 1)) + 1))) (zu w 0 (va_up (w 0) j (-1)))) := hD
    exact W.vret hx hb hr (fun t9 ht hW => ⟨⟨(f 5 (j + 1) + 1), rfl, (if_pos c_9).symm, by rw [ht]; exact hP, va_K.moved hW.alike hK, hD⟩, hS.F ht⟩) hS.2.2 d_Plan_takeScrap_65
set_option maxHeartbeats 4000000 in
set_option maxRecDepth 100000 in
theorem c_Plan_takePiece (l : Launch) (dC : Nat → ClassId) (dI : Nat → Nat → Nat) (a : Nat → Nat) (cI cZ : ClassId) (v : Nat → Nat) (f : Nat → Nat → Nat) (w : Nat → Nat → Int32) (sz : Nat) (j k : Nat) (x : Int32) (hj : j + k < 301) : Met l y_Plan_takePiece (zw_Plan_takePiece :: zW) ({ frames := 0, cells := 0, slots := 0, locals := 0 }) (va_Pc [.ref (a 7), .int (nI (j)), .int (x), .int (nI (k))] (fun U => U.heap.size = sz ∧ va_P (dC, dI) vwCl (wC a cI cZ v f w) U.heap ∧ va_K (dC, dI) vwCl [(cI, .int), (cZ, .boolean)] U ∧ va_D (fun _ => True) (wC a cI cZ v f w))) (va_Qv (fun (u : Unit) => True) (fun (_ : Unit) t => va_P (dC, dI) vwCl (wC a cI cZ v (zu (zu f 4 (va_up (f 4) j (f 4 (j + k)))) 5 (va_up (f 5) j k)) (zu w 0 (va_up (w 0) j x))) t.heap ∧ va_K (dC, dI) vwCl [(cI, .int), (cZ, .boolean)] t ∧ va_D (va_A (wC a cI cZ v f w) sz) (wC a cI cZ v (zu (zu f 4 (va_up (f 4) j (f 4 (j + k)))) 5 (va_up (f 5) j k)) (zu w 0 (va_up (w 0) j x)))) (va_A (wC a cI cZ v f w) sz)) 0 0 (va_A (wC a cI cZ v f w) sz) := by
  refine Met.ofW (cc := prog_2_method_6_code) (maxL := 4) (ret := none) (by decide) rfl ?_
  intro p e s m args below meth c s₁ B hml hv
  obtain ⟨rfl, hsz, hP, hK, hD0⟩ := hv
  have hx := B.exec
  have hb := B.bytes
  have hr := B.returns
  have hz : ∀ w ∈ zW, w.before ([.ref (a 7), .int (nI (j)), .int (x), .int (nI (k))]).toArray s = true := fun w h => atoms_spec (ws := (zw_Plan_takePiece :: zW)) B.pre w (List.mem_cons_of_mem _ h)
  have hown : s.vm.findClass "CutLengths$Plan" = some m.cls := findClass_of_methodNamed B.named
  have hlocks := B.notSynchronized
  subst hsz
  have hD := hD0.self (sz := s.heap.size)
  generalize hAe : va_A (wC a cI cZ v f w) s.heap.size = A at hD ⊢
  have hA : ∀ q : Nat, s.heap.size ≤ q → A q := fun q h => by rw [← hAe]; exact Or.inr h
  have hS : va_S A s.heap s.heap [] := va_S.rf
  have hP : va_P (dC, dI) vwCl (wC a cI cZ v f w) s.heap := hP
  have hl := lv_entry ([.ref (a 7), .int (nI (j)), .int (x), .int (nI (k))]) (n := 4) (Nat.le_of_ble_eq_true rfl)
  rw [lg_entry_eq]
  generalize (lg_sl ([.ref (a 7), .int (nI (j)), .int (x), .int (nI (k))]) ++ List.replicate (4 - (lg_sl ([.ref (a 7), .int (nI (j)), .int (x), .int (nI (k))])).length) Slot.unset).toArray = ls at hl ⊢
  have hl : lv_has ls 4 [(0, .ref (a 7)), (1, .int (nI (j))), (2, .int (x)), (3, .int (nI (k)))] := hl
  refine lv_aload_n hx hb d_Plan_takePiece_0 rfl (lv_at hl 0 rfl) ?_
  refine va_get (D := (dC, dI)) (ci := 3) (v := .ref (a 8)) (C := "CutLengths$Plan") (T := T_Plan) (N := 3) hx hb hz i_Plan hown hK hP 7 rfl rfl 0 (by decide) (hz _ tw_106) (fun _ h9 => h9) rfl d_Plan_takePiece_1 ?_
  refine lv_iload_n hx hb d_Plan_takePiece_4 rfl (lv_at hl 1 rfl) ?_
  refine lv_aload_n hx hb d_Plan_takePiece_5 rfl (lv_at hl 0 rfl) ?_
  refine va_get (D := (dC, dI)) (ci := 3) (v := .ref (a 8)) (C := "CutLengths$Plan") (T := T_Plan) (N := 3) hx hb hz i_Plan hown hK hP 7 rfl rfl 0 (by decide) (hz _ tw_106) (fun _ h9 => h9) rfl d_Plan_takePiece_6 ?_
  refine lv_iload_n hx hb d_Plan_takePiece_9 rfl (lv_at hl 1 rfl) ?_
  refine lv_iload_n hx hb d_Plan_takePiece_10 rfl (lv_at hl 3 rfl) ?_
  refine lv_iadd hx hb d_Plan_takePiece_11 ?_
  refine zz_top (nI_add (j) (k)) ?_
  refine zz_nald hx hb hK hP 8 0 (f := f 4) (i := j + k) rfl rfl (by omega) (by decide) d_Plan_takePiece_12 ?_
  refine zz_nast hx hb hK hP hD hS 8 0 (f := f 4) (i := j) (x := f 4 (j + k)) rfl rfl (by omega) (by decide) d_Plan_takePiece_13 (fun H locs hP hD hS => ?_)
  have hP : va_P (dC, dI) vwCl (wC a cI cZ v (zu f 4 (va_up (f 4) j (f 4 (j + k)))) w) H := hP
  have hD : va_D A (wC a cI cZ v (zu f 4 (va_up (f 4) j (f 4 (j + k)))) w) := hD
  refine lv_aload_n hx hb d_Plan_takePiece_14 rfl (lv_at hl 0 rfl) ?_
  refine va_get (D := (dC, dI)) (ci := 3) (v := .ref (a 9)) (C := "CutLengths$Plan") (T := T_Plan) (N := 3) hx hb hz i_Plan hown hK hP 7 rfl rfl 1 (by decide) (hz _ tw_108) (fun _ h9 => h9) rfl d_Plan_takePiece_15 ?_
  refine lv_iload_n hx hb d_Plan_takePiece_18 rfl (lv_at hl 1 rfl) ?_
  refine lv_iload_n hx hb d_Plan_takePiece_19 rfl (lv_at hl 2 rfl) ?_
  refine zz_iast hx hb hK hP hD hS 9 0 (f := w 0) (i := j) (x := x) rfl rfl (by omega) (by decide) d_Plan_takePiece_20 (fun H locs hP hD hS => ?_)
  have hP : va_P (dC, dI) vwCl (wC a cI cZ v (zu f 4 (va_up (f 4) j (f 4 (j + k)))) (zu w 0 (va_up (w 0) j x))) H := hP
  have hD : va_D A (wC a cI cZ v (zu f 4 (va_up (f 4) j (f 4 (j + k)))) (zu w 0 (va_up (w 0) j x))) := hD
  refine lv_aload_n hx hb d_Plan_takePiece_21 rfl (lv_at hl 0 rfl) ?_
  refine va_get (D := (dC, dI)) (ci := 3) (v := .ref (a 10)) (C := "CutLengths$Plan") (T := T_Plan) (N := 3) hx hb hz i_Plan hown hK hP 7 rfl rfl 2 (by decide) (hz _ tw_110) (fun _ h9 => h9) rfl d_Plan_takePiece_22 ?_
  refine lv_iload_n hx hb d_Plan_takePiece_25 rfl (lv_at hl 1 rfl) ?_
  refine lv_iload_n hx hb d_Plan_takePiece_26 rfl (lv_at hl 3 rfl) ?_
  refine zz_nast hx hb hK hP hD hS 10 0 (f := f 5) (i := j) (x := k) rfl rfl (by omega) (by decide) d_Plan_takePiece_27 (fun H locs hP hD hS => ?_)
  have hP : va_P (dC, dI) vwCl (wC a cI cZ v (zu (zu f 4 (va_up (f 4) j (f 4 (j + k)))) 5 (va_up (f 5) j k)) (zu w 0 (va_up (w 0) j x))) H := hP
  have hD : va_D A (wC a cI cZ v (zu (zu f 4 (va_up (f 4) j (f 4 (j + k)))) 5 (va_up (f 5) j k)) (zu w 0 (va_up (w 0) j x))) := hD
  exact W.vret hx hb hr (fun t9 ht hW => ⟨⟨(), rfl, trivial, by rw [ht]; exact hP, va_K.moved hW.alike hK, hD⟩, hS.F ht⟩) hS.2.2 d_Plan_takePiece_28
set_option maxHeartbeats 4000000 in
set_option maxRecDepth 100000 in
theorem c_Slabs_append (l : Launch) (dC : Nat → ClassId) (dI : Nat → Nat → Nat) (a : Nat → Nat) (cI cZ : ClassId) (v : Nat → Nat) (f : Nat → Nat → Nat) (w : Nat → Nat → Int32) (sz : Nat) (x : Int32) (i j : Nat) (h10 : v 10 < 100) : Met l y_Slabs_append (zw_Slabs_append :: zW) ({ frames := 0, cells := 0, slots := 0, locals := 0 }) (va_Pc [.ref (a 11), .int (x), .int (nI (i)), .int (nI (j))] (fun U => U.heap.size = sz ∧ va_P (dC, dI) vwCl (wC a cI cZ v f w) U.heap ∧ va_K (dC, dI) vwCl [(cI, .int), (cZ, .boolean)] U ∧ va_D (fun _ => True) (wC a cI cZ v f w))) (va_Qv (fun (u : Unit) => True) (fun (_ : Unit) t => va_P (dC, dI) vwCl (wC a cI cZ (zu v 10 (v 10 + 1)) (zu (zu f 6 (va_up (f 6) (v 10) i)) 7 (va_up (f 7) (v 10) j)) (zu w 1 (va_up (w 1) (v 10) x))) t.heap ∧ va_K (dC, dI) vwCl [(cI, .int), (cZ, .boolean)] t ∧ va_D (va_A (wC a cI cZ v f w) sz) (wC a cI cZ (zu v 10 (v 10 + 1)) (zu (zu f 6 (va_up (f 6) (v 10) i)) 7 (va_up (f 7) (v 10) j)) (zu w 1 (va_up (w 1) (v 10) x)))) (va_A (wC a cI cZ v f w) sz)) 0 0 (va_A (wC a cI cZ v f w) sz) := by
  refine Met.ofW (cc := prog_3_method_2_code) (maxL := 4) (ret := none) (by decide) rfl ?_
  intro p e s m args below meth c s₁ B hml hv
  obtain ⟨rfl, hsz, hP, hK, hD0⟩ := hv
  have hx := B.exec
  have hb := B.bytes
  have hr := B.returns
  have hz : ∀ w ∈ zW, w.before ([.ref (a 11), .int (x), .int (nI (i)), .int (nI (j))]).toArray s = true := fun w h => atoms_spec (ws := (zw_Slabs_append :: zW)) B.pre w (List.mem_cons_of_mem _ h)
  have hown : s.vm.findClass "CutLengths$Slabs" = some m.cls := findClass_of_methodNamed B.named
  have hlocks := B.notSynchronized
  subst hsz
  have hD := hD0.self (sz := s.heap.size)
  generalize hAe : va_A (wC a cI cZ v f w) s.heap.size = A at hD ⊢
  have hA : ∀ q : Nat, s.heap.size ≤ q → A q := fun q h => by rw [← hAe]; exact Or.inr h
  have hS : va_S A s.heap s.heap [] := va_S.rf
  have hP : va_P (dC, dI) vwCl (wC a cI cZ v f w) s.heap := hP
  have hl := lv_entry ([.ref (a 11), .int (x), .int (nI (i)), .int (nI (j))]) (n := 4) (Nat.le_of_ble_eq_true rfl)
  rw [lg_entry_eq]
  generalize (lg_sl ([.ref (a 11), .int (x), .int (nI (i)), .int (nI (j))]) ++ List.replicate (4 - (lg_sl ([.ref (a 11), .int (x), .int (nI (i)), .int (nI (j))])).length) Slot.unset).toArray = ls at hl ⊢
  have hl : lv_has ls 4 [(0, .ref (a 11)), (1, .int (x)), (2, .int (nI (i))), (3, .int (nI (j)))] := hl
  refine lv_aload_n hx hb d_Slabs_append_0 rfl (lv_at hl 0 rfl) ?_
  refine va_get (D := (dC, dI)) (ci := 4) (v := .ref (a 12)) (C := "CutLengths$Slabs") (T := T_Slabs) (N := 4) hx hb hz i_Slabs hown hK hP 11 rfl rfl 1 (by decide) (hz _ tw_127) (fun _ h9 => h9) rfl d_Slabs_append_1 ?_
  refine lv_aload_n hx hb d_Slabs_append_4 rfl (lv_at hl 0 rfl) ?_
  refine va_get (D := (dC, dI)) (ci := 4) (v := .int (nI (v 10))) (C := "CutLengths$Slabs") (T := T_Slabs) (N := 4) hx hb hz i_Slabs hown hK hP 11 rfl rfl 0 (by decide) (hz _ tw_125) (fun _ h9 => h9) rfl d_Slabs_append_5 ?_
  refine lv_iload_n hx hb d_Slabs_append_8 rfl (lv_at hl 1 rfl) ?_
  refine zz_iast hx hb hK hP hD hS 12 0 (f := w 1) (i := v 10) (x := x) rfl rfl (by omega) (by decide) d_Slabs_append_9 (fun H locs hP hD hS => ?_)
  have hP : va_P (dC, dI) vwCl (wC a cI cZ v f (zu w 1 (va_up (w 1) (v 10) x))) H := hP
  have hD : va_D A (wC a cI cZ v f (zu w 1 (va_up (w 1) (v 10) x))) := hD
  refine lv_aload_n hx hb d_Slabs_append_10 rfl (lv_at hl 0 rfl) ?_
  refine va_get (D := (dC, dI)) (ci := 4) (v := .ref (a 13)) (C := "CutLengths$Slabs") (T := T_Slabs) (N := 4) hx hb hz i_Slabs hown hK hP 11 rfl rfl 2 (by decide) (hz _ tw_129) (fun _ h9 => h9) rfl d_Slabs_append_11 ?_
  refine lv_aload_n hx hb d_Slabs_append_14 rfl (lv_at hl 0 rfl) ?_
  refine va_get (D := (dC, dI)) (ci := 4) (v := .int (nI (v 10))) (C := "CutLengths$Slabs") (T := T_Slabs) (N := 4) hx hb hz i_Slabs hown hK hP 11 rfl rfl 0 (by decide) (hz _ tw_125) (fun _ h9 => h9) rfl d_Slabs_append_15 ?_
  refine lv_iload_n hx hb d_Slabs_append_18 rfl (lv_at hl 2 rfl) ?_
  refine zz_nast hx hb hK hP hD hS 13 0 (f := f 6) (i := v 10) (x := i) rfl rfl (by omega) (by decide) d_Slabs_append_19 (fun H locs hP hD hS => ?_)
  have hP : va_P (dC, dI) vwCl (wC a cI cZ v (zu f 6 (va_up (f 6) (v 10) i)) (zu w 1 (va_up (w 1) (v 10) x))) H := hP
  have hD : va_D A (wC a cI cZ v (zu f 6 (va_up (f 6) (v 10) i)) (zu w 1 (va_up (w 1) (v 10) x))) := hD
  refine lv_aload_n hx hb d_Slabs_append_20 rfl (lv_at hl 0 rfl) ?_
  refine va_get (D := (dC, dI)) (ci := 4) (v := .ref (a 14)) (C := "CutLengths$Slabs") (T := T_Slabs) (N := 4) hx hb hz i_Slabs hown hK hP 11 rfl rfl 3 (by decide) (hz _ tw_131) (fun _ h9 => h9) rfl d_Slabs_append_21 ?_
  refine lv_aload_n hx hb d_Slabs_append_24 rfl (lv_at hl 0 rfl) ?_
  refine va_get (D := (dC, dI)) (ci := 4) (v := .int (nI (v 10))) (C := "CutLengths$Slabs") (T := T_Slabs) (N := 4) hx hb hz i_Slabs hown hK hP 11 rfl rfl 0 (by decide) (hz _ tw_125) (fun _ h9 => h9) rfl d_Slabs_append_25 ?_
  refine lv_iload_n hx hb d_Slabs_append_28 rfl (lv_at hl 3 rfl) ?_
  refine zz_nast hx hb hK hP hD hS 14 0 (f := f 7) (i := v 10) (x := j) rfl rfl (by omega) (by decide) d_Slabs_append_29 (fun H locs hP hD hS => ?_)
  have hP : va_P (dC, dI) vwCl (wC a cI cZ v (zu (zu f 6 (va_up (f 6) (v 10) i)) 7 (va_up (f 7) (v 10) j)) (zu w 1 (va_up (w 1) (v 10) x))) H := hP
  have hD : va_D A (wC a cI cZ v (zu (zu f 6 (va_up (f 6) (v 10) i)) 7 (va_up (f 7) (v 10) j)) (zu w 1 (va_up (w 1) (v 10) x))) := hD
  refine lv_aload_n hx hb d_Slabs_append_30 rfl (lv_at hl 0 rfl) ?_
  refine lv_dup hx hb d_Slabs_append_31 rfl ?_
  refine va_get (D := (dC, dI)) (ci := 4) (v := .int (nI (v 10))) (C := "CutLengths$Slabs") (T := T_Slabs) (N := 4) hx hb hz i_Slabs hown hK hP 11 rfl rfl 0 (by decide) (hz _ tw_125) (fun _ h9 => h9) rfl d_Slabs_append_32 ?_
  refine lv_iconst (v := nI (1)) hx hb d_Slabs_append_35 (by decide) ?_
  refine lv_iadd hx hb d_Slabs_append_36 ?_
  refine zz_top (nI_add (v 10) (1)) ?_
  refine va_put (D := (dC, dI)) (ci := 4) (v := .int (nI ((v 10) + 1))) (ty := .int) (C := "CutLengths$Slabs") (T := T_Slabs) (N := 4) hx hb hz i_Slabs t_Slabs t_Slabs_ok n_Slabs hown hK hP hD hS 11 rfl rfl 0 (by decide) (hz _ tw_125) (fun _ h9 => h9) rfl (by decide +kernel) rfl rfl (Nat.le_of_ble_eq_true rfl) d_Slabs_append_37 (fun H locs hP hD hS => ?_)
  have hP : va_P (dC, dI) vwCl (wC a cI cZ (zu v 10 ((v 10) + 1)) (zu (zu f 6 (va_up (f 6) (v 10) i)) 7 (va_up (f 7) (v 10) j)) (zu w 1 (va_up (w 1) (v 10) x))) H := hP
  have hD : va_D A (wC a cI cZ (zu v 10 ((v 10) + 1)) (zu (zu f 6 (va_up (f 6) (v 10) i)) 7 (va_up (f 7) (v 10) j)) (zu w 1 (va_up (w 1) (v 10) x))) := hD
  exact W.vret hx hb hr (fun t9 ht hW => ⟨⟨(), rfl, trivial, by rw [ht]; exact hP, va_K.moved hW.alike hK, hD⟩, hS.F ht⟩) hS.2.2 d_Slabs_append_40
set_option maxHeartbeats 4000000 in
set_option maxRecDepth 100000 in
theorem c_Cut_tellSpan (l : Launch) (dC : Nat → ClassId) (dI : Nat → Nat → Nat) (a : Nat → Nat) (cI cZ : ClassId) (v : Nat → Nat) (f : Nat → Nat → Nat) (w : Nat → Nat → Int32) (sz : Nat) (k i j : Nat) (hk : k < 6) : Met l y_Cut_tellSpan (zw_Cut_tellSpan :: zW) ({ frames := 0, cells := 0, slots := 0, locals := 0 }) (va_Pc [.ref (a 0), .int (nI (k)), .int (nI (i)), .int (nI (j))] (fun U => U.heap.size = sz ∧ va_P (dC, dI) vwCl (wC a cI cZ v f w) U.heap ∧ va_K (dC, dI) vwCl [(cI, .int), (cZ, .boolean)] U ∧ va_D (fun _ => True) (wC a cI cZ v f w))) (va_Qv (fun (u : Unit) => True) (fun (_ : Unit) t => va_P (dC, dI) vwCl (wC a cI cZ (zu v 2 (1)) (zu (zu f 2 (va_up (f 2) k i)) 3 (va_up (f 3) k j)) w) t.heap ∧ va_K (dC, dI) vwCl [(cI, .int), (cZ, .boolean)] t ∧ va_D (va_A (wC a cI cZ v f w) sz) (wC a cI cZ (zu v 2 (1)) (zu (zu f 2 (va_up (f 2) k i)) 3 (va_up (f 3) k j)) w)) (va_A (wC a cI cZ v f w) sz)) 0 0 (va_A (wC a cI cZ v f w) sz) := by
  refine Met.ofW (cc := prog_1_method_16_code) (maxL := 4) (ret := none) (by decide) rfl ?_
  intro p e s m args below meth c s₁ B hml hv
  obtain ⟨rfl, hsz, hP, hK, hD0⟩ := hv
  have hx := B.exec
  have hb := B.bytes
  have hr := B.returns
  have hz : ∀ w ∈ zW, w.before ([.ref (a 0), .int (nI (k)), .int (nI (i)), .int (nI (j))]).toArray s = true := fun w h => atoms_spec (ws := (zw_Cut_tellSpan :: zW)) B.pre w (List.mem_cons_of_mem _ h)
  have hown : s.vm.findClass "CutLengths" = some m.cls := findClass_of_methodNamed B.named
  have hlocks := B.notSynchronized
  subst hsz
  have hD := hD0.self (sz := s.heap.size)
  generalize hAe : va_A (wC a cI cZ v f w) s.heap.size = A at hD ⊢
  have hA : ∀ q : Nat, s.heap.size ≤ q → A q := fun q h => by rw [← hAe]; exact Or.inr h
  have hS : va_S A s.heap s.heap [] := va_S.rf
  have hP : va_P (dC, dI) vwCl (wC a cI cZ v f w) s.heap := hP
  have hl := lv_entry ([.ref (a 0), .int (nI (k)), .int (nI (i)), .int (nI (j))]) (n := 4) (Nat.le_of_ble_eq_true rfl)
  rw [lg_entry_eq]
  generalize (lg_sl ([.ref (a 0), .int (nI (k)), .int (nI (i)), .int (nI (j))]) ++ List.replicate (4 - (lg_sl ([.ref (a 0), .int (nI (k)), .int (nI (i)), .int (nI (j))])).length) Slot.unset).toArray = ls at hl ⊢
  have hl : lv_has ls 4 [(0, .ref (a 0)), (1, .int (nI (k))), (2, .int (nI (i))), (3, .int (nI (j)))] := hl
  refine lv_aload_n hx hb d_Cut_tellSpan_0 rfl (lv_at hl 0 rfl) ?_
  refine va_get (D := (dC, dI)) (ci := 0) (v := .ref (a 4)) (C := "CutLengths") (T := T_Cut) (N := 7) hx hb hz i_Cut hown hK hP 0 rfl rfl 1 (by decide) (hz _ tw_143) (fun _ h9 => h9) rfl d_Cut_tellSpan_1 ?_
  refine va_get (D := (dC, dI)) (ci := 2) (v := .ref (a 5)) (C := "CutLengths$WantedLengths") (T := T_Wanted) (N := 3) hx hb hz i_Wanted hown hK hP 4 rfl rfl 1 (by decide) (hz _ tw_88) (fun _ h9 => h9) rfl d_Cut_tellSpan_4 ?_
  refine lv_iload_n hx hb d_Cut_tellSpan_7 rfl (lv_at hl 1 rfl) ?_
  refine lv_iload_n hx hb d_Cut_tellSpan_8 rfl (lv_at hl 2 rfl) ?_
  refine zz_nast hx hb hK hP hD hS 5 0 (f := f 2) (i := k) (x := i) rfl rfl (by omega) (by decide) d_Cut_tellSpan_9 (fun H locs hP hD hS => ?_)
  have hP : va_P (dC, dI) vwCl (wC a cI cZ v (zu f 2 (va_up (f 2) k i)) w) H := hP
  have hD : va_D A (wC a cI cZ v (zu f 2 (va_up (f 2) k i)) w) := hD
  refine lv_aload_n hx hb d_Cut_tellSpan_10 rfl (lv_at hl 0 rfl) ?_
  refine va_get (D := (dC, dI)) (ci := 0) (v := .ref (a 4)) (C := "CutLengths") (T := T_Cut) (N := 7) hx hb hz i_Cut hown hK hP 0 rfl rfl 1 (by decide) (hz _ tw_143) (fun _ h9 => h9) rfl d_Cut_tellSpan_11 ?_
  refine va_get (D := (dC, dI)) (ci := 2) (v := .ref (a 6)) (C := "CutLengths$WantedLengths") (T := T_Wanted) (N := 3) hx hb hz i_Wanted hown hK hP 4 rfl rfl 2 (by decide) (hz _ tw_91) (fun _ h9 => h9) rfl d_Cut_tellSpan_14 ?_
  refine lv_iload_n hx hb d_Cut_tellSpan_17 rfl (lv_at hl 1 rfl) ?_
  refine lv_iload_n hx hb d_Cut_tellSpan_18 rfl (lv_at hl 3 rfl) ?_
  refine zz_nast hx hb hK hP hD hS 6 0 (f := f 3) (i := k) (x := j) rfl rfl (by omega) (by decide) d_Cut_tellSpan_19 (fun H locs hP hD hS => ?_)
  have hP : va_P (dC, dI) vwCl (wC a cI cZ v (zu (zu f 2 (va_up (f 2) k i)) 3 (va_up (f 3) k j)) w) H := hP
  have hD : va_D A (wC a cI cZ v (zu (zu f 2 (va_up (f 2) k i)) 3 (va_up (f 3) k j)) w) := hD
  refine lv_aload_n hx hb d_Cut_tellSpan_20 rfl (lv_at hl 0 rfl) ?_
  refine lv_iconst (v := nI (1)) hx hb d_Cut_tellSpan_21 (by decide) ?_
  refine va_put (D := (dC, dI)) (ci := 0) (v := .int (nI (1))) (ty := .boolean) (C := "CutLengths") (T := T_Cut) (N := 7) hx hb hz i_Cut t_Cut t_Cut_ok n_Cut hown hK hP hD hS 0 rfl rfl 6 (by decide) (hz _ tw_148) (fun _ h9 => h9) rfl (by decide +kernel) rfl rfl (Nat.le_of_ble_eq_true rfl) d_Cut_tellSpan_22 (fun H locs hP hD hS => ?_)
  have hP : va_P (dC, dI) vwCl (wC a cI cZ (zu v 2 (1)) (zu (zu f 2 (va_up (f 2) k i)) 3 (va_up (f 3) k j)) w) H := hP
  have hD : va_D A (wC a cI cZ (zu v 2 (1)) (zu (zu f 2 (va_up (f 2) k i)) 3 (va_up (f 3) k j)) w) := hD
  exact W.vret hx hb hr (fun t9 ht hW => ⟨⟨(), rfl, trivial, by rw [ht]; exact hP, va_K.moved hW.alike hK, hD⟩, hS.F ht⟩) hS.2.2 d_Cut_tellSpan_25
end
section
/-! THE PLAN of the class: takeBestPiece, make, renewPlan (rows written by wip/whole/mk_class.py) -/
theorem zup_same {α : Type} (f : Nat → α) (k : Nat) : va_up f k (f k) = f := by
  funext j
  by_cases e : j = k
  · rw [e, va_up_self]
  · rw [va_up_ne _ _ e]
set_option maxHeartbeats 4000000 in
set_option maxRecDepth 100000 in
theorem c_Plan_takeBestPiece (l : Launch) (dC : Nat → ClassId) (dI : Nat → Nat → Nat) (a : Nat → Nat) (cI cZ : ClassId) (v : Nat → Nat) (f : Nat → Nat → Nat) (w : Nat → Nat → Int32) (sz : Nat) (j r sc : Nat) (hj : j < v 3) (hr0 : j + r ≤ v 3) (hI : zI v f) (hm : j = v 4 ∨ f 1 j = 0) (hF : w 0 j = -1) (hL : ∀ q, j ≤ q → q ≤ v 3 → f 4 q ≤ 300) (hs : ∀ l, 0 < l → l ≤ r → sc ≤ f 4 (j + l)) (hsc : sc ≤ 300) : Met l y_Plan_takeBestPiece (zw_Plan_takeBestPiece :: zW) ({ frames := 1, cells := 0, slots := 0, locals := 30 }) (va_Pc [.ref (a 7), .int (nI (j)), .int (nI (r)), .int (nI (sc)), .ref (a 1), .ref (a 4)] (fun U => U.heap.size = sz ∧ va_P (dC, dI) vwCl (wC a cI cZ v f w) U.heap ∧ va_K (dC, dI) vwCl [(cI, .int), (cZ, .boolean)] U ∧ va_D (fun _ => True) (wC a cI cZ v f w))) (va_Qv (fun (u : Nat × Int32 × Nat) => zB (zcand (v 3) (v 4) (v 9) (f 2) (f 3) (f 1) r j) (f 4) j (f 4 j) (f 5 j) u.1 u.2.1 u.2.2) (fun (u : Nat × Int32 × Nat) t => match u with | (x, y, z) => va_P (dC, dI) vwCl (wC a cI cZ v (zu (zu f 4 (va_up (f 4) j x)) 5 (va_up (f 5) j z)) (zu w 0 (va_up (w 0) j y))) t.heap ∧ va_K (dC, dI) vwCl [(cI, .int), (cZ, .boolean)] t ∧ va_D (va_A (wC a cI cZ v f w) sz) (wC a cI cZ v (zu (zu f 4 (va_up (f 4) j x)) 5 (va_up (f 5) j z)) (zu w 0 (va_up (w 0) j y)))) (va_A (wC a cI cZ v f w) sz)) 0 0 (va_A (wC a cI cZ v f w) sz) := by
  refine Met.ofW (cc := prog_2_method_5_code) (maxL := 10) (ret := none) (by decide) rfl ?_
  intro p e s m args below meth c s₁ B hml hv
  obtain ⟨rfl, hsz, hP, hK, hD0⟩ := hv
  have hx := B.exec
  have hb := B.bytes
  have hr := B.returns
  have hz : ∀ w ∈ zW, w.before ([.ref (a 7), .int (nI (j)), .int (nI (r)), .int (nI (sc)), .ref (a 1), .ref (a 4)]).toArray s = true := fun w h => atoms_spec (ws := (zw_Plan_takeBestPiece :: zW)) B.pre w (List.mem_cons_of_mem _ h)
  have hown : s.vm.findClass "CutLengths$Plan" = some m.cls := findClass_of_methodNamed B.named
  have hlocks := B.notSynchronized
  subst hsz
  have hD := hD0.self (sz := s.heap.size)
  generalize hAe : va_A (wC a cI cZ v f w) s.heap.size = A at hD ⊢
  have hA : ∀ q : Nat, s.heap.size ≤ q → A q := fun q h => by rw [← hAe]; exact Or.inr h
  have hS : va_S A s.heap s.heap [] := va_S.rf
  have hP : va_P (dC, dI) vwCl (wC a cI cZ v f w) s.heap := hP
  obtain ⟨i3, i4, i5, i6, i7, i8, i9, i10, i2, i0, i1, iw, ib, ic, isl⟩ := id hI
  have hl := lv_entry ([.ref (a 7), .int (nI (j)), .int (nI (r)), .int (nI (sc)), .ref (a 1), .ref (a 4)]) (n := 10) (Nat.le_of_ble_eq_true rfl)
  rw [lg_entry_eq]
  generalize (lg_sl ([.ref (a 7), .int (nI (j)), .int (nI (r)), .int (nI (sc)), .ref (a 1), .ref (a 4)]) ++ List.replicate (10 - (lg_sl ([.ref (a 7), .int (nI (j)), .int (nI (r)), .int (nI (sc)), .ref (a 1), .ref (a 4)])).length) Slot.unset).toArray = ls at hl ⊢
  have hl : lv_has ls 10 [(0, .ref (a 7)), (1, .int (nI (j))), (2, .int (nI (r))), (3, .int (nI (sc))), (4, .ref (a 1)), (5, .ref (a 4))] := hl
  refine lv_iconst (v := nI (0)) hx hb d_Plan_takeBestPiece_0 (by decide) ?_
  refine lv_istore (lv' := [(6, .int (nI (0))), (0, .ref (a 7)), (1, .int (nI (j))), (2, .int (nI (r))), (3, .int (nI (sc))), (4, .ref (a 1)), (5, .ref (a 4))]) hx hb d_Plan_takeBestPiece_1 hl (by decide) rfl (fun ls hl => ?_)
  have hj9 := hL j (Nat.le_refl _) (by omega)
  have loop : ∀ (n : Nat) (x xa : Nat) (xf : Int32) (xs : Nat), (x ≤ v 9) → (zB (fun w l => zcand (v 3) (v 4) (v 9) (f 2) (f 3) (f 1) r j w l ∧ w < x) (f 4) j (f 4 j) (f 5 j) xa xf xs) → (v 9 < x + n) → ∀ (H : Heap) (locs : List Loc), va_P (dC, dI) vwCl (wC a cI cZ v (zu (zu f 4 (va_up (f 4) j xa)) 5 (va_up (f 5) j xs)) (zu w 0 (va_up (w 0) j xf))) H → va_D A (wC a cI cZ v (zu (zu f 4 (va_up (f 4) j xa)) 5 (va_up (f 5) j xs)) (zu w 0 (va_up (w 0) j xf))) → va_S A s.heap H locs → ∀ ls : Array Slot, lv_has ls 10 [(6, .int (nI (x))), (0, .ref (a 7)), (1, .int (nI (j))), (2, .int (nI (r))), (3, .int (nI (sc))), (4, .ref (a 1)), (5, .ref (a 4))] → W p l e (headSpec (zw_Plan_takeBestPiece :: zW) ({ frames := 1, cells := 0, slots := 0, locals := 30 })).room s m ([.ref (a 7), .int (nI (j)), .int (nI (r)), .int (nI (sc)), .ref (a 1), .ref (a 4)]).toArray below meth c H locs 0 0 (MQ below (va_Qv (fun (u : Nat × Int32 × Nat) => zB (zcand (v 3) (v 4) (v 9) (f 2) (f 3) (f 1) r j) (f 4) j (f 4 j) (f 5 j) u.1 u.2.1 u.2.2) (fun (u : Nat × Int32 × Nat) t => match u with | (x, y, z) => va_P (dC, dI) vwCl (wC a cI cZ v (zu (zu f 4 (va_up (f 4) j x)) 5 (va_up (f 5) j z)) (zu w 0 (va_up (w 0) j y))) t.heap ∧ va_K (dC, dI) vwCl [(cI, .int), (cZ, .boolean)] t ∧ va_D A (wC a cI cZ v (zu (zu f 4 (va_up (f 4) j x)) 5 (va_up (f 5) j z)) (zu w 0 (va_up (w 0) j y)))) A) ([.ref (a 7), .int (nI (j)), .int (nI (r)), .int (nI (sc)), .ref (a 1), .ref (a 4)]).toArray s 0 0 A) (F0 m 3 ls []) := by
    intro n
    induction n with
    | zero =>
      intro x xa xf xs hx1 hb1 hn1
      exact absurd hn1 (by omega)
    | succ n ih_loop =>
      intro x xa xf xs hx1 hb1 hn1 H locs hP hD hS ls hl
      refine lv_iload hx hb d_Plan_takeBestPiece_3 (lv_at hl 0 rfl) ?_
      refine lv_aload hx hb d_Plan_takeBestPiece_5 (lv_at hl 6 rfl) ?_
      refine va_get (D := (dC, dI)) (ci := 2) (v := .int (nI (v 9))) (C := "CutLengths$WantedLengths") (T := T_Wanted) (N := 3) hx hb hz i_Wanted hown hK hP 4 rfl rfl 0 (by decide) (hz _ tw_85) (fun _ h9 => h9) rfl d_Plan_takeBestPiece_7 ?_
      refine lv_icmp_ge (tgt := 112) hx hb d_Plan_takeBestPiece_10 (by decide) (fun c_10 => ?_) (fun c_10 => ?_)
      · have c_10 : ((v 9 : Nat) : Int) ≤ ((x : Nat) : Int) := (zz_le (nI_toInt (by omega)) (nI_toInt (by omega))).mp c_10
        exact W.vret hx hb hr (fun t9 ht hW => ⟨⟨(xa, xf, xs), rfl, (zfull hb1 (by omega)), by rw [ht]; exact hP, va_K.moved hW.alike hK, hD⟩, hS.F ht⟩) hS.2.2 d_Plan_takeBestPiece_112
      · have c_10 : ¬ (((v 9 : Nat) : Int) ≤ ((x : Nat) : Int)) := fun q => c_10 ((zz_le (nI_toInt (by omega)) (nI_toInt (by omega))).mpr q)
        have hw9 := iw x (by omega)
        refine lv_aload hx hb d_Plan_takeBestPiece_13 (lv_at hl 6 rfl) ?_
        refine va_get (D := (dC, dI)) (ci := 2) (v := .ref (a 6)) (C := "CutLengths$WantedLengths") (T := T_Wanted) (N := 3) hx hb hz i_Wanted hown hK hP 4 rfl rfl 2 (by decide) (hz _ tw_90) (fun _ h9 => h9) rfl d_Plan_takeBestPiece_15 ?_
        refine lv_iload hx hb d_Plan_takeBestPiece_18 (lv_at hl 0 rfl) ?_
        refine zz_nald hx hb hK hP 6 0 (f := f 3) (i := x) rfl rfl (by omega) (by decide) d_Plan_takeBestPiece_20 ?_
        refine lv_iload_n hx hb d_Plan_takeBestPiece_21 rfl (lv_at hl 3 rfl) ?_
        refine va_mmin hx hb (by rw [hml]; exact hl.1.symm) hown (hz _ tw_192) (hz _ tw_193) (hz _ tw_28) (hz _ tw_min) (Nat.le_of_ble_eq_true rfl) (Nat.le_of_ble_eq_true rfl) (Nat.zero_le _) (Nat.zero_le _) d_Plan_takeBestPiece_22 ?_
        refine zz_top (zz_min (by omega) (by omega)) ?_
        refine lv_istore (lv' := [(7, .int (nI (min (f 3 x) (r)))), (6, .int (nI (x))), (0, .ref (a 7)), (1, .int (nI (j))), (2, .int (nI (r))), (3, .int (nI (sc))), (4, .ref (a 1)), (5, .ref (a 4))]) hx hb d_Plan_takeBestPiece_25 hl (by decide) rfl (fun ls hl => ?_)
        refine lv_iload hx hb d_Plan_takeBestPiece_27 (lv_at hl 0 rfl) ?_
        refine lv_istore (lv' := [(8, .int (nI (min (f 3 x) (r)))), (7, .int (nI (min (f 3 x) (r)))), (6, .int (nI (x))), (0, .ref (a 7)), (1, .int (nI (j))), (2, .int (nI (r))), (3, .int (nI (sc))), (4, .ref (a 1)), (5, .ref (a 4))]) hx hb d_Plan_takeBestPiece_29 hl (by decide) rfl (fun ls hl => ?_)
        have loop2 : ∀ (n : Nat) (t ya : Nat) (yf : Int32) (ys : Nat), (t ≤ min (f 3 x) r) → (zB (zPa (zcand (v 3) (v 4) (v 9) (f 2) (f 3) (f 1) r j) x t) (f 4) j (f 4 j) (f 5 j) ya yf ys) → (t < n) → ∀ (H : Heap) (locs : List Loc), va_P (dC, dI) vwCl (wC a cI cZ v (zu (zu f 4 (va_up (f 4) j ya)) 5 (va_up (f 5) j ys)) (zu w 0 (va_up (w 0) j yf))) H → va_D A (wC a cI cZ v (zu (zu f 4 (va_up (f 4) j ya)) 5 (va_up (f 5) j ys)) (zu w 0 (va_up (w 0) j yf))) → va_S A s.heap H locs → ∀ ls : Array Slot, lv_has ls 10 [(8, .int (nI (t))), (7, .int (nI (min (f 3 x) r))), (6, .int (nI (x))), (0, .ref (a 7)), (1, .int (nI (j))), (2, .int (nI (r))), (3, .int (nI (sc))), (4, .ref (a 1)), (5, .ref (a 4))] → W p l e (headSpec (zw_Plan_takeBestPiece :: zW) ({ frames := 1, cells := 0, slots := 0, locals := 30 })).room s m ([.ref (a 7), .int (nI (j)), .int (nI (r)), .int (nI (sc)), .ref (a 1), .ref (a 4)]).toArray below meth c H locs 0 0 (MQ below (va_Qv (fun (u : Nat × Int32 × Nat) => zB (zcand (v 3) (v 4) (v 9) (f 2) (f 3) (f 1) r j) (f 4) j (f 4 j) (f 5 j) u.1 u.2.1 u.2.2) (fun (u : Nat × Int32 × Nat) t => match u with | (x, y, z) => va_P (dC, dI) vwCl (wC a cI cZ v (zu (zu f 4 (va_up (f 4) j x)) 5 (va_up (f 5) j z)) (zu w 0 (va_up (w 0) j y))) t.heap ∧ va_K (dC, dI) vwCl [(cI, .int), (cZ, .boolean)] t ∧ va_D A (wC a cI cZ v (zu (zu f 4 (va_up (f 4) j x)) 5 (va_up (f 5) j z)) (zu w 0 (va_up (w 0) j y)))) A) ([.ref (a 7), .int (nI (j)), .int (nI (r)), .int (nI (sc)), .ref (a 1), .ref (a 4)]).toArray s 0 0 A) (F0 m 31 ls []) := by
          intro n
          induction n with
          | zero =>
            intro t ya yf ys ht hb2 hn2
            exact absurd hn2 (by omega)
          | succ n ih_loop2 =>
            intro t ya yf ys ht hb2 hn2 H locs hP hD hS ls hl
            have hm1 : t ≤ f 3 x := Nat.le_trans ht (Nat.min_le_left _ _)
            have hm2 : t ≤ r := Nat.le_trans ht (Nat.min_le_right _ _)
            have hya := zB_le hb2
            refine lv_iload hx hb d_Plan_takeBestPiece_31 (lv_at hl 0 rfl) ?_
            refine lv_aload hx hb d_Plan_takeBestPiece_33 (lv_at hl 8 rfl) ?_
            refine va_get (D := (dC, dI)) (ci := 2) (v := .ref (a 5)) (C := "CutLengths$WantedLengths") (T := T_Wanted) (N := 3) hx hb hz i_Wanted hown hK hP 4 rfl rfl 1 (by decide) (hz _ tw_87) (fun _ h9 => h9) rfl d_Plan_takeBestPiece_35 ?_
            refine lv_iload hx hb d_Plan_takeBestPiece_38 (lv_at hl 2 rfl) ?_
            refine zz_nald hx hb hK hP 5 0 (f := f 2) (i := x) rfl rfl (by omega) (by decide) d_Plan_takeBestPiece_40 ?_
            refine lv_icmp_lt (tgt := 106) hx hb d_Plan_takeBestPiece_41 (by decide) (fun c_41 => ?_) (fun c_41 => ?_)
            · have c_41 : ((t : Nat) : Int) < ((f 2 x : Nat) : Int) := (zz_lt (nI_toInt (by omega)) (nI_toInt (by omega))).mp c_41
              refine lv_iinc (v := nI (x + 1)) (lv' := [(6, .int (nI (x + 1))), (8, .int (nI (t))), (7, .int (nI (min (f 3 x) r))), (0, .ref (a 7)), (1, .int (nI (j))), (2, .int (nI (r))), (3, .int (nI (sc))), (4, .ref (a 1)), (5, .ref (a 4))]) hx hb d_Plan_takeBestPiece_106 hl (k := 2) rfl (zz_inc _) (by decide) rfl (fun ls hl => ?_)
              refine lv_goto (tgt := 3) hx hb d_Plan_takeBestPiece_109 (by decide) ?_
              exact ih_loop (x + 1) ya yf ys (by omega) (zouter hb2 (by omega)) (by omega) H locs hP hD hS ls (lv_sub hl [0, 3, 4, 5, 6, 7, 8] rfl)
            · have c_41 : ¬ (((t : Nat) : Int) < ((f 2 x : Nat) : Int)) := fun q => c_41 ((zz_lt (nI_toInt (by omega)) (nI_toInt (by omega))).mpr q)
              have e1 : va_up (f 4) j ya (j + t) = f 4 (j + t) := va_up_ne _ _ (by omega)
              have e2 : va_up (f 4) j ya j = ya := va_up_self _ _ _
              have e3 : va_up (w 0) j yf j = yf := va_up_self _ _ _
              have hL9 := hL (j + t) (by omega) (by omega)
              have hLj : va_up (f 4) j ya j ≤ 300 := by omega
              have hLk : va_up (f 4) j ya (j + t) ≤ 300 := by omega
              have hst := zstep hb2 (by omega) (by omega) i9 (by omega) hm1 hm2 hm
              refine lv_iload_n hx hb d_Plan_takeBestPiece_44 rfl (lv_at hl 4 rfl) ?_
              refine lv_iload hx hb d_Plan_takeBestPiece_45 (lv_at hl 0 rfl) ?_
              refine lv_iadd hx hb d_Plan_takeBestPiece_47 ?_
              refine zz_top (nI_add (j) (t)) ?_
              refine lv_istore (lv' := [(9, .int (nI (j + t))), (8, .int (nI (t))), (7, .int (nI (min (f 3 x) r))), (6, .int (nI (x))), (0, .ref (a 7)), (1, .int (nI (j))), (2, .int (nI (r))), (3, .int (nI (sc))), (4, .ref (a 1)), (5, .ref (a 4))]) hx hb d_Plan_takeBestPiece_48 hl (by decide) rfl (fun ls hl => ?_)
              refine lv_aload hx hb d_Plan_takeBestPiece_50 (lv_at hl 8 rfl) ?_
              refine lv_iload hx hb d_Plan_takeBestPiece_52 (lv_at hl 0 rfl) ?_
              refine zz_ro (va_runV (As := [.int (nI (j + t))]) (rest := []) ⟨hx, hb, hml, hown, hz⟩ (c_Strand_pieceMayEnd l dC dI a cI cZ v (zu (zu f 4 (va_up (f 4) j ya)) 5 (va_up (f 5) j ys)) (zu w 0 (va_up (w 0) j yf)) (j + t) (by omega) hI) (cwV (C := "CutLengths$Strand") 1 hz (zgV tw_195 tw_196 tw_197 tw_16 tw_198) rfl rfl rfl (by decide +kernel) ⟨Nat.le_of_ble_eq_true rfl, Nat.le_of_ble_eq_true rfl⟩) ⟨(fun a U g mk q => ⟨q.1, q.2.1, va_K.moved (u := U) (U := U.calling g mk a) (Vm.Alike.refl U.vm) q.2.2⟩), va_recv hK hP (ci := 1) (q0 := 1) rfl rfl, fun U hU hW => ⟨rfl, by rw [hU]; exact hP, va_K.moved hW.alike hK⟩⟩ rfl rfl hl.1 rfl (lv_room (Nat.le_of_ble_eq_true rfl)) d_Plan_takeBestPiece_54 ⟨Nat.zero_le _, Nat.zero_le _⟩) ?_
              by_cases q_54 : (j + t) = v 3 ∨ f 1 (j + t) = 0
              · refine zz_top (congrArg nI (if_pos q_54)) ?_
                refine lv_if_eq (tgt := 79) hx hb d_Plan_takeBestPiece_57 (by decide) (fun c9 => absurd c9 (by decide)) (fun _ => ?_)
                refine lv_aload_n hx hb d_Plan_takeBestPiece_60 rfl (lv_at hl 4 rfl) ?_
                refine lv_iload_n hx hb d_Plan_takeBestPiece_61 rfl (lv_at hl 5 rfl) ?_
                refine lv_iload hx hb d_Plan_takeBestPiece_62 (lv_at hl 0 rfl) ?_
                refine zz_ro (va_runV (As := [.int (nI (j)), .int (nI (j + t))]) (rest := []) ⟨hx, hb, hml, hown, hz⟩ (c_Plan_isBetter l dC dI a cI cZ v (zu (zu f 4 (va_up (f 4) j ya)) 5 (va_up (f 5) j ys)) (zu w 0 (va_up (w 0) j yf)) (j) (j + t) (by omega) (by omega) hLj hLk) (cwV (C := "CutLengths$Plan") 2 hz (zgV tw_199 tw_201 tw_3 tw_18 tw_202) rfl rfl rfl (by decide +kernel) ⟨Nat.le_of_ble_eq_true rfl, Nat.le_of_ble_eq_true rfl⟩) ⟨(fun a U g mk q => ⟨q.1, q.2.1, va_K.moved (u := U) (U := U.calling g mk a) (Vm.Alike.refl U.vm) q.2.2⟩), va_recv hK hP (ci := 3) (q0 := 7) rfl rfl, fun U hU hW => ⟨rfl, by rw [hU]; exact hP, va_K.moved hW.alike hK⟩⟩ rfl rfl hl.1 rfl (lv_room (Nat.le_of_ble_eq_true rfl)) d_Plan_takeBestPiece_64 ⟨Nat.zero_le _, Nat.zero_le _⟩) ?_
                by_cases q_64 : (va_up (f 4) j ya) (j + t) < (va_up (f 4) j ya) j ∨ ((va_up (f 4) j ya) (j + t) = (va_up (f 4) j ya) j ∧ (va_up (w 0) j yf) j = -1)
                · refine zz_top (congrArg nI (if_pos q_64)) ?_
                  rw [e1, e2, e3] at q_64
                  refine lv_if_eq (tgt := 79) hx hb d_Plan_takeBestPiece_67 (by decide) (fun c9 => absurd c9 (by decide)) (fun _ => ?_)
                  refine lv_aload_n hx hb d_Plan_takeBestPiece_70 rfl (lv_at hl 4 rfl) ?_
                  refine lv_iload_n hx hb d_Plan_takeBestPiece_71 rfl (lv_at hl 5 rfl) ?_
                  refine lv_iload hx hb d_Plan_takeBestPiece_72 (lv_at hl 3 rfl) ?_
                  refine lv_iload hx hb d_Plan_takeBestPiece_74 (lv_at hl 1 rfl) ?_
                  have hFc := va_free (wc := (wC a cI cZ v (zu (zu f 4 (va_up (f 4) j ya)) 5 (va_up (f 5) j ys)) (zu w 0 (va_up (w 0) j yf)))) hD hS hA [0, 1, 2, 3, 4, 5, 6, 7, 8, 9, 10, 11, 12, 13, 14] rfl
                  refine va_callv (va_runV (As := [.int (nI (j)), .int (nI (x)), .int (nI (t))]) (rest := []) ⟨hx, hb, hml, hown, hz⟩ (c_Plan_takePiece l dC dI a cI cZ v (zu (zu f 4 (va_up (f 4) j ya)) 5 (va_up (f 5) j ys)) (zu w 0 (va_up (w 0) j yf)) (H).size (j) (t) (nI (x)) (by omega)) (cwV (C := "CutLengths$Plan") 3 hz (zgV tw_203 tw_205 tw_4 tw_18 tw_206) rfl rfl rfl (by decide +kernel) ⟨Nat.le_of_ble_eq_true rfl, Nat.le_of_ble_eq_true rfl⟩) ⟨(fun a U g mk q => by obtain ⟨q0, q1, qP, qK, qD⟩ := q; exact ⟨q0, q1, qP, va_K.moved (u := U) (U := U.calling g mk a) (Vm.Alike.refl U.vm) qK, qD⟩), va_recv hK hP (ci := 3) (q0 := 7) rfl rfl, fun U hU hW => ⟨rfl, by rw [hU], by rw [hU]; exact hP, va_K.moved hW.alike hK, hD.weaken (fun _ _ _ _ => trivial)⟩⟩ rfl rfl hl.1 rfl (lv_room (Nat.le_of_ble_eq_true rfl)) d_Plan_takeBestPiece_76 ⟨Nat.zero_le _, Nat.zero_le _⟩) hS (fun q _ h => hFc q h) hFc (fun u9 t9 H1 locs ht hvm hw hB hz1 hk1 hS => ?_)
                  obtain ⟨hP1, hK1, hD1⟩ := hB
                  rw [ht] at hP1
                  obtain ⟨hP, hD⟩ := va_join (wr := []) (w1 := (wC a cI cZ v (zu (zu f 4 (va_up (va_up (f 4) j ya) j ((va_up (f 4) j ya) (j + t)))) 5 (va_up (va_up (f 5) j ys) j t)) (zu w 0 (va_up (va_up (w 0) j yf) j (nI (x)))))) hP hD [0, 1, 2, 3, 4, 5, 6, 7, 8, 9, 10, 11, 12, 13, 14] [] rfl rfl (by decide) (by decide) hk1 hFc hP1 hD1
                  generalize H1 = H at hP hS ⊢
                  have hP : va_P (dC, dI) vwCl (wC a cI cZ v (zu (zu f 4 (va_up (va_up (f 4) j ya) j ((va_up (f 4) j ya) (j + t)))) 5 (va_up (va_up (f 5) j ys) j t)) (zu w 0 (va_up (va_up (w 0) j yf) j (nI (x))))) H := hP
                  have hD : va_D A (wC a cI cZ v (zu (zu f 4 (va_up (va_up (f 4) j ya) j ((va_up (f 4) j ya) (j + t)))) 5 (va_up (va_up (f 5) j ys) j t)) (zu w 0 (va_up (va_up (w 0) j yf) j (nI (x))))) := hD
                  simp only [bx_uu, e1] at hP hD
                  have hP : va_P (dC, dI) vwCl (wC a cI cZ v (zu (zu f 4 (va_up (f 4) j (f 4 (j + t)))) 5 (va_up (f 5) j t)) (zu w 0 (va_up (w 0) j (nI x)))) H := hP
                  have hD : va_D A (wC a cI cZ v (zu (zu f 4 (va_up (f 4) j (f 4 (j + t)))) 5 (va_up (f 5) j t)) (zu w 0 (va_up (w 0) j (nI x)))) := hD
                  have hb3 := hst.1 q_54 q_64
                  refine lv_aload_n hx hb d_Plan_takeBestPiece_79 rfl (lv_at hl 4 rfl) ?_
                  refine va_get (D := (dC, dI)) (ci := 3) (v := .ref (a 9)) (C := "CutLengths$Plan") (T := T_Plan) (N := 3) hx hb hz i_Plan hown hK hP 7 rfl rfl 1 (by decide) (hz _ tw_108) (fun _ h9 => h9) rfl d_Plan_takeBestPiece_80 ?_
                  refine lv_iload_n hx hb d_Plan_takeBestPiece_83 rfl (lv_at hl 5 rfl) ?_
                  refine zz_iald hx hb hK hP 9 0 (f := va_up (w 0) j (nI x)) (i := j) rfl rfl (by omega) (by decide) d_Plan_takeBestPiece_84 ?_
                  refine zz_top (va_up_self _ _ _) ?_
                  refine lv_iconst (v := -1) hx hb d_Plan_takeBestPiece_85 (by decide) ?_
                  refine lv_icmp_eq (tgt := 100) hx hb d_Plan_takeBestPiece_86 (by decide) (fun c_86 => ?_) (fun c_86 => ?_)
                  · have c_86 : nI x = -1 := c_86
                    refine lv_iinc (v := nI (t - 1)) (lv' := [(8, .int (nI (t - 1))), (9, .int (nI (j + t))), (7, .int (nI (min (f 3 x) r))), (6, .int (nI (x))), (0, .ref (a 7)), (1, .int (nI (j))), (2, .int (nI (r))), (3, .int (nI (sc))), (4, .ref (a 1)), (5, .ref (a 4))]) hx hb d_Plan_takeBestPiece_100 hl (k := 1) rfl (zz_decn (by omega)) (by decide) rfl (fun ls hl => ?_)
                    refine lv_goto (tgt := 31) hx hb d_Plan_takeBestPiece_103 (by decide) ?_
                    exact ih_loop2 (t - 1) (f 4 (j + t)) (nI x) t (by omega) hb3 (by omega) H locs hP hD hS ls (lv_sub hl [0, 2, 3, 4, 5, 6, 7, 8, 9] rfl)
                  · have c_86 : ¬ (nI x = -1) := c_86
                    refine lv_aload_n hx hb d_Plan_takeBestPiece_89 rfl (lv_at hl 4 rfl) ?_
                    refine va_get (D := (dC, dI)) (ci := 3) (v := .ref (a 8)) (C := "CutLengths$Plan") (T := T_Plan) (N := 3) hx hb hz i_Plan hown hK hP 7 rfl rfl 0 (by decide) (hz _ tw_106) (fun _ h9 => h9) rfl d_Plan_takeBestPiece_90 ?_
                    refine lv_iload_n hx hb d_Plan_takeBestPiece_93 rfl (lv_at hl 5 rfl) ?_
                    refine zz_nald hx hb hK hP 8 0 (f := va_up (f 4) j (f 4 (j + t))) (i := j) rfl rfl (by omega) (by decide) d_Plan_takeBestPiece_94 ?_
                    refine zz_top (congrArg nI (va_up_self _ _ _)) ?_
                    refine lv_iload_n hx hb d_Plan_takeBestPiece_95 rfl (lv_at hl 7 rfl) ?_
                    refine lv_icmp_ne (tgt := 100) hx hb d_Plan_takeBestPiece_96 (by decide) (fun c_96 => ?_) (fun c_96 => ?_)
                    · have c_96 : ¬ (((f 4 (j + t) : Nat) : Int) = ((sc : Nat) : Int)) := fun q => c_96 ((zz_eq (nI_toInt (by omega)) (nI_toInt (by omega))).mpr q)
                      refine lv_iinc (v := nI (t - 1)) (lv' := [(8, .int (nI (t - 1))), (9, .int (nI (j + t))), (7, .int (nI (min (f 3 x) r))), (6, .int (nI (x))), (0, .ref (a 7)), (1, .int (nI (j))), (2, .int (nI (r))), (3, .int (nI (sc))), (4, .ref (a 1)), (5, .ref (a 4))]) hx hb d_Plan_takeBestPiece_100 hl (k := 1) rfl (zz_decn (by omega)) (by decide) rfl (fun ls hl => ?_)
                      refine lv_goto (tgt := 31) hx hb d_Plan_takeBestPiece_103 (by decide) ?_
                      exact ih_loop2 (t - 1) (f 4 (j + t)) (nI x) t (by omega) hb3 (by omega) H locs hP hD hS ls (lv_sub hl [0, 2, 3, 4, 5, 6, 7, 8, 9] rfl)
                    · have c_96 : ((f 4 (j + t) : Nat) : Int) = ((sc : Nat) : Int) := (zz_eq (nI_toInt (by omega)) (nI_toInt (by omega))).mp c_96
                      exact W.vret hx hb hr (fun t9 ht hW => ⟨⟨(f 4 (j + t), nI x, t), rfl, (zstop hb3 c_86 (fun l q1 q2 => by have := hs l q1 q2; omega) (fun w q => (iw w q).1)), by rw [ht]; exact hP, va_K.moved hW.alike hK, hD⟩, hS.F ht⟩) hS.2.2 d_Plan_takeBestPiece_99
                · refine zz_top (congrArg nI (if_neg q_64)) ?_
                  rw [e1, e2, e3] at q_64
                  refine lv_if_eq (tgt := 79) hx hb d_Plan_takeBestPiece_67 (by decide) (fun _ => ?_) (fun c9 => absurd c9 (by decide))
                  have hb3 := hst.2 (fun q => q_64 q.2)
                  refine lv_aload_n hx hb d_Plan_takeBestPiece_79 rfl (lv_at hl 4 rfl) ?_
                  refine va_get (D := (dC, dI)) (ci := 3) (v := .ref (a 9)) (C := "CutLengths$Plan") (T := T_Plan) (N := 3) hx hb hz i_Plan hown hK hP 7 rfl rfl 1 (by decide) (hz _ tw_108) (fun _ h9 => h9) rfl d_Plan_takeBestPiece_80 ?_
                  refine lv_iload_n hx hb d_Plan_takeBestPiece_83 rfl (lv_at hl 5 rfl) ?_
                  refine zz_iald hx hb hK hP 9 0 (f := va_up (w 0) j yf) (i := j) rfl rfl (by omega) (by decide) d_Plan_takeBestPiece_84 ?_
                  refine zz_top (va_up_self _ _ _) ?_
                  refine lv_iconst (v := -1) hx hb d_Plan_takeBestPiece_85 (by decide) ?_
                  refine lv_icmp_eq (tgt := 100) hx hb d_Plan_takeBestPiece_86 (by decide) (fun c_86 => ?_) (fun c_86 => ?_)
                  · have c_86 : yf = -1 := c_86
                    refine lv_iinc (v := nI (t - 1)) (lv' := [(8, .int (nI (t - 1))), (9, .int (nI (j + t))), (7, .int (nI (min (f 3 x) r))), (6, .int (nI (x))), (0, .ref (a 7)), (1, .int (nI (j))), (2, .int (nI (r))), (3, .int (nI (sc))), (4, .ref (a 1)), (5, .ref (a 4))]) hx hb d_Plan_takeBestPiece_100 hl (k := 1) rfl (zz_decn (by omega)) (by decide) rfl (fun ls hl => ?_)
                    refine lv_goto (tgt := 31) hx hb d_Plan_takeBestPiece_103 (by decide) ?_
                    exact ih_loop2 (t - 1) ya yf ys (by omega) hb3 (by omega) H locs hP hD hS ls (lv_sub hl [0, 2, 3, 4, 5, 6, 7, 8, 9] rfl)
                  · have c_86 : ¬ (yf = -1) := c_86
                    refine lv_aload_n hx hb d_Plan_takeBestPiece_89 rfl (lv_at hl 4 rfl) ?_
                    refine va_get (D := (dC, dI)) (ci := 3) (v := .ref (a 8)) (C := "CutLengths$Plan") (T := T_Plan) (N := 3) hx hb hz i_Plan hown hK hP 7 rfl rfl 0 (by decide) (hz _ tw_106) (fun _ h9 => h9) rfl d_Plan_takeBestPiece_90 ?_
                    refine lv_iload_n hx hb d_Plan_takeBestPiece_93 rfl (lv_at hl 5 rfl) ?_
                    refine zz_nald hx hb hK hP 8 0 (f := va_up (f 4) j ya) (i := j) rfl rfl (by omega) (by decide) d_Plan_takeBestPiece_94 ?_
                    refine zz_top (congrArg nI (va_up_self _ _ _)) ?_
                    refine lv_iload_n hx hb d_Plan_takeBestPiece_95 rfl (lv_at hl 7 rfl) ?_
                    refine lv_icmp_ne (tgt := 100) hx hb d_Plan_takeBestPiece_96 (by decide) (fun c_96 => ?_) (fun c_96 => ?_)
                    · have c_96 : ¬ (((ya : Nat) : Int) = ((sc : Nat) : Int)) := fun q => c_96 ((zz_eq (nI_toInt (by omega)) (nI_toInt (by omega))).mpr q)
                      refine lv_iinc (v := nI (t - 1)) (lv' := [(8, .int (nI (t - 1))), (9, .int (nI (j + t))), (7, .int (nI (min (f 3 x) r))), (6, .int (nI (x))), (0, .ref (a 7)), (1, .int (nI (j))), (2, .int (nI (r))), (3, .int (nI (sc))), (4, .ref (a 1)), (5, .ref (a 4))]) hx hb d_Plan_takeBestPiece_100 hl (k := 1) rfl (zz_decn (by omega)) (by decide) rfl (fun ls hl => ?_)
                      refine lv_goto (tgt := 31) hx hb d_Plan_takeBestPiece_103 (by decide) ?_
                      exact ih_loop2 (t - 1) ya yf ys (by omega) hb3 (by omega) H locs hP hD hS ls (lv_sub hl [0, 2, 3, 4, 5, 6, 7, 8, 9] rfl)
                    · have c_96 : ((ya : Nat) : Int) = ((sc : Nat) : Int) := (zz_eq (nI_toInt (by omega)) (nI_toInt (by omega))).mp c_96
                      exact W.vret hx hb hr (fun t9 ht hW => ⟨⟨(ya, yf, ys), rfl, (zstop hb3 c_86 (fun l q1 q2 => by have := hs l q1 q2; omega) (fun w q => (iw w q).1)), by rw [ht]; exact hP, va_K.moved hW.alike hK, hD⟩, hS.F ht⟩) hS.2.2 d_Plan_takeBestPiece_99
              · refine zz_top (congrArg nI (if_neg q_54)) ?_
                refine lv_if_eq (tgt := 79) hx hb d_Plan_takeBestPiece_57 (by decide) (fun _ => ?_) (fun c9 => absurd c9 (by decide))
                have hb3 := hst.2 (fun q => q_54 q.1)
                refine lv_aload_n hx hb d_Plan_takeBestPiece_79 rfl (lv_at hl 4 rfl) ?_
                refine va_get (D := (dC, dI)) (ci := 3) (v := .ref (a 9)) (C := "CutLengths$Plan") (T := T_Plan) (N := 3) hx hb hz i_Plan hown hK hP 7 rfl rfl 1 (by decide) (hz _ tw_108) (fun _ h9 => h9) rfl d_Plan_takeBestPiece_80 ?_
                refine lv_iload_n hx hb d_Plan_takeBestPiece_83 rfl (lv_at hl 5 rfl) ?_
                refine zz_iald hx hb hK hP 9 0 (f := va_up (w 0) j yf) (i := j) rfl rfl (by omega) (by decide) d_Plan_takeBestPiece_84 ?_
                refine zz_top (va_up_self _ _ _) ?_
                refine lv_iconst (v := -1) hx hb d_Plan_takeBestPiece_85 (by decide) ?_
                refine lv_icmp_eq (tgt := 100) hx hb d_Plan_takeBestPiece_86 (by decide) (fun c_86 => ?_) (fun c_86 => ?_)
                · have c_86 : yf = -1 := c_86
                  refine lv_iinc (v := nI (t - 1)) (lv' := [(8, .int (nI (t - 1))), (9, .int (nI (j + t))), (7, .int (nI (min (f 3 x) r))), (6, .int (nI (x))), (0, .ref (a 7)), (1, .int (nI (j))), (2, .int (nI (r))), (3, .int (nI (sc))), (4, .ref (a 1)), (5, .ref (a 4))]) hx hb d_Plan_takeBestPiece_100 hl (k := 1) rfl (zz_decn (by omega)) (by decide) rfl (fun ls hl => ?_)
                  refine lv_goto (tgt := 31) hx hb d_Plan_takeBestPiece_103 (by decide) ?_
                  exact ih_loop2 (t - 1) ya yf ys (by omega) hb3 (by omega) H locs hP hD hS ls (lv_sub hl [0, 2, 3, 4, 5, 6, 7, 8, 9] rfl)
                · have c_86 : ¬ (yf = -1) := c_86
                  refine lv_aload_n hx hb d_Plan_takeBestPiece_89 rfl (lv_at hl 4 rfl) ?_
                  refine va_get (D := (dC, dI)) (ci := 3) (v := .ref (a 8)) (C := "CutLengths$Plan") (T := T_Plan) (N := 3) hx hb hz i_Plan hown hK hP 7 rfl rfl 0 (by decide) (hz _ tw_106) (fun _ h9 => h9) rfl d_Plan_takeBestPiece_90 ?_
                  refine lv_iload_n hx hb d_Plan_takeBestPiece_93 rfl (lv_at hl 5 rfl) ?_
                  refine zz_nald hx hb hK hP 8 0 (f := va_up (f 4) j ya) (i := j) rfl rfl (by omega) (by decide) d_Plan_takeBestPiece_94 ?_
                  refine zz_top (congrArg nI (va_up_self _ _ _)) ?_
                  refine lv_iload_n hx hb d_Plan_takeBestPiece_95 rfl (lv_at hl 7 rfl) ?_
                  refine lv_icmp_ne (tgt := 100) hx hb d_Plan_takeBestPiece_96 (by decide) (fun c_96 => ?_) (fun c_96 => ?_)
                  · have c_96 : ¬ (((ya : Nat) : Int) = ((sc : Nat) : Int)) := fun q => c_96 ((zz_eq (nI_toInt (by omega)) (nI_toInt (by omega))).mpr q)
                    refine lv_iinc (v := nI (t - 1)) (lv' := [(8, .int (nI (t - 1))), (9, .int (nI (j + t))), (7, .int (nI (min (f 3 x) r))), (6, .int (nI (x))), (0, .ref (a 7)), (1, .int (nI (j))), (2, .int (nI (r))), (3, .int (nI (sc))), (4, .ref (a 1)), (5, .ref (a 4))]) hx hb d_Plan_takeBestPiece_100 hl (k := 1) rfl (zz_decn (by omega)) (by decide) rfl (fun ls hl => ?_)
                    refine lv_goto (tgt := 31) hx hb d_Plan_takeBestPiece_103 (by decide) ?_
                    exact ih_loop2 (t - 1) ya yf ys (by omega) hb3 (by omega) H locs hP hD hS ls (lv_sub hl [0, 2, 3, 4, 5, 6, 7, 8, 9] rfl)
                  · have c_96 : ((ya : Nat) : Int) = ((sc : Nat) : Int) := (zz_eq (nI_toInt (by omega)) (nI_toInt (by omega))).mp c_96
                    exact W.vret hx hb hr (fun t9 ht hW => ⟨⟨(ya, yf, ys), rfl, (zstop hb3 c_86 (fun l q1 q2 => by have := hs l q1 q2; omega) (fun w q => (iw w q).1)), by rw [ht]; exact hP, va_K.moved hW.alike hK, hD⟩, hS.F ht⟩) hS.2.2 d_Plan_takeBestPiece_99
        exact loop2 (min (f 3 x) r + 1) (min (f 3 x) r) xa xf xs (Nat.le_refl _) (zinner hb1) (by omega) H locs hP hD hS ls (lv_sub hl [0, 1, 2, 3, 4, 5, 6, 7, 8] rfl)
  exact loop (v 9 + 1) 0 (f 4 j) (w 0 j) (f 5 j) (Nat.zero_le _) (by rw [hF]; exact zbegin rfl) (by omega) s.heap [] (by rw [zup_same, zup_same, zup_same]; exact hP) (by rw [zup_same, zup_same, zup_same]; exact hD) hS ls (lv_sub hl [0, 1, 2, 3, 4, 5, 6] rfl)
set_option maxHeartbeats 4000000 in
set_option maxRecDepth 100000 in
theorem c_Plan_make (l : Launch) (dC : Nat → ClassId) (dI : Nat → Nat → Nat) (a : Nat → Nat) (cI cZ : ClassId) (v : Nat → Nat) (f : Nat → Nat → Nat) (w : Nat → Nat → Int32) (sz : Nat) (hI : zI v f) : Met l y_Plan_make (zw_Plan_make :: zW) ({ frames := 2, cells := 0, slots := 0, locals := 59 }) (va_Pc [.ref (a 7), .ref (a 1), .ref (a 4)] (fun U => U.heap.size = sz ∧ va_P (dC, dI) vwCl (wC a cI cZ v f w) U.heap ∧ va_K (dC, dI) vwCl [(cI, .int), (cZ, .boolean)] U ∧ va_D (fun _ => True) (wC a cI cZ v f w))) (va_Qv (fun (u : (Nat → Nat) × (Nat → Nat) × (Nat → Int32)) => zCP v f u.1 u.2.1 u.2.2) (fun (u : (Nat → Nat) × (Nat → Nat) × (Nat → Int32)) t => match u with | (L, S, F) => va_P (dC, dI) vwCl (wC a cI cZ v (zu (zu f 4 (L)) 5 (S)) (zu w 0 (F))) t.heap ∧ va_K (dC, dI) vwCl [(cI, .int), (cZ, .boolean)] t ∧ va_D (va_A (wC a cI cZ v f w) sz) (wC a cI cZ v (zu (zu f 4 (L)) 5 (S)) (zu w 0 (F)))) (va_A (wC a cI cZ v f w) sz)) 0 0 (va_A (wC a cI cZ v f w) sz) := by
  refine Met.ofW (cc := prog_2_method_2_code) (maxL := 6) (ret := none) (by decide) rfl ?_
  intro p e s m args below meth c s₁ B hml hv
  obtain ⟨rfl, hsz, hP, hK, hD0⟩ := hv
  have hx := B.exec
  have hb := B.bytes
  have hr := B.returns
  have hz : ∀ w ∈ zW, w.before ([.ref (a 7), .ref (a 1), .ref (a 4)]).toArray s = true := fun w h => atoms_spec (ws := (zw_Plan_make :: zW)) B.pre w (List.mem_cons_of_mem _ h)
  have hown : s.vm.findClass "CutLengths$Plan" = some m.cls := findClass_of_methodNamed B.named
  have hlocks := B.notSynchronized
  subst hsz
  have hD := hD0.self (sz := s.heap.size)
  generalize hAe : va_A (wC a cI cZ v f w) s.heap.size = A at hD ⊢
  have hA : ∀ q : Nat, s.heap.size ≤ q → A q := fun q h => by rw [← hAe]; exact Or.inr h
  have hS : va_S A s.heap s.heap [] := va_S.rf
  have hP : va_P (dC, dI) vwCl (wC a cI cZ v f w) s.heap := hP
  obtain ⟨i3, i4, i5, i6, i7, i8, i9, i10, i2, i0, i1, iw, ib, ic, isl⟩ := id hI
  have hl := lv_entry ([.ref (a 7), .ref (a 1), .ref (a 4)]) (n := 6) (Nat.le_of_ble_eq_true rfl)
  rw [lg_entry_eq]
  generalize (lg_sl ([.ref (a 7), .ref (a 1), .ref (a 4)]) ++ List.replicate (6 - (lg_sl ([.ref (a 7), .ref (a 1), .ref (a 4)])).length) Slot.unset).toArray = ls at hl ⊢
  have hl : lv_has ls 6 [(0, .ref (a 7)), (1, .ref (a 1)), (2, .ref (a 4))] := hl
  refine lv_aload_n hx hb d_Plan_make_0 rfl (lv_at hl 0 rfl) ?_
  refine va_get (D := (dC, dI)) (ci := 3) (v := .ref (a 8)) (C := "CutLengths$Plan") (T := T_Plan) (N := 3) hx hb hz i_Plan hown hK hP 7 rfl rfl 0 (by decide) (hz _ tw_106) (fun _ h9 => h9) rfl d_Plan_make_1 ?_
  refine lv_aload_n hx hb d_Plan_make_4 rfl (lv_at hl 1 rfl) ?_
  refine va_get (D := (dC, dI)) (ci := 1) (v := .int (nI (v 3))) (C := "CutLengths$Strand") (T := T_Strand) (N := 8) hx hb hz i_Strand hown hK hP 1 rfl rfl 0 (by decide) (hz _ tw_44) (fun _ h9 => h9) rfl d_Plan_make_5 ?_
  refine lv_iconst (v := nI (0)) hx hb d_Plan_make_8 (by decide) ?_
  refine zz_nast hx hb hK hP hD hS 8 0 (f := f 4) (i := v 3) (x := 0) rfl rfl (by omega) (by decide) d_Plan_make_9 (fun H locs hP hD hS => ?_)
  have hP : va_P (dC, dI) vwCl (wC a cI cZ v (zu f 4 (va_up (f 4) (v 3) 0)) w) H := hP
  have hD : va_D A (wC a cI cZ v (zu f 4 (va_up (f 4) (v 3) 0)) w) := hD
  refine lv_aload_n hx hb d_Plan_make_10 rfl (lv_at hl 0 rfl) ?_
  refine va_get (D := (dC, dI)) (ci := 3) (v := .ref (a 9)) (C := "CutLengths$Plan") (T := T_Plan) (N := 3) hx hb hz i_Plan hown hK hP 7 rfl rfl 1 (by decide) (hz _ tw_108) (fun _ h9 => h9) rfl d_Plan_make_11 ?_
  refine lv_aload_n hx hb d_Plan_make_14 rfl (lv_at hl 1 rfl) ?_
  refine va_get (D := (dC, dI)) (ci := 1) (v := .int (nI (v 3))) (C := "CutLengths$Strand") (T := T_Strand) (N := 8) hx hb hz i_Strand hown hK hP 1 rfl rfl 0 (by decide) (hz _ tw_44) (fun _ h9 => h9) rfl d_Plan_make_15 ?_
  refine lv_bipush (v := -2) hx hb d_Plan_make_18 (by decide) ?_
  refine zz_iast hx hb hK hP hD hS 9 0 (f := w 0) (i := v 3) (x := -2) rfl rfl (by omega) (by decide) d_Plan_make_20 (fun H locs hP hD hS => ?_)
  have hP : va_P (dC, dI) vwCl (wC a cI cZ v (zu f 4 (va_up (f 4) (v 3) 0)) (zu w 0 (va_up (w 0) (v 3) (-2)))) H := hP
  have hD : va_D A (wC a cI cZ v (zu f 4 (va_up (f 4) (v 3) 0)) (zu w 0 (va_up (w 0) (v 3) (-2)))) := hD
  refine lv_aload_n hx hb d_Plan_make_21 rfl (lv_at hl 0 rfl) ?_
  refine va_get (D := (dC, dI)) (ci := 3) (v := .ref (a 10)) (C := "CutLengths$Plan") (T := T_Plan) (N := 3) hx hb hz i_Plan hown hK hP 7 rfl rfl 2 (by decide) (hz _ tw_110) (fun _ h9 => h9) rfl d_Plan_make_22 ?_
  refine lv_aload_n hx hb d_Plan_make_25 rfl (lv_at hl 1 rfl) ?_
  refine va_get (D := (dC, dI)) (ci := 1) (v := .int (nI (v 3))) (C := "CutLengths$Strand") (T := T_Strand) (N := 8) hx hb hz i_Strand hown hK hP 1 rfl rfl 0 (by decide) (hz _ tw_44) (fun _ h9 => h9) rfl d_Plan_make_26 ?_
  refine lv_iconst (v := nI (0)) hx hb d_Plan_make_29 (by decide) ?_
  refine zz_nast hx hb hK hP hD hS 10 0 (f := f 5) (i := v 3) (x := 0) rfl rfl (by omega) (by decide) d_Plan_make_30 (fun H locs hP hD hS => ?_)
  have hP : va_P (dC, dI) vwCl (wC a cI cZ v (zu (zu f 4 (va_up (f 4) (v 3) 0)) 5 (va_up (f 5) (v 3) 0)) (zu w 0 (va_up (w 0) (v 3) (-2)))) H := hP
  have hD : va_D A (wC a cI cZ v (zu (zu f 4 (va_up (f 4) (v 3) 0)) 5 (va_up (f 5) (v 3) 0)) (zu w 0 (va_up (w 0) (v 3) (-2)))) := hD
  refine lv_iconst (v := nI (0)) hx hb d_Plan_make_31 (by decide) ?_
  refine lv_istore_n (lv' := [(3, .int (nI (0))), (0, .ref (a 7)), (1, .ref (a 1)), (2, .ref (a 4))]) hx hb d_Plan_make_32 rfl hl (by decide) rfl (fun ls hl => ?_)
  refine lv_iconst (v := nI (0)) hx hb d_Plan_make_33 (by decide) ?_
  refine lv_istore (lv' := [(4, .int (nI (0))), (3, .int (nI (0))), (0, .ref (a 7)), (1, .ref (a 1)), (2, .ref (a 4))]) hx hb d_Plan_make_34 hl (by decide) rfl (fun ls hl => ?_)
  refine lv_aload_n hx hb d_Plan_make_36 rfl (lv_at hl 3 rfl) ?_
  refine va_get (D := (dC, dI)) (ci := 1) (v := .int (nI (v 3))) (C := "CutLengths$Strand") (T := T_Strand) (N := 8) hx hb hz i_Strand hown hK hP 1 rfl rfl 0 (by decide) (hz _ tw_44) (fun _ h9 => h9) rfl d_Plan_make_37 ?_
  refine lv_iconst (v := nI (1)) hx hb d_Plan_make_40 (by decide) ?_
  refine lv_isub hx hb d_Plan_make_41 ?_
  refine lv_istore (lv' := [(5, .int (nI (v 3) - nI (1))), (4, .int (nI (0))), (3, .int (nI (0))), (0, .ref (a 7)), (1, .ref (a 1)), (2, .ref (a 4))]) hx hb d_Plan_make_42 hl (by decide) rfl (fun ls hl => ?_)
  have loop : ∀ (n : Nat) (k : Nat) (L S : Nat → Nat) (F : Nat → Int32), (v 4 ≤ k) → (k ≤ v 3) → (zinv (v 3) (v 4) (v 9) (f 2) (f 3) (zG v f) (f 1) k L F S) → (k < v 4 + n) → ∀ (H : Heap) (locs : List Loc), va_P (dC, dI) vwCl (wC a cI cZ v (zu (zu f 4 (L)) 5 (S)) (zu w 0 (F))) H → va_D A (wC a cI cZ v (zu (zu f 4 (L)) 5 (S)) (zu w 0 (F))) → va_S A s.heap H locs → ∀ ls : Array Slot, lv_has ls 6 [(5, .int (nI k - nI 1)), (3, .int (nI (zrun (zG v f) (v 3) k))), (4, .int (nI (zsure (zG v f) (v 3) k))), (0, .ref (a 7)), (1, .ref (a 1)), (2, .ref (a 4))] → W p l e (headSpec (zw_Plan_make :: zW) ({ frames := 2, cells := 0, slots := 0, locals := 59 })).room s m ([.ref (a 7), .ref (a 1), .ref (a 4)]).toArray below meth c H locs 0 0 (MQ below (va_Qv (fun (u : (Nat → Nat) × (Nat → Nat) × (Nat → Int32)) => zCP v f u.1 u.2.1 u.2.2) (fun (u : (Nat → Nat) × (Nat → Nat) × (Nat → Int32)) t => match u with | (L, S, F) => va_P (dC, dI) vwCl (wC a cI cZ v (zu (zu f 4 (L)) 5 (S)) (zu w 0 (F))) t.heap ∧ va_K (dC, dI) vwCl [(cI, .int), (cZ, .boolean)] t ∧ va_D A (wC a cI cZ v (zu (zu f 4 (L)) 5 (S)) (zu w 0 (F)))) A) ([.ref (a 7), .ref (a 1), .ref (a 4)]).toArray s 0 0 A) (F0 m 44 ls []) := by
    intro n
    induction n with
    | zero =>
      intro k L S F hk1 hk2 hinv hn
      exact absurd hn (by omega)
    | succ n ih_loop =>
      intro k L S F hk1 hk2 hinv hn H locs hP hD hS ls hl
      refine lv_iload hx hb d_Plan_make_44 (lv_at hl 0 rfl) ?_
      refine lv_aload_n hx hb d_Plan_make_46 rfl (lv_at hl 4 rfl) ?_
      refine va_get (D := (dC, dI)) (ci := 1) (v := .int (nI (v 4))) (C := "CutLengths$Strand") (T := T_Strand) (N := 8) hx hb hz i_Strand hown hK hP 1 rfl rfl 1 (by decide) (hz _ tw_47) (fun _ h9 => h9) rfl d_Plan_make_47 ?_
      refine lv_icmp_lt (tgt := 105) hx hb d_Plan_make_50 (by decide) (fun c_50 => ?_) (fun c_50 => ?_)
      · have c_50 : ((k : Nat) : Int) - ((1 : Nat) : Int) < ((v 4 : Nat) : Int) := (zz_lt (pk_sub_toInt (by omega) (by omega)) (nI_toInt (by omega))).mp c_50
        exact W.vret hx hb hr (fun t9 ht hW => ⟨⟨(L, S, F), rfl, (by rw [show k = v 4 from by omega] at hinv; exact hinv), by rw [ht]; exact hP, va_K.moved hW.alike hK, hD⟩, hS.F ht⟩) hS.2.2 d_Plan_make_105
      · have c_50 : ¬ (((k : Nat) : Int) - ((1 : Nat) : Int) < ((v 4 : Nat) : Int)) := fun q => c_50 ((zz_lt (pk_sub_toInt (by omega) (by omega)) (nI_toInt (by omega))).mpr q)
        obtain ⟨j, rfl⟩ : ∃ j, k = j + 1 := ⟨k - 1, by omega⟩
        rw [show nI (j + 1) - nI 1 = nI j from nI_pred j] at hl
        have hl : lv_has ls 6 [(5, .int (nI (j))), (3, .int (nI (zrun (zG v f) (v 3) (j + 1)))), (4, .int (nI (zsure (zG v f) (v 3) (j + 1)))), (0, .ref (a 7)), (1, .ref (a 1)), (2, .ref (a 4))] := hl
        have hrs := zrun_s (G := zG v f) (n := v 3) (p := j) (by omega)
        have hss := zsure_s (G := zG v f) (n := v 3) (p := j) (by omega)
        have hrl := zrun_le (G := zG v f) (n := v 3) (p := j)
        have hsl := zsure_le (G := zG v f) (n := v 3) (p := j)
        have hrl1 := zrun_le (G := zG v f) (n := v 3) (p := j + 1)
        have hsl1 := zsure_le (G := zG v f) (n := v 3) (p := j + 1)
        refine lv_aload_n hx hb d_Plan_make_53 rfl (lv_at hl 4 rfl) ?_
        refine lv_iload hx hb d_Plan_make_54 (lv_at hl 0 rfl) ?_
        refine zz_ro (va_runV (As := [.int (nI (j))]) (rest := []) ⟨hx, hb, hml, hown, hz⟩ (c_Strand_isSound l dC dI a cI cZ v (zu (zu f 4 (L)) 5 (S)) (zu w 0 (F)) (j) (by omega) hI) (cwV (C := "CutLengths$Strand") 1 hz (zgV tw_176 tw_177 tw_178 tw_16 tw_179) rfl rfl rfl (by decide +kernel) ⟨Nat.le_of_ble_eq_true rfl, Nat.le_of_ble_eq_true rfl⟩) ⟨(fun a U g mk q => ⟨q.1, q.2.1, va_K.moved (u := U) (U := U.calling g mk a) (Vm.Alike.refl U.vm) q.2.2⟩), va_recv hK hP (ci := 1) (q0 := 1) rfl rfl, fun U hU hW => ⟨rfl, by rw [hU]; exact hP, va_K.moved hW.alike hK⟩⟩ rfl rfl hl.1 rfl (lv_room (Nat.le_of_ble_eq_true rfl)) d_Plan_make_56 ⟨Nat.zero_le _, Nat.zero_le _⟩) ?_
        by_cases q_56 : v 5 ≤ j ∧ j + v 6 < v 3 ∧ f 0 j = 0
        · refine zz_top (congrArg nI (if_pos q_56)) ?_
          refine lv_if_eq (tgt := 68) hx hb d_Plan_make_59 (by decide) (fun c9 => absurd c9 (by decide)) (fun _ => ?_)
          refine lv_iinc (v := nI (zrun (zG v f) (v 3) (j + 1) + 1)) (lv' := [(3, .int (nI (zrun (zG v f) (v 3) (j + 1) + 1))), (5, .int (nI (j))), (4, .int (nI (zsure (zG v f) (v 3) (j + 1)))), (0, .ref (a 7)), (1, .ref (a 1)), (2, .ref (a 4))]) hx hb d_Plan_make_62 hl (k := 1) rfl (zz_inc _) (by decide) rfl (fun ls hl => ?_)
          refine lv_goto (tgt := 73) hx hb d_Plan_make_65 (by decide) ?_
          have hg9 : ¬ zG v f j = 0 := by unfold zG; rw [if_pos q_56]; decide
          rw [if_neg hg9] at hrs hss
          have hl : lv_has ls 6 [(5, .int (nI (j))), (3, .int (nI (zrun (zG v f) (v 3) j))), (4, .int (nI (zsure (zG v f) (v 3) j))), (0, .ref (a 7)), (1, .ref (a 1)), (2, .ref (a 4))] := by rw [hrs, hss]; exact lv_sub hl [1, 0, 2, 3, 4, 5] rfl
          refine lv_aload_n hx hb d_Plan_make_73 rfl (lv_at hl 3 rfl) ?_
          refine lv_iload hx hb d_Plan_make_74 (lv_at hl 0 rfl) ?_
          have hFc := va_free (wc := (wC a cI cZ v (zu (zu f 4 (L)) 5 (S)) (zu w 0 (F)))) hD hS hA [0, 1, 2, 3, 4, 5, 6, 7, 8, 9, 10, 11, 12, 13, 14] rfl
          refine va_callv (va_runV (As := [.int (nI (j))]) (rest := []) ⟨hx, hb, hml, hown, hz⟩ (c_Plan_takeScrap l dC dI a cI cZ v (zu (zu f 4 (L)) 5 (S)) (zu w 0 (F)) (H).size (j) (by omega)) (cwV (C := "CutLengths$Plan") 1 hz (zgV tw_180 tw_182 tw_1 tw_18 tw_183) rfl rfl rfl (by decide +kernel) ⟨Nat.le_of_ble_eq_true rfl, Nat.le_of_ble_eq_true rfl⟩) ⟨(fun a U g mk q => by obtain ⟨q0, q1, qP, qK, qD⟩ := q; exact ⟨q0, q1, qP, va_K.moved (u := U) (U := U.calling g mk a) (Vm.Alike.refl U.vm) qK, qD⟩), va_recv hK hP (ci := 3) (q0 := 7) rfl rfl, fun U hU hW => ⟨rfl, by rw [hU], by rw [hU]; exact hP, va_K.moved hW.alike hK, hD.weaken (fun _ _ _ _ => trivial)⟩⟩ rfl rfl hl.1 rfl (lv_room (Nat.le_of_ble_eq_true rfl)) d_Plan_make_76 ⟨Nat.zero_le _, Nat.zero_le _⟩) hS (fun q _ h => hFc q h) hFc (fun u9 t9 H1 locs ht hvm hw hB hz1 hk1 hS => ?_)
          obtain ⟨x_76, rfl⟩ : ∃ z, z = u9 := ⟨_, rfl⟩
          obtain ⟨hP1, hK1, hD1⟩ := hB
          rw [ht] at hP1
          obtain ⟨hP, hD⟩ := va_join (wr := []) (w1 := (wC a cI cZ v (zu (zu f 4 (va_up L j ((L) (j + 1) + 1))) 5 (va_up S j x_76)) (zu w 0 (va_up F j (-1))))) hP hD [0, 1, 2, 3, 4, 5, 6, 7, 8, 9, 10, 11, 12, 13, 14] [] rfl rfl (by decide) (by decide) hk1 hFc hP1 hD1
          generalize H1 = H at hP hS ⊢
          have hP : va_P (dC, dI) vwCl (wC a cI cZ v (zu (zu f 4 (va_up L j ((L) (j + 1) + 1))) 5 (va_up S j x_76)) (zu w 0 (va_up F j (-1)))) H := hP
          have hD : va_D A (wC a cI cZ v (zu (zu f 4 (va_up L j ((L) (j + 1) + 1))) 5 (va_up S j x_76)) (zu w 0 (va_up F j (-1)))) := hD
          have hx9 : x_76 = zS0 F S j := hw
          refine lv_aload_n hx hb d_Plan_make_79 rfl (lv_at hl 4 rfl) ?_
          refine lv_iload hx hb d_Plan_make_80 (lv_at hl 0 rfl) ?_
          refine zz_ro (va_runV (As := [.int (nI (j))]) (rest := []) ⟨hx, hb, hml, hown, hz⟩ (c_Strand_pieceMayBegin l dC dI a cI cZ v (zu (zu f 4 (va_up L j ((L) (j + 1) + 1))) 5 (va_up S j x_76)) (zu w 0 (va_up F j (-1))) (j) (by omega) hI) (cwV (C := "CutLengths$Strand") 1 hz (zgV tw_184 tw_185 tw_186 tw_16 tw_187) rfl rfl rfl (by decide +kernel) ⟨Nat.le_of_ble_eq_true rfl, Nat.le_of_ble_eq_true rfl⟩) ⟨(fun a U g mk q => ⟨q.1, q.2.1, va_K.moved (u := U) (U := U.calling g mk a) (Vm.Alike.refl U.vm) q.2.2⟩), va_recv hK hP (ci := 1) (q0 := 1) rfl rfl, fun U hU hW => ⟨rfl, by rw [hU]; exact hP, va_K.moved hW.alike hK⟩⟩ rfl rfl hl.1 rfl (lv_room (Nat.le_of_ble_eq_true rfl)) d_Plan_make_82 ⟨Nat.zero_le _, Nat.zero_le _⟩) ?_
          by_cases q_82 : j = v 4 ∨ f 1 j = 0
          · refine zz_top (congrArg nI (if_pos q_82)) ?_
            refine lv_if_eq (tgt := 99) hx hb d_Plan_make_85 (by decide) (fun c9 => absurd c9 (by decide)) (fun _ => ?_)
            have hF9 : va_up F j (-1) j = -1 := va_up_self _ _ _
            have hr9 : j + zrun (zG v f) (v 3) j ≤ v 3 := by omega
            have hL9 : ∀ q, j ≤ q → q ≤ v 3 → va_up L j (L (j + 1) + 1) q ≤ 300 := by
              intro q h1 h2
              by_cases e : q = j
              · rw [e, va_up_self]
                have := (hinv.2.2.2 (j + 1) (Nat.le_refl _) (by omega)).2
                omega
              · rw [va_up_ne _ _ e]
                have := (hinv.2.2.2 q (by omega) h2).2
                omega
            have hs9 : ∀ l, 0 < l → l ≤ zrun (zG v f) (v 3) j → zsure (zG v f) (v 3) j ≤ va_up L j (L (j + 1) + 1) (j + l) := by
              intro l h1 h2
              rw [va_up_ne _ _ (by omega)]
              exact zinv_sure hinv (by omega) l h1 h2
            refine lv_aload_n hx hb d_Plan_make_88 rfl (lv_at hl 3 rfl) ?_
            refine lv_iload hx hb d_Plan_make_89 (lv_at hl 0 rfl) ?_
            refine lv_iload_n hx hb d_Plan_make_91 rfl (lv_at hl 1 rfl) ?_
            refine lv_iload hx hb d_Plan_make_92 (lv_at hl 2 rfl) ?_
            refine lv_aload_n hx hb d_Plan_make_94 rfl (lv_at hl 4 rfl) ?_
            refine lv_aload_n hx hb d_Plan_make_95 rfl (lv_at hl 5 rfl) ?_
            have hFc := va_free (wc := (wC a cI cZ v (zu (zu f 4 (va_up L j ((L) (j + 1) + 1))) 5 (va_up S j x_76)) (zu w 0 (va_up F j (-1))))) hD hS hA [0, 1, 2, 3, 4, 5, 6, 7, 8, 9, 10, 11, 12, 13, 14] rfl
            refine va_callv (va_runV (As := [.int (nI (j)), .int (nI (zrun (zG v f) (v 3) j)), .int (nI (zsure (zG v f) (v 3) j)), .ref (a 1), .ref (a 4)]) (rest := []) ⟨hx, hb, hml, hown, hz⟩ (c_Plan_takeBestPiece l dC dI a cI cZ v (zu (zu f 4 (va_up L j ((L) (j + 1) + 1))) 5 (va_up S j x_76)) (zu w 0 (va_up F j (-1))) (H).size (j) (zrun (zG v f) (v 3) j) (zsure (zG v f) (v 3) j) (by omega) hr9 hI q_82 hF9 hL9 hs9 (by omega)) (cwV (C := "CutLengths$Plan") 5 hz (zgV tw_188 tw_190 tw_2 tw_18 tw_191) rfl rfl rfl (by decide +kernel) ⟨Nat.le_of_ble_eq_true rfl, Nat.le_of_ble_eq_true rfl⟩) ⟨(fun a U g mk q => by obtain ⟨q0, q1, qP, qK, qD⟩ := q; exact ⟨q0, q1, qP, va_K.moved (u := U) (U := U.calling g mk a) (Vm.Alike.refl U.vm) qK, qD⟩), va_recv hK hP (ci := 3) (q0 := 7) rfl rfl, fun U hU hW => ⟨rfl, by rw [hU], by rw [hU]; exact hP, va_K.moved hW.alike hK, hD.weaken (fun _ _ _ _ => trivial)⟩⟩ rfl rfl hl.1 rfl (lv_room (Nat.le_of_ble_eq_true rfl)) d_Plan_make_96 ⟨Nat.zero_le _, Nat.zero_le _⟩) hS (fun q _ h => hFc q h) hFc (fun u9 t9 H1 locs ht hvm hw hB hz1 hk1 hS => ?_)
            obtain ⟨x_96, y_96, z_96⟩ := u9
            obtain ⟨hP1, hK1, hD1⟩ := hB
            rw [ht] at hP1
            obtain ⟨hP, hD⟩ := va_join (wr := []) (w1 := (wC a cI cZ v (zu (zu f 4 (va_up (va_up L j ((L) (j + 1) + 1)) j x_96)) 5 (va_up (va_up S j x_76) j z_96)) (zu w 0 (va_up (va_up F j (-1)) j y_96)))) hP hD [0, 1, 2, 3, 4, 5, 6, 7, 8, 9, 10, 11, 12, 13, 14] [] rfl rfl (by decide) (by decide) hk1 hFc hP1 hD1
            generalize H1 = H at hP hS ⊢
            have hP : va_P (dC, dI) vwCl (wC a cI cZ v (zu (zu f 4 (va_up (va_up L j ((L) (j + 1) + 1)) j x_96)) 5 (va_up (va_up S j x_76) j z_96)) (zu w 0 (va_up (va_up F j (-1)) j y_96))) H := hP
            have hD : va_D A (wC a cI cZ v (zu (zu f 4 (va_up (va_up L j ((L) (j + 1) + 1)) j x_96)) 5 (va_up (va_up S j x_76) j z_96)) (zu w 0 (va_up (va_up F j (-1)) j y_96))) := hD
            have hw : zB (zcand (v 3) (v 4) (v 9) (f 2) (f 3) (f 1) (zrun (zG v f) (v 3) j) j) (va_up L j (L (j + 1) + 1)) j (va_up L j (L (j + 1) + 1) j) (va_up S j x_76 j) x_96 y_96 z_96 := hw
            have hb9 := zB_L (L' := L) (fun w l c => va_up_ne _ _ (by have := (iw w c.2.1).1; have := c.2.2.1; omega)) hw
            rw [va_up_self, va_up_self, hx9] at hb9
            refine lv_iinc (v := nI (j) - nI 1) (lv' := [(5, .int (nI (j) - nI 1)), (3, .int (nI (zrun (zG v f) (v 3) j))), (4, .int (nI (zsure (zG v f) (v 3) j))), (0, .ref (a 7)), (1, .ref (a 1)), (2, .ref (a 4))]) hx hb d_Plan_make_99 hl (k := 0) rfl (zz_dec _) (by decide) rfl (fun ls hl => ?_)
            refine lv_goto (tgt := 44) hx hb d_Plan_make_102 (by decide) ?_
            exact ih_loop j (va_up (va_up L j (L (j + 1) + 1)) j x_96) (va_up (va_up S j x_76) j z_96) (va_up (va_up F j (-1)) j y_96) (by omega) (by omega) (zinv_step (fun w q => (iw w q).1) hinv (by omega) hb9 (va_up_self _ _ _) (fun q hq => by rw [va_up_ne _ _ hq, va_up_ne _ _ hq]) (va_up_self _ _ _) (fun q hq => by rw [va_up_ne _ _ hq, va_up_ne _ _ hq]) (va_up_self _ _ _) (fun q hq => by rw [va_up_ne _ _ hq, va_up_ne _ _ hq])) (by omega) H locs hP hD hS ls (lv_sub hl [0, 1, 2, 3, 4, 5] rfl)
          · refine zz_top (congrArg nI (if_neg q_82)) ?_
            refine lv_if_eq (tgt := 99) hx hb d_Plan_make_85 (by decide) (fun _ => ?_) (fun c9 => absurd c9 (by decide))
            have hb9 : zB (zcand (v 3) (v 4) (v 9) (f 2) (f 3) (f 1) (zrun (zG v f) (v 3) j) j) L j (L (j + 1) + 1) (zS0 F S j) (L (j + 1) + 1) (-1) x_76 := by rw [hx9]; exact zB_nil (fun w l c => q_82 c.1)
            refine lv_iinc (v := nI (j) - nI 1) (lv' := [(5, .int (nI (j) - nI 1)), (3, .int (nI (zrun (zG v f) (v 3) j))), (4, .int (nI (zsure (zG v f) (v 3) j))), (0, .ref (a 7)), (1, .ref (a 1)), (2, .ref (a 4))]) hx hb d_Plan_make_99 hl (k := 0) rfl (zz_dec _) (by decide) rfl (fun ls hl => ?_)
            refine lv_goto (tgt := 44) hx hb d_Plan_make_102 (by decide) ?_
            exact ih_loop j (va_up L j (L (j + 1) + 1)) (va_up S j x_76) (va_up F j (-1)) (by omega) (by omega) (zinv_step (fun w q => (iw w q).1) hinv (by omega) hb9 (va_up_self _ _ _) (fun q hq => va_up_ne _ _ hq) (va_up_self _ _ _) (fun q hq => va_up_ne _ _ hq) (va_up_self _ _ _) (fun q hq => va_up_ne _ _ hq)) (by omega) H locs hP hD hS ls (lv_sub hl [0, 1, 2, 3, 4, 5] rfl)
        · refine zz_top (congrArg nI (if_neg q_56)) ?_
          refine lv_if_eq (tgt := 68) hx hb d_Plan_make_59 (by decide) (fun _ => ?_) (fun c9 => absurd c9 (by decide))
          refine lv_iconst (v := nI (0)) hx hb d_Plan_make_68 (by decide) ?_
          refine lv_istore_n (lv' := [(3, .int (nI (0))), (5, .int (nI (j))), (4, .int (nI (zsure (zG v f) (v 3) (j + 1)))), (0, .ref (a 7)), (1, .ref (a 1)), (2, .ref (a 4))]) hx hb d_Plan_make_69 rfl hl (by decide) rfl (fun ls hl => ?_)
          refine lv_iinc (v := nI (zsure (zG v f) (v 3) (j + 1) + 1)) (lv' := [(4, .int (nI (zsure (zG v f) (v 3) (j + 1) + 1))), (3, .int (nI (0))), (5, .int (nI (j))), (0, .ref (a 7)), (1, .ref (a 1)), (2, .ref (a 4))]) hx hb d_Plan_make_70 hl (k := 2) rfl (zz_inc _) (by decide) rfl (fun ls hl => ?_)
          have hg9 : zG v f j = 0 := by unfold zG; rw [if_neg q_56]
          rw [if_pos hg9] at hrs hss
          have hl : lv_has ls 6 [(5, .int (nI (j))), (3, .int (nI (zrun (zG v f) (v 3) j))), (4, .int (nI (zsure (zG v f) (v 3) j))), (0, .ref (a 7)), (1, .ref (a 1)), (2, .ref (a 4))] := by rw [hrs, hss]; exact lv_sub hl [2, 1, 0, 3, 4, 5] rfl
          refine lv_aload_n hx hb d_Plan_make_73 rfl (lv_at hl 3 rfl) ?_
          refine lv_iload hx hb d_Plan_make_74 (lv_at hl 0 rfl) ?_
          have hFc := va_free (wc := (wC a cI cZ v (zu (zu f 4 (L)) 5 (S)) (zu w 0 (F)))) hD hS hA [0, 1, 2, 3, 4, 5, 6, 7, 8, 9, 10, 11, 12, 13, 14] rfl
          refine va_callv (va_runV (As := [.int (nI (j))]) (rest := []) ⟨hx, hb, hml, hown, hz⟩ (c_Plan_takeScrap l dC dI a cI cZ v (zu (zu f 4 (L)) 5 (S)) (zu w 0 (F)) (H).size (j) (by omega)) (cwV (C := "CutLengths$Plan") 1 hz (zgV tw_180 tw_182 tw_1 tw_18 tw_183) rfl rfl rfl (by decide +kernel) ⟨Nat.le_of_ble_eq_true rfl, Nat.le_of_ble_eq_true rfl⟩) ⟨(fun a U g mk q => by obtain ⟨q0, q1, qP, qK, qD⟩ := q; exact ⟨q0, q1, qP, va_K.moved (u := U) (U := U.calling g mk a) (Vm.Alike.refl U.vm) qK, qD⟩), va_recv hK hP (ci := 3) (q0 := 7) rfl rfl, fun U hU hW => ⟨rfl, by rw [hU], by rw [hU]; exact hP, va_K.moved hW.alike hK, hD.weaken (fun _ _ _ _ => trivial)⟩⟩ rfl rfl hl.1 rfl (lv_room (Nat.le_of_ble_eq_true rfl)) d_Plan_make_76 ⟨Nat.zero_le _, Nat.zero_le _⟩) hS (fun q _ h => hFc q h) hFc (fun u9 t9 H1 locs ht hvm hw hB hz1 hk1 hS => ?_)
          obtain ⟨x_76, rfl⟩ : ∃ z, z = u9 := ⟨_, rfl⟩
          obtain ⟨hP1, hK1, hD1⟩ := hB
          rw [ht] at hP1
          obtain ⟨hP, hD⟩ := va_join (wr := []) (w1 := (wC a cI cZ v (zu (zu f 4 (va_up L j ((L) (j + 1) + 1))) 5 (va_up S j x_76)) (zu w 0 (va_up F j (-1))))) hP hD [0, 1, 2, 3, 4, 5, 6, 7, 8, 9, 10, 11, 12, 13, 14] [] rfl rfl (by decide) (by decide) hk1 hFc hP1 hD1
          generalize H1 = H at hP hS ⊢
          have hP : va_P (dC, dI) vwCl (wC a cI cZ v (zu (zu f 4 (va_up L j ((L) (j + 1) + 1))) 5 (va_up S j x_76)) (zu w 0 (va_up F j (-1)))) H := hP
          have hD : va_D A (wC a cI cZ v (zu (zu f 4 (va_up L j ((L) (j + 1) + 1))) 5 (va_up S j x_76)) (zu w 0 (va_up F j (-1)))) := hD
          have hx9 : x_76 = zS0 F S j := hw
          refine lv_aload_n hx hb d_Plan_make_79 rfl (lv_at hl 4 rfl) ?_
          refine lv_iload hx hb d_Plan_make_80 (lv_at hl 0 rfl) ?_
          refine zz_ro (va_runV (As := [.int (nI (j))]) (rest := []) ⟨hx, hb, hml, hown, hz⟩ (c_Strand_pieceMayBegin l dC dI a cI cZ v (zu (zu f 4 (va_up L j ((L) (j + 1) + 1))) 5 (va_up S j x_76)) (zu w 0 (va_up F j (-1))) (j) (by omega) hI) (cwV (C := "CutLengths$Strand") 1 hz (zgV tw_184 tw_185 tw_186 tw_16 tw_187) rfl rfl rfl (by decide +kernel) ⟨Nat.le_of_ble_eq_true rfl, Nat.le_of_ble_eq_true rfl⟩) ⟨(fun a U g mk q => ⟨q.1, q.2.1, va_K.moved (u := U) (U := U.calling g mk a) (Vm.Alike.refl U.vm) q.2.2⟩), va_recv hK hP (ci := 1) (q0 := 1) rfl rfl, fun U hU hW => ⟨rfl, by rw [hU]; exact hP, va_K.moved hW.alike hK⟩⟩ rfl rfl hl.1 rfl (lv_room (Nat.le_of_ble_eq_true rfl)) d_Plan_make_82 ⟨Nat.zero_le _, Nat.zero_le _⟩) ?_
          by_cases q_82 : j = v 4 ∨ f 1 j = 0
          · refine zz_top (congrArg nI (if_pos q_82)) ?_
            refine lv_if_eq (tgt := 99) hx hb d_Plan_make_85 (by decide) (fun c9 => absurd c9 (by decide)) (fun _ => ?_)
            have hF9 : va_up F j (-1) j = -1 := va_up_self _ _ _
            have hr9 : j + zrun (zG v f) (v 3) j ≤ v 3 := by omega
            have hL9 : ∀ q, j ≤ q → q ≤ v 3 → va_up L j (L (j + 1) + 1) q ≤ 300 := by
              intro q h1 h2
              by_cases e : q = j
              · rw [e, va_up_self]
                have := (hinv.2.2.2 (j + 1) (Nat.le_refl _) (by omega)).2
                omega
              · rw [va_up_ne _ _ e]
                have := (hinv.2.2.2 q (by omega) h2).2
                omega
            have hs9 : ∀ l, 0 < l → l ≤ zrun (zG v f) (v 3) j → zsure (zG v f) (v 3) j ≤ va_up L j (L (j + 1) + 1) (j + l) := by
              intro l h1 h2
              rw [va_up_ne _ _ (by omega)]
              exact zinv_sure hinv (by omega) l h1 h2
            refine lv_aload_n hx hb d_Plan_make_88 rfl (lv_at hl 3 rfl) ?_
            refine lv_iload hx hb d_Plan_make_89 (lv_at hl 0 rfl) ?_
            refine lv_iload_n hx hb d_Plan_make_91 rfl (lv_at hl 1 rfl) ?_
            refine lv_iload hx hb d_Plan_make_92 (lv_at hl 2 rfl) ?_
            refine lv_aload_n hx hb d_Plan_make_94 rfl (lv_at hl 4 rfl) ?_
            refine lv_aload_n hx hb d_Plan_make_95 rfl (lv_at hl 5 rfl) ?_
            have hFc := va_free (wc := (wC a cI cZ v (zu (zu f 4 (va_up L j ((L) (j + 1) + 1))) 5 (va_up S j x_76)) (zu w 0 (va_up F j (-1))))) hD hS hA [0, 1, 2, 3, 4, 5, 6, 7, 8, 9, 10, 11, 12, 13, 14] rfl
            refine va_callv (va_runV (As := [.int (nI (j)), .int (nI (zrun (zG v f) (v 3) j)), .int (nI (zsure (zG v f) (v 3) j)), .ref (a 1), .ref (a 4)]) (rest := []) ⟨hx, hb, hml, hown, hz⟩ (c_Plan_takeBestPiece l dC dI a cI cZ v (zu (zu f 4 (va_up L j ((L) (j + 1) + 1))) 5 (va_up S j x_76)) (zu w 0 (va_up F j (-1))) (H).size (j) (zrun (zG v f) (v 3) j) (zsure (zG v f) (v 3) j) (by omega) hr9 hI q_82 hF9 hL9 hs9 (by omega)) (cwV (C := "CutLengths$Plan") 5 hz (zgV tw_188 tw_190 tw_2 tw_18 tw_191) rfl rfl rfl (by decide +kernel) ⟨Nat.le_of_ble_eq_true rfl, Nat.le_of_ble_eq_true rfl⟩) ⟨(fun a U g mk q => by obtain ⟨q0, q1, qP, qK, qD⟩ := q; exact ⟨q0, q1, qP, va_K.moved (u := U) (U := U.calling g mk a) (Vm.Alike.refl U.vm) qK, qD⟩), va_recv hK hP (ci := 3) (q0 := 7) rfl rfl, fun U hU hW => ⟨rfl, by rw [hU], by rw [hU]; exact hP, va_K.moved hW.alike hK, hD.weaken (fun _ _ _ _ => trivial)⟩⟩ rfl rfl hl.1 rfl (lv_room (Nat.le_of_ble_eq_true rfl)) d_Plan_make_96 ⟨Nat.zero_le _, Nat.zero_le _⟩) hS (fun q _ h => hFc q h) hFc (fun u9 t9 H1 locs ht hvm hw hB hz1 hk1 hS => ?_)
            obtain ⟨x_96, y_96, z_96⟩ := u9
            obtain ⟨hP1, hK1, hD1⟩ := hB
            rw [ht] at hP1
            obtain ⟨hP, hD⟩ := va_join (wr := []) (w1 := (wC a cI cZ v (zu (zu f 4 (va_up (va_up L j ((L) (j + 1) + 1)) j x_96)) 5 (va_up (va_up S j x_76) j z_96)) (zu w 0 (va_up (va_up F j (-1)) j y_96)))) hP hD [0, 1, 2, 3, 4, 5, 6, 7, 8, 9, 10, 11, 12, 13, 14] [] rfl rfl (by decide) (by decide) hk1 hFc hP1 hD1
            generalize H1 = H at hP hS ⊢
            have hP : va_P (dC, dI) vwCl (wC a cI cZ v (zu (zu f 4 (va_up (va_up L j ((L) (j + 1) + 1)) j x_96)) 5 (va_up (va_up S j x_76) j z_96)) (zu w 0 (va_up (va_up F j (-1)) j y_96))) H := hP
            have hD : va_D A (wC a cI cZ v (zu (zu f 4 (va_up (va_up L j ((L) (j + 1) + 1)) j x_96)) 5 (va_up (va_up S j x_76) j z_96)) (zu w 0 (va_up (va_up F j (-1)) j y_96))) := hD
            have hw : zB (zcand (v 3) (v 4) (v 9) (f 2) (f 3) (f 1) (zrun (zG v f) (v 3) j) j) (va_up L j (L (j + 1) + 1)) j (va_up L j (L (j + 1) + 1) j) (va_up S j x_76 j) x_96 y_96 z_96 := hw
            have hb9 := zB_L (L' := L) (fun w l c => va_up_ne _ _ (by have := (iw w c.2.1).1; have := c.2.2.1; omega)) hw
            rw [va_up_self, va_up_self, hx9] at hb9
            refine lv_iinc (v := nI (j) - nI 1) (lv' := [(5, .int (nI (j) - nI 1)), (3, .int (nI (zrun (zG v f) (v 3) j))), (4, .int (nI (zsure (zG v f) (v 3) j))), (0, .ref (a 7)), (1, .ref (a 1)), (2, .ref (a 4))]) hx hb d_Plan_make_99 hl (k := 0) rfl (zz_dec _) (by decide) rfl (fun ls hl => ?_)
            refine lv_goto (tgt := 44) hx hb d_Plan_make_102 (by decide) ?_
            exact ih_loop j (va_up (va_up L j (L (j + 1) + 1)) j x_96) (va_up (va_up S j x_76) j z_96) (va_up (va_up F j (-1)) j y_96) (by omega) (by omega) (zinv_step (fun w q => (iw w q).1) hinv (by omega) hb9 (va_up_self _ _ _) (fun q hq => by rw [va_up_ne _ _ hq, va_up_ne _ _ hq]) (va_up_self _ _ _) (fun q hq => by rw [va_up_ne _ _ hq, va_up_ne _ _ hq]) (va_up_self _ _ _) (fun q hq => by rw [va_up_ne _ _ hq, va_up_ne _ _ hq])) (by omega) H locs hP hD hS ls (lv_sub hl [0, 1, 2, 3, 4, 5] rfl)
          · refine zz_top (congrArg nI (if_neg q_82)) ?_
            refine lv_if_eq (tgt := 99) hx hb d_Plan_make_85 (by decide) (fun _ => ?_) (fun c9 => absurd c9 (by decide))
            have hb9 : zB (zcand (v 3) (v 4) (v 9) (f 2) (f 3) (f 1) (zrun (zG v f) (v 3) j) j) L j (L (j + 1) + 1) (zS0 F S j) (L (j + 1) + 1) (-1) x_76 := by rw [hx9]; exact zB_nil (fun w l c => q_82 c.1)
            refine lv_iinc (v := nI (j) - nI 1) (lv' := [(5, .int (nI (j) - nI 1)), (3, .int (nI (zrun (zG v f) (v 3) j))), (4, .int (nI (zsure (zG v f) (v 3) j))), (0, .ref (a 7)), (1, .ref (a 1)), (2, .ref (a 4))]) hx hb d_Plan_make_99 hl (k := 0) rfl (zz_dec _) (by decide) rfl (fun ls hl => ?_)
            refine lv_goto (tgt := 44) hx hb d_Plan_make_102 (by decide) ?_
            exact ih_loop j (va_up L j (L (j + 1) + 1)) (va_up S j x_76) (va_up F j (-1)) (by omega) (by omega) (zinv_step (fun w q => (iw w q).1) hinv (by omega) hb9 (va_up_self _ _ _) (fun q hq => va_up_ne _ _ hq) (va_up_self _ _ _) (fun q hq => va_up_ne _ _ hq) (va_up_self _ _ _) (fun q hq => va_up_ne _ _ hq)) (by omega) H locs hP hD hS ls (lv_sub hl [0, 1, 2, 3, 4, 5] rfl)
  exact loop (v 3 + 1) (v 3) (va_up (f 4) (v 3) 0) (va_up (f 5) (v 3) 0) (va_up (w 0) (v 3) (-2)) i4 (Nat.le_refl _) (zinv_0 (va_up_self _ _ _) (va_up_self _ _ _)) (by omega) H locs hP hD hS ls (by rw [zrun_n, zsure_n]; exact lv_sub hl [0, 2, 1, 3, 4, 5] rfl)
theorem zw_v2 (a : Nat → Nat) (cI cZ : ClassId) (v : Nat → Nat) (f : Nat → Nat → Nat) (w : Nat → Nat → Int32) (h : v 2 = 0) : wC a cI cZ v f w = wC a cI cZ (zu v 2 0) f w := by
  have e : zu v 2 0 = v := by
    funext j
    unfold zu
    cases hb : Nat.beq j 2 with
    | true => rw [Nat.eq_of_beq_eq_true hb, h]; rfl
    | false => rfl
  rw [e]
set_option maxHeartbeats 4000000 in
set_option maxRecDepth 100000 in
theorem c_Cut_renewPlan (l : Launch) (dC : Nat → ClassId) (dI : Nat → Nat → Nat) (a : Nat → Nat) (cI cZ : ClassId) (v : Nat → Nat) (f : Nat → Nat → Nat) (w : Nat → Nat → Int32) (sz : Nat) (hI : zI v f) (hC : v 2 = 0 → zCP v f (f 4) (f 5) (w 0)) : Met l y_Cut_renewPlan (zw_Cut_renewPlan :: zW) ({ frames := 3, cells := 0, slots := 0, locals := 84 }) (va_Pc [.ref (a 0)] (fun U => U.heap.size = sz ∧ va_P (dC, dI) vwCl (wC a cI cZ v f w) U.heap ∧ va_K (dC, dI) vwCl [(cI, .int), (cZ, .boolean)] U ∧ va_D (fun _ => True) (wC a cI cZ v f w))) (va_Qv (fun (u : (Nat → Nat) × (Nat → Nat) × (Nat → Int32)) => zCP v f u.1 u.2.1 u.2.2) (fun (u : (Nat → Nat) × (Nat → Nat) × (Nat → Int32)) t => match u with | (L, S, F) => va_P (dC, dI) vwCl (wC a cI cZ (zu v 2 (0)) (zu (zu f 4 (L)) 5 (S)) (zu w 0 (F))) t.heap ∧ va_K (dC, dI) vwCl [(cI, .int), (cZ, .boolean)] t ∧ va_D (va_A (wC a cI cZ v f w) sz) (wC a cI cZ (zu v 2 (0)) (zu (zu f 4 (L)) 5 (S)) (zu w 0 (F)))) (va_A (wC a cI cZ v f w) sz)) 0 0 (va_A (wC a cI cZ v f w) sz) := by
  refine Met.ofW (cc := prog_1_method_17_code) (maxL := 1) (ret := none) (by decide) rfl ?_
  intro p e s m args below meth c s₁ B hml hv
  obtain ⟨rfl, hsz, hP, hK, hD0⟩ := hv
  have hx := B.exec
  have hb := B.bytes
  have hr := B.returns
  have hz : ∀ w ∈ zW, w.before ([.ref (a 0)]).toArray s = true := fun w h => atoms_spec (ws := (zw_Cut_renewPlan :: zW)) B.pre w (List.mem_cons_of_mem _ h)
  have hown : s.vm.findClass "CutLengths" = some m.cls := findClass_of_methodNamed B.named
  have hlocks := B.notSynchronized
  subst hsz
  have hD := hD0.self (sz := s.heap.size)
  generalize hAe : va_A (wC a cI cZ v f w) s.heap.size = A at hD ⊢
  have hA : ∀ q : Nat, s.heap.size ≤ q → A q := fun q h => by rw [← hAe]; exact Or.inr h
  have hS : va_S A s.heap s.heap [] := va_S.rf
  have hP : va_P (dC, dI) vwCl (wC a cI cZ v f w) s.heap := hP
  obtain ⟨i3, i4, i5, i6, i7, i8, i9, i10, i2, i0, i1, iw, ib, ic, isl⟩ := id hI
  have hl := lv_entry ([.ref (a 0)]) (n := 1) (Nat.le_of_ble_eq_true rfl)
  rw [lg_entry_eq]
  generalize (lg_sl ([.ref (a 0)]) ++ List.replicate (1 - (lg_sl ([.ref (a 0)])).length) Slot.unset).toArray = ls at hl ⊢
  have hl : lv_has ls 1 [(0, .ref (a 0))] := hl
  refine lv_aload_n hx hb d_Cut_renewPlan_0 rfl (lv_at hl 0 rfl) ?_
  refine va_get (D := (dC, dI)) (ci := 0) (v := .int (nI (v 2))) (C := "CutLengths") (T := T_Cut) (N := 7) hx hb hz i_Cut hown hK hP 0 rfl rfl 6 (by decide) (hz _ tw_148) (fun _ h9 => h9) rfl d_Cut_renewPlan_1 ?_
  refine lv_if_eq (tgt := 27) hx hb d_Cut_renewPlan_4 (by decide) (fun c_4 => ?_) (fun c_4 => ?_)
  · have c_4 : ((v 2 : Nat) : Int) = (0 : Int) := (zz_eq (nI_toInt (by omega)) ((by decide))).mp c_4
    rw [zw_v2 a cI cZ v f w (by omega)] at hP hD
    exact W.vret hx hb hr (fun t9 ht hW => ⟨⟨(f 4, f 5, w 0), rfl, (hC (by omega)), by rw [ht]; exact hP, va_K.moved hW.alike hK, hD⟩, hS.F ht⟩) hS.2.2 d_Cut_renewPlan_27
  · have c_4 : ¬ (((v 2 : Nat) : Int) = (0 : Int)) := fun q => c_4 ((zz_eq (nI_toInt (by omega)) ((by decide))).mpr q)
    refine lv_aload_n hx hb d_Cut_renewPlan_7 rfl (lv_at hl 0 rfl) ?_
    refine va_get (D := (dC, dI)) (ci := 0) (v := .ref (a 7)) (C := "CutLengths") (T := T_Cut) (N := 7) hx hb hz i_Cut hown hK hP 0 rfl rfl 2 (by decide) (hz _ tw_144) (fun _ h9 => h9) rfl d_Cut_renewPlan_8 ?_
    refine lv_aload_n hx hb d_Cut_renewPlan_11 rfl (lv_at hl 0 rfl) ?_
    refine va_get (D := (dC, dI)) (ci := 0) (v := .ref (a 1)) (C := "CutLengths") (T := T_Cut) (N := 7) hx hb hz i_Cut hown hK hP 0 rfl rfl 0 (by decide) (hz _ tw_142) (fun _ h9 => h9) rfl d_Cut_renewPlan_12 ?_
    refine lv_aload_n hx hb d_Cut_renewPlan_15 rfl (lv_at hl 0 rfl) ?_
    refine va_get (D := (dC, dI)) (ci := 0) (v := .ref (a 4)) (C := "CutLengths") (T := T_Cut) (N := 7) hx hb hz i_Cut hown hK hP 0 rfl rfl 1 (by decide) (hz _ tw_143) (fun _ h9 => h9) rfl d_Cut_renewPlan_16 ?_
    have hFc := va_free (wc := (wC a cI cZ v f w)) hD hS hA [0, 1, 2, 3, 4, 5, 6, 7, 8, 9, 10, 11, 12, 13, 14] rfl
    refine va_callv (va_runV (As := [.ref (a 1), .ref (a 4)]) (rest := []) ⟨hx, hb, hml, hown, hz⟩ (c_Plan_make l dC dI a cI cZ v f w (s.heap).size hI) (cwV (C := "CutLengths$Plan") 2 hz (zgV tw_172 tw_173 tw_174 tw_18 tw_175) rfl rfl rfl (by decide +kernel) ⟨Nat.le_of_ble_eq_true rfl, Nat.le_of_ble_eq_true rfl⟩) ⟨(fun a U g mk q => by obtain ⟨q0, q1, qP, qK, qD⟩ := q; exact ⟨q0, q1, qP, va_K.moved (u := U) (U := U.calling g mk a) (Vm.Alike.refl U.vm) qK, qD⟩), va_recv hK hP (ci := 3) (q0 := 7) rfl rfl, fun U hU hW => ⟨rfl, by rw [hU], by rw [hU]; exact hP, va_K.moved hW.alike hK, hD.weaken (fun _ _ _ _ => trivial)⟩⟩ rfl rfl hl.1 rfl (lv_room (Nat.le_of_ble_eq_true rfl)) d_Cut_renewPlan_19 ⟨Nat.zero_le _, Nat.zero_le _⟩) hS (fun q _ h => hFc q h) hFc (fun u9 t9 H1 locs ht hvm hw hB hz1 hk1 hS => ?_)
    obtain ⟨L_19, S_19, F_19⟩ := u9
    obtain ⟨hP1, hK1, hD1⟩ := hB
    rw [ht] at hP1
    obtain ⟨hP, hD⟩ := va_join (wr := []) (w1 := (wC a cI cZ v (zu (zu f 4 (L_19)) 5 (S_19)) (zu w 0 (F_19)))) hP hD [0, 1, 2, 3, 4, 5, 6, 7, 8, 9, 10, 11, 12, 13, 14] [] rfl rfl (by decide) (by decide) hk1 hFc hP1 hD1
    generalize H1 = H at hP hS ⊢
    have hP : va_P (dC, dI) vwCl (wC a cI cZ v (zu (zu f 4 (L_19)) 5 (S_19)) (zu w 0 (F_19))) H := hP
    have hD : va_D A (wC a cI cZ v (zu (zu f 4 (L_19)) 5 (S_19)) (zu w 0 (F_19))) := hD
    refine lv_aload_n hx hb d_Cut_renewPlan_22 rfl (lv_at hl 0 rfl) ?_
    refine lv_iconst (v := nI (0)) hx hb d_Cut_renewPlan_23 (by decide) ?_
    refine va_put (D := (dC, dI)) (ci := 0) (v := .int (nI (0))) (ty := .boolean) (C := "CutLengths") (T := T_Cut) (N := 7) hx hb hz i_Cut t_Cut t_Cut_ok n_Cut hown hK hP hD hS 0 rfl rfl 6 (by decide) (hz _ tw_148) (fun _ h9 => h9) rfl (by decide +kernel) rfl rfl (Nat.le_of_ble_eq_true rfl) d_Cut_renewPlan_24 (fun H locs hP hD hS => ?_)
    have hP : va_P (dC, dI) vwCl (wC a cI cZ (zu v 2 (0)) (zu (zu f 4 (L_19)) 5 (S_19)) (zu w 0 (F_19))) H := hP
    have hD : va_D A (wC a cI cZ (zu v 2 (0)) (zu (zu f 4 (L_19)) 5 (S_19)) (zu w 0 (F_19))) := hD
    exact W.vret hx hb hr (fun t9 ht hW => ⟨⟨(L_19, S_19, F_19), rfl, hw, by rw [ht]; exact hP, va_K.moved hW.alike hK, hD⟩, hS.F ht⟩) hS.2.2 d_Cut_renewPlan_27
end
section
/-! WHAT A THROW NEEDS (words that are not good, texts), and the codes of refusal (written by wip/whole/mk_class.py) -/
def zNG : List Cond := [Cond.declares ⟨"java/lang/RuntimeException", "<init>", "(Ljava/lang/String;)V"⟩, Cond.declares ⟨"java/lang/Exception", "<init>", "(Ljava/lang/String;)V"⟩, Cond.declares ⟨"java/lang/Throwable", "<init>", "(Ljava/lang/String;)V"⟩, Cond.castable "java/lang/IllegalStateException" "java/lang/IllegalStateException", Cond.castable "java/lang/IllegalArgumentException" "java/lang/IllegalArgumentException", Cond.castable "java/lang/UnsupportedOperationException" "java/lang/UnsupportedOperationException", Cond.castable "java/lang/IndexOutOfBoundsException" "java/lang/IndexOutOfBoundsException"]
def zStrs : List (Nat × String) := [(53, "something was cut"), (66, "no such step or kilos"), (69, "steps below 0"), (76, "the strand would be too long"), (80, "no more wanted lengths"), (86, "no such span"), (94, "no such wanted length"), (97, "no such trims"), (108, "no more bad parts"), (113, "no such steps"), (122, "no more bars"), (124, "no such places"), (143, "no such part or what"), (159, "nothing is ahead of the torch"), (161, "no more slabs"), (169, "no such slab or what"), (176, "no such slab")]
def zNcs : List (String × String) := [("java/lang/IllegalArgumentException", "java/lang/IllegalStateException"), ("java/lang/UnsupportedOperationException", "java/lang/IllegalArgumentException"), ("java/lang/IllegalArgumentException", "java/lang/IndexOutOfBoundsException"), ("java/lang/UnsupportedOperationException", "java/lang/IllegalStateException")]
def zTx (U : State) : Prop := (∀ w ∈ zNG, va_Nw w U) ∧ (∀ x ∈ zStrs, ∃ q, vk_R "CutLengths" x.1 x.2 q U) ∧ ∀ x ∈ zNcs, va_Nc x.1 x.2 U
theorem zNG_on : ∀ w ∈ zNG, w.onTables = true := by decide +kernel
theorem zTx.same {u U : State} (hv : u.vm = U.vm) (h : zTx u) : zTx U :=
  ⟨fun w hw => va_Nw.same (zNG_on w hw) hv (h.1 w hw), fun x hx => (h.2.1 x hx).elim fun q hq => ⟨q, vk_R.same hv.symm hq⟩, fun x hx => by
    obtain ⟨c, t, h1, h2, h3⟩ := h.2.2 x hx
    exact ⟨c, t, by rw [← hv]; exact h1, by rw [← hv]; exact h2, by rw [← hv]; exact h3⟩⟩
theorem zTx.warm {s U : State} (hW : s.WarmedH U.vm) (h : zTx s) : zTx U := by
  refine ⟨?_, fun x hx => (h.2.1 x hx).elim fun q hq => ⟨q, vk_R.warm hW hq⟩, fun x hx => va_Nc.moved hW.alike (h.2.2 x hx)⟩
  have h1 := h.1
  unfold zNG at h1 ⊢
  simp only [List.forall_mem_cons] at h1 ⊢
  obtain ⟨a1, a2, a3, a4, a5, a6, a7, -⟩ := h1
  exact ⟨a1.warmD hW, a2.warmD hW, a3.warmD hW, a4.warmC hW, a5.warmC hW, a6.warmC hW, a7.warmC hW, fun _ h => absurd h List.not_mem_nil⟩
/-- the statics that a throw reads, the words, the texts -/
def zX (A : Nat → Prop) (U : State) (H : Heap) : Prop := vx_Zq Bundle.tN "UNASSIGNED_STACK" Bundle.steD A U H ∧ vx_Zq Bundle.tN "SUPPRESSED_SENTINEL" Bundle.listD A U H ∧ zTx U
theorem zX.call {A : Nat → Prop} {U : State} {g : JFrame} {mk : MethodId} {a : Array Value} (h : zX A U U.heap) : zX A (U.calling g mk a) (U.calling g mk a).heap :=
  ⟨vx_Zq.moved (u := U) (U := U.calling g mk a) (Vm.Alike.refl U.vm) h.1, vx_Zq.moved (u := U) (U := U.calling g mk a) (Vm.Alike.refl U.vm) h.2.1, zTx.same (u := U) (U := U.calling g mk a) rfl h.2.2⟩
theorem zX.go {A A1 : Nat → Prop} {s U : State} {H : Heap} {locs : List Loc} (h : zX A s s.heap) (hS : va_S A s.heap H locs) (hU : U.heap = H) (hW : s.WarmedH U.vm) (hA : ∀ q, A1 q → A q) : zX A1 U U.heap := by
  refine ⟨?_, ?_, h.2.2.warm hW⟩
  · rw [hU]; exact ((h.1.kept (fun a h1 h2 => hS.2.1 a h1 h2)).moved hW.alike).narrow hA
  · rw [hU]; exact ((h.2.1.kept (fun a h1 h2 => hS.2.1 a h1 h2)).moved hW.alike).narrow hA
theorem zNG_use {args : Array Value} {s : State} (h : zTx s) : ∀ w ∈ zNG, w.before args s = true := fun w hw => va_Nw.use (zNG_on w hw) (h.1 w hw)
set_option maxRecDepth 100000 in
theorem zth_ISE : ∀ w ∈ (vx_atS "CutLengths" 55 "java/lang/IllegalStateException" ["java/lang/RuntimeException", "java/lang/Exception"]).filter goodWord, w ∈ lw_tbl := by decide +kernel
set_option maxRecDepth 100000 in
theorem zhat_ISE {args : Array Value} {s : State} (hz : ∀ w ∈ zW, w.before args s = true) (hT : zTx s) : ∀ w ∈ vx_atS "CutLengths" 55 "java/lang/IllegalStateException" ["java/lang/RuntimeException", "java/lang/Exception"], w.before args s = true :=
  vx_hat (B := zNG) (fun w h => hz w (List.mem_filter.mpr ⟨zth_ISE w h, (List.mem_filter.mp h).2⟩)) (by decide +kernel) (zNG_use hT)
set_option maxRecDepth 100000 in
theorem zgd_ISE : ∀ w ∈ Cond.classLink "CutLengths" 51 "java/lang/IllegalStateException" :: Cond.initialized "java/lang/IllegalStateException" :: vx_atS "CutLengths" 55 "java/lang/IllegalStateException" ["java/lang/RuntimeException", "java/lang/Exception"], vx_ot w = true := by decide +kernel
set_option maxRecDepth 100000 in
theorem zth_IAE : ∀ w ∈ (vx_atS "CutLengths" 68 "java/lang/IllegalArgumentException" ["java/lang/RuntimeException", "java/lang/Exception"]).filter goodWord, w ∈ lw_tbl := by decide +kernel
set_option maxRecDepth 100000 in
theorem zhat_IAE {args : Array Value} {s : State} (hz : ∀ w ∈ zW, w.before args s = true) (hT : zTx s) : ∀ w ∈ vx_atS "CutLengths" 68 "java/lang/IllegalArgumentException" ["java/lang/RuntimeException", "java/lang/Exception"], w.before args s = true :=
  vx_hat (B := zNG) (fun w h => hz w (List.mem_filter.mpr ⟨zth_IAE w h, (List.mem_filter.mp h).2⟩)) (by decide +kernel) (zNG_use hT)
set_option maxRecDepth 100000 in
theorem zgd_IAE : ∀ w ∈ Cond.classLink "CutLengths" 64 "java/lang/IllegalArgumentException" :: Cond.initialized "java/lang/IllegalArgumentException" :: vx_atS "CutLengths" 68 "java/lang/IllegalArgumentException" ["java/lang/RuntimeException", "java/lang/Exception"], vx_ot w = true := by decide +kernel
set_option maxRecDepth 100000 in
theorem zth_UOE : ∀ w ∈ (vx_atS "CutLengths" 78 "java/lang/UnsupportedOperationException" ["java/lang/RuntimeException", "java/lang/Exception"]).filter goodWord, w ∈ lw_tbl := by decide +kernel
set_option maxRecDepth 100000 in
theorem zhat_UOE {args : Array Value} {s : State} (hz : ∀ w ∈ zW, w.before args s = true) (hT : zTx s) : ∀ w ∈ vx_atS "CutLengths" 78 "java/lang/UnsupportedOperationException" ["java/lang/RuntimeException", "java/lang/Exception"], w.before args s = true :=
  vx_hat (B := zNG) (fun w h => hz w (List.mem_filter.mpr ⟨zth_UOE w h, (List.mem_filter.mp h).2⟩)) (by decide +kernel) (zNG_use hT)
set_option maxRecDepth 100000 in
theorem zgd_UOE : ∀ w ∈ Cond.classLink "CutLengths" 74 "java/lang/UnsupportedOperationException" :: Cond.initialized "java/lang/UnsupportedOperationException" :: vx_atS "CutLengths" 78 "java/lang/UnsupportedOperationException" ["java/lang/RuntimeException", "java/lang/Exception"], vx_ot w = true := by decide +kernel
set_option maxRecDepth 100000 in
theorem zth_IOB : ∀ w ∈ (vx_atS "CutLengths" 96 "java/lang/IndexOutOfBoundsException" ["java/lang/RuntimeException", "java/lang/Exception"]).filter goodWord, w ∈ lw_tbl := by decide +kernel
set_option maxRecDepth 100000 in
theorem zhat_IOB {args : Array Value} {s : State} (hz : ∀ w ∈ zW, w.before args s = true) (hT : zTx s) : ∀ w ∈ vx_atS "CutLengths" 96 "java/lang/IndexOutOfBoundsException" ["java/lang/RuntimeException", "java/lang/Exception"], w.before args s = true :=
  vx_hat (B := zNG) (fun w h => hz w (List.mem_filter.mpr ⟨zth_IOB w h, (List.mem_filter.mp h).2⟩)) (by decide +kernel) (zNG_use hT)
set_option maxRecDepth 100000 in
theorem zgd_IOB : ∀ w ∈ Cond.classLink "CutLengths" 92 "java/lang/IndexOutOfBoundsException" :: Cond.initialized "java/lang/IndexOutOfBoundsException" :: vx_atS "CutLengths" 96 "java/lang/IndexOutOfBoundsException" ["java/lang/RuntimeException", "java/lang/Exception"], vx_ot w = true := by decide +kernel
theorem zz_nat {x : Int32} {z : Int} (hz : x.toInt = z) (h : 0 ≤ z) : x = nI z.toNat := by
  have h1 := Int32.toInt_lt x
  have h2 : z.toNat < 2 ^ 31 := by omega
  exact Int32.toInt_inj.mp (by rw [nI_toInt h2, hz]; omega)
def k_step (s : Nat) (z0 z1 : Int) : Nat := if 0 < s then 1 else if z0 < 1 ∨ 65536 < z0 ∨ z1 < 1 ∨ 100000 < z1 then 2 else 0
def k_cast (n : Nat) (z0 : Int) : Nat := if z0 < 0 then 1 else if (300 : Int) - (n : Nat) < z0 then 2 else 0
def k_want (c : Nat) (z0 z1 : Int) : Nat := if 6 ≤ c then 1 else if ¬ (1 ≤ z0 ∧ z0 ≤ z1 ∧ z1 ≤ 60) then 2 else 0
def k_span (c : Nat) (z0 z1 z2 : Int) : Nat := if ¬ (0 ≤ z0 ∧ z0 < (c : Nat)) then 1 else if ¬ (1 ≤ z1 ∧ z1 ≤ z2 ∧ z2 ≤ 60) then 2 else 0
def k_trim (z0 z1 : Int) : Nat := if z0 < 0 ∨ 300 < z0 ∨ z1 < 0 ∨ 300 < z1 then 1 else 0
def k_bad (c : Nat) (z0 z1 : Int) : Nat := if 20 ≤ c then 1 else if ¬ (0 ≤ z0 ∧ z0 ≤ z1 ∧ z1 ≤ 300) then 2 else 0
def k_part (z0 z1 : Int) : Nat := if z0 < 0 ∨ ¬ (0 ≤ z1 ∧ z1 ≤ 2) then 1 else 0
def k_cut (t n s : Nat) : Nat := if n ≤ t then 1 else if 100 ≤ s then 2 else 0
def k_slab (s : Nat) (z0 z1 : Int) : Nat := if ¬ (0 ≤ z0 ∧ z0 < (s : Nat)) ∨ ¬ (0 ≤ z1 ∧ z1 ≤ 2) then 1 else 0
def k_weight (s : Nat) (z0 : Int) : Nat := if ¬ (0 ≤ z0 ∧ z0 < (s : Nat)) then 1 else 0
def k_count (c : Nat) (z0 : Int) : Nat := if z0 < -1 ∨ ((c : Nat) : Int) ≤ z0 then 1 else 0
end
section
/-! THE PUBLIC METHODS of the class (rows written by wip/whole/mk_class.py) -/
/-- each part of the plan has a step at least, and ends at the strand's end at the latest -/
theorem zCP_E {v : Nat → Nat} {f : Nat → Nat → Nat} {L S : Nat → Nat} {F : Nat → Int32} (hI : zI v f) (h : zCP v f L S F) : ∀ k p, k = v 3 - p → v 4 ≤ p → p < v 3 → p < p + S p ∧ p + S p ≤ v 3 := by
  obtain ⟨i3, i4, i5, i6, i7, i8, i9, i10, i2, i0, i1, iw, ib, ic, isl⟩ := hI
  intro k
  induction k with
  | zero => intro p hk h1 h2; omega
  | succ k ih =>
    intro p hk h1 h2
    rcases h.2.2.1 p h1 h2 with ⟨-, q2, -, -⟩ | ⟨w0, l0, -, c, -, q3, -⟩
    · rw [q2]
      unfold zS0
      split
      · rename_i e
        have hn : p + 1 ≠ v 3 := fun q => by
          rw [q, h.2.1] at e
          exact absurd e (by decide)
        have := ih (p + 1) (by omega) (by omega) (by omega)
        omega
      · omega
    · have h3 := zrun_le (G := zG v f) (n := v 3) (p := p)
      have h4 := (iw w0 c.2.1).1
      have h5 := c.2.2.1
      have h6 := c.2.2.2.2.1
      rw [q3]
      omega
/-- the answer of part -/
def zpart (n t : Nat) (S : Nat → Nat) (F : Nat → Int32) (i : Nat) (z1 : Int) : Int32 := if zit (fun p => p + S p) n (min i 300) t < n then (if z1 = 0 then F (zit (fun p => p + S p) n (min i 300) t) else if z1 = 1 then nI (zit (fun p => p + S p) n (min i 300) t) else nI (S (zit (fun p => p + S p) n (min i 300) t))) else -2
set_option maxHeartbeats 4000000 in
set_option maxRecDepth 100000 in
theorem c_Cut_step (l : Launch) (hl9 : l.stackTraces = false) (dC : Nat → ClassId) (dI : Nat → Nat → Nat) (a : Nat → Nat) (cI cZ : ClassId) (v : Nat → Nat) (f : Nat → Nat → Nat) (w : Nat → Nat → Int32) (sz : Nat) (p0 : Int32) (z0 : Int) (h0 : p0.toInt = z0) (p1 : Int32) (z1 : Int) (h1 : p1.toInt = z1) (hI : zI v f) : vx_Met l y_Cut_step (zw_Cut_step :: zW) ({ frames := 6, cells := 1, slots := 6, locals := 90 }) (va_Pc [.ref (a 0), .int (p0), .int (p1)] (fun U => U.heap.size = sz ∧ va_P (dC, dI) vwCl (wC a cI cZ v f w) U.heap ∧ va_K (dC, dI) vwCl [(cI, .int), (cZ, .boolean)] U ∧ va_D (fun _ => True) (wC a cI cZ v f w) ∧ zX (va_A (wC a cI cZ v f w) sz) U U.heap)) (va_Qv (fun (u : Unit) => k_step (v 10) z0 z1 = 0) (fun (_ : Unit) t => va_P (dC, dI) vwCl (wC a cI cZ (zu (zu v 0 (z0.toNat)) 1 (z1.toNat)) f w) t.heap ∧ va_K (dC, dI) vwCl [(cI, .int), (cZ, .boolean)] t ∧ va_D (va_A (wC a cI cZ v f w) sz) (wC a cI cZ (zu (zu v 0 (z0.toNat)) 1 (z1.toNat)) f w)) (va_A (wC a cI cZ v f w) sz)) (vx_X (fun _ : Unit => True) (fun E _ t => ((E = "java/lang/IllegalStateException" ∧ k_step (v 10) z0 z1 = 1) ∨ (E = "java/lang/IllegalArgumentException" ∧ k_step (v 10) z0 z1 = 2)) ∧ va_P (dC, dI) vwCl (wC a cI cZ v f w) t.heap ∧ va_K (dC, dI) vwCl [(cI, .int), (cZ, .boolean)] t ∧ va_D (va_A (wC a cI cZ v f w) sz) (wC a cI cZ v f w)) (va_A (wC a cI cZ v f w) sz)) 1 6 (va_A (wC a cI cZ v f w) sz) := by
  refine vx_ofW (cc := prog_1_method_2_code) (maxL := 3) (ret := none) (by decide) rfl ?_
  intro p e s m args below meth c s₁ B hml hno hv
  obtain ⟨rfl, hsz, hP, hK, hD0, hX9⟩ := hv
  have hx := B.exec
  have hb := B.bytes
  have hr := B.returns
  have hz : ∀ w ∈ zW, w.before ([.ref (a 0), .int (p0), .int (p1)]).toArray s = true := fun w h => atoms_spec (ws := (zw_Cut_step :: zW)) B.pre w (List.mem_cons_of_mem _ h)
  have hown : s.vm.findClass "CutLengths" = some m.cls := findClass_of_methodNamed B.named
  have hlocks := B.notSynchronized
  subst hsz
  have hD := hD0.self (sz := s.heap.size)
  generalize hAe : va_A (wC a cI cZ v f w) s.heap.size = A at hD hX9 ⊢
  have hA : ∀ q : Nat, s.heap.size ≤ q → A q := fun q h => by rw [← hAe]; exact Or.inr h
  have hS : va_S A s.heap s.heap [] := va_S.rf
  have hP : va_P (dC, dI) vwCl (wC a cI cZ v f w) s.heap := hP
  obtain ⟨hU9, hN9, hT9⟩ := hX9
  obtain ⟨i3, i4, i5, i6, i7, i8, i9, i10, i2, i0, i1, iw, ib, ic, isl⟩ := id hI
  have hl := lv_entry ([.ref (a 0), .int (p0), .int (p1)]) (n := 3) (Nat.le_of_ble_eq_true rfl)
  rw [lg_entry_eq]
  generalize (lg_sl ([.ref (a 0), .int (p0), .int (p1)]) ++ List.replicate (3 - (lg_sl ([.ref (a 0), .int (p0), .int (p1)])).length) Slot.unset).toArray = ls at hl ⊢
  have hl : lv_has ls 3 [(0, .ref (a 0)), (1, .int (p0)), (2, .int (p1))] := hl
  refine lv_aload_n hx hb d_Cut_step_0 rfl (lv_at hl 0 rfl) ?_
  refine va_get (D := (dC, dI)) (ci := 0) (v := .ref (a 11)) (C := "CutLengths") (T := T_Cut) (N := 7) hx hb hz i_Cut hown hK hP 0 rfl rfl 3 (by decide) (hz _ tw_145) (fun _ h9 => h9) rfl d_Cut_step_1 ?_
  refine va_get (D := (dC, dI)) (ci := 4) (v := .int (nI (v 10))) (C := "CutLengths$Slabs") (T := T_Slabs) (N := 4) hx hb hz i_Slabs hown hK hP 11 rfl rfl 0 (by decide) (hz _ tw_126) (fun _ h9 => h9) rfl d_Cut_step_4 ?_
  refine lv_if_le (tgt := 20) hx hb d_Cut_step_7 (by decide) (fun c_7 => ?_) (fun c_7 => ?_)
  · have c_7 : ((v 10 : Nat) : Int) ≤ (0 : Int) := (zz_le (nI_toInt (by omega)) ((by decide))).mp c_7
    refine lv_iload_n hx hb d_Cut_step_20 rfl (lv_at hl 1 rfl) ?_
    refine lv_iconst (v := nI (1)) hx hb d_Cut_step_21 (by decide) ?_
    refine lv_ldc (v := nI (65536)) hx hb hown (hz _ tw_289) d_Cut_step_22 ?_
    refine zz_ro (va_runS (As := [.int (p0), .int (nI (1)), .int (nI (65536))]) (rest := []) ⟨hx, hb, hml, hown, hz⟩ (c_Cut_isOutside l (p0) (nI (1)) (nI (65536)) (z0) ((1 : Int)) ((65536 : Int)) (h0) ((by decide)) ((by decide))) (va_cwS 3 hz (zgS tw_290 tw_291 tw_15 tw_292) rfl rfl rfl (by decide +kernel) ⟨Nat.le_of_ble_eq_true rfl, Nat.le_of_ble_eq_true rfl⟩) ⟨fun _ _ _ _ q => q, fun U hU hW => ⟨rfl, trivial⟩⟩ rfl rfl hl.1 rfl (lv_room (Nat.le_of_ble_eq_true rfl)) d_Cut_step_24 ⟨Nat.zero_le _, Nat.zero_le _⟩) ?_
    by_cases q_24 : (z0) < ((1 : Int)) ∨ ((65536 : Int)) < (z0)
    · refine zz_top (congrArg nI (if_pos q_24)) ?_
      refine lv_if_ne (tgt := 40) hx hb d_Cut_step_27 (by decide) (fun _ => ?_) (fun c9 => absurd c9 (by decide))
      obtain ⟨sa, hsa⟩ := hT9.2.1 (66, "no such step or kilos") (by decide)
      exact vx_throwS (cls := "java/lang/IllegalArgumentException") (names := ["java/lang/RuntimeException", "java/lang/Exception"]) (ik := 64) (is := 66) (ic := 68) hx hb hl9 hown (by decide) (by decide) (hz _ tw_294) (hz _ tw_25) hsa (zhat_IAE hz hT9) zgd_IAE hU9 hN9 hS (hl.1.trans hml.symm) d_Cut_step_40 d_Cut_step_43 d_Cut_step_44 d_Cut_step_46 d_Cut_step_49 (fun x hx9 => (hno x hx9).elim) (Nat.le_of_ble_eq_true rfl) (Nat.le_of_ble_eq_true rfl) (Nat.le_of_ble_eq_true rfl) (Nat.le_of_ble_eq_true rfl) hlocks (fun t9 ha hz9 hk9 => ⟨(), trivial, ⟨Or.inr ⟨rfl, (by unfold k_step; rw [if_neg (by omega), if_pos (by omega)])⟩, hP.kept (fun k q hk => hk9 q.1 (vx_lt hP hk)), va_K.moved ha hK, hD⟩, ⟨hz9, fun q h1 _ => hk9 q h1⟩⟩) hS.2.2 (Nat.le_of_ble_eq_true rfl) (Nat.le_of_ble_eq_true rfl)
    · refine zz_top (congrArg nI (if_neg q_24)) ?_
      refine lv_if_ne (tgt := 40) hx hb d_Cut_step_27 (by decide) (fun c9 => absurd c9 (by decide)) (fun _ => ?_)
      refine lv_iload_n hx hb d_Cut_step_30 rfl (lv_at hl 2 rfl) ?_
      refine lv_iconst (v := nI (1)) hx hb d_Cut_step_31 (by decide) ?_
      refine lv_ldc (v := nI (100000)) hx hb hown (hz _ tw_293) d_Cut_step_32 ?_
      refine zz_ro (va_runS (As := [.int (p1), .int (nI (1)), .int (nI (100000))]) (rest := []) ⟨hx, hb, hml, hown, hz⟩ (c_Cut_isOutside l (p1) (nI (1)) (nI (100000)) (z1) ((1 : Int)) ((100000 : Int)) (h1) ((by decide)) ((by decide))) (va_cwS 3 hz (zgS tw_290 tw_291 tw_15 tw_292) rfl rfl rfl (by decide +kernel) ⟨Nat.le_of_ble_eq_true rfl, Nat.le_of_ble_eq_true rfl⟩) ⟨fun _ _ _ _ q => q, fun U hU hW => ⟨rfl, trivial⟩⟩ rfl rfl hl.1 rfl (lv_room (Nat.le_of_ble_eq_true rfl)) d_Cut_step_34 ⟨Nat.zero_le _, Nat.zero_le _⟩) ?_
      by_cases q_34 : (z1) < ((1 : Int)) ∨ ((100000 : Int)) < (z1)
      · refine zz_top (congrArg nI (if_pos q_34)) ?_
        refine lv_if_eq (tgt := 50) hx hb d_Cut_step_37 (by decide) (fun c9 => absurd c9 (by decide)) (fun _ => ?_)
        obtain ⟨sa, hsa⟩ := hT9.2.1 (66, "no such step or kilos") (by decide)
        exact vx_throwS (cls := "java/lang/IllegalArgumentException") (names := ["java/lang/RuntimeException", "java/lang/Exception"]) (ik := 64) (is := 66) (ic := 68) hx hb hl9 hown (by decide) (by decide) (hz _ tw_294) (hz _ tw_25) hsa (zhat_IAE hz hT9) zgd_IAE hU9 hN9 hS (hl.1.trans hml.symm) d_Cut_step_40 d_Cut_step_43 d_Cut_step_44 d_Cut_step_46 d_Cut_step_49 (fun x hx9 => (hno x hx9).elim) (Nat.le_of_ble_eq_true rfl) (Nat.le_of_ble_eq_true rfl) (Nat.le_of_ble_eq_true rfl) (Nat.le_of_ble_eq_true rfl) hlocks (fun t9 ha hz9 hk9 => ⟨(), trivial, ⟨Or.inr ⟨rfl, (by unfold k_step; rw [if_neg (by omega), if_pos (by omega)])⟩, hP.kept (fun k q hk => hk9 q.1 (vx_lt hP hk)), va_K.moved ha hK, hD⟩, ⟨hz9, fun q h1 _ => hk9 q h1⟩⟩) hS.2.2 (Nat.le_of_ble_eq_true rfl) (Nat.le_of_ble_eq_true rfl)
      · refine zz_top (congrArg nI (if_neg q_34)) ?_
        refine lv_if_eq (tgt := 50) hx hb d_Cut_step_37 (by decide) (fun _ => ?_) (fun c9 => absurd c9 (by decide))
        refine lv_aload_n hx hb d_Cut_step_50 rfl (lv_at hl 0 rfl) ?_
        refine lv_iload_n hx hb d_Cut_step_51 rfl (lv_at hl 1 rfl) ?_
        refine zz_top (zz_nat h0 (by omega)) ?_
        refine va_put (D := (dC, dI)) (ci := 0) (v := .int (nI (z0.toNat))) (ty := .int) (C := "CutLengths") (T := T_Cut) (N := 7) hx hb hz i_Cut t_Cut t_Cut_ok n_Cut hown hK hP hD hS 0 rfl rfl 4 (by decide) (hz _ tw_146) (fun _ h9 => h9) rfl (by decide +kernel) rfl rfl (Nat.le_of_ble_eq_true rfl) d_Cut_step_52 (fun H locs hP hD hS => ?_)
        have hP : va_P (dC, dI) vwCl (wC a cI cZ (zu v 0 (z0.toNat)) f w) H := hP
        have hD : va_D A (wC a cI cZ (zu v 0 (z0.toNat)) f w) := hD
        refine lv_aload_n hx hb d_Cut_step_55 rfl (lv_at hl 0 rfl) ?_
        refine lv_iload_n hx hb d_Cut_step_56 rfl (lv_at hl 2 rfl) ?_
        refine zz_top (zz_nat h1 (by omega)) ?_
        refine va_put (D := (dC, dI)) (ci := 0) (v := .int (nI (z1.toNat))) (ty := .int) (C := "CutLengths") (T := T_Cut) (N := 7) hx hb hz i_Cut t_Cut t_Cut_ok n_Cut hown hK hP hD hS 0 rfl rfl 5 (by decide) (hz _ tw_147) (fun _ h9 => h9) rfl (by decide +kernel) rfl rfl (Nat.le_of_ble_eq_true rfl) d_Cut_step_57 (fun H locs hP hD hS => ?_)
        have hP : va_P (dC, dI) vwCl (wC a cI cZ (zu (zu v 0 (z0.toNat)) 1 (z1.toNat)) f w) H := hP
        have hD : va_D A (wC a cI cZ (zu (zu v 0 (z0.toNat)) 1 (z1.toNat)) f w) := hD
        refine W.widen (k := 1) (n := 6) (Nat.le_of_ble_eq_true rfl) (Nat.le_of_ble_eq_true rfl) ?_
        refine vx_ret ?_
        exact W.vret hx hb hr (fun t9 ht hW => ⟨⟨(), rfl, (by unfold k_step; rw [if_neg (by omega), if_neg (by omega)]), by rw [ht]; exact hP, va_K.moved hW.alike hK, hD⟩, hS.F ht⟩) hS.2.2 d_Cut_step_60
  · have c_7 : ¬ (((v 10 : Nat) : Int) ≤ (0 : Int)) := fun q => c_7 ((zz_le (nI_toInt (by omega)) ((by decide))).mpr q)
    obtain ⟨sa, hsa⟩ := hT9.2.1 (53, "something was cut") (by decide)
    exact vx_throwS (cls := "java/lang/IllegalStateException") (names := ["java/lang/RuntimeException", "java/lang/Exception"]) (ik := 51) (is := 53) (ic := 55) hx hb hl9 hown (by decide) (by decide) (hz _ tw_220) (hz _ tw_24) hsa (zhat_ISE hz hT9) zgd_ISE hU9 hN9 hS (hl.1.trans hml.symm) d_Cut_step_10 d_Cut_step_13 d_Cut_step_14 d_Cut_step_16 d_Cut_step_19 (fun x hx9 => (hno x hx9).elim) (Nat.le_of_ble_eq_true rfl) (Nat.le_of_ble_eq_true rfl) (Nat.le_of_ble_eq_true rfl) (Nat.le_of_ble_eq_true rfl) hlocks (fun t9 ha hz9 hk9 => ⟨(), trivial, ⟨Or.inl ⟨rfl, (by unfold k_step; rw [if_pos (by omega)])⟩, hP.kept (fun k q hk => hk9 q.1 (vx_lt hP hk)), va_K.moved ha hK, hD⟩, ⟨hz9, fun q h1 _ => hk9 q h1⟩⟩) hS.2.2 (Nat.le_of_ble_eq_true rfl) (Nat.le_of_ble_eq_true rfl)
set_option maxHeartbeats 4000000 in
set_option maxRecDepth 100000 in
theorem c_Cut_cast (l : Launch) (hl9 : l.stackTraces = false) (dC : Nat → ClassId) (dI : Nat → Nat → Nat) (a : Nat → Nat) (cI cZ : ClassId) (v : Nat → Nat) (f : Nat → Nat → Nat) (w : Nat → Nat → Int32) (sz : Nat) (p0 : Int32) (z0 : Int) (h0 : p0.toInt = z0) (hI : zI v f) : vx_Met l y_Cut_cast (zw_Cut_cast :: zW) ({ frames := 6, cells := 1, slots := 6, locals := 90 }) (va_Pc [.ref (a 0), .int (p0)] (fun U => U.heap.size = sz ∧ va_P (dC, dI) vwCl (wC a cI cZ v f w) U.heap ∧ va_K (dC, dI) vwCl [(cI, .int), (cZ, .boolean)] U ∧ va_D (fun _ => True) (wC a cI cZ v f w) ∧ zX (va_A (wC a cI cZ v f w) sz) U U.heap)) (va_Qi (fun (r : Int32) (u : Unit) => k_cast (v 3) z0 = 0 ∧ r = nI (v 3 + z0.toNat)) (fun (_ : Unit) t => va_P (dC, dI) vwCl (wC a cI cZ (zu (zu v 3 (v 3 + z0.toNat)) 2 (1)) f w) t.heap ∧ va_K (dC, dI) vwCl [(cI, .int), (cZ, .boolean)] t ∧ va_D (va_A (wC a cI cZ v f w) sz) (wC a cI cZ (zu (zu v 3 (v 3 + z0.toNat)) 2 (1)) f w)) (va_A (wC a cI cZ v f w) sz)) (vx_X (fun _ : Unit => True) (fun E _ t => ((E = "java/lang/IllegalArgumentException" ∧ k_cast (v 3) z0 = 1) ∨ (E = "java/lang/UnsupportedOperationException" ∧ k_cast (v 3) z0 = 2)) ∧ va_P (dC, dI) vwCl (wC a cI cZ v f w) t.heap ∧ va_K (dC, dI) vwCl [(cI, .int), (cZ, .boolean)] t ∧ va_D (va_A (wC a cI cZ v f w) sz) (wC a cI cZ v f w)) (va_A (wC a cI cZ v f w) sz)) 1 6 (va_A (wC a cI cZ v f w) sz) := by
  refine vx_ofW (cc := prog_1_method_3_code) (maxL := 2) (ret := (some .int)) (by decide) rfl ?_
  intro p e s m args below meth c s₁ B hml hno hv
  obtain ⟨rfl, hsz, hP, hK, hD0, hX9⟩ := hv
  have hx := B.exec
  have hb := B.bytes
  have hr := B.returns
  have hz : ∀ w ∈ zW, w.before ([.ref (a 0), .int (p0)]).toArray s = true := fun w h => atoms_spec (ws := (zw_Cut_cast :: zW)) B.pre w (List.mem_cons_of_mem _ h)
  have hown : s.vm.findClass "CutLengths" = some m.cls := findClass_of_methodNamed B.named
  have hlocks := B.notSynchronized
  subst hsz
  have hD := hD0.self (sz := s.heap.size)
  generalize hAe : va_A (wC a cI cZ v f w) s.heap.size = A at hD hX9 ⊢
  have hA : ∀ q : Nat, s.heap.size ≤ q → A q := fun q h => by rw [← hAe]; exact Or.inr h
  have hS : va_S A s.heap s.heap [] := va_S.rf
  have hP : va_P (dC, dI) vwCl (wC a cI cZ v f w) s.heap := hP
  obtain ⟨hU9, hN9, hT9⟩ := hX9
  obtain ⟨i3, i4, i5, i6, i7, i8, i9, i10, i2, i0, i1, iw, ib, ic, isl⟩ := id hI
  have hl := lv_entry ([.ref (a 0), .int (p0)]) (n := 2) (Nat.le_of_ble_eq_true rfl)
  rw [lg_entry_eq]
  generalize (lg_sl ([.ref (a 0), .int (p0)]) ++ List.replicate (2 - (lg_sl ([.ref (a 0), .int (p0)])).length) Slot.unset).toArray = ls at hl ⊢
  have hl : lv_has ls 2 [(0, .ref (a 0)), (1, .int (p0))] := hl
  refine lv_iload_n hx hb d_Cut_cast_0 rfl (lv_at hl 1 rfl) ?_
  refine lv_if_ge (tgt := 14) hx hb d_Cut_cast_1 (by decide) (fun c_1 => ?_) (fun c_1 => ?_)
  · have c_1 : (0 : Int) ≤ z0 := (zz_le ((by decide)) (h0)).mp c_1
    refine lv_iload_n hx hb d_Cut_cast_14 rfl (lv_at hl 1 rfl) ?_
    refine lv_sipush (v := nI (300)) hx hb d_Cut_cast_15 (by decide) ?_
    refine lv_aload_n hx hb d_Cut_cast_18 rfl (lv_at hl 0 rfl) ?_
    refine va_get (D := (dC, dI)) (ci := 0) (v := .ref (a 1)) (C := "CutLengths") (T := T_Cut) (N := 7) hx hb hz i_Cut hown hK hP 0 rfl rfl 0 (by decide) (hz _ tw_142) (fun _ h9 => h9) rfl d_Cut_cast_19 ?_
    refine va_get (D := (dC, dI)) (ci := 1) (v := .int (nI (v 3))) (C := "CutLengths$Strand") (T := T_Strand) (N := 8) hx hb hz i_Strand hown hK hP 1 rfl rfl 0 (by decide) (hz _ tw_45) (fun _ h9 => h9) rfl d_Cut_cast_22 ?_
    refine lv_isub hx hb d_Cut_cast_25 ?_
    refine lv_icmp_le (tgt := 39) hx hb d_Cut_cast_26 (by decide) (fun c_26 => ?_) (fun c_26 => ?_)
    · have c_26 : z0 ≤ ((300 : Nat) : Int) - ((v 3 : Nat) : Int) := (zz_le (h0) (pk_sub_toInt (by omega) (by omega))).mp c_26
      refine lv_aload_n hx hb d_Cut_cast_39 rfl (lv_at hl 0 rfl) ?_
      refine va_get (D := (dC, dI)) (ci := 0) (v := .ref (a 1)) (C := "CutLengths") (T := T_Cut) (N := 7) hx hb hz i_Cut hown hK hP 0 rfl rfl 0 (by decide) (hz _ tw_142) (fun _ h9 => h9) rfl d_Cut_cast_40 ?_
      refine lv_dup hx hb d_Cut_cast_43 rfl ?_
      refine va_get (D := (dC, dI)) (ci := 1) (v := .int (nI (v 3))) (C := "CutLengths$Strand") (T := T_Strand) (N := 8) hx hb hz i_Strand hown hK hP 1 rfl rfl 0 (by decide) (hz _ tw_45) (fun _ h9 => h9) rfl d_Cut_cast_44 ?_
      refine lv_iload_n hx hb d_Cut_cast_47 rfl (lv_at hl 1 rfl) ?_
      refine zz_top (zz_nat h0 (by omega)) ?_
      refine lv_iadd hx hb d_Cut_cast_48 ?_
      refine zz_top (nI_add (v 3) (z0.toNat)) ?_
      refine va_put (D := (dC, dI)) (ci := 1) (v := .int (nI ((v 3) + z0.toNat))) (ty := .int) (C := "CutLengths$Strand") (T := T_Strand) (N := 8) hx hb hz i_Strand t_Strand t_Strand_ok n_Strand hown hK hP hD hS 1 rfl rfl 0 (by decide) (hz _ tw_45) (fun _ h9 => h9) rfl (by decide +kernel) rfl rfl (Nat.le_of_ble_eq_true rfl) d_Cut_cast_49 (fun H locs hP hD hS => ?_)
      have hP : va_P (dC, dI) vwCl (wC a cI cZ (zu v 3 ((v 3) + z0.toNat)) f w) H := hP
      have hD : va_D A (wC a cI cZ (zu v 3 ((v 3) + z0.toNat)) f w) := hD
      refine lv_aload_n hx hb d_Cut_cast_52 rfl (lv_at hl 0 rfl) ?_
      refine lv_iconst (v := nI (1)) hx hb d_Cut_cast_53 (by decide) ?_
      refine va_put (D := (dC, dI)) (ci := 0) (v := .int (nI (1))) (ty := .boolean) (C := "CutLengths") (T := T_Cut) (N := 7) hx hb hz i_Cut t_Cut t_Cut_ok n_Cut hown hK hP hD hS 0 rfl rfl 6 (by decide) (hz _ tw_148) (fun _ h9 => h9) rfl (by decide +kernel) rfl rfl (Nat.le_of_ble_eq_true rfl) d_Cut_cast_54 (fun H locs hP hD hS => ?_)
      have hP : va_P (dC, dI) vwCl (wC a cI cZ (zu (zu v 3 ((v 3) + z0.toNat)) 2 (1)) f w) H := hP
      have hD : va_D A (wC a cI cZ (zu (zu v 3 ((v 3) + z0.toNat)) 2 (1)) f w) := hD
      refine lv_aload_n hx hb d_Cut_cast_57 rfl (lv_at hl 0 rfl) ?_
      refine va_get (D := (dC, dI)) (ci := 0) (v := .ref (a 1)) (C := "CutLengths") (T := T_Cut) (N := 7) hx hb hz i_Cut hown hK hP 0 rfl rfl 0 (by decide) (hz _ tw_142) (fun _ h9 => h9) rfl d_Cut_cast_58 ?_
      refine va_get (D := (dC, dI)) (ci := 1) (v := .int (nI ((v 3) + z0.toNat))) (C := "CutLengths$Strand") (T := T_Strand) (N := 8) hx hb hz i_Strand hown hK hP 1 rfl rfl 0 (by decide) (hz _ tw_45) (fun _ h9 => h9) rfl d_Cut_cast_61 ?_
      refine W.widen (k := 1) (n := 6) (Nat.le_of_ble_eq_true rfl) (Nat.le_of_ble_eq_true rfl) ?_
      refine vx_ret ?_
      exact W.iret (v := nI ((v 3) + z0.toNat)) hx hb hr (fun t9 ht hW => ⟨⟨nI ((v 3) + z0.toNat), (), rfl, ⟨(by unfold k_cast; rw [if_neg (by omega), if_neg (by omega)]), rfl⟩, by rw [ht]; exact hP, va_K.moved hW.alike hK, hD⟩, hS.F ht⟩) hS.2.2 d_Cut_cast_64
    · have c_26 : ¬ (z0 ≤ ((300 : Nat) : Int) - ((v 3 : Nat) : Int)) := fun q => c_26 ((zz_le (h0) (pk_sub_toInt (by omega) (by omega))).mpr q)
      obtain ⟨sa, hsa⟩ := hT9.2.1 (76, "the strand would be too long") (by decide)
      exact vx_throwS (cls := "java/lang/UnsupportedOperationException") (names := ["java/lang/RuntimeException", "java/lang/Exception"]) (ik := 74) (is := 76) (ic := 78) hx hb hl9 hown (by decide) (by decide) (hz _ tw_319) (hz _ tw_26) hsa (zhat_UOE hz hT9) zgd_UOE hU9 hN9 hS (hl.1.trans hml.symm) d_Cut_cast_29 d_Cut_cast_32 d_Cut_cast_33 d_Cut_cast_35 d_Cut_cast_38 (fun x hx9 => (hno x hx9).elim) (Nat.le_of_ble_eq_true rfl) (Nat.le_of_ble_eq_true rfl) (Nat.le_of_ble_eq_true rfl) (Nat.le_of_ble_eq_true rfl) hlocks (fun t9 ha hz9 hk9 => ⟨(), trivial, ⟨Or.inr ⟨rfl, (by unfold k_cast; rw [if_neg (by omega), if_pos (by omega)])⟩, hP.kept (fun k q hk => hk9 q.1 (vx_lt hP hk)), va_K.moved ha hK, hD⟩, ⟨hz9, fun q h1 _ => hk9 q h1⟩⟩) hS.2.2 (Nat.le_of_ble_eq_true rfl) (Nat.le_of_ble_eq_true rfl)
  · have c_1 : ¬ ((0 : Int) ≤ z0) := fun q => c_1 ((zz_le ((by decide)) (h0)).mpr q)
    obtain ⟨sa, hsa⟩ := hT9.2.1 (69, "steps below 0") (by decide)
    exact vx_throwS (cls := "java/lang/IllegalArgumentException") (names := ["java/lang/RuntimeException", "java/lang/Exception"]) (ik := 64) (is := 69) (ic := 68) hx hb hl9 hown (by decide) (by decide) (hz _ tw_294) (hz _ tw_25) hsa (zhat_IAE hz hT9) zgd_IAE hU9 hN9 hS (hl.1.trans hml.symm) d_Cut_cast_4 d_Cut_cast_7 d_Cut_cast_8 d_Cut_cast_10 d_Cut_cast_13 (fun x hx9 => (hno x hx9).elim) (Nat.le_of_ble_eq_true rfl) (Nat.le_of_ble_eq_true rfl) (Nat.le_of_ble_eq_true rfl) (Nat.le_of_ble_eq_true rfl) hlocks (fun t9 ha hz9 hk9 => ⟨(), trivial, ⟨Or.inl ⟨rfl, (by unfold k_cast; rw [if_pos (by omega)])⟩, hP.kept (fun k q hk => hk9 q.1 (vx_lt hP hk)), va_K.moved ha hK, hD⟩, ⟨hz9, fun q h1 _ => hk9 q h1⟩⟩) hS.2.2 (Nat.le_of_ble_eq_true rfl) (Nat.le_of_ble_eq_true rfl)
set_option maxHeartbeats 4000000 in
set_option maxRecDepth 100000 in
theorem c_Cut_want (l : Launch) (hl9 : l.stackTraces = false) (dC : Nat → ClassId) (dI : Nat → Nat → Nat) (a : Nat → Nat) (cI cZ : ClassId) (v : Nat → Nat) (f : Nat → Nat → Nat) (w : Nat → Nat → Int32) (sz : Nat) (p0 : Int32) (z0 : Int) (h0 : p0.toInt = z0) (p1 : Int32) (z1 : Int) (h1 : p1.toInt = z1) (hI : zI v f) : vx_Met l y_Cut_want (zw_Cut_want :: zW) ({ frames := 6, cells := 1, slots := 6, locals := 90 }) (va_Pc [.ref (a 0), .int (p0), .int (p1)] (fun U => U.heap.size = sz ∧ va_P (dC, dI) vwCl (wC a cI cZ v f w) U.heap ∧ va_K (dC, dI) vwCl [(cI, .int), (cZ, .boolean)] U ∧ va_D (fun _ => True) (wC a cI cZ v f w) ∧ zX (va_A (wC a cI cZ v f w) sz) U U.heap)) (va_Qi (fun (r : Int32) (u : Unit) => k_want (v 9) z0 z1 = 0 ∧ r = nI (v 9)) (fun (_ : Unit) t => va_P (dC, dI) vwCl (wC a cI cZ (zu (zu v 9 (v 9 + 1)) 2 (1)) (zu (zu f 2 (va_up (f 2) (v 9) z0.toNat)) 3 (va_up (f 3) (v 9) z1.toNat)) w) t.heap ∧ va_K (dC, dI) vwCl [(cI, .int), (cZ, .boolean)] t ∧ va_D (va_A (wC a cI cZ v f w) sz) (wC a cI cZ (zu (zu v 9 (v 9 + 1)) 2 (1)) (zu (zu f 2 (va_up (f 2) (v 9) z0.toNat)) 3 (va_up (f 3) (v 9) z1.toNat)) w)) (va_A (wC a cI cZ v f w) sz)) (vx_X (fun _ : Unit => True) (fun E _ t => ((E = "java/lang/IllegalStateException" ∧ k_want (v 9) z0 z1 = 1) ∨ (E = "java/lang/IllegalArgumentException" ∧ k_want (v 9) z0 z1 = 2)) ∧ va_P (dC, dI) vwCl (wC a cI cZ v f w) t.heap ∧ va_K (dC, dI) vwCl [(cI, .int), (cZ, .boolean)] t ∧ va_D (va_A (wC a cI cZ v f w) sz) (wC a cI cZ v f w)) (va_A (wC a cI cZ v f w) sz)) 1 6 (va_A (wC a cI cZ v f w) sz) := by
  refine vx_ofW (cc := prog_1_method_4_code) (maxL := 4) (ret := (some .int)) (by decide) rfl ?_
  intro p e s m args below meth c s₁ B hml hno hv
  obtain ⟨rfl, hsz, hP, hK, hD0, hX9⟩ := hv
  have hx := B.exec
  have hb := B.bytes
  have hr := B.returns
  have hz : ∀ w ∈ zW, w.before ([.ref (a 0), .int (p0), .int (p1)]).toArray s = true := fun w h => atoms_spec (ws := (zw_Cut_want :: zW)) B.pre w (List.mem_cons_of_mem _ h)
  have hown : s.vm.findClass "CutLengths" = some m.cls := findClass_of_methodNamed B.named
  have hlocks := B.notSynchronized
  subst hsz
  have hD := hD0.self (sz := s.heap.size)
  generalize hAe : va_A (wC a cI cZ v f w) s.heap.size = A at hD hX9 ⊢
  have hA : ∀ q : Nat, s.heap.size ≤ q → A q := fun q h => by rw [← hAe]; exact Or.inr h
  have hS : va_S A s.heap s.heap [] := va_S.rf
  have hP : va_P (dC, dI) vwCl (wC a cI cZ v f w) s.heap := hP
  obtain ⟨hU9, hN9, hT9⟩ := hX9
  obtain ⟨i3, i4, i5, i6, i7, i8, i9, i10, i2, i0, i1, iw, ib, ic, isl⟩ := id hI
  have hl := lv_entry ([.ref (a 0), .int (p0), .int (p1)]) (n := 4) (Nat.le_of_ble_eq_true rfl)
  rw [lg_entry_eq]
  generalize (lg_sl ([.ref (a 0), .int (p0), .int (p1)]) ++ List.replicate (4 - (lg_sl ([.ref (a 0), .int (p0), .int (p1)])).length) Slot.unset).toArray = ls at hl ⊢
  have hl : lv_has ls 4 [(0, .ref (a 0)), (1, .int (p0)), (2, .int (p1))] := hl
  refine lv_aload_n hx hb d_Cut_want_0 rfl (lv_at hl 0 rfl) ?_
  refine va_get (D := (dC, dI)) (ci := 0) (v := .ref (a 4)) (C := "CutLengths") (T := T_Cut) (N := 7) hx hb hz i_Cut hown hK hP 0 rfl rfl 1 (by decide) (hz _ tw_143) (fun _ h9 => h9) rfl d_Cut_want_1 ?_
  refine va_get (D := (dC, dI)) (ci := 2) (v := .int (nI (v 9))) (C := "CutLengths$WantedLengths") (T := T_Wanted) (N := 3) hx hb hz i_Wanted hown hK hP 4 rfl rfl 0 (by decide) (hz _ tw_84) (fun _ h9 => h9) rfl d_Cut_want_4 ?_
  refine lv_bipush (v := nI (6)) hx hb d_Cut_want_7 (by decide) ?_
  refine lv_icmp_lt (tgt := 22) hx hb d_Cut_want_9 (by decide) (fun c_9 => ?_) (fun c_9 => ?_)
  · have c_9 : ((v 9 : Nat) : Int) < (6 : Int) := (zz_lt (nI_toInt (by omega)) ((by decide))).mp c_9
    refine lv_iload_n hx hb d_Cut_want_22 rfl (lv_at hl 1 rfl) ?_
    refine lv_iload_n hx hb d_Cut_want_23 rfl (lv_at hl 2 rfl) ?_
    refine zz_ro (va_runS (As := [.int (p0), .int (p1)]) (rest := []) ⟨hx, hb, hml, hown, hz⟩ (c_Cut_isSpan l (p0) (p1) (z0) (z1) (h0) (h1)) (va_cwS 2 hz (zgS tw_343 tw_344 tw_15 tw_345) rfl rfl rfl (by decide +kernel) ⟨Nat.le_of_ble_eq_true rfl, Nat.le_of_ble_eq_true rfl⟩) ⟨fun _ _ _ _ q => q, fun U hU hW => ⟨rfl, trivial⟩⟩ rfl rfl hl.1 rfl (lv_room (Nat.le_of_ble_eq_true rfl)) d_Cut_want_24 ⟨Nat.zero_le _, Nat.zero_le _⟩) ?_
    by_cases q_24 : 1 ≤ (z0) ∧ (z0) ≤ (z1) ∧ (z1) ≤ 60
    · refine zz_top (congrArg nI (if_pos q_24)) ?_
      refine lv_if_ne (tgt := 40) hx hb d_Cut_want_27 (by decide) (fun _ => ?_) (fun c9 => absurd c9 (by decide))
      refine lv_aload_n hx hb d_Cut_want_40 rfl (lv_at hl 0 rfl) ?_
      refine va_get (D := (dC, dI)) (ci := 0) (v := .ref (a 4)) (C := "CutLengths") (T := T_Cut) (N := 7) hx hb hz i_Cut hown hK hP 0 rfl rfl 1 (by decide) (hz _ tw_143) (fun _ h9 => h9) rfl d_Cut_want_41 ?_
      refine va_get (D := (dC, dI)) (ci := 2) (v := .int (nI (v 9))) (C := "CutLengths$WantedLengths") (T := T_Wanted) (N := 3) hx hb hz i_Wanted hown hK hP 4 rfl rfl 0 (by decide) (hz _ tw_84) (fun _ h9 => h9) rfl d_Cut_want_44 ?_
      refine lv_istore_n (lv' := [(3, .int (nI (v 9))), (0, .ref (a 0)), (1, .int (p0)), (2, .int (p1))]) hx hb d_Cut_want_47 rfl hl (by decide) rfl (fun ls hl => ?_)
      refine lv_aload_n hx hb d_Cut_want_48 rfl (lv_at hl 1 rfl) ?_
      refine va_get (D := (dC, dI)) (ci := 0) (v := .ref (a 4)) (C := "CutLengths") (T := T_Cut) (N := 7) hx hb hz i_Cut hown hK hP 0 rfl rfl 1 (by decide) (hz _ tw_143) (fun _ h9 => h9) rfl d_Cut_want_49 ?_
      refine lv_dup hx hb d_Cut_want_52 rfl ?_
      refine va_get (D := (dC, dI)) (ci := 2) (v := .int (nI (v 9))) (C := "CutLengths$WantedLengths") (T := T_Wanted) (N := 3) hx hb hz i_Wanted hown hK hP 4 rfl rfl 0 (by decide) (hz _ tw_84) (fun _ h9 => h9) rfl d_Cut_want_53 ?_
      refine lv_iconst (v := nI (1)) hx hb d_Cut_want_56 (by decide) ?_
      refine lv_iadd hx hb d_Cut_want_57 ?_
      refine zz_top (nI_add (v 9) (1)) ?_
      refine va_put (D := (dC, dI)) (ci := 2) (v := .int (nI ((v 9) + 1))) (ty := .int) (C := "CutLengths$WantedLengths") (T := T_Wanted) (N := 3) hx hb hz i_Wanted t_Wanted t_Wanted_ok n_Wanted hown hK hP hD hS 4 rfl rfl 0 (by decide) (hz _ tw_84) (fun _ h9 => h9) rfl (by decide +kernel) rfl rfl (Nat.le_of_ble_eq_true rfl) d_Cut_want_58 (fun H locs hP hD hS => ?_)
      have hP : va_P (dC, dI) vwCl (wC a cI cZ (zu v 9 ((v 9) + 1)) f w) H := hP
      have hD : va_D A (wC a cI cZ (zu v 9 ((v 9) + 1)) f w) := hD
      refine lv_aload_n hx hb d_Cut_want_61 rfl (lv_at hl 1 rfl) ?_
      refine lv_iload_n hx hb d_Cut_want_62 rfl (lv_at hl 0 rfl) ?_
      refine lv_iload_n hx hb d_Cut_want_63 rfl (lv_at hl 2 rfl) ?_
      refine zz_top (zz_nat h0 (by omega)) ?_
      refine lv_iload_n hx hb d_Cut_want_64 rfl (lv_at hl 3 rfl) ?_
      refine zz_top (zz_nat h1 (by omega)) ?_
      have hFc := va_free (wc := (wC a cI cZ (zu v 9 ((v 9) + 1)) f w)) hD hS hA [0, 1, 2, 3, 4, 5, 6, 7, 8, 9, 10, 11, 12, 13, 14] rfl
      refine va_callv (va_runV (As := [.int (nI (v 9)), .int (nI (z0.toNat)), .int (nI (z1.toNat))]) (rest := []) ⟨hx, hb, hml, hown, hz⟩ (c_Cut_tellSpan l dC dI a cI cZ (zu v 9 ((v 9) + 1)) f w (H).size (v 9) (z0.toNat) (z1.toNat) (by omega)) (cwV (C := "CutLengths") 3 hz (zgV tw_347 tw_349 tw_6 tw_15 tw_350) rfl rfl rfl (by decide +kernel) ⟨Nat.le_of_ble_eq_true rfl, Nat.le_of_ble_eq_true rfl⟩) ⟨(fun a U g mk q => by obtain ⟨q0, q1, qP, qK, qD⟩ := q; exact ⟨q0, q1, qP, va_K.moved (u := U) (U := U.calling g mk a) (Vm.Alike.refl U.vm) qK, qD⟩), va_recv hK hP (ci := 0) (q0 := 0) rfl rfl, fun U hU hW => ⟨rfl, by rw [hU], by rw [hU]; exact hP, va_K.moved hW.alike hK, hD.weaken (fun _ _ _ _ => trivial)⟩⟩ rfl rfl hl.1 rfl (lv_room (Nat.le_of_ble_eq_true rfl)) d_Cut_want_65 ⟨Nat.zero_le _, Nat.zero_le _⟩) hS (fun q _ h => hFc q h) hFc (fun u9 t9 H1 locs ht hvm hw hB hz1 hk1 hS => ?_)
      obtain ⟨hP1, hK1, hD1⟩ := hB
      rw [ht] at hP1
      obtain ⟨hP, hD⟩ := va_join (wr := []) (w1 := (wC a cI cZ (zu (zu v 9 ((v 9) + 1)) 2 (1)) (zu (zu f 2 (va_up (f 2) (v 9) z0.toNat)) 3 (va_up (f 3) (v 9) z1.toNat)) w)) hP hD [0, 1, 2, 3, 4, 5, 6, 7, 8, 9, 10, 11, 12, 13, 14] [] rfl rfl (by decide) (by decide) hk1 hFc hP1 hD1
      generalize H1 = H at hP hS ⊢
      have hP : va_P (dC, dI) vwCl (wC a cI cZ (zu (zu v 9 ((v 9) + 1)) 2 (1)) (zu (zu f 2 (va_up (f 2) (v 9) z0.toNat)) 3 (va_up (f 3) (v 9) z1.toNat)) w) H := hP
      have hD : va_D A (wC a cI cZ (zu (zu v 9 ((v 9) + 1)) 2 (1)) (zu (zu f 2 (va_up (f 2) (v 9) z0.toNat)) 3 (va_up (f 3) (v 9) z1.toNat)) w) := hD
      refine lv_iload_n hx hb d_Cut_want_68 rfl (lv_at hl 0 rfl) ?_
      refine W.widen (k := 1) (n := 6) (Nat.le_of_ble_eq_true rfl) (Nat.le_of_ble_eq_true rfl) ?_
      refine vx_ret ?_
      exact W.iret (v := nI (v 9)) hx hb hr (fun t9 ht hW => ⟨⟨nI (v 9), (), rfl, ⟨(by unfold k_want; rw [if_neg (by omega), if_neg (by omega)]), rfl⟩, by rw [ht]; exact hP, va_K.moved hW.alike hK, hD⟩, hS.F ht⟩) hS.2.2 d_Cut_want_69
    · refine zz_top (congrArg nI (if_neg q_24)) ?_
      refine lv_if_ne (tgt := 40) hx hb d_Cut_want_27 (by decide) (fun c9 => absurd c9 (by decide)) (fun _ => ?_)
      obtain ⟨sa, hsa⟩ := hT9.2.1 (86, "no such span") (by decide)
      exact vx_throwS (cls := "java/lang/IllegalArgumentException") (names := ["java/lang/RuntimeException", "java/lang/Exception"]) (ik := 64) (is := 86) (ic := 68) hx hb hl9 hown (by decide) (by decide) (hz _ tw_294) (hz _ tw_25) hsa (zhat_IAE hz hT9) zgd_IAE hU9 hN9 hS (hl.1.trans hml.symm) d_Cut_want_30 d_Cut_want_33 d_Cut_want_34 d_Cut_want_36 d_Cut_want_39 (fun x hx9 => (hno x hx9).elim) (Nat.le_of_ble_eq_true rfl) (Nat.le_of_ble_eq_true rfl) (Nat.le_of_ble_eq_true rfl) (Nat.le_of_ble_eq_true rfl) hlocks (fun t9 ha hz9 hk9 => ⟨(), trivial, ⟨Or.inr ⟨rfl, (by unfold k_want; rw [if_neg (by omega), if_pos (by omega)])⟩, hP.kept (fun k q hk => hk9 q.1 (vx_lt hP hk)), va_K.moved ha hK, hD⟩, ⟨hz9, fun q h1 _ => hk9 q h1⟩⟩) hS.2.2 (Nat.le_of_ble_eq_true rfl) (Nat.le_of_ble_eq_true rfl)
  · have c_9 : ¬ (((v 9 : Nat) : Int) < (6 : Int)) := fun q => c_9 ((zz_lt (nI_toInt (by omega)) ((by decide))).mpr q)
    obtain ⟨sa, hsa⟩ := hT9.2.1 (80, "no more wanted lengths") (by decide)
    exact vx_throwS (cls := "java/lang/IllegalStateException") (names := ["java/lang/RuntimeException", "java/lang/Exception"]) (ik := 51) (is := 80) (ic := 55) hx hb hl9 hown (by decide) (by decide) (hz _ tw_220) (hz _ tw_24) hsa (zhat_ISE hz hT9) zgd_ISE hU9 hN9 hS (hl.1.trans hml.symm) d_Cut_want_12 d_Cut_want_15 d_Cut_want_16 d_Cut_want_18 d_Cut_want_21 (fun x hx9 => (hno x hx9).elim) (Nat.le_of_ble_eq_true rfl) (Nat.le_of_ble_eq_true rfl) (Nat.le_of_ble_eq_true rfl) (Nat.le_of_ble_eq_true rfl) hlocks (fun t9 ha hz9 hk9 => ⟨(), trivial, ⟨Or.inl ⟨rfl, (by unfold k_want; rw [if_pos (by omega)])⟩, hP.kept (fun k q hk => hk9 q.1 (vx_lt hP hk)), va_K.moved ha hK, hD⟩, ⟨hz9, fun q h1 _ => hk9 q h1⟩⟩) hS.2.2 (Nat.le_of_ble_eq_true rfl) (Nat.le_of_ble_eq_true rfl)
set_option maxHeartbeats 4000000 in
set_option maxRecDepth 100000 in
theorem c_Cut_span (l : Launch) (hl9 : l.stackTraces = false) (dC : Nat → ClassId) (dI : Nat → Nat → Nat) (a : Nat → Nat) (cI cZ : ClassId) (v : Nat → Nat) (f : Nat → Nat → Nat) (w : Nat → Nat → Int32) (sz : Nat) (p0 : Int32) (z0 : Int) (h0 : p0.toInt = z0) (p1 : Int32) (z1 : Int) (h1 : p1.toInt = z1) (p2 : Int32) (z2 : Int) (h2 : p2.toInt = z2) (hI : zI v f) : vx_Met l y_Cut_span (zw_Cut_span :: zW) ({ frames := 6, cells := 1, slots := 6, locals := 90 }) (va_Pc [.ref (a 0), .int (p0), .int (p1), .int (p2)] (fun U => U.heap.size = sz ∧ va_P (dC, dI) vwCl (wC a cI cZ v f w) U.heap ∧ va_K (dC, dI) vwCl [(cI, .int), (cZ, .boolean)] U ∧ va_D (fun _ => True) (wC a cI cZ v f w) ∧ zX (va_A (wC a cI cZ v f w) sz) U U.heap)) (va_Qv (fun (u : Unit) => k_span (v 9) z0 z1 z2 = 0) (fun (_ : Unit) t => va_P (dC, dI) vwCl (wC a cI cZ (zu v 2 (1)) (zu (zu f 2 (va_up (f 2) z0.toNat z1.toNat)) 3 (va_up (f 3) z0.toNat z2.toNat)) w) t.heap ∧ va_K (dC, dI) vwCl [(cI, .int), (cZ, .boolean)] t ∧ va_D (va_A (wC a cI cZ v f w) sz) (wC a cI cZ (zu v 2 (1)) (zu (zu f 2 (va_up (f 2) z0.toNat z1.toNat)) 3 (va_up (f 3) z0.toNat z2.toNat)) w)) (va_A (wC a cI cZ v f w) sz)) (vx_X (fun _ : Unit => True) (fun E _ t => ((E = "java/lang/IndexOutOfBoundsException" ∧ k_span (v 9) z0 z1 z2 = 1) ∨ (E = "java/lang/IllegalArgumentException" ∧ k_span (v 9) z0 z1 z2 = 2)) ∧ va_P (dC, dI) vwCl (wC a cI cZ v f w) t.heap ∧ va_K (dC, dI) vwCl [(cI, .int), (cZ, .boolean)] t ∧ va_D (va_A (wC a cI cZ v f w) sz) (wC a cI cZ v f w)) (va_A (wC a cI cZ v f w) sz)) 1 6 (va_A (wC a cI cZ v f w) sz) := by
  refine vx_ofW (cc := prog_1_method_5_code) (maxL := 4) (ret := none) (by decide) rfl ?_
  intro p e s m args below meth c s₁ B hml hno hv
  obtain ⟨rfl, hsz, hP, hK, hD0, hX9⟩ := hv
  have hx := B.exec
  have hb := B.bytes
  have hr := B.returns
  have hz : ∀ w ∈ zW, w.before ([.ref (a 0), .int (p0), .int (p1), .int (p2)]).toArray s = true := fun w h => atoms_spec (ws := (zw_Cut_span :: zW)) B.pre w (List.mem_cons_of_mem _ h)
  have hown : s.vm.findClass "CutLengths" = some m.cls := findClass_of_methodNamed B.named
  have hlocks := B.notSynchronized
  subst hsz
  have hD := hD0.self (sz := s.heap.size)
  generalize hAe : va_A (wC a cI cZ v f w) s.heap.size = A at hD hX9 ⊢
  have hA : ∀ q : Nat, s.heap.size ≤ q → A q := fun q h => by rw [← hAe]; exact Or.inr h
  have hS : va_S A s.heap s.heap [] := va_S.rf
  have hP : va_P (dC, dI) vwCl (wC a cI cZ v f w) s.heap := hP
  obtain ⟨hU9, hN9, hT9⟩ := hX9
  obtain ⟨i3, i4, i5, i6, i7, i8, i9, i10, i2, i0, i1, iw, ib, ic, isl⟩ := id hI
  have hl := lv_entry ([.ref (a 0), .int (p0), .int (p1), .int (p2)]) (n := 4) (Nat.le_of_ble_eq_true rfl)
  rw [lg_entry_eq]
  generalize (lg_sl ([.ref (a 0), .int (p0), .int (p1), .int (p2)]) ++ List.replicate (4 - (lg_sl ([.ref (a 0), .int (p0), .int (p1), .int (p2)])).length) Slot.unset).toArray = ls at hl ⊢
  have hl : lv_has ls 4 [(0, .ref (a 0)), (1, .int (p0)), (2, .int (p1)), (3, .int (p2))] := hl
  refine lv_iload_n hx hb d_Cut_span_0 rfl (lv_at hl 1 rfl) ?_
  refine lv_if_lt (tgt := 15) hx hb d_Cut_span_1 (by decide) (fun c_1 => ?_) (fun c_1 => ?_)
  · have c_1 : z0 < (0 : Int) := (zz_lt (h0) ((by decide))).mp c_1
    obtain ⟨sa, hsa⟩ := hT9.2.1 (94, "no such wanted length") (by decide)
    exact vx_throwS (cls := "java/lang/IndexOutOfBoundsException") (names := ["java/lang/RuntimeException", "java/lang/Exception"]) (ik := 92) (is := 94) (ic := 96) hx hb hl9 hown (by decide) (by decide) (hz _ tw_359) (hz _ tw_27) hsa (zhat_IOB hz hT9) zgd_IOB hU9 hN9 hS (hl.1.trans hml.symm) d_Cut_span_15 d_Cut_span_18 d_Cut_span_19 d_Cut_span_21 d_Cut_span_24 (fun x hx9 => (hno x hx9).elim) (Nat.le_of_ble_eq_true rfl) (Nat.le_of_ble_eq_true rfl) (Nat.le_of_ble_eq_true rfl) (Nat.le_of_ble_eq_true rfl) hlocks (fun t9 ha hz9 hk9 => ⟨(), trivial, ⟨Or.inl ⟨rfl, (by unfold k_span; rw [if_pos (by omega)])⟩, hP.kept (fun k q hk => hk9 q.1 (vx_lt hP hk)), va_K.moved ha hK, hD⟩, ⟨hz9, fun q h1 _ => hk9 q h1⟩⟩) hS.2.2 (Nat.le_of_ble_eq_true rfl) (Nat.le_of_ble_eq_true rfl)
  · have c_1 : ¬ (z0 < (0 : Int)) := fun q => c_1 ((zz_lt (h0) ((by decide))).mpr q)
    refine lv_iload_n hx hb d_Cut_span_4 rfl (lv_at hl 1 rfl) ?_
    refine lv_aload_n hx hb d_Cut_span_5 rfl (lv_at hl 0 rfl) ?_
    refine va_get (D := (dC, dI)) (ci := 0) (v := .ref (a 4)) (C := "CutLengths") (T := T_Cut) (N := 7) hx hb hz i_Cut hown hK hP 0 rfl rfl 1 (by decide) (hz _ tw_143) (fun _ h9 => h9) rfl d_Cut_span_6 ?_
    refine va_get (D := (dC, dI)) (ci := 2) (v := .int (nI (v 9))) (C := "CutLengths$WantedLengths") (T := T_Wanted) (N := 3) hx hb hz i_Wanted hown hK hP 4 rfl rfl 0 (by decide) (hz _ tw_84) (fun _ h9 => h9) rfl d_Cut_span_9 ?_
    refine lv_icmp_lt (tgt := 25) hx hb d_Cut_span_12 (by decide) (fun c_12 => ?_) (fun c_12 => ?_)
    · have c_12 : z0 < ((v 9 : Nat) : Int) := (zz_lt (h0) (nI_toInt (by omega))).mp c_12
      refine lv_iload_n hx hb d_Cut_span_25 rfl (lv_at hl 2 rfl) ?_
      refine lv_iload_n hx hb d_Cut_span_26 rfl (lv_at hl 3 rfl) ?_
      refine zz_ro (va_runS (As := [.int (p1), .int (p2)]) (rest := []) ⟨hx, hb, hml, hown, hz⟩ (c_Cut_isSpan l (p1) (p2) (z1) (z2) (h1) (h2)) (va_cwS 2 hz (zgS tw_343 tw_344 tw_15 tw_345) rfl rfl rfl (by decide +kernel) ⟨Nat.le_of_ble_eq_true rfl, Nat.le_of_ble_eq_true rfl⟩) ⟨fun _ _ _ _ q => q, fun U hU hW => ⟨rfl, trivial⟩⟩ rfl rfl hl.1 rfl (lv_room (Nat.le_of_ble_eq_true rfl)) d_Cut_span_27 ⟨Nat.zero_le _, Nat.zero_le _⟩) ?_
      by_cases q_27 : 1 ≤ (z1) ∧ (z1) ≤ (z2) ∧ (z2) ≤ 60
      · refine zz_top (congrArg nI (if_pos q_27)) ?_
        refine lv_if_ne (tgt := 43) hx hb d_Cut_span_30 (by decide) (fun _ => ?_) (fun c9 => absurd c9 (by decide))
        refine lv_aload_n hx hb d_Cut_span_43 rfl (lv_at hl 0 rfl) ?_
        refine lv_iload_n hx hb d_Cut_span_44 rfl (lv_at hl 1 rfl) ?_
        refine zz_top (zz_nat h0 (by omega)) ?_
        refine lv_iload_n hx hb d_Cut_span_45 rfl (lv_at hl 2 rfl) ?_
        refine zz_top (zz_nat h1 (by omega)) ?_
        refine lv_iload_n hx hb d_Cut_span_46 rfl (lv_at hl 3 rfl) ?_
        refine zz_top (zz_nat h2 (by omega)) ?_
        have hFc := va_free (wc := (wC a cI cZ v f w)) hD hS hA [0, 1, 2, 3, 4, 5, 6, 7, 8, 9, 10, 11, 12, 13, 14] rfl
        refine va_callv (va_runV (As := [.int (nI (z0.toNat)), .int (nI (z1.toNat)), .int (nI (z2.toNat))]) (rest := []) ⟨hx, hb, hml, hown, hz⟩ (c_Cut_tellSpan l dC dI a cI cZ v f w (s.heap).size (z0.toNat) (z1.toNat) (z2.toNat) (by omega)) (cwV (C := "CutLengths") 3 hz (zgV tw_347 tw_349 tw_6 tw_15 tw_350) rfl rfl rfl (by decide +kernel) ⟨Nat.le_of_ble_eq_true rfl, Nat.le_of_ble_eq_true rfl⟩) ⟨(fun a U g mk q => by obtain ⟨q0, q1, qP, qK, qD⟩ := q; exact ⟨q0, q1, qP, va_K.moved (u := U) (U := U.calling g mk a) (Vm.Alike.refl U.vm) qK, qD⟩), va_recv hK hP (ci := 0) (q0 := 0) rfl rfl, fun U hU hW => ⟨rfl, by rw [hU], by rw [hU]; exact hP, va_K.moved hW.alike hK, hD.weaken (fun _ _ _ _ => trivial)⟩⟩ rfl rfl hl.1 rfl (lv_room (Nat.le_of_ble_eq_true rfl)) d_Cut_span_47 ⟨Nat.zero_le _, Nat.zero_le _⟩) hS (fun q _ h => hFc q h) hFc (fun u9 t9 H1 locs ht hvm hw hB hz1 hk1 hS => ?_)
        obtain ⟨hP1, hK1, hD1⟩ := hB
        rw [ht] at hP1
        obtain ⟨hP, hD⟩ := va_join (wr := []) (w1 := (wC a cI cZ (zu v 2 (1)) (zu (zu f 2 (va_up (f 2) z0.toNat z1.toNat)) 3 (va_up (f 3) z0.toNat z2.toNat)) w)) hP hD [0, 1, 2, 3, 4, 5, 6, 7, 8, 9, 10, 11, 12, 13, 14] [] rfl rfl (by decide) (by decide) hk1 hFc hP1 hD1
        generalize H1 = H at hP hS ⊢
        have hP : va_P (dC, dI) vwCl (wC a cI cZ (zu v 2 (1)) (zu (zu f 2 (va_up (f 2) z0.toNat z1.toNat)) 3 (va_up (f 3) z0.toNat z2.toNat)) w) H := hP
        have hD : va_D A (wC a cI cZ (zu v 2 (1)) (zu (zu f 2 (va_up (f 2) z0.toNat z1.toNat)) 3 (va_up (f 3) z0.toNat z2.toNat)) w) := hD
        refine W.widen (k := 1) (n := 6) (Nat.le_of_ble_eq_true rfl) (Nat.le_of_ble_eq_true rfl) ?_
        refine vx_ret ?_
        exact W.vret hx hb hr (fun t9 ht hW => ⟨⟨(), rfl, (by unfold k_span; rw [if_neg (by omega), if_neg (by omega)]), by rw [ht]; exact hP, va_K.moved hW.alike hK, hD⟩, hS.F ht⟩) hS.2.2 d_Cut_span_50
      · refine zz_top (congrArg nI (if_neg q_27)) ?_
        refine lv_if_ne (tgt := 43) hx hb d_Cut_span_30 (by decide) (fun c9 => absurd c9 (by decide)) (fun _ => ?_)
        obtain ⟨sa, hsa⟩ := hT9.2.1 (86, "no such span") (by decide)
        exact vx_throwS (cls := "java/lang/IllegalArgumentException") (names := ["java/lang/RuntimeException", "java/lang/Exception"]) (ik := 64) (is := 86) (ic := 68) hx hb hl9 hown (by decide) (by decide) (hz _ tw_294) (hz _ tw_25) hsa (zhat_IAE hz hT9) zgd_IAE hU9 hN9 hS (hl.1.trans hml.symm) d_Cut_span_33 d_Cut_span_36 d_Cut_span_37 d_Cut_span_39 d_Cut_span_42 (fun x hx9 => (hno x hx9).elim) (Nat.le_of_ble_eq_true rfl) (Nat.le_of_ble_eq_true rfl) (Nat.le_of_ble_eq_true rfl) (Nat.le_of_ble_eq_true rfl) hlocks (fun t9 ha hz9 hk9 => ⟨(), trivial, ⟨Or.inr ⟨rfl, (by unfold k_span; rw [if_neg (by omega), if_pos (by omega)])⟩, hP.kept (fun k q hk => hk9 q.1 (vx_lt hP hk)), va_K.moved ha hK, hD⟩, ⟨hz9, fun q h1 _ => hk9 q h1⟩⟩) hS.2.2 (Nat.le_of_ble_eq_true rfl) (Nat.le_of_ble_eq_true rfl)
    · have c_12 : ¬ (z0 < ((v 9 : Nat) : Int)) := fun q => c_12 ((zz_lt (h0) (nI_toInt (by omega))).mpr q)
      obtain ⟨sa, hsa⟩ := hT9.2.1 (94, "no such wanted length") (by decide)
      exact vx_throwS (cls := "java/lang/IndexOutOfBoundsException") (names := ["java/lang/RuntimeException", "java/lang/Exception"]) (ik := 92) (is := 94) (ic := 96) hx hb hl9 hown (by decide) (by decide) (hz _ tw_359) (hz _ tw_27) hsa (zhat_IOB hz hT9) zgd_IOB hU9 hN9 hS (hl.1.trans hml.symm) d_Cut_span_15 d_Cut_span_18 d_Cut_span_19 d_Cut_span_21 d_Cut_span_24 (fun x hx9 => (hno x hx9).elim) (Nat.le_of_ble_eq_true rfl) (Nat.le_of_ble_eq_true rfl) (Nat.le_of_ble_eq_true rfl) (Nat.le_of_ble_eq_true rfl) hlocks (fun t9 ha hz9 hk9 => ⟨(), trivial, ⟨Or.inl ⟨rfl, (by unfold k_span; rw [if_pos (by omega)])⟩, hP.kept (fun k q hk => hk9 q.1 (vx_lt hP hk)), va_K.moved ha hK, hD⟩, ⟨hz9, fun q h1 _ => hk9 q h1⟩⟩) hS.2.2 (Nat.le_of_ble_eq_true rfl) (Nat.le_of_ble_eq_true rfl)
set_option maxHeartbeats 4000000 in
set_option maxRecDepth 100000 in
theorem c_Cut_trim (l : Launch) (hl9 : l.stackTraces = false) (dC : Nat → ClassId) (dI : Nat → Nat → Nat) (a : Nat → Nat) (cI cZ : ClassId) (v : Nat → Nat) (f : Nat → Nat → Nat) (w : Nat → Nat → Int32) (sz : Nat) (p0 : Int32) (z0 : Int) (h0 : p0.toInt = z0) (p1 : Int32) (z1 : Int) (h1 : p1.toInt = z1) (hI : zI v f) : vx_Met l y_Cut_trim (zw_Cut_trim :: zW) ({ frames := 6, cells := 1, slots := 6, locals := 90 }) (va_Pc [.ref (a 0), .int (p0), .int (p1)] (fun U => U.heap.size = sz ∧ va_P (dC, dI) vwCl (wC a cI cZ v f w) U.heap ∧ va_K (dC, dI) vwCl [(cI, .int), (cZ, .boolean)] U ∧ va_D (fun _ => True) (wC a cI cZ v f w) ∧ zX (va_A (wC a cI cZ v f w) sz) U U.heap)) (va_Qv (fun (u : Unit) => k_trim z0 z1 = 0) (fun (_ : Unit) t => va_P (dC, dI) vwCl (wC a cI cZ (zu (zu (zu v 5 (z0.toNat)) 6 (z1.toNat)) 2 (1)) f w) t.heap ∧ va_K (dC, dI) vwCl [(cI, .int), (cZ, .boolean)] t ∧ va_D (va_A (wC a cI cZ v f w) sz) (wC a cI cZ (zu (zu (zu v 5 (z0.toNat)) 6 (z1.toNat)) 2 (1)) f w)) (va_A (wC a cI cZ v f w) sz)) (vx_X (fun _ : Unit => True) (fun E _ t => ((E = "java/lang/IllegalArgumentException" ∧ k_trim z0 z1 = 1)) ∧ va_P (dC, dI) vwCl (wC a cI cZ v f w) t.heap ∧ va_K (dC, dI) vwCl [(cI, .int), (cZ, .boolean)] t ∧ va_D (va_A (wC a cI cZ v f w) sz) (wC a cI cZ v f w)) (va_A (wC a cI cZ v f w) sz)) 1 6 (va_A (wC a cI cZ v f w) sz) := by
  refine vx_ofW (cc := prog_1_method_6_code) (maxL := 3) (ret := none) (by decide) rfl ?_
  intro p e s m args below meth c s₁ B hml hno hv
  obtain ⟨rfl, hsz, hP, hK, hD0, hX9⟩ := hv
  have hx := B.exec
  have hb := B.bytes
  have hr := B.returns
  have hz : ∀ w ∈ zW, w.before ([.ref (a 0), .int (p0), .int (p1)]).toArray s = true := fun w h => atoms_spec (ws := (zw_Cut_trim :: zW)) B.pre w (List.mem_cons_of_mem _ h)
  have hown : s.vm.findClass "CutLengths" = some m.cls := findClass_of_methodNamed B.named
  have hlocks := B.notSynchronized
  subst hsz
  have hD := hD0.self (sz := s.heap.size)
  generalize hAe : va_A (wC a cI cZ v f w) s.heap.size = A at hD hX9 ⊢
  have hA : ∀ q : Nat, s.heap.size ≤ q → A q := fun q h => by rw [← hAe]; exact Or.inr h
  have hS : va_S A s.heap s.heap [] := va_S.rf
  have hP : va_P (dC, dI) vwCl (wC a cI cZ v f w) s.heap := hP
  obtain ⟨hU9, hN9, hT9⟩ := hX9
  obtain ⟨i3, i4, i5, i6, i7, i8, i9, i10, i2, i0, i1, iw, ib, ic, isl⟩ := id hI
  have hl := lv_entry ([.ref (a 0), .int (p0), .int (p1)]) (n := 3) (Nat.le_of_ble_eq_true rfl)
  rw [lg_entry_eq]
  generalize (lg_sl ([.ref (a 0), .int (p0), .int (p1)]) ++ List.replicate (3 - (lg_sl ([.ref (a 0), .int (p0), .int (p1)])).length) Slot.unset).toArray = ls at hl ⊢
  have hl : lv_has ls 3 [(0, .ref (a 0)), (1, .int (p0)), (2, .int (p1))] := hl
  refine lv_iload_n hx hb d_Cut_trim_0 rfl (lv_at hl 1 rfl) ?_
  refine lv_iconst (v := nI (0)) hx hb d_Cut_trim_1 (by decide) ?_
  refine lv_sipush (v := nI (300)) hx hb d_Cut_trim_2 (by decide) ?_
  refine zz_ro (va_runS (As := [.int (p0), .int (nI (0)), .int (nI (300))]) (rest := []) ⟨hx, hb, hml, hown, hz⟩ (c_Cut_isOutside l (p0) (nI (0)) (nI (300)) (z0) ((0 : Int)) ((300 : Int)) (h0) ((by decide)) ((by decide))) (va_cwS 3 hz (zgS tw_290 tw_291 tw_15 tw_292) rfl rfl rfl (by decide +kernel) ⟨Nat.le_of_ble_eq_true rfl, Nat.le_of_ble_eq_true rfl⟩) ⟨fun _ _ _ _ q => q, fun U hU hW => ⟨rfl, trivial⟩⟩ rfl rfl hl.1 rfl (lv_room (Nat.le_of_ble_eq_true rfl)) d_Cut_trim_5 ⟨Nat.zero_le _, Nat.zero_le _⟩) ?_
  by_cases q_5 : (z0) < ((0 : Int)) ∨ ((300 : Int)) < (z0)
  · refine zz_top (congrArg nI (if_pos q_5)) ?_
    refine lv_if_ne (tgt := 22) hx hb d_Cut_trim_8 (by decide) (fun _ => ?_) (fun c9 => absurd c9 (by decide))
    obtain ⟨sa, hsa⟩ := hT9.2.1 (97, "no such trims") (by decide)
    exact vx_throwS (cls := "java/lang/IllegalArgumentException") (names := ["java/lang/RuntimeException", "java/lang/Exception"]) (ik := 64) (is := 97) (ic := 68) hx hb hl9 hown (by decide) (by decide) (hz _ tw_294) (hz _ tw_25) hsa (zhat_IAE hz hT9) zgd_IAE hU9 hN9 hS (hl.1.trans hml.symm) d_Cut_trim_22 d_Cut_trim_25 d_Cut_trim_26 d_Cut_trim_28 d_Cut_trim_31 (fun x hx9 => (hno x hx9).elim) (Nat.le_of_ble_eq_true rfl) (Nat.le_of_ble_eq_true rfl) (Nat.le_of_ble_eq_true rfl) (Nat.le_of_ble_eq_true rfl) hlocks (fun t9 ha hz9 hk9 => ⟨(), trivial, ⟨⟨rfl, (by unfold k_trim; rw [if_pos (by omega)])⟩, hP.kept (fun k q hk => hk9 q.1 (vx_lt hP hk)), va_K.moved ha hK, hD⟩, ⟨hz9, fun q h1 _ => hk9 q h1⟩⟩) hS.2.2 (Nat.le_of_ble_eq_true rfl) (Nat.le_of_ble_eq_true rfl)
  · refine zz_top (congrArg nI (if_neg q_5)) ?_
    refine lv_if_ne (tgt := 22) hx hb d_Cut_trim_8 (by decide) (fun c9 => absurd c9 (by decide)) (fun _ => ?_)
    refine lv_iload_n hx hb d_Cut_trim_11 rfl (lv_at hl 2 rfl) ?_
    refine lv_iconst (v := nI (0)) hx hb d_Cut_trim_12 (by decide) ?_
    refine lv_sipush (v := nI (300)) hx hb d_Cut_trim_13 (by decide) ?_
    refine zz_ro (va_runS (As := [.int (p1), .int (nI (0)), .int (nI (300))]) (rest := []) ⟨hx, hb, hml, hown, hz⟩ (c_Cut_isOutside l (p1) (nI (0)) (nI (300)) (z1) ((0 : Int)) ((300 : Int)) (h1) ((by decide)) ((by decide))) (va_cwS 3 hz (zgS tw_290 tw_291 tw_15 tw_292) rfl rfl rfl (by decide +kernel) ⟨Nat.le_of_ble_eq_true rfl, Nat.le_of_ble_eq_true rfl⟩) ⟨fun _ _ _ _ q => q, fun U hU hW => ⟨rfl, trivial⟩⟩ rfl rfl hl.1 rfl (lv_room (Nat.le_of_ble_eq_true rfl)) d_Cut_trim_16 ⟨Nat.zero_le _, Nat.zero_le _⟩) ?_
    by_cases q_16 : (z1) < ((0 : Int)) ∨ ((300 : Int)) < (z1)
    · refine zz_top (congrArg nI (if_pos q_16)) ?_
      refine lv_if_eq (tgt := 32) hx hb d_Cut_trim_19 (by decide) (fun c9 => absurd c9 (by decide)) (fun _ => ?_)
      obtain ⟨sa, hsa⟩ := hT9.2.1 (97, "no such trims") (by decide)
      exact vx_throwS (cls := "java/lang/IllegalArgumentException") (names := ["java/lang/RuntimeException", "java/lang/Exception"]) (ik := 64) (is := 97) (ic := 68) hx hb hl9 hown (by decide) (by decide) (hz _ tw_294) (hz _ tw_25) hsa (zhat_IAE hz hT9) zgd_IAE hU9 hN9 hS (hl.1.trans hml.symm) d_Cut_trim_22 d_Cut_trim_25 d_Cut_trim_26 d_Cut_trim_28 d_Cut_trim_31 (fun x hx9 => (hno x hx9).elim) (Nat.le_of_ble_eq_true rfl) (Nat.le_of_ble_eq_true rfl) (Nat.le_of_ble_eq_true rfl) (Nat.le_of_ble_eq_true rfl) hlocks (fun t9 ha hz9 hk9 => ⟨(), trivial, ⟨⟨rfl, (by unfold k_trim; rw [if_pos (by omega)])⟩, hP.kept (fun k q hk => hk9 q.1 (vx_lt hP hk)), va_K.moved ha hK, hD⟩, ⟨hz9, fun q h1 _ => hk9 q h1⟩⟩) hS.2.2 (Nat.le_of_ble_eq_true rfl) (Nat.le_of_ble_eq_true rfl)
    · refine zz_top (congrArg nI (if_neg q_16)) ?_
      refine lv_if_eq (tgt := 32) hx hb d_Cut_trim_19 (by decide) (fun _ => ?_) (fun c9 => absurd c9 (by decide))
      refine lv_aload_n hx hb d_Cut_trim_32 rfl (lv_at hl 0 rfl) ?_
      refine va_get (D := (dC, dI)) (ci := 0) (v := .ref (a 1)) (C := "CutLengths") (T := T_Cut) (N := 7) hx hb hz i_Cut hown hK hP 0 rfl rfl 0 (by decide) (hz _ tw_142) (fun _ h9 => h9) rfl d_Cut_trim_33 ?_
      refine lv_iload_n hx hb d_Cut_trim_36 rfl (lv_at hl 1 rfl) ?_
      refine zz_top (zz_nat h0 (by omega)) ?_
      refine va_put (D := (dC, dI)) (ci := 1) (v := .int (nI (z0.toNat))) (ty := .int) (C := "CutLengths$Strand") (T := T_Strand) (N := 8) hx hb hz i_Strand t_Strand t_Strand_ok n_Strand hown hK hP hD hS 1 rfl rfl 2 (by decide) (hz _ tw_50) (fun _ h9 => h9) rfl (by decide +kernel) rfl rfl (Nat.le_of_ble_eq_true rfl) d_Cut_trim_37 (fun H locs hP hD hS => ?_)
      have hP : va_P (dC, dI) vwCl (wC a cI cZ (zu v 5 (z0.toNat)) f w) H := hP
      have hD : va_D A (wC a cI cZ (zu v 5 (z0.toNat)) f w) := hD
      refine lv_aload_n hx hb d_Cut_trim_40 rfl (lv_at hl 0 rfl) ?_
      refine va_get (D := (dC, dI)) (ci := 0) (v := .ref (a 1)) (C := "CutLengths") (T := T_Cut) (N := 7) hx hb hz i_Cut hown hK hP 0 rfl rfl 0 (by decide) (hz _ tw_142) (fun _ h9 => h9) rfl d_Cut_trim_41 ?_
      refine lv_iload_n hx hb d_Cut_trim_44 rfl (lv_at hl 2 rfl) ?_
      refine zz_top (zz_nat h1 (by omega)) ?_
      refine va_put (D := (dC, dI)) (ci := 1) (v := .int (nI (z1.toNat))) (ty := .int) (C := "CutLengths$Strand") (T := T_Strand) (N := 8) hx hb hz i_Strand t_Strand t_Strand_ok n_Strand hown hK hP hD hS 1 rfl rfl 3 (by decide) (hz _ tw_52) (fun _ h9 => h9) rfl (by decide +kernel) rfl rfl (Nat.le_of_ble_eq_true rfl) d_Cut_trim_45 (fun H locs hP hD hS => ?_)
      have hP : va_P (dC, dI) vwCl (wC a cI cZ (zu (zu v 5 (z0.toNat)) 6 (z1.toNat)) f w) H := hP
      have hD : va_D A (wC a cI cZ (zu (zu v 5 (z0.toNat)) 6 (z1.toNat)) f w) := hD
      refine lv_aload_n hx hb d_Cut_trim_48 rfl (lv_at hl 0 rfl) ?_
      refine lv_iconst (v := nI (1)) hx hb d_Cut_trim_49 (by decide) ?_
      refine va_put (D := (dC, dI)) (ci := 0) (v := .int (nI (1))) (ty := .boolean) (C := "CutLengths") (T := T_Cut) (N := 7) hx hb hz i_Cut t_Cut t_Cut_ok n_Cut hown hK hP hD hS 0 rfl rfl 6 (by decide) (hz _ tw_148) (fun _ h9 => h9) rfl (by decide +kernel) rfl rfl (Nat.le_of_ble_eq_true rfl) d_Cut_trim_50 (fun H locs hP hD hS => ?_)
      have hP : va_P (dC, dI) vwCl (wC a cI cZ (zu (zu (zu v 5 (z0.toNat)) 6 (z1.toNat)) 2 (1)) f w) H := hP
      have hD : va_D A (wC a cI cZ (zu (zu (zu v 5 (z0.toNat)) 6 (z1.toNat)) 2 (1)) f w) := hD
      refine W.widen (k := 1) (n := 6) (Nat.le_of_ble_eq_true rfl) (Nat.le_of_ble_eq_true rfl) ?_
      refine vx_ret ?_
      exact W.vret hx hb hr (fun t9 ht hW => ⟨⟨(), rfl, (by unfold k_trim; rw [if_neg (by omega)]), by rw [ht]; exact hP, va_K.moved hW.alike hK, hD⟩, hS.F ht⟩) hS.2.2 d_Cut_trim_53
set_option maxHeartbeats 4000000 in
set_option maxRecDepth 100000 in
theorem c_Cut_bad (l : Launch) (hl9 : l.stackTraces = false) (dC : Nat → ClassId) (dI : Nat → Nat → Nat) (a : Nat → Nat) (cI cZ : ClassId) (v : Nat → Nat) (f : Nat → Nat → Nat) (w : Nat → Nat → Int32) (sz : Nat) (p0 : Int32) (z0 : Int) (h0 : p0.toInt = z0) (p1 : Int32) (z1 : Int) (h1 : p1.toInt = z1) (hI : zI v f) : vx_Met l y_Cut_bad (zw_Cut_bad :: zW) ({ frames := 6, cells := 1, slots := 6, locals := 90 }) (va_Pc [.ref (a 0), .int (p0), .int (p1)] (fun U => U.heap.size = sz ∧ va_P (dC, dI) vwCl (wC a cI cZ v f w) U.heap ∧ va_K (dC, dI) vwCl [(cI, .int), (cZ, .boolean)] U ∧ va_D (fun _ => True) (wC a cI cZ v f w) ∧ zX (va_A (wC a cI cZ v f w) sz) U U.heap)) (va_Qi (fun (r : Int32) (u : Nat → Nat) => k_bad (v 7) z0 z1 = 0 ∧ r = nI (v 7 + 1) ∧ ∀ p, u p = if z0.toNat ≤ p ∧ p < z1.toNat then 1 else f 0 p) (fun (u : Nat → Nat) t => match u with | g => va_P (dC, dI) vwCl (wC a cI cZ (zu (zu v 7 (v 7 + 1)) 2 (1)) (zu f 0 (g)) w) t.heap ∧ va_K (dC, dI) vwCl [(cI, .int), (cZ, .boolean)] t ∧ va_D (va_A (wC a cI cZ v f w) sz) (wC a cI cZ (zu (zu v 7 (v 7 + 1)) 2 (1)) (zu f 0 (g)) w)) (va_A (wC a cI cZ v f w) sz)) (vx_X (fun _ : Unit => True) (fun E _ t => ((E = "java/lang/IllegalStateException" ∧ k_bad (v 7) z0 z1 = 1) ∨ (E = "java/lang/IllegalArgumentException" ∧ k_bad (v 7) z0 z1 = 2)) ∧ va_P (dC, dI) vwCl (wC a cI cZ v f w) t.heap ∧ va_K (dC, dI) vwCl [(cI, .int), (cZ, .boolean)] t ∧ va_D (va_A (wC a cI cZ v f w) sz) (wC a cI cZ v f w)) (va_A (wC a cI cZ v f w) sz)) 1 6 (va_A (wC a cI cZ v f w) sz) := by
  refine vx_ofW (cc := prog_1_method_7_code) (maxL := 3) (ret := (some .int)) (by decide) rfl ?_
  intro p e s m args below meth c s₁ B hml hno hv
  obtain ⟨rfl, hsz, hP, hK, hD0, hX9⟩ := hv
  have hx := B.exec
  have hb := B.bytes
  have hr := B.returns
  have hz : ∀ w ∈ zW, w.before ([.ref (a 0), .int (p0), .int (p1)]).toArray s = true := fun w h => atoms_spec (ws := (zw_Cut_bad :: zW)) B.pre w (List.mem_cons_of_mem _ h)
  have hown : s.vm.findClass "CutLengths" = some m.cls := findClass_of_methodNamed B.named
  have hlocks := B.notSynchronized
  subst hsz
  have hD := hD0.self (sz := s.heap.size)
  generalize hAe : va_A (wC a cI cZ v f w) s.heap.size = A at hD hX9 ⊢
  have hA : ∀ q : Nat, s.heap.size ≤ q → A q := fun q h => by rw [← hAe]; exact Or.inr h
  have hS : va_S A s.heap s.heap [] := va_S.rf
  have hP : va_P (dC, dI) vwCl (wC a cI cZ v f w) s.heap := hP
  obtain ⟨hU9, hN9, hT9⟩ := hX9
  obtain ⟨i3, i4, i5, i6, i7, i8, i9, i10, i2, i0, i1, iw, ib, ic, isl⟩ := id hI
  have hl := lv_entry ([.ref (a 0), .int (p0), .int (p1)]) (n := 3) (Nat.le_of_ble_eq_true rfl)
  rw [lg_entry_eq]
  generalize (lg_sl ([.ref (a 0), .int (p0), .int (p1)]) ++ List.replicate (3 - (lg_sl ([.ref (a 0), .int (p0), .int (p1)])).length) Slot.unset).toArray = ls at hl ⊢
  have hl : lv_has ls 3 [(0, .ref (a 0)), (1, .int (p0)), (2, .int (p1))] := hl
  refine lv_aload_n hx hb d_Cut_bad_0 rfl (lv_at hl 0 rfl) ?_
  refine va_get (D := (dC, dI)) (ci := 0) (v := .ref (a 1)) (C := "CutLengths") (T := T_Cut) (N := 7) hx hb hz i_Cut hown hK hP 0 rfl rfl 0 (by decide) (hz _ tw_142) (fun _ h9 => h9) rfl d_Cut_bad_1 ?_
  refine va_get (D := (dC, dI)) (ci := 1) (v := .int (nI (v 7))) (C := "CutLengths$Strand") (T := T_Strand) (N := 8) hx hb hz i_Strand hown hK hP 1 rfl rfl 4 (by decide) (hz _ tw_54) (fun _ h9 => h9) rfl d_Cut_bad_4 ?_
  refine lv_bipush (v := nI (20)) hx hb d_Cut_bad_7 (by decide) ?_
  refine lv_icmp_lt (tgt := 22) hx hb d_Cut_bad_9 (by decide) (fun c_9 => ?_) (fun c_9 => ?_)
  · have c_9 : ((v 7 : Nat) : Int) < (20 : Int) := (zz_lt (nI_toInt (by omega)) ((by decide))).mp c_9
    refine lv_iload_n hx hb d_Cut_bad_22 rfl (lv_at hl 1 rfl) ?_
    refine lv_iload_n hx hb d_Cut_bad_23 rfl (lv_at hl 2 rfl) ?_
    refine zz_ro (va_runS (As := [.int (p0), .int (p1)]) (rest := []) ⟨hx, hb, hml, hown, hz⟩ (c_Cut_isStretch l (p0) (p1) (z0) (z1) (h0) (h1)) (va_cwS 2 hz (zgS tw_391 tw_392 tw_15 tw_393) rfl rfl rfl (by decide +kernel) ⟨Nat.le_of_ble_eq_true rfl, Nat.le_of_ble_eq_true rfl⟩) ⟨fun _ _ _ _ q => q, fun U hU hW => ⟨rfl, trivial⟩⟩ rfl rfl hl.1 rfl (lv_room (Nat.le_of_ble_eq_true rfl)) d_Cut_bad_24 ⟨Nat.zero_le _, Nat.zero_le _⟩) ?_
    by_cases q_24 : 0 ≤ (z0) ∧ (z0) ≤ (z1) ∧ (z1) ≤ 300
    · refine zz_top (congrArg nI (if_pos q_24)) ?_
      refine lv_if_ne (tgt := 40) hx hb d_Cut_bad_27 (by decide) (fun _ => ?_) (fun c9 => absurd c9 (by decide))
      refine lv_aload_n hx hb d_Cut_bad_40 rfl (lv_at hl 0 rfl) ?_
      refine va_get (D := (dC, dI)) (ci := 0) (v := .ref (a 1)) (C := "CutLengths") (T := T_Cut) (N := 7) hx hb hz i_Cut hown hK hP 0 rfl rfl 0 (by decide) (hz _ tw_142) (fun _ h9 => h9) rfl d_Cut_bad_41 ?_
      refine lv_iload_n hx hb d_Cut_bad_44 rfl (lv_at hl 1 rfl) ?_
      refine zz_top (zz_nat h0 (by omega)) ?_
      refine lv_iload_n hx hb d_Cut_bad_45 rfl (lv_at hl 2 rfl) ?_
      refine zz_top (zz_nat h1 (by omega)) ?_
      have hFc := va_free (wc := (wC a cI cZ v f w)) hD hS hA [0, 1, 2, 3, 4, 5, 6, 7, 8, 9, 10, 11, 12, 13, 14] rfl
      refine va_callv (va_runV (As := [.int (nI (z0.toNat)), .int (nI (z1.toNat))]) (rest := []) ⟨hx, hb, hml, hown, hz⟩ (c_Strand_markBad l dC dI a cI cZ v f w (s.heap).size (z0.toNat) (z1.toNat) (by omega) (by omega) hI) (cwV (C := "CutLengths$Strand") 2 hz (zgV tw_395 tw_396 tw_397 tw_16 tw_398) rfl rfl rfl (by decide +kernel) ⟨Nat.le_of_ble_eq_true rfl, Nat.le_of_ble_eq_true rfl⟩) ⟨(fun a U g mk q => by obtain ⟨q0, q1, qP, qK, qD⟩ := q; exact ⟨q0, q1, qP, va_K.moved (u := U) (U := U.calling g mk a) (Vm.Alike.refl U.vm) qK, qD⟩), va_recv hK hP (ci := 1) (q0 := 1) rfl rfl, fun U hU hW => ⟨rfl, by rw [hU], by rw [hU]; exact hP, va_K.moved hW.alike hK, hD.weaken (fun _ _ _ _ => trivial)⟩⟩ rfl rfl hl.1 rfl (lv_room (Nat.le_of_ble_eq_true rfl)) d_Cut_bad_46 ⟨Nat.zero_le _, Nat.zero_le _⟩) hS (fun q _ h => hFc q h) hFc (fun u9 t9 H1 locs ht hvm hw hB hz1 hk1 hS => ?_)
      obtain ⟨g_46, rfl⟩ : ∃ z, z = u9 := ⟨_, rfl⟩
      obtain ⟨hP1, hK1, hD1⟩ := hB
      rw [ht] at hP1
      obtain ⟨hP, hD⟩ := va_join (wr := []) (w1 := (wC a cI cZ (zu v 7 ((v 7) + 1)) (zu f 0 (g_46)) w)) hP hD [0, 1, 2, 3, 4, 5, 6, 7, 8, 9, 10, 11, 12, 13, 14] [] rfl rfl (by decide) (by decide) hk1 hFc hP1 hD1
      generalize H1 = H at hP hS ⊢
      have hP : va_P (dC, dI) vwCl (wC a cI cZ (zu v 7 ((v 7) + 1)) (zu f 0 (g_46)) w) H := hP
      have hD : va_D A (wC a cI cZ (zu v 7 ((v 7) + 1)) (zu f 0 (g_46)) w) := hD
      refine lv_aload_n hx hb d_Cut_bad_49 rfl (lv_at hl 0 rfl) ?_
      refine lv_iconst (v := nI (1)) hx hb d_Cut_bad_50 (by decide) ?_
      refine va_put (D := (dC, dI)) (ci := 0) (v := .int (nI (1))) (ty := .boolean) (C := "CutLengths") (T := T_Cut) (N := 7) hx hb hz i_Cut t_Cut t_Cut_ok n_Cut hown hK hP hD hS 0 rfl rfl 6 (by decide) (hz _ tw_148) (fun _ h9 => h9) rfl (by decide +kernel) rfl rfl (Nat.le_of_ble_eq_true rfl) d_Cut_bad_51 (fun H locs hP hD hS => ?_)
      have hP : va_P (dC, dI) vwCl (wC a cI cZ (zu (zu v 7 ((v 7) + 1)) 2 (1)) (zu f 0 (g_46)) w) H := hP
      have hD : va_D A (wC a cI cZ (zu (zu v 7 ((v 7) + 1)) 2 (1)) (zu f 0 (g_46)) w) := hD
      refine lv_aload_n hx hb d_Cut_bad_54 rfl (lv_at hl 0 rfl) ?_
      refine va_get (D := (dC, dI)) (ci := 0) (v := .ref (a 1)) (C := "CutLengths") (T := T_Cut) (N := 7) hx hb hz i_Cut hown hK hP 0 rfl rfl 0 (by decide) (hz _ tw_142) (fun _ h9 => h9) rfl d_Cut_bad_55 ?_
      refine va_get (D := (dC, dI)) (ci := 1) (v := .int (nI ((v 7) + 1))) (C := "CutLengths$Strand") (T := T_Strand) (N := 8) hx hb hz i_Strand hown hK hP 1 rfl rfl 4 (by decide) (hz _ tw_54) (fun _ h9 => h9) rfl d_Cut_bad_58 ?_
      refine W.widen (k := 1) (n := 6) (Nat.le_of_ble_eq_true rfl) (Nat.le_of_ble_eq_true rfl) ?_
      refine vx_ret ?_
      exact W.iret (v := nI ((v 7) + 1)) hx hb hr (fun t9 ht hW => ⟨⟨nI ((v 7) + 1), g_46, rfl, ⟨(by unfold k_bad; rw [if_neg (by omega), if_neg (by omega)]), rfl, hw⟩, by rw [ht]; exact hP, va_K.moved hW.alike hK, hD⟩, hS.F ht⟩) hS.2.2 d_Cut_bad_61
    · refine zz_top (congrArg nI (if_neg q_24)) ?_
      refine lv_if_ne (tgt := 40) hx hb d_Cut_bad_27 (by decide) (fun c9 => absurd c9 (by decide)) (fun _ => ?_)
      obtain ⟨sa, hsa⟩ := hT9.2.1 (113, "no such steps") (by decide)
      exact vx_throwS (cls := "java/lang/IllegalArgumentException") (names := ["java/lang/RuntimeException", "java/lang/Exception"]) (ik := 64) (is := 113) (ic := 68) hx hb hl9 hown (by decide) (by decide) (hz _ tw_294) (hz _ tw_25) hsa (zhat_IAE hz hT9) zgd_IAE hU9 hN9 hS (hl.1.trans hml.symm) d_Cut_bad_30 d_Cut_bad_33 d_Cut_bad_34 d_Cut_bad_36 d_Cut_bad_39 (fun x hx9 => (hno x hx9).elim) (Nat.le_of_ble_eq_true rfl) (Nat.le_of_ble_eq_true rfl) (Nat.le_of_ble_eq_true rfl) (Nat.le_of_ble_eq_true rfl) hlocks (fun t9 ha hz9 hk9 => ⟨(), trivial, ⟨Or.inr ⟨rfl, (by unfold k_bad; rw [if_neg (by omega), if_pos (by omega)])⟩, hP.kept (fun k q hk => hk9 q.1 (vx_lt hP hk)), va_K.moved ha hK, hD⟩, ⟨hz9, fun q h1 _ => hk9 q h1⟩⟩) hS.2.2 (Nat.le_of_ble_eq_true rfl) (Nat.le_of_ble_eq_true rfl)
  · have c_9 : ¬ (((v 7 : Nat) : Int) < (20 : Int)) := fun q => c_9 ((zz_lt (nI_toInt (by omega)) ((by decide))).mpr q)
    obtain ⟨sa, hsa⟩ := hT9.2.1 (108, "no more bad parts") (by decide)
    exact vx_throwS (cls := "java/lang/IllegalStateException") (names := ["java/lang/RuntimeException", "java/lang/Exception"]) (ik := 51) (is := 108) (ic := 55) hx hb hl9 hown (by decide) (by decide) (hz _ tw_220) (hz _ tw_24) hsa (zhat_ISE hz hT9) zgd_ISE hU9 hN9 hS (hl.1.trans hml.symm) d_Cut_bad_12 d_Cut_bad_15 d_Cut_bad_16 d_Cut_bad_18 d_Cut_bad_21 (fun x hx9 => (hno x hx9).elim) (Nat.le_of_ble_eq_true rfl) (Nat.le_of_ble_eq_true rfl) (Nat.le_of_ble_eq_true rfl) (Nat.le_of_ble_eq_true rfl) hlocks (fun t9 ha hz9 hk9 => ⟨(), trivial, ⟨Or.inl ⟨rfl, (by unfold k_bad; rw [if_pos (by omega)])⟩, hP.kept (fun k q hk => hk9 q.1 (vx_lt hP hk)), va_K.moved ha hK, hD⟩, ⟨hz9, fun q h1 _ => hk9 q h1⟩⟩) hS.2.2 (Nat.le_of_ble_eq_true rfl) (Nat.le_of_ble_eq_true rfl)
set_option maxHeartbeats 4000000 in
set_option maxRecDepth 100000 in
theorem c_Cut_bar (l : Launch) (hl9 : l.stackTraces = false) (dC : Nat → ClassId) (dI : Nat → Nat → Nat) (a : Nat → Nat) (cI cZ : ClassId) (v : Nat → Nat) (f : Nat → Nat → Nat) (w : Nat → Nat → Int32) (sz : Nat) (p0 : Int32) (z0 : Int) (h0 : p0.toInt = z0) (p1 : Int32) (z1 : Int) (h1 : p1.toInt = z1) (hI : zI v f) : vx_Met l y_Cut_bar (zw_Cut_bar :: zW) ({ frames := 6, cells := 1, slots := 6, locals := 90 }) (va_Pc [.ref (a 0), .int (p0), .int (p1)] (fun U => U.heap.size = sz ∧ va_P (dC, dI) vwCl (wC a cI cZ v f w) U.heap ∧ va_K (dC, dI) vwCl [(cI, .int), (cZ, .boolean)] U ∧ va_D (fun _ => True) (wC a cI cZ v f w) ∧ zX (va_A (wC a cI cZ v f w) sz) U U.heap)) (va_Qi (fun (r : Int32) (u : Nat → Nat) => k_bad (v 8) z0 z1 = 0 ∧ r = nI (v 8 + 1) ∧ ∀ p, u p = if z0.toNat ≤ p ∧ p < (z1.toNat + 1) then 1 else f 1 p) (fun (u : Nat → Nat) t => match u with | g => va_P (dC, dI) vwCl (wC a cI cZ (zu (zu v 8 (v 8 + 1)) 2 (1)) (zu f 1 (g)) w) t.heap ∧ va_K (dC, dI) vwCl [(cI, .int), (cZ, .boolean)] t ∧ va_D (va_A (wC a cI cZ v f w) sz) (wC a cI cZ (zu (zu v 8 (v 8 + 1)) 2 (1)) (zu f 1 (g)) w)) (va_A (wC a cI cZ v f w) sz)) (vx_X (fun _ : Unit => True) (fun E _ t => ((E = "java/lang/IllegalStateException" ∧ k_bad (v 8) z0 z1 = 1) ∨ (E = "java/lang/IllegalArgumentException" ∧ k_bad (v 8) z0 z1 = 2)) ∧ va_P (dC, dI) vwCl (wC a cI cZ v f w) t.heap ∧ va_K (dC, dI) vwCl [(cI, .int), (cZ, .boolean)] t ∧ va_D (va_A (wC a cI cZ v f w) sz) (wC a cI cZ v f w)) (va_A (wC a cI cZ v f w) sz)) 1 6 (va_A (wC a cI cZ v f w) sz) := by
  refine vx_ofW (cc := prog_1_method_8_code) (maxL := 3) (ret := (some .int)) (by decide) rfl ?_
  intro p e s m args below meth c s₁ B hml hno hv
  obtain ⟨rfl, hsz, hP, hK, hD0, hX9⟩ := hv
  have hx := B.exec
  have hb := B.bytes
  have hr := B.returns
  have hz : ∀ w ∈ zW, w.before ([.ref (a 0), .int (p0), .int (p1)]).toArray s = true := fun w h => atoms_spec (ws := (zw_Cut_bar :: zW)) B.pre w (List.mem_cons_of_mem _ h)
  have hown : s.vm.findClass "CutLengths" = some m.cls := findClass_of_methodNamed B.named
  have hlocks := B.notSynchronized
  subst hsz
  have hD := hD0.self (sz := s.heap.size)
  generalize hAe : va_A (wC a cI cZ v f w) s.heap.size = A at hD hX9 ⊢
  have hA : ∀ q : Nat, s.heap.size ≤ q → A q := fun q h => by rw [← hAe]; exact Or.inr h
  have hS : va_S A s.heap s.heap [] := va_S.rf
  have hP : va_P (dC, dI) vwCl (wC a cI cZ v f w) s.heap := hP
  obtain ⟨hU9, hN9, hT9⟩ := hX9
  obtain ⟨i3, i4, i5, i6, i7, i8, i9, i10, i2, i0, i1, iw, ib, ic, isl⟩ := id hI
  have hl := lv_entry ([.ref (a 0), .int (p0), .int (p1)]) (n := 3) (Nat.le_of_ble_eq_true rfl)
  rw [lg_entry_eq]
  generalize (lg_sl ([.ref (a 0), .int (p0), .int (p1)]) ++ List.replicate (3 - (lg_sl ([.ref (a 0), .int (p0), .int (p1)])).length) Slot.unset).toArray = ls at hl ⊢
  have hl : lv_has ls 3 [(0, .ref (a 0)), (1, .int (p0)), (2, .int (p1))] := hl
  refine lv_aload_n hx hb d_Cut_bar_0 rfl (lv_at hl 0 rfl) ?_
  refine va_get (D := (dC, dI)) (ci := 0) (v := .ref (a 1)) (C := "CutLengths") (T := T_Cut) (N := 7) hx hb hz i_Cut hown hK hP 0 rfl rfl 0 (by decide) (hz _ tw_142) (fun _ h9 => h9) rfl d_Cut_bar_1 ?_
  refine va_get (D := (dC, dI)) (ci := 1) (v := .int (nI (v 8))) (C := "CutLengths$Strand") (T := T_Strand) (N := 8) hx hb hz i_Strand hown hK hP 1 rfl rfl 5 (by decide) (hz _ tw_56) (fun _ h9 => h9) rfl d_Cut_bar_4 ?_
  refine lv_bipush (v := nI (20)) hx hb d_Cut_bar_7 (by decide) ?_
  refine lv_icmp_lt (tgt := 22) hx hb d_Cut_bar_9 (by decide) (fun c_9 => ?_) (fun c_9 => ?_)
  · have c_9 : ((v 8 : Nat) : Int) < (20 : Int) := (zz_lt (nI_toInt (by omega)) ((by decide))).mp c_9
    refine lv_iload_n hx hb d_Cut_bar_22 rfl (lv_at hl 1 rfl) ?_
    refine lv_iload_n hx hb d_Cut_bar_23 rfl (lv_at hl 2 rfl) ?_
    refine zz_ro (va_runS (As := [.int (p0), .int (p1)]) (rest := []) ⟨hx, hb, hml, hown, hz⟩ (c_Cut_isStretch l (p0) (p1) (z0) (z1) (h0) (h1)) (va_cwS 2 hz (zgS tw_391 tw_392 tw_15 tw_393) rfl rfl rfl (by decide +kernel) ⟨Nat.le_of_ble_eq_true rfl, Nat.le_of_ble_eq_true rfl⟩) ⟨fun _ _ _ _ q => q, fun U hU hW => ⟨rfl, trivial⟩⟩ rfl rfl hl.1 rfl (lv_room (Nat.le_of_ble_eq_true rfl)) d_Cut_bar_24 ⟨Nat.zero_le _, Nat.zero_le _⟩) ?_
    by_cases q_24 : 0 ≤ (z0) ∧ (z0) ≤ (z1) ∧ (z1) ≤ 300
    · refine zz_top (congrArg nI (if_pos q_24)) ?_
      refine lv_if_ne (tgt := 40) hx hb d_Cut_bar_27 (by decide) (fun _ => ?_) (fun c9 => absurd c9 (by decide))
      refine lv_aload_n hx hb d_Cut_bar_40 rfl (lv_at hl 0 rfl) ?_
      refine va_get (D := (dC, dI)) (ci := 0) (v := .ref (a 1)) (C := "CutLengths") (T := T_Cut) (N := 7) hx hb hz i_Cut hown hK hP 0 rfl rfl 0 (by decide) (hz _ tw_142) (fun _ h9 => h9) rfl d_Cut_bar_41 ?_
      refine lv_iload_n hx hb d_Cut_bar_44 rfl (lv_at hl 1 rfl) ?_
      refine zz_top (zz_nat h0 (by omega)) ?_
      refine lv_iload_n hx hb d_Cut_bar_45 rfl (lv_at hl 2 rfl) ?_
      refine zz_top (zz_nat h1 (by omega)) ?_
      have hFc := va_free (wc := (wC a cI cZ v f w)) hD hS hA [0, 1, 2, 3, 4, 5, 6, 7, 8, 9, 10, 11, 12, 13, 14] rfl
      refine va_callv (va_runV (As := [.int (nI (z0.toNat)), .int (nI (z1.toNat))]) (rest := []) ⟨hx, hb, hml, hown, hz⟩ (c_Strand_markBarred l dC dI a cI cZ v f w (s.heap).size (z0.toNat) (z1.toNat) (by omega) (by omega) hI) (cwV (C := "CutLengths$Strand") 2 hz (zgV tw_408 tw_409 tw_410 tw_16 tw_411) rfl rfl rfl (by decide +kernel) ⟨Nat.le_of_ble_eq_true rfl, Nat.le_of_ble_eq_true rfl⟩) ⟨(fun a U g mk q => by obtain ⟨q0, q1, qP, qK, qD⟩ := q; exact ⟨q0, q1, qP, va_K.moved (u := U) (U := U.calling g mk a) (Vm.Alike.refl U.vm) qK, qD⟩), va_recv hK hP (ci := 1) (q0 := 1) rfl rfl, fun U hU hW => ⟨rfl, by rw [hU], by rw [hU]; exact hP, va_K.moved hW.alike hK, hD.weaken (fun _ _ _ _ => trivial)⟩⟩ rfl rfl hl.1 rfl (lv_room (Nat.le_of_ble_eq_true rfl)) d_Cut_bar_46 ⟨Nat.zero_le _, Nat.zero_le _⟩) hS (fun q _ h => hFc q h) hFc (fun u9 t9 H1 locs ht hvm hw hB hz1 hk1 hS => ?_)
      obtain ⟨g_46, rfl⟩ : ∃ z, z = u9 := ⟨_, rfl⟩
      obtain ⟨hP1, hK1, hD1⟩ := hB
      rw [ht] at hP1
      obtain ⟨hP, hD⟩ := va_join (wr := []) (w1 := (wC a cI cZ (zu v 8 ((v 8) + 1)) (zu f 1 (g_46)) w)) hP hD [0, 1, 2, 3, 4, 5, 6, 7, 8, 9, 10, 11, 12, 13, 14] [] rfl rfl (by decide) (by decide) hk1 hFc hP1 hD1
      generalize H1 = H at hP hS ⊢
      have hP : va_P (dC, dI) vwCl (wC a cI cZ (zu v 8 ((v 8) + 1)) (zu f 1 (g_46)) w) H := hP
      have hD : va_D A (wC a cI cZ (zu v 8 ((v 8) + 1)) (zu f 1 (g_46)) w) := hD
      refine lv_aload_n hx hb d_Cut_bar_49 rfl (lv_at hl 0 rfl) ?_
      refine lv_iconst (v := nI (1)) hx hb d_Cut_bar_50 (by decide) ?_
      refine va_put (D := (dC, dI)) (ci := 0) (v := .int (nI (1))) (ty := .boolean) (C := "CutLengths") (T := T_Cut) (N := 7) hx hb hz i_Cut t_Cut t_Cut_ok n_Cut hown hK hP hD hS 0 rfl rfl 6 (by decide) (hz _ tw_148) (fun _ h9 => h9) rfl (by decide +kernel) rfl rfl (Nat.le_of_ble_eq_true rfl) d_Cut_bar_51 (fun H locs hP hD hS => ?_)
      have hP : va_P (dC, dI) vwCl (wC a cI cZ (zu (zu v 8 ((v 8) + 1)) 2 (1)) (zu f 1 (g_46)) w) H := hP
      have hD : va_D A (wC a cI cZ (zu (zu v 8 ((v 8) + 1)) 2 (1)) (zu f 1 (g_46)) w) := hD
      refine lv_aload_n hx hb d_Cut_bar_54 rfl (lv_at hl 0 rfl) ?_
      refine va_get (D := (dC, dI)) (ci := 0) (v := .ref (a 1)) (C := "CutLengths") (T := T_Cut) (N := 7) hx hb hz i_Cut hown hK hP 0 rfl rfl 0 (by decide) (hz _ tw_142) (fun _ h9 => h9) rfl d_Cut_bar_55 ?_
      refine va_get (D := (dC, dI)) (ci := 1) (v := .int (nI ((v 8) + 1))) (C := "CutLengths$Strand") (T := T_Strand) (N := 8) hx hb hz i_Strand hown hK hP 1 rfl rfl 5 (by decide) (hz _ tw_56) (fun _ h9 => h9) rfl d_Cut_bar_58 ?_
      refine W.widen (k := 1) (n := 6) (Nat.le_of_ble_eq_true rfl) (Nat.le_of_ble_eq_true rfl) ?_
      refine vx_ret ?_
      exact W.iret (v := nI ((v 8) + 1)) hx hb hr (fun t9 ht hW => ⟨⟨nI ((v 8) + 1), g_46, rfl, ⟨(by unfold k_bad; rw [if_neg (by omega), if_neg (by omega)]), rfl, hw⟩, by rw [ht]; exact hP, va_K.moved hW.alike hK, hD⟩, hS.F ht⟩) hS.2.2 d_Cut_bar_61
    · refine zz_top (congrArg nI (if_neg q_24)) ?_
      refine lv_if_ne (tgt := 40) hx hb d_Cut_bar_27 (by decide) (fun c9 => absurd c9 (by decide)) (fun _ => ?_)
      obtain ⟨sa, hsa⟩ := hT9.2.1 (124, "no such places") (by decide)
      exact vx_throwS (cls := "java/lang/IllegalArgumentException") (names := ["java/lang/RuntimeException", "java/lang/Exception"]) (ik := 64) (is := 124) (ic := 68) hx hb hl9 hown (by decide) (by decide) (hz _ tw_294) (hz _ tw_25) hsa (zhat_IAE hz hT9) zgd_IAE hU9 hN9 hS (hl.1.trans hml.symm) d_Cut_bar_30 d_Cut_bar_33 d_Cut_bar_34 d_Cut_bar_36 d_Cut_bar_39 (fun x hx9 => (hno x hx9).elim) (Nat.le_of_ble_eq_true rfl) (Nat.le_of_ble_eq_true rfl) (Nat.le_of_ble_eq_true rfl) (Nat.le_of_ble_eq_true rfl) hlocks (fun t9 ha hz9 hk9 => ⟨(), trivial, ⟨Or.inr ⟨rfl, (by unfold k_bad; rw [if_neg (by omega), if_pos (by omega)])⟩, hP.kept (fun k q hk => hk9 q.1 (vx_lt hP hk)), va_K.moved ha hK, hD⟩, ⟨hz9, fun q h1 _ => hk9 q h1⟩⟩) hS.2.2 (Nat.le_of_ble_eq_true rfl) (Nat.le_of_ble_eq_true rfl)
  · have c_9 : ¬ (((v 8 : Nat) : Int) < (20 : Int)) := fun q => c_9 ((zz_lt (nI_toInt (by omega)) ((by decide))).mpr q)
    obtain ⟨sa, hsa⟩ := hT9.2.1 (122, "no more bars") (by decide)
    exact vx_throwS (cls := "java/lang/IllegalStateException") (names := ["java/lang/RuntimeException", "java/lang/Exception"]) (ik := 51) (is := 122) (ic := 55) hx hb hl9 hown (by decide) (by decide) (hz _ tw_220) (hz _ tw_24) hsa (zhat_ISE hz hT9) zgd_ISE hU9 hN9 hS (hl.1.trans hml.symm) d_Cut_bar_12 d_Cut_bar_15 d_Cut_bar_16 d_Cut_bar_18 d_Cut_bar_21 (fun x hx9 => (hno x hx9).elim) (Nat.le_of_ble_eq_true rfl) (Nat.le_of_ble_eq_true rfl) (Nat.le_of_ble_eq_true rfl) (Nat.le_of_ble_eq_true rfl) hlocks (fun t9 ha hz9 hk9 => ⟨(), trivial, ⟨Or.inl ⟨rfl, (by unfold k_bad; rw [if_pos (by omega)])⟩, hP.kept (fun k q hk => hk9 q.1 (vx_lt hP hk)), va_K.moved ha hK, hD⟩, ⟨hz9, fun q h1 _ => hk9 q h1⟩⟩) hS.2.2 (Nat.le_of_ble_eq_true rfl) (Nat.le_of_ble_eq_true rfl)
end
section
/-! THE PUBLIC METHODS of the class, second part (rows written by wip/whole/mk_class.py) -/
set_option maxHeartbeats 4000000 in
set_option maxRecDepth 100000 in
theorem c_Cut_loss (l : Launch) (dC : Nat → ClassId) (dI : Nat → Nat → Nat) (a : Nat → Nat) (cI cZ : ClassId) (v : Nat → Nat) (f : Nat → Nat → Nat) (w : Nat → Nat → Int32) (sz : Nat) (hI : zI v f) (hC : v 2 = 0 → zCP v f (f 4) (f 5) (w 0)) : Met l y_Cut_loss (zw_Cut_loss :: zW) ({ frames := 4, cells := 0, slots := 0, locals := 104 }) (va_Pc [.ref (a 0)] (fun U => U.heap.size = sz ∧ va_P (dC, dI) vwCl (wC a cI cZ v f w) U.heap ∧ va_K (dC, dI) vwCl [(cI, .int), (cZ, .boolean)] U ∧ va_D (fun _ => True) (wC a cI cZ v f w))) (va_Qi (fun (r : Int32) (u : (Nat → Nat) × (Nat → Nat) × (Nat → Int32)) => zCP v f u.1 u.2.1 u.2.2 ∧ r = nI (u.1 (v 4))) (fun (u : (Nat → Nat) × (Nat → Nat) × (Nat → Int32)) t => match u with | (L, S, F) => va_P (dC, dI) vwCl (wC a cI cZ (zu v 2 (0)) (zu (zu f 4 (L)) 5 (S)) (zu w 0 (F))) t.heap ∧ va_K (dC, dI) vwCl [(cI, .int), (cZ, .boolean)] t ∧ va_D (va_A (wC a cI cZ v f w) sz) (wC a cI cZ (zu v 2 (0)) (zu (zu f 4 (L)) 5 (S)) (zu w 0 (F)))) (va_A (wC a cI cZ v f w) sz)) 0 0 (va_A (wC a cI cZ v f w) sz) := by
  refine Met.ofW (cc := prog_1_method_9_code) (maxL := 1) (ret := (some .int)) (by decide) rfl ?_
  intro p e s m args below meth c s₁ B hml hv
  obtain ⟨rfl, hsz, hP, hK, hD0⟩ := hv
  have hx := B.exec
  have hb := B.bytes
  have hr := B.returns
  have hz : ∀ w ∈ zW, w.before ([.ref (a 0)]).toArray s = true := fun w h => atoms_spec (ws := (zw_Cut_loss :: zW)) B.pre w (List.mem_cons_of_mem _ h)
  have hown : s.vm.findClass "CutLengths" = some m.cls := findClass_of_methodNamed B.named
  have hlocks := B.notSynchronized
  subst hsz
  have hD := hD0.self (sz := s.heap.size)
  generalize hAe : va_A (wC a cI cZ v f w) s.heap.size = A at hD ⊢
  have hA : ∀ q : Nat, s.heap.size ≤ q → A q := fun q h => by rw [← hAe]; exact Or.inr h
  have hS : va_S A s.heap s.heap [] := va_S.rf
  have hP : va_P (dC, dI) vwCl (wC a cI cZ v f w) s.heap := hP
  obtain ⟨i3, i4, i5, i6, i7, i8, i9, i10, i2, i0, i1, iw, ib, ic, isl⟩ := id hI
  have hl := lv_entry ([.ref (a 0)]) (n := 1) (Nat.le_of_ble_eq_true rfl)
  rw [lg_entry_eq]
  generalize (lg_sl ([.ref (a 0)]) ++ List.replicate (1 - (lg_sl ([.ref (a 0)])).length) Slot.unset).toArray = ls at hl ⊢
  have hl : lv_has ls 1 [(0, .ref (a 0))] := hl
  refine lv_aload_n hx hb d_Cut_loss_0 rfl (lv_at hl 0 rfl) ?_
  have hFc := va_free (wc := (wC a cI cZ v f w)) hD hS hA [0, 1, 2, 3, 4, 5, 6, 7, 8, 9, 10, 11, 12, 13, 14] rfl
  refine va_callv (va_runV (As := []) (rest := []) ⟨hx, hb, hml, hown, hz⟩ (c_Cut_renewPlan l dC dI a cI cZ v f w (s.heap).size hI hC) (cwV (C := "CutLengths") 0 hz (zgV tw_168 tw_170 tw_0 tw_15 tw_171) rfl rfl rfl (by decide +kernel) ⟨Nat.le_of_ble_eq_true rfl, Nat.le_of_ble_eq_true rfl⟩) ⟨(fun a U g mk q => by obtain ⟨q0, q1, qP, qK, qD⟩ := q; exact ⟨q0, q1, qP, va_K.moved (u := U) (U := U.calling g mk a) (Vm.Alike.refl U.vm) qK, qD⟩), va_recv hK hP (ci := 0) (q0 := 0) rfl rfl, fun U hU hW => ⟨rfl, by rw [hU], by rw [hU]; exact hP, va_K.moved hW.alike hK, hD.weaken (fun _ _ _ _ => trivial)⟩⟩ rfl rfl hl.1 rfl (lv_room (Nat.le_of_ble_eq_true rfl)) d_Cut_loss_1 ⟨Nat.zero_le _, Nat.zero_le _⟩) hS (fun q _ h => hFc q h) hFc (fun u9 t9 H1 locs ht hvm hw hB hz1 hk1 hS => ?_)
  obtain ⟨L_1, S_1, F_1⟩ := u9
  obtain ⟨hP1, hK1, hD1⟩ := hB
  rw [ht] at hP1
  obtain ⟨hP, hD⟩ := va_join (wr := []) (w1 := (wC a cI cZ (zu v 2 (0)) (zu (zu f 4 (L_1)) 5 (S_1)) (zu w 0 (F_1)))) hP hD [0, 1, 2, 3, 4, 5, 6, 7, 8, 9, 10, 11, 12, 13, 14] [] rfl rfl (by decide) (by decide) hk1 hFc hP1 hD1
  generalize H1 = H at hP hS ⊢
  have hP : va_P (dC, dI) vwCl (wC a cI cZ (zu v 2 (0)) (zu (zu f 4 (L_1)) 5 (S_1)) (zu w 0 (F_1))) H := hP
  have hD : va_D A (wC a cI cZ (zu v 2 (0)) (zu (zu f 4 (L_1)) 5 (S_1)) (zu w 0 (F_1))) := hD
  refine lv_aload_n hx hb d_Cut_loss_4 rfl (lv_at hl 0 rfl) ?_
  refine va_get (D := (dC, dI)) (ci := 0) (v := .ref (a 7)) (C := "CutLengths") (T := T_Cut) (N := 7) hx hb hz i_Cut hown hK hP 0 rfl rfl 2 (by decide) (hz _ tw_144) (fun _ h9 => h9) rfl d_Cut_loss_5 ?_
  refine va_get (D := (dC, dI)) (ci := 3) (v := .ref (a 8)) (C := "CutLengths$Plan") (T := T_Plan) (N := 3) hx hb hz i_Plan hown hK hP 7 rfl rfl 0 (by decide) (hz _ tw_107) (fun _ h9 => h9) rfl d_Cut_loss_8 ?_
  refine lv_aload_n hx hb d_Cut_loss_11 rfl (lv_at hl 0 rfl) ?_
  refine va_get (D := (dC, dI)) (ci := 0) (v := .ref (a 1)) (C := "CutLengths") (T := T_Cut) (N := 7) hx hb hz i_Cut hown hK hP 0 rfl rfl 0 (by decide) (hz _ tw_142) (fun _ h9 => h9) rfl d_Cut_loss_12 ?_
  refine va_get (D := (dC, dI)) (ci := 1) (v := .int (nI (v 4))) (C := "CutLengths$Strand") (T := T_Strand) (N := 8) hx hb hz i_Strand hown hK hP 1 rfl rfl 1 (by decide) (hz _ tw_48) (fun _ h9 => h9) rfl d_Cut_loss_15 ?_
  refine zz_nald hx hb hK hP 8 0 (f := L_1) (i := v 4) rfl rfl (by omega) (by decide) d_Cut_loss_18 ?_
  exact W.iret (v := nI ((L_1) (v 4))) hx hb hr (fun t9 ht hW => ⟨⟨nI ((L_1) (v 4)), (L_1, S_1, F_1), rfl, ⟨hw, rfl⟩, by rw [ht]; exact hP, va_K.moved hW.alike hK, hD⟩, hS.F ht⟩) hS.2.2 d_Cut_loss_19
set_option maxHeartbeats 4000000 in
set_option maxRecDepth 100000 in
theorem c_Cut_part (l : Launch) (hl9 : l.stackTraces = false) (dC : Nat → ClassId) (dI : Nat → Nat → Nat) (a : Nat → Nat) (cI cZ : ClassId) (v : Nat → Nat) (f : Nat → Nat → Nat) (w : Nat → Nat → Int32) (sz : Nat) (p0 : Int32) (z0 : Int) (h0 : p0.toInt = z0) (p1 : Int32) (z1 : Int) (h1 : p1.toInt = z1) (hI : zI v f) (hC : v 2 = 0 → zCP v f (f 4) (f 5) (w 0)) : vx_Met l y_Cut_part (zw_Cut_part :: zW) ({ frames := 6, cells := 1, slots := 6, locals := 104 }) (va_Pc [.ref (a 0), .int (p0), .int (p1)] (fun U => U.heap.size = sz ∧ va_P (dC, dI) vwCl (wC a cI cZ v f w) U.heap ∧ va_K (dC, dI) vwCl [(cI, .int), (cZ, .boolean)] U ∧ va_D (fun _ => True) (wC a cI cZ v f w) ∧ zX (va_A (wC a cI cZ v f w) sz) U U.heap)) (va_Qi (fun (r : Int32) (u : (Nat → Nat) × (Nat → Nat) × (Nat → Int32)) => k_part z0 z1 = 0 ∧ zCP v f u.1 u.2.1 u.2.2 ∧ r = zpart (v 3) (v 4) u.2.1 u.2.2 z0.toNat z1) (fun (u : (Nat → Nat) × (Nat → Nat) × (Nat → Int32)) t => match u with | (L, S, F) => va_P (dC, dI) vwCl (wC a cI cZ (zu v 2 (0)) (zu (zu f 4 (L)) 5 (S)) (zu w 0 (F))) t.heap ∧ va_K (dC, dI) vwCl [(cI, .int), (cZ, .boolean)] t ∧ va_D (va_A (wC a cI cZ v f w) sz) (wC a cI cZ (zu v 2 (0)) (zu (zu f 4 (L)) 5 (S)) (zu w 0 (F)))) (va_A (wC a cI cZ v f w) sz)) (vx_X (fun _ : Unit => True) (fun E _ t => ((E = "java/lang/IndexOutOfBoundsException" ∧ k_part z0 z1 = 1)) ∧ va_P (dC, dI) vwCl (wC a cI cZ v f w) t.heap ∧ va_K (dC, dI) vwCl [(cI, .int), (cZ, .boolean)] t ∧ va_D (va_A (wC a cI cZ v f w) sz) (wC a cI cZ v f w)) (va_A (wC a cI cZ v f w) sz)) 1 6 (va_A (wC a cI cZ v f w) sz) := by
  refine vx_ofW (cc := prog_1_method_10_code) (maxL := 4) (ret := (some .int)) (by decide) rfl ?_
  intro p e s m args below meth c s₁ B hml hno hv
  obtain ⟨rfl, hsz, hP, hK, hD0, hX9⟩ := hv
  have hx := B.exec
  have hb := B.bytes
  have hr := B.returns
  have hz : ∀ w ∈ zW, w.before ([.ref (a 0), .int (p0), .int (p1)]).toArray s = true := fun w h => atoms_spec (ws := (zw_Cut_part :: zW)) B.pre w (List.mem_cons_of_mem _ h)
  have hown : s.vm.findClass "CutLengths" = some m.cls := findClass_of_methodNamed B.named
  have hlocks := B.notSynchronized
  subst hsz
  have hD := hD0.self (sz := s.heap.size)
  generalize hAe : va_A (wC a cI cZ v f w) s.heap.size = A at hD hX9 ⊢
  have hA : ∀ q : Nat, s.heap.size ≤ q → A q := fun q h => by rw [← hAe]; exact Or.inr h
  have hS : va_S A s.heap s.heap [] := va_S.rf
  have hP : va_P (dC, dI) vwCl (wC a cI cZ v f w) s.heap := hP
  obtain ⟨hU9, hN9, hT9⟩ := hX9
  obtain ⟨i3, i4, i5, i6, i7, i8, i9, i10, i2, i0, i1, iw, ib, ic, isl⟩ := id hI
  have hl := lv_entry ([.ref (a 0), .int (p0), .int (p1)]) (n := 4) (Nat.le_of_ble_eq_true rfl)
  rw [lg_entry_eq]
  generalize (lg_sl ([.ref (a 0), .int (p0), .int (p1)]) ++ List.replicate (4 - (lg_sl ([.ref (a 0), .int (p0), .int (p1)])).length) Slot.unset).toArray = ls at hl ⊢
  have hl : lv_has ls 4 [(0, .ref (a 0)), (1, .int (p0)), (2, .int (p1))] := hl
  refine lv_iload_n hx hb d_Cut_part_0 rfl (lv_at hl 1 rfl) ?_
  refine lv_if_lt (tgt := 11) hx hb d_Cut_part_1 (by decide) (fun c_1 => ?_) (fun c_1 => ?_)
  · have c_1 : z0 < (0 : Int) := (zz_lt (h0) ((by decide))).mp c_1
    obtain ⟨sa, hsa⟩ := hT9.2.1 (143, "no such part or what") (by decide)
    exact vx_throwS (cls := "java/lang/IndexOutOfBoundsException") (names := ["java/lang/RuntimeException", "java/lang/Exception"]) (ik := 92) (is := 143) (ic := 96) hx hb hl9 hown (by decide) (by decide) (hz _ tw_359) (hz _ tw_27) hsa (zhat_IOB hz hT9) zgd_IOB hU9 hN9 hS (hl.1.trans hml.symm) d_Cut_part_11 d_Cut_part_14 d_Cut_part_15 d_Cut_part_17 d_Cut_part_20 (fun x hx9 => (hno x hx9).elim) (Nat.le_of_ble_eq_true rfl) (Nat.le_of_ble_eq_true rfl) (Nat.le_of_ble_eq_true rfl) (Nat.le_of_ble_eq_true rfl) hlocks (fun t9 ha hz9 hk9 => ⟨(), trivial, ⟨⟨rfl, (by unfold k_part; rw [if_pos (by omega)])⟩, hP.kept (fun k q hk => hk9 q.1 (vx_lt hP hk)), va_K.moved ha hK, hD⟩, ⟨hz9, fun q h1 _ => hk9 q h1⟩⟩) hS.2.2 (Nat.le_of_ble_eq_true rfl) (Nat.le_of_ble_eq_true rfl)
  · have c_1 : ¬ (z0 < (0 : Int)) := fun q => c_1 ((zz_lt (h0) ((by decide))).mpr q)
    refine lv_iload_n hx hb d_Cut_part_4 rfl (lv_at hl 2 rfl) ?_
    refine zz_ro (va_runS (As := [.int (p1)]) (rest := []) ⟨hx, hb, hml, hown, hz⟩ (c_Cut_isWhat l (p1) (z1) (h1)) (va_cwS 1 hz (zgS tw_419 tw_420 tw_15 tw_421) rfl rfl rfl (by decide +kernel) ⟨Nat.le_of_ble_eq_true rfl, Nat.le_of_ble_eq_true rfl⟩) ⟨fun _ _ _ _ q => q, fun U hU hW => ⟨rfl, trivial⟩⟩ rfl rfl hl.1 rfl (lv_room (Nat.le_of_ble_eq_true rfl)) d_Cut_part_5 ⟨Nat.zero_le _, Nat.zero_le _⟩) ?_
    by_cases q_5 : 0 ≤ (z1) ∧ (z1) ≤ 2
    · refine zz_top (congrArg nI (if_pos q_5)) ?_
      refine lv_if_ne (tgt := 21) hx hb d_Cut_part_8 (by decide) (fun _ => ?_) (fun c9 => absurd c9 (by decide))
      have hz31 : z0 < 2 ^ 31 := by rw [← h0]; exact Int32.toInt_lt p0
      refine lv_aload_n hx hb d_Cut_part_21 rfl (lv_at hl 0 rfl) ?_
      have hFc := va_free (wc := (wC a cI cZ v f w)) hD hS hA [0, 1, 2, 3, 4, 5, 6, 7, 8, 9, 10, 11, 12, 13, 14] rfl
      refine va_callv (va_runV (As := []) (rest := []) ⟨hx, hb, hml, hown, hz⟩ (c_Cut_renewPlan l dC dI a cI cZ v f w (s.heap).size hI hC) (cwV (C := "CutLengths") 0 hz (zgV tw_168 tw_170 tw_0 tw_15 tw_171) rfl rfl rfl (by decide +kernel) ⟨Nat.le_of_ble_eq_true rfl, Nat.le_of_ble_eq_true rfl⟩) ⟨(fun a U g mk q => by obtain ⟨q0, q1, qP, qK, qD⟩ := q; exact ⟨q0, q1, qP, va_K.moved (u := U) (U := U.calling g mk a) (Vm.Alike.refl U.vm) qK, qD⟩), va_recv hK hP (ci := 0) (q0 := 0) rfl rfl, fun U hU hW => ⟨rfl, by rw [hU], by rw [hU]; exact hP, va_K.moved hW.alike hK, hD.weaken (fun _ _ _ _ => trivial)⟩⟩ rfl rfl hl.1 rfl (lv_room (Nat.le_of_ble_eq_true rfl)) d_Cut_part_22 ⟨Nat.zero_le _, Nat.zero_le _⟩) hS (fun q _ h => hFc q h) hFc (fun u9 t9 H1 locs ht hvm hw hB hz1 hk1 hS => ?_)
      obtain ⟨L_22, S_22, F_22⟩ := u9
      obtain ⟨hP1, hK1, hD1⟩ := hB
      rw [ht] at hP1
      obtain ⟨hP, hD⟩ := va_join (wr := []) (w1 := (wC a cI cZ (zu v 2 (0)) (zu (zu f 4 (L_22)) 5 (S_22)) (zu w 0 (F_22)))) hP hD [0, 1, 2, 3, 4, 5, 6, 7, 8, 9, 10, 11, 12, 13, 14] [] rfl rfl (by decide) (by decide) hk1 hFc hP1 hD1
      generalize H1 = H at hP hS ⊢
      have hP : va_P (dC, dI) vwCl (wC a cI cZ (zu v 2 (0)) (zu (zu f 4 (L_22)) 5 (S_22)) (zu w 0 (F_22))) H := hP
      have hD : va_D A (wC a cI cZ (zu v 2 (0)) (zu (zu f 4 (L_22)) 5 (S_22)) (zu w 0 (F_22))) := hD
      have hcp : zCP v f L_22 S_22 F_22 := hw
      have hI : zI (zu v 2 0) f := ⟨i3, i4, i5, i6, i7, i8, i9, i10, Nat.zero_le _, i0, i1, iw, ib, ic, isl⟩
      have hE : ∀ p, v 4 ≤ p → p < v 3 → p < p + S_22 p ∧ p + S_22 p ≤ v 3 := fun p h1 h2 => zCP_E (v := v) (f := f) ⟨i3, i4, i5, i6, i7, i8, i9, i10, i2, i0, i1, iw, ib, ic, isl⟩ hcp _ p rfl h1 h2
      refine lv_aload_n hx hb d_Cut_part_25 rfl (lv_at hl 0 rfl) ?_
      refine va_get (D := (dC, dI)) (ci := 0) (v := .ref (a 7)) (C := "CutLengths") (T := T_Cut) (N := 7) hx hb hz i_Cut hown hK hP 0 rfl rfl 2 (by decide) (hz _ tw_144) (fun _ h9 => h9) rfl d_Cut_part_26 ?_
      refine lv_iload_n hx hb d_Cut_part_29 rfl (lv_at hl 1 rfl) ?_
      refine zz_top (zz_nat h0 (by omega)) ?_
      refine lv_aload_n hx hb d_Cut_part_30 rfl (lv_at hl 0 rfl) ?_
      refine va_get (D := (dC, dI)) (ci := 0) (v := .ref (a 1)) (C := "CutLengths") (T := T_Cut) (N := 7) hx hb hz i_Cut hown hK hP 0 rfl rfl 0 (by decide) (hz _ tw_142) (fun _ h9 => h9) rfl d_Cut_part_31 ?_
      refine zz_ro (va_runV (As := [.int (nI (z0.toNat)), .ref (a 1)]) (rest := []) ⟨hx, hb, hml, hown, hz⟩ (c_Plan_beginOfPart l dC dI a cI cZ (zu v 2 (0)) (zu (zu f 4 (L_22)) 5 (S_22)) (zu w 0 (F_22)) (z0.toNat) (by omega) hI hE) (cwV (C := "CutLengths$Plan") 2 hz (zgV tw_423 tw_424 tw_425 tw_18 tw_426) rfl rfl rfl (by decide +kernel) ⟨Nat.le_of_ble_eq_true rfl, Nat.le_of_ble_eq_true rfl⟩) ⟨(fun a U g mk q => ⟨q.1, q.2.1, va_K.moved (u := U) (U := U.calling g mk a) (Vm.Alike.refl U.vm) q.2.2⟩), va_recv hK hP (ci := 3) (q0 := 7) rfl rfl, fun U hU hW => ⟨rfl, by rw [hU]; exact hP, va_K.moved hW.alike hK⟩⟩ rfl rfl hl.1 rfl (lv_room (Nat.le_of_ble_eq_true rfl)) d_Cut_part_34 ⟨Nat.zero_le _, Nat.zero_le _⟩) ?_
      obtain ⟨X, hX⟩ : ∃ X, X = zit (fun p => p + S_22 p) (v 3) (min z0.toNat 300) (v 4) := ⟨_, rfl⟩
      refine zz_top (congrArg nI hX.symm) ?_
      have hXi := zit_in hE (min z0.toNat 300) (v 4) (Nat.le_refl _) i4
      rw [← hX] at hXi
      refine lv_istore_n (lv' := [(3, .int (nI (X))), (0, .ref (a 0)), (1, .int (p0)), (2, .int (p1))]) hx hb d_Cut_part_37 rfl hl (by decide) rfl (fun ls hl => ?_)
      refine lv_iload_n hx hb d_Cut_part_38 rfl (lv_at hl 0 rfl) ?_
      refine lv_aload_n hx hb d_Cut_part_39 rfl (lv_at hl 1 rfl) ?_
      refine va_get (D := (dC, dI)) (ci := 0) (v := .ref (a 1)) (C := "CutLengths") (T := T_Cut) (N := 7) hx hb hz i_Cut hown hK hP 0 rfl rfl 0 (by decide) (hz _ tw_142) (fun _ h9 => h9) rfl d_Cut_part_40 ?_
      refine va_get (D := (dC, dI)) (ci := 1) (v := .int (nI (v 3))) (C := "CutLengths$Strand") (T := T_Strand) (N := 8) hx hb hz i_Strand hown hK hP 1 rfl rfl 0 (by decide) (hz _ tw_45) (fun _ h9 => h9) rfl d_Cut_part_43 ?_
      refine lv_icmp_lt (tgt := 52) hx hb d_Cut_part_46 (by decide) (fun c_46 => ?_) (fun c_46 => ?_)
      · have c_46 : ((X : Nat) : Int) < ((v 3 : Nat) : Int) := (zz_lt (nI_toInt (by omega)) (nI_toInt (by omega))).mp c_46
        refine lv_iload_n hx hb d_Cut_part_52 rfl (lv_at hl 3 rfl) ?_
        refine lv_aload_n hx hb d_Cut_part_53 rfl (lv_at hl 1 rfl) ?_
        refine va_get (D := (dC, dI)) (ci := 0) (v := .ref (a 7)) (C := "CutLengths") (T := T_Cut) (N := 7) hx hb hz i_Cut hown hK hP 0 rfl rfl 2 (by decide) (hz _ tw_144) (fun _ h9 => h9) rfl d_Cut_part_54 ?_
        refine va_get (D := (dC, dI)) (ci := 3) (v := .ref (a 9)) (C := "CutLengths$Plan") (T := T_Plan) (N := 3) hx hb hz i_Plan hown hK hP 7 rfl rfl 1 (by decide) (hz _ tw_109) (fun _ h9 => h9) rfl d_Cut_part_57 ?_
        refine lv_iload_n hx hb d_Cut_part_60 rfl (lv_at hl 0 rfl) ?_
        refine zz_iald hx hb hK hP 9 0 (f := F_22) (i := X) rfl rfl (by omega) (by decide) d_Cut_part_61 ?_
        refine lv_iload_n hx hb d_Cut_part_62 rfl (lv_at hl 0 rfl) ?_
        refine lv_aload_n hx hb d_Cut_part_63 rfl (lv_at hl 1 rfl) ?_
        refine va_get (D := (dC, dI)) (ci := 0) (v := .ref (a 7)) (C := "CutLengths") (T := T_Cut) (N := 7) hx hb hz i_Cut hown hK hP 0 rfl rfl 2 (by decide) (hz _ tw_144) (fun _ h9 => h9) rfl d_Cut_part_64 ?_
        refine va_get (D := (dC, dI)) (ci := 3) (v := .ref (a 10)) (C := "CutLengths$Plan") (T := T_Plan) (N := 3) hx hb hz i_Plan hown hK hP 7 rfl rfl 2 (by decide) (hz _ tw_111) (fun _ h9 => h9) rfl d_Cut_part_67 ?_
        refine lv_iload_n hx hb d_Cut_part_70 rfl (lv_at hl 0 rfl) ?_
        refine zz_nald hx hb hK hP 10 0 (f := S_22) (i := X) rfl rfl (by omega) (by decide) d_Cut_part_71 ?_
        refine zz_ro (va_runS (As := [.int (p1), .int ((F_22) X), .int (nI (X)), .int (nI ((S_22) X))]) (rest := []) ⟨hx, hb, hml, hown, hz⟩ (c_Cut_pick l (p1) ((F_22) X) (nI (X)) (nI ((S_22) X)) (z1) (h1)) (va_cwS 4 hz (zgS tw_427 tw_428 tw_15 tw_429) rfl rfl rfl (by decide +kernel) ⟨Nat.le_of_ble_eq_true rfl, Nat.le_of_ble_eq_true rfl⟩) ⟨fun _ _ _ _ q => q, fun U hU hW => ⟨rfl, trivial⟩⟩ rfl rfl hl.1 rfl (lv_room (Nat.le_of_ble_eq_true rfl)) d_Cut_part_72 ⟨Nat.zero_le _, Nat.zero_le _⟩) ?_
        refine W.widen (k := 1) (n := 6) (Nat.le_of_ble_eq_true rfl) (Nat.le_of_ble_eq_true rfl) ?_
        refine vx_ret ?_
        exact W.iret (v := (if (z1) = 0 then (F_22) X else if (z1) = 1 then nI (X) else nI ((S_22) X))) hx hb hr (fun t9 ht hW => ⟨⟨(if (z1) = 0 then (F_22) X else if (z1) = 1 then nI (X) else nI ((S_22) X)), (L_22, S_22, F_22), rfl, ⟨(by unfold k_part; rw [if_neg (by omega)]), hcp, by unfold zpart; rw [← hX, if_pos (show X < v 3 from by omega)]⟩, by rw [ht]; exact hP, va_K.moved hW.alike hK, hD⟩, hS.F ht⟩) hS.2.2 d_Cut_part_75
      · have c_46 : ¬ (((X : Nat) : Int) < ((v 3 : Nat) : Int)) := fun q => c_46 ((zz_lt (nI_toInt (by omega)) (nI_toInt (by omega))).mpr q)
        refine lv_bipush (v := -2) hx hb d_Cut_part_49 (by decide) ?_
        refine W.widen (k := 1) (n := 6) (Nat.le_of_ble_eq_true rfl) (Nat.le_of_ble_eq_true rfl) ?_
        refine vx_ret ?_
        exact W.iret (v := -2) hx hb hr (fun t9 ht hW => ⟨⟨-2, (L_22, S_22, F_22), rfl, ⟨(by unfold k_part; rw [if_neg (by omega)]), hcp, by unfold zpart; rw [← hX, if_neg (show ¬ X < v 3 from by omega)]⟩, by rw [ht]; exact hP, va_K.moved hW.alike hK, hD⟩, hS.F ht⟩) hS.2.2 d_Cut_part_51
    · refine zz_top (congrArg nI (if_neg q_5)) ?_
      refine lv_if_ne (tgt := 21) hx hb d_Cut_part_8 (by decide) (fun c9 => absurd c9 (by decide)) (fun _ => ?_)
      obtain ⟨sa, hsa⟩ := hT9.2.1 (143, "no such part or what") (by decide)
      exact vx_throwS (cls := "java/lang/IndexOutOfBoundsException") (names := ["java/lang/RuntimeException", "java/lang/Exception"]) (ik := 92) (is := 143) (ic := 96) hx hb hl9 hown (by decide) (by decide) (hz _ tw_359) (hz _ tw_27) hsa (zhat_IOB hz hT9) zgd_IOB hU9 hN9 hS (hl.1.trans hml.symm) d_Cut_part_11 d_Cut_part_14 d_Cut_part_15 d_Cut_part_17 d_Cut_part_20 (fun x hx9 => (hno x hx9).elim) (Nat.le_of_ble_eq_true rfl) (Nat.le_of_ble_eq_true rfl) (Nat.le_of_ble_eq_true rfl) (Nat.le_of_ble_eq_true rfl) hlocks (fun t9 ha hz9 hk9 => ⟨(), trivial, ⟨⟨rfl, (by unfold k_part; rw [if_pos (by omega)])⟩, hP.kept (fun k q hk => hk9 q.1 (vx_lt hP hk)), va_K.moved ha hK, hD⟩, ⟨hz9, fun q h1 _ => hk9 q h1⟩⟩) hS.2.2 (Nat.le_of_ble_eq_true rfl) (Nat.le_of_ble_eq_true rfl)
set_option maxHeartbeats 4000000 in
set_option maxRecDepth 100000 in
theorem c_Cut_cut (l : Launch) (hl9 : l.stackTraces = false) (dC : Nat → ClassId) (dI : Nat → Nat → Nat) (a : Nat → Nat) (cI cZ : ClassId) (v : Nat → Nat) (f : Nat → Nat → Nat) (w : Nat → Nat → Int32) (sz : Nat)  (hI : zI v f) (hC : v 2 = 0 → zCP v f (f 4) (f 5) (w 0)) : vx_Met l y_Cut_cut (zw_Cut_cut :: zW) ({ frames := 6, cells := 1, slots := 6, locals := 104 }) (va_Pc [.ref (a 0)] (fun U => U.heap.size = sz ∧ va_P (dC, dI) vwCl (wC a cI cZ v f w) U.heap ∧ va_K (dC, dI) vwCl [(cI, .int), (cZ, .boolean)] U ∧ va_D (fun _ => True) (wC a cI cZ v f w) ∧ zX (va_A (wC a cI cZ v f w) sz) U U.heap)) (va_Qi (fun (r : Int32) (u : (Nat → Nat) × (Nat → Nat) × (Nat → Int32)) => k_cut (v 4) (v 3) (v 10) = 0 ∧ zCP v f u.1 u.2.1 u.2.2 ∧ r = nI (v 10)) (fun (u : (Nat → Nat) × (Nat → Nat) × (Nat → Int32)) t => match u with | (L, S, F) => va_P (dC, dI) vwCl (wC a cI cZ (zu (zu (zu v 2 (0)) 10 (v 10 + 1)) 4 (v 4 + S (v 4))) (zu (zu (zu (zu f 4 (L)) 5 (S)) 6 (va_up (f 6) (v 10) (v 4))) 7 (va_up (f 7) (v 10) (S (v 4)))) (zu (zu w 0 (F)) 1 (va_up (w 1) (v 10) (F (v 4))))) t.heap ∧ va_K (dC, dI) vwCl [(cI, .int), (cZ, .boolean)] t ∧ va_D (va_A (wC a cI cZ v f w) sz) (wC a cI cZ (zu (zu (zu v 2 (0)) 10 (v 10 + 1)) 4 (v 4 + S (v 4))) (zu (zu (zu (zu f 4 (L)) 5 (S)) 6 (va_up (f 6) (v 10) (v 4))) 7 (va_up (f 7) (v 10) (S (v 4)))) (zu (zu w 0 (F)) 1 (va_up (w 1) (v 10) (F (v 4)))))) (va_A (wC a cI cZ v f w) sz)) (vx_X (fun _ : Unit => True) (fun E _ t => ((E = "java/lang/IllegalStateException" ∧ k_cut (v 4) (v 3) (v 10) = 1) ∨ (E = "java/lang/UnsupportedOperationException" ∧ k_cut (v 4) (v 3) (v 10) = 2)) ∧ va_P (dC, dI) vwCl (wC a cI cZ v f w) t.heap ∧ va_K (dC, dI) vwCl [(cI, .int), (cZ, .boolean)] t ∧ va_D (va_A (wC a cI cZ v f w) sz) (wC a cI cZ v f w)) (va_A (wC a cI cZ v f w) sz)) 1 6 (va_A (wC a cI cZ v f w) sz) := by
  refine vx_ofW (cc := prog_1_method_11_code) (maxL := 3) (ret := (some .int)) (by decide) rfl ?_
  intro p e s m args below meth c s₁ B hml hno hv
  obtain ⟨rfl, hsz, hP, hK, hD0, hX9⟩ := hv
  have hx := B.exec
  have hb := B.bytes
  have hr := B.returns
  have hz : ∀ w ∈ zW, w.before ([.ref (a 0)]).toArray s = true := fun w h => atoms_spec (ws := (zw_Cut_cut :: zW)) B.pre w (List.mem_cons_of_mem _ h)
  have hown : s.vm.findClass "CutLengths" = some m.cls := findClass_of_methodNamed B.named
  have hlocks := B.notSynchronized
  subst hsz
  have hD := hD0.self (sz := s.heap.size)
  generalize hAe : va_A (wC a cI cZ v f w) s.heap.size = A at hD hX9 ⊢
  have hA : ∀ q : Nat, s.heap.size ≤ q → A q := fun q h => by rw [← hAe]; exact Or.inr h
  have hS : va_S A s.heap s.heap [] := va_S.rf
  have hP : va_P (dC, dI) vwCl (wC a cI cZ v f w) s.heap := hP
  obtain ⟨hU9, hN9, hT9⟩ := hX9
  obtain ⟨i3, i4, i5, i6, i7, i8, i9, i10, i2, i0, i1, iw, ib, ic, isl⟩ := id hI
  have hl := lv_entry ([.ref (a 0)]) (n := 3) (Nat.le_of_ble_eq_true rfl)
  rw [lg_entry_eq]
  generalize (lg_sl ([.ref (a 0)]) ++ List.replicate (3 - (lg_sl ([.ref (a 0)])).length) Slot.unset).toArray = ls at hl ⊢
  have hl : lv_has ls 3 [(0, .ref (a 0))] := hl
  refine lv_aload_n hx hb d_Cut_cut_0 rfl (lv_at hl 0 rfl) ?_
  refine va_get (D := (dC, dI)) (ci := 0) (v := .ref (a 1)) (C := "CutLengths") (T := T_Cut) (N := 7) hx hb hz i_Cut hown hK hP 0 rfl rfl 0 (by decide) (hz _ tw_142) (fun _ h9 => h9) rfl d_Cut_cut_1 ?_
  refine va_get (D := (dC, dI)) (ci := 1) (v := .int (nI (v 4))) (C := "CutLengths$Strand") (T := T_Strand) (N := 8) hx hb hz i_Strand hown hK hP 1 rfl rfl 1 (by decide) (hz _ tw_48) (fun _ h9 => h9) rfl d_Cut_cut_4 ?_
  refine lv_aload_n hx hb d_Cut_cut_7 rfl (lv_at hl 0 rfl) ?_
  refine va_get (D := (dC, dI)) (ci := 0) (v := .ref (a 1)) (C := "CutLengths") (T := T_Cut) (N := 7) hx hb hz i_Cut hown hK hP 0 rfl rfl 0 (by decide) (hz _ tw_142) (fun _ h9 => h9) rfl d_Cut_cut_8 ?_
  refine va_get (D := (dC, dI)) (ci := 1) (v := .int (nI (v 3))) (C := "CutLengths$Strand") (T := T_Strand) (N := 8) hx hb hz i_Strand hown hK hP 1 rfl rfl 0 (by decide) (hz _ tw_45) (fun _ h9 => h9) rfl d_Cut_cut_11 ?_
  refine lv_icmp_lt (tgt := 27) hx hb d_Cut_cut_14 (by decide) (fun c_14 => ?_) (fun c_14 => ?_)
  · have c_14 : ((v 4 : Nat) : Int) < ((v 3 : Nat) : Int) := (zz_lt (nI_toInt (by omega)) (nI_toInt (by omega))).mp c_14
    refine lv_aload_n hx hb d_Cut_cut_27 rfl (lv_at hl 0 rfl) ?_
    refine va_get (D := (dC, dI)) (ci := 0) (v := .ref (a 11)) (C := "CutLengths") (T := T_Cut) (N := 7) hx hb hz i_Cut hown hK hP 0 rfl rfl 3 (by decide) (hz _ tw_145) (fun _ h9 => h9) rfl d_Cut_cut_28 ?_
    refine va_get (D := (dC, dI)) (ci := 4) (v := .int (nI (v 10))) (C := "CutLengths$Slabs") (T := T_Slabs) (N := 4) hx hb hz i_Slabs hown hK hP 11 rfl rfl 0 (by decide) (hz _ tw_126) (fun _ h9 => h9) rfl d_Cut_cut_31 ?_
    refine lv_bipush (v := nI (100)) hx hb d_Cut_cut_34 (by decide) ?_
    refine lv_icmp_lt (tgt := 49) hx hb d_Cut_cut_36 (by decide) (fun c_36 => ?_) (fun c_36 => ?_)
    · have c_36 : ((v 10 : Nat) : Int) < (100 : Int) := (zz_lt (nI_toInt (by omega)) ((by decide))).mp c_36
      refine lv_aload_n hx hb d_Cut_cut_49 rfl (lv_at hl 0 rfl) ?_
      have hFc := va_free (wc := (wC a cI cZ v f w)) hD hS hA [0, 1, 2, 3, 4, 5, 6, 7, 8, 9, 10, 11, 12, 13, 14] rfl
      refine va_callv (va_runV (As := []) (rest := []) ⟨hx, hb, hml, hown, hz⟩ (c_Cut_renewPlan l dC dI a cI cZ v f w (s.heap).size hI hC) (cwV (C := "CutLengths") 0 hz (zgV tw_168 tw_170 tw_0 tw_15 tw_171) rfl rfl rfl (by decide +kernel) ⟨Nat.le_of_ble_eq_true rfl, Nat.le_of_ble_eq_true rfl⟩) ⟨(fun a U g mk q => by obtain ⟨q0, q1, qP, qK, qD⟩ := q; exact ⟨q0, q1, qP, va_K.moved (u := U) (U := U.calling g mk a) (Vm.Alike.refl U.vm) qK, qD⟩), va_recv hK hP (ci := 0) (q0 := 0) rfl rfl, fun U hU hW => ⟨rfl, by rw [hU], by rw [hU]; exact hP, va_K.moved hW.alike hK, hD.weaken (fun _ _ _ _ => trivial)⟩⟩ rfl rfl hl.1 rfl (lv_room (Nat.le_of_ble_eq_true rfl)) d_Cut_cut_50 ⟨Nat.zero_le _, Nat.zero_le _⟩) hS (fun q _ h => hFc q h) hFc (fun u9 t9 H1 locs ht hvm hw hB hz1 hk1 hS => ?_)
      obtain ⟨L_50, S_50, F_50⟩ := u9
      obtain ⟨hP1, hK1, hD1⟩ := hB
      rw [ht] at hP1
      obtain ⟨hP, hD⟩ := va_join (wr := []) (w1 := (wC a cI cZ (zu v 2 (0)) (zu (zu f 4 (L_50)) 5 (S_50)) (zu w 0 (F_50)))) hP hD [0, 1, 2, 3, 4, 5, 6, 7, 8, 9, 10, 11, 12, 13, 14] [] rfl rfl (by decide) (by decide) hk1 hFc hP1 hD1
      generalize H1 = H at hP hS ⊢
      have hP : va_P (dC, dI) vwCl (wC a cI cZ (zu v 2 (0)) (zu (zu f 4 (L_50)) 5 (S_50)) (zu w 0 (F_50))) H := hP
      have hD : va_D A (wC a cI cZ (zu v 2 (0)) (zu (zu f 4 (L_50)) 5 (S_50)) (zu w 0 (F_50))) := hD
      have hcp : zCP v f L_50 S_50 F_50 := hw
      have hI : zI (zu v 2 0) f := ⟨i3, i4, i5, i6, i7, i8, i9, i10, Nat.zero_le _, i0, i1, iw, ib, ic, isl⟩
      have hE : ∀ p, v 4 ≤ p → p < v 3 → p < p + S_50 p ∧ p + S_50 p ≤ v 3 := fun p h1 h2 => zCP_E (v := v) (f := f) ⟨i3, i4, i5, i6, i7, i8, i9, i10, i2, i0, i1, iw, ib, ic, isl⟩ hcp _ p rfl h1 h2
      refine lv_aload_n hx hb d_Cut_cut_53 rfl (lv_at hl 0 rfl) ?_
      refine va_get (D := (dC, dI)) (ci := 0) (v := .ref (a 1)) (C := "CutLengths") (T := T_Cut) (N := 7) hx hb hz i_Cut hown hK hP 0 rfl rfl 0 (by decide) (hz _ tw_142) (fun _ h9 => h9) rfl d_Cut_cut_54 ?_
      refine va_get (D := (dC, dI)) (ci := 1) (v := .int (nI (v 4))) (C := "CutLengths$Strand") (T := T_Strand) (N := 8) hx hb hz i_Strand hown hK hP 1 rfl rfl 1 (by decide) (hz _ tw_48) (fun _ h9 => h9) rfl d_Cut_cut_57 ?_
      refine lv_istore_n (lv' := [(1, .int (nI (v 4))), (0, .ref (a 0))]) hx hb d_Cut_cut_60 rfl hl (by decide) rfl (fun ls hl => ?_)
      refine lv_aload_n hx hb d_Cut_cut_61 rfl (lv_at hl 1 rfl) ?_
      refine va_get (D := (dC, dI)) (ci := 0) (v := .ref (a 11)) (C := "CutLengths") (T := T_Cut) (N := 7) hx hb hz i_Cut hown hK hP 0 rfl rfl 3 (by decide) (hz _ tw_145) (fun _ h9 => h9) rfl d_Cut_cut_62 ?_
      refine va_get (D := (dC, dI)) (ci := 4) (v := .int (nI (v 10))) (C := "CutLengths$Slabs") (T := T_Slabs) (N := 4) hx hb hz i_Slabs hown hK hP 11 rfl rfl 0 (by decide) (hz _ tw_126) (fun _ h9 => h9) rfl d_Cut_cut_65 ?_
      refine lv_istore_n (lv' := [(2, .int (nI (v 10))), (1, .int (nI (v 4))), (0, .ref (a 0))]) hx hb d_Cut_cut_68 rfl hl (by decide) rfl (fun ls hl => ?_)
      refine lv_aload_n hx hb d_Cut_cut_69 rfl (lv_at hl 2 rfl) ?_
      refine va_get (D := (dC, dI)) (ci := 0) (v := .ref (a 11)) (C := "CutLengths") (T := T_Cut) (N := 7) hx hb hz i_Cut hown hK hP 0 rfl rfl 3 (by decide) (hz _ tw_145) (fun _ h9 => h9) rfl d_Cut_cut_70 ?_
      refine lv_aload_n hx hb d_Cut_cut_73 rfl (lv_at hl 2 rfl) ?_
      refine va_get (D := (dC, dI)) (ci := 0) (v := .ref (a 7)) (C := "CutLengths") (T := T_Cut) (N := 7) hx hb hz i_Cut hown hK hP 0 rfl rfl 2 (by decide) (hz _ tw_144) (fun _ h9 => h9) rfl d_Cut_cut_74 ?_
      refine va_get (D := (dC, dI)) (ci := 3) (v := .ref (a 9)) (C := "CutLengths$Plan") (T := T_Plan) (N := 3) hx hb hz i_Plan hown hK hP 7 rfl rfl 1 (by decide) (hz _ tw_109) (fun _ h9 => h9) rfl d_Cut_cut_77 ?_
      refine lv_iload_n hx hb d_Cut_cut_80 rfl (lv_at hl 1 rfl) ?_
      refine zz_iald hx hb hK hP 9 0 (f := F_50) (i := v 4) rfl rfl (by omega) (by decide) d_Cut_cut_81 ?_
      refine lv_iload_n hx hb d_Cut_cut_82 rfl (lv_at hl 1 rfl) ?_
      refine lv_aload_n hx hb d_Cut_cut_83 rfl (lv_at hl 2 rfl) ?_
      refine va_get (D := (dC, dI)) (ci := 0) (v := .ref (a 7)) (C := "CutLengths") (T := T_Cut) (N := 7) hx hb hz i_Cut hown hK hP 0 rfl rfl 2 (by decide) (hz _ tw_144) (fun _ h9 => h9) rfl d_Cut_cut_84 ?_
      refine va_get (D := (dC, dI)) (ci := 3) (v := .ref (a 10)) (C := "CutLengths$Plan") (T := T_Plan) (N := 3) hx hb hz i_Plan hown hK hP 7 rfl rfl 2 (by decide) (hz _ tw_111) (fun _ h9 => h9) rfl d_Cut_cut_87 ?_
      refine lv_iload_n hx hb d_Cut_cut_90 rfl (lv_at hl 1 rfl) ?_
      refine zz_nald hx hb hK hP 10 0 (f := S_50) (i := v 4) rfl rfl (by omega) (by decide) d_Cut_cut_91 ?_
      have hFc := va_free (wc := (wC a cI cZ (zu v 2 (0)) (zu (zu f 4 (L_50)) 5 (S_50)) (zu w 0 (F_50)))) hD hS hA [0, 1, 2, 3, 4, 5, 6, 7, 8, 9, 10, 11, 12, 13, 14] rfl
      refine va_callv (va_runV (As := [.int ((F_50) (v 4)), .int (nI (v 4)), .int (nI ((S_50) (v 4)))]) (rest := []) ⟨hx, hb, hml, hown, hz⟩ (c_Slabs_append l dC dI a cI cZ (zu v 2 (0)) (zu (zu f 4 (L_50)) 5 (S_50)) (zu w 0 (F_50)) (H).size ((F_50) (v 4)) (v 4) ((S_50) (v 4)) (show v 10 < 100 from by omega)) (cwV (C := "CutLengths$Slabs") 3 hz (zgV tw_439 tw_440 tw_441 tw_19 tw_442) rfl rfl rfl (by decide +kernel) ⟨Nat.le_of_ble_eq_true rfl, Nat.le_of_ble_eq_true rfl⟩) ⟨(fun a U g mk q => by obtain ⟨q0, q1, qP, qK, qD⟩ := q; exact ⟨q0, q1, qP, va_K.moved (u := U) (U := U.calling g mk a) (Vm.Alike.refl U.vm) qK, qD⟩), va_recv hK hP (ci := 4) (q0 := 11) rfl rfl, fun U hU hW => ⟨rfl, by rw [hU], by rw [hU]; exact hP, va_K.moved hW.alike hK, hD.weaken (fun _ _ _ _ => trivial)⟩⟩ rfl rfl hl.1 rfl (lv_room (Nat.le_of_ble_eq_true rfl)) d_Cut_cut_92 ⟨Nat.zero_le _, Nat.zero_le _⟩) hS (fun q _ h => hFc q h) hFc (fun u9 t9 H1 locs ht hvm hw hB hz1 hk1 hS => ?_)
      obtain ⟨hP1, hK1, hD1⟩ := hB
      rw [ht] at hP1
      obtain ⟨hP, hD⟩ := va_join (wr := []) (w1 := (wC a cI cZ (zu (zu v 2 (0)) 10 ((v 10) + 1)) (zu (zu (zu (zu f 4 (L_50)) 5 (S_50)) 6 (va_up (f 6) (v 10) (v 4))) 7 (va_up (f 7) (v 10) ((S_50) (v 4)))) (zu (zu w 0 (F_50)) 1 (va_up (w 1) (v 10) ((F_50) (v 4)))))) hP hD [0, 1, 2, 3, 4, 5, 6, 7, 8, 9, 10, 11, 12, 13, 14] [] rfl rfl (by decide) (by decide) hk1 hFc hP1 hD1
      generalize H1 = H at hP hS ⊢
      have hP : va_P (dC, dI) vwCl (wC a cI cZ (zu (zu v 2 (0)) 10 ((v 10) + 1)) (zu (zu (zu (zu f 4 (L_50)) 5 (S_50)) 6 (va_up (f 6) (v 10) (v 4))) 7 (va_up (f 7) (v 10) ((S_50) (v 4)))) (zu (zu w 0 (F_50)) 1 (va_up (w 1) (v 10) ((F_50) (v 4))))) H := hP
      have hD : va_D A (wC a cI cZ (zu (zu v 2 (0)) 10 ((v 10) + 1)) (zu (zu (zu (zu f 4 (L_50)) 5 (S_50)) 6 (va_up (f 6) (v 10) (v 4))) 7 (va_up (f 7) (v 10) ((S_50) (v 4)))) (zu (zu w 0 (F_50)) 1 (va_up (w 1) (v 10) ((F_50) (v 4))))) := hD
      refine lv_aload_n hx hb d_Cut_cut_95 rfl (lv_at hl 2 rfl) ?_
      refine va_get (D := (dC, dI)) (ci := 0) (v := .ref (a 1)) (C := "CutLengths") (T := T_Cut) (N := 7) hx hb hz i_Cut hown hK hP 0 rfl rfl 0 (by decide) (hz _ tw_142) (fun _ h9 => h9) rfl d_Cut_cut_96 ?_
      refine lv_iload_n hx hb d_Cut_cut_99 rfl (lv_at hl 1 rfl) ?_
      refine lv_aload_n hx hb d_Cut_cut_100 rfl (lv_at hl 2 rfl) ?_
      refine va_get (D := (dC, dI)) (ci := 0) (v := .ref (a 7)) (C := "CutLengths") (T := T_Cut) (N := 7) hx hb hz i_Cut hown hK hP 0 rfl rfl 2 (by decide) (hz _ tw_144) (fun _ h9 => h9) rfl d_Cut_cut_101 ?_
      refine va_get (D := (dC, dI)) (ci := 3) (v := .ref (a 10)) (C := "CutLengths$Plan") (T := T_Plan) (N := 3) hx hb hz i_Plan hown hK hP 7 rfl rfl 2 (by decide) (hz _ tw_111) (fun _ h9 => h9) rfl d_Cut_cut_104 ?_
      refine lv_iload_n hx hb d_Cut_cut_107 rfl (lv_at hl 1 rfl) ?_
      refine zz_nald hx hb hK hP 10 0 (f := S_50) (i := v 4) rfl rfl (by omega) (by decide) d_Cut_cut_108 ?_
      refine lv_iadd hx hb d_Cut_cut_109 ?_
      refine zz_top (nI_add (v 4) ((S_50) (v 4))) ?_
      refine va_put (D := (dC, dI)) (ci := 1) (v := .int (nI ((v 4) + ((S_50) (v 4))))) (ty := .int) (C := "CutLengths$Strand") (T := T_Strand) (N := 8) hx hb hz i_Strand t_Strand t_Strand_ok n_Strand hown hK hP hD hS 1 rfl rfl 1 (by decide) (hz _ tw_48) (fun _ h9 => h9) rfl (by decide +kernel) rfl rfl (Nat.le_of_ble_eq_true rfl) d_Cut_cut_110 (fun H locs hP hD hS => ?_)
      have hP : va_P (dC, dI) vwCl (wC a cI cZ (zu (zu (zu v 2 (0)) 10 ((v 10) + 1)) 4 ((v 4) + ((S_50) (v 4)))) (zu (zu (zu (zu f 4 (L_50)) 5 (S_50)) 6 (va_up (f 6) (v 10) (v 4))) 7 (va_up (f 7) (v 10) ((S_50) (v 4)))) (zu (zu w 0 (F_50)) 1 (va_up (w 1) (v 10) ((F_50) (v 4))))) H := hP
      have hD : va_D A (wC a cI cZ (zu (zu (zu v 2 (0)) 10 ((v 10) + 1)) 4 ((v 4) + ((S_50) (v 4)))) (zu (zu (zu (zu f 4 (L_50)) 5 (S_50)) 6 (va_up (f 6) (v 10) (v 4))) 7 (va_up (f 7) (v 10) ((S_50) (v 4)))) (zu (zu w 0 (F_50)) 1 (va_up (w 1) (v 10) ((F_50) (v 4))))) := hD
      refine lv_iload_n hx hb d_Cut_cut_113 rfl (lv_at hl 0 rfl) ?_
      refine W.widen (k := 1) (n := 6) (Nat.le_of_ble_eq_true rfl) (Nat.le_of_ble_eq_true rfl) ?_
      refine vx_ret ?_
      exact W.iret (v := nI (v 10)) hx hb hr (fun t9 ht hW => ⟨⟨nI (v 10), (L_50, S_50, F_50), rfl, ⟨(by unfold k_cut; rw [if_neg (by omega), if_neg (by omega)]), hcp, rfl⟩, by rw [ht]; exact hP, va_K.moved hW.alike hK, hD⟩, hS.F ht⟩) hS.2.2 d_Cut_cut_114
    · have c_36 : ¬ (((v 10 : Nat) : Int) < (100 : Int)) := fun q => c_36 ((zz_lt (nI_toInt (by omega)) ((by decide))).mpr q)
      obtain ⟨sa, hsa⟩ := hT9.2.1 (161, "no more slabs") (by decide)
      exact vx_throwS (cls := "java/lang/UnsupportedOperationException") (names := ["java/lang/RuntimeException", "java/lang/Exception"]) (ik := 74) (is := 161) (ic := 78) hx hb hl9 hown (by decide) (by decide) (hz _ tw_319) (hz _ tw_26) hsa (zhat_UOE hz hT9) zgd_UOE hU9 hN9 hS (hl.1.trans hml.symm) d_Cut_cut_39 d_Cut_cut_42 d_Cut_cut_43 d_Cut_cut_45 d_Cut_cut_48 (fun x hx9 => (hno x hx9).elim) (Nat.le_of_ble_eq_true rfl) (Nat.le_of_ble_eq_true rfl) (Nat.le_of_ble_eq_true rfl) (Nat.le_of_ble_eq_true rfl) hlocks (fun t9 ha hz9 hk9 => ⟨(), trivial, ⟨Or.inr ⟨rfl, (by unfold k_cut; rw [if_neg (by omega), if_pos (by omega)])⟩, hP.kept (fun k q hk => hk9 q.1 (vx_lt hP hk)), va_K.moved ha hK, hD⟩, ⟨hz9, fun q h1 _ => hk9 q h1⟩⟩) hS.2.2 (Nat.le_of_ble_eq_true rfl) (Nat.le_of_ble_eq_true rfl)
  · have c_14 : ¬ (((v 4 : Nat) : Int) < ((v 3 : Nat) : Int)) := fun q => c_14 ((zz_lt (nI_toInt (by omega)) (nI_toInt (by omega))).mpr q)
    obtain ⟨sa, hsa⟩ := hT9.2.1 (159, "nothing is ahead of the torch") (by decide)
    exact vx_throwS (cls := "java/lang/IllegalStateException") (names := ["java/lang/RuntimeException", "java/lang/Exception"]) (ik := 51) (is := 159) (ic := 55) hx hb hl9 hown (by decide) (by decide) (hz _ tw_220) (hz _ tw_24) hsa (zhat_ISE hz hT9) zgd_ISE hU9 hN9 hS (hl.1.trans hml.symm) d_Cut_cut_17 d_Cut_cut_20 d_Cut_cut_21 d_Cut_cut_23 d_Cut_cut_26 (fun x hx9 => (hno x hx9).elim) (Nat.le_of_ble_eq_true rfl) (Nat.le_of_ble_eq_true rfl) (Nat.le_of_ble_eq_true rfl) (Nat.le_of_ble_eq_true rfl) hlocks (fun t9 ha hz9 hk9 => ⟨(), trivial, ⟨Or.inl ⟨rfl, (by unfold k_cut; rw [if_pos (by omega)])⟩, hP.kept (fun k q hk => hk9 q.1 (vx_lt hP hk)), va_K.moved ha hK, hD⟩, ⟨hz9, fun q h1 _ => hk9 q h1⟩⟩) hS.2.2 (Nat.le_of_ble_eq_true rfl) (Nat.le_of_ble_eq_true rfl)
set_option maxHeartbeats 4000000 in
set_option maxRecDepth 100000 in
theorem c_Cut_slab (l : Launch) (hl9 : l.stackTraces = false) (dC : Nat → ClassId) (dI : Nat → Nat → Nat) (a : Nat → Nat) (cI cZ : ClassId) (v : Nat → Nat) (f : Nat → Nat → Nat) (w : Nat → Nat → Int32) (sz : Nat) (p0 : Int32) (z0 : Int) (h0 : p0.toInt = z0) (p1 : Int32) (z1 : Int) (h1 : p1.toInt = z1) (hI : zI v f) : vx_Met l y_Cut_slab (zw_Cut_slab :: zW) ({ frames := 6, cells := 1, slots := 6, locals := 90 }) (va_Pc [.ref (a 0), .int (p0), .int (p1)] (fun U => U.heap.size = sz ∧ va_P (dC, dI) vwCl (wC a cI cZ v f w) U.heap ∧ va_K (dC, dI) vwCl [(cI, .int), (cZ, .boolean)] U ∧ va_D (fun _ => True) (wC a cI cZ v f w) ∧ zX (va_A (wC a cI cZ v f w) sz) U U.heap)) (va_Qi (fun (r : Int32) (u : Unit) => k_slab (v 10) z0 z1 = 0 ∧ r = if z1 = 0 then w 1 z0.toNat else if z1 = 1 then nI (f 6 z0.toNat) else nI (f 7 z0.toNat)) (fun (_ : Unit) t => va_P (dC, dI) vwCl (wC a cI cZ v f w) t.heap ∧ va_K (dC, dI) vwCl [(cI, .int), (cZ, .boolean)] t ∧ va_D (va_A (wC a cI cZ v f w) sz) (wC a cI cZ v f w)) (va_A (wC a cI cZ v f w) sz)) (vx_X (fun _ : Unit => True) (fun E _ t => ((E = "java/lang/IndexOutOfBoundsException" ∧ k_slab (v 10) z0 z1 = 1)) ∧ va_P (dC, dI) vwCl (wC a cI cZ v f w) t.heap ∧ va_K (dC, dI) vwCl [(cI, .int), (cZ, .boolean)] t ∧ va_D (va_A (wC a cI cZ v f w) sz) (wC a cI cZ v f w)) (va_A (wC a cI cZ v f w) sz)) 1 6 (va_A (wC a cI cZ v f w) sz) := by
  refine vx_ofW (cc := prog_1_method_12_code) (maxL := 3) (ret := (some .int)) (by decide) rfl ?_
  intro p e s m args below meth c s₁ B hml hno hv
  obtain ⟨rfl, hsz, hP, hK, hD0, hX9⟩ := hv
  have hx := B.exec
  have hb := B.bytes
  have hr := B.returns
  have hz : ∀ w ∈ zW, w.before ([.ref (a 0), .int (p0), .int (p1)]).toArray s = true := fun w h => atoms_spec (ws := (zw_Cut_slab :: zW)) B.pre w (List.mem_cons_of_mem _ h)
  have hown : s.vm.findClass "CutLengths" = some m.cls := findClass_of_methodNamed B.named
  have hlocks := B.notSynchronized
  subst hsz
  have hD := hD0.self (sz := s.heap.size)
  generalize hAe : va_A (wC a cI cZ v f w) s.heap.size = A at hD hX9 ⊢
  have hA : ∀ q : Nat, s.heap.size ≤ q → A q := fun q h => by rw [← hAe]; exact Or.inr h
  have hS : va_S A s.heap s.heap [] := va_S.rf
  have hP : va_P (dC, dI) vwCl (wC a cI cZ v f w) s.heap := hP
  obtain ⟨hU9, hN9, hT9⟩ := hX9
  obtain ⟨i3, i4, i5, i6, i7, i8, i9, i10, i2, i0, i1, iw, ib, ic, isl⟩ := id hI
  have hl := lv_entry ([.ref (a 0), .int (p0), .int (p1)]) (n := 3) (Nat.le_of_ble_eq_true rfl)
  rw [lg_entry_eq]
  generalize (lg_sl ([.ref (a 0), .int (p0), .int (p1)]) ++ List.replicate (3 - (lg_sl ([.ref (a 0), .int (p0), .int (p1)])).length) Slot.unset).toArray = ls at hl ⊢
  have hl : lv_has ls 3 [(0, .ref (a 0)), (1, .int (p0)), (2, .int (p1))] := hl
  refine lv_aload_n hx hb d_Cut_slab_0 rfl (lv_at hl 0 rfl) ?_
  refine lv_iload_n hx hb d_Cut_slab_1 rfl (lv_at hl 1 rfl) ?_
  refine zz_ro (va_runV (As := [.int (p0)]) (rest := []) ⟨hx, hb, hml, hown, hz⟩ (c_Cut_isSlab l dC dI a cI cZ v f w (p0) (z0) (h0) hI) (cwV (C := "CutLengths") 1 hz (zgV tw_450 tw_452 tw_7 tw_15 tw_453) rfl rfl rfl (by decide +kernel) ⟨Nat.le_of_ble_eq_true rfl, Nat.le_of_ble_eq_true rfl⟩) ⟨(fun a U g mk q => ⟨q.1, q.2.1, va_K.moved (u := U) (U := U.calling g mk a) (Vm.Alike.refl U.vm) q.2.2⟩), va_recv hK hP (ci := 0) (q0 := 0) rfl rfl, fun U hU hW => ⟨rfl, by rw [hU]; exact hP, va_K.moved hW.alike hK⟩⟩ rfl rfl hl.1 rfl (lv_room (Nat.le_of_ble_eq_true rfl)) d_Cut_slab_2 ⟨Nat.zero_le _, Nat.zero_le _⟩) ?_
  by_cases q_2 : 0 ≤ z0 ∧ z0 < (v 10 : Nat)
  · refine zz_top (congrArg nI (if_pos q_2)) ?_
    refine lv_if_eq (tgt := 15) hx hb d_Cut_slab_5 (by decide) (fun c9 => absurd c9 (by decide)) (fun _ => ?_)
    refine lv_iload_n hx hb d_Cut_slab_8 rfl (lv_at hl 2 rfl) ?_
    refine zz_ro (va_runS (As := [.int (p1)]) (rest := []) ⟨hx, hb, hml, hown, hz⟩ (c_Cut_isWhat l (p1) (z1) (h1)) (va_cwS 1 hz (zgS tw_419 tw_420 tw_15 tw_421) rfl rfl rfl (by decide +kernel) ⟨Nat.le_of_ble_eq_true rfl, Nat.le_of_ble_eq_true rfl⟩) ⟨fun _ _ _ _ q => q, fun U hU hW => ⟨rfl, trivial⟩⟩ rfl rfl hl.1 rfl (lv_room (Nat.le_of_ble_eq_true rfl)) d_Cut_slab_9 ⟨Nat.zero_le _, Nat.zero_le _⟩) ?_
    by_cases q_9 : 0 ≤ (z1) ∧ (z1) ≤ 2
    · refine zz_top (congrArg nI (if_pos q_9)) ?_
      refine lv_if_ne (tgt := 25) hx hb d_Cut_slab_12 (by decide) (fun _ => ?_) (fun c9 => absurd c9 (by decide))
      refine lv_iload_n hx hb d_Cut_slab_25 rfl (lv_at hl 2 rfl) ?_
      refine lv_aload_n hx hb d_Cut_slab_26 rfl (lv_at hl 0 rfl) ?_
      refine va_get (D := (dC, dI)) (ci := 0) (v := .ref (a 11)) (C := "CutLengths") (T := T_Cut) (N := 7) hx hb hz i_Cut hown hK hP 0 rfl rfl 3 (by decide) (hz _ tw_145) (fun _ h9 => h9) rfl d_Cut_slab_27 ?_
      refine va_get (D := (dC, dI)) (ci := 4) (v := .ref (a 12)) (C := "CutLengths$Slabs") (T := T_Slabs) (N := 4) hx hb hz i_Slabs hown hK hP 11 rfl rfl 1 (by decide) (hz _ tw_128) (fun _ h9 => h9) rfl d_Cut_slab_30 ?_
      refine lv_iload_n hx hb d_Cut_slab_33 rfl (lv_at hl 1 rfl) ?_
      refine zz_top (zz_nat h0 (by omega)) ?_
      refine zz_iald hx hb hK hP 12 0 (f := w 1) (i := z0.toNat) rfl rfl (by omega) (by decide) d_Cut_slab_34 ?_
      refine lv_aload_n hx hb d_Cut_slab_35 rfl (lv_at hl 0 rfl) ?_
      refine va_get (D := (dC, dI)) (ci := 0) (v := .ref (a 11)) (C := "CutLengths") (T := T_Cut) (N := 7) hx hb hz i_Cut hown hK hP 0 rfl rfl 3 (by decide) (hz _ tw_145) (fun _ h9 => h9) rfl d_Cut_slab_36 ?_
      refine va_get (D := (dC, dI)) (ci := 4) (v := .ref (a 13)) (C := "CutLengths$Slabs") (T := T_Slabs) (N := 4) hx hb hz i_Slabs hown hK hP 11 rfl rfl 2 (by decide) (hz _ tw_130) (fun _ h9 => h9) rfl d_Cut_slab_39 ?_
      refine lv_iload_n hx hb d_Cut_slab_42 rfl (lv_at hl 1 rfl) ?_
      refine zz_top (zz_nat h0 (by omega)) ?_
      refine zz_nald hx hb hK hP 13 0 (f := f 6) (i := z0.toNat) rfl rfl (by omega) (by decide) d_Cut_slab_43 ?_
      refine lv_aload_n hx hb d_Cut_slab_44 rfl (lv_at hl 0 rfl) ?_
      refine va_get (D := (dC, dI)) (ci := 0) (v := .ref (a 11)) (C := "CutLengths") (T := T_Cut) (N := 7) hx hb hz i_Cut hown hK hP 0 rfl rfl 3 (by decide) (hz _ tw_145) (fun _ h9 => h9) rfl d_Cut_slab_45 ?_
      refine va_get (D := (dC, dI)) (ci := 4) (v := .ref (a 14)) (C := "CutLengths$Slabs") (T := T_Slabs) (N := 4) hx hb hz i_Slabs hown hK hP 11 rfl rfl 3 (by decide) (hz _ tw_132) (fun _ h9 => h9) rfl d_Cut_slab_48 ?_
      refine lv_iload_n hx hb d_Cut_slab_51 rfl (lv_at hl 1 rfl) ?_
      refine zz_top (zz_nat h0 (by omega)) ?_
      refine zz_nald hx hb hK hP 14 0 (f := f 7) (i := z0.toNat) rfl rfl (by omega) (by decide) d_Cut_slab_52 ?_
      refine zz_ro (va_runS (As := [.int (p1), .int (w 1 z0.toNat), .int (nI (f 6 z0.toNat)), .int (nI (f 7 z0.toNat))]) (rest := []) ⟨hx, hb, hml, hown, hz⟩ (c_Cut_pick l (p1) (w 1 z0.toNat) (nI (f 6 z0.toNat)) (nI (f 7 z0.toNat)) (z1) (h1)) (va_cwS 4 hz (zgS tw_427 tw_428 tw_15 tw_429) rfl rfl rfl (by decide +kernel) ⟨Nat.le_of_ble_eq_true rfl, Nat.le_of_ble_eq_true rfl⟩) ⟨fun _ _ _ _ q => q, fun U hU hW => ⟨rfl, trivial⟩⟩ rfl rfl hl.1 rfl (lv_room (Nat.le_of_ble_eq_true rfl)) d_Cut_slab_53 ⟨Nat.zero_le _, Nat.zero_le _⟩) ?_
      refine W.widen (k := 1) (n := 6) (Nat.le_of_ble_eq_true rfl) (Nat.le_of_ble_eq_true rfl) ?_
      refine vx_ret ?_
      exact W.iret (v := (if (z1) = 0 then w 1 z0.toNat else if (z1) = 1 then nI (f 6 z0.toNat) else nI (f 7 z0.toNat))) hx hb hr (fun t9 ht hW => ⟨⟨(if (z1) = 0 then w 1 z0.toNat else if (z1) = 1 then nI (f 6 z0.toNat) else nI (f 7 z0.toNat)), (), rfl, ⟨(by unfold k_slab; rw [if_neg (by omega)]), rfl⟩, by rw [ht]; exact hP, va_K.moved hW.alike hK, hD⟩, hS.F ht⟩) hS.2.2 d_Cut_slab_56
    · refine zz_top (congrArg nI (if_neg q_9)) ?_
      refine lv_if_ne (tgt := 25) hx hb d_Cut_slab_12 (by decide) (fun c9 => absurd c9 (by decide)) (fun _ => ?_)
      obtain ⟨sa, hsa⟩ := hT9.2.1 (169, "no such slab or what") (by decide)
      exact vx_throwS (cls := "java/lang/IndexOutOfBoundsException") (names := ["java/lang/RuntimeException", "java/lang/Exception"]) (ik := 92) (is := 169) (ic := 96) hx hb hl9 hown (by decide) (by decide) (hz _ tw_359) (hz _ tw_27) hsa (zhat_IOB hz hT9) zgd_IOB hU9 hN9 hS (hl.1.trans hml.symm) d_Cut_slab_15 d_Cut_slab_18 d_Cut_slab_19 d_Cut_slab_21 d_Cut_slab_24 (fun x hx9 => (hno x hx9).elim) (Nat.le_of_ble_eq_true rfl) (Nat.le_of_ble_eq_true rfl) (Nat.le_of_ble_eq_true rfl) (Nat.le_of_ble_eq_true rfl) hlocks (fun t9 ha hz9 hk9 => ⟨(), trivial, ⟨⟨rfl, (by unfold k_slab; rw [if_pos (by omega)])⟩, hP.kept (fun k q hk => hk9 q.1 (vx_lt hP hk)), va_K.moved ha hK, hD⟩, ⟨hz9, fun q h1 _ => hk9 q h1⟩⟩) hS.2.2 (Nat.le_of_ble_eq_true rfl) (Nat.le_of_ble_eq_true rfl)
  · refine zz_top (congrArg nI (if_neg q_2)) ?_
    refine lv_if_eq (tgt := 15) hx hb d_Cut_slab_5 (by decide) (fun _ => ?_) (fun c9 => absurd c9 (by decide))
    obtain ⟨sa, hsa⟩ := hT9.2.1 (169, "no such slab or what") (by decide)
    exact vx_throwS (cls := "java/lang/IndexOutOfBoundsException") (names := ["java/lang/RuntimeException", "java/lang/Exception"]) (ik := 92) (is := 169) (ic := 96) hx hb hl9 hown (by decide) (by decide) (hz _ tw_359) (hz _ tw_27) hsa (zhat_IOB hz hT9) zgd_IOB hU9 hN9 hS (hl.1.trans hml.symm) d_Cut_slab_15 d_Cut_slab_18 d_Cut_slab_19 d_Cut_slab_21 d_Cut_slab_24 (fun x hx9 => (hno x hx9).elim) (Nat.le_of_ble_eq_true rfl) (Nat.le_of_ble_eq_true rfl) (Nat.le_of_ble_eq_true rfl) (Nat.le_of_ble_eq_true rfl) hlocks (fun t9 ha hz9 hk9 => ⟨(), trivial, ⟨⟨rfl, (by unfold k_slab; rw [if_pos (by omega)])⟩, hP.kept (fun k q hk => hk9 q.1 (vx_lt hP hk)), va_K.moved ha hK, hD⟩, ⟨hz9, fun q h1 _ => hk9 q h1⟩⟩) hS.2.2 (Nat.le_of_ble_eq_true rfl) (Nat.le_of_ble_eq_true rfl)
set_option maxHeartbeats 4000000 in
set_option maxRecDepth 100000 in
theorem c_Cut_weight (l : Launch) (hl9 : l.stackTraces = false) (dC : Nat → ClassId) (dI : Nat → Nat → Nat) (a : Nat → Nat) (cI cZ : ClassId) (v : Nat → Nat) (f : Nat → Nat → Nat) (w : Nat → Nat → Int32) (sz : Nat) (p0 : Int32) (z0 : Int) (h0 : p0.toInt = z0) (hI : zI v f) : vx_Met l y_Cut_weight (zw_Cut_weight :: zW) ({ frames := 6, cells := 1, slots := 6, locals := 90 }) (va_Pc [.ref (a 0), .int (p0)] (fun U => U.heap.size = sz ∧ va_P (dC, dI) vwCl (wC a cI cZ v f w) U.heap ∧ va_K (dC, dI) vwCl [(cI, .int), (cZ, .boolean)] U ∧ va_D (fun _ => True) (wC a cI cZ v f w) ∧ zX (va_A (wC a cI cZ v f w) sz) U U.heap)) (va_Ql (fun (r : Int64) (u : Unit) => k_weight (v 10) z0 = 0 ∧ r = lN (f 7 z0.toNat) * lN (v 0) * lN (v 1) / 1000) (fun (_ : Unit) t => va_P (dC, dI) vwCl (wC a cI cZ v f w) t.heap ∧ va_K (dC, dI) vwCl [(cI, .int), (cZ, .boolean)] t ∧ va_D (va_A (wC a cI cZ v f w) sz) (wC a cI cZ v f w)) (va_A (wC a cI cZ v f w) sz)) (vx_X (fun _ : Unit => True) (fun E _ t => ((E = "java/lang/IndexOutOfBoundsException" ∧ k_weight (v 10) z0 = 1)) ∧ va_P (dC, dI) vwCl (wC a cI cZ v f w) t.heap ∧ va_K (dC, dI) vwCl [(cI, .int), (cZ, .boolean)] t ∧ va_D (va_A (wC a cI cZ v f w) sz) (wC a cI cZ v f w)) (va_A (wC a cI cZ v f w) sz)) 1 6 (va_A (wC a cI cZ v f w) sz) := by
  refine vx_ofW (cc := prog_1_method_13_code) (maxL := 4) (ret := (some .long)) (by decide) rfl ?_
  intro p e s m args below meth c s₁ B hml hno hv
  obtain ⟨rfl, hsz, hP, hK, hD0, hX9⟩ := hv
  have hx := B.exec
  have hb := B.bytes
  have hr := B.returns
  have hz : ∀ w ∈ zW, w.before ([.ref (a 0), .int (p0)]).toArray s = true := fun w h => atoms_spec (ws := (zw_Cut_weight :: zW)) B.pre w (List.mem_cons_of_mem _ h)
  have hown : s.vm.findClass "CutLengths" = some m.cls := findClass_of_methodNamed B.named
  have hlocks := B.notSynchronized
  subst hsz
  have hD := hD0.self (sz := s.heap.size)
  generalize hAe : va_A (wC a cI cZ v f w) s.heap.size = A at hD hX9 ⊢
  have hA : ∀ q : Nat, s.heap.size ≤ q → A q := fun q h => by rw [← hAe]; exact Or.inr h
  have hS : va_S A s.heap s.heap [] := va_S.rf
  have hP : va_P (dC, dI) vwCl (wC a cI cZ v f w) s.heap := hP
  obtain ⟨hU9, hN9, hT9⟩ := hX9
  obtain ⟨i3, i4, i5, i6, i7, i8, i9, i10, i2, i0, i1, iw, ib, ic, isl⟩ := id hI
  have hl := lv_entry ([.ref (a 0), .int (p0)]) (n := 4) (Nat.le_of_ble_eq_true rfl)
  rw [lg_entry_eq]
  generalize (lg_sl ([.ref (a 0), .int (p0)]) ++ List.replicate (4 - (lg_sl ([.ref (a 0), .int (p0)])).length) Slot.unset).toArray = ls at hl ⊢
  have hl : lv_has ls 4 [(0, .ref (a 0)), (1, .int (p0))] := hl
  refine lv_aload_n hx hb d_Cut_weight_0 rfl (lv_at hl 0 rfl) ?_
  refine lv_iload_n hx hb d_Cut_weight_1 rfl (lv_at hl 1 rfl) ?_
  refine zz_ro (va_runV (As := [.int (p0)]) (rest := []) ⟨hx, hb, hml, hown, hz⟩ (c_Cut_isSlab l dC dI a cI cZ v f w (p0) (z0) (h0) hI) (cwV (C := "CutLengths") 1 hz (zgV tw_450 tw_452 tw_7 tw_15 tw_453) rfl rfl rfl (by decide +kernel) ⟨Nat.le_of_ble_eq_true rfl, Nat.le_of_ble_eq_true rfl⟩) ⟨(fun a U g mk q => ⟨q.1, q.2.1, va_K.moved (u := U) (U := U.calling g mk a) (Vm.Alike.refl U.vm) q.2.2⟩), va_recv hK hP (ci := 0) (q0 := 0) rfl rfl, fun U hU hW => ⟨rfl, by rw [hU]; exact hP, va_K.moved hW.alike hK⟩⟩ rfl rfl hl.1 rfl (lv_room (Nat.le_of_ble_eq_true rfl)) d_Cut_weight_2 ⟨Nat.zero_le _, Nat.zero_le _⟩) ?_
  by_cases q_2 : 0 ≤ z0 ∧ z0 < (v 10 : Nat)
  · refine zz_top (congrArg nI (if_pos q_2)) ?_
    refine lv_if_ne (tgt := 18) hx hb d_Cut_weight_5 (by decide) (fun _ => ?_) (fun c9 => absurd c9 (by decide))
    have hs9 := isl z0.toNat (by omega)
    refine lv_aload_n hx hb d_Cut_weight_18 rfl (lv_at hl 0 rfl) ?_
    refine va_get (D := (dC, dI)) (ci := 0) (v := .ref (a 11)) (C := "CutLengths") (T := T_Cut) (N := 7) hx hb hz i_Cut hown hK hP 0 rfl rfl 3 (by decide) (hz _ tw_145) (fun _ h9 => h9) rfl d_Cut_weight_19 ?_
    refine va_get (D := (dC, dI)) (ci := 4) (v := .ref (a 14)) (C := "CutLengths$Slabs") (T := T_Slabs) (N := 4) hx hb hz i_Slabs hown hK hP 11 rfl rfl 3 (by decide) (hz _ tw_132) (fun _ h9 => h9) rfl d_Cut_weight_22 ?_
    refine lv_iload_n hx hb d_Cut_weight_25 rfl (lv_at hl 1 rfl) ?_
    refine zz_top (zz_nat h0 (by omega)) ?_
    refine zz_nald hx hb hK hP 14 0 (f := f 7) (i := z0.toNat) rfl rfl (by omega) (by decide) d_Cut_weight_26 ?_
    refine lv_i2l (v := lN (f 7 z0.toNat)) hx hb d_Cut_weight_27 (nI_l (by omega)) ?_
    refine lv_aload_n hx hb d_Cut_weight_28 rfl (lv_at hl 0 rfl) ?_
    refine va_get (D := (dC, dI)) (ci := 0) (v := .int (nI (v 0))) (C := "CutLengths") (T := T_Cut) (N := 7) hx hb hz i_Cut hown hK hP 0 rfl rfl 4 (by decide) (hz _ tw_146) (fun _ h9 => h9) rfl d_Cut_weight_29 ?_
    refine lv_i2l (v := lN (v 0)) hx hb d_Cut_weight_32 (nI_l (by omega)) ?_
    refine lv_lmul hx hb d_Cut_weight_33 ?_
    refine lv_lstore_n (lv' := [(2, .long ((lN (f 7 z0.toNat)) * (lN (v 0)))), (0, .ref (a 0)), (1, .int (p0))]) hx hb d_Cut_weight_34 rfl hl (by decide) rfl (fun ls hl => ?_)
    refine lv_lload_n hx hb d_Cut_weight_35 rfl (lv_at hl 0 rfl) ?_
    refine lv_aload_n hx hb d_Cut_weight_36 rfl (lv_at hl 1 rfl) ?_
    refine va_get (D := (dC, dI)) (ci := 0) (v := .int (nI (v 1))) (C := "CutLengths") (T := T_Cut) (N := 7) hx hb hz i_Cut hown hK hP 0 rfl rfl 5 (by decide) (hz _ tw_147) (fun _ h9 => h9) rfl d_Cut_weight_37 ?_
    refine lv_i2l (v := lN (v 1)) hx hb d_Cut_weight_40 (nI_l (by omega)) ?_
    refine lv_lmul hx hb d_Cut_weight_41 ?_
    refine lv_ldc2 (v := 1000) hx hb hown (hz _ tw_463) d_Cut_weight_42 ?_
    refine lv_ldiv hx hb d_Cut_weight_45 (by decide) ?_
    refine W.widen (k := 1) (n := 6) (Nat.le_of_ble_eq_true rfl) (Nat.le_of_ble_eq_true rfl) ?_
    refine vx_ret ?_
    exact W.lret (v := (((lN (f 7 z0.toNat)) * (lN (v 0))) * (lN (v 1))) / (1000)) hx hb hr (fun t9 ht hW => ⟨⟨(((lN (f 7 z0.toNat)) * (lN (v 0))) * (lN (v 1))) / (1000), (), rfl, ⟨(by unfold k_weight; rw [if_neg (by omega)]), rfl⟩, by rw [ht]; exact hP, va_K.moved hW.alike hK, hD⟩, hS.F ht⟩) hS.2.2 d_Cut_weight_46
  · refine zz_top (congrArg nI (if_neg q_2)) ?_
    refine lv_if_ne (tgt := 18) hx hb d_Cut_weight_5 (by decide) (fun c9 => absurd c9 (by decide)) (fun _ => ?_)
    obtain ⟨sa, hsa⟩ := hT9.2.1 (176, "no such slab") (by decide)
    exact vx_throwS (cls := "java/lang/IndexOutOfBoundsException") (names := ["java/lang/RuntimeException", "java/lang/Exception"]) (ik := 92) (is := 176) (ic := 96) hx hb hl9 hown (by decide) (by decide) (hz _ tw_359) (hz _ tw_27) hsa (zhat_IOB hz hT9) zgd_IOB hU9 hN9 hS (hl.1.trans hml.symm) d_Cut_weight_8 d_Cut_weight_11 d_Cut_weight_12 d_Cut_weight_14 d_Cut_weight_17 (fun x hx9 => (hno x hx9).elim) (Nat.le_of_ble_eq_true rfl) (Nat.le_of_ble_eq_true rfl) (Nat.le_of_ble_eq_true rfl) (Nat.le_of_ble_eq_true rfl) hlocks (fun t9 ha hz9 hk9 => ⟨(), trivial, ⟨⟨rfl, (by unfold k_weight; rw [if_pos (by omega)])⟩, hP.kept (fun k q hk => hk9 q.1 (vx_lt hP hk)), va_K.moved ha hK, hD⟩, ⟨hz9, fun q h1 _ => hk9 q h1⟩⟩) hS.2.2 (Nat.le_of_ble_eq_true rfl) (Nat.le_of_ble_eq_true rfl)
set_option maxHeartbeats 4000000 in
set_option maxRecDepth 100000 in
theorem c_Cut_count (l : Launch) (hl9 : l.stackTraces = false) (dC : Nat → ClassId) (dI : Nat → Nat → Nat) (a : Nat → Nat) (cI cZ : ClassId) (v : Nat → Nat) (f : Nat → Nat → Nat) (w : Nat → Nat → Int32) (sz : Nat) (p0 : Int32) (z0 : Int) (h0 : p0.toInt = z0) (hI : zI v f) : vx_Met l y_Cut_count (zw_Cut_count :: zW) ({ frames := 6, cells := 1, slots := 6, locals := 90 }) (va_Pc [.ref (a 0), .int (p0)] (fun U => U.heap.size = sz ∧ va_P (dC, dI) vwCl (wC a cI cZ v f w) U.heap ∧ va_K (dC, dI) vwCl [(cI, .int), (cZ, .boolean)] U ∧ va_D (fun _ => True) (wC a cI cZ v f w) ∧ zX (va_A (wC a cI cZ v f w) sz) U U.heap)) (va_Qi (fun (r : Int32) (u : Unit) => k_count (v 9) z0 = 0 ∧ r = nI (zcnt (w 1) p0 (v 10))) (fun (_ : Unit) t => va_P (dC, dI) vwCl (wC a cI cZ v f w) t.heap ∧ va_K (dC, dI) vwCl [(cI, .int), (cZ, .boolean)] t ∧ va_D (va_A (wC a cI cZ v f w) sz) (wC a cI cZ v f w)) (va_A (wC a cI cZ v f w) sz)) (vx_X (fun _ : Unit => True) (fun E _ t => ((E = "java/lang/IndexOutOfBoundsException" ∧ k_count (v 9) z0 = 1)) ∧ va_P (dC, dI) vwCl (wC a cI cZ v f w) t.heap ∧ va_K (dC, dI) vwCl [(cI, .int), (cZ, .boolean)] t ∧ va_D (va_A (wC a cI cZ v f w) sz) (wC a cI cZ v f w)) (va_A (wC a cI cZ v f w) sz)) 1 6 (va_A (wC a cI cZ v f w) sz) := by
  refine vx_ofW (cc := prog_1_method_14_code) (maxL := 2) (ret := (some .int)) (by decide) rfl ?_
  intro p e s m args below meth c s₁ B hml hno hv
  obtain ⟨rfl, hsz, hP, hK, hD0, hX9⟩ := hv
  have hx := B.exec
  have hb := B.bytes
  have hr := B.returns
  have hz : ∀ w ∈ zW, w.before ([.ref (a 0), .int (p0)]).toArray s = true := fun w h => atoms_spec (ws := (zw_Cut_count :: zW)) B.pre w (List.mem_cons_of_mem _ h)
  have hown : s.vm.findClass "CutLengths" = some m.cls := findClass_of_methodNamed B.named
  have hlocks := B.notSynchronized
  subst hsz
  have hD := hD0.self (sz := s.heap.size)
  generalize hAe : va_A (wC a cI cZ v f w) s.heap.size = A at hD hX9 ⊢
  have hA : ∀ q : Nat, s.heap.size ≤ q → A q := fun q h => by rw [← hAe]; exact Or.inr h
  have hS : va_S A s.heap s.heap [] := va_S.rf
  have hP : va_P (dC, dI) vwCl (wC a cI cZ v f w) s.heap := hP
  obtain ⟨hU9, hN9, hT9⟩ := hX9
  obtain ⟨i3, i4, i5, i6, i7, i8, i9, i10, i2, i0, i1, iw, ib, ic, isl⟩ := id hI
  have hl := lv_entry ([.ref (a 0), .int (p0)]) (n := 2) (Nat.le_of_ble_eq_true rfl)
  rw [lg_entry_eq]
  generalize (lg_sl ([.ref (a 0), .int (p0)]) ++ List.replicate (2 - (lg_sl ([.ref (a 0), .int (p0)])).length) Slot.unset).toArray = ls at hl ⊢
  have hl : lv_has ls 2 [(0, .ref (a 0)), (1, .int (p0))] := hl
  refine lv_iload_n hx hb d_Cut_count_0 rfl (lv_at hl 1 rfl) ?_
  refine lv_iconst (v := -1) hx hb d_Cut_count_1 (by decide) ?_
  refine lv_icmp_lt (tgt := 16) hx hb d_Cut_count_2 (by decide) (fun c_2 => ?_) (fun c_2 => ?_)
  · have c_2 : z0 < (-1 : Int) := (zz_lt (h0) ((by decide))).mp c_2
    obtain ⟨sa, hsa⟩ := hT9.2.1 (94, "no such wanted length") (by decide)
    exact vx_throwS (cls := "java/lang/IndexOutOfBoundsException") (names := ["java/lang/RuntimeException", "java/lang/Exception"]) (ik := 92) (is := 94) (ic := 96) hx hb hl9 hown (by decide) (by decide) (hz _ tw_359) (hz _ tw_27) hsa (zhat_IOB hz hT9) zgd_IOB hU9 hN9 hS (hl.1.trans hml.symm) d_Cut_count_16 d_Cut_count_19 d_Cut_count_20 d_Cut_count_22 d_Cut_count_25 (fun x hx9 => (hno x hx9).elim) (Nat.le_of_ble_eq_true rfl) (Nat.le_of_ble_eq_true rfl) (Nat.le_of_ble_eq_true rfl) (Nat.le_of_ble_eq_true rfl) hlocks (fun t9 ha hz9 hk9 => ⟨(), trivial, ⟨⟨rfl, (by unfold k_count; rw [if_pos (by omega)])⟩, hP.kept (fun k q hk => hk9 q.1 (vx_lt hP hk)), va_K.moved ha hK, hD⟩, ⟨hz9, fun q h1 _ => hk9 q h1⟩⟩) hS.2.2 (Nat.le_of_ble_eq_true rfl) (Nat.le_of_ble_eq_true rfl)
  · have c_2 : ¬ (z0 < (-1 : Int)) := fun q => c_2 ((zz_lt (h0) ((by decide))).mpr q)
    refine lv_iload_n hx hb d_Cut_count_5 rfl (lv_at hl 1 rfl) ?_
    refine lv_aload_n hx hb d_Cut_count_6 rfl (lv_at hl 0 rfl) ?_
    refine va_get (D := (dC, dI)) (ci := 0) (v := .ref (a 4)) (C := "CutLengths") (T := T_Cut) (N := 7) hx hb hz i_Cut hown hK hP 0 rfl rfl 1 (by decide) (hz _ tw_143) (fun _ h9 => h9) rfl d_Cut_count_7 ?_
    refine va_get (D := (dC, dI)) (ci := 2) (v := .int (nI (v 9))) (C := "CutLengths$WantedLengths") (T := T_Wanted) (N := 3) hx hb hz i_Wanted hown hK hP 4 rfl rfl 0 (by decide) (hz _ tw_84) (fun _ h9 => h9) rfl d_Cut_count_10 ?_
    refine lv_icmp_lt (tgt := 26) hx hb d_Cut_count_13 (by decide) (fun c_13 => ?_) (fun c_13 => ?_)
    · have c_13 : z0 < ((v 9 : Nat) : Int) := (zz_lt (h0) (nI_toInt (by omega))).mp c_13
      refine lv_aload_n hx hb d_Cut_count_26 rfl (lv_at hl 0 rfl) ?_
      refine va_get (D := (dC, dI)) (ci := 0) (v := .ref (a 11)) (C := "CutLengths") (T := T_Cut) (N := 7) hx hb hz i_Cut hown hK hP 0 rfl rfl 3 (by decide) (hz _ tw_145) (fun _ h9 => h9) rfl d_Cut_count_27 ?_
      refine lv_iload_n hx hb d_Cut_count_30 rfl (lv_at hl 1 rfl) ?_
      refine zz_ro (va_runV (As := [.int (p0)]) (rest := []) ⟨hx, hb, hml, hown, hz⟩ (c_Slabs_howManyOf l dC dI a cI cZ v f w (p0) hI) (cwV (C := "CutLengths$Slabs") 1 hz (zgV tw_471 tw_472 tw_473 tw_19 tw_474) rfl rfl rfl (by decide +kernel) ⟨Nat.le_of_ble_eq_true rfl, Nat.le_of_ble_eq_true rfl⟩) ⟨(fun a U g mk q => ⟨q.1, q.2.1, va_K.moved (u := U) (U := U.calling g mk a) (Vm.Alike.refl U.vm) q.2.2⟩), va_recv hK hP (ci := 4) (q0 := 11) rfl rfl, fun U hU hW => ⟨rfl, by rw [hU]; exact hP, va_K.moved hW.alike hK⟩⟩ rfl rfl hl.1 rfl (lv_room (Nat.le_of_ble_eq_true rfl)) d_Cut_count_31 ⟨Nat.zero_le _, Nat.zero_le _⟩) ?_
      refine W.widen (k := 1) (n := 6) (Nat.le_of_ble_eq_true rfl) (Nat.le_of_ble_eq_true rfl) ?_
      refine vx_ret ?_
      exact W.iret (v := nI (zcnt (w 1) (p0) (v 10))) hx hb hr (fun t9 ht hW => ⟨⟨nI (zcnt (w 1) (p0) (v 10)), (), rfl, ⟨(by unfold k_count; rw [if_neg (by omega)]), rfl⟩, by rw [ht]; exact hP, va_K.moved hW.alike hK, hD⟩, hS.F ht⟩) hS.2.2 d_Cut_count_34
    · have c_13 : ¬ (z0 < ((v 9 : Nat) : Int)) := fun q => c_13 ((zz_lt (h0) (nI_toInt (by omega))).mpr q)
      obtain ⟨sa, hsa⟩ := hT9.2.1 (94, "no such wanted length") (by decide)
      exact vx_throwS (cls := "java/lang/IndexOutOfBoundsException") (names := ["java/lang/RuntimeException", "java/lang/Exception"]) (ik := 92) (is := 94) (ic := 96) hx hb hl9 hown (by decide) (by decide) (hz _ tw_359) (hz _ tw_27) hsa (zhat_IOB hz hT9) zgd_IOB hU9 hN9 hS (hl.1.trans hml.symm) d_Cut_count_16 d_Cut_count_19 d_Cut_count_20 d_Cut_count_22 d_Cut_count_25 (fun x hx9 => (hno x hx9).elim) (Nat.le_of_ble_eq_true rfl) (Nat.le_of_ble_eq_true rfl) (Nat.le_of_ble_eq_true rfl) (Nat.le_of_ble_eq_true rfl) hlocks (fun t9 ha hz9 hk9 => ⟨(), trivial, ⟨⟨rfl, (by unfold k_count; rw [if_pos (by omega)])⟩, hP.kept (fun k q hk => hk9 q.1 (vx_lt hP hk)), va_K.moved ha hK, hD⟩, ⟨hz9, fun q h1 _ => hk9 q h1⟩⟩) hS.2.2 (Nat.le_of_ble_eq_true rfl) (Nat.le_of_ble_eq_true rfl)
end
section
/-! CONSTRUCTORS of the class (rows written by wip/whole/mk_init.py) -/
theorem tw_obj : Cond.code Lib.objectInit ⟨#[0xb1]⟩ 1 none ∈ zW := zW_in 36 (by decide +kernel) (by decide +kernel)
theorem za_uni {U : State} {c1 c2 : ClassId} {ty : FieldType} (h1 : va_RA U c1 ty) (h2 : va_RA U c2 ty) : c1 = c2 := by
  cases ty with
  | object C =>
    obtain ⟨_, _, _, _, _, q1⟩ := h1
    obtain ⟨_, _, _, _, _, q2⟩ := h2
    exact Option.some.inj (q1.symm.trans q2)
  | _ => exact Option.some.inj (h1.symm.trans h2)
theorem za_of {args : Array Value} {s : State} {ty : FieldType} (h : (Cond.arrayClass ty).before args s = true) (hty : ∀ C, ty ≠ .object C) : ∃ cA, ArrOfT s cA ty ∧ va_RA s cA ty := by
  obtain ⟨cA, kA, comp, h1, h2, h3⟩ := Cond.arrayClass_spec h
  refine ⟨cA, fun n z => ⟨fun k h => (by cases h), kA, h2, comp, h3⟩, ?_⟩
  cases ty with
  | object C => exact absurd rfl (hty C)
  | _ => exact h1
set_option maxHeartbeats 4000000 in
set_option maxRecDepth 100000 in
theorem c_Strand_init (l : Launch) (dC : Nat → ClassId) (dI : Nat → Nat → Nat) (h0 : Nat) (cI cZ : ClassId) (sz : Nat) : Met l y_Strand_init (zw_Strand_init :: zW) ({ frames := 1, cells := 2, slots := 601, locals := 30 }) (va_Pc [.ref h0] (fun U => U.heap.size = sz ∧ va_P (dC, dI) vwCl [(h0, .inr (1, [.int (nI 0), .int (nI 0), .int (nI 0), .int (nI 0), .int (nI 0), .int (nI 0), .null, .null]))] U.heap ∧ va_K (dC, dI) vwCl [(cI, .int), (cZ, .boolean)] U ∧ va_D (fun _ => True) [(h0, .inr (1, [.int (nI 0), .int (nI 0), .int (nI 0), .int (nI 0), .int (nI 0), .int (nI 0), .null, .null]))])) (va_Qv (fun _ : Nat × Nat => True) (fun (u : Nat × Nat) t => match u with | (q38, q47) => va_P (dC, dI) vwCl [(h0, .inr (1, [.int (nI 0), .int (nI 0), .int (nI 0), .int (nI 0), .int (nI 0), .int (nI 0), .ref q38, .ref q47])), (q38, .inl (cZ, 300, .inl (fun _ => nI 0))), (q47, .inl (cZ, 301, .inl (fun _ => nI 0)))] t.heap ∧ va_K (dC, dI) vwCl [(cI, .int), (cZ, .boolean)] t ∧ va_D (va_A [(h0, .inr (1, [.int (nI 0), .int (nI 0), .int (nI 0), .int (nI 0), .int (nI 0), .int (nI 0), .null, .null]))] sz) [(h0, .inr (1, [.int (nI 0), .int (nI 0), .int (nI 0), .int (nI 0), .int (nI 0), .int (nI 0), .ref q38, .ref q47])), (q38, .inl (cZ, 300, .inl (fun _ => nI 0))), (q47, .inl (cZ, 301, .inl (fun _ => nI 0)))]) (va_A [(h0, .inr (1, [.int (nI 0), .int (nI 0), .int (nI 0), .int (nI 0), .int (nI 0), .int (nI 0), .null, .null]))] sz)) 2 601 (va_A [(h0, .inr (1, [.int (nI 0), .int (nI 0), .int (nI 0), .int (nI 0), .int (nI 0), .int (nI 0), .null, .null]))] sz) := by
  refine Met.ofW (cc := prog_4_method_1_code) (maxL := 1) (ret := none) (by decide) rfl ?_
  intro p e s m args below meth c s₁ B hml hv
  obtain ⟨rfl, hsz, hP, hK, hD0⟩ := hv
  have hx := B.exec
  have hb := B.bytes
  have hr := B.returns
  have hz : ∀ w ∈ zW, w.before ([.ref h0]).toArray s = true := fun w h => atoms_spec (ws := (zw_Strand_init :: zW)) B.pre w (List.mem_cons_of_mem _ h)
  have hown : s.vm.findClass "CutLengths$Strand" = some m.cls := findClass_of_methodNamed B.named
  have hlocks := B.notSynchronized
  have hin : meth.name = "<init>" := (name_of_methodNamed B.named B.method).1
  subst hsz
  have hD := hD0.self (sz := s.heap.size)
  generalize hAe : va_A [(h0, .inr (1, [.int (nI 0), .int (nI 0), .int (nI 0), .int (nI 0), .int (nI 0), .int (nI 0), .null, .null]))] s.heap.size = A at hD ⊢
  have hA : ∀ q : Nat, s.heap.size ≤ q → A q := fun q h => by rw [← hAe]; exact Or.inr h
  have hS : va_S A s.heap s.heap [] := va_S.rf
  have hP : va_P (dC, dI) vwCl [(h0, .inr (1, [.int (nI 0), .int (nI 0), .int (nI 0), .int (nI 0), .int (nI 0), .int (nI 0), .null, .null]))] s.heap := hP
  have hl := lv_entry ([.ref h0]) (n := 1) (Nat.le_of_ble_eq_true rfl)
  rw [lg_entry_eq]
  generalize (lg_sl ([.ref h0]) ++ List.replicate (1 - (lg_sl ([.ref h0])).length) Slot.unset).toArray = ls at hl ⊢
  have hl : lv_has ls 1 [(0, .ref h0)] := hl
  refine lv_aload_n hx hb d_Strand_init_0 rfl (lv_at hl 0 rfl) ?_
  refine W.objInit hx hb hown (hz _ tw_42) (hz _ tw_35) (hz _ tw_obj) rfl (by rw [hml]; exact hl.1) rfl d_Strand_init_1 (Nat.le_of_ble_eq_true rfl) (Nat.le_of_ble_eq_true rfl) ?_
  refine W.eq (g2 := F0 m 4 ls []) rfl ?_
  refine lv_aload_n hx hb d_Strand_init_4 rfl (lv_at hl 0 rfl) ?_
  refine lv_iconst (v := nI 0) hx hb d_Strand_init_5 (by decide) ?_
  refine va_put (D := (dC, dI)) (ci := 1) (v := .int (nI 0)) (ty := .int) (C := "CutLengths$Strand") (T := T_Strand) (N := 8) hx hb hz i_Strand t_Strand t_Strand_ok n_Strand hown hK hP hD hS 0 rfl rfl 0 (by decide) (hz _ tw_43) (fun _ h9 => h9) rfl (by decide +kernel) rfl rfl (Nat.le_of_ble_eq_true rfl) d_Strand_init_6 (fun H locs hP hD hS => ?_)
  have hP : va_P (dC, dI) vwCl [(h0, .inr (1, [.int (nI 0), .int (nI 0), .int (nI 0), .int (nI 0), .int (nI 0), .int (nI 0), .null, .null]))] H := hP
  have hD : va_D A [(h0, .inr (1, [.int (nI 0), .int (nI 0), .int (nI 0), .int (nI 0), .int (nI 0), .int (nI 0), .null, .null]))] := hD
  refine lv_aload_n hx hb d_Strand_init_9 rfl (lv_at hl 0 rfl) ?_
  refine lv_iconst (v := nI 0) hx hb d_Strand_init_10 (by decide) ?_
  refine va_put (D := (dC, dI)) (ci := 1) (v := .int (nI 0)) (ty := .int) (C := "CutLengths$Strand") (T := T_Strand) (N := 8) hx hb hz i_Strand t_Strand t_Strand_ok n_Strand hown hK hP hD hS 0 rfl rfl 1 (by decide) (hz _ tw_46) (fun _ h9 => h9) rfl (by decide +kernel) rfl rfl (Nat.le_of_ble_eq_true rfl) d_Strand_init_11 (fun H locs hP hD hS => ?_)
  have hP : va_P (dC, dI) vwCl [(h0, .inr (1, [.int (nI 0), .int (nI 0), .int (nI 0), .int (nI 0), .int (nI 0), .int (nI 0), .null, .null]))] H := hP
  have hD : va_D A [(h0, .inr (1, [.int (nI 0), .int (nI 0), .int (nI 0), .int (nI 0), .int (nI 0), .int (nI 0), .null, .null]))] := hD
  refine lv_aload_n hx hb d_Strand_init_14 rfl (lv_at hl 0 rfl) ?_
  refine lv_iconst (v := nI 0) hx hb d_Strand_init_15 (by decide) ?_
  refine va_put (D := (dC, dI)) (ci := 1) (v := .int (nI 0)) (ty := .int) (C := "CutLengths$Strand") (T := T_Strand) (N := 8) hx hb hz i_Strand t_Strand t_Strand_ok n_Strand hown hK hP hD hS 0 rfl rfl 2 (by decide) (hz _ tw_49) (fun _ h9 => h9) rfl (by decide +kernel) rfl rfl (Nat.le_of_ble_eq_true rfl) d_Strand_init_16 (fun H locs hP hD hS => ?_)
  have hP : va_P (dC, dI) vwCl [(h0, .inr (1, [.int (nI 0), .int (nI 0), .int (nI 0), .int (nI 0), .int (nI 0), .int (nI 0), .null, .null]))] H := hP
  have hD : va_D A [(h0, .inr (1, [.int (nI 0), .int (nI 0), .int (nI 0), .int (nI 0), .int (nI 0), .int (nI 0), .null, .null]))] := hD
  refine lv_aload_n hx hb d_Strand_init_19 rfl (lv_at hl 0 rfl) ?_
  refine lv_iconst (v := nI 0) hx hb d_Strand_init_20 (by decide) ?_
  refine va_put (D := (dC, dI)) (ci := 1) (v := .int (nI 0)) (ty := .int) (C := "CutLengths$Strand") (T := T_Strand) (N := 8) hx hb hz i_Strand t_Strand t_Strand_ok n_Strand hown hK hP hD hS 0 rfl rfl 3 (by decide) (hz _ tw_51) (fun _ h9 => h9) rfl (by decide +kernel) rfl rfl (Nat.le_of_ble_eq_true rfl) d_Strand_init_21 (fun H locs hP hD hS => ?_)
  have hP : va_P (dC, dI) vwCl [(h0, .inr (1, [.int (nI 0), .int (nI 0), .int (nI 0), .int (nI 0), .int (nI 0), .int (nI 0), .null, .null]))] H := hP
  have hD : va_D A [(h0, .inr (1, [.int (nI 0), .int (nI 0), .int (nI 0), .int (nI 0), .int (nI 0), .int (nI 0), .null, .null]))] := hD
  refine lv_aload_n hx hb d_Strand_init_24 rfl (lv_at hl 0 rfl) ?_
  refine lv_iconst (v := nI 0) hx hb d_Strand_init_25 (by decide) ?_
  refine va_put (D := (dC, dI)) (ci := 1) (v := .int (nI 0)) (ty := .int) (C := "CutLengths$Strand") (T := T_Strand) (N := 8) hx hb hz i_Strand t_Strand t_Strand_ok n_Strand hown hK hP hD hS 0 rfl rfl 4 (by decide) (hz _ tw_53) (fun _ h9 => h9) rfl (by decide +kernel) rfl rfl (Nat.le_of_ble_eq_true rfl) d_Strand_init_26 (fun H locs hP hD hS => ?_)
  have hP : va_P (dC, dI) vwCl [(h0, .inr (1, [.int (nI 0), .int (nI 0), .int (nI 0), .int (nI 0), .int (nI 0), .int (nI 0), .null, .null]))] H := hP
  have hD : va_D A [(h0, .inr (1, [.int (nI 0), .int (nI 0), .int (nI 0), .int (nI 0), .int (nI 0), .int (nI 0), .null, .null]))] := hD
  refine lv_aload_n hx hb d_Strand_init_29 rfl (lv_at hl 0 rfl) ?_
  refine lv_iconst (v := nI 0) hx hb d_Strand_init_30 (by decide) ?_
  refine va_put (D := (dC, dI)) (ci := 1) (v := .int (nI 0)) (ty := .int) (C := "CutLengths$Strand") (T := T_Strand) (N := 8) hx hb hz i_Strand t_Strand t_Strand_ok n_Strand hown hK hP hD hS 0 rfl rfl 5 (by decide) (hz _ tw_55) (fun _ h9 => h9) rfl (by decide +kernel) rfl rfl (Nat.le_of_ble_eq_true rfl) d_Strand_init_31 (fun H locs hP hD hS => ?_)
  have hP : va_P (dC, dI) vwCl [(h0, .inr (1, [.int (nI 0), .int (nI 0), .int (nI 0), .int (nI 0), .int (nI 0), .int (nI 0), .null, .null]))] H := hP
  have hD : va_D A [(h0, .inr (1, [.int (nI 0), .int (nI 0), .int (nI 0), .int (nI 0), .int (nI 0), .int (nI 0), .null, .null]))] := hD
  refine lv_aload_n hx hb d_Strand_init_34 rfl (lv_at hl 0 rfl) ?_
  refine lv_sipush (v := nI 300) hx hb d_Strand_init_35 (by decide) ?_
  refine va_newa (N' := 300) (a0 := (300, .inl (fun _ => nI 0))) (atype := .boolean) hx hb (hz _ tw_76) (ty := .boolean) rfl hK hP hD hS hA (fun _ => rfl) (by decide) (by decide) (by decide) (Nat.le_of_ble_eq_true rfl) (Nat.le_of_ble_eq_true rfl) d_Strand_init_38 (fun q38 cN H hK9 hP hD hS => ?_)
  obtain rfl : cZ = cN := za_uni (hK9.2 1 _ rfl).2 (hK9.2 2 _ rfl).2
  have hP : va_P (dC, dI) vwCl [(h0, .inr (1, [.int (nI 0), .int (nI 0), .int (nI 0), .int (nI 0), .int (nI 0), .int (nI 0), .null, .null])), (q38, .inl (cZ, 300, .inl (fun _ => nI 0)))] H := hP
  have hD : va_D A [(h0, .inr (1, [.int (nI 0), .int (nI 0), .int (nI 0), .int (nI 0), .int (nI 0), .int (nI 0), .null, .null])), (q38, .inl (cZ, 300, .inl (fun _ => nI 0)))] := hD
  refine va_putF (D := (dC, dI)) (ci := 1) (v := .ref q38) (ty := (.array .boolean)) (C := "CutLengths$Strand") (T := T_Strand) (N := 8) hx hb hz i_Strand t_Strand t_Strand_ok n_Strand hown hK hP hD hS 0 rfl rfl 6 (by decide) (hz _ tw_57) (fun _ h9 => h9) rfl hin rfl (by decide +kernel) rfl rfl (Nat.le_of_ble_eq_true rfl) d_Strand_init_40 (fun H locs hP hD hS => ?_)
  have hP : va_P (dC, dI) vwCl [(h0, .inr (1, [.int (nI 0), .int (nI 0), .int (nI 0), .int (nI 0), .int (nI 0), .int (nI 0), .ref q38, .null])), (q38, .inl (cZ, 300, .inl (fun _ => nI 0)))] H := hP
  have hD : va_D A [(h0, .inr (1, [.int (nI 0), .int (nI 0), .int (nI 0), .int (nI 0), .int (nI 0), .int (nI 0), .ref q38, .null])), (q38, .inl (cZ, 300, .inl (fun _ => nI 0)))] := hD
  refine lv_aload_n hx hb d_Strand_init_43 rfl (lv_at hl 0 rfl) ?_
  refine lv_sipush (v := nI 301) hx hb d_Strand_init_44 (by decide) ?_
  refine va_newa (N' := 301) (a0 := (301, .inl (fun _ => nI 0))) (atype := .boolean) hx hb (hz _ tw_76) (ty := .boolean) rfl hK hP hD hS hA (fun _ => rfl) (by decide) (by decide) (by decide) (Nat.le_of_ble_eq_true rfl) (Nat.le_of_ble_eq_true rfl) d_Strand_init_47 (fun q47 cN H hK9 hP hD hS => ?_)
  obtain rfl : cZ = cN := za_uni (hK9.2 1 _ rfl).2 (hK9.2 2 _ rfl).2
  have hP : va_P (dC, dI) vwCl [(h0, .inr (1, [.int (nI 0), .int (nI 0), .int (nI 0), .int (nI 0), .int (nI 0), .int (nI 0), .ref q38, .null])), (q38, .inl (cZ, 300, .inl (fun _ => nI 0))), (q47, .inl (cZ, 301, .inl (fun _ => nI 0)))] H := hP
  have hD : va_D A [(h0, .inr (1, [.int (nI 0), .int (nI 0), .int (nI 0), .int (nI 0), .int (nI 0), .int (nI 0), .ref q38, .null])), (q38, .inl (cZ, 300, .inl (fun _ => nI 0))), (q47, .inl (cZ, 301, .inl (fun _ => nI 0)))] := hD
  refine va_putF (D := (dC, dI)) (ci := 1) (v := .ref q47) (ty := (.array .boolean)) (C := "CutLengths$Strand") (T := T_Strand) (N := 8) hx hb hz i_Strand t_Strand t_Strand_ok n_Strand hown hK hP hD hS 0 rfl rfl 7 (by decide) (hz _ tw_58) (fun _ h9 => h9) rfl hin rfl (by decide +kernel) rfl rfl (Nat.le_of_ble_eq_true rfl) d_Strand_init_49 (fun H locs hP hD hS => ?_)
  have hP : va_P (dC, dI) vwCl [(h0, .inr (1, [.int (nI 0), .int (nI 0), .int (nI 0), .int (nI 0), .int (nI 0), .int (nI 0), .ref q38, .ref q47])), (q38, .inl (cZ, 300, .inl (fun _ => nI 0))), (q47, .inl (cZ, 301, .inl (fun _ => nI 0)))] H := hP
  have hD : va_D A [(h0, .inr (1, [.int (nI 0), .int (nI 0), .int (nI 0), .int (nI 0), .int (nI 0), .int (nI 0), .ref q38, .ref q47])), (q38, .inl (cZ, 300, .inl (fun _ => nI 0))), (q47, .inl (cZ, 301, .inl (fun _ => nI 0)))] := hD
  refine W.widen (k := 2) (n := 601) (Nat.le_of_ble_eq_true rfl) (Nat.le_of_ble_eq_true rfl) ?_
  exact W.vret hx hb hr (fun t9 ht hW => ⟨⟨(q38, q47), rfl, trivial, by rw [ht]; exact hP, va_K.moved hW.alike hK, hD⟩, hS.F ht⟩) hS.2.2 d_Strand_init_52
set_option maxHeartbeats 4000000 in
set_option maxRecDepth 100000 in
theorem c_Wanted_init (l : Launch) (dC : Nat → ClassId) (dI : Nat → Nat → Nat) (h0 : Nat) (cI cZ : ClassId) (sz : Nat) : Met l y_Wanted_init (zw_Wanted_init :: zW) ({ frames := 1, cells := 2, slots := 12, locals := 30 }) (va_Pc [.ref h0] (fun U => U.heap.size = sz ∧ va_P (dC, dI) vwCl [(h0, .inr (2, [.int (nI 0), .null, .null]))] U.heap ∧ va_K (dC, dI) vwCl [(cI, .int), (cZ, .boolean)] U ∧ va_D (fun _ => True) [(h0, .inr (2, [.int (nI 0), .null, .null]))])) (va_Qv (fun _ : Nat × Nat => True) (fun (u : Nat × Nat) t => match u with | (q12, q20) => va_P (dC, dI) vwCl [(h0, .inr (2, [.int (nI 0), .ref q12, .ref q20])), (q12, .inl (cI, 6, .inl (fun _ => nI 0))), (q20, .inl (cI, 6, .inl (fun _ => nI 0)))] t.heap ∧ va_K (dC, dI) vwCl [(cI, .int), (cZ, .boolean)] t ∧ va_D (va_A [(h0, .inr (2, [.int (nI 0), .null, .null]))] sz) [(h0, .inr (2, [.int (nI 0), .ref q12, .ref q20])), (q12, .inl (cI, 6, .inl (fun _ => nI 0))), (q20, .inl (cI, 6, .inl (fun _ => nI 0)))]) (va_A [(h0, .inr (2, [.int (nI 0), .null, .null]))] sz)) 2 12 (va_A [(h0, .inr (2, [.int (nI 0), .null, .null]))] sz) := by
  refine Met.ofW (cc := prog_5_method_1_code) (maxL := 1) (ret := none) (by decide) rfl ?_
  intro p e s m args below meth c s₁ B hml hv
  obtain ⟨rfl, hsz, hP, hK, hD0⟩ := hv
  have hx := B.exec
  have hb := B.bytes
  have hr := B.returns
  have hz : ∀ w ∈ zW, w.before ([.ref h0]).toArray s = true := fun w h => atoms_spec (ws := (zw_Wanted_init :: zW)) B.pre w (List.mem_cons_of_mem _ h)
  have hown : s.vm.findClass "CutLengths$WantedLengths" = some m.cls := findClass_of_methodNamed B.named
  have hlocks := B.notSynchronized
  have hin : meth.name = "<init>" := (name_of_methodNamed B.named B.method).1
  subst hsz
  have hD := hD0.self (sz := s.heap.size)
  generalize hAe : va_A [(h0, .inr (2, [.int (nI 0), .null, .null]))] s.heap.size = A at hD ⊢
  have hA : ∀ q : Nat, s.heap.size ≤ q → A q := fun q h => by rw [← hAe]; exact Or.inr h
  have hS : va_S A s.heap s.heap [] := va_S.rf
  have hP : va_P (dC, dI) vwCl [(h0, .inr (2, [.int (nI 0), .null, .null]))] s.heap := hP
  have hl := lv_entry ([.ref h0]) (n := 1) (Nat.le_of_ble_eq_true rfl)
  rw [lg_entry_eq]
  generalize (lg_sl ([.ref h0]) ++ List.replicate (1 - (lg_sl ([.ref h0])).length) Slot.unset).toArray = ls at hl ⊢
  have hl : lv_has ls 1 [(0, .ref h0)] := hl
  refine lv_aload_n hx hb d_Wanted_init_0 rfl (lv_at hl 0 rfl) ?_
  refine W.objInit hx hb hown (hz _ tw_82) (hz _ tw_35) (hz _ tw_obj) rfl (by rw [hml]; exact hl.1) rfl d_Wanted_init_1 (Nat.le_of_ble_eq_true rfl) (Nat.le_of_ble_eq_true rfl) ?_
  refine W.eq (g2 := F0 m 4 ls []) rfl ?_
  refine lv_aload_n hx hb d_Wanted_init_4 rfl (lv_at hl 0 rfl) ?_
  refine lv_iconst (v := nI 0) hx hb d_Wanted_init_5 (by decide) ?_
  refine va_put (D := (dC, dI)) (ci := 2) (v := .int (nI 0)) (ty := .int) (C := "CutLengths$WantedLengths") (T := T_Wanted) (N := 3) hx hb hz i_Wanted t_Wanted t_Wanted_ok n_Wanted hown hK hP hD hS 0 rfl rfl 0 (by decide) (hz _ tw_83) (fun _ h9 => h9) rfl (by decide +kernel) rfl rfl (Nat.le_of_ble_eq_true rfl) d_Wanted_init_6 (fun H locs hP hD hS => ?_)
  have hP : va_P (dC, dI) vwCl [(h0, .inr (2, [.int (nI 0), .null, .null]))] H := hP
  have hD : va_D A [(h0, .inr (2, [.int (nI 0), .null, .null]))] := hD
  refine lv_aload_n hx hb d_Wanted_init_9 rfl (lv_at hl 0 rfl) ?_
  refine lv_bipush (v := nI 6) hx hb d_Wanted_init_10 (by decide) ?_
  refine va_newa (N' := 6) (a0 := (6, .inl (fun _ => nI 0))) (atype := .int) hx hb (hz _ tw_99) (ty := .int) rfl hK hP hD hS hA (fun _ => rfl) (by decide) (by decide) (by decide) (Nat.le_of_ble_eq_true rfl) (Nat.le_of_ble_eq_true rfl) d_Wanted_init_12 (fun q12 cN H hK9 hP hD hS => ?_)
  obtain rfl : cI = cN := za_uni (hK9.2 0 _ rfl).2 (hK9.2 2 _ rfl).2
  have hP : va_P (dC, dI) vwCl [(h0, .inr (2, [.int (nI 0), .null, .null])), (q12, .inl (cI, 6, .inl (fun _ => nI 0)))] H := hP
  have hD : va_D A [(h0, .inr (2, [.int (nI 0), .null, .null])), (q12, .inl (cI, 6, .inl (fun _ => nI 0)))] := hD
  refine va_putF (D := (dC, dI)) (ci := 2) (v := .ref q12) (ty := (.array .int)) (C := "CutLengths$WantedLengths") (T := T_Wanted) (N := 3) hx hb hz i_Wanted t_Wanted t_Wanted_ok n_Wanted hown hK hP hD hS 0 rfl rfl 1 (by decide) (hz _ tw_86) (fun _ h9 => h9) rfl hin rfl (by decide +kernel) rfl rfl (Nat.le_of_ble_eq_true rfl) d_Wanted_init_14 (fun H locs hP hD hS => ?_)
  have hP : va_P (dC, dI) vwCl [(h0, .inr (2, [.int (nI 0), .ref q12, .null])), (q12, .inl (cI, 6, .inl (fun _ => nI 0)))] H := hP
  have hD : va_D A [(h0, .inr (2, [.int (nI 0), .ref q12, .null])), (q12, .inl (cI, 6, .inl (fun _ => nI 0)))] := hD
  refine lv_aload_n hx hb d_Wanted_init_17 rfl (lv_at hl 0 rfl) ?_
  refine lv_bipush (v := nI 6) hx hb d_Wanted_init_18 (by decide) ?_
  refine va_newa (N' := 6) (a0 := (6, .inl (fun _ => nI 0))) (atype := .int) hx hb (hz _ tw_99) (ty := .int) rfl hK hP hD hS hA (fun _ => rfl) (by decide) (by decide) (by decide) (Nat.le_of_ble_eq_true rfl) (Nat.le_of_ble_eq_true rfl) d_Wanted_init_20 (fun q20 cN H hK9 hP hD hS => ?_)
  obtain rfl : cI = cN := za_uni (hK9.2 0 _ rfl).2 (hK9.2 2 _ rfl).2
  have hP : va_P (dC, dI) vwCl [(h0, .inr (2, [.int (nI 0), .ref q12, .null])), (q12, .inl (cI, 6, .inl (fun _ => nI 0))), (q20, .inl (cI, 6, .inl (fun _ => nI 0)))] H := hP
  have hD : va_D A [(h0, .inr (2, [.int (nI 0), .ref q12, .null])), (q12, .inl (cI, 6, .inl (fun _ => nI 0))), (q20, .inl (cI, 6, .inl (fun _ => nI 0)))] := hD
  refine va_putF (D := (dC, dI)) (ci := 2) (v := .ref q20) (ty := (.array .int)) (C := "CutLengths$WantedLengths") (T := T_Wanted) (N := 3) hx hb hz i_Wanted t_Wanted t_Wanted_ok n_Wanted hown hK hP hD hS 0 rfl rfl 2 (by decide) (hz _ tw_89) (fun _ h9 => h9) rfl hin rfl (by decide +kernel) rfl rfl (Nat.le_of_ble_eq_true rfl) d_Wanted_init_22 (fun H locs hP hD hS => ?_)
  have hP : va_P (dC, dI) vwCl [(h0, .inr (2, [.int (nI 0), .ref q12, .ref q20])), (q12, .inl (cI, 6, .inl (fun _ => nI 0))), (q20, .inl (cI, 6, .inl (fun _ => nI 0)))] H := hP
  have hD : va_D A [(h0, .inr (2, [.int (nI 0), .ref q12, .ref q20])), (q12, .inl (cI, 6, .inl (fun _ => nI 0))), (q20, .inl (cI, 6, .inl (fun _ => nI 0)))] := hD
  refine W.widen (k := 2) (n := 12) (Nat.le_of_ble_eq_true rfl) (Nat.le_of_ble_eq_true rfl) ?_
  exact W.vret hx hb hr (fun t9 ht hW => ⟨⟨(q12, q20), rfl, trivial, by rw [ht]; exact hP, va_K.moved hW.alike hK, hD⟩, hS.F ht⟩) hS.2.2 d_Wanted_init_25
set_option maxHeartbeats 4000000 in
set_option maxRecDepth 100000 in
theorem c_Plan_init (l : Launch) (dC : Nat → ClassId) (dI : Nat → Nat → Nat) (h0 : Nat) (cI cZ : ClassId) (sz : Nat) : Met l y_Plan_init (zw_Plan_init :: zW) ({ frames := 1, cells := 3, slots := 903, locals := 30 }) (va_Pc [.ref h0] (fun U => U.heap.size = sz ∧ va_P (dC, dI) vwCl [(h0, .inr (3, [.null, .null, .null]))] U.heap ∧ va_K (dC, dI) vwCl [(cI, .int), (cZ, .boolean)] U ∧ va_D (fun _ => True) [(h0, .inr (3, [.null, .null, .null]))])) (va_Qv (fun _ : Nat × Nat × Nat => True) (fun (u : Nat × Nat × Nat) t => match u with | (q8, q17, q26) => va_P (dC, dI) vwCl [(h0, .inr (3, [.ref q8, .ref q17, .ref q26])), (q8, .inl (cI, 301, .inl (fun _ => nI 0))), (q17, .inl (cI, 301, .inl (fun _ => nI 0))), (q26, .inl (cI, 301, .inl (fun _ => nI 0)))] t.heap ∧ va_K (dC, dI) vwCl [(cI, .int), (cZ, .boolean)] t ∧ va_D (va_A [(h0, .inr (3, [.null, .null, .null]))] sz) [(h0, .inr (3, [.ref q8, .ref q17, .ref q26])), (q8, .inl (cI, 301, .inl (fun _ => nI 0))), (q17, .inl (cI, 301, .inl (fun _ => nI 0))), (q26, .inl (cI, 301, .inl (fun _ => nI 0)))]) (va_A [(h0, .inr (3, [.null, .null, .null]))] sz)) 3 903 (va_A [(h0, .inr (3, [.null, .null, .null]))] sz) := by
  refine Met.ofW (cc := prog_2_method_1_code) (maxL := 1) (ret := none) (by decide) rfl ?_
  intro p e s m args below meth c s₁ B hml hv
  obtain ⟨rfl, hsz, hP, hK, hD0⟩ := hv
  have hx := B.exec
  have hb := B.bytes
  have hr := B.returns
  have hz : ∀ w ∈ zW, w.before ([.ref h0]).toArray s = true := fun w h => atoms_spec (ws := (zw_Plan_init :: zW)) B.pre w (List.mem_cons_of_mem _ h)
  have hown : s.vm.findClass "CutLengths$Plan" = some m.cls := findClass_of_methodNamed B.named
  have hlocks := B.notSynchronized
  have hin : meth.name = "<init>" := (name_of_methodNamed B.named B.method).1
  subst hsz
  have hD := hD0.self (sz := s.heap.size)
  generalize hAe : va_A [(h0, .inr (3, [.null, .null, .null]))] s.heap.size = A at hD ⊢
  have hA : ∀ q : Nat, s.heap.size ≤ q → A q := fun q h => by rw [← hAe]; exact Or.inr h
  have hS : va_S A s.heap s.heap [] := va_S.rf
  have hP : va_P (dC, dI) vwCl [(h0, .inr (3, [.null, .null, .null]))] s.heap := hP
  have hl := lv_entry ([.ref h0]) (n := 1) (Nat.le_of_ble_eq_true rfl)
  rw [lg_entry_eq]
  generalize (lg_sl ([.ref h0]) ++ List.replicate (1 - (lg_sl ([.ref h0])).length) Slot.unset).toArray = ls at hl ⊢
  have hl : lv_has ls 1 [(0, .ref h0)] := hl
  refine lv_aload_n hx hb d_Plan_init_0 rfl (lv_at hl 0 rfl) ?_
  refine W.objInit hx hb hown (hz _ tw_105) (hz _ tw_35) (hz _ tw_obj) rfl (by rw [hml]; exact hl.1) rfl d_Plan_init_1 (Nat.le_of_ble_eq_true rfl) (Nat.le_of_ble_eq_true rfl) ?_
  refine W.eq (g2 := F0 m 4 ls []) rfl ?_
  refine lv_aload_n hx hb d_Plan_init_4 rfl (lv_at hl 0 rfl) ?_
  refine lv_sipush (v := nI 301) hx hb d_Plan_init_5 (by decide) ?_
  refine va_newa (N' := 301) (a0 := (301, .inl (fun _ => nI 0))) (atype := .int) hx hb (hz _ tw_99) (ty := .int) rfl hK hP hD hS hA (fun _ => rfl) (by decide) (by decide) (by decide) (Nat.le_of_ble_eq_true rfl) (Nat.le_of_ble_eq_true rfl) d_Plan_init_8 (fun q8 cN H hK9 hP hD hS => ?_)
  obtain rfl : cI = cN := za_uni (hK9.2 0 _ rfl).2 (hK9.2 2 _ rfl).2
  have hP : va_P (dC, dI) vwCl [(h0, .inr (3, [.null, .null, .null])), (q8, .inl (cI, 301, .inl (fun _ => nI 0)))] H := hP
  have hD : va_D A [(h0, .inr (3, [.null, .null, .null])), (q8, .inl (cI, 301, .inl (fun _ => nI 0)))] := hD
  refine va_putF (D := (dC, dI)) (ci := 3) (v := .ref q8) (ty := (.array .int)) (C := "CutLengths$Plan") (T := T_Plan) (N := 3) hx hb hz i_Plan t_Plan t_Plan_ok n_Plan hown hK hP hD hS 0 rfl rfl 0 (by decide) (hz _ tw_106) (fun _ h9 => h9) rfl hin rfl (by decide +kernel) rfl rfl (Nat.le_of_ble_eq_true rfl) d_Plan_init_10 (fun H locs hP hD hS => ?_)
  have hP : va_P (dC, dI) vwCl [(h0, .inr (3, [.ref q8, .null, .null])), (q8, .inl (cI, 301, .inl (fun _ => nI 0)))] H := hP
  have hD : va_D A [(h0, .inr (3, [.ref q8, .null, .null])), (q8, .inl (cI, 301, .inl (fun _ => nI 0)))] := hD
  refine lv_aload_n hx hb d_Plan_init_13 rfl (lv_at hl 0 rfl) ?_
  refine lv_sipush (v := nI 301) hx hb d_Plan_init_14 (by decide) ?_
  refine va_newa (N' := 301) (a0 := (301, .inl (fun _ => nI 0))) (atype := .int) hx hb (hz _ tw_99) (ty := .int) rfl hK hP hD hS hA (fun _ => rfl) (by decide) (by decide) (by decide) (Nat.le_of_ble_eq_true rfl) (Nat.le_of_ble_eq_true rfl) d_Plan_init_17 (fun q17 cN H hK9 hP hD hS => ?_)
  obtain rfl : cI = cN := za_uni (hK9.2 0 _ rfl).2 (hK9.2 2 _ rfl).2
  have hP : va_P (dC, dI) vwCl [(h0, .inr (3, [.ref q8, .null, .null])), (q8, .inl (cI, 301, .inl (fun _ => nI 0))), (q17, .inl (cI, 301, .inl (fun _ => nI 0)))] H := hP
  have hD : va_D A [(h0, .inr (3, [.ref q8, .null, .null])), (q8, .inl (cI, 301, .inl (fun _ => nI 0))), (q17, .inl (cI, 301, .inl (fun _ => nI 0)))] := hD
  refine va_putF (D := (dC, dI)) (ci := 3) (v := .ref q17) (ty := (.array .int)) (C := "CutLengths$Plan") (T := T_Plan) (N := 3) hx hb hz i_Plan t_Plan t_Plan_ok n_Plan hown hK hP hD hS 0 rfl rfl 1 (by decide) (hz _ tw_108) (fun _ h9 => h9) rfl hin rfl (by decide +kernel) rfl rfl (Nat.le_of_ble_eq_true rfl) d_Plan_init_19 (fun H locs hP hD hS => ?_)
  have hP : va_P (dC, dI) vwCl [(h0, .inr (3, [.ref q8, .ref q17, .null])), (q8, .inl (cI, 301, .inl (fun _ => nI 0))), (q17, .inl (cI, 301, .inl (fun _ => nI 0)))] H := hP
  have hD : va_D A [(h0, .inr (3, [.ref q8, .ref q17, .null])), (q8, .inl (cI, 301, .inl (fun _ => nI 0))), (q17, .inl (cI, 301, .inl (fun _ => nI 0)))] := hD
  refine lv_aload_n hx hb d_Plan_init_22 rfl (lv_at hl 0 rfl) ?_
  refine lv_sipush (v := nI 301) hx hb d_Plan_init_23 (by decide) ?_
  refine va_newa (N' := 301) (a0 := (301, .inl (fun _ => nI 0))) (atype := .int) hx hb (hz _ tw_99) (ty := .int) rfl hK hP hD hS hA (fun _ => rfl) (by decide) (by decide) (by decide) (Nat.le_of_ble_eq_true rfl) (Nat.le_of_ble_eq_true rfl) d_Plan_init_26 (fun q26 cN H hK9 hP hD hS => ?_)
  obtain rfl : cI = cN := za_uni (hK9.2 0 _ rfl).2 (hK9.2 2 _ rfl).2
  have hP : va_P (dC, dI) vwCl [(h0, .inr (3, [.ref q8, .ref q17, .null])), (q8, .inl (cI, 301, .inl (fun _ => nI 0))), (q17, .inl (cI, 301, .inl (fun _ => nI 0))), (q26, .inl (cI, 301, .inl (fun _ => nI 0)))] H := hP
  have hD : va_D A [(h0, .inr (3, [.ref q8, .ref q17, .null])), (q8, .inl (cI, 301, .inl (fun _ => nI 0))), (q17, .inl (cI, 301, .inl (fun _ => nI 0))), (q26, .inl (cI, 301, .inl (fun _ => nI 0)))] := hD
  refine va_putF (D := (dC, dI)) (ci := 3) (v := .ref q26) (ty := (.array .int)) (C := "CutLengths$Plan") (T := T_Plan) (N := 3) hx hb hz i_Plan t_Plan t_Plan_ok n_Plan hown hK hP hD hS 0 rfl rfl 2 (by decide) (hz _ tw_110) (fun _ h9 => h9) rfl hin rfl (by decide +kernel) rfl rfl (Nat.le_of_ble_eq_true rfl) d_Plan_init_28 (fun H locs hP hD hS => ?_)
  have hP : va_P (dC, dI) vwCl [(h0, .inr (3, [.ref q8, .ref q17, .ref q26])), (q8, .inl (cI, 301, .inl (fun _ => nI 0))), (q17, .inl (cI, 301, .inl (fun _ => nI 0))), (q26, .inl (cI, 301, .inl (fun _ => nI 0)))] H := hP
  have hD : va_D A [(h0, .inr (3, [.ref q8, .ref q17, .ref q26])), (q8, .inl (cI, 301, .inl (fun _ => nI 0))), (q17, .inl (cI, 301, .inl (fun _ => nI 0))), (q26, .inl (cI, 301, .inl (fun _ => nI 0)))] := hD
  refine W.widen (k := 3) (n := 903) (Nat.le_of_ble_eq_true rfl) (Nat.le_of_ble_eq_true rfl) ?_
  exact W.vret hx hb hr (fun t9 ht hW => ⟨⟨(q8, q17, q26), rfl, trivial, by rw [ht]; exact hP, va_K.moved hW.alike hK, hD⟩, hS.F ht⟩) hS.2.2 d_Plan_init_31
set_option maxHeartbeats 4000000 in
set_option maxRecDepth 100000 in
theorem c_Slabs_init (l : Launch) (dC : Nat → ClassId) (dI : Nat → Nat → Nat) (h0 : Nat) (cI cZ : ClassId) (sz : Nat) : Met l y_Slabs_init (zw_Slabs_init :: zW) ({ frames := 1, cells := 3, slots := 300, locals := 30 }) (va_Pc [.ref h0] (fun U => U.heap.size = sz ∧ va_P (dC, dI) vwCl [(h0, .inr (4, [.int (nI 0), .null, .null, .null]))] U.heap ∧ va_K (dC, dI) vwCl [(cI, .int), (cZ, .boolean)] U ∧ va_D (fun _ => True) [(h0, .inr (4, [.int (nI 0), .null, .null, .null]))])) (va_Qv (fun _ : Nat × Nat × Nat => True) (fun (u : Nat × Nat × Nat) t => match u with | (q12, q20, q28) => va_P (dC, dI) vwCl [(h0, .inr (4, [.int (nI 0), .ref q12, .ref q20, .ref q28])), (q12, .inl (cI, 100, .inl (fun _ => nI 0))), (q20, .inl (cI, 100, .inl (fun _ => nI 0))), (q28, .inl (cI, 100, .inl (fun _ => nI 0)))] t.heap ∧ va_K (dC, dI) vwCl [(cI, .int), (cZ, .boolean)] t ∧ va_D (va_A [(h0, .inr (4, [.int (nI 0), .null, .null, .null]))] sz) [(h0, .inr (4, [.int (nI 0), .ref q12, .ref q20, .ref q28])), (q12, .inl (cI, 100, .inl (fun _ => nI 0))), (q20, .inl (cI, 100, .inl (fun _ => nI 0))), (q28, .inl (cI, 100, .inl (fun _ => nI 0)))]) (va_A [(h0, .inr (4, [.int (nI 0), .null, .null, .null]))] sz)) 3 300 (va_A [(h0, .inr (4, [.int (nI 0), .null, .null, .null]))] sz) := by
  refine Met.ofW (cc := prog_3_method_1_code) (maxL := 1) (ret := none) (by decide) rfl ?_
  intro p e s m args below meth c s₁ B hml hv
  obtain ⟨rfl, hsz, hP, hK, hD0⟩ := hv
  have hx := B.exec
  have hb := B.bytes
  have hr := B.returns
  have hz : ∀ w ∈ zW, w.before ([.ref h0]).toArray s = true := fun w h => atoms_spec (ws := (zw_Slabs_init :: zW)) B.pre w (List.mem_cons_of_mem _ h)
  have hown : s.vm.findClass "CutLengths$Slabs" = some m.cls := findClass_of_methodNamed B.named
  have hlocks := B.notSynchronized
  have hin : meth.name = "<init>" := (name_of_methodNamed B.named B.method).1
  subst hsz
  have hD := hD0.self (sz := s.heap.size)
  generalize hAe : va_A [(h0, .inr (4, [.int (nI 0), .null, .null, .null]))] s.heap.size = A at hD ⊢
  have hA : ∀ q : Nat, s.heap.size ≤ q → A q := fun q h => by rw [← hAe]; exact Or.inr h
  have hS : va_S A s.heap s.heap [] := va_S.rf
  have hP : va_P (dC, dI) vwCl [(h0, .inr (4, [.int (nI 0), .null, .null, .null]))] s.heap := hP
  have hl := lv_entry ([.ref h0]) (n := 1) (Nat.le_of_ble_eq_true rfl)
  rw [lg_entry_eq]
  generalize (lg_sl ([.ref h0]) ++ List.replicate (1 - (lg_sl ([.ref h0])).length) Slot.unset).toArray = ls at hl ⊢
  have hl : lv_has ls 1 [(0, .ref h0)] := hl
  refine lv_aload_n hx hb d_Slabs_init_0 rfl (lv_at hl 0 rfl) ?_
  refine W.objInit hx hb hown (hz _ tw_124) (hz _ tw_35) (hz _ tw_obj) rfl (by rw [hml]; exact hl.1) rfl d_Slabs_init_1 (Nat.le_of_ble_eq_true rfl) (Nat.le_of_ble_eq_true rfl) ?_
  refine W.eq (g2 := F0 m 4 ls []) rfl ?_
  refine lv_aload_n hx hb d_Slabs_init_4 rfl (lv_at hl 0 rfl) ?_
  refine lv_iconst (v := nI 0) hx hb d_Slabs_init_5 (by decide) ?_
  refine va_put (D := (dC, dI)) (ci := 4) (v := .int (nI 0)) (ty := .int) (C := "CutLengths$Slabs") (T := T_Slabs) (N := 4) hx hb hz i_Slabs t_Slabs t_Slabs_ok n_Slabs hown hK hP hD hS 0 rfl rfl 0 (by decide) (hz _ tw_125) (fun _ h9 => h9) rfl (by decide +kernel) rfl rfl (Nat.le_of_ble_eq_true rfl) d_Slabs_init_6 (fun H locs hP hD hS => ?_)
  have hP : va_P (dC, dI) vwCl [(h0, .inr (4, [.int (nI 0), .null, .null, .null]))] H := hP
  have hD : va_D A [(h0, .inr (4, [.int (nI 0), .null, .null, .null]))] := hD
  refine lv_aload_n hx hb d_Slabs_init_9 rfl (lv_at hl 0 rfl) ?_
  refine lv_bipush (v := nI 100) hx hb d_Slabs_init_10 (by decide) ?_
  refine va_newa (N' := 100) (a0 := (100, .inl (fun _ => nI 0))) (atype := .int) hx hb (hz _ tw_99) (ty := .int) rfl hK hP hD hS hA (fun _ => rfl) (by decide) (by decide) (by decide) (Nat.le_of_ble_eq_true rfl) (Nat.le_of_ble_eq_true rfl) d_Slabs_init_12 (fun q12 cN H hK9 hP hD hS => ?_)
  obtain rfl : cI = cN := za_uni (hK9.2 0 _ rfl).2 (hK9.2 2 _ rfl).2
  have hP : va_P (dC, dI) vwCl [(h0, .inr (4, [.int (nI 0), .null, .null, .null])), (q12, .inl (cI, 100, .inl (fun _ => nI 0)))] H := hP
  have hD : va_D A [(h0, .inr (4, [.int (nI 0), .null, .null, .null])), (q12, .inl (cI, 100, .inl (fun _ => nI 0)))] := hD
  refine va_putF (D := (dC, dI)) (ci := 4) (v := .ref q12) (ty := (.array .int)) (C := "CutLengths$Slabs") (T := T_Slabs) (N := 4) hx hb hz i_Slabs t_Slabs t_Slabs_ok n_Slabs hown hK hP hD hS 0 rfl rfl 1 (by decide) (hz _ tw_127) (fun _ h9 => h9) rfl hin rfl (by decide +kernel) rfl rfl (Nat.le_of_ble_eq_true rfl) d_Slabs_init_14 (fun H locs hP hD hS => ?_)
  have hP : va_P (dC, dI) vwCl [(h0, .inr (4, [.int (nI 0), .ref q12, .null, .null])), (q12, .inl (cI, 100, .inl (fun _ => nI 0)))] H := hP
  have hD : va_D A [(h0, .inr (4, [.int (nI 0), .ref q12, .null, .null])), (q12, .inl (cI, 100, .inl (fun _ => nI 0)))] := hD
  refine lv_aload_n hx hb d_Slabs_init_17 rfl (lv_at hl 0 rfl) ?_
  refine lv_bipush (v := nI 100) hx hb d_Slabs_init_18 (by decide) ?_
  refine va_newa (N' := 100) (a0 := (100, .inl (fun _ => nI 0))) (atype := .int) hx hb (hz _ tw_99) (ty := .int) rfl hK hP hD hS hA (fun _ => rfl) (by decide) (by decide) (by decide) (Nat.le_of_ble_eq_true rfl) (Nat.le_of_ble_eq_true rfl) d_Slabs_init_20 (fun q20 cN H hK9 hP hD hS => ?_)
  obtain rfl : cI = cN := za_uni (hK9.2 0 _ rfl).2 (hK9.2 2 _ rfl).2
  have hP : va_P (dC, dI) vwCl [(h0, .inr (4, [.int (nI 0), .ref q12, .null, .null])), (q12, .inl (cI, 100, .inl (fun _ => nI 0))), (q20, .inl (cI, 100, .inl (fun _ => nI 0)))] H := hP
  have hD : va_D A [(h0, .inr (4, [.int (nI 0), .ref q12, .null, .null])), (q12, .inl (cI, 100, .inl (fun _ => nI 0))), (q20, .inl (cI, 100, .inl (fun _ => nI 0)))] := hD
  refine va_putF (D := (dC, dI)) (ci := 4) (v := .ref q20) (ty := (.array .int)) (C := "CutLengths$Slabs") (T := T_Slabs) (N := 4) hx hb hz i_Slabs t_Slabs t_Slabs_ok n_Slabs hown hK hP hD hS 0 rfl rfl 2 (by decide) (hz _ tw_129) (fun _ h9 => h9) rfl hin rfl (by decide +kernel) rfl rfl (Nat.le_of_ble_eq_true rfl) d_Slabs_init_22 (fun H locs hP hD hS => ?_)
  have hP : va_P (dC, dI) vwCl [(h0, .inr (4, [.int (nI 0), .ref q12, .ref q20, .null])), (q12, .inl (cI, 100, .inl (fun _ => nI 0))), (q20, .inl (cI, 100, .inl (fun _ => nI 0)))] H := hP
  have hD : va_D A [(h0, .inr (4, [.int (nI 0), .ref q12, .ref q20, .null])), (q12, .inl (cI, 100, .inl (fun _ => nI 0))), (q20, .inl (cI, 100, .inl (fun _ => nI 0)))] := hD
  refine lv_aload_n hx hb d_Slabs_init_25 rfl (lv_at hl 0 rfl) ?_
  refine lv_bipush (v := nI 100) hx hb d_Slabs_init_26 (by decide) ?_
  refine va_newa (N' := 100) (a0 := (100, .inl (fun _ => nI 0))) (atype := .int) hx hb (hz _ tw_99) (ty := .int) rfl hK hP hD hS hA (fun _ => rfl) (by decide) (by decide) (by decide) (Nat.le_of_ble_eq_true rfl) (Nat.le_of_ble_eq_true rfl) d_Slabs_init_28 (fun q28 cN H hK9 hP hD hS => ?_)
  obtain rfl : cI = cN := za_uni (hK9.2 0 _ rfl).2 (hK9.2 2 _ rfl).2
  have hP : va_P (dC, dI) vwCl [(h0, .inr (4, [.int (nI 0), .ref q12, .ref q20, .null])), (q12, .inl (cI, 100, .inl (fun _ => nI 0))), (q20, .inl (cI, 100, .inl (fun _ => nI 0))), (q28, .inl (cI, 100, .inl (fun _ => nI 0)))] H := hP
  have hD : va_D A [(h0, .inr (4, [.int (nI 0), .ref q12, .ref q20, .null])), (q12, .inl (cI, 100, .inl (fun _ => nI 0))), (q20, .inl (cI, 100, .inl (fun _ => nI 0))), (q28, .inl (cI, 100, .inl (fun _ => nI 0)))] := hD
  refine va_putF (D := (dC, dI)) (ci := 4) (v := .ref q28) (ty := (.array .int)) (C := "CutLengths$Slabs") (T := T_Slabs) (N := 4) hx hb hz i_Slabs t_Slabs t_Slabs_ok n_Slabs hown hK hP hD hS 0 rfl rfl 3 (by decide) (hz _ tw_131) (fun _ h9 => h9) rfl hin rfl (by decide +kernel) rfl rfl (Nat.le_of_ble_eq_true rfl) d_Slabs_init_30 (fun H locs hP hD hS => ?_)
  have hP : va_P (dC, dI) vwCl [(h0, .inr (4, [.int (nI 0), .ref q12, .ref q20, .ref q28])), (q12, .inl (cI, 100, .inl (fun _ => nI 0))), (q20, .inl (cI, 100, .inl (fun _ => nI 0))), (q28, .inl (cI, 100, .inl (fun _ => nI 0)))] H := hP
  have hD : va_D A [(h0, .inr (4, [.int (nI 0), .ref q12, .ref q20, .ref q28])), (q12, .inl (cI, 100, .inl (fun _ => nI 0))), (q20, .inl (cI, 100, .inl (fun _ => nI 0))), (q28, .inl (cI, 100, .inl (fun _ => nI 0)))] := hD
  refine W.widen (k := 3) (n := 300) (Nat.le_of_ble_eq_true rfl) (Nat.le_of_ble_eq_true rfl) ?_
  exact W.vret hx hb hr (fun t9 ht hW => ⟨⟨(q12, q20, q28), rfl, trivial, by rw [ht]; exact hP, va_K.moved hW.alike hK, hD⟩, hS.F ht⟩) hS.2.2 d_Slabs_init_33
def zNst : List Cond := [Cond.methodLinkNest "CutLengths" 11 ⟨"CutLengths$Strand", "<init>", "()V"⟩ "CutLengths", Cond.methodLinkNest "CutLengths" 18 ⟨"CutLengths$WantedLengths", "<init>", "()V"⟩ "CutLengths", Cond.methodLinkNest "CutLengths" 25 ⟨"CutLengths$Plan", "<init>", "()V"⟩ "CutLengths", Cond.methodLinkNest "CutLengths" 32 ⟨"CutLengths$Slabs", "<init>", "()V"⟩ "CutLengths"]
set_option maxHeartbeats 4000000 in
set_option maxRecDepth 100000 in
theorem c_Cut_init (l : Launch) (dC : Nat → ClassId) (dI : Nat → Nat → Nat) (h0 : Nat) (cI cZ : ClassId) (sz : Nat) : Met l y_Cut_init (zw_Cut_init :: zW) ({ frames := 2, cells := 14, slots := 1834, locals := 50 }) (va_Pc [.ref h0] (fun U => U.heap.size = sz ∧ va_P (dC, dI) vwCl [(h0, .inr (0, [.null, .null, .null, .null, .int (nI 0), .int (nI 0), .int (nI 0)]))] U.heap ∧ va_K (dC, dI) vwCl [(cI, .int), (cZ, .boolean)] U ∧ va_D (fun _ => True) [(h0, .inr (0, [.null, .null, .null, .null, .int (nI 0), .int (nI 0), .int (nI 0)]))] ∧ ∀ w ∈ zNst, va_Nw w U)) (va_Qv (fun _ : Nat × Nat × Nat × Nat × Nat × Nat × Nat × Nat × Nat × Nat × Nat × Nat × Nat × Nat => True) (fun (u : Nat × Nat × Nat × Nat × Nat × Nat × Nat × Nat × Nat × Nat × Nat × Nat × Nat × Nat) t => match u with | (q5, q38_9, q47_9, q16, q12_20, q20_20, q27, q8_31, q17_31, q26_31, q38, q12_42, q20_42, q28_42) => va_P (dC, dI) vwCl [(h0, .inr (0, [.ref q5, .ref q16, .ref q27, .ref q38, .int (nI 100), .int (nI 1000), .int (nI 1)])), (q5, .inr (1, [.int (nI 0), .int (nI 0), .int (nI 0), .int (nI 0), .int (nI 0), .int (nI 0), .ref q38_9, .ref q47_9])), (q38_9, .inl (cZ, 300, .inl (fun _ => nI 0))), (q47_9, .inl (cZ, 301, .inl (fun _ => nI 0))), (q16, .inr (2, [.int (nI 0), .ref q12_20, .ref q20_20])), (q12_20, .inl (cI, 6, .inl (fun _ => nI 0))), (q20_20, .inl (cI, 6, .inl (fun _ => nI 0))), (q27, .inr (3, [.ref q8_31, .ref q17_31, .ref q26_31])), (q8_31, .inl (cI, 301, .inl (fun _ => nI 0))), (q17_31, .inl (cI, 301, .inl (fun _ => nI 0))), (q26_31, .inl (cI, 301, .inl (fun _ => nI 0))), (q38, .inr (4, [.int (nI 0), .ref q12_42, .ref q20_42, .ref q28_42])), (q12_42, .inl (cI, 100, .inl (fun _ => nI 0))), (q20_42, .inl (cI, 100, .inl (fun _ => nI 0))), (q28_42, .inl (cI, 100, .inl (fun _ => nI 0)))] t.heap ∧ va_K (dC, dI) vwCl [(cI, .int), (cZ, .boolean)] t ∧ va_D (va_A [(h0, .inr (0, [.null, .null, .null, .null, .int (nI 0), .int (nI 0), .int (nI 0)]))] sz) [(h0, .inr (0, [.ref q5, .ref q16, .ref q27, .ref q38, .int (nI 100), .int (nI 1000), .int (nI 1)])), (q5, .inr (1, [.int (nI 0), .int (nI 0), .int (nI 0), .int (nI 0), .int (nI 0), .int (nI 0), .ref q38_9, .ref q47_9])), (q38_9, .inl (cZ, 300, .inl (fun _ => nI 0))), (q47_9, .inl (cZ, 301, .inl (fun _ => nI 0))), (q16, .inr (2, [.int (nI 0), .ref q12_20, .ref q20_20])), (q12_20, .inl (cI, 6, .inl (fun _ => nI 0))), (q20_20, .inl (cI, 6, .inl (fun _ => nI 0))), (q27, .inr (3, [.ref q8_31, .ref q17_31, .ref q26_31])), (q8_31, .inl (cI, 301, .inl (fun _ => nI 0))), (q17_31, .inl (cI, 301, .inl (fun _ => nI 0))), (q26_31, .inl (cI, 301, .inl (fun _ => nI 0))), (q38, .inr (4, [.int (nI 0), .ref q12_42, .ref q20_42, .ref q28_42])), (q12_42, .inl (cI, 100, .inl (fun _ => nI 0))), (q20_42, .inl (cI, 100, .inl (fun _ => nI 0))), (q28_42, .inl (cI, 100, .inl (fun _ => nI 0)))]) (va_A [(h0, .inr (0, [.null, .null, .null, .null, .int (nI 0), .int (nI 0), .int (nI 0)]))] sz)) 14 1834 (va_A [(h0, .inr (0, [.null, .null, .null, .null, .int (nI 0), .int (nI 0), .int (nI 0)]))] sz) := by
  refine Met.ofW (cc := prog_1_method_1_code) (maxL := 1) (ret := none) (by decide) rfl ?_
  intro p e s m args below meth c s₁ B hml hv
  obtain ⟨rfl, hsz, hP, hK, hD0, hNs⟩ := hv
  have hx := B.exec
  have hb := B.bytes
  have hr := B.returns
  have hz : ∀ w ∈ zW, w.before ([.ref h0]).toArray s = true := fun w h => atoms_spec (ws := (zw_Cut_init :: zW)) B.pre w (List.mem_cons_of_mem _ h)
  have hown : s.vm.findClass "CutLengths" = some m.cls := findClass_of_methodNamed B.named
  have hlocks := B.notSynchronized
  have hin : meth.name = "<init>" := (name_of_methodNamed B.named B.method).1
  subst hsz
  have hD := hD0.self (sz := s.heap.size)
  generalize hAe : va_A [(h0, .inr (0, [.null, .null, .null, .null, .int (nI 0), .int (nI 0), .int (nI 0)]))] s.heap.size = A at hD ⊢
  have hA : ∀ q : Nat, s.heap.size ≤ q → A q := fun q h => by rw [← hAe]; exact Or.inr h
  have hS : va_S A s.heap s.heap [] := va_S.rf
  have hP : va_P (dC, dI) vwCl [(h0, .inr (0, [.null, .null, .null, .null, .int (nI 0), .int (nI 0), .int (nI 0)]))] s.heap := hP
  have hl := lv_entry ([.ref h0]) (n := 1) (Nat.le_of_ble_eq_true rfl)
  rw [lg_entry_eq]
  generalize (lg_sl ([.ref h0]) ++ List.replicate (1 - (lg_sl ([.ref h0])).length) Slot.unset).toArray = ls at hl ⊢
  have hl : lv_has ls 1 [(0, .ref h0)] := hl
  refine lv_aload_n hx hb d_Cut_init_0 rfl (lv_at hl 0 rfl) ?_
  refine W.objInit hx hb hown (hz _ tw_34) (hz _ tw_35) (hz _ tw_obj) rfl (by rw [hml]; exact hl.1) rfl d_Cut_init_1 (Nat.le_of_ble_eq_true rfl) (Nat.le_of_ble_eq_true rfl) ?_
  refine W.eq (g2 := F0 m 4 ls []) rfl ?_
  refine lv_aload_n hx hb d_Cut_init_4 rfl (lv_at hl 0 rfl) ?_
  refine va_new (ci := 1) (fs := [.int (nI 0), .int (nI 0), .int (nI 0), .int (nI 0), .int (nI 0), .int (nI 0), .null, .null]) (C := "CutLengths$Strand") (T := T_Strand) (N := 8) hx hb hz i_Strand t_Strand t_Strand_ok hown (hz _ tw_37) (hz _ tw_38) (hz _ tw_16) hK hP hD hS hA rfl (fun j hj => by rcases (show j = 0 ∨ j = 1 ∨ j = 2 ∨ j = 3 ∨ j = 4 ∨ j = 5 ∨ j = 6 ∨ j = 7 by omega) with rfl | rfl | rfl | rfl | rfl | rfl | rfl | rfl <;> rfl) (Nat.le_of_ble_eq_true rfl) (Nat.le_of_ble_eq_true rfl) d_Cut_init_5 (fun q5 H hP hD hS => ?_)
  have hP : va_P (dC, dI) vwCl [(h0, .inr (0, [.null, .null, .null, .null, .int (nI 0), .int (nI 0), .int (nI 0)])), (q5, .inr (1, [.int (nI 0), .int (nI 0), .int (nI 0), .int (nI 0), .int (nI 0), .int (nI 0), .null, .null]))] H := hP
  have hD : va_D A [(h0, .inr (0, [.null, .null, .null, .null, .int (nI 0), .int (nI 0), .int (nI 0)])), (q5, .inr (1, [.int (nI 0), .int (nI 0), .int (nI 0), .int (nI 0), .int (nI 0), .int (nI 0), .null, .null]))] := hD
  refine lv_dup hx hb d_Cut_init_8 rfl ?_
  refine W.widen (k := 1) (n := 8) (Nat.le_of_ble_eq_true rfl) (Nat.le_of_ble_eq_true rfl) ?_
  have hPc := hP.sub (ws' := [(q5, .inr (1, [.int (nI 0), .int (nI 0), .int (nI 0), .int (nI 0), .int (nI 0), .int (nI 0), .null, .null]))]) [1] rfl
  have hDc := hD.sub (ws' := [(q5, .inr (1, [.int (nI 0), .int (nI 0), .int (nI 0), .int (nI 0), .int (nI 0), .int (nI 0), .null, .null]))]) [1] (by decide) rfl
  have hFc := va_free (wc := [(q5, .inr (1, [.int (nI 0), .int (nI 0), .int (nI 0), .int (nI 0), .int (nI 0), .int (nI 0), .null, .null]))]) hD hS hA [1] rfl
  refine va_callv (va_runIN (host := "CutLengths") (As := []) (rest := [.ref q5, .ref h0]) ⟨hx, hb, hml, hown, hz⟩ (c_Strand_init l dC dI q5 cI cZ H.size) ⟨va_cnB 0 hz (zgI tw_41) rfl rfl rfl (hNs _ (by decide)) (hz _ tw_16) (by decide +kernel) ⟨Nat.le_of_ble_eq_true rfl, Nat.le_of_ble_eq_true rfl⟩, rfl, hz _ tw_40⟩ ⟨(fun a U g mk q => by obtain ⟨q0, q1, qP, qK, qD⟩ := q; exact ⟨q0, q1, qP, va_K.moved (u := U) (U := U.calling g mk a) (Vm.Alike.refl U.vm) qK, qD⟩), fun U hU hW => ⟨rfl, by rw [hU], by rw [hU]; exact hPc, va_K.moved hW.alike hK, hDc.weaken (fun _ _ _ _ => trivial)⟩⟩ rfl rfl hl.1 rfl (lv_room (Nat.le_of_ble_eq_true rfl)) d_Cut_init_9 ⟨Nat.le_of_ble_eq_true rfl, Nat.le_of_ble_eq_true rfl⟩) hS (fun q _ h => hFc q h) hFc (fun u9 t9 H1 locs ht hvm hw hB hz1 hk1 hS => ?_)
  obtain ⟨q38_9, q47_9⟩ := u9
  obtain ⟨hP1, hK1, hD1⟩ := hB
  rw [ht] at hP1
  obtain ⟨hP, hD⟩ := va_join (wr := [(h0, .inr (0, [.null, .null, .null, .null, .int (nI 0), .int (nI 0), .int (nI 0)]))]) (w1 := [(q5, .inr (1, [.int (nI 0), .int (nI 0), .int (nI 0), .int (nI 0), .int (nI 0), .int (nI 0), .ref q38_9, .ref q47_9])), (q38_9, .inl (cZ, 300, .inl (fun _ => nI 0))), (q47_9, .inl (cZ, 301, .inl (fun _ => nI 0)))]) hP hD [1] [0] rfl rfl (by decide) (by decide) hk1 hFc hP1 hD1
  generalize H1 = H at hP hS ⊢
  have hP : va_P (dC, dI) vwCl [(h0, .inr (0, [.null, .null, .null, .null, .int (nI 0), .int (nI 0), .int (nI 0)])), (q5, .inr (1, [.int (nI 0), .int (nI 0), .int (nI 0), .int (nI 0), .int (nI 0), .int (nI 0), .ref q38_9, .ref q47_9])), (q38_9, .inl (cZ, 300, .inl (fun _ => nI 0))), (q47_9, .inl (cZ, 301, .inl (fun _ => nI 0)))] H := hP
  have hD : va_D A [(h0, .inr (0, [.null, .null, .null, .null, .int (nI 0), .int (nI 0), .int (nI 0)])), (q5, .inr (1, [.int (nI 0), .int (nI 0), .int (nI 0), .int (nI 0), .int (nI 0), .int (nI 0), .ref q38_9, .ref q47_9])), (q38_9, .inl (cZ, 300, .inl (fun _ => nI 0))), (q47_9, .inl (cZ, 301, .inl (fun _ => nI 0)))] := hD
  refine va_putF (D := (dC, dI)) (ci := 0) (v := .ref q5) (ty := (.object "CutLengths$Strand")) (C := "CutLengths") (T := T_Cut) (N := 7) hx hb hz i_Cut t_Cut t_Cut_ok n_Cut hown hK hP hD hS 0 rfl rfl 0 (by decide) (hz _ tw_142) (fun _ h9 => h9) rfl hin rfl (by decide +kernel) rfl rfl (Nat.le_of_ble_eq_true rfl) d_Cut_init_12 (fun H locs hP hD hS => ?_)
  have hP : va_P (dC, dI) vwCl [(h0, .inr (0, [.ref q5, .null, .null, .null, .int (nI 0), .int (nI 0), .int (nI 0)])), (q5, .inr (1, [.int (nI 0), .int (nI 0), .int (nI 0), .int (nI 0), .int (nI 0), .int (nI 0), .ref q38_9, .ref q47_9])), (q38_9, .inl (cZ, 300, .inl (fun _ => nI 0))), (q47_9, .inl (cZ, 301, .inl (fun _ => nI 0)))] H := hP
  have hD : va_D A [(h0, .inr (0, [.ref q5, .null, .null, .null, .int (nI 0), .int (nI 0), .int (nI 0)])), (q5, .inr (1, [.int (nI 0), .int (nI 0), .int (nI 0), .int (nI 0), .int (nI 0), .int (nI 0), .ref q38_9, .ref q47_9])), (q38_9, .inl (cZ, 300, .inl (fun _ => nI 0))), (q47_9, .inl (cZ, 301, .inl (fun _ => nI 0)))] := hD
  refine lv_aload_n hx hb d_Cut_init_15 rfl (lv_at hl 0 rfl) ?_
  refine va_new (ci := 2) (fs := [.int (nI 0), .null, .null]) (C := "CutLengths$WantedLengths") (T := T_Wanted) (N := 3) hx hb hz i_Wanted t_Wanted t_Wanted_ok hown (hz _ tw_77) (hz _ tw_78) (hz _ tw_17) hK hP hD hS hA rfl (fun j hj => by rcases (show j = 0 ∨ j = 1 ∨ j = 2 by omega) with rfl | rfl | rfl <;> rfl) (Nat.le_of_ble_eq_true rfl) (Nat.le_of_ble_eq_true rfl) d_Cut_init_16 (fun q16 H hP hD hS => ?_)
  have hP : va_P (dC, dI) vwCl [(h0, .inr (0, [.ref q5, .null, .null, .null, .int (nI 0), .int (nI 0), .int (nI 0)])), (q5, .inr (1, [.int (nI 0), .int (nI 0), .int (nI 0), .int (nI 0), .int (nI 0), .int (nI 0), .ref q38_9, .ref q47_9])), (q38_9, .inl (cZ, 300, .inl (fun _ => nI 0))), (q47_9, .inl (cZ, 301, .inl (fun _ => nI 0))), (q16, .inr (2, [.int (nI 0), .null, .null]))] H := hP
  have hD : va_D A [(h0, .inr (0, [.ref q5, .null, .null, .null, .int (nI 0), .int (nI 0), .int (nI 0)])), (q5, .inr (1, [.int (nI 0), .int (nI 0), .int (nI 0), .int (nI 0), .int (nI 0), .int (nI 0), .ref q38_9, .ref q47_9])), (q38_9, .inl (cZ, 300, .inl (fun _ => nI 0))), (q47_9, .inl (cZ, 301, .inl (fun _ => nI 0))), (q16, .inr (2, [.int (nI 0), .null, .null]))] := hD
  refine lv_dup hx hb d_Cut_init_19 rfl ?_
  refine W.widen (k := 4) (n := 612) (Nat.le_of_ble_eq_true rfl) (Nat.le_of_ble_eq_true rfl) ?_
  have hPc := hP.sub (ws' := [(q16, .inr (2, [.int (nI 0), .null, .null]))]) [4] rfl
  have hDc := hD.sub (ws' := [(q16, .inr (2, [.int (nI 0), .null, .null]))]) [4] (by decide) rfl
  have hFc := va_free (wc := [(q16, .inr (2, [.int (nI 0), .null, .null]))]) hD hS hA [4] rfl
  refine va_callv (va_runIN (host := "CutLengths") (As := []) (rest := [.ref q16, .ref h0]) ⟨hx, hb, hml, hown, hz⟩ (c_Wanted_init l dC dI q16 cI cZ H.size) ⟨va_cnB 0 hz (zgI tw_81) rfl rfl rfl (hNs _ (by decide)) (hz _ tw_17) (by decide +kernel) ⟨Nat.le_of_ble_eq_true rfl, Nat.le_of_ble_eq_true rfl⟩, rfl, hz _ tw_80⟩ ⟨(fun a U g mk q => by obtain ⟨q0, q1, qP, qK, qD⟩ := q; exact ⟨q0, q1, qP, va_K.moved (u := U) (U := U.calling g mk a) (Vm.Alike.refl U.vm) qK, qD⟩), fun U hU hW => ⟨rfl, by rw [hU], by rw [hU]; exact hPc, va_K.moved hW.alike hK, hDc.weaken (fun _ _ _ _ => trivial)⟩⟩ rfl rfl hl.1 rfl (lv_room (Nat.le_of_ble_eq_true rfl)) d_Cut_init_20 ⟨Nat.le_of_ble_eq_true rfl, Nat.le_of_ble_eq_true rfl⟩) hS (fun q _ h => hFc q h) hFc (fun u9 t9 H1 locs ht hvm hw hB hz1 hk1 hS => ?_)
  obtain ⟨q12_20, q20_20⟩ := u9
  obtain ⟨hP1, hK1, hD1⟩ := hB
  rw [ht] at hP1
  obtain ⟨hP, hD⟩ := va_join (wr := [(h0, .inr (0, [.ref q5, .null, .null, .null, .int (nI 0), .int (nI 0), .int (nI 0)])), (q5, .inr (1, [.int (nI 0), .int (nI 0), .int (nI 0), .int (nI 0), .int (nI 0), .int (nI 0), .ref q38_9, .ref q47_9])), (q38_9, .inl (cZ, 300, .inl (fun _ => nI 0))), (q47_9, .inl (cZ, 301, .inl (fun _ => nI 0)))]) (w1 := [(q16, .inr (2, [.int (nI 0), .ref q12_20, .ref q20_20])), (q12_20, .inl (cI, 6, .inl (fun _ => nI 0))), (q20_20, .inl (cI, 6, .inl (fun _ => nI 0)))]) hP hD [4] [0, 1, 2, 3] rfl rfl (by decide) (by decide) hk1 hFc hP1 hD1
  generalize H1 = H at hP hS ⊢
  have hP : va_P (dC, dI) vwCl [(h0, .inr (0, [.ref q5, .null, .null, .null, .int (nI 0), .int (nI 0), .int (nI 0)])), (q5, .inr (1, [.int (nI 0), .int (nI 0), .int (nI 0), .int (nI 0), .int (nI 0), .int (nI 0), .ref q38_9, .ref q47_9])), (q38_9, .inl (cZ, 300, .inl (fun _ => nI 0))), (q47_9, .inl (cZ, 301, .inl (fun _ => nI 0))), (q16, .inr (2, [.int (nI 0), .ref q12_20, .ref q20_20])), (q12_20, .inl (cI, 6, .inl (fun _ => nI 0))), (q20_20, .inl (cI, 6, .inl (fun _ => nI 0)))] H := hP
  have hD : va_D A [(h0, .inr (0, [.ref q5, .null, .null, .null, .int (nI 0), .int (nI 0), .int (nI 0)])), (q5, .inr (1, [.int (nI 0), .int (nI 0), .int (nI 0), .int (nI 0), .int (nI 0), .int (nI 0), .ref q38_9, .ref q47_9])), (q38_9, .inl (cZ, 300, .inl (fun _ => nI 0))), (q47_9, .inl (cZ, 301, .inl (fun _ => nI 0))), (q16, .inr (2, [.int (nI 0), .ref q12_20, .ref q20_20])), (q12_20, .inl (cI, 6, .inl (fun _ => nI 0))), (q20_20, .inl (cI, 6, .inl (fun _ => nI 0)))] := hD
  refine va_putF (D := (dC, dI)) (ci := 0) (v := .ref q16) (ty := (.object "CutLengths$WantedLengths")) (C := "CutLengths") (T := T_Cut) (N := 7) hx hb hz i_Cut t_Cut t_Cut_ok n_Cut hown hK hP hD hS 0 rfl rfl 1 (by decide) (hz _ tw_143) (fun _ h9 => h9) rfl hin rfl (by decide +kernel) rfl rfl (Nat.le_of_ble_eq_true rfl) d_Cut_init_23 (fun H locs hP hD hS => ?_)
  have hP : va_P (dC, dI) vwCl [(h0, .inr (0, [.ref q5, .ref q16, .null, .null, .int (nI 0), .int (nI 0), .int (nI 0)])), (q5, .inr (1, [.int (nI 0), .int (nI 0), .int (nI 0), .int (nI 0), .int (nI 0), .int (nI 0), .ref q38_9, .ref q47_9])), (q38_9, .inl (cZ, 300, .inl (fun _ => nI 0))), (q47_9, .inl (cZ, 301, .inl (fun _ => nI 0))), (q16, .inr (2, [.int (nI 0), .ref q12_20, .ref q20_20])), (q12_20, .inl (cI, 6, .inl (fun _ => nI 0))), (q20_20, .inl (cI, 6, .inl (fun _ => nI 0)))] H := hP
  have hD : va_D A [(h0, .inr (0, [.ref q5, .ref q16, .null, .null, .int (nI 0), .int (nI 0), .int (nI 0)])), (q5, .inr (1, [.int (nI 0), .int (nI 0), .int (nI 0), .int (nI 0), .int (nI 0), .int (nI 0), .ref q38_9, .ref q47_9])), (q38_9, .inl (cZ, 300, .inl (fun _ => nI 0))), (q47_9, .inl (cZ, 301, .inl (fun _ => nI 0))), (q16, .inr (2, [.int (nI 0), .ref q12_20, .ref q20_20])), (q12_20, .inl (cI, 6, .inl (fun _ => nI 0))), (q20_20, .inl (cI, 6, .inl (fun _ => nI 0)))] := hD
  refine lv_aload_n hx hb d_Cut_init_26 rfl (lv_at hl 0 rfl) ?_
  refine va_new (ci := 3) (fs := [.null, .null, .null]) (C := "CutLengths$Plan") (T := T_Plan) (N := 3) hx hb hz i_Plan t_Plan t_Plan_ok hown (hz _ tw_100) (hz _ tw_101) (hz _ tw_18) hK hP hD hS hA rfl (fun j hj => by rcases (show j = 0 ∨ j = 1 ∨ j = 2 by omega) with rfl | rfl | rfl <;> rfl) (Nat.le_of_ble_eq_true rfl) (Nat.le_of_ble_eq_true rfl) d_Cut_init_27 (fun q27 H hP hD hS => ?_)
  have hP : va_P (dC, dI) vwCl [(h0, .inr (0, [.ref q5, .ref q16, .null, .null, .int (nI 0), .int (nI 0), .int (nI 0)])), (q5, .inr (1, [.int (nI 0), .int (nI 0), .int (nI 0), .int (nI 0), .int (nI 0), .int (nI 0), .ref q38_9, .ref q47_9])), (q38_9, .inl (cZ, 300, .inl (fun _ => nI 0))), (q47_9, .inl (cZ, 301, .inl (fun _ => nI 0))), (q16, .inr (2, [.int (nI 0), .ref q12_20, .ref q20_20])), (q12_20, .inl (cI, 6, .inl (fun _ => nI 0))), (q20_20, .inl (cI, 6, .inl (fun _ => nI 0))), (q27, .inr (3, [.null, .null, .null]))] H := hP
  have hD : va_D A [(h0, .inr (0, [.ref q5, .ref q16, .null, .null, .int (nI 0), .int (nI 0), .int (nI 0)])), (q5, .inr (1, [.int (nI 0), .int (nI 0), .int (nI 0), .int (nI 0), .int (nI 0), .int (nI 0), .ref q38_9, .ref q47_9])), (q38_9, .inl (cZ, 300, .inl (fun _ => nI 0))), (q47_9, .inl (cZ, 301, .inl (fun _ => nI 0))), (q16, .inr (2, [.int (nI 0), .ref q12_20, .ref q20_20])), (q12_20, .inl (cI, 6, .inl (fun _ => nI 0))), (q20_20, .inl (cI, 6, .inl (fun _ => nI 0))), (q27, .inr (3, [.null, .null, .null]))] := hD
  refine lv_dup hx hb d_Cut_init_30 rfl ?_
  refine W.widen (k := 7) (n := 627) (Nat.le_of_ble_eq_true rfl) (Nat.le_of_ble_eq_true rfl) ?_
  have hPc := hP.sub (ws' := [(q27, .inr (3, [.null, .null, .null]))]) [7] rfl
  have hDc := hD.sub (ws' := [(q27, .inr (3, [.null, .null, .null]))]) [7] (by decide) rfl
  have hFc := va_free (wc := [(q27, .inr (3, [.null, .null, .null]))]) hD hS hA [7] rfl
  refine va_callv (va_runIN (host := "CutLengths") (As := []) (rest := [.ref q27, .ref h0]) ⟨hx, hb, hml, hown, hz⟩ (c_Plan_init l dC dI q27 cI cZ H.size) ⟨va_cnB 0 hz (zgI tw_104) rfl rfl rfl (hNs _ (by decide)) (hz _ tw_18) (by decide +kernel) ⟨Nat.le_of_ble_eq_true rfl, Nat.le_of_ble_eq_true rfl⟩, rfl, hz _ tw_103⟩ ⟨(fun a U g mk q => by obtain ⟨q0, q1, qP, qK, qD⟩ := q; exact ⟨q0, q1, qP, va_K.moved (u := U) (U := U.calling g mk a) (Vm.Alike.refl U.vm) qK, qD⟩), fun U hU hW => ⟨rfl, by rw [hU], by rw [hU]; exact hPc, va_K.moved hW.alike hK, hDc.weaken (fun _ _ _ _ => trivial)⟩⟩ rfl rfl hl.1 rfl (lv_room (Nat.le_of_ble_eq_true rfl)) d_Cut_init_31 ⟨Nat.le_of_ble_eq_true rfl, Nat.le_of_ble_eq_true rfl⟩) hS (fun q _ h => hFc q h) hFc (fun u9 t9 H1 locs ht hvm hw hB hz1 hk1 hS => ?_)
  obtain ⟨q8_31, q17_31, q26_31⟩ := u9
  obtain ⟨hP1, hK1, hD1⟩ := hB
  rw [ht] at hP1
  obtain ⟨hP, hD⟩ := va_join (wr := [(h0, .inr (0, [.ref q5, .ref q16, .null, .null, .int (nI 0), .int (nI 0), .int (nI 0)])), (q5, .inr (1, [.int (nI 0), .int (nI 0), .int (nI 0), .int (nI 0), .int (nI 0), .int (nI 0), .ref q38_9, .ref q47_9])), (q38_9, .inl (cZ, 300, .inl (fun _ => nI 0))), (q47_9, .inl (cZ, 301, .inl (fun _ => nI 0))), (q16, .inr (2, [.int (nI 0), .ref q12_20, .ref q20_20])), (q12_20, .inl (cI, 6, .inl (fun _ => nI 0))), (q20_20, .inl (cI, 6, .inl (fun _ => nI 0)))]) (w1 := [(q27, .inr (3, [.ref q8_31, .ref q17_31, .ref q26_31])), (q8_31, .inl (cI, 301, .inl (fun _ => nI 0))), (q17_31, .inl (cI, 301, .inl (fun _ => nI 0))), (q26_31, .inl (cI, 301, .inl (fun _ => nI 0)))]) hP hD [7] [0, 1, 2, 3, 4, 5, 6] rfl rfl (by decide) (by decide) hk1 hFc hP1 hD1
  generalize H1 = H at hP hS ⊢
  have hP : va_P (dC, dI) vwCl [(h0, .inr (0, [.ref q5, .ref q16, .null, .null, .int (nI 0), .int (nI 0), .int (nI 0)])), (q5, .inr (1, [.int (nI 0), .int (nI 0), .int (nI 0), .int (nI 0), .int (nI 0), .int (nI 0), .ref q38_9, .ref q47_9])), (q38_9, .inl (cZ, 300, .inl (fun _ => nI 0))), (q47_9, .inl (cZ, 301, .inl (fun _ => nI 0))), (q16, .inr (2, [.int (nI 0), .ref q12_20, .ref q20_20])), (q12_20, .inl (cI, 6, .inl (fun _ => nI 0))), (q20_20, .inl (cI, 6, .inl (fun _ => nI 0))), (q27, .inr (3, [.ref q8_31, .ref q17_31, .ref q26_31])), (q8_31, .inl (cI, 301, .inl (fun _ => nI 0))), (q17_31, .inl (cI, 301, .inl (fun _ => nI 0))), (q26_31, .inl (cI, 301, .inl (fun _ => nI 0)))] H := hP
  have hD : va_D A [(h0, .inr (0, [.ref q5, .ref q16, .null, .null, .int (nI 0), .int (nI 0), .int (nI 0)])), (q5, .inr (1, [.int (nI 0), .int (nI 0), .int (nI 0), .int (nI 0), .int (nI 0), .int (nI 0), .ref q38_9, .ref q47_9])), (q38_9, .inl (cZ, 300, .inl (fun _ => nI 0))), (q47_9, .inl (cZ, 301, .inl (fun _ => nI 0))), (q16, .inr (2, [.int (nI 0), .ref q12_20, .ref q20_20])), (q12_20, .inl (cI, 6, .inl (fun _ => nI 0))), (q20_20, .inl (cI, 6, .inl (fun _ => nI 0))), (q27, .inr (3, [.ref q8_31, .ref q17_31, .ref q26_31])), (q8_31, .inl (cI, 301, .inl (fun _ => nI 0))), (q17_31, .inl (cI, 301, .inl (fun _ => nI 0))), (q26_31, .inl (cI, 301, .inl (fun _ => nI 0)))] := hD
  refine va_putF (D := (dC, dI)) (ci := 0) (v := .ref q27) (ty := (.object "CutLengths$Plan")) (C := "CutLengths") (T := T_Cut) (N := 7) hx hb hz i_Cut t_Cut t_Cut_ok n_Cut hown hK hP hD hS 0 rfl rfl 2 (by decide) (hz _ tw_144) (fun _ h9 => h9) rfl hin rfl (by decide +kernel) rfl rfl (Nat.le_of_ble_eq_true rfl) d_Cut_init_34 (fun H locs hP hD hS => ?_)
  have hP : va_P (dC, dI) vwCl [(h0, .inr (0, [.ref q5, .ref q16, .ref q27, .null, .int (nI 0), .int (nI 0), .int (nI 0)])), (q5, .inr (1, [.int (nI 0), .int (nI 0), .int (nI 0), .int (nI 0), .int (nI 0), .int (nI 0), .ref q38_9, .ref q47_9])), (q38_9, .inl (cZ, 300, .inl (fun _ => nI 0))), (q47_9, .inl (cZ, 301, .inl (fun _ => nI 0))), (q16, .inr (2, [.int (nI 0), .ref q12_20, .ref q20_20])), (q12_20, .inl (cI, 6, .inl (fun _ => nI 0))), (q20_20, .inl (cI, 6, .inl (fun _ => nI 0))), (q27, .inr (3, [.ref q8_31, .ref q17_31, .ref q26_31])), (q8_31, .inl (cI, 301, .inl (fun _ => nI 0))), (q17_31, .inl (cI, 301, .inl (fun _ => nI 0))), (q26_31, .inl (cI, 301, .inl (fun _ => nI 0)))] H := hP
  have hD : va_D A [(h0, .inr (0, [.ref q5, .ref q16, .ref q27, .null, .int (nI 0), .int (nI 0), .int (nI 0)])), (q5, .inr (1, [.int (nI 0), .int (nI 0), .int (nI 0), .int (nI 0), .int (nI 0), .int (nI 0), .ref q38_9, .ref q47_9])), (q38_9, .inl (cZ, 300, .inl (fun _ => nI 0))), (q47_9, .inl (cZ, 301, .inl (fun _ => nI 0))), (q16, .inr (2, [.int (nI 0), .ref q12_20, .ref q20_20])), (q12_20, .inl (cI, 6, .inl (fun _ => nI 0))), (q20_20, .inl (cI, 6, .inl (fun _ => nI 0))), (q27, .inr (3, [.ref q8_31, .ref q17_31, .ref q26_31])), (q8_31, .inl (cI, 301, .inl (fun _ => nI 0))), (q17_31, .inl (cI, 301, .inl (fun _ => nI 0))), (q26_31, .inl (cI, 301, .inl (fun _ => nI 0)))] := hD
  refine lv_aload_n hx hb d_Cut_init_37 rfl (lv_at hl 0 rfl) ?_
  refine va_new (ci := 4) (fs := [.int (nI 0), .null, .null, .null]) (C := "CutLengths$Slabs") (T := T_Slabs) (N := 4) hx hb hz i_Slabs t_Slabs t_Slabs_ok hown (hz _ tw_119) (hz _ tw_120) (hz _ tw_19) hK hP hD hS hA rfl (fun j hj => by rcases (show j = 0 ∨ j = 1 ∨ j = 2 ∨ j = 3 by omega) with rfl | rfl | rfl | rfl <;> rfl) (Nat.le_of_ble_eq_true rfl) (Nat.le_of_ble_eq_true rfl) d_Cut_init_38 (fun q38 H hP hD hS => ?_)
  have hP : va_P (dC, dI) vwCl [(h0, .inr (0, [.ref q5, .ref q16, .ref q27, .null, .int (nI 0), .int (nI 0), .int (nI 0)])), (q5, .inr (1, [.int (nI 0), .int (nI 0), .int (nI 0), .int (nI 0), .int (nI 0), .int (nI 0), .ref q38_9, .ref q47_9])), (q38_9, .inl (cZ, 300, .inl (fun _ => nI 0))), (q47_9, .inl (cZ, 301, .inl (fun _ => nI 0))), (q16, .inr (2, [.int (nI 0), .ref q12_20, .ref q20_20])), (q12_20, .inl (cI, 6, .inl (fun _ => nI 0))), (q20_20, .inl (cI, 6, .inl (fun _ => nI 0))), (q27, .inr (3, [.ref q8_31, .ref q17_31, .ref q26_31])), (q8_31, .inl (cI, 301, .inl (fun _ => nI 0))), (q17_31, .inl (cI, 301, .inl (fun _ => nI 0))), (q26_31, .inl (cI, 301, .inl (fun _ => nI 0))), (q38, .inr (4, [.int (nI 0), .null, .null, .null]))] H := hP
  have hD : va_D A [(h0, .inr (0, [.ref q5, .ref q16, .ref q27, .null, .int (nI 0), .int (nI 0), .int (nI 0)])), (q5, .inr (1, [.int (nI 0), .int (nI 0), .int (nI 0), .int (nI 0), .int (nI 0), .int (nI 0), .ref q38_9, .ref q47_9])), (q38_9, .inl (cZ, 300, .inl (fun _ => nI 0))), (q47_9, .inl (cZ, 301, .inl (fun _ => nI 0))), (q16, .inr (2, [.int (nI 0), .ref q12_20, .ref q20_20])), (q12_20, .inl (cI, 6, .inl (fun _ => nI 0))), (q20_20, .inl (cI, 6, .inl (fun _ => nI 0))), (q27, .inr (3, [.ref q8_31, .ref q17_31, .ref q26_31])), (q8_31, .inl (cI, 301, .inl (fun _ => nI 0))), (q17_31, .inl (cI, 301, .inl (fun _ => nI 0))), (q26_31, .inl (cI, 301, .inl (fun _ => nI 0))), (q38, .inr (4, [.int (nI 0), .null, .null, .null]))] := hD
  refine lv_dup hx hb d_Cut_init_41 rfl ?_
  refine W.widen (k := 11) (n := 1534) (Nat.le_of_ble_eq_true rfl) (Nat.le_of_ble_eq_true rfl) ?_
  have hPc := hP.sub (ws' := [(q38, .inr (4, [.int (nI 0), .null, .null, .null]))]) [11] rfl
  have hDc := hD.sub (ws' := [(q38, .inr (4, [.int (nI 0), .null, .null, .null]))]) [11] (by decide) rfl
  have hFc := va_free (wc := [(q38, .inr (4, [.int (nI 0), .null, .null, .null]))]) hD hS hA [11] rfl
  refine va_callv (va_runIN (host := "CutLengths") (As := []) (rest := [.ref q38, .ref h0]) ⟨hx, hb, hml, hown, hz⟩ (c_Slabs_init l dC dI q38 cI cZ H.size) ⟨va_cnB 0 hz (zgI tw_123) rfl rfl rfl (hNs _ (by decide)) (hz _ tw_19) (by decide +kernel) ⟨Nat.le_of_ble_eq_true rfl, Nat.le_of_ble_eq_true rfl⟩, rfl, hz _ tw_122⟩ ⟨(fun a U g mk q => by obtain ⟨q0, q1, qP, qK, qD⟩ := q; exact ⟨q0, q1, qP, va_K.moved (u := U) (U := U.calling g mk a) (Vm.Alike.refl U.vm) qK, qD⟩), fun U hU hW => ⟨rfl, by rw [hU], by rw [hU]; exact hPc, va_K.moved hW.alike hK, hDc.weaken (fun _ _ _ _ => trivial)⟩⟩ rfl rfl hl.1 rfl (lv_room (Nat.le_of_ble_eq_true rfl)) d_Cut_init_42 ⟨Nat.le_of_ble_eq_true rfl, Nat.le_of_ble_eq_true rfl⟩) hS (fun q _ h => hFc q h) hFc (fun u9 t9 H1 locs ht hvm hw hB hz1 hk1 hS => ?_)
  obtain ⟨q12_42, q20_42, q28_42⟩ := u9
  obtain ⟨hP1, hK1, hD1⟩ := hB
  rw [ht] at hP1
  obtain ⟨hP, hD⟩ := va_join (wr := [(h0, .inr (0, [.ref q5, .ref q16, .ref q27, .null, .int (nI 0), .int (nI 0), .int (nI 0)])), (q5, .inr (1, [.int (nI 0), .int (nI 0), .int (nI 0), .int (nI 0), .int (nI 0), .int (nI 0), .ref q38_9, .ref q47_9])), (q38_9, .inl (cZ, 300, .inl (fun _ => nI 0))), (q47_9, .inl (cZ, 301, .inl (fun _ => nI 0))), (q16, .inr (2, [.int (nI 0), .ref q12_20, .ref q20_20])), (q12_20, .inl (cI, 6, .inl (fun _ => nI 0))), (q20_20, .inl (cI, 6, .inl (fun _ => nI 0))), (q27, .inr (3, [.ref q8_31, .ref q17_31, .ref q26_31])), (q8_31, .inl (cI, 301, .inl (fun _ => nI 0))), (q17_31, .inl (cI, 301, .inl (fun _ => nI 0))), (q26_31, .inl (cI, 301, .inl (fun _ => nI 0)))]) (w1 := [(q38, .inr (4, [.int (nI 0), .ref q12_42, .ref q20_42, .ref q28_42])), (q12_42, .inl (cI, 100, .inl (fun _ => nI 0))), (q20_42, .inl (cI, 100, .inl (fun _ => nI 0))), (q28_42, .inl (cI, 100, .inl (fun _ => nI 0)))]) hP hD [11] [0, 1, 2, 3, 4, 5, 6, 7, 8, 9, 10] rfl rfl (by decide) (by decide) hk1 hFc hP1 hD1
  generalize H1 = H at hP hS ⊢
  have hP : va_P (dC, dI) vwCl [(h0, .inr (0, [.ref q5, .ref q16, .ref q27, .null, .int (nI 0), .int (nI 0), .int (nI 0)])), (q5, .inr (1, [.int (nI 0), .int (nI 0), .int (nI 0), .int (nI 0), .int (nI 0), .int (nI 0), .ref q38_9, .ref q47_9])), (q38_9, .inl (cZ, 300, .inl (fun _ => nI 0))), (q47_9, .inl (cZ, 301, .inl (fun _ => nI 0))), (q16, .inr (2, [.int (nI 0), .ref q12_20, .ref q20_20])), (q12_20, .inl (cI, 6, .inl (fun _ => nI 0))), (q20_20, .inl (cI, 6, .inl (fun _ => nI 0))), (q27, .inr (3, [.ref q8_31, .ref q17_31, .ref q26_31])), (q8_31, .inl (cI, 301, .inl (fun _ => nI 0))), (q17_31, .inl (cI, 301, .inl (fun _ => nI 0))), (q26_31, .inl (cI, 301, .inl (fun _ => nI 0))), (q38, .inr (4, [.int (nI 0), .ref q12_42, .ref q20_42, .ref q28_42])), (q12_42, .inl (cI, 100, .inl (fun _ => nI 0))), (q20_42, .inl (cI, 100, .inl (fun _ => nI 0))), (q28_42, .inl (cI, 100, .inl (fun _ => nI 0)))] H := hP
  have hD : va_D A [(h0, .inr (0, [.ref q5, .ref q16, .ref q27, .null, .int (nI 0), .int (nI 0), .int (nI 0)])), (q5, .inr (1, [.int (nI 0), .int (nI 0), .int (nI 0), .int (nI 0), .int (nI 0), .int (nI 0), .ref q38_9, .ref q47_9])), (q38_9, .inl (cZ, 300, .inl (fun _ => nI 0))), (q47_9, .inl (cZ, 301, .inl (fun _ => nI 0))), (q16, .inr (2, [.int (nI 0), .ref q12_20, .ref q20_20])), (q12_20, .inl (cI, 6, .inl (fun _ => nI 0))), (q20_20, .inl (cI, 6, .inl (fun _ => nI 0))), (q27, .inr (3, [.ref q8_31, .ref q17_31, .ref q26_31])), (q8_31, .inl (cI, 301, .inl (fun _ => nI 0))), (q17_31, .inl (cI, 301, .inl (fun _ => nI 0))), (q26_31, .inl (cI, 301, .inl (fun _ => nI 0))), (q38, .inr (4, [.int (nI 0), .ref q12_42, .ref q20_42, .ref q28_42])), (q12_42, .inl (cI, 100, .inl (fun _ => nI 0))), (q20_42, .inl (cI, 100, .inl (fun _ => nI 0))), (q28_42, .inl (cI, 100, .inl (fun _ => nI 0)))] := hD
  refine va_putF (D := (dC, dI)) (ci := 0) (v := .ref q38) (ty := (.object "CutLengths$Slabs")) (C := "CutLengths") (T := T_Cut) (N := 7) hx hb hz i_Cut t_Cut t_Cut_ok n_Cut hown hK hP hD hS 0 rfl rfl 3 (by decide) (hz _ tw_145) (fun _ h9 => h9) rfl hin rfl (by decide +kernel) rfl rfl (Nat.le_of_ble_eq_true rfl) d_Cut_init_45 (fun H locs hP hD hS => ?_)
  have hP : va_P (dC, dI) vwCl [(h0, .inr (0, [.ref q5, .ref q16, .ref q27, .ref q38, .int (nI 0), .int (nI 0), .int (nI 0)])), (q5, .inr (1, [.int (nI 0), .int (nI 0), .int (nI 0), .int (nI 0), .int (nI 0), .int (nI 0), .ref q38_9, .ref q47_9])), (q38_9, .inl (cZ, 300, .inl (fun _ => nI 0))), (q47_9, .inl (cZ, 301, .inl (fun _ => nI 0))), (q16, .inr (2, [.int (nI 0), .ref q12_20, .ref q20_20])), (q12_20, .inl (cI, 6, .inl (fun _ => nI 0))), (q20_20, .inl (cI, 6, .inl (fun _ => nI 0))), (q27, .inr (3, [.ref q8_31, .ref q17_31, .ref q26_31])), (q8_31, .inl (cI, 301, .inl (fun _ => nI 0))), (q17_31, .inl (cI, 301, .inl (fun _ => nI 0))), (q26_31, .inl (cI, 301, .inl (fun _ => nI 0))), (q38, .inr (4, [.int (nI 0), .ref q12_42, .ref q20_42, .ref q28_42])), (q12_42, .inl (cI, 100, .inl (fun _ => nI 0))), (q20_42, .inl (cI, 100, .inl (fun _ => nI 0))), (q28_42, .inl (cI, 100, .inl (fun _ => nI 0)))] H := hP
  have hD : va_D A [(h0, .inr (0, [.ref q5, .ref q16, .ref q27, .ref q38, .int (nI 0), .int (nI 0), .int (nI 0)])), (q5, .inr (1, [.int (nI 0), .int (nI 0), .int (nI 0), .int (nI 0), .int (nI 0), .int (nI 0), .ref q38_9, .ref q47_9])), (q38_9, .inl (cZ, 300, .inl (fun _ => nI 0))), (q47_9, .inl (cZ, 301, .inl (fun _ => nI 0))), (q16, .inr (2, [.int (nI 0), .ref q12_20, .ref q20_20])), (q12_20, .inl (cI, 6, .inl (fun _ => nI 0))), (q20_20, .inl (cI, 6, .inl (fun _ => nI 0))), (q27, .inr (3, [.ref q8_31, .ref q17_31, .ref q26_31])), (q8_31, .inl (cI, 301, .inl (fun _ => nI 0))), (q17_31, .inl (cI, 301, .inl (fun _ => nI 0))), (q26_31, .inl (cI, 301, .inl (fun _ => nI 0))), (q38, .inr (4, [.int (nI 0), .ref q12_42, .ref q20_42, .ref q28_42])), (q12_42, .inl (cI, 100, .inl (fun _ => nI 0))), (q20_42, .inl (cI, 100, .inl (fun _ => nI 0))), (q28_42, .inl (cI, 100, .inl (fun _ => nI 0)))] := hD
  refine lv_aload_n hx hb d_Cut_init_48 rfl (lv_at hl 0 rfl) ?_
  refine lv_bipush (v := nI 100) hx hb d_Cut_init_49 (by decide) ?_
  refine va_put (D := (dC, dI)) (ci := 0) (v := .int (nI 100)) (ty := .int) (C := "CutLengths") (T := T_Cut) (N := 7) hx hb hz i_Cut t_Cut t_Cut_ok n_Cut hown hK hP hD hS 0 rfl rfl 4 (by decide) (hz _ tw_146) (fun _ h9 => h9) rfl (by decide +kernel) rfl rfl (Nat.le_of_ble_eq_true rfl) d_Cut_init_51 (fun H locs hP hD hS => ?_)
  have hP : va_P (dC, dI) vwCl [(h0, .inr (0, [.ref q5, .ref q16, .ref q27, .ref q38, .int (nI 100), .int (nI 0), .int (nI 0)])), (q5, .inr (1, [.int (nI 0), .int (nI 0), .int (nI 0), .int (nI 0), .int (nI 0), .int (nI 0), .ref q38_9, .ref q47_9])), (q38_9, .inl (cZ, 300, .inl (fun _ => nI 0))), (q47_9, .inl (cZ, 301, .inl (fun _ => nI 0))), (q16, .inr (2, [.int (nI 0), .ref q12_20, .ref q20_20])), (q12_20, .inl (cI, 6, .inl (fun _ => nI 0))), (q20_20, .inl (cI, 6, .inl (fun _ => nI 0))), (q27, .inr (3, [.ref q8_31, .ref q17_31, .ref q26_31])), (q8_31, .inl (cI, 301, .inl (fun _ => nI 0))), (q17_31, .inl (cI, 301, .inl (fun _ => nI 0))), (q26_31, .inl (cI, 301, .inl (fun _ => nI 0))), (q38, .inr (4, [.int (nI 0), .ref q12_42, .ref q20_42, .ref q28_42])), (q12_42, .inl (cI, 100, .inl (fun _ => nI 0))), (q20_42, .inl (cI, 100, .inl (fun _ => nI 0))), (q28_42, .inl (cI, 100, .inl (fun _ => nI 0)))] H := hP
  have hD : va_D A [(h0, .inr (0, [.ref q5, .ref q16, .ref q27, .ref q38, .int (nI 100), .int (nI 0), .int (nI 0)])), (q5, .inr (1, [.int (nI 0), .int (nI 0), .int (nI 0), .int (nI 0), .int (nI 0), .int (nI 0), .ref q38_9, .ref q47_9])), (q38_9, .inl (cZ, 300, .inl (fun _ => nI 0))), (q47_9, .inl (cZ, 301, .inl (fun _ => nI 0))), (q16, .inr (2, [.int (nI 0), .ref q12_20, .ref q20_20])), (q12_20, .inl (cI, 6, .inl (fun _ => nI 0))), (q20_20, .inl (cI, 6, .inl (fun _ => nI 0))), (q27, .inr (3, [.ref q8_31, .ref q17_31, .ref q26_31])), (q8_31, .inl (cI, 301, .inl (fun _ => nI 0))), (q17_31, .inl (cI, 301, .inl (fun _ => nI 0))), (q26_31, .inl (cI, 301, .inl (fun _ => nI 0))), (q38, .inr (4, [.int (nI 0), .ref q12_42, .ref q20_42, .ref q28_42])), (q12_42, .inl (cI, 100, .inl (fun _ => nI 0))), (q20_42, .inl (cI, 100, .inl (fun _ => nI 0))), (q28_42, .inl (cI, 100, .inl (fun _ => nI 0)))] := hD
  refine lv_aload_n hx hb d_Cut_init_54 rfl (lv_at hl 0 rfl) ?_
  refine lv_sipush (v := nI 1000) hx hb d_Cut_init_55 (by decide) ?_
  refine va_put (D := (dC, dI)) (ci := 0) (v := .int (nI 1000)) (ty := .int) (C := "CutLengths") (T := T_Cut) (N := 7) hx hb hz i_Cut t_Cut t_Cut_ok n_Cut hown hK hP hD hS 0 rfl rfl 5 (by decide) (hz _ tw_147) (fun _ h9 => h9) rfl (by decide +kernel) rfl rfl (Nat.le_of_ble_eq_true rfl) d_Cut_init_58 (fun H locs hP hD hS => ?_)
  have hP : va_P (dC, dI) vwCl [(h0, .inr (0, [.ref q5, .ref q16, .ref q27, .ref q38, .int (nI 100), .int (nI 1000), .int (nI 0)])), (q5, .inr (1, [.int (nI 0), .int (nI 0), .int (nI 0), .int (nI 0), .int (nI 0), .int (nI 0), .ref q38_9, .ref q47_9])), (q38_9, .inl (cZ, 300, .inl (fun _ => nI 0))), (q47_9, .inl (cZ, 301, .inl (fun _ => nI 0))), (q16, .inr (2, [.int (nI 0), .ref q12_20, .ref q20_20])), (q12_20, .inl (cI, 6, .inl (fun _ => nI 0))), (q20_20, .inl (cI, 6, .inl (fun _ => nI 0))), (q27, .inr (3, [.ref q8_31, .ref q17_31, .ref q26_31])), (q8_31, .inl (cI, 301, .inl (fun _ => nI 0))), (q17_31, .inl (cI, 301, .inl (fun _ => nI 0))), (q26_31, .inl (cI, 301, .inl (fun _ => nI 0))), (q38, .inr (4, [.int (nI 0), .ref q12_42, .ref q20_42, .ref q28_42])), (q12_42, .inl (cI, 100, .inl (fun _ => nI 0))), (q20_42, .inl (cI, 100, .inl (fun _ => nI 0))), (q28_42, .inl (cI, 100, .inl (fun _ => nI 0)))] H := hP
  have hD : va_D A [(h0, .inr (0, [.ref q5, .ref q16, .ref q27, .ref q38, .int (nI 100), .int (nI 1000), .int (nI 0)])), (q5, .inr (1, [.int (nI 0), .int (nI 0), .int (nI 0), .int (nI 0), .int (nI 0), .int (nI 0), .ref q38_9, .ref q47_9])), (q38_9, .inl (cZ, 300, .inl (fun _ => nI 0))), (q47_9, .inl (cZ, 301, .inl (fun _ => nI 0))), (q16, .inr (2, [.int (nI 0), .ref q12_20, .ref q20_20])), (q12_20, .inl (cI, 6, .inl (fun _ => nI 0))), (q20_20, .inl (cI, 6, .inl (fun _ => nI 0))), (q27, .inr (3, [.ref q8_31, .ref q17_31, .ref q26_31])), (q8_31, .inl (cI, 301, .inl (fun _ => nI 0))), (q17_31, .inl (cI, 301, .inl (fun _ => nI 0))), (q26_31, .inl (cI, 301, .inl (fun _ => nI 0))), (q38, .inr (4, [.int (nI 0), .ref q12_42, .ref q20_42, .ref q28_42])), (q12_42, .inl (cI, 100, .inl (fun _ => nI 0))), (q20_42, .inl (cI, 100, .inl (fun _ => nI 0))), (q28_42, .inl (cI, 100, .inl (fun _ => nI 0)))] := hD
  refine lv_aload_n hx hb d_Cut_init_61 rfl (lv_at hl 0 rfl) ?_
  refine lv_iconst (v := nI 1) hx hb d_Cut_init_62 (by decide) ?_
  refine va_put (D := (dC, dI)) (ci := 0) (v := .int (nI 1)) (ty := .boolean) (C := "CutLengths") (T := T_Cut) (N := 7) hx hb hz i_Cut t_Cut t_Cut_ok n_Cut hown hK hP hD hS 0 rfl rfl 6 (by decide) (hz _ tw_148) (fun _ h9 => h9) rfl (by decide +kernel) rfl rfl (Nat.le_of_ble_eq_true rfl) d_Cut_init_63 (fun H locs hP hD hS => ?_)
  have hP : va_P (dC, dI) vwCl [(h0, .inr (0, [.ref q5, .ref q16, .ref q27, .ref q38, .int (nI 100), .int (nI 1000), .int (nI 1)])), (q5, .inr (1, [.int (nI 0), .int (nI 0), .int (nI 0), .int (nI 0), .int (nI 0), .int (nI 0), .ref q38_9, .ref q47_9])), (q38_9, .inl (cZ, 300, .inl (fun _ => nI 0))), (q47_9, .inl (cZ, 301, .inl (fun _ => nI 0))), (q16, .inr (2, [.int (nI 0), .ref q12_20, .ref q20_20])), (q12_20, .inl (cI, 6, .inl (fun _ => nI 0))), (q20_20, .inl (cI, 6, .inl (fun _ => nI 0))), (q27, .inr (3, [.ref q8_31, .ref q17_31, .ref q26_31])), (q8_31, .inl (cI, 301, .inl (fun _ => nI 0))), (q17_31, .inl (cI, 301, .inl (fun _ => nI 0))), (q26_31, .inl (cI, 301, .inl (fun _ => nI 0))), (q38, .inr (4, [.int (nI 0), .ref q12_42, .ref q20_42, .ref q28_42])), (q12_42, .inl (cI, 100, .inl (fun _ => nI 0))), (q20_42, .inl (cI, 100, .inl (fun _ => nI 0))), (q28_42, .inl (cI, 100, .inl (fun _ => nI 0)))] H := hP
  have hD : va_D A [(h0, .inr (0, [.ref q5, .ref q16, .ref q27, .ref q38, .int (nI 100), .int (nI 1000), .int (nI 1)])), (q5, .inr (1, [.int (nI 0), .int (nI 0), .int (nI 0), .int (nI 0), .int (nI 0), .int (nI 0), .ref q38_9, .ref q47_9])), (q38_9, .inl (cZ, 300, .inl (fun _ => nI 0))), (q47_9, .inl (cZ, 301, .inl (fun _ => nI 0))), (q16, .inr (2, [.int (nI 0), .ref q12_20, .ref q20_20])), (q12_20, .inl (cI, 6, .inl (fun _ => nI 0))), (q20_20, .inl (cI, 6, .inl (fun _ => nI 0))), (q27, .inr (3, [.ref q8_31, .ref q17_31, .ref q26_31])), (q8_31, .inl (cI, 301, .inl (fun _ => nI 0))), (q17_31, .inl (cI, 301, .inl (fun _ => nI 0))), (q26_31, .inl (cI, 301, .inl (fun _ => nI 0))), (q38, .inr (4, [.int (nI 0), .ref q12_42, .ref q20_42, .ref q28_42])), (q12_42, .inl (cI, 100, .inl (fun _ => nI 0))), (q20_42, .inl (cI, 100, .inl (fun _ => nI 0))), (q28_42, .inl (cI, 100, .inl (fun _ => nI 0)))] := hD
  refine W.widen (k := 14) (n := 1834) (Nat.le_of_ble_eq_true rfl) (Nat.le_of_ble_eq_true rfl) ?_
  exact W.vret hx hb hr (fun t9 ht hW => ⟨⟨(q5, q38_9, q47_9, q16, q12_20, q20_20, q27, q8_31, q17_31, q26_31, q38, q12_42, q20_42, q28_42), rfl, trivial, by rw [ht]; exact hP, va_K.moved hW.alike hK, hD⟩, hS.F ht⟩) hS.2.2 d_Cut_init_66
set_option maxHeartbeats 4000000 in
set_option maxRecDepth 100000 in
theorem c_Model_init (l : Launch) (dC : Nat → ClassId) (dI : Nat → Nat → Nat) (h0 : Nat) (cI cZ : ClassId) (sz : Nat) : Met l y_Model_init (zw_Model_init :: zW) ({ frames := 1, cells := 13, slots := 1597, locals := 30 }) (va_Pc [.ref h0] (fun U => U.heap.size = sz ∧ va_P (dC, dI) vwCl [(h0, .inr (5, [.int (nI 0), .int (nI 0), .int (nI 0), .int (nI 0), .int (nI 0), .int (nI 0), .int (nI 0), .int (nI 0), .null, .null, .int (nI 0), .null, .null, .int (nI 0), .null, .null, .int (nI 0), .null, .null, .null, .null, .null, .null, .null]))] U.heap ∧ va_K (dC, dI) vwCl [(cI, .int), (cZ, .boolean)] U ∧ va_D (fun _ => True) [(h0, .inr (5, [.int (nI 0), .int (nI 0), .int (nI 0), .int (nI 0), .int (nI 0), .int (nI 0), .int (nI 0), .int (nI 0), .null, .null, .int (nI 0), .null, .null, .int (nI 0), .null, .null, .int (nI 0), .null, .null, .null, .null, .null, .null, .null]))])) (va_Qv (fun _ : Nat × Nat × Nat × Nat × Nat × Nat × Nat × Nat × Nat × Nat × Nat × Nat × Nat => True) (fun (u : Nat × Nat × Nat × Nat × Nat × Nat × Nat × Nat × Nat × Nat × Nat × Nat × Nat) t => match u with | (q20, q28, q36, q44, q52, q60, q68, q76, q84, q93, q102, q111, q120) => va_P (dC, dI) vwCl [(h0, .inr (5, [.int (nI 0), .int (nI 100), .int (nI 1000), .int (nI 0), .int (nI 0), .int (nI 0), .int (nI 0), .int (nI 0), .ref q20, .ref q28, .int (nI 0), .ref q36, .ref q44, .int (nI 0), .ref q52, .ref q60, .int (nI 0), .ref q68, .ref q76, .ref q84, .ref q93, .ref q102, .ref q111, .ref q120])), (q20, .inl (cI, 6, .inl (fun _ => nI 0))), (q28, .inl (cI, 6, .inl (fun _ => nI 0))), (q36, .inl (cI, 20, .inl (fun _ => nI 0))), (q44, .inl (cI, 20, .inl (fun _ => nI 0))), (q52, .inl (cI, 20, .inl (fun _ => nI 0))), (q60, .inl (cI, 20, .inl (fun _ => nI 0))), (q68, .inl (cI, 100, .inl (fun _ => nI 0))), (q76, .inl (cI, 100, .inl (fun _ => nI 0))), (q84, .inl (cI, 100, .inl (fun _ => nI 0))), (q93, .inl (cI, 301, .inl (fun _ => nI 0))), (q102, .inl (cI, 301, .inl (fun _ => nI 0))), (q111, .inl (cI, 301, .inl (fun _ => nI 0))), (q120, .inl (cI, 302, .inl (fun _ => nI 0)))] t.heap ∧ va_K (dC, dI) vwCl [(cI, .int), (cZ, .boolean)] t ∧ va_D (va_A [(h0, .inr (5, [.int (nI 0), .int (nI 0), .int (nI 0), .int (nI 0), .int (nI 0), .int (nI 0), .int (nI 0), .int (nI 0), .null, .null, .int (nI 0), .null, .null, .int (nI 0), .null, .null, .int (nI 0), .null, .null, .null, .null, .null, .null, .null]))] sz) [(h0, .inr (5, [.int (nI 0), .int (nI 100), .int (nI 1000), .int (nI 0), .int (nI 0), .int (nI 0), .int (nI 0), .int (nI 0), .ref q20, .ref q28, .int (nI 0), .ref q36, .ref q44, .int (nI 0), .ref q52, .ref q60, .int (nI 0), .ref q68, .ref q76, .ref q84, .ref q93, .ref q102, .ref q111, .ref q120])), (q20, .inl (cI, 6, .inl (fun _ => nI 0))), (q28, .inl (cI, 6, .inl (fun _ => nI 0))), (q36, .inl (cI, 20, .inl (fun _ => nI 0))), (q44, .inl (cI, 20, .inl (fun _ => nI 0))), (q52, .inl (cI, 20, .inl (fun _ => nI 0))), (q60, .inl (cI, 20, .inl (fun _ => nI 0))), (q68, .inl (cI, 100, .inl (fun _ => nI 0))), (q76, .inl (cI, 100, .inl (fun _ => nI 0))), (q84, .inl (cI, 100, .inl (fun _ => nI 0))), (q93, .inl (cI, 301, .inl (fun _ => nI 0))), (q102, .inl (cI, 301, .inl (fun _ => nI 0))), (q111, .inl (cI, 301, .inl (fun _ => nI 0))), (q120, .inl (cI, 302, .inl (fun _ => nI 0)))]) (va_A [(h0, .inr (5, [.int (nI 0), .int (nI 0), .int (nI 0), .int (nI 0), .int (nI 0), .int (nI 0), .int (nI 0), .int (nI 0), .null, .null, .int (nI 0), .null, .null, .int (nI 0), .null, .null, .int (nI 0), .null, .null, .null, .null, .null, .null, .null]))] sz)) 13 1597 (va_A [(h0, .inr (5, [.int (nI 0), .int (nI 0), .int (nI 0), .int (nI 0), .int (nI 0), .int (nI 0), .int (nI 0), .int (nI 0), .null, .null, .int (nI 0), .null, .null, .int (nI 0), .null, .null, .int (nI 0), .null, .null, .null, .null, .null, .null, .null]))] sz) := by
  refine Met.ofW (cc := prog_7_method_1_code) (maxL := 1) (ret := none) (by decide) rfl ?_
  intro p e s m args below meth c s₁ B hml hv
  obtain ⟨rfl, hsz, hP, hK, hD0⟩ := hv
  have hx := B.exec
  have hb := B.bytes
  have hr := B.returns
  have hz : ∀ w ∈ zW, w.before ([.ref h0]).toArray s = true := fun w h => atoms_spec (ws := (zw_Model_init :: zW)) B.pre w (List.mem_cons_of_mem _ h)
  have hown : s.vm.findClass "CutLengthsModel" = some m.cls := findClass_of_methodNamed B.named
  have hlocks := B.notSynchronized
  have hin : meth.name = "<init>" := (name_of_methodNamed B.named B.method).1
  subst hsz
  have hD := hD0.self (sz := s.heap.size)
  generalize hAe : va_A [(h0, .inr (5, [.int (nI 0), .int (nI 0), .int (nI 0), .int (nI 0), .int (nI 0), .int (nI 0), .int (nI 0), .int (nI 0), .null, .null, .int (nI 0), .null, .null, .int (nI 0), .null, .null, .int (nI 0), .null, .null, .null, .null, .null, .null, .null]))] s.heap.size = A at hD ⊢
  have hA : ∀ q : Nat, s.heap.size ≤ q → A q := fun q h => by rw [← hAe]; exact Or.inr h
  have hS : va_S A s.heap s.heap [] := va_S.rf
  have hP : va_P (dC, dI) vwCl [(h0, .inr (5, [.int (nI 0), .int (nI 0), .int (nI 0), .int (nI 0), .int (nI 0), .int (nI 0), .int (nI 0), .int (nI 0), .null, .null, .int (nI 0), .null, .null, .int (nI 0), .null, .null, .int (nI 0), .null, .null, .null, .null, .null, .null, .null]))] s.heap := hP
  have hl := lv_entry ([.ref h0]) (n := 1) (Nat.le_of_ble_eq_true rfl)
  rw [lg_entry_eq]
  generalize (lg_sl ([.ref h0]) ++ List.replicate (1 - (lg_sl ([.ref h0])).length) Slot.unset).toArray = ls at hl ⊢
  have hl : lv_has ls 1 [(0, .ref h0)] := hl
  refine lv_aload_n hx hb d_Model_init_0 rfl (lv_at hl 0 rfl) ?_
  refine W.objInit hx hb hown (hz _ tw_480) (hz _ tw_35) (hz _ tw_obj) rfl (by rw [hml]; exact hl.1) rfl d_Model_init_1 (Nat.le_of_ble_eq_true rfl) (Nat.le_of_ble_eq_true rfl) ?_
  refine W.eq (g2 := F0 m 4 ls []) rfl ?_
  refine lv_aload_n hx hb d_Model_init_4 rfl (lv_at hl 0 rfl) ?_
  refine lv_bipush (v := nI 100) hx hb d_Model_init_5 (by decide) ?_
  refine va_put (D := (dC, dI)) (ci := 5) (v := .int (nI 100)) (ty := .int) (C := "CutLengthsModel") (T := T_Model) (N := 24) hx hb hz i_Model t_Model t_Model_ok n_Model hown hK hP hD hS 0 rfl rfl 1 (by decide) (hz _ tw_482) (fun _ h9 => h9) rfl (by decide +kernel) rfl rfl (Nat.le_of_ble_eq_true rfl) d_Model_init_7 (fun H locs hP hD hS => ?_)
  have hP : va_P (dC, dI) vwCl [(h0, .inr (5, [.int (nI 0), .int (nI 100), .int (nI 0), .int (nI 0), .int (nI 0), .int (nI 0), .int (nI 0), .int (nI 0), .null, .null, .int (nI 0), .null, .null, .int (nI 0), .null, .null, .int (nI 0), .null, .null, .null, .null, .null, .null, .null]))] H := hP
  have hD : va_D A [(h0, .inr (5, [.int (nI 0), .int (nI 100), .int (nI 0), .int (nI 0), .int (nI 0), .int (nI 0), .int (nI 0), .int (nI 0), .null, .null, .int (nI 0), .null, .null, .int (nI 0), .null, .null, .int (nI 0), .null, .null, .null, .null, .null, .null, .null]))] := hD
  refine lv_aload_n hx hb d_Model_init_10 rfl (lv_at hl 0 rfl) ?_
  refine lv_sipush (v := nI 1000) hx hb d_Model_init_11 (by decide) ?_
  refine va_put (D := (dC, dI)) (ci := 5) (v := .int (nI 1000)) (ty := .int) (C := "CutLengthsModel") (T := T_Model) (N := 24) hx hb hz i_Model t_Model t_Model_ok n_Model hown hK hP hD hS 0 rfl rfl 2 (by decide) (hz _ tw_483) (fun _ h9 => h9) rfl (by decide +kernel) rfl rfl (Nat.le_of_ble_eq_true rfl) d_Model_init_14 (fun H locs hP hD hS => ?_)
  have hP : va_P (dC, dI) vwCl [(h0, .inr (5, [.int (nI 0), .int (nI 100), .int (nI 1000), .int (nI 0), .int (nI 0), .int (nI 0), .int (nI 0), .int (nI 0), .null, .null, .int (nI 0), .null, .null, .int (nI 0), .null, .null, .int (nI 0), .null, .null, .null, .null, .null, .null, .null]))] H := hP
  have hD : va_D A [(h0, .inr (5, [.int (nI 0), .int (nI 100), .int (nI 1000), .int (nI 0), .int (nI 0), .int (nI 0), .int (nI 0), .int (nI 0), .null, .null, .int (nI 0), .null, .null, .int (nI 0), .null, .null, .int (nI 0), .null, .null, .null, .null, .null, .null, .null]))] := hD
  refine lv_aload_n hx hb d_Model_init_17 rfl (lv_at hl 0 rfl) ?_
  refine lv_bipush (v := nI 6) hx hb d_Model_init_18 (by decide) ?_
  refine va_newa (N' := 6) (a0 := (6, .inl (fun _ => nI 0))) (atype := .int) hx hb (hz _ tw_99) (ty := .int) rfl hK hP hD hS hA (fun _ => rfl) (by decide) (by decide) (by decide) (Nat.le_of_ble_eq_true rfl) (Nat.le_of_ble_eq_true rfl) d_Model_init_20 (fun q20 cN H hK9 hP hD hS => ?_)
  obtain rfl : cI = cN := za_uni (hK9.2 0 _ rfl).2 (hK9.2 2 _ rfl).2
  have hP : va_P (dC, dI) vwCl [(h0, .inr (5, [.int (nI 0), .int (nI 100), .int (nI 1000), .int (nI 0), .int (nI 0), .int (nI 0), .int (nI 0), .int (nI 0), .null, .null, .int (nI 0), .null, .null, .int (nI 0), .null, .null, .int (nI 0), .null, .null, .null, .null, .null, .null, .null])), (q20, .inl (cI, 6, .inl (fun _ => nI 0)))] H := hP
  have hD : va_D A [(h0, .inr (5, [.int (nI 0), .int (nI 100), .int (nI 1000), .int (nI 0), .int (nI 0), .int (nI 0), .int (nI 0), .int (nI 0), .null, .null, .int (nI 0), .null, .null, .int (nI 0), .null, .null, .int (nI 0), .null, .null, .null, .null, .null, .null, .null])), (q20, .inl (cI, 6, .inl (fun _ => nI 0)))] := hD
  refine va_putF (D := (dC, dI)) (ci := 5) (v := .ref q20) (ty := (.array .int)) (C := "CutLengthsModel") (T := T_Model) (N := 24) hx hb hz i_Model t_Model t_Model_ok n_Model hown hK hP hD hS 0 rfl rfl 8 (by decide) (hz _ tw_489) (fun _ h9 => h9) rfl hin rfl (by decide +kernel) rfl rfl (Nat.le_of_ble_eq_true rfl) d_Model_init_22 (fun H locs hP hD hS => ?_)
  have hP : va_P (dC, dI) vwCl [(h0, .inr (5, [.int (nI 0), .int (nI 100), .int (nI 1000), .int (nI 0), .int (nI 0), .int (nI 0), .int (nI 0), .int (nI 0), .ref q20, .null, .int (nI 0), .null, .null, .int (nI 0), .null, .null, .int (nI 0), .null, .null, .null, .null, .null, .null, .null])), (q20, .inl (cI, 6, .inl (fun _ => nI 0)))] H := hP
  have hD : va_D A [(h0, .inr (5, [.int (nI 0), .int (nI 100), .int (nI 1000), .int (nI 0), .int (nI 0), .int (nI 0), .int (nI 0), .int (nI 0), .ref q20, .null, .int (nI 0), .null, .null, .int (nI 0), .null, .null, .int (nI 0), .null, .null, .null, .null, .null, .null, .null])), (q20, .inl (cI, 6, .inl (fun _ => nI 0)))] := hD
  refine lv_aload_n hx hb d_Model_init_25 rfl (lv_at hl 0 rfl) ?_
  refine lv_bipush (v := nI 6) hx hb d_Model_init_26 (by decide) ?_
  refine va_newa (N' := 6) (a0 := (6, .inl (fun _ => nI 0))) (atype := .int) hx hb (hz _ tw_99) (ty := .int) rfl hK hP hD hS hA (fun _ => rfl) (by decide) (by decide) (by decide) (Nat.le_of_ble_eq_true rfl) (Nat.le_of_ble_eq_true rfl) d_Model_init_28 (fun q28 cN H hK9 hP hD hS => ?_)
  obtain rfl : cI = cN := za_uni (hK9.2 0 _ rfl).2 (hK9.2 2 _ rfl).2
  have hP : va_P (dC, dI) vwCl [(h0, .inr (5, [.int (nI 0), .int (nI 100), .int (nI 1000), .int (nI 0), .int (nI 0), .int (nI 0), .int (nI 0), .int (nI 0), .ref q20, .null, .int (nI 0), .null, .null, .int (nI 0), .null, .null, .int (nI 0), .null, .null, .null, .null, .null, .null, .null])), (q20, .inl (cI, 6, .inl (fun _ => nI 0))), (q28, .inl (cI, 6, .inl (fun _ => nI 0)))] H := hP
  have hD : va_D A [(h0, .inr (5, [.int (nI 0), .int (nI 100), .int (nI 1000), .int (nI 0), .int (nI 0), .int (nI 0), .int (nI 0), .int (nI 0), .ref q20, .null, .int (nI 0), .null, .null, .int (nI 0), .null, .null, .int (nI 0), .null, .null, .null, .null, .null, .null, .null])), (q20, .inl (cI, 6, .inl (fun _ => nI 0))), (q28, .inl (cI, 6, .inl (fun _ => nI 0)))] := hD
  refine va_putF (D := (dC, dI)) (ci := 5) (v := .ref q28) (ty := (.array .int)) (C := "CutLengthsModel") (T := T_Model) (N := 24) hx hb hz i_Model t_Model t_Model_ok n_Model hown hK hP hD hS 0 rfl rfl 9 (by decide) (hz _ tw_490) (fun _ h9 => h9) rfl hin rfl (by decide +kernel) rfl rfl (Nat.le_of_ble_eq_true rfl) d_Model_init_30 (fun H locs hP hD hS => ?_)
  have hP : va_P (dC, dI) vwCl [(h0, .inr (5, [.int (nI 0), .int (nI 100), .int (nI 1000), .int (nI 0), .int (nI 0), .int (nI 0), .int (nI 0), .int (nI 0), .ref q20, .ref q28, .int (nI 0), .null, .null, .int (nI 0), .null, .null, .int (nI 0), .null, .null, .null, .null, .null, .null, .null])), (q20, .inl (cI, 6, .inl (fun _ => nI 0))), (q28, .inl (cI, 6, .inl (fun _ => nI 0)))] H := hP
  have hD : va_D A [(h0, .inr (5, [.int (nI 0), .int (nI 100), .int (nI 1000), .int (nI 0), .int (nI 0), .int (nI 0), .int (nI 0), .int (nI 0), .ref q20, .ref q28, .int (nI 0), .null, .null, .int (nI 0), .null, .null, .int (nI 0), .null, .null, .null, .null, .null, .null, .null])), (q20, .inl (cI, 6, .inl (fun _ => nI 0))), (q28, .inl (cI, 6, .inl (fun _ => nI 0)))] := hD
  refine lv_aload_n hx hb d_Model_init_33 rfl (lv_at hl 0 rfl) ?_
  refine lv_bipush (v := nI 20) hx hb d_Model_init_34 (by decide) ?_
  refine va_newa (N' := 20) (a0 := (20, .inl (fun _ => nI 0))) (atype := .int) hx hb (hz _ tw_99) (ty := .int) rfl hK hP hD hS hA (fun _ => rfl) (by decide) (by decide) (by decide) (Nat.le_of_ble_eq_true rfl) (Nat.le_of_ble_eq_true rfl) d_Model_init_36 (fun q36 cN H hK9 hP hD hS => ?_)
  obtain rfl : cI = cN := za_uni (hK9.2 0 _ rfl).2 (hK9.2 2 _ rfl).2
  have hP : va_P (dC, dI) vwCl [(h0, .inr (5, [.int (nI 0), .int (nI 100), .int (nI 1000), .int (nI 0), .int (nI 0), .int (nI 0), .int (nI 0), .int (nI 0), .ref q20, .ref q28, .int (nI 0), .null, .null, .int (nI 0), .null, .null, .int (nI 0), .null, .null, .null, .null, .null, .null, .null])), (q20, .inl (cI, 6, .inl (fun _ => nI 0))), (q28, .inl (cI, 6, .inl (fun _ => nI 0))), (q36, .inl (cI, 20, .inl (fun _ => nI 0)))] H := hP
  have hD : va_D A [(h0, .inr (5, [.int (nI 0), .int (nI 100), .int (nI 1000), .int (nI 0), .int (nI 0), .int (nI 0), .int (nI 0), .int (nI 0), .ref q20, .ref q28, .int (nI 0), .null, .null, .int (nI 0), .null, .null, .int (nI 0), .null, .null, .null, .null, .null, .null, .null])), (q20, .inl (cI, 6, .inl (fun _ => nI 0))), (q28, .inl (cI, 6, .inl (fun _ => nI 0))), (q36, .inl (cI, 20, .inl (fun _ => nI 0)))] := hD
  refine va_putF (D := (dC, dI)) (ci := 5) (v := .ref q36) (ty := (.array .int)) (C := "CutLengthsModel") (T := T_Model) (N := 24) hx hb hz i_Model t_Model t_Model_ok n_Model hown hK hP hD hS 0 rfl rfl 11 (by decide) (hz _ tw_492) (fun _ h9 => h9) rfl hin rfl (by decide +kernel) rfl rfl (Nat.le_of_ble_eq_true rfl) d_Model_init_38 (fun H locs hP hD hS => ?_)
  have hP : va_P (dC, dI) vwCl [(h0, .inr (5, [.int (nI 0), .int (nI 100), .int (nI 1000), .int (nI 0), .int (nI 0), .int (nI 0), .int (nI 0), .int (nI 0), .ref q20, .ref q28, .int (nI 0), .ref q36, .null, .int (nI 0), .null, .null, .int (nI 0), .null, .null, .null, .null, .null, .null, .null])), (q20, .inl (cI, 6, .inl (fun _ => nI 0))), (q28, .inl (cI, 6, .inl (fun _ => nI 0))), (q36, .inl (cI, 20, .inl (fun _ => nI 0)))] H := hP
  have hD : va_D A [(h0, .inr (5, [.int (nI 0), .int (nI 100), .int (nI 1000), .int (nI 0), .int (nI 0), .int (nI 0), .int (nI 0), .int (nI 0), .ref q20, .ref q28, .int (nI 0), .ref q36, .null, .int (nI 0), .null, .null, .int (nI 0), .null, .null, .null, .null, .null, .null, .null])), (q20, .inl (cI, 6, .inl (fun _ => nI 0))), (q28, .inl (cI, 6, .inl (fun _ => nI 0))), (q36, .inl (cI, 20, .inl (fun _ => nI 0)))] := hD
  refine lv_aload_n hx hb d_Model_init_41 rfl (lv_at hl 0 rfl) ?_
  refine lv_bipush (v := nI 20) hx hb d_Model_init_42 (by decide) ?_
  refine va_newa (N' := 20) (a0 := (20, .inl (fun _ => nI 0))) (atype := .int) hx hb (hz _ tw_99) (ty := .int) rfl hK hP hD hS hA (fun _ => rfl) (by decide) (by decide) (by decide) (Nat.le_of_ble_eq_true rfl) (Nat.le_of_ble_eq_true rfl) d_Model_init_44 (fun q44 cN H hK9 hP hD hS => ?_)
  obtain rfl : cI = cN := za_uni (hK9.2 0 _ rfl).2 (hK9.2 2 _ rfl).2
  have hP : va_P (dC, dI) vwCl [(h0, .inr (5, [.int (nI 0), .int (nI 100), .int (nI 1000), .int (nI 0), .int (nI 0), .int (nI 0), .int (nI 0), .int (nI 0), .ref q20, .ref q28, .int (nI 0), .ref q36, .null, .int (nI 0), .null, .null, .int (nI 0), .null, .null, .null, .null, .null, .null, .null])), (q20, .inl (cI, 6, .inl (fun _ => nI 0))), (q28, .inl (cI, 6, .inl (fun _ => nI 0))), (q36, .inl (cI, 20, .inl (fun _ => nI 0))), (q44, .inl (cI, 20, .inl (fun _ => nI 0)))] H := hP
  have hD : va_D A [(h0, .inr (5, [.int (nI 0), .int (nI 100), .int (nI 1000), .int (nI 0), .int (nI 0), .int (nI 0), .int (nI 0), .int (nI 0), .ref q20, .ref q28, .int (nI 0), .ref q36, .null, .int (nI 0), .null, .null, .int (nI 0), .null, .null, .null, .null, .null, .null, .null])), (q20, .inl (cI, 6, .inl (fun _ => nI 0))), (q28, .inl (cI, 6, .inl (fun _ => nI 0))), (q36, .inl (cI, 20, .inl (fun _ => nI 0))), (q44, .inl (cI, 20, .inl (fun _ => nI 0)))] := hD
  refine va_putF (D := (dC, dI)) (ci := 5) (v := .ref q44) (ty := (.array .int)) (C := "CutLengthsModel") (T := T_Model) (N := 24) hx hb hz i_Model t_Model t_Model_ok n_Model hown hK hP hD hS 0 rfl rfl 12 (by decide) (hz _ tw_493) (fun _ h9 => h9) rfl hin rfl (by decide +kernel) rfl rfl (Nat.le_of_ble_eq_true rfl) d_Model_init_46 (fun H locs hP hD hS => ?_)
  have hP : va_P (dC, dI) vwCl [(h0, .inr (5, [.int (nI 0), .int (nI 100), .int (nI 1000), .int (nI 0), .int (nI 0), .int (nI 0), .int (nI 0), .int (nI 0), .ref q20, .ref q28, .int (nI 0), .ref q36, .ref q44, .int (nI 0), .null, .null, .int (nI 0), .null, .null, .null, .null, .null, .null, .null])), (q20, .inl (cI, 6, .inl (fun _ => nI 0))), (q28, .inl (cI, 6, .inl (fun _ => nI 0))), (q36, .inl (cI, 20, .inl (fun _ => nI 0))), (q44, .inl (cI, 20, .inl (fun _ => nI 0)))] H := hP
  have hD : va_D A [(h0, .inr (5, [.int (nI 0), .int (nI 100), .int (nI 1000), .int (nI 0), .int (nI 0), .int (nI 0), .int (nI 0), .int (nI 0), .ref q20, .ref q28, .int (nI 0), .ref q36, .ref q44, .int (nI 0), .null, .null, .int (nI 0), .null, .null, .null, .null, .null, .null, .null])), (q20, .inl (cI, 6, .inl (fun _ => nI 0))), (q28, .inl (cI, 6, .inl (fun _ => nI 0))), (q36, .inl (cI, 20, .inl (fun _ => nI 0))), (q44, .inl (cI, 20, .inl (fun _ => nI 0)))] := hD
  refine lv_aload_n hx hb d_Model_init_49 rfl (lv_at hl 0 rfl) ?_
  refine lv_bipush (v := nI 20) hx hb d_Model_init_50 (by decide) ?_
  refine va_newa (N' := 20) (a0 := (20, .inl (fun _ => nI 0))) (atype := .int) hx hb (hz _ tw_99) (ty := .int) rfl hK hP hD hS hA (fun _ => rfl) (by decide) (by decide) (by decide) (Nat.le_of_ble_eq_true rfl) (Nat.le_of_ble_eq_true rfl) d_Model_init_52 (fun q52 cN H hK9 hP hD hS => ?_)
  obtain rfl : cI = cN := za_uni (hK9.2 0 _ rfl).2 (hK9.2 2 _ rfl).2
  have hP : va_P (dC, dI) vwCl [(h0, .inr (5, [.int (nI 0), .int (nI 100), .int (nI 1000), .int (nI 0), .int (nI 0), .int (nI 0), .int (nI 0), .int (nI 0), .ref q20, .ref q28, .int (nI 0), .ref q36, .ref q44, .int (nI 0), .null, .null, .int (nI 0), .null, .null, .null, .null, .null, .null, .null])), (q20, .inl (cI, 6, .inl (fun _ => nI 0))), (q28, .inl (cI, 6, .inl (fun _ => nI 0))), (q36, .inl (cI, 20, .inl (fun _ => nI 0))), (q44, .inl (cI, 20, .inl (fun _ => nI 0))), (q52, .inl (cI, 20, .inl (fun _ => nI 0)))] H := hP
  have hD : va_D A [(h0, .inr (5, [.int (nI 0), .int (nI 100), .int (nI 1000), .int (nI 0), .int (nI 0), .int (nI 0), .int (nI 0), .int (nI 0), .ref q20, .ref q28, .int (nI 0), .ref q36, .ref q44, .int (nI 0), .null, .null, .int (nI 0), .null, .null, .null, .null, .null, .null, .null])), (q20, .inl (cI, 6, .inl (fun _ => nI 0))), (q28, .inl (cI, 6, .inl (fun _ => nI 0))), (q36, .inl (cI, 20, .inl (fun _ => nI 0))), (q44, .inl (cI, 20, .inl (fun _ => nI 0))), (q52, .inl (cI, 20, .inl (fun _ => nI 0)))] := hD
  refine va_putF (D := (dC, dI)) (ci := 5) (v := .ref q52) (ty := (.array .int)) (C := "CutLengthsModel") (T := T_Model) (N := 24) hx hb hz i_Model t_Model t_Model_ok n_Model hown hK hP hD hS 0 rfl rfl 14 (by decide) (hz _ tw_495) (fun _ h9 => h9) rfl hin rfl (by decide +kernel) rfl rfl (Nat.le_of_ble_eq_true rfl) d_Model_init_54 (fun H locs hP hD hS => ?_)
  have hP : va_P (dC, dI) vwCl [(h0, .inr (5, [.int (nI 0), .int (nI 100), .int (nI 1000), .int (nI 0), .int (nI 0), .int (nI 0), .int (nI 0), .int (nI 0), .ref q20, .ref q28, .int (nI 0), .ref q36, .ref q44, .int (nI 0), .ref q52, .null, .int (nI 0), .null, .null, .null, .null, .null, .null, .null])), (q20, .inl (cI, 6, .inl (fun _ => nI 0))), (q28, .inl (cI, 6, .inl (fun _ => nI 0))), (q36, .inl (cI, 20, .inl (fun _ => nI 0))), (q44, .inl (cI, 20, .inl (fun _ => nI 0))), (q52, .inl (cI, 20, .inl (fun _ => nI 0)))] H := hP
  have hD : va_D A [(h0, .inr (5, [.int (nI 0), .int (nI 100), .int (nI 1000), .int (nI 0), .int (nI 0), .int (nI 0), .int (nI 0), .int (nI 0), .ref q20, .ref q28, .int (nI 0), .ref q36, .ref q44, .int (nI 0), .ref q52, .null, .int (nI 0), .null, .null, .null, .null, .null, .null, .null])), (q20, .inl (cI, 6, .inl (fun _ => nI 0))), (q28, .inl (cI, 6, .inl (fun _ => nI 0))), (q36, .inl (cI, 20, .inl (fun _ => nI 0))), (q44, .inl (cI, 20, .inl (fun _ => nI 0))), (q52, .inl (cI, 20, .inl (fun _ => nI 0)))] := hD
  refine lv_aload_n hx hb d_Model_init_57 rfl (lv_at hl 0 rfl) ?_
  refine lv_bipush (v := nI 20) hx hb d_Model_init_58 (by decide) ?_
  refine va_newa (N' := 20) (a0 := (20, .inl (fun _ => nI 0))) (atype := .int) hx hb (hz _ tw_99) (ty := .int) rfl hK hP hD hS hA (fun _ => rfl) (by decide) (by decide) (by decide) (Nat.le_of_ble_eq_true rfl) (Nat.le_of_ble_eq_true rfl) d_Model_init_60 (fun q60 cN H hK9 hP hD hS => ?_)
  obtain rfl : cI = cN := za_uni (hK9.2 0 _ rfl).2 (hK9.2 2 _ rfl).2
  have hP : va_P (dC, dI) vwCl [(h0, .inr (5, [.int (nI 0), .int (nI 100), .int (nI 1000), .int (nI 0), .int (nI 0), .int (nI 0), .int (nI 0), .int (nI 0), .ref q20, .ref q28, .int (nI 0), .ref q36, .ref q44, .int (nI 0), .ref q52, .null, .int (nI 0), .null, .null, .null, .null, .null, .null, .null])), (q20, .inl (cI, 6, .inl (fun _ => nI 0))), (q28, .inl (cI, 6, .inl (fun _ => nI 0))), (q36, .inl (cI, 20, .inl (fun _ => nI 0))), (q44, .inl (cI, 20, .inl (fun _ => nI 0))), (q52, .inl (cI, 20, .inl (fun _ => nI 0))), (q60, .inl (cI, 20, .inl (fun _ => nI 0)))] H := hP
  have hD : va_D A [(h0, .inr (5, [.int (nI 0), .int (nI 100), .int (nI 1000), .int (nI 0), .int (nI 0), .int (nI 0), .int (nI 0), .int (nI 0), .ref q20, .ref q28, .int (nI 0), .ref q36, .ref q44, .int (nI 0), .ref q52, .null, .int (nI 0), .null, .null, .null, .null, .null, .null, .null])), (q20, .inl (cI, 6, .inl (fun _ => nI 0))), (q28, .inl (cI, 6, .inl (fun _ => nI 0))), (q36, .inl (cI, 20, .inl (fun _ => nI 0))), (q44, .inl (cI, 20, .inl (fun _ => nI 0))), (q52, .inl (cI, 20, .inl (fun _ => nI 0))), (q60, .inl (cI, 20, .inl (fun _ => nI 0)))] := hD
  refine va_putF (D := (dC, dI)) (ci := 5) (v := .ref q60) (ty := (.array .int)) (C := "CutLengthsModel") (T := T_Model) (N := 24) hx hb hz i_Model t_Model t_Model_ok n_Model hown hK hP hD hS 0 rfl rfl 15 (by decide) (hz _ tw_496) (fun _ h9 => h9) rfl hin rfl (by decide +kernel) rfl rfl (Nat.le_of_ble_eq_true rfl) d_Model_init_62 (fun H locs hP hD hS => ?_)
  have hP : va_P (dC, dI) vwCl [(h0, .inr (5, [.int (nI 0), .int (nI 100), .int (nI 1000), .int (nI 0), .int (nI 0), .int (nI 0), .int (nI 0), .int (nI 0), .ref q20, .ref q28, .int (nI 0), .ref q36, .ref q44, .int (nI 0), .ref q52, .ref q60, .int (nI 0), .null, .null, .null, .null, .null, .null, .null])), (q20, .inl (cI, 6, .inl (fun _ => nI 0))), (q28, .inl (cI, 6, .inl (fun _ => nI 0))), (q36, .inl (cI, 20, .inl (fun _ => nI 0))), (q44, .inl (cI, 20, .inl (fun _ => nI 0))), (q52, .inl (cI, 20, .inl (fun _ => nI 0))), (q60, .inl (cI, 20, .inl (fun _ => nI 0)))] H := hP
  have hD : va_D A [(h0, .inr (5, [.int (nI 0), .int (nI 100), .int (nI 1000), .int (nI 0), .int (nI 0), .int (nI 0), .int (nI 0), .int (nI 0), .ref q20, .ref q28, .int (nI 0), .ref q36, .ref q44, .int (nI 0), .ref q52, .ref q60, .int (nI 0), .null, .null, .null, .null, .null, .null, .null])), (q20, .inl (cI, 6, .inl (fun _ => nI 0))), (q28, .inl (cI, 6, .inl (fun _ => nI 0))), (q36, .inl (cI, 20, .inl (fun _ => nI 0))), (q44, .inl (cI, 20, .inl (fun _ => nI 0))), (q52, .inl (cI, 20, .inl (fun _ => nI 0))), (q60, .inl (cI, 20, .inl (fun _ => nI 0)))] := hD
  refine lv_aload_n hx hb d_Model_init_65 rfl (lv_at hl 0 rfl) ?_
  refine lv_bipush (v := nI 100) hx hb d_Model_init_66 (by decide) ?_
  refine va_newa (N' := 100) (a0 := (100, .inl (fun _ => nI 0))) (atype := .int) hx hb (hz _ tw_99) (ty := .int) rfl hK hP hD hS hA (fun _ => rfl) (by decide) (by decide) (by decide) (Nat.le_of_ble_eq_true rfl) (Nat.le_of_ble_eq_true rfl) d_Model_init_68 (fun q68 cN H hK9 hP hD hS => ?_)
  obtain rfl : cI = cN := za_uni (hK9.2 0 _ rfl).2 (hK9.2 2 _ rfl).2
  have hP : va_P (dC, dI) vwCl [(h0, .inr (5, [.int (nI 0), .int (nI 100), .int (nI 1000), .int (nI 0), .int (nI 0), .int (nI 0), .int (nI 0), .int (nI 0), .ref q20, .ref q28, .int (nI 0), .ref q36, .ref q44, .int (nI 0), .ref q52, .ref q60, .int (nI 0), .null, .null, .null, .null, .null, .null, .null])), (q20, .inl (cI, 6, .inl (fun _ => nI 0))), (q28, .inl (cI, 6, .inl (fun _ => nI 0))), (q36, .inl (cI, 20, .inl (fun _ => nI 0))), (q44, .inl (cI, 20, .inl (fun _ => nI 0))), (q52, .inl (cI, 20, .inl (fun _ => nI 0))), (q60, .inl (cI, 20, .inl (fun _ => nI 0))), (q68, .inl (cI, 100, .inl (fun _ => nI 0)))] H := hP
  have hD : va_D A [(h0, .inr (5, [.int (nI 0), .int (nI 100), .int (nI 1000), .int (nI 0), .int (nI 0), .int (nI 0), .int (nI 0), .int (nI 0), .ref q20, .ref q28, .int (nI 0), .ref q36, .ref q44, .int (nI 0), .ref q52, .ref q60, .int (nI 0), .null, .null, .null, .null, .null, .null, .null])), (q20, .inl (cI, 6, .inl (fun _ => nI 0))), (q28, .inl (cI, 6, .inl (fun _ => nI 0))), (q36, .inl (cI, 20, .inl (fun _ => nI 0))), (q44, .inl (cI, 20, .inl (fun _ => nI 0))), (q52, .inl (cI, 20, .inl (fun _ => nI 0))), (q60, .inl (cI, 20, .inl (fun _ => nI 0))), (q68, .inl (cI, 100, .inl (fun _ => nI 0)))] := hD
  refine va_putF (D := (dC, dI)) (ci := 5) (v := .ref q68) (ty := (.array .int)) (C := "CutLengthsModel") (T := T_Model) (N := 24) hx hb hz i_Model t_Model t_Model_ok n_Model hown hK hP hD hS 0 rfl rfl 17 (by decide) (hz _ tw_498) (fun _ h9 => h9) rfl hin rfl (by decide +kernel) rfl rfl (Nat.le_of_ble_eq_true rfl) d_Model_init_70 (fun H locs hP hD hS => ?_)
  have hP : va_P (dC, dI) vwCl [(h0, .inr (5, [.int (nI 0), .int (nI 100), .int (nI 1000), .int (nI 0), .int (nI 0), .int (nI 0), .int (nI 0), .int (nI 0), .ref q20, .ref q28, .int (nI 0), .ref q36, .ref q44, .int (nI 0), .ref q52, .ref q60, .int (nI 0), .ref q68, .null, .null, .null, .null, .null, .null])), (q20, .inl (cI, 6, .inl (fun _ => nI 0))), (q28, .inl (cI, 6, .inl (fun _ => nI 0))), (q36, .inl (cI, 20, .inl (fun _ => nI 0))), (q44, .inl (cI, 20, .inl (fun _ => nI 0))), (q52, .inl (cI, 20, .inl (fun _ => nI 0))), (q60, .inl (cI, 20, .inl (fun _ => nI 0))), (q68, .inl (cI, 100, .inl (fun _ => nI 0)))] H := hP
  have hD : va_D A [(h0, .inr (5, [.int (nI 0), .int (nI 100), .int (nI 1000), .int (nI 0), .int (nI 0), .int (nI 0), .int (nI 0), .int (nI 0), .ref q20, .ref q28, .int (nI 0), .ref q36, .ref q44, .int (nI 0), .ref q52, .ref q60, .int (nI 0), .ref q68, .null, .null, .null, .null, .null, .null])), (q20, .inl (cI, 6, .inl (fun _ => nI 0))), (q28, .inl (cI, 6, .inl (fun _ => nI 0))), (q36, .inl (cI, 20, .inl (fun _ => nI 0))), (q44, .inl (cI, 20, .inl (fun _ => nI 0))), (q52, .inl (cI, 20, .inl (fun _ => nI 0))), (q60, .inl (cI, 20, .inl (fun _ => nI 0))), (q68, .inl (cI, 100, .inl (fun _ => nI 0)))] := hD
  refine lv_aload_n hx hb d_Model_init_73 rfl (lv_at hl 0 rfl) ?_
  refine lv_bipush (v := nI 100) hx hb d_Model_init_74 (by decide) ?_
  refine va_newa (N' := 100) (a0 := (100, .inl (fun _ => nI 0))) (atype := .int) hx hb (hz _ tw_99) (ty := .int) rfl hK hP hD hS hA (fun _ => rfl) (by decide) (by decide) (by decide) (Nat.le_of_ble_eq_true rfl) (Nat.le_of_ble_eq_true rfl) d_Model_init_76 (fun q76 cN H hK9 hP hD hS => ?_)
  obtain rfl : cI = cN := za_uni (hK9.2 0 _ rfl).2 (hK9.2 2 _ rfl).2
  have hP : va_P (dC, dI) vwCl [(h0, .inr (5, [.int (nI 0), .int (nI 100), .int (nI 1000), .int (nI 0), .int (nI 0), .int (nI 0), .int (nI 0), .int (nI 0), .ref q20, .ref q28, .int (nI 0), .ref q36, .ref q44, .int (nI 0), .ref q52, .ref q60, .int (nI 0), .ref q68, .null, .null, .null, .null, .null, .null])), (q20, .inl (cI, 6, .inl (fun _ => nI 0))), (q28, .inl (cI, 6, .inl (fun _ => nI 0))), (q36, .inl (cI, 20, .inl (fun _ => nI 0))), (q44, .inl (cI, 20, .inl (fun _ => nI 0))), (q52, .inl (cI, 20, .inl (fun _ => nI 0))), (q60, .inl (cI, 20, .inl (fun _ => nI 0))), (q68, .inl (cI, 100, .inl (fun _ => nI 0))), (q76, .inl (cI, 100, .inl (fun _ => nI 0)))] H := hP
  have hD : va_D A [(h0, .inr (5, [.int (nI 0), .int (nI 100), .int (nI 1000), .int (nI 0), .int (nI 0), .int (nI 0), .int (nI 0), .int (nI 0), .ref q20, .ref q28, .int (nI 0), .ref q36, .ref q44, .int (nI 0), .ref q52, .ref q60, .int (nI 0), .ref q68, .null, .null, .null, .null, .null, .null])), (q20, .inl (cI, 6, .inl (fun _ => nI 0))), (q28, .inl (cI, 6, .inl (fun _ => nI 0))), (q36, .inl (cI, 20, .inl (fun _ => nI 0))), (q44, .inl (cI, 20, .inl (fun _ => nI 0))), (q52, .inl (cI, 20, .inl (fun _ => nI 0))), (q60, .inl (cI, 20, .inl (fun _ => nI 0))), (q68, .inl (cI, 100, .inl (fun _ => nI 0))), (q76, .inl (cI, 100, .inl (fun _ => nI 0)))] := hD
  refine va_putF (D := (dC, dI)) (ci := 5) (v := .ref q76) (ty := (.array .int)) (C := "CutLengthsModel") (T := T_Model) (N := 24) hx hb hz i_Model t_Model t_Model_ok n_Model hown hK hP hD hS 0 rfl rfl 18 (by decide) (hz _ tw_499) (fun _ h9 => h9) rfl hin rfl (by decide +kernel) rfl rfl (Nat.le_of_ble_eq_true rfl) d_Model_init_78 (fun H locs hP hD hS => ?_)
  have hP : va_P (dC, dI) vwCl [(h0, .inr (5, [.int (nI 0), .int (nI 100), .int (nI 1000), .int (nI 0), .int (nI 0), .int (nI 0), .int (nI 0), .int (nI 0), .ref q20, .ref q28, .int (nI 0), .ref q36, .ref q44, .int (nI 0), .ref q52, .ref q60, .int (nI 0), .ref q68, .ref q76, .null, .null, .null, .null, .null])), (q20, .inl (cI, 6, .inl (fun _ => nI 0))), (q28, .inl (cI, 6, .inl (fun _ => nI 0))), (q36, .inl (cI, 20, .inl (fun _ => nI 0))), (q44, .inl (cI, 20, .inl (fun _ => nI 0))), (q52, .inl (cI, 20, .inl (fun _ => nI 0))), (q60, .inl (cI, 20, .inl (fun _ => nI 0))), (q68, .inl (cI, 100, .inl (fun _ => nI 0))), (q76, .inl (cI, 100, .inl (fun _ => nI 0)))] H := hP
  have hD : va_D A [(h0, .inr (5, [.int (nI 0), .int (nI 100), .int (nI 1000), .int (nI 0), .int (nI 0), .int (nI 0), .int (nI 0), .int (nI 0), .ref q20, .ref q28, .int (nI 0), .ref q36, .ref q44, .int (nI 0), .ref q52, .ref q60, .int (nI 0), .ref q68, .ref q76, .null, .null, .null, .null, .null])), (q20, .inl (cI, 6, .inl (fun _ => nI 0))), (q28, .inl (cI, 6, .inl (fun _ => nI 0))), (q36, .inl (cI, 20, .inl (fun _ => nI 0))), (q44, .inl (cI, 20, .inl (fun _ => nI 0))), (q52, .inl (cI, 20, .inl (fun _ => nI 0))), (q60, .inl (cI, 20, .inl (fun _ => nI 0))), (q68, .inl (cI, 100, .inl (fun _ => nI 0))), (q76, .inl (cI, 100, .inl (fun _ => nI 0)))] := hD
  refine lv_aload_n hx hb d_Model_init_81 rfl (lv_at hl 0 rfl) ?_
  refine lv_bipush (v := nI 100) hx hb d_Model_init_82 (by decide) ?_
  refine va_newa (N' := 100) (a0 := (100, .inl (fun _ => nI 0))) (atype := .int) hx hb (hz _ tw_99) (ty := .int) rfl hK hP hD hS hA (fun _ => rfl) (by decide) (by decide) (by decide) (Nat.le_of_ble_eq_true rfl) (Nat.le_of_ble_eq_true rfl) d_Model_init_84 (fun q84 cN H hK9 hP hD hS => ?_)
  obtain rfl : cI = cN := za_uni (hK9.2 0 _ rfl).2 (hK9.2 2 _ rfl).2
  have hP : va_P (dC, dI) vwCl [(h0, .inr (5, [.int (nI 0), .int (nI 100), .int (nI 1000), .int (nI 0), .int (nI 0), .int (nI 0), .int (nI 0), .int (nI 0), .ref q20, .ref q28, .int (nI 0), .ref q36, .ref q44, .int (nI 0), .ref q52, .ref q60, .int (nI 0), .ref q68, .ref q76, .null, .null, .null, .null, .null])), (q20, .inl (cI, 6, .inl (fun _ => nI 0))), (q28, .inl (cI, 6, .inl (fun _ => nI 0))), (q36, .inl (cI, 20, .inl (fun _ => nI 0))), (q44, .inl (cI, 20, .inl (fun _ => nI 0))), (q52, .inl (cI, 20, .inl (fun _ => nI 0))), (q60, .inl (cI, 20, .inl (fun _ => nI 0))), (q68, .inl (cI, 100, .inl (fun _ => nI 0))), (q76, .inl (cI, 100, .inl (fun _ => nI 0))), (q84, .inl (cI, 100, .inl (fun _ => nI 0)))] H := hP
  have hD : va_D A [(h0, .inr (5, [.int (nI 0), .int (nI 100), .int (nI 1000), .int (nI 0), .int (nI 0), .int (nI 0), .int (nI 0), .int (nI 0), .ref q20, .ref q28, .int (nI 0), .ref q36, .ref q44, .int (nI 0), .ref q52, .ref q60, .int (nI 0), .ref q68, .ref q76, .null, .null, .null, .null, .null])), (q20, .inl (cI, 6, .inl (fun _ => nI 0))), (q28, .inl (cI, 6, .inl (fun _ => nI 0))), (q36, .inl (cI, 20, .inl (fun _ => nI 0))), (q44, .inl (cI, 20, .inl (fun _ => nI 0))), (q52, .inl (cI, 20, .inl (fun _ => nI 0))), (q60, .inl (cI, 20, .inl (fun _ => nI 0))), (q68, .inl (cI, 100, .inl (fun _ => nI 0))), (q76, .inl (cI, 100, .inl (fun _ => nI 0))), (q84, .inl (cI, 100, .inl (fun _ => nI 0)))] := hD
  refine va_putF (D := (dC, dI)) (ci := 5) (v := .ref q84) (ty := (.array .int)) (C := "CutLengthsModel") (T := T_Model) (N := 24) hx hb hz i_Model t_Model t_Model_ok n_Model hown hK hP hD hS 0 rfl rfl 19 (by decide) (hz _ tw_500) (fun _ h9 => h9) rfl hin rfl (by decide +kernel) rfl rfl (Nat.le_of_ble_eq_true rfl) d_Model_init_86 (fun H locs hP hD hS => ?_)
  have hP : va_P (dC, dI) vwCl [(h0, .inr (5, [.int (nI 0), .int (nI 100), .int (nI 1000), .int (nI 0), .int (nI 0), .int (nI 0), .int (nI 0), .int (nI 0), .ref q20, .ref q28, .int (nI 0), .ref q36, .ref q44, .int (nI 0), .ref q52, .ref q60, .int (nI 0), .ref q68, .ref q76, .ref q84, .null, .null, .null, .null])), (q20, .inl (cI, 6, .inl (fun _ => nI 0))), (q28, .inl (cI, 6, .inl (fun _ => nI 0))), (q36, .inl (cI, 20, .inl (fun _ => nI 0))), (q44, .inl (cI, 20, .inl (fun _ => nI 0))), (q52, .inl (cI, 20, .inl (fun _ => nI 0))), (q60, .inl (cI, 20, .inl (fun _ => nI 0))), (q68, .inl (cI, 100, .inl (fun _ => nI 0))), (q76, .inl (cI, 100, .inl (fun _ => nI 0))), (q84, .inl (cI, 100, .inl (fun _ => nI 0)))] H := hP
  have hD : va_D A [(h0, .inr (5, [.int (nI 0), .int (nI 100), .int (nI 1000), .int (nI 0), .int (nI 0), .int (nI 0), .int (nI 0), .int (nI 0), .ref q20, .ref q28, .int (nI 0), .ref q36, .ref q44, .int (nI 0), .ref q52, .ref q60, .int (nI 0), .ref q68, .ref q76, .ref q84, .null, .null, .null, .null])), (q20, .inl (cI, 6, .inl (fun _ => nI 0))), (q28, .inl (cI, 6, .inl (fun _ => nI 0))), (q36, .inl (cI, 20, .inl (fun _ => nI 0))), (q44, .inl (cI, 20, .inl (fun _ => nI 0))), (q52, .inl (cI, 20, .inl (fun _ => nI 0))), (q60, .inl (cI, 20, .inl (fun _ => nI 0))), (q68, .inl (cI, 100, .inl (fun _ => nI 0))), (q76, .inl (cI, 100, .inl (fun _ => nI 0))), (q84, .inl (cI, 100, .inl (fun _ => nI 0)))] := hD
  refine lv_aload_n hx hb d_Model_init_89 rfl (lv_at hl 0 rfl) ?_
  refine lv_sipush (v := nI 301) hx hb d_Model_init_90 (by decide) ?_
  refine va_newa (N' := 301) (a0 := (301, .inl (fun _ => nI 0))) (atype := .int) hx hb (hz _ tw_99) (ty := .int) rfl hK hP hD hS hA (fun _ => rfl) (by decide) (by decide) (by decide) (Nat.le_of_ble_eq_true rfl) (Nat.le_of_ble_eq_true rfl) d_Model_init_93 (fun q93 cN H hK9 hP hD hS => ?_)
  obtain rfl : cI = cN := za_uni (hK9.2 0 _ rfl).2 (hK9.2 2 _ rfl).2
  have hP : va_P (dC, dI) vwCl [(h0, .inr (5, [.int (nI 0), .int (nI 100), .int (nI 1000), .int (nI 0), .int (nI 0), .int (nI 0), .int (nI 0), .int (nI 0), .ref q20, .ref q28, .int (nI 0), .ref q36, .ref q44, .int (nI 0), .ref q52, .ref q60, .int (nI 0), .ref q68, .ref q76, .ref q84, .null, .null, .null, .null])), (q20, .inl (cI, 6, .inl (fun _ => nI 0))), (q28, .inl (cI, 6, .inl (fun _ => nI 0))), (q36, .inl (cI, 20, .inl (fun _ => nI 0))), (q44, .inl (cI, 20, .inl (fun _ => nI 0))), (q52, .inl (cI, 20, .inl (fun _ => nI 0))), (q60, .inl (cI, 20, .inl (fun _ => nI 0))), (q68, .inl (cI, 100, .inl (fun _ => nI 0))), (q76, .inl (cI, 100, .inl (fun _ => nI 0))), (q84, .inl (cI, 100, .inl (fun _ => nI 0))), (q93, .inl (cI, 301, .inl (fun _ => nI 0)))] H := hP
  have hD : va_D A [(h0, .inr (5, [.int (nI 0), .int (nI 100), .int (nI 1000), .int (nI 0), .int (nI 0), .int (nI 0), .int (nI 0), .int (nI 0), .ref q20, .ref q28, .int (nI 0), .ref q36, .ref q44, .int (nI 0), .ref q52, .ref q60, .int (nI 0), .ref q68, .ref q76, .ref q84, .null, .null, .null, .null])), (q20, .inl (cI, 6, .inl (fun _ => nI 0))), (q28, .inl (cI, 6, .inl (fun _ => nI 0))), (q36, .inl (cI, 20, .inl (fun _ => nI 0))), (q44, .inl (cI, 20, .inl (fun _ => nI 0))), (q52, .inl (cI, 20, .inl (fun _ => nI 0))), (q60, .inl (cI, 20, .inl (fun _ => nI 0))), (q68, .inl (cI, 100, .inl (fun _ => nI 0))), (q76, .inl (cI, 100, .inl (fun _ => nI 0))), (q84, .inl (cI, 100, .inl (fun _ => nI 0))), (q93, .inl (cI, 301, .inl (fun _ => nI 0)))] := hD
  refine va_putF (D := (dC, dI)) (ci := 5) (v := .ref q93) (ty := (.array .int)) (C := "CutLengthsModel") (T := T_Model) (N := 24) hx hb hz i_Model t_Model t_Model_ok n_Model hown hK hP hD hS 0 rfl rfl 20 (by decide) (hz _ tw_501) (fun _ h9 => h9) rfl hin rfl (by decide +kernel) rfl rfl (Nat.le_of_ble_eq_true rfl) d_Model_init_95 (fun H locs hP hD hS => ?_)
  have hP : va_P (dC, dI) vwCl [(h0, .inr (5, [.int (nI 0), .int (nI 100), .int (nI 1000), .int (nI 0), .int (nI 0), .int (nI 0), .int (nI 0), .int (nI 0), .ref q20, .ref q28, .int (nI 0), .ref q36, .ref q44, .int (nI 0), .ref q52, .ref q60, .int (nI 0), .ref q68, .ref q76, .ref q84, .ref q93, .null, .null, .null])), (q20, .inl (cI, 6, .inl (fun _ => nI 0))), (q28, .inl (cI, 6, .inl (fun _ => nI 0))), (q36, .inl (cI, 20, .inl (fun _ => nI 0))), (q44, .inl (cI, 20, .inl (fun _ => nI 0))), (q52, .inl (cI, 20, .inl (fun _ => nI 0))), (q60, .inl (cI, 20, .inl (fun _ => nI 0))), (q68, .inl (cI, 100, .inl (fun _ => nI 0))), (q76, .inl (cI, 100, .inl (fun _ => nI 0))), (q84, .inl (cI, 100, .inl (fun _ => nI 0))), (q93, .inl (cI, 301, .inl (fun _ => nI 0)))] H := hP
  have hD : va_D A [(h0, .inr (5, [.int (nI 0), .int (nI 100), .int (nI 1000), .int (nI 0), .int (nI 0), .int (nI 0), .int (nI 0), .int (nI 0), .ref q20, .ref q28, .int (nI 0), .ref q36, .ref q44, .int (nI 0), .ref q52, .ref q60, .int (nI 0), .ref q68, .ref q76, .ref q84, .ref q93, .null, .null, .null])), (q20, .inl (cI, 6, .inl (fun _ => nI 0))), (q28, .inl (cI, 6, .inl (fun _ => nI 0))), (q36, .inl (cI, 20, .inl (fun _ => nI 0))), (q44, .inl (cI, 20, .inl (fun _ => nI 0))), (q52, .inl (cI, 20, .inl (fun _ => nI 0))), (q60, .inl (cI, 20, .inl (fun _ => nI 0))), (q68, .inl (cI, 100, .inl (fun _ => nI 0))), (q76, .inl (cI, 100, .inl (fun _ => nI 0))), (q84, .inl (cI, 100, .inl (fun _ => nI 0))), (q93, .inl (cI, 301, .inl (fun _ => nI 0)))] := hD
  refine lv_aload_n hx hb d_Model_init_98 rfl (lv_at hl 0 rfl) ?_
  refine lv_sipush (v := nI 301) hx hb d_Model_init_99 (by decide) ?_
  refine va_newa (N' := 301) (a0 := (301, .inl (fun _ => nI 0))) (atype := .int) hx hb (hz _ tw_99) (ty := .int) rfl hK hP hD hS hA (fun _ => rfl) (by decide) (by decide) (by decide) (Nat.le_of_ble_eq_true rfl) (Nat.le_of_ble_eq_true rfl) d_Model_init_102 (fun q102 cN H hK9 hP hD hS => ?_)
  obtain rfl : cI = cN := za_uni (hK9.2 0 _ rfl).2 (hK9.2 2 _ rfl).2
  have hP : va_P (dC, dI) vwCl [(h0, .inr (5, [.int (nI 0), .int (nI 100), .int (nI 1000), .int (nI 0), .int (nI 0), .int (nI 0), .int (nI 0), .int (nI 0), .ref q20, .ref q28, .int (nI 0), .ref q36, .ref q44, .int (nI 0), .ref q52, .ref q60, .int (nI 0), .ref q68, .ref q76, .ref q84, .ref q93, .null, .null, .null])), (q20, .inl (cI, 6, .inl (fun _ => nI 0))), (q28, .inl (cI, 6, .inl (fun _ => nI 0))), (q36, .inl (cI, 20, .inl (fun _ => nI 0))), (q44, .inl (cI, 20, .inl (fun _ => nI 0))), (q52, .inl (cI, 20, .inl (fun _ => nI 0))), (q60, .inl (cI, 20, .inl (fun _ => nI 0))), (q68, .inl (cI, 100, .inl (fun _ => nI 0))), (q76, .inl (cI, 100, .inl (fun _ => nI 0))), (q84, .inl (cI, 100, .inl (fun _ => nI 0))), (q93, .inl (cI, 301, .inl (fun _ => nI 0))), (q102, .inl (cI, 301, .inl (fun _ => nI 0)))] H := hP
  have hD : va_D A [(h0, .inr (5, [.int (nI 0), .int (nI 100), .int (nI 1000), .int (nI 0), .int (nI 0), .int (nI 0), .int (nI 0), .int (nI 0), .ref q20, .ref q28, .int (nI 0), .ref q36, .ref q44, .int (nI 0), .ref q52, .ref q60, .int (nI 0), .ref q68, .ref q76, .ref q84, .ref q93, .null, .null, .null])), (q20, .inl (cI, 6, .inl (fun _ => nI 0))), (q28, .inl (cI, 6, .inl (fun _ => nI 0))), (q36, .inl (cI, 20, .inl (fun _ => nI 0))), (q44, .inl (cI, 20, .inl (fun _ => nI 0))), (q52, .inl (cI, 20, .inl (fun _ => nI 0))), (q60, .inl (cI, 20, .inl (fun _ => nI 0))), (q68, .inl (cI, 100, .inl (fun _ => nI 0))), (q76, .inl (cI, 100, .inl (fun _ => nI 0))), (q84, .inl (cI, 100, .inl (fun _ => nI 0))), (q93, .inl (cI, 301, .inl (fun _ => nI 0))), (q102, .inl (cI, 301, .inl (fun _ => nI 0)))] := hD
  refine va_putF (D := (dC, dI)) (ci := 5) (v := .ref q102) (ty := (.array .int)) (C := "CutLengthsModel") (T := T_Model) (N := 24) hx hb hz i_Model t_Model t_Model_ok n_Model hown hK hP hD hS 0 rfl rfl 21 (by decide) (hz _ tw_502) (fun _ h9 => h9) rfl hin rfl (by decide +kernel) rfl rfl (Nat.le_of_ble_eq_true rfl) d_Model_init_104 (fun H locs hP hD hS => ?_)
  have hP : va_P (dC, dI) vwCl [(h0, .inr (5, [.int (nI 0), .int (nI 100), .int (nI 1000), .int (nI 0), .int (nI 0), .int (nI 0), .int (nI 0), .int (nI 0), .ref q20, .ref q28, .int (nI 0), .ref q36, .ref q44, .int (nI 0), .ref q52, .ref q60, .int (nI 0), .ref q68, .ref q76, .ref q84, .ref q93, .ref q102, .null, .null])), (q20, .inl (cI, 6, .inl (fun _ => nI 0))), (q28, .inl (cI, 6, .inl (fun _ => nI 0))), (q36, .inl (cI, 20, .inl (fun _ => nI 0))), (q44, .inl (cI, 20, .inl (fun _ => nI 0))), (q52, .inl (cI, 20, .inl (fun _ => nI 0))), (q60, .inl (cI, 20, .inl (fun _ => nI 0))), (q68, .inl (cI, 100, .inl (fun _ => nI 0))), (q76, .inl (cI, 100, .inl (fun _ => nI 0))), (q84, .inl (cI, 100, .inl (fun _ => nI 0))), (q93, .inl (cI, 301, .inl (fun _ => nI 0))), (q102, .inl (cI, 301, .inl (fun _ => nI 0)))] H := hP
  have hD : va_D A [(h0, .inr (5, [.int (nI 0), .int (nI 100), .int (nI 1000), .int (nI 0), .int (nI 0), .int (nI 0), .int (nI 0), .int (nI 0), .ref q20, .ref q28, .int (nI 0), .ref q36, .ref q44, .int (nI 0), .ref q52, .ref q60, .int (nI 0), .ref q68, .ref q76, .ref q84, .ref q93, .ref q102, .null, .null])), (q20, .inl (cI, 6, .inl (fun _ => nI 0))), (q28, .inl (cI, 6, .inl (fun _ => nI 0))), (q36, .inl (cI, 20, .inl (fun _ => nI 0))), (q44, .inl (cI, 20, .inl (fun _ => nI 0))), (q52, .inl (cI, 20, .inl (fun _ => nI 0))), (q60, .inl (cI, 20, .inl (fun _ => nI 0))), (q68, .inl (cI, 100, .inl (fun _ => nI 0))), (q76, .inl (cI, 100, .inl (fun _ => nI 0))), (q84, .inl (cI, 100, .inl (fun _ => nI 0))), (q93, .inl (cI, 301, .inl (fun _ => nI 0))), (q102, .inl (cI, 301, .inl (fun _ => nI 0)))] := hD
  refine lv_aload_n hx hb d_Model_init_107 rfl (lv_at hl 0 rfl) ?_
  refine lv_sipush (v := nI 301) hx hb d_Model_init_108 (by decide) ?_
  refine va_newa (N' := 301) (a0 := (301, .inl (fun _ => nI 0))) (atype := .int) hx hb (hz _ tw_99) (ty := .int) rfl hK hP hD hS hA (fun _ => rfl) (by decide) (by decide) (by decide) (Nat.le_of_ble_eq_true rfl) (Nat.le_of_ble_eq_true rfl) d_Model_init_111 (fun q111 cN H hK9 hP hD hS => ?_)
  obtain rfl : cI = cN := za_uni (hK9.2 0 _ rfl).2 (hK9.2 2 _ rfl).2
  have hP : va_P (dC, dI) vwCl [(h0, .inr (5, [.int (nI 0), .int (nI 100), .int (nI 1000), .int (nI 0), .int (nI 0), .int (nI 0), .int (nI 0), .int (nI 0), .ref q20, .ref q28, .int (nI 0), .ref q36, .ref q44, .int (nI 0), .ref q52, .ref q60, .int (nI 0), .ref q68, .ref q76, .ref q84, .ref q93, .ref q102, .null, .null])), (q20, .inl (cI, 6, .inl (fun _ => nI 0))), (q28, .inl (cI, 6, .inl (fun _ => nI 0))), (q36, .inl (cI, 20, .inl (fun _ => nI 0))), (q44, .inl (cI, 20, .inl (fun _ => nI 0))), (q52, .inl (cI, 20, .inl (fun _ => nI 0))), (q60, .inl (cI, 20, .inl (fun _ => nI 0))), (q68, .inl (cI, 100, .inl (fun _ => nI 0))), (q76, .inl (cI, 100, .inl (fun _ => nI 0))), (q84, .inl (cI, 100, .inl (fun _ => nI 0))), (q93, .inl (cI, 301, .inl (fun _ => nI 0))), (q102, .inl (cI, 301, .inl (fun _ => nI 0))), (q111, .inl (cI, 301, .inl (fun _ => nI 0)))] H := hP
  have hD : va_D A [(h0, .inr (5, [.int (nI 0), .int (nI 100), .int (nI 1000), .int (nI 0), .int (nI 0), .int (nI 0), .int (nI 0), .int (nI 0), .ref q20, .ref q28, .int (nI 0), .ref q36, .ref q44, .int (nI 0), .ref q52, .ref q60, .int (nI 0), .ref q68, .ref q76, .ref q84, .ref q93, .ref q102, .null, .null])), (q20, .inl (cI, 6, .inl (fun _ => nI 0))), (q28, .inl (cI, 6, .inl (fun _ => nI 0))), (q36, .inl (cI, 20, .inl (fun _ => nI 0))), (q44, .inl (cI, 20, .inl (fun _ => nI 0))), (q52, .inl (cI, 20, .inl (fun _ => nI 0))), (q60, .inl (cI, 20, .inl (fun _ => nI 0))), (q68, .inl (cI, 100, .inl (fun _ => nI 0))), (q76, .inl (cI, 100, .inl (fun _ => nI 0))), (q84, .inl (cI, 100, .inl (fun _ => nI 0))), (q93, .inl (cI, 301, .inl (fun _ => nI 0))), (q102, .inl (cI, 301, .inl (fun _ => nI 0))), (q111, .inl (cI, 301, .inl (fun _ => nI 0)))] := hD
  refine va_putF (D := (dC, dI)) (ci := 5) (v := .ref q111) (ty := (.array .int)) (C := "CutLengthsModel") (T := T_Model) (N := 24) hx hb hz i_Model t_Model t_Model_ok n_Model hown hK hP hD hS 0 rfl rfl 22 (by decide) (hz _ tw_503) (fun _ h9 => h9) rfl hin rfl (by decide +kernel) rfl rfl (Nat.le_of_ble_eq_true rfl) d_Model_init_113 (fun H locs hP hD hS => ?_)
  have hP : va_P (dC, dI) vwCl [(h0, .inr (5, [.int (nI 0), .int (nI 100), .int (nI 1000), .int (nI 0), .int (nI 0), .int (nI 0), .int (nI 0), .int (nI 0), .ref q20, .ref q28, .int (nI 0), .ref q36, .ref q44, .int (nI 0), .ref q52, .ref q60, .int (nI 0), .ref q68, .ref q76, .ref q84, .ref q93, .ref q102, .ref q111, .null])), (q20, .inl (cI, 6, .inl (fun _ => nI 0))), (q28, .inl (cI, 6, .inl (fun _ => nI 0))), (q36, .inl (cI, 20, .inl (fun _ => nI 0))), (q44, .inl (cI, 20, .inl (fun _ => nI 0))), (q52, .inl (cI, 20, .inl (fun _ => nI 0))), (q60, .inl (cI, 20, .inl (fun _ => nI 0))), (q68, .inl (cI, 100, .inl (fun _ => nI 0))), (q76, .inl (cI, 100, .inl (fun _ => nI 0))), (q84, .inl (cI, 100, .inl (fun _ => nI 0))), (q93, .inl (cI, 301, .inl (fun _ => nI 0))), (q102, .inl (cI, 301, .inl (fun _ => nI 0))), (q111, .inl (cI, 301, .inl (fun _ => nI 0)))] H := hP
  have hD : va_D A [(h0, .inr (5, [.int (nI 0), .int (nI 100), .int (nI 1000), .int (nI 0), .int (nI 0), .int (nI 0), .int (nI 0), .int (nI 0), .ref q20, .ref q28, .int (nI 0), .ref q36, .ref q44, .int (nI 0), .ref q52, .ref q60, .int (nI 0), .ref q68, .ref q76, .ref q84, .ref q93, .ref q102, .ref q111, .null])), (q20, .inl (cI, 6, .inl (fun _ => nI 0))), (q28, .inl (cI, 6, .inl (fun _ => nI 0))), (q36, .inl (cI, 20, .inl (fun _ => nI 0))), (q44, .inl (cI, 20, .inl (fun _ => nI 0))), (q52, .inl (cI, 20, .inl (fun _ => nI 0))), (q60, .inl (cI, 20, .inl (fun _ => nI 0))), (q68, .inl (cI, 100, .inl (fun _ => nI 0))), (q76, .inl (cI, 100, .inl (fun _ => nI 0))), (q84, .inl (cI, 100, .inl (fun _ => nI 0))), (q93, .inl (cI, 301, .inl (fun _ => nI 0))), (q102, .inl (cI, 301, .inl (fun _ => nI 0))), (q111, .inl (cI, 301, .inl (fun _ => nI 0)))] := hD
  refine lv_aload_n hx hb d_Model_init_116 rfl (lv_at hl 0 rfl) ?_
  refine lv_sipush (v := nI 302) hx hb d_Model_init_117 (by decide) ?_
  refine va_newa (N' := 302) (a0 := (302, .inl (fun _ => nI 0))) (atype := .int) hx hb (hz _ tw_99) (ty := .int) rfl hK hP hD hS hA (fun _ => rfl) (by decide) (by decide) (by decide) (Nat.le_of_ble_eq_true rfl) (Nat.le_of_ble_eq_true rfl) d_Model_init_120 (fun q120 cN H hK9 hP hD hS => ?_)
  obtain rfl : cI = cN := za_uni (hK9.2 0 _ rfl).2 (hK9.2 2 _ rfl).2
  have hP : va_P (dC, dI) vwCl [(h0, .inr (5, [.int (nI 0), .int (nI 100), .int (nI 1000), .int (nI 0), .int (nI 0), .int (nI 0), .int (nI 0), .int (nI 0), .ref q20, .ref q28, .int (nI 0), .ref q36, .ref q44, .int (nI 0), .ref q52, .ref q60, .int (nI 0), .ref q68, .ref q76, .ref q84, .ref q93, .ref q102, .ref q111, .null])), (q20, .inl (cI, 6, .inl (fun _ => nI 0))), (q28, .inl (cI, 6, .inl (fun _ => nI 0))), (q36, .inl (cI, 20, .inl (fun _ => nI 0))), (q44, .inl (cI, 20, .inl (fun _ => nI 0))), (q52, .inl (cI, 20, .inl (fun _ => nI 0))), (q60, .inl (cI, 20, .inl (fun _ => nI 0))), (q68, .inl (cI, 100, .inl (fun _ => nI 0))), (q76, .inl (cI, 100, .inl (fun _ => nI 0))), (q84, .inl (cI, 100, .inl (fun _ => nI 0))), (q93, .inl (cI, 301, .inl (fun _ => nI 0))), (q102, .inl (cI, 301, .inl (fun _ => nI 0))), (q111, .inl (cI, 301, .inl (fun _ => nI 0))), (q120, .inl (cI, 302, .inl (fun _ => nI 0)))] H := hP
  have hD : va_D A [(h0, .inr (5, [.int (nI 0), .int (nI 100), .int (nI 1000), .int (nI 0), .int (nI 0), .int (nI 0), .int (nI 0), .int (nI 0), .ref q20, .ref q28, .int (nI 0), .ref q36, .ref q44, .int (nI 0), .ref q52, .ref q60, .int (nI 0), .ref q68, .ref q76, .ref q84, .ref q93, .ref q102, .ref q111, .null])), (q20, .inl (cI, 6, .inl (fun _ => nI 0))), (q28, .inl (cI, 6, .inl (fun _ => nI 0))), (q36, .inl (cI, 20, .inl (fun _ => nI 0))), (q44, .inl (cI, 20, .inl (fun _ => nI 0))), (q52, .inl (cI, 20, .inl (fun _ => nI 0))), (q60, .inl (cI, 20, .inl (fun _ => nI 0))), (q68, .inl (cI, 100, .inl (fun _ => nI 0))), (q76, .inl (cI, 100, .inl (fun _ => nI 0))), (q84, .inl (cI, 100, .inl (fun _ => nI 0))), (q93, .inl (cI, 301, .inl (fun _ => nI 0))), (q102, .inl (cI, 301, .inl (fun _ => nI 0))), (q111, .inl (cI, 301, .inl (fun _ => nI 0))), (q120, .inl (cI, 302, .inl (fun _ => nI 0)))] := hD
  refine va_putF (D := (dC, dI)) (ci := 5) (v := .ref q120) (ty := (.array .int)) (C := "CutLengthsModel") (T := T_Model) (N := 24) hx hb hz i_Model t_Model t_Model_ok n_Model hown hK hP hD hS 0 rfl rfl 23 (by decide) (hz _ tw_504) (fun _ h9 => h9) rfl hin rfl (by decide +kernel) rfl rfl (Nat.le_of_ble_eq_true rfl) d_Model_init_122 (fun H locs hP hD hS => ?_)
  have hP : va_P (dC, dI) vwCl [(h0, .inr (5, [.int (nI 0), .int (nI 100), .int (nI 1000), .int (nI 0), .int (nI 0), .int (nI 0), .int (nI 0), .int (nI 0), .ref q20, .ref q28, .int (nI 0), .ref q36, .ref q44, .int (nI 0), .ref q52, .ref q60, .int (nI 0), .ref q68, .ref q76, .ref q84, .ref q93, .ref q102, .ref q111, .ref q120])), (q20, .inl (cI, 6, .inl (fun _ => nI 0))), (q28, .inl (cI, 6, .inl (fun _ => nI 0))), (q36, .inl (cI, 20, .inl (fun _ => nI 0))), (q44, .inl (cI, 20, .inl (fun _ => nI 0))), (q52, .inl (cI, 20, .inl (fun _ => nI 0))), (q60, .inl (cI, 20, .inl (fun _ => nI 0))), (q68, .inl (cI, 100, .inl (fun _ => nI 0))), (q76, .inl (cI, 100, .inl (fun _ => nI 0))), (q84, .inl (cI, 100, .inl (fun _ => nI 0))), (q93, .inl (cI, 301, .inl (fun _ => nI 0))), (q102, .inl (cI, 301, .inl (fun _ => nI 0))), (q111, .inl (cI, 301, .inl (fun _ => nI 0))), (q120, .inl (cI, 302, .inl (fun _ => nI 0)))] H := hP
  have hD : va_D A [(h0, .inr (5, [.int (nI 0), .int (nI 100), .int (nI 1000), .int (nI 0), .int (nI 0), .int (nI 0), .int (nI 0), .int (nI 0), .ref q20, .ref q28, .int (nI 0), .ref q36, .ref q44, .int (nI 0), .ref q52, .ref q60, .int (nI 0), .ref q68, .ref q76, .ref q84, .ref q93, .ref q102, .ref q111, .ref q120])), (q20, .inl (cI, 6, .inl (fun _ => nI 0))), (q28, .inl (cI, 6, .inl (fun _ => nI 0))), (q36, .inl (cI, 20, .inl (fun _ => nI 0))), (q44, .inl (cI, 20, .inl (fun _ => nI 0))), (q52, .inl (cI, 20, .inl (fun _ => nI 0))), (q60, .inl (cI, 20, .inl (fun _ => nI 0))), (q68, .inl (cI, 100, .inl (fun _ => nI 0))), (q76, .inl (cI, 100, .inl (fun _ => nI 0))), (q84, .inl (cI, 100, .inl (fun _ => nI 0))), (q93, .inl (cI, 301, .inl (fun _ => nI 0))), (q102, .inl (cI, 301, .inl (fun _ => nI 0))), (q111, .inl (cI, 301, .inl (fun _ => nI 0))), (q120, .inl (cI, 302, .inl (fun _ => nI 0)))] := hD
  refine W.widen (k := 13) (n := 1597) (Nat.le_of_ble_eq_true rfl) (Nat.le_of_ble_eq_true rfl) ?_
  exact W.vret hx hb hr (fun t9 ht hW => ⟨⟨(q20, q28, q36, q44, q52, q60, q68, q76, q84, q93, q102, q111, q120), rfl, trivial, by rw [ht]; exact hP, va_K.moved hW.alike hK, hD⟩, hS.F ht⟩) hS.2.2 d_Model_init_125
end
section
/-! THE REFERENCE: reading methods (rows written by wip/whole/mk_model.py) -/
theorem zz_bool {k : Nat} (h : k ≤ 1) : narrow .boolean (.int (nI k)) = .int (nI k) := by
  rcases (show k = 0 ∨ k = 1 by omega) with rfl | rfl <;> rfl
set_option maxHeartbeats 4000000 in
set_option maxRecDepth 100000 in
theorem c_Model_thrown (l : Launch) (dC : Nat → ClassId) (dI : Nat → Nat → Nat) (b : Nat → Nat) (cI : ClassId) (v : Nat → Nat) (f : Nat → Nat → Nat) (w : Nat → Nat → Int32)  : Met l y_Model_thrown (zw_Model_thrown :: zW) ({ frames := 0, cells := 0, slots := 0, locals := 0 }) (va_Pc [.ref (b 0)] (fun U => va_P (dC, dI) vwCl (wM b cI v f w) U.heap ∧ va_K (dC, dI) vwCl [(cI, .int)] U)) (zr (nI (v 0))) 0 0 (fun _ => False) := by
  refine Met.ofW (cc := prog_7_method_2_code) (maxL := 1) (ret := (some .int)) (by decide) rfl ?_
  intro p e s m args below meth c s₁ B hml hv
  obtain ⟨rfl, hP, hK⟩ := hv
  have hx := B.exec
  have hb := B.bytes
  have hr := B.returns
  have hz : ∀ w ∈ zW, w.before ([.ref (b 0)]).toArray s = true := fun w h => atoms_spec (ws := (zw_Model_thrown :: zW)) B.pre w (List.mem_cons_of_mem _ h)
  have hown : s.vm.findClass "CutLengthsModel" = some m.cls := findClass_of_methodNamed B.named
  have hlocks := B.notSynchronized
  have hl := lv_entry ([.ref (b 0)]) (n := 1) (Nat.le_of_ble_eq_true rfl)
  rw [lg_entry_eq]
  generalize (lg_sl ([.ref (b 0)]) ++ List.replicate (1 - (lg_sl ([.ref (b 0)])).length) Slot.unset).toArray = ls at hl ⊢
  have hl : lv_has ls 1 [(0, .ref (b 0))] := hl
  refine lv_aload_n hx hb d_Model_thrown_0 rfl (lv_at hl 0 rfl) ?_
  refine va_get (D := (dC, dI)) (ci := 5) (v := .int (nI (v 0))) (C := "CutLengthsModel") (T := T_Model) (N := 24) hx hb hz i_Model hown hK hP 0 rfl rfl 0 (by decide) (hz _ tw_481) (fun _ h9 => h9) rfl d_Model_thrown_1 ?_
  exact W.iret (v := nI (v 0)) hx hb hr (fun t9 ht hW => zz_r (rfl) ht) (fun q h => by cases h) d_Model_thrown_4
set_option maxHeartbeats 4000000 in
set_option maxRecDepth 100000 in
theorem c_Model_isGood (l : Launch) (dC : Nat → ClassId) (dI : Nat → Nat → Nat) (b : Nat → Nat) (cI : ClassId) (v : Nat → Nat) (f : Nat → Nat → Nat) (w : Nat → Nat → Int32) (j : Nat) (hj : j < 300) (hJ : zJ v f) : Met l y_Model_isGood (zw_Model_isGood :: zW) ({ frames := 1, cells := 0, slots := 0, locals := 22 }) (va_Pc [.ref (b 0), .int (nI (j))] (fun U => va_P (dC, dI) vwCl (wM b cI v f w) U.heap ∧ va_K (dC, dI) vwCl [(cI, .int)] U)) (zr (nI (zMG v f j))) 0 0 (fun _ => False) := by
  refine Met.ofW (cc := prog_7_method_14_code) (maxL := 4) (ret := (some .boolean)) (by decide) rfl ?_
  intro p e s m args below meth c s₁ B hml hv
  obtain ⟨rfl, hP, hK⟩ := hv
  have hx := B.exec
  have hb := B.bytes
  have hr := B.returns
  have hz : ∀ w ∈ zW, w.before ([.ref (b 0), .int (nI (j))]).toArray s = true := fun w h => atoms_spec (ws := (zw_Model_isGood :: zW)) B.pre w (List.mem_cons_of_mem _ h)
  have hown : s.vm.findClass "CutLengthsModel" = some m.cls := findClass_of_methodNamed B.named
  have hlocks := B.notSynchronized
  obtain ⟨j3, j4, j5, j6, j7, j8, j9, j10, j1, j2, jw, jb, jr, jsl⟩ := id hJ
  have hl := lv_entry ([.ref (b 0), .int (nI (j))]) (n := 4) (Nat.le_of_ble_eq_true rfl)
  rw [lg_entry_eq]
  generalize (lg_sl ([.ref (b 0), .int (nI (j))]) ++ List.replicate (4 - (lg_sl ([.ref (b 0), .int (nI (j))])).length) Slot.unset).toArray = ls at hl ⊢
  have hl : lv_has ls 4 [(0, .ref (b 0)), (1, .int (nI (j)))] := hl
  refine lv_iload_n hx hb d_Model_isGood_0 rfl (lv_at hl 1 rfl) ?_
  refine lv_aload_n hx hb d_Model_isGood_1 rfl (lv_at hl 0 rfl) ?_
  refine va_get (D := (dC, dI)) (ci := 5) (v := .int (nI (v 5))) (C := "CutLengthsModel") (T := T_Model) (N := 24) hx hb hz i_Model hown hK hP 0 rfl rfl 5 (by decide) (hz _ tw_486) (fun _ h9 => h9) rfl d_Model_isGood_2 ?_
  refine lv_icmp_lt (tgt := 25) hx hb d_Model_isGood_5 (by decide) (fun c_5 => ?_) (fun c_5 => ?_)
  · have c_5 : ((j : Nat) : Int) < ((v 5 : Nat) : Int) := (zz_lt (nI_toInt (by omega)) (nI_toInt (by omega))).mp c_5
    refine lv_iconst (v := nI (0)) hx hb d_Model_isGood_25 (by decide) ?_
    refine lv_istore_n (lv' := [(2, .int (nI (0))), (0, .ref (b 0)), (1, .int (nI (j)))]) hx hb d_Model_isGood_26 rfl hl (by decide) rfl (fun ls hl => ?_)
    refine lv_iconst (v := nI (0)) hx hb d_Model_isGood_27 (by decide) ?_
    refine lv_istore_n (lv' := [(3, .int (nI (0))), (2, .int (nI (0))), (0, .ref (b 0)), (1, .int (nI (j)))]) hx hb d_Model_isGood_28 rfl hl (by decide) rfl (fun ls hl => ?_)
    have loop : ∀ (n : Nat) (i : Nat), (i ≤ v 8) → (v 8 < i + n) → ∀ ls : Array Slot, lv_has ls 4 [(3, .int (nI (i))), (2, .int (nI (zgd (if v 5 ≤ j ∧ j + v 6 < v 3 then 1 else 0) (f 2) (f 3) j i))), (0, .ref (b 0)), (1, .int (nI (j)))] → W p l e (headSpec (zw_Model_isGood :: zW) ({ frames := 1, cells := 0, slots := 0, locals := 22 })).room s m ([.ref (b 0), .int (nI (j))]).toArray below meth c s.heap [] 0 0 (MQ below (zr (nI (zMG v f j))) ([.ref (b 0), .int (nI (j))]).toArray s 0 0 (fun _ => False)) (F0 m 29 ls []) := by
      intro n
      induction n with
      | zero =>
        intro i hi hn
        exact absurd hn (by omega)
      | succ n ih_loop =>
        intro i hi hn ls hl
        have hz9 := zgd_le (g0 := (if v 5 ≤ j ∧ j + v 6 < v 3 then 1 else 0)) (fr := f 2) (to := f 3) (p := j) (by split <;> omega) i
        refine lv_iload_n hx hb d_Model_isGood_29 rfl (lv_at hl 0 rfl) ?_
        refine lv_aload_n hx hb d_Model_isGood_30 rfl (lv_at hl 2 rfl) ?_
        refine va_get (D := (dC, dI)) (ci := 5) (v := .int (nI (v 8))) (C := "CutLengthsModel") (T := T_Model) (N := 24) hx hb hz i_Model hown hK hP 0 rfl rfl 10 (by decide) (hz _ tw_491) (fun _ h9 => h9) rfl d_Model_isGood_31 ?_
        refine lv_icmp_ge (tgt := 74) hx hb d_Model_isGood_34 (by decide) (fun c_34 => ?_) (fun c_34 => ?_)
        · have c_34 : ((v 8 : Nat) : Int) ≤ ((i : Nat) : Int) := (zz_le (nI_toInt (by omega)) (nI_toInt (by omega))).mp c_34
          refine lv_iload_n hx hb d_Model_isGood_74 rfl (lv_at hl 1 rfl) ?_
          exact W.zret (v := nI (zgd (if v 5 ≤ j ∧ j + v 6 < v 3 then 1 else 0) (f 2) (f 3) j i)) hx hb hr (zz_bool (by omega)) (fun t9 ht hW => zz_r (by rw [show i = v 8 from by omega]; rfl) ht) (fun q h => by cases h) d_Model_isGood_75
        · have c_34 : ¬ (((v 8 : Nat) : Int) ≤ ((i : Nat) : Int)) := fun q => c_34 ((zz_le (nI_toInt (by omega)) (nI_toInt (by omega))).mpr q)
          refine lv_iload_n hx hb d_Model_isGood_37 rfl (lv_at hl 1 rfl) ?_
          refine lv_if_eq (tgt := 66) hx hb d_Model_isGood_38 (by decide) (fun c_38 => ?_) (fun c_38 => ?_)
          · have c_38 : ((zgd (if v 5 ≤ j ∧ j + v 6 < v 3 then 1 else 0) (f 2) (f 3) j i : Nat) : Int) = (0 : Int) := (zz_eq (nI_toInt (by omega)) ((by decide))).mp c_38
            refine lv_iconst (v := nI (0)) hx hb d_Model_isGood_66 (by decide) ?_
            refine lv_istore_n (lv' := [(2, .int (nI (0))), (3, .int (nI (i))), (0, .ref (b 0)), (1, .int (nI (j)))]) hx hb d_Model_isGood_67 rfl hl (by decide) rfl (fun ls hl => ?_)
            refine lv_iinc (v := nI (i + 1)) (lv' := [(3, .int (nI (i + 1))), (2, .int (nI (0))), (0, .ref (b 0)), (1, .int (nI (j)))]) hx hb d_Model_isGood_68 hl (k := 1) rfl (zz_inc _) (by decide) rfl (fun ls hl => ?_)
            refine lv_goto (tgt := 29) hx hb d_Model_isGood_71 (by decide) ?_
            exact ih_loop (i + 1) (by omega) (by omega) ls (by rw [show zgd (if v 5 ≤ j ∧ j + v 6 < v 3 then 1 else 0) (f 2) (f 3) j (i + 1) = 0 from if_pos (by omega)]; exact lv_sub hl [0, 1, 2, 3] rfl)
          · have c_38 : ¬ (((zgd (if v 5 ≤ j ∧ j + v 6 < v 3 then 1 else 0) (f 2) (f 3) j i : Nat) : Int) = (0 : Int)) := fun q => c_38 ((zz_eq (nI_toInt (by omega)) ((by decide))).mpr q)
            have hb9 := jb i (by omega)
            refine lv_iload_n hx hb d_Model_isGood_41 rfl (lv_at hl 3 rfl) ?_
            refine lv_aload_n hx hb d_Model_isGood_42 rfl (lv_at hl 2 rfl) ?_
            refine va_get (D := (dC, dI)) (ci := 5) (v := .ref (b 3)) (C := "CutLengthsModel") (T := T_Model) (N := 24) hx hb hz i_Model hown hK hP 0 rfl rfl 11 (by decide) (hz _ tw_492) (fun _ h9 => h9) rfl d_Model_isGood_43 ?_
            refine lv_iload_n hx hb d_Model_isGood_46 rfl (lv_at hl 0 rfl) ?_
            refine zz_nald hx hb hK hP 3 0 (f := f 2) (i := i) rfl rfl (by omega) (by decide) d_Model_isGood_47 ?_
            refine lv_aload_n hx hb d_Model_isGood_48 rfl (lv_at hl 2 rfl) ?_
            refine va_get (D := (dC, dI)) (ci := 5) (v := .ref (b 4)) (C := "CutLengthsModel") (T := T_Model) (N := 24) hx hb hz i_Model hown hK hP 0 rfl rfl 12 (by decide) (hz _ tw_493) (fun _ h9 => h9) rfl d_Model_isGood_49 ?_
            refine lv_iload_n hx hb d_Model_isGood_52 rfl (lv_at hl 0 rfl) ?_
            refine zz_nald hx hb hK hP 4 0 (f := f 3) (i := i) rfl rfl (by omega) (by decide) d_Model_isGood_53 ?_
            refine lv_iconst (v := nI (1)) hx hb d_Model_isGood_54 (by decide) ?_
            refine lv_isub hx hb d_Model_isGood_55 ?_
            refine zz_ro (va_runS (As := [.int (nI (j)), .int (nI (f 2 i)), .int (nI (f 3 i) - nI (1))]) (rest := []) ⟨hx, hb, hml, hown, hz⟩ (c_Model_in l (nI (j)) (nI (f 2 i)) (nI (f 3 i) - nI (1)) (((j : Nat) : Int)) (((f 2 i : Nat) : Int)) (((f 3 i : Nat) : Int) - ((1 : Nat) : Int)) (nI_toInt (by omega)) (nI_toInt (by omega)) (pk_sub_toInt (by omega) (by omega))) (va_cwS 3 hz (zgS tw_563 tw_564 tw_20 tw_565) rfl rfl rfl (by decide +kernel) ⟨Nat.le_of_ble_eq_true rfl, Nat.le_of_ble_eq_true rfl⟩) ⟨fun _ _ _ _ q => q, fun U hU hW => ⟨rfl, trivial⟩⟩ rfl rfl hl.1 rfl (lv_room (Nat.le_of_ble_eq_true rfl)) d_Model_isGood_56 ⟨Nat.zero_le _, Nat.zero_le _⟩) ?_
            by_cases q_56 : (((f 2 i : Nat) : Int)) ≤ (((j : Nat) : Int)) ∧ (((j : Nat) : Int)) ≤ (((f 3 i : Nat) : Int) - ((1 : Nat) : Int))
            · refine zz_top (congrArg nI (if_pos q_56)) ?_
              refine lv_if_ne (tgt := 66) hx hb d_Model_isGood_59 (by decide) (fun _ => ?_) (fun c9 => absurd c9 (by decide))
              refine lv_iconst (v := nI (0)) hx hb d_Model_isGood_66 (by decide) ?_
              refine lv_istore_n (lv' := [(2, .int (nI (0))), (3, .int (nI (i))), (0, .ref (b 0)), (1, .int (nI (j)))]) hx hb d_Model_isGood_67 rfl hl (by decide) rfl (fun ls hl => ?_)
              refine lv_iinc (v := nI (i + 1)) (lv' := [(3, .int (nI (i + 1))), (2, .int (nI (0))), (0, .ref (b 0)), (1, .int (nI (j)))]) hx hb d_Model_isGood_68 hl (k := 1) rfl (zz_inc _) (by decide) rfl (fun ls hl => ?_)
              refine lv_goto (tgt := 29) hx hb d_Model_isGood_71 (by decide) ?_
              exact ih_loop (i + 1) (by omega) (by omega) ls (by rw [show zgd (if v 5 ≤ j ∧ j + v 6 < v 3 then 1 else 0) (f 2) (f 3) j (i + 1) = 0 from if_pos (by omega)]; exact lv_sub hl [0, 1, 2, 3] rfl)
            · refine zz_top (congrArg nI (if_neg q_56)) ?_
              refine lv_if_ne (tgt := 66) hx hb d_Model_isGood_59 (by decide) (fun c9 => absurd c9 (by decide)) (fun _ => ?_)
              refine lv_iconst (v := nI (1)) hx hb d_Model_isGood_62 (by decide) ?_
              refine lv_goto (tgt := 67) hx hb d_Model_isGood_63 (by decide) ?_
              refine lv_istore_n (lv' := [(2, .int (nI (1))), (3, .int (nI (i))), (0, .ref (b 0)), (1, .int (nI (j)))]) hx hb d_Model_isGood_67 rfl hl (by decide) rfl (fun ls hl => ?_)
              refine lv_iinc (v := nI (i + 1)) (lv' := [(3, .int (nI (i + 1))), (2, .int (nI (1))), (0, .ref (b 0)), (1, .int (nI (j)))]) hx hb d_Model_isGood_68 hl (k := 1) rfl (zz_inc _) (by decide) rfl (fun ls hl => ?_)
              refine lv_goto (tgt := 29) hx hb d_Model_isGood_71 (by decide) ?_
              exact ih_loop (i + 1) (by omega) (by omega) ls (by rw [show zgd (if v 5 ≤ j ∧ j + v 6 < v 3 then 1 else 0) (f 2) (f 3) j (i + 1) = 1 from if_neg (by omega)]; exact lv_sub hl [0, 1, 2, 3] rfl)
    exact loop (v 8 + 1) 0 (Nat.zero_le _) (by omega) ls (by rw [show zgd (if v 5 ≤ j ∧ j + v 6 < v 3 then 1 else 0) (f 2) (f 3) j 0 = 0 from if_neg (by omega)]; exact lv_sub hl [0, 1, 2, 3] rfl)
  · have c_5 : ¬ (((j : Nat) : Int) < ((v 5 : Nat) : Int)) := fun q => c_5 ((zz_lt (nI_toInt (by omega)) (nI_toInt (by omega))).mpr q)
    refine lv_iload_n hx hb d_Model_isGood_8 rfl (lv_at hl 1 rfl) ?_
    refine lv_aload_n hx hb d_Model_isGood_9 rfl (lv_at hl 0 rfl) ?_
    refine va_get (D := (dC, dI)) (ci := 5) (v := .int (nI (v 3))) (C := "CutLengthsModel") (T := T_Model) (N := 24) hx hb hz i_Model hown hK hP 0 rfl rfl 3 (by decide) (hz _ tw_484) (fun _ h9 => h9) rfl d_Model_isGood_10 ?_
    refine lv_aload_n hx hb d_Model_isGood_13 rfl (lv_at hl 0 rfl) ?_
    refine va_get (D := (dC, dI)) (ci := 5) (v := .int (nI (v 6))) (C := "CutLengthsModel") (T := T_Model) (N := 24) hx hb hz i_Model hown hK hP 0 rfl rfl 6 (by decide) (hz _ tw_487) (fun _ h9 => h9) rfl d_Model_isGood_14 ?_
    refine lv_isub hx hb d_Model_isGood_17 ?_
    refine lv_icmp_ge (tgt := 25) hx hb d_Model_isGood_18 (by decide) (fun c_18 => ?_) (fun c_18 => ?_)
    · have c_18 : ((v 3 : Nat) : Int) - ((v 6 : Nat) : Int) ≤ ((j : Nat) : Int) := (zz_le (pk_sub_toInt (by omega) (by omega)) (nI_toInt (by omega))).mp c_18
      refine lv_iconst (v := nI (0)) hx hb d_Model_isGood_25 (by decide) ?_
      refine lv_istore_n (lv' := [(2, .int (nI (0))), (0, .ref (b 0)), (1, .int (nI (j)))]) hx hb d_Model_isGood_26 rfl hl (by decide) rfl (fun ls hl => ?_)
      refine lv_iconst (v := nI (0)) hx hb d_Model_isGood_27 (by decide) ?_
      refine lv_istore_n (lv' := [(3, .int (nI (0))), (2, .int (nI (0))), (0, .ref (b 0)), (1, .int (nI (j)))]) hx hb d_Model_isGood_28 rfl hl (by decide) rfl (fun ls hl => ?_)
      have loop : ∀ (n : Nat) (i : Nat), (i ≤ v 8) → (v 8 < i + n) → ∀ ls : Array Slot, lv_has ls 4 [(3, .int (nI (i))), (2, .int (nI (zgd (if v 5 ≤ j ∧ j + v 6 < v 3 then 1 else 0) (f 2) (f 3) j i))), (0, .ref (b 0)), (1, .int (nI (j)))] → W p l e (headSpec (zw_Model_isGood :: zW) ({ frames := 1, cells := 0, slots := 0, locals := 22 })).room s m ([.ref (b 0), .int (nI (j))]).toArray below meth c s.heap [] 0 0 (MQ below (zr (nI (zMG v f j))) ([.ref (b 0), .int (nI (j))]).toArray s 0 0 (fun _ => False)) (F0 m 29 ls []) := by
        intro n
        induction n with
        | zero =>
          intro i hi hn
          exact absurd hn (by omega)
        | succ n ih_loop =>
          intro i hi hn ls hl
          have hz9 := zgd_le (g0 := (if v 5 ≤ j ∧ j + v 6 < v 3 then 1 else 0)) (fr := f 2) (to := f 3) (p := j) (by split <;> omega) i
          refine lv_iload_n hx hb d_Model_isGood_29 rfl (lv_at hl 0 rfl) ?_
          refine lv_aload_n hx hb d_Model_isGood_30 rfl (lv_at hl 2 rfl) ?_
          refine va_get (D := (dC, dI)) (ci := 5) (v := .int (nI (v 8))) (C := "CutLengthsModel") (T := T_Model) (N := 24) hx hb hz i_Model hown hK hP 0 rfl rfl 10 (by decide) (hz _ tw_491) (fun _ h9 => h9) rfl d_Model_isGood_31 ?_
          refine lv_icmp_ge (tgt := 74) hx hb d_Model_isGood_34 (by decide) (fun c_34 => ?_) (fun c_34 => ?_)
          · have c_34 : ((v 8 : Nat) : Int) ≤ ((i : Nat) : Int) := (zz_le (nI_toInt (by omega)) (nI_toInt (by omega))).mp c_34
            refine lv_iload_n hx hb d_Model_isGood_74 rfl (lv_at hl 1 rfl) ?_
            exact W.zret (v := nI (zgd (if v 5 ≤ j ∧ j + v 6 < v 3 then 1 else 0) (f 2) (f 3) j i)) hx hb hr (zz_bool (by omega)) (fun t9 ht hW => zz_r (by rw [show i = v 8 from by omega]; rfl) ht) (fun q h => by cases h) d_Model_isGood_75
          · have c_34 : ¬ (((v 8 : Nat) : Int) ≤ ((i : Nat) : Int)) := fun q => c_34 ((zz_le (nI_toInt (by omega)) (nI_toInt (by omega))).mpr q)
            refine lv_iload_n hx hb d_Model_isGood_37 rfl (lv_at hl 1 rfl) ?_
            refine lv_if_eq (tgt := 66) hx hb d_Model_isGood_38 (by decide) (fun c_38 => ?_) (fun c_38 => ?_)
            · have c_38 : ((zgd (if v 5 ≤ j ∧ j + v 6 < v 3 then 1 else 0) (f 2) (f 3) j i : Nat) : Int) = (0 : Int) := (zz_eq (nI_toInt (by omega)) ((by decide))).mp c_38
              refine lv_iconst (v := nI (0)) hx hb d_Model_isGood_66 (by decide) ?_
              refine lv_istore_n (lv' := [(2, .int (nI (0))), (3, .int (nI (i))), (0, .ref (b 0)), (1, .int (nI (j)))]) hx hb d_Model_isGood_67 rfl hl (by decide) rfl (fun ls hl => ?_)
              refine lv_iinc (v := nI (i + 1)) (lv' := [(3, .int (nI (i + 1))), (2, .int (nI (0))), (0, .ref (b 0)), (1, .int (nI (j)))]) hx hb d_Model_isGood_68 hl (k := 1) rfl (zz_inc _) (by decide) rfl (fun ls hl => ?_)
              refine lv_goto (tgt := 29) hx hb d_Model_isGood_71 (by decide) ?_
              exact ih_loop (i + 1) (by omega) (by omega) ls (by rw [show zgd (if v 5 ≤ j ∧ j + v 6 < v 3 then 1 else 0) (f 2) (f 3) j (i + 1) = 0 from if_pos (by omega)]; exact lv_sub hl [0, 1, 2, 3] rfl)
            · have c_38 : ¬ (((zgd (if v 5 ≤ j ∧ j + v 6 < v 3 then 1 else 0) (f 2) (f 3) j i : Nat) : Int) = (0 : Int)) := fun q => c_38 ((zz_eq (nI_toInt (by omega)) ((by decide))).mpr q)
              have hb9 := jb i (by omega)
              refine lv_iload_n hx hb d_Model_isGood_41 rfl (lv_at hl 3 rfl) ?_
              refine lv_aload_n hx hb d_Model_isGood_42 rfl (lv_at hl 2 rfl) ?_
              refine va_get (D := (dC, dI)) (ci := 5) (v := .ref (b 3)) (C := "CutLengthsModel") (T := T_Model) (N := 24) hx hb hz i_Model hown hK hP 0 rfl rfl 11 (by decide) (hz _ tw_492) (fun _ h9 => h9) rfl d_Model_isGood_43 ?_
              refine lv_iload_n hx hb d_Model_isGood_46 rfl (lv_at hl 0 rfl) ?_
              refine zz_nald hx hb hK hP 3 0 (f := f 2) (i := i) rfl rfl (by omega) (by decide) d_Model_isGood_47 ?_
              refine lv_aload_n hx hb d_Model_isGood_48 rfl (lv_at hl 2 rfl) ?_
              refine va_get (D := (dC, dI)) (ci := 5) (v := .ref (b 4)) (C := "CutLengthsModel") (T := T_Model) (N := 24) hx hb hz i_Model hown hK hP 0 rfl rfl 12 (by decide) (hz _ tw_493) (fun _ h9 => h9) rfl d_Model_isGood_49 ?_
              refine lv_iload_n hx hb d_Model_isGood_52 rfl (lv_at hl 0 rfl) ?_
              refine zz_nald hx hb hK hP 4 0 (f := f 3) (i := i) rfl rfl (by omega) (by decide) d_Model_isGood_53 ?_
              refine lv_iconst (v := nI (1)) hx hb d_Model_isGood_54 (by decide) ?_
              refine lv_isub hx hb d_Model_isGood_55 ?_
              refine zz_ro (va_runS (As := [.int (nI (j)), .int (nI (f 2 i)), .int (nI (f 3 i) - nI (1))]) (rest := []) ⟨hx, hb, hml, hown, hz⟩ (c_Model_in l (nI (j)) (nI (f 2 i)) (nI (f 3 i) - nI (1)) (((j : Nat) : Int)) (((f 2 i : Nat) : Int)) (((f 3 i : Nat) : Int) - ((1 : Nat) : Int)) (nI_toInt (by omega)) (nI_toInt (by omega)) (pk_sub_toInt (by omega) (by omega))) (va_cwS 3 hz (zgS tw_563 tw_564 tw_20 tw_565) rfl rfl rfl (by decide +kernel) ⟨Nat.le_of_ble_eq_true rfl, Nat.le_of_ble_eq_true rfl⟩) ⟨fun _ _ _ _ q => q, fun U hU hW => ⟨rfl, trivial⟩⟩ rfl rfl hl.1 rfl (lv_room (Nat.le_of_ble_eq_true rfl)) d_Model_isGood_56 ⟨Nat.zero_le _, Nat.zero_le _⟩) ?_
              by_cases q_56 : (((f 2 i : Nat) : Int)) ≤ (((j : Nat) : Int)) ∧ (((j : Nat) : Int)) ≤ (((f 3 i : Nat) : Int) - ((1 : Nat) : Int))
              · refine zz_top (congrArg nI (if_pos q_56)) ?_
                refine lv_if_ne (tgt := 66) hx hb d_Model_isGood_59 (by decide) (fun _ => ?_) (fun c9 => absurd c9 (by decide))
                refine lv_iconst (v := nI (0)) hx hb d_Model_isGood_66 (by decide) ?_
                refine lv_istore_n (lv' := [(2, .int (nI (0))), (3, .int (nI (i))), (0, .ref (b 0)), (1, .int (nI (j)))]) hx hb d_Model_isGood_67 rfl hl (by decide) rfl (fun ls hl => ?_)
                refine lv_iinc (v := nI (i + 1)) (lv' := [(3, .int (nI (i + 1))), (2, .int (nI (0))), (0, .ref (b 0)), (1, .int (nI (j)))]) hx hb d_Model_isGood_68 hl (k := 1) rfl (zz_inc _) (by decide) rfl (fun ls hl => ?_)
                refine lv_goto (tgt := 29) hx hb d_Model_isGood_71 (by decide) ?_
                exact ih_loop (i + 1) (by omega) (by omega) ls (by rw [show zgd (if v 5 ≤ j ∧ j + v 6 < v 3 then 1 else 0) (f 2) (f 3) j (i + 1) = 0 from if_pos (by omega)]; exact lv_sub hl [0, 1, 2, 3] rfl)
              · refine zz_top (congrArg nI (if_neg q_56)) ?_
                refine lv_if_ne (tgt := 66) hx hb d_Model_isGood_59 (by decide) (fun c9 => absurd c9 (by decide)) (fun _ => ?_)
                refine lv_iconst (v := nI (1)) hx hb d_Model_isGood_62 (by decide) ?_
                refine lv_goto (tgt := 67) hx hb d_Model_isGood_63 (by decide) ?_
                refine lv_istore_n (lv' := [(2, .int (nI (1))), (3, .int (nI (i))), (0, .ref (b 0)), (1, .int (nI (j)))]) hx hb d_Model_isGood_67 rfl hl (by decide) rfl (fun ls hl => ?_)
                refine lv_iinc (v := nI (i + 1)) (lv' := [(3, .int (nI (i + 1))), (2, .int (nI (1))), (0, .ref (b 0)), (1, .int (nI (j)))]) hx hb d_Model_isGood_68 hl (k := 1) rfl (zz_inc _) (by decide) rfl (fun ls hl => ?_)
                refine lv_goto (tgt := 29) hx hb d_Model_isGood_71 (by decide) ?_
                exact ih_loop (i + 1) (by omega) (by omega) ls (by rw [show zgd (if v 5 ≤ j ∧ j + v 6 < v 3 then 1 else 0) (f 2) (f 3) j (i + 1) = 1 from if_neg (by omega)]; exact lv_sub hl [0, 1, 2, 3] rfl)
      exact loop (v 8 + 1) 0 (Nat.zero_le _) (by omega) ls (by rw [show zgd (if v 5 ≤ j ∧ j + v 6 < v 3 then 1 else 0) (f 2) (f 3) j 0 = 0 from if_neg (by omega)]; exact lv_sub hl [0, 1, 2, 3] rfl)
    · have c_18 : ¬ (((v 3 : Nat) : Int) - ((v 6 : Nat) : Int) ≤ ((j : Nat) : Int)) := fun q => c_18 ((zz_le (pk_sub_toInt (by omega) (by omega)) (nI_toInt (by omega))).mpr q)
      refine lv_iconst (v := nI (1)) hx hb d_Model_isGood_21 (by decide) ?_
      refine lv_goto (tgt := 26) hx hb d_Model_isGood_22 (by decide) ?_
      refine lv_istore_n (lv' := [(2, .int (nI (1))), (0, .ref (b 0)), (1, .int (nI (j)))]) hx hb d_Model_isGood_26 rfl hl (by decide) rfl (fun ls hl => ?_)
      refine lv_iconst (v := nI (0)) hx hb d_Model_isGood_27 (by decide) ?_
      refine lv_istore_n (lv' := [(3, .int (nI (0))), (2, .int (nI (1))), (0, .ref (b 0)), (1, .int (nI (j)))]) hx hb d_Model_isGood_28 rfl hl (by decide) rfl (fun ls hl => ?_)
      have loop : ∀ (n : Nat) (i : Nat), (i ≤ v 8) → (v 8 < i + n) → ∀ ls : Array Slot, lv_has ls 4 [(3, .int (nI (i))), (2, .int (nI (zgd (if v 5 ≤ j ∧ j + v 6 < v 3 then 1 else 0) (f 2) (f 3) j i))), (0, .ref (b 0)), (1, .int (nI (j)))] → W p l e (headSpec (zw_Model_isGood :: zW) ({ frames := 1, cells := 0, slots := 0, locals := 22 })).room s m ([.ref (b 0), .int (nI (j))]).toArray below meth c s.heap [] 0 0 (MQ below (zr (nI (zMG v f j))) ([.ref (b 0), .int (nI (j))]).toArray s 0 0 (fun _ => False)) (F0 m 29 ls []) := by
        intro n
        induction n with
        | zero =>
          intro i hi hn
          exact absurd hn (by omega)
        | succ n ih_loop =>
          intro i hi hn ls hl
          have hz9 := zgd_le (g0 := (if v 5 ≤ j ∧ j + v 6 < v 3 then 1 else 0)) (fr := f 2) (to := f 3) (p := j) (by split <;> omega) i
          refine lv_iload_n hx hb d_Model_isGood_29 rfl (lv_at hl 0 rfl) ?_
          refine lv_aload_n hx hb d_Model_isGood_30 rfl (lv_at hl 2 rfl) ?_
          refine va_get (D := (dC, dI)) (ci := 5) (v := .int (nI (v 8))) (C := "CutLengthsModel") (T := T_Model) (N := 24) hx hb hz i_Model hown hK hP 0 rfl rfl 10 (by decide) (hz _ tw_491) (fun _ h9 => h9) rfl d_Model_isGood_31 ?_
          refine lv_icmp_ge (tgt := 74) hx hb d_Model_isGood_34 (by decide) (fun c_34 => ?_) (fun c_34 => ?_)
          · have c_34 : ((v 8 : Nat) : Int) ≤ ((i : Nat) : Int) := (zz_le (nI_toInt (by omega)) (nI_toInt (by omega))).mp c_34
            refine lv_iload_n hx hb d_Model_isGood_74 rfl (lv_at hl 1 rfl) ?_
            exact W.zret (v := nI (zgd (if v 5 ≤ j ∧ j + v 6 < v 3 then 1 else 0) (f 2) (f 3) j i)) hx hb hr (zz_bool (by omega)) (fun t9 ht hW => zz_r (by rw [show i = v 8 from by omega]; rfl) ht) (fun q h => by cases h) d_Model_isGood_75
          · have c_34 : ¬ (((v 8 : Nat) : Int) ≤ ((i : Nat) : Int)) := fun q => c_34 ((zz_le (nI_toInt (by omega)) (nI_toInt (by omega))).mpr q)
            refine lv_iload_n hx hb d_Model_isGood_37 rfl (lv_at hl 1 rfl) ?_
            refine lv_if_eq (tgt := 66) hx hb d_Model_isGood_38 (by decide) (fun c_38 => ?_) (fun c_38 => ?_)
            · have c_38 : ((zgd (if v 5 ≤ j ∧ j + v 6 < v 3 then 1 else 0) (f 2) (f 3) j i : Nat) : Int) = (0 : Int) := (zz_eq (nI_toInt (by omega)) ((by decide))).mp c_38
              refine lv_iconst (v := nI (0)) hx hb d_Model_isGood_66 (by decide) ?_
              refine lv_istore_n (lv' := [(2, .int (nI (0))), (3, .int (nI (i))), (0, .ref (b 0)), (1, .int (nI (j)))]) hx hb d_Model_isGood_67 rfl hl (by decide) rfl (fun ls hl => ?_)
              refine lv_iinc (v := nI (i + 1)) (lv' := [(3, .int (nI (i + 1))), (2, .int (nI (0))), (0, .ref (b 0)), (1, .int (nI (j)))]) hx hb d_Model_isGood_68 hl (k := 1) rfl (zz_inc _) (by decide) rfl (fun ls hl => ?_)
              refine lv_goto (tgt := 29) hx hb d_Model_isGood_71 (by decide) ?_
              exact ih_loop (i + 1) (by omega) (by omega) ls (by rw [show zgd (if v 5 ≤ j ∧ j + v 6 < v 3 then 1 else 0) (f 2) (f 3) j (i + 1) = 0 from if_pos (by omega)]; exact lv_sub hl [0, 1, 2, 3] rfl)
            · have c_38 : ¬ (((zgd (if v 5 ≤ j ∧ j + v 6 < v 3 then 1 else 0) (f 2) (f 3) j i : Nat) : Int) = (0 : Int)) := fun q => c_38 ((zz_eq (nI_toInt (by omega)) ((by decide))).mpr q)
              have hb9 := jb i (by omega)
              refine lv_iload_n hx hb d_Model_isGood_41 rfl (lv_at hl 3 rfl) ?_
              refine lv_aload_n hx hb d_Model_isGood_42 rfl (lv_at hl 2 rfl) ?_
              refine va_get (D := (dC, dI)) (ci := 5) (v := .ref (b 3)) (C := "CutLengthsModel") (T := T_Model) (N := 24) hx hb hz i_Model hown hK hP 0 rfl rfl 11 (by decide) (hz _ tw_492) (fun _ h9 => h9) rfl d_Model_isGood_43 ?_
              refine lv_iload_n hx hb d_Model_isGood_46 rfl (lv_at hl 0 rfl) ?_
              refine zz_nald hx hb hK hP 3 0 (f := f 2) (i := i) rfl rfl (by omega) (by decide) d_Model_isGood_47 ?_
              refine lv_aload_n hx hb d_Model_isGood_48 rfl (lv_at hl 2 rfl) ?_
              refine va_get (D := (dC, dI)) (ci := 5) (v := .ref (b 4)) (C := "CutLengthsModel") (T := T_Model) (N := 24) hx hb hz i_Model hown hK hP 0 rfl rfl 12 (by decide) (hz _ tw_493) (fun _ h9 => h9) rfl d_Model_isGood_49 ?_
              refine lv_iload_n hx hb d_Model_isGood_52 rfl (lv_at hl 0 rfl) ?_
              refine zz_nald hx hb hK hP 4 0 (f := f 3) (i := i) rfl rfl (by omega) (by decide) d_Model_isGood_53 ?_
              refine lv_iconst (v := nI (1)) hx hb d_Model_isGood_54 (by decide) ?_
              refine lv_isub hx hb d_Model_isGood_55 ?_
              refine zz_ro (va_runS (As := [.int (nI (j)), .int (nI (f 2 i)), .int (nI (f 3 i) - nI (1))]) (rest := []) ⟨hx, hb, hml, hown, hz⟩ (c_Model_in l (nI (j)) (nI (f 2 i)) (nI (f 3 i) - nI (1)) (((j : Nat) : Int)) (((f 2 i : Nat) : Int)) (((f 3 i : Nat) : Int) - ((1 : Nat) : Int)) (nI_toInt (by omega)) (nI_toInt (by omega)) (pk_sub_toInt (by omega) (by omega))) (va_cwS 3 hz (zgS tw_563 tw_564 tw_20 tw_565) rfl rfl rfl (by decide +kernel) ⟨Nat.le_of_ble_eq_true rfl, Nat.le_of_ble_eq_true rfl⟩) ⟨fun _ _ _ _ q => q, fun U hU hW => ⟨rfl, trivial⟩⟩ rfl rfl hl.1 rfl (lv_room (Nat.le_of_ble_eq_true rfl)) d_Model_isGood_56 ⟨Nat.zero_le _, Nat.zero_le _⟩) ?_
              by_cases q_56 : (((f 2 i : Nat) : Int)) ≤ (((j : Nat) : Int)) ∧ (((j : Nat) : Int)) ≤ (((f 3 i : Nat) : Int) - ((1 : Nat) : Int))
              · refine zz_top (congrArg nI (if_pos q_56)) ?_
                refine lv_if_ne (tgt := 66) hx hb d_Model_isGood_59 (by decide) (fun _ => ?_) (fun c9 => absurd c9 (by decide))
                refine lv_iconst (v := nI (0)) hx hb d_Model_isGood_66 (by decide) ?_
                refine lv_istore_n (lv' := [(2, .int (nI (0))), (3, .int (nI (i))), (0, .ref (b 0)), (1, .int (nI (j)))]) hx hb d_Model_isGood_67 rfl hl (by decide) rfl (fun ls hl => ?_)
                refine lv_iinc (v := nI (i + 1)) (lv' := [(3, .int (nI (i + 1))), (2, .int (nI (0))), (0, .ref (b 0)), (1, .int (nI (j)))]) hx hb d_Model_isGood_68 hl (k := 1) rfl (zz_inc _) (by decide) rfl (fun ls hl => ?_)
                refine lv_goto (tgt := 29) hx hb d_Model_isGood_71 (by decide) ?_
                exact ih_loop (i + 1) (by omega) (by omega) ls (by rw [show zgd (if v 5 ≤ j ∧ j + v 6 < v 3 then 1 else 0) (f 2) (f 3) j (i + 1) = 0 from if_pos (by omega)]; exact lv_sub hl [0, 1, 2, 3] rfl)
              · refine zz_top (congrArg nI (if_neg q_56)) ?_
                refine lv_if_ne (tgt := 66) hx hb d_Model_isGood_59 (by decide) (fun c9 => absurd c9 (by decide)) (fun _ => ?_)
                refine lv_iconst (v := nI (1)) hx hb d_Model_isGood_62 (by decide) ?_
                refine lv_goto (tgt := 67) hx hb d_Model_isGood_63 (by decide) ?_
                refine lv_istore_n (lv' := [(2, .int (nI (1))), (3, .int (nI (i))), (0, .ref (b 0)), (1, .int (nI (j)))]) hx hb d_Model_isGood_67 rfl hl (by decide) rfl (fun ls hl => ?_)
                refine lv_iinc (v := nI (i + 1)) (lv' := [(3, .int (nI (i + 1))), (2, .int (nI (1))), (0, .ref (b 0)), (1, .int (nI (j)))]) hx hb d_Model_isGood_68 hl (k := 1) rfl (zz_inc _) (by decide) rfl (fun ls hl => ?_)
                refine lv_goto (tgt := 29) hx hb d_Model_isGood_71 (by decide) ?_
                exact ih_loop (i + 1) (by omega) (by omega) ls (by rw [show zgd (if v 5 ≤ j ∧ j + v 6 < v 3 then 1 else 0) (f 2) (f 3) j (i + 1) = 1 from if_neg (by omega)]; exact lv_sub hl [0, 1, 2, 3] rfl)
      exact loop (v 8 + 1) 0 (Nat.zero_le _) (by omega) ls (by rw [show zgd (if v 5 ≤ j ∧ j + v 6 < v 3 then 1 else 0) (f 2) (f 3) j 0 = 1 from if_pos (by omega)]; exact lv_sub hl [0, 1, 2, 3] rfl)
set_option maxHeartbeats 4000000 in
set_option maxRecDepth 100000 in
theorem c_Model_isBarred (l : Launch) (dC : Nat → ClassId) (dI : Nat → Nat → Nat) (b : Nat → Nat) (cI : ClassId) (v : Nat → Nat) (f : Nat → Nat → Nat) (w : Nat → Nat → Int32) (j : Nat) (hj : j < 301) (hJ : zJ v f) : Met l y_Model_isBarred (zw_Model_isBarred :: zW) ({ frames := 1, cells := 0, slots := 0, locals := 22 }) (va_Pc [.ref (b 0), .int (nI (j))] (fun U => va_P (dC, dI) vwCl (wM b cI v f w) U.heap ∧ va_K (dC, dI) vwCl [(cI, .int)] U)) (zr (nI (zMB v f j))) 0 0 (fun _ => False) := by
  refine Met.ofW (cc := prog_7_method_15_code) (maxL := 4) (ret := (some .boolean)) (by decide) rfl ?_
  intro p e s m args below meth c s₁ B hml hv
  obtain ⟨rfl, hP, hK⟩ := hv
  have hx := B.exec
  have hb := B.bytes
  have hr := B.returns
  have hz : ∀ w ∈ zW, w.before ([.ref (b 0), .int (nI (j))]).toArray s = true := fun w h => atoms_spec (ws := (zw_Model_isBarred :: zW)) B.pre w (List.mem_cons_of_mem _ h)
  have hown : s.vm.findClass "CutLengthsModel" = some m.cls := findClass_of_methodNamed B.named
  have hlocks := B.notSynchronized
  obtain ⟨j3, j4, j5, j6, j7, j8, j9, j10, j1, j2, jw, jb, jr, jsl⟩ := id hJ
  have hl := lv_entry ([.ref (b 0), .int (nI (j))]) (n := 4) (Nat.le_of_ble_eq_true rfl)
  rw [lg_entry_eq]
  generalize (lg_sl ([.ref (b 0), .int (nI (j))]) ++ List.replicate (4 - (lg_sl ([.ref (b 0), .int (nI (j))])).length) Slot.unset).toArray = ls at hl ⊢
  have hl : lv_has ls 4 [(0, .ref (b 0)), (1, .int (nI (j)))] := hl
  refine lv_iconst (v := nI (0)) hx hb d_Model_isBarred_0 (by decide) ?_
  refine lv_istore_n (lv' := [(2, .int (nI (0))), (0, .ref (b 0)), (1, .int (nI (j)))]) hx hb d_Model_isBarred_1 rfl hl (by decide) rfl (fun ls hl => ?_)
  refine lv_iconst (v := nI (0)) hx hb d_Model_isBarred_2 (by decide) ?_
  refine lv_istore_n (lv' := [(3, .int (nI (0))), (2, .int (nI (0))), (0, .ref (b 0)), (1, .int (nI (j)))]) hx hb d_Model_isBarred_3 rfl hl (by decide) rfl (fun ls hl => ?_)
  have loop : ∀ (n : Nat) (i : Nat), (i ≤ v 9) → (v 9 < i + n) → ∀ ls : Array Slot, lv_has ls 4 [(3, .int (nI (i))), (2, .int (nI (zbar (f 4) (f 5) j i))), (0, .ref (b 0)), (1, .int (nI (j)))] → W p l e (headSpec (zw_Model_isBarred :: zW) ({ frames := 1, cells := 0, slots := 0, locals := 22 })).room s m ([.ref (b 0), .int (nI (j))]).toArray below meth c s.heap [] 0 0 (MQ below (zr (nI (zMB v f j))) ([.ref (b 0), .int (nI (j))]).toArray s 0 0 (fun _ => False)) (F0 m 4 ls []) := by
    intro n
    induction n with
    | zero =>
      intro i hi hn
      exact absurd hn (by omega)
    | succ n ih_loop =>
      intro i hi hn ls hl
      have hz9 := zbar_le (fr := f 4) (to := f 5) (p := j) i
      refine lv_iload_n hx hb d_Model_isBarred_4 rfl (lv_at hl 0 rfl) ?_
      refine lv_aload_n hx hb d_Model_isBarred_5 rfl (lv_at hl 2 rfl) ?_
      refine va_get (D := (dC, dI)) (ci := 5) (v := .int (nI (v 9))) (C := "CutLengthsModel") (T := T_Model) (N := 24) hx hb hz i_Model hown hK hP 0 rfl rfl 13 (by decide) (hz _ tw_494) (fun _ h9 => h9) rfl d_Model_isBarred_6 ?_
      refine lv_icmp_ge (tgt := 47) hx hb d_Model_isBarred_9 (by decide) (fun c_9 => ?_) (fun c_9 => ?_)
      · have c_9 : ((v 9 : Nat) : Int) ≤ ((i : Nat) : Int) := (zz_le (nI_toInt (by omega)) (nI_toInt (by omega))).mp c_9
        refine lv_iload_n hx hb d_Model_isBarred_47 rfl (lv_at hl 1 rfl) ?_
        exact W.zret (v := nI (zbar (f 4) (f 5) j i)) hx hb hr (zz_bool (by omega)) (fun t9 ht hW => zz_r (by rw [show i = v 9 from by omega]; rfl) ht) (fun q h => by cases h) d_Model_isBarred_48
      · have c_9 : ¬ (((v 9 : Nat) : Int) ≤ ((i : Nat) : Int)) := fun q => c_9 ((zz_le (nI_toInt (by omega)) (nI_toInt (by omega))).mpr q)
        refine lv_iload_n hx hb d_Model_isBarred_12 rfl (lv_at hl 1 rfl) ?_
        refine lv_if_ne (tgt := 35) hx hb d_Model_isBarred_13 (by decide) (fun c_13 => ?_) (fun c_13 => ?_)
        · have c_13 : ¬ (((zbar (f 4) (f 5) j i : Nat) : Int) = (0 : Int)) := fun q => c_13 ((zz_eq (nI_toInt (by omega)) ((by decide))).mpr q)
          refine lv_iconst (v := nI (1)) hx hb d_Model_isBarred_35 (by decide) ?_
          refine lv_goto (tgt := 40) hx hb d_Model_isBarred_36 (by decide) ?_
          refine lv_istore_n (lv' := [(2, .int (nI (1))), (3, .int (nI (i))), (0, .ref (b 0)), (1, .int (nI (j)))]) hx hb d_Model_isBarred_40 rfl hl (by decide) rfl (fun ls hl => ?_)
          refine lv_iinc (v := nI (i + 1)) (lv' := [(3, .int (nI (i + 1))), (2, .int (nI (1))), (0, .ref (b 0)), (1, .int (nI (j)))]) hx hb d_Model_isBarred_41 hl (k := 1) rfl (zz_inc _) (by decide) rfl (fun ls hl => ?_)
          refine lv_goto (tgt := 4) hx hb d_Model_isBarred_44 (by decide) ?_
          exact ih_loop (i + 1) (by omega) (by omega) ls (by rw [show zbar (f 4) (f 5) j (i + 1) = 1 from if_neg (by omega)]; exact lv_sub hl [0, 1, 2, 3] rfl)
        · have c_13 : ((zbar (f 4) (f 5) j i : Nat) : Int) = (0 : Int) := (zz_eq (nI_toInt (by omega)) ((by decide))).mp c_13
          have hb9 := jr i (by omega)
          refine lv_iload_n hx hb d_Model_isBarred_16 rfl (lv_at hl 3 rfl) ?_
          refine lv_aload_n hx hb d_Model_isBarred_17 rfl (lv_at hl 2 rfl) ?_
          refine va_get (D := (dC, dI)) (ci := 5) (v := .ref (b 5)) (C := "CutLengthsModel") (T := T_Model) (N := 24) hx hb hz i_Model hown hK hP 0 rfl rfl 14 (by decide) (hz _ tw_495) (fun _ h9 => h9) rfl d_Model_isBarred_18 ?_
          refine lv_iload_n hx hb d_Model_isBarred_21 rfl (lv_at hl 0 rfl) ?_
          refine zz_nald hx hb hK hP 5 0 (f := f 4) (i := i) rfl rfl (by omega) (by decide) d_Model_isBarred_22 ?_
          refine lv_aload_n hx hb d_Model_isBarred_23 rfl (lv_at hl 2 rfl) ?_
          refine va_get (D := (dC, dI)) (ci := 5) (v := .ref (b 6)) (C := "CutLengthsModel") (T := T_Model) (N := 24) hx hb hz i_Model hown hK hP 0 rfl rfl 15 (by decide) (hz _ tw_496) (fun _ h9 => h9) rfl d_Model_isBarred_24 ?_
          refine lv_iload_n hx hb d_Model_isBarred_27 rfl (lv_at hl 0 rfl) ?_
          refine zz_nald hx hb hK hP 6 0 (f := f 5) (i := i) rfl rfl (by omega) (by decide) d_Model_isBarred_28 ?_
          refine zz_ro (va_runS (As := [.int (nI (j)), .int (nI (f 4 i)), .int (nI (f 5 i))]) (rest := []) ⟨hx, hb, hml, hown, hz⟩ (c_Model_in l (nI (j)) (nI (f 4 i)) (nI (f 5 i)) (((j : Nat) : Int)) (((f 4 i : Nat) : Int)) (((f 5 i : Nat) : Int)) (nI_toInt (by omega)) (nI_toInt (by omega)) (nI_toInt (by omega))) (va_cwS 3 hz (zgS tw_563 tw_564 tw_20 tw_565) rfl rfl rfl (by decide +kernel) ⟨Nat.le_of_ble_eq_true rfl, Nat.le_of_ble_eq_true rfl⟩) ⟨fun _ _ _ _ q => q, fun U hU hW => ⟨rfl, trivial⟩⟩ rfl rfl hl.1 rfl (lv_room (Nat.le_of_ble_eq_true rfl)) d_Model_isBarred_29 ⟨Nat.zero_le _, Nat.zero_le _⟩) ?_
          by_cases q_29 : (((f 4 i : Nat) : Int)) ≤ (((j : Nat) : Int)) ∧ (((j : Nat) : Int)) ≤ (((f 5 i : Nat) : Int))
          · refine zz_top (congrArg nI (if_pos q_29)) ?_
            refine lv_if_eq (tgt := 39) hx hb d_Model_isBarred_32 (by decide) (fun c9 => absurd c9 (by decide)) (fun _ => ?_)
            refine lv_iconst (v := nI (1)) hx hb d_Model_isBarred_35 (by decide) ?_
            refine lv_goto (tgt := 40) hx hb d_Model_isBarred_36 (by decide) ?_
            refine lv_istore_n (lv' := [(2, .int (nI (1))), (3, .int (nI (i))), (0, .ref (b 0)), (1, .int (nI (j)))]) hx hb d_Model_isBarred_40 rfl hl (by decide) rfl (fun ls hl => ?_)
            refine lv_iinc (v := nI (i + 1)) (lv' := [(3, .int (nI (i + 1))), (2, .int (nI (1))), (0, .ref (b 0)), (1, .int (nI (j)))]) hx hb d_Model_isBarred_41 hl (k := 1) rfl (zz_inc _) (by decide) rfl (fun ls hl => ?_)
            refine lv_goto (tgt := 4) hx hb d_Model_isBarred_44 (by decide) ?_
            exact ih_loop (i + 1) (by omega) (by omega) ls (by rw [show zbar (f 4) (f 5) j (i + 1) = 1 from if_neg (by omega)]; exact lv_sub hl [0, 1, 2, 3] rfl)
          · refine zz_top (congrArg nI (if_neg q_29)) ?_
            refine lv_if_eq (tgt := 39) hx hb d_Model_isBarred_32 (by decide) (fun _ => ?_) (fun c9 => absurd c9 (by decide))
            refine lv_iconst (v := nI (0)) hx hb d_Model_isBarred_39 (by decide) ?_
            refine lv_istore_n (lv' := [(2, .int (nI (0))), (3, .int (nI (i))), (0, .ref (b 0)), (1, .int (nI (j)))]) hx hb d_Model_isBarred_40 rfl hl (by decide) rfl (fun ls hl => ?_)
            refine lv_iinc (v := nI (i + 1)) (lv' := [(3, .int (nI (i + 1))), (2, .int (nI (0))), (0, .ref (b 0)), (1, .int (nI (j)))]) hx hb d_Model_isBarred_41 hl (k := 1) rfl (zz_inc _) (by decide) rfl (fun ls hl => ?_)
            refine lv_goto (tgt := 4) hx hb d_Model_isBarred_44 (by decide) ?_
            exact ih_loop (i + 1) (by omega) (by omega) ls (by rw [show zbar (f 4) (f 5) j (i + 1) = 0 from if_pos (by omega)]; exact lv_sub hl [0, 1, 2, 3] rfl)
  exact loop (v 9 + 1) 0 (Nat.zero_le _) (by omega) ls (lv_sub hl [0, 1, 2, 3] rfl)
set_option maxHeartbeats 4000000 in
set_option maxRecDepth 100000 in
theorem c_Model_endOf (l : Launch) (dC : Nat → ClassId) (dI : Nat → Nat → Nat) (b : Nat → Nat) (cI : ClassId) (v : Nat → Nat) (f : Nat → Nat → Nat) (w : Nat → Nat → Int32) (j : Nat) (hj : j < v 3) (hJ : zJ v f) : Met l y_Model_endOf (zw_Model_endOf :: zW) ({ frames := 0, cells := 0, slots := 0, locals := 0 }) (va_Pc [.ref (b 0), .int (nI (j))] (fun U => va_P (dC, dI) vwCl (wM b cI v f w) U.heap ∧ va_K (dC, dI) vwCl [(cI, .int)] U)) (zr (nI (zend (w 1) (f 9) (v 3) j))) 0 0 (fun _ => False) := by
  refine Met.ofW (cc := prog_7_method_19_code) (maxL := 3) (ret := (some .int)) (by decide) rfl ?_
  intro p e s m args below meth c s₁ B hml hv
  obtain ⟨rfl, hP, hK⟩ := hv
  have hx := B.exec
  have hb := B.bytes
  have hr := B.returns
  have hz : ∀ w ∈ zW, w.before ([.ref (b 0), .int (nI (j))]).toArray s = true := fun w h => atoms_spec (ws := (zw_Model_endOf :: zW)) B.pre w (List.mem_cons_of_mem _ h)
  have hown : s.vm.findClass "CutLengthsModel" = some m.cls := findClass_of_methodNamed B.named
  have hlocks := B.notSynchronized
  obtain ⟨j3, j4, j5, j6, j7, j8, j9, j10, j1, j2, jw, jb, jr, jsl⟩ := id hJ
  have hl := lv_entry ([.ref (b 0), .int (nI (j))]) (n := 3) (Nat.le_of_ble_eq_true rfl)
  rw [lg_entry_eq]
  generalize (lg_sl ([.ref (b 0), .int (nI (j))]) ++ List.replicate (3 - (lg_sl ([.ref (b 0), .int (nI (j))])).length) Slot.unset).toArray = ls at hl ⊢
  have hl : lv_has ls 3 [(0, .ref (b 0)), (1, .int (nI (j)))] := hl
  refine lv_aload_n hx hb d_Model_endOf_0 rfl (lv_at hl 0 rfl) ?_
  refine va_get (D := (dC, dI)) (ci := 5) (v := .ref (b 11)) (C := "CutLengthsModel") (T := T_Model) (N := 24) hx hb hz i_Model hown hK hP 0 rfl rfl 21 (by decide) (hz _ tw_502) (fun _ h9 => h9) rfl d_Model_endOf_1 ?_
  refine lv_iload_n hx hb d_Model_endOf_4 rfl (lv_at hl 1 rfl) ?_
  refine zz_iald hx hb hK hP 11 0 (f := w 1) (i := j) rfl rfl (by omega) (by decide) d_Model_endOf_5 ?_
  refine lv_iconst (v := -1) hx hb d_Model_endOf_6 (by decide) ?_
  refine lv_icmp_eq (tgt := 19) hx hb d_Model_endOf_7 (by decide) (fun c_7 => ?_) (fun c_7 => ?_)
  · have c_7 : w 1 j = -1 := c_7
    refine lv_iload_n hx hb d_Model_endOf_19 rfl (lv_at hl 1 rfl) ?_
    refine lv_istore_n (lv' := [(2, .int (nI (j))), (0, .ref (b 0)), (1, .int (nI (j)))]) hx hb d_Model_endOf_20 rfl hl (by decide) rfl (fun ls hl => ?_)
    have loop : ∀ (n : Nat) (q : Nat), (q ≤ v 3) → (zscan (w 1) (v 3) q = zscan (w 1) (v 3) j) → (v 3 < q + n) → ∀ ls : Array Slot, lv_has ls 3 [(2, .int (nI (q))), (0, .ref (b 0)), (1, .int (nI (j)))] → W p l e (headSpec (zw_Model_endOf :: zW) ({ frames := 0, cells := 0, slots := 0, locals := 0 })).room s m ([.ref (b 0), .int (nI (j))]).toArray below meth c s.heap [] 0 0 (MQ below (zr (nI (zend (w 1) (f 9) (v 3) j))) ([.ref (b 0), .int (nI (j))]).toArray s 0 0 (fun _ => False)) (F0 m 21 ls []) := by
      intro n
      induction n with
      | zero =>
        intro q hq1 hq2 hn
        exact absurd hn (by omega)
      | succ n ih_loop =>
        intro q hq1 hq2 hn ls hl
        refine lv_iload_n hx hb d_Model_endOf_21 rfl (lv_at hl 0 rfl) ?_
        refine lv_aload_n hx hb d_Model_endOf_22 rfl (lv_at hl 1 rfl) ?_
        refine va_get (D := (dC, dI)) (ci := 5) (v := .int (nI (v 3))) (C := "CutLengthsModel") (T := T_Model) (N := 24) hx hb hz i_Model hown hK hP 0 rfl rfl 3 (by decide) (hz _ tw_484) (fun _ h9 => h9) rfl d_Model_endOf_23 ?_
        refine lv_icmp_ge (tgt := 45) hx hb d_Model_endOf_26 (by decide) (fun c_26 => ?_) (fun c_26 => ?_)
        · have c_26 : ((v 3 : Nat) : Int) ≤ ((q : Nat) : Int) := (zz_le (nI_toInt (by omega)) (nI_toInt (by omega))).mp c_26
          refine lv_iload_n hx hb d_Model_endOf_45 rfl (lv_at hl 0 rfl) ?_
          exact W.iret (v := nI (q)) hx hb hr (fun t9 ht hW => zz_r (by unfold zend; rw [if_pos c_7, ← hq2]; first | rw [zscan_s (show q < v 3 from by omega), if_neg c_36] | rw [show q = v 3 from by omega, zscan_n]) ht) (fun q h => by cases h) d_Model_endOf_46
        · have c_26 : ¬ (((v 3 : Nat) : Int) ≤ ((q : Nat) : Int)) := fun q => c_26 ((zz_le (nI_toInt (by omega)) (nI_toInt (by omega))).mpr q)
          refine lv_aload_n hx hb d_Model_endOf_29 rfl (lv_at hl 1 rfl) ?_
          refine va_get (D := (dC, dI)) (ci := 5) (v := .ref (b 11)) (C := "CutLengthsModel") (T := T_Model) (N := 24) hx hb hz i_Model hown hK hP 0 rfl rfl 21 (by decide) (hz _ tw_502) (fun _ h9 => h9) rfl d_Model_endOf_30 ?_
          refine lv_iload_n hx hb d_Model_endOf_33 rfl (lv_at hl 0 rfl) ?_
          refine zz_iald hx hb hK hP 11 0 (f := w 1) (i := q) rfl rfl (by omega) (by decide) d_Model_endOf_34 ?_
          refine lv_iconst (v := -1) hx hb d_Model_endOf_35 (by decide) ?_
          refine lv_icmp_ne (tgt := 45) hx hb d_Model_endOf_36 (by decide) (fun c_36 => ?_) (fun c_36 => ?_)
          · have c_36 : ¬ (w 1 q = -1) := c_36
            refine lv_iload_n hx hb d_Model_endOf_45 rfl (lv_at hl 0 rfl) ?_
            exact W.iret (v := nI (q)) hx hb hr (fun t9 ht hW => zz_r (by unfold zend; rw [if_pos c_7, ← hq2]; first | rw [zscan_s (show q < v 3 from by omega), if_neg c_36] | rw [show q = v 3 from by omega, zscan_n]) ht) (fun q h => by cases h) d_Model_endOf_46
          · have c_36 : w 1 q = -1 := c_36
            refine lv_iinc (v := nI (q + 1)) (lv' := [(2, .int (nI (q + 1))), (0, .ref (b 0)), (1, .int (nI (j)))]) hx hb d_Model_endOf_39 hl (k := 0) rfl (zz_inc _) (by decide) rfl (fun ls hl => ?_)
            refine lv_goto (tgt := 21) hx hb d_Model_endOf_42 (by decide) ?_
            exact ih_loop (q + 1) (by omega) (by rw [← hq2, zscan_s (show q < v 3 from by omega), if_pos c_36]) (by omega) ls (lv_sub hl [0, 1, 2] rfl)
    exact loop (v 3 + 1) j (by omega) rfl (by omega) ls (lv_sub hl [0, 1, 2] rfl)
  · have c_7 : ¬ (w 1 j = -1) := c_7
    refine lv_iload_n hx hb d_Model_endOf_10 rfl (lv_at hl 1 rfl) ?_
    refine lv_aload_n hx hb d_Model_endOf_11 rfl (lv_at hl 0 rfl) ?_
    refine va_get (D := (dC, dI)) (ci := 5) (v := .ref (b 12)) (C := "CutLengthsModel") (T := T_Model) (N := 24) hx hb hz i_Model hown hK hP 0 rfl rfl 22 (by decide) (hz _ tw_503) (fun _ h9 => h9) rfl d_Model_endOf_12 ?_
    refine lv_iload_n hx hb d_Model_endOf_15 rfl (lv_at hl 1 rfl) ?_
    refine zz_nald hx hb hK hP 12 0 (f := f 9) (i := j) rfl rfl (by omega) (by decide) d_Model_endOf_16 ?_
    refine lv_iadd hx hb d_Model_endOf_17 ?_
    refine zz_top (nI_add (j) (f 9 j)) ?_
    exact W.iret (v := nI (j + (f 9 j))) hx hb hr (fun t9 ht hW => zz_r (by unfold zend; rw [if_neg c_7]) ht) (fun q h => by cases h) d_Model_endOf_18
end
