section
-- ===== PART A: goes FIRST, ahead of the names: the tables' words, and 'selects' of the private methods out of them =====
/-- a private method of a class that the tables say can be made, by its rows of tables_1 -/
def lw_okq (q : MethodName × Nat) : Prop := (q.1.cls ≠ "java/lang/invoke/MethodHandle" ∧ q.1.cls ≠ "java/lang/invoke/VarHandle") ∧ Cond.instantiable q.1.cls q.2 ∈ tables_1 ∧ Cond.privateMethod q.1 ∈ tables_1 ∧ Cond.instanceMethod q.1 ∈ tables_1
theorem lw_p0 : lw_okq (⟨"TicketCoincidences", "requireStranger", "(I)V"⟩, 9) := ⟨⟨by decide +kernel, by decide +kernel⟩, List.mem_of_getElem? (i := 11) (by decide +kernel), List.mem_of_getElem? (i := 52) (by decide +kernel), List.mem_of_getElem? (i := 53) (by decide +kernel)⟩
theorem lw_p1 : lw_okq (⟨"java/lang/Throwable", "fillInStackTrace", "(I)Ljava/lang/Throwable;"⟩, 6) := ⟨⟨by decide +kernel, by decide +kernel⟩, List.mem_of_getElem? (i := 94) (by decide +kernel), List.mem_of_getElem? (i := 92) (by decide +kernel), List.mem_of_getElem? (i := 93) (by decide +kernel)⟩
theorem lw_p2 : lw_okq (⟨"TicketCoincidences", "pay", "(I)V"⟩, 9) := ⟨⟨by decide +kernel, by decide +kernel⟩, List.mem_of_getElem? (i := 11) (by decide +kernel), List.mem_of_getElem? (i := 168) (by decide +kernel), List.mem_of_getElem? (i := 169) (by decide +kernel)⟩
theorem lw_p3 : lw_okq (⟨"TicketCoincidences", "requirePair", "(II)V"⟩, 9) := ⟨⟨by decide +kernel, by decide +kernel⟩, List.mem_of_getElem? (i := 11) (by decide +kernel), List.mem_of_getElem? (i := 177) (by decide +kernel), List.mem_of_getElem? (i := 178) (by decide +kernel)⟩
theorem lw_p4 : lw_okq (⟨"TicketCoincidences", "townBehind", "(I)I"⟩, 9) := ⟨⟨by decide +kernel, by decide +kernel⟩, List.mem_of_getElem? (i := 11) (by decide +kernel), List.mem_of_getElem? (i := 182) (by decide +kernel), List.mem_of_getElem? (i := 183) (by decide +kernel)⟩
theorem lw_p5 : lw_okq (⟨"TicketCoincidences", "cornerBehind", "(II)I"⟩, 9) := ⟨⟨by decide +kernel, by decide +kernel⟩, List.mem_of_getElem? (i := 11) (by decide +kernel), List.mem_of_getElem? (i := 186) (by decide +kernel), List.mem_of_getElem? (i := 187) (by decide +kernel)⟩
theorem lw_p6 : lw_okq (⟨"TicketCoincidences", "pointsOfPair", "(II)I"⟩, 9) := ⟨⟨by decide +kernel, by decide +kernel⟩, List.mem_of_getElem? (i := 11) (by decide +kernel), List.mem_of_getElem? (i := 190) (by decide +kernel), List.mem_of_getElem? (i := 191) (by decide +kernel)⟩
theorem lw_p7 : lw_okq (⟨"TicketCoincidences", "passOneHour", "()V"⟩, 9) := ⟨⟨by decide +kernel, by decide +kernel⟩, List.mem_of_getElem? (i := 11) (by decide +kernel), List.mem_of_getElem? (i := 222) (by decide +kernel), List.mem_of_getElem? (i := 223) (by decide +kernel)⟩
theorem lw_p8 : lw_okq (⟨"TicketCoincidences", "emptyCorners", "()I"⟩, 9) := ⟨⟨by decide +kernel, by decide +kernel⟩, List.mem_of_getElem? (i := 11) (by decide +kernel), List.mem_of_getElem? (i := 226) (by decide +kernel), List.mem_of_getElem? (i := 227) (by decide +kernel)⟩
theorem lw_p9 : lw_okq (⟨"TicketCoincidences", "crowdAt", "(I)I"⟩, 9) := ⟨⟨by decide +kernel, by decide +kernel⟩, List.mem_of_getElem? (i := 11) (by decide +kernel), List.mem_of_getElem? (i := 230) (by decide +kernel), List.mem_of_getElem? (i := 231) (by decide +kernel)⟩
theorem lw_p10 : lw_okq (⟨"TicketCoincidences", "luckNow", "(I)I"⟩, 9) := ⟨⟨by decide +kernel, by decide +kernel⟩, List.mem_of_getElem? (i := 11) (by decide +kernel), List.mem_of_getElem? (i := 289) (by decide +kernel), List.mem_of_getElem? (i := 290) (by decide +kernel)⟩
theorem lw_p11 : lw_okq (⟨"TicketCoincidences", "luckWith", "(III)I"⟩, 9) := ⟨⟨by decide +kernel, by decide +kernel⟩, List.mem_of_getElem? (i := 11) (by decide +kernel), List.mem_of_getElem? (i := 293) (by decide +kernel), List.mem_of_getElem? (i := 294) (by decide +kernel)⟩
theorem lw_p12 : lw_okq (⟨"TicketCoincidences", "townIfSwapped", "(II)I"⟩, 9) := ⟨⟨by decide +kernel, by decide +kernel⟩, List.mem_of_getElem? (i := 11) (by decide +kernel), List.mem_of_getElem? (i := 326) (by decide +kernel), List.mem_of_getElem? (i := 327) (by decide +kernel)⟩
def lw_privs_1 : List (MethodName × Nat) := [(⟨"TicketCoincidences", "requireStranger", "(I)V"⟩, 9), (⟨"java/lang/Throwable", "fillInStackTrace", "(I)Ljava/lang/Throwable;"⟩, 6), (⟨"TicketCoincidences", "pay", "(I)V"⟩, 9), (⟨"TicketCoincidences", "requirePair", "(II)V"⟩, 9), (⟨"TicketCoincidences", "townBehind", "(I)I"⟩, 9), (⟨"TicketCoincidences", "cornerBehind", "(II)I"⟩, 9), (⟨"TicketCoincidences", "pointsOfPair", "(II)I"⟩, 9), (⟨"TicketCoincidences", "passOneHour", "()V"⟩, 9), (⟨"TicketCoincidences", "emptyCorners", "()I"⟩, 9), (⟨"TicketCoincidences", "crowdAt", "(I)I"⟩, 9), (⟨"TicketCoincidences", "luckNow", "(I)I"⟩, 9), (⟨"TicketCoincidences", "luckWith", "(III)I"⟩, 9), (⟨"TicketCoincidences", "townIfSwapped", "(II)I"⟩, 9)]
theorem lw_r1 : ∀ q ∈ lw_privs_1, lw_okq q := List.forall_mem_cons.mpr ⟨lw_p0, List.forall_mem_cons.mpr ⟨lw_p1, List.forall_mem_cons.mpr ⟨lw_p2, List.forall_mem_cons.mpr ⟨lw_p3, List.forall_mem_cons.mpr ⟨lw_p4, List.forall_mem_cons.mpr ⟨lw_p5, List.forall_mem_cons.mpr ⟨lw_p6, List.forall_mem_cons.mpr ⟨lw_p7, List.forall_mem_cons.mpr ⟨lw_p8, List.forall_mem_cons.mpr ⟨lw_p9, List.forall_mem_cons.mpr ⟨lw_p10, List.forall_mem_cons.mpr ⟨lw_p11, List.forall_mem_cons.mpr ⟨lw_p12, fun _ h => absurd h List.not_mem_nil⟩⟩⟩⟩⟩⟩⟩⟩⟩⟩⟩⟩⟩
def lw_privs : List (MethodName × Nat) := lw_privs_1
def lw_tbl : List Cond := k2_sels lw_privs ++ tables_1
theorem lw_privs_ok : ∀ q ∈ lw_privs, lw_okq q := lw_r1
/-- the streams that the claim lets the run draw from -/
abbrev lw_cs : List Choice := [Jvm.Choice.named "NaN.bits"]
theorem lw_bits : nanBits ∈ lw_cs := by first | decide | exact List.mem_cons_self | simp [lw_cs, nanBits]
end
section
/-! ===== BEGIN words of one list among another's, by their places ===== -/
theorem goodIn_r {big : List Cond} (ws : List Cond) (ps : List Nat) (hp : ws = ps.filterMap (fun i => big[i]?)) (h : ws.all goodWord = true) : GoodIn big ws := by
  intro w hw
  have h1 := List.all_eq_true.mp h w hw
  rw [hp] at hw
  obtain ⟨i, -, hi⟩ := List.mem_filterMap.mp hw
  have hm : w ∈ big := by first | exact List.mem_of_getElem? hi | exact List.getElem?_mem hi
  exact ⟨hm, good_of_word h1⟩
theorem goodIn_app {big a b : List Cond} (ha : GoodIn big a) (hb : GoodIn big b) : GoodIn big (a ++ b) := fun w h => (List.mem_append.mp h).elim (ha w) (hb w)
theorem goodIn_ca {big a b : List Cond} {c : Cond} (ha : GoodIn big (c :: a)) (hb : GoodIn big b) : GoodIn big (c :: (a ++ b)) := fun w h => (List.mem_cons.mp h).elim (fun e => ha w (List.mem_cons.mpr (Or.inl e))) (fun h => (List.mem_append.mp h).elim (fun h => ha w (List.mem_cons.mpr (Or.inr h))) (hb w))
theorem goodIn_sub {big ws : List Cond} (hm : ∀ w ∈ ws, w ∈ big) (h : ws.all goodWord = true) : GoodIn big ws := fun w hw => ⟨hm w hw, good_of_word (List.all_eq_true.mp h w hw)⟩
/-! ===== END ===== -/

/-! ===== BEGIN exceptions that leave a method, and their catching by the caller (launches without stack traces) ===== -/
section VXA
/-! The laws vx_back, vx_callV, vx_callS, vx_callSW, vx_throw0, vx_throwS follow proofs of the library, with one case more: JvmDerived/Free/Laws.lean (Back.of_free), Shelf42/LK1.lean (callV, callS), Shelf/KitTraced.lean (throwNew0V, throwNewS). -/
/-- where a method has thrown q: the class by its name, the cell, what was written, the world -/
def vx_T (XC : String → State → State → Prop) (st : State) (q : Addr) (t : State) (mc ms : Nat) (free : Addr → Prop) : Prop :=
  ∃ (E : String) (ce : Cell) (L : List Loc), XC E st t ∧ t.heap[q]? = some ce ∧ ce.vm = .none ∧ st.vm.findClass E = some ce.cls ∧ st.WarmedH t.vm ∧ st.sameButNew ({ t with vm := st.vm } : State) L mc ms ∧ ∀ z ∈ L, free z.base
def vx_Q (Qc : Array Value → State → Outcome → State → Prop) (XC : String → State → State → Prop) (mc ms : Nat) (free : Addr → Prop) : Array Value → State → Outcome → State → Prop := fun a st o t =>
  (Qc a st o t ∧ ∃ L, FrameEnd st o t L mc ms ∧ ∀ q ∈ L, free q.base) ∨ ∃ q, o = .threw q ∧ vx_T XC st q t mc ms free
/-- a callee that returns or throws -/
def vx_Met (l : Launch) (y : MethodName) (ws : List Cond) (rm : Room) (Pc : Array Value → State → Prop) (Qc : Array Value → State → Outcome → State → Prop) (XC : String → State → State → Prop) (mc ms : Nat) (free : Addr → Prop) : Prop :=
  MetFree l y (headSpec ws rm) Pc (fun _ _ _ _ _ => True) (vx_Q Qc XC mc ms free)
def vx_Post (XC : String → State → State → Prop) (mc ms : Nat) (free : Addr → Prop) : Pt → Array Value → Addr → Pt → Prop := fun A a q B =>
  ∃ (g : JFrame) (mk : MethodId) (t : State) (L : List Loc) (E : String) (ce : Cell), B.U.heap = t.heap ∧ B.U.vm = t.vm ∧ XC E (A.U.calling g mk a) t ∧ t.heap[q]? = some ce ∧ ce.vm = .none ∧ A.U.vm.findClass E = some ce.cls ∧ B.locs = A.locs ++ L ∧ (∀ z ∈ L, free z.base) ∧ B.cells = A.cells + mc ∧ B.slots = A.slots + ms
def vx_Back (l : Launch) (R : Room) (p : Program) (e : Env) (below : List Frame) (s : State) (sargs : Array Value) (y : MethodName) (len W9 : Nat)
    (Pre : Pt → Array Value → Prop) (Post : Pt → Array Value → Option Value → Pt → Prop) (PostX : Pt → Array Value → Addr → Pt → Prop) : Prop :=
  ∀ (m : MethodId) (meth : Method) (c : Code) (A : Pt) (g : JFrame) (ig : Instr) (mk : MethodId) (a : Array Value),
    Stand p l e R s m sargs below meth c A.U A.locs A.cells A.slots → g.method = m → g.locals.size = c.maxLocals → decode c.code g.pc = .ok (ig, len) →
    2 * g.monitorRoom + (g.stack.map fun v => v.category).sum ≤ W9 → A.U.methodNamed? y = some mk → Pre A a →
    (∃ (v : Option Value) (B : Pt), Stand p l e R s m sargs below meth c B.U B.locs B.cells B.slots ∧ Post A a v B ∧
      Steps p.tables e below (doInvoke e (A.U.setTop g) [] mk a).1 (B.U.setTop { g with pc := g.pc + len, stack := v.toList ++ g.stack })) ∨
    (∃ (q : Addr) (B : Pt), Stand p l e R s m sargs below meth c B.U B.locs B.cells B.slots ∧ PostX A a q B ∧
      Steps p.tables e below (doInvoke e (A.U.setTop g) [] mk a).1 ((B.U.setTop g).pushFrame (.throwing q)))
section Payer
variable {l : Launch} {R : Room} {p : Program} {e : Env} {below : List Frame} {s : State} {sargs : Array Value} {y : MethodName} {len W9 : Nat}
theorem vx_back {ws : List Cond} {rm : Room} {Pc : Array Value → State → Prop} {Qc : Array Value → State → Outcome → State → Prop} {XC : String → State → State → Prop} {mc ms : Nat} {free : Addr → Prop} {bytes : ByteArray} {maxL : Nat} {ret : Option FieldType}
    (hM : vx_Met l y ws rm Pc Qc XC mc ms free) (hblind : FrameBlind Pc) (hrc : rm.cells = mc) (hrs : rm.slots = ms)
    (hframes : rm.frames + 1 ≤ R.frames) (hlocals : W9 + (maxL + 11) + rm.locals ≤ R.locals)
    (hws : ∀ w ∈ ws, ∀ a' U, s.WarmedH U.vm → w.before a' U = true) (hcode : Cond.code y bytes maxL ret ∈ ws) (hinit : ∀ a' U, s.WarmedH U.vm → (Cond.initialized y.cls).before a' U = true) :
    vx_Back l R p e below s sargs y len W9 (PreOf R mc ms Pc) (PostOf Qc mc ms free) (vx_Post XC mc ms free) := by
  intro m meth c A g ig mk a X hg hsize hdg hW hn hp
  have h1 : (headSpec ws rm).pre.before a A.U = true := atoms_intro fun w hw => hws w hw _ _ X.warmed
  have h2 : (Cond.code y bytes maxL ret).before a A.U = true := hws _ hcode _ _ X.warmed
  have h3 : (Cond.initialized y.cls).before a A.U = true := hinit _ _ X.warmed
  have h4 : A.cells + (headSpec ws rm).room.cells ≤ R.cells := by rw [show (headSpec ws rm).room.cells = mc from hrc]; exact hp.1
  have h5 : A.slots + (headSpec ws rm).room.slots ≤ R.slots := by rw [show (headSpec ws rm).room.slots = ms from hrs]; exact hp.2.1
  have hPc : Pc a (A.U.calling g mk a) := hblind _ _ _ _ hp.2.2
  obtain ⟨U, Ls, c0, s0⟩ := A
  dsimp only [Pt.U, Pt.locs, Pt.cells, Pt.slots] at h1 h2 h3 h4 h5 X hn hPc ⊢
  obtain ⟨methY, cY, hmY, hcY, -, hlY, -, -, -, -⟩ := Cond.code_spec hn h2
  obtain ⟨kY, hkY, -⟩ := className_of_methodNamed hn
  have hinitY : kY.init = .initialized := Cond.initialized_spec (findClass_of_methodNamed hn) hkY h3
  have h : At U g.method c below := by rw [hg]; exact X.here
  have hlocals9 : W9 + (maxL + 11) + (headSpec ws rm).room.locals ≤ R.locals := hlocals
  have happ : (headSpec ws rm).appliesLoose y e.platform (U.calling g mk a) = true :=
    Spec.appliesLoose_calling (g := g) h hdg hn hkY hinitY
      (X.room_calling (g := g) (R' := (headSpec ws rm).room) hsize hmY hcY hframes (by rw [hlY]; omega) h4 h5) h1
  obtain ⟨mid, hmid⟩ := h.above
  have hfr : (U.setTop g).frames = (.java g :: mid) ++ below := by rw [State.frames_setTop' g h.top, hmid]; rfl
  obtain ⟨o, s₂, hsteps, -, hend, hq⟩ := Steps.callFree hM p X.admits X.cas X.clock (acts := []) hfr happ hPc trivial
  have hq' : vx_Q Qc XC mc ms free a (U.calling g mk a) o s₂ := hq
  rw [State.frames_setTop' g h.top] at hend
  obtain ⟨g₀, hg0⟩ := Option.isSome_iff_exists.mp h.top
  obtain ⟨r, hr⟩ := State.topJava?_eq_some.mp hg0
  have hr' : (({ U with heap := s₂.heap, slotsUsed := s₂.slotsUsed } : State).setVm s₂.vm).frames = .java g₀ :: r := hr
  rcases hq' with ⟨hqc, L, hfe, hL⟩ | ⟨q, rfl, E, ce, L, hx, hce, hcv, hcl, hW₂, hsm, hL⟩
  · obtain ⟨⟨v, rfl⟩, hW₂, e2, q2, q3, q4, q5, q6⟩ := id hfe
    have e3 : s₂ = ({ (U.calling g mk a).setFrames s₂.frames with heap := s₂.heap, slotsUsed := s₂.slotsUsed } : State).setVm s₂.vm := by
      have : s₂ = ({ s₂ with vm := (U.calling g mk a).vm } : State).setVm s₂.vm := rfl
      rw [e2] at this
      exact this
    obtain ⟨c₂, i₂, len₂, hc₂, hd₂, hf₂⟩ := hend
    have hW' : U.WarmedH s₂.vm := hW₂
    have hcc : c₂ = c := by
      have h1 : s₂.code? g.method = U.code? g.method := by
        rw [State.code?_eq, State.code?_eq, hW'.alike.method?]
      exact Option.some.inj (hc₂.symm.trans (h1.trans h.code))
    subst hcc
    have hlen : len₂ = len := by rw [hdg] at hd₂; cases hd₂; rfl
    subst hlen
    have hs₂ : s₂ = (({ U with heap := s₂.heap, slotsUsed := s₂.slotsUsed } : State).setVm s₂.vm).setTop { g with pc := g.pc + len₂, stack := v.toList ++ g.stack } := by
      refine e3.trans ?_
      rw [hf₂, State.calling_eq h.top, State.setFrames_setFrames, State.setTop_of_frames _ hr', hr]
      rfl
    have hsame : U.sameButNew ({ U with heap := s₂.heap, slotsUsed := s₂.slotsUsed } : State) L mc ms := by
      refine ⟨?_, q2, q3, q4, q5, q6⟩
      obtain ⟨t, ht, -⟩ := State.frames_cons hr
      show ({ U with heap := s₂.heap, slotsUsed := s₂.slotsUsed } : State) = { U.setFrames U.frames with heap := s₂.heap, slotsUsed := s₂.slotsUsed }
      rw [State.setFrames_self ht]
    subst hg
    refine Or.inl ⟨v, ⟨(({ U with heap := s₂.heap, slotsUsed := s₂.slotsUsed } : State).setVm s₂.vm), Ls ++ L, c0 + mc, s0 + ms⟩,
      ⟨X.admits, X.cas, X.clock, X.frames, X.room, X.hears, X.method, X.code, (X.here.setHeapUsed s₂.heap s₂.slotsUsed).setVm hW'.alike, X.tail, State.WarmedH.trans X.warmed hW', X.limits, X.bytes, X.same.trans (hsame.setVm s.vm)⟩,
      ⟨g, mk, s₂, L, rfl, rfl, hqc, rfl, hL, rfl, rfl⟩, ?_⟩
    show Steps p.tables e below _ ((({ U with heap := s₂.heap, slotsUsed := s₂.slotsUsed } : State).setVm s₂.vm).setTop { g with pc := g.pc + len₂, stack := v.toList ++ g.stack })
    rw [← hs₂]
    exact hsteps
  · obtain ⟨e2, q2, q3, q4, q5, q6⟩ := id hsm
    have e3 : s₂ = ({ (U.calling g mk a).setFrames s₂.frames with heap := s₂.heap, slotsUsed := s₂.slotsUsed } : State).setVm s₂.vm := by
      have : s₂ = ({ s₂ with vm := (U.calling g mk a).vm } : State).setVm s₂.vm := rfl
      rw [e2] at this
      exact this
    have hf₂ : s₂.frames = .throwing q :: .java g :: U.frames.tail := hend
    have hW' : U.WarmedH s₂.vm := hW₂
    have hs₂ : s₂ = ((({ U with heap := s₂.heap, slotsUsed := s₂.slotsUsed } : State).setVm s₂.vm).setTop g).pushFrame (.throwing q) := by
      refine e3.trans ?_
      rw [hf₂, State.calling_eq h.top, State.setFrames_setFrames, State.pushFrame, State.frames_setTop _ hr', State.setTop_of_frames _ hr', State.setFrames_setFrames, hr]
      rfl
    have hsame : U.sameButNew ({ U with heap := s₂.heap, slotsUsed := s₂.slotsUsed } : State) L mc ms := by
      refine ⟨?_, q2, q3, q4, q5, q6⟩
      obtain ⟨t, ht, -⟩ := State.frames_cons hr
      show ({ U with heap := s₂.heap, slotsUsed := s₂.slotsUsed } : State) = { U.setFrames U.frames with heap := s₂.heap, slotsUsed := s₂.slotsUsed }
      rw [State.setFrames_self ht]
    subst hg
    refine Or.inr ⟨q, ⟨(({ U with heap := s₂.heap, slotsUsed := s₂.slotsUsed } : State).setVm s₂.vm), Ls ++ L, c0 + mc, s0 + ms⟩,
      ⟨X.admits, X.cas, X.clock, X.frames, X.room, X.hears, X.method, X.code, (X.here.setHeapUsed s₂.heap s₂.slotsUsed).setVm hW'.alike, X.tail, State.WarmedH.trans X.warmed hW', X.limits, X.bytes, X.same.trans (hsame.setVm s.vm)⟩,
      ⟨g, mk, s₂, L, E, ce, rfl, rfl, hx, hce, hcv, hcl, rfl, hL, rfl, rfl⟩, ?_⟩
    show Steps p.tables e below _ (((({ U with heap := s₂.heap, slotsUsed := s₂.slotsUsed } : State).setVm s₂.vm).setTop g).pushFrame (.throwing q))
    rw [← hs₂]
    exact hsteps
end Payer
section Calls
variable {p : Program} {l : Launch} {e : Env} {R : Room} {s : State} {m : MethodId} {args : Array Value} {below : List Frame} {meth : Method} {c : Code} {T : State} {locs : List Loc} {cells slots : Nat}
theorem vx_callV (X : Stand p l e R s m args below meth c T locs cells slots) (hexec : p.tables.exec = Jvm.exec) {own C : String} {index : Nat} {y : MethodName} {bytes : ByteArray} {maxL : Nat} {ret : Option FieldType}
    (hown : s.vm.findClass own = some m.cls) (hlink : (Cond.methodLink own index y).before args s = true) (hinst : (Cond.instanceMethod y).before args s = true) (hsel : (Cond.selects C y y).before args s = true)
    (hcode : (Cond.code y bytes maxL ret).before args s = true) (hy : y.cls ≠ "java/lang/invoke/MethodHandle" ∧ y.cls ≠ "java/lang/invoke/VarHandle")
    {W9 : Nat} {Pre : Pt → Array Value → Prop} {Post : Pt → Array Value → Option Value → Pt → Prop} {PostX : Pt → Array Value → Addr → Pt → Prop} (hK : vx_Back l R p e below s args y 3 W9 Pre Post PostX)
    {b : Addr} {cellB : Cell} (hcell : T.heap[b]? = some cellB) (hobj : cellB.vm.isStatics = false) (hcls : s.vm.findClass C = some cellB.cls)
    {g : JFrame} (hg : g.method = m) (hsize : g.locals.size = c.maxLocals) {argsL rest : List Value} (hlen : ∀ sig, parseMethodDescriptor y.desc = some sig → argsL.length = sig.parameters.length)
    (hstack : g.stack = argsL.reverse ++ .ref b :: rest) (hW : 2 * g.monitorRoom + (rest.map fun v => v.category).sum ≤ W9) (hdg : decode c.code g.pc = .ok (.invokevirtual index, 3))
    (hpre : ∀ vm₁, s.WarmedH vm₁ → Pre ⟨T.setVm vm₁, locs, cells, slots⟩ (Value.ref b :: argsL).toArray) :
    (∃ (v : Option Value) (vm₁ : Vm) (B : Pt), s.WarmedH vm₁ ∧ Stand p l e R s m args below meth c B.U B.locs B.cells B.slots ∧ Post ⟨T.setVm vm₁, locs, cells, slots⟩ (Value.ref b :: argsL).toArray v B ∧
      ∀ target, Steps p.tables e below (B.U.setTop { g with pc := g.pc + 3, stack := v.toList ++ rest }) target → Steps p.tables e below (T.setTop g) target) ∨
    (∃ (q : Addr) (vm₁ : Vm) (B : Pt), s.WarmedH vm₁ ∧ Stand p l e R s m args below meth c B.U B.locs B.cells B.slots ∧ PostX ⟨T.setVm vm₁, locs, cells, slots⟩ (Value.ref b :: argsL).toArray q B ∧
      Steps p.tables e below (T.setTop g) ((B.U.setTop { g with stack := rest }).pushFrame (.throwing q))) := by
  obtain ⟨mk, methM, hnamed, hmethM, hstM, habM⟩ := Cond.instanceMethod_spec hinst
  obtain ⟨methM', cM, hmethM', -, -, -, -, -, -, hsigM⟩ := Cond.code_spec hnamed hcode
  cases hmethM.symm.trans hmethM'
  obtain ⟨c2, r2, m2, q1, q2, q3, q4, kP, hkP, hkPi⟩ := Cond.selects_spec hsel
  cases hcls.symm.trans q1
  cases (State.methodFound?_of_named hnamed hy).symm.trans q2
  cases hnamed.symm.trans q3
  have hselP : selectMethod e.platform s.vm cellB.cls mk = .method mk := by rw [Launch.admits_selectMethod X.admits]; exact q4
  obtain ⟨vm₁, X₁, hstep₁⟩ := X.invokevirtual hexec hown hlink hnamed hmethM hstM hkP hkPi hy (a := b) (cell := cellB) hcell
    (fun z h => by rw [h] at hobj; cases hobj) hselP hmethM habM hkP hkPi (g := g) hg (argsL := argsL) (rest := rest) (hlen _ hsigM) hstack hdg
  rcases hK m meth c ⟨T.setVm vm₁, locs, cells, slots⟩ { g with stack := rest } (.invokevirtual index) mk (Value.ref b :: argsL).toArray X₁ hg hsize hdg hW (X₁.named hnamed) (hpre vm₁ X₁.warmed) with ⟨v, B, X', hpost, hsteps⟩ | ⟨q, B, X', hpost, hsteps⟩
  · exact Or.inl ⟨v, vm₁, B, X₁.warmed, X', hpost, fun target h => hstep₁ _ fun acts => by rw [doInvoke_state]; exact hsteps.trans h⟩
  · exact Or.inr ⟨q, vm₁, B, X₁.warmed, X', hpost, hstep₁ _ fun acts => by rw [doInvoke_state]; exact hsteps⟩
theorem vx_callS (X : Stand p l e R s m args below meth c T locs cells slots) (hexec : p.tables.exec = Jvm.exec) {own : String} {index : Nat} {y : MethodName} {bytes : ByteArray} {maxL : Nat} {ret : Option FieldType}
    (hown : s.vm.findClass own = some m.cls) (hlink : (Cond.methodLink own index y).before args s = true) (hstat : (Cond.static y).before args s = true) (hinit : (Cond.initialized y.cls).before args s = true)
    (hcode : (Cond.code y bytes maxL ret).before args s = true) (hy : y.cls ≠ "java/lang/invoke/MethodHandle" ∧ y.cls ≠ "java/lang/invoke/VarHandle")
    {W9 : Nat} {Pre : Pt → Array Value → Prop} {Post : Pt → Array Value → Option Value → Pt → Prop} {PostX : Pt → Array Value → Addr → Pt → Prop} (hK : vx_Back l R p e below s args y 3 W9 Pre Post PostX)
    {g : JFrame} (hg : g.method = m) (hsize : g.locals.size = c.maxLocals) {argsL rest : List Value} (hlen : ∀ sig, parseMethodDescriptor y.desc = some sig → argsL.length = sig.parameters.length)
    (hstack : g.stack = argsL.reverse ++ rest) (hW : 2 * g.monitorRoom + (rest.map fun v => v.category).sum ≤ W9) (hdg : decode c.code g.pc = .ok (.invokestatic index, 3))
    (hpre : ∀ vm₁, s.WarmedH vm₁ → Pre ⟨T.setVm vm₁, locs, cells, slots⟩ argsL.toArray) :
    (∃ (v : Option Value) (vm₁ : Vm) (B : Pt), s.WarmedH vm₁ ∧ Stand p l e R s m args below meth c B.U B.locs B.cells B.slots ∧ Post ⟨T.setVm vm₁, locs, cells, slots⟩ argsL.toArray v B ∧
      ∀ target, Steps p.tables e below (B.U.setTop { g with pc := g.pc + 3, stack := v.toList ++ rest }) target → Steps p.tables e below (T.setTop g) target) ∨
    (∃ (q : Addr) (vm₁ : Vm) (B : Pt), s.WarmedH vm₁ ∧ Stand p l e R s m args below meth c B.U B.locs B.cells B.slots ∧ PostX ⟨T.setVm vm₁, locs, cells, slots⟩ argsL.toArray q B ∧
      Steps p.tables e below (T.setTop g) ((B.U.setTop { g with stack := rest }).pushFrame (.throwing q))) := by
  obtain ⟨mk, hnamed⟩ := Cond.code_named hcode
  obtain ⟨methM, cM, hmethM, -, -, -, -, -, -, hsigM⟩ := Cond.code_spec hnamed hcode
  have hstatic : methM.isStatic = true := Cond.static_spec hnamed hmethM hstat
  obtain ⟨kP, hkP, -⟩ := className_of_methodNamed hnamed
  have hinitP : kP.init = .initialized := Cond.initialized_spec (findClass_of_methodNamed hnamed) hkP hinit
  obtain ⟨vm₁, X₁, hstep₁⟩ := X.invokestatic hexec hown hlink hnamed hmethM hstatic hkP hinitP hy (g := g) hg (argsL := argsL) (rest := rest) (hlen _ hsigM) hstack hdg
  rcases hK m meth c ⟨T.setVm vm₁, locs, cells, slots⟩ { g with stack := rest } (.invokestatic index) mk argsL.toArray X₁ hg hsize hdg hW (X₁.named hnamed) (hpre vm₁ X₁.warmed) with ⟨v, B, X', hpost, hsteps⟩ | ⟨q, B, X', hpost, hsteps⟩
  · exact Or.inl ⟨v, vm₁, B, X₁.warmed, X', hpost, fun target h => hstep₁ _ fun acts => by rw [doInvoke_state]; exact hsteps.trans h⟩
  · exact Or.inr ⟨q, vm₁, B, X₁.warmed, X', hpost, hstep₁ _ fun acts => by rw [doInvoke_state]; exact hsteps⟩
end Calls
theorem vx_cls {s : State} {T : State} {vm₁ : Vm} {E : String} {k : ClassId} (hW : s.WarmedH vm₁) (h : (T.setVm vm₁).vm.findClass E = some k) : s.vm.findClass E = some k := by
  have h1 : vm₁.findClass E = some k := h
  rw [hW.alike.findClass] at h1
  exact h1
/-- the method's frame g, with q thrown over it -/
def vx_W (p : Program) (l : Launch) (e : Env) (R : Room) (s : State) (m : MethodId) (args : Array Value) (below : List Frame) (meth : Method) (c : Code) (H : Heap) (locs : List Loc) (cells slots : Nat) (Q : State → Prop) (g : JFrame) (q : Addr) : Prop :=
  ∀ T : State, T.heap = H → Stand p l e R s m args below meth c T locs cells slots → ∃ t, Steps p.tables e below ((T.setTop g).pushFrame (.throwing q)) t ∧ Q t
def vx_Run (p : Program) (l : Launch) (e : Env) (R : Room) (s : State) (m : MethodId) (args : Array Value) (below : List Frame) (meth : Method) (c : Code) (H : Heap) (locs : List Loc) (cells slots mc ms : Nat) (g : JFrame) (rest : List Value) (Qa : State → Outcome → State → Prop) (XC : String → State → State → Prop) (free : Addr → Prop) : Prop :=
  ∀ T : State, T.heap = H → Stand p l e R s m args below meth c T locs cells slots →
    (∃ (v : Option Value) (st₀ t T' : State) (L : List Loc), st₀.heap = H ∧ Stand p l e R s m args below meth c T' (locs ++ L) (cells + mc) (slots + ms) ∧ (∀ q ∈ L, free q.base) ∧ T'.heap = t.heap ∧ T'.vm = t.vm ∧ Qa st₀ (.returned v) t ∧
      Goes p e below T g T' { g with pc := g.pc + 3, stack := v.toList ++ rest }) ∨
    (∃ (q : Addr) (st₀ t T' : State) (L : List Loc) (E : String) (ce : Cell), st₀.heap = H ∧ Stand p l e R s m args below meth c T' (locs ++ L) (cells + mc) (slots + ms) ∧ (∀ z ∈ L, free z.base) ∧ T'.heap = t.heap ∧ T'.vm = t.vm ∧ XC E st₀ t ∧ t.heap[q]? = some ce ∧ ce.vm = .none ∧ s.vm.findClass E = some ce.cls ∧
      Steps p.tables e below (T.setTop g) ((T'.setTop { g with stack := rest }).pushFrame (.throwing q)))
def vx_X {S : Type} (px : S → Prop) (B : String → S → State → Prop) (A : Nat → Prop) : String → State → State → Prop := fun E st t => ∃ u : S, px u ∧ B E u t ∧ va_F A st t
section Runs
variable {p : Program} {l : Launch} {e : Env} {R : Room} {s : State} {m : MethodId} {args : Array Value} {below : List Frame} {meth : Method} {c : Code} {H : Heap} {locs : List Loc} {cells slots : Nat}
variable {y : MethodName} {bytes cc : ByteArray} {maxL nL mc ms n index : Nat} {ret : Option FieldType} {ws : List Cond} {rm : Room} {Pc : Array Value → State → Prop} {Qc : Array Value → State → Outcome → State → Prop} {XC : String → State → State → Prop} {free : Addr → Prop} {Ts : List Cond} {own C : String} {b : Addr} {As rest : List Value} {g : JFrame}
theorem vx_callBack (cb : CallB R s args own index y bytes maxL ret ws rm mc ms n) (hM : vx_Met l y ws rm Pc Qc XC mc ms free) (hbl : FrameBlind Pc) : vx_Back l R p e below s args y 3 8 (PreOf R mc ms Pc) (PostOf Qc mc ms free) (vx_Post XC mc ms free) := by
  obtain ⟨hrc, hrs, hfr, hlo, hws, hcw, -, hini, -⟩ := cb
  exact vx_back (bytes := bytes) (maxL := maxL) (ret := ret) hM hbl hrc hrs hfr hlo hws hcw (fun a' U hW => word_at hW (Or.inl (by first | rfl | simp [Cond.onTables, Cond.keeps, Cond.steady])) hini)
theorem vx_runV (S : CallFix p m c cc nL s args Ts own) (hM : vx_Met l y ws rm Pc Qc XC mc ms free) (cw : CallW R s args own C index y bytes maxL ret ws rm mc ms n) (hp : PreV s H C b Pc As)
    (hg : g.method = m) (hn : As.length = n) (hsize : g.locals.size = nL) (hstack : g.stack = As.reverse ++ .ref b :: rest) (hW : 2 * g.monitorRoom + (rest.map fun v => v.category).sum ≤ 8) (hdg : decode cc g.pc = .ok (.invokevirtual index, 3)) (hf : cells + mc ≤ R.cells ∧ slots + ms ≤ R.slots) :
    vx_Run p l e R s m args below meth c H locs cells slots mc ms g rest (Qc (Value.ref b :: As).toArray) XC free := by
  have hK : vx_Back l R p e below s args y 3 8 (PreOf R mc ms Pc) (PostOf Qc mc ms free) (vx_Post XC mc ms free) := vx_callBack cw.1 hM hp.1
  obtain ⟨⟨-, -, -, -, -, -, hcode, -, hy, hlen, hl⟩, hin, hse⟩ := cw
  obtain ⟨hx, hb, hml, ho, -⟩ := S
  obtain ⟨-, ⟨cellB, hcB, hoB, hclB⟩, hPc⟩ := hp
  intro T hT X
  rcases vx_callV X hx (C := C) (bytes := bytes) (maxL := maxL) (ret := ret) ho hl hin hse hcode hy hK (by rw [hT]; exact hcB) hoB hclB hg (hsize.trans hml.symm) (argsL := As) (rest := rest) (fun sig h => hn.trans (hlen sig h)) hstack hW (by rw [hb]; exact hdg)
    (fun vm₁ hW₁ => ⟨hf.1, hf.2, hPc (T.setVm vm₁) hT hW₁⟩) with ⟨v, vm₁, ⟨U', l2, c2, s2⟩, hW₁, X', ⟨g', mk, t, L, e1, e2, hq, h1, hL, h2, h3⟩, st⟩ | ⟨q, vm₁, ⟨U', l2, c2, s2⟩, hW₁, X', ⟨g', mk, t, L, E, ce, e1, e2, hq, hce, hcv, hcl, h1, hL, h2, h3⟩, st⟩
  · dsimp only [Pt.U, Pt.locs, Pt.cells, Pt.slots] at X' e1 e2 h1 h2 h3 st
    subst h1; subst h2; subst h3
    exact Or.inl ⟨v, (T.setVm vm₁).calling g' mk (Value.ref b :: As).toArray, t, U', L, hT, X', hL, e1, e2, hq, st⟩
  · dsimp only [Pt.U, Pt.locs, Pt.cells, Pt.slots] at X' e1 e2 h1 h2 h3 st hcl
    subst h1; subst h2; subst h3
    exact Or.inr ⟨q, (T.setVm vm₁).calling g' mk (Value.ref b :: As).toArray, t, U', L, E, ce, hT, X', hL, e1, e2, hq, hce, hcv, vx_cls hW₁ hcl, st⟩
theorem vx_runS (S : CallFix p m c cc nL s args Ts own) (hM : vx_Met l y ws rm Pc Qc XC mc ms free) (cw : CallB R s args own index y bytes maxL ret ws rm mc ms n ∧ (Cond.static y).before args s = true) (hp : PreS s H Pc As)
    (hg : g.method = m) (hn : As.length = n) (hsize : g.locals.size = nL) (hstack : g.stack = As.reverse ++ rest) (hW : 2 * g.monitorRoom + (rest.map fun v => v.category).sum ≤ 8) (hdg : decode cc g.pc = .ok (.invokestatic index, 3)) (hf : cells + mc ≤ R.cells ∧ slots + ms ≤ R.slots) :
    vx_Run p l e R s m args below meth c H locs cells slots mc ms g rest (Qc As.toArray) XC free := by
  have hK : vx_Back l R p e below s args y 3 8 (PreOf R mc ms Pc) (PostOf Qc mc ms free) (vx_Post XC mc ms free) := vx_callBack cw.1 hM hp.1
  obtain ⟨⟨-, -, -, -, -, -, hcode, hini, hy, hlen, hl⟩, hstt⟩ := cw
  obtain ⟨hx, hb, hml, ho, -⟩ := S
  intro T hT X
  rcases vx_callS X hx (bytes := bytes) (maxL := maxL) (ret := ret) ho hl hstt hini hcode hy hK hg (hsize.trans hml.symm) (argsL := As) (rest := rest) (fun sig h => hn.trans (hlen sig h)) hstack hW (by rw [hb]; exact hdg)
    (fun vm₁ hW₁ => ⟨hf.1, hf.2, hp.2 (T.setVm vm₁) hT hW₁⟩) with ⟨v, vm₁, ⟨U', l2, c2, s2⟩, hW₁, X', ⟨g', mk, t, L, e1, e2, hq, h1, hL, h2, h3⟩, st⟩ | ⟨q, vm₁, ⟨U', l2, c2, s2⟩, hW₁, X', ⟨g', mk, t, L, E, ce, e1, e2, hq, hce, hcv, hcl, h1, hL, h2, h3⟩, st⟩
  · dsimp only [Pt.U, Pt.locs, Pt.cells, Pt.slots] at X' e1 e2 h1 h2 h3 st
    subst h1; subst h2; subst h3
    exact Or.inl ⟨v, (T.setVm vm₁).calling g' mk As.toArray, t, U', L, hT, X', hL, e1, e2, hq, st⟩
  · dsimp only [Pt.U, Pt.locs, Pt.cells, Pt.slots] at X' e1 e2 h1 h2 h3 st hcl
    subst h1; subst h2; subst h3
    exact Or.inr ⟨q, (T.setVm vm₁).calling g' mk As.toArray, t, U', L, E, ce, hT, X', hL, e1, e2, hq, hce, hcv, vx_cls hW₁ hcl, st⟩
end Runs
section Rows
variable {p : Program} {l : Launch} {e : Env} {R : Room} {s : State} {m : MethodId} {args : Array Value} {below : List Frame} {meth : Method} {c : Code} {H : Heap} {locs : List Loc} {cells slots : Nat} {Q : State → Prop}
variable {mc ms : Nat} {free : Addr → Prop} {A0 A1 : Nat → Prop} {H0 : Heap} {a : Array Value} {pc : Nat} {ls : Array Slot} {st0 rest : List Value}
theorem vx_keep {st₀ t T' : State} {L : List Loc} (h0 : st₀.heap = H) (e1 : T'.heap = t.heap) (hS : va_S A0 H0 H locs) (hA : ∀ q, q < H.size → A1 q → A0 q) (hf : ∀ q, free q → A0 q) (hL : ∀ q ∈ L, free q.base) (hF : va_F A1 st₀ t) :
    H.size ≤ T'.heap.size ∧ (∀ q : Nat, q < H.size → ¬ A1 q → T'.heap[q]? = H[q]?) ∧ va_S A0 H0 T'.heap (locs ++ L) := by
  obtain ⟨hz, hk⟩ := hF
  rw [h0] at hz hk
  exact ⟨by rw [e1]; exact hz, fun q h1 h2 => by rw [e1]; exact hk q h1 h2,
    ⟨Nat.le_trans hS.1 (by rw [e1]; exact hz), fun q h1 h2 => by rw [e1, hk q (Nat.lt_of_lt_of_le h1 hS.1) (fun z => h2 (hA q (Nat.lt_of_lt_of_le h1 hS.1) z))]; exact hS.2.1 q h1 h2, fun q hq => by
      rcases List.mem_append.mp hq with h | h
      · exact hS.2.2 q h
      · exact hf _ (hL q h)⟩⟩
theorem vx_calli {S SX : Type} {post : Int32 → S → Prop} {px : SX → Prop} {B : S → State → Prop} {BX : String → SX → State → Prop} {AX : Nat → Prop} (hr : vx_Run p l e R s m args below meth c H locs cells slots mc ms (F0 m pc ls st0) rest (va_Qi post B A1 a) (vx_X px BX AX) free) (hS : va_S A0 H0 H locs) (hA : ∀ q, q < H.size → A1 q → A0 q) (hf : ∀ q, free q → A0 q) (hAX : ∀ q, q < H.size → AX q → A0 q)
    (kx : ∀ (E : String) (ce : Cell) (q9 : Addr) (u : SX) (t : State) (H1 : Heap) (locs1 : List Loc), t.heap = H1 → s.vm.Alike t.vm → px u → BX E u t → H.size ≤ H1.size → (∀ q : Nat, q < H.size → ¬ AX q → H1[q]? = H[q]?) → va_S A0 H0 H1 locs1 → H1[q9]? = some ce → ce.vm = .none → s.vm.findClass E = some ce.cls → vx_W p l e R s m args below meth c H1 locs1 (cells + mc) (slots + ms) Q (F0 m pc ls rest) q9)
    (kk : ∀ (r : Int32) (u : S) (t : State) (H1 : Heap) (locs1 : List Loc), t.heap = H1 → s.vm.Alike t.vm → post r u → B u t → H.size ≤ H1.size → (∀ q : Nat, q < H.size → ¬ A1 q → H1[q]? = H[q]?) → va_S A0 H0 H1 locs1 → W p l e R s m args below meth c H1 locs1 (cells + mc) (slots + ms) Q (F0 m (pc + 3) ls (.int r :: rest))) : W p l e R s m args below meth c H locs cells slots Q (F0 m pc ls st0) := by
  intro T hT X
  rcases hr T hT X with ⟨v, st₀, t, T', L, h0, X', hL, e1, e2, ⟨⟨r, u, hv, hp, hb⟩, hF⟩, st⟩ | ⟨q, st₀, t, T', L, E, ce, h0, X', hL, e1, e2, ⟨u, hp, hb, hF⟩, hce, hcv, hcl, st⟩
  · cases hv
    obtain ⟨k1, k2, k3⟩ := vx_keep h0 e1 hS hA hf hL hF
    obtain ⟨t2, a1, b1⟩ := kk r u t T'.heap (locs ++ L) e1.symm (by rw [← e2]; exact X'.warmed.alike) hp hb k1 k2 k3 T' rfl X'
    exact ⟨t2, st t2 a1, b1⟩
  · obtain ⟨k1, k2, k3⟩ := vx_keep h0 e1 hS hAX hf hL hF
    obtain ⟨t2, a1, b1⟩ := kx E ce q u t T'.heap (locs ++ L) e1.symm (by rw [← e2]; exact X'.warmed.alike) hp hb k1 k2 k3 (by rw [e1]; exact hce) hcv hcl T' rfl X'
    exact ⟨t2, st.trans a1, b1⟩
theorem vx_calll {S SX : Type} {post : Int64 → S → Prop} {px : SX → Prop} {B : S → State → Prop} {BX : String → SX → State → Prop} {AX : Nat → Prop} (hr : vx_Run p l e R s m args below meth c H locs cells slots mc ms (F0 m pc ls st0) rest (va_Ql post B A1 a) (vx_X px BX AX) free) (hS : va_S A0 H0 H locs) (hA : ∀ q, q < H.size → A1 q → A0 q) (hf : ∀ q, free q → A0 q) (hAX : ∀ q, q < H.size → AX q → A0 q)
    (kx : ∀ (E : String) (ce : Cell) (q9 : Addr) (u : SX) (t : State) (H1 : Heap) (locs1 : List Loc), t.heap = H1 → s.vm.Alike t.vm → px u → BX E u t → H.size ≤ H1.size → (∀ q : Nat, q < H.size → ¬ AX q → H1[q]? = H[q]?) → va_S A0 H0 H1 locs1 → H1[q9]? = some ce → ce.vm = .none → s.vm.findClass E = some ce.cls → vx_W p l e R s m args below meth c H1 locs1 (cells + mc) (slots + ms) Q (F0 m pc ls rest) q9)
    (kk : ∀ (r : Int64) (u : S) (t : State) (H1 : Heap) (locs1 : List Loc), t.heap = H1 → s.vm.Alike t.vm → post r u → B u t → H.size ≤ H1.size → (∀ q : Nat, q < H.size → ¬ A1 q → H1[q]? = H[q]?) → va_S A0 H0 H1 locs1 → W p l e R s m args below meth c H1 locs1 (cells + mc) (slots + ms) Q (F0 m (pc + 3) ls (.long r :: rest))) : W p l e R s m args below meth c H locs cells slots Q (F0 m pc ls st0) := by
  intro T hT X
  rcases hr T hT X with ⟨v, st₀, t, T', L, h0, X', hL, e1, e2, ⟨⟨r, u, hv, hp, hb⟩, hF⟩, st⟩ | ⟨q, st₀, t, T', L, E, ce, h0, X', hL, e1, e2, ⟨u, hp, hb, hF⟩, hce, hcv, hcl, st⟩
  · cases hv
    obtain ⟨k1, k2, k3⟩ := vx_keep h0 e1 hS hA hf hL hF
    obtain ⟨t2, a1, b1⟩ := kk r u t T'.heap (locs ++ L) e1.symm (by rw [← e2]; exact X'.warmed.alike) hp hb k1 k2 k3 T' rfl X'
    exact ⟨t2, st t2 a1, b1⟩
  · obtain ⟨k1, k2, k3⟩ := vx_keep h0 e1 hS hAX hf hL hF
    obtain ⟨t2, a1, b1⟩ := kx E ce q u t T'.heap (locs ++ L) e1.symm (by rw [← e2]; exact X'.warmed.alike) hp hb k1 k2 k3 (by rw [e1]; exact hce) hcv hcl T' rfl X'
    exact ⟨t2, st.trans a1, b1⟩
theorem vx_callf {S SX : Type} {post : UInt32 → S → Prop} {px : SX → Prop} {B : S → State → Prop} {BX : String → SX → State → Prop} {AX : Nat → Prop} (hr : vx_Run p l e R s m args below meth c H locs cells slots mc ms (F0 m pc ls st0) rest (va_Qf post B A1 a) (vx_X px BX AX) free) (hS : va_S A0 H0 H locs) (hA : ∀ q, q < H.size → A1 q → A0 q) (hf : ∀ q, free q → A0 q) (hAX : ∀ q, q < H.size → AX q → A0 q)
    (kx : ∀ (E : String) (ce : Cell) (q9 : Addr) (u : SX) (t : State) (H1 : Heap) (locs1 : List Loc), t.heap = H1 → s.vm.Alike t.vm → px u → BX E u t → H.size ≤ H1.size → (∀ q : Nat, q < H.size → ¬ AX q → H1[q]? = H[q]?) → va_S A0 H0 H1 locs1 → H1[q9]? = some ce → ce.vm = .none → s.vm.findClass E = some ce.cls → vx_W p l e R s m args below meth c H1 locs1 (cells + mc) (slots + ms) Q (F0 m pc ls rest) q9)
    (kk : ∀ (r : UInt32) (u : S) (t : State) (H1 : Heap) (locs1 : List Loc), t.heap = H1 → s.vm.Alike t.vm → post r u → B u t → H.size ≤ H1.size → (∀ q : Nat, q < H.size → ¬ A1 q → H1[q]? = H[q]?) → va_S A0 H0 H1 locs1 → W p l e R s m args below meth c H1 locs1 (cells + mc) (slots + ms) Q (F0 m (pc + 3) ls (.float r :: rest))) : W p l e R s m args below meth c H locs cells slots Q (F0 m pc ls st0) := by
  intro T hT X
  rcases hr T hT X with ⟨v, st₀, t, T', L, h0, X', hL, e1, e2, ⟨⟨r, u, hv, hp, hb⟩, hF⟩, st⟩ | ⟨q, st₀, t, T', L, E, ce, h0, X', hL, e1, e2, ⟨u, hp, hb, hF⟩, hce, hcv, hcl, st⟩
  · cases hv
    obtain ⟨k1, k2, k3⟩ := vx_keep h0 e1 hS hA hf hL hF
    obtain ⟨t2, a1, b1⟩ := kk r u t T'.heap (locs ++ L) e1.symm (by rw [← e2]; exact X'.warmed.alike) hp hb k1 k2 k3 T' rfl X'
    exact ⟨t2, st t2 a1, b1⟩
  · obtain ⟨k1, k2, k3⟩ := vx_keep h0 e1 hS hAX hf hL hF
    obtain ⟨t2, a1, b1⟩ := kx E ce q u t T'.heap (locs ++ L) e1.symm (by rw [← e2]; exact X'.warmed.alike) hp hb k1 k2 k3 (by rw [e1]; exact hce) hcv hcl T' rfl X'
    exact ⟨t2, st.trans a1, b1⟩
theorem vx_calld {S SX : Type} {post : UInt64 → S → Prop} {px : SX → Prop} {B : S → State → Prop} {BX : String → SX → State → Prop} {AX : Nat → Prop} (hr : vx_Run p l e R s m args below meth c H locs cells slots mc ms (F0 m pc ls st0) rest (va_Qd post B A1 a) (vx_X px BX AX) free) (hS : va_S A0 H0 H locs) (hA : ∀ q, q < H.size → A1 q → A0 q) (hf : ∀ q, free q → A0 q) (hAX : ∀ q, q < H.size → AX q → A0 q)
    (kx : ∀ (E : String) (ce : Cell) (q9 : Addr) (u : SX) (t : State) (H1 : Heap) (locs1 : List Loc), t.heap = H1 → s.vm.Alike t.vm → px u → BX E u t → H.size ≤ H1.size → (∀ q : Nat, q < H.size → ¬ AX q → H1[q]? = H[q]?) → va_S A0 H0 H1 locs1 → H1[q9]? = some ce → ce.vm = .none → s.vm.findClass E = some ce.cls → vx_W p l e R s m args below meth c H1 locs1 (cells + mc) (slots + ms) Q (F0 m pc ls rest) q9)
    (kk : ∀ (r : UInt64) (u : S) (t : State) (H1 : Heap) (locs1 : List Loc), t.heap = H1 → s.vm.Alike t.vm → post r u → B u t → H.size ≤ H1.size → (∀ q : Nat, q < H.size → ¬ A1 q → H1[q]? = H[q]?) → va_S A0 H0 H1 locs1 → W p l e R s m args below meth c H1 locs1 (cells + mc) (slots + ms) Q (F0 m (pc + 3) ls (.double r :: rest))) : W p l e R s m args below meth c H locs cells slots Q (F0 m pc ls st0) := by
  intro T hT X
  rcases hr T hT X with ⟨v, st₀, t, T', L, h0, X', hL, e1, e2, ⟨⟨r, u, hv, hp, hb⟩, hF⟩, st⟩ | ⟨q, st₀, t, T', L, E, ce, h0, X', hL, e1, e2, ⟨u, hp, hb, hF⟩, hce, hcv, hcl, st⟩
  · cases hv
    obtain ⟨k1, k2, k3⟩ := vx_keep h0 e1 hS hA hf hL hF
    obtain ⟨t2, a1, b1⟩ := kk r u t T'.heap (locs ++ L) e1.symm (by rw [← e2]; exact X'.warmed.alike) hp hb k1 k2 k3 T' rfl X'
    exact ⟨t2, st t2 a1, b1⟩
  · obtain ⟨k1, k2, k3⟩ := vx_keep h0 e1 hS hAX hf hL hF
    obtain ⟨t2, a1, b1⟩ := kx E ce q u t T'.heap (locs ++ L) e1.symm (by rw [← e2]; exact X'.warmed.alike) hp hb k1 k2 k3 (by rw [e1]; exact hce) hcv hcl T' rfl X'
    exact ⟨t2, st.trans a1, b1⟩
theorem vx_callv {S SX : Type} {post : S → Prop} {px : SX → Prop} {B : S → State → Prop} {BX : String → SX → State → Prop} {AX : Nat → Prop} (hr : vx_Run p l e R s m args below meth c H locs cells slots mc ms (F0 m pc ls st0) rest (va_Qv post B A1 a) (vx_X px BX AX) free) (hS : va_S A0 H0 H locs) (hA : ∀ q, q < H.size → A1 q → A0 q) (hf : ∀ q, free q → A0 q) (hAX : ∀ q, q < H.size → AX q → A0 q)
    (kx : ∀ (E : String) (ce : Cell) (q9 : Addr) (u : SX) (t : State) (H1 : Heap) (locs1 : List Loc), t.heap = H1 → s.vm.Alike t.vm → px u → BX E u t → H.size ≤ H1.size → (∀ q : Nat, q < H.size → ¬ AX q → H1[q]? = H[q]?) → va_S A0 H0 H1 locs1 → H1[q9]? = some ce → ce.vm = .none → s.vm.findClass E = some ce.cls → vx_W p l e R s m args below meth c H1 locs1 (cells + mc) (slots + ms) Q (F0 m pc ls rest) q9)
    (kk : ∀ (u : S) (t : State) (H1 : Heap) (locs1 : List Loc), t.heap = H1 → s.vm.Alike t.vm → post u → B u t → H.size ≤ H1.size → (∀ q : Nat, q < H.size → ¬ A1 q → H1[q]? = H[q]?) → va_S A0 H0 H1 locs1 → W p l e R s m args below meth c H1 locs1 (cells + mc) (slots + ms) Q (F0 m (pc + 3) ls (rest))) : W p l e R s m args below meth c H locs cells slots Q (F0 m pc ls st0) := by
  intro T hT X
  rcases hr T hT X with ⟨v, st₀, t, T', L, h0, X', hL, e1, e2, ⟨⟨u, hv, hp, hb⟩, hF⟩, st⟩ | ⟨q, st₀, t, T', L, E, ce, h0, X', hL, e1, e2, ⟨u, hp, hb, hF⟩, hce, hcv, hcl, st⟩
  · cases hv
    obtain ⟨k1, k2, k3⟩ := vx_keep h0 e1 hS hA hf hL hF
    obtain ⟨t2, a1, b1⟩ := kk u t T'.heap (locs ++ L) e1.symm (by rw [← e2]; exact X'.warmed.alike) hp hb k1 k2 k3 T' rfl X'
    exact ⟨t2, st t2 a1, b1⟩
  · obtain ⟨k1, k2, k3⟩ := vx_keep h0 e1 hS hAX hf hL hF
    obtain ⟨t2, a1, b1⟩ := kx E ce q u t T'.heap (locs ++ L) e1.symm (by rw [← e2]; exact X'.warmed.alike) hp hb k1 k2 k3 (by rw [e1]; exact hce) hcv hcl T' rfl X'
    exact ⟨t2, st.trans a1, b1⟩
/-- caught by the row x of this method's table; the rows ahead don't take it -/
theorem vx_catch {own name : String} {E : String} {ce : Cell} {q : Addr} (hown : s.vm.findClass own = some m.cls) (pre : List ExceptionTableEntry) (x : ExceptionTableEntry) (suf : List ExceptionTableEntry) (hsplit : c.exceptionTable.toList = pre ++ x :: suf)
    (hpass : ∀ z ∈ pre, covers z pc = false ∨ (z.catchType ≠ 0 ∧ ∃ nm : String, (Cond.classLink own z.catchType nm).before args s = true ∧ va_Nc E nm s)) (hx : covers x pc = true) (h0 : x.catchType ≠ 0)
    (hlink : (Cond.classLink own x.catchType name).before args s = true) (hcast : (Cond.castable E name).before args s = true) (hcell : H[q]? = some ce) (hv : ce.vm = .none) (hcl : s.vm.findClass E = some ce.cls)
    (kk : W p l e R s m args below meth c H locs cells slots Q (F0 m x.handlerPc ls [.ref q])) : vx_W p l e R s m args below meth c H locs cells slots Q (F0 m pc ls rest) q := by
  intro T hT X
  have hpl : e.platform.magicAccessors = ({} : Platform).magicAccessors := by rw [X.admits.platform]
  obtain ⟨c3, c4, hc3, hc4, hasg⟩ := Cond.castable_spec hcast
  cases Option.some.inj (hc3.symm.trans hcl)
  obtain ⟨c5, hc5, hcl5⟩ := Cond.classLink_spec hown hlink e.platform hpl
  cases Option.some.inj (hc4.symm.trans hc5)
  obtain ⟨vm', X', st⟩ := X.thenCaughtThrough q (g := F0 m pc ls rest) rfl (Steps.refl _) (by rw [hT]; exact hcell) (by rw [hv]; rfl) (by obtain ⟨k9, h9, -⟩ := Vm.findClass_spec hcl; exact ⟨k9, h9⟩) pre x suf hsplit
    (fun z hz => by
      rcases hpass z hz with h | ⟨hz0, nm, hl1, hn1⟩
      · exact Or.inl h
      · obtain ⟨c6, hc6, hcl6⟩ := Cond.classLink_spec hown hl1 e.platform hpl
        obtain ⟨a8, b8, h1, h2, h3⟩ := hn1
        cases Option.some.inj (h1.symm.trans hcl)
        cases Option.some.inj (h2.symm.trans hc6)
        exact Or.inr ⟨hz0, _, hcl6, h3⟩) hx (Or.inr ⟨h0, c4, hcl5, hasg⟩)
  obtain ⟨t, a1, b1⟩ := kk (T.setVm vm') hT X'
  exact ⟨t, st.trans a1, b1⟩
end Rows
section Ends
variable {p : Program} {l : Launch} {e : Env} {R : Room} {s : State} {m : MethodId} {args : Array Value} {below : List Frame} {meth : Method} {c : Code} {H : Heap} {locs : List Loc} {cells slots : Nat} {Q : State → Prop}
variable {mc ms : Nat} {free : Addr → Prop} {A0 A1 : Nat → Prop} {H0 : Heap} {a : Array Value} {ls : Array Slot} {st0 rest : List Value}
variable {Qc : Array Value → State → Outcome → State → Prop} {XC : String → State → State → Prop}
/-- what a body that may throw owes at its end -/
def vx_MQ (below : List Frame) (Qc : Array Value → State → Outcome → State → Prop) (XC : String → State → State → Prop) (a : Array Value) (s : State) (mc ms : Nat) (free : Addr → Prop) : State → Prop := fun t =>
  ∃ o, t.status = .running ∧ Ended t below o ∧ vx_Q Qc XC mc ms free a s o t
theorem vx_ret {g : JFrame} {mc ms : Nat} (k : W p l e R s m args below meth c H locs cells slots (MQ below Qc args s mc ms free) g) : W p l e R s m args below meth c H locs cells slots (vx_MQ below Qc XC args s mc ms free) g := by
  intro T hT X
  obtain ⟨t, a1, o, b1, b2, b3, b4⟩ := k T hT X
  exact ⟨t, a1, o, b1, b2, Or.inl ⟨b3, b4⟩⟩
/-- not caught here: it goes on to the caller -/
theorem vx_widen {g : JFrame} {q : Addr} {k n : Nat} (h1 : cells ≤ k) (h2 : slots ≤ n) (kk : vx_W p l e R s m args below meth c H locs k n Q g q) : vx_W p l e R s m args below meth c H locs cells slots Q g q := fun T hT X => kk T hT (stand_widen X h1 h2)
theorem vx_out {pc : Nat} {E : String} {ce : Cell} {q : Addr} {mc ms : Nat} (hout : ∀ x ∈ c.exceptionTable.toList, covers x pc = false) (hlocks : meth.locks = false) (hcell : H[q]? = some ce) (hv : ce.vm = .none) (hcl : s.vm.findClass E = some ce.cls)
    (hx : ∀ t : State, t.heap = H → s.vm.Alike t.vm → XC E s t) (hf : ∀ z ∈ locs, free z.base) (hc : cells ≤ mc) (hs : slots ≤ ms) :
    vx_W p l e R s m args below meth c H locs cells slots (vx_MQ below Qc XC args s mc ms free) (F0 m pc ls rest) q := by
  intro T hT X
  obtain ⟨st1, hrun, hend, hW, hsm⟩ := X.leaveThrown q (g := F0 m pc ls rest) rfl rfl rfl hout hlocks
  have hcell9 : (T.setFrames (.throwing q :: below)).heap[q]? = some ce := by
    show T.heap[q]? = some ce
    rw [hT]; exact hcell
  exact ⟨_, st1, .threw q, hrun, hend, Or.inr ⟨q, rfl, E, ce, locs, hx _ hT hW.alike, hcell9, hv, hcl, hW, hsm.mono hc hs, hf⟩⟩
theorem vx_frame {U : State} {k n : Nat} (h : s.sameButNew ({ U with vm := s.vm } : State) locs k n) : s.heap.size ≤ U.heap.size ∧ ∀ q : Nat, q < s.heap.size → (∀ z ∈ locs, z.base ≠ q) → U.heap[q]? = s.heap[q]? := by
  obtain ⟨-, h2, -, -, -, h6⟩ := h
  refine ⟨h2, fun q hq hz => ?_⟩
  obtain ⟨c9, e1, e2, e3, e4⟩ := h6 q _ (Array.getElem?_eq_getElem hq)
  have hs : c9.slots = (s.heap[q]).slots := Array.ext_getElem? fun i => e4 i fun hm => hz _ hm rfl
  have h9 : c9 = s.heap[q] := by
    rw [hs] at e2
    exact e2
  have e5 : U.heap[q]? = some c9 := e1
  rw [e5, h9, Array.getElem?_eq_getElem hq]
/-- the words of a throw but the four that speak of the heap -/
def vx_no (w : Cond) : Bool := decide (w ≠ .isRef (.static Bundle.tN "UNASSIGNED_STACK" Bundle.steD)) && decide (w ≠ .isRef (.static Bundle.tN "SUPPRESSED_SENTINEL" Bundle.listD)) && decide (w ≠ .laysStatic Bundle.tN "UNASSIGNED_STACK" Bundle.steD) && decide (w ≠ .laysStatic Bundle.tN "SUPPRESSED_SENTINEL" Bundle.listD)
def vx_at0 (own : String) (ic : Nat) (X : String) (names : List String) : List Cond := (Bundle.ownAtoms0 own ic X names).filter vx_no
def vx_atS (own : String) (ic : Nat) (X : String) (names : List String) : List Cond := (Bundle.ownAtoms own ic X names).filter vx_no
/-- a word that the tables alone decide, or a good one -/
def vx_ot (w : Cond) : Bool := w.onTables || goodWord w
theorem vx_ot_at {args a' : Array Value} {s U : State} {w : Cond} (hW : s.WarmedH U.vm) (hvm : s.vm = U.vm) (hg : vx_ot w = true) (h : w.before args s = true) : w.before a' U = true := by
  simp only [vx_ot, Bool.or_eq_true] at hg
  rcases hg with hg | hg
  · exact va_tabs hg hvm h
  · exact word_at hW (good_of_word hg) h
/-- a list's words: the good ones out of the method's own list, the others by premises of their own -/
theorem vx_hat {args : Array Value} {s : State} {L B : List Cond} (h1 : ∀ w ∈ L.filter goodWord, w.before args s = true) (h2 : ∀ w ∈ L.filter (fun w => !goodWord w), w ∈ B) (h3 : ∀ w ∈ B, w.before args s = true) : ∀ w ∈ L, w.before args s = true := by
  intro w hw
  by_cases g : goodWord w = true
  · exact h1 w (List.mem_filter.mpr ⟨hw, g⟩)
  · refine h3 w (h2 w (List.mem_filter.mpr ⟨hw, ?_⟩))
    show (!goodWord w) = true
    cases hgw : goodWord w
    · rfl
    · exact absurd hgw g
theorem vx_c {args : Array Value} {s : State} {w : Cond} {B : List Cond} (h : w.before args s = true) (t : ∀ w ∈ B, w.before args s = true) : ∀ w' ∈ w :: B, w'.before args s = true := fun w' h' => (List.mem_cons.mp h').elim (fun e => by rw [e]; exact h) (t w')
theorem vx_n {args : Array Value} {s : State} : ∀ w ∈ ([] : List Cond), w.before args s = true := fun _ h => nomatch h
theorem vx_own {args : Array Value} {s : State} {L : List Cond} (h1 : ∀ w ∈ L.filter vx_no, w.before args s = true)
    (hU : (Cond.isRef (.static Bundle.tN "UNASSIGNED_STACK" Bundle.steD)).before args s = true) (hN : (Cond.isRef (.static Bundle.tN "SUPPRESSED_SENTINEL" Bundle.listD)).before args s = true)
    (lU : (Cond.laysStatic Bundle.tN "UNASSIGNED_STACK" Bundle.steD).before args s = true) (lN : (Cond.laysStatic Bundle.tN "SUPPRESSED_SENTINEL" Bundle.listD).before args s = true) : ∀ w ∈ L, w.before args s = true := by
  intro w hw
  by_cases e1 : w = .isRef (.static Bundle.tN "UNASSIGNED_STACK" Bundle.steD)
  · rw [e1]; exact hU
  · by_cases e2 : w = .isRef (.static Bundle.tN "SUPPRESSED_SENTINEL" Bundle.listD)
    · rw [e2]; exact hN
    · by_cases e3 : w = .laysStatic Bundle.tN "UNASSIGNED_STACK" Bundle.steD
      · rw [e3]; exact lU
      · by_cases e4 : w = .laysStatic Bundle.tN "SUPPRESSED_SENTINEL" Bundle.listD
        · rw [e4]; exact lN
        · exact h1 w (List.mem_filter.mpr ⟨hw, by unfold vx_no; rw [decide_eq_true e1, decide_eq_true e2, decide_eq_true e3, decide_eq_true e4]; rfl⟩)
/-- where a static field lies, its class's statics cell in H -/
def vx_L (C n d : String) (A : Nat → Prop) (U : State) (H : Heap) : Prop := ∃ (c : ClassId) (k : Class) (i : Nat) (f : Field) (a : Nat) (cell : Cell), U.vm.findClass C = some c ∧ U.fieldFound? C n d = some (c, k, i, f) ∧ f.isStatic = true ∧ k.statics = some a ∧ H[a]? = some cell ∧ cell.vm.isStatics = true ∧ cell.cls = c ∧ f.slot < cell.slots.size ∧ k.staticTypes[f.slot]? = some f.type ∧ ¬ A a
theorem vx_L.moved {C n d : String} {A : Nat → Prop} {u U : State} {H : Heap} (hvm : u.vm.Alike U.vm) (h : vx_L C n d A u H) : vx_L C n d A U H := by
  obtain ⟨c, k, i, f, a, cell, h1, h2, h3, h4, h5, h6, h7, h8, h9, h10⟩ := h
  obtain ⟨k', hi', he⟩ := State.fieldFound?_setVm hvm h2
  exact ⟨c, k', i, f, a, cell, by rw [hvm.findClass]; exact h1, hi', h3, by rw [he]; exact h4, h5, h6, h7, h8, by rw [he]; exact h9, h10⟩
theorem vx_L.kept {C n d : String} {A : Nat → Prop} {U : State} {H H1 : Heap} (h : vx_L C n d A U H) (hq : ∀ a : Nat, a < H.size → ¬ A a → H1[a]? = H[a]?) : vx_L C n d A U H1 := by
  obtain ⟨c, k, i, f, a, cell, h1, h2, h3, h4, h5, h6, h7, h8, h9, h10⟩ := h
  exact ⟨c, k, i, f, a, cell, h1, h2, h3, h4, by rw [hq a (Array.getElem?_eq_some_iff.mp h5).1 h10]; exact h5, h6, h7, h8, h9, h10⟩
theorem vx_L.narrow {C n d : String} {A B : Nat → Prop} {U : State} {H : Heap} (h : vx_L C n d A U H) (hAB : ∀ q, B q → A q) : vx_L C n d B U H := by
  obtain ⟨c, k, i, f, a, cell, h1, h2, h3, h4, h5, h6, h7, h8, h9, h10⟩ := h
  exact ⟨c, k, i, f, a, cell, h1, h2, h3, h4, h5, h6, h7, h8, h9, fun z => h10 (hAB _ z)⟩
theorem vx_L.word {C n d : String} {A : Nat → Prop} {s : State} {args : Array Value} (h : vx_L C n d A s s.heap) : (Cond.laysStatic C n d).before args s = true := by
  obtain ⟨c, k, i, f, a, cell, h1, h2, h3, h4, h5, h6, h7, h8, h9, -⟩ := h
  show (Cond.laysStatic C n d).holds args s none s [] = true
  exact Cond.laysStatic_of h1 h2 h3 h4 h5 h6 h7 h8 h9
/-- .. and what it holds: null or some reference -/
def vx_Zq (C n d : String) (A : Nat → Prop) (U : State) (H : Heap) : Prop := va_Zq C n d A U H ∧ vx_L C n d A U H
theorem vx_Zq.moved {C n d : String} {A : Nat → Prop} {u U : State} {H : Heap} (hvm : u.vm.Alike U.vm) (h : vx_Zq C n d A u H) : vx_Zq C n d A U H := ⟨va_Zq.moved hvm h.1, vx_L.moved hvm h.2⟩
theorem vx_Zq.kept {C n d : String} {A : Nat → Prop} {U : State} {H H1 : Heap} (h : vx_Zq C n d A U H) (hq : ∀ a : Nat, a < H.size → ¬ A a → H1[a]? = H[a]?) : vx_Zq C n d A U H1 := ⟨va_Zq.kept h.1 hq, vx_L.kept h.2 hq⟩
theorem vx_Zq.narrow {C n d : String} {A B : Nat → Prop} {U : State} {H : Heap} (h : vx_Zq C n d A U H) (hAB : ∀ q, B q → A q) : vx_Zq C n d B U H := ⟨va_Zq.narrow h.1 hAB, vx_L.narrow h.2 hAB⟩
theorem vx_Zqof {args : Array Value} {s : State} {C n d : String} {A : Nat → Prop} (hl : (Cond.laysStatic C n d).before args s = true) (hini : (Cond.initialized C).before args s = true) (h : (Cond.isRef (.static C n d)).before args s = true) (hA : ∀ a : Nat, a < s.heap.size → ¬ A a) : vx_Zq C n d A s s.heap := by
  refine ⟨va_Zqof hl hini h hA, ?_⟩
  obtain ⟨c, k, i, f, a, cell, h1, h2, h3, h4, h5, h6, h7, h8, h9⟩ := Cond.laysStatic_spec hl
  exact ⟨c, k, i, f, a, cell, h1, h2, h3, h4, h5, h6, h7, h8, h9, hA a (Array.getElem?_eq_some_iff.mp h5).1⟩
theorem vx_isRef {C n d : String} {v : Value} {A : Nat → Prop} {s : State} {args : Array Value} (h : va_Z C n d v A s s.heap) (hv : v.isRef = true) : (Cond.isRef (.static C n d)).before args s = true := by
  obtain ⟨cf, kf, fi, f, a, cell, h1, h2, h3, h4, h5, h6, h7, -⟩ := h
  have he : (Term.static C n d).eval args s none [] s = some v := by
    simp [Term.eval, State.fieldNamed?, h1, h2, h4, h5, h6, h7]
  simp only [Cond.before, Cond.holds, Cond.value, he]
  cases v <;> simp_all [Value.isRef]
theorem vx_isRefq {C n d : String} {A : Nat → Prop} {s : State} {args : Array Value} (h : va_Zq C n d A s s.heap) : (Cond.isRef (.static C n d)).before args s = true := by
  rcases h with h | ⟨t, h⟩
  · exact vx_isRef h rfl
  · exact vx_isRef h rfl
/-- the same frame, seen from here: as if the method were called anew in this heap -/
theorem vx_rebase {T : State} (X : Stand p l e R s m args below meth c T locs cells slots) {R' : Room} (hf : R'.frames ≤ R.frames) (hl : R'.locals ≤ R.locals) (hc : cells + R'.cells ≤ R.cells) (hs : slots + R'.slots ≤ R.slots) :
    Stand p l e R' ((T.setVm s.vm).setFrames (.invoking m args :: below)) m args below meth c T [] 0 0 := by
  have htop : (T.setVm s.vm).topJava?.isSome := X.here.top
  have hF : ((T.setVm s.vm).setFrames (.invoking m args :: below)).frames = .invoking m args :: below := State.frames_setFrames _ (State.cur_lt_of_top htop)
  obtain ⟨g₀, hg0⟩ := Option.isSome_iff_exists.mp htop
  obtain ⟨r, hr⟩ := State.topJava?_eq_some.mp hg0
  have hl9 : e.platform.stackLimits (T.setVm s.vm).me = e.platform.stackLimits s.me := X.limits
  have hb9 : (T.setVm s.vm).me.stackBytes = s.me.stackBytes := X.bytes
  refine ⟨X.admits, X.cas, X.clock, hF, ?_, X.hears, X.method, X.code, X.here, X.tail, X.warmed, ?_, ?_, ?_⟩
  · have h := X.room
    have hU : ((T.setVm s.vm).setFrames (.invoking m args :: below)).localsInUse = s.localsInUse := by
      rw [State.localsInUse_invoking hF (meth := meth) (c := c) X.method X.code, State.localsInUse_invoking X.frames X.method X.code]
    simp only [State.hasRoom, Bool.and_eq_true, decide_eq_true_eq] at h ⊢
    obtain ⟨⟨⟨⟨h1, h2, h3, h4, h5, h6⟩, h7⟩, h8⟩, h9⟩ := h
    rw [X.frames, List.length_cons] at h2 h3
    have q1 := X.heapSize
    have q2 := X.used
    simp only [hF, hU, List.length_cons, State.stackLimits_setFrames, State.stackBytes_setFrames, hl9, hb9]
    refine ⟨⟨⟨⟨by omega, by omega, by omega, by omega, by omega, h6⟩, ?_⟩, ?_⟩, X.book⟩
    · show T.heap.size + R'.cells ≤ e.platform.maxCells
      omega
    · show T.slotsUsed + R'.slots ≤ e.platform.maxSlots
      omega
  · rw [State.stackLimits_setFrames]; rfl
  · rw [State.stackBytes_setFrames]; rfl
  · refine ⟨?_, Nat.le_refl _, Nat.le_refl _, ?_, ?_, fun a c9 h9 => ⟨c9, h9, rfl, rfl, fun _ _ => rfl⟩⟩
    · obtain ⟨t, ht, -⟩ := State.frames_cons hr
      show T.setVm s.vm = { ((T.setVm s.vm).setFrames (.invoking m args :: below)).setFrames (T.setVm s.vm).frames with heap := T.heap, slotsUsed := T.slotsUsed }
      rw [State.setFrames_setFrames, State.setFrames_self ht]
      rfl
    · show T.slotsUsed = T.slotsUsed + ((T.heap.toList.drop T.heap.size).map (·.slots.size)).sum
      rw [List.drop_eq_nil_of_le (Nat.le_of_eq Array.length_toList)]
      rfl
    · show ((T.heap.toList.drop T.heap.size).map (·.slots.size)).sum ≤ 0
      rw [List.drop_eq_nil_of_le (Nat.le_of_eq Array.length_toList)]
      exact Nat.le_refl _
/-- 'throw new E()': new; dup; invokespecial; athrow -/
theorem vx_throw0 {cc : ByteArray} {pc : Nat} (hexec : p.tables.exec = Jvm.exec) (hb : c.code = cc) (hl : l.stackTraces = false) {own cls : String} {names : List String} {ik ic mc ms : Nat} {A : Nat → Prop}
    (hown : s.vm.findClass own = some m.cls) (hcls : Bundle.fit cls = true) (hnames : ∀ n ∈ names, Bundle.fit n = true)
    (hk : (Cond.classLink own ik cls).before args s = true) (hini : (Cond.initialized cls).before args s = true) (hat : ∀ w ∈ vx_at0 own ic cls names, w.before args s = true)
    (hgood : ∀ w ∈ Cond.classLink own ik cls :: Cond.initialized cls :: vx_at0 own ic cls names, vx_ot w = true)
    (hU : vx_Zq Bundle.tN "UNASSIGNED_STACK" Bundle.steD A s s.heap) (hN : vx_Zq Bundle.tN "SUPPRESSED_SENTINEL" Bundle.listD A s s.heap) (hS : va_S A s.heap H locs) (hsize : ls.size = c.maxLocals)
    (d0 : decode cc pc = .ok (.new ik, 3)) (d3 : decode cc (pc + 3) = .ok (.dup, 1)) (d4 : decode cc (pc + 4) = .ok (.invokespecial ic, 3)) (d7 : decode cc (pc + 7) = .ok (.athrow, 1))
    (hout : ∀ x ∈ c.exceptionTable.toList, covers x (pc + 7) = false)
    (hRframes : names.length + 3 < R.frames) (hRlocals : (rest.map fun v => v.category).sum + (13 * (names.length + 1) + 42) ≤ R.locals) (hRcells : cells + 1 ≤ R.cells) (hRslots : slots + 6 ≤ R.slots) (hlocks : meth.locks = false)
    (hx : ∀ t : State, s.vm.Alike t.vm → H.size ≤ t.heap.size → (∀ q : Nat, q < H.size → t.heap[q]? = H[q]?) → XC cls s t)
    (hf : ∀ z ∈ locs, free z.base) (hc : cells + 1 ≤ mc) (hs : slots + 6 ≤ ms) :
    W p l e R s m args below meth c H locs cells slots (vx_MQ below Qc XC args s mc ms free) (F0 m pc ls rest) := by
  intro T hT X
  have htr : e.platform.stackTraces = false := (show e.platform.stackTraces = l.stackTraces by rw [X.admits.platform]).trans hl
  have Y := vx_rebase X (R' := { frames := R.frames, locals := R.locals, cells := 1, slots := 6 }) (Nat.le_refl _) (Nat.le_refl _) hRcells hRslots
  obtain ⟨s', hA⟩ : ∃ z, z = (T.setVm s.vm).setFrames (.invoking m args :: below) := ⟨_, rfl⟩
  rw [← hA] at Y
  have hvm : s'.vm = s.vm := by rw [hA]; rfl
  have hhp : s'.heap = H := by rw [hA]; exact hT
  have hW0 : s.WarmedH s'.vm := by rw [hvm]; exact State.WarmedH.refl s
  have hat' : ∀ w ∈ vx_at0 own ic cls names, w.before args s' = true := fun w hw => vx_ot_at hW0 hvm.symm (hgood w (List.mem_cons_of_mem _ (List.mem_cons_of_mem _ hw))) (hat w hw)
  have hk' : (Cond.classLink own ik cls).before args s' = true := vx_ot_at hW0 hvm.symm (hgood _ List.mem_cons_self) hk
  have hini' : (Cond.initialized cls).before args s' = true := vx_ot_at hW0 hvm.symm (hgood _ (List.mem_cons_of_mem _ List.mem_cons_self)) hini
  have hU' : vx_Zq Bundle.tN "UNASSIGNED_STACK" Bundle.steD A s' s'.heap := by rw [hhp]; exact vx_Zq.moved hW0.alike (hU.kept hS.2.1)
  have hN' : vx_Zq Bundle.tN "SUPPRESSED_SENTINEL" Bundle.listD A s' s'.heap := by rw [hhp]; exact vx_Zq.moved hW0.alike (hN.kept hS.2.1)
  have h : ∀ w ∈ Bundle.ownAtoms0 own ic cls names, w.before args s' = true := vx_own hat' (vx_isRefq hU'.1) (vx_isRefq hN'.1) hU'.2.word hN'.2.word
  have hown' : s'.vm.findClass own = some m.cls := by rw [hvm]; exact hown
  have hins : (Cond.instantiable cls 6).before args s' = true := h _ (by simp [Bundle.ownAtoms0])
  obtain ⟨vm₁, cX, kX, hfX, hkX, -, -, X₁, st1⟩ := Y.newCold hexec (own := own) (C := cls) (index := ik) (n := 6) hown' hk' hins hini'
    (g := F0 m pc ls rest) rfl (by rw [hb]; exact d0) (Nat.le_refl _) (Nat.le_refl _)
  generalize hT1 : (T.setVm vm₁).pushCell { cls := cX, slots := kX.instanceTypes.map defaultValue, vm := .none } = T1 at X₁ st1
  have hcat : (Value.ref T.heap.size).category = 1 := rfl
  have hcellA : T1.heap[T.heap.size]? = some (freshCell cX kX) := by rw [← hT1]; exact State.heap_pushCell_size _ _
  have d3' : decode c.code (pc + 3) = .ok (.dup, 1) := by rw [hb]; exact d3
  obtain ⟨U, hsteps, hrun, hend, hW, hsame, ce, hce, hO⟩ := X₁.ctorThrow0 hexec htr (own := own) (cls := cls) (names := names) (ic := ic) hown' hcls hnames h (fun x hx => nomatch hx) hfX hkX hcellA (by rw [hhp, hT]; exact Nat.le_refl _)
    (g := { method := m, pc := pc + 4, locals := ls, stack := .ref T.heap.size :: .ref T.heap.size :: rest, locked := none }) rfl hsize rfl rfl (rest := rest) rfl
    (by rw [hb]; exact d4) (by rw [hb]; exact d7) hout hRframes (by simp only [List.map_cons, List.sum_cons, hcat]; omega) hlocks
  obtain ⟨f1, f2⟩ := vx_frame hsame
  rw [hhp] at f1 f2
  have hWs : s.WarmedH U.vm := State.WarmedH.trans hW0 hW
  have hcl : s.vm.findClass cls = some ce.cls := by
    have h9 := hO.cls
    rw [hvm] at h9
    exact h9
  have hall : s.sameButNew ({ U with vm := s.vm } : State) locs mc ms := by
    subst hA
    obtain ⟨e1, e2⟩ := hsame
    rw [State.setFrames_setFrames] at e1
    have h2 : (T.setVm s.vm).sameButNew ({ U with vm := s.vm } : State) [] (0 + 1) (0 + 6) := ⟨e1, e2⟩
    have h3 := X.same.trans h2
    rw [List.append_nil] at h3
    exact h3.mono hc hs
  refine ⟨U, ?_, .threw T.heap.size, hrun, hend, Or.inr ⟨T.heap.size, rfl, cls, ce, locs, hx U hWs.alike f1 (fun q hq => f2 q hq (fun z hz => nomatch hz)), hce, hO.vm, hcl, hWs, hall, hf⟩⟩
  refine st1 _ ?_
  show Steps p.tables e below (T1.setTop { method := m, pc := pc + 3, locals := ls, stack := .ref T.heap.size :: rest, locked := none }) _
  jvm_step X₁.here [X₁.here.top, hexec, d3', Value.category]
  exact hsteps
/-- 'throw new E("text")': new; dup; ldc; invokespecial; athrow -/
theorem vx_throwS {cc : ByteArray} {pc : Nat} (hexec : p.tables.exec = Jvm.exec) (hb : c.code = cc) (hl : l.stackTraces = false) {own cls text : String} {names : List String} {ik is ic mc ms sa : Nat} {A : Nat → Prop}
    (hown : s.vm.findClass own = some m.cls) (hcls : Bundle.fit cls = true) (hnames : ∀ n ∈ names, Bundle.fit n = true)
    (hk : (Cond.classLink own ik cls).before args s = true) (hini : (Cond.initialized cls).before args s = true) (hstr : vk_R own is text sa s) (hat : ∀ w ∈ vx_atS own ic cls names, w.before args s = true)
    (hgood : ∀ w ∈ Cond.classLink own ik cls :: Cond.initialized cls :: vx_atS own ic cls names, vx_ot w = true)
    (hU : vx_Zq Bundle.tN "UNASSIGNED_STACK" Bundle.steD A s s.heap) (hN : vx_Zq Bundle.tN "SUPPRESSED_SENTINEL" Bundle.listD A s s.heap) (hS : va_S A s.heap H locs) (hsize : ls.size = c.maxLocals)
    (d0 : decode cc pc = .ok (.new ik, 3)) (d3 : decode cc (pc + 3) = .ok (.dup, 1)) (d4 : decode cc (pc + 4) = .ok (.ldc is, 2)) (d6 : decode cc (pc + 6) = .ok (.invokespecial ic, 3)) (d9 : decode cc (pc + 9) = .ok (.athrow, 1))
    (hout : ∀ x ∈ c.exceptionTable.toList, covers x (pc + 9) = false)
    (hRframes : names.length + 3 < R.frames) (hRlocals : (rest.map fun v => v.category).sum + (13 * (names.length + 1) + 43) ≤ R.locals) (hRcells : cells + 1 ≤ R.cells) (hRslots : slots + 6 ≤ R.slots) (hlocks : meth.locks = false)
    (hx : ∀ t : State, s.vm.Alike t.vm → H.size ≤ t.heap.size → (∀ q : Nat, q < H.size → t.heap[q]? = H[q]?) → XC cls s t)
    (hf : ∀ z ∈ locs, free z.base) (hc : cells + 1 ≤ mc) (hs : slots + 6 ≤ ms) :
    W p l e R s m args below meth c H locs cells slots (vx_MQ below Qc XC args s mc ms free) (F0 m pc ls rest) := by
  intro T hT X
  have htr : e.platform.stackTraces = false := (show e.platform.stackTraces = l.stackTraces by rw [X.admits.platform]).trans hl
  have Y := vx_rebase X (R' := { frames := R.frames, locals := R.locals, cells := 1, slots := 6 }) (Nat.le_refl _) (Nat.le_refl _) hRcells hRslots
  obtain ⟨s', hA⟩ : ∃ z, z = (T.setVm s.vm).setFrames (.invoking m args :: below) := ⟨_, rfl⟩
  rw [← hA] at Y
  have hvm : s'.vm = s.vm := by rw [hA]; rfl
  have hhp : s'.heap = H := by rw [hA]; exact hT
  have hW0 : s.WarmedH s'.vm := by rw [hvm]; exact State.WarmedH.refl s
  have hat' : ∀ w ∈ vx_atS own ic cls names, w.before args s' = true := fun w hw => vx_ot_at hW0 hvm.symm (hgood w (List.mem_cons_of_mem _ (List.mem_cons_of_mem _ hw))) (hat w hw)
  have hk' : (Cond.classLink own ik cls).before args s' = true := vx_ot_at hW0 hvm.symm (hgood _ List.mem_cons_self) hk
  have hini' : (Cond.initialized cls).before args s' = true := vx_ot_at hW0 hvm.symm (hgood _ (List.mem_cons_of_mem _ List.mem_cons_self)) hini
  have hU' : vx_Zq Bundle.tN "UNASSIGNED_STACK" Bundle.steD A s' s'.heap := by rw [hhp]; exact vx_Zq.moved hW0.alike (hU.kept hS.2.1)
  have hN' : vx_Zq Bundle.tN "SUPPRESSED_SENTINEL" Bundle.listD A s' s'.heap := by rw [hhp]; exact vx_Zq.moved hW0.alike (hN.kept hS.2.1)
  have h : ∀ w ∈ Bundle.ownAtoms own ic cls names, w.before args s' = true := vx_own hat' (vx_isRefq hU'.1) (vx_isRefq hN'.1) hU'.2.word hN'.2.word
  have hown' : s'.vm.findClass own = some m.cls := by rw [hvm]; exact hown
  have hins : (Cond.instantiable cls 6).before args s' = true := h _ (by simp [Bundle.ownAtoms])
  obtain ⟨vm₁, cX, kX, hfX, hkX, -, -, X₁, st1⟩ := Y.newCold hexec (own := own) (C := cls) (index := ik) (n := 6) hown' hk' hins hini'
    (g := F0 m pc ls rest) rfl (by rw [hb]; exact d0) (Nat.le_refl _) (Nat.le_refl _)
  generalize hT1 : (T.setVm vm₁).pushCell { cls := cX, slots := kX.instanceTypes.map defaultValue, vm := .none } = T1 at X₁ st1
  have hcat : (Value.ref T.heap.size).category = 1 := rfl
  have hcellA : T1.heap[T.heap.size]? = some (freshCell cX kX) := by rw [← hT1]; exact State.heap_pushCell_size _ _
  have d3' : decode c.code (pc + 3) = .ok (.dup, 1) := by rw [hb]; exact d3
  have d4' : decode c.code (pc + 4) = .ok (.ldc is, 2) := by rw [hb]; exact d4
  have hstr' : vk_R own is text sa s' := vk_R.warm hW0 hstr
  obtain ⟨U, hsteps, hrun, hend, hW, hsame, ce, hce, hO⟩ := X₁.ctorThrowS hexec htr (own := own) (cls := cls) (names := names) (ic := ic) hown' hcls hnames h (fun x hx => nomatch hx) hfX hkX hcellA (by rw [hhp, hT]; exact Nat.le_refl _) (msg := .ref sa) rfl
    (g := { method := m, pc := pc + 6, locals := ls, stack := .ref sa :: .ref T.heap.size :: .ref T.heap.size :: rest, locked := none }) rfl hsize rfl rfl (rest := rest) rfl
    (by rw [hb]; exact d6) (by rw [hb]; exact d9) hout hRframes (by simp only [List.map_cons, List.sum_cons, hcat]; omega) hlocks
  obtain ⟨f1, f2⟩ := vx_frame hsame
  rw [hhp] at f1 f2
  have hWs : s.WarmedH U.vm := State.WarmedH.trans hW0 hW
  have hcl : s.vm.findClass cls = some ce.cls := by
    have h9 := hO.cls
    rw [hvm] at h9
    exact h9
  have hall : s.sameButNew ({ U with vm := s.vm } : State) locs mc ms := by
    subst hA
    obtain ⟨e1, e2⟩ := hsame
    rw [State.setFrames_setFrames] at e1
    have h2 : (T.setVm s.vm).sameButNew ({ U with vm := s.vm } : State) [] (0 + 1) (0 + 6) := ⟨e1, e2⟩
    have h3 := X.same.trans h2
    rw [List.append_nil] at h3
    exact h3.mono hc hs
  refine ⟨U, ?_, .threw T.heap.size, hrun, hend, Or.inr ⟨T.heap.size, rfl, cls, ce, locs, hx U hWs.alike f1 (fun q hq => f2 q hq (fun z hz => nomatch hz)), hce, hO.vm, hcl, hWs, hall, hf⟩⟩
  refine st1 _ ?_
  show Steps p.tables e below (T1.setTop { method := m, pc := pc + 3, locals := ls, stack := .ref T.heap.size :: rest, locked := none }) _
  jvm_step X₁.here [X₁.here.top, hexec, d3', Value.category]
  exact X₁.ldcString hexec (own := own) (text := text) (index := is) (a := sa) hown' hstr'.1 hstr'.2
    (g := { method := m, pc := pc + 4, locals := ls, stack := .ref T.heap.size :: .ref T.heap.size :: rest, locked := none }) rfl d4' _ hsteps
/-- 'throw new E("text")', the text by a wide index -/
theorem vx_throwSW {cc : ByteArray} {pc : Nat} (hexec : p.tables.exec = Jvm.exec) (hb : c.code = cc) (hl : l.stackTraces = false) {own cls text : String} {names : List String} {ik is ic mc ms sa : Nat} {A : Nat → Prop}
    (hown : s.vm.findClass own = some m.cls) (hcls : Bundle.fit cls = true) (hnames : ∀ n ∈ names, Bundle.fit n = true)
    (hk : (Cond.classLink own ik cls).before args s = true) (hini : (Cond.initialized cls).before args s = true) (hstr : vk_R own is text sa s) (hat : ∀ w ∈ vx_atS own ic cls names, w.before args s = true)
    (hgood : ∀ w ∈ Cond.classLink own ik cls :: Cond.initialized cls :: vx_atS own ic cls names, vx_ot w = true)
    (hU : vx_Zq Bundle.tN "UNASSIGNED_STACK" Bundle.steD A s s.heap) (hN : vx_Zq Bundle.tN "SUPPRESSED_SENTINEL" Bundle.listD A s s.heap) (hS : va_S A s.heap H locs) (hsize : ls.size = c.maxLocals)
    (d0 : decode cc pc = .ok (.new ik, 3)) (d3 : decode cc (pc + 3) = .ok (.dup, 1)) (d4 : decode cc (pc + 4) = .ok (.ldc_w is, 3)) (d7 : decode cc (pc + 7) = .ok (.invokespecial ic, 3)) (d10 : decode cc (pc + 10) = .ok (.athrow, 1))
    (hout : ∀ x ∈ c.exceptionTable.toList, covers x (pc + 10) = false)
    (hRframes : names.length + 3 < R.frames) (hRlocals : (rest.map fun v => v.category).sum + (13 * (names.length + 1) + 43) ≤ R.locals) (hRcells : cells + 1 ≤ R.cells) (hRslots : slots + 6 ≤ R.slots) (hlocks : meth.locks = false)
    (hx : ∀ t : State, s.vm.Alike t.vm → H.size ≤ t.heap.size → (∀ q : Nat, q < H.size → t.heap[q]? = H[q]?) → XC cls s t)
    (hf : ∀ z ∈ locs, free z.base) (hc : cells + 1 ≤ mc) (hs : slots + 6 ≤ ms) :
    W p l e R s m args below meth c H locs cells slots (vx_MQ below Qc XC args s mc ms free) (F0 m pc ls rest) := by
  intro T hT X
  have htr : e.platform.stackTraces = false := (show e.platform.stackTraces = l.stackTraces by rw [X.admits.platform]).trans hl
  have Y := vx_rebase X (R' := { frames := R.frames, locals := R.locals, cells := 1, slots := 6 }) (Nat.le_refl _) (Nat.le_refl _) hRcells hRslots
  obtain ⟨s', hA⟩ : ∃ z, z = (T.setVm s.vm).setFrames (.invoking m args :: below) := ⟨_, rfl⟩
  rw [← hA] at Y
  have hvm : s'.vm = s.vm := by rw [hA]; rfl
  have hhp : s'.heap = H := by rw [hA]; exact hT
  have hW0 : s.WarmedH s'.vm := by rw [hvm]; exact State.WarmedH.refl s
  have hat' : ∀ w ∈ vx_atS own ic cls names, w.before args s' = true := fun w hw => vx_ot_at hW0 hvm.symm (hgood w (List.mem_cons_of_mem _ (List.mem_cons_of_mem _ hw))) (hat w hw)
  have hk' : (Cond.classLink own ik cls).before args s' = true := vx_ot_at hW0 hvm.symm (hgood _ List.mem_cons_self) hk
  have hini' : (Cond.initialized cls).before args s' = true := vx_ot_at hW0 hvm.symm (hgood _ (List.mem_cons_of_mem _ List.mem_cons_self)) hini
  have hU' : vx_Zq Bundle.tN "UNASSIGNED_STACK" Bundle.steD A s' s'.heap := by rw [hhp]; exact vx_Zq.moved hW0.alike (hU.kept hS.2.1)
  have hN' : vx_Zq Bundle.tN "SUPPRESSED_SENTINEL" Bundle.listD A s' s'.heap := by rw [hhp]; exact vx_Zq.moved hW0.alike (hN.kept hS.2.1)
  have h : ∀ w ∈ Bundle.ownAtoms own ic cls names, w.before args s' = true := vx_own hat' (vx_isRefq hU'.1) (vx_isRefq hN'.1) hU'.2.word hN'.2.word
  have hown' : s'.vm.findClass own = some m.cls := by rw [hvm]; exact hown
  have hins : (Cond.instantiable cls 6).before args s' = true := h _ (by simp [Bundle.ownAtoms])
  obtain ⟨vm₁, cX, kX, hfX, hkX, -, -, X₁, st1⟩ := Y.newCold hexec (own := own) (C := cls) (index := ik) (n := 6) hown' hk' hins hini'
    (g := F0 m pc ls rest) rfl (by rw [hb]; exact d0) (Nat.le_refl _) (Nat.le_refl _)
  generalize hT1 : (T.setVm vm₁).pushCell { cls := cX, slots := kX.instanceTypes.map defaultValue, vm := .none } = T1 at X₁ st1
  have hcat : (Value.ref T.heap.size).category = 1 := rfl
  have hcellA : T1.heap[T.heap.size]? = some (freshCell cX kX) := by rw [← hT1]; exact State.heap_pushCell_size _ _
  have d3' : decode c.code (pc + 3) = .ok (.dup, 1) := by rw [hb]; exact d3
  have d4' : decode c.code (pc + 4) = .ok (.ldc_w is, 3) := by rw [hb]; exact d4
  have hstr' : vk_R own is text sa s' := vk_R.warm hW0 hstr
  obtain ⟨U, hsteps, hrun, hend, hW, hsame, ce, hce, hO⟩ := X₁.ctorThrowS hexec htr (own := own) (cls := cls) (names := names) (ic := ic) hown' hcls hnames h (fun x hx => nomatch hx) hfX hkX hcellA (by rw [hhp, hT]; exact Nat.le_refl _) (msg := .ref sa) rfl
    (g := { method := m, pc := pc + 7, locals := ls, stack := .ref sa :: .ref T.heap.size :: .ref T.heap.size :: rest, locked := none }) rfl hsize rfl rfl (rest := rest) rfl
    (by rw [hb]; exact d7) (by rw [hb]; exact d10) hout hRframes (by simp only [List.map_cons, List.sum_cons, hcat]; omega) hlocks
  obtain ⟨f1, f2⟩ := vx_frame hsame
  rw [hhp] at f1 f2
  have hWs : s.WarmedH U.vm := State.WarmedH.trans hW0 hW
  have hcl : s.vm.findClass cls = some ce.cls := by
    have h9 := hO.cls
    rw [hvm] at h9
    exact h9
  have hall : s.sameButNew ({ U with vm := s.vm } : State) locs mc ms := by
    subst hA
    obtain ⟨e1, e2⟩ := hsame
    rw [State.setFrames_setFrames] at e1
    have h2 : (T.setVm s.vm).sameButNew ({ U with vm := s.vm } : State) [] (0 + 1) (0 + 6) := ⟨e1, e2⟩
    have h3 := X.same.trans h2
    rw [List.append_nil] at h3
    exact h3.mono hc hs
  refine ⟨U, ?_, .threw T.heap.size, hrun, hend, Or.inr ⟨T.heap.size, rfl, cls, ce, locs, hx U hWs.alike f1 (fun q hq => f2 q hq (fun z hz => nomatch hz)), hce, hO.vm, hcl, hWs, hall, hf⟩⟩
  refine st1 _ ?_
  show Steps p.tables e below (T1.setTop { method := m, pc := pc + 3, locals := ls, stack := .ref T.heap.size :: rest, locked := none }) _
  jvm_step X₁.here [X₁.here.top, hexec, d3', Value.category]
  exact X₁.ldcStringW hexec (own := own) (text := text) (index := is) (a := sa) hown' hstr'.1 hstr'.2
    (g := { method := m, pc := pc + 4, locals := ls, stack := .ref T.heap.size :: .ref T.heap.size :: rest, locked := none }) rfl d4' _ hsteps
end Ends
section Bodies
variable {l : Launch}
theorem vx_ofW {y : MethodName} {ws ws' : List Cond} {rm : Room} {Pc : Array Value → State → Prop} {Qc : Array Value → State → Outcome → State → Prop} {XC : String → State → State → Prop} {mc ms : Nat} {free : Addr → Prop} {cc : ByteArray} {maxL : Nat} {ret : Option FieldType}
    (hy : plainName y.cls = true) (hw : ws = Cond.code y cc maxL ret :: ws')
    (body : ∀ p e s m args below meth c s₁, BodyLoose p l y (headSpec ws rm) cc maxL ret e s m args below meth c s₁ → c.maxLocals = maxL → (∀ x ∈ c.exceptionTable.toList, False) → Pc args s →
      W p l e (headSpec ws rm).room s m args below meth c s.heap [] 0 0 (vx_MQ below Qc XC args s mc ms free) (entryFrame m args maxL)) : vx_Met l y ws rm Pc Qc XC mc ms free := by
  refine MetFree.of_bodyS (code := cc) (maxLocals := maxL) (ret := ret) hy ?_ ?_
  · intro args s m h hn
    obtain ⟨meth, c, h1, h2, h3, h4, h5, h6, -, -⟩ := Cond.code_spec hn (atoms_spec (ws := ws) h _ (by rw [hw]; exact List.mem_cons_self))
    exact ⟨meth, c, h1, h2, h3, h4, h5, h6⟩
  · intro p e s m args below meth c s₁ B hml hP _
    have hh0 : s₁.heap = s.heap := by rw [B.state]; rfl
    have ht : ∀ x ∈ c.exceptionTable.toList, False := by
      obtain ⟨meth9, c9, h1, h2, -, -, -, -, h7, -⟩ := Cond.code_spec B.named (atoms_spec (ws := ws) B.pre _ (by rw [hw]; exact List.mem_cons_self))
      cases Option.some.inj (h1.symm.trans B.method)
      cases Option.some.inj (h2.symm.trans (Stand.of_body B).code)
      intro x hx
      rw [Array.isEmpty_iff.mp h7] at hx
      cases hx
    obtain ⟨t, a1, o, b1, b2, b3⟩ := body p e s m args below meth c s₁ B hml ht hP s₁ hh0 (Stand.of_body B)
    exact ⟨t, o, a1, b1, b2, b3⟩
/-- the table of a body with handlers -/
theorem vx_table {p : Program} {x y : MethodName} {S : Spec} {cc bytes : ByteArray} {maxL maxL' : Nat} {ret ret' : Option FieldType} {e : Env} {s s₁ : State} {m : MethodId} {args : Array Value} {below : List Frame} {meth : Method} {c : Code} {hh : List (Nat × Nat × Nat × Nat)}
    (B : BodyLoose p l y S cc maxL ret e s m args below meth c s₁) (h : (Cond.codeWith y bytes maxL' ret' hh).before args s = true) : c.exceptionTable.toList = tableOf hh := by
  obtain ⟨m9, meth9, c9, hn9, h1, h2, -, -, h6, -⟩ := Cond.codeWith_spec h
  cases Option.some.inj (hn9.symm.trans B.named)
  cases Option.some.inj (h1.symm.trans B.method)
  cases Option.some.inj (h2.symm.trans (Stand.of_body B).code)
  rw [← h6, table_eq]
end Bodies
end VXA
/-! ===== END ===== -/
/-! ===== BEGIN a static call of a method with an exception table ===== -/
section VXS
variable {p : Program} {l : Launch} {e : Env} {R : Room} {s : State} {m : MethodId} {args : Array Value} {below : List Frame} {meth : Method} {c : Code} {T : State} {H : Heap} {locs : List Loc} {cells slots : Nat}
abbrev vx_CSW (R : Room) (s : State) (args : Array Value) (own : String) (index : Nat) (y : MethodName) (bytes : ByteArray) (maxL : Nat) (ret : Option FieldType) (hh : List (Nat × Nat × Nat × Nat)) (ws : List Cond) (rm : Room) (mc ms n : Nat) : Prop :=
  (rm.cells = mc ∧ rm.slots = ms ∧ rm.frames + 1 ≤ R.frames ∧ 8 + (maxL + 11) + rm.locals ≤ R.locals ∧ (∀ w ∈ ws, ∀ (a' : Array Value) (U : State), s.WarmedH U.vm → w.before a' U = true) ∧ Cond.codeWith y bytes maxL ret hh ∈ ws) ∧
  (Cond.codeWith y bytes maxL ret hh).before args s = true ∧ (Cond.initialized y.cls).before args s = true ∧ (y.cls ≠ "java/lang/invoke/MethodHandle" ∧ y.cls ≠ "java/lang/invoke/VarHandle") ∧
  (∀ sig, parseMethodDescriptor y.desc = some sig → n = sig.parameters.length) ∧ (Cond.methodLink own index y).before args s = true ∧ (Cond.static y).before args s = true
theorem vx_cwSW {own : String} {index maxL mc ms : Nat} {y : MethodName} {bytes : ByteArray} {ret : Option FieldType} {hh : List (Nat × Nat × Nat × Nat)} {Ts ws ws' : List Cond} {rm : Room} (n : Nat) (ht : ∀ w ∈ Ts, w.before args s = true) (hT : GoodIn Ts (va_wsS own index y ws)) (hw : ws = Cond.codeWith y bytes maxL ret hh :: ws') (hrc : rm.cells = mc) (hrs : rm.slots = ms)
    (hd : y.cls ≠ "java/lang/invoke/MethodHandle" ∧ y.cls ≠ "java/lang/invoke/VarHandle" ∧ (parseMethodDescriptor y.desc).map (fun d => d.parameters.length) = some n) (hR : rm.frames + 1 ≤ R.frames ∧ 8 + (maxL + 11) + rm.locals ≤ R.locals) :
    vx_CSW R s args own index y bytes maxL ret hh ws rm mc ms n := by
  have ok : ∀ w ∈ va_wsS own index y ws, w.before args s = true := fun w h => ht w (hT w h).1
  have hG : GoodIn Ts ws := fun w h => hT w (by unfold va_wsS; exact List.mem_append_right _ h)
  have hc : Cond.codeWith y bytes maxL ret hh ∈ ws := by rw [hw]; exact List.mem_cons_self
  refine ⟨⟨hrc, hrs, hR.1, hR.2, pay_in ht hG, hc⟩, ht _ (hG _ hc).1, ok _ (by simp [va_wsS]), ⟨hd.1, hd.2.1⟩, fun sig h => ?_, ok _ (by simp [va_wsS]), ok _ (by simp [va_wsS])⟩
  have h2 := hd.2.2
  rw [h] at h2
  exact (Option.some.inj h2).symm
theorem vx_callSW (X : Stand p l e R s m args below meth c T locs cells slots) (hexec : p.tables.exec = Jvm.exec) {own : String} {index : Nat} {y : MethodName} {bytes : ByteArray} {maxL : Nat} {ret : Option FieldType} {hh : List (Nat × Nat × Nat × Nat)}
    (hown : s.vm.findClass own = some m.cls) (hlink : (Cond.methodLink own index y).before args s = true) (hstat : (Cond.static y).before args s = true) (hinit : (Cond.initialized y.cls).before args s = true)
    (hcode : (Cond.codeWith y bytes maxL ret hh).before args s = true) (hy : y.cls ≠ "java/lang/invoke/MethodHandle" ∧ y.cls ≠ "java/lang/invoke/VarHandle")
    {W9 : Nat} {Pre : Pt → Array Value → Prop} {Post : Pt → Array Value → Option Value → Pt → Prop} (hK : Back l R p e below s args y 3 W9 Pre Post)
    {g : JFrame} (hg : g.method = m) (hsize : g.locals.size = c.maxLocals) {argsL rest : List Value} (hlen : ∀ sig, parseMethodDescriptor y.desc = some sig → argsL.length = sig.parameters.length)
    (hstack : g.stack = argsL.reverse ++ rest) (hW : 2 * g.monitorRoom + (rest.map fun v => v.category).sum ≤ W9) (hdg : decode c.code g.pc = .ok (.invokestatic index, 3))
    (hpre : ∀ vm₁, s.WarmedH vm₁ → Pre ⟨T.setVm vm₁, locs, cells, slots⟩ argsL.toArray) :
    ∃ (v : Option Value) (vm₁ : Vm) (B : Pt), s.WarmedH vm₁ ∧ Stand p l e R s m args below meth c B.U B.locs B.cells B.slots ∧ Post ⟨T.setVm vm₁, locs, cells, slots⟩ argsL.toArray v B ∧
      ∀ target, Steps p.tables e below (B.U.setTop { g with pc := g.pc + 3, stack := v.toList ++ rest }) target → Steps p.tables e below (T.setTop g) target := by
  obtain ⟨mk, methM, cM, hnamed, hmethM, -, -, -, -, -, -, hsigM⟩ := Cond.codeWith_spec hcode
  have hstatic : methM.isStatic = true := Cond.static_spec hnamed hmethM hstat
  obtain ⟨kP, hkP, -⟩ := className_of_methodNamed hnamed
  have hinitP : kP.init = .initialized := Cond.initialized_spec (findClass_of_methodNamed hnamed) hkP hinit
  obtain ⟨vm₁, X₁, hstep₁⟩ := X.invokestatic hexec hown hlink hnamed hmethM hstatic hkP hinitP hy (g := g) hg (argsL := argsL) (rest := rest) (hlen _ hsigM) hstack hdg
  obtain ⟨v, B, X', hpost, hsteps⟩ := hK m meth c ⟨T.setVm vm₁, locs, cells, slots⟩ { g with stack := rest } (.invokestatic index) mk argsL.toArray X₁ hg hsize hdg hW (X₁.named hnamed) (hpre vm₁ X₁.warmed)
  exact ⟨v, vm₁, B, X₁.warmed, X', hpost, fun target h => hstep₁ _ fun acts => by rw [doInvoke_state]; exact hsteps.trans h⟩
theorem vx_runSW {y : MethodName} {bytes cc : ByteArray} {maxL nL mc ms n index : Nat} {ret : Option FieldType} {hh : List (Nat × Nat × Nat × Nat)} {ws : List Cond} {rm : Room} {Pc : Array Value → State → Prop} {Qc : Array Value → State → Outcome → State → Prop} {free : Addr → Prop} {Ts : List Cond} {own : String} {As rest : List Value} {g : JFrame}
    (S : CallFix p m c cc nL s args Ts own) (hM : Met l y ws rm Pc Qc mc ms free) (cw : vx_CSW R s args own index y bytes maxL ret hh ws rm mc ms n) (hp : PreS s H Pc As)
    (hg : g.method = m) (hn : As.length = n) (hsize : g.locals.size = nL) (hstack : g.stack = As.reverse ++ rest) (hW : 2 * g.monitorRoom + (rest.map fun v => v.category).sum ≤ 8) (hdg : decode cc g.pc = .ok (.invokestatic index, 3)) (hf : cells + mc ≤ R.cells ∧ slots + ms ≤ R.slots) :
    va_Run p l e R s m args below meth c H locs cells slots mc ms g rest (Qc As.toArray) (free) := by
  obtain ⟨⟨hrc, hrs, hfr, hlo, hws, hcw⟩, hcode, hini, hy, hlen, hl, hstt⟩ := cw
  have hK : Back l R p e below s args y 3 8 (PreOf R mc ms Pc) (PostOf Qc mc ms free) := va_backW (hh := hh) (bytes := bytes) (maxL := maxL) (ret := ret) hM hp.1 hrc hrs hfr hlo hws hcw (fun a' U hW => word_at hW (Or.inl (by first | rfl | simp [Cond.onTables, Cond.keeps, Cond.steady])) hini)
  obtain ⟨hx, hb, hml, ho, -⟩ := S
  intro T hT X
  obtain ⟨v, vm₁, ⟨U', l2, c2, s2⟩, hW₁, X', ⟨g', mk, t, L, e1, e2, hq, h1, hL, h2, h3⟩, st⟩ := vx_callSW X hx (hh := hh) (bytes := bytes) (maxL := maxL) (ret := ret) ho hl hstt hini hcode hy hK hg (hsize.trans hml.symm) (argsL := As) (rest := rest) (fun sig h => hn.trans (hlen sig h)) hstack hW (by rw [hb]; exact hdg)
    (fun vm₁ hW₁ => ⟨hf.1, hf.2, hp.2 (T.setVm vm₁) hT hW₁⟩)
  dsimp only [Pt.U, Pt.locs, Pt.cells, Pt.slots] at X' e1 e2 h1 h2 h3 st
  subst h1; subst h2; subst h3
  exact ⟨v, (T.setVm vm₁).calling g' mk As.toArray, t, U', L, hT, X', hL, e1, e2, hq, st⟩
/-- not caught here, past rows that name other classes: it goes on to the caller -/
theorem vx_outP {p : Program} {l : Launch} {e : Env} {R : Room} {s : State} {m : MethodId} {args : Array Value} {below : List Frame} {meth : Method} {c : Code} {H : Heap} {locs : List Loc} {cells slots : Nat} {free : Addr → Prop} {ls : Array Slot} {rest : List Value} {Qc : Array Value → State → Outcome → State → Prop} {XC : String → State → State → Prop}
    {pc : Nat} {own E : String} {ce : Cell} {q : Addr} {mc ms : Nat} (hown : s.vm.findClass own = some m.cls) (hlocks : meth.locks = false)
    (hpass : ∀ z ∈ c.exceptionTable.toList, covers z pc = false ∨ (z.catchType ≠ 0 ∧ ∃ nm : String, (Cond.classLink own z.catchType nm).before args s = true ∧ va_Nc E nm s)) (hcell : H[q]? = some ce) (hv : ce.vm = .none) (hcl : s.vm.findClass E = some ce.cls)
    (hx : ∀ t : State, t.heap = H → s.vm.Alike t.vm → XC E s t) (hf : ∀ z ∈ locs, free z.base) (hc : cells ≤ mc) (hs : slots ≤ ms) :
    vx_W p l e R s m args below meth c H locs cells slots (vx_MQ below Qc XC args s mc ms free) (F0 m pc ls rest) q := by
  intro T hT X
  have hpl : e.platform.magicAccessors = ({} : Platform).magicAccessors := by rw [X.admits.platform]
  obtain ⟨vm', hW', X', st⟩ := X.outThrough hlocks q (g := F0 m pc ls rest) rfl rfl rfl (cell := ce) (by rw [hT]; exact hcell) (by rw [hv]; rfl)
    (by obtain ⟨k9, h9, -⟩ := Vm.findClass_spec hcl; exact ⟨k9, h9⟩) (fun z hz => by
      rcases hpass z hz with h | ⟨hz0, nm, hl1, hn1⟩
      · exact Or.inl h
      · obtain ⟨c6, hc6, hcl6⟩ := Cond.classLink_spec hown hl1 e.platform hpl
        obtain ⟨a8, b8, h1, h2, h3⟩ := hn1
        cases Option.some.inj (h1.symm.trans hcl)
        cases Option.some.inj (h2.symm.trans hc6)
        exact Or.inr ⟨hz0, _, hcl6, h3⟩)
  obtain ⟨g₀, hfr⟩ := X'.frames_eq
  have hcell9 : ((T.setVm vm').setFrames (.throwing q :: below)).heap[q]? = some ce := by
    show T.heap[q]? = some ce
    rw [hT]; exact hcell
  have hend : Ended ((T.setVm vm').setFrames (.throwing q :: below)) below (.threw q) := State.frames_setFrames _ (State.cur_lt_of_frames hfr)
  refine ⟨(T.setVm vm').setFrames (.throwing q :: below), ?_, .threw q, X'.here.running, hend, Or.inr ⟨q, rfl, E, ce, locs, hx _ hT (X'.ends _).1.alike, hcell9, hv, hcl, (X'.ends _).1, (X'.ends _).2.mono hc hs, hf⟩⟩
  rw [X.pushThrowing_eq]
  exact st
/-- a thing of a world lies in the heap -/
theorem vx_lt {D : va_G} {cl : List vw_C} {ws : va_W} {H1 : Heap} (h : va_P D cl ws H1) {k : Nat} {q : Nat × va_E} (hk : ws[k]? = some q) : q.1 < H1.size := (h k q hk).lt
end VXS
/-! ===== END ===== -/
/-! ===== BEGIN methods with a table of their own: called by a name, returning or throwing ===== -/
section VXH
/-! vx_backW, vx_callVX, vx_callSX, vx_callVW, vx_runVW, vx_runVX, vx_runSX, vx_ofWH follow the same proofs as their sisters above (Free/Laws.lean, Shelf42/LK1.lean); vx_outP calls Shelf42/NT130.lean (outThrough). -/
section
variable {l : Launch} {R : Room} {p : Program} {e : Env} {below : List Frame} {s : State} {sargs : Array Value} {y : MethodName} {len W9 : Nat}
theorem vx_backW {ws : List Cond} {rm : Room} {Pc : Array Value → State → Prop} {Qc : Array Value → State → Outcome → State → Prop} {XC : String → State → State → Prop} {mc ms : Nat} {free : Addr → Prop} {bytes : ByteArray} {maxL : Nat} {ret : Option FieldType} {hh : List (Nat × Nat × Nat × Nat)}
    (hM : vx_Met l y ws rm Pc Qc XC mc ms free) (hblind : FrameBlind Pc) (hrc : rm.cells = mc) (hrs : rm.slots = ms)
    (hframes : rm.frames + 1 ≤ R.frames) (hlocals : W9 + (maxL + 11) + rm.locals ≤ R.locals)
    (hws : ∀ w ∈ ws, ∀ a' U, s.WarmedH U.vm → w.before a' U = true) (hcode : Cond.codeWith y bytes maxL ret hh ∈ ws) (hinit : ∀ a' U, s.WarmedH U.vm → (Cond.initialized y.cls).before a' U = true) :
    vx_Back l R p e below s sargs y len W9 (PreOf R mc ms Pc) (PostOf Qc mc ms free) (vx_Post XC mc ms free) := by
  intro m meth c A g ig mk a X hg hsize hdg hW hn hp
  have h1 : (headSpec ws rm).pre.before a A.U = true := atoms_intro fun w hw => hws w hw _ _ X.warmed
  have h2 : (Cond.codeWith y bytes maxL ret hh).before a A.U = true := hws _ hcode _ _ X.warmed
  have h3 : (Cond.initialized y.cls).before a A.U = true := hinit _ _ X.warmed
  have h4 : A.cells + (headSpec ws rm).room.cells ≤ R.cells := by rw [show (headSpec ws rm).room.cells = mc from hrc]; exact hp.1
  have h5 : A.slots + (headSpec ws rm).room.slots ≤ R.slots := by rw [show (headSpec ws rm).room.slots = ms from hrs]; exact hp.2.1
  have hPc : Pc a (A.U.calling g mk a) := hblind _ _ _ _ hp.2.2
  obtain ⟨U, Ls, c0, s0⟩ := A
  dsimp only [Pt.U, Pt.locs, Pt.cells, Pt.slots] at h1 h2 h3 h4 h5 X hn hPc ⊢
  obtain ⟨m9, methY, cY, hn9, hmY, hcY, -, hlY, -⟩ := Cond.codeWith_spec h2
  cases Option.some.inj (hn9.symm.trans hn)
  obtain ⟨kY, hkY, -⟩ := className_of_methodNamed hn
  have hinitY : kY.init = .initialized := Cond.initialized_spec (findClass_of_methodNamed hn) hkY h3
  have h : At U g.method c below := by rw [hg]; exact X.here
  have hlocals9 : W9 + (maxL + 11) + (headSpec ws rm).room.locals ≤ R.locals := hlocals
  have happ : (headSpec ws rm).appliesLoose y e.platform (U.calling g mk a) = true :=
    Spec.appliesLoose_calling (g := g) h hdg hn hkY hinitY
      (X.room_calling (g := g) (R' := (headSpec ws rm).room) hsize hmY hcY hframes (by rw [hlY]; omega) h4 h5) h1
  obtain ⟨mid, hmid⟩ := h.above
  have hfr : (U.setTop g).frames = (.java g :: mid) ++ below := by rw [State.frames_setTop' g h.top, hmid]; rfl
  obtain ⟨o, s₂, hsteps, -, hend, hq⟩ := Steps.callFree hM p X.admits X.cas X.clock (acts := []) hfr happ hPc trivial
  have hq' : vx_Q Qc XC mc ms free a (U.calling g mk a) o s₂ := hq
  rw [State.frames_setTop' g h.top] at hend
  obtain ⟨g₀, hg0⟩ := Option.isSome_iff_exists.mp h.top
  obtain ⟨r, hr⟩ := State.topJava?_eq_some.mp hg0
  have hr' : (({ U with heap := s₂.heap, slotsUsed := s₂.slotsUsed } : State).setVm s₂.vm).frames = .java g₀ :: r := hr
  rcases hq' with ⟨hqc, L, hfe, hL⟩ | ⟨q, rfl, E, ce, L, hx, hce, hcv, hcl, hW₂, hsm, hL⟩
  · obtain ⟨⟨v, rfl⟩, hW₂, e2, q2, q3, q4, q5, q6⟩ := id hfe
    have e3 : s₂ = ({ (U.calling g mk a).setFrames s₂.frames with heap := s₂.heap, slotsUsed := s₂.slotsUsed } : State).setVm s₂.vm := by
      have : s₂ = ({ s₂ with vm := (U.calling g mk a).vm } : State).setVm s₂.vm := rfl
      rw [e2] at this
      exact this
    obtain ⟨c₂, i₂, len₂, hc₂, hd₂, hf₂⟩ := hend
    have hW' : U.WarmedH s₂.vm := hW₂
    have hcc : c₂ = c := by
      have h1 : s₂.code? g.method = U.code? g.method := by
        rw [State.code?_eq, State.code?_eq, hW'.alike.method?]
      exact Option.some.inj (hc₂.symm.trans (h1.trans h.code))
    subst hcc
    have hlen : len₂ = len := by rw [hdg] at hd₂; cases hd₂; rfl
    subst hlen
    have hs₂ : s₂ = (({ U with heap := s₂.heap, slotsUsed := s₂.slotsUsed } : State).setVm s₂.vm).setTop { g with pc := g.pc + len₂, stack := v.toList ++ g.stack } := by
      refine e3.trans ?_
      rw [hf₂, State.calling_eq h.top, State.setFrames_setFrames, State.setTop_of_frames _ hr', hr]
      rfl
    have hsame : U.sameButNew ({ U with heap := s₂.heap, slotsUsed := s₂.slotsUsed } : State) L mc ms := by
      refine ⟨?_, q2, q3, q4, q5, q6⟩
      obtain ⟨t, ht, -⟩ := State.frames_cons hr
      show ({ U with heap := s₂.heap, slotsUsed := s₂.slotsUsed } : State) = { U.setFrames U.frames with heap := s₂.heap, slotsUsed := s₂.slotsUsed }
      rw [State.setFrames_self ht]
    subst hg
    refine Or.inl ⟨v, ⟨(({ U with heap := s₂.heap, slotsUsed := s₂.slotsUsed } : State).setVm s₂.vm), Ls ++ L, c0 + mc, s0 + ms⟩,
      ⟨X.admits, X.cas, X.clock, X.frames, X.room, X.hears, X.method, X.code, (X.here.setHeapUsed s₂.heap s₂.slotsUsed).setVm hW'.alike, X.tail, State.WarmedH.trans X.warmed hW', X.limits, X.bytes, X.same.trans (hsame.setVm s.vm)⟩,
      ⟨g, mk, s₂, L, rfl, rfl, hqc, rfl, hL, rfl, rfl⟩, ?_⟩
    show Steps p.tables e below _ ((({ U with heap := s₂.heap, slotsUsed := s₂.slotsUsed } : State).setVm s₂.vm).setTop { g with pc := g.pc + len₂, stack := v.toList ++ g.stack })
    rw [← hs₂]
    exact hsteps
  · obtain ⟨e2, q2, q3, q4, q5, q6⟩ := id hsm
    have e3 : s₂ = ({ (U.calling g mk a).setFrames s₂.frames with heap := s₂.heap, slotsUsed := s₂.slotsUsed } : State).setVm s₂.vm := by
      have : s₂ = ({ s₂ with vm := (U.calling g mk a).vm } : State).setVm s₂.vm := rfl
      rw [e2] at this
      exact this
    have hf₂ : s₂.frames = .throwing q :: .java g :: U.frames.tail := hend
    have hW' : U.WarmedH s₂.vm := hW₂
    have hs₂ : s₂ = ((({ U with heap := s₂.heap, slotsUsed := s₂.slotsUsed } : State).setVm s₂.vm).setTop g).pushFrame (.throwing q) := by
      refine e3.trans ?_
      rw [hf₂, State.calling_eq h.top, State.setFrames_setFrames, State.pushFrame, State.frames_setTop _ hr', State.setTop_of_frames _ hr', State.setFrames_setFrames, hr]
      rfl
    have hsame : U.sameButNew ({ U with heap := s₂.heap, slotsUsed := s₂.slotsUsed } : State) L mc ms := by
      refine ⟨?_, q2, q3, q4, q5, q6⟩
      obtain ⟨t, ht, -⟩ := State.frames_cons hr
      show ({ U with heap := s₂.heap, slotsUsed := s₂.slotsUsed } : State) = { U.setFrames U.frames with heap := s₂.heap, slotsUsed := s₂.slotsUsed }
      rw [State.setFrames_self ht]
    subst hg
    refine Or.inr ⟨q, ⟨(({ U with heap := s₂.heap, slotsUsed := s₂.slotsUsed } : State).setVm s₂.vm), Ls ++ L, c0 + mc, s0 + ms⟩,
      ⟨X.admits, X.cas, X.clock, X.frames, X.room, X.hears, X.method, X.code, (X.here.setHeapUsed s₂.heap s₂.slotsUsed).setVm hW'.alike, X.tail, State.WarmedH.trans X.warmed hW', X.limits, X.bytes, X.same.trans (hsame.setVm s.vm)⟩,
      ⟨g, mk, s₂, L, E, ce, rfl, rfl, hx, hce, hcv, hcl, rfl, hL, rfl, rfl⟩, ?_⟩
    show Steps p.tables e below _ (((({ U with heap := s₂.heap, slotsUsed := s₂.slotsUsed } : State).setVm s₂.vm).setTop g).pushFrame (.throwing q))
    rw [← hs₂]
    exact hsteps
end
variable {p : Program} {l : Launch} {e : Env} {R : Room} {s : State} {m : MethodId} {args : Array Value} {below : List Frame} {meth : Method} {c : Code} {T : State} {H : Heap} {locs : List Loc} {cells slots : Nat}
theorem vx_callVX (X : Stand p l e R s m args below meth c T locs cells slots) (hexec : p.tables.exec = Jvm.exec) {own C : String} {index : Nat} {y : MethodName} {bytes : ByteArray} {maxL : Nat} {ret : Option FieldType} {hh : List (Nat × Nat × Nat × Nat)}
    (hown : s.vm.findClass own = some m.cls) (hlink : (Cond.methodLink own index y).before args s = true) (hinst : (Cond.instanceMethod y).before args s = true) (hsel : (Cond.selects C y y).before args s = true)
    (hcode : (Cond.codeWith y bytes maxL ret hh).before args s = true) (hy : y.cls ≠ "java/lang/invoke/MethodHandle" ∧ y.cls ≠ "java/lang/invoke/VarHandle")
    {W9 : Nat} {Pre : Pt → Array Value → Prop} {Post : Pt → Array Value → Option Value → Pt → Prop} {PostX : Pt → Array Value → Addr → Pt → Prop} (hK : vx_Back l R p e below s args y 3 W9 Pre Post PostX)
    {b : Addr} {cellB : Cell} (hcell : T.heap[b]? = some cellB) (hobj : cellB.vm.isStatics = false) (hcls : s.vm.findClass C = some cellB.cls)
    {g : JFrame} (hg : g.method = m) (hsize : g.locals.size = c.maxLocals) {argsL rest : List Value} (hlen : ∀ sig, parseMethodDescriptor y.desc = some sig → argsL.length = sig.parameters.length)
    (hstack : g.stack = argsL.reverse ++ .ref b :: rest) (hW : 2 * g.monitorRoom + (rest.map fun v => v.category).sum ≤ W9) (hdg : decode c.code g.pc = .ok (.invokevirtual index, 3))
    (hpre : ∀ vm₁, s.WarmedH vm₁ → Pre ⟨T.setVm vm₁, locs, cells, slots⟩ (Value.ref b :: argsL).toArray) :
    (∃ (v : Option Value) (vm₁ : Vm) (B : Pt), s.WarmedH vm₁ ∧ Stand p l e R s m args below meth c B.U B.locs B.cells B.slots ∧ Post ⟨T.setVm vm₁, locs, cells, slots⟩ (Value.ref b :: argsL).toArray v B ∧
      ∀ target, Steps p.tables e below (B.U.setTop { g with pc := g.pc + 3, stack := v.toList ++ rest }) target → Steps p.tables e below (T.setTop g) target) ∨
    (∃ (q : Addr) (vm₁ : Vm) (B : Pt), s.WarmedH vm₁ ∧ Stand p l e R s m args below meth c B.U B.locs B.cells B.slots ∧ PostX ⟨T.setVm vm₁, locs, cells, slots⟩ (Value.ref b :: argsL).toArray q B ∧
      Steps p.tables e below (T.setTop g) ((B.U.setTop { g with stack := rest }).pushFrame (.throwing q))) := by
  obtain ⟨mk, methM, hnamed, hmethM, hstM, habM⟩ := Cond.instanceMethod_spec hinst
  obtain ⟨m8, methM', cM, hn8, hmethM', -, -, -, -, -, -, hsigM⟩ := Cond.codeWith_spec hcode
  cases Option.some.inj (hn8.symm.trans hnamed)
  cases hmethM.symm.trans hmethM'
  obtain ⟨c2, r2, m2, q1, q2, q3, q4, kP, hkP, hkPi⟩ := Cond.selects_spec hsel
  cases hcls.symm.trans q1
  cases (State.methodFound?_of_named hnamed hy).symm.trans q2
  cases hnamed.symm.trans q3
  have hselP : selectMethod e.platform s.vm cellB.cls mk = .method mk := by rw [Launch.admits_selectMethod X.admits]; exact q4
  obtain ⟨vm₁, X₁, hstep₁⟩ := X.invokevirtual hexec hown hlink hnamed hmethM hstM hkP hkPi hy (a := b) (cell := cellB) hcell
    (fun z h => by rw [h] at hobj; cases hobj) hselP hmethM habM hkP hkPi (g := g) hg (argsL := argsL) (rest := rest) (hlen _ hsigM) hstack hdg
  rcases hK m meth c ⟨T.setVm vm₁, locs, cells, slots⟩ { g with stack := rest } (.invokevirtual index) mk (Value.ref b :: argsL).toArray X₁ hg hsize hdg hW (X₁.named hnamed) (hpre vm₁ X₁.warmed) with ⟨v, B, X', hpost, hsteps⟩ | ⟨q, B, X', hpost, hsteps⟩
  · exact Or.inl ⟨v, vm₁, B, X₁.warmed, X', hpost, fun target h => hstep₁ _ fun acts => by rw [doInvoke_state]; exact hsteps.trans h⟩
  · exact Or.inr ⟨q, vm₁, B, X₁.warmed, X', hpost, hstep₁ _ fun acts => by rw [doInvoke_state]; exact hsteps⟩
theorem vx_callSX (X : Stand p l e R s m args below meth c T locs cells slots) (hexec : p.tables.exec = Jvm.exec) {own : String} {index : Nat} {y : MethodName} {bytes : ByteArray} {maxL : Nat} {ret : Option FieldType} {hh : List (Nat × Nat × Nat × Nat)}
    (hown : s.vm.findClass own = some m.cls) (hlink : (Cond.methodLink own index y).before args s = true) (hstat : (Cond.static y).before args s = true) (hinit : (Cond.initialized y.cls).before args s = true)
    (hcode : (Cond.codeWith y bytes maxL ret hh).before args s = true) (hy : y.cls ≠ "java/lang/invoke/MethodHandle" ∧ y.cls ≠ "java/lang/invoke/VarHandle")
    {W9 : Nat} {Pre : Pt → Array Value → Prop} {Post : Pt → Array Value → Option Value → Pt → Prop} {PostX : Pt → Array Value → Addr → Pt → Prop} (hK : vx_Back l R p e below s args y 3 W9 Pre Post PostX)
    {g : JFrame} (hg : g.method = m) (hsize : g.locals.size = c.maxLocals) {argsL rest : List Value} (hlen : ∀ sig, parseMethodDescriptor y.desc = some sig → argsL.length = sig.parameters.length)
    (hstack : g.stack = argsL.reverse ++ rest) (hW : 2 * g.monitorRoom + (rest.map fun v => v.category).sum ≤ W9) (hdg : decode c.code g.pc = .ok (.invokestatic index, 3))
    (hpre : ∀ vm₁, s.WarmedH vm₁ → Pre ⟨T.setVm vm₁, locs, cells, slots⟩ argsL.toArray) :
    (∃ (v : Option Value) (vm₁ : Vm) (B : Pt), s.WarmedH vm₁ ∧ Stand p l e R s m args below meth c B.U B.locs B.cells B.slots ∧ Post ⟨T.setVm vm₁, locs, cells, slots⟩ argsL.toArray v B ∧
      ∀ target, Steps p.tables e below (B.U.setTop { g with pc := g.pc + 3, stack := v.toList ++ rest }) target → Steps p.tables e below (T.setTop g) target) ∨
    (∃ (q : Addr) (vm₁ : Vm) (B : Pt), s.WarmedH vm₁ ∧ Stand p l e R s m args below meth c B.U B.locs B.cells B.slots ∧ PostX ⟨T.setVm vm₁, locs, cells, slots⟩ argsL.toArray q B ∧
      Steps p.tables e below (T.setTop g) ((B.U.setTop { g with stack := rest }).pushFrame (.throwing q))) := by
  obtain ⟨mk, methM, cM, hnamed, hmethM, -, -, -, -, -, -, hsigM⟩ := Cond.codeWith_spec hcode
  have hstatic : methM.isStatic = true := Cond.static_spec hnamed hmethM hstat
  obtain ⟨kP, hkP, -⟩ := className_of_methodNamed hnamed
  have hinitP : kP.init = .initialized := Cond.initialized_spec (findClass_of_methodNamed hnamed) hkP hinit
  obtain ⟨vm₁, X₁, hstep₁⟩ := X.invokestatic hexec hown hlink hnamed hmethM hstatic hkP hinitP hy (g := g) hg (argsL := argsL) (rest := rest) (hlen _ hsigM) hstack hdg
  rcases hK m meth c ⟨T.setVm vm₁, locs, cells, slots⟩ { g with stack := rest } (.invokestatic index) mk argsL.toArray X₁ hg hsize hdg hW (X₁.named hnamed) (hpre vm₁ X₁.warmed) with ⟨v, B, X', hpost, hsteps⟩ | ⟨q, B, X', hpost, hsteps⟩
  · exact Or.inl ⟨v, vm₁, B, X₁.warmed, X', hpost, fun target h => hstep₁ _ fun acts => by rw [doInvoke_state]; exact hsteps.trans h⟩
  · exact Or.inr ⟨q, vm₁, B, X₁.warmed, X', hpost, hstep₁ _ fun acts => by rw [doInvoke_state]; exact hsteps⟩
theorem vx_callVW (X : Stand p l e R s m args below meth c T locs cells slots) (hexec : p.tables.exec = Jvm.exec) {own C : String} {index : Nat} {y : MethodName} {bytes : ByteArray} {maxL : Nat} {ret : Option FieldType} {hh : List (Nat × Nat × Nat × Nat)}
    (hown : s.vm.findClass own = some m.cls) (hlink : (Cond.methodLink own index y).before args s = true) (hinst : (Cond.instanceMethod y).before args s = true) (hsel : (Cond.selects C y y).before args s = true)
    (hcode : (Cond.codeWith y bytes maxL ret hh).before args s = true) (hy : y.cls ≠ "java/lang/invoke/MethodHandle" ∧ y.cls ≠ "java/lang/invoke/VarHandle")
    {W9 : Nat} {Pre : Pt → Array Value → Prop} {Post : Pt → Array Value → Option Value → Pt → Prop} (hK : Back l R p e below s args y 3 W9 Pre Post)
    {b : Addr} {cellB : Cell} (hcell : T.heap[b]? = some cellB) (hobj : cellB.vm.isStatics = false) (hcls : s.vm.findClass C = some cellB.cls)
    {g : JFrame} (hg : g.method = m) (hsize : g.locals.size = c.maxLocals) {argsL rest : List Value} (hlen : ∀ sig, parseMethodDescriptor y.desc = some sig → argsL.length = sig.parameters.length)
    (hstack : g.stack = argsL.reverse ++ .ref b :: rest) (hW : 2 * g.monitorRoom + (rest.map fun v => v.category).sum ≤ W9) (hdg : decode c.code g.pc = .ok (.invokevirtual index, 3))
    (hpre : ∀ vm₁, s.WarmedH vm₁ → Pre ⟨T.setVm vm₁, locs, cells, slots⟩ (Value.ref b :: argsL).toArray) :
    ∃ (v : Option Value) (vm₁ : Vm) (B : Pt), s.WarmedH vm₁ ∧ Stand p l e R s m args below meth c B.U B.locs B.cells B.slots ∧ Post ⟨T.setVm vm₁, locs, cells, slots⟩ (Value.ref b :: argsL).toArray v B ∧
      ∀ target, Steps p.tables e below (B.U.setTop { g with pc := g.pc + 3, stack := v.toList ++ rest }) target → Steps p.tables e below (T.setTop g) target := by
  obtain ⟨mk, methM, hnamed, hmethM, hstM, habM⟩ := Cond.instanceMethod_spec hinst
  obtain ⟨m8, methM', cM, hn8, hmethM', -, -, -, -, -, -, hsigM⟩ := Cond.codeWith_spec hcode
  cases Option.some.inj (hn8.symm.trans hnamed)
  cases hmethM.symm.trans hmethM'
  obtain ⟨c2, r2, m2, q1, q2, q3, q4, kP, hkP, hkPi⟩ := Cond.selects_spec hsel
  cases hcls.symm.trans q1
  cases (State.methodFound?_of_named hnamed hy).symm.trans q2
  cases hnamed.symm.trans q3
  have hselP : selectMethod e.platform s.vm cellB.cls mk = .method mk := by rw [Launch.admits_selectMethod X.admits]; exact q4
  obtain ⟨vm₁, X₁, hstep₁⟩ := X.invokevirtual hexec hown hlink hnamed hmethM hstM hkP hkPi hy (a := b) (cell := cellB) hcell
    (fun z h => by rw [h] at hobj; cases hobj) hselP hmethM habM hkP hkPi (g := g) hg (argsL := argsL) (rest := rest) (hlen _ hsigM) hstack hdg
  obtain ⟨v, B, X', hpost, hsteps⟩ := hK m meth c ⟨T.setVm vm₁, locs, cells, slots⟩ { g with stack := rest } (.invokevirtual index) mk (Value.ref b :: argsL).toArray X₁ hg hsize hdg hW (X₁.named hnamed) (hpre vm₁ X₁.warmed)
  exact ⟨v, vm₁, B, X₁.warmed, X', hpost, fun target h => hstep₁ _ fun acts => by rw [doInvoke_state]; exact hsteps.trans h⟩
abbrev vx_CVW (R : Room) (s : State) (args : Array Value) (own C : String) (index : Nat) (y : MethodName) (bytes : ByteArray) (maxL : Nat) (ret : Option FieldType) (hh : List (Nat × Nat × Nat × Nat)) (ws : List Cond) (rm : Room) (mc ms n : Nat) : Prop :=
  (rm.cells = mc ∧ rm.slots = ms ∧ rm.frames + 1 ≤ R.frames ∧ 8 + (maxL + 11) + rm.locals ≤ R.locals ∧ (∀ w ∈ ws, ∀ (a' : Array Value) (U : State), s.WarmedH U.vm → w.before a' U = true) ∧ Cond.codeWith y bytes maxL ret hh ∈ ws) ∧
  (Cond.codeWith y bytes maxL ret hh).before args s = true ∧ (Cond.initialized y.cls).before args s = true ∧ (y.cls ≠ "java/lang/invoke/MethodHandle" ∧ y.cls ≠ "java/lang/invoke/VarHandle") ∧
  (∀ sig, parseMethodDescriptor y.desc = some sig → n = sig.parameters.length) ∧ (Cond.methodLink own index y).before args s = true ∧ (Cond.instanceMethod y).before args s = true ∧ (Cond.selects C y y).before args s = true
theorem vx_cwVW {own C : String} {index maxL mc ms : Nat} {y : MethodName} {bytes : ByteArray} {ret : Option FieldType} {hh : List (Nat × Nat × Nat × Nat)} {Ts ws ws' : List Cond} {rm : Room} (n : Nat) (ht : ∀ w ∈ Ts, w.before args s = true) (hT : GoodIn Ts (wsV own index C y ws)) (hw : ws = Cond.codeWith y bytes maxL ret hh :: ws') (hrc : rm.cells = mc) (hrs : rm.slots = ms)
    (hd : y.cls = C ∧ y.cls ≠ "java/lang/invoke/MethodHandle" ∧ y.cls ≠ "java/lang/invoke/VarHandle" ∧ (parseMethodDescriptor y.desc).map (fun d => d.parameters.length) = some n) (hR : rm.frames + 1 ≤ R.frames ∧ 8 + (maxL + 11) + rm.locals ≤ R.locals) :
    vx_CVW R s args own C index y bytes maxL ret hh ws rm mc ms n := by
  obtain ⟨hC, hd⟩ := hd
  subst hC
  have ok : ∀ w ∈ wsV own index y.cls y ws, w.before args s = true := fun w h => ht w (hT w h).1
  have hG : GoodIn Ts ws := fun w h => hT w (by unfold wsV; exact List.mem_append_right _ h)
  have hc : Cond.codeWith y bytes maxL ret hh ∈ ws := by rw [hw]; exact List.mem_cons_self
  refine ⟨⟨hrc, hrs, hR.1, hR.2, pay_in ht hG, hc⟩, ht _ (hG _ hc).1, ok _ (by simp [wsV]), ⟨hd.1, hd.2.1⟩, fun sig h => ?_, ok _ (by simp [wsV]), ok _ (by simp [wsV]), ok _ (by simp [wsV])⟩
  have h2 := hd.2.2
  rw [h] at h2
  exact (Option.some.inj h2).symm
theorem vx_runVW {y : MethodName} {bytes cc : ByteArray} {maxL nL mc ms n index : Nat} {ret : Option FieldType} {hh : List (Nat × Nat × Nat × Nat)} {ws : List Cond} {rm : Room} {Pc : Array Value → State → Prop} {Qc : Array Value → State → Outcome → State → Prop} {free : Addr → Prop} {Ts : List Cond} {own C : String} {b : Addr} {As rest : List Value} {g : JFrame}
    (S : CallFix p m c cc nL s args Ts own) (hM : Met l y ws rm Pc Qc mc ms free) (cw : vx_CVW R s args own C index y bytes maxL ret hh ws rm mc ms n) (hp : PreV s H C b Pc As)
    (hg : g.method = m) (hn : As.length = n) (hsize : g.locals.size = nL) (hstack : g.stack = As.reverse ++ .ref b :: rest) (hW : 2 * g.monitorRoom + (rest.map fun v => v.category).sum ≤ 8) (hdg : decode cc g.pc = .ok (.invokevirtual index, 3)) (hf : cells + mc ≤ R.cells ∧ slots + ms ≤ R.slots) :
    va_Run p l e R s m args below meth c H locs cells slots mc ms g rest (Qc (Value.ref b :: As).toArray) free := by
  obtain ⟨⟨hrc, hrs, hfr, hlo, hws, hcw⟩, hcode, hini, hy, hlen, hl, hin, hse⟩ := cw
  have hK : Back l R p e below s args y 3 8 (PreOf R mc ms Pc) (PostOf Qc mc ms free) := va_backW (hh := hh) (bytes := bytes) (maxL := maxL) (ret := ret) hM hp.1 hrc hrs hfr hlo hws hcw (fun a' U hW => word_at hW (Or.inl (by first | rfl | simp [Cond.onTables, Cond.keeps, Cond.steady])) hini)
  obtain ⟨hx, hb, hml, ho, -⟩ := S
  obtain ⟨-, ⟨cellB, hcB, hoB, hclB⟩, hPc⟩ := hp
  intro T hT X
  obtain ⟨v, vm₁, ⟨U', l2, c2, s2⟩, hW₁, X', ⟨g', mk, t, L, e1, e2, hq, h1, hL, h2, h3⟩, st⟩ := vx_callVW X hx (C := C) (hh := hh) (bytes := bytes) (maxL := maxL) (ret := ret) ho hl hin hse hcode hy hK (by rw [hT]; exact hcB) hoB hclB hg (hsize.trans hml.symm) (argsL := As) (rest := rest) (fun sig h => hn.trans (hlen sig h)) hstack hW (by rw [hb]; exact hdg)
    (fun vm₁ hW₁ => ⟨hf.1, hf.2, hPc (T.setVm vm₁) hT hW₁⟩)
  dsimp only [Pt.U, Pt.locs, Pt.cells, Pt.slots] at X' e1 e2 h1 h2 h3 st
  subst h1; subst h2; subst h3
  exact ⟨v, (T.setVm vm₁).calling g' mk (Value.ref b :: As).toArray, t, U', L, hT, X', hL, e1, e2, hq, st⟩
section
variable {y : MethodName} {bytes cc : ByteArray} {maxL nL mc ms n index : Nat} {ret : Option FieldType} {ws : List Cond} {rm : Room} {Pc : Array Value → State → Prop} {Qc : Array Value → State → Outcome → State → Prop} {XC : String → State → State → Prop} {free : Addr → Prop} {Ts : List Cond} {own C : String} {b : Addr} {As rest : List Value} {g : JFrame}
theorem vx_runVX {hh : List (Nat × Nat × Nat × Nat)} (S : CallFix p m c cc nL s args Ts own) (hM : vx_Met l y ws rm Pc Qc XC mc ms free) (cw : vx_CVW R s args own C index y bytes maxL ret hh ws rm mc ms n) (hp : PreV s H C b Pc As)
    (hg : g.method = m) (hn : As.length = n) (hsize : g.locals.size = nL) (hstack : g.stack = As.reverse ++ .ref b :: rest) (hW : 2 * g.monitorRoom + (rest.map fun v => v.category).sum ≤ 8) (hdg : decode cc g.pc = .ok (.invokevirtual index, 3)) (hf : cells + mc ≤ R.cells ∧ slots + ms ≤ R.slots) :
    vx_Run p l e R s m args below meth c H locs cells slots mc ms g rest (Qc (Value.ref b :: As).toArray) XC free := by
  obtain ⟨⟨hrc, hrs, hfr, hlo, hws, hcw⟩, hcode, hini, hy, hlen, hl, hin, hse⟩ := cw
  have hK : vx_Back l R p e below s args y 3 8 (PreOf R mc ms Pc) (PostOf Qc mc ms free) (vx_Post XC mc ms free) := vx_backW (hh := hh) (bytes := bytes) (maxL := maxL) (ret := ret) hM hp.1 hrc hrs hfr hlo hws hcw (fun a' U hW => word_at hW (Or.inl (by first | rfl | simp [Cond.onTables, Cond.keeps, Cond.steady])) hini)
  obtain ⟨hx, hb, hml, ho, -⟩ := S
  obtain ⟨-, ⟨cellB, hcB, hoB, hclB⟩, hPc⟩ := hp
  intro T hT X
  rcases vx_callVX X hx (C := C) (hh := hh) (bytes := bytes) (maxL := maxL) (ret := ret) ho hl hin hse hcode hy hK (by rw [hT]; exact hcB) hoB hclB hg (hsize.trans hml.symm) (argsL := As) (rest := rest) (fun sig h => hn.trans (hlen sig h)) hstack hW (by rw [hb]; exact hdg)
    (fun vm₁ hW₁ => ⟨hf.1, hf.2, hPc (T.setVm vm₁) hT hW₁⟩) with ⟨v, vm₁, ⟨U', l2, c2, s2⟩, hW₁, X', ⟨g', mk, t, L, e1, e2, hq, h1, hL, h2, h3⟩, st⟩ | ⟨q, vm₁, ⟨U', l2, c2, s2⟩, hW₁, X', ⟨g', mk, t, L, E, ce, e1, e2, hq, hce, hcv, hcl, h1, hL, h2, h3⟩, st⟩
  · dsimp only [Pt.U, Pt.locs, Pt.cells, Pt.slots] at X' e1 e2 h1 h2 h3 st
    subst h1; subst h2; subst h3
    exact Or.inl ⟨v, (T.setVm vm₁).calling g' mk (Value.ref b :: As).toArray, t, U', L, hT, X', hL, e1, e2, hq, st⟩
  · dsimp only [Pt.U, Pt.locs, Pt.cells, Pt.slots] at X' e1 e2 h1 h2 h3 st hcl
    subst h1; subst h2; subst h3
    exact Or.inr ⟨q, (T.setVm vm₁).calling g' mk (Value.ref b :: As).toArray, t, U', L, E, ce, hT, X', hL, e1, e2, hq, hce, hcv, vx_cls hW₁ hcl, st⟩
theorem vx_runSX {hh : List (Nat × Nat × Nat × Nat)} (S : CallFix p m c cc nL s args Ts own) (hM : vx_Met l y ws rm Pc Qc XC mc ms free) (cw : vx_CSW R s args own index y bytes maxL ret hh ws rm mc ms n) (hp : PreS s H Pc As)
    (hg : g.method = m) (hn : As.length = n) (hsize : g.locals.size = nL) (hstack : g.stack = As.reverse ++ rest) (hW : 2 * g.monitorRoom + (rest.map fun v => v.category).sum ≤ 8) (hdg : decode cc g.pc = .ok (.invokestatic index, 3)) (hf : cells + mc ≤ R.cells ∧ slots + ms ≤ R.slots) :
    vx_Run p l e R s m args below meth c H locs cells slots mc ms g rest (Qc As.toArray) XC free := by
  obtain ⟨⟨hrc, hrs, hfr, hlo, hws, hcw⟩, hcode, hini, hy, hlen, hl, hstt⟩ := cw
  have hK : vx_Back l R p e below s args y 3 8 (PreOf R mc ms Pc) (PostOf Qc mc ms free) (vx_Post XC mc ms free) := vx_backW (hh := hh) (bytes := bytes) (maxL := maxL) (ret := ret) hM hp.1 hrc hrs hfr hlo hws hcw (fun a' U hW => word_at hW (Or.inl (by first | rfl | simp [Cond.onTables, Cond.keeps, Cond.steady])) hini)
  obtain ⟨hx, hb, hml, ho, -⟩ := S
  intro T hT X
  rcases vx_callSX X hx (hh := hh) (bytes := bytes) (maxL := maxL) (ret := ret) ho hl hstt hini hcode hy hK hg (hsize.trans hml.symm) (argsL := As) (rest := rest) (fun sig h => hn.trans (hlen sig h)) hstack hW (by rw [hb]; exact hdg)
    (fun vm₁ hW₁ => ⟨hf.1, hf.2, hp.2 (T.setVm vm₁) hT hW₁⟩) with ⟨v, vm₁, ⟨U', l2, c2, s2⟩, hW₁, X', ⟨g', mk, t, L, e1, e2, hq, h1, hL, h2, h3⟩, st⟩ | ⟨q, vm₁, ⟨U', l2, c2, s2⟩, hW₁, X', ⟨g', mk, t, L, E, ce, e1, e2, hq, hce, hcv, hcl, h1, hL, h2, h3⟩, st⟩
  · dsimp only [Pt.U, Pt.locs, Pt.cells, Pt.slots] at X' e1 e2 h1 h2 h3 st
    subst h1; subst h2; subst h3
    exact Or.inl ⟨v, (T.setVm vm₁).calling g' mk As.toArray, t, U', L, hT, X', hL, e1, e2, hq, st⟩
  · dsimp only [Pt.U, Pt.locs, Pt.cells, Pt.slots] at X' e1 e2 h1 h2 h3 st hcl
    subst h1; subst h2; subst h3
    exact Or.inr ⟨q, (T.setVm vm₁).calling g' mk As.toArray, t, U', L, E, ce, hT, X', hL, e1, e2, hq, hce, hcv, vx_cls hW₁ hcl, st⟩
end
end VXH
theorem vx_ofWH {l : Launch} {y : MethodName} {ws ws' : List Cond} {rm : Room} {Pc : Array Value → State → Prop} {Qc : Array Value → State → Outcome → State → Prop} {XC : String → State → State → Prop} {mc ms : Nat} {free : Addr → Prop} {cc : ByteArray} {maxL : Nat} {ret : Option FieldType} {hh : List (Nat × Nat × Nat × Nat)}
    (hy : plainName y.cls = true) (hw : ws = Cond.codeWith y cc maxL ret hh :: ws')
    (body : ∀ p e s m args below meth c s₁, BodyLoose p l y (headSpec ws rm) cc maxL ret e s m args below meth c s₁ → c.maxLocals = maxL → Pc args s →
      W p l e (headSpec ws rm).room s m args below meth c s.heap [] 0 0 (vx_MQ below Qc XC args s mc ms free) (entryFrame m args maxL)) : vx_Met l y ws rm Pc Qc XC mc ms free := by
  refine MetFree.of_bodyS (code := cc) (maxLocals := maxL) (ret := ret) hy ?_ ?_
  · intro args s m h hn
    obtain ⟨m9, meth, c, hn9, h1, h2, h3, h4, -, h5, h6, -⟩ := Cond.codeWith_spec (atoms_spec (ws := ws) h _ (by rw [hw]; exact List.mem_cons_self))
    cases hn.symm.trans hn9
    exact ⟨meth, c, h1, h2, h3, h4, h5, h6⟩
  · intro p e s m args below meth c s₁ B hml hP _
    have hh0 : s₁.heap = s.heap := by rw [B.state]; rfl
    obtain ⟨t, a1, o, b1, b2, b3⟩ := body p e s m args below meth c s₁ B hml hP s₁ hh0 (Stand.of_body B)
    exact ⟨t, o, a1, b1, b2, b3⟩
/-! ===== END ===== -/
end
section
/-! ===== BEGIN printed: names, fields, word lists, decode rows ===== -/
def RX0 : String := "TicketCoincidences"
def TX0 : u_T := fun k => match k with
  | 0 => ("TicketCoincidences", "tickets", "[I", true)
  | 1 => ("TicketCoincidences", "colours", "[I", true)
  | 2 => ("TicketCoincidences", "corners", "[I", true)
  | 3 => ("TicketCoincidences", "walks", "[I", true)
  | 4 => ("TicketCoincidences", "people", "I", false)
  | 5 => ("TicketCoincidences", "hourNow", "I", false)
  | 6 => ("TicketCoincidences", "inStore", "I", false)
  | 7 => ("TicketCoincidences", "countedInAll", "I", false)
  | _ => ("TicketCoincidences", "spentInAll", "I", false)
def tyX0 : Nat → FieldType := fun k => match k with
  | 0 => .array .int
  | 1 => .array .int
  | 2 => .array .int
  | 3 => .array .int
  | 4 => .int
  | 5 => .int
  | 6 => .int
  | 7 => .int
  | _ => .int
abbrev wsX00 : List Cond := u_ws RX0 TX0 9
theorem nmX0 : ∀ a, a < 9 → ∀ b, b < 9 → a ≠ b → (TX0 a).2.1 ≠ (TX0 b).2.1 := by decide +kernel
theorem tyX0_ok : ∀ k, k < 9 → parseFieldDescriptor (TX0 k).2.2.1 = some (tyX0 k) := by decide +kernel
abbrev cX0_init : ByteArray := prog_1_method_1_code
def yX0_init : MethodName := ⟨RX0, "<init>", "()V"⟩
abbrev cX0_addStranger : ByteArray := prog_1_method_2_code
def yX0_addStranger : MethodName := ⟨RX0, "addStranger", "(IIII)I"⟩
abbrev cX0_setWalk : ByteArray := prog_1_method_3_code
def yX0_setWalk : MethodName := ⟨RX0, "setWalk", "(II)I"⟩
abbrev cX0_move : ByteArray := prog_1_method_4_code
def yX0_move : MethodName := ⟨RX0, "move", "(II)I"⟩
abbrev cX0_swapUmbrellas : ByteArray := prog_1_method_5_code
def yX0_swapUmbrellas : MethodName := ⟨RX0, "swapUmbrellas", "(II)I"⟩
abbrev cX0_swapTickets : ByteArray := prog_1_method_6_code
def yX0_swapTickets : MethodName := ⟨RX0, "swapTickets", "(II)I"⟩
abbrev cX0_draw : ByteArray := prog_1_method_7_code
def yX0_draw : MethodName := ⟨RX0, "draw", "(II)I"⟩
abbrev cX0_pass : ByteArray := prog_1_method_8_code
def yX0_pass : MethodName := ⟨RX0, "pass", "(I)I"⟩
abbrev cX0_strangers : ByteArray := prog_1_method_9_code
def yX0_strangers : MethodName := ⟨RX0, "strangers", "()I"⟩
abbrev cX0_hour : ByteArray := prog_1_method_10_code
def yX0_hour : MethodName := ⟨RX0, "hour", "()I"⟩
abbrev cX0_store : ByteArray := prog_1_method_11_code
def yX0_store : MethodName := ⟨RX0, "store", "()I"⟩
abbrev cX0_counted : ByteArray := prog_1_method_12_code
def yX0_counted : MethodName := ⟨RX0, "counted", "()I"⟩
abbrev cX0_spent : ByteArray := prog_1_method_13_code
def yX0_spent : MethodName := ⟨RX0, "spent", "()I"⟩
abbrev cX0_ticketOf : ByteArray := prog_1_method_14_code
def yX0_ticketOf : MethodName := ⟨RX0, "ticketOf", "(I)I"⟩
abbrev cX0_colourOf : ByteArray := prog_1_method_15_code
def yX0_colourOf : MethodName := ⟨RX0, "colourOf", "(I)I"⟩
abbrev cX0_cornerOf : ByteArray := prog_1_method_16_code
def yX0_cornerOf : MethodName := ⟨RX0, "cornerOf", "(I)I"⟩
abbrev cX0_walkOf : ByteArray := prog_1_method_17_code
def yX0_walkOf : MethodName := ⟨RX0, "walkOf", "(I)I"⟩
abbrev cX0_peopleAt : ByteArray := prog_1_method_18_code
def yX0_peopleAt : MethodName := ⟨RX0, "peopleAt", "(I)I"⟩
abbrev cX0_pointsOf : ByteArray := prog_1_method_19_code
def yX0_pointsOf : MethodName := ⟨RX0, "pointsOf", "(II)I"⟩
abbrev cX0_areTogether : ByteArray := prog_1_method_20_code
def yX0_areTogether : MethodName := ⟨RX0, "areTogether", "(II)Z"⟩
abbrev cX0_areMirrored : ByteArray := prog_1_method_21_code
def yX0_areMirrored : MethodName := ⟨RX0, "areMirrored", "(II)Z"⟩
abbrev cX0_coincidences : ByteArray := prog_1_method_22_code
def yX0_coincidences : MethodName := ⟨RX0, "coincidences", "()I"⟩
abbrev cX0_coincidencesAt : ByteArray := prog_1_method_23_code
def yX0_coincidencesAt : MethodName := ⟨RX0, "coincidencesAt", "(I)I"⟩
abbrev cX0_luckOf : ByteArray := prog_1_method_24_code
def yX0_luckOf : MethodName := ⟨RX0, "luckOf", "(I)I"⟩
abbrev cX0_luckiestPair : ByteArray := prog_1_method_25_code
def yX0_luckiestPair : MethodName := ⟨RX0, "luckiestPair", "()I"⟩
abbrev cX0_coincidencesIn : ByteArray := prog_1_method_26_code
def yX0_coincidencesIn : MethodName := ⟨RX0, "coincidencesIn", "(I)I"⟩
abbrev cX0_hoursUntilTogether : ByteArray := prog_1_method_27_code
def yX0_hoursUntilTogether : MethodName := ⟨RX0, "hoursUntilTogether", "(II)I"⟩
abbrev cX0_costOfMeeting : ByteArray := prog_1_method_28_code
def yX0_costOfMeeting : MethodName := ⟨RX0, "costOfMeeting", "(II)I"⟩
abbrev cX0_bestHour : ByteArray := prog_1_method_29_code
def yX0_bestHour : MethodName := ⟨RX0, "bestHour", "()I"⟩
abbrev cX0_bestCorner : ByteArray := prog_1_method_30_code
def yX0_bestCorner : MethodName := ⟨RX0, "bestCorner", "(I)I"⟩
abbrev cX0_bestSwap : ByteArray := prog_1_method_31_code
def yX0_bestSwap : MethodName := ⟨RX0, "bestSwap", "()I"⟩
abbrev cX0_bestTicket : ByteArray := prog_1_method_32_code
def yX0_bestTicket : MethodName := ⟨RX0, "bestTicket", "(I)I"⟩
abbrev cX0_meanLuck : ByteArray := prog_1_method_33_code
def yX0_meanLuck : MethodName := ⟨RX0, "meanLuck", "()D"⟩
abbrev cX0_digest : ByteArray := prog_1_method_34_code
def yX0_digest : MethodName := ⟨RX0, "digest", "()J"⟩
abbrev cX0_isTicket : ByteArray := prog_1_method_35_code
def yX0_isTicket : MethodName := ⟨RX0, "isTicket", "(I)Z"⟩
abbrev cX0_isColour : ByteArray := prog_1_method_36_code
def yX0_isColour : MethodName := ⟨RX0, "isColour", "(I)Z"⟩
abbrev cX0_isCorner : ByteArray := prog_1_method_37_code
def yX0_isCorner : MethodName := ⟨RX0, "isCorner", "(I)Z"⟩
abbrev cX0_isWalk : ByteArray := prog_1_method_38_code
def yX0_isWalk : MethodName := ⟨RX0, "isWalk", "(I)Z"⟩
abbrev cX0_requireStranger : ByteArray := prog_1_method_39_code
def yX0_requireStranger : MethodName := ⟨RX0, "requireStranger", "(I)V"⟩
abbrev cX0_requirePair : ByteArray := prog_1_method_40_code
def yX0_requirePair : MethodName := ⟨RX0, "requirePair", "(II)V"⟩
abbrev cX0_requireCorner : ByteArray := prog_1_method_41_code
def yX0_requireCorner : MethodName := ⟨RX0, "requireCorner", "(I)V"⟩
abbrev cX0_pay : ByteArray := prog_1_method_42_code
def yX0_pay : MethodName := ⟨RX0, "pay", "(I)V"⟩
abbrev cX0_costOfWay : ByteArray := prog_1_method_43_code
def yX0_costOfWay : MethodName := ⟨RX0, "costOfWay", "(II)I"⟩
abbrev cX0_passOneHour : ByteArray := prog_1_method_44_code
def yX0_passOneHour : MethodName := ⟨RX0, "passOneHour", "()V"⟩
abbrev cX0_emptyCorners : ByteArray := prog_1_method_45_code
def yX0_emptyCorners : MethodName := ⟨RX0, "emptyCorners", "()I"⟩
abbrev cX0_crowdAt : ByteArray := prog_1_method_46_code
def yX0_crowdAt : MethodName := ⟨RX0, "crowdAt", "(I)I"⟩
abbrev cX0_exchange : ByteArray := prog_1_method_47_code
def yX0_exchange : MethodName := ⟨RX0, "exchange", "([III)V"⟩
abbrev cX0_mirrored : ByteArray := prog_1_method_48_code
def yX0_mirrored : MethodName := ⟨RX0, "mirrored", "(II)Z"⟩
abbrev cX0_figureSum : ByteArray := prog_1_method_49_code
def yX0_figureSum : MethodName := ⟨RX0, "figureSum", "(I)I"⟩
abbrev cX0_pointsOfTickets : ByteArray := prog_1_method_50_code
def yX0_pointsOfTickets : MethodName := ⟨RX0, "pointsOfTickets", "(II)I"⟩
abbrev cX0_pointsOfColours : ByteArray := prog_1_method_51_code
def yX0_pointsOfColours : MethodName := ⟨RX0, "pointsOfColours", "(II)I"⟩
abbrev cX0_pointsOfPair : ByteArray := prog_1_method_52_code
def yX0_pointsOfPair : MethodName := ⟨RX0, "pointsOfPair", "(II)I"⟩
abbrev cX0_cornerBehind : ByteArray := prog_1_method_53_code
def yX0_cornerBehind : MethodName := ⟨RX0, "cornerBehind", "(II)I"⟩
abbrev cX0_townBehind : ByteArray := prog_1_method_54_code
def yX0_townBehind : MethodName := ⟨RX0, "townBehind", "(I)I"⟩
abbrev cX0_townIfSwapped : ByteArray := prog_1_method_55_code
def yX0_townIfSwapped : MethodName := ⟨RX0, "townIfSwapped", "(II)I"⟩
abbrev cX0_luckNow : ByteArray := prog_1_method_56_code
def yX0_luckNow : MethodName := ⟨RX0, "luckNow", "(I)I"⟩
abbrev cX0_luckWith : ByteArray := prog_1_method_57_code
def yX0_luckWith : MethodName := ⟨RX0, "luckWith", "(III)I"⟩
abbrev cX0_mixed : ByteArray := prog_1_method_58_code
def yX0_mixed : MethodName := ⟨RX0, "mixed", "(JJ)J"⟩
def RX1 : String := "TicketCoincidencesLaw$Sim"
def TX1 : u_T := fun k => match k with
  | 0 => ("TicketCoincidencesLaw$Sim", "hour", "I", false)
  | 1 => ("TicketCoincidencesLaw$Sim", "store", "I", false)
  | 2 => ("TicketCoincidencesLaw$Sim", "counted", "I", false)
  | 3 => ("TicketCoincidencesLaw$Sim", "spent", "I", false)
  | _ => ("TicketCoincidencesLaw$Sim", "all", "[[I", false)
def tyX1 : Nat → FieldType := fun k => match k with
  | 0 => .int
  | 1 => .int
  | 2 => .int
  | 3 => .int
  | _ => .array (.array .int)
abbrev wsX10 : List Cond := u_ws RX1 TX1 5
theorem nmX1 : ∀ a, a < 5 → ∀ b, b < 5 → a ≠ b → (TX1 a).2.1 ≠ (TX1 b).2.1 := by decide +kernel
theorem tyX1_ok : ∀ k, k < 5 → parseFieldDescriptor (TX1 k).2.2.1 = some (tyX1 k) := by decide +kernel
abbrev cX1_init : ByteArray := prog_3_method_1_code
def yX1_init : MethodName := ⟨RX1, "<init>", "()V"⟩
abbrev cX1_with : ByteArray := prog_3_method_3_code
def yX1_with : MethodName := ⟨RX1, "with", "([[I[I)[[I"⟩
abbrev cX1_ticket : ByteArray := prog_3_method_4_code
def yX1_ticket : MethodName := ⟨RX1, "ticket", "(I)I"⟩
abbrev cX1_set : ByteArray := prog_3_method_5_code
def yX1_set : MethodName := ⟨RX1, "set", "(II)V"⟩
abbrev cX1_isMirror : ByteArray := prog_3_method_6_code
def yX1_isMirror : MethodName := ⟨RX1, "isMirror", "([I[I)Z"⟩
abbrev cX1_points : ByteArray := prog_3_method_7_code
def yX1_points : MethodName := ⟨RX1, "points", "([I[I)I"⟩
abbrev cX1_luck : ByteArray := prog_3_method_8_code
def yX1_luck : MethodName := ⟨RX1, "luck", "(I)I"⟩
abbrev cX1_at : ByteArray := prog_3_method_9_code
def yX1_at : MethodName := ⟨RX1, "at", "(I)I"⟩
abbrev cX1_town : ByteArray := prog_3_method_10_code
def yX1_town : MethodName := ⟨RX1, "town", "()I"⟩
abbrev cX1_people : ByteArray := prog_3_method_11_code
def yX1_people : MethodName := ⟨RX1, "people", "(I)I"⟩
abbrev cX1_cost : ByteArray := prog_3_method_12_code
def yX1_cost : MethodName := ⟨RX1, "cost", "(II)I"⟩
abbrev cX1_pay : ByteArray := prog_3_method_13_code
def yX1_pay : MethodName := ⟨RX1, "pay", "(I)V"⟩
abbrev cX1_pass : ByteArray := prog_3_method_14_code
def yX1_pass : MethodName := ⟨RX1, "pass", "(I)I"⟩
abbrev cX1_isSame : ByteArray := prog_3_method_15_code
def yX1_isSame : MethodName := ⟨RX1, "isSame", "(LTicketCoincidences;)Z"⟩
def RX2 : String := "TicketCoincidencesModel"
def TX2 : u_T := fun k => match k with
  | _ => ("", "", "", false)
def tyX2 : Nat → FieldType := fun k => match k with
  | _ => .int
abbrev wsX20 : List Cond := u_ws RX2 TX2 0
theorem nmX2 : ∀ a, a < 0 → ∀ b, b < 0 → a ≠ b → (TX2 a).2.1 ≠ (TX2 b).2.1 := by decide +kernel
theorem tyX2_ok : ∀ k, k < 0 → parseFieldDescriptor (TX2 k).2.2.1 = some (tyX2 k) := by decide +kernel
def RJ9 : String := "java/lang/Math"
def TJ9 : u_T := fun k => match k with
  | _ => ("", "", "", false)
def tyJ9 : Nat → FieldType := fun k => match k with
  | _ => .int
abbrev wsJ90 : List Cond := u_ws RJ9 TJ9 0
theorem nmJ9 : ∀ a, a < 0 → ∀ b, b < 0 → a ≠ b → (TJ9 a).2.1 ≠ (TJ9 b).2.1 := by decide +kernel
theorem tyJ9_ok : ∀ k, k < 0 → parseFieldDescriptor (TJ9 k).2.2.1 = some (tyJ9 k) := by decide +kernel
abbrev cJ9_abs_0f7a4 : ByteArray := prog_9_method_59_code
def yJ9_abs_0f7a4 : MethodName := ⟨RJ9, "abs", "(I)I"⟩
abbrev cJ9_min_7cf53 : ByteArray := prog_9_method_69_code
def yJ9_min_7cf53 : MethodName := ⟨RJ9, "min", "(II)I"⟩
def RJ0 : String := "java/lang/String"
def TJ0 : u_T := fun k => match k with
  | _ => ("", "", "", false)
def tyJ0 : Nat → FieldType := fun k => match k with
  | _ => .int
abbrev wsJ00 : List Cond := u_ws RJ0 TJ0 0
theorem nmJ0 : ∀ a, a < 0 → ∀ b, b < 0 → a ≠ b → (TJ0 a).2.1 ≠ (TJ0 b).2.1 := by decide +kernel
theorem tyJ0_ok : ∀ k, k < 0 → parseFieldDescriptor (TJ0 k).2.2.1 = some (tyJ0 k) := by decide +kernel
def RL : String := "TicketCoincidencesLaw"
abbrev cL_below : ByteArray := method_2_code
def yL_below : MethodName := ⟨RL, "below", "(II)I"⟩
abbrev cL_cell : ByteArray := method_3_code
def yL_cell : MethodName := ⟨RL, "cell", "([II)I"⟩
abbrev cL_act : ByteArray := method_4_code
def yL_act : MethodName := ⟨RL, "act", "(LTicketCoincidences;LTicketCoincidencesLaw$Sim;I)Z"⟩
abbrev cL_works : ByteArray := method_5_code
def yL_works : MethodName := ⟨RL, "works", "(LTicketCoincidences;LTicketCoincidencesLaw$Sim;IIII)Z"⟩
abbrev cL_build : ByteArray := method_6_code
def yL_build : MethodName := ⟨RL, "build", "(LTicketCoincidences;[I)LTicketCoincidencesLaw$Sim;"⟩
abbrev cL_law : ByteArray := code
def yL_law : MethodName := ⟨RL, "law", "([I)Z"⟩
def wsX0_init : List Cond := .code yX0_init cX0_init 1 none :: ([.methodLink RX0 1 objectInit, .instanceMethod objectInit, .code objectInit ⟨#[0xb1]⟩ 1 none, .arrayClass .int, .fieldLink RX0 9 "TicketCoincidences" "tickets" "[I", .fieldLink RX0 13 "TicketCoincidences" "colours" "[I", .fieldLink RX0 16 "TicketCoincidences" "corners" "[I", .fieldLink RX0 19 "TicketCoincidences" "walks" "[I", .fieldLink RX0 22 "TicketCoincidences" "people" "I", .fieldLink RX0 26 "TicketCoincidences" "hourNow" "I", .fieldLink RX0 29 "TicketCoincidences" "inStore" "I", .fieldLink RX0 32 "TicketCoincidences" "countedInAll" "I", .fieldLink RX0 35 "TicketCoincidences" "spentInAll" "I"] ++ wsX00)
def wsX0_isTicket : List Cond := .code yX0_isTicket cX0_isTicket 1 (some .boolean) :: ([])
def wsX0_isColour : List Cond := .code yX0_isColour cX0_isColour 1 (some .boolean) :: ([])
def wsX0_isCorner : List Cond := .code yX0_isCorner cX0_isCorner 1 (some .boolean) :: ([])
def wsX0_isWalk : List Cond := .code yX0_isWalk cX0_isWalk 1 (some .boolean) :: ([])
def wsX0_addStranger : List Cond := .code yX0_addStranger cX0_addStranger 6 (some .int) :: ([.classLink RX0 51 "java/lang/IllegalArgumentException", .initialized "java/lang/IllegalArgumentException", .classLink RX0 58 "java/lang/IllegalStateException", .initialized "java/lang/IllegalStateException", .fieldLink RX0 22 "TicketCoincidences" "people" "I", .fieldLink RX0 9 "TicketCoincidences" "tickets" "[I", .fieldLink RX0 13 "TicketCoincidences" "colours" "[I", .fieldLink RX0 16 "TicketCoincidences" "corners" "[I", .fieldLink RX0 19 "TicketCoincidences" "walks" "[I", .methodLink RX0 38 yX0_isTicket, .static yX0_isTicket, .initialized RX0, .code yX0_isTicket cX0_isTicket 1 (some .boolean), .methodLink RX0 42 yX0_isColour, .static yX0_isColour, .code yX0_isColour cX0_isColour 1 (some .boolean), .methodLink RX0 45 yX0_isCorner, .static yX0_isCorner, .code yX0_isCorner cX0_isCorner 1 (some .boolean), .methodLink RX0 48 yX0_isWalk, .static yX0_isWalk, .code yX0_isWalk cX0_isWalk 1 (some .boolean)] ++ wsX00 ++ (vx_atS RX0 55 "java/lang/IllegalArgumentException" ["java/lang/RuntimeException", "java/lang/Exception"]).filter goodWord ++ (vx_atS RX0 62 "java/lang/IllegalStateException" ["java/lang/RuntimeException", "java/lang/Exception"]).filter goodWord)
def wsX0_requireStranger : List Cond := .code yX0_requireStranger cX0_requireStranger 2 none :: ([.classLink RX0 157 "java/lang/IndexOutOfBoundsException", .initialized "java/lang/IndexOutOfBoundsException", .fieldLink RX0 22 "TicketCoincidences" "people" "I"] ++ wsX00 ++ (vx_atS RX0 161 "java/lang/IndexOutOfBoundsException" ["java/lang/RuntimeException", "java/lang/Exception"]).filter goodWord)
def wsX0_setWalk : List Cond := .code yX0_setWalk cX0_setWalk 4 (some .int) :: ([.classLink RX0 51 "java/lang/IllegalArgumentException", .initialized "java/lang/IllegalArgumentException", .fieldLink RX0 19 "TicketCoincidences" "walks" "[I", .methodLink RX0 63 yX0_requireStranger, .instanceMethod yX0_requireStranger, .selects RX0 yX0_requireStranger yX0_requireStranger, .initialized RX0, .code yX0_requireStranger cX0_requireStranger 2 none, .classLink RX0 157 "java/lang/IndexOutOfBoundsException", .initialized "java/lang/IndexOutOfBoundsException", .fieldLink RX0 22 "TicketCoincidences" "people" "I", .methodLink RX0 48 yX0_isWalk, .static yX0_isWalk, .code yX0_isWalk cX0_isWalk 1 (some .boolean)] ++ wsX00 ++ (vx_atS RX0 55 "java/lang/IllegalArgumentException" ["java/lang/RuntimeException", "java/lang/Exception"]).filter goodWord ++ (vx_atS RX0 161 "java/lang/IndexOutOfBoundsException" ["java/lang/RuntimeException", "java/lang/Exception"]).filter goodWord)
def wsX0_costOfWay : List Cond := .code yX0_costOfWay cX0_costOfWay 3 (some .int) :: ([.methodLink RX0 166 Lib.Math.abs.name, .static Lib.Math.abs.name, .initialized "java/lang/Math", .code Lib.Math.abs.name Lib.Math.abs.code 1 (some .int), .methodLink RX0 171 Lib.Math.min.name, .static Lib.Math.min.name, .code Lib.Math.min.name Lib.Math.min.code 2 (some .int)])
def wsX0_pay : List Cond := .code yX0_pay cX0_pay 2 none :: ([.classLink RX0 58 "java/lang/IllegalStateException", .initialized "java/lang/IllegalStateException", .fieldLink RX0 29 "TicketCoincidences" "inStore" "I", .fieldLink RX0 35 "TicketCoincidences" "spentInAll" "I"] ++ wsX00 ++ (vx_atS RX0 62 "java/lang/IllegalStateException" ["java/lang/RuntimeException", "java/lang/Exception"]).filter goodWord)
def wsX0_move_r1 : List Cond := [Cond.classLink RX0 51 "java/lang/IllegalArgumentException", Cond.initialized "java/lang/IllegalArgumentException", Cond.classLink RX0 58 "java/lang/IllegalStateException", Cond.initialized "java/lang/IllegalStateException", Cond.fieldLink RX0 16 "TicketCoincidences" "corners" "[I", Cond.methodLink RX0 63 yX0_requireStranger, Cond.instanceMethod yX0_requireStranger, Cond.selects RX0 yX0_requireStranger yX0_requireStranger, Cond.initialized RX0, Cond.code yX0_requireStranger cX0_requireStranger 2 none, Cond.classLink RX0 157 "java/lang/IndexOutOfBoundsException", Cond.initialized "java/lang/IndexOutOfBoundsException", Cond.fieldLink RX0 22 "TicketCoincidences" "people" "I", Cond.methodLink RX0 45 yX0_isCorner, Cond.static yX0_isCorner, Cond.code yX0_isCorner cX0_isCorner 1 (some .boolean), Cond.methodLink RX0 73 yX0_costOfWay, Cond.static yX0_costOfWay, Cond.code yX0_costOfWay cX0_costOfWay 3 (some .int), Cond.methodLink RX0 166 Lib.Math.abs.name, Cond.static Lib.Math.abs.name, Cond.initialized "java/lang/Math", Cond.code Lib.Math.abs.name Lib.Math.abs.code 1 (some .int), Cond.methodLink RX0 171 Lib.Math.min.name]
def wsX0_move_r2 : List Cond := [Cond.static Lib.Math.min.name, Cond.code Lib.Math.min.name Lib.Math.min.code 2 (some .int), Cond.methodLink RX0 77 yX0_pay, Cond.instanceMethod yX0_pay, Cond.selects RX0 yX0_pay yX0_pay, Cond.code yX0_pay cX0_pay 2 none, Cond.fieldLink RX0 29 "TicketCoincidences" "inStore" "I", Cond.fieldLink RX0 35 "TicketCoincidences" "spentInAll" "I"]
def wsX0_move : List Cond := .code yX0_move cX0_move 4 (some .int) :: ((wsX0_move_r1 ++ wsX0_move_r2) ++ wsX00 ++ (vx_atS RX0 55 "java/lang/IllegalArgumentException" ["java/lang/RuntimeException", "java/lang/Exception"]).filter goodWord ++ (vx_atS RX0 62 "java/lang/IllegalStateException" ["java/lang/RuntimeException", "java/lang/Exception"]).filter goodWord ++ (vx_atS RX0 161 "java/lang/IndexOutOfBoundsException" ["java/lang/RuntimeException", "java/lang/Exception"]).filter goodWord)
def wsX0_requirePair : List Cond := .code yX0_requirePair cX0_requirePair 3 none :: ([.classLink RX0 51 "java/lang/IllegalArgumentException", .initialized "java/lang/IllegalArgumentException", .methodLink RX0 63 yX0_requireStranger, .instanceMethod yX0_requireStranger, .selects RX0 yX0_requireStranger yX0_requireStranger, .initialized RX0, .code yX0_requireStranger cX0_requireStranger 2 none, .classLink RX0 157 "java/lang/IndexOutOfBoundsException", .initialized "java/lang/IndexOutOfBoundsException", .fieldLink RX0 22 "TicketCoincidences" "people" "I"] ++ wsX00 ++ (vx_atS RX0 55 "java/lang/IllegalArgumentException" ["java/lang/RuntimeException", "java/lang/Exception"]).filter goodWord ++ (vx_atS RX0 161 "java/lang/IndexOutOfBoundsException" ["java/lang/RuntimeException", "java/lang/Exception"]).filter goodWord)
def wsX0_cornerBehind : List Cond := .code yX0_cornerBehind cX0_cornerBehind 3 (some .int) :: ([.fieldLink RX0 16 "TicketCoincidences" "corners" "[I", .fieldLink RX0 19 "TicketCoincidences" "walks" "[I"] ++ wsX00)
def wsX0_figureSum : List Cond := .code yX0_figureSum cX0_figureSum 1 (some .int) :: ([])
def wsX0_mirrored : List Cond := .code yX0_mirrored cX0_mirrored 2 (some .boolean) :: ([])
def wsX0_pointsOfTickets : List Cond := .code yX0_pointsOfTickets cX0_pointsOfTickets 3 (some .int) :: ([.methodLink RX0 166 Lib.Math.abs.name, .static Lib.Math.abs.name, .initialized "java/lang/Math", .code Lib.Math.abs.name Lib.Math.abs.code 1 (some .int), .methodLink RX0 177 yX0_figureSum, .static yX0_figureSum, .initialized RX0, .code yX0_figureSum cX0_figureSum 1 (some .int), .methodLink RX0 110 yX0_mirrored, .static yX0_mirrored, .code yX0_mirrored cX0_mirrored 2 (some .boolean)])
def wsX0_pointsOfColours : List Cond := .code yX0_pointsOfColours cX0_pointsOfColours 2 (some .int) :: ([])
def wsX0_pointsOfPair : List Cond := .code yX0_pointsOfPair cX0_pointsOfPair 3 (some .int) :: ([.fieldLink RX0 9 "TicketCoincidences" "tickets" "[I", .fieldLink RX0 13 "TicketCoincidences" "colours" "[I", .methodLink RX0 180 yX0_pointsOfTickets, .static yX0_pointsOfTickets, .initialized RX0, .code yX0_pointsOfTickets cX0_pointsOfTickets 3 (some .int), .methodLink RX0 166 Lib.Math.abs.name, .static Lib.Math.abs.name, .initialized "java/lang/Math", .code Lib.Math.abs.name Lib.Math.abs.code 1 (some .int), .methodLink RX0 177 yX0_figureSum, .static yX0_figureSum, .code yX0_figureSum cX0_figureSum 1 (some .int), .methodLink RX0 110 yX0_mirrored, .static yX0_mirrored, .code yX0_mirrored cX0_mirrored 2 (some .boolean), .methodLink RX0 183 yX0_pointsOfColours, .static yX0_pointsOfColours, .code yX0_pointsOfColours cX0_pointsOfColours 2 (some .int)] ++ wsX00)
def wsX0_townBehind_r1 : List Cond := [Cond.fieldLink RX0 22 "TicketCoincidences" "people" "I", Cond.methodLink RX0 119 yX0_cornerBehind, Cond.instanceMethod yX0_cornerBehind, Cond.selects RX0 yX0_cornerBehind yX0_cornerBehind, Cond.initialized RX0, Cond.code yX0_cornerBehind cX0_cornerBehind 3 (some .int), Cond.fieldLink RX0 16 "TicketCoincidences" "corners" "[I", Cond.fieldLink RX0 19 "TicketCoincidences" "walks" "[I", Cond.methodLink RX0 107 yX0_pointsOfPair, Cond.instanceMethod yX0_pointsOfPair, Cond.selects RX0 yX0_pointsOfPair yX0_pointsOfPair, Cond.code yX0_pointsOfPair cX0_pointsOfPair 3 (some .int), Cond.fieldLink RX0 9 "TicketCoincidences" "tickets" "[I", Cond.fieldLink RX0 13 "TicketCoincidences" "colours" "[I", Cond.methodLink RX0 180 yX0_pointsOfTickets, Cond.static yX0_pointsOfTickets, Cond.code yX0_pointsOfTickets cX0_pointsOfTickets 3 (some .int), Cond.methodLink RX0 166 Lib.Math.abs.name, Cond.static Lib.Math.abs.name, Cond.initialized "java/lang/Math", Cond.code Lib.Math.abs.name Lib.Math.abs.code 1 (some .int), Cond.methodLink RX0 177 yX0_figureSum, Cond.static yX0_figureSum, Cond.code yX0_figureSum cX0_figureSum 1 (some .int)]
def wsX0_townBehind_r2 : List Cond := [Cond.methodLink RX0 110 yX0_mirrored, Cond.static yX0_mirrored, Cond.code yX0_mirrored cX0_mirrored 2 (some .boolean), Cond.methodLink RX0 183 yX0_pointsOfColours, Cond.static yX0_pointsOfColours, Cond.code yX0_pointsOfColours cX0_pointsOfColours 2 (some .int)]
def wsX0_townBehind : List Cond := .code yX0_townBehind cX0_townBehind 5 (some .int) :: ((wsX0_townBehind_r1 ++ wsX0_townBehind_r2) ++ wsX00)
def wsX0_exchange : List Cond := .code yX0_exchange cX0_exchange 4 none :: ([])
def wsX0_swapUmbrellas_r1 : List Cond := [Cond.classLink RX0 58 "java/lang/IllegalStateException", Cond.initialized "java/lang/IllegalStateException", Cond.fieldLink RX0 16 "TicketCoincidences" "corners" "[I", Cond.fieldLink RX0 13 "TicketCoincidences" "colours" "[I", Cond.methodLink RX0 80 yX0_requirePair, Cond.instanceMethod yX0_requirePair, Cond.selects RX0 yX0_requirePair yX0_requirePair, Cond.initialized RX0, Cond.code yX0_requirePair cX0_requirePair 3 none, Cond.classLink RX0 51 "java/lang/IllegalArgumentException", Cond.initialized "java/lang/IllegalArgumentException", Cond.methodLink RX0 63 yX0_requireStranger, Cond.instanceMethod yX0_requireStranger, Cond.selects RX0 yX0_requireStranger yX0_requireStranger, Cond.code yX0_requireStranger cX0_requireStranger 2 none, Cond.classLink RX0 157 "java/lang/IndexOutOfBoundsException", Cond.initialized "java/lang/IndexOutOfBoundsException", Cond.fieldLink RX0 22 "TicketCoincidences" "people" "I", Cond.methodLink RX0 77 yX0_pay, Cond.instanceMethod yX0_pay, Cond.selects RX0 yX0_pay yX0_pay, Cond.code yX0_pay cX0_pay 2 none, Cond.fieldLink RX0 29 "TicketCoincidences" "inStore" "I", Cond.fieldLink RX0 35 "TicketCoincidences" "spentInAll" "I"]
def wsX0_swapUmbrellas_r2 : List Cond := [Cond.methodLink RX0 86 yX0_townBehind, Cond.instanceMethod yX0_townBehind, Cond.selects RX0 yX0_townBehind yX0_townBehind, Cond.code yX0_townBehind cX0_townBehind 5 (some .int), Cond.methodLink RX0 119 yX0_cornerBehind, Cond.instanceMethod yX0_cornerBehind, Cond.selects RX0 yX0_cornerBehind yX0_cornerBehind, Cond.code yX0_cornerBehind cX0_cornerBehind 3 (some .int), Cond.fieldLink RX0 19 "TicketCoincidences" "walks" "[I", Cond.methodLink RX0 107 yX0_pointsOfPair, Cond.instanceMethod yX0_pointsOfPair, Cond.selects RX0 yX0_pointsOfPair yX0_pointsOfPair, Cond.code yX0_pointsOfPair cX0_pointsOfPair 3 (some .int), Cond.fieldLink RX0 9 "TicketCoincidences" "tickets" "[I", Cond.methodLink RX0 180 yX0_pointsOfTickets, Cond.static yX0_pointsOfTickets, Cond.code yX0_pointsOfTickets cX0_pointsOfTickets 3 (some .int), Cond.methodLink RX0 166 Lib.Math.abs.name, Cond.static Lib.Math.abs.name, Cond.initialized "java/lang/Math", Cond.code Lib.Math.abs.name Lib.Math.abs.code 1 (some .int), Cond.methodLink RX0 177 yX0_figureSum, Cond.static yX0_figureSum, Cond.code yX0_figureSum cX0_figureSum 1 (some .int)]
def wsX0_swapUmbrellas_r3 : List Cond := [Cond.methodLink RX0 110 yX0_mirrored, Cond.static yX0_mirrored, Cond.code yX0_mirrored cX0_mirrored 2 (some .boolean), Cond.methodLink RX0 183 yX0_pointsOfColours, Cond.static yX0_pointsOfColours, Cond.code yX0_pointsOfColours cX0_pointsOfColours 2 (some .int), Cond.methodLink RX0 90 yX0_exchange, Cond.static yX0_exchange, Cond.code yX0_exchange cX0_exchange 4 none]
def wsX0_swapUmbrellas : List Cond := .code yX0_swapUmbrellas cX0_swapUmbrellas 4 (some .int) :: ((wsX0_swapUmbrellas_r1 ++ (wsX0_swapUmbrellas_r2 ++ wsX0_swapUmbrellas_r3)) ++ wsX00 ++ (vx_atS RX0 62 "java/lang/IllegalStateException" ["java/lang/RuntimeException", "java/lang/Exception"]).filter goodWord ++ (vx_atS RX0 55 "java/lang/IllegalArgumentException" ["java/lang/RuntimeException", "java/lang/Exception"]).filter goodWord ++ (vx_atS RX0 161 "java/lang/IndexOutOfBoundsException" ["java/lang/RuntimeException", "java/lang/Exception"]).filter goodWord)
def wsX0_swapTickets_r1 : List Cond := [Cond.fieldLink RX0 9 "TicketCoincidences" "tickets" "[I", Cond.methodLink RX0 80 yX0_requirePair, Cond.instanceMethod yX0_requirePair, Cond.selects RX0 yX0_requirePair yX0_requirePair, Cond.initialized RX0, Cond.code yX0_requirePair cX0_requirePair 3 none, Cond.classLink RX0 51 "java/lang/IllegalArgumentException", Cond.initialized "java/lang/IllegalArgumentException", Cond.methodLink RX0 63 yX0_requireStranger, Cond.instanceMethod yX0_requireStranger, Cond.selects RX0 yX0_requireStranger yX0_requireStranger, Cond.code yX0_requireStranger cX0_requireStranger 2 none, Cond.classLink RX0 157 "java/lang/IndexOutOfBoundsException", Cond.initialized "java/lang/IndexOutOfBoundsException", Cond.fieldLink RX0 22 "TicketCoincidences" "people" "I", Cond.methodLink RX0 77 yX0_pay, Cond.instanceMethod yX0_pay, Cond.selects RX0 yX0_pay yX0_pay, Cond.code yX0_pay cX0_pay 2 none, Cond.classLink RX0 58 "java/lang/IllegalStateException", Cond.initialized "java/lang/IllegalStateException", Cond.fieldLink RX0 29 "TicketCoincidences" "inStore" "I", Cond.fieldLink RX0 35 "TicketCoincidences" "spentInAll" "I", Cond.methodLink RX0 86 yX0_townBehind]
def wsX0_swapTickets_r2 : List Cond := [Cond.instanceMethod yX0_townBehind, Cond.selects RX0 yX0_townBehind yX0_townBehind, Cond.code yX0_townBehind cX0_townBehind 5 (some .int), Cond.methodLink RX0 119 yX0_cornerBehind, Cond.instanceMethod yX0_cornerBehind, Cond.selects RX0 yX0_cornerBehind yX0_cornerBehind, Cond.code yX0_cornerBehind cX0_cornerBehind 3 (some .int), Cond.fieldLink RX0 16 "TicketCoincidences" "corners" "[I", Cond.fieldLink RX0 19 "TicketCoincidences" "walks" "[I", Cond.methodLink RX0 107 yX0_pointsOfPair, Cond.instanceMethod yX0_pointsOfPair, Cond.selects RX0 yX0_pointsOfPair yX0_pointsOfPair, Cond.code yX0_pointsOfPair cX0_pointsOfPair 3 (some .int), Cond.fieldLink RX0 13 "TicketCoincidences" "colours" "[I", Cond.methodLink RX0 180 yX0_pointsOfTickets, Cond.static yX0_pointsOfTickets, Cond.code yX0_pointsOfTickets cX0_pointsOfTickets 3 (some .int), Cond.methodLink RX0 166 Lib.Math.abs.name, Cond.static Lib.Math.abs.name, Cond.initialized "java/lang/Math", Cond.code Lib.Math.abs.name Lib.Math.abs.code 1 (some .int), Cond.methodLink RX0 177 yX0_figureSum, Cond.static yX0_figureSum, Cond.code yX0_figureSum cX0_figureSum 1 (some .int)]
def wsX0_swapTickets_r3 : List Cond := [Cond.methodLink RX0 110 yX0_mirrored, Cond.static yX0_mirrored, Cond.code yX0_mirrored cX0_mirrored 2 (some .boolean), Cond.methodLink RX0 183 yX0_pointsOfColours, Cond.static yX0_pointsOfColours, Cond.code yX0_pointsOfColours cX0_pointsOfColours 2 (some .int), Cond.methodLink RX0 90 yX0_exchange, Cond.static yX0_exchange, Cond.code yX0_exchange cX0_exchange 4 none]
def wsX0_swapTickets : List Cond := .code yX0_swapTickets cX0_swapTickets 4 (some .int) :: ((wsX0_swapTickets_r1 ++ (wsX0_swapTickets_r2 ++ wsX0_swapTickets_r3)) ++ wsX00 ++ (vx_atS RX0 55 "java/lang/IllegalArgumentException" ["java/lang/RuntimeException", "java/lang/Exception"]).filter goodWord ++ (vx_atS RX0 161 "java/lang/IndexOutOfBoundsException" ["java/lang/RuntimeException", "java/lang/Exception"]).filter goodWord ++ (vx_atS RX0 62 "java/lang/IllegalStateException" ["java/lang/RuntimeException", "java/lang/Exception"]).filter goodWord)
def wsX0_draw : List Cond := .code yX0_draw cX0_draw 4 (some .int) :: ([.classLink RX0 51 "java/lang/IllegalArgumentException", .initialized "java/lang/IllegalArgumentException", .fieldLink RX0 9 "TicketCoincidences" "tickets" "[I", .methodLink RX0 63 yX0_requireStranger, .instanceMethod yX0_requireStranger, .selects RX0 yX0_requireStranger yX0_requireStranger, .initialized RX0, .code yX0_requireStranger cX0_requireStranger 2 none, .classLink RX0 157 "java/lang/IndexOutOfBoundsException", .initialized "java/lang/IndexOutOfBoundsException", .fieldLink RX0 22 "TicketCoincidences" "people" "I", .methodLink RX0 38 yX0_isTicket, .static yX0_isTicket, .code yX0_isTicket cX0_isTicket 1 (some .boolean), .methodLink RX0 77 yX0_pay, .instanceMethod yX0_pay, .selects RX0 yX0_pay yX0_pay, .code yX0_pay cX0_pay 2 none, .classLink RX0 58 "java/lang/IllegalStateException", .initialized "java/lang/IllegalStateException", .fieldLink RX0 29 "TicketCoincidences" "inStore" "I", .fieldLink RX0 35 "TicketCoincidences" "spentInAll" "I"] ++ wsX00 ++ (vx_atS RX0 55 "java/lang/IllegalArgumentException" ["java/lang/RuntimeException", "java/lang/Exception"]).filter goodWord ++ (vx_atS RX0 161 "java/lang/IndexOutOfBoundsException" ["java/lang/RuntimeException", "java/lang/Exception"]).filter goodWord ++ (vx_atS RX0 62 "java/lang/IllegalStateException" ["java/lang/RuntimeException", "java/lang/Exception"]).filter goodWord)
def wsX0_crowdAt : List Cond := .code yX0_crowdAt cX0_crowdAt 4 (some .int) :: ([.fieldLink RX0 22 "TicketCoincidences" "people" "I", .fieldLink RX0 16 "TicketCoincidences" "corners" "[I"] ++ wsX00)
def wsX0_emptyCorners : List Cond := .code yX0_emptyCorners cX0_emptyCorners 3 (some .int) :: ([.methodLink RX0 104 yX0_crowdAt, .instanceMethod yX0_crowdAt, .selects RX0 yX0_crowdAt yX0_crowdAt, .initialized RX0, .code yX0_crowdAt cX0_crowdAt 4 (some .int), .fieldLink RX0 22 "TicketCoincidences" "people" "I", .fieldLink RX0 16 "TicketCoincidences" "corners" "[I"] ++ wsX00)
def wsX0_passOneHour_r1 : List Cond := [Cond.fieldLink RX0 22 "TicketCoincidences" "people" "I", Cond.fieldLink RX0 16 "TicketCoincidences" "corners" "[I", Cond.fieldLink RX0 32 "TicketCoincidences" "countedInAll" "I", Cond.fieldLink RX0 29 "TicketCoincidences" "inStore" "I", Cond.methodLink RX0 171 Lib.Math.min.name, Cond.static Lib.Math.min.name, Cond.initialized "java/lang/Math", Cond.code Lib.Math.min.name Lib.Math.min.code 2 (some .int), Cond.fieldLink RX0 26 "TicketCoincidences" "hourNow" "I", Cond.methodLink RX0 119 yX0_cornerBehind, Cond.instanceMethod yX0_cornerBehind, Cond.selects RX0 yX0_cornerBehind yX0_cornerBehind, Cond.initialized RX0, Cond.code yX0_cornerBehind cX0_cornerBehind 3 (some .int), Cond.fieldLink RX0 19 "TicketCoincidences" "walks" "[I", Cond.methodLink RX0 86 yX0_townBehind, Cond.instanceMethod yX0_townBehind, Cond.selects RX0 yX0_townBehind yX0_townBehind, Cond.code yX0_townBehind cX0_townBehind 5 (some .int), Cond.methodLink RX0 107 yX0_pointsOfPair, Cond.instanceMethod yX0_pointsOfPair, Cond.selects RX0 yX0_pointsOfPair yX0_pointsOfPair, Cond.code yX0_pointsOfPair cX0_pointsOfPair 3 (some .int), Cond.fieldLink RX0 9 "TicketCoincidences" "tickets" "[I"]
def wsX0_passOneHour_r2 : List Cond := [Cond.fieldLink RX0 13 "TicketCoincidences" "colours" "[I", Cond.methodLink RX0 180 yX0_pointsOfTickets, Cond.static yX0_pointsOfTickets, Cond.code yX0_pointsOfTickets cX0_pointsOfTickets 3 (some .int), Cond.methodLink RX0 166 Lib.Math.abs.name, Cond.static Lib.Math.abs.name, Cond.code Lib.Math.abs.name Lib.Math.abs.code 1 (some .int), Cond.methodLink RX0 177 yX0_figureSum, Cond.static yX0_figureSum, Cond.code yX0_figureSum cX0_figureSum 1 (some .int), Cond.methodLink RX0 110 yX0_mirrored, Cond.static yX0_mirrored, Cond.code yX0_mirrored cX0_mirrored 2 (some .boolean), Cond.methodLink RX0 183 yX0_pointsOfColours, Cond.static yX0_pointsOfColours, Cond.code yX0_pointsOfColours cX0_pointsOfColours 2 (some .int), Cond.methodLink RX0 174 yX0_emptyCorners, Cond.instanceMethod yX0_emptyCorners, Cond.selects RX0 yX0_emptyCorners yX0_emptyCorners, Cond.code yX0_emptyCorners cX0_emptyCorners 3 (some .int), Cond.methodLink RX0 104 yX0_crowdAt, Cond.instanceMethod yX0_crowdAt, Cond.selects RX0 yX0_crowdAt yX0_crowdAt, Cond.code yX0_crowdAt cX0_crowdAt 4 (some .int)]
def wsX0_passOneHour : List Cond := .code yX0_passOneHour cX0_passOneHour 2 none :: ((wsX0_passOneHour_r1 ++ wsX0_passOneHour_r2) ++ wsX00)
def wsX0_pass_r1 : List Cond := [Cond.classLink RX0 51 "java/lang/IllegalArgumentException", Cond.initialized "java/lang/IllegalArgumentException", Cond.fieldLink RX0 32 "TicketCoincidences" "countedInAll" "I", Cond.methodLink RX0 98 yX0_passOneHour, Cond.instanceMethod yX0_passOneHour, Cond.selects RX0 yX0_passOneHour yX0_passOneHour, Cond.initialized RX0, Cond.code yX0_passOneHour cX0_passOneHour 2 none, Cond.fieldLink RX0 22 "TicketCoincidences" "people" "I", Cond.fieldLink RX0 16 "TicketCoincidences" "corners" "[I", Cond.fieldLink RX0 29 "TicketCoincidences" "inStore" "I", Cond.methodLink RX0 171 Lib.Math.min.name, Cond.static Lib.Math.min.name, Cond.initialized "java/lang/Math", Cond.code Lib.Math.min.name Lib.Math.min.code 2 (some .int), Cond.fieldLink RX0 26 "TicketCoincidences" "hourNow" "I", Cond.methodLink RX0 119 yX0_cornerBehind, Cond.instanceMethod yX0_cornerBehind, Cond.selects RX0 yX0_cornerBehind yX0_cornerBehind, Cond.code yX0_cornerBehind cX0_cornerBehind 3 (some .int), Cond.fieldLink RX0 19 "TicketCoincidences" "walks" "[I", Cond.methodLink RX0 86 yX0_townBehind, Cond.instanceMethod yX0_townBehind, Cond.selects RX0 yX0_townBehind yX0_townBehind]
def wsX0_pass_r2 : List Cond := [Cond.code yX0_townBehind cX0_townBehind 5 (some .int), Cond.methodLink RX0 107 yX0_pointsOfPair, Cond.instanceMethod yX0_pointsOfPair, Cond.selects RX0 yX0_pointsOfPair yX0_pointsOfPair, Cond.code yX0_pointsOfPair cX0_pointsOfPair 3 (some .int), Cond.fieldLink RX0 9 "TicketCoincidences" "tickets" "[I", Cond.fieldLink RX0 13 "TicketCoincidences" "colours" "[I", Cond.methodLink RX0 180 yX0_pointsOfTickets, Cond.static yX0_pointsOfTickets, Cond.code yX0_pointsOfTickets cX0_pointsOfTickets 3 (some .int), Cond.methodLink RX0 166 Lib.Math.abs.name, Cond.static Lib.Math.abs.name, Cond.code Lib.Math.abs.name Lib.Math.abs.code 1 (some .int), Cond.methodLink RX0 177 yX0_figureSum, Cond.static yX0_figureSum, Cond.code yX0_figureSum cX0_figureSum 1 (some .int), Cond.methodLink RX0 110 yX0_mirrored, Cond.static yX0_mirrored, Cond.code yX0_mirrored cX0_mirrored 2 (some .boolean), Cond.methodLink RX0 183 yX0_pointsOfColours, Cond.static yX0_pointsOfColours, Cond.code yX0_pointsOfColours cX0_pointsOfColours 2 (some .int), Cond.methodLink RX0 174 yX0_emptyCorners, Cond.instanceMethod yX0_emptyCorners]
def wsX0_pass_r3 : List Cond := [Cond.selects RX0 yX0_emptyCorners yX0_emptyCorners, Cond.code yX0_emptyCorners cX0_emptyCorners 3 (some .int), Cond.methodLink RX0 104 yX0_crowdAt, Cond.instanceMethod yX0_crowdAt, Cond.selects RX0 yX0_crowdAt yX0_crowdAt, Cond.code yX0_crowdAt cX0_crowdAt 4 (some .int)]
def wsX0_pass : List Cond := .code yX0_pass cX0_pass 4 (some .int) :: ((wsX0_pass_r1 ++ (wsX0_pass_r2 ++ wsX0_pass_r3)) ++ wsX00 ++ (vx_atS RX0 55 "java/lang/IllegalArgumentException" ["java/lang/RuntimeException", "java/lang/Exception"]).filter goodWord)
def wsX0_strangers : List Cond := .code yX0_strangers cX0_strangers 1 (some .int) :: ([.fieldLink RX0 22 "TicketCoincidences" "people" "I"] ++ wsX00)
def wsX0_hour : List Cond := .code yX0_hour cX0_hour 1 (some .int) :: ([.fieldLink RX0 26 "TicketCoincidences" "hourNow" "I"] ++ wsX00)
def wsX0_store : List Cond := .code yX0_store cX0_store 1 (some .int) :: ([.fieldLink RX0 29 "TicketCoincidences" "inStore" "I"] ++ wsX00)
def wsX0_counted : List Cond := .code yX0_counted cX0_counted 1 (some .int) :: ([.fieldLink RX0 32 "TicketCoincidences" "countedInAll" "I"] ++ wsX00)
def wsX0_spent : List Cond := .code yX0_spent cX0_spent 1 (some .int) :: ([.fieldLink RX0 35 "TicketCoincidences" "spentInAll" "I"] ++ wsX00)
def wsX0_ticketOf : List Cond := .code yX0_ticketOf cX0_ticketOf 2 (some .int) :: ([.fieldLink RX0 9 "TicketCoincidences" "tickets" "[I", .methodLink RX0 63 yX0_requireStranger, .instanceMethod yX0_requireStranger, .selects RX0 yX0_requireStranger yX0_requireStranger, .initialized RX0, .code yX0_requireStranger cX0_requireStranger 2 none, .classLink RX0 157 "java/lang/IndexOutOfBoundsException", .initialized "java/lang/IndexOutOfBoundsException", .fieldLink RX0 22 "TicketCoincidences" "people" "I"] ++ wsX00 ++ (vx_atS RX0 161 "java/lang/IndexOutOfBoundsException" ["java/lang/RuntimeException", "java/lang/Exception"]).filter goodWord)
def wsX0_colourOf : List Cond := .code yX0_colourOf cX0_colourOf 2 (some .int) :: ([.fieldLink RX0 13 "TicketCoincidences" "colours" "[I", .methodLink RX0 63 yX0_requireStranger, .instanceMethod yX0_requireStranger, .selects RX0 yX0_requireStranger yX0_requireStranger, .initialized RX0, .code yX0_requireStranger cX0_requireStranger 2 none, .classLink RX0 157 "java/lang/IndexOutOfBoundsException", .initialized "java/lang/IndexOutOfBoundsException", .fieldLink RX0 22 "TicketCoincidences" "people" "I"] ++ wsX00 ++ (vx_atS RX0 161 "java/lang/IndexOutOfBoundsException" ["java/lang/RuntimeException", "java/lang/Exception"]).filter goodWord)
def wsX0_cornerOf : List Cond := .code yX0_cornerOf cX0_cornerOf 2 (some .int) :: ([.fieldLink RX0 16 "TicketCoincidences" "corners" "[I", .methodLink RX0 63 yX0_requireStranger, .instanceMethod yX0_requireStranger, .selects RX0 yX0_requireStranger yX0_requireStranger, .initialized RX0, .code yX0_requireStranger cX0_requireStranger 2 none, .classLink RX0 157 "java/lang/IndexOutOfBoundsException", .initialized "java/lang/IndexOutOfBoundsException", .fieldLink RX0 22 "TicketCoincidences" "people" "I"] ++ wsX00 ++ (vx_atS RX0 161 "java/lang/IndexOutOfBoundsException" ["java/lang/RuntimeException", "java/lang/Exception"]).filter goodWord)
def wsX0_walkOf : List Cond := .code yX0_walkOf cX0_walkOf 2 (some .int) :: ([.fieldLink RX0 19 "TicketCoincidences" "walks" "[I", .methodLink RX0 63 yX0_requireStranger, .instanceMethod yX0_requireStranger, .selects RX0 yX0_requireStranger yX0_requireStranger, .initialized RX0, .code yX0_requireStranger cX0_requireStranger 2 none, .classLink RX0 157 "java/lang/IndexOutOfBoundsException", .initialized "java/lang/IndexOutOfBoundsException", .fieldLink RX0 22 "TicketCoincidences" "people" "I"] ++ wsX00 ++ (vx_atS RX0 161 "java/lang/IndexOutOfBoundsException" ["java/lang/RuntimeException", "java/lang/Exception"]).filter goodWord)
def wsX0_requireCorner : List Cond := .code yX0_requireCorner cX0_requireCorner 1 none :: ([.classLink RX0 157 "java/lang/IndexOutOfBoundsException", .initialized "java/lang/IndexOutOfBoundsException", .methodLink RX0 45 yX0_isCorner, .static yX0_isCorner, .initialized RX0, .code yX0_isCorner cX0_isCorner 1 (some .boolean)] ++ (vx_atS RX0 161 "java/lang/IndexOutOfBoundsException" ["java/lang/RuntimeException", "java/lang/Exception"]).filter goodWord)
def wsX0_peopleAt : List Cond := .code yX0_peopleAt cX0_peopleAt 2 (some .int) :: ([.methodLink RX0 101 yX0_requireCorner, .static yX0_requireCorner, .initialized RX0, .code yX0_requireCorner cX0_requireCorner 1 none, .classLink RX0 157 "java/lang/IndexOutOfBoundsException", .initialized "java/lang/IndexOutOfBoundsException", .methodLink RX0 45 yX0_isCorner, .static yX0_isCorner, .code yX0_isCorner cX0_isCorner 1 (some .boolean), .methodLink RX0 104 yX0_crowdAt, .instanceMethod yX0_crowdAt, .selects RX0 yX0_crowdAt yX0_crowdAt, .code yX0_crowdAt cX0_crowdAt 4 (some .int), .fieldLink RX0 22 "TicketCoincidences" "people" "I", .fieldLink RX0 16 "TicketCoincidences" "corners" "[I"] ++ wsX00 ++ (vx_atS RX0 161 "java/lang/IndexOutOfBoundsException" ["java/lang/RuntimeException", "java/lang/Exception"]).filter goodWord)
def wsX0_pointsOf_r1 : List Cond := [Cond.methodLink RX0 80 yX0_requirePair, Cond.instanceMethod yX0_requirePair, Cond.selects RX0 yX0_requirePair yX0_requirePair, Cond.initialized RX0, Cond.code yX0_requirePair cX0_requirePair 3 none, Cond.classLink RX0 51 "java/lang/IllegalArgumentException", Cond.initialized "java/lang/IllegalArgumentException", Cond.methodLink RX0 63 yX0_requireStranger, Cond.instanceMethod yX0_requireStranger, Cond.selects RX0 yX0_requireStranger yX0_requireStranger, Cond.code yX0_requireStranger cX0_requireStranger 2 none, Cond.classLink RX0 157 "java/lang/IndexOutOfBoundsException", Cond.initialized "java/lang/IndexOutOfBoundsException", Cond.fieldLink RX0 22 "TicketCoincidences" "people" "I", Cond.methodLink RX0 107 yX0_pointsOfPair, Cond.instanceMethod yX0_pointsOfPair, Cond.selects RX0 yX0_pointsOfPair yX0_pointsOfPair, Cond.code yX0_pointsOfPair cX0_pointsOfPair 3 (some .int), Cond.fieldLink RX0 9 "TicketCoincidences" "tickets" "[I", Cond.fieldLink RX0 13 "TicketCoincidences" "colours" "[I", Cond.methodLink RX0 180 yX0_pointsOfTickets, Cond.static yX0_pointsOfTickets, Cond.code yX0_pointsOfTickets cX0_pointsOfTickets 3 (some .int), Cond.methodLink RX0 166 Lib.Math.abs.name]
def wsX0_pointsOf_r2 : List Cond := [Cond.static Lib.Math.abs.name, Cond.initialized "java/lang/Math", Cond.code Lib.Math.abs.name Lib.Math.abs.code 1 (some .int), Cond.methodLink RX0 177 yX0_figureSum, Cond.static yX0_figureSum, Cond.code yX0_figureSum cX0_figureSum 1 (some .int), Cond.methodLink RX0 110 yX0_mirrored, Cond.static yX0_mirrored, Cond.code yX0_mirrored cX0_mirrored 2 (some .boolean), Cond.methodLink RX0 183 yX0_pointsOfColours, Cond.static yX0_pointsOfColours, Cond.code yX0_pointsOfColours cX0_pointsOfColours 2 (some .int)]
def wsX0_pointsOf : List Cond := .code yX0_pointsOf cX0_pointsOf 3 (some .int) :: ((wsX0_pointsOf_r1 ++ wsX0_pointsOf_r2) ++ wsX00 ++ (vx_atS RX0 55 "java/lang/IllegalArgumentException" ["java/lang/RuntimeException", "java/lang/Exception"]).filter goodWord ++ (vx_atS RX0 161 "java/lang/IndexOutOfBoundsException" ["java/lang/RuntimeException", "java/lang/Exception"]).filter goodWord)
def wsX0_areTogether : List Cond := .code yX0_areTogether cX0_areTogether 3 (some .boolean) :: ([.fieldLink RX0 16 "TicketCoincidences" "corners" "[I", .methodLink RX0 80 yX0_requirePair, .instanceMethod yX0_requirePair, .selects RX0 yX0_requirePair yX0_requirePair, .initialized RX0, .code yX0_requirePair cX0_requirePair 3 none, .classLink RX0 51 "java/lang/IllegalArgumentException", .initialized "java/lang/IllegalArgumentException", .methodLink RX0 63 yX0_requireStranger, .instanceMethod yX0_requireStranger, .selects RX0 yX0_requireStranger yX0_requireStranger, .code yX0_requireStranger cX0_requireStranger 2 none, .classLink RX0 157 "java/lang/IndexOutOfBoundsException", .initialized "java/lang/IndexOutOfBoundsException", .fieldLink RX0 22 "TicketCoincidences" "people" "I"] ++ wsX00 ++ (vx_atS RX0 55 "java/lang/IllegalArgumentException" ["java/lang/RuntimeException", "java/lang/Exception"]).filter goodWord ++ (vx_atS RX0 161 "java/lang/IndexOutOfBoundsException" ["java/lang/RuntimeException", "java/lang/Exception"]).filter goodWord)
def wsX0_areMirrored : List Cond := .code yX0_areMirrored cX0_areMirrored 3 (some .boolean) :: ([.fieldLink RX0 9 "TicketCoincidences" "tickets" "[I", .methodLink RX0 80 yX0_requirePair, .instanceMethod yX0_requirePair, .selects RX0 yX0_requirePair yX0_requirePair, .initialized RX0, .code yX0_requirePair cX0_requirePair 3 none, .classLink RX0 51 "java/lang/IllegalArgumentException", .initialized "java/lang/IllegalArgumentException", .methodLink RX0 63 yX0_requireStranger, .instanceMethod yX0_requireStranger, .selects RX0 yX0_requireStranger yX0_requireStranger, .code yX0_requireStranger cX0_requireStranger 2 none, .classLink RX0 157 "java/lang/IndexOutOfBoundsException", .initialized "java/lang/IndexOutOfBoundsException", .fieldLink RX0 22 "TicketCoincidences" "people" "I", .methodLink RX0 110 yX0_mirrored, .static yX0_mirrored, .code yX0_mirrored cX0_mirrored 2 (some .boolean)] ++ wsX00 ++ (vx_atS RX0 55 "java/lang/IllegalArgumentException" ["java/lang/RuntimeException", "java/lang/Exception"]).filter goodWord ++ (vx_atS RX0 161 "java/lang/IndexOutOfBoundsException" ["java/lang/RuntimeException", "java/lang/Exception"]).filter goodWord)
def wsX0_coincidences_r1 : List Cond := [Cond.methodLink RX0 86 yX0_townBehind, Cond.instanceMethod yX0_townBehind, Cond.selects RX0 yX0_townBehind yX0_townBehind, Cond.initialized RX0, Cond.code yX0_townBehind cX0_townBehind 5 (some .int), Cond.fieldLink RX0 22 "TicketCoincidences" "people" "I", Cond.methodLink RX0 119 yX0_cornerBehind, Cond.instanceMethod yX0_cornerBehind, Cond.selects RX0 yX0_cornerBehind yX0_cornerBehind, Cond.code yX0_cornerBehind cX0_cornerBehind 3 (some .int), Cond.fieldLink RX0 16 "TicketCoincidences" "corners" "[I", Cond.fieldLink RX0 19 "TicketCoincidences" "walks" "[I", Cond.methodLink RX0 107 yX0_pointsOfPair, Cond.instanceMethod yX0_pointsOfPair, Cond.selects RX0 yX0_pointsOfPair yX0_pointsOfPair, Cond.code yX0_pointsOfPair cX0_pointsOfPair 3 (some .int), Cond.fieldLink RX0 9 "TicketCoincidences" "tickets" "[I", Cond.fieldLink RX0 13 "TicketCoincidences" "colours" "[I", Cond.methodLink RX0 180 yX0_pointsOfTickets, Cond.static yX0_pointsOfTickets, Cond.code yX0_pointsOfTickets cX0_pointsOfTickets 3 (some .int), Cond.methodLink RX0 166 Lib.Math.abs.name, Cond.static Lib.Math.abs.name, Cond.initialized "java/lang/Math"]
def wsX0_coincidences_r2 : List Cond := [Cond.code Lib.Math.abs.name Lib.Math.abs.code 1 (some .int), Cond.methodLink RX0 177 yX0_figureSum, Cond.static yX0_figureSum, Cond.code yX0_figureSum cX0_figureSum 1 (some .int), Cond.methodLink RX0 110 yX0_mirrored, Cond.static yX0_mirrored, Cond.code yX0_mirrored cX0_mirrored 2 (some .boolean), Cond.methodLink RX0 183 yX0_pointsOfColours, Cond.static yX0_pointsOfColours, Cond.code yX0_pointsOfColours cX0_pointsOfColours 2 (some .int)]
def wsX0_coincidences : List Cond := .code yX0_coincidences cX0_coincidences 1 (some .int) :: ((wsX0_coincidences_r1 ++ wsX0_coincidences_r2) ++ wsX00)
def wsX0_coincidencesAt_r1 : List Cond := [Cond.fieldLink RX0 22 "TicketCoincidences" "people" "I", Cond.fieldLink RX0 16 "TicketCoincidences" "corners" "[I", Cond.methodLink RX0 101 yX0_requireCorner, Cond.static yX0_requireCorner, Cond.initialized RX0, Cond.code yX0_requireCorner cX0_requireCorner 1 none, Cond.classLink RX0 157 "java/lang/IndexOutOfBoundsException", Cond.initialized "java/lang/IndexOutOfBoundsException", Cond.methodLink RX0 45 yX0_isCorner, Cond.static yX0_isCorner, Cond.code yX0_isCorner cX0_isCorner 1 (some .boolean), Cond.methodLink RX0 107 yX0_pointsOfPair, Cond.instanceMethod yX0_pointsOfPair, Cond.selects RX0 yX0_pointsOfPair yX0_pointsOfPair, Cond.code yX0_pointsOfPair cX0_pointsOfPair 3 (some .int), Cond.fieldLink RX0 9 "TicketCoincidences" "tickets" "[I", Cond.fieldLink RX0 13 "TicketCoincidences" "colours" "[I", Cond.methodLink RX0 180 yX0_pointsOfTickets, Cond.static yX0_pointsOfTickets, Cond.code yX0_pointsOfTickets cX0_pointsOfTickets 3 (some .int), Cond.methodLink RX0 166 Lib.Math.abs.name, Cond.static Lib.Math.abs.name, Cond.initialized "java/lang/Math", Cond.code Lib.Math.abs.name Lib.Math.abs.code 1 (some .int)]
def wsX0_coincidencesAt_r2 : List Cond := [Cond.methodLink RX0 177 yX0_figureSum, Cond.static yX0_figureSum, Cond.code yX0_figureSum cX0_figureSum 1 (some .int), Cond.methodLink RX0 110 yX0_mirrored, Cond.static yX0_mirrored, Cond.code yX0_mirrored cX0_mirrored 2 (some .boolean), Cond.methodLink RX0 183 yX0_pointsOfColours, Cond.static yX0_pointsOfColours, Cond.code yX0_pointsOfColours cX0_pointsOfColours 2 (some .int)]
def wsX0_coincidencesAt : List Cond := .code yX0_coincidencesAt cX0_coincidencesAt 5 (some .int) :: ((wsX0_coincidencesAt_r1 ++ wsX0_coincidencesAt_r2) ++ wsX00 ++ (vx_atS RX0 161 "java/lang/IndexOutOfBoundsException" ["java/lang/RuntimeException", "java/lang/Exception"]).filter goodWord)
def wsX0_luckWith : List Cond := .code yX0_luckWith cX0_luckWith 6 (some .int) :: ([.fieldLink RX0 22 "TicketCoincidences" "people" "I", .fieldLink RX0 16 "TicketCoincidences" "corners" "[I", .fieldLink RX0 9 "TicketCoincidences" "tickets" "[I", .fieldLink RX0 13 "TicketCoincidences" "colours" "[I", .methodLink RX0 180 yX0_pointsOfTickets, .static yX0_pointsOfTickets, .initialized RX0, .code yX0_pointsOfTickets cX0_pointsOfTickets 3 (some .int), .methodLink RX0 166 Lib.Math.abs.name, .static Lib.Math.abs.name, .initialized "java/lang/Math", .code Lib.Math.abs.name Lib.Math.abs.code 1 (some .int), .methodLink RX0 177 yX0_figureSum, .static yX0_figureSum, .code yX0_figureSum cX0_figureSum 1 (some .int), .methodLink RX0 110 yX0_mirrored, .static yX0_mirrored, .code yX0_mirrored cX0_mirrored 2 (some .boolean), .methodLink RX0 183 yX0_pointsOfColours, .static yX0_pointsOfColours, .code yX0_pointsOfColours cX0_pointsOfColours 2 (some .int)] ++ wsX00)
def wsX0_luckNow_r1 : List Cond := [Cond.fieldLink RX0 9 "TicketCoincidences" "tickets" "[I", Cond.fieldLink RX0 16 "TicketCoincidences" "corners" "[I", Cond.methodLink RX0 122 yX0_luckWith, Cond.instanceMethod yX0_luckWith, Cond.selects RX0 yX0_luckWith yX0_luckWith, Cond.initialized RX0, Cond.code yX0_luckWith cX0_luckWith 6 (some .int), Cond.fieldLink RX0 22 "TicketCoincidences" "people" "I", Cond.fieldLink RX0 13 "TicketCoincidences" "colours" "[I", Cond.methodLink RX0 180 yX0_pointsOfTickets, Cond.static yX0_pointsOfTickets, Cond.code yX0_pointsOfTickets cX0_pointsOfTickets 3 (some .int), Cond.methodLink RX0 166 Lib.Math.abs.name, Cond.static Lib.Math.abs.name, Cond.initialized "java/lang/Math", Cond.code Lib.Math.abs.name Lib.Math.abs.code 1 (some .int), Cond.methodLink RX0 177 yX0_figureSum, Cond.static yX0_figureSum, Cond.code yX0_figureSum cX0_figureSum 1 (some .int), Cond.methodLink RX0 110 yX0_mirrored, Cond.static yX0_mirrored, Cond.code yX0_mirrored cX0_mirrored 2 (some .boolean), Cond.methodLink RX0 183 yX0_pointsOfColours, Cond.static yX0_pointsOfColours]
def wsX0_luckNow_r2 : List Cond := [Cond.code yX0_pointsOfColours cX0_pointsOfColours 2 (some .int)]
def wsX0_luckNow : List Cond := .code yX0_luckNow cX0_luckNow 2 (some .int) :: ((wsX0_luckNow_r1 ++ wsX0_luckNow_r2) ++ wsX00)
def wsX0_luckOf_r1 : List Cond := [Cond.methodLink RX0 63 yX0_requireStranger, Cond.instanceMethod yX0_requireStranger, Cond.selects RX0 yX0_requireStranger yX0_requireStranger, Cond.initialized RX0, Cond.code yX0_requireStranger cX0_requireStranger 2 none, Cond.classLink RX0 157 "java/lang/IndexOutOfBoundsException", Cond.initialized "java/lang/IndexOutOfBoundsException", Cond.fieldLink RX0 22 "TicketCoincidences" "people" "I", Cond.methodLink RX0 114 yX0_luckNow, Cond.instanceMethod yX0_luckNow, Cond.selects RX0 yX0_luckNow yX0_luckNow, Cond.code yX0_luckNow cX0_luckNow 2 (some .int), Cond.fieldLink RX0 9 "TicketCoincidences" "tickets" "[I", Cond.fieldLink RX0 16 "TicketCoincidences" "corners" "[I", Cond.methodLink RX0 122 yX0_luckWith, Cond.instanceMethod yX0_luckWith, Cond.selects RX0 yX0_luckWith yX0_luckWith, Cond.code yX0_luckWith cX0_luckWith 6 (some .int), Cond.fieldLink RX0 13 "TicketCoincidences" "colours" "[I", Cond.methodLink RX0 180 yX0_pointsOfTickets, Cond.static yX0_pointsOfTickets, Cond.code yX0_pointsOfTickets cX0_pointsOfTickets 3 (some .int), Cond.methodLink RX0 166 Lib.Math.abs.name, Cond.static Lib.Math.abs.name]
def wsX0_luckOf_r2 : List Cond := [Cond.initialized "java/lang/Math", Cond.code Lib.Math.abs.name Lib.Math.abs.code 1 (some .int), Cond.methodLink RX0 177 yX0_figureSum, Cond.static yX0_figureSum, Cond.code yX0_figureSum cX0_figureSum 1 (some .int), Cond.methodLink RX0 110 yX0_mirrored, Cond.static yX0_mirrored, Cond.code yX0_mirrored cX0_mirrored 2 (some .boolean), Cond.methodLink RX0 183 yX0_pointsOfColours, Cond.static yX0_pointsOfColours, Cond.code yX0_pointsOfColours cX0_pointsOfColours 2 (some .int)]
def wsX0_luckOf : List Cond := .code yX0_luckOf cX0_luckOf 2 (some .int) :: ((wsX0_luckOf_r1 ++ wsX0_luckOf_r2) ++ wsX00 ++ (vx_atS RX0 161 "java/lang/IndexOutOfBoundsException" ["java/lang/RuntimeException", "java/lang/Exception"]).filter goodWord)
def wsX0_luckiestPair : List Cond := .code yX0_luckiestPair cX0_luckiestPair 6 (some .int) :: ([.fieldLink RX0 22 "TicketCoincidences" "people" "I", .methodLink RX0 107 yX0_pointsOfPair, .instanceMethod yX0_pointsOfPair, .selects RX0 yX0_pointsOfPair yX0_pointsOfPair, .initialized RX0, .code yX0_pointsOfPair cX0_pointsOfPair 3 (some .int), .fieldLink RX0 9 "TicketCoincidences" "tickets" "[I", .fieldLink RX0 13 "TicketCoincidences" "colours" "[I", .methodLink RX0 180 yX0_pointsOfTickets, .static yX0_pointsOfTickets, .code yX0_pointsOfTickets cX0_pointsOfTickets 3 (some .int), .methodLink RX0 166 Lib.Math.abs.name, .static Lib.Math.abs.name, .initialized "java/lang/Math", .code Lib.Math.abs.name Lib.Math.abs.code 1 (some .int), .methodLink RX0 177 yX0_figureSum, .static yX0_figureSum, .code yX0_figureSum cX0_figureSum 1 (some .int), .methodLink RX0 110 yX0_mirrored, .static yX0_mirrored, .code yX0_mirrored cX0_mirrored 2 (some .boolean), .methodLink RX0 183 yX0_pointsOfColours, .static yX0_pointsOfColours, .code yX0_pointsOfColours cX0_pointsOfColours 2 (some .int)] ++ wsX00)
def wsX0_coincidencesIn_r1 : List Cond := [Cond.classLink RX0 51 "java/lang/IllegalArgumentException", Cond.initialized "java/lang/IllegalArgumentException", Cond.methodLink RX0 86 yX0_townBehind, Cond.instanceMethod yX0_townBehind, Cond.selects RX0 yX0_townBehind yX0_townBehind, Cond.initialized RX0, Cond.code yX0_townBehind cX0_townBehind 5 (some .int), Cond.fieldLink RX0 22 "TicketCoincidences" "people" "I", Cond.methodLink RX0 119 yX0_cornerBehind, Cond.instanceMethod yX0_cornerBehind, Cond.selects RX0 yX0_cornerBehind yX0_cornerBehind, Cond.code yX0_cornerBehind cX0_cornerBehind 3 (some .int), Cond.fieldLink RX0 16 "TicketCoincidences" "corners" "[I", Cond.fieldLink RX0 19 "TicketCoincidences" "walks" "[I", Cond.methodLink RX0 107 yX0_pointsOfPair, Cond.instanceMethod yX0_pointsOfPair, Cond.selects RX0 yX0_pointsOfPair yX0_pointsOfPair, Cond.code yX0_pointsOfPair cX0_pointsOfPair 3 (some .int), Cond.fieldLink RX0 9 "TicketCoincidences" "tickets" "[I", Cond.fieldLink RX0 13 "TicketCoincidences" "colours" "[I", Cond.methodLink RX0 180 yX0_pointsOfTickets, Cond.static yX0_pointsOfTickets, Cond.code yX0_pointsOfTickets cX0_pointsOfTickets 3 (some .int), Cond.methodLink RX0 166 Lib.Math.abs.name]
def wsX0_coincidencesIn_r2 : List Cond := [Cond.static Lib.Math.abs.name, Cond.initialized "java/lang/Math", Cond.code Lib.Math.abs.name Lib.Math.abs.code 1 (some .int), Cond.methodLink RX0 177 yX0_figureSum, Cond.static yX0_figureSum, Cond.code yX0_figureSum cX0_figureSum 1 (some .int), Cond.methodLink RX0 110 yX0_mirrored, Cond.static yX0_mirrored, Cond.code yX0_mirrored cX0_mirrored 2 (some .boolean), Cond.methodLink RX0 183 yX0_pointsOfColours, Cond.static yX0_pointsOfColours, Cond.code yX0_pointsOfColours cX0_pointsOfColours 2 (some .int)]
def wsX0_coincidencesIn : List Cond := .code yX0_coincidencesIn cX0_coincidencesIn 2 (some .int) :: ((wsX0_coincidencesIn_r1 ++ wsX0_coincidencesIn_r2) ++ wsX00 ++ (vx_atS RX0 55 "java/lang/IllegalArgumentException" ["java/lang/RuntimeException", "java/lang/Exception"]).filter goodWord)
def wsX0_hoursUntilTogether : List Cond := .code yX0_hoursUntilTogether cX0_hoursUntilTogether 4 (some .int) :: ([.methodLink RX0 80 yX0_requirePair, .instanceMethod yX0_requirePair, .selects RX0 yX0_requirePair yX0_requirePair, .initialized RX0, .code yX0_requirePair cX0_requirePair 3 none, .classLink RX0 51 "java/lang/IllegalArgumentException", .initialized "java/lang/IllegalArgumentException", .methodLink RX0 63 yX0_requireStranger, .instanceMethod yX0_requireStranger, .selects RX0 yX0_requireStranger yX0_requireStranger, .code yX0_requireStranger cX0_requireStranger 2 none, .classLink RX0 157 "java/lang/IndexOutOfBoundsException", .initialized "java/lang/IndexOutOfBoundsException", .fieldLink RX0 22 "TicketCoincidences" "people" "I", .methodLink RX0 119 yX0_cornerBehind, .instanceMethod yX0_cornerBehind, .selects RX0 yX0_cornerBehind yX0_cornerBehind, .code yX0_cornerBehind cX0_cornerBehind 3 (some .int), .fieldLink RX0 16 "TicketCoincidences" "corners" "[I", .fieldLink RX0 19 "TicketCoincidences" "walks" "[I"] ++ wsX00 ++ (vx_atS RX0 55 "java/lang/IllegalArgumentException" ["java/lang/RuntimeException", "java/lang/Exception"]).filter goodWord ++ (vx_atS RX0 161 "java/lang/IndexOutOfBoundsException" ["java/lang/RuntimeException", "java/lang/Exception"]).filter goodWord)
def wsX0_costOfMeeting_r1 : List Cond := [Cond.fieldLink RX0 16 "TicketCoincidences" "corners" "[I", Cond.methodLink RX0 80 yX0_requirePair, Cond.instanceMethod yX0_requirePair, Cond.selects RX0 yX0_requirePair yX0_requirePair, Cond.initialized RX0, Cond.code yX0_requirePair cX0_requirePair 3 none, Cond.classLink RX0 51 "java/lang/IllegalArgumentException", Cond.initialized "java/lang/IllegalArgumentException", Cond.methodLink RX0 63 yX0_requireStranger, Cond.instanceMethod yX0_requireStranger, Cond.selects RX0 yX0_requireStranger yX0_requireStranger, Cond.code yX0_requireStranger cX0_requireStranger 2 none, Cond.classLink RX0 157 "java/lang/IndexOutOfBoundsException", Cond.initialized "java/lang/IndexOutOfBoundsException", Cond.fieldLink RX0 22 "TicketCoincidences" "people" "I", Cond.methodLink RX0 73 yX0_costOfWay, Cond.static yX0_costOfWay, Cond.code yX0_costOfWay cX0_costOfWay 3 (some .int), Cond.methodLink RX0 166 Lib.Math.abs.name, Cond.static Lib.Math.abs.name, Cond.initialized "java/lang/Math", Cond.code Lib.Math.abs.name Lib.Math.abs.code 1 (some .int), Cond.methodLink RX0 171 Lib.Math.min.name, Cond.static Lib.Math.min.name]
def wsX0_costOfMeeting_r2 : List Cond := [Cond.code Lib.Math.min.name Lib.Math.min.code 2 (some .int)]
def wsX0_costOfMeeting : List Cond := .code yX0_costOfMeeting cX0_costOfMeeting 3 (some .int) :: ((wsX0_costOfMeeting_r1 ++ wsX0_costOfMeeting_r2) ++ wsX00 ++ (vx_atS RX0 55 "java/lang/IllegalArgumentException" ["java/lang/RuntimeException", "java/lang/Exception"]).filter goodWord ++ (vx_atS RX0 161 "java/lang/IndexOutOfBoundsException" ["java/lang/RuntimeException", "java/lang/Exception"]).filter goodWord)
def wsX0_bestHour_r1 : List Cond := [Cond.methodLink RX0 86 yX0_townBehind, Cond.instanceMethod yX0_townBehind, Cond.selects RX0 yX0_townBehind yX0_townBehind, Cond.initialized RX0, Cond.code yX0_townBehind cX0_townBehind 5 (some .int), Cond.fieldLink RX0 22 "TicketCoincidences" "people" "I", Cond.methodLink RX0 119 yX0_cornerBehind, Cond.instanceMethod yX0_cornerBehind, Cond.selects RX0 yX0_cornerBehind yX0_cornerBehind, Cond.code yX0_cornerBehind cX0_cornerBehind 3 (some .int), Cond.fieldLink RX0 16 "TicketCoincidences" "corners" "[I", Cond.fieldLink RX0 19 "TicketCoincidences" "walks" "[I", Cond.methodLink RX0 107 yX0_pointsOfPair, Cond.instanceMethod yX0_pointsOfPair, Cond.selects RX0 yX0_pointsOfPair yX0_pointsOfPair, Cond.code yX0_pointsOfPair cX0_pointsOfPair 3 (some .int), Cond.fieldLink RX0 9 "TicketCoincidences" "tickets" "[I", Cond.fieldLink RX0 13 "TicketCoincidences" "colours" "[I", Cond.methodLink RX0 180 yX0_pointsOfTickets, Cond.static yX0_pointsOfTickets, Cond.code yX0_pointsOfTickets cX0_pointsOfTickets 3 (some .int), Cond.methodLink RX0 166 Lib.Math.abs.name, Cond.static Lib.Math.abs.name, Cond.initialized "java/lang/Math"]
def wsX0_bestHour_r2 : List Cond := [Cond.code Lib.Math.abs.name Lib.Math.abs.code 1 (some .int), Cond.methodLink RX0 177 yX0_figureSum, Cond.static yX0_figureSum, Cond.code yX0_figureSum cX0_figureSum 1 (some .int), Cond.methodLink RX0 110 yX0_mirrored, Cond.static yX0_mirrored, Cond.code yX0_mirrored cX0_mirrored 2 (some .boolean), Cond.methodLink RX0 183 yX0_pointsOfColours, Cond.static yX0_pointsOfColours, Cond.code yX0_pointsOfColours cX0_pointsOfColours 2 (some .int)]
def wsX0_bestHour : List Cond := .code yX0_bestHour cX0_bestHour 5 (some .int) :: ((wsX0_bestHour_r1 ++ wsX0_bestHour_r2) ++ wsX00)
def wsX0_bestCorner_r1 : List Cond := [Cond.fieldLink RX0 9 "TicketCoincidences" "tickets" "[I", Cond.methodLink RX0 63 yX0_requireStranger, Cond.instanceMethod yX0_requireStranger, Cond.selects RX0 yX0_requireStranger yX0_requireStranger, Cond.initialized RX0, Cond.code yX0_requireStranger cX0_requireStranger 2 none, Cond.classLink RX0 157 "java/lang/IndexOutOfBoundsException", Cond.initialized "java/lang/IndexOutOfBoundsException", Cond.fieldLink RX0 22 "TicketCoincidences" "people" "I", Cond.methodLink RX0 122 yX0_luckWith, Cond.instanceMethod yX0_luckWith, Cond.selects RX0 yX0_luckWith yX0_luckWith, Cond.code yX0_luckWith cX0_luckWith 6 (some .int), Cond.fieldLink RX0 16 "TicketCoincidences" "corners" "[I", Cond.fieldLink RX0 13 "TicketCoincidences" "colours" "[I", Cond.methodLink RX0 180 yX0_pointsOfTickets, Cond.static yX0_pointsOfTickets, Cond.code yX0_pointsOfTickets cX0_pointsOfTickets 3 (some .int), Cond.methodLink RX0 166 Lib.Math.abs.name, Cond.static Lib.Math.abs.name, Cond.initialized "java/lang/Math", Cond.code Lib.Math.abs.name Lib.Math.abs.code 1 (some .int), Cond.methodLink RX0 177 yX0_figureSum, Cond.static yX0_figureSum]
def wsX0_bestCorner_r2 : List Cond := [Cond.code yX0_figureSum cX0_figureSum 1 (some .int), Cond.methodLink RX0 110 yX0_mirrored, Cond.static yX0_mirrored, Cond.code yX0_mirrored cX0_mirrored 2 (some .boolean), Cond.methodLink RX0 183 yX0_pointsOfColours, Cond.static yX0_pointsOfColours, Cond.code yX0_pointsOfColours cX0_pointsOfColours 2 (some .int)]
def wsX0_bestCorner : List Cond := .code yX0_bestCorner cX0_bestCorner 6 (some .int) :: ((wsX0_bestCorner_r1 ++ wsX0_bestCorner_r2) ++ wsX00 ++ (vx_atS RX0 161 "java/lang/IndexOutOfBoundsException" ["java/lang/RuntimeException", "java/lang/Exception"]).filter goodWord)
def wsX0_townIfSwapped_r1 : List Cond := [Cond.fieldLink RX0 9 "TicketCoincidences" "tickets" "[I", Cond.methodLink RX0 90 yX0_exchange, Cond.static yX0_exchange, Cond.initialized RX0, Cond.code yX0_exchange cX0_exchange 4 none, Cond.methodLink RX0 86 yX0_townBehind, Cond.instanceMethod yX0_townBehind, Cond.selects RX0 yX0_townBehind yX0_townBehind, Cond.code yX0_townBehind cX0_townBehind 5 (some .int), Cond.fieldLink RX0 22 "TicketCoincidences" "people" "I", Cond.methodLink RX0 119 yX0_cornerBehind, Cond.instanceMethod yX0_cornerBehind, Cond.selects RX0 yX0_cornerBehind yX0_cornerBehind, Cond.code yX0_cornerBehind cX0_cornerBehind 3 (some .int), Cond.fieldLink RX0 16 "TicketCoincidences" "corners" "[I", Cond.fieldLink RX0 19 "TicketCoincidences" "walks" "[I", Cond.methodLink RX0 107 yX0_pointsOfPair, Cond.instanceMethod yX0_pointsOfPair, Cond.selects RX0 yX0_pointsOfPair yX0_pointsOfPair, Cond.code yX0_pointsOfPair cX0_pointsOfPair 3 (some .int), Cond.fieldLink RX0 13 "TicketCoincidences" "colours" "[I", Cond.methodLink RX0 180 yX0_pointsOfTickets, Cond.static yX0_pointsOfTickets, Cond.code yX0_pointsOfTickets cX0_pointsOfTickets 3 (some .int)]
def wsX0_townIfSwapped_r2 : List Cond := [Cond.methodLink RX0 166 Lib.Math.abs.name, Cond.static Lib.Math.abs.name, Cond.initialized "java/lang/Math", Cond.code Lib.Math.abs.name Lib.Math.abs.code 1 (some .int), Cond.methodLink RX0 177 yX0_figureSum, Cond.static yX0_figureSum, Cond.code yX0_figureSum cX0_figureSum 1 (some .int), Cond.methodLink RX0 110 yX0_mirrored, Cond.static yX0_mirrored, Cond.code yX0_mirrored cX0_mirrored 2 (some .boolean), Cond.methodLink RX0 183 yX0_pointsOfColours, Cond.static yX0_pointsOfColours, Cond.code yX0_pointsOfColours cX0_pointsOfColours 2 (some .int)]
def wsX0_townIfSwapped : List Cond := .code yX0_townIfSwapped cX0_townIfSwapped 4 (some .int) :: ((wsX0_townIfSwapped_r1 ++ wsX0_townIfSwapped_r2) ++ wsX00)
def wsX0_bestSwap_r1 : List Cond := [Cond.fieldLink RX0 22 "TicketCoincidences" "people" "I", Cond.methodLink RX0 86 yX0_townBehind, Cond.instanceMethod yX0_townBehind, Cond.selects RX0 yX0_townBehind yX0_townBehind, Cond.initialized RX0, Cond.code yX0_townBehind cX0_townBehind 5 (some .int), Cond.methodLink RX0 119 yX0_cornerBehind, Cond.instanceMethod yX0_cornerBehind, Cond.selects RX0 yX0_cornerBehind yX0_cornerBehind, Cond.code yX0_cornerBehind cX0_cornerBehind 3 (some .int), Cond.fieldLink RX0 16 "TicketCoincidences" "corners" "[I", Cond.fieldLink RX0 19 "TicketCoincidences" "walks" "[I", Cond.methodLink RX0 107 yX0_pointsOfPair, Cond.instanceMethod yX0_pointsOfPair, Cond.selects RX0 yX0_pointsOfPair yX0_pointsOfPair, Cond.code yX0_pointsOfPair cX0_pointsOfPair 3 (some .int), Cond.fieldLink RX0 9 "TicketCoincidences" "tickets" "[I", Cond.fieldLink RX0 13 "TicketCoincidences" "colours" "[I", Cond.methodLink RX0 180 yX0_pointsOfTickets, Cond.static yX0_pointsOfTickets, Cond.code yX0_pointsOfTickets cX0_pointsOfTickets 3 (some .int), Cond.methodLink RX0 166 Lib.Math.abs.name, Cond.static Lib.Math.abs.name, Cond.initialized "java/lang/Math"]
def wsX0_bestSwap_r2 : List Cond := [Cond.code Lib.Math.abs.name Lib.Math.abs.code 1 (some .int), Cond.methodLink RX0 177 yX0_figureSum, Cond.static yX0_figureSum, Cond.code yX0_figureSum cX0_figureSum 1 (some .int), Cond.methodLink RX0 110 yX0_mirrored, Cond.static yX0_mirrored, Cond.code yX0_mirrored cX0_mirrored 2 (some .boolean), Cond.methodLink RX0 183 yX0_pointsOfColours, Cond.static yX0_pointsOfColours, Cond.code yX0_pointsOfColours cX0_pointsOfColours 2 (some .int), Cond.methodLink RX0 126 yX0_townIfSwapped, Cond.instanceMethod yX0_townIfSwapped, Cond.selects RX0 yX0_townIfSwapped yX0_townIfSwapped, Cond.code yX0_townIfSwapped cX0_townIfSwapped 4 (some .int), Cond.methodLink RX0 90 yX0_exchange, Cond.static yX0_exchange, Cond.code yX0_exchange cX0_exchange 4 none]
def wsX0_bestSwap : List Cond := .code yX0_bestSwap cX0_bestSwap 6 (some .int) :: ((wsX0_bestSwap_r1 ++ wsX0_bestSwap_r2) ++ wsX00)
def wsX0_bestTicket_r1 : List Cond := [Cond.fieldLink RX0 16 "TicketCoincidences" "corners" "[I", Cond.methodLink RX0 63 yX0_requireStranger, Cond.instanceMethod yX0_requireStranger, Cond.selects RX0 yX0_requireStranger yX0_requireStranger, Cond.initialized RX0, Cond.code yX0_requireStranger cX0_requireStranger 2 none, Cond.classLink RX0 157 "java/lang/IndexOutOfBoundsException", Cond.initialized "java/lang/IndexOutOfBoundsException", Cond.fieldLink RX0 22 "TicketCoincidences" "people" "I", Cond.methodLink RX0 122 yX0_luckWith, Cond.instanceMethod yX0_luckWith, Cond.selects RX0 yX0_luckWith yX0_luckWith, Cond.code yX0_luckWith cX0_luckWith 6 (some .int), Cond.fieldLink RX0 9 "TicketCoincidences" "tickets" "[I", Cond.fieldLink RX0 13 "TicketCoincidences" "colours" "[I", Cond.methodLink RX0 180 yX0_pointsOfTickets, Cond.static yX0_pointsOfTickets, Cond.code yX0_pointsOfTickets cX0_pointsOfTickets 3 (some .int), Cond.methodLink RX0 166 Lib.Math.abs.name, Cond.static Lib.Math.abs.name, Cond.initialized "java/lang/Math", Cond.code Lib.Math.abs.name Lib.Math.abs.code 1 (some .int), Cond.methodLink RX0 177 yX0_figureSum, Cond.static yX0_figureSum]
def wsX0_bestTicket_r2 : List Cond := [Cond.code yX0_figureSum cX0_figureSum 1 (some .int), Cond.methodLink RX0 110 yX0_mirrored, Cond.static yX0_mirrored, Cond.code yX0_mirrored cX0_mirrored 2 (some .boolean), Cond.methodLink RX0 183 yX0_pointsOfColours, Cond.static yX0_pointsOfColours, Cond.code yX0_pointsOfColours cX0_pointsOfColours 2 (some .int)]
def wsX0_bestTicket : List Cond := .code yX0_bestTicket cX0_bestTicket 6 (some .int) :: ((wsX0_bestTicket_r1 ++ wsX0_bestTicket_r2) ++ wsX00 ++ (vx_atS RX0 161 "java/lang/IndexOutOfBoundsException" ["java/lang/RuntimeException", "java/lang/Exception"]).filter goodWord)
def wsX0_meanLuck_r1 : List Cond := [Cond.fieldLink RX0 22 "TicketCoincidences" "people" "I", Cond.methodLink RX0 114 yX0_luckNow, Cond.instanceMethod yX0_luckNow, Cond.selects RX0 yX0_luckNow yX0_luckNow, Cond.initialized RX0, Cond.code yX0_luckNow cX0_luckNow 2 (some .int), Cond.fieldLink RX0 9 "TicketCoincidences" "tickets" "[I", Cond.fieldLink RX0 16 "TicketCoincidences" "corners" "[I", Cond.methodLink RX0 122 yX0_luckWith, Cond.instanceMethod yX0_luckWith, Cond.selects RX0 yX0_luckWith yX0_luckWith, Cond.code yX0_luckWith cX0_luckWith 6 (some .int), Cond.fieldLink RX0 13 "TicketCoincidences" "colours" "[I", Cond.methodLink RX0 180 yX0_pointsOfTickets, Cond.static yX0_pointsOfTickets, Cond.code yX0_pointsOfTickets cX0_pointsOfTickets 3 (some .int), Cond.methodLink RX0 166 Lib.Math.abs.name, Cond.static Lib.Math.abs.name, Cond.initialized "java/lang/Math", Cond.code Lib.Math.abs.name Lib.Math.abs.code 1 (some .int), Cond.methodLink RX0 177 yX0_figureSum, Cond.static yX0_figureSum, Cond.code yX0_figureSum cX0_figureSum 1 (some .int), Cond.methodLink RX0 110 yX0_mirrored]
def wsX0_meanLuck_r2 : List Cond := [Cond.static yX0_mirrored, Cond.code yX0_mirrored cX0_mirrored 2 (some .boolean), Cond.methodLink RX0 183 yX0_pointsOfColours, Cond.static yX0_pointsOfColours, Cond.code yX0_pointsOfColours cX0_pointsOfColours 2 (some .int)]
def wsX0_meanLuck : List Cond := .code yX0_meanLuck cX0_meanLuck 3 (some .double) :: ((wsX0_meanLuck_r1 ++ wsX0_meanLuck_r2) ++ wsX00)
def wsX0_mixed : List Cond := .code yX0_mixed cX0_mixed 4 (some .long) :: ([.constantLong RX0 186 (31)])
def wsX0_digest_r1 : List Cond := [Cond.constantLong RX0 129 (1979), Cond.fieldLink RX0 22 "TicketCoincidences" "people" "I", Cond.fieldLink RX0 26 "TicketCoincidences" "hourNow" "I", Cond.fieldLink RX0 29 "TicketCoincidences" "inStore" "I", Cond.fieldLink RX0 32 "TicketCoincidences" "countedInAll" "I", Cond.fieldLink RX0 35 "TicketCoincidences" "spentInAll" "I", Cond.fieldLink RX0 9 "TicketCoincidences" "tickets" "[I", Cond.fieldLink RX0 13 "TicketCoincidences" "colours" "[I", Cond.fieldLink RX0 16 "TicketCoincidences" "corners" "[I", Cond.fieldLink RX0 19 "TicketCoincidences" "walks" "[I", Cond.methodLink RX0 131 yX0_mixed, Cond.static yX0_mixed, Cond.initialized RX0, Cond.code yX0_mixed cX0_mixed 4 (some .long), Cond.constantLong RX0 186 (31), Cond.methodLink RX0 135 yX0_coincidences, Cond.instanceMethod yX0_coincidences, Cond.selects RX0 yX0_coincidences yX0_coincidences, Cond.code yX0_coincidences cX0_coincidences 1 (some .int), Cond.methodLink RX0 86 yX0_townBehind, Cond.instanceMethod yX0_townBehind, Cond.selects RX0 yX0_townBehind yX0_townBehind, Cond.code yX0_townBehind cX0_townBehind 5 (some .int), Cond.methodLink RX0 119 yX0_cornerBehind]
def wsX0_digest_r2 : List Cond := [Cond.instanceMethod yX0_cornerBehind, Cond.selects RX0 yX0_cornerBehind yX0_cornerBehind, Cond.code yX0_cornerBehind cX0_cornerBehind 3 (some .int), Cond.methodLink RX0 107 yX0_pointsOfPair, Cond.instanceMethod yX0_pointsOfPair, Cond.selects RX0 yX0_pointsOfPair yX0_pointsOfPair, Cond.code yX0_pointsOfPair cX0_pointsOfPair 3 (some .int), Cond.methodLink RX0 180 yX0_pointsOfTickets, Cond.static yX0_pointsOfTickets, Cond.code yX0_pointsOfTickets cX0_pointsOfTickets 3 (some .int), Cond.methodLink RX0 166 Lib.Math.abs.name, Cond.static Lib.Math.abs.name, Cond.initialized "java/lang/Math", Cond.code Lib.Math.abs.name Lib.Math.abs.code 1 (some .int), Cond.methodLink RX0 177 yX0_figureSum, Cond.static yX0_figureSum, Cond.code yX0_figureSum cX0_figureSum 1 (some .int), Cond.methodLink RX0 110 yX0_mirrored, Cond.static yX0_mirrored, Cond.code yX0_mirrored cX0_mirrored 2 (some .boolean), Cond.methodLink RX0 183 yX0_pointsOfColours, Cond.static yX0_pointsOfColours, Cond.code yX0_pointsOfColours cX0_pointsOfColours 2 (some .int), Cond.methodLink RX0 139 yX0_luckiestPair]
def wsX0_digest_r3 : List Cond := [Cond.instanceMethod yX0_luckiestPair, Cond.selects RX0 yX0_luckiestPair yX0_luckiestPair, Cond.code yX0_luckiestPair cX0_luckiestPair 6 (some .int), Cond.methodLink RX0 142 yX0_bestHour, Cond.instanceMethod yX0_bestHour, Cond.selects RX0 yX0_bestHour yX0_bestHour, Cond.code yX0_bestHour cX0_bestHour 5 (some .int), Cond.methodLink RX0 145 yX0_bestSwap, Cond.instanceMethod yX0_bestSwap, Cond.selects RX0 yX0_bestSwap yX0_bestSwap, Cond.code yX0_bestSwap cX0_bestSwap 6 (some .int), Cond.methodLink RX0 126 yX0_townIfSwapped, Cond.instanceMethod yX0_townIfSwapped, Cond.selects RX0 yX0_townIfSwapped yX0_townIfSwapped, Cond.code yX0_townIfSwapped cX0_townIfSwapped 4 (some .int), Cond.methodLink RX0 90 yX0_exchange, Cond.static yX0_exchange, Cond.code yX0_exchange cX0_exchange 4 none, Cond.methodLink RX0 148 yX0_peopleAt, Cond.instanceMethod yX0_peopleAt, Cond.selects RX0 yX0_peopleAt yX0_peopleAt, Cond.code yX0_peopleAt cX0_peopleAt 2 (some .int), Cond.methodLink RX0 101 yX0_requireCorner, Cond.static yX0_requireCorner]
def wsX0_digest_r4 : List Cond := [Cond.code yX0_requireCorner cX0_requireCorner 1 none, Cond.classLink RX0 157 "java/lang/IndexOutOfBoundsException", Cond.initialized "java/lang/IndexOutOfBoundsException", Cond.methodLink RX0 45 yX0_isCorner, Cond.static yX0_isCorner, Cond.code yX0_isCorner cX0_isCorner 1 (some .boolean), Cond.methodLink RX0 104 yX0_crowdAt, Cond.instanceMethod yX0_crowdAt, Cond.selects RX0 yX0_crowdAt yX0_crowdAt, Cond.code yX0_crowdAt cX0_crowdAt 4 (some .int), Cond.methodLink RX0 151 yX0_coincidencesAt, Cond.instanceMethod yX0_coincidencesAt, Cond.selects RX0 yX0_coincidencesAt yX0_coincidencesAt, Cond.code yX0_coincidencesAt cX0_coincidencesAt 5 (some .int), Cond.methodLink RX0 114 yX0_luckNow, Cond.instanceMethod yX0_luckNow, Cond.selects RX0 yX0_luckNow yX0_luckNow, Cond.code yX0_luckNow cX0_luckNow 2 (some .int), Cond.methodLink RX0 122 yX0_luckWith, Cond.instanceMethod yX0_luckWith, Cond.selects RX0 yX0_luckWith yX0_luckWith, Cond.code yX0_luckWith cX0_luckWith 6 (some .int), Cond.methodLink RX0 154 yX0_bestCorner, Cond.instanceMethod yX0_bestCorner]
def wsX0_digest_r5 : List Cond := [Cond.selects RX0 yX0_bestCorner yX0_bestCorner, Cond.code yX0_bestCorner cX0_bestCorner 6 (some .int), Cond.methodLink RX0 63 yX0_requireStranger, Cond.instanceMethod yX0_requireStranger, Cond.selects RX0 yX0_requireStranger yX0_requireStranger, Cond.code yX0_requireStranger cX0_requireStranger 2 none]
def wsX0_digest : List Cond := .code yX0_digest cX0_digest 4 (some .long) :: ((wsX0_digest_r1 ++ (wsX0_digest_r2 ++ (wsX0_digest_r3 ++ (wsX0_digest_r4 ++ wsX0_digest_r5)))) ++ wsX00 ++ (vx_atS RX0 161 "java/lang/IndexOutOfBoundsException" ["java/lang/RuntimeException", "java/lang/Exception"]).filter goodWord)
def wsX1_init : List Cond := .code yX1_init cX1_init 1 none :: ([.methodLink RX1 1 objectInit, .instanceMethod objectInit, .code objectInit ⟨#[0xb1]⟩ 1 none, .fieldLink RX1 7 "TicketCoincidencesLaw$Sim" "store" "I", .classLink RX1 13 "[I", .fieldLink RX1 15 "TicketCoincidencesLaw$Sim" "all" "[[I"] ++ wsX10)
def wsX1_with : List Cond := .code yX1_with cX1_with 4 (some (.array (.array .int))) :: ([.classLink RX1 13 "[I"])
def wsX1_ticket : List Cond := .code yX1_ticket cX1_ticket 2 (some .int) :: ([.fieldLink RX1 15 "TicketCoincidencesLaw$Sim" "all" "[[I"] ++ wsX10)
def wsX1_set : List Cond := .code yX1_set cX1_set 3 none :: ([.fieldLink RX1 15 "TicketCoincidencesLaw$Sim" "all" "[[I"] ++ wsX10)
def wsX1_isMirror : List Cond := .code yX1_isMirror cX1_isMirror 2 (some .boolean) :: ([])
def wsX1_points : List Cond := .code yX1_points cX1_points 4 (some .int) :: ([.methodLink RX1 33 Lib.Math.abs.name, .static Lib.Math.abs.name, .initialized "java/lang/Math", .code Lib.Math.abs.name Lib.Math.abs.code 1 (some .int), .methodLink RX1 39 yX1_isMirror, .static yX1_isMirror, .initialized RX1, .code yX1_isMirror cX1_isMirror 2 (some .boolean)])
def wsX1_luck : List Cond := .code yX1_luck cX1_luck 4 (some .int) :: ([.fieldLink RX1 15 "TicketCoincidencesLaw$Sim" "all" "[[I", .methodLink RX1 43 yX1_points, .instanceMethod yX1_points, .selects RX1 yX1_points yX1_points, .initialized RX1, .code yX1_points cX1_points 4 (some .int), .methodLink RX1 33 Lib.Math.abs.name, .static Lib.Math.abs.name, .initialized "java/lang/Math", .code Lib.Math.abs.name Lib.Math.abs.code 1 (some .int), .methodLink RX1 39 yX1_isMirror, .static yX1_isMirror, .code yX1_isMirror cX1_isMirror 2 (some .boolean)] ++ wsX10)
def wsX1_at : List Cond := .code yX1_at cX1_at 4 (some .int) :: ([.fieldLink RX1 15 "TicketCoincidencesLaw$Sim" "all" "[[I", .methodLink RX1 47 yX1_luck, .instanceMethod yX1_luck, .selects RX1 yX1_luck yX1_luck, .initialized RX1, .code yX1_luck cX1_luck 4 (some .int), .methodLink RX1 43 yX1_points, .instanceMethod yX1_points, .selects RX1 yX1_points yX1_points, .code yX1_points cX1_points 4 (some .int), .methodLink RX1 33 Lib.Math.abs.name, .static Lib.Math.abs.name, .initialized "java/lang/Math", .code Lib.Math.abs.name Lib.Math.abs.code 1 (some .int), .methodLink RX1 39 yX1_isMirror, .static yX1_isMirror, .code yX1_isMirror cX1_isMirror 2 (some .boolean)] ++ wsX10)
def wsX1_town : List Cond := .code yX1_town cX1_town 3 (some .int) :: ([.methodLink RX1 50 yX1_at, .instanceMethod yX1_at, .selects RX1 yX1_at yX1_at, .initialized RX1, .code yX1_at cX1_at 4 (some .int), .fieldLink RX1 15 "TicketCoincidencesLaw$Sim" "all" "[[I", .methodLink RX1 47 yX1_luck, .instanceMethod yX1_luck, .selects RX1 yX1_luck yX1_luck, .code yX1_luck cX1_luck 4 (some .int), .methodLink RX1 43 yX1_points, .instanceMethod yX1_points, .selects RX1 yX1_points yX1_points, .code yX1_points cX1_points 4 (some .int), .methodLink RX1 33 Lib.Math.abs.name, .static Lib.Math.abs.name, .initialized "java/lang/Math", .code Lib.Math.abs.name Lib.Math.abs.code 1 (some .int), .methodLink RX1 39 yX1_isMirror, .static yX1_isMirror, .code yX1_isMirror cX1_isMirror 2 (some .boolean)] ++ wsX10)
def wsX1_people : List Cond := .code yX1_people cX1_people 7 (some .int) :: ([.fieldLink RX1 15 "TicketCoincidencesLaw$Sim" "all" "[[I"] ++ wsX10)
def wsX1_cost : List Cond := .code yX1_cost cX1_cost 3 (some .int) :: ([])
def wsX1_pay : List Cond := .code yX1_pay cX1_pay 2 none :: ([.fieldLink RX1 7 "TicketCoincidencesLaw$Sim" "store" "I", .fieldLink RX1 26 "TicketCoincidencesLaw$Sim" "spent" "I"] ++ wsX10)
def wsX1_pass_r1 : List Cond := [Cond.fieldLink RX1 23 "TicketCoincidencesLaw$Sim" "counted" "I", Cond.fieldLink RX1 15 "TicketCoincidencesLaw$Sim" "all" "[[I", Cond.fieldLink RX1 7 "TicketCoincidencesLaw$Sim" "store" "I", Cond.methodLink RX1 60 Lib.Math.min.name, Cond.static Lib.Math.min.name, Cond.initialized "java/lang/Math", Cond.code Lib.Math.min.name Lib.Math.min.code 2 (some .int), Cond.fieldLink RX1 20 "TicketCoincidencesLaw$Sim" "hour" "I", Cond.methodLink RX1 53 yX1_town, Cond.instanceMethod yX1_town, Cond.selects RX1 yX1_town yX1_town, Cond.initialized RX1, Cond.code yX1_town cX1_town 3 (some .int), Cond.methodLink RX1 50 yX1_at, Cond.instanceMethod yX1_at, Cond.selects RX1 yX1_at yX1_at, Cond.code yX1_at cX1_at 4 (some .int), Cond.methodLink RX1 47 yX1_luck, Cond.instanceMethod yX1_luck, Cond.selects RX1 yX1_luck yX1_luck, Cond.code yX1_luck cX1_luck 4 (some .int), Cond.methodLink RX1 43 yX1_points, Cond.instanceMethod yX1_points, Cond.selects RX1 yX1_points yX1_points]
def wsX1_pass_r2 : List Cond := [Cond.code yX1_points cX1_points 4 (some .int), Cond.methodLink RX1 33 Lib.Math.abs.name, Cond.static Lib.Math.abs.name, Cond.code Lib.Math.abs.name Lib.Math.abs.code 1 (some .int), Cond.methodLink RX1 39 yX1_isMirror, Cond.static yX1_isMirror, Cond.code yX1_isMirror cX1_isMirror 2 (some .boolean), Cond.methodLink RX1 57 yX1_people, Cond.instanceMethod yX1_people, Cond.selects RX1 yX1_people yX1_people, Cond.code yX1_people cX1_people 7 (some .int)]
def wsX1_pass : List Cond := .code yX1_pass cX1_pass 9 (some .int) :: ((wsX1_pass_r1 ++ wsX1_pass_r2) ++ wsX10)
def wsX1_isSame_r1 : List Cond := [Cond.fieldLink RX1 15 "TicketCoincidencesLaw$Sim" "all" "[[I", Cond.fieldLink RX1 20 "TicketCoincidencesLaw$Sim" "hour" "I", Cond.fieldLink RX1 7 "TicketCoincidencesLaw$Sim" "store" "I", Cond.fieldLink RX1 23 "TicketCoincidencesLaw$Sim" "counted" "I", Cond.fieldLink RX1 26 "TicketCoincidencesLaw$Sim" "spent" "I", Cond.methodLink RX1 64 yX0_strangers, Cond.instanceMethod yX0_strangers, Cond.selects RX0 yX0_strangers yX0_strangers, Cond.initialized RX0, Cond.code yX0_strangers cX0_strangers 1 (some .int), Cond.fieldLink RX0 22 "TicketCoincidences" "people" "I", Cond.methodLink RX1 69 yX0_hour, Cond.instanceMethod yX0_hour, Cond.selects RX0 yX0_hour yX0_hour, Cond.code yX0_hour cX0_hour 1 (some .int), Cond.fieldLink RX0 26 "TicketCoincidences" "hourNow" "I", Cond.methodLink RX1 71 yX0_store, Cond.instanceMethod yX0_store, Cond.selects RX0 yX0_store yX0_store, Cond.code yX0_store cX0_store 1 (some .int), Cond.fieldLink RX0 29 "TicketCoincidences" "inStore" "I", Cond.methodLink RX1 73 yX0_counted, Cond.instanceMethod yX0_counted, Cond.selects RX0 yX0_counted yX0_counted]
def wsX1_isSame_r2 : List Cond := [Cond.code yX0_counted cX0_counted 1 (some .int), Cond.fieldLink RX0 32 "TicketCoincidences" "countedInAll" "I", Cond.methodLink RX1 75 yX0_spent, Cond.instanceMethod yX0_spent, Cond.selects RX0 yX0_spent yX0_spent, Cond.code yX0_spent cX0_spent 1 (some .int), Cond.fieldLink RX0 35 "TicketCoincidences" "spentInAll" "I", Cond.methodLink RX1 77 yX0_coincidences, Cond.instanceMethod yX0_coincidences, Cond.selects RX0 yX0_coincidences yX0_coincidences, Cond.code yX0_coincidences cX0_coincidences 1 (some .int), Cond.methodLink RX0 86 yX0_townBehind, Cond.instanceMethod yX0_townBehind, Cond.selects RX0 yX0_townBehind yX0_townBehind, Cond.code yX0_townBehind cX0_townBehind 5 (some .int), Cond.methodLink RX0 119 yX0_cornerBehind, Cond.instanceMethod yX0_cornerBehind, Cond.selects RX0 yX0_cornerBehind yX0_cornerBehind, Cond.code yX0_cornerBehind cX0_cornerBehind 3 (some .int), Cond.fieldLink RX0 16 "TicketCoincidences" "corners" "[I", Cond.fieldLink RX0 19 "TicketCoincidences" "walks" "[I", Cond.methodLink RX0 107 yX0_pointsOfPair, Cond.instanceMethod yX0_pointsOfPair, Cond.selects RX0 yX0_pointsOfPair yX0_pointsOfPair]
def wsX1_isSame_r3 : List Cond := [Cond.code yX0_pointsOfPair cX0_pointsOfPair 3 (some .int), Cond.fieldLink RX0 9 "TicketCoincidences" "tickets" "[I", Cond.fieldLink RX0 13 "TicketCoincidences" "colours" "[I", Cond.methodLink RX0 180 yX0_pointsOfTickets, Cond.static yX0_pointsOfTickets, Cond.code yX0_pointsOfTickets cX0_pointsOfTickets 3 (some .int), Cond.methodLink RX0 166 Lib.Math.abs.name, Cond.static Lib.Math.abs.name, Cond.initialized "java/lang/Math", Cond.code Lib.Math.abs.name Lib.Math.abs.code 1 (some .int), Cond.methodLink RX0 177 yX0_figureSum, Cond.static yX0_figureSum, Cond.code yX0_figureSum cX0_figureSum 1 (some .int), Cond.methodLink RX0 110 yX0_mirrored, Cond.static yX0_mirrored, Cond.code yX0_mirrored cX0_mirrored 2 (some .boolean), Cond.methodLink RX0 183 yX0_pointsOfColours, Cond.static yX0_pointsOfColours, Cond.code yX0_pointsOfColours cX0_pointsOfColours 2 (some .int), Cond.methodLink RX1 53 yX1_town, Cond.instanceMethod yX1_town, Cond.selects RX1 yX1_town yX1_town, Cond.initialized RX1, Cond.code yX1_town cX1_town 3 (some .int)]
def wsX1_isSame_r4 : List Cond := [Cond.methodLink RX1 50 yX1_at, Cond.instanceMethod yX1_at, Cond.selects RX1 yX1_at yX1_at, Cond.code yX1_at cX1_at 4 (some .int), Cond.methodLink RX1 47 yX1_luck, Cond.instanceMethod yX1_luck, Cond.selects RX1 yX1_luck yX1_luck, Cond.code yX1_luck cX1_luck 4 (some .int), Cond.methodLink RX1 43 yX1_points, Cond.instanceMethod yX1_points, Cond.selects RX1 yX1_points yX1_points, Cond.code yX1_points cX1_points 4 (some .int), Cond.methodLink RX1 33 Lib.Math.abs.name, Cond.methodLink RX1 39 yX1_isMirror, Cond.static yX1_isMirror, Cond.code yX1_isMirror cX1_isMirror 2 (some .boolean), Cond.methodLink RX1 80 yX0_peopleAt, Cond.instanceMethod yX0_peopleAt, Cond.selects RX0 yX0_peopleAt yX0_peopleAt, Cond.code yX0_peopleAt cX0_peopleAt 2 (some .int), Cond.methodLink RX0 101 yX0_requireCorner, Cond.static yX0_requireCorner, Cond.code yX0_requireCorner cX0_requireCorner 1 none, Cond.classLink RX0 157 "java/lang/IndexOutOfBoundsException"]
def wsX1_isSame_r5 : List Cond := [Cond.initialized "java/lang/IndexOutOfBoundsException", Cond.methodLink RX0 45 yX0_isCorner, Cond.static yX0_isCorner, Cond.code yX0_isCorner cX0_isCorner 1 (some .boolean), Cond.methodLink RX0 104 yX0_crowdAt, Cond.instanceMethod yX0_crowdAt, Cond.selects RX0 yX0_crowdAt yX0_crowdAt, Cond.code yX0_crowdAt cX0_crowdAt 4 (some .int), Cond.methodLink RX1 57 yX1_people, Cond.instanceMethod yX1_people, Cond.selects RX1 yX1_people yX1_people, Cond.code yX1_people cX1_people 7 (some .int), Cond.methodLink RX1 83 yX0_coincidencesAt, Cond.instanceMethod yX0_coincidencesAt, Cond.selects RX0 yX0_coincidencesAt yX0_coincidencesAt, Cond.code yX0_coincidencesAt cX0_coincidencesAt 5 (some .int), Cond.methodLink RX1 86 yX0_ticketOf, Cond.instanceMethod yX0_ticketOf, Cond.selects RX0 yX0_ticketOf yX0_ticketOf, Cond.code yX0_ticketOf cX0_ticketOf 2 (some .int), Cond.methodLink RX0 63 yX0_requireStranger, Cond.instanceMethod yX0_requireStranger, Cond.selects RX0 yX0_requireStranger yX0_requireStranger, Cond.code yX0_requireStranger cX0_requireStranger 2 none]
def wsX1_isSame_r6 : List Cond := [Cond.methodLink RX1 89 yX1_ticket, Cond.instanceMethod yX1_ticket, Cond.selects RX1 yX1_ticket yX1_ticket, Cond.code yX1_ticket cX1_ticket 2 (some .int), Cond.methodLink RX1 92 yX0_colourOf, Cond.instanceMethod yX0_colourOf, Cond.selects RX0 yX0_colourOf yX0_colourOf, Cond.code yX0_colourOf cX0_colourOf 2 (some .int), Cond.methodLink RX1 95 yX0_cornerOf, Cond.instanceMethod yX0_cornerOf, Cond.selects RX0 yX0_cornerOf yX0_cornerOf, Cond.code yX0_cornerOf cX0_cornerOf 2 (some .int), Cond.methodLink RX1 98 yX0_walkOf, Cond.instanceMethod yX0_walkOf, Cond.selects RX0 yX0_walkOf yX0_walkOf, Cond.code yX0_walkOf cX0_walkOf 2 (some .int), Cond.methodLink RX1 101 yX0_luckOf, Cond.instanceMethod yX0_luckOf, Cond.selects RX0 yX0_luckOf yX0_luckOf, Cond.code yX0_luckOf cX0_luckOf 2 (some .int), Cond.methodLink RX0 114 yX0_luckNow, Cond.instanceMethod yX0_luckNow, Cond.selects RX0 yX0_luckNow yX0_luckNow, Cond.code yX0_luckNow cX0_luckNow 2 (some .int)]
def wsX1_isSame_r7 : List Cond := [Cond.methodLink RX0 122 yX0_luckWith, Cond.instanceMethod yX0_luckWith, Cond.selects RX0 yX0_luckWith yX0_luckWith, Cond.code yX0_luckWith cX0_luckWith 6 (some .int), Cond.methodLink RX1 104 yX0_pointsOf, Cond.instanceMethod yX0_pointsOf, Cond.selects RX0 yX0_pointsOf yX0_pointsOf, Cond.code yX0_pointsOf cX0_pointsOf 3 (some .int), Cond.methodLink RX0 80 yX0_requirePair, Cond.instanceMethod yX0_requirePair, Cond.selects RX0 yX0_requirePair yX0_requirePair, Cond.code yX0_requirePair cX0_requirePair 3 none, Cond.classLink RX0 51 "java/lang/IllegalArgumentException", Cond.initialized "java/lang/IllegalArgumentException", Cond.methodLink RX1 107 yX0_areTogether, Cond.instanceMethod yX0_areTogether, Cond.selects RX0 yX0_areTogether yX0_areTogether, Cond.code yX0_areTogether cX0_areTogether 3 (some .boolean), Cond.methodLink RX1 111 yX0_areMirrored, Cond.instanceMethod yX0_areMirrored, Cond.selects RX0 yX0_areMirrored yX0_areMirrored, Cond.code yX0_areMirrored cX0_areMirrored 3 (some .boolean), Cond.methodLink RX1 114 yX0_costOfMeeting, Cond.instanceMethod yX0_costOfMeeting]
def wsX1_isSame_r8 : List Cond := [Cond.selects RX0 yX0_costOfMeeting yX0_costOfMeeting, Cond.code yX0_costOfMeeting cX0_costOfMeeting 3 (some .int), Cond.methodLink RX0 73 yX0_costOfWay, Cond.static yX0_costOfWay, Cond.code yX0_costOfWay cX0_costOfWay 3 (some .int), Cond.methodLink RX0 171 Lib.Math.min.name, Cond.static Lib.Math.min.name, Cond.code Lib.Math.min.name Lib.Math.min.code 2 (some .int), Cond.methodLink RX1 117 yX1_cost, Cond.static yX1_cost, Cond.code yX1_cost cX1_cost 3 (some .int), Cond.methodLink RX1 120 yX0_luckiestPair, Cond.instanceMethod yX0_luckiestPair, Cond.selects RX0 yX0_luckiestPair yX0_luckiestPair, Cond.code yX0_luckiestPair cX0_luckiestPair 6 (some .int), Cond.methodLink RX1 123 yX0_meanLuck, Cond.instanceMethod yX0_meanLuck, Cond.selects RX0 yX0_meanLuck yX0_meanLuck, Cond.code yX0_meanLuck cX0_meanLuck 3 (some .double)]
def wsX1_isSame : List Cond := .code yX1_isSame cX1_isSame 9 (some .boolean) :: ((wsX1_isSame_r1 ++ (wsX1_isSame_r2 ++ (wsX1_isSame_r3 ++ (wsX1_isSame_r4 ++ (wsX1_isSame_r5 ++ (wsX1_isSame_r6 ++ (wsX1_isSame_r7 ++ wsX1_isSame_r8))))))) ++ wsX10 ++ wsX00 ++ (vx_atS RX0 161 "java/lang/IndexOutOfBoundsException" ["java/lang/RuntimeException", "java/lang/Exception"]).filter goodWord ++ (vx_atS RX0 55 "java/lang/IllegalArgumentException" ["java/lang/RuntimeException", "java/lang/Exception"]).filter goodWord)
def wsJ9_abs_0f7a4 : List Cond := .code yJ9_abs_0f7a4 cJ9_abs_0f7a4 1 (some .int) :: ([])
def wsJ9_min_7cf53 : List Cond := .code yJ9_min_7cf53 cJ9_min_7cf53 2 (some .int) :: ([])
def wsL_below : List Cond := .code yL_below cL_below 2 (some .int) :: ([.constant RL 7 (2147483647)])
def wsL_cell : List Cond := .code yL_cell cL_cell 2 (some .int) :: ([.constant RL 8 (790386105)])
def wsL_works_r1 : List Cond := [Cond.classLink RL 31 "java/lang/IllegalStateException", Cond.fieldLink RL 9 "TicketCoincidencesLaw$Sim" "all" "[[I", Cond.fieldLink RL 52 "TicketCoincidencesLaw$Sim" "store" "I", Cond.methodLink RL 45 yX1_town, Cond.instanceMethod yX1_town, Cond.selects RX1 yX1_town yX1_town, Cond.initialized RX1, Cond.code yX1_town cX1_town 3 (some .int), Cond.methodLink RX1 50 yX1_at, Cond.instanceMethod yX1_at, Cond.selects RX1 yX1_at yX1_at, Cond.code yX1_at cX1_at 4 (some .int), Cond.fieldLink RX1 15 "TicketCoincidencesLaw$Sim" "all" "[[I", Cond.methodLink RX1 47 yX1_luck, Cond.instanceMethod yX1_luck, Cond.selects RX1 yX1_luck yX1_luck, Cond.code yX1_luck cX1_luck 4 (some .int), Cond.methodLink RX1 43 yX1_points, Cond.instanceMethod yX1_points, Cond.selects RX1 yX1_points yX1_points, Cond.code yX1_points cX1_points 4 (some .int), Cond.methodLink RX1 33 Lib.Math.abs.name, Cond.static Lib.Math.abs.name, Cond.initialized "java/lang/Math"]
def wsL_works_r2 : List Cond := [Cond.code Lib.Math.abs.name Lib.Math.abs.code 1 (some .int), Cond.methodLink RX1 39 yX1_isMirror, Cond.static yX1_isMirror, Cond.code yX1_isMirror cX1_isMirror 2 (some .boolean), Cond.methodLink RL 15 yL_below, Cond.static yL_below, Cond.initialized RL, Cond.code yL_below cL_below 2 (some .int), Cond.constant RL 7 (2147483647), Cond.methodLink RL 49 yX1_cost, Cond.static yX1_cost, Cond.code yX1_cost cX1_cost 3 (some .int), Cond.methodLink RL 56 yX1_pay, Cond.instanceMethod yX1_pay, Cond.selects RX1 yX1_pay yX1_pay, Cond.code yX1_pay cX1_pay 2 none, Cond.fieldLink RX1 7 "TicketCoincidencesLaw$Sim" "store" "I", Cond.fieldLink RX1 26 "TicketCoincidencesLaw$Sim" "spent" "I", Cond.methodLink RL 60 yX1_ticket, Cond.instanceMethod yX1_ticket, Cond.selects RX1 yX1_ticket yX1_ticket, Cond.code yX1_ticket cX1_ticket 2 (some .int), Cond.methodLink RL 63 yX1_set, Cond.instanceMethod yX1_set]
def wsL_works_r3 : List Cond := [Cond.selects RX1 yX1_set yX1_set, Cond.code yX1_set cX1_set 3 none, Cond.methodLink RL 67 yX0_swapUmbrellas, Cond.instanceMethod yX0_swapUmbrellas, Cond.selects RX0 yX0_swapUmbrellas yX0_swapUmbrellas, Cond.initialized RX0, Cond.code yX0_swapUmbrellas cX0_swapUmbrellas 4 (some .int), Cond.classLink RX0 58 "java/lang/IllegalStateException", Cond.initialized "java/lang/IllegalStateException", Cond.fieldLink RX0 16 "TicketCoincidences" "corners" "[I", Cond.fieldLink RX0 13 "TicketCoincidences" "colours" "[I", Cond.methodLink RX0 80 yX0_requirePair, Cond.instanceMethod yX0_requirePair, Cond.selects RX0 yX0_requirePair yX0_requirePair, Cond.code yX0_requirePair cX0_requirePair 3 none, Cond.classLink RX0 51 "java/lang/IllegalArgumentException", Cond.initialized "java/lang/IllegalArgumentException", Cond.methodLink RX0 63 yX0_requireStranger, Cond.instanceMethod yX0_requireStranger, Cond.selects RX0 yX0_requireStranger yX0_requireStranger, Cond.code yX0_requireStranger cX0_requireStranger 2 none, Cond.classLink RX0 157 "java/lang/IndexOutOfBoundsException", Cond.initialized "java/lang/IndexOutOfBoundsException", Cond.fieldLink RX0 22 "TicketCoincidences" "people" "I"]
def wsL_works_r4 : List Cond := [Cond.methodLink RX0 77 yX0_pay, Cond.instanceMethod yX0_pay, Cond.selects RX0 yX0_pay yX0_pay, Cond.code yX0_pay cX0_pay 2 none, Cond.fieldLink RX0 29 "TicketCoincidences" "inStore" "I", Cond.fieldLink RX0 35 "TicketCoincidences" "spentInAll" "I", Cond.methodLink RX0 86 yX0_townBehind, Cond.instanceMethod yX0_townBehind, Cond.selects RX0 yX0_townBehind yX0_townBehind, Cond.code yX0_townBehind cX0_townBehind 5 (some .int), Cond.methodLink RX0 119 yX0_cornerBehind, Cond.instanceMethod yX0_cornerBehind, Cond.selects RX0 yX0_cornerBehind yX0_cornerBehind, Cond.code yX0_cornerBehind cX0_cornerBehind 3 (some .int), Cond.fieldLink RX0 19 "TicketCoincidences" "walks" "[I", Cond.methodLink RX0 107 yX0_pointsOfPair, Cond.instanceMethod yX0_pointsOfPair, Cond.selects RX0 yX0_pointsOfPair yX0_pointsOfPair, Cond.code yX0_pointsOfPair cX0_pointsOfPair 3 (some .int), Cond.fieldLink RX0 9 "TicketCoincidences" "tickets" "[I", Cond.methodLink RX0 180 yX0_pointsOfTickets, Cond.static yX0_pointsOfTickets, Cond.code yX0_pointsOfTickets cX0_pointsOfTickets 3 (some .int), Cond.methodLink RX0 166 Lib.Math.abs.name]
def wsL_works_r5 : List Cond := [Cond.methodLink RX0 177 yX0_figureSum, Cond.static yX0_figureSum, Cond.code yX0_figureSum cX0_figureSum 1 (some .int), Cond.methodLink RX0 110 yX0_mirrored, Cond.static yX0_mirrored, Cond.code yX0_mirrored cX0_mirrored 2 (some .boolean), Cond.methodLink RX0 183 yX0_pointsOfColours, Cond.static yX0_pointsOfColours, Cond.code yX0_pointsOfColours cX0_pointsOfColours 2 (some .int), Cond.methodLink RX0 90 yX0_exchange, Cond.static yX0_exchange, Cond.code yX0_exchange cX0_exchange 4 none, Cond.methodLink RL 70 yX0_swapTickets, Cond.instanceMethod yX0_swapTickets, Cond.selects RX0 yX0_swapTickets yX0_swapTickets, Cond.code yX0_swapTickets cX0_swapTickets 4 (some .int), Cond.methodLink RL 73 yX0_move, Cond.instanceMethod yX0_move, Cond.selects RX0 yX0_move yX0_move, Cond.code yX0_move cX0_move 4 (some .int), Cond.methodLink RX0 45 yX0_isCorner, Cond.static yX0_isCorner, Cond.code yX0_isCorner cX0_isCorner 1 (some .boolean), Cond.methodLink RX0 73 yX0_costOfWay]
def wsL_works_r6 : List Cond := [Cond.static yX0_costOfWay, Cond.code yX0_costOfWay cX0_costOfWay 3 (some .int), Cond.methodLink RX0 171 Lib.Math.min.name, Cond.static Lib.Math.min.name, Cond.code Lib.Math.min.name Lib.Math.min.code 2 (some .int), Cond.methodLink RL 76 yX0_draw, Cond.instanceMethod yX0_draw, Cond.selects RX0 yX0_draw yX0_draw, Cond.code yX0_draw cX0_draw 4 (some .int), Cond.methodLink RX0 38 yX0_isTicket, Cond.static yX0_isTicket, Cond.code yX0_isTicket cX0_isTicket 1 (some .boolean)]
def wsL_works : List Cond := .codeWith yL_works cL_works 13 (some .boolean) [(286, 360, 361, 31)] :: ((wsL_works_r1 ++ (wsL_works_r2 ++ (wsL_works_r3 ++ (wsL_works_r4 ++ (wsL_works_r5 ++ wsL_works_r6))))) ++ wsX10 ++ wsX00 ++ (vx_atS RX0 62 "java/lang/IllegalStateException" ["java/lang/RuntimeException", "java/lang/Exception"]).filter goodWord ++ (vx_atS RX0 55 "java/lang/IllegalArgumentException" ["java/lang/RuntimeException", "java/lang/Exception"]).filter goodWord ++ (vx_atS RX0 161 "java/lang/IndexOutOfBoundsException" ["java/lang/RuntimeException", "java/lang/Exception"]).filter goodWord)
def wsL_act_r1 : List Cond := [Cond.classLink RL 31 "java/lang/IllegalStateException", Cond.fieldLink RL 9 "TicketCoincidencesLaw$Sim" "all" "[[I", Cond.arrayClass .int, Cond.methodLink RL 15 yL_below, Cond.static yL_below, Cond.initialized RL, Cond.code yL_below cL_below 2 (some .int), Cond.constant RL 7 (2147483647), Cond.methodLink RL 21 yX1_with, Cond.static yX1_with, Cond.initialized RX1, Cond.code yX1_with cX1_with 4 (some (.array (.array .int))), Cond.classLink RX1 13 "[I", Cond.methodLink RL 25 yX0_addStranger, Cond.instanceMethod yX0_addStranger, Cond.selects RX0 yX0_addStranger yX0_addStranger, Cond.initialized RX0, Cond.code yX0_addStranger cX0_addStranger 6 (some .int), Cond.classLink RX0 51 "java/lang/IllegalArgumentException", Cond.initialized "java/lang/IllegalArgumentException", Cond.classLink RX0 58 "java/lang/IllegalStateException", Cond.initialized "java/lang/IllegalStateException", Cond.fieldLink RX0 22 "TicketCoincidences" "people" "I", Cond.fieldLink RX0 9 "TicketCoincidences" "tickets" "[I"]
def wsL_act_r2 : List Cond := [Cond.fieldLink RX0 13 "TicketCoincidences" "colours" "[I", Cond.fieldLink RX0 16 "TicketCoincidences" "corners" "[I", Cond.fieldLink RX0 19 "TicketCoincidences" "walks" "[I", Cond.methodLink RX0 38 yX0_isTicket, Cond.static yX0_isTicket, Cond.code yX0_isTicket cX0_isTicket 1 (some .boolean), Cond.methodLink RX0 42 yX0_isColour, Cond.static yX0_isColour, Cond.code yX0_isColour cX0_isColour 1 (some .boolean), Cond.methodLink RX0 45 yX0_isCorner, Cond.static yX0_isCorner, Cond.code yX0_isCorner cX0_isCorner 1 (some .boolean), Cond.methodLink RX0 48 yX0_isWalk, Cond.static yX0_isWalk, Cond.code yX0_isWalk cX0_isWalk 1 (some .boolean), Cond.methodLink RL 33 yX0_setWalk, Cond.instanceMethod yX0_setWalk, Cond.selects RX0 yX0_setWalk yX0_setWalk, Cond.code yX0_setWalk cX0_setWalk 4 (some .int), Cond.methodLink RX0 63 yX0_requireStranger, Cond.instanceMethod yX0_requireStranger, Cond.selects RX0 yX0_requireStranger yX0_requireStranger, Cond.code yX0_requireStranger cX0_requireStranger 2 none, Cond.classLink RX0 157 "java/lang/IndexOutOfBoundsException"]
def wsL_act_r3 : List Cond := [Cond.initialized "java/lang/IndexOutOfBoundsException", Cond.methodLink RL 36 yX0_pass, Cond.instanceMethod yX0_pass, Cond.selects RX0 yX0_pass yX0_pass, Cond.code yX0_pass cX0_pass 4 (some .int), Cond.fieldLink RX0 32 "TicketCoincidences" "countedInAll" "I", Cond.methodLink RX0 98 yX0_passOneHour, Cond.instanceMethod yX0_passOneHour, Cond.selects RX0 yX0_passOneHour yX0_passOneHour, Cond.code yX0_passOneHour cX0_passOneHour 2 none, Cond.fieldLink RX0 29 "TicketCoincidences" "inStore" "I", Cond.methodLink RX0 171 Lib.Math.min.name, Cond.static Lib.Math.min.name, Cond.initialized "java/lang/Math", Cond.code Lib.Math.min.name Lib.Math.min.code 2 (some .int), Cond.fieldLink RX0 26 "TicketCoincidences" "hourNow" "I", Cond.methodLink RX0 119 yX0_cornerBehind, Cond.instanceMethod yX0_cornerBehind, Cond.selects RX0 yX0_cornerBehind yX0_cornerBehind, Cond.code yX0_cornerBehind cX0_cornerBehind 3 (some .int), Cond.methodLink RX0 86 yX0_townBehind, Cond.instanceMethod yX0_townBehind, Cond.selects RX0 yX0_townBehind yX0_townBehind, Cond.code yX0_townBehind cX0_townBehind 5 (some .int)]
def wsL_act_r4 : List Cond := [Cond.methodLink RX0 107 yX0_pointsOfPair, Cond.instanceMethod yX0_pointsOfPair, Cond.selects RX0 yX0_pointsOfPair yX0_pointsOfPair, Cond.code yX0_pointsOfPair cX0_pointsOfPair 3 (some .int), Cond.methodLink RX0 180 yX0_pointsOfTickets, Cond.static yX0_pointsOfTickets, Cond.code yX0_pointsOfTickets cX0_pointsOfTickets 3 (some .int), Cond.methodLink RX0 166 Lib.Math.abs.name, Cond.static Lib.Math.abs.name, Cond.code Lib.Math.abs.name Lib.Math.abs.code 1 (some .int), Cond.methodLink RX0 177 yX0_figureSum, Cond.static yX0_figureSum, Cond.code yX0_figureSum cX0_figureSum 1 (some .int), Cond.methodLink RX0 110 yX0_mirrored, Cond.static yX0_mirrored, Cond.code yX0_mirrored cX0_mirrored 2 (some .boolean), Cond.methodLink RX0 183 yX0_pointsOfColours, Cond.static yX0_pointsOfColours, Cond.code yX0_pointsOfColours cX0_pointsOfColours 2 (some .int), Cond.methodLink RX0 174 yX0_emptyCorners, Cond.instanceMethod yX0_emptyCorners, Cond.selects RX0 yX0_emptyCorners yX0_emptyCorners, Cond.code yX0_emptyCorners cX0_emptyCorners 3 (some .int), Cond.methodLink RX0 104 yX0_crowdAt]
def wsL_act_r5 : List Cond := [Cond.instanceMethod yX0_crowdAt, Cond.selects RX0 yX0_crowdAt yX0_crowdAt, Cond.code yX0_crowdAt cX0_crowdAt 4 (some .int), Cond.methodLink RL 40 yX1_pass, Cond.instanceMethod yX1_pass, Cond.selects RX1 yX1_pass yX1_pass, Cond.code yX1_pass cX1_pass 9 (some .int), Cond.fieldLink RX1 23 "TicketCoincidencesLaw$Sim" "counted" "I", Cond.fieldLink RX1 15 "TicketCoincidencesLaw$Sim" "all" "[[I", Cond.fieldLink RX1 7 "TicketCoincidencesLaw$Sim" "store" "I", Cond.methodLink RX1 60 Lib.Math.min.name, Cond.fieldLink RX1 20 "TicketCoincidencesLaw$Sim" "hour" "I", Cond.methodLink RX1 53 yX1_town, Cond.instanceMethod yX1_town, Cond.selects RX1 yX1_town yX1_town, Cond.code yX1_town cX1_town 3 (some .int), Cond.methodLink RX1 50 yX1_at, Cond.instanceMethod yX1_at, Cond.selects RX1 yX1_at yX1_at, Cond.code yX1_at cX1_at 4 (some .int), Cond.methodLink RX1 47 yX1_luck, Cond.instanceMethod yX1_luck, Cond.selects RX1 yX1_luck yX1_luck, Cond.code yX1_luck cX1_luck 4 (some .int)]
def wsL_act_r6 : List Cond := [Cond.methodLink RX1 43 yX1_points, Cond.instanceMethod yX1_points, Cond.selects RX1 yX1_points yX1_points, Cond.code yX1_points cX1_points 4 (some .int), Cond.methodLink RX1 33 Lib.Math.abs.name, Cond.methodLink RX1 39 yX1_isMirror, Cond.static yX1_isMirror, Cond.code yX1_isMirror cX1_isMirror 2 (some .boolean), Cond.methodLink RX1 57 yX1_people, Cond.instanceMethod yX1_people, Cond.selects RX1 yX1_people yX1_people, Cond.code yX1_people cX1_people 7 (some .int), Cond.methodLink RL 41 yL_works, Cond.static yL_works, Cond.codeWith yL_works cL_works 13 (some .boolean) [(286, 360, 361, 31)], Cond.fieldLink RL 52 "TicketCoincidencesLaw$Sim" "store" "I", Cond.methodLink RL 45 yX1_town, Cond.methodLink RL 49 yX1_cost, Cond.static yX1_cost, Cond.code yX1_cost cX1_cost 3 (some .int), Cond.methodLink RL 56 yX1_pay, Cond.instanceMethod yX1_pay, Cond.selects RX1 yX1_pay yX1_pay, Cond.code yX1_pay cX1_pay 2 none]
def wsL_act_r7 : List Cond := [Cond.fieldLink RX1 26 "TicketCoincidencesLaw$Sim" "spent" "I", Cond.methodLink RL 60 yX1_ticket, Cond.instanceMethod yX1_ticket, Cond.selects RX1 yX1_ticket yX1_ticket, Cond.code yX1_ticket cX1_ticket 2 (some .int), Cond.methodLink RL 63 yX1_set, Cond.instanceMethod yX1_set, Cond.selects RX1 yX1_set yX1_set, Cond.code yX1_set cX1_set 3 none, Cond.methodLink RL 67 yX0_swapUmbrellas, Cond.instanceMethod yX0_swapUmbrellas, Cond.selects RX0 yX0_swapUmbrellas yX0_swapUmbrellas, Cond.code yX0_swapUmbrellas cX0_swapUmbrellas 4 (some .int), Cond.methodLink RX0 80 yX0_requirePair, Cond.instanceMethod yX0_requirePair, Cond.selects RX0 yX0_requirePair yX0_requirePair, Cond.code yX0_requirePair cX0_requirePair 3 none, Cond.methodLink RX0 77 yX0_pay, Cond.instanceMethod yX0_pay, Cond.selects RX0 yX0_pay yX0_pay, Cond.code yX0_pay cX0_pay 2 none, Cond.fieldLink RX0 35 "TicketCoincidences" "spentInAll" "I", Cond.methodLink RX0 90 yX0_exchange, Cond.static yX0_exchange]
def wsL_act_r8 : List Cond := [Cond.code yX0_exchange cX0_exchange 4 none, Cond.methodLink RL 70 yX0_swapTickets, Cond.instanceMethod yX0_swapTickets, Cond.selects RX0 yX0_swapTickets yX0_swapTickets, Cond.code yX0_swapTickets cX0_swapTickets 4 (some .int), Cond.methodLink RL 73 yX0_move, Cond.instanceMethod yX0_move, Cond.selects RX0 yX0_move yX0_move, Cond.code yX0_move cX0_move 4 (some .int), Cond.methodLink RX0 73 yX0_costOfWay, Cond.static yX0_costOfWay, Cond.code yX0_costOfWay cX0_costOfWay 3 (some .int), Cond.methodLink RL 76 yX0_draw, Cond.instanceMethod yX0_draw, Cond.selects RX0 yX0_draw yX0_draw, Cond.code yX0_draw cX0_draw 4 (some .int)]
def wsL_act : List Cond := .codeWith yL_act cL_act 8 (some .boolean) [(137, 180, 181, 31)] :: ((wsL_act_r1 ++ (wsL_act_r2 ++ (wsL_act_r3 ++ (wsL_act_r4 ++ (wsL_act_r5 ++ (wsL_act_r6 ++ (wsL_act_r7 ++ wsL_act_r8))))))) ++ wsX10 ++ wsX00 ++ (vx_atS RX0 55 "java/lang/IllegalArgumentException" ["java/lang/RuntimeException", "java/lang/Exception"]).filter goodWord ++ (vx_atS RX0 62 "java/lang/IllegalStateException" ["java/lang/RuntimeException", "java/lang/Exception"]).filter goodWord ++ (vx_atS RX0 161 "java/lang/IndexOutOfBoundsException" ["java/lang/RuntimeException", "java/lang/Exception"]).filter goodWord)
def wsL_build_r1 : List Cond := [Cond.classLink RL 10 RX1, Cond.instantiable RX1 5, Cond.initialized RX1, Cond.arrayClass .int, Cond.fieldLink RL 9 "TicketCoincidencesLaw$Sim" "all" "[[I", Cond.instanceMethod yX1_init, Cond.code yX1_init cX1_init 1 none, Cond.methodLink RX1 1 objectInit, Cond.instanceMethod objectInit, Cond.code objectInit ⟨#[0xb1]⟩ 1 none, Cond.fieldLink RX1 7 "TicketCoincidencesLaw$Sim" "store" "I", Cond.classLink RX1 13 "[I", Cond.fieldLink RX1 15 "TicketCoincidencesLaw$Sim" "all" "[[I", Cond.methodLink RL 80 yL_cell, Cond.static yL_cell, Cond.initialized RL, Cond.code yL_cell cL_cell 2 (some .int), Cond.constant RL 8 (790386105), Cond.methodLink RL 15 yL_below, Cond.static yL_below, Cond.code yL_below cL_below 2 (some .int), Cond.constant RL 7 (2147483647), Cond.methodLink RL 21 yX1_with, Cond.static yX1_with]
def wsL_build_r2 : List Cond := [Cond.code yX1_with cX1_with 4 (some (.array (.array .int))), Cond.methodLink RL 25 yX0_addStranger, Cond.instanceMethod yX0_addStranger, Cond.selects RX0 yX0_addStranger yX0_addStranger, Cond.initialized RX0, Cond.code yX0_addStranger cX0_addStranger 6 (some .int), Cond.classLink RX0 51 "java/lang/IllegalArgumentException", Cond.initialized "java/lang/IllegalArgumentException", Cond.classLink RX0 58 "java/lang/IllegalStateException", Cond.initialized "java/lang/IllegalStateException", Cond.fieldLink RX0 22 "TicketCoincidences" "people" "I", Cond.fieldLink RX0 9 "TicketCoincidences" "tickets" "[I", Cond.fieldLink RX0 13 "TicketCoincidences" "colours" "[I", Cond.fieldLink RX0 16 "TicketCoincidences" "corners" "[I", Cond.fieldLink RX0 19 "TicketCoincidences" "walks" "[I", Cond.methodLink RX0 38 yX0_isTicket, Cond.static yX0_isTicket, Cond.code yX0_isTicket cX0_isTicket 1 (some .boolean), Cond.methodLink RX0 42 yX0_isColour, Cond.static yX0_isColour, Cond.code yX0_isColour cX0_isColour 1 (some .boolean), Cond.methodLink RX0 45 yX0_isCorner, Cond.static yX0_isCorner, Cond.code yX0_isCorner cX0_isCorner 1 (some .boolean)]
def wsL_build_r3 : List Cond := [Cond.methodLink RX0 48 yX0_isWalk, Cond.static yX0_isWalk, Cond.code yX0_isWalk cX0_isWalk 1 (some .boolean)]
def wsL_build : List Cond := .code yL_build cL_build 7 (some (.object "TicketCoincidencesLaw$Sim")) :: ((wsL_build_r1 ++ (wsL_build_r2 ++ wsL_build_r3)) ++ wsX10 ++ wsX00 ++ (vx_atS RX0 55 "java/lang/IllegalArgumentException" ["java/lang/RuntimeException", "java/lang/Exception"]).filter goodWord ++ (vx_atS RX0 62 "java/lang/IllegalStateException" ["java/lang/RuntimeException", "java/lang/Exception"]).filter goodWord)
def wsL_law0_r1 : List Cond := [Cond.classLink RL 26 RX0, Cond.instantiable RX0 9, Cond.initialized RX0, Cond.fieldLink RL 9 "TicketCoincidencesLaw$Sim" "all" "[[I", Cond.methodLink RL 84 yX0_init, Cond.instanceMethod yX0_init, Cond.code yX0_init cX0_init 1 none, Cond.methodLink RX0 1 objectInit, Cond.instanceMethod objectInit, Cond.code objectInit ⟨#[0xb1]⟩ 1 none, Cond.arrayClass .int, Cond.fieldLink RX0 9 "TicketCoincidences" "tickets" "[I", Cond.fieldLink RX0 13 "TicketCoincidences" "colours" "[I", Cond.fieldLink RX0 16 "TicketCoincidences" "corners" "[I", Cond.fieldLink RX0 19 "TicketCoincidences" "walks" "[I", Cond.fieldLink RX0 22 "TicketCoincidences" "people" "I", Cond.fieldLink RX0 26 "TicketCoincidences" "hourNow" "I", Cond.fieldLink RX0 29 "TicketCoincidences" "inStore" "I", Cond.fieldLink RX0 32 "TicketCoincidences" "countedInAll" "I", Cond.fieldLink RX0 35 "TicketCoincidences" "spentInAll" "I", Cond.methodLink RL 85 yL_build, Cond.static yL_build, Cond.initialized RL, Cond.code yL_build cL_build 7 (some (.object "TicketCoincidencesLaw$Sim"))]
def wsL_law0_r2 : List Cond := [Cond.classLink RL 10 RX1, Cond.instantiable RX1 5, Cond.initialized RX1, Cond.instanceMethod yX1_init, Cond.code yX1_init cX1_init 1 none, Cond.methodLink RX1 1 objectInit, Cond.fieldLink RX1 7 "TicketCoincidencesLaw$Sim" "store" "I", Cond.classLink RX1 13 "[I", Cond.fieldLink RX1 15 "TicketCoincidencesLaw$Sim" "all" "[[I", Cond.methodLink RL 80 yL_cell, Cond.static yL_cell, Cond.code yL_cell cL_cell 2 (some .int), Cond.constant RL 8 (790386105), Cond.methodLink RL 15 yL_below, Cond.static yL_below, Cond.code yL_below cL_below 2 (some .int), Cond.constant RL 7 (2147483647), Cond.methodLink RL 21 yX1_with, Cond.static yX1_with, Cond.code yX1_with cX1_with 4 (some (.array (.array .int))), Cond.methodLink RL 25 yX0_addStranger, Cond.instanceMethod yX0_addStranger, Cond.selects RX0 yX0_addStranger yX0_addStranger, Cond.code yX0_addStranger cX0_addStranger 6 (some .int)]
def wsL_law0_r3 : List Cond := [Cond.classLink RX0 51 "java/lang/IllegalArgumentException", Cond.initialized "java/lang/IllegalArgumentException", Cond.classLink RX0 58 "java/lang/IllegalStateException", Cond.initialized "java/lang/IllegalStateException", Cond.methodLink RX0 38 yX0_isTicket, Cond.static yX0_isTicket, Cond.code yX0_isTicket cX0_isTicket 1 (some .boolean), Cond.methodLink RX0 42 yX0_isColour, Cond.static yX0_isColour, Cond.code yX0_isColour cX0_isColour 1 (some .boolean), Cond.methodLink RX0 45 yX0_isCorner, Cond.static yX0_isCorner, Cond.code yX0_isCorner cX0_isCorner 1 (some .boolean), Cond.methodLink RX0 48 yX0_isWalk, Cond.static yX0_isWalk, Cond.code yX0_isWalk cX0_isWalk 1 (some .boolean), Cond.methodLink RL 89 yX0_store, Cond.instanceMethod yX0_store, Cond.selects RX0 yX0_store yX0_store, Cond.code yX0_store cX0_store 1 (some .int), Cond.methodLink RL 91 yX0_spent, Cond.instanceMethod yX0_spent, Cond.selects RX0 yX0_spent yX0_spent, Cond.code yX0_spent cX0_spent 1 (some .int)]
def wsL_law0_r4 : List Cond := [Cond.methodLink RL 94 yX0_hour, Cond.instanceMethod yX0_hour, Cond.selects RX0 yX0_hour yX0_hour, Cond.code yX0_hour cX0_hour 1 (some .int), Cond.methodLink RL 97 yL_act, Cond.static yL_act, Cond.codeWith yL_act cL_act 8 (some .boolean) [(137, 180, 181, 31)], Cond.classLink RL 31 "java/lang/IllegalStateException", Cond.methodLink RL 33 yX0_setWalk, Cond.instanceMethod yX0_setWalk, Cond.selects RX0 yX0_setWalk yX0_setWalk, Cond.code yX0_setWalk cX0_setWalk 4 (some .int), Cond.methodLink RX0 63 yX0_requireStranger, Cond.instanceMethod yX0_requireStranger, Cond.selects RX0 yX0_requireStranger yX0_requireStranger, Cond.code yX0_requireStranger cX0_requireStranger 2 none, Cond.classLink RX0 157 "java/lang/IndexOutOfBoundsException", Cond.initialized "java/lang/IndexOutOfBoundsException", Cond.methodLink RL 36 yX0_pass, Cond.instanceMethod yX0_pass, Cond.selects RX0 yX0_pass yX0_pass, Cond.code yX0_pass cX0_pass 4 (some .int), Cond.methodLink RX0 98 yX0_passOneHour, Cond.instanceMethod yX0_passOneHour]
def wsL_law0_r5 : List Cond := [Cond.selects RX0 yX0_passOneHour yX0_passOneHour, Cond.code yX0_passOneHour cX0_passOneHour 2 none, Cond.methodLink RX0 171 Lib.Math.min.name, Cond.static Lib.Math.min.name, Cond.initialized "java/lang/Math", Cond.code Lib.Math.min.name Lib.Math.min.code 2 (some .int), Cond.methodLink RX0 119 yX0_cornerBehind, Cond.instanceMethod yX0_cornerBehind, Cond.selects RX0 yX0_cornerBehind yX0_cornerBehind, Cond.code yX0_cornerBehind cX0_cornerBehind 3 (some .int), Cond.methodLink RX0 86 yX0_townBehind, Cond.instanceMethod yX0_townBehind, Cond.selects RX0 yX0_townBehind yX0_townBehind, Cond.code yX0_townBehind cX0_townBehind 5 (some .int), Cond.methodLink RX0 107 yX0_pointsOfPair, Cond.instanceMethod yX0_pointsOfPair, Cond.selects RX0 yX0_pointsOfPair yX0_pointsOfPair, Cond.code yX0_pointsOfPair cX0_pointsOfPair 3 (some .int), Cond.methodLink RX0 180 yX0_pointsOfTickets, Cond.static yX0_pointsOfTickets, Cond.code yX0_pointsOfTickets cX0_pointsOfTickets 3 (some .int), Cond.methodLink RX0 166 Lib.Math.abs.name, Cond.static Lib.Math.abs.name, Cond.code Lib.Math.abs.name Lib.Math.abs.code 1 (some .int)]
def wsL_law0_r6 : List Cond := [Cond.methodLink RX0 177 yX0_figureSum, Cond.static yX0_figureSum, Cond.code yX0_figureSum cX0_figureSum 1 (some .int), Cond.methodLink RX0 110 yX0_mirrored, Cond.static yX0_mirrored, Cond.code yX0_mirrored cX0_mirrored 2 (some .boolean), Cond.methodLink RX0 183 yX0_pointsOfColours, Cond.static yX0_pointsOfColours, Cond.code yX0_pointsOfColours cX0_pointsOfColours 2 (some .int), Cond.methodLink RX0 174 yX0_emptyCorners, Cond.instanceMethod yX0_emptyCorners, Cond.selects RX0 yX0_emptyCorners yX0_emptyCorners, Cond.code yX0_emptyCorners cX0_emptyCorners 3 (some .int), Cond.methodLink RX0 104 yX0_crowdAt, Cond.instanceMethod yX0_crowdAt, Cond.selects RX0 yX0_crowdAt yX0_crowdAt, Cond.code yX0_crowdAt cX0_crowdAt 4 (some .int), Cond.methodLink RL 40 yX1_pass, Cond.instanceMethod yX1_pass, Cond.selects RX1 yX1_pass yX1_pass, Cond.code yX1_pass cX1_pass 9 (some .int), Cond.fieldLink RX1 23 "TicketCoincidencesLaw$Sim" "counted" "I", Cond.methodLink RX1 60 Lib.Math.min.name, Cond.fieldLink RX1 20 "TicketCoincidencesLaw$Sim" "hour" "I"]
def wsL_law0_r7 : List Cond := [Cond.methodLink RX1 53 yX1_town, Cond.instanceMethod yX1_town, Cond.selects RX1 yX1_town yX1_town, Cond.code yX1_town cX1_town 3 (some .int), Cond.methodLink RX1 50 yX1_at, Cond.instanceMethod yX1_at, Cond.selects RX1 yX1_at yX1_at, Cond.code yX1_at cX1_at 4 (some .int), Cond.methodLink RX1 47 yX1_luck, Cond.instanceMethod yX1_luck, Cond.selects RX1 yX1_luck yX1_luck, Cond.code yX1_luck cX1_luck 4 (some .int), Cond.methodLink RX1 43 yX1_points, Cond.instanceMethod yX1_points, Cond.selects RX1 yX1_points yX1_points, Cond.code yX1_points cX1_points 4 (some .int), Cond.methodLink RX1 33 Lib.Math.abs.name, Cond.methodLink RX1 39 yX1_isMirror, Cond.static yX1_isMirror, Cond.code yX1_isMirror cX1_isMirror 2 (some .boolean), Cond.methodLink RX1 57 yX1_people, Cond.instanceMethod yX1_people, Cond.selects RX1 yX1_people yX1_people, Cond.code yX1_people cX1_people 7 (some .int)]
def wsL_law0_r8 : List Cond := [Cond.methodLink RL 41 yL_works, Cond.static yL_works, Cond.codeWith yL_works cL_works 13 (some .boolean) [(286, 360, 361, 31)], Cond.fieldLink RL 52 "TicketCoincidencesLaw$Sim" "store" "I", Cond.methodLink RL 45 yX1_town, Cond.methodLink RL 49 yX1_cost, Cond.static yX1_cost, Cond.code yX1_cost cX1_cost 3 (some .int), Cond.methodLink RL 56 yX1_pay, Cond.instanceMethod yX1_pay, Cond.selects RX1 yX1_pay yX1_pay, Cond.code yX1_pay cX1_pay 2 none, Cond.fieldLink RX1 26 "TicketCoincidencesLaw$Sim" "spent" "I", Cond.methodLink RL 60 yX1_ticket, Cond.instanceMethod yX1_ticket, Cond.selects RX1 yX1_ticket yX1_ticket, Cond.code yX1_ticket cX1_ticket 2 (some .int), Cond.methodLink RL 63 yX1_set, Cond.instanceMethod yX1_set, Cond.selects RX1 yX1_set yX1_set, Cond.code yX1_set cX1_set 3 none, Cond.methodLink RL 67 yX0_swapUmbrellas, Cond.instanceMethod yX0_swapUmbrellas, Cond.selects RX0 yX0_swapUmbrellas yX0_swapUmbrellas]
def wsL_law0_r9 : List Cond := [Cond.code yX0_swapUmbrellas cX0_swapUmbrellas 4 (some .int), Cond.methodLink RX0 80 yX0_requirePair, Cond.instanceMethod yX0_requirePair, Cond.selects RX0 yX0_requirePair yX0_requirePair, Cond.code yX0_requirePair cX0_requirePair 3 none, Cond.methodLink RX0 77 yX0_pay, Cond.instanceMethod yX0_pay, Cond.selects RX0 yX0_pay yX0_pay, Cond.code yX0_pay cX0_pay 2 none, Cond.methodLink RX0 90 yX0_exchange, Cond.static yX0_exchange, Cond.code yX0_exchange cX0_exchange 4 none, Cond.methodLink RL 70 yX0_swapTickets, Cond.instanceMethod yX0_swapTickets, Cond.selects RX0 yX0_swapTickets yX0_swapTickets, Cond.code yX0_swapTickets cX0_swapTickets 4 (some .int), Cond.methodLink RL 73 yX0_move, Cond.instanceMethod yX0_move, Cond.selects RX0 yX0_move yX0_move, Cond.code yX0_move cX0_move 4 (some .int), Cond.methodLink RX0 73 yX0_costOfWay, Cond.static yX0_costOfWay, Cond.code yX0_costOfWay cX0_costOfWay 3 (some .int), Cond.methodLink RL 76 yX0_draw]
def wsL_law0_r10 : List Cond := [Cond.instanceMethod yX0_draw, Cond.selects RX0 yX0_draw yX0_draw, Cond.code yX0_draw cX0_draw 4 (some .int), Cond.methodLink RL 101 yX0_digest, Cond.instanceMethod yX0_digest, Cond.selects RX0 yX0_digest yX0_digest, Cond.code yX0_digest cX0_digest 4 (some .long), Cond.constantLong RX0 129 (1979), Cond.methodLink RX0 131 yX0_mixed, Cond.static yX0_mixed, Cond.code yX0_mixed cX0_mixed 4 (some .long), Cond.constantLong RX0 186 (31), Cond.methodLink RX0 135 yX0_coincidences, Cond.instanceMethod yX0_coincidences, Cond.selects RX0 yX0_coincidences yX0_coincidences, Cond.code yX0_coincidences cX0_coincidences 1 (some .int), Cond.methodLink RX0 139 yX0_luckiestPair, Cond.instanceMethod yX0_luckiestPair, Cond.selects RX0 yX0_luckiestPair yX0_luckiestPair, Cond.code yX0_luckiestPair cX0_luckiestPair 6 (some .int), Cond.methodLink RX0 142 yX0_bestHour, Cond.instanceMethod yX0_bestHour, Cond.selects RX0 yX0_bestHour yX0_bestHour, Cond.code yX0_bestHour cX0_bestHour 5 (some .int)]
def wsL_law0_r11 : List Cond := [Cond.methodLink RX0 145 yX0_bestSwap, Cond.instanceMethod yX0_bestSwap, Cond.selects RX0 yX0_bestSwap yX0_bestSwap, Cond.code yX0_bestSwap cX0_bestSwap 6 (some .int), Cond.methodLink RX0 126 yX0_townIfSwapped, Cond.instanceMethod yX0_townIfSwapped, Cond.selects RX0 yX0_townIfSwapped yX0_townIfSwapped, Cond.code yX0_townIfSwapped cX0_townIfSwapped 4 (some .int), Cond.methodLink RX0 148 yX0_peopleAt, Cond.instanceMethod yX0_peopleAt, Cond.selects RX0 yX0_peopleAt yX0_peopleAt, Cond.code yX0_peopleAt cX0_peopleAt 2 (some .int), Cond.methodLink RX0 101 yX0_requireCorner, Cond.static yX0_requireCorner, Cond.code yX0_requireCorner cX0_requireCorner 1 none, Cond.methodLink RX0 151 yX0_coincidencesAt, Cond.instanceMethod yX0_coincidencesAt, Cond.selects RX0 yX0_coincidencesAt yX0_coincidencesAt, Cond.code yX0_coincidencesAt cX0_coincidencesAt 5 (some .int), Cond.methodLink RX0 114 yX0_luckNow, Cond.instanceMethod yX0_luckNow, Cond.selects RX0 yX0_luckNow yX0_luckNow, Cond.code yX0_luckNow cX0_luckNow 2 (some .int), Cond.methodLink RX0 122 yX0_luckWith]
def wsL_law0_r12 : List Cond := [Cond.instanceMethod yX0_luckWith, Cond.selects RX0 yX0_luckWith yX0_luckWith, Cond.code yX0_luckWith cX0_luckWith 6 (some .int), Cond.methodLink RX0 154 yX0_bestCorner, Cond.instanceMethod yX0_bestCorner, Cond.selects RX0 yX0_bestCorner yX0_bestCorner, Cond.code yX0_bestCorner cX0_bestCorner 6 (some .int), Cond.methodLink RL 105 yX0_strangers, Cond.instanceMethod yX0_strangers, Cond.selects RX0 yX0_strangers yX0_strangers, Cond.code yX0_strangers cX0_strangers 1 (some .int), Cond.methodLink RL 108 yX0_coincidences, Cond.methodLink RL 111 yX0_coincidencesAt, Cond.methodLink RL 114 yX0_peopleAt, Cond.methodLink RL 117 yX0_luckOf, Cond.instanceMethod yX0_luckOf, Cond.selects RX0 yX0_luckOf yX0_luckOf, Cond.code yX0_luckOf cX0_luckOf 2 (some .int), Cond.methodLink RL 120 yX0_pointsOf, Cond.instanceMethod yX0_pointsOf, Cond.selects RX0 yX0_pointsOf yX0_pointsOf, Cond.code yX0_pointsOf cX0_pointsOf 3 (some .int), Cond.methodLink RL 123 yX0_costOfMeeting, Cond.instanceMethod yX0_costOfMeeting]
def wsL_law0_r13 : List Cond := [Cond.selects RX0 yX0_costOfMeeting yX0_costOfMeeting, Cond.code yX0_costOfMeeting cX0_costOfMeeting 3 (some .int), Cond.methodLink RL 126 yX0_hoursUntilTogether, Cond.instanceMethod yX0_hoursUntilTogether, Cond.selects RX0 yX0_hoursUntilTogether yX0_hoursUntilTogether, Cond.code yX0_hoursUntilTogether cX0_hoursUntilTogether 4 (some .int), Cond.methodLink RL 129 yX0_areTogether, Cond.instanceMethod yX0_areTogether, Cond.selects RX0 yX0_areTogether yX0_areTogether, Cond.code yX0_areTogether cX0_areTogether 3 (some .boolean), Cond.methodLink RL 133 yX0_areMirrored, Cond.instanceMethod yX0_areMirrored, Cond.selects RX0 yX0_areMirrored yX0_areMirrored, Cond.code yX0_areMirrored cX0_areMirrored 3 (some .boolean), Cond.methodLink RL 136 yX0_cornerOf, Cond.instanceMethod yX0_cornerOf, Cond.selects RX0 yX0_cornerOf yX0_cornerOf, Cond.code yX0_cornerOf cX0_cornerOf 2 (some .int), Cond.methodLink RL 139 yX0_coincidencesIn, Cond.instanceMethod yX0_coincidencesIn, Cond.selects RX0 yX0_coincidencesIn yX0_coincidencesIn, Cond.code yX0_coincidencesIn cX0_coincidencesIn 2 (some .int), Cond.methodLink RL 142 yX0_meanLuck, Cond.instanceMethod yX0_meanLuck]
def wsL_law0_r14 : List Cond := [Cond.selects RX0 yX0_meanLuck yX0_meanLuck, Cond.code yX0_meanLuck cX0_meanLuck 3 (some .double), Cond.methodLink RL 146 yX0_bestHour, Cond.methodLink RL 149 yX0_luckiestPair, Cond.methodLink RL 152 yX0_bestSwap, Cond.methodLink RL 155 yX0_bestCorner, Cond.methodLink RL 158 yX0_bestTicket, Cond.instanceMethod yX0_bestTicket, Cond.selects RX0 yX0_bestTicket yX0_bestTicket, Cond.code yX0_bestTicket cX0_bestTicket 6 (some .int), Cond.methodLink RL 161 yX0_counted, Cond.instanceMethod yX0_counted, Cond.selects RX0 yX0_counted yX0_counted, Cond.code yX0_counted cX0_counted 1 (some .int), Cond.methodLink RL 164 yX1_isSame, Cond.instanceMethod yX1_isSame, Cond.selects RX1 yX1_isSame yX1_isSame, Cond.code yX1_isSame cX1_isSame 9 (some .boolean), Cond.methodLink RX1 64 yX0_strangers, Cond.methodLink RX1 69 yX0_hour, Cond.methodLink RX1 71 yX0_store, Cond.methodLink RX1 73 yX0_counted, Cond.methodLink RX1 75 yX0_spent, Cond.methodLink RX1 77 yX0_coincidences]
def wsL_law0_r15 : List Cond := [Cond.methodLink RX1 80 yX0_peopleAt, Cond.methodLink RX1 83 yX0_coincidencesAt, Cond.methodLink RX1 86 yX0_ticketOf, Cond.instanceMethod yX0_ticketOf, Cond.selects RX0 yX0_ticketOf yX0_ticketOf, Cond.code yX0_ticketOf cX0_ticketOf 2 (some .int), Cond.methodLink RX1 89 yX1_ticket, Cond.methodLink RX1 92 yX0_colourOf, Cond.instanceMethod yX0_colourOf, Cond.selects RX0 yX0_colourOf yX0_colourOf, Cond.code yX0_colourOf cX0_colourOf 2 (some .int), Cond.methodLink RX1 95 yX0_cornerOf, Cond.methodLink RX1 98 yX0_walkOf, Cond.instanceMethod yX0_walkOf, Cond.selects RX0 yX0_walkOf yX0_walkOf, Cond.code yX0_walkOf cX0_walkOf 2 (some .int), Cond.methodLink RX1 101 yX0_luckOf, Cond.methodLink RX1 104 yX0_pointsOf, Cond.methodLink RX1 107 yX0_areTogether, Cond.methodLink RX1 111 yX0_areMirrored, Cond.methodLink RX1 114 yX0_costOfMeeting, Cond.methodLink RX1 117 yX1_cost, Cond.methodLink RX1 120 yX0_luckiestPair, Cond.methodLink RX1 123 yX0_meanLuck]
def wsL_law0 : List Cond := (wsL_law0_r1 ++ (wsL_law0_r2 ++ (wsL_law0_r3 ++ (wsL_law0_r4 ++ (wsL_law0_r5 ++ (wsL_law0_r6 ++ (wsL_law0_r7 ++ (wsL_law0_r8 ++ (wsL_law0_r9 ++ (wsL_law0_r10 ++ (wsL_law0_r11 ++ (wsL_law0_r12 ++ (wsL_law0_r13 ++ (wsL_law0_r14 ++ wsL_law0_r15)))))))))))))) ++ wsX00 ++ wsX10 ++ ([] : List Cond)
def wsL_law : List Cond := wsL_law0 ++ (vx_atS RX0 55 "java/lang/IllegalArgumentException" ["java/lang/RuntimeException", "java/lang/Exception"]).filter goodWord ++ (vx_atS RX0 62 "java/lang/IllegalStateException" ["java/lang/RuntimeException", "java/lang/Exception"]).filter goodWord ++ (vx_atS RX0 161 "java/lang/IndexOutOfBoundsException" ["java/lang/RuntimeException", "java/lang/Exception"]).filter goodWord
abbrev vwCl : List vw_C := [(RX0, TX0, 9), (RX1, TX1, 5)]
end
section
set_option maxRecDepth 20000 in
theorem wsL_law0_r1_in : ∀ w ∈ wsL_law0_r1, w ∈ lw_tbl := fun w h => (goodIn_p wsL_law0_r1 [27, 30, 489] (by decide +kernel) (by decide +kernel) w h).1
set_option maxRecDepth 20000 in
theorem wsL_law0_r2_in : ∀ w ∈ wsL_law0_r2, w ∈ lw_tbl := fun w h => (goodIn_p wsL_law0_r2 [494, 449, 445, 457, 463] (by decide +kernel) (by decide +kernel) w h).1
set_option maxRecDepth 20000 in
theorem wsL_law0_r3_in : ∀ w ∈ wsL_law0_r3, w ∈ lw_tbl := fun w h => (goodIn_p wsL_law0_r3 [227, 466, 138, 469, 257, 265] (by decide +kernel) (by decide +kernel) w h).1
set_option maxRecDepth 20000 in
theorem wsL_law0_r4_in : ∀ w ∈ wsL_law0_r4, w ∈ lw_tbl := fun w h => (goodIn_p wsL_law0_r4 [253, 475, 67, 232] (by decide +kernel) (by decide +kernel) w h).1
set_option maxRecDepth 20000 in
theorem wsL_law0_r5_in : ∀ w ∈ wsL_law0_r5, w ∈ lw_tbl := fun w h => (goodIn_p wsL_law0_r5 [237, 179, 201, 197, 205, 208, 176] (by decide +kernel) (by decide +kernel) w h).1
set_option maxRecDepth 20000 in
theorem wsL_law0_r6_in : ∀ w ∈ wsL_law0_r6, w ∈ lw_tbl := fun w h => (goodIn_p wsL_law0_r6 [211, 214, 217, 241, 245, 381] (by decide +kernel) (by decide +kernel) w h).1
set_option maxRecDepth 20000 in
theorem wsL_law0_r7_in : ∀ w ∈ wsL_law0_r7, w ∈ lw_tbl := fun w h => (goodIn_p wsL_law0_r7 [385, 389, 393, 397, 401, 405] (by decide +kernel) (by decide +kernel) w h).1
set_option maxRecDepth 20000 in
theorem wsL_law0_r8_in : ∀ w ∈ wsL_law0_r8, w ∈ lw_tbl := fun w h => (goodIn_p wsL_law0_r8 [440, 377, 369, 373] (by decide +kernel) (by decide +kernel) w h).1
set_option maxRecDepth 20000 in
theorem wsL_law0_r9_in : ∀ w ∈ wsL_law0_r9, w ∈ lw_tbl := fun w h => (goodIn_p wsL_law0_r9 [485, 192, 183, 220, 188, 63, 173] (by decide +kernel) (by decide +kernel) w h).1
set_option maxRecDepth 20000 in
theorem wsL_law0_r10_in : ∀ w ∈ wsL_law0_r10, w ∈ lw_tbl := fun w h => (goodIn_p wsL_law0_r10 [224, 353, 357, 292, 312, 329] (by decide +kernel) (by decide +kernel) w h).1
set_option maxRecDepth 20000 in
theorem wsL_law0_r11_in : ∀ w ∈ wsL_law0_r11, w ∈ lw_tbl := fun w h => (goodIn_p wsL_law0_r11 [337, 341, 273, 276, 296, 304] (by decide +kernel) (by decide +kernel) w h).1
set_option maxRecDepth 20000 in
theorem wsL_law0_r12_in : ∀ w ∈ wsL_law0_r12, w ∈ lw_tbl := fun w h => (goodIn_p wsL_law0_r12 [308, 333, 249, 300, 280] (by decide +kernel) (by decide +kernel) w h).1
set_option maxRecDepth 20000 in
theorem wsL_law0_r13_in : ∀ w ∈ wsL_law0_r13, w ∈ lw_tbl := fun w h => (goodIn_p wsL_law0_r13 [325, 321, 284, 288, 269, 316] (by decide +kernel) (by decide +kernel) w h).1
set_option maxRecDepth 20000 in
theorem wsL_law0_r14_in : ∀ w ∈ wsL_law0_r14, w ∈ lw_tbl := fun w h => (goodIn_p wsL_law0_r14 [349, 345, 261, 410] (by decide +kernel) (by decide +kernel) w h).1
set_option maxRecDepth 20000 in
theorem wsL_law0_r15_in : ∀ w ∈ wsL_law0_r15, w ∈ lw_tbl := fun w h => (goodIn_p wsL_law0_r15 [422, 427, 432] (by decide +kernel) (by decide +kernel) w h).1
set_option maxRecDepth 20000 in
theorem wsX00_in : ∀ w ∈ wsX00, w ∈ lw_tbl := by decide +kernel
set_option maxRecDepth 20000 in
theorem wsX10_in : ∀ w ∈ wsX10, w ∈ lw_tbl := by decide +kernel
theorem wsL_law_in0 : ∀ w ∈ wsL_law0, w ∈ lw_tbl := fun w h => (List.mem_append.mp h).elim (fun h => (List.mem_append.mp h).elim (fun h => (List.mem_append.mp h).elim (fun h => (List.mem_append.mp h).elim (fun h => wsL_law0_r1_in w h) (fun h => (List.mem_append.mp h).elim (fun h => wsL_law0_r2_in w h) (fun h => (List.mem_append.mp h).elim (fun h => wsL_law0_r3_in w h) (fun h => (List.mem_append.mp h).elim (fun h => wsL_law0_r4_in w h) (fun h => (List.mem_append.mp h).elim (fun h => wsL_law0_r5_in w h) (fun h => (List.mem_append.mp h).elim (fun h => wsL_law0_r6_in w h) (fun h => (List.mem_append.mp h).elim (fun h => wsL_law0_r7_in w h) (fun h => (List.mem_append.mp h).elim (fun h => wsL_law0_r8_in w h) (fun h => (List.mem_append.mp h).elim (fun h => wsL_law0_r9_in w h) (fun h => (List.mem_append.mp h).elim (fun h => wsL_law0_r10_in w h) (fun h => (List.mem_append.mp h).elim (fun h => wsL_law0_r11_in w h) (fun h => (List.mem_append.mp h).elim (fun h => wsL_law0_r12_in w h) (fun h => (List.mem_append.mp h).elim (fun h => wsL_law0_r13_in w h) (fun h => (List.mem_append.mp h).elim (fun h => wsL_law0_r14_in w h) (fun h => wsL_law0_r15_in w h))))))))))))))) (fun h => wsX00_in w h)) (fun h => wsX10_in w h)) (fun h => nomatch h)
theorem wsL_law_x0 : ∀ w ∈ (vx_atS RX0 55 "java/lang/IllegalArgumentException" ["java/lang/RuntimeException", "java/lang/Exception"]).filter goodWord, w ∈ lw_tbl := by decide +kernel
theorem wsL_law_x1 : ∀ w ∈ (vx_atS RX0 62 "java/lang/IllegalStateException" ["java/lang/RuntimeException", "java/lang/Exception"]).filter goodWord, w ∈ lw_tbl := by decide +kernel
theorem wsL_law_x2 : ∀ w ∈ (vx_atS RX0 161 "java/lang/IndexOutOfBoundsException" ["java/lang/RuntimeException", "java/lang/Exception"]).filter goodWord, w ∈ lw_tbl := by decide +kernel
theorem wsL_law_in : ∀ w ∈ wsL_law, w ∈ lw_tbl := fun w h => (List.mem_append.mp h).elim (fun h => (List.mem_append.mp h).elim (fun h => (List.mem_append.mp h).elim (fun h => wsL_law_in0 w h) (fun h => wsL_law_x0 w h)) (fun h => wsL_law_x1 w h)) (fun h => wsL_law_x2 w h)
theorem inlX0 : ∀ w ∈ wsX00, w ∈ wsL_law := fun _ h => List.mem_append_left _ (List.mem_append_left _ (List.mem_append_left _ (List.mem_append_left _ (List.mem_append_left _ (List.mem_append_right _ h)))))
theorem inX0 : ∀ w ∈ wsX00, w ∈ lw_tbl := fun w h => wsL_law_in w (inlX0 w h)
theorem inlX1 : ∀ w ∈ wsX10, w ∈ wsL_law := fun _ h => List.mem_append_left _ (List.mem_append_left _ (List.mem_append_left _ (List.mem_append_left _ (List.mem_append_right _ h))))
theorem inX1 : ∀ w ∈ wsX10, w ∈ lw_tbl := fun w h => wsL_law_in w (inlX1 w h)
theorem inX2 : ∀ w ∈ wsX20, w ∈ lw_tbl := by decide +kernel
theorem inJ9 : ∀ w ∈ wsJ90, w ∈ lw_tbl := by decide +kernel
theorem inJ0 : ∀ w ∈ wsJ00, w ∈ lw_tbl := by decide +kernel
end
section
theorem dX0_init_0 : decode cX0_init 0 = .ok (.aload_n 0, 1) := by decide +kernel
theorem dX0_init_1 : decode cX0_init 1 = .ok (.invokespecial 1, 3) := by decide +kernel
theorem dX0_init_4 : decode cX0_init 4 = .ok (.aload_n 0, 1) := by decide +kernel
theorem dX0_init_5 : decode cX0_init 5 = .ok (.bipush 12, 2) := by decide +kernel
theorem dX0_init_7 : decode cX0_init 7 = .ok (.newarray .int, 2) := by decide +kernel
theorem dX0_init_9 : decode cX0_init 9 = .ok (.putfield 9, 3) := by decide +kernel
theorem dX0_init_12 : decode cX0_init 12 = .ok (.aload_n 0, 1) := by decide +kernel
theorem dX0_init_13 : decode cX0_init 13 = .ok (.bipush 12, 2) := by decide +kernel
theorem dX0_init_15 : decode cX0_init 15 = .ok (.newarray .int, 2) := by decide +kernel
theorem dX0_init_17 : decode cX0_init 17 = .ok (.putfield 13, 3) := by decide +kernel
theorem dX0_init_20 : decode cX0_init 20 = .ok (.aload_n 0, 1) := by decide +kernel
theorem dX0_init_21 : decode cX0_init 21 = .ok (.bipush 12, 2) := by decide +kernel
theorem dX0_init_23 : decode cX0_init 23 = .ok (.newarray .int, 2) := by decide +kernel
theorem dX0_init_25 : decode cX0_init 25 = .ok (.putfield 16, 3) := by decide +kernel
theorem dX0_init_28 : decode cX0_init 28 = .ok (.aload_n 0, 1) := by decide +kernel
theorem dX0_init_29 : decode cX0_init 29 = .ok (.bipush 12, 2) := by decide +kernel
theorem dX0_init_31 : decode cX0_init 31 = .ok (.newarray .int, 2) := by decide +kernel
theorem dX0_init_33 : decode cX0_init 33 = .ok (.putfield 19, 3) := by decide +kernel
theorem dX0_init_36 : decode cX0_init 36 = .ok (.aload_n 0, 1) := by decide +kernel
theorem dX0_init_37 : decode cX0_init 37 = .ok (.iconst 0, 1) := by decide +kernel
theorem dX0_init_38 : decode cX0_init 38 = .ok (.putfield 22, 3) := by decide +kernel
theorem dX0_init_41 : decode cX0_init 41 = .ok (.aload_n 0, 1) := by decide +kernel
theorem dX0_init_42 : decode cX0_init 42 = .ok (.iconst 0, 1) := by decide +kernel
theorem dX0_init_43 : decode cX0_init 43 = .ok (.putfield 26, 3) := by decide +kernel
theorem dX0_init_46 : decode cX0_init 46 = .ok (.aload_n 0, 1) := by decide +kernel
theorem dX0_init_47 : decode cX0_init 47 = .ok (.bipush 20, 2) := by decide +kernel
theorem dX0_init_49 : decode cX0_init 49 = .ok (.putfield 29, 3) := by decide +kernel
theorem dX0_init_52 : decode cX0_init 52 = .ok (.aload_n 0, 1) := by decide +kernel
theorem dX0_init_53 : decode cX0_init 53 = .ok (.iconst 0, 1) := by decide +kernel
theorem dX0_init_54 : decode cX0_init 54 = .ok (.putfield 32, 3) := by decide +kernel
theorem dX0_init_57 : decode cX0_init 57 = .ok (.aload_n 0, 1) := by decide +kernel
theorem dX0_init_58 : decode cX0_init 58 = .ok (.iconst 0, 1) := by decide +kernel
theorem dX0_init_59 : decode cX0_init 59 = .ok (.putfield 35, 3) := by decide +kernel
theorem dX0_init_62 : decode cX0_init 62 = .ok (.return_, 1) := by decide +kernel
set_option maxRecDepth 20000 in
theorem ggX0_addStranger_X0_isTicket : GoodIn wsX0_addStranger wsX0_isTicket := goodIn_r _ [13] (by decide +kernel) (by decide +kernel)
set_option maxRecDepth 20000 in
theorem gX0_addStranger_X0_isTicket : GoodIn wsX0_addStranger (va_wsS RX0 38 yX0_isTicket wsX0_isTicket) := goodIn_app (goodIn_of _ (by decide +kernel)) ggX0_addStranger_X0_isTicket
set_option maxRecDepth 20000 in
theorem ggX0_addStranger_X0_isColour : GoodIn wsX0_addStranger wsX0_isColour := goodIn_r _ [16] (by decide +kernel) (by decide +kernel)
set_option maxRecDepth 20000 in
theorem gX0_addStranger_X0_isColour : GoodIn wsX0_addStranger (va_wsS RX0 42 yX0_isColour wsX0_isColour) := goodIn_app (goodIn_of _ (by decide +kernel)) ggX0_addStranger_X0_isColour
set_option maxRecDepth 20000 in
theorem ggX0_addStranger_X0_isCorner : GoodIn wsX0_addStranger wsX0_isCorner := goodIn_r _ [19] (by decide +kernel) (by decide +kernel)
set_option maxRecDepth 20000 in
theorem gX0_addStranger_X0_isCorner : GoodIn wsX0_addStranger (va_wsS RX0 45 yX0_isCorner wsX0_isCorner) := goodIn_app (goodIn_of _ (by decide +kernel)) ggX0_addStranger_X0_isCorner
set_option maxRecDepth 20000 in
theorem ggX0_addStranger_X0_isWalk : GoodIn wsX0_addStranger wsX0_isWalk := goodIn_r _ [22] (by decide +kernel) (by decide +kernel)
set_option maxRecDepth 20000 in
theorem gX0_addStranger_X0_isWalk : GoodIn wsX0_addStranger (va_wsS RX0 48 yX0_isWalk wsX0_isWalk) := goodIn_app (goodIn_of _ (by decide +kernel)) ggX0_addStranger_X0_isWalk
theorem dX0_addStranger_0 : decode cX0_addStranger 0 = .ok (.iload_n 1, 1) := by decide +kernel
theorem dX0_addStranger_1 : decode cX0_addStranger 1 = .ok (.invokestatic 38, 3) := by decide +kernel
theorem dX0_addStranger_4 : decode cX0_addStranger 4 = .ok (.ifCond .eq 25, 3) := by decide +kernel
theorem dX0_addStranger_7 : decode cX0_addStranger 7 = .ok (.iload_n 2, 1) := by decide +kernel
theorem dX0_addStranger_8 : decode cX0_addStranger 8 = .ok (.invokestatic 42, 3) := by decide +kernel
theorem dX0_addStranger_11 : decode cX0_addStranger 11 = .ok (.ifCond .eq 18, 3) := by decide +kernel
theorem dX0_addStranger_14 : decode cX0_addStranger 14 = .ok (.iload_n 3, 1) := by decide +kernel
theorem dX0_addStranger_15 : decode cX0_addStranger 15 = .ok (.invokestatic 45, 3) := by decide +kernel
theorem dX0_addStranger_18 : decode cX0_addStranger 18 = .ok (.ifCond .eq 11, 3) := by decide +kernel
theorem dX0_addStranger_21 : decode cX0_addStranger 21 = .ok (.iload 4, 2) := by decide +kernel
theorem dX0_addStranger_23 : decode cX0_addStranger 23 = .ok (.invokestatic 48, 3) := by decide +kernel
theorem dX0_addStranger_26 : decode cX0_addStranger 26 = .ok (.ifCond .ne 13, 3) := by decide +kernel
theorem dX0_addStranger_29 : decode cX0_addStranger 29 = .ok (.new 51, 3) := by decide +kernel
theorem dX0_addStranger_32 : decode cX0_addStranger 32 = .ok (.dup, 1) := by decide +kernel
theorem dX0_addStranger_33 : decode cX0_addStranger 33 = .ok (.ldc 53, 2) := by decide +kernel
theorem dX0_addStranger_35 : decode cX0_addStranger 35 = .ok (.invokespecial 55, 3) := by decide +kernel
theorem dX0_addStranger_38 : decode cX0_addStranger 38 = .ok (.athrow, 1) := by decide +kernel
theorem dX0_addStranger_39 : decode cX0_addStranger 39 = .ok (.aload_n 0, 1) := by decide +kernel
theorem dX0_addStranger_40 : decode cX0_addStranger 40 = .ok (.getfield 22, 3) := by decide +kernel
theorem dX0_addStranger_43 : decode cX0_addStranger 43 = .ok (.bipush 12, 2) := by decide +kernel
theorem dX0_addStranger_45 : decode cX0_addStranger 45 = .ok (.if_icmp .lt 13, 3) := by decide +kernel
theorem dX0_addStranger_48 : decode cX0_addStranger 48 = .ok (.new 58, 3) := by decide +kernel
theorem dX0_addStranger_51 : decode cX0_addStranger 51 = .ok (.dup, 1) := by decide +kernel
theorem dX0_addStranger_52 : decode cX0_addStranger 52 = .ok (.ldc 60, 2) := by decide +kernel
theorem dX0_addStranger_54 : decode cX0_addStranger 54 = .ok (.invokespecial 62, 3) := by decide +kernel
theorem dX0_addStranger_57 : decode cX0_addStranger 57 = .ok (.athrow, 1) := by decide +kernel
theorem dX0_addStranger_58 : decode cX0_addStranger 58 = .ok (.aload_n 0, 1) := by decide +kernel
theorem dX0_addStranger_59 : decode cX0_addStranger 59 = .ok (.getfield 22, 3) := by decide +kernel
theorem dX0_addStranger_62 : decode cX0_addStranger 62 = .ok (.istore 5, 2) := by decide +kernel
theorem dX0_addStranger_64 : decode cX0_addStranger 64 = .ok (.aload_n 0, 1) := by decide +kernel
theorem dX0_addStranger_65 : decode cX0_addStranger 65 = .ok (.getfield 9, 3) := by decide +kernel
theorem dX0_addStranger_68 : decode cX0_addStranger 68 = .ok (.iload 5, 2) := by decide +kernel
theorem dX0_addStranger_70 : decode cX0_addStranger 70 = .ok (.iload_n 1, 1) := by decide +kernel
theorem dX0_addStranger_71 : decode cX0_addStranger 71 = .ok (.iastore, 1) := by decide +kernel
theorem dX0_addStranger_72 : decode cX0_addStranger 72 = .ok (.aload_n 0, 1) := by decide +kernel
theorem dX0_addStranger_73 : decode cX0_addStranger 73 = .ok (.getfield 13, 3) := by decide +kernel
theorem dX0_addStranger_76 : decode cX0_addStranger 76 = .ok (.iload 5, 2) := by decide +kernel
theorem dX0_addStranger_78 : decode cX0_addStranger 78 = .ok (.iload_n 2, 1) := by decide +kernel
theorem dX0_addStranger_79 : decode cX0_addStranger 79 = .ok (.iastore, 1) := by decide +kernel
theorem dX0_addStranger_80 : decode cX0_addStranger 80 = .ok (.aload_n 0, 1) := by decide +kernel
theorem dX0_addStranger_81 : decode cX0_addStranger 81 = .ok (.getfield 16, 3) := by decide +kernel
theorem dX0_addStranger_84 : decode cX0_addStranger 84 = .ok (.iload 5, 2) := by decide +kernel
theorem dX0_addStranger_86 : decode cX0_addStranger 86 = .ok (.iload_n 3, 1) := by decide +kernel
theorem dX0_addStranger_87 : decode cX0_addStranger 87 = .ok (.iastore, 1) := by decide +kernel
theorem dX0_addStranger_88 : decode cX0_addStranger 88 = .ok (.aload_n 0, 1) := by decide +kernel
theorem dX0_addStranger_89 : decode cX0_addStranger 89 = .ok (.getfield 19, 3) := by decide +kernel
theorem dX0_addStranger_92 : decode cX0_addStranger 92 = .ok (.iload 5, 2) := by decide +kernel
theorem dX0_addStranger_94 : decode cX0_addStranger 94 = .ok (.iload 4, 2) := by decide +kernel
theorem dX0_addStranger_96 : decode cX0_addStranger 96 = .ok (.iastore, 1) := by decide +kernel
theorem dX0_addStranger_97 : decode cX0_addStranger 97 = .ok (.aload_n 0, 1) := by decide +kernel
theorem dX0_addStranger_98 : decode cX0_addStranger 98 = .ok (.iload 5, 2) := by decide +kernel
theorem dX0_addStranger_100 : decode cX0_addStranger 100 = .ok (.iconst 1, 1) := by decide +kernel
theorem dX0_addStranger_101 : decode cX0_addStranger 101 = .ok (.iadd, 1) := by decide +kernel
theorem dX0_addStranger_102 : decode cX0_addStranger 102 = .ok (.putfield 22, 3) := by decide +kernel
theorem dX0_addStranger_105 : decode cX0_addStranger 105 = .ok (.iload 5, 2) := by decide +kernel
theorem dX0_addStranger_107 : decode cX0_addStranger 107 = .ok (.ireturn, 1) := by decide +kernel
set_option maxRecDepth 20000 in
theorem ggX0_setWalk_X0_requireStranger : GoodIn wsX0_setWalk wsX0_requireStranger := goodIn_ca (goodIn_r _ [8, 9, 10, 11, 15, 16, 17, 18, 19, 20, 21, 22, 23] (by decide +kernel) (by decide +kernel)) (goodIn_sub (fun _ h => List.mem_cons_of_mem _ (List.mem_append_right _ h)) (by decide +kernel))
set_option maxRecDepth 20000 in
theorem gX0_setWalk_X0_requireStranger : GoodIn wsX0_setWalk (wsV RX0 63 RX0 yX0_requireStranger wsX0_requireStranger) := goodIn_app (goodIn_of _ (by decide +kernel)) ggX0_setWalk_X0_requireStranger
set_option maxRecDepth 20000 in
theorem ggX0_setWalk_X0_isWalk : GoodIn wsX0_setWalk wsX0_isWalk := goodIn_r _ [14] (by decide +kernel) (by decide +kernel)
set_option maxRecDepth 20000 in
theorem gX0_setWalk_X0_isWalk : GoodIn wsX0_setWalk (va_wsS RX0 48 yX0_isWalk wsX0_isWalk) := goodIn_app (goodIn_of _ (by decide +kernel)) ggX0_setWalk_X0_isWalk
theorem dX0_setWalk_0 : decode cX0_setWalk 0 = .ok (.aload_n 0, 1) := by decide +kernel
theorem dX0_setWalk_1 : decode cX0_setWalk 1 = .ok (.iload_n 1, 1) := by decide +kernel
theorem dX0_setWalk_2 : decode cX0_setWalk 2 = .ok (.invokevirtual 63, 3) := by decide +kernel
theorem dX0_setWalk_5 : decode cX0_setWalk 5 = .ok (.iload_n 2, 1) := by decide +kernel
theorem dX0_setWalk_6 : decode cX0_setWalk 6 = .ok (.invokestatic 48, 3) := by decide +kernel
theorem dX0_setWalk_9 : decode cX0_setWalk 9 = .ok (.ifCond .ne 13, 3) := by decide +kernel
theorem dX0_setWalk_12 : decode cX0_setWalk 12 = .ok (.new 51, 3) := by decide +kernel
theorem dX0_setWalk_15 : decode cX0_setWalk 15 = .ok (.dup, 1) := by decide +kernel
theorem dX0_setWalk_16 : decode cX0_setWalk 16 = .ok (.ldc 67, 2) := by decide +kernel
theorem dX0_setWalk_18 : decode cX0_setWalk 18 = .ok (.invokespecial 55, 3) := by decide +kernel
theorem dX0_setWalk_21 : decode cX0_setWalk 21 = .ok (.athrow, 1) := by decide +kernel
theorem dX0_setWalk_22 : decode cX0_setWalk 22 = .ok (.aload_n 0, 1) := by decide +kernel
theorem dX0_setWalk_23 : decode cX0_setWalk 23 = .ok (.getfield 19, 3) := by decide +kernel
theorem dX0_setWalk_26 : decode cX0_setWalk 26 = .ok (.iload_n 1, 1) := by decide +kernel
theorem dX0_setWalk_27 : decode cX0_setWalk 27 = .ok (.iaload, 1) := by decide +kernel
theorem dX0_setWalk_28 : decode cX0_setWalk 28 = .ok (.istore_n 3, 1) := by decide +kernel
theorem dX0_setWalk_29 : decode cX0_setWalk 29 = .ok (.aload_n 0, 1) := by decide +kernel
theorem dX0_setWalk_30 : decode cX0_setWalk 30 = .ok (.getfield 19, 3) := by decide +kernel
theorem dX0_setWalk_33 : decode cX0_setWalk 33 = .ok (.iload_n 1, 1) := by decide +kernel
theorem dX0_setWalk_34 : decode cX0_setWalk 34 = .ok (.iload_n 2, 1) := by decide +kernel
theorem dX0_setWalk_35 : decode cX0_setWalk 35 = .ok (.iastore, 1) := by decide +kernel
theorem dX0_setWalk_36 : decode cX0_setWalk 36 = .ok (.iload_n 3, 1) := by decide +kernel
theorem dX0_setWalk_37 : decode cX0_setWalk 37 = .ok (.ireturn, 1) := by decide +kernel
set_option maxRecDepth 20000 in
theorem ggX0_move_X0_requireStranger : GoodIn wsX0_move wsX0_requireStranger := goodIn_ca (goodIn_r _ [10, 11, 12, 13, 33, 34, 35, 36, 37, 38, 39, 40, 41] (by decide +kernel) (by decide +kernel)) (goodIn_sub (fun _ h => List.mem_cons_of_mem _ (List.mem_append_right _ h)) (by decide +kernel))
set_option maxRecDepth 20000 in
theorem gX0_move_X0_requireStranger : GoodIn wsX0_move (wsV RX0 63 RX0 yX0_requireStranger wsX0_requireStranger) := goodIn_app (goodIn_of _ (by decide +kernel)) ggX0_move_X0_requireStranger
set_option maxRecDepth 20000 in
theorem ggX0_move_X0_isCorner : GoodIn wsX0_move wsX0_isCorner := goodIn_r _ [16] (by decide +kernel) (by decide +kernel)
set_option maxRecDepth 20000 in
theorem gX0_move_X0_isCorner : GoodIn wsX0_move (va_wsS RX0 45 yX0_isCorner wsX0_isCorner) := goodIn_app (goodIn_of _ (by decide +kernel)) ggX0_move_X0_isCorner
set_option maxRecDepth 20000 in
theorem ggX0_move_X0_costOfWay : GoodIn wsX0_move wsX0_costOfWay := goodIn_r _ [19, 20, 21, 22, 23, 24, 25, 26] (by decide +kernel) (by decide +kernel)
set_option maxRecDepth 20000 in
theorem gX0_move_X0_costOfWay : GoodIn wsX0_move (va_wsS RX0 73 yX0_costOfWay wsX0_costOfWay) := goodIn_app (goodIn_of _ (by decide +kernel)) ggX0_move_X0_costOfWay
set_option maxRecDepth 20000 in
theorem ggX0_move_X0_pay : GoodIn wsX0_move wsX0_pay := goodIn_ca (goodIn_r _ [30, 3, 4, 31, 32, 33, 34, 35, 36, 37, 38, 39, 40, 41] (by decide +kernel) (by decide +kernel)) (goodIn_sub (fun _ h => List.mem_cons_of_mem _ (List.mem_append_left _ (List.mem_append_right _ h))) (by decide +kernel))
set_option maxRecDepth 20000 in
theorem gX0_move_X0_pay : GoodIn wsX0_move (wsV RX0 77 RX0 yX0_pay wsX0_pay) := goodIn_app (goodIn_of _ (by decide +kernel)) ggX0_move_X0_pay
theorem dX0_move_0 : decode cX0_move 0 = .ok (.aload_n 0, 1) := by decide +kernel
theorem dX0_move_1 : decode cX0_move 1 = .ok (.iload_n 1, 1) := by decide +kernel
theorem dX0_move_2 : decode cX0_move 2 = .ok (.invokevirtual 63, 3) := by decide +kernel
theorem dX0_move_5 : decode cX0_move 5 = .ok (.iload_n 2, 1) := by decide +kernel
theorem dX0_move_6 : decode cX0_move 6 = .ok (.invokestatic 45, 3) := by decide +kernel
theorem dX0_move_9 : decode cX0_move 9 = .ok (.ifCond .ne 13, 3) := by decide +kernel
theorem dX0_move_12 : decode cX0_move 12 = .ok (.new 51, 3) := by decide +kernel
theorem dX0_move_15 : decode cX0_move 15 = .ok (.dup, 1) := by decide +kernel
theorem dX0_move_16 : decode cX0_move 16 = .ok (.ldc 69, 2) := by decide +kernel
theorem dX0_move_18 : decode cX0_move 18 = .ok (.invokespecial 55, 3) := by decide +kernel
theorem dX0_move_21 : decode cX0_move 21 = .ok (.athrow, 1) := by decide +kernel
theorem dX0_move_22 : decode cX0_move 22 = .ok (.aload_n 0, 1) := by decide +kernel
theorem dX0_move_23 : decode cX0_move 23 = .ok (.getfield 16, 3) := by decide +kernel
theorem dX0_move_26 : decode cX0_move 26 = .ok (.iload_n 1, 1) := by decide +kernel
theorem dX0_move_27 : decode cX0_move 27 = .ok (.iaload, 1) := by decide +kernel
theorem dX0_move_28 : decode cX0_move 28 = .ok (.iload_n 2, 1) := by decide +kernel
theorem dX0_move_29 : decode cX0_move 29 = .ok (.if_icmp .ne 13, 3) := by decide +kernel
theorem dX0_move_32 : decode cX0_move 32 = .ok (.new 58, 3) := by decide +kernel
theorem dX0_move_35 : decode cX0_move 35 = .ok (.dup, 1) := by decide +kernel
theorem dX0_move_36 : decode cX0_move 36 = .ok (.ldc 71, 2) := by decide +kernel
theorem dX0_move_38 : decode cX0_move 38 = .ok (.invokespecial 62, 3) := by decide +kernel
theorem dX0_move_41 : decode cX0_move 41 = .ok (.athrow, 1) := by decide +kernel
theorem dX0_move_42 : decode cX0_move 42 = .ok (.aload_n 0, 1) := by decide +kernel
theorem dX0_move_43 : decode cX0_move 43 = .ok (.getfield 16, 3) := by decide +kernel
theorem dX0_move_46 : decode cX0_move 46 = .ok (.iload_n 1, 1) := by decide +kernel
theorem dX0_move_47 : decode cX0_move 47 = .ok (.iaload, 1) := by decide +kernel
theorem dX0_move_48 : decode cX0_move 48 = .ok (.iload_n 2, 1) := by decide +kernel
theorem dX0_move_49 : decode cX0_move 49 = .ok (.invokestatic 73, 3) := by decide +kernel
theorem dX0_move_52 : decode cX0_move 52 = .ok (.istore_n 3, 1) := by decide +kernel
theorem dX0_move_53 : decode cX0_move 53 = .ok (.aload_n 0, 1) := by decide +kernel
theorem dX0_move_54 : decode cX0_move 54 = .ok (.iload_n 3, 1) := by decide +kernel
theorem dX0_move_55 : decode cX0_move 55 = .ok (.invokevirtual 77, 3) := by decide +kernel
theorem dX0_move_58 : decode cX0_move 58 = .ok (.aload_n 0, 1) := by decide +kernel
theorem dX0_move_59 : decode cX0_move 59 = .ok (.getfield 16, 3) := by decide +kernel
theorem dX0_move_62 : decode cX0_move 62 = .ok (.iload_n 1, 1) := by decide +kernel
theorem dX0_move_63 : decode cX0_move 63 = .ok (.iload_n 2, 1) := by decide +kernel
theorem dX0_move_64 : decode cX0_move 64 = .ok (.iastore, 1) := by decide +kernel
theorem dX0_move_65 : decode cX0_move 65 = .ok (.iload_n 3, 1) := by decide +kernel
theorem dX0_move_66 : decode cX0_move 66 = .ok (.ireturn, 1) := by decide +kernel
set_option maxRecDepth 20000 in
theorem ggX0_swapUmbrellas_X0_requirePair : GoodIn wsX0_swapUmbrellas wsX0_requirePair := goodIn_ca (goodIn_ca (goodIn_r _ [9, 10, 11, 12, 13, 14, 8, 15, 16, 17, 18, 58, 59, 60, 61, 62, 63, 64, 65, 66] (by decide +kernel) (by decide +kernel)) (goodIn_sub (fun _ h => List.mem_cons_of_mem _ (List.mem_append_left _ (List.mem_append_right _ h))) (by decide +kernel))) (goodIn_sub (fun _ h => List.mem_cons_of_mem _ (List.mem_append_right _ h)) (by decide +kernel))
set_option maxRecDepth 20000 in
theorem gX0_swapUmbrellas_X0_requirePair : GoodIn wsX0_swapUmbrellas (wsV RX0 80 RX0 yX0_requirePair wsX0_requirePair) := goodIn_app (goodIn_of _ (by decide +kernel)) ggX0_swapUmbrellas_X0_requirePair
set_option maxRecDepth 20000 in
theorem ggX0_swapUmbrellas_X0_pay : GoodIn wsX0_swapUmbrellas wsX0_pay := goodIn_ca (goodIn_r _ [22, 1, 2, 23, 24, 58, 59, 60, 61, 62, 63, 64, 65, 66] (by decide +kernel) (by decide +kernel)) (goodIn_sub (fun _ h => List.mem_cons_of_mem _ (List.mem_append_left _ (List.mem_append_left _ (List.mem_append_right _ h)))) (by decide +kernel))
set_option maxRecDepth 20000 in
theorem gX0_swapUmbrellas_X0_pay : GoodIn wsX0_swapUmbrellas (wsV RX0 77 RX0 yX0_pay wsX0_pay) := goodIn_app (goodIn_of _ (by decide +kernel)) ggX0_swapUmbrellas_X0_pay
set_option maxRecDepth 20000 in
theorem ggX0_swapUmbrellas_X0_townBehind : GoodIn wsX0_swapUmbrellas wsX0_townBehind := goodIn_r _ [28, 18, 29, 30, 31, 8, 32, 3, 33, 34, 35, 36, 37, 38, 4, 39, 40, 41, 42, 43, 44, 45, 46, 47, 48, 49, 50, 51, 52, 53, 54, 58, 59, 60, 61, 62, 63, 64, 65, 66] (by decide +kernel) (by decide +kernel)
set_option maxRecDepth 20000 in
theorem gX0_swapUmbrellas_X0_townBehind : GoodIn wsX0_swapUmbrellas (wsV RX0 86 RX0 yX0_townBehind wsX0_townBehind) := goodIn_app (goodIn_of _ (by decide +kernel)) ggX0_swapUmbrellas_X0_townBehind
set_option maxRecDepth 20000 in
theorem ggX0_swapUmbrellas_X0_exchange : GoodIn wsX0_swapUmbrellas wsX0_exchange := goodIn_r _ [57] (by decide +kernel) (by decide +kernel)
set_option maxRecDepth 20000 in
theorem gX0_swapUmbrellas_X0_exchange : GoodIn wsX0_swapUmbrellas (va_wsS RX0 90 yX0_exchange wsX0_exchange) := goodIn_app (goodIn_of _ (by decide +kernel)) ggX0_swapUmbrellas_X0_exchange
theorem dX0_swapUmbrellas_0 : decode cX0_swapUmbrellas 0 = .ok (.aload_n 0, 1) := by decide +kernel
theorem dX0_swapUmbrellas_1 : decode cX0_swapUmbrellas 1 = .ok (.iload_n 1, 1) := by decide +kernel
theorem dX0_swapUmbrellas_2 : decode cX0_swapUmbrellas 2 = .ok (.iload_n 2, 1) := by decide +kernel
theorem dX0_swapUmbrellas_3 : decode cX0_swapUmbrellas 3 = .ok (.invokevirtual 80, 3) := by decide +kernel
theorem dX0_swapUmbrellas_6 : decode cX0_swapUmbrellas 6 = .ok (.aload_n 0, 1) := by decide +kernel
theorem dX0_swapUmbrellas_7 : decode cX0_swapUmbrellas 7 = .ok (.getfield 16, 3) := by decide +kernel
theorem dX0_swapUmbrellas_10 : decode cX0_swapUmbrellas 10 = .ok (.iload_n 1, 1) := by decide +kernel
theorem dX0_swapUmbrellas_11 : decode cX0_swapUmbrellas 11 = .ok (.iaload, 1) := by decide +kernel
theorem dX0_swapUmbrellas_12 : decode cX0_swapUmbrellas 12 = .ok (.aload_n 0, 1) := by decide +kernel
theorem dX0_swapUmbrellas_13 : decode cX0_swapUmbrellas 13 = .ok (.getfield 16, 3) := by decide +kernel
theorem dX0_swapUmbrellas_16 : decode cX0_swapUmbrellas 16 = .ok (.iload_n 2, 1) := by decide +kernel
theorem dX0_swapUmbrellas_17 : decode cX0_swapUmbrellas 17 = .ok (.iaload, 1) := by decide +kernel
theorem dX0_swapUmbrellas_18 : decode cX0_swapUmbrellas 18 = .ok (.if_icmp .eq 13, 3) := by decide +kernel
theorem dX0_swapUmbrellas_21 : decode cX0_swapUmbrellas 21 = .ok (.new 58, 3) := by decide +kernel
theorem dX0_swapUmbrellas_24 : decode cX0_swapUmbrellas 24 = .ok (.dup, 1) := by decide +kernel
theorem dX0_swapUmbrellas_25 : decode cX0_swapUmbrellas 25 = .ok (.ldc 84, 2) := by decide +kernel
theorem dX0_swapUmbrellas_27 : decode cX0_swapUmbrellas 27 = .ok (.invokespecial 62, 3) := by decide +kernel
theorem dX0_swapUmbrellas_30 : decode cX0_swapUmbrellas 30 = .ok (.athrow, 1) := by decide +kernel
theorem dX0_swapUmbrellas_31 : decode cX0_swapUmbrellas 31 = .ok (.aload_n 0, 1) := by decide +kernel
theorem dX0_swapUmbrellas_32 : decode cX0_swapUmbrellas 32 = .ok (.iconst 3, 1) := by decide +kernel
theorem dX0_swapUmbrellas_33 : decode cX0_swapUmbrellas 33 = .ok (.invokevirtual 77, 3) := by decide +kernel
theorem dX0_swapUmbrellas_36 : decode cX0_swapUmbrellas 36 = .ok (.aload_n 0, 1) := by decide +kernel
theorem dX0_swapUmbrellas_37 : decode cX0_swapUmbrellas 37 = .ok (.iconst 0, 1) := by decide +kernel
theorem dX0_swapUmbrellas_38 : decode cX0_swapUmbrellas 38 = .ok (.invokevirtual 86, 3) := by decide +kernel
theorem dX0_swapUmbrellas_41 : decode cX0_swapUmbrellas 41 = .ok (.istore_n 3, 1) := by decide +kernel
theorem dX0_swapUmbrellas_42 : decode cX0_swapUmbrellas 42 = .ok (.aload_n 0, 1) := by decide +kernel
theorem dX0_swapUmbrellas_43 : decode cX0_swapUmbrellas 43 = .ok (.getfield 13, 3) := by decide +kernel
theorem dX0_swapUmbrellas_46 : decode cX0_swapUmbrellas 46 = .ok (.iload_n 1, 1) := by decide +kernel
theorem dX0_swapUmbrellas_47 : decode cX0_swapUmbrellas 47 = .ok (.iload_n 2, 1) := by decide +kernel
theorem dX0_swapUmbrellas_48 : decode cX0_swapUmbrellas 48 = .ok (.invokestatic 90, 3) := by decide +kernel
theorem dX0_swapUmbrellas_51 : decode cX0_swapUmbrellas 51 = .ok (.aload_n 0, 1) := by decide +kernel
theorem dX0_swapUmbrellas_52 : decode cX0_swapUmbrellas 52 = .ok (.iconst 0, 1) := by decide +kernel
theorem dX0_swapUmbrellas_53 : decode cX0_swapUmbrellas 53 = .ok (.invokevirtual 86, 3) := by decide +kernel
theorem dX0_swapUmbrellas_56 : decode cX0_swapUmbrellas 56 = .ok (.iload_n 3, 1) := by decide +kernel
theorem dX0_swapUmbrellas_57 : decode cX0_swapUmbrellas 57 = .ok (.isub, 1) := by decide +kernel
theorem dX0_swapUmbrellas_58 : decode cX0_swapUmbrellas 58 = .ok (.ireturn, 1) := by decide +kernel
set_option maxRecDepth 20000 in
theorem ggX0_swapTickets_X0_requirePair : GoodIn wsX0_swapTickets wsX0_requirePair := goodIn_ca (goodIn_ca (goodIn_r _ [6, 7, 8, 9, 10, 11, 5, 12, 13, 14, 15, 58, 59, 60, 61, 62, 63, 64, 65, 66] (by decide +kernel) (by decide +kernel)) (goodIn_sub (fun _ h => List.mem_cons_of_mem _ (List.mem_append_left _ (List.mem_append_left _ (List.mem_append_right _ h)))) (by decide +kernel))) (goodIn_sub (fun _ h => List.mem_cons_of_mem _ (List.mem_append_left _ (List.mem_append_right _ h))) (by decide +kernel))
set_option maxRecDepth 20000 in
theorem gX0_swapTickets_X0_requirePair : GoodIn wsX0_swapTickets (wsV RX0 80 RX0 yX0_requirePair wsX0_requirePair) := goodIn_app (goodIn_of _ (by decide +kernel)) ggX0_swapTickets_X0_requirePair
set_option maxRecDepth 20000 in
theorem ggX0_swapTickets_X0_pay : GoodIn wsX0_swapTickets wsX0_pay := goodIn_ca (goodIn_r _ [19, 20, 21, 22, 23, 58, 59, 60, 61, 62, 63, 64, 65, 66] (by decide +kernel) (by decide +kernel)) (goodIn_sub (fun _ h => List.mem_cons_of_mem _ (List.mem_append_right _ h)) (by decide +kernel))
set_option maxRecDepth 20000 in
theorem gX0_swapTickets_X0_pay : GoodIn wsX0_swapTickets (wsV RX0 77 RX0 yX0_pay wsX0_pay) := goodIn_app (goodIn_of _ (by decide +kernel)) ggX0_swapTickets_X0_pay
set_option maxRecDepth 20000 in
theorem ggX0_swapTickets_X0_townBehind : GoodIn wsX0_swapTickets wsX0_townBehind := goodIn_r _ [27, 15, 28, 29, 30, 5, 31, 32, 33, 34, 35, 36, 37, 1, 38, 39, 40, 41, 42, 43, 44, 45, 46, 47, 48, 49, 50, 51, 52, 53, 54, 58, 59, 60, 61, 62, 63, 64, 65, 66] (by decide +kernel) (by decide +kernel)
set_option maxRecDepth 20000 in
theorem gX0_swapTickets_X0_townBehind : GoodIn wsX0_swapTickets (wsV RX0 86 RX0 yX0_townBehind wsX0_townBehind) := goodIn_app (goodIn_of _ (by decide +kernel)) ggX0_swapTickets_X0_townBehind
set_option maxRecDepth 20000 in
theorem ggX0_swapTickets_X0_exchange : GoodIn wsX0_swapTickets wsX0_exchange := goodIn_r _ [57] (by decide +kernel) (by decide +kernel)
set_option maxRecDepth 20000 in
theorem gX0_swapTickets_X0_exchange : GoodIn wsX0_swapTickets (va_wsS RX0 90 yX0_exchange wsX0_exchange) := goodIn_app (goodIn_of _ (by decide +kernel)) ggX0_swapTickets_X0_exchange
theorem dX0_swapTickets_0 : decode cX0_swapTickets 0 = .ok (.aload_n 0, 1) := by decide +kernel
theorem dX0_swapTickets_1 : decode cX0_swapTickets 1 = .ok (.iload_n 1, 1) := by decide +kernel
theorem dX0_swapTickets_2 : decode cX0_swapTickets 2 = .ok (.iload_n 2, 1) := by decide +kernel
theorem dX0_swapTickets_3 : decode cX0_swapTickets 3 = .ok (.invokevirtual 80, 3) := by decide +kernel
theorem dX0_swapTickets_6 : decode cX0_swapTickets 6 = .ok (.aload_n 0, 1) := by decide +kernel
theorem dX0_swapTickets_7 : decode cX0_swapTickets 7 = .ok (.bipush 8, 2) := by decide +kernel
theorem dX0_swapTickets_9 : decode cX0_swapTickets 9 = .ok (.invokevirtual 77, 3) := by decide +kernel
theorem dX0_swapTickets_12 : decode cX0_swapTickets 12 = .ok (.aload_n 0, 1) := by decide +kernel
theorem dX0_swapTickets_13 : decode cX0_swapTickets 13 = .ok (.iconst 0, 1) := by decide +kernel
theorem dX0_swapTickets_14 : decode cX0_swapTickets 14 = .ok (.invokevirtual 86, 3) := by decide +kernel
theorem dX0_swapTickets_17 : decode cX0_swapTickets 17 = .ok (.istore_n 3, 1) := by decide +kernel
theorem dX0_swapTickets_18 : decode cX0_swapTickets 18 = .ok (.aload_n 0, 1) := by decide +kernel
theorem dX0_swapTickets_19 : decode cX0_swapTickets 19 = .ok (.getfield 9, 3) := by decide +kernel
theorem dX0_swapTickets_22 : decode cX0_swapTickets 22 = .ok (.iload_n 1, 1) := by decide +kernel
theorem dX0_swapTickets_23 : decode cX0_swapTickets 23 = .ok (.iload_n 2, 1) := by decide +kernel
theorem dX0_swapTickets_24 : decode cX0_swapTickets 24 = .ok (.invokestatic 90, 3) := by decide +kernel
theorem dX0_swapTickets_27 : decode cX0_swapTickets 27 = .ok (.aload_n 0, 1) := by decide +kernel
theorem dX0_swapTickets_28 : decode cX0_swapTickets 28 = .ok (.iconst 0, 1) := by decide +kernel
theorem dX0_swapTickets_29 : decode cX0_swapTickets 29 = .ok (.invokevirtual 86, 3) := by decide +kernel
theorem dX0_swapTickets_32 : decode cX0_swapTickets 32 = .ok (.iload_n 3, 1) := by decide +kernel
theorem dX0_swapTickets_33 : decode cX0_swapTickets 33 = .ok (.isub, 1) := by decide +kernel
theorem dX0_swapTickets_34 : decode cX0_swapTickets 34 = .ok (.ireturn, 1) := by decide +kernel
set_option maxRecDepth 20000 in
theorem ggX0_draw_X0_requireStranger : GoodIn wsX0_draw wsX0_requireStranger := goodIn_ca (goodIn_r _ [8, 9, 10, 11, 23, 24, 25, 26, 27, 28, 29, 30, 31] (by decide +kernel) (by decide +kernel)) (goodIn_sub (fun _ h => List.mem_cons_of_mem _ (List.mem_append_left _ (List.mem_append_right _ h))) (by decide +kernel))
set_option maxRecDepth 20000 in
theorem gX0_draw_X0_requireStranger : GoodIn wsX0_draw (wsV RX0 63 RX0 yX0_requireStranger wsX0_requireStranger) := goodIn_app (goodIn_of _ (by decide +kernel)) ggX0_draw_X0_requireStranger
set_option maxRecDepth 20000 in
theorem ggX0_draw_X0_isTicket : GoodIn wsX0_draw wsX0_isTicket := goodIn_r _ [14] (by decide +kernel) (by decide +kernel)
set_option maxRecDepth 20000 in
theorem gX0_draw_X0_isTicket : GoodIn wsX0_draw (va_wsS RX0 38 yX0_isTicket wsX0_isTicket) := goodIn_app (goodIn_of _ (by decide +kernel)) ggX0_draw_X0_isTicket
set_option maxRecDepth 20000 in
theorem ggX0_draw_X0_pay : GoodIn wsX0_draw wsX0_pay := goodIn_ca (goodIn_r _ [18, 19, 20, 21, 22, 23, 24, 25, 26, 27, 28, 29, 30, 31] (by decide +kernel) (by decide +kernel)) (goodIn_sub (fun _ h => List.mem_cons_of_mem _ (List.mem_append_right _ h)) (by decide +kernel))
set_option maxRecDepth 20000 in
theorem gX0_draw_X0_pay : GoodIn wsX0_draw (wsV RX0 77 RX0 yX0_pay wsX0_pay) := goodIn_app (goodIn_of _ (by decide +kernel)) ggX0_draw_X0_pay
theorem dX0_draw_0 : decode cX0_draw 0 = .ok (.aload_n 0, 1) := by decide +kernel
theorem dX0_draw_1 : decode cX0_draw 1 = .ok (.iload_n 1, 1) := by decide +kernel
theorem dX0_draw_2 : decode cX0_draw 2 = .ok (.invokevirtual 63, 3) := by decide +kernel
theorem dX0_draw_5 : decode cX0_draw 5 = .ok (.iload_n 2, 1) := by decide +kernel
theorem dX0_draw_6 : decode cX0_draw 6 = .ok (.invokestatic 38, 3) := by decide +kernel
theorem dX0_draw_9 : decode cX0_draw 9 = .ok (.ifCond .ne 13, 3) := by decide +kernel
theorem dX0_draw_12 : decode cX0_draw 12 = .ok (.new 51, 3) := by decide +kernel
theorem dX0_draw_15 : decode cX0_draw 15 = .ok (.dup, 1) := by decide +kernel
theorem dX0_draw_16 : decode cX0_draw 16 = .ok (.ldc 94, 2) := by decide +kernel
theorem dX0_draw_18 : decode cX0_draw 18 = .ok (.invokespecial 55, 3) := by decide +kernel
theorem dX0_draw_21 : decode cX0_draw 21 = .ok (.athrow, 1) := by decide +kernel
theorem dX0_draw_22 : decode cX0_draw 22 = .ok (.aload_n 0, 1) := by decide +kernel
theorem dX0_draw_23 : decode cX0_draw 23 = .ok (.bipush 12, 2) := by decide +kernel
theorem dX0_draw_25 : decode cX0_draw 25 = .ok (.invokevirtual 77, 3) := by decide +kernel
theorem dX0_draw_28 : decode cX0_draw 28 = .ok (.aload_n 0, 1) := by decide +kernel
theorem dX0_draw_29 : decode cX0_draw 29 = .ok (.getfield 9, 3) := by decide +kernel
theorem dX0_draw_32 : decode cX0_draw 32 = .ok (.iload_n 1, 1) := by decide +kernel
theorem dX0_draw_33 : decode cX0_draw 33 = .ok (.iaload, 1) := by decide +kernel
theorem dX0_draw_34 : decode cX0_draw 34 = .ok (.istore_n 3, 1) := by decide +kernel
theorem dX0_draw_35 : decode cX0_draw 35 = .ok (.aload_n 0, 1) := by decide +kernel
theorem dX0_draw_36 : decode cX0_draw 36 = .ok (.getfield 9, 3) := by decide +kernel
theorem dX0_draw_39 : decode cX0_draw 39 = .ok (.iload_n 1, 1) := by decide +kernel
theorem dX0_draw_40 : decode cX0_draw 40 = .ok (.iload_n 2, 1) := by decide +kernel
theorem dX0_draw_41 : decode cX0_draw 41 = .ok (.iastore, 1) := by decide +kernel
theorem dX0_draw_42 : decode cX0_draw 42 = .ok (.iload_n 3, 1) := by decide +kernel
theorem dX0_draw_43 : decode cX0_draw 43 = .ok (.ireturn, 1) := by decide +kernel
set_option maxRecDepth 20000 in
theorem ggX0_pass_X0_passOneHour : GoodIn wsX0_pass wsX0_passOneHour := goodIn_r _ [8, 9, 10, 3, 11, 12, 13, 14, 15, 16, 17, 18, 19, 7, 20, 21, 22, 23, 24, 25, 26, 27, 28, 29, 30, 31, 32, 33, 34, 35, 36, 37, 38, 39, 40, 41, 42, 43, 44, 45, 46, 47, 48, 49, 50, 51, 52, 53, 54, 55, 56, 57, 58, 59, 60, 61, 62, 63] (by decide +kernel) (by decide +kernel)
set_option maxRecDepth 20000 in
theorem gX0_pass_X0_passOneHour : GoodIn wsX0_pass (wsV RX0 98 RX0 yX0_passOneHour wsX0_passOneHour) := goodIn_app (goodIn_of _ (by decide +kernel)) ggX0_pass_X0_passOneHour
theorem dX0_pass_0 : decode cX0_pass 0 = .ok (.iload_n 1, 1) := by decide +kernel
theorem dX0_pass_1 : decode cX0_pass 1 = .ok (.iconst 1, 1) := by decide +kernel
theorem dX0_pass_2 : decode cX0_pass 2 = .ok (.if_icmp .lt 9, 3) := by decide +kernel
theorem dX0_pass_5 : decode cX0_pass 5 = .ok (.iload_n 1, 1) := by decide +kernel
theorem dX0_pass_6 : decode cX0_pass 6 = .ok (.bipush 60, 2) := by decide +kernel
theorem dX0_pass_8 : decode cX0_pass 8 = .ok (.if_icmp .le 13, 3) := by decide +kernel
theorem dX0_pass_11 : decode cX0_pass 11 = .ok (.new 51, 3) := by decide +kernel
theorem dX0_pass_14 : decode cX0_pass 14 = .ok (.dup, 1) := by decide +kernel
theorem dX0_pass_15 : decode cX0_pass 15 = .ok (.ldc 96, 2) := by decide +kernel
theorem dX0_pass_17 : decode cX0_pass 17 = .ok (.invokespecial 55, 3) := by decide +kernel
theorem dX0_pass_20 : decode cX0_pass 20 = .ok (.athrow, 1) := by decide +kernel
theorem dX0_pass_21 : decode cX0_pass 21 = .ok (.aload_n 0, 1) := by decide +kernel
theorem dX0_pass_22 : decode cX0_pass 22 = .ok (.getfield 32, 3) := by decide +kernel
theorem dX0_pass_25 : decode cX0_pass 25 = .ok (.istore_n 2, 1) := by decide +kernel
theorem dX0_pass_26 : decode cX0_pass 26 = .ok (.iconst 0, 1) := by decide +kernel
theorem dX0_pass_27 : decode cX0_pass 27 = .ok (.istore_n 3, 1) := by decide +kernel
theorem dX0_pass_28 : decode cX0_pass 28 = .ok (.iload_n 3, 1) := by decide +kernel
theorem dX0_pass_29 : decode cX0_pass 29 = .ok (.iload_n 1, 1) := by decide +kernel
theorem dX0_pass_30 : decode cX0_pass 30 = .ok (.if_icmp .ge 13, 3) := by decide +kernel
theorem dX0_pass_33 : decode cX0_pass 33 = .ok (.aload_n 0, 1) := by decide +kernel
theorem dX0_pass_34 : decode cX0_pass 34 = .ok (.invokevirtual 98, 3) := by decide +kernel
theorem dX0_pass_37 : decode cX0_pass 37 = .ok (.iinc 3 1, 3) := by decide +kernel
theorem dX0_pass_40 : decode cX0_pass 40 = .ok (.goto (-12), 3) := by decide +kernel
theorem dX0_pass_43 : decode cX0_pass 43 = .ok (.aload_n 0, 1) := by decide +kernel
theorem dX0_pass_44 : decode cX0_pass 44 = .ok (.getfield 32, 3) := by decide +kernel
theorem dX0_pass_47 : decode cX0_pass 47 = .ok (.iload_n 2, 1) := by decide +kernel
theorem dX0_pass_48 : decode cX0_pass 48 = .ok (.isub, 1) := by decide +kernel
theorem dX0_pass_49 : decode cX0_pass 49 = .ok (.ireturn, 1) := by decide +kernel
theorem dX0_strangers_0 : decode cX0_strangers 0 = .ok (.aload_n 0, 1) := by decide +kernel
theorem dX0_strangers_1 : decode cX0_strangers 1 = .ok (.getfield 22, 3) := by decide +kernel
theorem dX0_strangers_4 : decode cX0_strangers 4 = .ok (.ireturn, 1) := by decide +kernel
theorem dX0_hour_0 : decode cX0_hour 0 = .ok (.aload_n 0, 1) := by decide +kernel
theorem dX0_hour_1 : decode cX0_hour 1 = .ok (.getfield 26, 3) := by decide +kernel
theorem dX0_hour_4 : decode cX0_hour 4 = .ok (.ireturn, 1) := by decide +kernel
theorem dX0_store_0 : decode cX0_store 0 = .ok (.aload_n 0, 1) := by decide +kernel
theorem dX0_store_1 : decode cX0_store 1 = .ok (.getfield 29, 3) := by decide +kernel
theorem dX0_store_4 : decode cX0_store 4 = .ok (.ireturn, 1) := by decide +kernel
theorem dX0_counted_0 : decode cX0_counted 0 = .ok (.aload_n 0, 1) := by decide +kernel
theorem dX0_counted_1 : decode cX0_counted 1 = .ok (.getfield 32, 3) := by decide +kernel
theorem dX0_counted_4 : decode cX0_counted 4 = .ok (.ireturn, 1) := by decide +kernel
theorem dX0_spent_0 : decode cX0_spent 0 = .ok (.aload_n 0, 1) := by decide +kernel
theorem dX0_spent_1 : decode cX0_spent 1 = .ok (.getfield 35, 3) := by decide +kernel
theorem dX0_spent_4 : decode cX0_spent 4 = .ok (.ireturn, 1) := by decide +kernel
set_option maxRecDepth 20000 in
theorem ggX0_ticketOf_X0_requireStranger : GoodIn wsX0_ticketOf wsX0_requireStranger := goodIn_ca (goodIn_r _ [6, 7, 8, 9, 10, 11, 12, 13, 14, 15, 16, 17, 18] (by decide +kernel) (by decide +kernel)) (goodIn_sub (fun _ h => List.mem_cons_of_mem _ (List.mem_append_right _ h)) (by decide +kernel))
set_option maxRecDepth 20000 in
theorem gX0_ticketOf_X0_requireStranger : GoodIn wsX0_ticketOf (wsV RX0 63 RX0 yX0_requireStranger wsX0_requireStranger) := goodIn_app (goodIn_of _ (by decide +kernel)) ggX0_ticketOf_X0_requireStranger
theorem dX0_ticketOf_0 : decode cX0_ticketOf 0 = .ok (.aload_n 0, 1) := by decide +kernel
theorem dX0_ticketOf_1 : decode cX0_ticketOf 1 = .ok (.iload_n 1, 1) := by decide +kernel
theorem dX0_ticketOf_2 : decode cX0_ticketOf 2 = .ok (.invokevirtual 63, 3) := by decide +kernel
theorem dX0_ticketOf_5 : decode cX0_ticketOf 5 = .ok (.aload_n 0, 1) := by decide +kernel
theorem dX0_ticketOf_6 : decode cX0_ticketOf 6 = .ok (.getfield 9, 3) := by decide +kernel
theorem dX0_ticketOf_9 : decode cX0_ticketOf 9 = .ok (.iload_n 1, 1) := by decide +kernel
theorem dX0_ticketOf_10 : decode cX0_ticketOf 10 = .ok (.iaload, 1) := by decide +kernel
theorem dX0_ticketOf_11 : decode cX0_ticketOf 11 = .ok (.ireturn, 1) := by decide +kernel
set_option maxRecDepth 20000 in
theorem ggX0_colourOf_X0_requireStranger : GoodIn wsX0_colourOf wsX0_requireStranger := goodIn_ca (goodIn_r _ [6, 7, 8, 9, 10, 11, 12, 13, 14, 15, 16, 17, 18] (by decide +kernel) (by decide +kernel)) (goodIn_sub (fun _ h => List.mem_cons_of_mem _ (List.mem_append_right _ h)) (by decide +kernel))
set_option maxRecDepth 20000 in
theorem gX0_colourOf_X0_requireStranger : GoodIn wsX0_colourOf (wsV RX0 63 RX0 yX0_requireStranger wsX0_requireStranger) := goodIn_app (goodIn_of _ (by decide +kernel)) ggX0_colourOf_X0_requireStranger
theorem dX0_colourOf_0 : decode cX0_colourOf 0 = .ok (.aload_n 0, 1) := by decide +kernel
theorem dX0_colourOf_1 : decode cX0_colourOf 1 = .ok (.iload_n 1, 1) := by decide +kernel
theorem dX0_colourOf_2 : decode cX0_colourOf 2 = .ok (.invokevirtual 63, 3) := by decide +kernel
theorem dX0_colourOf_5 : decode cX0_colourOf 5 = .ok (.aload_n 0, 1) := by decide +kernel
theorem dX0_colourOf_6 : decode cX0_colourOf 6 = .ok (.getfield 13, 3) := by decide +kernel
theorem dX0_colourOf_9 : decode cX0_colourOf 9 = .ok (.iload_n 1, 1) := by decide +kernel
theorem dX0_colourOf_10 : decode cX0_colourOf 10 = .ok (.iaload, 1) := by decide +kernel
theorem dX0_colourOf_11 : decode cX0_colourOf 11 = .ok (.ireturn, 1) := by decide +kernel
set_option maxRecDepth 20000 in
theorem ggX0_cornerOf_X0_requireStranger : GoodIn wsX0_cornerOf wsX0_requireStranger := goodIn_ca (goodIn_r _ [6, 7, 8, 9, 10, 11, 12, 13, 14, 15, 16, 17, 18] (by decide +kernel) (by decide +kernel)) (goodIn_sub (fun _ h => List.mem_cons_of_mem _ (List.mem_append_right _ h)) (by decide +kernel))
set_option maxRecDepth 20000 in
theorem gX0_cornerOf_X0_requireStranger : GoodIn wsX0_cornerOf (wsV RX0 63 RX0 yX0_requireStranger wsX0_requireStranger) := goodIn_app (goodIn_of _ (by decide +kernel)) ggX0_cornerOf_X0_requireStranger
theorem dX0_cornerOf_0 : decode cX0_cornerOf 0 = .ok (.aload_n 0, 1) := by decide +kernel
theorem dX0_cornerOf_1 : decode cX0_cornerOf 1 = .ok (.iload_n 1, 1) := by decide +kernel
theorem dX0_cornerOf_2 : decode cX0_cornerOf 2 = .ok (.invokevirtual 63, 3) := by decide +kernel
theorem dX0_cornerOf_5 : decode cX0_cornerOf 5 = .ok (.aload_n 0, 1) := by decide +kernel
theorem dX0_cornerOf_6 : decode cX0_cornerOf 6 = .ok (.getfield 16, 3) := by decide +kernel
theorem dX0_cornerOf_9 : decode cX0_cornerOf 9 = .ok (.iload_n 1, 1) := by decide +kernel
theorem dX0_cornerOf_10 : decode cX0_cornerOf 10 = .ok (.iaload, 1) := by decide +kernel
theorem dX0_cornerOf_11 : decode cX0_cornerOf 11 = .ok (.ireturn, 1) := by decide +kernel
set_option maxRecDepth 20000 in
theorem ggX0_walkOf_X0_requireStranger : GoodIn wsX0_walkOf wsX0_requireStranger := goodIn_ca (goodIn_r _ [6, 7, 8, 9, 10, 11, 12, 13, 14, 15, 16, 17, 18] (by decide +kernel) (by decide +kernel)) (goodIn_sub (fun _ h => List.mem_cons_of_mem _ (List.mem_append_right _ h)) (by decide +kernel))
set_option maxRecDepth 20000 in
theorem gX0_walkOf_X0_requireStranger : GoodIn wsX0_walkOf (wsV RX0 63 RX0 yX0_requireStranger wsX0_requireStranger) := goodIn_app (goodIn_of _ (by decide +kernel)) ggX0_walkOf_X0_requireStranger
theorem dX0_walkOf_0 : decode cX0_walkOf 0 = .ok (.aload_n 0, 1) := by decide +kernel
theorem dX0_walkOf_1 : decode cX0_walkOf 1 = .ok (.iload_n 1, 1) := by decide +kernel
theorem dX0_walkOf_2 : decode cX0_walkOf 2 = .ok (.invokevirtual 63, 3) := by decide +kernel
theorem dX0_walkOf_5 : decode cX0_walkOf 5 = .ok (.aload_n 0, 1) := by decide +kernel
theorem dX0_walkOf_6 : decode cX0_walkOf 6 = .ok (.getfield 19, 3) := by decide +kernel
theorem dX0_walkOf_9 : decode cX0_walkOf 9 = .ok (.iload_n 1, 1) := by decide +kernel
theorem dX0_walkOf_10 : decode cX0_walkOf 10 = .ok (.iaload, 1) := by decide +kernel
theorem dX0_walkOf_11 : decode cX0_walkOf 11 = .ok (.ireturn, 1) := by decide +kernel
set_option maxRecDepth 20000 in
theorem ggX0_peopleAt_X0_requireCorner : GoodIn wsX0_peopleAt wsX0_requireCorner := goodIn_ca (goodIn_r _ [4, 5, 6, 7, 8, 3, 9] (by decide +kernel) (by decide +kernel)) (goodIn_sub (fun _ h => List.mem_cons_of_mem _ (List.mem_append_right _ h)) (by decide +kernel))
set_option maxRecDepth 20000 in
theorem gX0_peopleAt_X0_requireCorner : GoodIn wsX0_peopleAt (va_wsS RX0 101 yX0_requireCorner wsX0_requireCorner) := goodIn_app (goodIn_of _ (by decide +kernel)) ggX0_peopleAt_X0_requireCorner
set_option maxRecDepth 20000 in
theorem ggX0_peopleAt_X0_crowdAt : GoodIn wsX0_peopleAt wsX0_crowdAt := goodIn_r _ [13, 14, 15, 16, 17, 18, 19, 20, 21, 22, 23, 24] (by decide +kernel) (by decide +kernel)
set_option maxRecDepth 20000 in
theorem gX0_peopleAt_X0_crowdAt : GoodIn wsX0_peopleAt (wsV RX0 104 RX0 yX0_crowdAt wsX0_crowdAt) := goodIn_app (goodIn_of _ (by decide +kernel)) ggX0_peopleAt_X0_crowdAt
theorem dX0_peopleAt_0 : decode cX0_peopleAt 0 = .ok (.iload_n 1, 1) := by decide +kernel
theorem dX0_peopleAt_1 : decode cX0_peopleAt 1 = .ok (.invokestatic 101, 3) := by decide +kernel
theorem dX0_peopleAt_4 : decode cX0_peopleAt 4 = .ok (.aload_n 0, 1) := by decide +kernel
theorem dX0_peopleAt_5 : decode cX0_peopleAt 5 = .ok (.iload_n 1, 1) := by decide +kernel
theorem dX0_peopleAt_6 : decode cX0_peopleAt 6 = .ok (.invokevirtual 104, 3) := by decide +kernel
theorem dX0_peopleAt_9 : decode cX0_peopleAt 9 = .ok (.ireturn, 1) := by decide +kernel
set_option maxRecDepth 20000 in
theorem ggX0_pointsOf_X0_requirePair : GoodIn wsX0_pointsOf wsX0_requirePair := goodIn_ca (goodIn_ca (goodIn_r _ [5, 6, 7, 8, 9, 10, 4, 11, 12, 13, 14, 37, 38, 39, 40, 41, 42, 43, 44, 45] (by decide +kernel) (by decide +kernel)) (goodIn_sub (fun _ h => List.mem_cons_of_mem _ (List.mem_append_left _ (List.mem_append_right _ h))) (by decide +kernel))) (goodIn_sub (fun _ h => List.mem_cons_of_mem _ (List.mem_append_right _ h)) (by decide +kernel))
set_option maxRecDepth 20000 in
theorem gX0_pointsOf_X0_requirePair : GoodIn wsX0_pointsOf (wsV RX0 80 RX0 yX0_requirePair wsX0_requirePair) := goodIn_app (goodIn_of _ (by decide +kernel)) ggX0_pointsOf_X0_requirePair
set_option maxRecDepth 20000 in
theorem ggX0_pointsOf_X0_pointsOfPair : GoodIn wsX0_pointsOf wsX0_pointsOfPair := goodIn_r _ [18, 19, 20, 21, 22, 4, 23, 24, 25, 26, 27, 28, 29, 30, 31, 32, 33, 34, 35, 36, 37, 38, 39, 40, 41, 42, 43, 44, 45] (by decide +kernel) (by decide +kernel)
set_option maxRecDepth 20000 in
theorem gX0_pointsOf_X0_pointsOfPair : GoodIn wsX0_pointsOf (wsV RX0 107 RX0 yX0_pointsOfPair wsX0_pointsOfPair) := goodIn_app (goodIn_of _ (by decide +kernel)) ggX0_pointsOf_X0_pointsOfPair
theorem dX0_pointsOf_0 : decode cX0_pointsOf 0 = .ok (.aload_n 0, 1) := by decide +kernel
theorem dX0_pointsOf_1 : decode cX0_pointsOf 1 = .ok (.iload_n 1, 1) := by decide +kernel
theorem dX0_pointsOf_2 : decode cX0_pointsOf 2 = .ok (.iload_n 2, 1) := by decide +kernel
theorem dX0_pointsOf_3 : decode cX0_pointsOf 3 = .ok (.invokevirtual 80, 3) := by decide +kernel
theorem dX0_pointsOf_6 : decode cX0_pointsOf 6 = .ok (.aload_n 0, 1) := by decide +kernel
theorem dX0_pointsOf_7 : decode cX0_pointsOf 7 = .ok (.iload_n 1, 1) := by decide +kernel
theorem dX0_pointsOf_8 : decode cX0_pointsOf 8 = .ok (.iload_n 2, 1) := by decide +kernel
theorem dX0_pointsOf_9 : decode cX0_pointsOf 9 = .ok (.invokevirtual 107, 3) := by decide +kernel
theorem dX0_pointsOf_12 : decode cX0_pointsOf 12 = .ok (.ireturn, 1) := by decide +kernel
set_option maxRecDepth 20000 in
theorem ggX0_areTogether_X0_requirePair : GoodIn wsX0_areTogether wsX0_requirePair := goodIn_ca (goodIn_ca (goodIn_r _ [6, 7, 8, 9, 10, 11, 5, 12, 13, 14, 15, 16, 17, 18, 19, 20, 21, 22, 23, 24] (by decide +kernel) (by decide +kernel)) (goodIn_sub (fun _ h => List.mem_cons_of_mem _ (List.mem_append_left _ (List.mem_append_right _ h))) (by decide +kernel))) (goodIn_sub (fun _ h => List.mem_cons_of_mem _ (List.mem_append_right _ h)) (by decide +kernel))
set_option maxRecDepth 20000 in
theorem gX0_areTogether_X0_requirePair : GoodIn wsX0_areTogether (wsV RX0 80 RX0 yX0_requirePair wsX0_requirePair) := goodIn_app (goodIn_of _ (by decide +kernel)) ggX0_areTogether_X0_requirePair
theorem dX0_areTogether_0 : decode cX0_areTogether 0 = .ok (.aload_n 0, 1) := by decide +kernel
theorem dX0_areTogether_1 : decode cX0_areTogether 1 = .ok (.iload_n 1, 1) := by decide +kernel
theorem dX0_areTogether_2 : decode cX0_areTogether 2 = .ok (.iload_n 2, 1) := by decide +kernel
theorem dX0_areTogether_3 : decode cX0_areTogether 3 = .ok (.invokevirtual 80, 3) := by decide +kernel
theorem dX0_areTogether_6 : decode cX0_areTogether 6 = .ok (.aload_n 0, 1) := by decide +kernel
theorem dX0_areTogether_7 : decode cX0_areTogether 7 = .ok (.getfield 16, 3) := by decide +kernel
theorem dX0_areTogether_10 : decode cX0_areTogether 10 = .ok (.iload_n 1, 1) := by decide +kernel
theorem dX0_areTogether_11 : decode cX0_areTogether 11 = .ok (.iaload, 1) := by decide +kernel
theorem dX0_areTogether_12 : decode cX0_areTogether 12 = .ok (.aload_n 0, 1) := by decide +kernel
theorem dX0_areTogether_13 : decode cX0_areTogether 13 = .ok (.getfield 16, 3) := by decide +kernel
theorem dX0_areTogether_16 : decode cX0_areTogether 16 = .ok (.iload_n 2, 1) := by decide +kernel
theorem dX0_areTogether_17 : decode cX0_areTogether 17 = .ok (.iaload, 1) := by decide +kernel
theorem dX0_areTogether_18 : decode cX0_areTogether 18 = .ok (.if_icmp .ne 7, 3) := by decide +kernel
theorem dX0_areTogether_21 : decode cX0_areTogether 21 = .ok (.iconst 1, 1) := by decide +kernel
theorem dX0_areTogether_22 : decode cX0_areTogether 22 = .ok (.goto 4, 3) := by decide +kernel
theorem dX0_areTogether_25 : decode cX0_areTogether 25 = .ok (.iconst 0, 1) := by decide +kernel
theorem dX0_areTogether_26 : decode cX0_areTogether 26 = .ok (.ireturn, 1) := by decide +kernel
set_option maxRecDepth 20000 in
theorem ggX0_areMirrored_X0_requirePair : GoodIn wsX0_areMirrored wsX0_requirePair := goodIn_ca (goodIn_ca (goodIn_r _ [6, 7, 8, 9, 10, 11, 5, 12, 13, 14, 15, 19, 20, 21, 22, 23, 24, 25, 26, 27] (by decide +kernel) (by decide +kernel)) (goodIn_sub (fun _ h => List.mem_cons_of_mem _ (List.mem_append_left _ (List.mem_append_right _ h))) (by decide +kernel))) (goodIn_sub (fun _ h => List.mem_cons_of_mem _ (List.mem_append_right _ h)) (by decide +kernel))
set_option maxRecDepth 20000 in
theorem gX0_areMirrored_X0_requirePair : GoodIn wsX0_areMirrored (wsV RX0 80 RX0 yX0_requirePair wsX0_requirePair) := goodIn_app (goodIn_of _ (by decide +kernel)) ggX0_areMirrored_X0_requirePair
set_option maxRecDepth 20000 in
theorem ggX0_areMirrored_X0_mirrored : GoodIn wsX0_areMirrored wsX0_mirrored := goodIn_r _ [18] (by decide +kernel) (by decide +kernel)
set_option maxRecDepth 20000 in
theorem gX0_areMirrored_X0_mirrored : GoodIn wsX0_areMirrored (va_wsS RX0 110 yX0_mirrored wsX0_mirrored) := goodIn_app (goodIn_of _ (by decide +kernel)) ggX0_areMirrored_X0_mirrored
theorem dX0_areMirrored_0 : decode cX0_areMirrored 0 = .ok (.aload_n 0, 1) := by decide +kernel
theorem dX0_areMirrored_1 : decode cX0_areMirrored 1 = .ok (.iload_n 1, 1) := by decide +kernel
theorem dX0_areMirrored_2 : decode cX0_areMirrored 2 = .ok (.iload_n 2, 1) := by decide +kernel
theorem dX0_areMirrored_3 : decode cX0_areMirrored 3 = .ok (.invokevirtual 80, 3) := by decide +kernel
theorem dX0_areMirrored_6 : decode cX0_areMirrored 6 = .ok (.aload_n 0, 1) := by decide +kernel
theorem dX0_areMirrored_7 : decode cX0_areMirrored 7 = .ok (.getfield 9, 3) := by decide +kernel
theorem dX0_areMirrored_10 : decode cX0_areMirrored 10 = .ok (.iload_n 1, 1) := by decide +kernel
theorem dX0_areMirrored_11 : decode cX0_areMirrored 11 = .ok (.iaload, 1) := by decide +kernel
theorem dX0_areMirrored_12 : decode cX0_areMirrored 12 = .ok (.aload_n 0, 1) := by decide +kernel
theorem dX0_areMirrored_13 : decode cX0_areMirrored 13 = .ok (.getfield 9, 3) := by decide +kernel
theorem dX0_areMirrored_16 : decode cX0_areMirrored 16 = .ok (.iload_n 2, 1) := by decide +kernel
theorem dX0_areMirrored_17 : decode cX0_areMirrored 17 = .ok (.iaload, 1) := by decide +kernel
theorem dX0_areMirrored_18 : decode cX0_areMirrored 18 = .ok (.invokestatic 110, 3) := by decide +kernel
theorem dX0_areMirrored_21 : decode cX0_areMirrored 21 = .ok (.ireturn, 1) := by decide +kernel
set_option maxRecDepth 20000 in
theorem ggX0_coincidences_X0_townBehind : GoodIn wsX0_coincidences wsX0_townBehind := goodIn_r _ [5, 6, 7, 8, 9, 4, 10, 11, 12, 13, 14, 15, 16, 17, 18, 19, 20, 21, 22, 23, 24, 25, 26, 27, 28, 29, 30, 31, 32, 33, 34, 35, 36, 37, 38, 39, 40, 41, 42, 43] (by decide +kernel) (by decide +kernel)
set_option maxRecDepth 20000 in
theorem gX0_coincidences_X0_townBehind : GoodIn wsX0_coincidences (wsV RX0 86 RX0 yX0_townBehind wsX0_townBehind) := goodIn_app (goodIn_of _ (by decide +kernel)) ggX0_coincidences_X0_townBehind
theorem dX0_coincidences_0 : decode cX0_coincidences 0 = .ok (.aload_n 0, 1) := by decide +kernel
theorem dX0_coincidences_1 : decode cX0_coincidences 1 = .ok (.iconst 0, 1) := by decide +kernel
theorem dX0_coincidences_2 : decode cX0_coincidences 2 = .ok (.invokevirtual 86, 3) := by decide +kernel
theorem dX0_coincidences_5 : decode cX0_coincidences 5 = .ok (.ireturn, 1) := by decide +kernel
set_option maxRecDepth 20000 in
theorem ggX0_coincidencesAt_X0_requireCorner : GoodIn wsX0_coincidencesAt wsX0_requireCorner := goodIn_ca (goodIn_r _ [6, 7, 8, 9, 10, 5, 11] (by decide +kernel) (by decide +kernel)) (goodIn_sub (fun _ h => List.mem_cons_of_mem _ (List.mem_append_right _ h)) (by decide +kernel))
set_option maxRecDepth 20000 in
theorem gX0_coincidencesAt_X0_requireCorner : GoodIn wsX0_coincidencesAt (va_wsS RX0 101 yX0_requireCorner wsX0_requireCorner) := goodIn_app (goodIn_of _ (by decide +kernel)) ggX0_coincidencesAt_X0_requireCorner
set_option maxRecDepth 20000 in
theorem ggX0_coincidencesAt_X0_pointsOfPair : GoodIn wsX0_coincidencesAt wsX0_pointsOfPair := goodIn_r _ [15, 16, 17, 18, 19, 5, 20, 21, 22, 23, 24, 25, 26, 27, 28, 29, 30, 31, 32, 33, 34, 35, 36, 37, 38, 39, 40, 41, 42] (by decide +kernel) (by decide +kernel)
set_option maxRecDepth 20000 in
theorem gX0_coincidencesAt_X0_pointsOfPair : GoodIn wsX0_coincidencesAt (wsV RX0 107 RX0 yX0_pointsOfPair wsX0_pointsOfPair) := goodIn_app (goodIn_of _ (by decide +kernel)) ggX0_coincidencesAt_X0_pointsOfPair
theorem dX0_coincidencesAt_0 : decode cX0_coincidencesAt 0 = .ok (.iload_n 1, 1) := by decide +kernel
theorem dX0_coincidencesAt_1 : decode cX0_coincidencesAt 1 = .ok (.invokestatic 101, 3) := by decide +kernel
theorem dX0_coincidencesAt_4 : decode cX0_coincidencesAt 4 = .ok (.iconst 0, 1) := by decide +kernel
theorem dX0_coincidencesAt_5 : decode cX0_coincidencesAt 5 = .ok (.istore_n 2, 1) := by decide +kernel
theorem dX0_coincidencesAt_6 : decode cX0_coincidencesAt 6 = .ok (.iconst 0, 1) := by decide +kernel
theorem dX0_coincidencesAt_7 : decode cX0_coincidencesAt 7 = .ok (.istore_n 3, 1) := by decide +kernel
theorem dX0_coincidencesAt_8 : decode cX0_coincidencesAt 8 = .ok (.iload_n 3, 1) := by decide +kernel
theorem dX0_coincidencesAt_9 : decode cX0_coincidencesAt 9 = .ok (.aload_n 0, 1) := by decide +kernel
theorem dX0_coincidencesAt_10 : decode cX0_coincidencesAt 10 = .ok (.getfield 22, 3) := by decide +kernel
theorem dX0_coincidencesAt_13 : decode cX0_coincidencesAt 13 = .ok (.if_icmp .ge 60, 3) := by decide +kernel
theorem dX0_coincidencesAt_16 : decode cX0_coincidencesAt 16 = .ok (.iload_n 3, 1) := by decide +kernel
theorem dX0_coincidencesAt_17 : decode cX0_coincidencesAt 17 = .ok (.iconst 1, 1) := by decide +kernel
theorem dX0_coincidencesAt_18 : decode cX0_coincidencesAt 18 = .ok (.iadd, 1) := by decide +kernel
theorem dX0_coincidencesAt_19 : decode cX0_coincidencesAt 19 = .ok (.istore 4, 2) := by decide +kernel
theorem dX0_coincidencesAt_21 : decode cX0_coincidencesAt 21 = .ok (.iload 4, 2) := by decide +kernel
theorem dX0_coincidencesAt_23 : decode cX0_coincidencesAt 23 = .ok (.aload_n 0, 1) := by decide +kernel
theorem dX0_coincidencesAt_24 : decode cX0_coincidencesAt 24 = .ok (.getfield 22, 3) := by decide +kernel
theorem dX0_coincidencesAt_27 : decode cX0_coincidencesAt 27 = .ok (.if_icmp .ge 40, 3) := by decide +kernel
theorem dX0_coincidencesAt_30 : decode cX0_coincidencesAt 30 = .ok (.aload_n 0, 1) := by decide +kernel
theorem dX0_coincidencesAt_31 : decode cX0_coincidencesAt 31 = .ok (.getfield 16, 3) := by decide +kernel
theorem dX0_coincidencesAt_34 : decode cX0_coincidencesAt 34 = .ok (.iload_n 3, 1) := by decide +kernel
theorem dX0_coincidencesAt_35 : decode cX0_coincidencesAt 35 = .ok (.iaload, 1) := by decide +kernel
theorem dX0_coincidencesAt_36 : decode cX0_coincidencesAt 36 = .ok (.iload_n 1, 1) := by decide +kernel
theorem dX0_coincidencesAt_37 : decode cX0_coincidencesAt 37 = .ok (.if_icmp .ne 24, 3) := by decide +kernel
theorem dX0_coincidencesAt_40 : decode cX0_coincidencesAt 40 = .ok (.aload_n 0, 1) := by decide +kernel
theorem dX0_coincidencesAt_41 : decode cX0_coincidencesAt 41 = .ok (.getfield 16, 3) := by decide +kernel
theorem dX0_coincidencesAt_44 : decode cX0_coincidencesAt 44 = .ok (.iload 4, 2) := by decide +kernel
theorem dX0_coincidencesAt_46 : decode cX0_coincidencesAt 46 = .ok (.iaload, 1) := by decide +kernel
theorem dX0_coincidencesAt_47 : decode cX0_coincidencesAt 47 = .ok (.iload_n 1, 1) := by decide +kernel
theorem dX0_coincidencesAt_48 : decode cX0_coincidencesAt 48 = .ok (.if_icmp .ne 13, 3) := by decide +kernel
theorem dX0_coincidencesAt_51 : decode cX0_coincidencesAt 51 = .ok (.iload_n 2, 1) := by decide +kernel
theorem dX0_coincidencesAt_52 : decode cX0_coincidencesAt 52 = .ok (.aload_n 0, 1) := by decide +kernel
theorem dX0_coincidencesAt_53 : decode cX0_coincidencesAt 53 = .ok (.iload_n 3, 1) := by decide +kernel
theorem dX0_coincidencesAt_54 : decode cX0_coincidencesAt 54 = .ok (.iload 4, 2) := by decide +kernel
theorem dX0_coincidencesAt_56 : decode cX0_coincidencesAt 56 = .ok (.invokevirtual 107, 3) := by decide +kernel
theorem dX0_coincidencesAt_59 : decode cX0_coincidencesAt 59 = .ok (.iadd, 1) := by decide +kernel
theorem dX0_coincidencesAt_60 : decode cX0_coincidencesAt 60 = .ok (.istore_n 2, 1) := by decide +kernel
theorem dX0_coincidencesAt_61 : decode cX0_coincidencesAt 61 = .ok (.iinc 4 1, 3) := by decide +kernel
theorem dX0_coincidencesAt_64 : decode cX0_coincidencesAt 64 = .ok (.goto (-43), 3) := by decide +kernel
theorem dX0_coincidencesAt_67 : decode cX0_coincidencesAt 67 = .ok (.iinc 3 1, 3) := by decide +kernel
theorem dX0_coincidencesAt_70 : decode cX0_coincidencesAt 70 = .ok (.goto (-62), 3) := by decide +kernel
theorem dX0_coincidencesAt_73 : decode cX0_coincidencesAt 73 = .ok (.iload_n 2, 1) := by decide +kernel
theorem dX0_coincidencesAt_74 : decode cX0_coincidencesAt 74 = .ok (.ireturn, 1) := by decide +kernel
set_option maxRecDepth 20000 in
theorem ggX0_luckOf_X0_requireStranger : GoodIn wsX0_luckOf wsX0_requireStranger := goodIn_ca (goodIn_r _ [5, 6, 7, 8, 36, 37, 38, 39, 40, 41, 42, 43, 44] (by decide +kernel) (by decide +kernel)) (goodIn_sub (fun _ h => List.mem_cons_of_mem _ (List.mem_append_right _ h)) (by decide +kernel))
set_option maxRecDepth 20000 in
theorem gX0_luckOf_X0_requireStranger : GoodIn wsX0_luckOf (wsV RX0 63 RX0 yX0_requireStranger wsX0_requireStranger) := goodIn_app (goodIn_of _ (by decide +kernel)) ggX0_luckOf_X0_requireStranger
set_option maxRecDepth 20000 in
theorem ggX0_luckOf_X0_luckNow : GoodIn wsX0_luckOf wsX0_luckNow := goodIn_r _ [12, 13, 14, 15, 16, 17, 4, 18, 8, 19, 20, 21, 22, 23, 24, 25, 26, 27, 28, 29, 30, 31, 32, 33, 34, 35, 36, 37, 38, 39, 40, 41, 42, 43, 44] (by decide +kernel) (by decide +kernel)
set_option maxRecDepth 20000 in
theorem gX0_luckOf_X0_luckNow : GoodIn wsX0_luckOf (wsV RX0 114 RX0 yX0_luckNow wsX0_luckNow) := goodIn_app (goodIn_of _ (by decide +kernel)) ggX0_luckOf_X0_luckNow
theorem dX0_luckOf_0 : decode cX0_luckOf 0 = .ok (.aload_n 0, 1) := by decide +kernel
theorem dX0_luckOf_1 : decode cX0_luckOf 1 = .ok (.iload_n 1, 1) := by decide +kernel
theorem dX0_luckOf_2 : decode cX0_luckOf 2 = .ok (.invokevirtual 63, 3) := by decide +kernel
theorem dX0_luckOf_5 : decode cX0_luckOf 5 = .ok (.aload_n 0, 1) := by decide +kernel
theorem dX0_luckOf_6 : decode cX0_luckOf 6 = .ok (.iload_n 1, 1) := by decide +kernel
theorem dX0_luckOf_7 : decode cX0_luckOf 7 = .ok (.invokevirtual 114, 3) := by decide +kernel
theorem dX0_luckOf_10 : decode cX0_luckOf 10 = .ok (.ireturn, 1) := by decide +kernel
set_option maxRecDepth 20000 in
theorem ggX0_luckiestPair_X0_pointsOfPair : GoodIn wsX0_luckiestPair wsX0_pointsOfPair := goodIn_r _ [6, 7, 8, 9, 10, 5, 11, 12, 13, 14, 15, 16, 17, 18, 19, 20, 21, 22, 23, 24, 25, 26, 27, 28, 29, 30, 31, 32, 33] (by decide +kernel) (by decide +kernel)
set_option maxRecDepth 20000 in
theorem gX0_luckiestPair_X0_pointsOfPair : GoodIn wsX0_luckiestPair (wsV RX0 107 RX0 yX0_pointsOfPair wsX0_pointsOfPair) := goodIn_app (goodIn_of _ (by decide +kernel)) ggX0_luckiestPair_X0_pointsOfPair
theorem dX0_luckiestPair_0 : decode cX0_luckiestPair 0 = .ok (.iconst (-1), 1) := by decide +kernel
theorem dX0_luckiestPair_1 : decode cX0_luckiestPair 1 = .ok (.istore_n 1, 1) := by decide +kernel
theorem dX0_luckiestPair_2 : decode cX0_luckiestPair 2 = .ok (.iconst (-1), 1) := by decide +kernel
theorem dX0_luckiestPair_3 : decode cX0_luckiestPair 3 = .ok (.istore_n 2, 1) := by decide +kernel
theorem dX0_luckiestPair_4 : decode cX0_luckiestPair 4 = .ok (.iconst 0, 1) := by decide +kernel
theorem dX0_luckiestPair_5 : decode cX0_luckiestPair 5 = .ok (.istore_n 3, 1) := by decide +kernel
theorem dX0_luckiestPair_6 : decode cX0_luckiestPair 6 = .ok (.iload_n 3, 1) := by decide +kernel
theorem dX0_luckiestPair_7 : decode cX0_luckiestPair 7 = .ok (.aload_n 0, 1) := by decide +kernel
theorem dX0_luckiestPair_8 : decode cX0_luckiestPair 8 = .ok (.getfield 22, 3) := by decide +kernel
theorem dX0_luckiestPair_11 : decode cX0_luckiestPair 11 = .ok (.if_icmp .ge 55, 3) := by decide +kernel
theorem dX0_luckiestPair_14 : decode cX0_luckiestPair 14 = .ok (.iload_n 3, 1) := by decide +kernel
theorem dX0_luckiestPair_15 : decode cX0_luckiestPair 15 = .ok (.iconst 1, 1) := by decide +kernel
theorem dX0_luckiestPair_16 : decode cX0_luckiestPair 16 = .ok (.iadd, 1) := by decide +kernel
theorem dX0_luckiestPair_17 : decode cX0_luckiestPair 17 = .ok (.istore 4, 2) := by decide +kernel
theorem dX0_luckiestPair_19 : decode cX0_luckiestPair 19 = .ok (.iload 4, 2) := by decide +kernel
theorem dX0_luckiestPair_21 : decode cX0_luckiestPair 21 = .ok (.aload_n 0, 1) := by decide +kernel
theorem dX0_luckiestPair_22 : decode cX0_luckiestPair 22 = .ok (.getfield 22, 3) := by decide +kernel
theorem dX0_luckiestPair_25 : decode cX0_luckiestPair 25 = .ok (.if_icmp .ge 35, 3) := by decide +kernel
theorem dX0_luckiestPair_28 : decode cX0_luckiestPair 28 = .ok (.aload_n 0, 1) := by decide +kernel
theorem dX0_luckiestPair_29 : decode cX0_luckiestPair 29 = .ok (.iload_n 3, 1) := by decide +kernel
theorem dX0_luckiestPair_30 : decode cX0_luckiestPair 30 = .ok (.iload 4, 2) := by decide +kernel
theorem dX0_luckiestPair_32 : decode cX0_luckiestPair 32 = .ok (.invokevirtual 107, 3) := by decide +kernel
theorem dX0_luckiestPair_35 : decode cX0_luckiestPair 35 = .ok (.istore 5, 2) := by decide +kernel
theorem dX0_luckiestPair_37 : decode cX0_luckiestPair 37 = .ok (.iload 5, 2) := by decide +kernel
theorem dX0_luckiestPair_39 : decode cX0_luckiestPair 39 = .ok (.iload_n 2, 1) := by decide +kernel
theorem dX0_luckiestPair_40 : decode cX0_luckiestPair 40 = .ok (.if_icmp .le 14, 3) := by decide +kernel
theorem dX0_luckiestPair_43 : decode cX0_luckiestPair 43 = .ok (.iload 5, 2) := by decide +kernel
theorem dX0_luckiestPair_45 : decode cX0_luckiestPair 45 = .ok (.istore_n 2, 1) := by decide +kernel
theorem dX0_luckiestPair_46 : decode cX0_luckiestPair 46 = .ok (.bipush 100, 2) := by decide +kernel
theorem dX0_luckiestPair_48 : decode cX0_luckiestPair 48 = .ok (.iload_n 3, 1) := by decide +kernel
theorem dX0_luckiestPair_49 : decode cX0_luckiestPair 49 = .ok (.imul, 1) := by decide +kernel
theorem dX0_luckiestPair_50 : decode cX0_luckiestPair 50 = .ok (.iload 4, 2) := by decide +kernel
theorem dX0_luckiestPair_52 : decode cX0_luckiestPair 52 = .ok (.iadd, 1) := by decide +kernel
theorem dX0_luckiestPair_53 : decode cX0_luckiestPair 53 = .ok (.istore_n 1, 1) := by decide +kernel
theorem dX0_luckiestPair_54 : decode cX0_luckiestPair 54 = .ok (.iinc 4 1, 3) := by decide +kernel
theorem dX0_luckiestPair_57 : decode cX0_luckiestPair 57 = .ok (.goto (-38), 3) := by decide +kernel
theorem dX0_luckiestPair_60 : decode cX0_luckiestPair 60 = .ok (.iinc 3 1, 3) := by decide +kernel
theorem dX0_luckiestPair_63 : decode cX0_luckiestPair 63 = .ok (.goto (-57), 3) := by decide +kernel
theorem dX0_luckiestPair_66 : decode cX0_luckiestPair 66 = .ok (.iload_n 1, 1) := by decide +kernel
theorem dX0_luckiestPair_67 : decode cX0_luckiestPair 67 = .ok (.ireturn, 1) := by decide +kernel
set_option maxRecDepth 20000 in
theorem ggX0_coincidencesIn_X0_townBehind : GoodIn wsX0_coincidencesIn wsX0_townBehind := goodIn_r _ [7, 8, 9, 10, 11, 6, 12, 13, 14, 15, 16, 17, 18, 19, 20, 21, 22, 23, 24, 25, 26, 27, 28, 29, 30, 31, 32, 33, 34, 35, 36, 37, 38, 39, 40, 41, 42, 43, 44, 45] (by decide +kernel) (by decide +kernel)
set_option maxRecDepth 20000 in
theorem gX0_coincidencesIn_X0_townBehind : GoodIn wsX0_coincidencesIn (wsV RX0 86 RX0 yX0_townBehind wsX0_townBehind) := goodIn_app (goodIn_of _ (by decide +kernel)) ggX0_coincidencesIn_X0_townBehind
theorem dX0_coincidencesIn_0 : decode cX0_coincidencesIn 0 = .ok (.iload_n 1, 1) := by decide +kernel
theorem dX0_coincidencesIn_1 : decode cX0_coincidencesIn 1 = .ok (.ifCond .lt 9, 3) := by decide +kernel
theorem dX0_coincidencesIn_4 : decode cX0_coincidencesIn 4 = .ok (.iload_n 1, 1) := by decide +kernel
theorem dX0_coincidencesIn_5 : decode cX0_coincidencesIn 5 = .ok (.bipush 60, 2) := by decide +kernel
theorem dX0_coincidencesIn_7 : decode cX0_coincidencesIn 7 = .ok (.if_icmp .le 13, 3) := by decide +kernel
theorem dX0_coincidencesIn_10 : decode cX0_coincidencesIn 10 = .ok (.new 51, 3) := by decide +kernel
theorem dX0_coincidencesIn_13 : decode cX0_coincidencesIn 13 = .ok (.dup, 1) := by decide +kernel
theorem dX0_coincidencesIn_14 : decode cX0_coincidencesIn 14 = .ok (.ldc 117, 2) := by decide +kernel
theorem dX0_coincidencesIn_16 : decode cX0_coincidencesIn 16 = .ok (.invokespecial 55, 3) := by decide +kernel
theorem dX0_coincidencesIn_19 : decode cX0_coincidencesIn 19 = .ok (.athrow, 1) := by decide +kernel
theorem dX0_coincidencesIn_20 : decode cX0_coincidencesIn 20 = .ok (.aload_n 0, 1) := by decide +kernel
theorem dX0_coincidencesIn_21 : decode cX0_coincidencesIn 21 = .ok (.iload_n 1, 1) := by decide +kernel
theorem dX0_coincidencesIn_22 : decode cX0_coincidencesIn 22 = .ok (.invokevirtual 86, 3) := by decide +kernel
theorem dX0_coincidencesIn_25 : decode cX0_coincidencesIn 25 = .ok (.ireturn, 1) := by decide +kernel
set_option maxRecDepth 20000 in
theorem ggX0_hoursUntilTogether_X0_requirePair : GoodIn wsX0_hoursUntilTogether wsX0_requirePair := goodIn_ca (goodIn_ca (goodIn_r _ [5, 6, 7, 8, 9, 10, 4, 11, 12, 13, 14, 21, 22, 23, 24, 25, 26, 27, 28, 29] (by decide +kernel) (by decide +kernel)) (goodIn_sub (fun _ h => List.mem_cons_of_mem _ (List.mem_append_left _ (List.mem_append_right _ h))) (by decide +kernel))) (goodIn_sub (fun _ h => List.mem_cons_of_mem _ (List.mem_append_right _ h)) (by decide +kernel))
set_option maxRecDepth 20000 in
theorem gX0_hoursUntilTogether_X0_requirePair : GoodIn wsX0_hoursUntilTogether (wsV RX0 80 RX0 yX0_requirePair wsX0_requirePair) := goodIn_app (goodIn_of _ (by decide +kernel)) ggX0_hoursUntilTogether_X0_requirePair
set_option maxRecDepth 20000 in
theorem ggX0_hoursUntilTogether_X0_cornerBehind : GoodIn wsX0_hoursUntilTogether wsX0_cornerBehind := goodIn_r _ [18, 19, 20, 21, 22, 23, 24, 25, 26, 27, 28, 29] (by decide +kernel) (by decide +kernel)
set_option maxRecDepth 20000 in
theorem gX0_hoursUntilTogether_X0_cornerBehind : GoodIn wsX0_hoursUntilTogether (wsV RX0 119 RX0 yX0_cornerBehind wsX0_cornerBehind) := goodIn_app (goodIn_of _ (by decide +kernel)) ggX0_hoursUntilTogether_X0_cornerBehind
theorem dX0_hoursUntilTogether_0 : decode cX0_hoursUntilTogether 0 = .ok (.aload_n 0, 1) := by decide +kernel
theorem dX0_hoursUntilTogether_1 : decode cX0_hoursUntilTogether 1 = .ok (.iload_n 1, 1) := by decide +kernel
theorem dX0_hoursUntilTogether_2 : decode cX0_hoursUntilTogether 2 = .ok (.iload_n 2, 1) := by decide +kernel
theorem dX0_hoursUntilTogether_3 : decode cX0_hoursUntilTogether 3 = .ok (.invokevirtual 80, 3) := by decide +kernel
theorem dX0_hoursUntilTogether_6 : decode cX0_hoursUntilTogether 6 = .ok (.iconst 0, 1) := by decide +kernel
theorem dX0_hoursUntilTogether_7 : decode cX0_hoursUntilTogether 7 = .ok (.istore_n 3, 1) := by decide +kernel
theorem dX0_hoursUntilTogether_8 : decode cX0_hoursUntilTogether 8 = .ok (.iload_n 3, 1) := by decide +kernel
theorem dX0_hoursUntilTogether_9 : decode cX0_hoursUntilTogether 9 = .ok (.bipush 6, 2) := by decide +kernel
theorem dX0_hoursUntilTogether_11 : decode cX0_hoursUntilTogether 11 = .ok (.if_icmp .ge 26, 3) := by decide +kernel
theorem dX0_hoursUntilTogether_14 : decode cX0_hoursUntilTogether 14 = .ok (.aload_n 0, 1) := by decide +kernel
theorem dX0_hoursUntilTogether_15 : decode cX0_hoursUntilTogether 15 = .ok (.iload_n 1, 1) := by decide +kernel
theorem dX0_hoursUntilTogether_16 : decode cX0_hoursUntilTogether 16 = .ok (.iload_n 3, 1) := by decide +kernel
theorem dX0_hoursUntilTogether_17 : decode cX0_hoursUntilTogether 17 = .ok (.invokevirtual 119, 3) := by decide +kernel
theorem dX0_hoursUntilTogether_20 : decode cX0_hoursUntilTogether 20 = .ok (.aload_n 0, 1) := by decide +kernel
theorem dX0_hoursUntilTogether_21 : decode cX0_hoursUntilTogether 21 = .ok (.iload_n 2, 1) := by decide +kernel
theorem dX0_hoursUntilTogether_22 : decode cX0_hoursUntilTogether 22 = .ok (.iload_n 3, 1) := by decide +kernel
theorem dX0_hoursUntilTogether_23 : decode cX0_hoursUntilTogether 23 = .ok (.invokevirtual 119, 3) := by decide +kernel
theorem dX0_hoursUntilTogether_26 : decode cX0_hoursUntilTogether 26 = .ok (.if_icmp .ne 5, 3) := by decide +kernel
theorem dX0_hoursUntilTogether_29 : decode cX0_hoursUntilTogether 29 = .ok (.iload_n 3, 1) := by decide +kernel
theorem dX0_hoursUntilTogether_30 : decode cX0_hoursUntilTogether 30 = .ok (.ireturn, 1) := by decide +kernel
theorem dX0_hoursUntilTogether_31 : decode cX0_hoursUntilTogether 31 = .ok (.iinc 3 1, 3) := by decide +kernel
theorem dX0_hoursUntilTogether_34 : decode cX0_hoursUntilTogether 34 = .ok (.goto (-26), 3) := by decide +kernel
theorem dX0_hoursUntilTogether_37 : decode cX0_hoursUntilTogether 37 = .ok (.iconst (-1), 1) := by decide +kernel
theorem dX0_hoursUntilTogether_38 : decode cX0_hoursUntilTogether 38 = .ok (.ireturn, 1) := by decide +kernel
set_option maxRecDepth 20000 in
theorem ggX0_costOfMeeting_X0_requirePair : GoodIn wsX0_costOfMeeting wsX0_requirePair := goodIn_ca (goodIn_ca (goodIn_r _ [6, 7, 8, 9, 10, 11, 5, 12, 13, 14, 15, 26, 27, 28, 29, 30, 31, 32, 33, 34] (by decide +kernel) (by decide +kernel)) (goodIn_sub (fun _ h => List.mem_cons_of_mem _ (List.mem_append_left _ (List.mem_append_right _ h))) (by decide +kernel))) (goodIn_sub (fun _ h => List.mem_cons_of_mem _ (List.mem_append_right _ h)) (by decide +kernel))
set_option maxRecDepth 20000 in
theorem gX0_costOfMeeting_X0_requirePair : GoodIn wsX0_costOfMeeting (wsV RX0 80 RX0 yX0_requirePair wsX0_requirePair) := goodIn_app (goodIn_of _ (by decide +kernel)) ggX0_costOfMeeting_X0_requirePair
set_option maxRecDepth 20000 in
theorem ggX0_costOfMeeting_X0_costOfWay : GoodIn wsX0_costOfMeeting wsX0_costOfWay := goodIn_r _ [18, 19, 20, 21, 22, 23, 24, 25] (by decide +kernel) (by decide +kernel)
set_option maxRecDepth 20000 in
theorem gX0_costOfMeeting_X0_costOfWay : GoodIn wsX0_costOfMeeting (va_wsS RX0 73 yX0_costOfWay wsX0_costOfWay) := goodIn_app (goodIn_of _ (by decide +kernel)) ggX0_costOfMeeting_X0_costOfWay
theorem dX0_costOfMeeting_0 : decode cX0_costOfMeeting 0 = .ok (.aload_n 0, 1) := by decide +kernel
theorem dX0_costOfMeeting_1 : decode cX0_costOfMeeting 1 = .ok (.iload_n 1, 1) := by decide +kernel
theorem dX0_costOfMeeting_2 : decode cX0_costOfMeeting 2 = .ok (.iload_n 2, 1) := by decide +kernel
theorem dX0_costOfMeeting_3 : decode cX0_costOfMeeting 3 = .ok (.invokevirtual 80, 3) := by decide +kernel
theorem dX0_costOfMeeting_6 : decode cX0_costOfMeeting 6 = .ok (.aload_n 0, 1) := by decide +kernel
theorem dX0_costOfMeeting_7 : decode cX0_costOfMeeting 7 = .ok (.getfield 16, 3) := by decide +kernel
theorem dX0_costOfMeeting_10 : decode cX0_costOfMeeting 10 = .ok (.iload_n 1, 1) := by decide +kernel
theorem dX0_costOfMeeting_11 : decode cX0_costOfMeeting 11 = .ok (.iaload, 1) := by decide +kernel
theorem dX0_costOfMeeting_12 : decode cX0_costOfMeeting 12 = .ok (.aload_n 0, 1) := by decide +kernel
theorem dX0_costOfMeeting_13 : decode cX0_costOfMeeting 13 = .ok (.getfield 16, 3) := by decide +kernel
theorem dX0_costOfMeeting_16 : decode cX0_costOfMeeting 16 = .ok (.iload_n 2, 1) := by decide +kernel
theorem dX0_costOfMeeting_17 : decode cX0_costOfMeeting 17 = .ok (.iaload, 1) := by decide +kernel
theorem dX0_costOfMeeting_18 : decode cX0_costOfMeeting 18 = .ok (.invokestatic 73, 3) := by decide +kernel
theorem dX0_costOfMeeting_21 : decode cX0_costOfMeeting 21 = .ok (.ireturn, 1) := by decide +kernel
set_option maxRecDepth 20000 in
theorem ggX0_bestHour_X0_townBehind : GoodIn wsX0_bestHour wsX0_townBehind := goodIn_r _ [5, 6, 7, 8, 9, 4, 10, 11, 12, 13, 14, 15, 16, 17, 18, 19, 20, 21, 22, 23, 24, 25, 26, 27, 28, 29, 30, 31, 32, 33, 34, 35, 36, 37, 38, 39, 40, 41, 42, 43] (by decide +kernel) (by decide +kernel)
set_option maxRecDepth 20000 in
theorem gX0_bestHour_X0_townBehind : GoodIn wsX0_bestHour (wsV RX0 86 RX0 yX0_townBehind wsX0_townBehind) := goodIn_app (goodIn_of _ (by decide +kernel)) ggX0_bestHour_X0_townBehind
theorem dX0_bestHour_0 : decode cX0_bestHour 0 = .ok (.iconst 1, 1) := by decide +kernel
theorem dX0_bestHour_1 : decode cX0_bestHour 1 = .ok (.istore_n 1, 1) := by decide +kernel
theorem dX0_bestHour_2 : decode cX0_bestHour 2 = .ok (.aload_n 0, 1) := by decide +kernel
theorem dX0_bestHour_3 : decode cX0_bestHour 3 = .ok (.iconst 1, 1) := by decide +kernel
theorem dX0_bestHour_4 : decode cX0_bestHour 4 = .ok (.invokevirtual 86, 3) := by decide +kernel
theorem dX0_bestHour_7 : decode cX0_bestHour 7 = .ok (.istore_n 2, 1) := by decide +kernel
theorem dX0_bestHour_8 : decode cX0_bestHour 8 = .ok (.iconst 2, 1) := by decide +kernel
theorem dX0_bestHour_9 : decode cX0_bestHour 9 = .ok (.istore_n 3, 1) := by decide +kernel
theorem dX0_bestHour_10 : decode cX0_bestHour 10 = .ok (.iload_n 3, 1) := by decide +kernel
theorem dX0_bestHour_11 : decode cX0_bestHour 11 = .ok (.bipush 6, 2) := by decide +kernel
theorem dX0_bestHour_13 : decode cX0_bestHour 13 = .ok (.if_icmp .gt 27, 3) := by decide +kernel
theorem dX0_bestHour_16 : decode cX0_bestHour 16 = .ok (.aload_n 0, 1) := by decide +kernel
theorem dX0_bestHour_17 : decode cX0_bestHour 17 = .ok (.iload_n 3, 1) := by decide +kernel
theorem dX0_bestHour_18 : decode cX0_bestHour 18 = .ok (.invokevirtual 86, 3) := by decide +kernel
theorem dX0_bestHour_21 : decode cX0_bestHour 21 = .ok (.istore 4, 2) := by decide +kernel
theorem dX0_bestHour_23 : decode cX0_bestHour 23 = .ok (.iload 4, 2) := by decide +kernel
theorem dX0_bestHour_25 : decode cX0_bestHour 25 = .ok (.iload_n 2, 1) := by decide +kernel
theorem dX0_bestHour_26 : decode cX0_bestHour 26 = .ok (.if_icmp .le 8, 3) := by decide +kernel
theorem dX0_bestHour_29 : decode cX0_bestHour 29 = .ok (.iload 4, 2) := by decide +kernel
theorem dX0_bestHour_31 : decode cX0_bestHour 31 = .ok (.istore_n 2, 1) := by decide +kernel
theorem dX0_bestHour_32 : decode cX0_bestHour 32 = .ok (.iload_n 3, 1) := by decide +kernel
theorem dX0_bestHour_33 : decode cX0_bestHour 33 = .ok (.istore_n 1, 1) := by decide +kernel
theorem dX0_bestHour_34 : decode cX0_bestHour 34 = .ok (.iinc 3 1, 3) := by decide +kernel
theorem dX0_bestHour_37 : decode cX0_bestHour 37 = .ok (.goto (-27), 3) := by decide +kernel
theorem dX0_bestHour_40 : decode cX0_bestHour 40 = .ok (.iload_n 1, 1) := by decide +kernel
theorem dX0_bestHour_41 : decode cX0_bestHour 41 = .ok (.ireturn, 1) := by decide +kernel
set_option maxRecDepth 20000 in
theorem ggX0_bestCorner_X0_requireStranger : GoodIn wsX0_bestCorner wsX0_requireStranger := goodIn_ca (goodIn_r _ [6, 7, 8, 9, 32, 33, 34, 35, 36, 37, 38, 39, 40] (by decide +kernel) (by decide +kernel)) (goodIn_sub (fun _ h => List.mem_cons_of_mem _ (List.mem_append_right _ h)) (by decide +kernel))
set_option maxRecDepth 20000 in
theorem gX0_bestCorner_X0_requireStranger : GoodIn wsX0_bestCorner (wsV RX0 63 RX0 yX0_requireStranger wsX0_requireStranger) := goodIn_app (goodIn_of _ (by decide +kernel)) ggX0_bestCorner_X0_requireStranger
set_option maxRecDepth 20000 in
theorem ggX0_bestCorner_X0_luckWith : GoodIn wsX0_bestCorner wsX0_luckWith := goodIn_r _ [13, 9, 14, 1, 15, 16, 17, 5, 18, 19, 20, 21, 22, 23, 24, 25, 26, 27, 28, 29, 30, 31, 32, 33, 34, 35, 36, 37, 38, 39, 40] (by decide +kernel) (by decide +kernel)
set_option maxRecDepth 20000 in
theorem gX0_bestCorner_X0_luckWith : GoodIn wsX0_bestCorner (wsV RX0 122 RX0 yX0_luckWith wsX0_luckWith) := goodIn_app (goodIn_of _ (by decide +kernel)) ggX0_bestCorner_X0_luckWith
theorem dX0_bestCorner_0 : decode cX0_bestCorner 0 = .ok (.aload_n 0, 1) := by decide +kernel
theorem dX0_bestCorner_1 : decode cX0_bestCorner 1 = .ok (.iload_n 1, 1) := by decide +kernel
theorem dX0_bestCorner_2 : decode cX0_bestCorner 2 = .ok (.invokevirtual 63, 3) := by decide +kernel
theorem dX0_bestCorner_5 : decode cX0_bestCorner 5 = .ok (.iconst 0, 1) := by decide +kernel
theorem dX0_bestCorner_6 : decode cX0_bestCorner 6 = .ok (.istore_n 2, 1) := by decide +kernel
theorem dX0_bestCorner_7 : decode cX0_bestCorner 7 = .ok (.iconst (-1), 1) := by decide +kernel
theorem dX0_bestCorner_8 : decode cX0_bestCorner 8 = .ok (.istore_n 3, 1) := by decide +kernel
theorem dX0_bestCorner_9 : decode cX0_bestCorner 9 = .ok (.iconst 0, 1) := by decide +kernel
theorem dX0_bestCorner_10 : decode cX0_bestCorner 10 = .ok (.istore 4, 2) := by decide +kernel
theorem dX0_bestCorner_12 : decode cX0_bestCorner 12 = .ok (.iload 4, 2) := by decide +kernel
theorem dX0_bestCorner_14 : decode cX0_bestCorner 14 = .ok (.bipush 6, 2) := by decide +kernel
theorem dX0_bestCorner_16 : decode cX0_bestCorner 16 = .ok (.if_icmp .ge 36, 3) := by decide +kernel
theorem dX0_bestCorner_19 : decode cX0_bestCorner 19 = .ok (.aload_n 0, 1) := by decide +kernel
theorem dX0_bestCorner_20 : decode cX0_bestCorner 20 = .ok (.iload_n 1, 1) := by decide +kernel
theorem dX0_bestCorner_21 : decode cX0_bestCorner 21 = .ok (.aload_n 0, 1) := by decide +kernel
theorem dX0_bestCorner_22 : decode cX0_bestCorner 22 = .ok (.getfield 9, 3) := by decide +kernel
theorem dX0_bestCorner_25 : decode cX0_bestCorner 25 = .ok (.iload_n 1, 1) := by decide +kernel
theorem dX0_bestCorner_26 : decode cX0_bestCorner 26 = .ok (.iaload, 1) := by decide +kernel
theorem dX0_bestCorner_27 : decode cX0_bestCorner 27 = .ok (.iload 4, 2) := by decide +kernel
theorem dX0_bestCorner_29 : decode cX0_bestCorner 29 = .ok (.invokevirtual 122, 3) := by decide +kernel
theorem dX0_bestCorner_32 : decode cX0_bestCorner 32 = .ok (.istore 5, 2) := by decide +kernel
theorem dX0_bestCorner_34 : decode cX0_bestCorner 34 = .ok (.iload 5, 2) := by decide +kernel
theorem dX0_bestCorner_36 : decode cX0_bestCorner 36 = .ok (.iload_n 3, 1) := by decide +kernel
theorem dX0_bestCorner_37 : decode cX0_bestCorner 37 = .ok (.if_icmp .le 9, 3) := by decide +kernel
theorem dX0_bestCorner_40 : decode cX0_bestCorner 40 = .ok (.iload 5, 2) := by decide +kernel
theorem dX0_bestCorner_42 : decode cX0_bestCorner 42 = .ok (.istore_n 3, 1) := by decide +kernel
theorem dX0_bestCorner_43 : decode cX0_bestCorner 43 = .ok (.iload 4, 2) := by decide +kernel
theorem dX0_bestCorner_45 : decode cX0_bestCorner 45 = .ok (.istore_n 2, 1) := by decide +kernel
theorem dX0_bestCorner_46 : decode cX0_bestCorner 46 = .ok (.iinc 4 1, 3) := by decide +kernel
theorem dX0_bestCorner_49 : decode cX0_bestCorner 49 = .ok (.goto (-37), 3) := by decide +kernel
theorem dX0_bestCorner_52 : decode cX0_bestCorner 52 = .ok (.iload_n 2, 1) := by decide +kernel
theorem dX0_bestCorner_53 : decode cX0_bestCorner 53 = .ok (.ireturn, 1) := by decide +kernel
set_option maxRecDepth 20000 in
theorem ggX0_bestSwap_X0_townBehind : GoodIn wsX0_bestSwap wsX0_townBehind := goodIn_r _ [6, 1, 7, 8, 9, 5, 10, 11, 12, 13, 14, 15, 16, 17, 18, 19, 20, 21, 22, 23, 24, 25, 26, 27, 28, 29, 30, 31, 32, 33, 34, 42, 43, 44, 45, 46, 47, 48, 49, 50] (by decide +kernel) (by decide +kernel)
set_option maxRecDepth 20000 in
theorem gX0_bestSwap_X0_townBehind : GoodIn wsX0_bestSwap (wsV RX0 86 RX0 yX0_townBehind wsX0_townBehind) := goodIn_app (goodIn_of _ (by decide +kernel)) ggX0_bestSwap_X0_townBehind
set_option maxRecDepth 20000 in
theorem ggX0_bestSwap_X0_townIfSwapped : GoodIn wsX0_bestSwap wsX0_townIfSwapped := goodIn_r _ [38, 17, 39, 40, 5, 41, 2, 3, 4, 6, 1, 7, 8, 9, 10, 11, 12, 13, 14, 15, 16, 18, 19, 20, 21, 22, 23, 24, 25, 26, 27, 28, 29, 30, 31, 32, 33, 34, 42, 43, 44, 45, 46, 47, 48, 49, 50] (by decide +kernel) (by decide +kernel)
set_option maxRecDepth 20000 in
theorem gX0_bestSwap_X0_townIfSwapped : GoodIn wsX0_bestSwap (wsV RX0 126 RX0 yX0_townIfSwapped wsX0_townIfSwapped) := goodIn_app (goodIn_of _ (by decide +kernel)) ggX0_bestSwap_X0_townIfSwapped
theorem dX0_bestSwap_0 : decode cX0_bestSwap 0 = .ok (.iconst (-1), 1) := by decide +kernel
theorem dX0_bestSwap_1 : decode cX0_bestSwap 1 = .ok (.istore_n 1, 1) := by decide +kernel
theorem dX0_bestSwap_2 : decode cX0_bestSwap 2 = .ok (.aload_n 0, 1) := by decide +kernel
theorem dX0_bestSwap_3 : decode cX0_bestSwap 3 = .ok (.iconst 0, 1) := by decide +kernel
theorem dX0_bestSwap_4 : decode cX0_bestSwap 4 = .ok (.invokevirtual 86, 3) := by decide +kernel
theorem dX0_bestSwap_7 : decode cX0_bestSwap 7 = .ok (.istore_n 2, 1) := by decide +kernel
theorem dX0_bestSwap_8 : decode cX0_bestSwap 8 = .ok (.iconst 0, 1) := by decide +kernel
theorem dX0_bestSwap_9 : decode cX0_bestSwap 9 = .ok (.istore_n 3, 1) := by decide +kernel
theorem dX0_bestSwap_10 : decode cX0_bestSwap 10 = .ok (.iload_n 3, 1) := by decide +kernel
theorem dX0_bestSwap_11 : decode cX0_bestSwap 11 = .ok (.aload_n 0, 1) := by decide +kernel
theorem dX0_bestSwap_12 : decode cX0_bestSwap 12 = .ok (.getfield 22, 3) := by decide +kernel
theorem dX0_bestSwap_15 : decode cX0_bestSwap 15 = .ok (.if_icmp .ge 55, 3) := by decide +kernel
theorem dX0_bestSwap_18 : decode cX0_bestSwap 18 = .ok (.iload_n 3, 1) := by decide +kernel
theorem dX0_bestSwap_19 : decode cX0_bestSwap 19 = .ok (.iconst 1, 1) := by decide +kernel
theorem dX0_bestSwap_20 : decode cX0_bestSwap 20 = .ok (.iadd, 1) := by decide +kernel
theorem dX0_bestSwap_21 : decode cX0_bestSwap 21 = .ok (.istore 4, 2) := by decide +kernel
theorem dX0_bestSwap_23 : decode cX0_bestSwap 23 = .ok (.iload 4, 2) := by decide +kernel
theorem dX0_bestSwap_25 : decode cX0_bestSwap 25 = .ok (.aload_n 0, 1) := by decide +kernel
theorem dX0_bestSwap_26 : decode cX0_bestSwap 26 = .ok (.getfield 22, 3) := by decide +kernel
theorem dX0_bestSwap_29 : decode cX0_bestSwap 29 = .ok (.if_icmp .ge 35, 3) := by decide +kernel
theorem dX0_bestSwap_32 : decode cX0_bestSwap 32 = .ok (.aload_n 0, 1) := by decide +kernel
theorem dX0_bestSwap_33 : decode cX0_bestSwap 33 = .ok (.iload_n 3, 1) := by decide +kernel
theorem dX0_bestSwap_34 : decode cX0_bestSwap 34 = .ok (.iload 4, 2) := by decide +kernel
theorem dX0_bestSwap_36 : decode cX0_bestSwap 36 = .ok (.invokevirtual 126, 3) := by decide +kernel
theorem dX0_bestSwap_39 : decode cX0_bestSwap 39 = .ok (.istore 5, 2) := by decide +kernel
theorem dX0_bestSwap_41 : decode cX0_bestSwap 41 = .ok (.iload 5, 2) := by decide +kernel
theorem dX0_bestSwap_43 : decode cX0_bestSwap 43 = .ok (.iload_n 2, 1) := by decide +kernel
theorem dX0_bestSwap_44 : decode cX0_bestSwap 44 = .ok (.if_icmp .le 14, 3) := by decide +kernel
theorem dX0_bestSwap_47 : decode cX0_bestSwap 47 = .ok (.iload 5, 2) := by decide +kernel
theorem dX0_bestSwap_49 : decode cX0_bestSwap 49 = .ok (.istore_n 2, 1) := by decide +kernel
theorem dX0_bestSwap_50 : decode cX0_bestSwap 50 = .ok (.bipush 100, 2) := by decide +kernel
theorem dX0_bestSwap_52 : decode cX0_bestSwap 52 = .ok (.iload_n 3, 1) := by decide +kernel
theorem dX0_bestSwap_53 : decode cX0_bestSwap 53 = .ok (.imul, 1) := by decide +kernel
theorem dX0_bestSwap_54 : decode cX0_bestSwap 54 = .ok (.iload 4, 2) := by decide +kernel
theorem dX0_bestSwap_56 : decode cX0_bestSwap 56 = .ok (.iadd, 1) := by decide +kernel
theorem dX0_bestSwap_57 : decode cX0_bestSwap 57 = .ok (.istore_n 1, 1) := by decide +kernel
theorem dX0_bestSwap_58 : decode cX0_bestSwap 58 = .ok (.iinc 4 1, 3) := by decide +kernel
theorem dX0_bestSwap_61 : decode cX0_bestSwap 61 = .ok (.goto (-38), 3) := by decide +kernel
theorem dX0_bestSwap_64 : decode cX0_bestSwap 64 = .ok (.iinc 3 1, 3) := by decide +kernel
theorem dX0_bestSwap_67 : decode cX0_bestSwap 67 = .ok (.goto (-57), 3) := by decide +kernel
theorem dX0_bestSwap_70 : decode cX0_bestSwap 70 = .ok (.iload_n 1, 1) := by decide +kernel
theorem dX0_bestSwap_71 : decode cX0_bestSwap 71 = .ok (.ireturn, 1) := by decide +kernel
set_option maxRecDepth 20000 in
theorem ggX0_bestTicket_X0_requireStranger : GoodIn wsX0_bestTicket wsX0_requireStranger := goodIn_ca (goodIn_r _ [6, 7, 8, 9, 32, 33, 34, 35, 36, 37, 38, 39, 40] (by decide +kernel) (by decide +kernel)) (goodIn_sub (fun _ h => List.mem_cons_of_mem _ (List.mem_append_right _ h)) (by decide +kernel))
set_option maxRecDepth 20000 in
theorem gX0_bestTicket_X0_requireStranger : GoodIn wsX0_bestTicket (wsV RX0 63 RX0 yX0_requireStranger wsX0_requireStranger) := goodIn_app (goodIn_of _ (by decide +kernel)) ggX0_bestTicket_X0_requireStranger
set_option maxRecDepth 20000 in
theorem ggX0_bestTicket_X0_luckWith : GoodIn wsX0_bestTicket wsX0_luckWith := goodIn_r _ [13, 9, 1, 14, 15, 16, 17, 5, 18, 19, 20, 21, 22, 23, 24, 25, 26, 27, 28, 29, 30, 31, 32, 33, 34, 35, 36, 37, 38, 39, 40] (by decide +kernel) (by decide +kernel)
set_option maxRecDepth 20000 in
theorem gX0_bestTicket_X0_luckWith : GoodIn wsX0_bestTicket (wsV RX0 122 RX0 yX0_luckWith wsX0_luckWith) := goodIn_app (goodIn_of _ (by decide +kernel)) ggX0_bestTicket_X0_luckWith
theorem dX0_bestTicket_0 : decode cX0_bestTicket 0 = .ok (.aload_n 0, 1) := by decide +kernel
theorem dX0_bestTicket_1 : decode cX0_bestTicket 1 = .ok (.iload_n 1, 1) := by decide +kernel
theorem dX0_bestTicket_2 : decode cX0_bestTicket 2 = .ok (.invokevirtual 63, 3) := by decide +kernel
theorem dX0_bestTicket_5 : decode cX0_bestTicket 5 = .ok (.iconst 0, 1) := by decide +kernel
theorem dX0_bestTicket_6 : decode cX0_bestTicket 6 = .ok (.istore_n 2, 1) := by decide +kernel
theorem dX0_bestTicket_7 : decode cX0_bestTicket 7 = .ok (.iconst (-1), 1) := by decide +kernel
theorem dX0_bestTicket_8 : decode cX0_bestTicket 8 = .ok (.istore_n 3, 1) := by decide +kernel
theorem dX0_bestTicket_9 : decode cX0_bestTicket 9 = .ok (.iconst 0, 1) := by decide +kernel
theorem dX0_bestTicket_10 : decode cX0_bestTicket 10 = .ok (.istore 4, 2) := by decide +kernel
theorem dX0_bestTicket_12 : decode cX0_bestTicket 12 = .ok (.iload 4, 2) := by decide +kernel
theorem dX0_bestTicket_14 : decode cX0_bestTicket 14 = .ok (.bipush 100, 2) := by decide +kernel
theorem dX0_bestTicket_16 : decode cX0_bestTicket 16 = .ok (.if_icmp .ge 36, 3) := by decide +kernel
theorem dX0_bestTicket_19 : decode cX0_bestTicket 19 = .ok (.aload_n 0, 1) := by decide +kernel
theorem dX0_bestTicket_20 : decode cX0_bestTicket 20 = .ok (.iload_n 1, 1) := by decide +kernel
theorem dX0_bestTicket_21 : decode cX0_bestTicket 21 = .ok (.iload 4, 2) := by decide +kernel
theorem dX0_bestTicket_23 : decode cX0_bestTicket 23 = .ok (.aload_n 0, 1) := by decide +kernel
theorem dX0_bestTicket_24 : decode cX0_bestTicket 24 = .ok (.getfield 16, 3) := by decide +kernel
theorem dX0_bestTicket_27 : decode cX0_bestTicket 27 = .ok (.iload_n 1, 1) := by decide +kernel
theorem dX0_bestTicket_28 : decode cX0_bestTicket 28 = .ok (.iaload, 1) := by decide +kernel
theorem dX0_bestTicket_29 : decode cX0_bestTicket 29 = .ok (.invokevirtual 122, 3) := by decide +kernel
theorem dX0_bestTicket_32 : decode cX0_bestTicket 32 = .ok (.istore 5, 2) := by decide +kernel
theorem dX0_bestTicket_34 : decode cX0_bestTicket 34 = .ok (.iload 5, 2) := by decide +kernel
theorem dX0_bestTicket_36 : decode cX0_bestTicket 36 = .ok (.iload_n 3, 1) := by decide +kernel
theorem dX0_bestTicket_37 : decode cX0_bestTicket 37 = .ok (.if_icmp .le 9, 3) := by decide +kernel
theorem dX0_bestTicket_40 : decode cX0_bestTicket 40 = .ok (.iload 5, 2) := by decide +kernel
theorem dX0_bestTicket_42 : decode cX0_bestTicket 42 = .ok (.istore_n 3, 1) := by decide +kernel
theorem dX0_bestTicket_43 : decode cX0_bestTicket 43 = .ok (.iload 4, 2) := by decide +kernel
theorem dX0_bestTicket_45 : decode cX0_bestTicket 45 = .ok (.istore_n 2, 1) := by decide +kernel
theorem dX0_bestTicket_46 : decode cX0_bestTicket 46 = .ok (.iinc 4 1, 3) := by decide +kernel
theorem dX0_bestTicket_49 : decode cX0_bestTicket 49 = .ok (.goto (-37), 3) := by decide +kernel
theorem dX0_bestTicket_52 : decode cX0_bestTicket 52 = .ok (.iload_n 2, 1) := by decide +kernel
theorem dX0_bestTicket_53 : decode cX0_bestTicket 53 = .ok (.ireturn, 1) := by decide +kernel
set_option maxRecDepth 20000 in
theorem ggX0_meanLuck_X0_luckNow : GoodIn wsX0_meanLuck wsX0_luckNow := goodIn_r _ [6, 7, 8, 9, 10, 11, 5, 12, 1, 13, 14, 15, 16, 17, 18, 19, 20, 21, 22, 23, 24, 25, 26, 27, 28, 29, 30, 31, 32, 33, 34, 35, 36, 37, 38] (by decide +kernel) (by decide +kernel)
set_option maxRecDepth 20000 in
theorem gX0_meanLuck_X0_luckNow : GoodIn wsX0_meanLuck (wsV RX0 114 RX0 yX0_luckNow wsX0_luckNow) := goodIn_app (goodIn_of _ (by decide +kernel)) ggX0_meanLuck_X0_luckNow
theorem dX0_meanLuck_0 : decode cX0_meanLuck 0 = .ok (.aload_n 0, 1) := by decide +kernel
theorem dX0_meanLuck_1 : decode cX0_meanLuck 1 = .ok (.getfield 22, 3) := by decide +kernel
theorem dX0_meanLuck_4 : decode cX0_meanLuck 4 = .ok (.ifCond .ne 5, 3) := by decide +kernel
theorem dX0_meanLuck_7 : decode cX0_meanLuck 7 = .ok (.dconst 0, 1) := by decide +kernel
theorem dX0_meanLuck_8 : decode cX0_meanLuck 8 = .ok (.dreturn, 1) := by decide +kernel
theorem dX0_meanLuck_9 : decode cX0_meanLuck 9 = .ok (.iconst 0, 1) := by decide +kernel
theorem dX0_meanLuck_10 : decode cX0_meanLuck 10 = .ok (.istore_n 1, 1) := by decide +kernel
theorem dX0_meanLuck_11 : decode cX0_meanLuck 11 = .ok (.iconst 0, 1) := by decide +kernel
theorem dX0_meanLuck_12 : decode cX0_meanLuck 12 = .ok (.istore_n 2, 1) := by decide +kernel
theorem dX0_meanLuck_13 : decode cX0_meanLuck 13 = .ok (.iload_n 2, 1) := by decide +kernel
theorem dX0_meanLuck_14 : decode cX0_meanLuck 14 = .ok (.aload_n 0, 1) := by decide +kernel
theorem dX0_meanLuck_15 : decode cX0_meanLuck 15 = .ok (.getfield 22, 3) := by decide +kernel
theorem dX0_meanLuck_18 : decode cX0_meanLuck 18 = .ok (.if_icmp .ge 17, 3) := by decide +kernel
theorem dX0_meanLuck_21 : decode cX0_meanLuck 21 = .ok (.iload_n 1, 1) := by decide +kernel
theorem dX0_meanLuck_22 : decode cX0_meanLuck 22 = .ok (.aload_n 0, 1) := by decide +kernel
theorem dX0_meanLuck_23 : decode cX0_meanLuck 23 = .ok (.iload_n 2, 1) := by decide +kernel
theorem dX0_meanLuck_24 : decode cX0_meanLuck 24 = .ok (.invokevirtual 114, 3) := by decide +kernel
theorem dX0_meanLuck_27 : decode cX0_meanLuck 27 = .ok (.iadd, 1) := by decide +kernel
theorem dX0_meanLuck_28 : decode cX0_meanLuck 28 = .ok (.istore_n 1, 1) := by decide +kernel
theorem dX0_meanLuck_29 : decode cX0_meanLuck 29 = .ok (.iinc 2 1, 3) := by decide +kernel
theorem dX0_meanLuck_32 : decode cX0_meanLuck 32 = .ok (.goto (-19), 3) := by decide +kernel
theorem dX0_meanLuck_35 : decode cX0_meanLuck 35 = .ok (.iload_n 1, 1) := by decide +kernel
theorem dX0_meanLuck_36 : decode cX0_meanLuck 36 = .ok (.i2d, 1) := by decide +kernel
theorem dX0_meanLuck_37 : decode cX0_meanLuck 37 = .ok (.aload_n 0, 1) := by decide +kernel
theorem dX0_meanLuck_38 : decode cX0_meanLuck 38 = .ok (.getfield 22, 3) := by decide +kernel
theorem dX0_meanLuck_41 : decode cX0_meanLuck 41 = .ok (.i2d, 1) := by decide +kernel
theorem dX0_meanLuck_42 : decode cX0_meanLuck 42 = .ok (.ddiv, 1) := by decide +kernel
theorem dX0_meanLuck_43 : decode cX0_meanLuck 43 = .ok (.dreturn, 1) := by decide +kernel
set_option maxRecDepth 20000 in
theorem ggX0_digest_X0_mixed : GoodIn wsX0_digest wsX0_mixed := goodIn_r _ [14, 15] (by decide +kernel) (by decide +kernel)
set_option maxRecDepth 20000 in
theorem gX0_digest_X0_mixed : GoodIn wsX0_digest (va_wsS RX0 131 yX0_mixed wsX0_mixed) := goodIn_app (goodIn_of _ (by decide +kernel)) ggX0_digest_X0_mixed
set_option maxRecDepth 20000 in
theorem ggX0_digest_X0_coincidences : GoodIn wsX0_digest wsX0_coincidences := goodIn_r _ [19, 20, 21, 22, 13, 23, 2, 24, 25, 26, 27, 9, 10, 28, 29, 30, 31, 7, 8, 32, 33, 34, 35, 36, 37, 38, 39, 40, 41, 42, 43, 44, 45, 46, 47, 103, 104, 105, 106, 107, 108, 109, 110, 111] (by decide +kernel) (by decide +kernel)
set_option maxRecDepth 20000 in
theorem gX0_digest_X0_coincidences : GoodIn wsX0_digest (wsV RX0 135 RX0 yX0_coincidences wsX0_coincidences) := goodIn_app (goodIn_of _ (by decide +kernel)) ggX0_digest_X0_coincidences
set_option maxRecDepth 20000 in
theorem ggX0_digest_X0_luckiestPair : GoodIn wsX0_digest wsX0_luckiestPair := goodIn_r _ [51, 2, 28, 29, 30, 13, 31, 7, 8, 32, 33, 34, 35, 36, 37, 38, 39, 40, 41, 42, 43, 44, 45, 46, 47, 103, 104, 105, 106, 107, 108, 109, 110, 111] (by decide +kernel) (by decide +kernel)
set_option maxRecDepth 20000 in
theorem gX0_digest_X0_luckiestPair : GoodIn wsX0_digest (wsV RX0 139 RX0 yX0_luckiestPair wsX0_luckiestPair) := goodIn_app (goodIn_of _ (by decide +kernel)) ggX0_digest_X0_luckiestPair
set_option maxRecDepth 20000 in
theorem ggX0_digest_X0_bestHour : GoodIn wsX0_digest wsX0_bestHour := goodIn_r _ [55, 20, 21, 22, 13, 23, 2, 24, 25, 26, 27, 9, 10, 28, 29, 30, 31, 7, 8, 32, 33, 34, 35, 36, 37, 38, 39, 40, 41, 42, 43, 44, 45, 46, 47, 103, 104, 105, 106, 107, 108, 109, 110, 111] (by decide +kernel) (by decide +kernel)
set_option maxRecDepth 20000 in
theorem gX0_digest_X0_bestHour : GoodIn wsX0_digest (wsV RX0 142 RX0 yX0_bestHour wsX0_bestHour) := goodIn_app (goodIn_of _ (by decide +kernel)) ggX0_digest_X0_bestHour
set_option maxRecDepth 20000 in
theorem ggX0_digest_X0_bestSwap : GoodIn wsX0_digest wsX0_bestSwap := goodIn_r _ [59, 2, 20, 21, 22, 13, 23, 24, 25, 26, 27, 9, 10, 28, 29, 30, 31, 7, 8, 32, 33, 34, 35, 36, 37, 38, 39, 40, 41, 42, 43, 44, 45, 46, 47, 60, 61, 62, 63, 64, 65, 66, 103, 104, 105, 106, 107, 108, 109, 110, 111] (by decide +kernel) (by decide +kernel)
set_option maxRecDepth 20000 in
theorem gX0_digest_X0_bestSwap : GoodIn wsX0_digest (wsV RX0 145 RX0 yX0_bestSwap wsX0_bestSwap) := goodIn_app (goodIn_of _ (by decide +kernel)) ggX0_digest_X0_bestSwap
set_option maxRecDepth 20000 in
theorem ggX0_digest_X0_peopleAt : GoodIn wsX0_digest wsX0_peopleAt := goodIn_ca (goodIn_r _ [70, 71, 72, 13, 73, 74, 75, 76, 77, 78, 79, 80, 81, 82, 2, 9, 103, 104, 105, 106, 107, 108, 109, 110, 111] (by decide +kernel) (by decide +kernel)) (goodIn_sub (fun _ h => List.mem_cons_of_mem _ (List.mem_append_right _ h)) (by decide +kernel))
set_option maxRecDepth 20000 in
theorem gX0_digest_X0_peopleAt : GoodIn wsX0_digest (wsV RX0 148 RX0 yX0_peopleAt wsX0_peopleAt) := goodIn_app (goodIn_of _ (by decide +kernel)) ggX0_digest_X0_peopleAt
set_option maxRecDepth 20000 in
theorem ggX0_digest_X0_coincidencesAt : GoodIn wsX0_digest wsX0_coincidencesAt := goodIn_ca (goodIn_r _ [86, 2, 9, 71, 72, 13, 73, 74, 75, 76, 77, 78, 28, 29, 30, 31, 7, 8, 32, 33, 34, 35, 36, 37, 38, 39, 40, 41, 42, 43, 44, 45, 46, 47, 103, 104, 105, 106, 107, 108, 109, 110, 111] (by decide +kernel) (by decide +kernel)) (goodIn_sub (fun _ h => List.mem_cons_of_mem _ (List.mem_append_right _ h)) (by decide +kernel))
set_option maxRecDepth 20000 in
theorem gX0_digest_X0_coincidencesAt : GoodIn wsX0_digest (wsV RX0 151 RX0 yX0_coincidencesAt wsX0_coincidencesAt) := goodIn_app (goodIn_of _ (by decide +kernel)) ggX0_digest_X0_coincidencesAt
set_option maxRecDepth 20000 in
theorem ggX0_digest_X0_luckNow : GoodIn wsX0_digest wsX0_luckNow := goodIn_r _ [90, 7, 9, 91, 92, 93, 13, 94, 2, 8, 32, 33, 34, 35, 36, 37, 38, 39, 40, 41, 42, 43, 44, 45, 46, 47, 103, 104, 105, 106, 107, 108, 109, 110, 111] (by decide +kernel) (by decide +kernel)
set_option maxRecDepth 20000 in
theorem gX0_digest_X0_luckNow : GoodIn wsX0_digest (wsV RX0 114 RX0 yX0_luckNow wsX0_luckNow) := goodIn_app (goodIn_of _ (by decide +kernel)) ggX0_digest_X0_luckNow
set_option maxRecDepth 20000 in
theorem ggX0_digest_X0_bestCorner : GoodIn wsX0_digest wsX0_bestCorner := goodIn_ca (goodIn_r _ [98, 7, 99, 100, 101, 13, 102, 74, 75, 2, 91, 92, 93, 94, 9, 8, 32, 33, 34, 35, 36, 37, 38, 39, 40, 41, 42, 43, 44, 45, 46, 47, 103, 104, 105, 106, 107, 108, 109, 110, 111] (by decide +kernel) (by decide +kernel)) (goodIn_sub (fun _ h => List.mem_cons_of_mem _ (List.mem_append_right _ h)) (by decide +kernel))
set_option maxRecDepth 20000 in
theorem gX0_digest_X0_bestCorner : GoodIn wsX0_digest (wsV RX0 154 RX0 yX0_bestCorner wsX0_bestCorner) := goodIn_app (goodIn_of _ (by decide +kernel)) ggX0_digest_X0_bestCorner
theorem dX0_digest_0 : decode cX0_digest 0 = .ok (.ldc2_w 129, 3) := by decide +kernel
theorem dX0_digest_3 : decode cX0_digest 3 = .ok (.lstore_n 1, 1) := by decide +kernel
theorem dX0_digest_4 : decode cX0_digest 4 = .ok (.lload_n 1, 1) := by decide +kernel
theorem dX0_digest_5 : decode cX0_digest 5 = .ok (.aload_n 0, 1) := by decide +kernel
theorem dX0_digest_6 : decode cX0_digest 6 = .ok (.getfield 22, 3) := by decide +kernel
theorem dX0_digest_9 : decode cX0_digest 9 = .ok (.i2l, 1) := by decide +kernel
theorem dX0_digest_10 : decode cX0_digest 10 = .ok (.invokestatic 131, 3) := by decide +kernel
theorem dX0_digest_13 : decode cX0_digest 13 = .ok (.lstore_n 1, 1) := by decide +kernel
theorem dX0_digest_14 : decode cX0_digest 14 = .ok (.lload_n 1, 1) := by decide +kernel
theorem dX0_digest_15 : decode cX0_digest 15 = .ok (.aload_n 0, 1) := by decide +kernel
theorem dX0_digest_16 : decode cX0_digest 16 = .ok (.getfield 26, 3) := by decide +kernel
theorem dX0_digest_19 : decode cX0_digest 19 = .ok (.i2l, 1) := by decide +kernel
theorem dX0_digest_20 : decode cX0_digest 20 = .ok (.invokestatic 131, 3) := by decide +kernel
theorem dX0_digest_23 : decode cX0_digest 23 = .ok (.lstore_n 1, 1) := by decide +kernel
theorem dX0_digest_24 : decode cX0_digest 24 = .ok (.lload_n 1, 1) := by decide +kernel
theorem dX0_digest_25 : decode cX0_digest 25 = .ok (.aload_n 0, 1) := by decide +kernel
theorem dX0_digest_26 : decode cX0_digest 26 = .ok (.getfield 29, 3) := by decide +kernel
theorem dX0_digest_29 : decode cX0_digest 29 = .ok (.i2l, 1) := by decide +kernel
theorem dX0_digest_30 : decode cX0_digest 30 = .ok (.invokestatic 131, 3) := by decide +kernel
theorem dX0_digest_33 : decode cX0_digest 33 = .ok (.lstore_n 1, 1) := by decide +kernel
theorem dX0_digest_34 : decode cX0_digest 34 = .ok (.lload_n 1, 1) := by decide +kernel
theorem dX0_digest_35 : decode cX0_digest 35 = .ok (.aload_n 0, 1) := by decide +kernel
theorem dX0_digest_36 : decode cX0_digest 36 = .ok (.getfield 32, 3) := by decide +kernel
theorem dX0_digest_39 : decode cX0_digest 39 = .ok (.i2l, 1) := by decide +kernel
theorem dX0_digest_40 : decode cX0_digest 40 = .ok (.invokestatic 131, 3) := by decide +kernel
theorem dX0_digest_43 : decode cX0_digest 43 = .ok (.lstore_n 1, 1) := by decide +kernel
theorem dX0_digest_44 : decode cX0_digest 44 = .ok (.lload_n 1, 1) := by decide +kernel
theorem dX0_digest_45 : decode cX0_digest 45 = .ok (.aload_n 0, 1) := by decide +kernel
theorem dX0_digest_46 : decode cX0_digest 46 = .ok (.getfield 35, 3) := by decide +kernel
theorem dX0_digest_49 : decode cX0_digest 49 = .ok (.i2l, 1) := by decide +kernel
theorem dX0_digest_50 : decode cX0_digest 50 = .ok (.invokestatic 131, 3) := by decide +kernel
theorem dX0_digest_53 : decode cX0_digest 53 = .ok (.lstore_n 1, 1) := by decide +kernel
theorem dX0_digest_54 : decode cX0_digest 54 = .ok (.lload_n 1, 1) := by decide +kernel
theorem dX0_digest_55 : decode cX0_digest 55 = .ok (.aload_n 0, 1) := by decide +kernel
theorem dX0_digest_56 : decode cX0_digest 56 = .ok (.invokevirtual 135, 3) := by decide +kernel
theorem dX0_digest_59 : decode cX0_digest 59 = .ok (.i2l, 1) := by decide +kernel
theorem dX0_digest_60 : decode cX0_digest 60 = .ok (.invokestatic 131, 3) := by decide +kernel
theorem dX0_digest_63 : decode cX0_digest 63 = .ok (.lstore_n 1, 1) := by decide +kernel
theorem dX0_digest_64 : decode cX0_digest 64 = .ok (.lload_n 1, 1) := by decide +kernel
theorem dX0_digest_65 : decode cX0_digest 65 = .ok (.aload_n 0, 1) := by decide +kernel
theorem dX0_digest_66 : decode cX0_digest 66 = .ok (.invokevirtual 139, 3) := by decide +kernel
theorem dX0_digest_69 : decode cX0_digest 69 = .ok (.i2l, 1) := by decide +kernel
theorem dX0_digest_70 : decode cX0_digest 70 = .ok (.invokestatic 131, 3) := by decide +kernel
theorem dX0_digest_73 : decode cX0_digest 73 = .ok (.lstore_n 1, 1) := by decide +kernel
theorem dX0_digest_74 : decode cX0_digest 74 = .ok (.lload_n 1, 1) := by decide +kernel
theorem dX0_digest_75 : decode cX0_digest 75 = .ok (.aload_n 0, 1) := by decide +kernel
theorem dX0_digest_76 : decode cX0_digest 76 = .ok (.invokevirtual 142, 3) := by decide +kernel
theorem dX0_digest_79 : decode cX0_digest 79 = .ok (.i2l, 1) := by decide +kernel
theorem dX0_digest_80 : decode cX0_digest 80 = .ok (.invokestatic 131, 3) := by decide +kernel
theorem dX0_digest_83 : decode cX0_digest 83 = .ok (.lstore_n 1, 1) := by decide +kernel
theorem dX0_digest_84 : decode cX0_digest 84 = .ok (.lload_n 1, 1) := by decide +kernel
theorem dX0_digest_85 : decode cX0_digest 85 = .ok (.aload_n 0, 1) := by decide +kernel
theorem dX0_digest_86 : decode cX0_digest 86 = .ok (.invokevirtual 145, 3) := by decide +kernel
theorem dX0_digest_89 : decode cX0_digest 89 = .ok (.i2l, 1) := by decide +kernel
theorem dX0_digest_90 : decode cX0_digest 90 = .ok (.invokestatic 131, 3) := by decide +kernel
theorem dX0_digest_93 : decode cX0_digest 93 = .ok (.lstore_n 1, 1) := by decide +kernel
theorem dX0_digest_94 : decode cX0_digest 94 = .ok (.iconst 0, 1) := by decide +kernel
theorem dX0_digest_95 : decode cX0_digest 95 = .ok (.istore_n 3, 1) := by decide +kernel
theorem dX0_digest_96 : decode cX0_digest 96 = .ok (.iload_n 3, 1) := by decide +kernel
theorem dX0_digest_97 : decode cX0_digest 97 = .ok (.bipush 6, 2) := by decide +kernel
theorem dX0_digest_99 : decode cX0_digest 99 = .ok (.if_icmp .ge 31, 3) := by decide +kernel
theorem dX0_digest_102 : decode cX0_digest 102 = .ok (.lload_n 1, 1) := by decide +kernel
theorem dX0_digest_103 : decode cX0_digest 103 = .ok (.aload_n 0, 1) := by decide +kernel
theorem dX0_digest_104 : decode cX0_digest 104 = .ok (.iload_n 3, 1) := by decide +kernel
theorem dX0_digest_105 : decode cX0_digest 105 = .ok (.invokevirtual 148, 3) := by decide +kernel
theorem dX0_digest_108 : decode cX0_digest 108 = .ok (.i2l, 1) := by decide +kernel
theorem dX0_digest_109 : decode cX0_digest 109 = .ok (.invokestatic 131, 3) := by decide +kernel
theorem dX0_digest_112 : decode cX0_digest 112 = .ok (.lstore_n 1, 1) := by decide +kernel
theorem dX0_digest_113 : decode cX0_digest 113 = .ok (.lload_n 1, 1) := by decide +kernel
theorem dX0_digest_114 : decode cX0_digest 114 = .ok (.aload_n 0, 1) := by decide +kernel
theorem dX0_digest_115 : decode cX0_digest 115 = .ok (.iload_n 3, 1) := by decide +kernel
theorem dX0_digest_116 : decode cX0_digest 116 = .ok (.invokevirtual 151, 3) := by decide +kernel
theorem dX0_digest_119 : decode cX0_digest 119 = .ok (.i2l, 1) := by decide +kernel
theorem dX0_digest_120 : decode cX0_digest 120 = .ok (.invokestatic 131, 3) := by decide +kernel
theorem dX0_digest_123 : decode cX0_digest 123 = .ok (.lstore_n 1, 1) := by decide +kernel
theorem dX0_digest_124 : decode cX0_digest 124 = .ok (.iinc 3 1, 3) := by decide +kernel
theorem dX0_digest_127 : decode cX0_digest 127 = .ok (.goto (-31), 3) := by decide +kernel
theorem dX0_digest_130 : decode cX0_digest 130 = .ok (.iconst 0, 1) := by decide +kernel
theorem dX0_digest_131 : decode cX0_digest 131 = .ok (.istore_n 3, 1) := by decide +kernel
theorem dX0_digest_132 : decode cX0_digest 132 = .ok (.iload_n 3, 1) := by decide +kernel
theorem dX0_digest_133 : decode cX0_digest 133 = .ok (.aload_n 0, 1) := by decide +kernel
theorem dX0_digest_134 : decode cX0_digest 134 = .ok (.getfield 22, 3) := by decide +kernel
theorem dX0_digest_137 : decode cX0_digest 137 = .ok (.if_icmp .ge 79, 3) := by decide +kernel
theorem dX0_digest_140 : decode cX0_digest 140 = .ok (.lload_n 1, 1) := by decide +kernel
theorem dX0_digest_141 : decode cX0_digest 141 = .ok (.aload_n 0, 1) := by decide +kernel
theorem dX0_digest_142 : decode cX0_digest 142 = .ok (.getfield 9, 3) := by decide +kernel
theorem dX0_digest_145 : decode cX0_digest 145 = .ok (.iload_n 3, 1) := by decide +kernel
theorem dX0_digest_146 : decode cX0_digest 146 = .ok (.iaload, 1) := by decide +kernel
theorem dX0_digest_147 : decode cX0_digest 147 = .ok (.i2l, 1) := by decide +kernel
theorem dX0_digest_148 : decode cX0_digest 148 = .ok (.invokestatic 131, 3) := by decide +kernel
theorem dX0_digest_151 : decode cX0_digest 151 = .ok (.lstore_n 1, 1) := by decide +kernel
theorem dX0_digest_152 : decode cX0_digest 152 = .ok (.lload_n 1, 1) := by decide +kernel
theorem dX0_digest_153 : decode cX0_digest 153 = .ok (.aload_n 0, 1) := by decide +kernel
theorem dX0_digest_154 : decode cX0_digest 154 = .ok (.getfield 13, 3) := by decide +kernel
theorem dX0_digest_157 : decode cX0_digest 157 = .ok (.iload_n 3, 1) := by decide +kernel
theorem dX0_digest_158 : decode cX0_digest 158 = .ok (.iaload, 1) := by decide +kernel
theorem dX0_digest_159 : decode cX0_digest 159 = .ok (.i2l, 1) := by decide +kernel
theorem dX0_digest_160 : decode cX0_digest 160 = .ok (.invokestatic 131, 3) := by decide +kernel
theorem dX0_digest_163 : decode cX0_digest 163 = .ok (.lstore_n 1, 1) := by decide +kernel
theorem dX0_digest_164 : decode cX0_digest 164 = .ok (.lload_n 1, 1) := by decide +kernel
theorem dX0_digest_165 : decode cX0_digest 165 = .ok (.aload_n 0, 1) := by decide +kernel
theorem dX0_digest_166 : decode cX0_digest 166 = .ok (.getfield 16, 3) := by decide +kernel
theorem dX0_digest_169 : decode cX0_digest 169 = .ok (.iload_n 3, 1) := by decide +kernel
theorem dX0_digest_170 : decode cX0_digest 170 = .ok (.iaload, 1) := by decide +kernel
theorem dX0_digest_171 : decode cX0_digest 171 = .ok (.i2l, 1) := by decide +kernel
theorem dX0_digest_172 : decode cX0_digest 172 = .ok (.invokestatic 131, 3) := by decide +kernel
theorem dX0_digest_175 : decode cX0_digest 175 = .ok (.lstore_n 1, 1) := by decide +kernel
theorem dX0_digest_176 : decode cX0_digest 176 = .ok (.lload_n 1, 1) := by decide +kernel
theorem dX0_digest_177 : decode cX0_digest 177 = .ok (.aload_n 0, 1) := by decide +kernel
theorem dX0_digest_178 : decode cX0_digest 178 = .ok (.getfield 19, 3) := by decide +kernel
theorem dX0_digest_181 : decode cX0_digest 181 = .ok (.iload_n 3, 1) := by decide +kernel
theorem dX0_digest_182 : decode cX0_digest 182 = .ok (.iaload, 1) := by decide +kernel
theorem dX0_digest_183 : decode cX0_digest 183 = .ok (.i2l, 1) := by decide +kernel
theorem dX0_digest_184 : decode cX0_digest 184 = .ok (.invokestatic 131, 3) := by decide +kernel
theorem dX0_digest_187 : decode cX0_digest 187 = .ok (.lstore_n 1, 1) := by decide +kernel
theorem dX0_digest_188 : decode cX0_digest 188 = .ok (.lload_n 1, 1) := by decide +kernel
theorem dX0_digest_189 : decode cX0_digest 189 = .ok (.aload_n 0, 1) := by decide +kernel
theorem dX0_digest_190 : decode cX0_digest 190 = .ok (.iload_n 3, 1) := by decide +kernel
theorem dX0_digest_191 : decode cX0_digest 191 = .ok (.invokevirtual 114, 3) := by decide +kernel
theorem dX0_digest_194 : decode cX0_digest 194 = .ok (.i2l, 1) := by decide +kernel
theorem dX0_digest_195 : decode cX0_digest 195 = .ok (.invokestatic 131, 3) := by decide +kernel
theorem dX0_digest_198 : decode cX0_digest 198 = .ok (.lstore_n 1, 1) := by decide +kernel
theorem dX0_digest_199 : decode cX0_digest 199 = .ok (.lload_n 1, 1) := by decide +kernel
theorem dX0_digest_200 : decode cX0_digest 200 = .ok (.aload_n 0, 1) := by decide +kernel
theorem dX0_digest_201 : decode cX0_digest 201 = .ok (.iload_n 3, 1) := by decide +kernel
theorem dX0_digest_202 : decode cX0_digest 202 = .ok (.invokevirtual 154, 3) := by decide +kernel
theorem dX0_digest_205 : decode cX0_digest 205 = .ok (.i2l, 1) := by decide +kernel
theorem dX0_digest_206 : decode cX0_digest 206 = .ok (.invokestatic 131, 3) := by decide +kernel
theorem dX0_digest_209 : decode cX0_digest 209 = .ok (.lstore_n 1, 1) := by decide +kernel
theorem dX0_digest_210 : decode cX0_digest 210 = .ok (.iinc 3 1, 3) := by decide +kernel
theorem dX0_digest_213 : decode cX0_digest 213 = .ok (.goto (-81), 3) := by decide +kernel
theorem dX0_digest_216 : decode cX0_digest 216 = .ok (.lload_n 1, 1) := by decide +kernel
theorem dX0_digest_217 : decode cX0_digest 217 = .ok (.lreturn, 1) := by decide +kernel
theorem dX0_isTicket_0 : decode cX0_isTicket 0 = .ok (.iload_n 0, 1) := by decide +kernel
theorem dX0_isTicket_1 : decode cX0_isTicket 1 = .ok (.ifCond .lt 13, 3) := by decide +kernel
theorem dX0_isTicket_4 : decode cX0_isTicket 4 = .ok (.iload_n 0, 1) := by decide +kernel
theorem dX0_isTicket_5 : decode cX0_isTicket 5 = .ok (.bipush 100, 2) := by decide +kernel
theorem dX0_isTicket_7 : decode cX0_isTicket 7 = .ok (.if_icmp .ge 7, 3) := by decide +kernel
theorem dX0_isTicket_10 : decode cX0_isTicket 10 = .ok (.iconst 1, 1) := by decide +kernel
theorem dX0_isTicket_11 : decode cX0_isTicket 11 = .ok (.goto 4, 3) := by decide +kernel
theorem dX0_isTicket_14 : decode cX0_isTicket 14 = .ok (.iconst 0, 1) := by decide +kernel
theorem dX0_isTicket_15 : decode cX0_isTicket 15 = .ok (.ireturn, 1) := by decide +kernel
theorem dX0_isColour_0 : decode cX0_isColour 0 = .ok (.iload_n 0, 1) := by decide +kernel
theorem dX0_isColour_1 : decode cX0_isColour 1 = .ok (.ifCond .lt 12, 3) := by decide +kernel
theorem dX0_isColour_4 : decode cX0_isColour 4 = .ok (.iload_n 0, 1) := by decide +kernel
theorem dX0_isColour_5 : decode cX0_isColour 5 = .ok (.iconst 5, 1) := by decide +kernel
theorem dX0_isColour_6 : decode cX0_isColour 6 = .ok (.if_icmp .ge 7, 3) := by decide +kernel
theorem dX0_isColour_9 : decode cX0_isColour 9 = .ok (.iconst 1, 1) := by decide +kernel
theorem dX0_isColour_10 : decode cX0_isColour 10 = .ok (.goto 4, 3) := by decide +kernel
theorem dX0_isColour_13 : decode cX0_isColour 13 = .ok (.iconst 0, 1) := by decide +kernel
theorem dX0_isColour_14 : decode cX0_isColour 14 = .ok (.ireturn, 1) := by decide +kernel
theorem dX0_isCorner_0 : decode cX0_isCorner 0 = .ok (.iload_n 0, 1) := by decide +kernel
theorem dX0_isCorner_1 : decode cX0_isCorner 1 = .ok (.ifCond .lt 13, 3) := by decide +kernel
theorem dX0_isCorner_4 : decode cX0_isCorner 4 = .ok (.iload_n 0, 1) := by decide +kernel
theorem dX0_isCorner_5 : decode cX0_isCorner 5 = .ok (.bipush 6, 2) := by decide +kernel
theorem dX0_isCorner_7 : decode cX0_isCorner 7 = .ok (.if_icmp .ge 7, 3) := by decide +kernel
theorem dX0_isCorner_10 : decode cX0_isCorner 10 = .ok (.iconst 1, 1) := by decide +kernel
theorem dX0_isCorner_11 : decode cX0_isCorner 11 = .ok (.goto 4, 3) := by decide +kernel
theorem dX0_isCorner_14 : decode cX0_isCorner 14 = .ok (.iconst 0, 1) := by decide +kernel
theorem dX0_isCorner_15 : decode cX0_isCorner 15 = .ok (.ireturn, 1) := by decide +kernel
theorem dX0_isWalk_0 : decode cX0_isWalk 0 = .ok (.iload_n 0, 1) := by decide +kernel
theorem dX0_isWalk_1 : decode cX0_isWalk 1 = .ok (.ifCond .lt 12, 3) := by decide +kernel
theorem dX0_isWalk_4 : decode cX0_isWalk 4 = .ok (.iload_n 0, 1) := by decide +kernel
theorem dX0_isWalk_5 : decode cX0_isWalk 5 = .ok (.iconst 5, 1) := by decide +kernel
theorem dX0_isWalk_6 : decode cX0_isWalk 6 = .ok (.if_icmp .gt 7, 3) := by decide +kernel
theorem dX0_isWalk_9 : decode cX0_isWalk 9 = .ok (.iconst 1, 1) := by decide +kernel
theorem dX0_isWalk_10 : decode cX0_isWalk 10 = .ok (.goto 4, 3) := by decide +kernel
theorem dX0_isWalk_13 : decode cX0_isWalk 13 = .ok (.iconst 0, 1) := by decide +kernel
theorem dX0_isWalk_14 : decode cX0_isWalk 14 = .ok (.ireturn, 1) := by decide +kernel
theorem dX0_requireStranger_0 : decode cX0_requireStranger 0 = .ok (.iload_n 1, 1) := by decide +kernel
theorem dX0_requireStranger_1 : decode cX0_requireStranger 1 = .ok (.ifCond .lt 11, 3) := by decide +kernel
theorem dX0_requireStranger_4 : decode cX0_requireStranger 4 = .ok (.iload_n 1, 1) := by decide +kernel
theorem dX0_requireStranger_5 : decode cX0_requireStranger 5 = .ok (.aload_n 0, 1) := by decide +kernel
theorem dX0_requireStranger_6 : decode cX0_requireStranger 6 = .ok (.getfield 22, 3) := by decide +kernel
theorem dX0_requireStranger_9 : decode cX0_requireStranger 9 = .ok (.if_icmp .lt 13, 3) := by decide +kernel
theorem dX0_requireStranger_12 : decode cX0_requireStranger 12 = .ok (.new 157, 3) := by decide +kernel
theorem dX0_requireStranger_15 : decode cX0_requireStranger 15 = .ok (.dup, 1) := by decide +kernel
theorem dX0_requireStranger_16 : decode cX0_requireStranger 16 = .ok (.ldc 159, 2) := by decide +kernel
theorem dX0_requireStranger_18 : decode cX0_requireStranger 18 = .ok (.invokespecial 161, 3) := by decide +kernel
theorem dX0_requireStranger_21 : decode cX0_requireStranger 21 = .ok (.athrow, 1) := by decide +kernel
theorem dX0_requireStranger_22 : decode cX0_requireStranger 22 = .ok (.return_, 1) := by decide +kernel
set_option maxRecDepth 20000 in
theorem ggX0_requirePair_X0_requireStranger : GoodIn wsX0_requirePair wsX0_requireStranger := goodIn_ca (goodIn_r _ [7, 8, 9, 10, 11, 12, 13, 14, 15, 16, 17, 18, 19] (by decide +kernel) (by decide +kernel)) (goodIn_sub (fun _ h => List.mem_cons_of_mem _ (List.mem_append_right _ h)) (by decide +kernel))
set_option maxRecDepth 20000 in
theorem gX0_requirePair_X0_requireStranger : GoodIn wsX0_requirePair (wsV RX0 63 RX0 yX0_requireStranger wsX0_requireStranger) := goodIn_app (goodIn_of _ (by decide +kernel)) ggX0_requirePair_X0_requireStranger
theorem dX0_requirePair_0 : decode cX0_requirePair 0 = .ok (.aload_n 0, 1) := by decide +kernel
theorem dX0_requirePair_1 : decode cX0_requirePair 1 = .ok (.iload_n 1, 1) := by decide +kernel
theorem dX0_requirePair_2 : decode cX0_requirePair 2 = .ok (.invokevirtual 63, 3) := by decide +kernel
theorem dX0_requirePair_5 : decode cX0_requirePair 5 = .ok (.aload_n 0, 1) := by decide +kernel
theorem dX0_requirePair_6 : decode cX0_requirePair 6 = .ok (.iload_n 2, 1) := by decide +kernel
theorem dX0_requirePair_7 : decode cX0_requirePair 7 = .ok (.invokevirtual 63, 3) := by decide +kernel
theorem dX0_requirePair_10 : decode cX0_requirePair 10 = .ok (.iload_n 1, 1) := by decide +kernel
theorem dX0_requirePair_11 : decode cX0_requirePair 11 = .ok (.iload_n 2, 1) := by decide +kernel
theorem dX0_requirePair_12 : decode cX0_requirePair 12 = .ok (.if_icmp .ne 13, 3) := by decide +kernel
theorem dX0_requirePair_15 : decode cX0_requirePair 15 = .ok (.new 51, 3) := by decide +kernel
theorem dX0_requirePair_18 : decode cX0_requirePair 18 = .ok (.dup, 1) := by decide +kernel
theorem dX0_requirePair_19 : decode cX0_requirePair 19 = .ok (.ldc 162, 2) := by decide +kernel
theorem dX0_requirePair_21 : decode cX0_requirePair 21 = .ok (.invokespecial 55, 3) := by decide +kernel
theorem dX0_requirePair_24 : decode cX0_requirePair 24 = .ok (.athrow, 1) := by decide +kernel
theorem dX0_requirePair_25 : decode cX0_requirePair 25 = .ok (.return_, 1) := by decide +kernel
set_option maxRecDepth 20000 in
theorem ggX0_requireCorner_X0_isCorner : GoodIn wsX0_requireCorner wsX0_isCorner := goodIn_r _ [6] (by decide +kernel) (by decide +kernel)
set_option maxRecDepth 20000 in
theorem gX0_requireCorner_X0_isCorner : GoodIn wsX0_requireCorner (va_wsS RX0 45 yX0_isCorner wsX0_isCorner) := goodIn_app (goodIn_of _ (by decide +kernel)) ggX0_requireCorner_X0_isCorner
theorem dX0_requireCorner_0 : decode cX0_requireCorner 0 = .ok (.iload_n 0, 1) := by decide +kernel
theorem dX0_requireCorner_1 : decode cX0_requireCorner 1 = .ok (.invokestatic 45, 3) := by decide +kernel
theorem dX0_requireCorner_4 : decode cX0_requireCorner 4 = .ok (.ifCond .ne 13, 3) := by decide +kernel
theorem dX0_requireCorner_7 : decode cX0_requireCorner 7 = .ok (.new 157, 3) := by decide +kernel
theorem dX0_requireCorner_10 : decode cX0_requireCorner 10 = .ok (.dup, 1) := by decide +kernel
theorem dX0_requireCorner_11 : decode cX0_requireCorner 11 = .ok (.ldc 69, 2) := by decide +kernel
theorem dX0_requireCorner_13 : decode cX0_requireCorner 13 = .ok (.invokespecial 161, 3) := by decide +kernel
theorem dX0_requireCorner_16 : decode cX0_requireCorner 16 = .ok (.athrow, 1) := by decide +kernel
theorem dX0_requireCorner_17 : decode cX0_requireCorner 17 = .ok (.return_, 1) := by decide +kernel
theorem dX0_pay_0 : decode cX0_pay 0 = .ok (.iload_n 1, 1) := by decide +kernel
theorem dX0_pay_1 : decode cX0_pay 1 = .ok (.aload_n 0, 1) := by decide +kernel
theorem dX0_pay_2 : decode cX0_pay 2 = .ok (.getfield 29, 3) := by decide +kernel
theorem dX0_pay_5 : decode cX0_pay 5 = .ok (.if_icmp .le 13, 3) := by decide +kernel
theorem dX0_pay_8 : decode cX0_pay 8 = .ok (.new 58, 3) := by decide +kernel
theorem dX0_pay_11 : decode cX0_pay 11 = .ok (.dup, 1) := by decide +kernel
theorem dX0_pay_12 : decode cX0_pay 12 = .ok (.ldc 164, 2) := by decide +kernel
theorem dX0_pay_14 : decode cX0_pay 14 = .ok (.invokespecial 62, 3) := by decide +kernel
theorem dX0_pay_17 : decode cX0_pay 17 = .ok (.athrow, 1) := by decide +kernel
theorem dX0_pay_18 : decode cX0_pay 18 = .ok (.aload_n 0, 1) := by decide +kernel
theorem dX0_pay_19 : decode cX0_pay 19 = .ok (.dup, 1) := by decide +kernel
theorem dX0_pay_20 : decode cX0_pay 20 = .ok (.getfield 29, 3) := by decide +kernel
theorem dX0_pay_23 : decode cX0_pay 23 = .ok (.iload_n 1, 1) := by decide +kernel
theorem dX0_pay_24 : decode cX0_pay 24 = .ok (.isub, 1) := by decide +kernel
theorem dX0_pay_25 : decode cX0_pay 25 = .ok (.putfield 29, 3) := by decide +kernel
theorem dX0_pay_28 : decode cX0_pay 28 = .ok (.aload_n 0, 1) := by decide +kernel
theorem dX0_pay_29 : decode cX0_pay 29 = .ok (.dup, 1) := by decide +kernel
theorem dX0_pay_30 : decode cX0_pay 30 = .ok (.getfield 35, 3) := by decide +kernel
theorem dX0_pay_33 : decode cX0_pay 33 = .ok (.iload_n 1, 1) := by decide +kernel
theorem dX0_pay_34 : decode cX0_pay 34 = .ok (.iadd, 1) := by decide +kernel
theorem dX0_pay_35 : decode cX0_pay 35 = .ok (.putfield 35, 3) := by decide +kernel
theorem dX0_pay_38 : decode cX0_pay 38 = .ok (.return_, 1) := by decide +kernel
theorem dX0_costOfWay_0 : decode cX0_costOfWay 0 = .ok (.iload_n 0, 1) := by decide +kernel
theorem dX0_costOfWay_1 : decode cX0_costOfWay 1 = .ok (.iload_n 1, 1) := by decide +kernel
theorem dX0_costOfWay_2 : decode cX0_costOfWay 2 = .ok (.isub, 1) := by decide +kernel
theorem dX0_costOfWay_3 : decode cX0_costOfWay 3 = .ok (.invokestatic 166, 3) := by decide +kernel
theorem dX0_costOfWay_6 : decode cX0_costOfWay 6 = .ok (.istore_n 2, 1) := by decide +kernel
theorem dX0_costOfWay_7 : decode cX0_costOfWay 7 = .ok (.iconst 2, 1) := by decide +kernel
theorem dX0_costOfWay_8 : decode cX0_costOfWay 8 = .ok (.iload_n 2, 1) := by decide +kernel
theorem dX0_costOfWay_9 : decode cX0_costOfWay 9 = .ok (.bipush 6, 2) := by decide +kernel
theorem dX0_costOfWay_11 : decode cX0_costOfWay 11 = .ok (.iload_n 2, 1) := by decide +kernel
theorem dX0_costOfWay_12 : decode cX0_costOfWay 12 = .ok (.isub, 1) := by decide +kernel
theorem dX0_costOfWay_13 : decode cX0_costOfWay 13 = .ok (.invokestatic 171, 3) := by decide +kernel
theorem dX0_costOfWay_16 : decode cX0_costOfWay 16 = .ok (.imul, 1) := by decide +kernel
theorem dX0_costOfWay_17 : decode cX0_costOfWay 17 = .ok (.ireturn, 1) := by decide +kernel
set_option maxRecDepth 20000 in
theorem ggX0_passOneHour_X0_cornerBehind : GoodIn wsX0_passOneHour wsX0_cornerBehind := goodIn_r _ [14, 2, 15, 49, 50, 51, 52, 53, 54, 55, 56, 57] (by decide +kernel) (by decide +kernel)
set_option maxRecDepth 20000 in
theorem gX0_passOneHour_X0_cornerBehind : GoodIn wsX0_passOneHour (wsV RX0 119 RX0 yX0_cornerBehind wsX0_cornerBehind) := goodIn_app (goodIn_of _ (by decide +kernel)) ggX0_passOneHour_X0_cornerBehind
set_option maxRecDepth 20000 in
theorem ggX0_passOneHour_X0_townBehind : GoodIn wsX0_passOneHour wsX0_townBehind := goodIn_r _ [19, 1, 10, 11, 12, 13, 14, 2, 15, 20, 21, 22, 23, 24, 25, 26, 27, 28, 29, 30, 7, 31, 32, 33, 34, 35, 36, 37, 38, 39, 40, 49, 50, 51, 52, 53, 54, 55, 56, 57] (by decide +kernel) (by decide +kernel)
set_option maxRecDepth 20000 in
theorem gX0_passOneHour_X0_townBehind : GoodIn wsX0_passOneHour (wsV RX0 86 RX0 yX0_townBehind wsX0_townBehind) := goodIn_app (goodIn_of _ (by decide +kernel)) ggX0_passOneHour_X0_townBehind
set_option maxRecDepth 20000 in
theorem ggX0_passOneHour_X0_emptyCorners : GoodIn wsX0_passOneHour wsX0_emptyCorners := goodIn_r _ [44, 45, 46, 47, 13, 48, 1, 2, 49, 50, 51, 52, 53, 54, 55, 56, 57] (by decide +kernel) (by decide +kernel)
set_option maxRecDepth 20000 in
theorem gX0_passOneHour_X0_emptyCorners : GoodIn wsX0_passOneHour (wsV RX0 174 RX0 yX0_emptyCorners wsX0_emptyCorners) := goodIn_app (goodIn_of _ (by decide +kernel)) ggX0_passOneHour_X0_emptyCorners
theorem dX0_passOneHour_0 : decode cX0_passOneHour 0 = .ok (.iconst 0, 1) := by decide +kernel
theorem dX0_passOneHour_1 : decode cX0_passOneHour 1 = .ok (.istore_n 1, 1) := by decide +kernel
theorem dX0_passOneHour_2 : decode cX0_passOneHour 2 = .ok (.iload_n 1, 1) := by decide +kernel
theorem dX0_passOneHour_3 : decode cX0_passOneHour 3 = .ok (.aload_n 0, 1) := by decide +kernel
theorem dX0_passOneHour_4 : decode cX0_passOneHour 4 = .ok (.getfield 22, 3) := by decide +kernel
theorem dX0_passOneHour_7 : decode cX0_passOneHour 7 = .ok (.if_icmp .ge 21, 3) := by decide +kernel
theorem dX0_passOneHour_10 : decode cX0_passOneHour 10 = .ok (.aload_n 0, 1) := by decide +kernel
theorem dX0_passOneHour_11 : decode cX0_passOneHour 11 = .ok (.getfield 16, 3) := by decide +kernel
theorem dX0_passOneHour_14 : decode cX0_passOneHour 14 = .ok (.iload_n 1, 1) := by decide +kernel
theorem dX0_passOneHour_15 : decode cX0_passOneHour 15 = .ok (.aload_n 0, 1) := by decide +kernel
theorem dX0_passOneHour_16 : decode cX0_passOneHour 16 = .ok (.iload_n 1, 1) := by decide +kernel
theorem dX0_passOneHour_17 : decode cX0_passOneHour 17 = .ok (.iconst 1, 1) := by decide +kernel
theorem dX0_passOneHour_18 : decode cX0_passOneHour 18 = .ok (.invokevirtual 119, 3) := by decide +kernel
theorem dX0_passOneHour_21 : decode cX0_passOneHour 21 = .ok (.iastore, 1) := by decide +kernel
theorem dX0_passOneHour_22 : decode cX0_passOneHour 22 = .ok (.iinc 1 1, 3) := by decide +kernel
theorem dX0_passOneHour_25 : decode cX0_passOneHour 25 = .ok (.goto (-23), 3) := by decide +kernel
theorem dX0_passOneHour_28 : decode cX0_passOneHour 28 = .ok (.aload_n 0, 1) := by decide +kernel
theorem dX0_passOneHour_29 : decode cX0_passOneHour 29 = .ok (.dup, 1) := by decide +kernel
theorem dX0_passOneHour_30 : decode cX0_passOneHour 30 = .ok (.getfield 32, 3) := by decide +kernel
theorem dX0_passOneHour_33 : decode cX0_passOneHour 33 = .ok (.aload_n 0, 1) := by decide +kernel
theorem dX0_passOneHour_34 : decode cX0_passOneHour 34 = .ok (.iconst 0, 1) := by decide +kernel
theorem dX0_passOneHour_35 : decode cX0_passOneHour 35 = .ok (.invokevirtual 86, 3) := by decide +kernel
theorem dX0_passOneHour_38 : decode cX0_passOneHour 38 = .ok (.iadd, 1) := by decide +kernel
theorem dX0_passOneHour_39 : decode cX0_passOneHour 39 = .ok (.putfield 32, 3) := by decide +kernel
theorem dX0_passOneHour_42 : decode cX0_passOneHour 42 = .ok (.aload_n 0, 1) := by decide +kernel
theorem dX0_passOneHour_43 : decode cX0_passOneHour 43 = .ok (.bipush 100, 2) := by decide +kernel
theorem dX0_passOneHour_45 : decode cX0_passOneHour 45 = .ok (.aload_n 0, 1) := by decide +kernel
theorem dX0_passOneHour_46 : decode cX0_passOneHour 46 = .ok (.getfield 29, 3) := by decide +kernel
theorem dX0_passOneHour_49 : decode cX0_passOneHour 49 = .ok (.aload_n 0, 1) := by decide +kernel
theorem dX0_passOneHour_50 : decode cX0_passOneHour 50 = .ok (.invokevirtual 174, 3) := by decide +kernel
theorem dX0_passOneHour_53 : decode cX0_passOneHour 53 = .ok (.iadd, 1) := by decide +kernel
theorem dX0_passOneHour_54 : decode cX0_passOneHour 54 = .ok (.invokestatic 171, 3) := by decide +kernel
theorem dX0_passOneHour_57 : decode cX0_passOneHour 57 = .ok (.putfield 29, 3) := by decide +kernel
theorem dX0_passOneHour_60 : decode cX0_passOneHour 60 = .ok (.aload_n 0, 1) := by decide +kernel
theorem dX0_passOneHour_61 : decode cX0_passOneHour 61 = .ok (.dup, 1) := by decide +kernel
theorem dX0_passOneHour_62 : decode cX0_passOneHour 62 = .ok (.getfield 26, 3) := by decide +kernel
theorem dX0_passOneHour_65 : decode cX0_passOneHour 65 = .ok (.iconst 1, 1) := by decide +kernel
theorem dX0_passOneHour_66 : decode cX0_passOneHour 66 = .ok (.iadd, 1) := by decide +kernel
theorem dX0_passOneHour_67 : decode cX0_passOneHour 67 = .ok (.putfield 26, 3) := by decide +kernel
theorem dX0_passOneHour_70 : decode cX0_passOneHour 70 = .ok (.return_, 1) := by decide +kernel
set_option maxRecDepth 20000 in
theorem ggX0_emptyCorners_X0_crowdAt : GoodIn wsX0_emptyCorners wsX0_crowdAt := goodIn_r _ [5, 6, 7, 8, 9, 10, 11, 12, 13, 14, 15, 16] (by decide +kernel) (by decide +kernel)
set_option maxRecDepth 20000 in
theorem gX0_emptyCorners_X0_crowdAt : GoodIn wsX0_emptyCorners (wsV RX0 104 RX0 yX0_crowdAt wsX0_crowdAt) := goodIn_app (goodIn_of _ (by decide +kernel)) ggX0_emptyCorners_X0_crowdAt
theorem dX0_emptyCorners_0 : decode cX0_emptyCorners 0 = .ok (.iconst 0, 1) := by decide +kernel
theorem dX0_emptyCorners_1 : decode cX0_emptyCorners 1 = .ok (.istore_n 1, 1) := by decide +kernel
theorem dX0_emptyCorners_2 : decode cX0_emptyCorners 2 = .ok (.iconst 0, 1) := by decide +kernel
theorem dX0_emptyCorners_3 : decode cX0_emptyCorners 3 = .ok (.istore_n 2, 1) := by decide +kernel
theorem dX0_emptyCorners_4 : decode cX0_emptyCorners 4 = .ok (.iload_n 2, 1) := by decide +kernel
theorem dX0_emptyCorners_5 : decode cX0_emptyCorners 5 = .ok (.bipush 6, 2) := by decide +kernel
theorem dX0_emptyCorners_7 : decode cX0_emptyCorners 7 = .ok (.if_icmp .ge 20, 3) := by decide +kernel
theorem dX0_emptyCorners_10 : decode cX0_emptyCorners 10 = .ok (.aload_n 0, 1) := by decide +kernel
theorem dX0_emptyCorners_11 : decode cX0_emptyCorners 11 = .ok (.iload_n 2, 1) := by decide +kernel
theorem dX0_emptyCorners_12 : decode cX0_emptyCorners 12 = .ok (.invokevirtual 104, 3) := by decide +kernel
theorem dX0_emptyCorners_15 : decode cX0_emptyCorners 15 = .ok (.ifCond .ne 6, 3) := by decide +kernel
theorem dX0_emptyCorners_18 : decode cX0_emptyCorners 18 = .ok (.iinc 1 1, 3) := by decide +kernel
theorem dX0_emptyCorners_21 : decode cX0_emptyCorners 21 = .ok (.iinc 2 1, 3) := by decide +kernel
theorem dX0_emptyCorners_24 : decode cX0_emptyCorners 24 = .ok (.goto (-20), 3) := by decide +kernel
theorem dX0_emptyCorners_27 : decode cX0_emptyCorners 27 = .ok (.iload_n 1, 1) := by decide +kernel
theorem dX0_emptyCorners_28 : decode cX0_emptyCorners 28 = .ok (.ireturn, 1) := by decide +kernel
theorem dX0_crowdAt_0 : decode cX0_crowdAt 0 = .ok (.iconst 0, 1) := by decide +kernel
theorem dX0_crowdAt_1 : decode cX0_crowdAt 1 = .ok (.istore_n 2, 1) := by decide +kernel
theorem dX0_crowdAt_2 : decode cX0_crowdAt 2 = .ok (.iconst 0, 1) := by decide +kernel
theorem dX0_crowdAt_3 : decode cX0_crowdAt 3 = .ok (.istore_n 3, 1) := by decide +kernel
theorem dX0_crowdAt_4 : decode cX0_crowdAt 4 = .ok (.iload_n 3, 1) := by decide +kernel
theorem dX0_crowdAt_5 : decode cX0_crowdAt 5 = .ok (.aload_n 0, 1) := by decide +kernel
theorem dX0_crowdAt_6 : decode cX0_crowdAt 6 = .ok (.getfield 22, 3) := by decide +kernel
theorem dX0_crowdAt_9 : decode cX0_crowdAt 9 = .ok (.if_icmp .ge 22, 3) := by decide +kernel
theorem dX0_crowdAt_12 : decode cX0_crowdAt 12 = .ok (.aload_n 0, 1) := by decide +kernel
theorem dX0_crowdAt_13 : decode cX0_crowdAt 13 = .ok (.getfield 16, 3) := by decide +kernel
theorem dX0_crowdAt_16 : decode cX0_crowdAt 16 = .ok (.iload_n 3, 1) := by decide +kernel
theorem dX0_crowdAt_17 : decode cX0_crowdAt 17 = .ok (.iaload, 1) := by decide +kernel
theorem dX0_crowdAt_18 : decode cX0_crowdAt 18 = .ok (.iload_n 1, 1) := by decide +kernel
theorem dX0_crowdAt_19 : decode cX0_crowdAt 19 = .ok (.if_icmp .ne 6, 3) := by decide +kernel
theorem dX0_crowdAt_22 : decode cX0_crowdAt 22 = .ok (.iinc 2 1, 3) := by decide +kernel
theorem dX0_crowdAt_25 : decode cX0_crowdAt 25 = .ok (.iinc 3 1, 3) := by decide +kernel
theorem dX0_crowdAt_28 : decode cX0_crowdAt 28 = .ok (.goto (-24), 3) := by decide +kernel
theorem dX0_crowdAt_31 : decode cX0_crowdAt 31 = .ok (.iload_n 2, 1) := by decide +kernel
theorem dX0_crowdAt_32 : decode cX0_crowdAt 32 = .ok (.ireturn, 1) := by decide +kernel
theorem dX0_exchange_0 : decode cX0_exchange 0 = .ok (.aload_n 0, 1) := by decide +kernel
theorem dX0_exchange_1 : decode cX0_exchange 1 = .ok (.iload_n 1, 1) := by decide +kernel
theorem dX0_exchange_2 : decode cX0_exchange 2 = .ok (.iaload, 1) := by decide +kernel
theorem dX0_exchange_3 : decode cX0_exchange 3 = .ok (.istore_n 3, 1) := by decide +kernel
theorem dX0_exchange_4 : decode cX0_exchange 4 = .ok (.aload_n 0, 1) := by decide +kernel
theorem dX0_exchange_5 : decode cX0_exchange 5 = .ok (.iload_n 1, 1) := by decide +kernel
theorem dX0_exchange_6 : decode cX0_exchange 6 = .ok (.aload_n 0, 1) := by decide +kernel
theorem dX0_exchange_7 : decode cX0_exchange 7 = .ok (.iload_n 2, 1) := by decide +kernel
theorem dX0_exchange_8 : decode cX0_exchange 8 = .ok (.iaload, 1) := by decide +kernel
theorem dX0_exchange_9 : decode cX0_exchange 9 = .ok (.iastore, 1) := by decide +kernel
theorem dX0_exchange_10 : decode cX0_exchange 10 = .ok (.aload_n 0, 1) := by decide +kernel
theorem dX0_exchange_11 : decode cX0_exchange 11 = .ok (.iload_n 2, 1) := by decide +kernel
theorem dX0_exchange_12 : decode cX0_exchange 12 = .ok (.iload_n 3, 1) := by decide +kernel
theorem dX0_exchange_13 : decode cX0_exchange 13 = .ok (.iastore, 1) := by decide +kernel
theorem dX0_exchange_14 : decode cX0_exchange 14 = .ok (.return_, 1) := by decide +kernel
theorem dX0_mirrored_0 : decode cX0_mirrored 0 = .ok (.iload_n 0, 1) := by decide +kernel
theorem dX0_mirrored_1 : decode cX0_mirrored 1 = .ok (.bipush 10, 2) := by decide +kernel
theorem dX0_mirrored_3 : decode cX0_mirrored 3 = .ok (.idiv, 1) := by decide +kernel
theorem dX0_mirrored_4 : decode cX0_mirrored 4 = .ok (.iload_n 1, 1) := by decide +kernel
theorem dX0_mirrored_5 : decode cX0_mirrored 5 = .ok (.bipush 10, 2) := by decide +kernel
theorem dX0_mirrored_7 : decode cX0_mirrored 7 = .ok (.irem, 1) := by decide +kernel
theorem dX0_mirrored_8 : decode cX0_mirrored 8 = .ok (.if_icmp .ne 18, 3) := by decide +kernel
theorem dX0_mirrored_11 : decode cX0_mirrored 11 = .ok (.iload_n 0, 1) := by decide +kernel
theorem dX0_mirrored_12 : decode cX0_mirrored 12 = .ok (.bipush 10, 2) := by decide +kernel
theorem dX0_mirrored_14 : decode cX0_mirrored 14 = .ok (.irem, 1) := by decide +kernel
theorem dX0_mirrored_15 : decode cX0_mirrored 15 = .ok (.iload_n 1, 1) := by decide +kernel
theorem dX0_mirrored_16 : decode cX0_mirrored 16 = .ok (.bipush 10, 2) := by decide +kernel
theorem dX0_mirrored_18 : decode cX0_mirrored 18 = .ok (.idiv, 1) := by decide +kernel
theorem dX0_mirrored_19 : decode cX0_mirrored 19 = .ok (.if_icmp .ne 7, 3) := by decide +kernel
theorem dX0_mirrored_22 : decode cX0_mirrored 22 = .ok (.iconst 1, 1) := by decide +kernel
theorem dX0_mirrored_23 : decode cX0_mirrored 23 = .ok (.goto 4, 3) := by decide +kernel
theorem dX0_mirrored_26 : decode cX0_mirrored 26 = .ok (.iconst 0, 1) := by decide +kernel
theorem dX0_mirrored_27 : decode cX0_mirrored 27 = .ok (.ireturn, 1) := by decide +kernel
theorem dX0_figureSum_0 : decode cX0_figureSum 0 = .ok (.iload_n 0, 1) := by decide +kernel
theorem dX0_figureSum_1 : decode cX0_figureSum 1 = .ok (.bipush 10, 2) := by decide +kernel
theorem dX0_figureSum_3 : decode cX0_figureSum 3 = .ok (.idiv, 1) := by decide +kernel
theorem dX0_figureSum_4 : decode cX0_figureSum 4 = .ok (.iload_n 0, 1) := by decide +kernel
theorem dX0_figureSum_5 : decode cX0_figureSum 5 = .ok (.bipush 10, 2) := by decide +kernel
theorem dX0_figureSum_7 : decode cX0_figureSum 7 = .ok (.irem, 1) := by decide +kernel
theorem dX0_figureSum_8 : decode cX0_figureSum 8 = .ok (.iadd, 1) := by decide +kernel
theorem dX0_figureSum_9 : decode cX0_figureSum 9 = .ok (.ireturn, 1) := by decide +kernel
set_option maxRecDepth 20000 in
theorem ggX0_pointsOfTickets_X0_figureSum : GoodIn wsX0_pointsOfTickets wsX0_figureSum := goodIn_r _ [8] (by decide +kernel) (by decide +kernel)
set_option maxRecDepth 20000 in
theorem gX0_pointsOfTickets_X0_figureSum : GoodIn wsX0_pointsOfTickets (va_wsS RX0 177 yX0_figureSum wsX0_figureSum) := goodIn_app (goodIn_of _ (by decide +kernel)) ggX0_pointsOfTickets_X0_figureSum
set_option maxRecDepth 20000 in
theorem ggX0_pointsOfTickets_X0_mirrored : GoodIn wsX0_pointsOfTickets wsX0_mirrored := goodIn_r _ [11] (by decide +kernel) (by decide +kernel)
set_option maxRecDepth 20000 in
theorem gX0_pointsOfTickets_X0_mirrored : GoodIn wsX0_pointsOfTickets (va_wsS RX0 110 yX0_mirrored wsX0_mirrored) := goodIn_app (goodIn_of _ (by decide +kernel)) ggX0_pointsOfTickets_X0_mirrored
theorem dX0_pointsOfTickets_0 : decode cX0_pointsOfTickets 0 = .ok (.iconst 0, 1) := by decide +kernel
theorem dX0_pointsOfTickets_1 : decode cX0_pointsOfTickets 1 = .ok (.istore_n 2, 1) := by decide +kernel
theorem dX0_pointsOfTickets_2 : decode cX0_pointsOfTickets 2 = .ok (.iload_n 0, 1) := by decide +kernel
theorem dX0_pointsOfTickets_3 : decode cX0_pointsOfTickets 3 = .ok (.bipush 10, 2) := by decide +kernel
theorem dX0_pointsOfTickets_5 : decode cX0_pointsOfTickets 5 = .ok (.irem, 1) := by decide +kernel
theorem dX0_pointsOfTickets_6 : decode cX0_pointsOfTickets 6 = .ok (.iload_n 1, 1) := by decide +kernel
theorem dX0_pointsOfTickets_7 : decode cX0_pointsOfTickets 7 = .ok (.bipush 10, 2) := by decide +kernel
theorem dX0_pointsOfTickets_9 : decode cX0_pointsOfTickets 9 = .ok (.irem, 1) := by decide +kernel
theorem dX0_pointsOfTickets_10 : decode cX0_pointsOfTickets 10 = .ok (.if_icmp .ne 6, 3) := by decide +kernel
theorem dX0_pointsOfTickets_13 : decode cX0_pointsOfTickets 13 = .ok (.iinc 2 1, 3) := by decide +kernel
theorem dX0_pointsOfTickets_16 : decode cX0_pointsOfTickets 16 = .ok (.iload_n 0, 1) := by decide +kernel
theorem dX0_pointsOfTickets_17 : decode cX0_pointsOfTickets 17 = .ok (.invokestatic 177, 3) := by decide +kernel
theorem dX0_pointsOfTickets_20 : decode cX0_pointsOfTickets 20 = .ok (.iload_n 1, 1) := by decide +kernel
theorem dX0_pointsOfTickets_21 : decode cX0_pointsOfTickets 21 = .ok (.invokestatic 177, 3) := by decide +kernel
theorem dX0_pointsOfTickets_24 : decode cX0_pointsOfTickets 24 = .ok (.if_icmp .ne 6, 3) := by decide +kernel
theorem dX0_pointsOfTickets_27 : decode cX0_pointsOfTickets 27 = .ok (.iinc 2 2, 3) := by decide +kernel
theorem dX0_pointsOfTickets_30 : decode cX0_pointsOfTickets 30 = .ok (.iload_n 0, 1) := by decide +kernel
theorem dX0_pointsOfTickets_31 : decode cX0_pointsOfTickets 31 = .ok (.iload_n 1, 1) := by decide +kernel
theorem dX0_pointsOfTickets_32 : decode cX0_pointsOfTickets 32 = .ok (.isub, 1) := by decide +kernel
theorem dX0_pointsOfTickets_33 : decode cX0_pointsOfTickets 33 = .ok (.invokestatic 166, 3) := by decide +kernel
theorem dX0_pointsOfTickets_36 : decode cX0_pointsOfTickets 36 = .ok (.iconst 1, 1) := by decide +kernel
theorem dX0_pointsOfTickets_37 : decode cX0_pointsOfTickets 37 = .ok (.if_icmp .ne 6, 3) := by decide +kernel
theorem dX0_pointsOfTickets_40 : decode cX0_pointsOfTickets 40 = .ok (.iinc 2 3, 3) := by decide +kernel
theorem dX0_pointsOfTickets_43 : decode cX0_pointsOfTickets 43 = .ok (.iload_n 0, 1) := by decide +kernel
theorem dX0_pointsOfTickets_44 : decode cX0_pointsOfTickets 44 = .ok (.iload_n 1, 1) := by decide +kernel
theorem dX0_pointsOfTickets_45 : decode cX0_pointsOfTickets 45 = .ok (.invokestatic 110, 3) := by decide +kernel
theorem dX0_pointsOfTickets_48 : decode cX0_pointsOfTickets 48 = .ok (.ifCond .eq 6, 3) := by decide +kernel
theorem dX0_pointsOfTickets_51 : decode cX0_pointsOfTickets 51 = .ok (.iinc 2 5, 3) := by decide +kernel
theorem dX0_pointsOfTickets_54 : decode cX0_pointsOfTickets 54 = .ok (.iload_n 2, 1) := by decide +kernel
theorem dX0_pointsOfTickets_55 : decode cX0_pointsOfTickets 55 = .ok (.ireturn, 1) := by decide +kernel
theorem dX0_pointsOfColours_0 : decode cX0_pointsOfColours 0 = .ok (.iload_n 0, 1) := by decide +kernel
theorem dX0_pointsOfColours_1 : decode cX0_pointsOfColours 1 = .ok (.iload_n 1, 1) := by decide +kernel
theorem dX0_pointsOfColours_2 : decode cX0_pointsOfColours 2 = .ok (.if_icmp .ne 7, 3) := by decide +kernel
theorem dX0_pointsOfColours_5 : decode cX0_pointsOfColours 5 = .ok (.iconst 2, 1) := by decide +kernel
theorem dX0_pointsOfColours_6 : decode cX0_pointsOfColours 6 = .ok (.goto 4, 3) := by decide +kernel
theorem dX0_pointsOfColours_9 : decode cX0_pointsOfColours 9 = .ok (.iconst 0, 1) := by decide +kernel
theorem dX0_pointsOfColours_10 : decode cX0_pointsOfColours 10 = .ok (.ireturn, 1) := by decide +kernel
set_option maxRecDepth 20000 in
theorem ggX0_pointsOfPair_X0_pointsOfTickets : GoodIn wsX0_pointsOfPair wsX0_pointsOfTickets := goodIn_r _ [6, 7, 8, 9, 10, 11, 12, 5, 13, 14, 15, 16] (by decide +kernel) (by decide +kernel)
set_option maxRecDepth 20000 in
theorem gX0_pointsOfPair_X0_pointsOfTickets : GoodIn wsX0_pointsOfPair (va_wsS RX0 180 yX0_pointsOfTickets wsX0_pointsOfTickets) := goodIn_app (goodIn_of _ (by decide +kernel)) ggX0_pointsOfPair_X0_pointsOfTickets
set_option maxRecDepth 20000 in
theorem ggX0_pointsOfPair_X0_pointsOfColours : GoodIn wsX0_pointsOfPair wsX0_pointsOfColours := goodIn_r _ [19] (by decide +kernel) (by decide +kernel)
set_option maxRecDepth 20000 in
theorem gX0_pointsOfPair_X0_pointsOfColours : GoodIn wsX0_pointsOfPair (va_wsS RX0 183 yX0_pointsOfColours wsX0_pointsOfColours) := goodIn_app (goodIn_of _ (by decide +kernel)) ggX0_pointsOfPair_X0_pointsOfColours
theorem dX0_pointsOfPair_0 : decode cX0_pointsOfPair 0 = .ok (.aload_n 0, 1) := by decide +kernel
theorem dX0_pointsOfPair_1 : decode cX0_pointsOfPair 1 = .ok (.getfield 9, 3) := by decide +kernel
theorem dX0_pointsOfPair_4 : decode cX0_pointsOfPair 4 = .ok (.iload_n 1, 1) := by decide +kernel
theorem dX0_pointsOfPair_5 : decode cX0_pointsOfPair 5 = .ok (.iaload, 1) := by decide +kernel
theorem dX0_pointsOfPair_6 : decode cX0_pointsOfPair 6 = .ok (.aload_n 0, 1) := by decide +kernel
theorem dX0_pointsOfPair_7 : decode cX0_pointsOfPair 7 = .ok (.getfield 9, 3) := by decide +kernel
theorem dX0_pointsOfPair_10 : decode cX0_pointsOfPair 10 = .ok (.iload_n 2, 1) := by decide +kernel
theorem dX0_pointsOfPair_11 : decode cX0_pointsOfPair 11 = .ok (.iaload, 1) := by decide +kernel
theorem dX0_pointsOfPair_12 : decode cX0_pointsOfPair 12 = .ok (.invokestatic 180, 3) := by decide +kernel
theorem dX0_pointsOfPair_15 : decode cX0_pointsOfPair 15 = .ok (.aload_n 0, 1) := by decide +kernel
theorem dX0_pointsOfPair_16 : decode cX0_pointsOfPair 16 = .ok (.getfield 13, 3) := by decide +kernel
theorem dX0_pointsOfPair_19 : decode cX0_pointsOfPair 19 = .ok (.iload_n 1, 1) := by decide +kernel
theorem dX0_pointsOfPair_20 : decode cX0_pointsOfPair 20 = .ok (.iaload, 1) := by decide +kernel
theorem dX0_pointsOfPair_21 : decode cX0_pointsOfPair 21 = .ok (.aload_n 0, 1) := by decide +kernel
theorem dX0_pointsOfPair_22 : decode cX0_pointsOfPair 22 = .ok (.getfield 13, 3) := by decide +kernel
theorem dX0_pointsOfPair_25 : decode cX0_pointsOfPair 25 = .ok (.iload_n 2, 1) := by decide +kernel
theorem dX0_pointsOfPair_26 : decode cX0_pointsOfPair 26 = .ok (.iaload, 1) := by decide +kernel
theorem dX0_pointsOfPair_27 : decode cX0_pointsOfPair 27 = .ok (.invokestatic 183, 3) := by decide +kernel
theorem dX0_pointsOfPair_30 : decode cX0_pointsOfPair 30 = .ok (.iadd, 1) := by decide +kernel
theorem dX0_pointsOfPair_31 : decode cX0_pointsOfPair 31 = .ok (.ireturn, 1) := by decide +kernel
theorem dX0_cornerBehind_0 : decode cX0_cornerBehind 0 = .ok (.aload_n 0, 1) := by decide +kernel
theorem dX0_cornerBehind_1 : decode cX0_cornerBehind 1 = .ok (.getfield 16, 3) := by decide +kernel
theorem dX0_cornerBehind_4 : decode cX0_cornerBehind 4 = .ok (.iload_n 1, 1) := by decide +kernel
theorem dX0_cornerBehind_5 : decode cX0_cornerBehind 5 = .ok (.iaload, 1) := by decide +kernel
theorem dX0_cornerBehind_6 : decode cX0_cornerBehind 6 = .ok (.aload_n 0, 1) := by decide +kernel
theorem dX0_cornerBehind_7 : decode cX0_cornerBehind 7 = .ok (.getfield 19, 3) := by decide +kernel
theorem dX0_cornerBehind_10 : decode cX0_cornerBehind 10 = .ok (.iload_n 1, 1) := by decide +kernel
theorem dX0_cornerBehind_11 : decode cX0_cornerBehind 11 = .ok (.iaload, 1) := by decide +kernel
theorem dX0_cornerBehind_12 : decode cX0_cornerBehind 12 = .ok (.iload_n 2, 1) := by decide +kernel
theorem dX0_cornerBehind_13 : decode cX0_cornerBehind 13 = .ok (.imul, 1) := by decide +kernel
theorem dX0_cornerBehind_14 : decode cX0_cornerBehind 14 = .ok (.iadd, 1) := by decide +kernel
theorem dX0_cornerBehind_15 : decode cX0_cornerBehind 15 = .ok (.bipush 6, 2) := by decide +kernel
theorem dX0_cornerBehind_17 : decode cX0_cornerBehind 17 = .ok (.irem, 1) := by decide +kernel
theorem dX0_cornerBehind_18 : decode cX0_cornerBehind 18 = .ok (.ireturn, 1) := by decide +kernel
set_option maxRecDepth 20000 in
theorem ggX0_townBehind_X0_cornerBehind : GoodIn wsX0_townBehind wsX0_cornerBehind := goodIn_r _ [6, 7, 8, 31, 32, 33, 34, 35, 36, 37, 38, 39] (by decide +kernel) (by decide +kernel)
set_option maxRecDepth 20000 in
theorem gX0_townBehind_X0_cornerBehind : GoodIn wsX0_townBehind (wsV RX0 119 RX0 yX0_cornerBehind wsX0_cornerBehind) := goodIn_app (goodIn_of _ (by decide +kernel)) ggX0_townBehind_X0_cornerBehind
set_option maxRecDepth 20000 in
theorem ggX0_townBehind_X0_pointsOfPair : GoodIn wsX0_townBehind wsX0_pointsOfPair := goodIn_r _ [12, 13, 14, 15, 16, 5, 17, 18, 19, 20, 21, 22, 23, 24, 25, 26, 27, 28, 29, 30, 31, 32, 33, 34, 35, 36, 37, 38, 39] (by decide +kernel) (by decide +kernel)
set_option maxRecDepth 20000 in
theorem gX0_townBehind_X0_pointsOfPair : GoodIn wsX0_townBehind (wsV RX0 107 RX0 yX0_pointsOfPair wsX0_pointsOfPair) := goodIn_app (goodIn_of _ (by decide +kernel)) ggX0_townBehind_X0_pointsOfPair
theorem dX0_townBehind_0 : decode cX0_townBehind 0 = .ok (.iconst 0, 1) := by decide +kernel
theorem dX0_townBehind_1 : decode cX0_townBehind 1 = .ok (.istore_n 2, 1) := by decide +kernel
theorem dX0_townBehind_2 : decode cX0_townBehind 2 = .ok (.iconst 0, 1) := by decide +kernel
theorem dX0_townBehind_3 : decode cX0_townBehind 3 = .ok (.istore_n 3, 1) := by decide +kernel
theorem dX0_townBehind_4 : decode cX0_townBehind 4 = .ok (.iload_n 3, 1) := by decide +kernel
theorem dX0_townBehind_5 : decode cX0_townBehind 5 = .ok (.aload_n 0, 1) := by decide +kernel
theorem dX0_townBehind_6 : decode cX0_townBehind 6 = .ok (.getfield 22, 3) := by decide +kernel
theorem dX0_townBehind_9 : decode cX0_townBehind 9 = .ok (.if_icmp .ge 55, 3) := by decide +kernel
theorem dX0_townBehind_12 : decode cX0_townBehind 12 = .ok (.iload_n 3, 1) := by decide +kernel
theorem dX0_townBehind_13 : decode cX0_townBehind 13 = .ok (.iconst 1, 1) := by decide +kernel
theorem dX0_townBehind_14 : decode cX0_townBehind 14 = .ok (.iadd, 1) := by decide +kernel
theorem dX0_townBehind_15 : decode cX0_townBehind 15 = .ok (.istore 4, 2) := by decide +kernel
theorem dX0_townBehind_17 : decode cX0_townBehind 17 = .ok (.iload 4, 2) := by decide +kernel
theorem dX0_townBehind_19 : decode cX0_townBehind 19 = .ok (.aload_n 0, 1) := by decide +kernel
theorem dX0_townBehind_20 : decode cX0_townBehind 20 = .ok (.getfield 22, 3) := by decide +kernel
theorem dX0_townBehind_23 : decode cX0_townBehind 23 = .ok (.if_icmp .ge 35, 3) := by decide +kernel
theorem dX0_townBehind_26 : decode cX0_townBehind 26 = .ok (.aload_n 0, 1) := by decide +kernel
theorem dX0_townBehind_27 : decode cX0_townBehind 27 = .ok (.iload_n 3, 1) := by decide +kernel
theorem dX0_townBehind_28 : decode cX0_townBehind 28 = .ok (.iload_n 1, 1) := by decide +kernel
theorem dX0_townBehind_29 : decode cX0_townBehind 29 = .ok (.invokevirtual 119, 3) := by decide +kernel
theorem dX0_townBehind_32 : decode cX0_townBehind 32 = .ok (.aload_n 0, 1) := by decide +kernel
theorem dX0_townBehind_33 : decode cX0_townBehind 33 = .ok (.iload 4, 2) := by decide +kernel
theorem dX0_townBehind_35 : decode cX0_townBehind 35 = .ok (.iload_n 1, 1) := by decide +kernel
theorem dX0_townBehind_36 : decode cX0_townBehind 36 = .ok (.invokevirtual 119, 3) := by decide +kernel
theorem dX0_townBehind_39 : decode cX0_townBehind 39 = .ok (.if_icmp .ne 13, 3) := by decide +kernel
theorem dX0_townBehind_42 : decode cX0_townBehind 42 = .ok (.iload_n 2, 1) := by decide +kernel
theorem dX0_townBehind_43 : decode cX0_townBehind 43 = .ok (.aload_n 0, 1) := by decide +kernel
theorem dX0_townBehind_44 : decode cX0_townBehind 44 = .ok (.iload_n 3, 1) := by decide +kernel
theorem dX0_townBehind_45 : decode cX0_townBehind 45 = .ok (.iload 4, 2) := by decide +kernel
theorem dX0_townBehind_47 : decode cX0_townBehind 47 = .ok (.invokevirtual 107, 3) := by decide +kernel
theorem dX0_townBehind_50 : decode cX0_townBehind 50 = .ok (.iadd, 1) := by decide +kernel
theorem dX0_townBehind_51 : decode cX0_townBehind 51 = .ok (.istore_n 2, 1) := by decide +kernel
theorem dX0_townBehind_52 : decode cX0_townBehind 52 = .ok (.iinc 4 1, 3) := by decide +kernel
theorem dX0_townBehind_55 : decode cX0_townBehind 55 = .ok (.goto (-38), 3) := by decide +kernel
theorem dX0_townBehind_58 : decode cX0_townBehind 58 = .ok (.iinc 3 1, 3) := by decide +kernel
theorem dX0_townBehind_61 : decode cX0_townBehind 61 = .ok (.goto (-57), 3) := by decide +kernel
theorem dX0_townBehind_64 : decode cX0_townBehind 64 = .ok (.iload_n 2, 1) := by decide +kernel
theorem dX0_townBehind_65 : decode cX0_townBehind 65 = .ok (.ireturn, 1) := by decide +kernel
set_option maxRecDepth 20000 in
theorem ggX0_townIfSwapped_X0_exchange : GoodIn wsX0_townIfSwapped wsX0_exchange := goodIn_r _ [5] (by decide +kernel) (by decide +kernel)
set_option maxRecDepth 20000 in
theorem gX0_townIfSwapped_X0_exchange : GoodIn wsX0_townIfSwapped (va_wsS RX0 90 yX0_exchange wsX0_exchange) := goodIn_app (goodIn_of _ (by decide +kernel)) ggX0_townIfSwapped_X0_exchange
set_option maxRecDepth 20000 in
theorem ggX0_townIfSwapped_X0_townBehind : GoodIn wsX0_townIfSwapped wsX0_townBehind := goodIn_r _ [9, 10, 11, 12, 13, 4, 14, 15, 16, 17, 18, 19, 20, 1, 21, 22, 23, 24, 25, 26, 27, 28, 29, 30, 31, 32, 33, 34, 35, 36, 37, 38, 39, 40, 41, 42, 43, 44, 45, 46] (by decide +kernel) (by decide +kernel)
set_option maxRecDepth 20000 in
theorem gX0_townIfSwapped_X0_townBehind : GoodIn wsX0_townIfSwapped (wsV RX0 86 RX0 yX0_townBehind wsX0_townBehind) := goodIn_app (goodIn_of _ (by decide +kernel)) ggX0_townIfSwapped_X0_townBehind
theorem dX0_townIfSwapped_0 : decode cX0_townIfSwapped 0 = .ok (.aload_n 0, 1) := by decide +kernel
theorem dX0_townIfSwapped_1 : decode cX0_townIfSwapped 1 = .ok (.getfield 9, 3) := by decide +kernel
theorem dX0_townIfSwapped_4 : decode cX0_townIfSwapped 4 = .ok (.iload_n 1, 1) := by decide +kernel
theorem dX0_townIfSwapped_5 : decode cX0_townIfSwapped 5 = .ok (.iload_n 2, 1) := by decide +kernel
theorem dX0_townIfSwapped_6 : decode cX0_townIfSwapped 6 = .ok (.invokestatic 90, 3) := by decide +kernel
theorem dX0_townIfSwapped_9 : decode cX0_townIfSwapped 9 = .ok (.aload_n 0, 1) := by decide +kernel
theorem dX0_townIfSwapped_10 : decode cX0_townIfSwapped 10 = .ok (.iconst 0, 1) := by decide +kernel
theorem dX0_townIfSwapped_11 : decode cX0_townIfSwapped 11 = .ok (.invokevirtual 86, 3) := by decide +kernel
theorem dX0_townIfSwapped_14 : decode cX0_townIfSwapped 14 = .ok (.istore_n 3, 1) := by decide +kernel
theorem dX0_townIfSwapped_15 : decode cX0_townIfSwapped 15 = .ok (.aload_n 0, 1) := by decide +kernel
theorem dX0_townIfSwapped_16 : decode cX0_townIfSwapped 16 = .ok (.getfield 9, 3) := by decide +kernel
theorem dX0_townIfSwapped_19 : decode cX0_townIfSwapped 19 = .ok (.iload_n 1, 1) := by decide +kernel
theorem dX0_townIfSwapped_20 : decode cX0_townIfSwapped 20 = .ok (.iload_n 2, 1) := by decide +kernel
theorem dX0_townIfSwapped_21 : decode cX0_townIfSwapped 21 = .ok (.invokestatic 90, 3) := by decide +kernel
theorem dX0_townIfSwapped_24 : decode cX0_townIfSwapped 24 = .ok (.iload_n 3, 1) := by decide +kernel
theorem dX0_townIfSwapped_25 : decode cX0_townIfSwapped 25 = .ok (.ireturn, 1) := by decide +kernel
set_option maxRecDepth 20000 in
theorem ggX0_luckNow_X0_luckWith : GoodIn wsX0_luckNow wsX0_luckWith := goodIn_r _ [7, 8, 2, 1, 9, 10, 11, 6, 12, 13, 14, 15, 16, 17, 18, 19, 20, 21, 22, 23, 24, 25, 26, 27, 28, 29, 30, 31, 32, 33, 34] (by decide +kernel) (by decide +kernel)
set_option maxRecDepth 20000 in
theorem gX0_luckNow_X0_luckWith : GoodIn wsX0_luckNow (wsV RX0 122 RX0 yX0_luckWith wsX0_luckWith) := goodIn_app (goodIn_of _ (by decide +kernel)) ggX0_luckNow_X0_luckWith
theorem dX0_luckNow_0 : decode cX0_luckNow 0 = .ok (.aload_n 0, 1) := by decide +kernel
theorem dX0_luckNow_1 : decode cX0_luckNow 1 = .ok (.iload_n 1, 1) := by decide +kernel
theorem dX0_luckNow_2 : decode cX0_luckNow 2 = .ok (.aload_n 0, 1) := by decide +kernel
theorem dX0_luckNow_3 : decode cX0_luckNow 3 = .ok (.getfield 9, 3) := by decide +kernel
theorem dX0_luckNow_6 : decode cX0_luckNow 6 = .ok (.iload_n 1, 1) := by decide +kernel
theorem dX0_luckNow_7 : decode cX0_luckNow 7 = .ok (.iaload, 1) := by decide +kernel
theorem dX0_luckNow_8 : decode cX0_luckNow 8 = .ok (.aload_n 0, 1) := by decide +kernel
theorem dX0_luckNow_9 : decode cX0_luckNow 9 = .ok (.getfield 16, 3) := by decide +kernel
theorem dX0_luckNow_12 : decode cX0_luckNow 12 = .ok (.iload_n 1, 1) := by decide +kernel
theorem dX0_luckNow_13 : decode cX0_luckNow 13 = .ok (.iaload, 1) := by decide +kernel
theorem dX0_luckNow_14 : decode cX0_luckNow 14 = .ok (.invokevirtual 122, 3) := by decide +kernel
theorem dX0_luckNow_17 : decode cX0_luckNow 17 = .ok (.ireturn, 1) := by decide +kernel
set_option maxRecDepth 20000 in
theorem ggX0_luckWith_X0_pointsOfTickets : GoodIn wsX0_luckWith wsX0_pointsOfTickets := goodIn_r _ [8, 9, 10, 11, 12, 13, 14, 7, 15, 16, 17, 18] (by decide +kernel) (by decide +kernel)
set_option maxRecDepth 20000 in
theorem gX0_luckWith_X0_pointsOfTickets : GoodIn wsX0_luckWith (va_wsS RX0 180 yX0_pointsOfTickets wsX0_pointsOfTickets) := goodIn_app (goodIn_of _ (by decide +kernel)) ggX0_luckWith_X0_pointsOfTickets
set_option maxRecDepth 20000 in
theorem ggX0_luckWith_X0_pointsOfColours : GoodIn wsX0_luckWith wsX0_pointsOfColours := goodIn_r _ [21] (by decide +kernel) (by decide +kernel)
set_option maxRecDepth 20000 in
theorem gX0_luckWith_X0_pointsOfColours : GoodIn wsX0_luckWith (va_wsS RX0 183 yX0_pointsOfColours wsX0_pointsOfColours) := goodIn_app (goodIn_of _ (by decide +kernel)) ggX0_luckWith_X0_pointsOfColours
theorem dX0_luckWith_0 : decode cX0_luckWith 0 = .ok (.iconst 0, 1) := by decide +kernel
theorem dX0_luckWith_1 : decode cX0_luckWith 1 = .ok (.istore 4, 2) := by decide +kernel
theorem dX0_luckWith_3 : decode cX0_luckWith 3 = .ok (.iconst 0, 1) := by decide +kernel
theorem dX0_luckWith_4 : decode cX0_luckWith 4 = .ok (.istore 5, 2) := by decide +kernel
theorem dX0_luckWith_6 : decode cX0_luckWith 6 = .ok (.iload 5, 2) := by decide +kernel
theorem dX0_luckWith_8 : decode cX0_luckWith 8 = .ok (.aload_n 0, 1) := by decide +kernel
theorem dX0_luckWith_9 : decode cX0_luckWith 9 = .ok (.getfield 22, 3) := by decide +kernel
theorem dX0_luckWith_12 : decode cX0_luckWith 12 = .ok (.if_icmp .ge 59, 3) := by decide +kernel
theorem dX0_luckWith_15 : decode cX0_luckWith 15 = .ok (.iload 5, 2) := by decide +kernel
theorem dX0_luckWith_17 : decode cX0_luckWith 17 = .ok (.iload_n 1, 1) := by decide +kernel
theorem dX0_luckWith_18 : decode cX0_luckWith 18 = .ok (.if_icmp .eq 47, 3) := by decide +kernel
theorem dX0_luckWith_21 : decode cX0_luckWith 21 = .ok (.aload_n 0, 1) := by decide +kernel
theorem dX0_luckWith_22 : decode cX0_luckWith 22 = .ok (.getfield 16, 3) := by decide +kernel
theorem dX0_luckWith_25 : decode cX0_luckWith 25 = .ok (.iload 5, 2) := by decide +kernel
theorem dX0_luckWith_27 : decode cX0_luckWith 27 = .ok (.iaload, 1) := by decide +kernel
theorem dX0_luckWith_28 : decode cX0_luckWith 28 = .ok (.iload_n 3, 1) := by decide +kernel
theorem dX0_luckWith_29 : decode cX0_luckWith 29 = .ok (.if_icmp .ne 36, 3) := by decide +kernel
theorem dX0_luckWith_32 : decode cX0_luckWith 32 = .ok (.iload 4, 2) := by decide +kernel
theorem dX0_luckWith_34 : decode cX0_luckWith 34 = .ok (.iload_n 2, 1) := by decide +kernel
theorem dX0_luckWith_35 : decode cX0_luckWith 35 = .ok (.aload_n 0, 1) := by decide +kernel
theorem dX0_luckWith_36 : decode cX0_luckWith 36 = .ok (.getfield 9, 3) := by decide +kernel
theorem dX0_luckWith_39 : decode cX0_luckWith 39 = .ok (.iload 5, 2) := by decide +kernel
theorem dX0_luckWith_41 : decode cX0_luckWith 41 = .ok (.iaload, 1) := by decide +kernel
theorem dX0_luckWith_42 : decode cX0_luckWith 42 = .ok (.invokestatic 180, 3) := by decide +kernel
theorem dX0_luckWith_45 : decode cX0_luckWith 45 = .ok (.aload_n 0, 1) := by decide +kernel
theorem dX0_luckWith_46 : decode cX0_luckWith 46 = .ok (.getfield 13, 3) := by decide +kernel
theorem dX0_luckWith_49 : decode cX0_luckWith 49 = .ok (.iload_n 1, 1) := by decide +kernel
theorem dX0_luckWith_50 : decode cX0_luckWith 50 = .ok (.iaload, 1) := by decide +kernel
theorem dX0_luckWith_51 : decode cX0_luckWith 51 = .ok (.aload_n 0, 1) := by decide +kernel
theorem dX0_luckWith_52 : decode cX0_luckWith 52 = .ok (.getfield 13, 3) := by decide +kernel
theorem dX0_luckWith_55 : decode cX0_luckWith 55 = .ok (.iload 5, 2) := by decide +kernel
theorem dX0_luckWith_57 : decode cX0_luckWith 57 = .ok (.iaload, 1) := by decide +kernel
theorem dX0_luckWith_58 : decode cX0_luckWith 58 = .ok (.invokestatic 183, 3) := by decide +kernel
theorem dX0_luckWith_61 : decode cX0_luckWith 61 = .ok (.iadd, 1) := by decide +kernel
theorem dX0_luckWith_62 : decode cX0_luckWith 62 = .ok (.iadd, 1) := by decide +kernel
theorem dX0_luckWith_63 : decode cX0_luckWith 63 = .ok (.istore 4, 2) := by decide +kernel
theorem dX0_luckWith_65 : decode cX0_luckWith 65 = .ok (.iinc 5 1, 3) := by decide +kernel
theorem dX0_luckWith_68 : decode cX0_luckWith 68 = .ok (.goto (-62), 3) := by decide +kernel
theorem dX0_luckWith_71 : decode cX0_luckWith 71 = .ok (.iload 4, 2) := by decide +kernel
theorem dX0_luckWith_73 : decode cX0_luckWith 73 = .ok (.ireturn, 1) := by decide +kernel
theorem dX0_mixed_0 : decode cX0_mixed 0 = .ok (.lload_n 0, 1) := by decide +kernel
theorem dX0_mixed_1 : decode cX0_mixed 1 = .ok (.ldc2_w 186, 3) := by decide +kernel
theorem dX0_mixed_4 : decode cX0_mixed 4 = .ok (.lmul, 1) := by decide +kernel
theorem dX0_mixed_5 : decode cX0_mixed 5 = .ok (.lload_n 2, 1) := by decide +kernel
theorem dX0_mixed_6 : decode cX0_mixed 6 = .ok (.ladd, 1) := by decide +kernel
theorem dX0_mixed_7 : decode cX0_mixed 7 = .ok (.lreturn, 1) := by decide +kernel
end
section
theorem dX1_init_0 : decode cX1_init 0 = .ok (.aload_n 0, 1) := by decide +kernel
theorem dX1_init_1 : decode cX1_init 1 = .ok (.invokespecial 1, 3) := by decide +kernel
theorem dX1_init_4 : decode cX1_init 4 = .ok (.aload_n 0, 1) := by decide +kernel
theorem dX1_init_5 : decode cX1_init 5 = .ok (.bipush 20, 2) := by decide +kernel
theorem dX1_init_7 : decode cX1_init 7 = .ok (.putfield 7, 3) := by decide +kernel
theorem dX1_init_10 : decode cX1_init 10 = .ok (.aload_n 0, 1) := by decide +kernel
theorem dX1_init_11 : decode cX1_init 11 = .ok (.iconst 0, 1) := by decide +kernel
theorem dX1_init_12 : decode cX1_init 12 = .ok (.anewarray 13, 3) := by decide +kernel
theorem dX1_init_15 : decode cX1_init 15 = .ok (.putfield 15, 3) := by decide +kernel
theorem dX1_init_18 : decode cX1_init 18 = .ok (.return_, 1) := by decide +kernel
theorem dX1_with_0 : decode cX1_with 0 = .ok (.aload_n 0, 1) := by decide +kernel
theorem dX1_with_1 : decode cX1_with 1 = .ok (.arraylength, 1) := by decide +kernel
theorem dX1_with_2 : decode cX1_with 2 = .ok (.iconst 1, 1) := by decide +kernel
theorem dX1_with_3 : decode cX1_with 3 = .ok (.iadd, 1) := by decide +kernel
theorem dX1_with_4 : decode cX1_with 4 = .ok (.anewarray 13, 3) := by decide +kernel
theorem dX1_with_7 : decode cX1_with 7 = .ok (.astore_n 2, 1) := by decide +kernel
theorem dX1_with_8 : decode cX1_with 8 = .ok (.iconst 0, 1) := by decide +kernel
theorem dX1_with_9 : decode cX1_with 9 = .ok (.istore_n 3, 1) := by decide +kernel
theorem dX1_with_10 : decode cX1_with 10 = .ok (.iload_n 3, 1) := by decide +kernel
theorem dX1_with_11 : decode cX1_with 11 = .ok (.aload_n 0, 1) := by decide +kernel
theorem dX1_with_12 : decode cX1_with 12 = .ok (.arraylength, 1) := by decide +kernel
theorem dX1_with_13 : decode cX1_with 13 = .ok (.if_icmp .ge 15, 3) := by decide +kernel
theorem dX1_with_16 : decode cX1_with 16 = .ok (.aload_n 2, 1) := by decide +kernel
theorem dX1_with_17 : decode cX1_with 17 = .ok (.iload_n 3, 1) := by decide +kernel
theorem dX1_with_18 : decode cX1_with 18 = .ok (.aload_n 0, 1) := by decide +kernel
theorem dX1_with_19 : decode cX1_with 19 = .ok (.iload_n 3, 1) := by decide +kernel
theorem dX1_with_20 : decode cX1_with 20 = .ok (.aaload, 1) := by decide +kernel
theorem dX1_with_21 : decode cX1_with 21 = .ok (.aastore, 1) := by decide +kernel
theorem dX1_with_22 : decode cX1_with 22 = .ok (.iinc 3 1, 3) := by decide +kernel
theorem dX1_with_25 : decode cX1_with 25 = .ok (.goto (-15), 3) := by decide +kernel
theorem dX1_with_28 : decode cX1_with 28 = .ok (.aload_n 2, 1) := by decide +kernel
theorem dX1_with_29 : decode cX1_with 29 = .ok (.aload_n 0, 1) := by decide +kernel
theorem dX1_with_30 : decode cX1_with 30 = .ok (.arraylength, 1) := by decide +kernel
theorem dX1_with_31 : decode cX1_with 31 = .ok (.aload_n 1, 1) := by decide +kernel
theorem dX1_with_32 : decode cX1_with 32 = .ok (.aastore, 1) := by decide +kernel
theorem dX1_with_33 : decode cX1_with 33 = .ok (.aload_n 2, 1) := by decide +kernel
theorem dX1_with_34 : decode cX1_with 34 = .ok (.areturn, 1) := by decide +kernel
theorem dX1_ticket_0 : decode cX1_ticket 0 = .ok (.bipush 10, 2) := by decide +kernel
theorem dX1_ticket_2 : decode cX1_ticket 2 = .ok (.aload_n 0, 1) := by decide +kernel
theorem dX1_ticket_3 : decode cX1_ticket 3 = .ok (.getfield 15, 3) := by decide +kernel
theorem dX1_ticket_6 : decode cX1_ticket 6 = .ok (.iload_n 1, 1) := by decide +kernel
theorem dX1_ticket_7 : decode cX1_ticket 7 = .ok (.aaload, 1) := by decide +kernel
theorem dX1_ticket_8 : decode cX1_ticket 8 = .ok (.iconst 0, 1) := by decide +kernel
theorem dX1_ticket_9 : decode cX1_ticket 9 = .ok (.iaload, 1) := by decide +kernel
theorem dX1_ticket_10 : decode cX1_ticket 10 = .ok (.imul, 1) := by decide +kernel
theorem dX1_ticket_11 : decode cX1_ticket 11 = .ok (.aload_n 0, 1) := by decide +kernel
theorem dX1_ticket_12 : decode cX1_ticket 12 = .ok (.getfield 15, 3) := by decide +kernel
theorem dX1_ticket_15 : decode cX1_ticket 15 = .ok (.iload_n 1, 1) := by decide +kernel
theorem dX1_ticket_16 : decode cX1_ticket 16 = .ok (.aaload, 1) := by decide +kernel
theorem dX1_ticket_17 : decode cX1_ticket 17 = .ok (.iconst 1, 1) := by decide +kernel
theorem dX1_ticket_18 : decode cX1_ticket 18 = .ok (.iaload, 1) := by decide +kernel
theorem dX1_ticket_19 : decode cX1_ticket 19 = .ok (.iadd, 1) := by decide +kernel
theorem dX1_ticket_20 : decode cX1_ticket 20 = .ok (.ireturn, 1) := by decide +kernel
theorem dX1_set_0 : decode cX1_set 0 = .ok (.aload_n 0, 1) := by decide +kernel
theorem dX1_set_1 : decode cX1_set 1 = .ok (.getfield 15, 3) := by decide +kernel
theorem dX1_set_4 : decode cX1_set 4 = .ok (.iload_n 1, 1) := by decide +kernel
theorem dX1_set_5 : decode cX1_set 5 = .ok (.aaload, 1) := by decide +kernel
theorem dX1_set_6 : decode cX1_set 6 = .ok (.iconst 0, 1) := by decide +kernel
theorem dX1_set_7 : decode cX1_set 7 = .ok (.iload_n 2, 1) := by decide +kernel
theorem dX1_set_8 : decode cX1_set 8 = .ok (.bipush 10, 2) := by decide +kernel
theorem dX1_set_10 : decode cX1_set 10 = .ok (.idiv, 1) := by decide +kernel
theorem dX1_set_11 : decode cX1_set 11 = .ok (.iastore, 1) := by decide +kernel
theorem dX1_set_12 : decode cX1_set 12 = .ok (.aload_n 0, 1) := by decide +kernel
theorem dX1_set_13 : decode cX1_set 13 = .ok (.getfield 15, 3) := by decide +kernel
theorem dX1_set_16 : decode cX1_set 16 = .ok (.iload_n 1, 1) := by decide +kernel
theorem dX1_set_17 : decode cX1_set 17 = .ok (.aaload, 1) := by decide +kernel
theorem dX1_set_18 : decode cX1_set 18 = .ok (.iconst 1, 1) := by decide +kernel
theorem dX1_set_19 : decode cX1_set 19 = .ok (.iload_n 2, 1) := by decide +kernel
theorem dX1_set_20 : decode cX1_set 20 = .ok (.bipush 10, 2) := by decide +kernel
theorem dX1_set_22 : decode cX1_set 22 = .ok (.irem, 1) := by decide +kernel
theorem dX1_set_23 : decode cX1_set 23 = .ok (.iastore, 1) := by decide +kernel
theorem dX1_set_24 : decode cX1_set 24 = .ok (.return_, 1) := by decide +kernel
theorem dX1_isMirror_0 : decode cX1_isMirror 0 = .ok (.aload_n 0, 1) := by decide +kernel
theorem dX1_isMirror_1 : decode cX1_isMirror 1 = .ok (.iconst 0, 1) := by decide +kernel
theorem dX1_isMirror_2 : decode cX1_isMirror 2 = .ok (.iaload, 1) := by decide +kernel
theorem dX1_isMirror_3 : decode cX1_isMirror 3 = .ok (.aload_n 1, 1) := by decide +kernel
theorem dX1_isMirror_4 : decode cX1_isMirror 4 = .ok (.iconst 1, 1) := by decide +kernel
theorem dX1_isMirror_5 : decode cX1_isMirror 5 = .ok (.iaload, 1) := by decide +kernel
theorem dX1_isMirror_6 : decode cX1_isMirror 6 = .ok (.if_icmp .ne 16, 3) := by decide +kernel
theorem dX1_isMirror_9 : decode cX1_isMirror 9 = .ok (.aload_n 0, 1) := by decide +kernel
theorem dX1_isMirror_10 : decode cX1_isMirror 10 = .ok (.iconst 1, 1) := by decide +kernel
theorem dX1_isMirror_11 : decode cX1_isMirror 11 = .ok (.iaload, 1) := by decide +kernel
theorem dX1_isMirror_12 : decode cX1_isMirror 12 = .ok (.aload_n 1, 1) := by decide +kernel
theorem dX1_isMirror_13 : decode cX1_isMirror 13 = .ok (.iconst 0, 1) := by decide +kernel
theorem dX1_isMirror_14 : decode cX1_isMirror 14 = .ok (.iaload, 1) := by decide +kernel
theorem dX1_isMirror_15 : decode cX1_isMirror 15 = .ok (.if_icmp .ne 7, 3) := by decide +kernel
theorem dX1_isMirror_18 : decode cX1_isMirror 18 = .ok (.iconst 1, 1) := by decide +kernel
theorem dX1_isMirror_19 : decode cX1_isMirror 19 = .ok (.goto 4, 3) := by decide +kernel
theorem dX1_isMirror_22 : decode cX1_isMirror 22 = .ok (.iconst 0, 1) := by decide +kernel
theorem dX1_isMirror_23 : decode cX1_isMirror 23 = .ok (.ireturn, 1) := by decide +kernel
set_option maxRecDepth 20000 in
theorem ggX1_points_X1_isMirror : GoodIn wsX1_points wsX1_isMirror := goodIn_r _ [8] (by decide +kernel) (by decide +kernel)
set_option maxRecDepth 20000 in
theorem gX1_points_X1_isMirror : GoodIn wsX1_points (va_wsS RX1 39 yX1_isMirror wsX1_isMirror) := goodIn_app (goodIn_of _ (by decide +kernel)) ggX1_points_X1_isMirror
theorem dX1_points_0 : decode cX1_points 0 = .ok (.iconst 0, 1) := by decide +kernel
theorem dX1_points_1 : decode cX1_points 1 = .ok (.istore_n 3, 1) := by decide +kernel
theorem dX1_points_2 : decode cX1_points 2 = .ok (.aload_n 1, 1) := by decide +kernel
theorem dX1_points_3 : decode cX1_points 3 = .ok (.iconst 1, 1) := by decide +kernel
theorem dX1_points_4 : decode cX1_points 4 = .ok (.iaload, 1) := by decide +kernel
theorem dX1_points_5 : decode cX1_points 5 = .ok (.aload_n 2, 1) := by decide +kernel
theorem dX1_points_6 : decode cX1_points 6 = .ok (.iconst 1, 1) := by decide +kernel
theorem dX1_points_7 : decode cX1_points 7 = .ok (.iaload, 1) := by decide +kernel
theorem dX1_points_8 : decode cX1_points 8 = .ok (.if_icmp .ne 6, 3) := by decide +kernel
theorem dX1_points_11 : decode cX1_points 11 = .ok (.iinc 3 1, 3) := by decide +kernel
theorem dX1_points_14 : decode cX1_points 14 = .ok (.aload_n 1, 1) := by decide +kernel
theorem dX1_points_15 : decode cX1_points 15 = .ok (.iconst 0, 1) := by decide +kernel
theorem dX1_points_16 : decode cX1_points 16 = .ok (.iaload, 1) := by decide +kernel
theorem dX1_points_17 : decode cX1_points 17 = .ok (.aload_n 1, 1) := by decide +kernel
theorem dX1_points_18 : decode cX1_points 18 = .ok (.iconst 1, 1) := by decide +kernel
theorem dX1_points_19 : decode cX1_points 19 = .ok (.iaload, 1) := by decide +kernel
theorem dX1_points_20 : decode cX1_points 20 = .ok (.iadd, 1) := by decide +kernel
theorem dX1_points_21 : decode cX1_points 21 = .ok (.aload_n 2, 1) := by decide +kernel
theorem dX1_points_22 : decode cX1_points 22 = .ok (.iconst 0, 1) := by decide +kernel
theorem dX1_points_23 : decode cX1_points 23 = .ok (.iaload, 1) := by decide +kernel
theorem dX1_points_24 : decode cX1_points 24 = .ok (.aload_n 2, 1) := by decide +kernel
theorem dX1_points_25 : decode cX1_points 25 = .ok (.iconst 1, 1) := by decide +kernel
theorem dX1_points_26 : decode cX1_points 26 = .ok (.iaload, 1) := by decide +kernel
theorem dX1_points_27 : decode cX1_points 27 = .ok (.iadd, 1) := by decide +kernel
theorem dX1_points_28 : decode cX1_points 28 = .ok (.if_icmp .ne 6, 3) := by decide +kernel
theorem dX1_points_31 : decode cX1_points 31 = .ok (.iinc 3 2, 3) := by decide +kernel
theorem dX1_points_34 : decode cX1_points 34 = .ok (.bipush 10, 2) := by decide +kernel
theorem dX1_points_36 : decode cX1_points 36 = .ok (.aload_n 1, 1) := by decide +kernel
theorem dX1_points_37 : decode cX1_points 37 = .ok (.iconst 0, 1) := by decide +kernel
theorem dX1_points_38 : decode cX1_points 38 = .ok (.iaload, 1) := by decide +kernel
theorem dX1_points_39 : decode cX1_points 39 = .ok (.imul, 1) := by decide +kernel
theorem dX1_points_40 : decode cX1_points 40 = .ok (.aload_n 1, 1) := by decide +kernel
theorem dX1_points_41 : decode cX1_points 41 = .ok (.iconst 1, 1) := by decide +kernel
theorem dX1_points_42 : decode cX1_points 42 = .ok (.iaload, 1) := by decide +kernel
theorem dX1_points_43 : decode cX1_points 43 = .ok (.iadd, 1) := by decide +kernel
theorem dX1_points_44 : decode cX1_points 44 = .ok (.bipush 10, 2) := by decide +kernel
theorem dX1_points_46 : decode cX1_points 46 = .ok (.aload_n 2, 1) := by decide +kernel
theorem dX1_points_47 : decode cX1_points 47 = .ok (.iconst 0, 1) := by decide +kernel
theorem dX1_points_48 : decode cX1_points 48 = .ok (.iaload, 1) := by decide +kernel
theorem dX1_points_49 : decode cX1_points 49 = .ok (.imul, 1) := by decide +kernel
theorem dX1_points_50 : decode cX1_points 50 = .ok (.isub, 1) := by decide +kernel
theorem dX1_points_51 : decode cX1_points 51 = .ok (.aload_n 2, 1) := by decide +kernel
theorem dX1_points_52 : decode cX1_points 52 = .ok (.iconst 1, 1) := by decide +kernel
theorem dX1_points_53 : decode cX1_points 53 = .ok (.iaload, 1) := by decide +kernel
theorem dX1_points_54 : decode cX1_points 54 = .ok (.isub, 1) := by decide +kernel
theorem dX1_points_55 : decode cX1_points 55 = .ok (.invokestatic 33, 3) := by decide +kernel
theorem dX1_points_58 : decode cX1_points 58 = .ok (.iconst 1, 1) := by decide +kernel
theorem dX1_points_59 : decode cX1_points 59 = .ok (.if_icmp .ne 6, 3) := by decide +kernel
theorem dX1_points_62 : decode cX1_points 62 = .ok (.iinc 3 3, 3) := by decide +kernel
theorem dX1_points_65 : decode cX1_points 65 = .ok (.aload_n 1, 1) := by decide +kernel
theorem dX1_points_66 : decode cX1_points 66 = .ok (.aload_n 2, 1) := by decide +kernel
theorem dX1_points_67 : decode cX1_points 67 = .ok (.invokestatic 39, 3) := by decide +kernel
theorem dX1_points_70 : decode cX1_points 70 = .ok (.ifCond .eq 6, 3) := by decide +kernel
theorem dX1_points_73 : decode cX1_points 73 = .ok (.iinc 3 5, 3) := by decide +kernel
theorem dX1_points_76 : decode cX1_points 76 = .ok (.aload_n 1, 1) := by decide +kernel
theorem dX1_points_77 : decode cX1_points 77 = .ok (.iconst 2, 1) := by decide +kernel
theorem dX1_points_78 : decode cX1_points 78 = .ok (.iaload, 1) := by decide +kernel
theorem dX1_points_79 : decode cX1_points 79 = .ok (.aload_n 2, 1) := by decide +kernel
theorem dX1_points_80 : decode cX1_points 80 = .ok (.iconst 2, 1) := by decide +kernel
theorem dX1_points_81 : decode cX1_points 81 = .ok (.iaload, 1) := by decide +kernel
theorem dX1_points_82 : decode cX1_points 82 = .ok (.if_icmp .ne 6, 3) := by decide +kernel
theorem dX1_points_85 : decode cX1_points 85 = .ok (.iinc 3 2, 3) := by decide +kernel
theorem dX1_points_88 : decode cX1_points 88 = .ok (.iload_n 3, 1) := by decide +kernel
theorem dX1_points_89 : decode cX1_points 89 = .ok (.ireturn, 1) := by decide +kernel
set_option maxRecDepth 20000 in
theorem ggX1_luck_X1_points : GoodIn wsX1_luck wsX1_points := goodIn_r _ [6, 7, 8, 9, 10, 11, 12, 5, 13] (by decide +kernel) (by decide +kernel)
set_option maxRecDepth 20000 in
theorem gX1_luck_X1_points : GoodIn wsX1_luck (wsV RX1 43 RX1 yX1_points wsX1_points) := goodIn_app (goodIn_of _ (by decide +kernel)) ggX1_luck_X1_points
theorem dX1_luck_0 : decode cX1_luck 0 = .ok (.iconst 0, 1) := by decide +kernel
theorem dX1_luck_1 : decode cX1_luck 1 = .ok (.istore_n 2, 1) := by decide +kernel
theorem dX1_luck_2 : decode cX1_luck 2 = .ok (.iconst 0, 1) := by decide +kernel
theorem dX1_luck_3 : decode cX1_luck 3 = .ok (.istore_n 3, 1) := by decide +kernel
theorem dX1_luck_4 : decode cX1_luck 4 = .ok (.iload_n 3, 1) := by decide +kernel
theorem dX1_luck_5 : decode cX1_luck 5 = .ok (.aload_n 0, 1) := by decide +kernel
theorem dX1_luck_6 : decode cX1_luck 6 = .ok (.getfield 15, 3) := by decide +kernel
theorem dX1_luck_9 : decode cX1_luck 9 = .ok (.arraylength, 1) := by decide +kernel
theorem dX1_luck_10 : decode cX1_luck 10 = .ok (.if_icmp .ge 52, 3) := by decide +kernel
theorem dX1_luck_13 : decode cX1_luck 13 = .ok (.iload_n 3, 1) := by decide +kernel
theorem dX1_luck_14 : decode cX1_luck 14 = .ok (.iload_n 1, 1) := by decide +kernel
theorem dX1_luck_15 : decode cX1_luck 15 = .ok (.if_icmp .eq 41, 3) := by decide +kernel
theorem dX1_luck_18 : decode cX1_luck 18 = .ok (.aload_n 0, 1) := by decide +kernel
theorem dX1_luck_19 : decode cX1_luck 19 = .ok (.getfield 15, 3) := by decide +kernel
theorem dX1_luck_22 : decode cX1_luck 22 = .ok (.iload_n 3, 1) := by decide +kernel
theorem dX1_luck_23 : decode cX1_luck 23 = .ok (.aaload, 1) := by decide +kernel
theorem dX1_luck_24 : decode cX1_luck 24 = .ok (.iconst 3, 1) := by decide +kernel
theorem dX1_luck_25 : decode cX1_luck 25 = .ok (.iaload, 1) := by decide +kernel
theorem dX1_luck_26 : decode cX1_luck 26 = .ok (.aload_n 0, 1) := by decide +kernel
theorem dX1_luck_27 : decode cX1_luck 27 = .ok (.getfield 15, 3) := by decide +kernel
theorem dX1_luck_30 : decode cX1_luck 30 = .ok (.iload_n 1, 1) := by decide +kernel
theorem dX1_luck_31 : decode cX1_luck 31 = .ok (.aaload, 1) := by decide +kernel
theorem dX1_luck_32 : decode cX1_luck 32 = .ok (.iconst 3, 1) := by decide +kernel
theorem dX1_luck_33 : decode cX1_luck 33 = .ok (.iaload, 1) := by decide +kernel
theorem dX1_luck_34 : decode cX1_luck 34 = .ok (.if_icmp .ne 22, 3) := by decide +kernel
theorem dX1_luck_37 : decode cX1_luck 37 = .ok (.iload_n 2, 1) := by decide +kernel
theorem dX1_luck_38 : decode cX1_luck 38 = .ok (.aload_n 0, 1) := by decide +kernel
theorem dX1_luck_39 : decode cX1_luck 39 = .ok (.aload_n 0, 1) := by decide +kernel
theorem dX1_luck_40 : decode cX1_luck 40 = .ok (.getfield 15, 3) := by decide +kernel
theorem dX1_luck_43 : decode cX1_luck 43 = .ok (.iload_n 1, 1) := by decide +kernel
theorem dX1_luck_44 : decode cX1_luck 44 = .ok (.aaload, 1) := by decide +kernel
theorem dX1_luck_45 : decode cX1_luck 45 = .ok (.aload_n 0, 1) := by decide +kernel
theorem dX1_luck_46 : decode cX1_luck 46 = .ok (.getfield 15, 3) := by decide +kernel
theorem dX1_luck_49 : decode cX1_luck 49 = .ok (.iload_n 3, 1) := by decide +kernel
theorem dX1_luck_50 : decode cX1_luck 50 = .ok (.aaload, 1) := by decide +kernel
theorem dX1_luck_51 : decode cX1_luck 51 = .ok (.invokevirtual 43, 3) := by decide +kernel
theorem dX1_luck_54 : decode cX1_luck 54 = .ok (.iadd, 1) := by decide +kernel
theorem dX1_luck_55 : decode cX1_luck 55 = .ok (.istore_n 2, 1) := by decide +kernel
theorem dX1_luck_56 : decode cX1_luck 56 = .ok (.iinc 3 1, 3) := by decide +kernel
theorem dX1_luck_59 : decode cX1_luck 59 = .ok (.goto (-55), 3) := by decide +kernel
theorem dX1_luck_62 : decode cX1_luck 62 = .ok (.iload_n 2, 1) := by decide +kernel
theorem dX1_luck_63 : decode cX1_luck 63 = .ok (.ireturn, 1) := by decide +kernel
set_option maxRecDepth 20000 in
theorem ggX1_at_X1_luck : GoodIn wsX1_at wsX1_luck := goodIn_r _ [6, 1, 7, 8, 9, 5, 10, 11, 12, 13, 14, 15, 16, 17, 18, 19, 20, 21, 22] (by decide +kernel) (by decide +kernel)
set_option maxRecDepth 20000 in
theorem gX1_at_X1_luck : GoodIn wsX1_at (wsV RX1 47 RX1 yX1_luck wsX1_luck) := goodIn_app (goodIn_of _ (by decide +kernel)) ggX1_at_X1_luck
theorem dX1_at_0 : decode cX1_at 0 = .ok (.iconst 0, 1) := by decide +kernel
theorem dX1_at_1 : decode cX1_at 1 = .ok (.istore_n 2, 1) := by decide +kernel
theorem dX1_at_2 : decode cX1_at 2 = .ok (.iconst 0, 1) := by decide +kernel
theorem dX1_at_3 : decode cX1_at 3 = .ok (.istore_n 3, 1) := by decide +kernel
theorem dX1_at_4 : decode cX1_at 4 = .ok (.iload_n 3, 1) := by decide +kernel
theorem dX1_at_5 : decode cX1_at 5 = .ok (.aload_n 0, 1) := by decide +kernel
theorem dX1_at_6 : decode cX1_at 6 = .ok (.getfield 15, 3) := by decide +kernel
theorem dX1_at_9 : decode cX1_at 9 = .ok (.arraylength, 1) := by decide +kernel
theorem dX1_at_10 : decode cX1_at 10 = .ok (.if_icmp .ge 29, 3) := by decide +kernel
theorem dX1_at_13 : decode cX1_at 13 = .ok (.aload_n 0, 1) := by decide +kernel
theorem dX1_at_14 : decode cX1_at 14 = .ok (.getfield 15, 3) := by decide +kernel
theorem dX1_at_17 : decode cX1_at 17 = .ok (.iload_n 3, 1) := by decide +kernel
theorem dX1_at_18 : decode cX1_at 18 = .ok (.aaload, 1) := by decide +kernel
theorem dX1_at_19 : decode cX1_at 19 = .ok (.iconst 3, 1) := by decide +kernel
theorem dX1_at_20 : decode cX1_at 20 = .ok (.iaload, 1) := by decide +kernel
theorem dX1_at_21 : decode cX1_at 21 = .ok (.iload_n 1, 1) := by decide +kernel
theorem dX1_at_22 : decode cX1_at 22 = .ok (.if_icmp .ne 11, 3) := by decide +kernel
theorem dX1_at_25 : decode cX1_at 25 = .ok (.iload_n 2, 1) := by decide +kernel
theorem dX1_at_26 : decode cX1_at 26 = .ok (.aload_n 0, 1) := by decide +kernel
theorem dX1_at_27 : decode cX1_at 27 = .ok (.iload_n 3, 1) := by decide +kernel
theorem dX1_at_28 : decode cX1_at 28 = .ok (.invokevirtual 47, 3) := by decide +kernel
theorem dX1_at_31 : decode cX1_at 31 = .ok (.iadd, 1) := by decide +kernel
theorem dX1_at_32 : decode cX1_at 32 = .ok (.istore_n 2, 1) := by decide +kernel
theorem dX1_at_33 : decode cX1_at 33 = .ok (.iinc 3 1, 3) := by decide +kernel
theorem dX1_at_36 : decode cX1_at 36 = .ok (.goto (-32), 3) := by decide +kernel
theorem dX1_at_39 : decode cX1_at 39 = .ok (.iload_n 2, 1) := by decide +kernel
theorem dX1_at_40 : decode cX1_at 40 = .ok (.iconst 2, 1) := by decide +kernel
theorem dX1_at_41 : decode cX1_at 41 = .ok (.idiv, 1) := by decide +kernel
theorem dX1_at_42 : decode cX1_at 42 = .ok (.ireturn, 1) := by decide +kernel
set_option maxRecDepth 20000 in
theorem ggX1_town_X1_at : GoodIn wsX1_town wsX1_at := goodIn_r _ [5, 6, 7, 8, 9, 4, 10, 11, 12, 13, 14, 15, 16, 17, 18, 19, 20, 21, 22, 23, 24, 25, 26] (by decide +kernel) (by decide +kernel)
set_option maxRecDepth 20000 in
theorem gX1_town_X1_at : GoodIn wsX1_town (wsV RX1 50 RX1 yX1_at wsX1_at) := goodIn_app (goodIn_of _ (by decide +kernel)) ggX1_town_X1_at
theorem dX1_town_0 : decode cX1_town 0 = .ok (.iconst 0, 1) := by decide +kernel
theorem dX1_town_1 : decode cX1_town 1 = .ok (.istore_n 1, 1) := by decide +kernel
theorem dX1_town_2 : decode cX1_town 2 = .ok (.iconst 0, 1) := by decide +kernel
theorem dX1_town_3 : decode cX1_town 3 = .ok (.istore_n 2, 1) := by decide +kernel
theorem dX1_town_4 : decode cX1_town 4 = .ok (.iload_n 2, 1) := by decide +kernel
theorem dX1_town_5 : decode cX1_town 5 = .ok (.bipush 6, 2) := by decide +kernel
theorem dX1_town_7 : decode cX1_town 7 = .ok (.if_icmp .ge 17, 3) := by decide +kernel
theorem dX1_town_10 : decode cX1_town 10 = .ok (.iload_n 1, 1) := by decide +kernel
theorem dX1_town_11 : decode cX1_town 11 = .ok (.aload_n 0, 1) := by decide +kernel
theorem dX1_town_12 : decode cX1_town 12 = .ok (.iload_n 2, 1) := by decide +kernel
theorem dX1_town_13 : decode cX1_town 13 = .ok (.invokevirtual 50, 3) := by decide +kernel
theorem dX1_town_16 : decode cX1_town 16 = .ok (.iadd, 1) := by decide +kernel
theorem dX1_town_17 : decode cX1_town 17 = .ok (.istore_n 1, 1) := by decide +kernel
theorem dX1_town_18 : decode cX1_town 18 = .ok (.iinc 2 1, 3) := by decide +kernel
theorem dX1_town_21 : decode cX1_town 21 = .ok (.goto (-17), 3) := by decide +kernel
theorem dX1_town_24 : decode cX1_town 24 = .ok (.iload_n 1, 1) := by decide +kernel
theorem dX1_town_25 : decode cX1_town 25 = .ok (.ireturn, 1) := by decide +kernel
theorem dX1_people_0 : decode cX1_people 0 = .ok (.iconst 0, 1) := by decide +kernel
theorem dX1_people_1 : decode cX1_people 1 = .ok (.istore_n 2, 1) := by decide +kernel
theorem dX1_people_2 : decode cX1_people 2 = .ok (.aload_n 0, 1) := by decide +kernel
theorem dX1_people_3 : decode cX1_people 3 = .ok (.getfield 15, 3) := by decide +kernel
theorem dX1_people_6 : decode cX1_people 6 = .ok (.astore_n 3, 1) := by decide +kernel
theorem dX1_people_7 : decode cX1_people 7 = .ok (.aload_n 3, 1) := by decide +kernel
theorem dX1_people_8 : decode cX1_people 8 = .ok (.arraylength, 1) := by decide +kernel
theorem dX1_people_9 : decode cX1_people 9 = .ok (.istore 4, 2) := by decide +kernel
theorem dX1_people_11 : decode cX1_people 11 = .ok (.iconst 0, 1) := by decide +kernel
theorem dX1_people_12 : decode cX1_people 12 = .ok (.istore 5, 2) := by decide +kernel
theorem dX1_people_14 : decode cX1_people 14 = .ok (.iload 5, 2) := by decide +kernel
theorem dX1_people_16 : decode cX1_people 16 = .ok (.iload 4, 2) := by decide +kernel
theorem dX1_people_18 : decode cX1_people 18 = .ok (.if_icmp .ge 31, 3) := by decide +kernel
theorem dX1_people_21 : decode cX1_people 21 = .ok (.aload_n 3, 1) := by decide +kernel
theorem dX1_people_22 : decode cX1_people 22 = .ok (.iload 5, 2) := by decide +kernel
theorem dX1_people_24 : decode cX1_people 24 = .ok (.aaload, 1) := by decide +kernel
theorem dX1_people_25 : decode cX1_people 25 = .ok (.astore 6, 2) := by decide +kernel
theorem dX1_people_27 : decode cX1_people 27 = .ok (.iload_n 2, 1) := by decide +kernel
theorem dX1_people_28 : decode cX1_people 28 = .ok (.aload 6, 2) := by decide +kernel
theorem dX1_people_30 : decode cX1_people 30 = .ok (.iconst 3, 1) := by decide +kernel
theorem dX1_people_31 : decode cX1_people 31 = .ok (.iaload, 1) := by decide +kernel
theorem dX1_people_32 : decode cX1_people 32 = .ok (.iload_n 1, 1) := by decide +kernel
theorem dX1_people_33 : decode cX1_people 33 = .ok (.if_icmp .ne 7, 3) := by decide +kernel
theorem dX1_people_36 : decode cX1_people 36 = .ok (.iconst 1, 1) := by decide +kernel
theorem dX1_people_37 : decode cX1_people 37 = .ok (.goto 4, 3) := by decide +kernel
theorem dX1_people_40 : decode cX1_people 40 = .ok (.iconst 0, 1) := by decide +kernel
theorem dX1_people_41 : decode cX1_people 41 = .ok (.iadd, 1) := by decide +kernel
theorem dX1_people_42 : decode cX1_people 42 = .ok (.istore_n 2, 1) := by decide +kernel
theorem dX1_people_43 : decode cX1_people 43 = .ok (.iinc 5 1, 3) := by decide +kernel
theorem dX1_people_46 : decode cX1_people 46 = .ok (.goto (-32), 3) := by decide +kernel
theorem dX1_people_49 : decode cX1_people 49 = .ok (.iload_n 2, 1) := by decide +kernel
theorem dX1_people_50 : decode cX1_people 50 = .ok (.ireturn, 1) := by decide +kernel
theorem dX1_cost_0 : decode cX1_cost 0 = .ok (.iconst 0, 1) := by decide +kernel
theorem dX1_cost_1 : decode cX1_cost 1 = .ok (.istore_n 2, 1) := by decide +kernel
theorem dX1_cost_2 : decode cX1_cost 2 = .ok (.iload_n 0, 1) := by decide +kernel
theorem dX1_cost_3 : decode cX1_cost 3 = .ok (.iload_n 2, 1) := by decide +kernel
theorem dX1_cost_4 : decode cX1_cost 4 = .ok (.iadd, 1) := by decide +kernel
theorem dX1_cost_5 : decode cX1_cost 5 = .ok (.bipush 6, 2) := by decide +kernel
theorem dX1_cost_7 : decode cX1_cost 7 = .ok (.irem, 1) := by decide +kernel
theorem dX1_cost_8 : decode cX1_cost 8 = .ok (.iload_n 1, 1) := by decide +kernel
theorem dX1_cost_9 : decode cX1_cost 9 = .ok (.if_icmp .eq 19, 3) := by decide +kernel
theorem dX1_cost_12 : decode cX1_cost 12 = .ok (.iload_n 1, 1) := by decide +kernel
theorem dX1_cost_13 : decode cX1_cost 13 = .ok (.iload_n 2, 1) := by decide +kernel
theorem dX1_cost_14 : decode cX1_cost 14 = .ok (.iadd, 1) := by decide +kernel
theorem dX1_cost_15 : decode cX1_cost 15 = .ok (.bipush 6, 2) := by decide +kernel
theorem dX1_cost_17 : decode cX1_cost 17 = .ok (.irem, 1) := by decide +kernel
theorem dX1_cost_18 : decode cX1_cost 18 = .ok (.iload_n 0, 1) := by decide +kernel
theorem dX1_cost_19 : decode cX1_cost 19 = .ok (.if_icmp .eq 9, 3) := by decide +kernel
theorem dX1_cost_22 : decode cX1_cost 22 = .ok (.iinc 2 1, 3) := by decide +kernel
theorem dX1_cost_25 : decode cX1_cost 25 = .ok (.goto (-23), 3) := by decide +kernel
theorem dX1_cost_28 : decode cX1_cost 28 = .ok (.iconst 2, 1) := by decide +kernel
theorem dX1_cost_29 : decode cX1_cost 29 = .ok (.iload_n 2, 1) := by decide +kernel
theorem dX1_cost_30 : decode cX1_cost 30 = .ok (.imul, 1) := by decide +kernel
theorem dX1_cost_31 : decode cX1_cost 31 = .ok (.ireturn, 1) := by decide +kernel
theorem dX1_pay_0 : decode cX1_pay 0 = .ok (.aload_n 0, 1) := by decide +kernel
theorem dX1_pay_1 : decode cX1_pay 1 = .ok (.dup, 1) := by decide +kernel
theorem dX1_pay_2 : decode cX1_pay 2 = .ok (.getfield 7, 3) := by decide +kernel
theorem dX1_pay_5 : decode cX1_pay 5 = .ok (.iload_n 1, 1) := by decide +kernel
theorem dX1_pay_6 : decode cX1_pay 6 = .ok (.isub, 1) := by decide +kernel
theorem dX1_pay_7 : decode cX1_pay 7 = .ok (.putfield 7, 3) := by decide +kernel
theorem dX1_pay_10 : decode cX1_pay 10 = .ok (.aload_n 0, 1) := by decide +kernel
theorem dX1_pay_11 : decode cX1_pay 11 = .ok (.dup, 1) := by decide +kernel
theorem dX1_pay_12 : decode cX1_pay 12 = .ok (.getfield 26, 3) := by decide +kernel
theorem dX1_pay_15 : decode cX1_pay 15 = .ok (.iload_n 1, 1) := by decide +kernel
theorem dX1_pay_16 : decode cX1_pay 16 = .ok (.iadd, 1) := by decide +kernel
theorem dX1_pay_17 : decode cX1_pay 17 = .ok (.putfield 26, 3) := by decide +kernel
theorem dX1_pay_20 : decode cX1_pay 20 = .ok (.return_, 1) := by decide +kernel
set_option maxRecDepth 20000 in
theorem ggX1_pass_X1_town : GoodIn wsX1_pass wsX1_town := goodIn_r _ [13, 14, 15, 16, 12, 17, 2, 18, 19, 20, 21, 22, 23, 24, 25, 26, 27, 6, 28, 29, 30, 31, 36, 37, 38, 39, 40] (by decide +kernel) (by decide +kernel)
set_option maxRecDepth 20000 in
theorem gX1_pass_X1_town : GoodIn wsX1_pass (wsV RX1 53 RX1 yX1_town wsX1_town) := goodIn_app (goodIn_of _ (by decide +kernel)) ggX1_pass_X1_town
set_option maxRecDepth 20000 in
theorem ggX1_pass_X1_people : GoodIn wsX1_pass wsX1_people := goodIn_r _ [35, 2, 36, 37, 38, 39, 40] (by decide +kernel) (by decide +kernel)
set_option maxRecDepth 20000 in
theorem gX1_pass_X1_people : GoodIn wsX1_pass (wsV RX1 57 RX1 yX1_people wsX1_people) := goodIn_app (goodIn_of _ (by decide +kernel)) ggX1_pass_X1_people
theorem dX1_pass_0 : decode cX1_pass 0 = .ok (.aload_n 0, 1) := by decide +kernel
theorem dX1_pass_1 : decode cX1_pass 1 = .ok (.getfield 23, 3) := by decide +kernel
theorem dX1_pass_4 : decode cX1_pass 4 = .ok (.istore_n 2, 1) := by decide +kernel
theorem dX1_pass_5 : decode cX1_pass 5 = .ok (.iconst 0, 1) := by decide +kernel
theorem dX1_pass_6 : decode cX1_pass 6 = .ok (.istore_n 3, 1) := by decide +kernel
theorem dX1_pass_7 : decode cX1_pass 7 = .ok (.iload_n 3, 1) := by decide +kernel
theorem dX1_pass_8 : decode cX1_pass 8 = .ok (.iload_n 1, 1) := by decide +kernel
theorem dX1_pass_9 : decode cX1_pass 9 = .ok (.if_icmp .ge 160, 3) := by decide +kernel
theorem dX1_pass_12 : decode cX1_pass 12 = .ok (.aload_n 0, 1) := by decide +kernel
theorem dX1_pass_13 : decode cX1_pass 13 = .ok (.getfield 15, 3) := by decide +kernel
theorem dX1_pass_16 : decode cX1_pass 16 = .ok (.astore 4, 2) := by decide +kernel
theorem dX1_pass_18 : decode cX1_pass 18 = .ok (.aload 4, 2) := by decide +kernel
theorem dX1_pass_20 : decode cX1_pass 20 = .ok (.arraylength, 1) := by decide +kernel
theorem dX1_pass_21 : decode cX1_pass 21 = .ok (.istore 5, 2) := by decide +kernel
theorem dX1_pass_23 : decode cX1_pass 23 = .ok (.iconst 0, 1) := by decide +kernel
theorem dX1_pass_24 : decode cX1_pass 24 = .ok (.istore 6, 2) := by decide +kernel
theorem dX1_pass_26 : decode cX1_pass 26 = .ok (.iload 6, 2) := by decide +kernel
theorem dX1_pass_28 : decode cX1_pass 28 = .ok (.iload 5, 2) := by decide +kernel
theorem dX1_pass_30 : decode cX1_pass 30 = .ok (.if_icmp .ge 56, 3) := by decide +kernel
theorem dX1_pass_33 : decode cX1_pass 33 = .ok (.aload 4, 2) := by decide +kernel
theorem dX1_pass_35 : decode cX1_pass 35 = .ok (.iload 6, 2) := by decide +kernel
theorem dX1_pass_37 : decode cX1_pass 37 = .ok (.aaload, 1) := by decide +kernel
theorem dX1_pass_38 : decode cX1_pass 38 = .ok (.astore 7, 2) := by decide +kernel
theorem dX1_pass_40 : decode cX1_pass 40 = .ok (.iconst 0, 1) := by decide +kernel
theorem dX1_pass_41 : decode cX1_pass 41 = .ok (.istore 8, 2) := by decide +kernel
theorem dX1_pass_43 : decode cX1_pass 43 = .ok (.iload 8, 2) := by decide +kernel
theorem dX1_pass_45 : decode cX1_pass 45 = .ok (.aload 7, 2) := by decide +kernel
theorem dX1_pass_47 : decode cX1_pass 47 = .ok (.iconst 4, 1) := by decide +kernel
theorem dX1_pass_48 : decode cX1_pass 48 = .ok (.iaload, 1) := by decide +kernel
theorem dX1_pass_49 : decode cX1_pass 49 = .ok (.if_icmp .ge 31, 3) := by decide +kernel
theorem dX1_pass_52 : decode cX1_pass 52 = .ok (.aload 7, 2) := by decide +kernel
theorem dX1_pass_54 : decode cX1_pass 54 = .ok (.iconst 3, 1) := by decide +kernel
theorem dX1_pass_55 : decode cX1_pass 55 = .ok (.aload 7, 2) := by decide +kernel
theorem dX1_pass_57 : decode cX1_pass 57 = .ok (.iconst 3, 1) := by decide +kernel
theorem dX1_pass_58 : decode cX1_pass 58 = .ok (.iaload, 1) := by decide +kernel
theorem dX1_pass_59 : decode cX1_pass 59 = .ok (.iconst 5, 1) := by decide +kernel
theorem dX1_pass_60 : decode cX1_pass 60 = .ok (.if_icmp .ne 7, 3) := by decide +kernel
theorem dX1_pass_63 : decode cX1_pass 63 = .ok (.iconst 0, 1) := by decide +kernel
theorem dX1_pass_64 : decode cX1_pass 64 = .ok (.goto 9, 3) := by decide +kernel
theorem dX1_pass_67 : decode cX1_pass 67 = .ok (.aload 7, 2) := by decide +kernel
theorem dX1_pass_69 : decode cX1_pass 69 = .ok (.iconst 3, 1) := by decide +kernel
theorem dX1_pass_70 : decode cX1_pass 70 = .ok (.iaload, 1) := by decide +kernel
theorem dX1_pass_71 : decode cX1_pass 71 = .ok (.iconst 1, 1) := by decide +kernel
theorem dX1_pass_72 : decode cX1_pass 72 = .ok (.iadd, 1) := by decide +kernel
theorem dX1_pass_73 : decode cX1_pass 73 = .ok (.iastore, 1) := by decide +kernel
theorem dX1_pass_74 : decode cX1_pass 74 = .ok (.iinc 8 1, 3) := by decide +kernel
theorem dX1_pass_77 : decode cX1_pass 77 = .ok (.goto (-34), 3) := by decide +kernel
theorem dX1_pass_80 : decode cX1_pass 80 = .ok (.iinc 6 1, 3) := by decide +kernel
theorem dX1_pass_83 : decode cX1_pass 83 = .ok (.goto (-57), 3) := by decide +kernel
theorem dX1_pass_86 : decode cX1_pass 86 = .ok (.aload_n 0, 1) := by decide +kernel
theorem dX1_pass_87 : decode cX1_pass 87 = .ok (.dup, 1) := by decide +kernel
theorem dX1_pass_88 : decode cX1_pass 88 = .ok (.getfield 23, 3) := by decide +kernel
theorem dX1_pass_91 : decode cX1_pass 91 = .ok (.aload_n 0, 1) := by decide +kernel
theorem dX1_pass_92 : decode cX1_pass 92 = .ok (.invokevirtual 53, 3) := by decide +kernel
theorem dX1_pass_95 : decode cX1_pass 95 = .ok (.iadd, 1) := by decide +kernel
theorem dX1_pass_96 : decode cX1_pass 96 = .ok (.putfield 23, 3) := by decide +kernel
theorem dX1_pass_99 : decode cX1_pass 99 = .ok (.iconst 0, 1) := by decide +kernel
theorem dX1_pass_100 : decode cX1_pass 100 = .ok (.istore 4, 2) := by decide +kernel
theorem dX1_pass_102 : decode cX1_pass 102 = .ok (.iconst 0, 1) := by decide +kernel
theorem dX1_pass_103 : decode cX1_pass 103 = .ok (.istore 5, 2) := by decide +kernel
theorem dX1_pass_105 : decode cX1_pass 105 = .ok (.iload 5, 2) := by decide +kernel
theorem dX1_pass_107 : decode cX1_pass 107 = .ok (.bipush 6, 2) := by decide +kernel
theorem dX1_pass_109 : decode cX1_pass 109 = .ok (.if_icmp .ge 28, 3) := by decide +kernel
theorem dX1_pass_112 : decode cX1_pass 112 = .ok (.iload 4, 2) := by decide +kernel
theorem dX1_pass_114 : decode cX1_pass 114 = .ok (.aload_n 0, 1) := by decide +kernel
theorem dX1_pass_115 : decode cX1_pass 115 = .ok (.iload 5, 2) := by decide +kernel
theorem dX1_pass_117 : decode cX1_pass 117 = .ok (.invokevirtual 57, 3) := by decide +kernel
theorem dX1_pass_120 : decode cX1_pass 120 = .ok (.ifCond .ne 7, 3) := by decide +kernel
theorem dX1_pass_123 : decode cX1_pass 123 = .ok (.iconst 1, 1) := by decide +kernel
theorem dX1_pass_124 : decode cX1_pass 124 = .ok (.goto 4, 3) := by decide +kernel
theorem dX1_pass_127 : decode cX1_pass 127 = .ok (.iconst 0, 1) := by decide +kernel
theorem dX1_pass_128 : decode cX1_pass 128 = .ok (.iadd, 1) := by decide +kernel
theorem dX1_pass_129 : decode cX1_pass 129 = .ok (.istore 4, 2) := by decide +kernel
theorem dX1_pass_131 : decode cX1_pass 131 = .ok (.iinc 5 1, 3) := by decide +kernel
theorem dX1_pass_134 : decode cX1_pass 134 = .ok (.goto (-29), 3) := by decide +kernel
theorem dX1_pass_137 : decode cX1_pass 137 = .ok (.aload_n 0, 1) := by decide +kernel
theorem dX1_pass_138 : decode cX1_pass 138 = .ok (.bipush 100, 2) := by decide +kernel
theorem dX1_pass_140 : decode cX1_pass 140 = .ok (.aload_n 0, 1) := by decide +kernel
theorem dX1_pass_141 : decode cX1_pass 141 = .ok (.getfield 7, 3) := by decide +kernel
theorem dX1_pass_144 : decode cX1_pass 144 = .ok (.iload 4, 2) := by decide +kernel
theorem dX1_pass_146 : decode cX1_pass 146 = .ok (.iadd, 1) := by decide +kernel
theorem dX1_pass_147 : decode cX1_pass 147 = .ok (.invokestatic 60, 3) := by decide +kernel
theorem dX1_pass_150 : decode cX1_pass 150 = .ok (.putfield 7, 3) := by decide +kernel
theorem dX1_pass_153 : decode cX1_pass 153 = .ok (.aload_n 0, 1) := by decide +kernel
theorem dX1_pass_154 : decode cX1_pass 154 = .ok (.dup, 1) := by decide +kernel
theorem dX1_pass_155 : decode cX1_pass 155 = .ok (.getfield 20, 3) := by decide +kernel
theorem dX1_pass_158 : decode cX1_pass 158 = .ok (.iconst 1, 1) := by decide +kernel
theorem dX1_pass_159 : decode cX1_pass 159 = .ok (.iadd, 1) := by decide +kernel
theorem dX1_pass_160 : decode cX1_pass 160 = .ok (.putfield 20, 3) := by decide +kernel
theorem dX1_pass_163 : decode cX1_pass 163 = .ok (.iinc 3 1, 3) := by decide +kernel
theorem dX1_pass_166 : decode cX1_pass 166 = .ok (.goto (-159), 3) := by decide +kernel
theorem dX1_pass_169 : decode cX1_pass 169 = .ok (.aload_n 0, 1) := by decide +kernel
theorem dX1_pass_170 : decode cX1_pass 170 = .ok (.getfield 23, 3) := by decide +kernel
theorem dX1_pass_173 : decode cX1_pass 173 = .ok (.iload_n 2, 1) := by decide +kernel
theorem dX1_pass_174 : decode cX1_pass 174 = .ok (.isub, 1) := by decide +kernel
theorem dX1_pass_175 : decode cX1_pass 175 = .ok (.ireturn, 1) := by decide +kernel
set_option maxRecDepth 20000 in
theorem ggX1_isSame_X0_strangers : GoodIn wsX1_isSame wsX0_strangers := goodIn_r _ [10, 11, 193, 194, 195, 196, 197, 198, 199, 200, 201] (by decide +kernel) (by decide +kernel)
set_option maxRecDepth 20000 in
theorem gX1_isSame_X0_strangers : GoodIn wsX1_isSame (wsV RX1 64 RX0 yX0_strangers wsX0_strangers) := goodIn_app (goodIn_of _ (by decide +kernel)) ggX1_isSame_X0_strangers
set_option maxRecDepth 20000 in
theorem ggX1_isSame_X0_hour : GoodIn wsX1_isSame wsX0_hour := goodIn_r _ [15, 16, 193, 194, 195, 196, 197, 198, 199, 200, 201] (by decide +kernel) (by decide +kernel)
set_option maxRecDepth 20000 in
theorem gX1_isSame_X0_hour : GoodIn wsX1_isSame (wsV RX1 69 RX0 yX0_hour wsX0_hour) := goodIn_app (goodIn_of _ (by decide +kernel)) ggX1_isSame_X0_hour
set_option maxRecDepth 20000 in
theorem ggX1_isSame_X0_store : GoodIn wsX1_isSame wsX0_store := goodIn_r _ [20, 21, 193, 194, 195, 196, 197, 198, 199, 200, 201] (by decide +kernel) (by decide +kernel)
set_option maxRecDepth 20000 in
theorem gX1_isSame_X0_store : GoodIn wsX1_isSame (wsV RX1 71 RX0 yX0_store wsX0_store) := goodIn_app (goodIn_of _ (by decide +kernel)) ggX1_isSame_X0_store
set_option maxRecDepth 20000 in
theorem ggX1_isSame_X0_counted : GoodIn wsX1_isSame wsX0_counted := goodIn_r _ [25, 26, 193, 194, 195, 196, 197, 198, 199, 200, 201] (by decide +kernel) (by decide +kernel)
set_option maxRecDepth 20000 in
theorem gX1_isSame_X0_counted : GoodIn wsX1_isSame (wsV RX1 73 RX0 yX0_counted wsX0_counted) := goodIn_app (goodIn_of _ (by decide +kernel)) ggX1_isSame_X0_counted
set_option maxRecDepth 20000 in
theorem ggX1_isSame_X0_spent : GoodIn wsX1_isSame wsX0_spent := goodIn_r _ [30, 31, 193, 194, 195, 196, 197, 198, 199, 200, 201] (by decide +kernel) (by decide +kernel)
set_option maxRecDepth 20000 in
theorem gX1_isSame_X0_spent : GoodIn wsX1_isSame (wsV RX1 75 RX0 yX0_spent wsX0_spent) := goodIn_app (goodIn_of _ (by decide +kernel)) ggX1_isSame_X0_spent
set_option maxRecDepth 20000 in
theorem ggX1_isSame_X0_coincidences : GoodIn wsX1_isSame wsX0_coincidences := goodIn_r _ [35, 36, 37, 38, 9, 39, 11, 40, 41, 42, 43, 44, 45, 46, 47, 48, 49, 50, 51, 52, 53, 54, 55, 56, 57, 58, 59, 60, 61, 62, 63, 64, 65, 66, 67, 193, 194, 195, 196, 197, 198, 199, 200, 201] (by decide +kernel) (by decide +kernel)
set_option maxRecDepth 20000 in
theorem gX1_isSame_X0_coincidences : GoodIn wsX1_isSame (wsV RX1 77 RX0 yX0_coincidences wsX0_coincidences) := goodIn_app (goodIn_of _ (by decide +kernel)) ggX1_isSame_X0_coincidences
set_option maxRecDepth 20000 in
theorem ggX1_isSame_X1_town : GoodIn wsX1_isSame wsX1_town := goodIn_r _ [72, 73, 74, 75, 71, 76, 1, 77, 78, 79, 80, 81, 82, 83, 84, 85, 56, 57, 58, 86, 87, 88, 188, 189, 190, 191, 192] (by decide +kernel) (by decide +kernel)
set_option maxRecDepth 20000 in
theorem gX1_isSame_X1_town : GoodIn wsX1_isSame (wsV RX1 53 RX1 yX1_town wsX1_town) := goodIn_app (goodIn_of _ (by decide +kernel)) ggX1_isSame_X1_town
set_option maxRecDepth 20000 in
theorem ggX1_isSame_X0_peopleAt : GoodIn wsX1_isSame wsX0_peopleAt := goodIn_ca (goodIn_r _ [92, 93, 94, 9, 95, 96, 97, 98, 99, 100, 101, 102, 103, 104, 11, 44, 193, 194, 195, 196, 197, 198, 199, 200, 201] (by decide +kernel) (by decide +kernel)) (goodIn_sub (fun _ h => List.mem_cons_of_mem _ (List.mem_append_left _ (List.mem_append_right _ h))) (by decide +kernel))
set_option maxRecDepth 20000 in
theorem gX1_isSame_X0_peopleAt : GoodIn wsX1_isSame (wsV RX1 80 RX0 yX0_peopleAt wsX0_peopleAt) := goodIn_app (goodIn_of _ (by decide +kernel)) ggX1_isSame_X0_peopleAt
set_option maxRecDepth 20000 in
theorem ggX1_isSame_X1_people : GoodIn wsX1_isSame wsX1_people := goodIn_r _ [108, 1, 188, 189, 190, 191, 192] (by decide +kernel) (by decide +kernel)
set_option maxRecDepth 20000 in
theorem gX1_isSame_X1_people : GoodIn wsX1_isSame (wsV RX1 57 RX1 yX1_people wsX1_people) := goodIn_app (goodIn_of _ (by decide +kernel)) ggX1_isSame_X1_people
set_option maxRecDepth 20000 in
theorem ggX1_isSame_X0_coincidencesAt : GoodIn wsX1_isSame wsX0_coincidencesAt := goodIn_ca (goodIn_r _ [112, 11, 44, 93, 94, 9, 95, 96, 97, 98, 99, 100, 46, 47, 48, 49, 50, 51, 52, 53, 54, 55, 56, 57, 58, 59, 60, 61, 62, 63, 64, 65, 66, 67, 193, 194, 195, 196, 197, 198, 199, 200, 201] (by decide +kernel) (by decide +kernel)) (goodIn_sub (fun _ h => List.mem_cons_of_mem _ (List.mem_append_left _ (List.mem_append_right _ h))) (by decide +kernel))
set_option maxRecDepth 20000 in
theorem gX1_isSame_X0_coincidencesAt : GoodIn wsX1_isSame (wsV RX1 83 RX0 yX0_coincidencesAt wsX0_coincidencesAt) := goodIn_app (goodIn_of _ (by decide +kernel)) ggX1_isSame_X0_coincidencesAt
set_option maxRecDepth 20000 in
theorem ggX1_isSame_X1_at : GoodIn wsX1_isSame wsX1_at := goodIn_r _ [76, 1, 77, 78, 79, 71, 80, 81, 82, 83, 84, 85, 56, 57, 58, 86, 87, 88, 188, 189, 190, 191, 192] (by decide +kernel) (by decide +kernel)
set_option maxRecDepth 20000 in
theorem gX1_isSame_X1_at : GoodIn wsX1_isSame (wsV RX1 50 RX1 yX1_at wsX1_at) := goodIn_app (goodIn_of _ (by decide +kernel)) ggX1_isSame_X1_at
set_option maxRecDepth 20000 in
theorem ggX1_isSame_X1_luck : GoodIn wsX1_isSame wsX1_luck := goodIn_r _ [80, 1, 81, 82, 83, 71, 84, 85, 56, 57, 58, 86, 87, 88, 188, 189, 190, 191, 192] (by decide +kernel) (by decide +kernel)
set_option maxRecDepth 20000 in
theorem gX1_isSame_X1_luck : GoodIn wsX1_isSame (wsV RX1 47 RX1 yX1_luck wsX1_luck) := goodIn_app (goodIn_of _ (by decide +kernel)) ggX1_isSame_X1_luck
set_option maxRecDepth 20000 in
theorem ggX1_isSame_X0_ticketOf : GoodIn wsX1_isSame wsX0_ticketOf := goodIn_ca (goodIn_r _ [116, 50, 117, 118, 119, 9, 120, 96, 97, 11, 193, 194, 195, 196, 197, 198, 199, 200, 201] (by decide +kernel) (by decide +kernel)) (goodIn_sub (fun _ h => List.mem_cons_of_mem _ (List.mem_append_left _ (List.mem_append_right _ h))) (by decide +kernel))
set_option maxRecDepth 20000 in
theorem gX1_isSame_X0_ticketOf : GoodIn wsX1_isSame (wsV RX1 86 RX0 yX0_ticketOf wsX0_ticketOf) := goodIn_app (goodIn_of _ (by decide +kernel)) ggX1_isSame_X0_ticketOf
set_option maxRecDepth 20000 in
theorem ggX1_isSame_X1_ticket : GoodIn wsX1_isSame wsX1_ticket := goodIn_r _ [124, 1, 188, 189, 190, 191, 192] (by decide +kernel) (by decide +kernel)
set_option maxRecDepth 20000 in
theorem gX1_isSame_X1_ticket : GoodIn wsX1_isSame (wsV RX1 89 RX1 yX1_ticket wsX1_ticket) := goodIn_app (goodIn_of _ (by decide +kernel)) ggX1_isSame_X1_ticket
set_option maxRecDepth 20000 in
theorem ggX1_isSame_X0_colourOf : GoodIn wsX1_isSame wsX0_colourOf := goodIn_ca (goodIn_r _ [128, 51, 117, 118, 119, 9, 120, 96, 97, 11, 193, 194, 195, 196, 197, 198, 199, 200, 201] (by decide +kernel) (by decide +kernel)) (goodIn_sub (fun _ h => List.mem_cons_of_mem _ (List.mem_append_left _ (List.mem_append_right _ h))) (by decide +kernel))
set_option maxRecDepth 20000 in
theorem gX1_isSame_X0_colourOf : GoodIn wsX1_isSame (wsV RX1 92 RX0 yX0_colourOf wsX0_colourOf) := goodIn_app (goodIn_of _ (by decide +kernel)) ggX1_isSame_X0_colourOf
set_option maxRecDepth 20000 in
theorem ggX1_isSame_X0_cornerOf : GoodIn wsX1_isSame wsX0_cornerOf := goodIn_ca (goodIn_r _ [132, 44, 117, 118, 119, 9, 120, 96, 97, 11, 193, 194, 195, 196, 197, 198, 199, 200, 201] (by decide +kernel) (by decide +kernel)) (goodIn_sub (fun _ h => List.mem_cons_of_mem _ (List.mem_append_left _ (List.mem_append_right _ h))) (by decide +kernel))
set_option maxRecDepth 20000 in
theorem gX1_isSame_X0_cornerOf : GoodIn wsX1_isSame (wsV RX1 95 RX0 yX0_cornerOf wsX0_cornerOf) := goodIn_app (goodIn_of _ (by decide +kernel)) ggX1_isSame_X0_cornerOf
set_option maxRecDepth 20000 in
theorem ggX1_isSame_X0_walkOf : GoodIn wsX1_isSame wsX0_walkOf := goodIn_ca (goodIn_r _ [136, 45, 117, 118, 119, 9, 120, 96, 97, 11, 193, 194, 195, 196, 197, 198, 199, 200, 201] (by decide +kernel) (by decide +kernel)) (goodIn_sub (fun _ h => List.mem_cons_of_mem _ (List.mem_append_left _ (List.mem_append_right _ h))) (by decide +kernel))
set_option maxRecDepth 20000 in
theorem gX1_isSame_X0_walkOf : GoodIn wsX1_isSame (wsV RX1 98 RX0 yX0_walkOf wsX0_walkOf) := goodIn_app (goodIn_of _ (by decide +kernel)) ggX1_isSame_X0_walkOf
set_option maxRecDepth 20000 in
theorem ggX1_isSame_X0_luckOf : GoodIn wsX1_isSame wsX0_luckOf := goodIn_ca (goodIn_r _ [140, 117, 118, 119, 9, 120, 96, 97, 11, 141, 142, 143, 144, 50, 44, 145, 146, 147, 148, 51, 52, 53, 54, 55, 56, 57, 58, 59, 60, 61, 62, 63, 64, 65, 66, 67, 193, 194, 195, 196, 197, 198, 199, 200, 201] (by decide +kernel) (by decide +kernel)) (goodIn_sub (fun _ h => List.mem_cons_of_mem _ (List.mem_append_left _ (List.mem_append_right _ h))) (by decide +kernel))
set_option maxRecDepth 20000 in
theorem gX1_isSame_X0_luckOf : GoodIn wsX1_isSame (wsV RX1 101 RX0 yX0_luckOf wsX0_luckOf) := goodIn_app (goodIn_of _ (by decide +kernel)) ggX1_isSame_X0_luckOf
set_option maxRecDepth 20000 in
theorem ggX1_isSame_X1_points : GoodIn wsX1_isSame wsX1_points := goodIn_r _ [84, 85, 56, 57, 58, 86, 87, 71, 88] (by decide +kernel) (by decide +kernel)
set_option maxRecDepth 20000 in
theorem gX1_isSame_X1_points : GoodIn wsX1_isSame (wsV RX1 43 RX1 yX1_points wsX1_points) := goodIn_app (goodIn_of _ (by decide +kernel)) ggX1_isSame_X1_points
set_option maxRecDepth 20000 in
theorem ggX1_isSame_X0_pointsOf : GoodIn wsX1_isSame wsX0_pointsOf := goodIn_ca (goodIn_ca (goodIn_r _ [152, 153, 154, 155, 9, 156, 157, 158, 117, 118, 119, 120, 96, 97, 11, 46, 47, 48, 49, 50, 51, 52, 53, 54, 55, 56, 57, 58, 59, 60, 61, 62, 63, 64, 65, 66, 67, 193, 194, 195, 196, 197, 198, 199, 200, 201] (by decide +kernel) (by decide +kernel)) (goodIn_sub (fun _ h => List.mem_cons_of_mem _ (List.mem_append_right _ h)) (by decide +kernel))) (goodIn_sub (fun _ h => List.mem_cons_of_mem _ (List.mem_append_left _ (List.mem_append_right _ h))) (by decide +kernel))
set_option maxRecDepth 20000 in
theorem gX1_isSame_X0_pointsOf : GoodIn wsX1_isSame (wsV RX1 104 RX0 yX0_pointsOf wsX0_pointsOf) := goodIn_app (goodIn_of _ (by decide +kernel)) ggX1_isSame_X0_pointsOf
set_option maxRecDepth 20000 in
theorem ggX1_isSame_X0_areTogether : GoodIn wsX1_isSame wsX0_areTogether := goodIn_ca (goodIn_ca (goodIn_r _ [162, 44, 153, 154, 155, 9, 156, 157, 158, 117, 118, 119, 120, 96, 97, 11, 193, 194, 195, 196, 197, 198, 199, 200, 201] (by decide +kernel) (by decide +kernel)) (goodIn_sub (fun _ h => List.mem_cons_of_mem _ (List.mem_append_right _ h)) (by decide +kernel))) (goodIn_sub (fun _ h => List.mem_cons_of_mem _ (List.mem_append_left _ (List.mem_append_right _ h))) (by decide +kernel))
set_option maxRecDepth 20000 in
theorem gX1_isSame_X0_areTogether : GoodIn wsX1_isSame (wsV RX1 107 RX0 yX0_areTogether wsX0_areTogether) := goodIn_app (goodIn_of _ (by decide +kernel)) ggX1_isSame_X0_areTogether
set_option maxRecDepth 20000 in
theorem ggX1_isSame_X0_areMirrored : GoodIn wsX1_isSame wsX0_areMirrored := goodIn_ca (goodIn_ca (goodIn_r _ [166, 50, 153, 154, 155, 9, 156, 157, 158, 117, 118, 119, 120, 96, 97, 11, 62, 63, 64, 193, 194, 195, 196, 197, 198, 199, 200, 201] (by decide +kernel) (by decide +kernel)) (goodIn_sub (fun _ h => List.mem_cons_of_mem _ (List.mem_append_right _ h)) (by decide +kernel))) (goodIn_sub (fun _ h => List.mem_cons_of_mem _ (List.mem_append_left _ (List.mem_append_right _ h))) (by decide +kernel))
set_option maxRecDepth 20000 in
theorem gX1_isSame_X0_areMirrored : GoodIn wsX1_isSame (wsV RX1 111 RX0 yX0_areMirrored wsX0_areMirrored) := goodIn_app (goodIn_of _ (by decide +kernel)) ggX1_isSame_X0_areMirrored
set_option maxRecDepth 20000 in
theorem ggX1_isSame_X1_isMirror : GoodIn wsX1_isSame wsX1_isMirror := goodIn_r _ [88] (by decide +kernel) (by decide +kernel)
set_option maxRecDepth 20000 in
theorem gX1_isSame_X1_isMirror : GoodIn wsX1_isSame (va_wsS RX1 39 yX1_isMirror wsX1_isMirror) := goodIn_app (goodIn_of _ (by decide +kernel)) ggX1_isSame_X1_isMirror
set_option maxRecDepth 20000 in
theorem ggX1_isSame_X0_costOfMeeting : GoodIn wsX1_isSame wsX0_costOfMeeting := goodIn_ca (goodIn_ca (goodIn_r _ [170, 44, 153, 154, 155, 9, 156, 157, 158, 117, 118, 119, 120, 96, 97, 11, 171, 172, 173, 55, 56, 57, 58, 174, 175, 176, 193, 194, 195, 196, 197, 198, 199, 200, 201] (by decide +kernel) (by decide +kernel)) (goodIn_sub (fun _ h => List.mem_cons_of_mem _ (List.mem_append_right _ h)) (by decide +kernel))) (goodIn_sub (fun _ h => List.mem_cons_of_mem _ (List.mem_append_left _ (List.mem_append_right _ h))) (by decide +kernel))
set_option maxRecDepth 20000 in
theorem gX1_isSame_X0_costOfMeeting : GoodIn wsX1_isSame (wsV RX1 114 RX0 yX0_costOfMeeting wsX0_costOfMeeting) := goodIn_app (goodIn_of _ (by decide +kernel)) ggX1_isSame_X0_costOfMeeting
set_option maxRecDepth 20000 in
theorem ggX1_isSame_X1_cost : GoodIn wsX1_isSame wsX1_cost := goodIn_r _ [179] (by decide +kernel) (by decide +kernel)
set_option maxRecDepth 20000 in
theorem gX1_isSame_X1_cost : GoodIn wsX1_isSame (va_wsS RX1 117 yX1_cost wsX1_cost) := goodIn_app (goodIn_of _ (by decide +kernel)) ggX1_isSame_X1_cost
set_option maxRecDepth 20000 in
theorem ggX1_isSame_X0_luckiestPair : GoodIn wsX1_isSame wsX0_luckiestPair := goodIn_r _ [183, 11, 46, 47, 48, 9, 49, 50, 51, 52, 53, 54, 55, 56, 57, 58, 59, 60, 61, 62, 63, 64, 65, 66, 67, 193, 194, 195, 196, 197, 198, 199, 200, 201] (by decide +kernel) (by decide +kernel)
set_option maxRecDepth 20000 in
theorem gX1_isSame_X0_luckiestPair : GoodIn wsX1_isSame (wsV RX1 120 RX0 yX0_luckiestPair wsX0_luckiestPair) := goodIn_app (goodIn_of _ (by decide +kernel)) ggX1_isSame_X0_luckiestPair
set_option maxRecDepth 20000 in
theorem ggX1_isSame_X0_meanLuck : GoodIn wsX1_isSame wsX0_meanLuck := goodIn_r _ [187, 11, 141, 142, 143, 9, 144, 50, 44, 145, 146, 147, 148, 51, 52, 53, 54, 55, 56, 57, 58, 59, 60, 61, 62, 63, 64, 65, 66, 67, 193, 194, 195, 196, 197, 198, 199, 200, 201] (by decide +kernel) (by decide +kernel)
set_option maxRecDepth 20000 in
theorem gX1_isSame_X0_meanLuck : GoodIn wsX1_isSame (wsV RX1 123 RX0 yX0_meanLuck wsX0_meanLuck) := goodIn_app (goodIn_of _ (by decide +kernel)) ggX1_isSame_X0_meanLuck
theorem dX1_isSame_0 : decode cX1_isSame 0 = .ok (.aload_n 0, 1) := by decide +kernel
theorem dX1_isSame_1 : decode cX1_isSame 1 = .ok (.getfield 15, 3) := by decide +kernel
theorem dX1_isSame_4 : decode cX1_isSame 4 = .ok (.arraylength, 1) := by decide +kernel
theorem dX1_isSame_5 : decode cX1_isSame 5 = .ok (.istore_n 2, 1) := by decide +kernel
theorem dX1_isSame_6 : decode cX1_isSame 6 = .ok (.aload_n 1, 1) := by decide +kernel
theorem dX1_isSame_7 : decode cX1_isSame 7 = .ok (.invokevirtual 64, 3) := by decide +kernel
theorem dX1_isSame_10 : decode cX1_isSame 10 = .ok (.iload_n 2, 1) := by decide +kernel
theorem dX1_isSame_11 : decode cX1_isSame 11 = .ok (.if_icmp .ne 58, 3) := by decide +kernel
theorem dX1_isSame_14 : decode cX1_isSame 14 = .ok (.aload_n 1, 1) := by decide +kernel
theorem dX1_isSame_15 : decode cX1_isSame 15 = .ok (.invokevirtual 69, 3) := by decide +kernel
theorem dX1_isSame_18 : decode cX1_isSame 18 = .ok (.aload_n 0, 1) := by decide +kernel
theorem dX1_isSame_19 : decode cX1_isSame 19 = .ok (.getfield 20, 3) := by decide +kernel
theorem dX1_isSame_22 : decode cX1_isSame 22 = .ok (.if_icmp .ne 47, 3) := by decide +kernel
theorem dX1_isSame_25 : decode cX1_isSame 25 = .ok (.aload_n 1, 1) := by decide +kernel
theorem dX1_isSame_26 : decode cX1_isSame 26 = .ok (.invokevirtual 71, 3) := by decide +kernel
theorem dX1_isSame_29 : decode cX1_isSame 29 = .ok (.aload_n 0, 1) := by decide +kernel
theorem dX1_isSame_30 : decode cX1_isSame 30 = .ok (.getfield 7, 3) := by decide +kernel
theorem dX1_isSame_33 : decode cX1_isSame 33 = .ok (.if_icmp .ne 36, 3) := by decide +kernel
theorem dX1_isSame_36 : decode cX1_isSame 36 = .ok (.aload_n 1, 1) := by decide +kernel
theorem dX1_isSame_37 : decode cX1_isSame 37 = .ok (.invokevirtual 73, 3) := by decide +kernel
theorem dX1_isSame_40 : decode cX1_isSame 40 = .ok (.aload_n 0, 1) := by decide +kernel
theorem dX1_isSame_41 : decode cX1_isSame 41 = .ok (.getfield 23, 3) := by decide +kernel
theorem dX1_isSame_44 : decode cX1_isSame 44 = .ok (.if_icmp .ne 25, 3) := by decide +kernel
theorem dX1_isSame_47 : decode cX1_isSame 47 = .ok (.aload_n 1, 1) := by decide +kernel
theorem dX1_isSame_48 : decode cX1_isSame 48 = .ok (.invokevirtual 75, 3) := by decide +kernel
theorem dX1_isSame_51 : decode cX1_isSame 51 = .ok (.aload_n 0, 1) := by decide +kernel
theorem dX1_isSame_52 : decode cX1_isSame 52 = .ok (.getfield 26, 3) := by decide +kernel
theorem dX1_isSame_55 : decode cX1_isSame 55 = .ok (.if_icmp .ne 14, 3) := by decide +kernel
theorem dX1_isSame_58 : decode cX1_isSame 58 = .ok (.aload_n 1, 1) := by decide +kernel
theorem dX1_isSame_59 : decode cX1_isSame 59 = .ok (.invokevirtual 77, 3) := by decide +kernel
theorem dX1_isSame_62 : decode cX1_isSame 62 = .ok (.aload_n 0, 1) := by decide +kernel
theorem dX1_isSame_63 : decode cX1_isSame 63 = .ok (.invokevirtual 53, 3) := by decide +kernel
theorem dX1_isSame_66 : decode cX1_isSame 66 = .ok (.if_icmp .eq 5, 3) := by decide +kernel
theorem dX1_isSame_69 : decode cX1_isSame 69 = .ok (.iconst 0, 1) := by decide +kernel
theorem dX1_isSame_70 : decode cX1_isSame 70 = .ok (.ireturn, 1) := by decide +kernel
theorem dX1_isSame_71 : decode cX1_isSame 71 = .ok (.iconst 0, 1) := by decide +kernel
theorem dX1_isSame_72 : decode cX1_isSame 72 = .ok (.istore_n 3, 1) := by decide +kernel
theorem dX1_isSame_73 : decode cX1_isSame 73 = .ok (.iload_n 3, 1) := by decide +kernel
theorem dX1_isSame_74 : decode cX1_isSame 74 = .ok (.bipush 6, 2) := by decide +kernel
theorem dX1_isSame_76 : decode cX1_isSame 76 = .ok (.if_icmp .ge 37, 3) := by decide +kernel
theorem dX1_isSame_79 : decode cX1_isSame 79 = .ok (.aload_n 1, 1) := by decide +kernel
theorem dX1_isSame_80 : decode cX1_isSame 80 = .ok (.iload_n 3, 1) := by decide +kernel
theorem dX1_isSame_81 : decode cX1_isSame 81 = .ok (.invokevirtual 80, 3) := by decide +kernel
theorem dX1_isSame_84 : decode cX1_isSame 84 = .ok (.aload_n 0, 1) := by decide +kernel
theorem dX1_isSame_85 : decode cX1_isSame 85 = .ok (.iload_n 3, 1) := by decide +kernel
theorem dX1_isSame_86 : decode cX1_isSame 86 = .ok (.invokevirtual 57, 3) := by decide +kernel
theorem dX1_isSame_89 : decode cX1_isSame 89 = .ok (.if_icmp .ne 16, 3) := by decide +kernel
theorem dX1_isSame_92 : decode cX1_isSame 92 = .ok (.aload_n 1, 1) := by decide +kernel
theorem dX1_isSame_93 : decode cX1_isSame 93 = .ok (.iload_n 3, 1) := by decide +kernel
theorem dX1_isSame_94 : decode cX1_isSame 94 = .ok (.invokevirtual 83, 3) := by decide +kernel
theorem dX1_isSame_97 : decode cX1_isSame 97 = .ok (.aload_n 0, 1) := by decide +kernel
theorem dX1_isSame_98 : decode cX1_isSame 98 = .ok (.iload_n 3, 1) := by decide +kernel
theorem dX1_isSame_99 : decode cX1_isSame 99 = .ok (.invokevirtual 50, 3) := by decide +kernel
theorem dX1_isSame_102 : decode cX1_isSame 102 = .ok (.if_icmp .eq 5, 3) := by decide +kernel
theorem dX1_isSame_105 : decode cX1_isSame 105 = .ok (.iconst 0, 1) := by decide +kernel
theorem dX1_isSame_106 : decode cX1_isSame 106 = .ok (.ireturn, 1) := by decide +kernel
theorem dX1_isSame_107 : decode cX1_isSame 107 = .ok (.iinc 3 1, 3) := by decide +kernel
theorem dX1_isSame_110 : decode cX1_isSame 110 = .ok (.goto (-37), 3) := by decide +kernel
theorem dX1_isSame_113 : decode cX1_isSame 113 = .ok (.iconst (-1), 1) := by decide +kernel
theorem dX1_isSame_114 : decode cX1_isSame 114 = .ok (.istore_n 3, 1) := by decide +kernel
theorem dX1_isSame_115 : decode cX1_isSame 115 = .ok (.iconst (-1), 1) := by decide +kernel
theorem dX1_isSame_116 : decode cX1_isSame 116 = .ok (.istore 4, 2) := by decide +kernel
theorem dX1_isSame_118 : decode cX1_isSame 118 = .ok (.iconst 0, 1) := by decide +kernel
theorem dX1_isSame_119 : decode cX1_isSame 119 = .ok (.istore 5, 2) := by decide +kernel
theorem dX1_isSame_121 : decode cX1_isSame 121 = .ok (.iload_n 2, 1) := by decide +kernel
theorem dX1_isSame_122 : decode cX1_isSame 122 = .ok (.iconst 1, 1) := by decide +kernel
theorem dX1_isSame_123 : decode cX1_isSame 123 = .ok (.isub, 1) := by decide +kernel
theorem dX1_isSame_124 : decode cX1_isSame 124 = .ok (.istore 6, 2) := by decide +kernel
theorem dX1_isSame_126 : decode cX1_isSame 126 = .ok (.iload 6, 2) := by decide +kernel
theorem dX1_isSame_128 : decode cX1_isSame 128 = .ok (.ifCond .lt 292, 3) := by decide +kernel
theorem dX1_isSame_131 : decode cX1_isSame 131 = .ok (.iload 5, 2) := by decide +kernel
theorem dX1_isSame_133 : decode cX1_isSame 133 = .ok (.aload_n 0, 1) := by decide +kernel
theorem dX1_isSame_134 : decode cX1_isSame 134 = .ok (.iload 6, 2) := by decide +kernel
theorem dX1_isSame_136 : decode cX1_isSame 136 = .ok (.invokevirtual 47, 3) := by decide +kernel
theorem dX1_isSame_139 : decode cX1_isSame 139 = .ok (.iadd, 1) := by decide +kernel
theorem dX1_isSame_140 : decode cX1_isSame 140 = .ok (.istore 5, 2) := by decide +kernel
theorem dX1_isSame_142 : decode cX1_isSame 142 = .ok (.aload_n 1, 1) := by decide +kernel
theorem dX1_isSame_143 : decode cX1_isSame 143 = .ok (.iload 6, 2) := by decide +kernel
theorem dX1_isSame_145 : decode cX1_isSame 145 = .ok (.invokevirtual 86, 3) := by decide +kernel
theorem dX1_isSame_148 : decode cX1_isSame 148 = .ok (.aload_n 0, 1) := by decide +kernel
theorem dX1_isSame_149 : decode cX1_isSame 149 = .ok (.iload 6, 2) := by decide +kernel
theorem dX1_isSame_151 : decode cX1_isSame 151 = .ok (.invokevirtual 89, 3) := by decide +kernel
theorem dX1_isSame_154 : decode cX1_isSame 154 = .ok (.if_icmp .ne 72, 3) := by decide +kernel
theorem dX1_isSame_157 : decode cX1_isSame 157 = .ok (.aload_n 1, 1) := by decide +kernel
theorem dX1_isSame_158 : decode cX1_isSame 158 = .ok (.iload 6, 2) := by decide +kernel
theorem dX1_isSame_160 : decode cX1_isSame 160 = .ok (.invokevirtual 92, 3) := by decide +kernel
theorem dX1_isSame_163 : decode cX1_isSame 163 = .ok (.aload_n 0, 1) := by decide +kernel
theorem dX1_isSame_164 : decode cX1_isSame 164 = .ok (.getfield 15, 3) := by decide +kernel
theorem dX1_isSame_167 : decode cX1_isSame 167 = .ok (.iload 6, 2) := by decide +kernel
theorem dX1_isSame_169 : decode cX1_isSame 169 = .ok (.aaload, 1) := by decide +kernel
theorem dX1_isSame_170 : decode cX1_isSame 170 = .ok (.iconst 2, 1) := by decide +kernel
theorem dX1_isSame_171 : decode cX1_isSame 171 = .ok (.iaload, 1) := by decide +kernel
theorem dX1_isSame_172 : decode cX1_isSame 172 = .ok (.if_icmp .ne 54, 3) := by decide +kernel
theorem dX1_isSame_175 : decode cX1_isSame 175 = .ok (.aload_n 1, 1) := by decide +kernel
theorem dX1_isSame_176 : decode cX1_isSame 176 = .ok (.iload 6, 2) := by decide +kernel
theorem dX1_isSame_178 : decode cX1_isSame 178 = .ok (.invokevirtual 95, 3) := by decide +kernel
theorem dX1_isSame_181 : decode cX1_isSame 181 = .ok (.aload_n 0, 1) := by decide +kernel
theorem dX1_isSame_182 : decode cX1_isSame 182 = .ok (.getfield 15, 3) := by decide +kernel
theorem dX1_isSame_185 : decode cX1_isSame 185 = .ok (.iload 6, 2) := by decide +kernel
theorem dX1_isSame_187 : decode cX1_isSame 187 = .ok (.aaload, 1) := by decide +kernel
theorem dX1_isSame_188 : decode cX1_isSame 188 = .ok (.iconst 3, 1) := by decide +kernel
theorem dX1_isSame_189 : decode cX1_isSame 189 = .ok (.iaload, 1) := by decide +kernel
theorem dX1_isSame_190 : decode cX1_isSame 190 = .ok (.if_icmp .ne 36, 3) := by decide +kernel
theorem dX1_isSame_193 : decode cX1_isSame 193 = .ok (.aload_n 1, 1) := by decide +kernel
theorem dX1_isSame_194 : decode cX1_isSame 194 = .ok (.iload 6, 2) := by decide +kernel
theorem dX1_isSame_196 : decode cX1_isSame 196 = .ok (.invokevirtual 98, 3) := by decide +kernel
theorem dX1_isSame_199 : decode cX1_isSame 199 = .ok (.aload_n 0, 1) := by decide +kernel
theorem dX1_isSame_200 : decode cX1_isSame 200 = .ok (.getfield 15, 3) := by decide +kernel
theorem dX1_isSame_203 : decode cX1_isSame 203 = .ok (.iload 6, 2) := by decide +kernel
theorem dX1_isSame_205 : decode cX1_isSame 205 = .ok (.aaload, 1) := by decide +kernel
theorem dX1_isSame_206 : decode cX1_isSame 206 = .ok (.iconst 4, 1) := by decide +kernel
theorem dX1_isSame_207 : decode cX1_isSame 207 = .ok (.iaload, 1) := by decide +kernel
theorem dX1_isSame_208 : decode cX1_isSame 208 = .ok (.if_icmp .ne 18, 3) := by decide +kernel
theorem dX1_isSame_211 : decode cX1_isSame 211 = .ok (.aload_n 1, 1) := by decide +kernel
theorem dX1_isSame_212 : decode cX1_isSame 212 = .ok (.iload 6, 2) := by decide +kernel
theorem dX1_isSame_214 : decode cX1_isSame 214 = .ok (.invokevirtual 101, 3) := by decide +kernel
theorem dX1_isSame_217 : decode cX1_isSame 217 = .ok (.aload_n 0, 1) := by decide +kernel
theorem dX1_isSame_218 : decode cX1_isSame 218 = .ok (.iload 6, 2) := by decide +kernel
theorem dX1_isSame_220 : decode cX1_isSame 220 = .ok (.invokevirtual 47, 3) := by decide +kernel
theorem dX1_isSame_223 : decode cX1_isSame 223 = .ok (.if_icmp .eq 5, 3) := by decide +kernel
theorem dX1_isSame_226 : decode cX1_isSame 226 = .ok (.iconst 0, 1) := by decide +kernel
theorem dX1_isSame_227 : decode cX1_isSame 227 = .ok (.ireturn, 1) := by decide +kernel
theorem dX1_isSame_228 : decode cX1_isSame 228 = .ok (.iload_n 2, 1) := by decide +kernel
theorem dX1_isSame_229 : decode cX1_isSame 229 = .ok (.iconst 1, 1) := by decide +kernel
theorem dX1_isSame_230 : decode cX1_isSame 230 = .ok (.isub, 1) := by decide +kernel
theorem dX1_isSame_231 : decode cX1_isSame 231 = .ok (.istore 7, 2) := by decide +kernel
theorem dX1_isSame_233 : decode cX1_isSame 233 = .ok (.iload 7, 2) := by decide +kernel
theorem dX1_isSame_235 : decode cX1_isSame 235 = .ok (.iload 6, 2) := by decide +kernel
theorem dX1_isSame_237 : decode cX1_isSame 237 = .ok (.if_icmp .le 177, 3) := by decide +kernel
theorem dX1_isSame_240 : decode cX1_isSame 240 = .ok (.aload_n 0, 1) := by decide +kernel
theorem dX1_isSame_241 : decode cX1_isSame 241 = .ok (.aload_n 0, 1) := by decide +kernel
theorem dX1_isSame_242 : decode cX1_isSame 242 = .ok (.getfield 15, 3) := by decide +kernel
theorem dX1_isSame_245 : decode cX1_isSame 245 = .ok (.iload 6, 2) := by decide +kernel
theorem dX1_isSame_247 : decode cX1_isSame 247 = .ok (.aaload, 1) := by decide +kernel
theorem dX1_isSame_248 : decode cX1_isSame 248 = .ok (.aload_n 0, 1) := by decide +kernel
theorem dX1_isSame_249 : decode cX1_isSame 249 = .ok (.getfield 15, 3) := by decide +kernel
theorem dX1_isSame_252 : decode cX1_isSame 252 = .ok (.iload 7, 2) := by decide +kernel
theorem dX1_isSame_254 : decode cX1_isSame 254 = .ok (.aaload, 1) := by decide +kernel
theorem dX1_isSame_255 : decode cX1_isSame 255 = .ok (.invokevirtual 43, 3) := by decide +kernel
theorem dX1_isSame_258 : decode cX1_isSame 258 = .ok (.istore 8, 2) := by decide +kernel
theorem dX1_isSame_260 : decode cX1_isSame 260 = .ok (.aload_n 1, 1) := by decide +kernel
theorem dX1_isSame_261 : decode cX1_isSame 261 = .ok (.iload 6, 2) := by decide +kernel
theorem dX1_isSame_263 : decode cX1_isSame 263 = .ok (.iload 7, 2) := by decide +kernel
theorem dX1_isSame_265 : decode cX1_isSame 265 = .ok (.invokevirtual 104, 3) := by decide +kernel
theorem dX1_isSame_268 : decode cX1_isSame 268 = .ok (.iload 8, 2) := by decide +kernel
theorem dX1_isSame_270 : decode cX1_isSame 270 = .ok (.if_icmp .ne 113, 3) := by decide +kernel
theorem dX1_isSame_273 : decode cX1_isSame 273 = .ok (.aload_n 1, 1) := by decide +kernel
theorem dX1_isSame_274 : decode cX1_isSame 274 = .ok (.iload 7, 2) := by decide +kernel
theorem dX1_isSame_276 : decode cX1_isSame 276 = .ok (.iload 6, 2) := by decide +kernel
theorem dX1_isSame_278 : decode cX1_isSame 278 = .ok (.invokevirtual 104, 3) := by decide +kernel
theorem dX1_isSame_281 : decode cX1_isSame 281 = .ok (.iload 8, 2) := by decide +kernel
theorem dX1_isSame_283 : decode cX1_isSame 283 = .ok (.if_icmp .ne 100, 3) := by decide +kernel
theorem dX1_isSame_286 : decode cX1_isSame 286 = .ok (.aload_n 1, 1) := by decide +kernel
theorem dX1_isSame_287 : decode cX1_isSame 287 = .ok (.iload 7, 2) := by decide +kernel
theorem dX1_isSame_289 : decode cX1_isSame 289 = .ok (.iload 6, 2) := by decide +kernel
theorem dX1_isSame_291 : decode cX1_isSame 291 = .ok (.invokevirtual 107, 3) := by decide +kernel
theorem dX1_isSame_294 : decode cX1_isSame 294 = .ok (.aload_n 0, 1) := by decide +kernel
theorem dX1_isSame_295 : decode cX1_isSame 295 = .ok (.getfield 15, 3) := by decide +kernel
theorem dX1_isSame_298 : decode cX1_isSame 298 = .ok (.iload 6, 2) := by decide +kernel
theorem dX1_isSame_300 : decode cX1_isSame 300 = .ok (.aaload, 1) := by decide +kernel
theorem dX1_isSame_301 : decode cX1_isSame 301 = .ok (.iconst 3, 1) := by decide +kernel
theorem dX1_isSame_302 : decode cX1_isSame 302 = .ok (.iaload, 1) := by decide +kernel
theorem dX1_isSame_303 : decode cX1_isSame 303 = .ok (.aload_n 0, 1) := by decide +kernel
theorem dX1_isSame_304 : decode cX1_isSame 304 = .ok (.getfield 15, 3) := by decide +kernel
theorem dX1_isSame_307 : decode cX1_isSame 307 = .ok (.iload 7, 2) := by decide +kernel
theorem dX1_isSame_309 : decode cX1_isSame 309 = .ok (.aaload, 1) := by decide +kernel
theorem dX1_isSame_310 : decode cX1_isSame 310 = .ok (.iconst 3, 1) := by decide +kernel
theorem dX1_isSame_311 : decode cX1_isSame 311 = .ok (.iaload, 1) := by decide +kernel
theorem dX1_isSame_312 : decode cX1_isSame 312 = .ok (.if_icmp .ne 7, 3) := by decide +kernel
theorem dX1_isSame_315 : decode cX1_isSame 315 = .ok (.iconst 1, 1) := by decide +kernel
theorem dX1_isSame_316 : decode cX1_isSame 316 = .ok (.goto 4, 3) := by decide +kernel
theorem dX1_isSame_319 : decode cX1_isSame 319 = .ok (.iconst 0, 1) := by decide +kernel
theorem dX1_isSame_320 : decode cX1_isSame 320 = .ok (.if_icmp .ne 63, 3) := by decide +kernel
theorem dX1_isSame_323 : decode cX1_isSame 323 = .ok (.aload_n 1, 1) := by decide +kernel
theorem dX1_isSame_324 : decode cX1_isSame 324 = .ok (.iload 6, 2) := by decide +kernel
theorem dX1_isSame_326 : decode cX1_isSame 326 = .ok (.iload 7, 2) := by decide +kernel
theorem dX1_isSame_328 : decode cX1_isSame 328 = .ok (.invokevirtual 111, 3) := by decide +kernel
theorem dX1_isSame_331 : decode cX1_isSame 331 = .ok (.aload_n 0, 1) := by decide +kernel
theorem dX1_isSame_332 : decode cX1_isSame 332 = .ok (.getfield 15, 3) := by decide +kernel
theorem dX1_isSame_335 : decode cX1_isSame 335 = .ok (.iload 7, 2) := by decide +kernel
theorem dX1_isSame_337 : decode cX1_isSame 337 = .ok (.aaload, 1) := by decide +kernel
theorem dX1_isSame_338 : decode cX1_isSame 338 = .ok (.aload_n 0, 1) := by decide +kernel
theorem dX1_isSame_339 : decode cX1_isSame 339 = .ok (.getfield 15, 3) := by decide +kernel
theorem dX1_isSame_342 : decode cX1_isSame 342 = .ok (.iload 6, 2) := by decide +kernel
theorem dX1_isSame_344 : decode cX1_isSame 344 = .ok (.aaload, 1) := by decide +kernel
theorem dX1_isSame_345 : decode cX1_isSame 345 = .ok (.invokestatic 39, 3) := by decide +kernel
theorem dX1_isSame_348 : decode cX1_isSame 348 = .ok (.if_icmp .ne 35, 3) := by decide +kernel
theorem dX1_isSame_351 : decode cX1_isSame 351 = .ok (.aload_n 1, 1) := by decide +kernel
theorem dX1_isSame_352 : decode cX1_isSame 352 = .ok (.iload 6, 2) := by decide +kernel
theorem dX1_isSame_354 : decode cX1_isSame 354 = .ok (.iload 7, 2) := by decide +kernel
theorem dX1_isSame_356 : decode cX1_isSame 356 = .ok (.invokevirtual 114, 3) := by decide +kernel
theorem dX1_isSame_359 : decode cX1_isSame 359 = .ok (.aload_n 0, 1) := by decide +kernel
theorem dX1_isSame_360 : decode cX1_isSame 360 = .ok (.getfield 15, 3) := by decide +kernel
theorem dX1_isSame_363 : decode cX1_isSame 363 = .ok (.iload 6, 2) := by decide +kernel
theorem dX1_isSame_365 : decode cX1_isSame 365 = .ok (.aaload, 1) := by decide +kernel
theorem dX1_isSame_366 : decode cX1_isSame 366 = .ok (.iconst 3, 1) := by decide +kernel
theorem dX1_isSame_367 : decode cX1_isSame 367 = .ok (.iaload, 1) := by decide +kernel
theorem dX1_isSame_368 : decode cX1_isSame 368 = .ok (.aload_n 0, 1) := by decide +kernel
theorem dX1_isSame_369 : decode cX1_isSame 369 = .ok (.getfield 15, 3) := by decide +kernel
theorem dX1_isSame_372 : decode cX1_isSame 372 = .ok (.iload 7, 2) := by decide +kernel
theorem dX1_isSame_374 : decode cX1_isSame 374 = .ok (.aaload, 1) := by decide +kernel
theorem dX1_isSame_375 : decode cX1_isSame 375 = .ok (.iconst 3, 1) := by decide +kernel
theorem dX1_isSame_376 : decode cX1_isSame 376 = .ok (.iaload, 1) := by decide +kernel
theorem dX1_isSame_377 : decode cX1_isSame 377 = .ok (.invokestatic 117, 3) := by decide +kernel
theorem dX1_isSame_380 : decode cX1_isSame 380 = .ok (.if_icmp .eq 5, 3) := by decide +kernel
theorem dX1_isSame_383 : decode cX1_isSame 383 = .ok (.iconst 0, 1) := by decide +kernel
theorem dX1_isSame_384 : decode cX1_isSame 384 = .ok (.ireturn, 1) := by decide +kernel
theorem dX1_isSame_385 : decode cX1_isSame 385 = .ok (.iload 8, 2) := by decide +kernel
theorem dX1_isSame_387 : decode cX1_isSame 387 = .ok (.iload 4, 2) := by decide +kernel
theorem dX1_isSame_389 : decode cX1_isSame 389 = .ok (.if_icmp .ge 6, 3) := by decide +kernel
theorem dX1_isSame_392 : decode cX1_isSame 392 = .ok (.goto 16, 3) := by decide +kernel
theorem dX1_isSame_395 : decode cX1_isSame 395 = .ok (.iload 8, 2) := by decide +kernel
theorem dX1_isSame_397 : decode cX1_isSame 397 = .ok (.istore 4, 2) := by decide +kernel
theorem dX1_isSame_399 : decode cX1_isSame 399 = .ok (.bipush 100, 2) := by decide +kernel
theorem dX1_isSame_401 : decode cX1_isSame 401 = .ok (.iload 6, 2) := by decide +kernel
theorem dX1_isSame_403 : decode cX1_isSame 403 = .ok (.imul, 1) := by decide +kernel
theorem dX1_isSame_404 : decode cX1_isSame 404 = .ok (.iload 7, 2) := by decide +kernel
theorem dX1_isSame_406 : decode cX1_isSame 406 = .ok (.iadd, 1) := by decide +kernel
theorem dX1_isSame_407 : decode cX1_isSame 407 = .ok (.istore_n 3, 1) := by decide +kernel
theorem dX1_isSame_408 : decode cX1_isSame 408 = .ok (.iinc 7 (-1), 3) := by decide +kernel
theorem dX1_isSame_411 : decode cX1_isSame 411 = .ok (.goto (-178), 3) := by decide +kernel
theorem dX1_isSame_414 : decode cX1_isSame 414 = .ok (.iinc 6 (-1), 3) := by decide +kernel
theorem dX1_isSame_417 : decode cX1_isSame 417 = .ok (.goto (-291), 3) := by decide +kernel
theorem dX1_isSame_420 : decode cX1_isSame 420 = .ok (.aload_n 1, 1) := by decide +kernel
theorem dX1_isSame_421 : decode cX1_isSame 421 = .ok (.invokevirtual 120, 3) := by decide +kernel
theorem dX1_isSame_424 : decode cX1_isSame 424 = .ok (.iload_n 3, 1) := by decide +kernel
theorem dX1_isSame_425 : decode cX1_isSame 425 = .ok (.if_icmp .ne 29, 3) := by decide +kernel
theorem dX1_isSame_428 : decode cX1_isSame 428 = .ok (.aload_n 1, 1) := by decide +kernel
theorem dX1_isSame_429 : decode cX1_isSame 429 = .ok (.invokevirtual 123, 3) := by decide +kernel
theorem dX1_isSame_432 : decode cX1_isSame 432 = .ok (.iload_n 2, 1) := by decide +kernel
theorem dX1_isSame_433 : decode cX1_isSame 433 = .ok (.ifCond .ne 7, 3) := by decide +kernel
theorem dX1_isSame_436 : decode cX1_isSame 436 = .ok (.dconst 0, 1) := by decide +kernel
theorem dX1_isSame_437 : decode cX1_isSame 437 = .ok (.goto 9, 3) := by decide +kernel
theorem dX1_isSame_440 : decode cX1_isSame 440 = .ok (.iload 5, 2) := by decide +kernel
theorem dX1_isSame_442 : decode cX1_isSame 442 = .ok (.i2d, 1) := by decide +kernel
theorem dX1_isSame_443 : decode cX1_isSame 443 = .ok (.iload_n 2, 1) := by decide +kernel
theorem dX1_isSame_444 : decode cX1_isSame 444 = .ok (.i2d, 1) := by decide +kernel
theorem dX1_isSame_445 : decode cX1_isSame 445 = .ok (.ddiv, 1) := by decide +kernel
theorem dX1_isSame_446 : decode cX1_isSame 446 = .ok (.dcmp .l, 1) := by decide +kernel
theorem dX1_isSame_447 : decode cX1_isSame 447 = .ok (.ifCond .ne 7, 3) := by decide +kernel
theorem dX1_isSame_450 : decode cX1_isSame 450 = .ok (.iconst 1, 1) := by decide +kernel
theorem dX1_isSame_451 : decode cX1_isSame 451 = .ok (.goto 4, 3) := by decide +kernel
theorem dX1_isSame_454 : decode cX1_isSame 454 = .ok (.iconst 0, 1) := by decide +kernel
theorem dX1_isSame_455 : decode cX1_isSame 455 = .ok (.ireturn, 1) := by decide +kernel
theorem dJ9_abs_0f7a4_0 : decode cJ9_abs_0f7a4 0 = .ok (.iload_n 0, 1) := by decide +kernel
theorem dJ9_abs_0f7a4_1 : decode cJ9_abs_0f7a4 1 = .ok (.ifCond .ge 8, 3) := by decide +kernel
theorem dJ9_abs_0f7a4_4 : decode cJ9_abs_0f7a4 4 = .ok (.iload_n 0, 1) := by decide +kernel
theorem dJ9_abs_0f7a4_5 : decode cJ9_abs_0f7a4 5 = .ok (.ineg, 1) := by decide +kernel
theorem dJ9_abs_0f7a4_6 : decode cJ9_abs_0f7a4 6 = .ok (.goto 4, 3) := by decide +kernel
theorem dJ9_abs_0f7a4_9 : decode cJ9_abs_0f7a4 9 = .ok (.iload_n 0, 1) := by decide +kernel
theorem dJ9_abs_0f7a4_10 : decode cJ9_abs_0f7a4 10 = .ok (.ireturn, 1) := by decide +kernel
theorem dJ9_min_7cf53_0 : decode cJ9_min_7cf53 0 = .ok (.iload_n 0, 1) := by decide +kernel
theorem dJ9_min_7cf53_1 : decode cJ9_min_7cf53 1 = .ok (.iload_n 1, 1) := by decide +kernel
theorem dJ9_min_7cf53_2 : decode cJ9_min_7cf53 2 = .ok (.if_icmp .gt 7, 3) := by decide +kernel
theorem dJ9_min_7cf53_5 : decode cJ9_min_7cf53 5 = .ok (.iload_n 0, 1) := by decide +kernel
theorem dJ9_min_7cf53_6 : decode cJ9_min_7cf53 6 = .ok (.goto 4, 3) := by decide +kernel
theorem dJ9_min_7cf53_9 : decode cJ9_min_7cf53 9 = .ok (.iload_n 1, 1) := by decide +kernel
theorem dJ9_min_7cf53_10 : decode cJ9_min_7cf53 10 = .ok (.ireturn, 1) := by decide +kernel
end
section
theorem dL_below_0 : decode cL_below 0 = .ok (.iload_n 0, 1) := by decide +kernel
theorem dL_below_1 : decode cL_below 1 = .ok (.ldc 7, 2) := by decide +kernel
theorem dL_below_3 : decode cL_below 3 = .ok (.iand, 1) := by decide +kernel
theorem dL_below_4 : decode cL_below 4 = .ok (.iload_n 1, 1) := by decide +kernel
theorem dL_below_5 : decode cL_below 5 = .ok (.irem, 1) := by decide +kernel
theorem dL_below_6 : decode cL_below 6 = .ok (.ireturn, 1) := by decide +kernel
theorem dL_cell_0 : decode cL_cell 0 = .ok (.iload_n 1, 1) := by decide +kernel
theorem dL_cell_1 : decode cL_cell 1 = .ok (.aload_n 0, 1) := by decide +kernel
theorem dL_cell_2 : decode cL_cell 2 = .ok (.arraylength, 1) := by decide +kernel
theorem dL_cell_3 : decode cL_cell 3 = .ok (.if_icmp .ge 9, 3) := by decide +kernel
theorem dL_cell_6 : decode cL_cell 6 = .ok (.aload_n 0, 1) := by decide +kernel
theorem dL_cell_7 : decode cL_cell 7 = .ok (.iload_n 1, 1) := by decide +kernel
theorem dL_cell_8 : decode cL_cell 8 = .ok (.iaload, 1) := by decide +kernel
theorem dL_cell_9 : decode cL_cell 9 = .ok (.goto 9, 3) := by decide +kernel
theorem dL_cell_12 : decode cL_cell 12 = .ok (.ldc 8, 2) := by decide +kernel
theorem dL_cell_14 : decode cL_cell 14 = .ok (.iload_n 1, 1) := by decide +kernel
theorem dL_cell_15 : decode cL_cell 15 = .ok (.iconst 3, 1) := by decide +kernel
theorem dL_cell_16 : decode cL_cell 16 = .ok (.iadd, 1) := by decide +kernel
theorem dL_cell_17 : decode cL_cell 17 = .ok (.imul, 1) := by decide +kernel
theorem dL_cell_18 : decode cL_cell 18 = .ok (.ireturn, 1) := by decide +kernel
set_option maxRecDepth 20000 in
theorem ggL_act_L_below : GoodIn wsL_act wsL_below := goodIn_r _ [7, 8] (by decide +kernel) (by decide +kernel)
set_option maxRecDepth 20000 in
theorem gL_act_L_below : GoodIn wsL_act (va_wsS RL 15 yL_below wsL_below) := goodIn_app (goodIn_of _ (by decide +kernel)) ggL_act_L_below
set_option maxRecDepth 20000 in
theorem ggL_act_X1_with : GoodIn wsL_act wsX1_with := goodIn_r _ [12, 13] (by decide +kernel) (by decide +kernel)
set_option maxRecDepth 20000 in
theorem gL_act_X1_with : GoodIn wsL_act (va_wsS RL 21 yX1_with wsX1_with) := goodIn_app (goodIn_of _ (by decide +kernel)) ggL_act_X1_with
set_option maxRecDepth 20000 in
theorem ggL_act_X0_addStranger : GoodIn wsL_act wsX0_addStranger := goodIn_ca (goodIn_ca (goodIn_r _ [18, 19, 20, 21, 22, 23, 24, 25, 26, 27, 28, 29, 17, 30, 31, 32, 33, 34, 35, 36, 37, 38, 39, 190, 191, 192, 193, 194, 195, 196, 197, 198] (by decide +kernel) (by decide +kernel)) (goodIn_sub (fun _ h => List.mem_cons_of_mem _ (List.mem_append_left _ (List.mem_append_left _ (List.mem_append_right _ h)))) (by decide +kernel))) (goodIn_sub (fun _ h => List.mem_cons_of_mem _ (List.mem_append_left _ (List.mem_append_right _ h))) (by decide +kernel))
set_option maxRecDepth 20000 in
theorem gL_act_X0_addStranger : GoodIn wsL_act (wsV RL 25 RX0 yX0_addStranger wsX0_addStranger) := goodIn_app (goodIn_of _ (by decide +kernel)) ggL_act_X0_addStranger
set_option maxRecDepth 20000 in
theorem ggL_act_X0_setWalk : GoodIn wsL_act wsX0_setWalk := goodIn_ca (goodIn_ca (goodIn_r _ [43, 19, 20, 27, 44, 45, 46, 17, 47, 48, 49, 23, 37, 38, 39, 190, 191, 192, 193, 194, 195, 196, 197, 198] (by decide +kernel) (by decide +kernel)) (goodIn_sub (fun _ h => List.mem_cons_of_mem _ (List.mem_append_left _ (List.mem_append_left _ (List.mem_append_right _ h)))) (by decide +kernel))) (goodIn_sub (fun _ h => List.mem_cons_of_mem _ (List.mem_append_right _ h)) (by decide +kernel))
set_option maxRecDepth 20000 in
theorem gL_act_X0_setWalk : GoodIn wsL_act (wsV RL 33 RX0 yX0_setWalk wsX0_setWalk) := goodIn_app (goodIn_of _ (by decide +kernel)) ggL_act_X0_setWalk
set_option maxRecDepth 20000 in
theorem ggL_act_X0_pass : GoodIn wsL_act wsX0_pass := goodIn_ca (goodIn_r _ [53, 19, 20, 54, 55, 56, 57, 17, 58, 23, 26, 59, 60, 61, 62, 63, 64, 65, 66, 67, 68, 27, 69, 70, 71, 72, 73, 74, 75, 76, 24, 25, 77, 78, 79, 80, 81, 82, 83, 84, 85, 86, 87, 88, 89, 90, 91, 92, 93, 94, 95, 96, 97, 98, 99, 190, 191, 192, 193, 194, 195, 196, 197, 198] (by decide +kernel) (by decide +kernel)) (goodIn_sub (fun _ h => List.mem_cons_of_mem _ (List.mem_append_left _ (List.mem_append_left _ (List.mem_append_right _ h)))) (by decide +kernel))
set_option maxRecDepth 20000 in
theorem gL_act_X0_pass : GoodIn wsL_act (wsV RL 36 RX0 yX0_pass wsX0_pass) := goodIn_app (goodIn_of _ (by decide +kernel)) ggL_act_X0_pass
set_option maxRecDepth 20000 in
theorem ggL_act_X1_pass : GoodIn wsL_act wsX1_pass := goodIn_r _ [103, 104, 105, 106, 107, 61, 62, 63, 108, 109, 110, 111, 11, 112, 113, 114, 115, 116, 117, 118, 119, 120, 121, 122, 123, 124, 125, 81, 82, 126, 127, 128, 129, 130, 131, 132, 185, 186, 187, 188, 189] (by decide +kernel) (by decide +kernel)
set_option maxRecDepth 20000 in
theorem gL_act_X1_pass : GoodIn wsL_act (wsV RL 40 RX1 yX1_pass wsX1_pass) := goodIn_app (goodIn_of _ (by decide +kernel)) ggL_act_X1_pass
set_option maxRecDepth 20000 in
theorem ggL_act_L_works : GoodIn wsL_act wsL_works := goodIn_ca (goodIn_ca (goodIn_ca (goodIn_r _ [135, 1, 2, 136, 137, 110, 111, 11, 112, 113, 114, 115, 116, 105, 117, 118, 119, 120, 121, 122, 123, 124, 125, 81, 62, 82, 126, 127, 128, 4, 5, 6, 7, 8, 138, 139, 140, 141, 142, 143, 144, 106, 145, 146, 147, 148, 149, 150, 151, 152, 153, 154, 155, 156, 17, 157, 21, 22, 26, 25, 158, 159, 160, 161, 19, 20, 44, 45, 46, 47, 48, 49, 23, 162, 163, 164, 165, 59, 166, 69, 70, 71, 72, 65, 66, 67, 68, 27, 73, 74, 75, 76, 24, 77, 78, 79, 80, 83, 84, 85, 86, 87, 88, 89, 90, 91, 167, 168, 169, 170, 171, 172, 173, 174, 175, 176, 177, 34, 35, 36, 178, 179, 180, 60, 61, 63, 181, 182, 183, 184, 28, 29, 30, 185, 186, 187, 188, 189, 190, 191, 192, 193, 194, 195, 196, 197, 198] (by decide +kernel) (by decide +kernel)) (goodIn_sub (fun _ h => List.mem_cons_of_mem _ (List.mem_append_left _ (List.mem_append_right _ h))) (by decide +kernel))) (goodIn_sub (fun _ h => List.mem_cons_of_mem _ (List.mem_append_left _ (List.mem_append_left _ (List.mem_append_right _ h)))) (by decide +kernel))) (goodIn_sub (fun _ h => List.mem_cons_of_mem _ (List.mem_append_right _ h)) (by decide +kernel))
set_option maxRecDepth 20000 in
theorem gL_act_L_works : GoodIn wsL_act (va_wsS RL 41 yL_works wsL_works) := goodIn_app (goodIn_of _ (by decide +kernel)) ggL_act_L_works
theorem dL_act_0 : decode cL_act 0 = .ok (.aload_n 1, 1) := by decide +kernel
theorem dL_act_1 : decode cL_act 1 = .ok (.getfield 9, 3) := by decide +kernel
theorem dL_act_4 : decode cL_act 4 = .ok (.arraylength, 1) := by decide +kernel
theorem dL_act_5 : decode cL_act 5 = .ok (.istore_n 3, 1) := by decide +kernel
theorem dL_act_6 : decode cL_act 6 = .ok (.iload_n 3, 1) := by decide +kernel
theorem dL_act_7 : decode cL_act 7 = .ok (.ifCond .ne 7, 3) := by decide +kernel
theorem dL_act_10 : decode cL_act 10 = .ok (.iconst 0, 1) := by decide +kernel
theorem dL_act_11 : decode cL_act 11 = .ok (.goto 9, 3) := by decide +kernel
theorem dL_act_14 : decode cL_act 14 = .ok (.iload_n 2, 1) := by decide +kernel
theorem dL_act_15 : decode cL_act 15 = .ok (.bipush 20, 2) := by decide +kernel
theorem dL_act_17 : decode cL_act 17 = .ok (.invokestatic 15, 3) := by decide +kernel
theorem dL_act_20 : decode cL_act 20 = .ok (.istore 4, 2) := by decide +kernel
theorem dL_act_22 : decode cL_act 22 = .ok (.iload 4, 2) := by decide +kernel
theorem dL_act_24 : decode cL_act 24 = .ok (.ifCond .ne 171, 3) := by decide +kernel
theorem dL_act_27 : decode cL_act 27 = .ok (.iconst 5, 1) := by decide +kernel
theorem dL_act_28 : decode cL_act 28 = .ok (.newarray .int, 2) := by decide +kernel
theorem dL_act_30 : decode cL_act 30 = .ok (.dup, 1) := by decide +kernel
theorem dL_act_31 : decode cL_act 31 = .ok (.iconst 0, 1) := by decide +kernel
theorem dL_act_32 : decode cL_act 32 = .ok (.iload_n 2, 1) := by decide +kernel
theorem dL_act_33 : decode cL_act 33 = .ok (.iconst 3, 1) := by decide +kernel
theorem dL_act_34 : decode cL_act 34 = .ok (.ishr, 1) := by decide +kernel
theorem dL_act_35 : decode cL_act 35 = .ok (.iload_n 2, 1) := by decide +kernel
theorem dL_act_36 : decode cL_act 36 = .ok (.bipush 9, 2) := by decide +kernel
theorem dL_act_38 : decode cL_act 38 = .ok (.ishr, 1) := by decide +kernel
theorem dL_act_39 : decode cL_act 39 = .ok (.iconst 2, 1) := by decide +kernel
theorem dL_act_40 : decode cL_act 40 = .ok (.invokestatic 15, 3) := by decide +kernel
theorem dL_act_43 : decode cL_act 43 = .ok (.ifCond .ne 8, 3) := by decide +kernel
theorem dL_act_46 : decode cL_act 46 = .ok (.bipush 10, 2) := by decide +kernel
theorem dL_act_48 : decode cL_act 48 = .ok (.goto 4, 3) := by decide +kernel
theorem dL_act_51 : decode cL_act 51 = .ok (.iconst 3, 1) := by decide +kernel
theorem dL_act_52 : decode cL_act 52 = .ok (.invokestatic 15, 3) := by decide +kernel
theorem dL_act_55 : decode cL_act 55 = .ok (.iastore, 1) := by decide +kernel
theorem dL_act_56 : decode cL_act 56 = .ok (.dup, 1) := by decide +kernel
theorem dL_act_57 : decode cL_act 57 = .ok (.iconst 1, 1) := by decide +kernel
theorem dL_act_58 : decode cL_act 58 = .ok (.iload_n 2, 1) := by decide +kernel
theorem dL_act_59 : decode cL_act 59 = .ok (.iconst 5, 1) := by decide +kernel
theorem dL_act_60 : decode cL_act 60 = .ok (.ishr, 1) := by decide +kernel
theorem dL_act_61 : decode cL_act 61 = .ok (.iload_n 2, 1) := by decide +kernel
theorem dL_act_62 : decode cL_act 62 = .ok (.bipush 8, 2) := by decide +kernel
theorem dL_act_64 : decode cL_act 64 = .ok (.ishr, 1) := by decide +kernel
theorem dL_act_65 : decode cL_act 65 = .ok (.iconst 2, 1) := by decide +kernel
theorem dL_act_66 : decode cL_act 66 = .ok (.invokestatic 15, 3) := by decide +kernel
theorem dL_act_69 : decode cL_act 69 = .ok (.ifCond .ne 8, 3) := by decide +kernel
theorem dL_act_72 : decode cL_act 72 = .ok (.bipush 10, 2) := by decide +kernel
theorem dL_act_74 : decode cL_act 74 = .ok (.goto 4, 3) := by decide +kernel
theorem dL_act_77 : decode cL_act 77 = .ok (.iconst 3, 1) := by decide +kernel
theorem dL_act_78 : decode cL_act 78 = .ok (.invokestatic 15, 3) := by decide +kernel
theorem dL_act_81 : decode cL_act 81 = .ok (.iastore, 1) := by decide +kernel
theorem dL_act_82 : decode cL_act 82 = .ok (.dup, 1) := by decide +kernel
theorem dL_act_83 : decode cL_act 83 = .ok (.iconst 2, 1) := by decide +kernel
theorem dL_act_84 : decode cL_act 84 = .ok (.iload_n 2, 1) := by decide +kernel
theorem dL_act_85 : decode cL_act 85 = .ok (.iconst 4, 1) := by decide +kernel
theorem dL_act_86 : decode cL_act 86 = .ok (.ishr, 1) := by decide +kernel
theorem dL_act_87 : decode cL_act 87 = .ok (.iconst 5, 1) := by decide +kernel
theorem dL_act_88 : decode cL_act 88 = .ok (.invokestatic 15, 3) := by decide +kernel
theorem dL_act_91 : decode cL_act 91 = .ok (.iastore, 1) := by decide +kernel
theorem dL_act_92 : decode cL_act 92 = .ok (.dup, 1) := by decide +kernel
theorem dL_act_93 : decode cL_act 93 = .ok (.iconst 3, 1) := by decide +kernel
theorem dL_act_94 : decode cL_act 94 = .ok (.iload_n 2, 1) := by decide +kernel
theorem dL_act_95 : decode cL_act 95 = .ok (.bipush 6, 2) := by decide +kernel
theorem dL_act_97 : decode cL_act 97 = .ok (.ishr, 1) := by decide +kernel
theorem dL_act_98 : decode cL_act 98 = .ok (.bipush 6, 2) := by decide +kernel
theorem dL_act_100 : decode cL_act 100 = .ok (.invokestatic 15, 3) := by decide +kernel
theorem dL_act_103 : decode cL_act 103 = .ok (.iastore, 1) := by decide +kernel
theorem dL_act_104 : decode cL_act 104 = .ok (.dup, 1) := by decide +kernel
theorem dL_act_105 : decode cL_act 105 = .ok (.iconst 4, 1) := by decide +kernel
theorem dL_act_106 : decode cL_act 106 = .ok (.iload_n 2, 1) := by decide +kernel
theorem dL_act_107 : decode cL_act 107 = .ok (.bipush 7, 2) := by decide +kernel
theorem dL_act_109 : decode cL_act 109 = .ok (.ishr, 1) := by decide +kernel
theorem dL_act_110 : decode cL_act 110 = .ok (.bipush 6, 2) := by decide +kernel
theorem dL_act_112 : decode cL_act 112 = .ok (.invokestatic 15, 3) := by decide +kernel
theorem dL_act_115 : decode cL_act 115 = .ok (.iastore, 1) := by decide +kernel
theorem dL_act_116 : decode cL_act 116 = .ok (.astore 5, 2) := by decide +kernel
theorem dL_act_118 : decode cL_act 118 = .ok (.iload_n 3, 1) := by decide +kernel
theorem dL_act_119 : decode cL_act 119 = .ok (.bipush 12, 2) := by decide +kernel
theorem dL_act_121 : decode cL_act 121 = .ok (.if_icmp .ge 16, 3) := by decide +kernel
theorem dL_act_124 : decode cL_act 124 = .ok (.aload_n 1, 1) := by decide +kernel
theorem dL_act_125 : decode cL_act 125 = .ok (.aload_n 1, 1) := by decide +kernel
theorem dL_act_126 : decode cL_act 126 = .ok (.getfield 9, 3) := by decide +kernel
theorem dL_act_129 : decode cL_act 129 = .ok (.aload 5, 2) := by decide +kernel
theorem dL_act_131 : decode cL_act 131 = .ok (.invokestatic 21, 3) := by decide +kernel
theorem dL_act_134 : decode cL_act 134 = .ok (.putfield 9, 3) := by decide +kernel
theorem dL_act_137 : decode cL_act 137 = .ok (.aload_n 0, 1) := by decide +kernel
theorem dL_act_138 : decode cL_act 138 = .ok (.bipush 10, 2) := by decide +kernel
theorem dL_act_140 : decode cL_act 140 = .ok (.aload 5, 2) := by decide +kernel
theorem dL_act_142 : decode cL_act 142 = .ok (.iconst 0, 1) := by decide +kernel
theorem dL_act_143 : decode cL_act 143 = .ok (.iaload, 1) := by decide +kernel
theorem dL_act_144 : decode cL_act 144 = .ok (.imul, 1) := by decide +kernel
theorem dL_act_145 : decode cL_act 145 = .ok (.aload 5, 2) := by decide +kernel
theorem dL_act_147 : decode cL_act 147 = .ok (.iconst 1, 1) := by decide +kernel
theorem dL_act_148 : decode cL_act 148 = .ok (.iaload, 1) := by decide +kernel
theorem dL_act_149 : decode cL_act 149 = .ok (.iadd, 1) := by decide +kernel
theorem dL_act_150 : decode cL_act 150 = .ok (.aload 5, 2) := by decide +kernel
theorem dL_act_152 : decode cL_act 152 = .ok (.iconst 2, 1) := by decide +kernel
theorem dL_act_153 : decode cL_act 153 = .ok (.iaload, 1) := by decide +kernel
theorem dL_act_154 : decode cL_act 154 = .ok (.aload 5, 2) := by decide +kernel
theorem dL_act_156 : decode cL_act 156 = .ok (.iconst 3, 1) := by decide +kernel
theorem dL_act_157 : decode cL_act 157 = .ok (.iaload, 1) := by decide +kernel
theorem dL_act_158 : decode cL_act 158 = .ok (.aload 5, 2) := by decide +kernel
theorem dL_act_160 : decode cL_act 160 = .ok (.iconst 4, 1) := by decide +kernel
theorem dL_act_161 : decode cL_act 161 = .ok (.iaload, 1) := by decide +kernel
theorem dL_act_162 : decode cL_act 162 = .ok (.invokevirtual 25, 3) := by decide +kernel
theorem dL_act_165 : decode cL_act 165 = .ok (.iload_n 3, 1) := by decide +kernel
theorem dL_act_166 : decode cL_act 166 = .ok (.if_icmp .ne 13, 3) := by decide +kernel
theorem dL_act_169 : decode cL_act 169 = .ok (.iload_n 3, 1) := by decide +kernel
theorem dL_act_170 : decode cL_act 170 = .ok (.bipush 12, 2) := by decide +kernel
theorem dL_act_172 : decode cL_act 172 = .ok (.if_icmp .ge 7, 3) := by decide +kernel
theorem dL_act_175 : decode cL_act 175 = .ok (.iconst 1, 1) := by decide +kernel
theorem dL_act_176 : decode cL_act 176 = .ok (.goto 4, 3) := by decide +kernel
theorem dL_act_179 : decode cL_act 179 = .ok (.iconst 0, 1) := by decide +kernel
theorem dL_act_180 : decode cL_act 180 = .ok (.ireturn, 1) := by decide +kernel
theorem dL_act_181 : decode cL_act 181 = .ok (.astore 6, 2) := by decide +kernel
theorem dL_act_183 : decode cL_act 183 = .ok (.iload_n 3, 1) := by decide +kernel
theorem dL_act_184 : decode cL_act 184 = .ok (.bipush 12, 2) := by decide +kernel
theorem dL_act_186 : decode cL_act 186 = .ok (.if_icmp .ne 7, 3) := by decide +kernel
theorem dL_act_189 : decode cL_act 189 = .ok (.iconst 1, 1) := by decide +kernel
theorem dL_act_190 : decode cL_act 190 = .ok (.goto 4, 3) := by decide +kernel
theorem dL_act_193 : decode cL_act 193 = .ok (.iconst 0, 1) := by decide +kernel
theorem dL_act_194 : decode cL_act 194 = .ok (.ireturn, 1) := by decide +kernel
theorem dL_act_195 : decode cL_act 195 = .ok (.iload_n 2, 1) := by decide +kernel
theorem dL_act_196 : decode cL_act 196 = .ok (.iconst 4, 1) := by decide +kernel
theorem dL_act_197 : decode cL_act 197 = .ok (.ishr, 1) := by decide +kernel
theorem dL_act_198 : decode cL_act 198 = .ok (.iload_n 3, 1) := by decide +kernel
theorem dL_act_199 : decode cL_act 199 = .ok (.invokestatic 15, 3) := by decide +kernel
theorem dL_act_202 : decode cL_act 202 = .ok (.istore 5, 2) := by decide +kernel
theorem dL_act_204 : decode cL_act 204 = .ok (.iload_n 3, 1) := by decide +kernel
theorem dL_act_205 : decode cL_act 205 = .ok (.iconst 1, 1) := by decide +kernel
theorem dL_act_206 : decode cL_act 206 = .ok (.if_icmp .ne 7, 3) := by decide +kernel
theorem dL_act_209 : decode cL_act 209 = .ok (.iconst 0, 1) := by decide +kernel
theorem dL_act_210 : decode cL_act 210 = .ok (.goto 20, 3) := by decide +kernel
theorem dL_act_213 : decode cL_act 213 = .ok (.iload 5, 2) := by decide +kernel
theorem dL_act_215 : decode cL_act 215 = .ok (.iconst 1, 1) := by decide +kernel
theorem dL_act_216 : decode cL_act 216 = .ok (.iadd, 1) := by decide +kernel
theorem dL_act_217 : decode cL_act 217 = .ok (.iload_n 2, 1) := by decide +kernel
theorem dL_act_218 : decode cL_act 218 = .ok (.bipush 6, 2) := by decide +kernel
theorem dL_act_220 : decode cL_act 220 = .ok (.ishr, 1) := by decide +kernel
theorem dL_act_221 : decode cL_act 221 = .ok (.iload_n 3, 1) := by decide +kernel
theorem dL_act_222 : decode cL_act 222 = .ok (.iconst 1, 1) := by decide +kernel
theorem dL_act_223 : decode cL_act 223 = .ok (.isub, 1) := by decide +kernel
theorem dL_act_224 : decode cL_act 224 = .ok (.invokestatic 15, 3) := by decide +kernel
theorem dL_act_227 : decode cL_act 227 = .ok (.iadd, 1) := by decide +kernel
theorem dL_act_228 : decode cL_act 228 = .ok (.iload_n 3, 1) := by decide +kernel
theorem dL_act_229 : decode cL_act 229 = .ok (.irem, 1) := by decide +kernel
theorem dL_act_230 : decode cL_act 230 = .ok (.istore 6, 2) := by decide +kernel
theorem dL_act_232 : decode cL_act 232 = .ok (.iload 4, 2) := by decide +kernel
theorem dL_act_234 : decode cL_act 234 = .ok (.iconst 3, 1) := by decide +kernel
theorem dL_act_235 : decode cL_act 235 = .ok (.if_icmp .ge 58, 3) := by decide +kernel
theorem dL_act_238 : decode cL_act 238 = .ok (.aload_n 1, 1) := by decide +kernel
theorem dL_act_239 : decode cL_act 239 = .ok (.getfield 9, 3) := by decide +kernel
theorem dL_act_242 : decode cL_act 242 = .ok (.iload 5, 2) := by decide +kernel
theorem dL_act_244 : decode cL_act 244 = .ok (.aaload, 1) := by decide +kernel
theorem dL_act_245 : decode cL_act 245 = .ok (.iconst 4, 1) := by decide +kernel
theorem dL_act_246 : decode cL_act 246 = .ok (.iaload, 1) := by decide +kernel
theorem dL_act_247 : decode cL_act 247 = .ok (.istore 7, 2) := by decide +kernel
theorem dL_act_249 : decode cL_act 249 = .ok (.aload_n 1, 1) := by decide +kernel
theorem dL_act_250 : decode cL_act 250 = .ok (.getfield 9, 3) := by decide +kernel
theorem dL_act_253 : decode cL_act 253 = .ok (.iload 5, 2) := by decide +kernel
theorem dL_act_255 : decode cL_act 255 = .ok (.aaload, 1) := by decide +kernel
theorem dL_act_256 : decode cL_act 256 = .ok (.iconst 4, 1) := by decide +kernel
theorem dL_act_257 : decode cL_act 257 = .ok (.iload_n 2, 1) := by decide +kernel
theorem dL_act_258 : decode cL_act 258 = .ok (.bipush 7, 2) := by decide +kernel
theorem dL_act_260 : decode cL_act 260 = .ok (.ishr, 1) := by decide +kernel
theorem dL_act_261 : decode cL_act 261 = .ok (.bipush 6, 2) := by decide +kernel
theorem dL_act_263 : decode cL_act 263 = .ok (.invokestatic 15, 3) := by decide +kernel
theorem dL_act_266 : decode cL_act 266 = .ok (.iastore, 1) := by decide +kernel
theorem dL_act_267 : decode cL_act 267 = .ok (.aload_n 0, 1) := by decide +kernel
theorem dL_act_268 : decode cL_act 268 = .ok (.iload 5, 2) := by decide +kernel
theorem dL_act_270 : decode cL_act 270 = .ok (.aload_n 1, 1) := by decide +kernel
theorem dL_act_271 : decode cL_act 271 = .ok (.getfield 9, 3) := by decide +kernel
theorem dL_act_274 : decode cL_act 274 = .ok (.iload 5, 2) := by decide +kernel
theorem dL_act_276 : decode cL_act 276 = .ok (.aaload, 1) := by decide +kernel
theorem dL_act_277 : decode cL_act 277 = .ok (.iconst 4, 1) := by decide +kernel
theorem dL_act_278 : decode cL_act 278 = .ok (.iaload, 1) := by decide +kernel
theorem dL_act_279 : decode cL_act 279 = .ok (.invokevirtual 33, 3) := by decide +kernel
theorem dL_act_282 : decode cL_act 282 = .ok (.iload 7, 2) := by decide +kernel
theorem dL_act_284 : decode cL_act 284 = .ok (.if_icmp .ne 7, 3) := by decide +kernel
theorem dL_act_287 : decode cL_act 287 = .ok (.iconst 1, 1) := by decide +kernel
theorem dL_act_288 : decode cL_act 288 = .ok (.goto 4, 3) := by decide +kernel
theorem dL_act_291 : decode cL_act 291 = .ok (.iconst 0, 1) := by decide +kernel
theorem dL_act_292 : decode cL_act 292 = .ok (.ireturn, 1) := by decide +kernel
theorem dL_act_293 : decode cL_act 293 = .ok (.iload 4, 2) := by decide +kernel
theorem dL_act_295 : decode cL_act 295 = .ok (.bipush 13, 2) := by decide +kernel
theorem dL_act_297 : decode cL_act 297 = .ok (.if_icmp .le 52, 3) := by decide +kernel
theorem dL_act_300 : decode cL_act 300 = .ok (.iconst 1, 1) := by decide +kernel
theorem dL_act_301 : decode cL_act 301 = .ok (.iload_n 2, 1) := by decide +kernel
theorem dL_act_302 : decode cL_act 302 = .ok (.iconst 5, 1) := by decide +kernel
theorem dL_act_303 : decode cL_act 303 = .ok (.ishr, 1) := by decide +kernel
theorem dL_act_304 : decode cL_act 304 = .ok (.iload_n 2, 1) := by decide +kernel
theorem dL_act_305 : decode cL_act 305 = .ok (.bipush 8, 2) := by decide +kernel
theorem dL_act_307 : decode cL_act 307 = .ok (.ishr, 1) := by decide +kernel
theorem dL_act_308 : decode cL_act 308 = .ok (.iconst 4, 1) := by decide +kernel
theorem dL_act_309 : decode cL_act 309 = .ok (.invokestatic 15, 3) := by decide +kernel
theorem dL_act_312 : decode cL_act 312 = .ok (.ifCond .ne 8, 3) := by decide +kernel
theorem dL_act_315 : decode cL_act 315 = .ok (.bipush 60, 2) := by decide +kernel
theorem dL_act_317 : decode cL_act 317 = .ok (.goto 5, 3) := by decide +kernel
theorem dL_act_320 : decode cL_act 320 = .ok (.bipush 6, 2) := by decide +kernel
theorem dL_act_322 : decode cL_act 322 = .ok (.invokestatic 15, 3) := by decide +kernel
theorem dL_act_325 : decode cL_act 325 = .ok (.iadd, 1) := by decide +kernel
theorem dL_act_326 : decode cL_act 326 = .ok (.istore 7, 2) := by decide +kernel
theorem dL_act_328 : decode cL_act 328 = .ok (.aload_n 0, 1) := by decide +kernel
theorem dL_act_329 : decode cL_act 329 = .ok (.iload 7, 2) := by decide +kernel
theorem dL_act_331 : decode cL_act 331 = .ok (.invokevirtual 36, 3) := by decide +kernel
theorem dL_act_334 : decode cL_act 334 = .ok (.aload_n 1, 1) := by decide +kernel
theorem dL_act_335 : decode cL_act 335 = .ok (.iload 7, 2) := by decide +kernel
theorem dL_act_337 : decode cL_act 337 = .ok (.invokevirtual 40, 3) := by decide +kernel
theorem dL_act_340 : decode cL_act 340 = .ok (.if_icmp .ne 7, 3) := by decide +kernel
theorem dL_act_343 : decode cL_act 343 = .ok (.iconst 1, 1) := by decide +kernel
theorem dL_act_344 : decode cL_act 344 = .ok (.goto 4, 3) := by decide +kernel
theorem dL_act_347 : decode cL_act 347 = .ok (.iconst 0, 1) := by decide +kernel
theorem dL_act_348 : decode cL_act 348 = .ok (.ireturn, 1) := by decide +kernel
theorem dL_act_349 : decode cL_act 349 = .ok (.iload_n 3, 1) := by decide +kernel
theorem dL_act_350 : decode cL_act 350 = .ok (.iconst 1, 1) := by decide +kernel
theorem dL_act_351 : decode cL_act 351 = .ok (.if_icmp .ne 10, 3) := by decide +kernel
theorem dL_act_354 : decode cL_act 354 = .ok (.iload 4, 2) := by decide +kernel
theorem dL_act_356 : decode cL_act 356 = .ok (.bipush 11, 2) := by decide +kernel
theorem dL_act_358 : decode cL_act 358 = .ok (.if_icmp .lt 18, 3) := by decide +kernel
theorem dL_act_361 : decode cL_act 361 = .ok (.aload_n 0, 1) := by decide +kernel
theorem dL_act_362 : decode cL_act 362 = .ok (.aload_n 1, 1) := by decide +kernel
theorem dL_act_363 : decode cL_act 363 = .ok (.iload_n 2, 1) := by decide +kernel
theorem dL_act_364 : decode cL_act 364 = .ok (.iload 4, 2) := by decide +kernel
theorem dL_act_366 : decode cL_act 366 = .ok (.iload 5, 2) := by decide +kernel
theorem dL_act_368 : decode cL_act 368 = .ok (.iload 6, 2) := by decide +kernel
theorem dL_act_370 : decode cL_act 370 = .ok (.invokestatic 41, 3) := by decide +kernel
theorem dL_act_373 : decode cL_act 373 = .ok (.ifCond .eq 7, 3) := by decide +kernel
theorem dL_act_376 : decode cL_act 376 = .ok (.iconst 1, 1) := by decide +kernel
theorem dL_act_377 : decode cL_act 377 = .ok (.goto 4, 3) := by decide +kernel
theorem dL_act_380 : decode cL_act 380 = .ok (.iconst 0, 1) := by decide +kernel
theorem dL_act_381 : decode cL_act 381 = .ok (.ireturn, 1) := by decide +kernel
set_option maxRecDepth 20000 in
theorem ggL_works_X1_town : GoodIn wsL_works wsX1_town := goodIn_r _ [8, 9, 10, 11, 7, 12, 13, 14, 15, 16, 17, 18, 19, 20, 21, 22, 23, 24, 25, 26, 27, 28, 133, 134, 135, 136, 137] (by decide +kernel) (by decide +kernel)
set_option maxRecDepth 20000 in
theorem gL_works_X1_town : GoodIn wsL_works (wsV RL 45 RX1 yX1_town wsX1_town) := goodIn_app (goodIn_of _ (by decide +kernel)) ggL_works_X1_town
set_option maxRecDepth 20000 in
theorem ggL_works_L_below : GoodIn wsL_works wsL_below := goodIn_r _ [32, 33] (by decide +kernel) (by decide +kernel)
set_option maxRecDepth 20000 in
theorem gL_works_L_below : GoodIn wsL_works (va_wsS RL 15 yL_below wsL_below) := goodIn_app (goodIn_of _ (by decide +kernel)) ggL_works_L_below
set_option maxRecDepth 20000 in
theorem ggL_works_X1_cost : GoodIn wsL_works wsX1_cost := goodIn_r _ [36] (by decide +kernel) (by decide +kernel)
set_option maxRecDepth 20000 in
theorem gL_works_X1_cost : GoodIn wsL_works (va_wsS RL 49 yX1_cost wsX1_cost) := goodIn_app (goodIn_of _ (by decide +kernel)) ggL_works_X1_cost
set_option maxRecDepth 20000 in
theorem ggL_works_X1_pay : GoodIn wsL_works wsX1_pay := goodIn_r _ [40, 41, 42, 133, 134, 135, 136, 137] (by decide +kernel) (by decide +kernel)
set_option maxRecDepth 20000 in
theorem gL_works_X1_pay : GoodIn wsL_works (wsV RL 56 RX1 yX1_pay wsX1_pay) := goodIn_app (goodIn_of _ (by decide +kernel)) ggL_works_X1_pay
set_option maxRecDepth 20000 in
theorem ggL_works_X1_ticket : GoodIn wsL_works wsX1_ticket := goodIn_r _ [46, 13, 133, 134, 135, 136, 137] (by decide +kernel) (by decide +kernel)
set_option maxRecDepth 20000 in
theorem gL_works_X1_ticket : GoodIn wsL_works (wsV RL 60 RX1 yX1_ticket wsX1_ticket) := goodIn_app (goodIn_of _ (by decide +kernel)) ggL_works_X1_ticket
set_option maxRecDepth 20000 in
theorem ggL_works_X1_set : GoodIn wsL_works wsX1_set := goodIn_r _ [50, 13, 133, 134, 135, 136, 137] (by decide +kernel) (by decide +kernel)
set_option maxRecDepth 20000 in
theorem gL_works_X1_set : GoodIn wsL_works (wsV RL 63 RX1 yX1_set wsX1_set) := goodIn_app (goodIn_of _ (by decide +kernel)) ggL_works_X1_set
set_option maxRecDepth 20000 in
theorem ggL_works_X0_swapUmbrellas : GoodIn wsL_works wsX0_swapUmbrellas := goodIn_ca (goodIn_ca (goodIn_ca (goodIn_r _ [55, 56, 57, 58, 59, 60, 61, 62, 54, 63, 64, 65, 66, 67, 68, 69, 70, 71, 72, 73, 74, 75, 76, 77, 78, 79, 80, 81, 82, 83, 84, 85, 86, 87, 88, 89, 90, 91, 92, 93, 94, 95, 96, 23, 24, 25, 97, 98, 99, 100, 101, 102, 103, 104, 105, 106, 107, 108, 138, 139, 140, 141, 142, 143, 144, 145, 146] (by decide +kernel) (by decide +kernel)) (goodIn_sub (fun _ h => List.mem_cons_of_mem _ (List.mem_append_left _ (List.mem_append_left _ (List.mem_append_right _ h)))) (by decide +kernel))) (goodIn_sub (fun _ h => List.mem_cons_of_mem _ (List.mem_append_left _ (List.mem_append_right _ h))) (by decide +kernel))) (goodIn_sub (fun _ h => List.mem_cons_of_mem _ (List.mem_append_right _ h)) (by decide +kernel))
set_option maxRecDepth 20000 in
theorem gL_works_X0_swapUmbrellas : GoodIn wsL_works (wsV RL 67 RX0 yX0_swapUmbrellas wsX0_swapUmbrellas) := goodIn_app (goodIn_of _ (by decide +kernel)) ggL_works_X0_swapUmbrellas
set_option maxRecDepth 20000 in
theorem ggL_works_X0_swapTickets : GoodIn wsL_works wsX0_swapTickets := goodIn_ca (goodIn_ca (goodIn_ca (goodIn_r _ [112, 92, 60, 61, 62, 54, 63, 64, 65, 66, 67, 68, 69, 70, 71, 72, 73, 74, 75, 76, 56, 57, 77, 78, 79, 80, 81, 82, 83, 84, 85, 86, 58, 87, 88, 89, 90, 91, 59, 93, 94, 95, 96, 23, 24, 25, 97, 98, 99, 100, 101, 102, 103, 104, 105, 106, 107, 108, 138, 139, 140, 141, 142, 143, 144, 145, 146] (by decide +kernel) (by decide +kernel)) (goodIn_sub (fun _ h => List.mem_cons_of_mem _ (List.mem_append_left _ (List.mem_append_right _ h))) (by decide +kernel))) (goodIn_sub (fun _ h => List.mem_cons_of_mem _ (List.mem_append_right _ h)) (by decide +kernel))) (goodIn_sub (fun _ h => List.mem_cons_of_mem _ (List.mem_append_left _ (List.mem_append_left _ (List.mem_append_right _ h)))) (by decide +kernel))
set_option maxRecDepth 20000 in
theorem gL_works_X0_swapTickets : GoodIn wsL_works (wsV RL 70 RX0 yX0_swapTickets wsX0_swapTickets) := goodIn_app (goodIn_of _ (by decide +kernel)) ggL_works_X0_swapTickets
set_option maxRecDepth 20000 in
theorem ggL_works_X0_move : GoodIn wsL_works wsX0_move := goodIn_ca (goodIn_ca (goodIn_ca (goodIn_r _ [116, 64, 65, 56, 57, 58, 66, 67, 68, 54, 69, 70, 71, 72, 117, 118, 119, 120, 121, 122, 96, 23, 24, 25, 123, 124, 125, 73, 74, 75, 76, 77, 78, 138, 139, 140, 141, 142, 143, 144, 145, 146] (by decide +kernel) (by decide +kernel)) (goodIn_sub (fun _ h => List.mem_cons_of_mem _ (List.mem_append_left _ (List.mem_append_right _ h))) (by decide +kernel))) (goodIn_sub (fun _ h => List.mem_cons_of_mem _ (List.mem_append_left _ (List.mem_append_left _ (List.mem_append_right _ h)))) (by decide +kernel))) (goodIn_sub (fun _ h => List.mem_cons_of_mem _ (List.mem_append_right _ h)) (by decide +kernel))
set_option maxRecDepth 20000 in
theorem gL_works_X0_move : GoodIn wsL_works (wsV RL 73 RX0 yX0_move wsX0_move) := goodIn_app (goodIn_of _ (by decide +kernel)) ggL_works_X0_move
set_option maxRecDepth 20000 in
theorem ggL_works_X0_draw : GoodIn wsL_works wsX0_draw := goodIn_ca (goodIn_ca (goodIn_ca (goodIn_r _ [129, 64, 65, 92, 66, 67, 68, 54, 69, 70, 71, 72, 130, 131, 132, 73, 74, 75, 76, 56, 57, 77, 78, 138, 139, 140, 141, 142, 143, 144, 145, 146] (by decide +kernel) (by decide +kernel)) (goodIn_sub (fun _ h => List.mem_cons_of_mem _ (List.mem_append_left _ (List.mem_append_right _ h))) (by decide +kernel))) (goodIn_sub (fun _ h => List.mem_cons_of_mem _ (List.mem_append_right _ h)) (by decide +kernel))) (goodIn_sub (fun _ h => List.mem_cons_of_mem _ (List.mem_append_left _ (List.mem_append_left _ (List.mem_append_right _ h)))) (by decide +kernel))
set_option maxRecDepth 20000 in
theorem gL_works_X0_draw : GoodIn wsL_works (wsV RL 76 RX0 yX0_draw wsX0_draw) := goodIn_app (goodIn_of _ (by decide +kernel)) ggL_works_X0_draw
theorem dL_works_0 : decode cL_works 0 = .ok (.aload_n 1, 1) := by decide +kernel
theorem dL_works_1 : decode cL_works 1 = .ok (.invokevirtual 45, 3) := by decide +kernel
theorem dL_works_4 : decode cL_works 4 = .ok (.istore 6, 2) := by decide +kernel
theorem dL_works_6 : decode cL_works 6 = .ok (.iload_n 2, 1) := by decide +kernel
theorem dL_works_7 : decode cL_works 7 = .ok (.bipush 8, 2) := by decide +kernel
theorem dL_works_9 : decode cL_works 9 = .ok (.ishr, 1) := by decide +kernel
theorem dL_works_10 : decode cL_works 10 = .ok (.bipush 6, 2) := by decide +kernel
theorem dL_works_12 : decode cL_works 12 = .ok (.invokestatic 15, 3) := by decide +kernel
theorem dL_works_15 : decode cL_works 15 = .ok (.istore 7, 2) := by decide +kernel
theorem dL_works_17 : decode cL_works 17 = .ok (.iload_n 2, 1) := by decide +kernel
theorem dL_works_18 : decode cL_works 18 = .ok (.iconst 3, 1) := by decide +kernel
theorem dL_works_19 : decode cL_works 19 = .ok (.ishr, 1) := by decide +kernel
theorem dL_works_20 : decode cL_works 20 = .ok (.bipush 100, 2) := by decide +kernel
theorem dL_works_22 : decode cL_works 22 = .ok (.invokestatic 15, 3) := by decide +kernel
theorem dL_works_25 : decode cL_works 25 = .ok (.istore 8, 2) := by decide +kernel
theorem dL_works_27 : decode cL_works 27 = .ok (.iload_n 3, 1) := by decide +kernel
theorem dL_works_28 : decode cL_works 28 = .ok (.bipush 7, 2) := by decide +kernel
theorem dL_works_30 : decode cL_works 30 = .ok (.if_icmp .ge 7, 3) := by decide +kernel
theorem dL_works_33 : decode cL_works 33 = .ok (.iconst 3, 1) := by decide +kernel
theorem dL_works_34 : decode cL_works 34 = .ok (.goto 50, 3) := by decide +kernel
theorem dL_works_37 : decode cL_works 37 = .ok (.iload_n 3, 1) := by decide +kernel
theorem dL_works_38 : decode cL_works 38 = .ok (.bipush 9, 2) := by decide +kernel
theorem dL_works_40 : decode cL_works 40 = .ok (.if_icmp .ge 8, 3) := by decide +kernel
theorem dL_works_43 : decode cL_works 43 = .ok (.bipush 8, 2) := by decide +kernel
theorem dL_works_45 : decode cL_works 45 = .ok (.goto 39, 3) := by decide +kernel
theorem dL_works_48 : decode cL_works 48 = .ok (.iload_n 3, 1) := by decide +kernel
theorem dL_works_49 : decode cL_works 49 = .ok (.bipush 11, 2) := by decide +kernel
theorem dL_works_51 : decode cL_works 51 = .ok (.if_icmp .ge 8, 3) := by decide +kernel
theorem dL_works_54 : decode cL_works 54 = .ok (.bipush 8, 2) := by decide +kernel
theorem dL_works_56 : decode cL_works 56 = .ok (.goto 28, 3) := by decide +kernel
theorem dL_works_59 : decode cL_works 59 = .ok (.iload_n 3, 1) := by decide +kernel
theorem dL_works_60 : decode cL_works 60 = .ok (.bipush 13, 2) := by decide +kernel
theorem dL_works_62 : decode cL_works 62 = .ok (.if_icmp .ge 20, 3) := by decide +kernel
theorem dL_works_65 : decode cL_works 65 = .ok (.aload_n 1, 1) := by decide +kernel
theorem dL_works_66 : decode cL_works 66 = .ok (.getfield 9, 3) := by decide +kernel
theorem dL_works_69 : decode cL_works 69 = .ok (.iload 4, 2) := by decide +kernel
theorem dL_works_71 : decode cL_works 71 = .ok (.aaload, 1) := by decide +kernel
theorem dL_works_72 : decode cL_works 72 = .ok (.iconst 3, 1) := by decide +kernel
theorem dL_works_73 : decode cL_works 73 = .ok (.iaload, 1) := by decide +kernel
theorem dL_works_74 : decode cL_works 74 = .ok (.iload 7, 2) := by decide +kernel
theorem dL_works_76 : decode cL_works 76 = .ok (.invokestatic 49, 3) := by decide +kernel
theorem dL_works_79 : decode cL_works 79 = .ok (.goto 5, 3) := by decide +kernel
theorem dL_works_82 : decode cL_works 82 = .ok (.bipush 12, 2) := by decide +kernel
theorem dL_works_84 : decode cL_works 84 = .ok (.istore 9, 2) := by decide +kernel
theorem dL_works_86 : decode cL_works 86 = .ok (.iload 9, 2) := by decide +kernel
theorem dL_works_88 : decode cL_works 88 = .ok (.ifCond .le 43, 3) := by decide +kernel
theorem dL_works_91 : decode cL_works 91 = .ok (.iload 9, 2) := by decide +kernel
theorem dL_works_93 : decode cL_works 93 = .ok (.aload_n 1, 1) := by decide +kernel
theorem dL_works_94 : decode cL_works 94 = .ok (.getfield 52, 3) := by decide +kernel
theorem dL_works_97 : decode cL_works 97 = .ok (.if_icmp .gt 34, 3) := by decide +kernel
theorem dL_works_100 : decode cL_works 100 = .ok (.iload_n 3, 1) := by decide +kernel
theorem dL_works_101 : decode cL_works 101 = .ok (.bipush 6, 2) := by decide +kernel
theorem dL_works_103 : decode cL_works 103 = .ok (.if_icmp .gt 24, 3) := by decide +kernel
theorem dL_works_106 : decode cL_works 106 = .ok (.aload_n 1, 1) := by decide +kernel
theorem dL_works_107 : decode cL_works 107 = .ok (.getfield 9, 3) := by decide +kernel
theorem dL_works_110 : decode cL_works 110 = .ok (.iload 4, 2) := by decide +kernel
theorem dL_works_112 : decode cL_works 112 = .ok (.aaload, 1) := by decide +kernel
theorem dL_works_113 : decode cL_works 113 = .ok (.iconst 3, 1) := by decide +kernel
theorem dL_works_114 : decode cL_works 114 = .ok (.iaload, 1) := by decide +kernel
theorem dL_works_115 : decode cL_works 115 = .ok (.aload_n 1, 1) := by decide +kernel
theorem dL_works_116 : decode cL_works 116 = .ok (.getfield 9, 3) := by decide +kernel
theorem dL_works_119 : decode cL_works 119 = .ok (.iload 5, 2) := by decide +kernel
theorem dL_works_121 : decode cL_works 121 = .ok (.aaload, 1) := by decide +kernel
theorem dL_works_122 : decode cL_works 122 = .ok (.iconst 3, 1) := by decide +kernel
theorem dL_works_123 : decode cL_works 123 = .ok (.iaload, 1) := by decide +kernel
theorem dL_works_124 : decode cL_works 124 = .ok (.if_icmp .ne 7, 3) := by decide +kernel
theorem dL_works_127 : decode cL_works 127 = .ok (.iconst 1, 1) := by decide +kernel
theorem dL_works_128 : decode cL_works 128 = .ok (.goto 4, 3) := by decide +kernel
theorem dL_works_131 : decode cL_works 131 = .ok (.iconst 0, 1) := by decide +kernel
theorem dL_works_132 : decode cL_works 132 = .ok (.istore 10, 2) := by decide +kernel
theorem dL_works_134 : decode cL_works 134 = .ok (.iload 9, 2) := by decide +kernel
theorem dL_works_136 : decode cL_works 136 = .ok (.istore 11, 2) := by decide +kernel
theorem dL_works_138 : decode cL_works 138 = .ok (.iload 10, 2) := by decide +kernel
theorem dL_works_140 : decode cL_works 140 = .ok (.ifCond .eq 146, 3) := by decide +kernel
theorem dL_works_143 : decode cL_works 143 = .ok (.aload_n 1, 1) := by decide +kernel
theorem dL_works_144 : decode cL_works 144 = .ok (.iload 9, 2) := by decide +kernel
theorem dL_works_146 : decode cL_works 146 = .ok (.invokevirtual 56, 3) := by decide +kernel
theorem dL_works_149 : decode cL_works 149 = .ok (.iload_n 3, 1) := by decide +kernel
theorem dL_works_150 : decode cL_works 150 = .ok (.bipush 7, 2) := by decide +kernel
theorem dL_works_152 : decode cL_works 152 = .ok (.if_icmp .ge 46, 3) := by decide +kernel
theorem dL_works_155 : decode cL_works 155 = .ok (.aload_n 1, 1) := by decide +kernel
theorem dL_works_156 : decode cL_works 156 = .ok (.getfield 9, 3) := by decide +kernel
theorem dL_works_159 : decode cL_works 159 = .ok (.iload 4, 2) := by decide +kernel
theorem dL_works_161 : decode cL_works 161 = .ok (.aaload, 1) := by decide +kernel
theorem dL_works_162 : decode cL_works 162 = .ok (.iconst 2, 1) := by decide +kernel
theorem dL_works_163 : decode cL_works 163 = .ok (.iaload, 1) := by decide +kernel
theorem dL_works_164 : decode cL_works 164 = .ok (.istore 12, 2) := by decide +kernel
theorem dL_works_166 : decode cL_works 166 = .ok (.aload_n 1, 1) := by decide +kernel
theorem dL_works_167 : decode cL_works 167 = .ok (.getfield 9, 3) := by decide +kernel
theorem dL_works_170 : decode cL_works 170 = .ok (.iload 4, 2) := by decide +kernel
theorem dL_works_172 : decode cL_works 172 = .ok (.aaload, 1) := by decide +kernel
theorem dL_works_173 : decode cL_works 173 = .ok (.iconst 2, 1) := by decide +kernel
theorem dL_works_174 : decode cL_works 174 = .ok (.aload_n 1, 1) := by decide +kernel
theorem dL_works_175 : decode cL_works 175 = .ok (.getfield 9, 3) := by decide +kernel
theorem dL_works_178 : decode cL_works 178 = .ok (.iload 5, 2) := by decide +kernel
theorem dL_works_180 : decode cL_works 180 = .ok (.aaload, 1) := by decide +kernel
theorem dL_works_181 : decode cL_works 181 = .ok (.iconst 2, 1) := by decide +kernel
theorem dL_works_182 : decode cL_works 182 = .ok (.iaload, 1) := by decide +kernel
theorem dL_works_183 : decode cL_works 183 = .ok (.iastore, 1) := by decide +kernel
theorem dL_works_184 : decode cL_works 184 = .ok (.aload_n 1, 1) := by decide +kernel
theorem dL_works_185 : decode cL_works 185 = .ok (.getfield 9, 3) := by decide +kernel
theorem dL_works_188 : decode cL_works 188 = .ok (.iload 5, 2) := by decide +kernel
theorem dL_works_190 : decode cL_works 190 = .ok (.aaload, 1) := by decide +kernel
theorem dL_works_191 : decode cL_works 191 = .ok (.iconst 2, 1) := by decide +kernel
theorem dL_works_192 : decode cL_works 192 = .ok (.iload 12, 2) := by decide +kernel
theorem dL_works_194 : decode cL_works 194 = .ok (.iastore, 1) := by decide +kernel
theorem dL_works_195 : decode cL_works 195 = .ok (.goto 76, 3) := by decide +kernel
theorem dL_works_198 : decode cL_works 198 = .ok (.iload_n 3, 1) := by decide +kernel
theorem dL_works_199 : decode cL_works 199 = .ok (.bipush 11, 2) := by decide +kernel
theorem dL_works_201 : decode cL_works 201 = .ok (.if_icmp .ge 34, 3) := by decide +kernel
theorem dL_works_204 : decode cL_works 204 = .ok (.aload_n 1, 1) := by decide +kernel
theorem dL_works_205 : decode cL_works 205 = .ok (.iload 4, 2) := by decide +kernel
theorem dL_works_207 : decode cL_works 207 = .ok (.invokevirtual 60, 3) := by decide +kernel
theorem dL_works_210 : decode cL_works 210 = .ok (.istore 12, 2) := by decide +kernel
theorem dL_works_212 : decode cL_works 212 = .ok (.aload_n 1, 1) := by decide +kernel
theorem dL_works_213 : decode cL_works 213 = .ok (.iload 4, 2) := by decide +kernel
theorem dL_works_215 : decode cL_works 215 = .ok (.aload_n 1, 1) := by decide +kernel
theorem dL_works_216 : decode cL_works 216 = .ok (.iload 5, 2) := by decide +kernel
theorem dL_works_218 : decode cL_works 218 = .ok (.invokevirtual 60, 3) := by decide +kernel
theorem dL_works_221 : decode cL_works 221 = .ok (.invokevirtual 63, 3) := by decide +kernel
theorem dL_works_224 : decode cL_works 224 = .ok (.aload_n 1, 1) := by decide +kernel
theorem dL_works_225 : decode cL_works 225 = .ok (.iload 5, 2) := by decide +kernel
theorem dL_works_227 : decode cL_works 227 = .ok (.iload 12, 2) := by decide +kernel
theorem dL_works_229 : decode cL_works 229 = .ok (.invokevirtual 63, 3) := by decide +kernel
theorem dL_works_232 : decode cL_works 232 = .ok (.goto 39, 3) := by decide +kernel
theorem dL_works_235 : decode cL_works 235 = .ok (.iload_n 3, 1) := by decide +kernel
theorem dL_works_236 : decode cL_works 236 = .ok (.bipush 13, 2) := by decide +kernel
theorem dL_works_238 : decode cL_works 238 = .ok (.if_icmp .ge 17, 3) := by decide +kernel
theorem dL_works_241 : decode cL_works 241 = .ok (.aload_n 1, 1) := by decide +kernel
theorem dL_works_242 : decode cL_works 242 = .ok (.getfield 9, 3) := by decide +kernel
theorem dL_works_245 : decode cL_works 245 = .ok (.iload 4, 2) := by decide +kernel
theorem dL_works_247 : decode cL_works 247 = .ok (.aaload, 1) := by decide +kernel
theorem dL_works_248 : decode cL_works 248 = .ok (.iconst 3, 1) := by decide +kernel
theorem dL_works_249 : decode cL_works 249 = .ok (.iload 7, 2) := by decide +kernel
theorem dL_works_251 : decode cL_works 251 = .ok (.iastore, 1) := by decide +kernel
theorem dL_works_252 : decode cL_works 252 = .ok (.goto 19, 3) := by decide +kernel
theorem dL_works_255 : decode cL_works 255 = .ok (.aload_n 1, 1) := by decide +kernel
theorem dL_works_256 : decode cL_works 256 = .ok (.iload 4, 2) := by decide +kernel
theorem dL_works_258 : decode cL_works 258 = .ok (.invokevirtual 60, 3) := by decide +kernel
theorem dL_works_261 : decode cL_works 261 = .ok (.istore 11, 2) := by decide +kernel
theorem dL_works_263 : decode cL_works 263 = .ok (.aload_n 1, 1) := by decide +kernel
theorem dL_works_264 : decode cL_works 264 = .ok (.iload 4, 2) := by decide +kernel
theorem dL_works_266 : decode cL_works 266 = .ok (.iload 8, 2) := by decide +kernel
theorem dL_works_268 : decode cL_works 268 = .ok (.invokevirtual 63, 3) := by decide +kernel
theorem dL_works_271 : decode cL_works 271 = .ok (.iload_n 3, 1) := by decide +kernel
theorem dL_works_272 : decode cL_works 272 = .ok (.bipush 11, 2) := by decide +kernel
theorem dL_works_274 : decode cL_works 274 = .ok (.if_icmp .ge 12, 3) := by decide +kernel
theorem dL_works_277 : decode cL_works 277 = .ok (.aload_n 1, 1) := by decide +kernel
theorem dL_works_278 : decode cL_works 278 = .ok (.invokevirtual 45, 3) := by decide +kernel
theorem dL_works_281 : decode cL_works 281 = .ok (.iload 6, 2) := by decide +kernel
theorem dL_works_283 : decode cL_works 283 = .ok (.isub, 1) := by decide +kernel
theorem dL_works_284 : decode cL_works 284 = .ok (.istore 11, 2) := by decide +kernel
theorem dL_works_286 : decode cL_works 286 = .ok (.iload_n 3, 1) := by decide +kernel
theorem dL_works_287 : decode cL_works 287 = .ok (.bipush 7, 2) := by decide +kernel
theorem dL_works_289 : decode cL_works 289 = .ok (.if_icmp .ge 14, 3) := by decide +kernel
theorem dL_works_292 : decode cL_works 292 = .ok (.aload_n 0, 1) := by decide +kernel
theorem dL_works_293 : decode cL_works 293 = .ok (.iload 4, 2) := by decide +kernel
theorem dL_works_295 : decode cL_works 295 = .ok (.iload 5, 2) := by decide +kernel
theorem dL_works_297 : decode cL_works 297 = .ok (.invokevirtual 67, 3) := by decide +kernel
theorem dL_works_300 : decode cL_works 300 = .ok (.goto 45, 3) := by decide +kernel
theorem dL_works_303 : decode cL_works 303 = .ok (.iload_n 3, 1) := by decide +kernel
theorem dL_works_304 : decode cL_works 304 = .ok (.bipush 11, 2) := by decide +kernel
theorem dL_works_306 : decode cL_works 306 = .ok (.if_icmp .ge 14, 3) := by decide +kernel
theorem dL_works_309 : decode cL_works 309 = .ok (.aload_n 0, 1) := by decide +kernel
theorem dL_works_310 : decode cL_works 310 = .ok (.iload 4, 2) := by decide +kernel
theorem dL_works_312 : decode cL_works 312 = .ok (.iload 5, 2) := by decide +kernel
theorem dL_works_314 : decode cL_works 314 = .ok (.invokevirtual 70, 3) := by decide +kernel
theorem dL_works_317 : decode cL_works 317 = .ok (.goto 28, 3) := by decide +kernel
theorem dL_works_320 : decode cL_works 320 = .ok (.iload_n 3, 1) := by decide +kernel
theorem dL_works_321 : decode cL_works 321 = .ok (.bipush 13, 2) := by decide +kernel
theorem dL_works_323 : decode cL_works 323 = .ok (.if_icmp .ge 14, 3) := by decide +kernel
theorem dL_works_326 : decode cL_works 326 = .ok (.aload_n 0, 1) := by decide +kernel
theorem dL_works_327 : decode cL_works 327 = .ok (.iload 4, 2) := by decide +kernel
theorem dL_works_329 : decode cL_works 329 = .ok (.iload 7, 2) := by decide +kernel
theorem dL_works_331 : decode cL_works 331 = .ok (.invokevirtual 73, 3) := by decide +kernel
theorem dL_works_334 : decode cL_works 334 = .ok (.goto 11, 3) := by decide +kernel
theorem dL_works_337 : decode cL_works 337 = .ok (.aload_n 0, 1) := by decide +kernel
theorem dL_works_338 : decode cL_works 338 = .ok (.iload 4, 2) := by decide +kernel
theorem dL_works_340 : decode cL_works 340 = .ok (.iload 8, 2) := by decide +kernel
theorem dL_works_342 : decode cL_works 342 = .ok (.invokevirtual 76, 3) := by decide +kernel
theorem dL_works_345 : decode cL_works 345 = .ok (.iload 11, 2) := by decide +kernel
theorem dL_works_347 : decode cL_works 347 = .ok (.if_icmp .ne 12, 3) := by decide +kernel
theorem dL_works_350 : decode cL_works 350 = .ok (.iload 10, 2) := by decide +kernel
theorem dL_works_352 : decode cL_works 352 = .ok (.ifCond .eq 7, 3) := by decide +kernel
theorem dL_works_355 : decode cL_works 355 = .ok (.iconst 1, 1) := by decide +kernel
theorem dL_works_356 : decode cL_works 356 = .ok (.goto 4, 3) := by decide +kernel
theorem dL_works_359 : decode cL_works 359 = .ok (.iconst 0, 1) := by decide +kernel
theorem dL_works_360 : decode cL_works 360 = .ok (.ireturn, 1) := by decide +kernel
theorem dL_works_361 : decode cL_works 361 = .ok (.astore 12, 2) := by decide +kernel
theorem dL_works_363 : decode cL_works 363 = .ok (.iload 10, 2) := by decide +kernel
theorem dL_works_365 : decode cL_works 365 = .ok (.ifCond .ne 7, 3) := by decide +kernel
theorem dL_works_368 : decode cL_works 368 = .ok (.iconst 1, 1) := by decide +kernel
theorem dL_works_369 : decode cL_works 369 = .ok (.goto 4, 3) := by decide +kernel
theorem dL_works_372 : decode cL_works 372 = .ok (.iconst 0, 1) := by decide +kernel
theorem dL_works_373 : decode cL_works 373 = .ok (.ireturn, 1) := by decide +kernel
set_option maxRecDepth 20000 in
theorem ggL_build_X1_init : GoodIn wsL_build wsX1_init := goodIn_r _ [7, 8, 9, 10, 11, 12, 13, 52, 53, 54, 55, 56] (by decide +kernel) (by decide +kernel)
set_option maxRecDepth 20000 in
theorem gL_build_X1_init_n79 : GoodIn wsL_build (wsX1_init) := ggL_build_X1_init
set_option maxRecDepth 20000 in
theorem ggL_build_L_cell : GoodIn wsL_build wsL_cell := goodIn_r _ [17, 18] (by decide +kernel) (by decide +kernel)
set_option maxRecDepth 20000 in
theorem gL_build_L_cell : GoodIn wsL_build (va_wsS RL 80 yL_cell wsL_cell) := goodIn_app (goodIn_of _ (by decide +kernel)) ggL_build_L_cell
set_option maxRecDepth 20000 in
theorem ggL_build_L_below : GoodIn wsL_build wsL_below := goodIn_r _ [21, 22] (by decide +kernel) (by decide +kernel)
set_option maxRecDepth 20000 in
theorem gL_build_L_below : GoodIn wsL_build (va_wsS RL 15 yL_below wsL_below) := goodIn_app (goodIn_of _ (by decide +kernel)) ggL_build_L_below
set_option maxRecDepth 20000 in
theorem ggL_build_X1_with : GoodIn wsL_build wsX1_with := goodIn_r _ [25, 12] (by decide +kernel) (by decide +kernel)
set_option maxRecDepth 20000 in
theorem gL_build_X1_with : GoodIn wsL_build (va_wsS RL 21 yX1_with wsX1_with) := goodIn_app (goodIn_of _ (by decide +kernel)) ggL_build_X1_with
set_option maxRecDepth 20000 in
theorem ggL_build_X0_addStranger : GoodIn wsL_build wsX0_addStranger := goodIn_ca (goodIn_ca (goodIn_r _ [30, 31, 32, 33, 34, 35, 36, 37, 38, 39, 40, 41, 29, 42, 43, 44, 45, 46, 47, 48, 49, 50, 51, 57, 58, 59, 60, 61, 62, 63, 64, 65] (by decide +kernel) (by decide +kernel)) (goodIn_sub (fun _ h => List.mem_cons_of_mem _ (List.mem_append_left _ (List.mem_append_right _ h))) (by decide +kernel))) (goodIn_sub (fun _ h => List.mem_cons_of_mem _ (List.mem_append_right _ h)) (by decide +kernel))
set_option maxRecDepth 20000 in
theorem gL_build_X0_addStranger : GoodIn wsL_build (wsV RL 25 RX0 yX0_addStranger wsX0_addStranger) := goodIn_app (goodIn_of _ (by decide +kernel)) ggL_build_X0_addStranger
theorem dL_build_0 : decode cL_build 0 = .ok (.new 10, 3) := by decide +kernel
theorem dL_build_3 : decode cL_build 3 = .ok (.dup, 1) := by decide +kernel
theorem dL_build_4 : decode cL_build 4 = .ok (.invokespecial 79, 3) := by decide +kernel
theorem dL_build_7 : decode cL_build 7 = .ok (.astore_n 2, 1) := by decide +kernel
theorem dL_build_8 : decode cL_build 8 = .ok (.iconst 1, 1) := by decide +kernel
theorem dL_build_9 : decode cL_build 9 = .ok (.aload_n 1, 1) := by decide +kernel
theorem dL_build_10 : decode cL_build 10 = .ok (.iconst 0, 1) := by decide +kernel
theorem dL_build_11 : decode cL_build 11 = .ok (.invokestatic 80, 3) := by decide +kernel
theorem dL_build_14 : decode cL_build 14 = .ok (.bipush 12, 2) := by decide +kernel
theorem dL_build_16 : decode cL_build 16 = .ok (.invokestatic 15, 3) := by decide +kernel
theorem dL_build_19 : decode cL_build 19 = .ok (.iadd, 1) := by decide +kernel
theorem dL_build_20 : decode cL_build 20 = .ok (.istore_n 3, 1) := by decide +kernel
theorem dL_build_21 : decode cL_build 21 = .ok (.iconst 0, 1) := by decide +kernel
theorem dL_build_22 : decode cL_build 22 = .ok (.istore 4, 2) := by decide +kernel
theorem dL_build_24 : decode cL_build 24 = .ok (.iload 4, 2) := by decide +kernel
theorem dL_build_26 : decode cL_build 26 = .ok (.iload_n 3, 1) := by decide +kernel
theorem dL_build_27 : decode cL_build 27 = .ok (.if_icmp .ge 162, 3) := by decide +kernel
theorem dL_build_30 : decode cL_build 30 = .ok (.aload_n 1, 1) := by decide +kernel
theorem dL_build_31 : decode cL_build 31 = .ok (.iconst 1, 1) := by decide +kernel
theorem dL_build_32 : decode cL_build 32 = .ok (.iload 4, 2) := by decide +kernel
theorem dL_build_34 : decode cL_build 34 = .ok (.iadd, 1) := by decide +kernel
theorem dL_build_35 : decode cL_build 35 = .ok (.invokestatic 80, 3) := by decide +kernel
theorem dL_build_38 : decode cL_build 38 = .ok (.istore 5, 2) := by decide +kernel
theorem dL_build_40 : decode cL_build 40 = .ok (.iconst 5, 1) := by decide +kernel
theorem dL_build_41 : decode cL_build 41 = .ok (.newarray .int, 2) := by decide +kernel
theorem dL_build_43 : decode cL_build 43 = .ok (.dup, 1) := by decide +kernel
theorem dL_build_44 : decode cL_build 44 = .ok (.iconst 0, 1) := by decide +kernel
theorem dL_build_45 : decode cL_build 45 = .ok (.iload 5, 2) := by decide +kernel
theorem dL_build_47 : decode cL_build 47 = .ok (.iload 5, 2) := by decide +kernel
theorem dL_build_49 : decode cL_build 49 = .ok (.bipush 9, 2) := by decide +kernel
theorem dL_build_51 : decode cL_build 51 = .ok (.ishr, 1) := by decide +kernel
theorem dL_build_52 : decode cL_build 52 = .ok (.iconst 3, 1) := by decide +kernel
theorem dL_build_53 : decode cL_build 53 = .ok (.invokestatic 15, 3) := by decide +kernel
theorem dL_build_56 : decode cL_build 56 = .ok (.ifCond .ne 8, 3) := by decide +kernel
theorem dL_build_59 : decode cL_build 59 = .ok (.bipush 10, 2) := by decide +kernel
theorem dL_build_61 : decode cL_build 61 = .ok (.goto 4, 3) := by decide +kernel
theorem dL_build_64 : decode cL_build 64 = .ok (.iconst 4, 1) := by decide +kernel
theorem dL_build_65 : decode cL_build 65 = .ok (.invokestatic 15, 3) := by decide +kernel
theorem dL_build_68 : decode cL_build 68 = .ok (.iastore, 1) := by decide +kernel
theorem dL_build_69 : decode cL_build 69 = .ok (.dup, 1) := by decide +kernel
theorem dL_build_70 : decode cL_build 70 = .ok (.iconst 1, 1) := by decide +kernel
theorem dL_build_71 : decode cL_build 71 = .ok (.iload 5, 2) := by decide +kernel
theorem dL_build_73 : decode cL_build 73 = .ok (.iconst 3, 1) := by decide +kernel
theorem dL_build_74 : decode cL_build 74 = .ok (.ishr, 1) := by decide +kernel
theorem dL_build_75 : decode cL_build 75 = .ok (.iload 5, 2) := by decide +kernel
theorem dL_build_77 : decode cL_build 77 = .ok (.bipush 8, 2) := by decide +kernel
theorem dL_build_79 : decode cL_build 79 = .ok (.ishr, 1) := by decide +kernel
theorem dL_build_80 : decode cL_build 80 = .ok (.iconst 3, 1) := by decide +kernel
theorem dL_build_81 : decode cL_build 81 = .ok (.invokestatic 15, 3) := by decide +kernel
theorem dL_build_84 : decode cL_build 84 = .ok (.ifCond .ne 8, 3) := by decide +kernel
theorem dL_build_87 : decode cL_build 87 = .ok (.bipush 10, 2) := by decide +kernel
theorem dL_build_89 : decode cL_build 89 = .ok (.goto 4, 3) := by decide +kernel
theorem dL_build_92 : decode cL_build 92 = .ok (.iconst 4, 1) := by decide +kernel
theorem dL_build_93 : decode cL_build 93 = .ok (.invokestatic 15, 3) := by decide +kernel
theorem dL_build_96 : decode cL_build 96 = .ok (.iastore, 1) := by decide +kernel
theorem dL_build_97 : decode cL_build 97 = .ok (.dup, 1) := by decide +kernel
theorem dL_build_98 : decode cL_build 98 = .ok (.iconst 2, 1) := by decide +kernel
theorem dL_build_99 : decode cL_build 99 = .ok (.iload 5, 2) := by decide +kernel
theorem dL_build_101 : decode cL_build 101 = .ok (.iconst 5, 1) := by decide +kernel
theorem dL_build_102 : decode cL_build 102 = .ok (.ishr, 1) := by decide +kernel
theorem dL_build_103 : decode cL_build 103 = .ok (.iconst 5, 1) := by decide +kernel
theorem dL_build_104 : decode cL_build 104 = .ok (.invokestatic 15, 3) := by decide +kernel
theorem dL_build_107 : decode cL_build 107 = .ok (.iastore, 1) := by decide +kernel
theorem dL_build_108 : decode cL_build 108 = .ok (.dup, 1) := by decide +kernel
theorem dL_build_109 : decode cL_build 109 = .ok (.iconst 3, 1) := by decide +kernel
theorem dL_build_110 : decode cL_build 110 = .ok (.iload 5, 2) := by decide +kernel
theorem dL_build_112 : decode cL_build 112 = .ok (.bipush 6, 2) := by decide +kernel
theorem dL_build_114 : decode cL_build 114 = .ok (.ishr, 1) := by decide +kernel
theorem dL_build_115 : decode cL_build 115 = .ok (.bipush 6, 2) := by decide +kernel
theorem dL_build_117 : decode cL_build 117 = .ok (.invokestatic 15, 3) := by decide +kernel
theorem dL_build_120 : decode cL_build 120 = .ok (.iastore, 1) := by decide +kernel
theorem dL_build_121 : decode cL_build 121 = .ok (.dup, 1) := by decide +kernel
theorem dL_build_122 : decode cL_build 122 = .ok (.iconst 4, 1) := by decide +kernel
theorem dL_build_123 : decode cL_build 123 = .ok (.iload 5, 2) := by decide +kernel
theorem dL_build_125 : decode cL_build 125 = .ok (.iconst 2, 1) := by decide +kernel
theorem dL_build_126 : decode cL_build 126 = .ok (.ishr, 1) := by decide +kernel
theorem dL_build_127 : decode cL_build 127 = .ok (.bipush 6, 2) := by decide +kernel
theorem dL_build_129 : decode cL_build 129 = .ok (.invokestatic 15, 3) := by decide +kernel
theorem dL_build_132 : decode cL_build 132 = .ok (.iastore, 1) := by decide +kernel
theorem dL_build_133 : decode cL_build 133 = .ok (.astore 6, 2) := by decide +kernel
theorem dL_build_135 : decode cL_build 135 = .ok (.aload_n 2, 1) := by decide +kernel
theorem dL_build_136 : decode cL_build 136 = .ok (.aload_n 2, 1) := by decide +kernel
theorem dL_build_137 : decode cL_build 137 = .ok (.getfield 9, 3) := by decide +kernel
theorem dL_build_140 : decode cL_build 140 = .ok (.aload 6, 2) := by decide +kernel
theorem dL_build_142 : decode cL_build 142 = .ok (.invokestatic 21, 3) := by decide +kernel
theorem dL_build_145 : decode cL_build 145 = .ok (.putfield 9, 3) := by decide +kernel
theorem dL_build_148 : decode cL_build 148 = .ok (.aload_n 0, 1) := by decide +kernel
theorem dL_build_149 : decode cL_build 149 = .ok (.bipush 10, 2) := by decide +kernel
theorem dL_build_151 : decode cL_build 151 = .ok (.aload 6, 2) := by decide +kernel
theorem dL_build_153 : decode cL_build 153 = .ok (.iconst 0, 1) := by decide +kernel
theorem dL_build_154 : decode cL_build 154 = .ok (.iaload, 1) := by decide +kernel
theorem dL_build_155 : decode cL_build 155 = .ok (.imul, 1) := by decide +kernel
theorem dL_build_156 : decode cL_build 156 = .ok (.aload 6, 2) := by decide +kernel
theorem dL_build_158 : decode cL_build 158 = .ok (.iconst 1, 1) := by decide +kernel
theorem dL_build_159 : decode cL_build 159 = .ok (.iaload, 1) := by decide +kernel
theorem dL_build_160 : decode cL_build 160 = .ok (.iadd, 1) := by decide +kernel
theorem dL_build_161 : decode cL_build 161 = .ok (.aload 6, 2) := by decide +kernel
theorem dL_build_163 : decode cL_build 163 = .ok (.iconst 2, 1) := by decide +kernel
theorem dL_build_164 : decode cL_build 164 = .ok (.iaload, 1) := by decide +kernel
theorem dL_build_165 : decode cL_build 165 = .ok (.aload 6, 2) := by decide +kernel
theorem dL_build_167 : decode cL_build 167 = .ok (.iconst 3, 1) := by decide +kernel
theorem dL_build_168 : decode cL_build 168 = .ok (.iaload, 1) := by decide +kernel
theorem dL_build_169 : decode cL_build 169 = .ok (.aload 6, 2) := by decide +kernel
theorem dL_build_171 : decode cL_build 171 = .ok (.iconst 4, 1) := by decide +kernel
theorem dL_build_172 : decode cL_build 172 = .ok (.iaload, 1) := by decide +kernel
theorem dL_build_173 : decode cL_build 173 = .ok (.invokevirtual 25, 3) := by decide +kernel
theorem dL_build_176 : decode cL_build 176 = .ok (.iload 4, 2) := by decide +kernel
theorem dL_build_178 : decode cL_build 178 = .ok (.if_icmp .eq 5, 3) := by decide +kernel
theorem dL_build_181 : decode cL_build 181 = .ok (.aconst_null, 1) := by decide +kernel
theorem dL_build_182 : decode cL_build 182 = .ok (.areturn, 1) := by decide +kernel
theorem dL_build_183 : decode cL_build 183 = .ok (.iinc 4 1, 3) := by decide +kernel
theorem dL_build_186 : decode cL_build 186 = .ok (.goto (-162), 3) := by decide +kernel
theorem dL_build_189 : decode cL_build 189 = .ok (.aload_n 2, 1) := by decide +kernel
theorem dL_build_190 : decode cL_build 190 = .ok (.areturn, 1) := by decide +kernel
set_option maxRecDepth 20000 in
theorem ggL_law_X0_init : GoodIn wsL_law wsX0_init := goodIn_r _ [6, 7, 8, 9, 10, 11, 12, 13, 14, 15, 16, 17, 18, 19, 360, 361, 362, 363, 364, 365, 366, 367, 368] (by decide +kernel) (by decide +kernel)
set_option maxRecDepth 20000 in
theorem gL_law_X0_init : GoodIn wsL_law (wsX0_init) := ggL_law_X0_init
set_option maxRecDepth 20000 in
theorem ggL_law_L_build : GoodIn wsL_law wsL_build := goodIn_ca (goodIn_ca (goodIn_r _ [23, 24, 25, 26, 10, 3, 27, 28, 29, 8, 9, 30, 31, 32, 33, 34, 22, 35, 36, 37, 38, 39, 40, 41, 42, 43, 44, 45, 46, 2, 47, 48, 49, 50, 51, 15, 11, 12, 13, 14, 52, 53, 54, 55, 56, 57, 58, 59, 60, 61, 62, 63, 369, 370, 371, 372, 373, 360, 361, 362, 363, 364, 365, 366, 367, 368] (by decide +kernel) (by decide +kernel)) (goodIn_sub (fun _ h => List.mem_append_left _ (List.mem_append_left _ (List.mem_append_right _ h))) (by decide +kernel))) (goodIn_sub (fun _ h => List.mem_append_left _ (List.mem_append_right _ h)) (by decide +kernel))
set_option maxRecDepth 20000 in
theorem gL_law_L_build : GoodIn wsL_law (va_wsS RL 85 yL_build wsL_build) := goodIn_app (goodIn_of _ (by decide +kernel)) ggL_law_L_build
set_option maxRecDepth 20000 in
theorem ggL_law_L_cell : GoodIn wsL_law wsL_cell := goodIn_r _ [35, 36] (by decide +kernel) (by decide +kernel)
set_option maxRecDepth 20000 in
theorem gL_law_L_cell : GoodIn wsL_law (va_wsS RL 80 yL_cell wsL_cell) := goodIn_app (goodIn_of _ (by decide +kernel)) ggL_law_L_cell
set_option maxRecDepth 20000 in
theorem ggL_law_X0_store : GoodIn wsL_law wsX0_store := goodIn_r _ [67, 17, 360, 361, 362, 363, 364, 365, 366, 367, 368] (by decide +kernel) (by decide +kernel)
set_option maxRecDepth 20000 in
theorem gL_law_X0_store : GoodIn wsL_law (wsV RL 89 RX0 yX0_store wsX0_store) := goodIn_app (goodIn_of _ (by decide +kernel)) ggL_law_X0_store
set_option maxRecDepth 20000 in
theorem ggL_law_X0_spent : GoodIn wsL_law wsX0_spent := goodIn_r _ [71, 19, 360, 361, 362, 363, 364, 365, 366, 367, 368] (by decide +kernel) (by decide +kernel)
set_option maxRecDepth 20000 in
theorem gL_law_X0_spent : GoodIn wsL_law (wsV RL 91 RX0 yX0_spent wsX0_spent) := goodIn_app (goodIn_of _ (by decide +kernel)) ggL_law_X0_spent
set_option maxRecDepth 20000 in
theorem ggL_law_X0_hour : GoodIn wsL_law wsX0_hour := goodIn_r _ [75, 16, 360, 361, 362, 363, 364, 365, 366, 367, 368] (by decide +kernel) (by decide +kernel)
set_option maxRecDepth 20000 in
theorem gL_law_X0_hour : GoodIn wsL_law (wsV RL 94 RX0 yX0_hour wsX0_hour) := goodIn_app (goodIn_of _ (by decide +kernel)) ggL_law_X0_hour
set_option maxRecDepth 20000 in
theorem ggL_law_L_act : GoodIn wsL_law wsL_act := goodIn_ca (goodIn_ca (goodIn_ca (goodIn_r _ [78, 79, 3, 10, 37, 38, 22, 39, 40, 41, 42, 26, 43, 31, 44, 45, 46, 2, 47, 48, 49, 50, 51, 15, 11, 12, 13, 14, 52, 53, 54, 55, 56, 57, 58, 59, 60, 61, 62, 63, 80, 81, 82, 83, 84, 85, 86, 87, 88, 89, 90, 91, 92, 93, 18, 94, 95, 96, 97, 17, 98, 99, 100, 101, 16, 102, 103, 104, 105, 106, 107, 108, 109, 110, 111, 112, 113, 114, 115, 116, 117, 118, 119, 120, 121, 122, 123, 124, 125, 126, 127, 128, 129, 130, 131, 132, 133, 134, 135, 136, 137, 138, 139, 140, 141, 32, 30, 142, 143, 144, 145, 146, 147, 148, 149, 150, 151, 152, 153, 154, 155, 156, 157, 158, 159, 160, 161, 162, 163, 164, 165, 166, 167, 168, 169, 170, 171, 172, 173, 174, 175, 176, 177, 178, 179, 180, 181, 182, 183, 184, 185, 186, 187, 188, 189, 190, 191, 192, 193, 194, 195, 196, 197, 198, 199, 200, 19, 201, 202, 203, 204, 205, 206, 207, 208, 209, 210, 211, 212, 213, 214, 215, 216, 217, 218, 369, 370, 371, 372, 373, 360, 361, 362, 363, 364, 365, 366, 367, 368] (by decide +kernel) (by decide +kernel)) (goodIn_sub (fun _ h => List.mem_append_left _ (List.mem_append_left _ (List.mem_append_right _ h))) (by decide +kernel))) (goodIn_sub (fun _ h => List.mem_append_left _ (List.mem_append_right _ h)) (by decide +kernel))) (goodIn_sub (fun _ h => List.mem_append_right _ h) (by decide +kernel))
set_option maxRecDepth 20000 in
theorem gL_law_L_act : GoodIn wsL_law (va_wsS RL 97 yL_act wsL_act) := goodIn_app (goodIn_of _ (by decide +kernel)) ggL_law_L_act
set_option maxRecDepth 20000 in
theorem ggL_law_X0_digest : GoodIn wsL_law wsX0_digest := goodIn_ca (goodIn_r _ [222, 223, 15, 16, 17, 18, 19, 11, 12, 13, 14, 224, 225, 2, 226, 227, 228, 229, 230, 231, 106, 107, 108, 109, 102, 103, 104, 105, 110, 111, 112, 113, 114, 115, 116, 117, 118, 100, 119, 120, 121, 122, 123, 124, 125, 126, 127, 128, 232, 233, 234, 235, 236, 237, 238, 239, 240, 241, 242, 243, 244, 245, 246, 247, 201, 202, 203, 248, 249, 250, 251, 252, 253, 254, 88, 89, 58, 59, 60, 133, 134, 135, 136, 255, 256, 257, 258, 259, 260, 261, 262, 263, 264, 265, 266, 267, 268, 269, 270, 84, 85, 86, 87, 360, 361, 362, 363, 364, 365, 366, 367, 368] (by decide +kernel) (by decide +kernel)) (goodIn_sub (fun _ h => List.mem_append_right _ h) (by decide +kernel))
set_option maxRecDepth 20000 in
theorem gL_law_X0_digest : GoodIn wsL_law (wsV RL 101 RX0 yX0_digest wsX0_digest) := goodIn_app (goodIn_of _ (by decide +kernel)) ggL_law_X0_digest
set_option maxRecDepth 20000 in
theorem ggL_law_X0_strangers : GoodIn wsL_law wsX0_strangers := goodIn_r _ [274, 15, 360, 361, 362, 363, 364, 365, 366, 367, 368] (by decide +kernel) (by decide +kernel)
set_option maxRecDepth 20000 in
theorem gL_law_X0_strangers : GoodIn wsL_law (wsV RL 105 RX0 yX0_strangers wsX0_strangers) := goodIn_app (goodIn_of _ (by decide +kernel)) ggL_law_X0_strangers
set_option maxRecDepth 20000 in
theorem ggL_law_X0_coincidences : GoodIn wsL_law wsX0_coincidences := goodIn_r _ [231, 106, 107, 108, 2, 109, 15, 102, 103, 104, 105, 13, 14, 110, 111, 112, 113, 11, 12, 114, 115, 116, 117, 118, 100, 119, 120, 121, 122, 123, 124, 125, 126, 127, 128, 360, 361, 362, 363, 364, 365, 366, 367, 368] (by decide +kernel) (by decide +kernel)
set_option maxRecDepth 20000 in
theorem gL_law_X0_coincidences : GoodIn wsL_law (wsV RL 108 RX0 yX0_coincidences wsX0_coincidences) := goodIn_app (goodIn_of _ (by decide +kernel)) ggL_law_X0_coincidences
set_option maxRecDepth 20000 in
theorem ggL_law_X0_coincidencesAt : GoodIn wsL_law wsX0_coincidencesAt := goodIn_ca (goodIn_r _ [258, 15, 13, 252, 253, 2, 254, 88, 89, 58, 59, 60, 110, 111, 112, 113, 11, 12, 114, 115, 116, 117, 118, 100, 119, 120, 121, 122, 123, 124, 125, 126, 127, 128, 360, 361, 362, 363, 364, 365, 366, 367, 368] (by decide +kernel) (by decide +kernel)) (goodIn_sub (fun _ h => List.mem_append_right _ h) (by decide +kernel))
set_option maxRecDepth 20000 in
theorem gL_law_X0_coincidencesAt : GoodIn wsL_law (wsV RL 111 RX0 yX0_coincidencesAt wsX0_coincidencesAt) := goodIn_app (goodIn_of _ (by decide +kernel)) ggL_law_X0_coincidencesAt
set_option maxRecDepth 20000 in
theorem ggL_law_X0_peopleAt : GoodIn wsL_law wsX0_peopleAt := goodIn_ca (goodIn_r _ [251, 252, 253, 2, 254, 88, 89, 58, 59, 60, 133, 134, 135, 136, 15, 13, 360, 361, 362, 363, 364, 365, 366, 367, 368] (by decide +kernel) (by decide +kernel)) (goodIn_sub (fun _ h => List.mem_append_right _ h) (by decide +kernel))
set_option maxRecDepth 20000 in
theorem gL_law_X0_peopleAt : GoodIn wsL_law (wsV RL 114 RX0 yX0_peopleAt wsX0_peopleAt) := goodIn_app (goodIn_of _ (by decide +kernel)) ggL_law_X0_peopleAt
set_option maxRecDepth 20000 in
theorem ggL_law_X0_luckOf : GoodIn wsL_law wsX0_luckOf := goodIn_ca (goodIn_r _ [281, 84, 85, 86, 2, 87, 88, 89, 15, 259, 260, 261, 262, 11, 13, 263, 264, 265, 266, 12, 114, 115, 116, 117, 118, 100, 119, 120, 121, 122, 123, 124, 125, 126, 127, 128, 360, 361, 362, 363, 364, 365, 366, 367, 368] (by decide +kernel) (by decide +kernel)) (goodIn_sub (fun _ h => List.mem_append_right _ h) (by decide +kernel))
set_option maxRecDepth 20000 in
theorem gL_law_X0_luckOf : GoodIn wsL_law (wsV RL 117 RX0 yX0_luckOf wsX0_luckOf) := goodIn_app (goodIn_of _ (by decide +kernel)) ggL_law_X0_luckOf
set_option maxRecDepth 20000 in
theorem ggL_law_X0_pointsOf : GoodIn wsL_law wsX0_pointsOf := goodIn_ca (goodIn_ca (goodIn_r _ [285, 193, 194, 195, 2, 196, 48, 49, 84, 85, 86, 87, 88, 89, 15, 110, 111, 112, 113, 11, 12, 114, 115, 116, 117, 118, 100, 119, 120, 121, 122, 123, 124, 125, 126, 127, 128, 360, 361, 362, 363, 364, 365, 366, 367, 368] (by decide +kernel) (by decide +kernel)) (goodIn_sub (fun _ h => List.mem_append_left _ (List.mem_append_left _ (List.mem_append_right _ h))) (by decide +kernel))) (goodIn_sub (fun _ h => List.mem_append_right _ h) (by decide +kernel))
set_option maxRecDepth 20000 in
theorem gL_law_X0_pointsOf : GoodIn wsL_law (wsV RL 120 RX0 yX0_pointsOf wsX0_pointsOf) := goodIn_app (goodIn_of _ (by decide +kernel)) ggL_law_X0_pointsOf
set_option maxRecDepth 20000 in
theorem ggL_law_X0_costOfMeeting : GoodIn wsL_law wsX0_costOfMeeting := goodIn_ca (goodIn_ca (goodIn_r _ [289, 13, 193, 194, 195, 2, 196, 48, 49, 84, 85, 86, 87, 88, 89, 15, 212, 213, 214, 117, 118, 100, 119, 98, 99, 101, 360, 361, 362, 363, 364, 365, 366, 367, 368] (by decide +kernel) (by decide +kernel)) (goodIn_sub (fun _ h => List.mem_append_left _ (List.mem_append_left _ (List.mem_append_right _ h))) (by decide +kernel))) (goodIn_sub (fun _ h => List.mem_append_right _ h) (by decide +kernel))
set_option maxRecDepth 20000 in
theorem gL_law_X0_costOfMeeting : GoodIn wsL_law (wsV RL 123 RX0 yX0_costOfMeeting wsX0_costOfMeeting) := goodIn_app (goodIn_of _ (by decide +kernel)) ggL_law_X0_costOfMeeting
set_option maxRecDepth 20000 in
theorem ggL_law_X0_hoursUntilTogether : GoodIn wsL_law wsX0_hoursUntilTogether := goodIn_ca (goodIn_ca (goodIn_r _ [293, 193, 194, 195, 2, 196, 48, 49, 84, 85, 86, 87, 88, 89, 15, 102, 103, 104, 105, 13, 14, 360, 361, 362, 363, 364, 365, 366, 367, 368] (by decide +kernel) (by decide +kernel)) (goodIn_sub (fun _ h => List.mem_append_left _ (List.mem_append_left _ (List.mem_append_right _ h))) (by decide +kernel))) (goodIn_sub (fun _ h => List.mem_append_right _ h) (by decide +kernel))
set_option maxRecDepth 20000 in
theorem gL_law_X0_hoursUntilTogether : GoodIn wsL_law (wsV RL 126 RX0 yX0_hoursUntilTogether wsX0_hoursUntilTogether) := goodIn_app (goodIn_of _ (by decide +kernel)) ggL_law_X0_hoursUntilTogether
set_option maxRecDepth 20000 in
theorem ggL_law_X0_areTogether : GoodIn wsL_law wsX0_areTogether := goodIn_ca (goodIn_ca (goodIn_r _ [297, 13, 193, 194, 195, 2, 196, 48, 49, 84, 85, 86, 87, 88, 89, 15, 360, 361, 362, 363, 364, 365, 366, 367, 368] (by decide +kernel) (by decide +kernel)) (goodIn_sub (fun _ h => List.mem_append_left _ (List.mem_append_left _ (List.mem_append_right _ h))) (by decide +kernel))) (goodIn_sub (fun _ h => List.mem_append_right _ h) (by decide +kernel))
set_option maxRecDepth 20000 in
theorem gL_law_X0_areTogether : GoodIn wsL_law (wsV RL 129 RX0 yX0_areTogether wsX0_areTogether) := goodIn_app (goodIn_of _ (by decide +kernel)) ggL_law_X0_areTogether
set_option maxRecDepth 20000 in
theorem ggL_law_X0_areMirrored : GoodIn wsL_law wsX0_areMirrored := goodIn_ca (goodIn_ca (goodIn_r _ [301, 11, 193, 194, 195, 2, 196, 48, 49, 84, 85, 86, 87, 88, 89, 15, 123, 124, 125, 360, 361, 362, 363, 364, 365, 366, 367, 368] (by decide +kernel) (by decide +kernel)) (goodIn_sub (fun _ h => List.mem_append_left _ (List.mem_append_left _ (List.mem_append_right _ h))) (by decide +kernel))) (goodIn_sub (fun _ h => List.mem_append_right _ h) (by decide +kernel))
set_option maxRecDepth 20000 in
theorem gL_law_X0_areMirrored : GoodIn wsL_law (wsV RL 133 RX0 yX0_areMirrored wsX0_areMirrored) := goodIn_app (goodIn_of _ (by decide +kernel)) ggL_law_X0_areMirrored
set_option maxRecDepth 20000 in
theorem ggL_law_X0_cornerOf : GoodIn wsL_law wsX0_cornerOf := goodIn_ca (goodIn_r _ [305, 13, 84, 85, 86, 2, 87, 88, 89, 15, 360, 361, 362, 363, 364, 365, 366, 367, 368] (by decide +kernel) (by decide +kernel)) (goodIn_sub (fun _ h => List.mem_append_right _ h) (by decide +kernel))
set_option maxRecDepth 20000 in
theorem gL_law_X0_cornerOf : GoodIn wsL_law (wsV RL 136 RX0 yX0_cornerOf wsX0_cornerOf) := goodIn_app (goodIn_of _ (by decide +kernel)) ggL_law_X0_cornerOf
set_option maxRecDepth 20000 in
theorem ggL_law_X0_coincidencesIn : GoodIn wsL_law wsX0_coincidencesIn := goodIn_ca (goodIn_r _ [309, 48, 49, 106, 107, 108, 2, 109, 15, 102, 103, 104, 105, 13, 14, 110, 111, 112, 113, 11, 12, 114, 115, 116, 117, 118, 100, 119, 120, 121, 122, 123, 124, 125, 126, 127, 128, 360, 361, 362, 363, 364, 365, 366, 367, 368] (by decide +kernel) (by decide +kernel)) (goodIn_sub (fun _ h => List.mem_append_left _ (List.mem_append_left _ (List.mem_append_right _ h))) (by decide +kernel))
set_option maxRecDepth 20000 in
theorem gL_law_X0_coincidencesIn : GoodIn wsL_law (wsV RL 139 RX0 yX0_coincidencesIn wsX0_coincidencesIn) := goodIn_app (goodIn_of _ (by decide +kernel)) ggL_law_X0_coincidencesIn
set_option maxRecDepth 20000 in
theorem ggL_law_X0_meanLuck : GoodIn wsL_law wsX0_meanLuck := goodIn_r _ [313, 15, 259, 260, 261, 2, 262, 11, 13, 263, 264, 265, 266, 12, 114, 115, 116, 117, 118, 100, 119, 120, 121, 122, 123, 124, 125, 126, 127, 128, 360, 361, 362, 363, 364, 365, 366, 367, 368] (by decide +kernel) (by decide +kernel)
set_option maxRecDepth 20000 in
theorem gL_law_X0_meanLuck : GoodIn wsL_law (wsV RL 142 RX0 yX0_meanLuck wsX0_meanLuck) := goodIn_app (goodIn_of _ (by decide +kernel)) ggL_law_X0_meanLuck
set_option maxRecDepth 20000 in
theorem ggL_law_X0_bestHour : GoodIn wsL_law wsX0_bestHour := goodIn_r _ [239, 106, 107, 108, 2, 109, 15, 102, 103, 104, 105, 13, 14, 110, 111, 112, 113, 11, 12, 114, 115, 116, 117, 118, 100, 119, 120, 121, 122, 123, 124, 125, 126, 127, 128, 360, 361, 362, 363, 364, 365, 366, 367, 368] (by decide +kernel) (by decide +kernel)
set_option maxRecDepth 20000 in
theorem gL_law_X0_bestHour : GoodIn wsL_law (wsV RL 146 RX0 yX0_bestHour wsX0_bestHour) := goodIn_app (goodIn_of _ (by decide +kernel)) ggL_law_X0_bestHour
set_option maxRecDepth 20000 in
theorem ggL_law_X0_luckiestPair : GoodIn wsL_law wsX0_luckiestPair := goodIn_r _ [235, 15, 110, 111, 112, 2, 113, 11, 12, 114, 115, 116, 117, 118, 100, 119, 120, 121, 122, 123, 124, 125, 126, 127, 128, 360, 361, 362, 363, 364, 365, 366, 367, 368] (by decide +kernel) (by decide +kernel)
set_option maxRecDepth 20000 in
theorem gL_law_X0_luckiestPair : GoodIn wsL_law (wsV RL 149 RX0 yX0_luckiestPair wsX0_luckiestPair) := goodIn_app (goodIn_of _ (by decide +kernel)) ggL_law_X0_luckiestPair
set_option maxRecDepth 20000 in
theorem ggL_law_X0_bestSwap : GoodIn wsL_law wsX0_bestSwap := goodIn_r _ [243, 15, 106, 107, 108, 2, 109, 102, 103, 104, 105, 13, 14, 110, 111, 112, 113, 11, 12, 114, 115, 116, 117, 118, 100, 119, 120, 121, 122, 123, 124, 125, 126, 127, 128, 244, 245, 246, 247, 201, 202, 203, 360, 361, 362, 363, 364, 365, 366, 367, 368] (by decide +kernel) (by decide +kernel)
set_option maxRecDepth 20000 in
theorem gL_law_X0_bestSwap : GoodIn wsL_law (wsV RL 152 RX0 yX0_bestSwap wsX0_bestSwap) := goodIn_app (goodIn_of _ (by decide +kernel)) ggL_law_X0_bestSwap
set_option maxRecDepth 20000 in
theorem ggL_law_L_below : GoodIn wsL_law wsL_below := goodIn_r _ [39, 40] (by decide +kernel) (by decide +kernel)
set_option maxRecDepth 20000 in
theorem gL_law_L_below : GoodIn wsL_law (va_wsS RL 15 yL_below wsL_below) := goodIn_app (goodIn_of _ (by decide +kernel)) ggL_law_L_below
set_option maxRecDepth 20000 in
theorem ggL_law_X0_bestCorner : GoodIn wsL_law wsX0_bestCorner := goodIn_ca (goodIn_r _ [270, 11, 84, 85, 86, 2, 87, 88, 89, 15, 263, 264, 265, 266, 13, 12, 114, 115, 116, 117, 118, 100, 119, 120, 121, 122, 123, 124, 125, 126, 127, 128, 360, 361, 362, 363, 364, 365, 366, 367, 368] (by decide +kernel) (by decide +kernel)) (goodIn_sub (fun _ h => List.mem_append_right _ h) (by decide +kernel))
set_option maxRecDepth 20000 in
theorem gL_law_X0_bestCorner : GoodIn wsL_law (wsV RL 155 RX0 yX0_bestCorner wsX0_bestCorner) := goodIn_app (goodIn_of _ (by decide +kernel)) ggL_law_X0_bestCorner
set_option maxRecDepth 20000 in
theorem ggL_law_X0_move : GoodIn wsL_law wsX0_move := goodIn_ca (goodIn_ca (goodIn_ca (goodIn_r _ [211, 48, 49, 50, 51, 13, 84, 85, 86, 2, 87, 88, 89, 15, 58, 59, 60, 212, 213, 214, 117, 118, 100, 119, 98, 99, 101, 197, 198, 199, 200, 17, 19, 360, 361, 362, 363, 364, 365, 366, 367, 368] (by decide +kernel) (by decide +kernel)) (goodIn_sub (fun _ h => List.mem_append_left _ (List.mem_append_left _ (List.mem_append_right _ h))) (by decide +kernel))) (goodIn_sub (fun _ h => List.mem_append_left _ (List.mem_append_right _ h)) (by decide +kernel))) (goodIn_sub (fun _ h => List.mem_append_right _ h) (by decide +kernel))
set_option maxRecDepth 20000 in
theorem gL_law_X0_move : GoodIn wsL_law (wsV RL 73 RX0 yX0_move wsX0_move) := goodIn_app (goodIn_of _ (by decide +kernel)) ggL_law_X0_move
set_option maxRecDepth 20000 in
theorem ggL_law_X1_pay : GoodIn wsL_law wsX1_pay := goodIn_r _ [179, 30, 180, 369, 370, 371, 372, 373] (by decide +kernel) (by decide +kernel)
set_option maxRecDepth 20000 in
theorem gL_law_X1_pay : GoodIn wsL_law (wsV RL 56 RX1 yX1_pay wsX1_pay) := goodIn_app (goodIn_of _ (by decide +kernel)) ggL_law_X1_pay
set_option maxRecDepth 20000 in
theorem ggL_law_X0_bestTicket : GoodIn wsL_law wsX0_bestTicket := goodIn_ca (goodIn_r _ [321, 13, 84, 85, 86, 2, 87, 88, 89, 15, 263, 264, 265, 266, 11, 12, 114, 115, 116, 117, 118, 100, 119, 120, 121, 122, 123, 124, 125, 126, 127, 128, 360, 361, 362, 363, 364, 365, 366, 367, 368] (by decide +kernel) (by decide +kernel)) (goodIn_sub (fun _ h => List.mem_append_right _ h) (by decide +kernel))
set_option maxRecDepth 20000 in
theorem gL_law_X0_bestTicket : GoodIn wsL_law (wsV RL 158 RX0 yX0_bestTicket wsX0_bestTicket) := goodIn_app (goodIn_of _ (by decide +kernel)) ggL_law_X0_bestTicket
set_option maxRecDepth 20000 in
theorem ggL_law_X0_draw : GoodIn wsL_law wsX0_draw := goodIn_ca (goodIn_ca (goodIn_ca (goodIn_r _ [218, 48, 49, 11, 84, 85, 86, 2, 87, 88, 89, 15, 52, 53, 54, 197, 198, 199, 200, 50, 51, 17, 19, 360, 361, 362, 363, 364, 365, 366, 367, 368] (by decide +kernel) (by decide +kernel)) (goodIn_sub (fun _ h => List.mem_append_left _ (List.mem_append_left _ (List.mem_append_right _ h))) (by decide +kernel))) (goodIn_sub (fun _ h => List.mem_append_right _ h) (by decide +kernel))) (goodIn_sub (fun _ h => List.mem_append_left _ (List.mem_append_right _ h)) (by decide +kernel))
set_option maxRecDepth 20000 in
theorem gL_law_X0_draw : GoodIn wsL_law (wsV RL 76 RX0 yX0_draw wsX0_draw) := goodIn_app (goodIn_of _ (by decide +kernel)) ggL_law_X0_draw
set_option maxRecDepth 20000 in
theorem ggL_law_X1_ticket : GoodIn wsL_law wsX1_ticket := goodIn_r _ [184, 32, 369, 370, 371, 372, 373] (by decide +kernel) (by decide +kernel)
set_option maxRecDepth 20000 in
theorem gL_law_X1_ticket : GoodIn wsL_law (wsV RL 60 RX1 yX1_ticket wsX1_ticket) := goodIn_app (goodIn_of _ (by decide +kernel)) ggL_law_X1_ticket
set_option maxRecDepth 20000 in
theorem ggL_law_X1_set : GoodIn wsL_law wsX1_set := goodIn_r _ [188, 32, 369, 370, 371, 372, 373] (by decide +kernel) (by decide +kernel)
set_option maxRecDepth 20000 in
theorem gL_law_X1_set : GoodIn wsL_law (wsV RL 63 RX1 yX1_set wsX1_set) := goodIn_app (goodIn_of _ (by decide +kernel)) ggL_law_X1_set
set_option maxRecDepth 20000 in
theorem ggL_law_X0_swapTickets : GoodIn wsL_law wsX0_swapTickets := goodIn_ca (goodIn_ca (goodIn_ca (goodIn_r _ [207, 11, 193, 194, 195, 2, 196, 48, 49, 84, 85, 86, 87, 88, 89, 15, 197, 198, 199, 200, 50, 51, 17, 19, 106, 107, 108, 109, 102, 103, 104, 105, 13, 14, 110, 111, 112, 113, 12, 114, 115, 116, 117, 118, 100, 119, 120, 121, 122, 123, 124, 125, 126, 127, 128, 201, 202, 203, 360, 361, 362, 363, 364, 365, 366, 367, 368] (by decide +kernel) (by decide +kernel)) (goodIn_sub (fun _ h => List.mem_append_left _ (List.mem_append_left _ (List.mem_append_right _ h))) (by decide +kernel))) (goodIn_sub (fun _ h => List.mem_append_right _ h) (by decide +kernel))) (goodIn_sub (fun _ h => List.mem_append_left _ (List.mem_append_right _ h)) (by decide +kernel))
set_option maxRecDepth 20000 in
theorem gL_law_X0_swapTickets : GoodIn wsL_law (wsV RL 70 RX0 yX0_swapTickets wsX0_swapTickets) := goodIn_app (goodIn_of _ (by decide +kernel)) ggL_law_X0_swapTickets
set_option maxRecDepth 20000 in
theorem ggL_law_X0_counted : GoodIn wsL_law wsX0_counted := goodIn_r _ [325, 18, 360, 361, 362, 363, 364, 365, 366, 367, 368] (by decide +kernel) (by decide +kernel)
set_option maxRecDepth 20000 in
theorem gL_law_X0_counted : GoodIn wsL_law (wsV RL 161 RX0 yX0_counted wsX0_counted) := goodIn_app (goodIn_of _ (by decide +kernel)) ggL_law_X0_counted
set_option maxRecDepth 20000 in
theorem ggL_law_X0_pass : GoodIn wsL_law wsX0_pass := goodIn_ca (goodIn_r _ [93, 48, 49, 18, 94, 95, 96, 2, 97, 15, 13, 17, 98, 99, 100, 101, 16, 102, 103, 104, 105, 14, 106, 107, 108, 109, 110, 111, 112, 113, 11, 12, 114, 115, 116, 117, 118, 119, 120, 121, 122, 123, 124, 125, 126, 127, 128, 129, 130, 131, 132, 133, 134, 135, 136, 360, 361, 362, 363, 364, 365, 366, 367, 368] (by decide +kernel) (by decide +kernel)) (goodIn_sub (fun _ h => List.mem_append_left _ (List.mem_append_left _ (List.mem_append_right _ h))) (by decide +kernel))
set_option maxRecDepth 20000 in
theorem gL_law_X0_pass : GoodIn wsL_law (wsV RL 36 RX0 yX0_pass wsX0_pass) := goodIn_app (goodIn_of _ (by decide +kernel)) ggL_law_X0_pass
set_option maxRecDepth 20000 in
theorem ggL_law_X1_pass : GoodIn wsL_law wsX1_pass := goodIn_r _ [140, 141, 32, 30, 142, 99, 100, 101, 143, 144, 145, 146, 26, 147, 148, 149, 150, 151, 152, 153, 154, 155, 156, 157, 158, 159, 160, 118, 119, 161, 162, 163, 164, 165, 166, 167, 369, 370, 371, 372, 373] (by decide +kernel) (by decide +kernel)
set_option maxRecDepth 20000 in
theorem gL_law_X1_pass : GoodIn wsL_law (wsV RL 40 RX1 yX1_pass wsX1_pass) := goodIn_app (goodIn_of _ (by decide +kernel)) ggL_law_X1_pass
set_option maxRecDepth 20000 in
theorem ggL_law_X1_isSame : GoodIn wsL_law wsX1_isSame := goodIn_ca (goodIn_ca (goodIn_r _ [329, 32, 143, 30, 141, 180, 330, 272, 273, 2, 274, 15, 331, 73, 74, 75, 16, 332, 65, 66, 67, 17, 333, 323, 324, 325, 18, 334, 69, 70, 71, 19, 335, 229, 230, 231, 106, 107, 108, 109, 102, 103, 104, 105, 13, 14, 110, 111, 112, 113, 11, 12, 114, 115, 116, 117, 118, 100, 119, 120, 121, 122, 123, 124, 125, 126, 127, 128, 144, 145, 146, 26, 147, 148, 149, 150, 151, 152, 153, 154, 155, 156, 157, 158, 159, 160, 161, 162, 163, 336, 249, 250, 251, 252, 253, 254, 88, 89, 58, 59, 60, 133, 134, 135, 136, 164, 165, 166, 167, 337, 256, 257, 258, 338, 339, 340, 341, 84, 85, 86, 87, 342, 182, 183, 184, 343, 344, 345, 346, 347, 303, 304, 305, 348, 349, 350, 351, 352, 279, 280, 281, 259, 260, 261, 262, 263, 264, 265, 266, 353, 283, 284, 285, 193, 194, 195, 196, 48, 49, 354, 295, 296, 297, 355, 299, 300, 301, 356, 287, 288, 289, 212, 213, 214, 98, 99, 101, 357, 174, 175, 358, 233, 234, 235, 359, 311, 312, 313, 369, 370, 371, 372, 373, 360, 361, 362, 363, 364, 365, 366, 367, 368] (by decide +kernel) (by decide +kernel)) (goodIn_sub (fun _ h => List.mem_append_right _ h) (by decide +kernel))) (goodIn_sub (fun _ h => List.mem_append_left _ (List.mem_append_left _ (List.mem_append_right _ h))) (by decide +kernel))
set_option maxRecDepth 20000 in
theorem gL_law_X1_isSame : GoodIn wsL_law (wsV RL 164 RX1 yX1_isSame wsX1_isSame) := goodIn_app (goodIn_of _ (by decide +kernel)) ggL_law_X1_isSame
end
section
theorem dL_law_0 : decode cL_law 0 = .ok (.new 26, 3) := by decide +kernel
theorem dL_law_3 : decode cL_law 3 = .ok (.dup, 1) := by decide +kernel
theorem dL_law_4 : decode cL_law 4 = .ok (.invokespecial 84, 3) := by decide +kernel
theorem dL_law_7 : decode cL_law 7 = .ok (.astore_n 1, 1) := by decide +kernel
theorem dL_law_8 : decode cL_law 8 = .ok (.aload_n 1, 1) := by decide +kernel
theorem dL_law_9 : decode cL_law 9 = .ok (.aload_n 0, 1) := by decide +kernel
theorem dL_law_10 : decode cL_law 10 = .ok (.invokestatic 85, 3) := by decide +kernel
theorem dL_law_13 : decode cL_law 13 = .ok (.astore_n 2, 1) := by decide +kernel
theorem dL_law_14 : decode cL_law 14 = .ok (.aload_n 2, 1) := by decide +kernel
theorem dL_law_15 : decode cL_law 15 = .ok (.ifnonnull 5, 3) := by decide +kernel
theorem dL_law_18 : decode cL_law 18 = .ok (.iconst 0, 1) := by decide +kernel
theorem dL_law_19 : decode cL_law 19 = .ok (.ireturn, 1) := by decide +kernel
theorem dL_law_20 : decode cL_law 20 = .ok (.iconst 0, 1) := by decide +kernel
theorem dL_law_21 : decode cL_law 21 = .ok (.istore_n 3, 1) := by decide +kernel
theorem dL_law_22 : decode cL_law 22 = .ok (.iload_n 3, 1) := by decide +kernel
theorem dL_law_23 : decode cL_law 23 = .ok (.bipush 9, 2) := by decide +kernel
theorem dL_law_25 : decode cL_law 25 = .ok (.if_icmp .ge 1175, 3) := by decide +kernel
theorem dL_law_28 : decode cL_law 28 = .ok (.aload_n 0, 1) := by decide +kernel
theorem dL_law_29 : decode cL_law 29 = .ok (.iconst 2, 1) := by decide +kernel
theorem dL_law_30 : decode cL_law 30 = .ok (.iload_n 3, 1) := by decide +kernel
theorem dL_law_31 : decode cL_law 31 = .ok (.iadd, 1) := by decide +kernel
theorem dL_law_32 : decode cL_law 32 = .ok (.invokestatic 80, 3) := by decide +kernel
theorem dL_law_35 : decode cL_law 35 = .ok (.iconst 1, 1) := by decide +kernel
theorem dL_law_36 : decode cL_law 36 = .ok (.ishr, 1) := by decide +kernel
theorem dL_law_37 : decode cL_law 37 = .ok (.sipush 263, 3) := by decide +kernel
theorem dL_law_40 : decode cL_law 40 = .ok (.iload_n 3, 1) := by decide +kernel
theorem dL_law_41 : decode cL_law 41 = .ok (.imul, 1) := by decide +kernel
theorem dL_law_42 : decode cL_law 42 = .ok (.iadd, 1) := by decide +kernel
theorem dL_law_43 : decode cL_law 43 = .ok (.istore 4, 2) := by decide +kernel
theorem dL_law_45 : decode cL_law 45 = .ok (.aload_n 1, 1) := by decide +kernel
theorem dL_law_46 : decode cL_law 46 = .ok (.invokevirtual 89, 3) := by decide +kernel
theorem dL_law_49 : decode cL_law 49 = .ok (.istore 5, 2) := by decide +kernel
theorem dL_law_51 : decode cL_law 51 = .ok (.aload_n 1, 1) := by decide +kernel
theorem dL_law_52 : decode cL_law 52 = .ok (.invokevirtual 91, 3) := by decide +kernel
theorem dL_law_55 : decode cL_law 55 = .ok (.istore 6, 2) := by decide +kernel
theorem dL_law_57 : decode cL_law 57 = .ok (.aload_n 1, 1) := by decide +kernel
theorem dL_law_58 : decode cL_law 58 = .ok (.invokevirtual 94, 3) := by decide +kernel
theorem dL_law_61 : decode cL_law 61 = .ok (.istore 7, 2) := by decide +kernel
theorem dL_law_63 : decode cL_law 63 = .ok (.aload_n 1, 1) := by decide +kernel
theorem dL_law_64 : decode cL_law 64 = .ok (.aload_n 2, 1) := by decide +kernel
theorem dL_law_65 : decode cL_law 65 = .ok (.iload 4, 2) := by decide +kernel
theorem dL_law_67 : decode cL_law 67 = .ok (.invokestatic 97, 3) := by decide +kernel
theorem dL_law_70 : decode cL_law 70 = .ok (.ifCond .ne 5, 3) := by decide +kernel
theorem dL_law_73 : decode cL_law 73 = .ok (.iconst 0, 1) := by decide +kernel
theorem dL_law_74 : decode cL_law 74 = .ok (.ireturn, 1) := by decide +kernel
theorem dL_law_75 : decode cL_law 75 = .ok (.aload_n 1, 1) := by decide +kernel
theorem dL_law_76 : decode cL_law 76 = .ok (.invokevirtual 94, 3) := by decide +kernel
theorem dL_law_79 : decode cL_law 79 = .ok (.iload 7, 2) := by decide +kernel
theorem dL_law_81 : decode cL_law 81 = .ok (.if_icmp .ne 20, 3) := by decide +kernel
theorem dL_law_84 : decode cL_law 84 = .ok (.iload 5, 2) := by decide +kernel
theorem dL_law_86 : decode cL_law 86 = .ok (.aload_n 1, 1) := by decide +kernel
theorem dL_law_87 : decode cL_law 87 = .ok (.invokevirtual 89, 3) := by decide +kernel
theorem dL_law_90 : decode cL_law 90 = .ok (.isub, 1) := by decide +kernel
theorem dL_law_91 : decode cL_law 91 = .ok (.aload_n 1, 1) := by decide +kernel
theorem dL_law_92 : decode cL_law 92 = .ok (.invokevirtual 91, 3) := by decide +kernel
theorem dL_law_95 : decode cL_law 95 = .ok (.iload 6, 2) := by decide +kernel
theorem dL_law_97 : decode cL_law 97 = .ok (.isub, 1) := by decide +kernel
theorem dL_law_98 : decode cL_law 98 = .ok (.if_icmp .ne 28, 3) := by decide +kernel
theorem dL_law_101 : decode cL_law 101 = .ok (.aload_n 1, 1) := by decide +kernel
theorem dL_law_102 : decode cL_law 102 = .ok (.invokevirtual 91, 3) := by decide +kernel
theorem dL_law_105 : decode cL_law 105 = .ok (.iload 6, 2) := by decide +kernel
theorem dL_law_107 : decode cL_law 107 = .ok (.if_icmp .lt 19, 3) := by decide +kernel
theorem dL_law_110 : decode cL_law 110 = .ok (.aload_n 1, 1) := by decide +kernel
theorem dL_law_111 : decode cL_law 111 = .ok (.invokevirtual 89, 3) := by decide +kernel
theorem dL_law_114 : decode cL_law 114 = .ok (.ifCond .lt 12, 3) := by decide +kernel
theorem dL_law_117 : decode cL_law 117 = .ok (.aload_n 1, 1) := by decide +kernel
theorem dL_law_118 : decode cL_law 118 = .ok (.invokevirtual 89, 3) := by decide +kernel
theorem dL_law_121 : decode cL_law 121 = .ok (.bipush 100, 2) := by decide +kernel
theorem dL_law_123 : decode cL_law 123 = .ok (.if_icmp .le 5, 3) := by decide +kernel
theorem dL_law_126 : decode cL_law 126 = .ok (.iconst 0, 1) := by decide +kernel
theorem dL_law_127 : decode cL_law 127 = .ok (.ireturn, 1) := by decide +kernel
theorem dL_law_128 : decode cL_law 128 = .ok (.aload_n 1, 1) := by decide +kernel
theorem dL_law_129 : decode cL_law 129 = .ok (.invokevirtual 101, 3) := by decide +kernel
theorem dL_law_132 : decode cL_law 132 = .ok (.lstore 8, 2) := by decide +kernel
theorem dL_law_134 : decode cL_law 134 = .ok (.aload_n 1, 1) := by decide +kernel
theorem dL_law_135 : decode cL_law 135 = .ok (.invokevirtual 105, 3) := by decide +kernel
theorem dL_law_138 : decode cL_law 138 = .ok (.istore 10, 2) := by decide +kernel
theorem dL_law_140 : decode cL_law 140 = .ok (.aload_n 1, 1) := by decide +kernel
theorem dL_law_141 : decode cL_law 141 = .ok (.invokevirtual 108, 3) := by decide +kernel
theorem dL_law_144 : decode cL_law 144 = .ok (.istore 11, 2) := by decide +kernel
theorem dL_law_146 : decode cL_law 146 = .ok (.iconst 0, 1) := by decide +kernel
theorem dL_law_147 : decode cL_law 147 = .ok (.istore 12, 2) := by decide +kernel
theorem dL_law_149 : decode cL_law 149 = .ok (.iconst 0, 1) := by decide +kernel
theorem dL_law_150 : decode cL_law 150 = .ok (.istore 13, 2) := by decide +kernel
theorem dL_law_152 : decode cL_law 152 = .ok (.iconst 0, 1) := by decide +kernel
theorem dL_law_153 : decode cL_law 153 = .ok (.istore 14, 2) := by decide +kernel
theorem dL_law_155 : decode cL_law 155 = .ok (.iconst 0, 1) := by decide +kernel
theorem dL_law_156 : decode cL_law 156 = .ok (.istore 15, 2) := by decide +kernel
theorem dL_law_158 : decode cL_law 158 = .ok (.iload 15, 2) := by decide +kernel
theorem dL_law_160 : decode cL_law 160 = .ok (.bipush 6, 2) := by decide +kernel
theorem dL_law_162 : decode cL_law 162 = .ok (.if_icmp .ge 31, 3) := by decide +kernel
theorem dL_law_165 : decode cL_law 165 = .ok (.iload 13, 2) := by decide +kernel
theorem dL_law_167 : decode cL_law 167 = .ok (.aload_n 1, 1) := by decide +kernel
theorem dL_law_168 : decode cL_law 168 = .ok (.iload 15, 2) := by decide +kernel
theorem dL_law_170 : decode cL_law 170 = .ok (.invokevirtual 111, 3) := by decide +kernel
theorem dL_law_173 : decode cL_law 173 = .ok (.iadd, 1) := by decide +kernel
theorem dL_law_174 : decode cL_law 174 = .ok (.istore 13, 2) := by decide +kernel
theorem dL_law_176 : decode cL_law 176 = .ok (.iload 14, 2) := by decide +kernel
theorem dL_law_178 : decode cL_law 178 = .ok (.aload_n 1, 1) := by decide +kernel
theorem dL_law_179 : decode cL_law 179 = .ok (.iload 15, 2) := by decide +kernel
theorem dL_law_181 : decode cL_law 181 = .ok (.invokevirtual 114, 3) := by decide +kernel
theorem dL_law_184 : decode cL_law 184 = .ok (.iadd, 1) := by decide +kernel
theorem dL_law_185 : decode cL_law 185 = .ok (.istore 14, 2) := by decide +kernel
theorem dL_law_187 : decode cL_law 187 = .ok (.iinc 15 1, 3) := by decide +kernel
theorem dL_law_190 : decode cL_law 190 = .ok (.goto (-32), 3) := by decide +kernel
theorem dL_law_193 : decode cL_law 193 = .ok (.iconst 0, 1) := by decide +kernel
theorem dL_law_194 : decode cL_law 194 = .ok (.istore 15, 2) := by decide +kernel
theorem dL_law_196 : decode cL_law 196 = .ok (.iload 15, 2) := by decide +kernel
theorem dL_law_198 : decode cL_law 198 = .ok (.iload 10, 2) := by decide +kernel
theorem dL_law_200 : decode cL_law 200 = .ok (.if_icmp .ge 260, 3) := by decide +kernel
theorem dL_law_203 : decode cL_law 203 = .ok (.iload 12, 2) := by decide +kernel
theorem dL_law_205 : decode cL_law 205 = .ok (.aload_n 1, 1) := by decide +kernel
theorem dL_law_206 : decode cL_law 206 = .ok (.iload 15, 2) := by decide +kernel
theorem dL_law_208 : decode cL_law 208 = .ok (.invokevirtual 117, 3) := by decide +kernel
theorem dL_law_211 : decode cL_law 211 = .ok (.iadd, 1) := by decide +kernel
theorem dL_law_212 : decode cL_law 212 = .ok (.istore 12, 2) := by decide +kernel
theorem dL_law_214 : decode cL_law 214 = .ok (.iconst 0, 1) := by decide +kernel
theorem dL_law_215 : decode cL_law 215 = .ok (.istore 16, 2) := by decide +kernel
theorem dL_law_217 : decode cL_law 217 = .ok (.iconst 0, 1) := by decide +kernel
theorem dL_law_218 : decode cL_law 218 = .ok (.istore 17, 2) := by decide +kernel
theorem dL_law_220 : decode cL_law 220 = .ok (.iload 17, 2) := by decide +kernel
theorem dL_law_222 : decode cL_law 222 = .ok (.iload 10, 2) := by decide +kernel
theorem dL_law_224 : decode cL_law 224 = .ok (.if_icmp .ge 217, 3) := by decide +kernel
theorem dL_law_227 : decode cL_law 227 = .ok (.iload 17, 2) := by decide +kernel
theorem dL_law_229 : decode cL_law 229 = .ok (.iload 15, 2) := by decide +kernel
theorem dL_law_231 : decode cL_law 231 = .ok (.if_icmp .ne 6, 3) := by decide +kernel
theorem dL_law_234 : decode cL_law 234 = .ok (.goto 201, 3) := by decide +kernel
theorem dL_law_237 : decode cL_law 237 = .ok (.aload_n 1, 1) := by decide +kernel
theorem dL_law_238 : decode cL_law 238 = .ok (.iload 15, 2) := by decide +kernel
theorem dL_law_240 : decode cL_law 240 = .ok (.iload 17, 2) := by decide +kernel
theorem dL_law_242 : decode cL_law 242 = .ok (.invokevirtual 120, 3) := by decide +kernel
theorem dL_law_245 : decode cL_law 245 = .ok (.istore 18, 2) := by decide +kernel
theorem dL_law_247 : decode cL_law 247 = .ok (.aload_n 1, 1) := by decide +kernel
theorem dL_law_248 : decode cL_law 248 = .ok (.iload 15, 2) := by decide +kernel
theorem dL_law_250 : decode cL_law 250 = .ok (.iload 17, 2) := by decide +kernel
theorem dL_law_252 : decode cL_law 252 = .ok (.invokevirtual 123, 3) := by decide +kernel
theorem dL_law_255 : decode cL_law 255 = .ok (.istore 19, 2) := by decide +kernel
theorem dL_law_257 : decode cL_law 257 = .ok (.aload_n 1, 1) := by decide +kernel
theorem dL_law_258 : decode cL_law 258 = .ok (.iload 15, 2) := by decide +kernel
theorem dL_law_260 : decode cL_law 260 = .ok (.iload 17, 2) := by decide +kernel
theorem dL_law_262 : decode cL_law 262 = .ok (.invokevirtual 126, 3) := by decide +kernel
theorem dL_law_265 : decode cL_law 265 = .ok (.istore 20, 2) := by decide +kernel
theorem dL_law_267 : decode cL_law 267 = .ok (.iload 16, 2) := by decide +kernel
theorem dL_law_269 : decode cL_law 269 = .ok (.aload_n 1, 1) := by decide +kernel
theorem dL_law_270 : decode cL_law 270 = .ok (.iload 15, 2) := by decide +kernel
theorem dL_law_272 : decode cL_law 272 = .ok (.iload 17, 2) := by decide +kernel
theorem dL_law_274 : decode cL_law 274 = .ok (.invokevirtual 129, 3) := by decide +kernel
theorem dL_law_277 : decode cL_law 277 = .ok (.ifCond .eq 8, 3) := by decide +kernel
theorem dL_law_280 : decode cL_law 280 = .ok (.iload 18, 2) := by decide +kernel
theorem dL_law_282 : decode cL_law 282 = .ok (.goto 4, 3) := by decide +kernel
theorem dL_law_285 : decode cL_law 285 = .ok (.iconst 0, 1) := by decide +kernel
theorem dL_law_286 : decode cL_law 286 = .ok (.iadd, 1) := by decide +kernel
theorem dL_law_287 : decode cL_law 287 = .ok (.istore 16, 2) := by decide +kernel
theorem dL_law_289 : decode cL_law 289 = .ok (.iload 18, 2) := by decide +kernel
theorem dL_law_291 : decode cL_law 291 = .ok (.aload_n 1, 1) := by decide +kernel
theorem dL_law_292 : decode cL_law 292 = .ok (.iload 17, 2) := by decide +kernel
theorem dL_law_294 : decode cL_law 294 = .ok (.iload 15, 2) := by decide +kernel
theorem dL_law_296 : decode cL_law 296 = .ok (.invokevirtual 120, 3) := by decide +kernel
theorem dL_law_299 : decode cL_law 299 = .ok (.if_icmp .ne 134, 3) := by decide +kernel
theorem dL_law_302 : decode cL_law 302 = .ok (.iload 18, 2) := by decide +kernel
theorem dL_law_304 : decode cL_law 304 = .ok (.ifCond .lt 129, 3) := by decide +kernel
theorem dL_law_307 : decode cL_law 307 = .ok (.iload 18, 2) := by decide +kernel
theorem dL_law_309 : decode cL_law 309 = .ok (.bipush 10, 2) := by decide +kernel
theorem dL_law_311 : decode cL_law 311 = .ok (.if_icmp .gt 122, 3) := by decide +kernel
theorem dL_law_314 : decode cL_law 314 = .ok (.iload 19, 2) := by decide +kernel
theorem dL_law_316 : decode cL_law 316 = .ok (.aload_n 1, 1) := by decide +kernel
theorem dL_law_317 : decode cL_law 317 = .ok (.iload 17, 2) := by decide +kernel
theorem dL_law_319 : decode cL_law 319 = .ok (.iload 15, 2) := by decide +kernel
theorem dL_law_321 : decode cL_law 321 = .ok (.invokevirtual 123, 3) := by decide +kernel
theorem dL_law_324 : decode cL_law 324 = .ok (.if_icmp .ne 109, 3) := by decide +kernel
theorem dL_law_327 : decode cL_law 327 = .ok (.iload 19, 2) := by decide +kernel
theorem dL_law_329 : decode cL_law 329 = .ok (.bipush 6, 2) := by decide +kernel
theorem dL_law_331 : decode cL_law 331 = .ok (.if_icmp .gt 102, 3) := by decide +kernel
theorem dL_law_334 : decode cL_law 334 = .ok (.iload 19, 2) := by decide +kernel
theorem dL_law_336 : decode cL_law 336 = .ok (.ifCond .ne 7, 3) := by decide +kernel
theorem dL_law_339 : decode cL_law 339 = .ok (.iconst 1, 1) := by decide +kernel
theorem dL_law_340 : decode cL_law 340 = .ok (.goto 4, 3) := by decide +kernel
theorem dL_law_343 : decode cL_law 343 = .ok (.iconst 0, 1) := by decide +kernel
theorem dL_law_344 : decode cL_law 344 = .ok (.aload_n 1, 1) := by decide +kernel
theorem dL_law_345 : decode cL_law 345 = .ok (.iload 15, 2) := by decide +kernel
theorem dL_law_347 : decode cL_law 347 = .ok (.iload 17, 2) := by decide +kernel
theorem dL_law_349 : decode cL_law 349 = .ok (.invokevirtual 129, 3) := by decide +kernel
theorem dL_law_352 : decode cL_law 352 = .ok (.if_icmp .ne 81, 3) := by decide +kernel
theorem dL_law_355 : decode cL_law 355 = .ok (.iload 20, 2) := by decide +kernel
theorem dL_law_357 : decode cL_law 357 = .ok (.ifCond .ne 7, 3) := by decide +kernel
theorem dL_law_360 : decode cL_law 360 = .ok (.iconst 1, 1) := by decide +kernel
theorem dL_law_361 : decode cL_law 361 = .ok (.goto 4, 3) := by decide +kernel
theorem dL_law_364 : decode cL_law 364 = .ok (.iconst 0, 1) := by decide +kernel
theorem dL_law_365 : decode cL_law 365 = .ok (.iload 19, 2) := by decide +kernel
theorem dL_law_367 : decode cL_law 367 = .ok (.ifCond .ne 7, 3) := by decide +kernel
theorem dL_law_370 : decode cL_law 370 = .ok (.iconst 1, 1) := by decide +kernel
theorem dL_law_371 : decode cL_law 371 = .ok (.goto 4, 3) := by decide +kernel
theorem dL_law_374 : decode cL_law 374 = .ok (.iconst 0, 1) := by decide +kernel
theorem dL_law_375 : decode cL_law 375 = .ok (.if_icmp .ne 58, 3) := by decide +kernel
theorem dL_law_378 : decode cL_law 378 = .ok (.iload 20, 2) := by decide +kernel
theorem dL_law_380 : decode cL_law 380 = .ok (.iconst 5, 1) := by decide +kernel
theorem dL_law_381 : decode cL_law 381 = .ok (.if_icmp .gt 52, 3) := by decide +kernel
theorem dL_law_384 : decode cL_law 384 = .ok (.aload_n 1, 1) := by decide +kernel
theorem dL_law_385 : decode cL_law 385 = .ok (.iload 15, 2) := by decide +kernel
theorem dL_law_387 : decode cL_law 387 = .ok (.iload 17, 2) := by decide +kernel
theorem dL_law_389 : decode cL_law 389 = .ok (.invokevirtual 133, 3) := by decide +kernel
theorem dL_law_392 : decode cL_law 392 = .ok (.ifCond .eq 10, 3) := by decide +kernel
theorem dL_law_395 : decode cL_law 395 = .ok (.iload 18, 2) := by decide +kernel
theorem dL_law_397 : decode cL_law 397 = .ok (.bipush 7, 2) := by decide +kernel
theorem dL_law_399 : decode cL_law 399 = .ok (.if_icmp .lt 34, 3) := by decide +kernel
theorem dL_law_402 : decode cL_law 402 = .ok (.aload_n 1, 1) := by decide +kernel
theorem dL_law_403 : decode cL_law 403 = .ok (.iload 15, 2) := by decide +kernel
theorem dL_law_405 : decode cL_law 405 = .ok (.iload 17, 2) := by decide +kernel
theorem dL_law_407 : decode cL_law 407 = .ok (.invokevirtual 129, 3) := by decide +kernel
theorem dL_law_410 : decode cL_law 410 = .ok (.aload_n 1, 1) := by decide +kernel
theorem dL_law_411 : decode cL_law 411 = .ok (.iload 15, 2) := by decide +kernel
theorem dL_law_413 : decode cL_law 413 = .ok (.invokevirtual 136, 3) := by decide +kernel
theorem dL_law_416 : decode cL_law 416 = .ok (.aload_n 1, 1) := by decide +kernel
theorem dL_law_417 : decode cL_law 417 = .ok (.iload 17, 2) := by decide +kernel
theorem dL_law_419 : decode cL_law 419 = .ok (.invokevirtual 136, 3) := by decide +kernel
theorem dL_law_422 : decode cL_law 422 = .ok (.if_icmp .ne 7, 3) := by decide +kernel
theorem dL_law_425 : decode cL_law 425 = .ok (.iconst 1, 1) := by decide +kernel
theorem dL_law_426 : decode cL_law 426 = .ok (.goto 4, 3) := by decide +kernel
theorem dL_law_429 : decode cL_law 429 = .ok (.iconst 0, 1) := by decide +kernel
theorem dL_law_430 : decode cL_law 430 = .ok (.if_icmp .eq 5, 3) := by decide +kernel
theorem dL_law_433 : decode cL_law 433 = .ok (.iconst 0, 1) := by decide +kernel
theorem dL_law_434 : decode cL_law 434 = .ok (.ireturn, 1) := by decide +kernel
theorem dL_law_435 : decode cL_law 435 = .ok (.iinc 17 1, 3) := by decide +kernel
theorem dL_law_438 : decode cL_law 438 = .ok (.goto (-218), 3) := by decide +kernel
theorem dL_law_441 : decode cL_law 441 = .ok (.iload 16, 2) := by decide +kernel
theorem dL_law_443 : decode cL_law 443 = .ok (.aload_n 1, 1) := by decide +kernel
theorem dL_law_444 : decode cL_law 444 = .ok (.iload 15, 2) := by decide +kernel
theorem dL_law_446 : decode cL_law 446 = .ok (.invokevirtual 117, 3) := by decide +kernel
theorem dL_law_449 : decode cL_law 449 = .ok (.if_icmp .eq 5, 3) := by decide +kernel
theorem dL_law_452 : decode cL_law 452 = .ok (.iconst 0, 1) := by decide +kernel
theorem dL_law_453 : decode cL_law 453 = .ok (.ireturn, 1) := by decide +kernel
theorem dL_law_454 : decode cL_law 454 = .ok (.iinc 15 1, 3) := by decide +kernel
theorem dL_law_457 : decode cL_law 457 = .ok (.goto (-261), 3) := by decide +kernel
theorem dL_law_460 : decode cL_law 460 = .ok (.iload 13, 2) := by decide +kernel
theorem dL_law_462 : decode cL_law 462 = .ok (.iload 11, 2) := by decide +kernel
theorem dL_law_464 : decode cL_law 464 = .ok (.if_icmp .ne 53, 3) := by decide +kernel
theorem dL_law_467 : decode cL_law 467 = .ok (.iload 14, 2) := by decide +kernel
theorem dL_law_469 : decode cL_law 469 = .ok (.iload 10, 2) := by decide +kernel
theorem dL_law_471 : decode cL_law 471 = .ok (.if_icmp .ne 46, 3) := by decide +kernel
theorem dL_law_474 : decode cL_law 474 = .ok (.iload 12, 2) := by decide +kernel
theorem dL_law_476 : decode cL_law 476 = .ok (.iconst 2, 1) := by decide +kernel
theorem dL_law_477 : decode cL_law 477 = .ok (.iload 11, 2) := by decide +kernel
theorem dL_law_479 : decode cL_law 479 = .ok (.imul, 1) := by decide +kernel
theorem dL_law_480 : decode cL_law 480 = .ok (.if_icmp .ne 37, 3) := by decide +kernel
theorem dL_law_483 : decode cL_law 483 = .ok (.aload_n 1, 1) := by decide +kernel
theorem dL_law_484 : decode cL_law 484 = .ok (.iconst 0, 1) := by decide +kernel
theorem dL_law_485 : decode cL_law 485 = .ok (.invokevirtual 139, 3) := by decide +kernel
theorem dL_law_488 : decode cL_law 488 = .ok (.iload 11, 2) := by decide +kernel
theorem dL_law_490 : decode cL_law 490 = .ok (.if_icmp .ne 27, 3) := by decide +kernel
theorem dL_law_493 : decode cL_law 493 = .ok (.aload_n 1, 1) := by decide +kernel
theorem dL_law_494 : decode cL_law 494 = .ok (.invokevirtual 142, 3) := by decide +kernel
theorem dL_law_497 : decode cL_law 497 = .ok (.iload 10, 2) := by decide +kernel
theorem dL_law_499 : decode cL_law 499 = .ok (.ifCond .ne 7, 3) := by decide +kernel
theorem dL_law_502 : decode cL_law 502 = .ok (.dconst 0, 1) := by decide +kernel
theorem dL_law_503 : decode cL_law 503 = .ok (.goto 10, 3) := by decide +kernel
theorem dL_law_506 : decode cL_law 506 = .ok (.iload 12, 2) := by decide +kernel
theorem dL_law_508 : decode cL_law 508 = .ok (.i2d, 1) := by decide +kernel
theorem dL_law_509 : decode cL_law 509 = .ok (.iload 10, 2) := by decide +kernel
theorem dL_law_511 : decode cL_law 511 = .ok (.i2d, 1) := by decide +kernel
theorem dL_law_512 : decode cL_law 512 = .ok (.ddiv, 1) := by decide +kernel
theorem dL_law_513 : decode cL_law 513 = .ok (.dcmp .l, 1) := by decide +kernel
theorem dL_law_514 : decode cL_law 514 = .ok (.ifCond .eq 5, 3) := by decide +kernel
theorem dL_law_517 : decode cL_law 517 = .ok (.iconst 0, 1) := by decide +kernel
theorem dL_law_518 : decode cL_law 518 = .ok (.ireturn, 1) := by decide +kernel
theorem dL_law_519 : decode cL_law 519 = .ok (.aload_n 1, 1) := by decide +kernel
theorem dL_law_520 : decode cL_law 520 = .ok (.invokevirtual 146, 3) := by decide +kernel
theorem dL_law_523 : decode cL_law 523 = .ok (.istore 15, 2) := by decide +kernel
theorem dL_law_525 : decode cL_law 525 = .ok (.iconst 1, 1) := by decide +kernel
theorem dL_law_526 : decode cL_law 526 = .ok (.istore 16, 2) := by decide +kernel
theorem dL_law_528 : decode cL_law 528 = .ok (.iload 16, 2) := by decide +kernel
theorem dL_law_530 : decode cL_law 530 = .ok (.bipush 7, 2) := by decide +kernel
theorem dL_law_532 : decode cL_law 532 = .ok (.if_icmp .ge 66, 3) := by decide +kernel
theorem dL_law_535 : decode cL_law 535 = .ok (.aload_n 1, 1) := by decide +kernel
theorem dL_law_536 : decode cL_law 536 = .ok (.iload 16, 2) := by decide +kernel
theorem dL_law_538 : decode cL_law 538 = .ok (.invokevirtual 139, 3) := by decide +kernel
theorem dL_law_541 : decode cL_law 541 = .ok (.aload_n 1, 1) := by decide +kernel
theorem dL_law_542 : decode cL_law 542 = .ok (.iload 15, 2) := by decide +kernel
theorem dL_law_544 : decode cL_law 544 = .ok (.invokevirtual 139, 3) := by decide +kernel
theorem dL_law_547 : decode cL_law 547 = .ok (.if_icmp .gt 43, 3) := by decide +kernel
theorem dL_law_550 : decode cL_law 550 = .ok (.iload 16, 2) := by decide +kernel
theorem dL_law_552 : decode cL_law 552 = .ok (.iload 15, 2) := by decide +kernel
theorem dL_law_554 : decode cL_law 554 = .ok (.if_icmp .ge 18, 3) := by decide +kernel
theorem dL_law_557 : decode cL_law 557 = .ok (.aload_n 1, 1) := by decide +kernel
theorem dL_law_558 : decode cL_law 558 = .ok (.iload 16, 2) := by decide +kernel
theorem dL_law_560 : decode cL_law 560 = .ok (.invokevirtual 139, 3) := by decide +kernel
theorem dL_law_563 : decode cL_law 563 = .ok (.aload_n 1, 1) := by decide +kernel
theorem dL_law_564 : decode cL_law 564 = .ok (.iload 15, 2) := by decide +kernel
theorem dL_law_566 : decode cL_law 566 = .ok (.invokevirtual 139, 3) := by decide +kernel
theorem dL_law_569 : decode cL_law 569 = .ok (.if_icmp .eq 21, 3) := by decide +kernel
theorem dL_law_572 : decode cL_law 572 = .ok (.aload_n 1, 1) := by decide +kernel
theorem dL_law_573 : decode cL_law 573 = .ok (.iload 16, 2) := by decide +kernel
theorem dL_law_575 : decode cL_law 575 = .ok (.invokevirtual 139, 3) := by decide +kernel
theorem dL_law_578 : decode cL_law 578 = .ok (.aload_n 1, 1) := by decide +kernel
theorem dL_law_579 : decode cL_law 579 = .ok (.iload 16, 2) := by decide +kernel
theorem dL_law_581 : decode cL_law 581 = .ok (.bipush 6, 2) := by decide +kernel
theorem dL_law_583 : decode cL_law 583 = .ok (.iadd, 1) := by decide +kernel
theorem dL_law_584 : decode cL_law 584 = .ok (.invokevirtual 139, 3) := by decide +kernel
theorem dL_law_587 : decode cL_law 587 = .ok (.if_icmp .eq 5, 3) := by decide +kernel
theorem dL_law_590 : decode cL_law 590 = .ok (.iconst 0, 1) := by decide +kernel
theorem dL_law_591 : decode cL_law 591 = .ok (.ireturn, 1) := by decide +kernel
theorem dL_law_592 : decode cL_law 592 = .ok (.iinc 16 1, 3) := by decide +kernel
theorem dL_law_595 : decode cL_law 595 = .ok (.goto (-67), 3) := by decide +kernel
theorem dL_law_598 : decode cL_law 598 = .ok (.aload_n 1, 1) := by decide +kernel
theorem dL_law_599 : decode cL_law 599 = .ok (.invokevirtual 149, 3) := by decide +kernel
theorem dL_law_602 : decode cL_law 602 = .ok (.istore 16, 2) := by decide +kernel
theorem dL_law_604 : decode cL_law 604 = .ok (.aload_n 1, 1) := by decide +kernel
theorem dL_law_605 : decode cL_law 605 = .ok (.invokevirtual 152, 3) := by decide +kernel
theorem dL_law_608 : decode cL_law 608 = .ok (.istore 17, 2) := by decide +kernel
theorem dL_law_610 : decode cL_law 610 = .ok (.iload 16, 2) := by decide +kernel
theorem dL_law_612 : decode cL_law 612 = .ok (.ifCond .ge 7, 3) := by decide +kernel
theorem dL_law_615 : decode cL_law 615 = .ok (.iconst 1, 1) := by decide +kernel
theorem dL_law_616 : decode cL_law 616 = .ok (.goto 4, 3) := by decide +kernel
theorem dL_law_619 : decode cL_law 619 = .ok (.iconst 0, 1) := by decide +kernel
theorem dL_law_620 : decode cL_law 620 = .ok (.iload 10, 2) := by decide +kernel
theorem dL_law_622 : decode cL_law 622 = .ok (.iconst 2, 1) := by decide +kernel
theorem dL_law_623 : decode cL_law 623 = .ok (.if_icmp .ge 7, 3) := by decide +kernel
theorem dL_law_626 : decode cL_law 626 = .ok (.iconst 1, 1) := by decide +kernel
theorem dL_law_627 : decode cL_law 627 = .ok (.goto 4, 3) := by decide +kernel
theorem dL_law_630 : decode cL_law 630 = .ok (.iconst 0, 1) := by decide +kernel
theorem dL_law_631 : decode cL_law 631 = .ok (.if_icmp .ne 13, 3) := by decide +kernel
theorem dL_law_634 : decode cL_law 634 = .ok (.aload_n 1, 1) := by decide +kernel
theorem dL_law_635 : decode cL_law 635 = .ok (.invokevirtual 101, 3) := by decide +kernel
theorem dL_law_638 : decode cL_law 638 = .ok (.lload 8, 2) := by decide +kernel
theorem dL_law_640 : decode cL_law 640 = .ok (.lcmp, 1) := by decide +kernel
theorem dL_law_641 : decode cL_law 641 = .ok (.ifCond .eq 5, 3) := by decide +kernel
theorem dL_law_644 : decode cL_law 644 = .ok (.iconst 0, 1) := by decide +kernel
theorem dL_law_645 : decode cL_law 645 = .ok (.ireturn, 1) := by decide +kernel
theorem dL_law_646 : decode cL_law 646 = .ok (.iconst 0, 1) := by decide +kernel
theorem dL_law_647 : decode cL_law 647 = .ok (.istore 18, 2) := by decide +kernel
theorem dL_law_649 : decode cL_law 649 = .ok (.iload 18, 2) := by decide +kernel
theorem dL_law_651 : decode cL_law 651 = .ok (.iload 10, 2) := by decide +kernel
theorem dL_law_653 : decode cL_law 653 = .ok (.if_icmp .ge 55, 3) := by decide +kernel
theorem dL_law_656 : decode cL_law 656 = .ok (.iload 18, 2) := by decide +kernel
theorem dL_law_658 : decode cL_law 658 = .ok (.iconst 1, 1) := by decide +kernel
theorem dL_law_659 : decode cL_law 659 = .ok (.iadd, 1) := by decide +kernel
theorem dL_law_660 : decode cL_law 660 = .ok (.istore 19, 2) := by decide +kernel
theorem dL_law_662 : decode cL_law 662 = .ok (.iload 19, 2) := by decide +kernel
theorem dL_law_664 : decode cL_law 664 = .ok (.iload 10, 2) := by decide +kernel
theorem dL_law_666 : decode cL_law 666 = .ok (.if_icmp .ge 36, 3) := by decide +kernel
theorem dL_law_669 : decode cL_law 669 = .ok (.aload_n 1, 1) := by decide +kernel
theorem dL_law_670 : decode cL_law 670 = .ok (.iload 18, 2) := by decide +kernel
theorem dL_law_672 : decode cL_law 672 = .ok (.iload 19, 2) := by decide +kernel
theorem dL_law_674 : decode cL_law 674 = .ok (.invokevirtual 120, 3) := by decide +kernel
theorem dL_law_677 : decode cL_law 677 = .ok (.aload_n 1, 1) := by decide +kernel
theorem dL_law_678 : decode cL_law 678 = .ok (.iload 16, 2) := by decide +kernel
theorem dL_law_680 : decode cL_law 680 = .ok (.bipush 100, 2) := by decide +kernel
theorem dL_law_682 : decode cL_law 682 = .ok (.idiv, 1) := by decide +kernel
theorem dL_law_683 : decode cL_law 683 = .ok (.iload 16, 2) := by decide +kernel
theorem dL_law_685 : decode cL_law 685 = .ok (.bipush 100, 2) := by decide +kernel
theorem dL_law_687 : decode cL_law 687 = .ok (.irem, 1) := by decide +kernel
theorem dL_law_688 : decode cL_law 688 = .ok (.invokevirtual 120, 3) := by decide +kernel
theorem dL_law_691 : decode cL_law 691 = .ok (.if_icmp .le 5, 3) := by decide +kernel
theorem dL_law_694 : decode cL_law 694 = .ok (.iconst 0, 1) := by decide +kernel
theorem dL_law_695 : decode cL_law 695 = .ok (.ireturn, 1) := by decide +kernel
theorem dL_law_696 : decode cL_law 696 = .ok (.iinc 19 1, 3) := by decide +kernel
theorem dL_law_699 : decode cL_law 699 = .ok (.goto (-37), 3) := by decide +kernel
theorem dL_law_702 : decode cL_law 702 = .ok (.iinc 18 1, 3) := by decide +kernel
theorem dL_law_705 : decode cL_law 705 = .ok (.goto (-56), 3) := by decide +kernel
theorem dL_law_708 : decode cL_law 708 = .ok (.iload 4, 2) := by decide +kernel
theorem dL_law_710 : decode cL_law 710 = .ok (.iconst 5, 1) := by decide +kernel
theorem dL_law_711 : decode cL_law 711 = .ok (.ishr, 1) := by decide +kernel
theorem dL_law_712 : decode cL_law 712 = .ok (.iload 10, 2) := by decide +kernel
theorem dL_law_714 : decode cL_law 714 = .ok (.invokestatic 15, 3) := by decide +kernel
theorem dL_law_717 : decode cL_law 717 = .ok (.istore 18, 2) := by decide +kernel
theorem dL_law_719 : decode cL_law 719 = .ok (.aload_n 1, 1) := by decide +kernel
theorem dL_law_720 : decode cL_law 720 = .ok (.iload 18, 2) := by decide +kernel
theorem dL_law_722 : decode cL_law 722 = .ok (.invokevirtual 155, 3) := by decide +kernel
theorem dL_law_725 : decode cL_law 725 = .ok (.istore 19, 2) := by decide +kernel
theorem dL_law_727 : decode cL_law 727 = .ok (.iload 4, 2) := by decide +kernel
theorem dL_law_729 : decode cL_law 729 = .ok (.iconst 3, 1) := by decide +kernel
theorem dL_law_730 : decode cL_law 730 = .ok (.ishr, 1) := by decide +kernel
theorem dL_law_731 : decode cL_law 731 = .ok (.iconst 3, 1) := by decide +kernel
theorem dL_law_732 : decode cL_law 732 = .ok (.invokestatic 15, 3) := by decide +kernel
theorem dL_law_735 : decode cL_law 735 = .ok (.ifCond .ne 87, 3) := by decide +kernel
theorem dL_law_738 : decode cL_law 738 = .ok (.aload_n 1, 1) := by decide +kernel
theorem dL_law_739 : decode cL_law 739 = .ok (.iload 18, 2) := by decide +kernel
theorem dL_law_741 : decode cL_law 741 = .ok (.invokevirtual 136, 3) := by decide +kernel
theorem dL_law_744 : decode cL_law 744 = .ok (.iload 19, 2) := by decide +kernel
theorem dL_law_746 : decode cL_law 746 = .ok (.if_icmp .eq 76, 3) := by decide +kernel
theorem dL_law_749 : decode cL_law 749 = .ok (.aload_n 1, 1) := by decide +kernel
theorem dL_law_750 : decode cL_law 750 = .ok (.invokevirtual 89, 3) := by decide +kernel
theorem dL_law_753 : decode cL_law 753 = .ok (.iconst 5, 1) := by decide +kernel
theorem dL_law_754 : decode cL_law 754 = .ok (.if_icmp .le 68, 3) := by decide +kernel
theorem dL_law_757 : decode cL_law 757 = .ok (.aload_n 1, 1) := by decide +kernel
theorem dL_law_758 : decode cL_law 758 = .ok (.iload 18, 2) := by decide +kernel
theorem dL_law_760 : decode cL_law 760 = .ok (.iload 19, 2) := by decide +kernel
theorem dL_law_762 : decode cL_law 762 = .ok (.invokevirtual 73, 3) := by decide +kernel
theorem dL_law_765 : decode cL_law 765 = .ok (.istore 20, 2) := by decide +kernel
theorem dL_law_767 : decode cL_law 767 = .ok (.aload_n 2, 1) := by decide +kernel
theorem dL_law_768 : decode cL_law 768 = .ok (.iload 20, 2) := by decide +kernel
theorem dL_law_770 : decode cL_law 770 = .ok (.invokevirtual 56, 3) := by decide +kernel
theorem dL_law_773 : decode cL_law 773 = .ok (.aload_n 2, 1) := by decide +kernel
theorem dL_law_774 : decode cL_law 774 = .ok (.getfield 9, 3) := by decide +kernel
theorem dL_law_777 : decode cL_law 777 = .ok (.iload 18, 2) := by decide +kernel
theorem dL_law_779 : decode cL_law 779 = .ok (.aaload, 1) := by decide +kernel
theorem dL_law_780 : decode cL_law 780 = .ok (.iconst 3, 1) := by decide +kernel
theorem dL_law_781 : decode cL_law 781 = .ok (.iload 19, 2) := by decide +kernel
theorem dL_law_783 : decode cL_law 783 = .ok (.iastore, 1) := by decide +kernel
theorem dL_law_784 : decode cL_law 784 = .ok (.iload 20, 2) := by decide +kernel
theorem dL_law_786 : decode cL_law 786 = .ok (.iconst 2, 1) := by decide +kernel
theorem dL_law_787 : decode cL_law 787 = .ok (.if_icmp .lt 30, 3) := by decide +kernel
theorem dL_law_790 : decode cL_law 790 = .ok (.iload 20, 2) := by decide +kernel
theorem dL_law_792 : decode cL_law 792 = .ok (.bipush 6, 2) := by decide +kernel
theorem dL_law_794 : decode cL_law 794 = .ok (.if_icmp .gt 23, 3) := by decide +kernel
theorem dL_law_797 : decode cL_law 797 = .ok (.aload_n 1, 1) := by decide +kernel
theorem dL_law_798 : decode cL_law 798 = .ok (.invokevirtual 108, 3) := by decide +kernel
theorem dL_law_801 : decode cL_law 801 = .ok (.iload 11, 2) := by decide +kernel
theorem dL_law_803 : decode cL_law 803 = .ok (.if_icmp .lt 14, 3) := by decide +kernel
theorem dL_law_806 : decode cL_law 806 = .ok (.aload_n 1, 1) := by decide +kernel
theorem dL_law_807 : decode cL_law 807 = .ok (.iload 18, 2) := by decide +kernel
theorem dL_law_809 : decode cL_law 809 = .ok (.invokevirtual 155, 3) := by decide +kernel
theorem dL_law_812 : decode cL_law 812 = .ok (.iload 19, 2) := by decide +kernel
theorem dL_law_814 : decode cL_law 814 = .ok (.if_icmp .eq 5, 3) := by decide +kernel
theorem dL_law_817 : decode cL_law 817 = .ok (.iconst 0, 1) := by decide +kernel
theorem dL_law_818 : decode cL_law 818 = .ok (.ireturn, 1) := by decide +kernel
theorem dL_law_819 : decode cL_law 819 = .ok (.goto 189, 3) := by decide +kernel
theorem dL_law_822 : decode cL_law 822 = .ok (.iload 4, 2) := by decide +kernel
theorem dL_law_824 : decode cL_law 824 = .ok (.iconst 4, 1) := by decide +kernel
theorem dL_law_825 : decode cL_law 825 = .ok (.ishr, 1) := by decide +kernel
theorem dL_law_826 : decode cL_law 826 = .ok (.iconst 3, 1) := by decide +kernel
theorem dL_law_827 : decode cL_law 827 = .ok (.invokestatic 15, 3) := by decide +kernel
theorem dL_law_830 : decode cL_law 830 = .ok (.ifCond .ne 82, 3) := by decide +kernel
theorem dL_law_833 : decode cL_law 833 = .ok (.aload_n 1, 1) := by decide +kernel
theorem dL_law_834 : decode cL_law 834 = .ok (.invokevirtual 89, 3) := by decide +kernel
theorem dL_law_837 : decode cL_law 837 = .ok (.bipush 11, 2) := by decide +kernel
theorem dL_law_839 : decode cL_law 839 = .ok (.if_icmp .le 73, 3) := by decide +kernel
theorem dL_law_842 : decode cL_law 842 = .ok (.aload_n 1, 1) := by decide +kernel
theorem dL_law_843 : decode cL_law 843 = .ok (.iload 18, 2) := by decide +kernel
theorem dL_law_845 : decode cL_law 845 = .ok (.invokevirtual 158, 3) := by decide +kernel
theorem dL_law_848 : decode cL_law 848 = .ok (.istore 20, 2) := by decide +kernel
theorem dL_law_850 : decode cL_law 850 = .ok (.aload_n 1, 1) := by decide +kernel
theorem dL_law_851 : decode cL_law 851 = .ok (.iload 18, 2) := by decide +kernel
theorem dL_law_853 : decode cL_law 853 = .ok (.iload 20, 2) := by decide +kernel
theorem dL_law_855 : decode cL_law 855 = .ok (.invokevirtual 76, 3) := by decide +kernel
theorem dL_law_858 : decode cL_law 858 = .ok (.istore 21, 2) := by decide +kernel
theorem dL_law_860 : decode cL_law 860 = .ok (.iload 21, 2) := by decide +kernel
theorem dL_law_862 : decode cL_law 862 = .ok (.aload_n 2, 1) := by decide +kernel
theorem dL_law_863 : decode cL_law 863 = .ok (.iload 18, 2) := by decide +kernel
theorem dL_law_865 : decode cL_law 865 = .ok (.invokevirtual 60, 3) := by decide +kernel
theorem dL_law_868 : decode cL_law 868 = .ok (.if_icmp .eq 5, 3) := by decide +kernel
theorem dL_law_871 : decode cL_law 871 = .ok (.iconst 0, 1) := by decide +kernel
theorem dL_law_872 : decode cL_law 872 = .ok (.ireturn, 1) := by decide +kernel
theorem dL_law_873 : decode cL_law 873 = .ok (.aload_n 2, 1) := by decide +kernel
theorem dL_law_874 : decode cL_law 874 = .ok (.bipush 12, 2) := by decide +kernel
theorem dL_law_876 : decode cL_law 876 = .ok (.invokevirtual 56, 3) := by decide +kernel
theorem dL_law_879 : decode cL_law 879 = .ok (.aload_n 2, 1) := by decide +kernel
theorem dL_law_880 : decode cL_law 880 = .ok (.iload 18, 2) := by decide +kernel
theorem dL_law_882 : decode cL_law 882 = .ok (.iload 20, 2) := by decide +kernel
theorem dL_law_884 : decode cL_law 884 = .ok (.invokevirtual 63, 3) := by decide +kernel
theorem dL_law_887 : decode cL_law 887 = .ok (.aload_n 1, 1) := by decide +kernel
theorem dL_law_888 : decode cL_law 888 = .ok (.invokevirtual 108, 3) := by decide +kernel
theorem dL_law_891 : decode cL_law 891 = .ok (.iload 11, 2) := by decide +kernel
theorem dL_law_893 : decode cL_law 893 = .ok (.if_icmp .lt 14, 3) := by decide +kernel
theorem dL_law_896 : decode cL_law 896 = .ok (.aload_n 1, 1) := by decide +kernel
theorem dL_law_897 : decode cL_law 897 = .ok (.iload 18, 2) := by decide +kernel
theorem dL_law_899 : decode cL_law 899 = .ok (.invokevirtual 158, 3) := by decide +kernel
theorem dL_law_902 : decode cL_law 902 = .ok (.iload 20, 2) := by decide +kernel
theorem dL_law_904 : decode cL_law 904 = .ok (.if_icmp .eq 5, 3) := by decide +kernel
theorem dL_law_907 : decode cL_law 907 = .ok (.iconst 0, 1) := by decide +kernel
theorem dL_law_908 : decode cL_law 908 = .ok (.ireturn, 1) := by decide +kernel
theorem dL_law_909 : decode cL_law 909 = .ok (.goto 99, 3) := by decide +kernel
theorem dL_law_912 : decode cL_law 912 = .ok (.iload 17, 2) := by decide +kernel
theorem dL_law_914 : decode cL_law 914 = .ok (.ifCond .lt 94, 3) := by decide +kernel
theorem dL_law_917 : decode cL_law 917 = .ok (.aload_n 1, 1) := by decide +kernel
theorem dL_law_918 : decode cL_law 918 = .ok (.invokevirtual 89, 3) := by decide +kernel
theorem dL_law_921 : decode cL_law 921 = .ok (.bipush 7, 2) := by decide +kernel
theorem dL_law_923 : decode cL_law 923 = .ok (.if_icmp .le 85, 3) := by decide +kernel
theorem dL_law_926 : decode cL_law 926 = .ok (.aload_n 1, 1) := by decide +kernel
theorem dL_law_927 : decode cL_law 927 = .ok (.iload 17, 2) := by decide +kernel
theorem dL_law_929 : decode cL_law 929 = .ok (.bipush 100, 2) := by decide +kernel
theorem dL_law_931 : decode cL_law 931 = .ok (.idiv, 1) := by decide +kernel
theorem dL_law_932 : decode cL_law 932 = .ok (.iload 17, 2) := by decide +kernel
theorem dL_law_934 : decode cL_law 934 = .ok (.bipush 100, 2) := by decide +kernel
theorem dL_law_936 : decode cL_law 936 = .ok (.irem, 1) := by decide +kernel
theorem dL_law_937 : decode cL_law 937 = .ok (.invokevirtual 70, 3) := by decide +kernel
theorem dL_law_940 : decode cL_law 940 = .ok (.istore 20, 2) := by decide +kernel
theorem dL_law_942 : decode cL_law 942 = .ok (.aload_n 2, 1) := by decide +kernel
theorem dL_law_943 : decode cL_law 943 = .ok (.bipush 8, 2) := by decide +kernel
theorem dL_law_945 : decode cL_law 945 = .ok (.invokevirtual 56, 3) := by decide +kernel
theorem dL_law_948 : decode cL_law 948 = .ok (.aload_n 2, 1) := by decide +kernel
theorem dL_law_949 : decode cL_law 949 = .ok (.iload 17, 2) := by decide +kernel
theorem dL_law_951 : decode cL_law 951 = .ok (.bipush 100, 2) := by decide +kernel
theorem dL_law_953 : decode cL_law 953 = .ok (.idiv, 1) := by decide +kernel
theorem dL_law_954 : decode cL_law 954 = .ok (.invokevirtual 60, 3) := by decide +kernel
theorem dL_law_957 : decode cL_law 957 = .ok (.istore 21, 2) := by decide +kernel
theorem dL_law_959 : decode cL_law 959 = .ok (.aload_n 2, 1) := by decide +kernel
theorem dL_law_960 : decode cL_law 960 = .ok (.iload 17, 2) := by decide +kernel
theorem dL_law_962 : decode cL_law 962 = .ok (.bipush 100, 2) := by decide +kernel
theorem dL_law_964 : decode cL_law 964 = .ok (.idiv, 1) := by decide +kernel
theorem dL_law_965 : decode cL_law 965 = .ok (.aload_n 2, 1) := by decide +kernel
theorem dL_law_966 : decode cL_law 966 = .ok (.iload 17, 2) := by decide +kernel
theorem dL_law_968 : decode cL_law 968 = .ok (.bipush 100, 2) := by decide +kernel
theorem dL_law_970 : decode cL_law 970 = .ok (.irem, 1) := by decide +kernel
theorem dL_law_971 : decode cL_law 971 = .ok (.invokevirtual 60, 3) := by decide +kernel
theorem dL_law_974 : decode cL_law 974 = .ok (.invokevirtual 63, 3) := by decide +kernel
theorem dL_law_977 : decode cL_law 977 = .ok (.aload_n 2, 1) := by decide +kernel
theorem dL_law_978 : decode cL_law 978 = .ok (.iload 17, 2) := by decide +kernel
theorem dL_law_980 : decode cL_law 980 = .ok (.bipush 100, 2) := by decide +kernel
theorem dL_law_982 : decode cL_law 982 = .ok (.irem, 1) := by decide +kernel
theorem dL_law_983 : decode cL_law 983 = .ok (.iload 21, 2) := by decide +kernel
theorem dL_law_985 : decode cL_law 985 = .ok (.invokevirtual 63, 3) := by decide +kernel
theorem dL_law_988 : decode cL_law 988 = .ok (.iload 20, 2) := by decide +kernel
theorem dL_law_990 : decode cL_law 990 = .ok (.iconst 1, 1) := by decide +kernel
theorem dL_law_991 : decode cL_law 991 = .ok (.if_icmp .lt 15, 3) := by decide +kernel
theorem dL_law_994 : decode cL_law 994 = .ok (.aload_n 1, 1) := by decide +kernel
theorem dL_law_995 : decode cL_law 995 = .ok (.invokevirtual 108, 3) := by decide +kernel
theorem dL_law_998 : decode cL_law 998 = .ok (.iload 11, 2) := by decide +kernel
theorem dL_law_1000 : decode cL_law 1000 = .ok (.iload 20, 2) := by decide +kernel
theorem dL_law_1002 : decode cL_law 1002 = .ok (.iadd, 1) := by decide +kernel
theorem dL_law_1003 : decode cL_law 1003 = .ok (.if_icmp .eq 5, 3) := by decide +kernel
theorem dL_law_1006 : decode cL_law 1006 = .ok (.iconst 0, 1) := by decide +kernel
theorem dL_law_1007 : decode cL_law 1007 = .ok (.ireturn, 1) := by decide +kernel
theorem dL_law_1008 : decode cL_law 1008 = .ok (.iload 10, 2) := by decide +kernel
theorem dL_law_1010 : decode cL_law 1010 = .ok (.iconst 1, 1) := by decide +kernel
theorem dL_law_1011 : decode cL_law 1011 = .ok (.if_icmp .ne 8, 3) := by decide +kernel
theorem dL_law_1014 : decode cL_law 1014 = .ok (.iload 18, 2) := by decide +kernel
theorem dL_law_1016 : decode cL_law 1016 = .ok (.goto 23, 3) := by decide +kernel
theorem dL_law_1019 : decode cL_law 1019 = .ok (.iload 18, 2) := by decide +kernel
theorem dL_law_1021 : decode cL_law 1021 = .ok (.iconst 1, 1) := by decide +kernel
theorem dL_law_1022 : decode cL_law 1022 = .ok (.iadd, 1) := by decide +kernel
theorem dL_law_1023 : decode cL_law 1023 = .ok (.iload 4, 2) := by decide +kernel
theorem dL_law_1025 : decode cL_law 1025 = .ok (.bipush 6, 2) := by decide +kernel
theorem dL_law_1027 : decode cL_law 1027 = .ok (.ishr, 1) := by decide +kernel
theorem dL_law_1028 : decode cL_law 1028 = .ok (.iload 10, 2) := by decide +kernel
theorem dL_law_1030 : decode cL_law 1030 = .ok (.iconst 1, 1) := by decide +kernel
theorem dL_law_1031 : decode cL_law 1031 = .ok (.isub, 1) := by decide +kernel
theorem dL_law_1032 : decode cL_law 1032 = .ok (.invokestatic 15, 3) := by decide +kernel
theorem dL_law_1035 : decode cL_law 1035 = .ok (.iadd, 1) := by decide +kernel
theorem dL_law_1036 : decode cL_law 1036 = .ok (.iload 10, 2) := by decide +kernel
theorem dL_law_1038 : decode cL_law 1038 = .ok (.irem, 1) := by decide +kernel
theorem dL_law_1039 : decode cL_law 1039 = .ok (.istore 20, 2) := by decide +kernel
theorem dL_law_1041 : decode cL_law 1041 = .ok (.iload 20, 2) := by decide +kernel
theorem dL_law_1043 : decode cL_law 1043 = .ok (.iload 18, 2) := by decide +kernel
theorem dL_law_1045 : decode cL_law 1045 = .ok (.if_icmp .ne 7, 3) := by decide +kernel
theorem dL_law_1048 : decode cL_law 1048 = .ok (.iconst (-1), 1) := by decide +kernel
theorem dL_law_1049 : decode cL_law 1049 = .ok (.goto 11, 3) := by decide +kernel
theorem dL_law_1052 : decode cL_law 1052 = .ok (.aload_n 1, 1) := by decide +kernel
theorem dL_law_1053 : decode cL_law 1053 = .ok (.iload 18, 2) := by decide +kernel
theorem dL_law_1055 : decode cL_law 1055 = .ok (.iload 20, 2) := by decide +kernel
theorem dL_law_1057 : decode cL_law 1057 = .ok (.invokevirtual 126, 3) := by decide +kernel
theorem dL_law_1060 : decode cL_law 1060 = .ok (.istore 21, 2) := by decide +kernel
theorem dL_law_1062 : decode cL_law 1062 = .ok (.iconst 1, 1) := by decide +kernel
theorem dL_law_1063 : decode cL_law 1063 = .ok (.istore 22, 2) := by decide +kernel
theorem dL_law_1065 : decode cL_law 1065 = .ok (.iload 22, 2) := by decide +kernel
theorem dL_law_1067 : decode cL_law 1067 = .ok (.bipush 7, 2) := by decide +kernel
theorem dL_law_1069 : decode cL_law 1069 = .ok (.if_icmp .ge 125, 3) := by decide +kernel
theorem dL_law_1072 : decode cL_law 1072 = .ok (.aload_n 1, 1) := by decide +kernel
theorem dL_law_1073 : decode cL_law 1073 = .ok (.iconst 1, 1) := by decide +kernel
theorem dL_law_1074 : decode cL_law 1074 = .ok (.invokevirtual 139, 3) := by decide +kernel
theorem dL_law_1077 : decode cL_law 1077 = .ok (.istore 23, 2) := by decide +kernel
theorem dL_law_1079 : decode cL_law 1079 = .ok (.aload_n 1, 1) := by decide +kernel
theorem dL_law_1080 : decode cL_law 1080 = .ok (.invokevirtual 161, 3) := by decide +kernel
theorem dL_law_1083 : decode cL_law 1083 = .ok (.istore 24, 2) := by decide +kernel
theorem dL_law_1085 : decode cL_law 1085 = .ok (.aload_n 1, 1) := by decide +kernel
theorem dL_law_1086 : decode cL_law 1086 = .ok (.iconst 1, 1) := by decide +kernel
theorem dL_law_1087 : decode cL_law 1087 = .ok (.invokevirtual 36, 3) := by decide +kernel
theorem dL_law_1090 : decode cL_law 1090 = .ok (.iload 23, 2) := by decide +kernel
theorem dL_law_1092 : decode cL_law 1092 = .ok (.if_icmp .ne 34, 3) := by decide +kernel
theorem dL_law_1095 : decode cL_law 1095 = .ok (.aload_n 2, 1) := by decide +kernel
theorem dL_law_1096 : decode cL_law 1096 = .ok (.iconst 1, 1) := by decide +kernel
theorem dL_law_1097 : decode cL_law 1097 = .ok (.invokevirtual 40, 3) := by decide +kernel
theorem dL_law_1100 : decode cL_law 1100 = .ok (.iload 23, 2) := by decide +kernel
theorem dL_law_1102 : decode cL_law 1102 = .ok (.if_icmp .ne 24, 3) := by decide +kernel
theorem dL_law_1105 : decode cL_law 1105 = .ok (.aload_n 1, 1) := by decide +kernel
theorem dL_law_1106 : decode cL_law 1106 = .ok (.invokevirtual 161, 3) := by decide +kernel
theorem dL_law_1109 : decode cL_law 1109 = .ok (.iload 24, 2) := by decide +kernel
theorem dL_law_1111 : decode cL_law 1111 = .ok (.iload 23, 2) := by decide +kernel
theorem dL_law_1113 : decode cL_law 1113 = .ok (.iadd, 1) := by decide +kernel
theorem dL_law_1114 : decode cL_law 1114 = .ok (.if_icmp .ne 12, 3) := by decide +kernel
theorem dL_law_1117 : decode cL_law 1117 = .ok (.aload_n 1, 1) := by decide +kernel
theorem dL_law_1118 : decode cL_law 1118 = .ok (.invokevirtual 108, 3) := by decide +kernel
theorem dL_law_1121 : decode cL_law 1121 = .ok (.iload 23, 2) := by decide +kernel
theorem dL_law_1123 : decode cL_law 1123 = .ok (.if_icmp .eq 5, 3) := by decide +kernel
theorem dL_law_1126 : decode cL_law 1126 = .ok (.iconst 0, 1) := by decide +kernel
theorem dL_law_1127 : decode cL_law 1127 = .ok (.ireturn, 1) := by decide +kernel
theorem dL_law_1128 : decode cL_law 1128 = .ok (.iload 20, 2) := by decide +kernel
theorem dL_law_1130 : decode cL_law 1130 = .ok (.iload 18, 2) := by decide +kernel
theorem dL_law_1132 : decode cL_law 1132 = .ok (.if_icmp .eq 56, 3) := by decide +kernel
theorem dL_law_1135 : decode cL_law 1135 = .ok (.iload 21, 2) := by decide +kernel
theorem dL_law_1137 : decode cL_law 1137 = .ok (.ifCond .ge 14, 3) := by decide +kernel
theorem dL_law_1140 : decode cL_law 1140 = .ok (.aload_n 1, 1) := by decide +kernel
theorem dL_law_1141 : decode cL_law 1141 = .ok (.iload 18, 2) := by decide +kernel
theorem dL_law_1143 : decode cL_law 1143 = .ok (.iload 20, 2) := by decide +kernel
theorem dL_law_1145 : decode cL_law 1145 = .ok (.invokevirtual 129, 3) := by decide +kernel
theorem dL_law_1148 : decode cL_law 1148 = .ok (.ifCond .ne 38, 3) := by decide +kernel
theorem dL_law_1151 : decode cL_law 1151 = .ok (.iload 21, 2) := by decide +kernel
theorem dL_law_1153 : decode cL_law 1153 = .ok (.ifCond .le 35, 3) := by decide +kernel
theorem dL_law_1156 : decode cL_law 1156 = .ok (.iload 22, 2) := by decide +kernel
theorem dL_law_1158 : decode cL_law 1158 = .ok (.iload 21, 2) := by decide +kernel
theorem dL_law_1160 : decode cL_law 1160 = .ok (.if_icmp .gt 28, 3) := by decide +kernel
theorem dL_law_1163 : decode cL_law 1163 = .ok (.aload_n 1, 1) := by decide +kernel
theorem dL_law_1164 : decode cL_law 1164 = .ok (.iload 18, 2) := by decide +kernel
theorem dL_law_1166 : decode cL_law 1166 = .ok (.iload 20, 2) := by decide +kernel
theorem dL_law_1168 : decode cL_law 1168 = .ok (.invokevirtual 129, 3) := by decide +kernel
theorem dL_law_1171 : decode cL_law 1171 = .ok (.iload 22, 2) := by decide +kernel
theorem dL_law_1173 : decode cL_law 1173 = .ok (.iload 21, 2) := by decide +kernel
theorem dL_law_1175 : decode cL_law 1175 = .ok (.if_icmp .ne 7, 3) := by decide +kernel
theorem dL_law_1178 : decode cL_law 1178 = .ok (.iconst 1, 1) := by decide +kernel
theorem dL_law_1179 : decode cL_law 1179 = .ok (.goto 4, 3) := by decide +kernel
theorem dL_law_1182 : decode cL_law 1182 = .ok (.iconst 0, 1) := by decide +kernel
theorem dL_law_1183 : decode cL_law 1183 = .ok (.if_icmp .eq 5, 3) := by decide +kernel
theorem dL_law_1186 : decode cL_law 1186 = .ok (.iconst 0, 1) := by decide +kernel
theorem dL_law_1187 : decode cL_law 1187 = .ok (.ireturn, 1) := by decide +kernel
theorem dL_law_1188 : decode cL_law 1188 = .ok (.iinc 22 1, 3) := by decide +kernel
theorem dL_law_1191 : decode cL_law 1191 = .ok (.goto (-126), 3) := by decide +kernel
theorem dL_law_1194 : decode cL_law 1194 = .ok (.iinc 3 1, 3) := by decide +kernel
theorem dL_law_1197 : decode cL_law 1197 = .ok (.goto (-1175), 3) := by decide +kernel
theorem dL_law_1200 : decode cL_law 1200 = .ok (.aload_n 2, 1) := by decide +kernel
theorem dL_law_1201 : decode cL_law 1201 = .ok (.aload_n 1, 1) := by decide +kernel
theorem dL_law_1202 : decode cL_law 1202 = .ok (.invokevirtual 164, 3) := by decide +kernel
theorem dL_law_1205 : decode cL_law 1205 = .ok (.ireturn, 1) := by decide +kernel
end
