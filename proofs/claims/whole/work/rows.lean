section
-- ===== PART A: goes FIRST, ahead of the names: the tables' words, and 'selects' of the private methods out of them =====
/-- a private method of a class that the tables say can be made, by its rows of tables_1 -/
def lw_okq (q : MethodName × Nat) : Prop := (q.1.cls ≠ "java/lang/invoke/MethodHandle" ∧ q.1.cls ≠ "java/lang/invoke/VarHandle") ∧ Cond.instantiable q.1.cls q.2 ∈ tables_1 ∧ Cond.privateMethod q.1 ∈ tables_1 ∧ Cond.instanceMethod q.1 ∈ tables_1
theorem lw_p0 : lw_okq (⟨"TicketCoincidences", "townBehind", "(I)I"⟩, 9) := ⟨⟨by decide +kernel, by decide +kernel⟩, List.mem_of_getElem? (i := 11) (by decide +kernel), List.mem_of_getElem? (i := 72) (by decide +kernel), List.mem_of_getElem? (i := 73) (by decide +kernel)⟩
theorem lw_p1 : lw_okq (⟨"TicketCoincidences", "cornerBehind", "(II)I"⟩, 9) := ⟨⟨by decide +kernel, by decide +kernel⟩, List.mem_of_getElem? (i := 11) (by decide +kernel), List.mem_of_getElem? (i := 76) (by decide +kernel), List.mem_of_getElem? (i := 77) (by decide +kernel)⟩
theorem lw_p2 : lw_okq (⟨"TicketCoincidences", "pointsOfPair", "(II)I"⟩, 9) := ⟨⟨by decide +kernel, by decide +kernel⟩, List.mem_of_getElem? (i := 11) (by decide +kernel), List.mem_of_getElem? (i := 80) (by decide +kernel), List.mem_of_getElem? (i := 81) (by decide +kernel)⟩
theorem lw_p3 : lw_okq (⟨"TicketCoincidences", "townIfSwapped", "(II)I"⟩, 9) := ⟨⟨by decide +kernel, by decide +kernel⟩, List.mem_of_getElem? (i := 11) (by decide +kernel), List.mem_of_getElem? (i := 111) (by decide +kernel), List.mem_of_getElem? (i := 112) (by decide +kernel)⟩
theorem lw_p4 : lw_okq (⟨"TicketCoincidences", "luckNow", "(I)I"⟩, 9) := ⟨⟨by decide +kernel, by decide +kernel⟩, List.mem_of_getElem? (i := 11) (by decide +kernel), List.mem_of_getElem? (i := 122) (by decide +kernel), List.mem_of_getElem? (i := 123) (by decide +kernel)⟩
theorem lw_p5 : lw_okq (⟨"TicketCoincidences", "luckWith", "(III)I"⟩, 9) := ⟨⟨by decide +kernel, by decide +kernel⟩, List.mem_of_getElem? (i := 11) (by decide +kernel), List.mem_of_getElem? (i := 126) (by decide +kernel), List.mem_of_getElem? (i := 127) (by decide +kernel)⟩
theorem lw_p6 : lw_okq (⟨"java/lang/Throwable", "fillInStackTrace", "(I)Ljava/lang/Throwable;"⟩, 6) := ⟨⟨by decide +kernel, by decide +kernel⟩, List.mem_of_getElem? (i := 191) (by decide +kernel), List.mem_of_getElem? (i := 189) (by decide +kernel), List.mem_of_getElem? (i := 190) (by decide +kernel)⟩
theorem lw_p7 : lw_okq (⟨"TicketCoincidences", "crowdAt", "(I)I"⟩, 9) := ⟨⟨by decide +kernel, by decide +kernel⟩, List.mem_of_getElem? (i := 11) (by decide +kernel), List.mem_of_getElem? (i := 221) (by decide +kernel), List.mem_of_getElem? (i := 222) (by decide +kernel)⟩
theorem lw_p8 : lw_okq (⟨"TicketCoincidences", "requireStranger", "(I)V"⟩, 9) := ⟨⟨by decide +kernel, by decide +kernel⟩, List.mem_of_getElem? (i := 11) (by decide +kernel), List.mem_of_getElem? (i := 233) (by decide +kernel), List.mem_of_getElem? (i := 234) (by decide +kernel)⟩
theorem lw_p9 : lw_okq (⟨"TicketCoincidences", "pay", "(I)V"⟩, 9) := ⟨⟨by decide +kernel, by decide +kernel⟩, List.mem_of_getElem? (i := 11) (by decide +kernel), List.mem_of_getElem? (i := 311) (by decide +kernel), List.mem_of_getElem? (i := 312) (by decide +kernel)⟩
theorem lw_p10 : lw_okq (⟨"TicketCoincidences", "requirePair", "(II)V"⟩, 9) := ⟨⟨by decide +kernel, by decide +kernel⟩, List.mem_of_getElem? (i := 11) (by decide +kernel), List.mem_of_getElem? (i := 323) (by decide +kernel), List.mem_of_getElem? (i := 324) (by decide +kernel)⟩
theorem lw_p11 : lw_okq (⟨"TicketCoincidences", "passOneHour", "()V"⟩, 9) := ⟨⟨by decide +kernel, by decide +kernel⟩, List.mem_of_getElem? (i := 11) (by decide +kernel), List.mem_of_getElem? (i := 352) (by decide +kernel), List.mem_of_getElem? (i := 353) (by decide +kernel)⟩
theorem lw_p12 : lw_okq (⟨"TicketCoincidences", "emptyCorners", "()I"⟩, 9) := ⟨⟨by decide +kernel, by decide +kernel⟩, List.mem_of_getElem? (i := 11) (by decide +kernel), List.mem_of_getElem? (i := 356) (by decide +kernel), List.mem_of_getElem? (i := 357) (by decide +kernel)⟩
theorem lw_p13 : lw_okq (⟨"TicketCoincidencesModel", "no", "(I)I"⟩, 10) := ⟨⟨by decide +kernel, by decide +kernel⟩, List.mem_of_getElem? (i := 457) (by decide +kernel), List.mem_of_getElem? (i := 508) (by decide +kernel), List.mem_of_getElem? (i := 509) (by decide +kernel)⟩
theorem lw_p14 : lw_okq (⟨"TicketCoincidencesModel", "isOne", "(I)Z"⟩, 10) := ⟨⟨by decide +kernel, by decide +kernel⟩, List.mem_of_getElem? (i := 457) (by decide +kernel), List.mem_of_getElem? (i := 516) (by decide +kernel), List.mem_of_getElem? (i := 517) (by decide +kernel)⟩
theorem lw_p15 : lw_okq (⟨"TicketCoincidencesModel", "pay", "(I)I"⟩, 10) := ⟨⟨by decide +kernel, by decide +kernel⟩, List.mem_of_getElem? (i := 457) (by decide +kernel), List.mem_of_getElem? (i := 529) (by decide +kernel), List.mem_of_getElem? (i := 530) (by decide +kernel)⟩
def lw_privs_1 : List (MethodName × Nat) := [(⟨"TicketCoincidences", "townBehind", "(I)I"⟩, 9), (⟨"TicketCoincidences", "cornerBehind", "(II)I"⟩, 9), (⟨"TicketCoincidences", "pointsOfPair", "(II)I"⟩, 9), (⟨"TicketCoincidences", "townIfSwapped", "(II)I"⟩, 9), (⟨"TicketCoincidences", "luckNow", "(I)I"⟩, 9), (⟨"TicketCoincidences", "luckWith", "(III)I"⟩, 9), (⟨"java/lang/Throwable", "fillInStackTrace", "(I)Ljava/lang/Throwable;"⟩, 6), (⟨"TicketCoincidences", "crowdAt", "(I)I"⟩, 9), (⟨"TicketCoincidences", "requireStranger", "(I)V"⟩, 9), (⟨"TicketCoincidences", "pay", "(I)V"⟩, 9), (⟨"TicketCoincidences", "requirePair", "(II)V"⟩, 9), (⟨"TicketCoincidences", "passOneHour", "()V"⟩, 9), (⟨"TicketCoincidences", "emptyCorners", "()I"⟩, 9), (⟨"TicketCoincidencesModel", "no", "(I)I"⟩, 10), (⟨"TicketCoincidencesModel", "isOne", "(I)Z"⟩, 10), (⟨"TicketCoincidencesModel", "pay", "(I)I"⟩, 10)]
theorem lw_r1 : ∀ q ∈ lw_privs_1, lw_okq q := List.forall_mem_cons.mpr ⟨lw_p0, List.forall_mem_cons.mpr ⟨lw_p1, List.forall_mem_cons.mpr ⟨lw_p2, List.forall_mem_cons.mpr ⟨lw_p3, List.forall_mem_cons.mpr ⟨lw_p4, List.forall_mem_cons.mpr ⟨lw_p5, List.forall_mem_cons.mpr ⟨lw_p6, List.forall_mem_cons.mpr ⟨lw_p7, List.forall_mem_cons.mpr ⟨lw_p8, List.forall_mem_cons.mpr ⟨lw_p9, List.forall_mem_cons.mpr ⟨lw_p10, List.forall_mem_cons.mpr ⟨lw_p11, List.forall_mem_cons.mpr ⟨lw_p12, List.forall_mem_cons.mpr ⟨lw_p13, List.forall_mem_cons.mpr ⟨lw_p14, List.forall_mem_cons.mpr ⟨lw_p15, fun _ h => absurd h List.not_mem_nil⟩⟩⟩⟩⟩⟩⟩⟩⟩⟩⟩⟩⟩⟩⟩⟩
theorem lw_p16 : lw_okq (⟨"TicketCoincidencesModel", "wrongPair", "(II)I"⟩, 10) := ⟨⟨by decide +kernel, by decide +kernel⟩, List.mem_of_getElem? (i := 457) (by decide +kernel), List.mem_of_getElem? (i := 537) (by decide +kernel), List.mem_of_getElem? (i := 538) (by decide +kernel)⟩
theorem lw_p17 : lw_okq (⟨"TicketCoincidencesModel", "swapped", "([III)I"⟩, 10) := ⟨⟨by decide +kernel, by decide +kernel⟩, List.mem_of_getElem? (i := 457) (by decide +kernel), List.mem_of_getElem? (i := 541) (by decide +kernel), List.mem_of_getElem? (i := 542) (by decide +kernel)⟩
theorem lw_p18 : lw_okq (⟨"TicketCoincidencesModel", "here", "()I"⟩, 10) := ⟨⟨by decide +kernel, by decide +kernel⟩, List.mem_of_getElem? (i := 457) (by decide +kernel), List.mem_of_getElem? (i := 545) (by decide +kernel), List.mem_of_getElem? (i := 546) (by decide +kernel)⟩
theorem lw_p19 : lw_okq (⟨"TicketCoincidencesModel", "town", "(II)I"⟩, 10) := ⟨⟨by decide +kernel, by decide +kernel⟩, List.mem_of_getElem? (i := 457) (by decide +kernel), List.mem_of_getElem? (i := 549) (by decide +kernel), List.mem_of_getElem? (i := 550) (by decide +kernel)⟩
theorem lw_p20 : lw_okq (⟨"TicketCoincidencesModel", "cornerIn", "(II)I"⟩, 10) := ⟨⟨by decide +kernel, by decide +kernel⟩, List.mem_of_getElem? (i := 457) (by decide +kernel), List.mem_of_getElem? (i := 553) (by decide +kernel), List.mem_of_getElem? (i := 554) (by decide +kernel)⟩
theorem lw_p21 : lw_okq (⟨"TicketCoincidencesModel", "points", "(II)I"⟩, 10) := ⟨⟨by decide +kernel, by decide +kernel⟩, List.mem_of_getElem? (i := 457) (by decide +kernel), List.mem_of_getElem? (i := 557) (by decide +kernel), List.mem_of_getElem? (i := 558) (by decide +kernel)⟩
theorem lw_p22 : lw_okq (⟨"TicketCoincidencesModel", "goOn", "()V"⟩, 10) := ⟨⟨by decide +kernel, by decide +kernel⟩, List.mem_of_getElem? (i := 457) (by decide +kernel), List.mem_of_getElem? (i := 579) (by decide +kernel), List.mem_of_getElem? (i := 580) (by decide +kernel)⟩
theorem lw_p23 : lw_okq (⟨"TicketCoincidencesModel", "at", "(I)I"⟩, 10) := ⟨⟨by decide +kernel, by decide +kernel⟩, List.mem_of_getElem? (i := 457) (by decide +kernel), List.mem_of_getElem? (i := 583) (by decide +kernel), List.mem_of_getElem? (i := 584) (by decide +kernel)⟩
theorem lw_p24 : lw_okq (⟨"TicketCoincidencesModel", "ok", "(I)I"⟩, 10) := ⟨⟨by decide +kernel, by decide +kernel⟩, List.mem_of_getElem? (i := 457) (by decide +kernel), List.mem_of_getElem? (i := 591) (by decide +kernel), List.mem_of_getElem? (i := 592) (by decide +kernel)⟩
theorem lw_p25 : lw_okq (⟨"TicketCoincidencesModel", "of", "(I[I)I"⟩, 10) := ⟨⟨by decide +kernel, by decide +kernel⟩, List.mem_of_getElem? (i := 457) (by decide +kernel), List.mem_of_getElem? (i := 615) (by decide +kernel), List.mem_of_getElem? (i := 616) (by decide +kernel)⟩
theorem lw_p26 : lw_okq (⟨"TicketCoincidencesModel", "luck", "(I)I"⟩, 10) := ⟨⟨by decide +kernel, by decide +kernel⟩, List.mem_of_getElem? (i := 457) (by decide +kernel), List.mem_of_getElem? (i := 659) (by decide +kernel), List.mem_of_getElem? (i := 660) (by decide +kernel)⟩
theorem lw_p27 : lw_okq (⟨"TicketCoincidencesModel", "luckiest", "()I"⟩, 10) := ⟨⟨by decide +kernel, by decide +kernel⟩, List.mem_of_getElem? (i := 457) (by decide +kernel), List.mem_of_getElem? (i := 667) (by decide +kernel), List.mem_of_getElem? (i := 668) (by decide +kernel)⟩
theorem lw_p28 : lw_okq (⟨"TicketCoincidencesModel", "untilTogether", "(II)I"⟩, 10) := ⟨⟨by decide +kernel, by decide +kernel⟩, List.mem_of_getElem? (i := 457) (by decide +kernel), List.mem_of_getElem? (i := 679) (by decide +kernel), List.mem_of_getElem? (i := 680) (by decide +kernel)⟩
theorem lw_p29 : lw_okq (⟨"TicketCoincidencesModel", "hourOfMost", "()I"⟩, 10) := ⟨⟨by decide +kernel, by decide +kernel⟩, List.mem_of_getElem? (i := 457) (by decide +kernel), List.mem_of_getElem? (i := 691) (by decide +kernel), List.mem_of_getElem? (i := 692) (by decide +kernel)⟩
theorem lw_p30 : lw_okq (⟨"TicketCoincidencesModel", "bestOf", "([III)I"⟩, 10) := ⟨⟨by decide +kernel, by decide +kernel⟩, List.mem_of_getElem? (i := 457) (by decide +kernel), List.mem_of_getElem? (i := 699) (by decide +kernel), List.mem_of_getElem? (i := 700) (by decide +kernel)⟩
theorem lw_p31 : lw_okq (⟨"TicketCoincidencesModel", "swapOfMost", "()I"⟩, 10) := ⟨⟨by decide +kernel, by decide +kernel⟩, List.mem_of_getElem? (i := 457) (by decide +kernel), List.mem_of_getElem? (i := 707) (by decide +kernel), List.mem_of_getElem? (i := 708) (by decide +kernel)⟩
def lw_privs_2 : List (MethodName × Nat) := [(⟨"TicketCoincidencesModel", "wrongPair", "(II)I"⟩, 10), (⟨"TicketCoincidencesModel", "swapped", "([III)I"⟩, 10), (⟨"TicketCoincidencesModel", "here", "()I"⟩, 10), (⟨"TicketCoincidencesModel", "town", "(II)I"⟩, 10), (⟨"TicketCoincidencesModel", "cornerIn", "(II)I"⟩, 10), (⟨"TicketCoincidencesModel", "points", "(II)I"⟩, 10), (⟨"TicketCoincidencesModel", "goOn", "()V"⟩, 10), (⟨"TicketCoincidencesModel", "at", "(I)I"⟩, 10), (⟨"TicketCoincidencesModel", "ok", "(I)I"⟩, 10), (⟨"TicketCoincidencesModel", "of", "(I[I)I"⟩, 10), (⟨"TicketCoincidencesModel", "luck", "(I)I"⟩, 10), (⟨"TicketCoincidencesModel", "luckiest", "()I"⟩, 10), (⟨"TicketCoincidencesModel", "untilTogether", "(II)I"⟩, 10), (⟨"TicketCoincidencesModel", "hourOfMost", "()I"⟩, 10), (⟨"TicketCoincidencesModel", "bestOf", "([III)I"⟩, 10), (⟨"TicketCoincidencesModel", "swapOfMost", "()I"⟩, 10)]
theorem lw_r2 : ∀ q ∈ lw_privs_2, lw_okq q := List.forall_mem_cons.mpr ⟨lw_p16, List.forall_mem_cons.mpr ⟨lw_p17, List.forall_mem_cons.mpr ⟨lw_p18, List.forall_mem_cons.mpr ⟨lw_p19, List.forall_mem_cons.mpr ⟨lw_p20, List.forall_mem_cons.mpr ⟨lw_p21, List.forall_mem_cons.mpr ⟨lw_p22, List.forall_mem_cons.mpr ⟨lw_p23, List.forall_mem_cons.mpr ⟨lw_p24, List.forall_mem_cons.mpr ⟨lw_p25, List.forall_mem_cons.mpr ⟨lw_p26, List.forall_mem_cons.mpr ⟨lw_p27, List.forall_mem_cons.mpr ⟨lw_p28, List.forall_mem_cons.mpr ⟨lw_p29, List.forall_mem_cons.mpr ⟨lw_p30, List.forall_mem_cons.mpr ⟨lw_p31, fun _ h => absurd h List.not_mem_nil⟩⟩⟩⟩⟩⟩⟩⟩⟩⟩⟩⟩⟩⟩⟩⟩
def lw_privs : List (MethodName × Nat) := lw_privs_1 ++ (lw_privs_2)
def lw_tbl : List Cond := k2_sels lw_privs ++ tables_1
theorem lw_privs_ok : ∀ q ∈ lw_privs, lw_okq q := by
  show ∀ q ∈ lw_privs_1 ++ (lw_privs_2), lw_okq q
  exact List.forall_mem_append.mpr ⟨lw_r1, lw_r2⟩
/-- the streams that the claim lets the run draw from -/
abbrev lw_cs : List Choice := [Jvm.Choice.named "NaN.bits"]
theorem lw_bits : nanBits ∈ lw_cs := by first | decide | exact List.mem_cons_self | simp [lw_cs, nanBits]
end
section
/-! ===== BEGIN words of one list among another's, by their places ===== -/
theorem goodIn_r {big : List Cond} (ws : List Cond) (ps : List Nat) (hp : ws = ps.filterMap (fun i => big[i]?)) (h : ws.all goodWord = true) : GoodIn big ws := by
  intro w hw
  have h1 := List.all_eq_true.mp h w hw
  rw [hp] at hw
  obtain ⟨i, -, hi⟩ := List.mem_filterMap.mp hw
  have hm : w ∈ big := by first | exact List.mem_of_getElem? hi | exact List.getElem?_mem hi
  exact ⟨hm, good_of_word h1⟩
theorem goodIn_app {big a b : List Cond} (ha : GoodIn big a) (hb : GoodIn big b) : GoodIn big (a ++ b) := fun w h => (List.mem_append.mp h).elim (ha w) (hb w)
theorem goodIn_ca {big a b : List Cond} {c : Cond} (ha : GoodIn big (c :: a)) (hb : GoodIn big b) : GoodIn big (c :: (a ++ b)) := fun w h => (List.mem_cons.mp h).elim (fun e => ha w (List.mem_cons.mpr (Or.inl e))) (fun h => (List.mem_append.mp h).elim (fun h => ha w (List.mem_cons.mpr (Or.inr h))) (hb w))
theorem goodIn_sub {big ws : List Cond} (hm : ∀ w ∈ ws, w ∈ big) (h : ws.all goodWord = true) : GoodIn big ws := fun w hw => ⟨hm w hw, good_of_word (List.all_eq_true.mp h w hw)⟩
/-! ===== END ===== -/

/-! ===== BEGIN exceptions that leave a method, and their catching by the caller (launches without stack traces) ===== -/
section VXA
/-! The laws vx_back, vx_callV, vx_callS, vx_callSW, vx_throw0, vx_throwS follow proofs of the library, with one case more: JvmDerived/Free/Laws.lean (Back.of_free), Shelf42/LK1.lean (callV, callS), Shelf/KitTraced.lean (throwNew0V, throwNewS). -/
/-- where a method has thrown q: the class by its name, the cell, what was written, the world -/
def vx_T (XC : String → State → State → Prop) (st : State) (q : Addr) (t : State) (mc ms : Nat) (free : Addr → Prop) : Prop :=
  ∃ (E : String) (ce : Cell) (L : List Loc), XC E st t ∧ t.heap[q]? = some ce ∧ ce.vm = .none ∧ st.vm.findClass E = some ce.cls ∧ st.WarmedH t.vm ∧ st.sameButNew ({ t with vm := st.vm } : State) L mc ms ∧ ∀ z ∈ L, free z.base
def vx_Q (Qc : Array Value → State → Outcome → State → Prop) (XC : String → State → State → Prop) (mc ms : Nat) (free : Addr → Prop) : Array Value → State → Outcome → State → Prop := fun a st o t =>
  (Qc a st o t ∧ ∃ L, FrameEnd st o t L mc ms ∧ ∀ q ∈ L, free q.base) ∨ ∃ q, o = .threw q ∧ vx_T XC st q t mc ms free
/-- a callee that returns or throws -/
def vx_Met (l : Launch) (y : MethodName) (ws : List Cond) (rm : Room) (Pc : Array Value → State → Prop) (Qc : Array Value → State → Outcome → State → Prop) (XC : String → State → State → Prop) (mc ms : Nat) (free : Addr → Prop) : Prop :=
  MetFree l y (headSpec ws rm) Pc (fun _ _ _ _ _ => True) (vx_Q Qc XC mc ms free)
def vx_Post (XC : String → State → State → Prop) (mc ms : Nat) (free : Addr → Prop) : Pt → Array Value → Addr → Pt → Prop := fun A a q B =>
  ∃ (g : JFrame) (mk : MethodId) (t : State) (L : List Loc) (E : String) (ce : Cell), B.U.heap = t.heap ∧ B.U.vm = t.vm ∧ XC E (A.U.calling g mk a) t ∧ t.heap[q]? = some ce ∧ ce.vm = .none ∧ A.U.vm.findClass E = some ce.cls ∧ B.locs = A.locs ++ L ∧ (∀ z ∈ L, free z.base) ∧ B.cells = A.cells + mc ∧ B.slots = A.slots + ms
def vx_Back (l : Launch) (R : Room) (p : Program) (e : Env) (below : List Frame) (s : State) (sargs : Array Value) (y : MethodName) (len W9 : Nat)
    (Pre : Pt → Array Value → Prop) (Post : Pt → Array Value → Option Value → Pt → Prop) (PostX : Pt → Array Value → Addr → Pt → Prop) : Prop :=
  ∀ (m : MethodId) (meth : Method) (c : Code) (A : Pt) (g : JFrame) (ig : Instr) (mk : MethodId) (a : Array Value),
    Stand p l e R s m sargs below meth c A.U A.locs A.cells A.slots → g.method = m → g.locals.size = c.maxLocals → decode c.code g.pc = .ok (ig, len) →
    2 * g.monitorRoom + (g.stack.map fun v => v.category).sum ≤ W9 → A.U.methodNamed? y = some mk → Pre A a →
    (∃ (v : Option Value) (B : Pt), Stand p l e R s m sargs below meth c B.U B.locs B.cells B.slots ∧ Post A a v B ∧
      Steps p.tables e below (doInvoke e (A.U.setTop g) [] mk a).1 (B.U.setTop { g with pc := g.pc + len, stack := v.toList ++ g.stack })) ∨
    (∃ (q : Addr) (B : Pt), Stand p l e R s m sargs below meth c B.U B.locs B.cells B.slots ∧ PostX A a q B ∧
      Steps p.tables e below (doInvoke e (A.U.setTop g) [] mk a).1 ((B.U.setTop g).pushFrame (.throwing q)))
section Payer
variable {l : Launch} {R : Room} {p : Program} {e : Env} {below : List Frame} {s : State} {sargs : Array Value} {y : MethodName} {len W9 : Nat}
theorem vx_back {ws : List Cond} {rm : Room} {Pc : Array Value → State → Prop} {Qc : Array Value → State → Outcome → State → Prop} {XC : String → State → State → Prop} {mc ms : Nat} {free : Addr → Prop} {bytes : ByteArray} {maxL : Nat} {ret : Option FieldType}
    (hM : vx_Met l y ws rm Pc Qc XC mc ms free) (hblind : FrameBlind Pc) (hrc : rm.cells = mc) (hrs : rm.slots = ms)
    (hframes : rm.frames + 1 ≤ R.frames) (hlocals : W9 + (maxL + 11) + rm.locals ≤ R.locals)
    (hws : ∀ w ∈ ws, ∀ a' U, s.WarmedH U.vm → w.before a' U = true) (hcode : Cond.code y bytes maxL ret ∈ ws) (hinit : ∀ a' U, s.WarmedH U.vm → (Cond.initialized y.cls).before a' U = true) :
    vx_Back l R p e below s sargs y len W9 (PreOf R mc ms Pc) (PostOf Qc mc ms free) (vx_Post XC mc ms free) := by
  intro m meth c A g ig mk a X hg hsize hdg hW hn hp
  have h1 : (headSpec ws rm).pre.before a A.U = true := atoms_intro fun w hw => hws w hw _ _ X.warmed
  have h2 : (Cond.code y bytes maxL ret).before a A.U = true := hws _ hcode _ _ X.warmed
  have h3 : (Cond.initialized y.cls).before a A.U = true := hinit _ _ X.warmed
  have h4 : A.cells + (headSpec ws rm).room.cells ≤ R.cells := by rw [show (headSpec ws rm).room.cells = mc from hrc]; exact hp.1
  have h5 : A.slots + (headSpec ws rm).room.slots ≤ R.slots := by rw [show (headSpec ws rm).room.slots = ms from hrs]; exact hp.2.1
  have hPc : Pc a (A.U.calling g mk a) := hblind _ _ _ _ hp.2.2
  obtain ⟨U, Ls, c0, s0⟩ := A
  dsimp only [Pt.U, Pt.locs, Pt.cells, Pt.slots] at h1 h2 h3 h4 h5 X hn hPc ⊢
  obtain ⟨methY, cY, hmY, hcY, -, hlY, -, -, -, -⟩ := Cond.code_spec hn h2
  obtain ⟨kY, hkY, -⟩ := className_of_methodNamed hn
  have hinitY : kY.init = .initialized := Cond.initialized_spec (findClass_of_methodNamed hn) hkY h3
  have h : At U g.method c below := by rw [hg]; exact X.here
  have hlocals9 : W9 + (maxL + 11) + (headSpec ws rm).room.locals ≤ R.locals := hlocals
  have happ : (headSpec ws rm).appliesLoose y e.platform (U.calling g mk a) = true :=
    Spec.appliesLoose_calling (g := g) h hdg hn hkY hinitY
      (X.room_calling (g := g) (R' := (headSpec ws rm).room) hsize hmY hcY hframes (by rw [hlY]; omega) h4 h5) h1
  obtain ⟨mid, hmid⟩ := h.above
  have hfr : (U.setTop g).frames = (.java g :: mid) ++ below := by rw [State.frames_setTop' g h.top, hmid]; rfl
  obtain ⟨o, s₂, hsteps, -, hend, hq⟩ := Steps.callFree hM p X.admits X.cas X.clock (acts := []) hfr happ hPc trivial
  have hq' : vx_Q Qc XC mc ms free a (U.calling g mk a) o s₂ := hq
  rw [State.frames_setTop' g h.top] at hend
  obtain ⟨g₀, hg0⟩ := Option.isSome_iff_exists.mp h.top
  obtain ⟨r, hr⟩ := State.topJava?_eq_some.mp hg0
  have hr' : (({ U with heap := s₂.heap, slotsUsed := s₂.slotsUsed } : State).setVm s₂.vm).frames = .java g₀ :: r := hr
  rcases hq' with ⟨hqc, L, hfe, hL⟩ | ⟨q, rfl, E, ce, L, hx, hce, hcv, hcl, hW₂, hsm, hL⟩
  · obtain ⟨⟨v, rfl⟩, hW₂, e2, q2, q3, q4, q5, q6⟩ := id hfe
    have e3 : s₂ = ({ (U.calling g mk a).setFrames s₂.frames with heap := s₂.heap, slotsUsed := s₂.slotsUsed } : State).setVm s₂.vm := by
      have : s₂ = ({ s₂ with vm := (U.calling g mk a).vm } : State).setVm s₂.vm := rfl
      rw [e2] at this
      exact this
    obtain ⟨c₂, i₂, len₂, hc₂, hd₂, hf₂⟩ := hend
    have hW' : U.WarmedH s₂.vm := hW₂
    have hcc : c₂ = c := by
      have h1 : s₂.code? g.method = U.code? g.method := by
        rw [State.code?_eq, State.code?_eq, hW'.alike.method?]
      exact Option.some.inj (hc₂.symm.trans (h1.trans h.code))
    subst hcc
    have hlen : len₂ = len := by rw [hdg] at hd₂; cases hd₂; rfl
    subst hlen
    have hs₂ : s₂ = (({ U with heap := s₂.heap, slotsUsed := s₂.slotsUsed } : State).setVm s₂.vm).setTop { g with pc := g.pc + len₂, stack := v.toList ++ g.stack } := by
      refine e3.trans ?_
      rw [hf₂, State.calling_eq h.top, State.setFrames_setFrames, State.setTop_of_frames _ hr', hr]
      rfl
    have hsame : U.sameButNew ({ U with heap := s₂.heap, slotsUsed := s₂.slotsUsed } : State) L mc ms := by
      refine ⟨?_, q2, q3, q4, q5, q6⟩
      obtain ⟨t, ht, -⟩ := State.frames_cons hr
      show ({ U with heap := s₂.heap, slotsUsed := s₂.slotsUsed } : State) = { U.setFrames U.frames with heap := s₂.heap, slotsUsed := s₂.slotsUsed }
      rw [State.setFrames_self ht]
    subst hg
    refine Or.inl ⟨v, ⟨(({ U with heap := s₂.heap, slotsUsed := s₂.slotsUsed } : State).setVm s₂.vm), Ls ++ L, c0 + mc, s0 + ms⟩,
      ⟨X.admits, X.cas, X.clock, X.frames, X.room, X.hears, X.method, X.code, (X.here.setHeapUsed s₂.heap s₂.slotsUsed).setVm hW'.alike, X.tail, State.WarmedH.trans X.warmed hW', X.limits, X.bytes, X.same.trans (hsame.setVm s.vm)⟩,
      ⟨g, mk, s₂, L, rfl, rfl, hqc, rfl, hL, rfl, rfl⟩, ?_⟩
    show Steps p.tables e below _ ((({ U with heap := s₂.heap, slotsUsed := s₂.slotsUsed } : State).setVm s₂.vm).setTop { g with pc := g.pc + len₂, stack := v.toList ++ g.stack })
    rw [← hs₂]
    exact hsteps
  · obtain ⟨e2, q2, q3, q4, q5, q6⟩ := id hsm
    have e3 : s₂ = ({ (U.calling g mk a).setFrames s₂.frames with heap := s₂.heap, slotsUsed := s₂.slotsUsed } : State).setVm s₂.vm := by
      have : s₂ = ({ s₂ with vm := (U.calling g mk a).vm } : State).setVm s₂.vm := rfl
      rw [e2] at this
      exact this
    have hf₂ : s₂.frames = .throwing q :: .java g :: U.frames.tail := hend
    have hW' : U.WarmedH s₂.vm := hW₂
    have hs₂ : s₂ = ((({ U with heap := s₂.heap, slotsUsed := s₂.slotsUsed } : State).setVm s₂.vm).setTop g).pushFrame (.throwing q) := by
      refine e3.trans ?_
      rw [hf₂, State.calling_eq h.top, State.setFrames_setFrames, State.pushFrame, State.frames_setTop _ hr', State.setTop_of_frames _ hr', State.setFrames_setFrames, hr]
      rfl
    have hsame : U.sameButNew ({ U with heap := s₂.heap, slotsUsed := s₂.slotsUsed } : State) L mc ms := by
      refine ⟨?_, q2, q3, q4, q5, q6⟩
      obtain ⟨t, ht, -⟩ := State.frames_cons hr
      show ({ U with heap := s₂.heap, slotsUsed := s₂.slotsUsed } : State) = { U.setFrames U.frames with heap := s₂.heap, slotsUsed := s₂.slotsUsed }
      rw [State.setFrames_self ht]
    subst hg
    refine Or.inr ⟨q, ⟨(({ U with heap := s₂.heap, slotsUsed := s₂.slotsUsed } : State).setVm s₂.vm), Ls ++ L, c0 + mc, s0 + ms⟩,
      ⟨X.admits, X.cas, X.clock, X.frames, X.room, X.hears, X.method, X.code, (X.here.setHeapUsed s₂.heap s₂.slotsUsed).setVm hW'.alike, X.tail, State.WarmedH.trans X.warmed hW', X.limits, X.bytes, X.same.trans (hsame.setVm s.vm)⟩,
      ⟨g, mk, s₂, L, E, ce, rfl, rfl, hx, hce, hcv, hcl, rfl, hL, rfl, rfl⟩, ?_⟩
    show Steps p.tables e below _ (((({ U with heap := s₂.heap, slotsUsed := s₂.slotsUsed } : State).setVm s₂.vm).setTop g).pushFrame (.throwing q))
    rw [← hs₂]
    exact hsteps
end Payer
section Calls
variable {p : Program} {l : Launch} {e : Env} {R : Room} {s : State} {m : MethodId} {args : Array Value} {below : List Frame} {meth : Method} {c : Code} {T : State} {locs : List Loc} {cells slots : Nat}
theorem vx_callV (X : Stand p l e R s m args below meth c T locs cells slots) (hexec : p.tables.exec = Jvm.exec) {own C : String} {index : Nat} {y : MethodName} {bytes : ByteArray} {maxL : Nat} {ret : Option FieldType}
    (hown : s.vm.findClass own = some m.cls) (hlink : (Cond.methodLink own index y).before args s = true) (hinst : (Cond.instanceMethod y).before args s = true) (hsel : (Cond.selects C y y).before args s = true)
    (hcode : (Cond.code y bytes maxL ret).before args s = true) (hy : y.cls ≠ "java/lang/invoke/MethodHandle" ∧ y.cls ≠ "java/lang/invoke/VarHandle")
    {W9 : Nat} {Pre : Pt → Array Value → Prop} {Post : Pt → Array Value → Option Value → Pt → Prop} {PostX : Pt → Array Value → Addr → Pt → Prop} (hK : vx_Back l R p e below s args y 3 W9 Pre Post PostX)
    {b : Addr} {cellB : Cell} (hcell : T.heap[b]? = some cellB) (hobj : cellB.vm.isStatics = false) (hcls : s.vm.findClass C = some cellB.cls)
    {g : JFrame} (hg : g.method = m) (hsize : g.locals.size = c.maxLocals) {argsL rest : List Value} (hlen : ∀ sig, parseMethodDescriptor y.desc = some sig → argsL.length = sig.parameters.length)
    (hstack : g.stack = argsL.reverse ++ .ref b :: rest) (hW : 2 * g.monitorRoom + (rest.map fun v => v.category).sum ≤ W9) (hdg : decode c.code g.pc = .ok (.invokevirtual index, 3))
    (hpre : ∀ vm₁, s.WarmedH vm₁ → Pre ⟨T.setVm vm₁, locs, cells, slots⟩ (Value.ref b :: argsL).toArray) :
    (∃ (v : Option Value) (vm₁ : Vm) (B : Pt), s.WarmedH vm₁ ∧ Stand p l e R s m args below meth c B.U B.locs B.cells B.slots ∧ Post ⟨T.setVm vm₁, locs, cells, slots⟩ (Value.ref b :: argsL).toArray v B ∧
      ∀ target, Steps p.tables e below (B.U.setTop { g with pc := g.pc + 3, stack := v.toList ++ rest }) target → Steps p.tables e below (T.setTop g) target) ∨
    (∃ (q : Addr) (vm₁ : Vm) (B : Pt), s.WarmedH vm₁ ∧ Stand p l e R s m args below meth c B.U B.locs B.cells B.slots ∧ PostX ⟨T.setVm vm₁, locs, cells, slots⟩ (Value.ref b :: argsL).toArray q B ∧
      Steps p.tables e below (T.setTop g) ((B.U.setTop { g with stack := rest }).pushFrame (.throwing q))) := by
  obtain ⟨mk, methM, hnamed, hmethM, hstM, habM⟩ := Cond.instanceMethod_spec hinst
  obtain ⟨methM', cM, hmethM', -, -, -, -, -, -, hsigM⟩ := Cond.code_spec hnamed hcode
  cases hmethM.symm.trans hmethM'
  obtain ⟨c2, r2, m2, q1, q2, q3, q4, kP, hkP, hkPi⟩ := Cond.selects_spec hsel
  cases hcls.symm.trans q1
  cases (State.methodFound?_of_named hnamed hy).symm.trans q2
  cases hnamed.symm.trans q3
  have hselP : selectMethod e.platform s.vm cellB.cls mk = .method mk := by rw [Launch.admits_selectMethod X.admits]; exact q4
  obtain ⟨vm₁, X₁, hstep₁⟩ := X.invokevirtual hexec hown hlink hnamed hmethM hstM hkP hkPi hy (a := b) (cell := cellB) hcell
    (fun z h => by rw [h] at hobj; cases hobj) hselP hmethM habM hkP hkPi (g := g) hg (argsL := argsL) (rest := rest) (hlen _ hsigM) hstack hdg
  rcases hK m meth c ⟨T.setVm vm₁, locs, cells, slots⟩ { g with stack := rest } (.invokevirtual index) mk (Value.ref b :: argsL).toArray X₁ hg hsize hdg hW (X₁.named hnamed) (hpre vm₁ X₁.warmed) with ⟨v, B, X', hpost, hsteps⟩ | ⟨q, B, X', hpost, hsteps⟩
  · exact Or.inl ⟨v, vm₁, B, X₁.warmed, X', hpost, fun target h => hstep₁ _ fun acts => by rw [doInvoke_state]; exact hsteps.trans h⟩
  · exact Or.inr ⟨q, vm₁, B, X₁.warmed, X', hpost, hstep₁ _ fun acts => by rw [doInvoke_state]; exact hsteps⟩
theorem vx_callS (X : Stand p l e R s m args below meth c T locs cells slots) (hexec : p.tables.exec = Jvm.exec) {own : String} {index : Nat} {y : MethodName} {bytes : ByteArray} {maxL : Nat} {ret : Option FieldType}
    (hown : s.vm.findClass own = some m.cls) (hlink : (Cond.methodLink own index y).before args s = true) (hstat : (Cond.static y).before args s = true) (hinit : (Cond.initialized y.cls).before args s = true)
    (hcode : (Cond.code y bytes maxL ret).before args s = true) (hy : y.cls ≠ "java/lang/invoke/MethodHandle" ∧ y.cls ≠ "java/lang/invoke/VarHandle")
    {W9 : Nat} {Pre : Pt → Array Value → Prop} {Post : Pt → Array Value → Option Value → Pt → Prop} {PostX : Pt → Array Value → Addr → Pt → Prop} (hK : vx_Back l R p e below s args y 3 W9 Pre Post PostX)
    {g : JFrame} (hg : g.method = m) (hsize : g.locals.size = c.maxLocals) {argsL rest : List Value} (hlen : ∀ sig, parseMethodDescriptor y.desc = some sig → argsL.length = sig.parameters.length)
    (hstack : g.stack = argsL.reverse ++ rest) (hW : 2 * g.monitorRoom + (rest.map fun v => v.category).sum ≤ W9) (hdg : decode c.code g.pc = .ok (.invokestatic index, 3))
    (hpre : ∀ vm₁, s.WarmedH vm₁ → Pre ⟨T.setVm vm₁, locs, cells, slots⟩ argsL.toArray) :
    (∃ (v : Option Value) (vm₁ : Vm) (B : Pt), s.WarmedH vm₁ ∧ Stand p l e R s m args below meth c B.U B.locs B.cells B.slots ∧ Post ⟨T.setVm vm₁, locs, cells, slots⟩ argsL.toArray v B ∧
      ∀ target, Steps p.tables e below (B.U.setTop { g with pc := g.pc + 3, stack := v.toList ++ rest }) target → Steps p.tables e below (T.setTop g) target) ∨
    (∃ (q : Addr) (vm₁ : Vm) (B : Pt), s.WarmedH vm₁ ∧ Stand p l e R s m args below meth c B.U B.locs B.cells B.slots ∧ PostX ⟨T.setVm vm₁, locs, cells, slots⟩ argsL.toArray q B ∧
      Steps p.tables e below (T.setTop g) ((B.U.setTop { g with stack := rest }).pushFrame (.throwing q))) := by
  obtain ⟨mk, hnamed⟩ := Cond.code_named hcode
  obtain ⟨methM, cM, hmethM, -, -, -, -, -, -, hsigM⟩ := Cond.code_spec hnamed hcode
  have hstatic : methM.isStatic = true := Cond.static_spec hnamed hmethM hstat
  obtain ⟨kP, hkP, -⟩ := className_of_methodNamed hnamed
  have hinitP : kP.init = .initialized := Cond.initialized_spec (findClass_of_methodNamed hnamed) hkP hinit
  obtain ⟨vm₁, X₁, hstep₁⟩ := X.invokestatic hexec hown hlink hnamed hmethM hstatic hkP hinitP hy (g := g) hg (argsL := argsL) (rest := rest) (hlen _ hsigM) hstack hdg
  rcases hK m meth c ⟨T.setVm vm₁, locs, cells, slots⟩ { g with stack := rest } (.invokestatic index) mk argsL.toArray X₁ hg hsize hdg hW (X₁.named hnamed) (hpre vm₁ X₁.warmed) with ⟨v, B, X', hpost, hsteps⟩ | ⟨q, B, X', hpost, hsteps⟩
  · exact Or.inl ⟨v, vm₁, B, X₁.warmed, X', hpost, fun target h => hstep₁ _ fun acts => by rw [doInvoke_state]; exact hsteps.trans h⟩
  · exact Or.inr ⟨q, vm₁, B, X₁.warmed, X', hpost, hstep₁ _ fun acts => by rw [doInvoke_state]; exact hsteps⟩
end Calls
theorem vx_cls {s : State} {T : State} {vm₁ : Vm} {E : String} {k : ClassId} (hW : s.WarmedH vm₁) (h : (T.setVm vm₁).vm.findClass E = some k) : s.vm.findClass E = some k := by
  have h1 : vm₁.findClass E = some k := h
  rw [hW.alike.findClass] at h1
  exact h1
/-- the method's frame g, with q thrown over it -/
def vx_W (p : Program) (l : Launch) (e : Env) (R : Room) (s : State) (m : MethodId) (args : Array Value) (below : List Frame) (meth : Method) (c : Code) (H : Heap) (locs : List Loc) (cells slots : Nat) (Q : State → Prop) (g : JFrame) (q : Addr) : Prop :=
  ∀ T : State, T.heap = H → Stand p l e R s m args below meth c T locs cells slots → ∃ t, Steps p.tables e below ((T.setTop g).pushFrame (.throwing q)) t ∧ Q t
def vx_Run (p : Program) (l : Launch) (e : Env) (R : Room) (s : State) (m : MethodId) (args : Array Value) (below : List Frame) (meth : Method) (c : Code) (H : Heap) (locs : List Loc) (cells slots mc ms : Nat) (g : JFrame) (rest : List Value) (Qa : State → Outcome → State → Prop) (XC : String → State → State → Prop) (free : Addr → Prop) : Prop :=
  ∀ T : State, T.heap = H → Stand p l e R s m args below meth c T locs cells slots →
    (∃ (v : Option Value) (st₀ t T' : State) (L : List Loc), st₀.heap = H ∧ Stand p l e R s m args below meth c T' (locs ++ L) (cells + mc) (slots + ms) ∧ (∀ q ∈ L, free q.base) ∧ T'.heap = t.heap ∧ T'.vm = t.vm ∧ Qa st₀ (.returned v) t ∧
      Goes p e below T g T' { g with pc := g.pc + 3, stack := v.toList ++ rest }) ∨
    (∃ (q : Addr) (st₀ t T' : State) (L : List Loc) (E : String) (ce : Cell), st₀.heap = H ∧ Stand p l e R s m args below meth c T' (locs ++ L) (cells + mc) (slots + ms) ∧ (∀ z ∈ L, free z.base) ∧ T'.heap = t.heap ∧ T'.vm = t.vm ∧ XC E st₀ t ∧ t.heap[q]? = some ce ∧ ce.vm = .none ∧ s.vm.findClass E = some ce.cls ∧
      Steps p.tables e below (T.setTop g) ((T'.setTop { g with stack := rest }).pushFrame (.throwing q)))
def vx_X {S : Type} (px : S → Prop) (B : String → S → State → Prop) (A : Nat → Prop) : String → State → State → Prop := fun E st t => ∃ u : S, px u ∧ B E u t ∧ va_F A st t
section Runs
variable {p : Program} {l : Launch} {e : Env} {R : Room} {s : State} {m : MethodId} {args : Array Value} {below : List Frame} {meth : Method} {c : Code} {H : Heap} {locs : List Loc} {cells slots : Nat}
variable {y : MethodName} {bytes cc : ByteArray} {maxL nL mc ms n index : Nat} {ret : Option FieldType} {ws : List Cond} {rm : Room} {Pc : Array Value → State → Prop} {Qc : Array Value → State → Outcome → State → Prop} {XC : String → State → State → Prop} {free : Addr → Prop} {Ts : List Cond} {own C : String} {b : Addr} {As rest : List Value} {g : JFrame}
theorem vx_callBack (cb : CallB R s args own index y bytes maxL ret ws rm mc ms n) (hM : vx_Met l y ws rm Pc Qc XC mc ms free) (hbl : FrameBlind Pc) : vx_Back l R p e below s args y 3 8 (PreOf R mc ms Pc) (PostOf Qc mc ms free) (vx_Post XC mc ms free) := by
  obtain ⟨hrc, hrs, hfr, hlo, hws, hcw, -, hini, -⟩ := cb
  exact vx_back (bytes := bytes) (maxL := maxL) (ret := ret) hM hbl hrc hrs hfr hlo hws hcw (fun a' U hW => word_at hW (Or.inl (by first | rfl | simp [Cond.onTables, Cond.keeps, Cond.steady])) hini)
theorem vx_runV (S : CallFix p m c cc nL s args Ts own) (hM : vx_Met l y ws rm Pc Qc XC mc ms free) (cw : CallW R s args own C index y bytes maxL ret ws rm mc ms n) (hp : PreV s H C b Pc As)
    (hg : g.method = m) (hn : As.length = n) (hsize : g.locals.size = nL) (hstack : g.stack = As.reverse ++ .ref b :: rest) (hW : 2 * g.monitorRoom + (rest.map fun v => v.category).sum ≤ 8) (hdg : decode cc g.pc = .ok (.invokevirtual index, 3)) (hf : cells + mc ≤ R.cells ∧ slots + ms ≤ R.slots) :
    vx_Run p l e R s m args below meth c H locs cells slots mc ms g rest (Qc (Value.ref b :: As).toArray) XC free := by
  have hK : vx_Back l R p e below s args y 3 8 (PreOf R mc ms Pc) (PostOf Qc mc ms free) (vx_Post XC mc ms free) := vx_callBack cw.1 hM hp.1
  obtain ⟨⟨-, -, -, -, -, -, hcode, -, hy, hlen, hl⟩, hin, hse⟩ := cw
  obtain ⟨hx, hb, hml, ho, -⟩ := S
  obtain ⟨-, ⟨cellB, hcB, hoB, hclB⟩, hPc⟩ := hp
  intro T hT X
  rcases vx_callV X hx (C := C) (bytes := bytes) (maxL := maxL) (ret := ret) ho hl hin hse hcode hy hK (by rw [hT]; exact hcB) hoB hclB hg (hsize.trans hml.symm) (argsL := As) (rest := rest) (fun sig h => hn.trans (hlen sig h)) hstack hW (by rw [hb]; exact hdg)
    (fun vm₁ hW₁ => ⟨hf.1, hf.2, hPc (T.setVm vm₁) hT hW₁⟩) with ⟨v, vm₁, ⟨U', l2, c2, s2⟩, hW₁, X', ⟨g', mk, t, L, e1, e2, hq, h1, hL, h2, h3⟩, st⟩ | ⟨q, vm₁, ⟨U', l2, c2, s2⟩, hW₁, X', ⟨g', mk, t, L, E, ce, e1, e2, hq, hce, hcv, hcl, h1, hL, h2, h3⟩, st⟩
  · dsimp only [Pt.U, Pt.locs, Pt.cells, Pt.slots] at X' e1 e2 h1 h2 h3 st
    subst h1; subst h2; subst h3
    exact Or.inl ⟨v, (T.setVm vm₁).calling g' mk (Value.ref b :: As).toArray, t, U', L, hT, X', hL, e1, e2, hq, st⟩
  · dsimp only [Pt.U, Pt.locs, Pt.cells, Pt.slots] at X' e1 e2 h1 h2 h3 st hcl
    subst h1; subst h2; subst h3
    exact Or.inr ⟨q, (T.setVm vm₁).calling g' mk (Value.ref b :: As).toArray, t, U', L, E, ce, hT, X', hL, e1, e2, hq, hce, hcv, vx_cls hW₁ hcl, st⟩
theorem vx_runS (S : CallFix p m c cc nL s args Ts own) (hM : vx_Met l y ws rm Pc Qc XC mc ms free) (cw : CallB R s args own index y bytes maxL ret ws rm mc ms n ∧ (Cond.static y).before args s = true) (hp : PreS s H Pc As)
    (hg : g.method = m) (hn : As.length = n) (hsize : g.locals.size = nL) (hstack : g.stack = As.reverse ++ rest) (hW : 2 * g.monitorRoom + (rest.map fun v => v.category).sum ≤ 8) (hdg : decode cc g.pc = .ok (.invokestatic index, 3)) (hf : cells + mc ≤ R.cells ∧ slots + ms ≤ R.slots) :
    vx_Run p l e R s m args below meth c H locs cells slots mc ms g rest (Qc As.toArray) XC free := by
  have hK : vx_Back l R p e below s args y 3 8 (PreOf R mc ms Pc) (PostOf Qc mc ms free) (vx_Post XC mc ms free) := vx_callBack cw.1 hM hp.1
  obtain ⟨⟨-, -, -, -, -, -, hcode, hini, hy, hlen, hl⟩, hstt⟩ := cw
  obtain ⟨hx, hb, hml, ho, -⟩ := S
  intro T hT X
  rcases vx_callS X hx (bytes := bytes) (maxL := maxL) (ret := ret) ho hl hstt hini hcode hy hK hg (hsize.trans hml.symm) (argsL := As) (rest := rest) (fun sig h => hn.trans (hlen sig h)) hstack hW (by rw [hb]; exact hdg)
    (fun vm₁ hW₁ => ⟨hf.1, hf.2, hp.2 (T.setVm vm₁) hT hW₁⟩) with ⟨v, vm₁, ⟨U', l2, c2, s2⟩, hW₁, X', ⟨g', mk, t, L, e1, e2, hq, h1, hL, h2, h3⟩, st⟩ | ⟨q, vm₁, ⟨U', l2, c2, s2⟩, hW₁, X', ⟨g', mk, t, L, E, ce, e1, e2, hq, hce, hcv, hcl, h1, hL, h2, h3⟩, st⟩
  · dsimp only [Pt.U, Pt.locs, Pt.cells, Pt.slots] at X' e1 e2 h1 h2 h3 st
    subst h1; subst h2; subst h3
    exact Or.inl ⟨v, (T.setVm vm₁).calling g' mk As.toArray, t, U', L, hT, X', hL, e1, e2, hq, st⟩
  · dsimp only [Pt.U, Pt.locs, Pt.cells, Pt.slots] at X' e1 e2 h1 h2 h3 st hcl
    subst h1; subst h2; subst h3
    exact Or.inr ⟨q, (T.setVm vm₁).calling g' mk As.toArray, t, U', L, E, ce, hT, X', hL, e1, e2, hq, hce, hcv, vx_cls hW₁ hcl, st⟩
end Runs
section Rows
variable {p : Program} {l : Launch} {e : Env} {R : Room} {s : State} {m : MethodId} {args : Array Value} {below : List Frame} {meth : Method} {c : Code} {H : Heap} {locs : List Loc} {cells slots : Nat} {Q : State → Prop}
variable {mc ms : Nat} {free : Addr → Prop} {A0 A1 : Nat → Prop} {H0 : Heap} {a : Array Value} {pc : Nat} {ls : Array Slot} {st0 rest : List Value}
theorem vx_keep {st₀ t T' : State} {L : List Loc} (h0 : st₀.heap = H) (e1 : T'.heap = t.heap) (hS : va_S A0 H0 H locs) (hA : ∀ q, q < H.size → A1 q → A0 q) (hf : ∀ q, free q → A0 q) (hL : ∀ q ∈ L, free q.base) (hF : va_F A1 st₀ t) :
    H.size ≤ T'.heap.size ∧ (∀ q : Nat, q < H.size → ¬ A1 q → T'.heap[q]? = H[q]?) ∧ va_S A0 H0 T'.heap (locs ++ L) := by
  obtain ⟨hz, hk⟩ := hF
  rw [h0] at hz hk
  exact ⟨by rw [e1]; exact hz, fun q h1 h2 => by rw [e1]; exact hk q h1 h2,
    ⟨Nat.le_trans hS.1 (by rw [e1]; exact hz), fun q h1 h2 => by rw [e1, hk q (Nat.lt_of_lt_of_le h1 hS.1) (fun z => h2 (hA q (Nat.lt_of_lt_of_le h1 hS.1) z))]; exact hS.2.1 q h1 h2, fun q hq => by
      rcases List.mem_append.mp hq with h | h
      · exact hS.2.2 q h
      · exact hf _ (hL q h)⟩⟩
theorem vx_calli {S SX : Type} {post : Int32 → S → Prop} {px : SX → Prop} {B : S → State → Prop} {BX : String → SX → State → Prop} {AX : Nat → Prop} (hr : vx_Run p l e R s m args below meth c H locs cells slots mc ms (F0 m pc ls st0) rest (va_Qi post B A1 a) (vx_X px BX AX) free) (hS : va_S A0 H0 H locs) (hA : ∀ q, q < H.size → A1 q → A0 q) (hf : ∀ q, free q → A0 q) (hAX : ∀ q, q < H.size → AX q → A0 q)
    (kx : ∀ (E : String) (ce : Cell) (q9 : Addr) (u : SX) (t : State) (H1 : Heap) (locs1 : List Loc), t.heap = H1 → s.vm.Alike t.vm → px u → BX E u t → H.size ≤ H1.size → (∀ q : Nat, q < H.size → ¬ AX q → H1[q]? = H[q]?) → va_S A0 H0 H1 locs1 → H1[q9]? = some ce → ce.vm = .none → s.vm.findClass E = some ce.cls → vx_W p l e R s m args below meth c H1 locs1 (cells + mc) (slots + ms) Q (F0 m pc ls rest) q9)
    (kk : ∀ (r : Int32) (u : S) (t : State) (H1 : Heap) (locs1 : List Loc), t.heap = H1 → s.vm.Alike t.vm → post r u → B u t → H.size ≤ H1.size → (∀ q : Nat, q < H.size → ¬ A1 q → H1[q]? = H[q]?) → va_S A0 H0 H1 locs1 → W p l e R s m args below meth c H1 locs1 (cells + mc) (slots + ms) Q (F0 m (pc + 3) ls (.int r :: rest))) : W p l e R s m args below meth c H locs cells slots Q (F0 m pc ls st0) := by
  intro T hT X
  rcases hr T hT X with ⟨v, st₀, t, T', L, h0, X', hL, e1, e2, ⟨⟨r, u, hv, hp, hb⟩, hF⟩, st⟩ | ⟨q, st₀, t, T', L, E, ce, h0, X', hL, e1, e2, ⟨u, hp, hb, hF⟩, hce, hcv, hcl, st⟩
  · cases hv
    obtain ⟨k1, k2, k3⟩ := vx_keep h0 e1 hS hA hf hL hF
    obtain ⟨t2, a1, b1⟩ := kk r u t T'.heap (locs ++ L) e1.symm (by rw [← e2]; exact X'.warmed.alike) hp hb k1 k2 k3 T' rfl X'
    exact ⟨t2, st t2 a1, b1⟩
  · obtain ⟨k1, k2, k3⟩ := vx_keep h0 e1 hS hAX hf hL hF
    obtain ⟨t2, a1, b1⟩ := kx E ce q u t T'.heap (locs ++ L) e1.symm (by rw [← e2]; exact X'.warmed.alike) hp hb k1 k2 k3 (by rw [e1]; exact hce) hcv hcl T' rfl X'
    exact ⟨t2, st.trans a1, b1⟩
theorem vx_calll {S SX : Type} {post : Int64 → S → Prop} {px : SX → Prop} {B : S → State → Prop} {BX : String → SX → State → Prop} {AX : Nat → Prop} (hr : vx_Run p l e R s m args below meth c H locs cells slots mc ms (F0 m pc ls st0) rest (va_Ql post B A1 a) (vx_X px BX AX) free) (hS : va_S A0 H0 H locs) (hA : ∀ q, q < H.size → A1 q → A0 q) (hf : ∀ q, free q → A0 q) (hAX : ∀ q, q < H.size → AX q → A0 q)
    (kx : ∀ (E : String) (ce : Cell) (q9 : Addr) (u : SX) (t : State) (H1 : Heap) (locs1 : List Loc), t.heap = H1 → s.vm.Alike t.vm → px u → BX E u t → H.size ≤ H1.size → (∀ q : Nat, q < H.size → ¬ AX q → H1[q]? = H[q]?) → va_S A0 H0 H1 locs1 → H1[q9]? = some ce → ce.vm = .none → s.vm.findClass E = some ce.cls → vx_W p l e R s m args below meth c H1 locs1 (cells + mc) (slots + ms) Q (F0 m pc ls rest) q9)
    (kk : ∀ (r : Int64) (u : S) (t : State) (H1 : Heap) (locs1 : List Loc), t.heap = H1 → s.vm.Alike t.vm → post r u → B u t → H.size ≤ H1.size → (∀ q : Nat, q < H.size → ¬ A1 q → H1[q]? = H[q]?) → va_S A0 H0 H1 locs1 → W p l e R s m args below meth c H1 locs1 (cells + mc) (slots + ms) Q (F0 m (pc + 3) ls (.long r :: rest))) : W p l e R s m args below meth c H locs cells slots Q (F0 m pc ls st0) := by
  intro T hT X
  rcases hr T hT X with ⟨v, st₀, t, T', L, h0, X', hL, e1, e2, ⟨⟨r, u, hv, hp, hb⟩, hF⟩, st⟩ | ⟨q, st₀, t, T', L, E, ce, h0, X', hL, e1, e2, ⟨u, hp, hb, hF⟩, hce, hcv, hcl, st⟩
  · cases hv
    obtain ⟨k1, k2, k3⟩ := vx_keep h0 e1 hS hA hf hL hF
    obtain ⟨t2, a1, b1⟩ := kk r u t T'.heap (locs ++ L) e1.symm (by rw [← e2]; exact X'.warmed.alike) hp hb k1 k2 k3 T' rfl X'
    exact ⟨t2, st t2 a1, b1⟩
  · obtain ⟨k1, k2, k3⟩ := vx_keep h0 e1 hS hAX hf hL hF
    obtain ⟨t2, a1, b1⟩ := kx E ce q u t T'.heap (locs ++ L) e1.symm (by rw [← e2]; exact X'.warmed.alike) hp hb k1 k2 k3 (by rw [e1]; exact hce) hcv hcl T' rfl X'
    exact ⟨t2, st.trans a1, b1⟩
theorem vx_callf {S SX : Type} {post : UInt32 → S → Prop} {px : SX → Prop} {B : S → State → Prop} {BX : String → SX → State → Prop} {AX : Nat → Prop} (hr : vx_Run p l e R s m args below meth c H locs cells slots mc ms (F0 m pc ls st0) rest (va_Qf post B A1 a) (vx_X px BX AX) free) (hS : va_S A0 H0 H locs) (hA : ∀ q, q < H.size → A1 q → A0 q) (hf : ∀ q, free q → A0 q) (hAX : ∀ q, q < H.size → AX q → A0 q)
    (kx : ∀ (E : String) (ce : Cell) (q9 : Addr) (u : SX) (t : State) (H1 : Heap) (locs1 : List Loc), t.heap = H1 → s.vm.Alike t.vm → px u → BX E u t → H.size ≤ H1.size → (∀ q : Nat, q < H.size → ¬ AX q → H1[q]? = H[q]?) → va_S A0 H0 H1 locs1 → H1[q9]? = some ce → ce.vm = .none → s.vm.findClass E = some ce.cls → vx_W p l e R s m args below meth c H1 locs1 (cells + mc) (slots + ms) Q (F0 m pc ls rest) q9)
    (kk : ∀ (r : UInt32) (u : S) (t : State) (H1 : Heap) (locs1 : List Loc), t.heap = H1 → s.vm.Alike t.vm → post r u → B u t → H.size ≤ H1.size → (∀ q : Nat, q < H.size → ¬ A1 q → H1[q]? = H[q]?) → va_S A0 H0 H1 locs1 → W p l e R s m args below meth c H1 locs1 (cells + mc) (slots + ms) Q (F0 m (pc + 3) ls (.float r :: rest))) : W p l e R s m args below meth c H locs cells slots Q (F0 m pc ls st0) := by
  intro T hT X
  rcases hr T hT X with ⟨v, st₀, t, T', L, h0, X', hL, e1, e2, ⟨⟨r, u, hv, hp, hb⟩, hF⟩, st⟩ | ⟨q, st₀, t, T', L, E, ce, h0, X', hL, e1, e2, ⟨u, hp, hb, hF⟩, hce, hcv, hcl, st⟩
  · cases hv
    obtain ⟨k1, k2, k3⟩ := vx_keep h0 e1 hS hA hf hL hF
    obtain ⟨t2, a1, b1⟩ := kk r u t T'.heap (locs ++ L) e1.symm (by rw [← e2]; exact X'.warmed.alike) hp hb k1 k2 k3 T' rfl X'
    exact ⟨t2, st t2 a1, b1⟩
  · obtain ⟨k1, k2, k3⟩ := vx_keep h0 e1 hS hAX hf hL hF
    obtain ⟨t2, a1, b1⟩ := kx E ce q u t T'.heap (locs ++ L) e1.symm (by rw [← e2]; exact X'.warmed.alike) hp hb k1 k2 k3 (by rw [e1]; exact hce) hcv hcl T' rfl X'
    exact ⟨t2, st.trans a1, b1⟩
theorem vx_calld {S SX : Type} {post : UInt64 → S → Prop} {px : SX → Prop} {B : S → State → Prop} {BX : String → SX → State → Prop} {AX : Nat → Prop} (hr : vx_Run p l e R s m args below meth c H locs cells slots mc ms (F0 m pc ls st0) rest (va_Qd post B A1 a) (vx_X px BX AX) free) (hS : va_S A0 H0 H locs) (hA : ∀ q, q < H.size → A1 q → A0 q) (hf : ∀ q, free q → A0 q) (hAX : ∀ q, q < H.size → AX q → A0 q)
    (kx : ∀ (E : String) (ce : Cell) (q9 : Addr) (u : SX) (t : State) (H1 : Heap) (locs1 : List Loc), t.heap = H1 → s.vm.Alike t.vm → px u → BX E u t → H.size ≤ H1.size → (∀ q : Nat, q < H.size → ¬ AX q → H1[q]? = H[q]?) → va_S A0 H0 H1 locs1 → H1[q9]? = some ce → ce.vm = .none → s.vm.findClass E = some ce.cls → vx_W p l e R s m args below meth c H1 locs1 (cells + mc) (slots + ms) Q (F0 m pc ls rest) q9)
    (kk : ∀ (r : UInt64) (u : S) (t : State) (H1 : Heap) (locs1 : List Loc), t.heap = H1 → s.vm.Alike t.vm → post r u → B u t → H.size ≤ H1.size → (∀ q : Nat, q < H.size → ¬ A1 q → H1[q]? = H[q]?) → va_S A0 H0 H1 locs1 → W p l e R s m args below meth c H1 locs1 (cells + mc) (slots + ms) Q (F0 m (pc + 3) ls (.double r :: rest))) : W p l e R s m args below meth c H locs cells slots Q (F0 m pc ls st0) := by
  intro T hT X
  rcases hr T hT X with ⟨v, st₀, t, T', L, h0, X', hL, e1, e2, ⟨⟨r, u, hv, hp, hb⟩, hF⟩, st⟩ | ⟨q, st₀, t, T', L, E, ce, h0, X', hL, e1, e2, ⟨u, hp, hb, hF⟩, hce, hcv, hcl, st⟩
  · cases hv
    obtain ⟨k1, k2, k3⟩ := vx_keep h0 e1 hS hA hf hL hF
    obtain ⟨t2, a1, b1⟩ := kk r u t T'.heap (locs ++ L) e1.symm (by rw [← e2]; exact X'.warmed.alike) hp hb k1 k2 k3 T' rfl X'
    exact ⟨t2, st t2 a1, b1⟩
  · obtain ⟨k1, k2, k3⟩ := vx_keep h0 e1 hS hAX hf hL hF
    obtain ⟨t2, a1, b1⟩ := kx E ce q u t T'.heap (locs ++ L) e1.symm (by rw [← e2]; exact X'.warmed.alike) hp hb k1 k2 k3 (by rw [e1]; exact hce) hcv hcl T' rfl X'
    exact ⟨t2, st.trans a1, b1⟩
theorem vx_callv {S SX : Type} {post : S → Prop} {px : SX → Prop} {B : S → State → Prop} {BX : String → SX → State → Prop} {AX : Nat → Prop} (hr : vx_Run p l e R s m args below meth c H locs cells slots mc ms (F0 m pc ls st0) rest (va_Qv post B A1 a) (vx_X px BX AX) free) (hS : va_S A0 H0 H locs) (hA : ∀ q, q < H.size → A1 q → A0 q) (hf : ∀ q, free q → A0 q) (hAX : ∀ q, q < H.size → AX q → A0 q)
    (kx : ∀ (E : String) (ce : Cell) (q9 : Addr) (u : SX) (t : State) (H1 : Heap) (locs1 : List Loc), t.heap = H1 → s.vm.Alike t.vm → px u → BX E u t → H.size ≤ H1.size → (∀ q : Nat, q < H.size → ¬ AX q → H1[q]? = H[q]?) → va_S A0 H0 H1 locs1 → H1[q9]? = some ce → ce.vm = .none → s.vm.findClass E = some ce.cls → vx_W p l e R s m args below meth c H1 locs1 (cells + mc) (slots + ms) Q (F0 m pc ls rest) q9)
    (kk : ∀ (u : S) (t : State) (H1 : Heap) (locs1 : List Loc), t.heap = H1 → s.vm.Alike t.vm → post u → B u t → H.size ≤ H1.size → (∀ q : Nat, q < H.size → ¬ A1 q → H1[q]? = H[q]?) → va_S A0 H0 H1 locs1 → W p l e R s m args below meth c H1 locs1 (cells + mc) (slots + ms) Q (F0 m (pc + 3) ls (rest))) : W p l e R s m args below meth c H locs cells slots Q (F0 m pc ls st0) := by
  intro T hT X
  rcases hr T hT X with ⟨v, st₀, t, T', L, h0, X', hL, e1, e2, ⟨⟨u, hv, hp, hb⟩, hF⟩, st⟩ | ⟨q, st₀, t, T', L, E, ce, h0, X', hL, e1, e2, ⟨u, hp, hb, hF⟩, hce, hcv, hcl, st⟩
  · cases hv
    obtain ⟨k1, k2, k3⟩ := vx_keep h0 e1 hS hA hf hL hF
    obtain ⟨t2, a1, b1⟩ := kk u t T'.heap (locs ++ L) e1.symm (by rw [← e2]; exact X'.warmed.alike) hp hb k1 k2 k3 T' rfl X'
    exact ⟨t2, st t2 a1, b1⟩
  · obtain ⟨k1, k2, k3⟩ := vx_keep h0 e1 hS hAX hf hL hF
    obtain ⟨t2, a1, b1⟩ := kx E ce q u t T'.heap (locs ++ L) e1.symm (by rw [← e2]; exact X'.warmed.alike) hp hb k1 k2 k3 (by rw [e1]; exact hce) hcv hcl T' rfl X'
    exact ⟨t2, st.trans a1, b1⟩
/-- caught by the row x of this method's table; the rows ahead don't take it -/
theorem vx_catch {own name : String} {E : String} {ce : Cell} {q : Addr} (hown : s.vm.findClass own = some m.cls) (pre : List ExceptionTableEntry) (x : ExceptionTableEntry) (suf : List ExceptionTableEntry) (hsplit : c.exceptionTable.toList = pre ++ x :: suf)
    (hpass : ∀ z ∈ pre, covers z pc = false ∨ (z.catchType ≠ 0 ∧ ∃ nm : String, (Cond.classLink own z.catchType nm).before args s = true ∧ va_Nc E nm s)) (hx : covers x pc = true) (h0 : x.catchType ≠ 0)
    (hlink : (Cond.classLink own x.catchType name).before args s = true) (hcast : (Cond.castable E name).before args s = true) (hcell : H[q]? = some ce) (hv : ce.vm = .none) (hcl : s.vm.findClass E = some ce.cls)
    (kk : W p l e R s m args below meth c H locs cells slots Q (F0 m x.handlerPc ls [.ref q])) : vx_W p l e R s m args below meth c H locs cells slots Q (F0 m pc ls rest) q := by
  intro T hT X
  have hpl : e.platform.magicAccessors = ({} : Platform).magicAccessors := by rw [X.admits.platform]
  obtain ⟨c3, c4, hc3, hc4, hasg⟩ := Cond.castable_spec hcast
  cases Option.some.inj (hc3.symm.trans hcl)
  obtain ⟨c5, hc5, hcl5⟩ := Cond.classLink_spec hown hlink e.platform hpl
  cases Option.some.inj (hc4.symm.trans hc5)
  obtain ⟨vm', X', st⟩ := X.thenCaughtThrough q (g := F0 m pc ls rest) rfl (Steps.refl _) (by rw [hT]; exact hcell) (by rw [hv]; rfl) (by obtain ⟨k9, h9, -⟩ := Vm.findClass_spec hcl; exact ⟨k9, h9⟩) pre x suf hsplit
    (fun z hz => by
      rcases hpass z hz with h | ⟨hz0, nm, hl1, hn1⟩
      · exact Or.inl h
      · obtain ⟨c6, hc6, hcl6⟩ := Cond.classLink_spec hown hl1 e.platform hpl
        obtain ⟨a8, b8, h1, h2, h3⟩ := hn1
        cases Option.some.inj (h1.symm.trans hcl)
        cases Option.some.inj (h2.symm.trans hc6)
        exact Or.inr ⟨hz0, _, hcl6, h3⟩) hx (Or.inr ⟨h0, c4, hcl5, hasg⟩)
  obtain ⟨t, a1, b1⟩ := kk (T.setVm vm') hT X'
  exact ⟨t, st.trans a1, b1⟩
end Rows
section Ends
variable {p : Program} {l : Launch} {e : Env} {R : Room} {s : State} {m : MethodId} {args : Array Value} {below : List Frame} {meth : Method} {c : Code} {H : Heap} {locs : List Loc} {cells slots : Nat} {Q : State → Prop}
variable {mc ms : Nat} {free : Addr → Prop} {A0 A1 : Nat → Prop} {H0 : Heap} {a : Array Value} {ls : Array Slot} {st0 rest : List Value}
variable {Qc : Array Value → State → Outcome → State → Prop} {XC : String → State → State → Prop}
/-- what a body that may throw owes at its end -/
def vx_MQ (below : List Frame) (Qc : Array Value → State → Outcome → State → Prop) (XC : String → State → State → Prop) (a : Array Value) (s : State) (mc ms : Nat) (free : Addr → Prop) : State → Prop := fun t =>
  ∃ o, t.status = .running ∧ Ended t below o ∧ vx_Q Qc XC mc ms free a s o t
theorem vx_ret {g : JFrame} {mc ms : Nat} (k : W p l e R s m args below meth c H locs cells slots (MQ below Qc args s mc ms free) g) : W p l e R s m args below meth c H locs cells slots (vx_MQ below Qc XC args s mc ms free) g := by
  intro T hT X
  obtain ⟨t, a1, o, b1, b2, b3, b4⟩ := k T hT X
  exact ⟨t, a1, o, b1, b2, Or.inl ⟨b3, b4⟩⟩
/-- not caught here: it goes on to the caller -/
theorem vx_widen {g : JFrame} {q : Addr} {k n : Nat} (h1 : cells ≤ k) (h2 : slots ≤ n) (kk : vx_W p l e R s m args below meth c H locs k n Q g q) : vx_W p l e R s m args below meth c H locs cells slots Q g q := fun T hT X => kk T hT (stand_widen X h1 h2)
theorem vx_out {pc : Nat} {E : String} {ce : Cell} {q : Addr} {mc ms : Nat} (hout : ∀ x ∈ c.exceptionTable.toList, covers x pc = false) (hlocks : meth.locks = false) (hcell : H[q]? = some ce) (hv : ce.vm = .none) (hcl : s.vm.findClass E = some ce.cls)
    (hx : ∀ t : State, t.heap = H → s.vm.Alike t.vm → XC E s t) (hf : ∀ z ∈ locs, free z.base) (hc : cells ≤ mc) (hs : slots ≤ ms) :
    vx_W p l e R s m args below meth c H locs cells slots (vx_MQ below Qc XC args s mc ms free) (F0 m pc ls rest) q := by
  intro T hT X
  obtain ⟨st1, hrun, hend, hW, hsm⟩ := X.leaveThrown q (g := F0 m pc ls rest) rfl rfl rfl hout hlocks
  have hcell9 : (T.setFrames (.throwing q :: below)).heap[q]? = some ce := by
    show T.heap[q]? = some ce
    rw [hT]; exact hcell
  exact ⟨_, st1, .threw q, hrun, hend, Or.inr ⟨q, rfl, E, ce, locs, hx _ hT hW.alike, hcell9, hv, hcl, hW, hsm.mono hc hs, hf⟩⟩
theorem vx_frame {U : State} {k n : Nat} (h : s.sameButNew ({ U with vm := s.vm } : State) locs k n) : s.heap.size ≤ U.heap.size ∧ ∀ q : Nat, q < s.heap.size → (∀ z ∈ locs, z.base ≠ q) → U.heap[q]? = s.heap[q]? := by
  obtain ⟨-, h2, -, -, -, h6⟩ := h
  refine ⟨h2, fun q hq hz => ?_⟩
  obtain ⟨c9, e1, e2, e3, e4⟩ := h6 q _ (Array.getElem?_eq_getElem hq)
  have hs : c9.slots = (s.heap[q]).slots := Array.ext_getElem? fun i => e4 i fun hm => hz _ hm rfl
  have h9 : c9 = s.heap[q] := by
    rw [hs] at e2
    exact e2
  have e5 : U.heap[q]? = some c9 := e1
  rw [e5, h9, Array.getElem?_eq_getElem hq]
/-- the words of a throw but the four that speak of the heap -/
def vx_no (w : Cond) : Bool := decide (w ≠ .isRef (.static Bundle.tN "UNASSIGNED_STACK" Bundle.steD)) && decide (w ≠ .isRef (.static Bundle.tN "SUPPRESSED_SENTINEL" Bundle.listD)) && decide (w ≠ .laysStatic Bundle.tN "UNASSIGNED_STACK" Bundle.steD) && decide (w ≠ .laysStatic Bundle.tN "SUPPRESSED_SENTINEL" Bundle.listD)
def vx_at0 (own : String) (ic : Nat) (X : String) (names : List String) : List Cond := (Bundle.ownAtoms0 own ic X names).filter vx_no
def vx_atS (own : String) (ic : Nat) (X : String) (names : List String) : List Cond := (Bundle.ownAtoms own ic X names).filter vx_no
/-- a word that the tables alone decide, or a good one -/
def vx_ot (w : Cond) : Bool := w.onTables || goodWord w
theorem vx_ot_at {args a' : Array Value} {s U : State} {w : Cond} (hW : s.WarmedH U.vm) (hvm : s.vm = U.vm) (hg : vx_ot w = true) (h : w.before args s = true) : w.before a' U = true := by
  simp only [vx_ot, Bool.or_eq_true] at hg
  rcases hg with hg | hg
  · exact va_tabs hg hvm h
  · exact word_at hW (good_of_word hg) h
/-- a list's words: the good ones out of the method's own list, the others by premises of their own -/
theorem vx_hat {args : Array Value} {s : State} {L B : List Cond} (h1 : ∀ w ∈ L.filter goodWord, w.before args s = true) (h2 : ∀ w ∈ L.filter (fun w => !goodWord w), w ∈ B) (h3 : ∀ w ∈ B, w.before args s = true) : ∀ w ∈ L, w.before args s = true := by
  intro w hw
  by_cases g : goodWord w = true
  · exact h1 w (List.mem_filter.mpr ⟨hw, g⟩)
  · refine h3 w (h2 w (List.mem_filter.mpr ⟨hw, ?_⟩))
    show (!goodWord w) = true
    cases hgw : goodWord w
    · rfl
    · exact absurd hgw g
theorem vx_c {args : Array Value} {s : State} {w : Cond} {B : List Cond} (h : w.before args s = true) (t : ∀ w ∈ B, w.before args s = true) : ∀ w' ∈ w :: B, w'.before args s = true := fun w' h' => (List.mem_cons.mp h').elim (fun e => by rw [e]; exact h) (t w')
theorem vx_n {args : Array Value} {s : State} : ∀ w ∈ ([] : List Cond), w.before args s = true := fun _ h => nomatch h
theorem vx_own {args : Array Value} {s : State} {L : List Cond} (h1 : ∀ w ∈ L.filter vx_no, w.before args s = true)
    (hU : (Cond.isRef (.static Bundle.tN "UNASSIGNED_STACK" Bundle.steD)).before args s = true) (hN : (Cond.isRef (.static Bundle.tN "SUPPRESSED_SENTINEL" Bundle.listD)).before args s = true)
    (lU : (Cond.laysStatic Bundle.tN "UNASSIGNED_STACK" Bundle.steD).before args s = true) (lN : (Cond.laysStatic Bundle.tN "SUPPRESSED_SENTINEL" Bundle.listD).before args s = true) : ∀ w ∈ L, w.before args s = true := by
  intro w hw
  by_cases e1 : w = .isRef (.static Bundle.tN "UNASSIGNED_STACK" Bundle.steD)
  · rw [e1]; exact hU
  · by_cases e2 : w = .isRef (.static Bundle.tN "SUPPRESSED_SENTINEL" Bundle.listD)
    · rw [e2]; exact hN
    · by_cases e3 : w = .laysStatic Bundle.tN "UNASSIGNED_STACK" Bundle.steD
      · rw [e3]; exact lU
      · by_cases e4 : w = .laysStatic Bundle.tN "SUPPRESSED_SENTINEL" Bundle.listD
        · rw [e4]; exact lN
        · exact h1 w (List.mem_filter.mpr ⟨hw, by unfold vx_no; rw [decide_eq_true e1, decide_eq_true e2, decide_eq_true e3, decide_eq_true e4]; rfl⟩)
/-- where a static field lies, its class's statics cell in H -/
def vx_L (C n d : String) (A : Nat → Prop) (U : State) (H : Heap) : Prop := ∃ (c : ClassId) (k : Class) (i : Nat) (f : Field) (a : Nat) (cell : Cell), U.vm.findClass C = some c ∧ U.fieldFound? C n d = some (c, k, i, f) ∧ f.isStatic = true ∧ k.statics = some a ∧ H[a]? = some cell ∧ cell.vm.isStatics = true ∧ cell.cls = c ∧ f.slot < cell.slots.size ∧ k.staticTypes[f.slot]? = some f.type ∧ ¬ A a
theorem vx_L.moved {C n d : String} {A : Nat → Prop} {u U : State} {H : Heap} (hvm : u.vm.Alike U.vm) (h : vx_L C n d A u H) : vx_L C n d A U H := by
  obtain ⟨c, k, i, f, a, cell, h1, h2, h3, h4, h5, h6, h7, h8, h9, h10⟩ := h
  obtain ⟨k', hi', he⟩ := State.fieldFound?_setVm hvm h2
  exact ⟨c, k', i, f, a, cell, by rw [hvm.findClass]; exact h1, hi', h3, by rw [he]; exact h4, h5, h6, h7, h8, by rw [he]; exact h9, h10⟩
theorem vx_L.kept {C n d : String} {A : Nat → Prop} {U : State} {H H1 : Heap} (h : vx_L C n d A U H) (hq : ∀ a : Nat, a < H.size → ¬ A a → H1[a]? = H[a]?) : vx_L C n d A U H1 := by
  obtain ⟨c, k, i, f, a, cell, h1, h2, h3, h4, h5, h6, h7, h8, h9, h10⟩ := h
  exact ⟨c, k, i, f, a, cell, h1, h2, h3, h4, by rw [hq a (Array.getElem?_eq_some_iff.mp h5).1 h10]; exact h5, h6, h7, h8, h9, h10⟩
theorem vx_L.narrow {C n d : String} {A B : Nat → Prop} {U : State} {H : Heap} (h : vx_L C n d A U H) (hAB : ∀ q, B q → A q) : vx_L C n d B U H := by
  obtain ⟨c, k, i, f, a, cell, h1, h2, h3, h4, h5, h6, h7, h8, h9, h10⟩ := h
  exact ⟨c, k, i, f, a, cell, h1, h2, h3, h4, h5, h6, h7, h8, h9, fun z => h10 (hAB _ z)⟩
theorem vx_L.word {C n d : String} {A : Nat → Prop} {s : State} {args : Array Value} (h : vx_L C n d A s s.heap) : (Cond.laysStatic C n d).before args s = true := by
  obtain ⟨c, k, i, f, a, cell, h1, h2, h3, h4, h5, h6, h7, h8, h9, -⟩ := h
  show (Cond.laysStatic C n d).holds args s none s [] = true
  exact Cond.laysStatic_of h1 h2 h3 h4 h5 h6 h7 h8 h9
/-- .. and what it holds: null or some reference -/
def vx_Zq (C n d : String) (A : Nat → Prop) (U : State) (H : Heap) : Prop := va_Zq C n d A U H ∧ vx_L C n d A U H
theorem vx_Zq.moved {C n d : String} {A : Nat → Prop} {u U : State} {H : Heap} (hvm : u.vm.Alike U.vm) (h : vx_Zq C n d A u H) : vx_Zq C n d A U H := ⟨va_Zq.moved hvm h.1, vx_L.moved hvm h.2⟩
theorem vx_Zq.kept {C n d : String} {A : Nat → Prop} {U : State} {H H1 : Heap} (h : vx_Zq C n d A U H) (hq : ∀ a : Nat, a < H.size → ¬ A a → H1[a]? = H[a]?) : vx_Zq C n d A U H1 := ⟨va_Zq.kept h.1 hq, vx_L.kept h.2 hq⟩
theorem vx_Zq.narrow {C n d : String} {A B : Nat → Prop} {U : State} {H : Heap} (h : vx_Zq C n d A U H) (hAB : ∀ q, B q → A q) : vx_Zq C n d B U H := ⟨va_Zq.narrow h.1 hAB, vx_L.narrow h.2 hAB⟩
theorem vx_Zqof {args : Array Value} {s : State} {C n d : String} {A : Nat → Prop} (hl : (Cond.laysStatic C n d).before args s = true) (hini : (Cond.initialized C).before args s = true) (h : (Cond.isRef (.static C n d)).before args s = true) (hA : ∀ a : Nat, a < s.heap.size → ¬ A a) : vx_Zq C n d A s s.heap := by
  refine ⟨va_Zqof hl hini h hA, ?_⟩
  obtain ⟨c, k, i, f, a, cell, h1, h2, h3, h4, h5, h6, h7, h8, h9⟩ := Cond.laysStatic_spec hl
  exact ⟨c, k, i, f, a, cell, h1, h2, h3, h4, h5, h6, h7, h8, h9, hA a (Array.getElem?_eq_some_iff.mp h5).1⟩
theorem vx_isRef {C n d : String} {v : Value} {A : Nat → Prop} {s : State} {args : Array Value} (h : va_Z C n d v A s s.heap) (hv : v.isRef = true) : (Cond.isRef (.static C n d)).before args s = true := by
  obtain ⟨cf, kf, fi, f, a, cell, h1, h2, h3, h4, h5, h6, h7, -⟩ := h
  have he : (Term.static C n d).eval args s none [] s = some v := by
    simp [Term.eval, State.fieldNamed?, h1, h2, h4, h5, h6, h7]
  simp only [Cond.before, Cond.holds, Cond.value, he]
  cases v <;> simp_all [Value.isRef]
theorem vx_isRefq {C n d : String} {A : Nat → Prop} {s : State} {args : Array Value} (h : va_Zq C n d A s s.heap) : (Cond.isRef (.static C n d)).before args s = true := by
  rcases h with h | ⟨t, h⟩
  · exact vx_isRef h rfl
  · exact vx_isRef h rfl
/-- the same frame, seen from here: as if the method were called anew in this heap -/
theorem vx_rebase {T : State} (X : Stand p l e R s m args below meth c T locs cells slots) {R' : Room} (hf : R'.frames ≤ R.frames) (hl : R'.locals ≤ R.locals) (hc : cells + R'.cells ≤ R.cells) (hs : slots + R'.slots ≤ R.slots) :
    Stand p l e R' ((T.setVm s.vm).setFrames (.invoking m args :: below)) m args below meth c T [] 0 0 := by
  have htop : (T.setVm s.vm).topJava?.isSome := X.here.top
  have hF : ((T.setVm s.vm).setFrames (.invoking m args :: below)).frames = .invoking m args :: below := State.frames_setFrames _ (State.cur_lt_of_top htop)
  obtain ⟨g₀, hg0⟩ := Option.isSome_iff_exists.mp htop
  obtain ⟨r, hr⟩ := State.topJava?_eq_some.mp hg0
  have hl9 : e.platform.stackLimits (T.setVm s.vm).me = e.platform.stackLimits s.me := X.limits
  have hb9 : (T.setVm s.vm).me.stackBytes = s.me.stackBytes := X.bytes
  refine ⟨X.admits, X.cas, X.clock, hF, ?_, X.hears, X.method, X.code, X.here, X.tail, X.warmed, ?_, ?_, ?_⟩
  · have h := X.room
    have hU : ((T.setVm s.vm).setFrames (.invoking m args :: below)).localsInUse = s.localsInUse := by
      rw [State.localsInUse_invoking hF (meth := meth) (c := c) X.method X.code, State.localsInUse_invoking X.frames X.method X.code]
    simp only [State.hasRoom, Bool.and_eq_true, decide_eq_true_eq] at h ⊢
    obtain ⟨⟨⟨⟨h1, h2, h3, h4, h5, h6⟩, h7⟩, h8⟩, h9⟩ := h
    rw [X.frames, List.length_cons] at h2 h3
    have q1 := X.heapSize
    have q2 := X.used
    simp only [hF, hU, List.length_cons, State.stackLimits_setFrames, State.stackBytes_setFrames, hl9, hb9]
    refine ⟨⟨⟨⟨by omega, by omega, by omega, by omega, by omega, h6⟩, ?_⟩, ?_⟩, X.book⟩
    · show T.heap.size + R'.cells ≤ e.platform.maxCells
      omega
    · show T.slotsUsed + R'.slots ≤ e.platform.maxSlots
      omega
  · rw [State.stackLimits_setFrames]; rfl
  · rw [State.stackBytes_setFrames]; rfl
  · refine ⟨?_, Nat.le_refl _, Nat.le_refl _, ?_, ?_, fun a c9 h9 => ⟨c9, h9, rfl, rfl, fun _ _ => rfl⟩⟩
    · obtain ⟨t, ht, -⟩ := State.frames_cons hr
      show T.setVm s.vm = { ((T.setVm s.vm).setFrames (.invoking m args :: below)).setFrames (T.setVm s.vm).frames with heap := T.heap, slotsUsed := T.slotsUsed }
      rw [State.setFrames_setFrames, State.setFrames_self ht]
      rfl
    · show T.slotsUsed = T.slotsUsed + ((T.heap.toList.drop T.heap.size).map (·.slots.size)).sum
      rw [List.drop_eq_nil_of_le (Nat.le_of_eq Array.length_toList)]
      rfl
    · show ((T.heap.toList.drop T.heap.size).map (·.slots.size)).sum ≤ 0
      rw [List.drop_eq_nil_of_le (Nat.le_of_eq Array.length_toList)]
      exact Nat.le_refl _
/-- 'throw new E()': new; dup; invokespecial; athrow -/
theorem vx_throw0 {cc : ByteArray} {pc : Nat} (hexec : p.tables.exec = Jvm.exec) (hb : c.code = cc) (hl : l.stackTraces = false) {own cls : String} {names : List String} {ik ic mc ms : Nat} {A : Nat → Prop}
    (hown : s.vm.findClass own = some m.cls) (hcls : Bundle.fit cls = true) (hnames : ∀ n ∈ names, Bundle.fit n = true)
    (hk : (Cond.classLink own ik cls).before args s = true) (hini : (Cond.initialized cls).before args s = true) (hat : ∀ w ∈ vx_at0 own ic cls names, w.before args s = true)
    (hgood : ∀ w ∈ Cond.classLink own ik cls :: Cond.initialized cls :: vx_at0 own ic cls names, vx_ot w = true)
    (hU : vx_Zq Bundle.tN "UNASSIGNED_STACK" Bundle.steD A s s.heap) (hN : vx_Zq Bundle.tN "SUPPRESSED_SENTINEL" Bundle.listD A s s.heap) (hS : va_S A s.heap H locs) (hsize : ls.size = c.maxLocals)
    (d0 : decode cc pc = .ok (.new ik, 3)) (d3 : decode cc (pc + 3) = .ok (.dup, 1)) (d4 : decode cc (pc + 4) = .ok (.invokespecial ic, 3)) (d7 : decode cc (pc + 7) = .ok (.athrow, 1))
    (hout : ∀ x ∈ c.exceptionTable.toList, covers x (pc + 7) = false)
    (hRframes : names.length + 3 < R.frames) (hRlocals : (rest.map fun v => v.category).sum + (13 * (names.length + 1) + 42) ≤ R.locals) (hRcells : cells + 1 ≤ R.cells) (hRslots : slots + 6 ≤ R.slots) (hlocks : meth.locks = false)
    (hx : ∀ t : State, s.vm.Alike t.vm → H.size ≤ t.heap.size → (∀ q : Nat, q < H.size → t.heap[q]? = H[q]?) → XC cls s t)
    (hf : ∀ z ∈ locs, free z.base) (hc : cells + 1 ≤ mc) (hs : slots + 6 ≤ ms) :
    W p l e R s m args below meth c H locs cells slots (vx_MQ below Qc XC args s mc ms free) (F0 m pc ls rest) := by
  intro T hT X
  have htr : e.platform.stackTraces = false := (show e.platform.stackTraces = l.stackTraces by rw [X.admits.platform]).trans hl
  have Y := vx_rebase X (R' := { frames := R.frames, locals := R.locals, cells := 1, slots := 6 }) (Nat.le_refl _) (Nat.le_refl _) hRcells hRslots
  obtain ⟨s', hA⟩ : ∃ z, z = (T.setVm s.vm).setFrames (.invoking m args :: below) := ⟨_, rfl⟩
  rw [← hA] at Y
  have hvm : s'.vm = s.vm := by rw [hA]; rfl
  have hhp : s'.heap = H := by rw [hA]; exact hT
  have hW0 : s.WarmedH s'.vm := by rw [hvm]; exact State.WarmedH.refl s
  have hat' : ∀ w ∈ vx_at0 own ic cls names, w.before args s' = true := fun w hw => vx_ot_at hW0 hvm.symm (hgood w (List.mem_cons_of_mem _ (List.mem_cons_of_mem _ hw))) (hat w hw)
  have hk' : (Cond.classLink own ik cls).before args s' = true := vx_ot_at hW0 hvm.symm (hgood _ List.mem_cons_self) hk
  have hini' : (Cond.initialized cls).before args s' = true := vx_ot_at hW0 hvm.symm (hgood _ (List.mem_cons_of_mem _ List.mem_cons_self)) hini
  have hU' : vx_Zq Bundle.tN "UNASSIGNED_STACK" Bundle.steD A s' s'.heap := by rw [hhp]; exact vx_Zq.moved hW0.alike (hU.kept hS.2.1)
  have hN' : vx_Zq Bundle.tN "SUPPRESSED_SENTINEL" Bundle.listD A s' s'.heap := by rw [hhp]; exact vx_Zq.moved hW0.alike (hN.kept hS.2.1)
  have h : ∀ w ∈ Bundle.ownAtoms0 own ic cls names, w.before args s' = true := vx_own hat' (vx_isRefq hU'.1) (vx_isRefq hN'.1) hU'.2.word hN'.2.word
  have hown' : s'.vm.findClass own = some m.cls := by rw [hvm]; exact hown
  have hins : (Cond.instantiable cls 6).before args s' = true := h _ (by simp [Bundle.ownAtoms0])
  obtain ⟨vm₁, cX, kX, hfX, hkX, -, -, X₁, st1⟩ := Y.newCold hexec (own := own) (C := cls) (index := ik) (n := 6) hown' hk' hins hini'
    (g := F0 m pc ls rest) rfl (by rw [hb]; exact d0) (Nat.le_refl _) (Nat.le_refl _)
  generalize hT1 : (T.setVm vm₁).pushCell { cls := cX, slots := kX.instanceTypes.map defaultValue, vm := .none } = T1 at X₁ st1
  have hcat : (Value.ref T.heap.size).category = 1 := rfl
  have hcellA : T1.heap[T.heap.size]? = some (freshCell cX kX) := by rw [← hT1]; exact State.heap_pushCell_size _ _
  have d3' : decode c.code (pc + 3) = .ok (.dup, 1) := by rw [hb]; exact d3
  obtain ⟨U, hsteps, hrun, hend, hW, hsame, ce, hce, hO⟩ := X₁.ctorThrow0 hexec htr (own := own) (cls := cls) (names := names) (ic := ic) hown' hcls hnames h (fun x hx => nomatch hx) hfX hkX hcellA (by rw [hhp, hT]; exact Nat.le_refl _)
    (g := { method := m, pc := pc + 4, locals := ls, stack := .ref T.heap.size :: .ref T.heap.size :: rest, locked := none }) rfl hsize rfl rfl (rest := rest) rfl
    (by rw [hb]; exact d4) (by rw [hb]; exact d7) hout hRframes (by simp only [List.map_cons, List.sum_cons, hcat]; omega) hlocks
  obtain ⟨f1, f2⟩ := vx_frame hsame
  rw [hhp] at f1 f2
  have hWs : s.WarmedH U.vm := State.WarmedH.trans hW0 hW
  have hcl : s.vm.findClass cls = some ce.cls := by
    have h9 := hO.cls
    rw [hvm] at h9
    exact h9
  have hall : s.sameButNew ({ U with vm := s.vm } : State) locs mc ms := by
    subst hA
    obtain ⟨e1, e2⟩ := hsame
    rw [State.setFrames_setFrames] at e1
    have h2 : (T.setVm s.vm).sameButNew ({ U with vm := s.vm } : State) [] (0 + 1) (0 + 6) := ⟨e1, e2⟩
    have h3 := X.same.trans h2
    rw [List.append_nil] at h3
    exact h3.mono hc hs
  refine ⟨U, ?_, .threw T.heap.size, hrun, hend, Or.inr ⟨T.heap.size, rfl, cls, ce, locs, hx U hWs.alike f1 (fun q hq => f2 q hq (fun z hz => nomatch hz)), hce, hO.vm, hcl, hWs, hall, hf⟩⟩
  refine st1 _ ?_
  show Steps p.tables e below (T1.setTop { method := m, pc := pc + 3, locals := ls, stack := .ref T.heap.size :: rest, locked := none }) _
  jvm_step X₁.here [X₁.here.top, hexec, d3', Value.category]
  exact hsteps
/-- 'throw new E("text")': new; dup; ldc; invokespecial; athrow -/
theorem vx_throwS {cc : ByteArray} {pc : Nat} (hexec : p.tables.exec = Jvm.exec) (hb : c.code = cc) (hl : l.stackTraces = false) {own cls text : String} {names : List String} {ik is ic mc ms sa : Nat} {A : Nat → Prop}
    (hown : s.vm.findClass own = some m.cls) (hcls : Bundle.fit cls = true) (hnames : ∀ n ∈ names, Bundle.fit n = true)
    (hk : (Cond.classLink own ik cls).before args s = true) (hini : (Cond.initialized cls).before args s = true) (hstr : vk_R own is text sa s) (hat : ∀ w ∈ vx_atS own ic cls names, w.before args s = true)
    (hgood : ∀ w ∈ Cond.classLink own ik cls :: Cond.initialized cls :: vx_atS own ic cls names, vx_ot w = true)
    (hU : vx_Zq Bundle.tN "UNASSIGNED_STACK" Bundle.steD A s s.heap) (hN : vx_Zq Bundle.tN "SUPPRESSED_SENTINEL" Bundle.listD A s s.heap) (hS : va_S A s.heap H locs) (hsize : ls.size = c.maxLocals)
    (d0 : decode cc pc = .ok (.new ik, 3)) (d3 : decode cc (pc + 3) = .ok (.dup, 1)) (d4 : decode cc (pc + 4) = .ok (.ldc is, 2)) (d6 : decode cc (pc + 6) = .ok (.invokespecial ic, 3)) (d9 : decode cc (pc + 9) = .ok (.athrow, 1))
    (hout : ∀ x ∈ c.exceptionTable.toList, covers x (pc + 9) = false)
    (hRframes : names.length + 3 < R.frames) (hRlocals : (rest.map fun v => v.category).sum + (13 * (names.length + 1) + 43) ≤ R.locals) (hRcells : cells + 1 ≤ R.cells) (hRslots : slots + 6 ≤ R.slots) (hlocks : meth.locks = false)
    (hx : ∀ t : State, s.vm.Alike t.vm → H.size ≤ t.heap.size → (∀ q : Nat, q < H.size → t.heap[q]? = H[q]?) → XC cls s t)
    (hf : ∀ z ∈ locs, free z.base) (hc : cells + 1 ≤ mc) (hs : slots + 6 ≤ ms) :
    W p l e R s m args below meth c H locs cells slots (vx_MQ below Qc XC args s mc ms free) (F0 m pc ls rest) := by
  intro T hT X
  have htr : e.platform.stackTraces = false := (show e.platform.stackTraces = l.stackTraces by rw [X.admits.platform]).trans hl
  have Y := vx_rebase X (R' := { frames := R.frames, locals := R.locals, cells := 1, slots := 6 }) (Nat.le_refl _) (Nat.le_refl _) hRcells hRslots
  obtain ⟨s', hA⟩ : ∃ z, z = (T.setVm s.vm).setFrames (.invoking m args :: below) := ⟨_, rfl⟩
  rw [← hA] at Y
  have hvm : s'.vm = s.vm := by rw [hA]; rfl
  have hhp : s'.heap = H := by rw [hA]; exact hT
  have hW0 : s.WarmedH s'.vm := by rw [hvm]; exact State.WarmedH.refl s
  have hat' : ∀ w ∈ vx_atS own ic cls names, w.before args s' = true := fun w hw => vx_ot_at hW0 hvm.symm (hgood w (List.mem_cons_of_mem _ (List.mem_cons_of_mem _ hw))) (hat w hw)
  have hk' : (Cond.classLink own ik cls).before args s' = true := vx_ot_at hW0 hvm.symm (hgood _ List.mem_cons_self) hk
  have hini' : (Cond.initialized cls).before args s' = true := vx_ot_at hW0 hvm.symm (hgood _ (List.mem_cons_of_mem _ List.mem_cons_self)) hini
  have hU' : vx_Zq Bundle.tN "UNASSIGNED_STACK" Bundle.steD A s' s'.heap := by rw [hhp]; exact vx_Zq.moved hW0.alike (hU.kept hS.2.1)
  have hN' : vx_Zq Bundle.tN "SUPPRESSED_SENTINEL" Bundle.listD A s' s'.heap := by rw [hhp]; exact vx_Zq.moved hW0.alike (hN.kept hS.2.1)
  have h : ∀ w ∈ Bundle.ownAtoms own ic cls names, w.before args s' = true := vx_own hat' (vx_isRefq hU'.1) (vx_isRefq hN'.1) hU'.2.word hN'.2.word
  have hown' : s'.vm.findClass own = some m.cls := by rw [hvm]; exact hown
  have hins : (Cond.instantiable cls 6).before args s' = true := h _ (by simp [Bundle.ownAtoms])
  obtain ⟨vm₁, cX, kX, hfX, hkX, -, -, X₁, st1⟩ := Y.newCold hexec (own := own) (C := cls) (index := ik) (n := 6) hown' hk' hins hini'
    (g := F0 m pc ls rest) rfl (by rw [hb]; exact d0) (Nat.le_refl _) (Nat.le_refl _)
  generalize hT1 : (T.setVm vm₁).pushCell { cls := cX, slots := kX.instanceTypes.map defaultValue, vm := .none } = T1 at X₁ st1
  have hcat : (Value.ref T.heap.size).category = 1 := rfl
  have hcellA : T1.heap[T.heap.size]? = some (freshCell cX kX) := by rw [← hT1]; exact State.heap_pushCell_size _ _
  have d3' : decode c.code (pc + 3) = .ok (.dup, 1) := by rw [hb]; exact d3
  have d4' : decode c.code (pc + 4) = .ok (.ldc is, 2) := by rw [hb]; exact d4
  have hstr' : vk_R own is text sa s' := vk_R.warm hW0 hstr
  obtain ⟨U, hsteps, hrun, hend, hW, hsame, ce, hce, hO⟩ := X₁.ctorThrowS hexec htr (own := own) (cls := cls) (names := names) (ic := ic) hown' hcls hnames h (fun x hx => nomatch hx) hfX hkX hcellA (by rw [hhp, hT]; exact Nat.le_refl _) (msg := .ref sa) rfl
    (g := { method := m, pc := pc + 6, locals := ls, stack := .ref sa :: .ref T.heap.size :: .ref T.heap.size :: rest, locked := none }) rfl hsize rfl rfl (rest := rest) rfl
    (by rw [hb]; exact d6) (by rw [hb]; exact d9) hout hRframes (by simp only [List.map_cons, List.sum_cons, hcat]; omega) hlocks
  obtain ⟨f1, f2⟩ := vx_frame hsame
  rw [hhp] at f1 f2
  have hWs : s.WarmedH U.vm := State.WarmedH.trans hW0 hW
  have hcl : s.vm.findClass cls = some ce.cls := by
    have h9 := hO.cls
    rw [hvm] at h9
    exact h9
  have hall : s.sameButNew ({ U with vm := s.vm } : State) locs mc ms := by
    subst hA
    obtain ⟨e1, e2⟩ := hsame
    rw [State.setFrames_setFrames] at e1
    have h2 : (T.setVm s.vm).sameButNew ({ U with vm := s.vm } : State) [] (0 + 1) (0 + 6) := ⟨e1, e2⟩
    have h3 := X.same.trans h2
    rw [List.append_nil] at h3
    exact h3.mono hc hs
  refine ⟨U, ?_, .threw T.heap.size, hrun, hend, Or.inr ⟨T.heap.size, rfl, cls, ce, locs, hx U hWs.alike f1 (fun q hq => f2 q hq (fun z hz => nomatch hz)), hce, hO.vm, hcl, hWs, hall, hf⟩⟩
  refine st1 _ ?_
  show Steps p.tables e below (T1.setTop { method := m, pc := pc + 3, locals := ls, stack := .ref T.heap.size :: rest, locked := none }) _
  jvm_step X₁.here [X₁.here.top, hexec, d3', Value.category]
  exact X₁.ldcString hexec (own := own) (text := text) (index := is) (a := sa) hown' hstr'.1 hstr'.2
    (g := { method := m, pc := pc + 4, locals := ls, stack := .ref T.heap.size :: .ref T.heap.size :: rest, locked := none }) rfl d4' _ hsteps
/-- 'throw new E("text")', the text by a wide index -/
theorem vx_throwSW {cc : ByteArray} {pc : Nat} (hexec : p.tables.exec = Jvm.exec) (hb : c.code = cc) (hl : l.stackTraces = false) {own cls text : String} {names : List String} {ik is ic mc ms sa : Nat} {A : Nat → Prop}
    (hown : s.vm.findClass own = some m.cls) (hcls : Bundle.fit cls = true) (hnames : ∀ n ∈ names, Bundle.fit n = true)
    (hk : (Cond.classLink own ik cls).before args s = true) (hini : (Cond.initialized cls).before args s = true) (hstr : vk_R own is text sa s) (hat : ∀ w ∈ vx_atS own ic cls names, w.before args s = true)
    (hgood : ∀ w ∈ Cond.classLink own ik cls :: Cond.initialized cls :: vx_atS own ic cls names, vx_ot w = true)
    (hU : vx_Zq Bundle.tN "UNASSIGNED_STACK" Bundle.steD A s s.heap) (hN : vx_Zq Bundle.tN "SUPPRESSED_SENTINEL" Bundle.listD A s s.heap) (hS : va_S A s.heap H locs) (hsize : ls.size = c.maxLocals)
    (d0 : decode cc pc = .ok (.new ik, 3)) (d3 : decode cc (pc + 3) = .ok (.dup, 1)) (d4 : decode cc (pc + 4) = .ok (.ldc_w is, 3)) (d7 : decode cc (pc + 7) = .ok (.invokespecial ic, 3)) (d10 : decode cc (pc + 10) = .ok (.athrow, 1))
    (hout : ∀ x ∈ c.exceptionTable.toList, covers x (pc + 10) = false)
    (hRframes : names.length + 3 < R.frames) (hRlocals : (rest.map fun v => v.category).sum + (13 * (names.length + 1) + 43) ≤ R.locals) (hRcells : cells + 1 ≤ R.cells) (hRslots : slots + 6 ≤ R.slots) (hlocks : meth.locks = false)
    (hx : ∀ t : State, s.vm.Alike t.vm → H.size ≤ t.heap.size → (∀ q : Nat, q < H.size → t.heap[q]? = H[q]?) → XC cls s t)
    (hf : ∀ z ∈ locs, free z.base) (hc : cells + 1 ≤ mc) (hs : slots + 6 ≤ ms) :
    W p l e R s m args below meth c H locs cells slots (vx_MQ below Qc XC args s mc ms free) (F0 m pc ls rest) := by
  intro T hT X
  have htr : e.platform.stackTraces = false := (show e.platform.stackTraces = l.stackTraces by rw [X.admits.platform]).trans hl
  have Y := vx_rebase X (R' := { frames := R.frames, locals := R.locals, cells := 1, slots := 6 }) (Nat.le_refl _) (Nat.le_refl _) hRcells hRslots
  obtain ⟨s', hA⟩ : ∃ z, z = (T.setVm s.vm).setFrames (.invoking m args :: below) := ⟨_, rfl⟩
  rw [← hA] at Y
  have hvm : s'.vm = s.vm := by rw [hA]; rfl
  have hhp : s'.heap = H := by rw [hA]; exact hT
  have hW0 : s.WarmedH s'.vm := by rw [hvm]; exact State.WarmedH.refl s
  have hat' : ∀ w ∈ vx_atS own ic cls names, w.before args s' = true := fun w hw => vx_ot_at hW0 hvm.symm (hgood w (List.mem_cons_of_mem _ (List.mem_cons_of_mem _ hw))) (hat w hw)
  have hk' : (Cond.classLink own ik cls).before args s' = true := vx_ot_at hW0 hvm.symm (hgood _ List.mem_cons_self) hk
  have hini' : (Cond.initialized cls).before args s' = true := vx_ot_at hW0 hvm.symm (hgood _ (List.mem_cons_of_mem _ List.mem_cons_self)) hini
  have hU' : vx_Zq Bundle.tN "UNASSIGNED_STACK" Bundle.steD A s' s'.heap := by rw [hhp]; exact vx_Zq.moved hW0.alike (hU.kept hS.2.1)
  have hN' : vx_Zq Bundle.tN "SUPPRESSED_SENTINEL" Bundle.listD A s' s'.heap := by rw [hhp]; exact vx_Zq.moved hW0.alike (hN.kept hS.2.1)
  have h : ∀ w ∈ Bundle.ownAtoms own ic cls names, w.before args s' = true := vx_own hat' (vx_isRefq hU'.1) (vx_isRefq hN'.1) hU'.2.word hN'.2.word
  have hown' : s'.vm.findClass own = some m.cls := by rw [hvm]; exact hown
  have hins : (Cond.instantiable cls 6).before args s' = true := h _ (by simp [Bundle.ownAtoms])
  obtain ⟨vm₁, cX, kX, hfX, hkX, -, -, X₁, st1⟩ := Y.newCold hexec (own := own) (C := cls) (index := ik) (n := 6) hown' hk' hins hini'
    (g := F0 m pc ls rest) rfl (by rw [hb]; exact d0) (Nat.le_refl _) (Nat.le_refl _)
  generalize hT1 : (T.setVm vm₁).pushCell { cls := cX, slots := kX.instanceTypes.map defaultValue, vm := .none } = T1 at X₁ st1
  have hcat : (Value.ref T.heap.size).category = 1 := rfl
  have hcellA : T1.heap[T.heap.size]? = some (freshCell cX kX) := by rw [← hT1]; exact State.heap_pushCell_size _ _
  have d3' : decode c.code (pc + 3) = .ok (.dup, 1) := by rw [hb]; exact d3
  have d4' : decode c.code (pc + 4) = .ok (.ldc_w is, 3) := by rw [hb]; exact d4
  have hstr' : vk_R own is text sa s' := vk_R.warm hW0 hstr
  obtain ⟨U, hsteps, hrun, hend, hW, hsame, ce, hce, hO⟩ := X₁.ctorThrowS hexec htr (own := own) (cls := cls) (names := names) (ic := ic) hown' hcls hnames h (fun x hx => nomatch hx) hfX hkX hcellA (by rw [hhp, hT]; exact Nat.le_refl _) (msg := .ref sa) rfl
    (g := { method := m, pc := pc + 7, locals := ls, stack := .ref sa :: .ref T.heap.size :: .ref T.heap.size :: rest, locked := none }) rfl hsize rfl rfl (rest := rest) rfl
    (by rw [hb]; exact d7) (by rw [hb]; exact d10) hout hRframes (by simp only [List.map_cons, List.sum_cons, hcat]; omega) hlocks
  obtain ⟨f1, f2⟩ := vx_frame hsame
  rw [hhp] at f1 f2
  have hWs : s.WarmedH U.vm := State.WarmedH.trans hW0 hW
  have hcl : s.vm.findClass cls = some ce.cls := by
    have h9 := hO.cls
    rw [hvm] at h9
    exact h9
  have hall : s.sameButNew ({ U with vm := s.vm } : State) locs mc ms := by
    subst hA
    obtain ⟨e1, e2⟩ := hsame
    rw [State.setFrames_setFrames] at e1
    have h2 : (T.setVm s.vm).sameButNew ({ U with vm := s.vm } : State) [] (0 + 1) (0 + 6) := ⟨e1, e2⟩
    have h3 := X.same.trans h2
    rw [List.append_nil] at h3
    exact h3.mono hc hs
  refine ⟨U, ?_, .threw T.heap.size, hrun, hend, Or.inr ⟨T.heap.size, rfl, cls, ce, locs, hx U hWs.alike f1 (fun q hq => f2 q hq (fun z hz => nomatch hz)), hce, hO.vm, hcl, hWs, hall, hf⟩⟩
  refine st1 _ ?_
  show Steps p.tables e below (T1.setTop { method := m, pc := pc + 3, locals := ls, stack := .ref T.heap.size :: rest, locked := none }) _
  jvm_step X₁.here [X₁.here.top, hexec, d3', Value.category]
  exact X₁.ldcStringW hexec (own := own) (text := text) (index := is) (a := sa) hown' hstr'.1 hstr'.2
    (g := { method := m, pc := pc + 4, locals := ls, stack := .ref T.heap.size :: .ref T.heap.size :: rest, locked := none }) rfl d4' _ hsteps
end Ends
section Bodies
variable {l : Launch}
theorem vx_ofW {y : MethodName} {ws ws' : List Cond} {rm : Room} {Pc : Array Value → State → Prop} {Qc : Array Value → State → Outcome → State → Prop} {XC : String → State → State → Prop} {mc ms : Nat} {free : Addr → Prop} {cc : ByteArray} {maxL : Nat} {ret : Option FieldType}
    (hy : plainName y.cls = true) (hw : ws = Cond.code y cc maxL ret :: ws')
    (body : ∀ p e s m args below meth c s₁, BodyLoose p l y (headSpec ws rm) cc maxL ret e s m args below meth c s₁ → c.maxLocals = maxL → (∀ x ∈ c.exceptionTable.toList, False) → Pc args s →
      W p l e (headSpec ws rm).room s m args below meth c s.heap [] 0 0 (vx_MQ below Qc XC args s mc ms free) (entryFrame m args maxL)) : vx_Met l y ws rm Pc Qc XC mc ms free := by
  refine MetFree.of_bodyS (code := cc) (maxLocals := maxL) (ret := ret) hy ?_ ?_
  · intro args s m h hn
    obtain ⟨meth, c, h1, h2, h3, h4, h5, h6, -, -⟩ := Cond.code_spec hn (atoms_spec (ws := ws) h _ (by rw [hw]; exact List.mem_cons_self))
    exact ⟨meth, c, h1, h2, h3, h4, h5, h6⟩
  · intro p e s m args below meth c s₁ B hml hP _
    have hh0 : s₁.heap = s.heap := by rw [B.state]; rfl
    have ht : ∀ x ∈ c.exceptionTable.toList, False := by
      obtain ⟨meth9, c9, h1, h2, -, -, -, -, h7, -⟩ := Cond.code_spec B.named (atoms_spec (ws := ws) B.pre _ (by rw [hw]; exact List.mem_cons_self))
      cases Option.some.inj (h1.symm.trans B.method)
      cases Option.some.inj (h2.symm.trans (Stand.of_body B).code)
      intro x hx
      rw [Array.isEmpty_iff.mp h7] at hx
      cases hx
    obtain ⟨t, a1, o, b1, b2, b3⟩ := body p e s m args below meth c s₁ B hml ht hP s₁ hh0 (Stand.of_body B)
    exact ⟨t, o, a1, b1, b2, b3⟩
/-- the table of a body with handlers -/
theorem vx_table {p : Program} {x y : MethodName} {S : Spec} {cc bytes : ByteArray} {maxL maxL' : Nat} {ret ret' : Option FieldType} {e : Env} {s s₁ : State} {m : MethodId} {args : Array Value} {below : List Frame} {meth : Method} {c : Code} {hh : List (Nat × Nat × Nat × Nat)}
    (B : BodyLoose p l y S cc maxL ret e s m args below meth c s₁) (h : (Cond.codeWith y bytes maxL' ret' hh).before args s = true) : c.exceptionTable.toList = tableOf hh := by
  obtain ⟨m9, meth9, c9, hn9, h1, h2, -, -, h6, -⟩ := Cond.codeWith_spec h
  cases Option.some.inj (hn9.symm.trans B.named)
  cases Option.some.inj (h1.symm.trans B.method)
  cases Option.some.inj (h2.symm.trans (Stand.of_body B).code)
  rw [← h6, table_eq]
end Bodies
end VXA
/-! ===== END ===== -/
/-! ===== BEGIN a static call of a method with an exception table ===== -/
section VXS
variable {p : Program} {l : Launch} {e : Env} {R : Room} {s : State} {m : MethodId} {args : Array Value} {below : List Frame} {meth : Method} {c : Code} {T : State} {H : Heap} {locs : List Loc} {cells slots : Nat}
abbrev vx_CSW (R : Room) (s : State) (args : Array Value) (own : String) (index : Nat) (y : MethodName) (bytes : ByteArray) (maxL : Nat) (ret : Option FieldType) (hh : List (Nat × Nat × Nat × Nat)) (ws : List Cond) (rm : Room) (mc ms n : Nat) : Prop :=
  (rm.cells = mc ∧ rm.slots = ms ∧ rm.frames + 1 ≤ R.frames ∧ 8 + (maxL + 11) + rm.locals ≤ R.locals ∧ (∀ w ∈ ws, ∀ (a' : Array Value) (U : State), s.WarmedH U.vm → w.before a' U = true) ∧ Cond.codeWith y bytes maxL ret hh ∈ ws) ∧
  (Cond.codeWith y bytes maxL ret hh).before args s = true ∧ (Cond.initialized y.cls).before args s = true ∧ (y.cls ≠ "java/lang/invoke/MethodHandle" ∧ y.cls ≠ "java/lang/invoke/VarHandle") ∧
  (∀ sig, parseMethodDescriptor y.desc = some sig → n = sig.parameters.length) ∧ (Cond.methodLink own index y).before args s = true ∧ (Cond.static y).before args s = true
theorem vx_cwSW {own : String} {index maxL mc ms : Nat} {y : MethodName} {bytes : ByteArray} {ret : Option FieldType} {hh : List (Nat × Nat × Nat × Nat)} {Ts ws ws' : List Cond} {rm : Room} (n : Nat) (ht : ∀ w ∈ Ts, w.before args s = true) (hT : GoodIn Ts (va_wsS own index y ws)) (hw : ws = Cond.codeWith y bytes maxL ret hh :: ws') (hrc : rm.cells = mc) (hrs : rm.slots = ms)
    (hd : y.cls ≠ "java/lang/invoke/MethodHandle" ∧ y.cls ≠ "java/lang/invoke/VarHandle" ∧ (parseMethodDescriptor y.desc).map (fun d => d.parameters.length) = some n) (hR : rm.frames + 1 ≤ R.frames ∧ 8 + (maxL + 11) + rm.locals ≤ R.locals) :
    vx_CSW R s args own index y bytes maxL ret hh ws rm mc ms n := by
  have ok : ∀ w ∈ va_wsS own index y ws, w.before args s = true := fun w h => ht w (hT w h).1
  have hG : GoodIn Ts ws := fun w h => hT w (by unfold va_wsS; exact List.mem_append_right _ h)
  have hc : Cond.codeWith y bytes maxL ret hh ∈ ws := by rw [hw]; exact List.mem_cons_self
  refine ⟨⟨hrc, hrs, hR.1, hR.2, pay_in ht hG, hc⟩, ht _ (hG _ hc).1, ok _ (by simp [va_wsS]), ⟨hd.1, hd.2.1⟩, fun sig h => ?_, ok _ (by simp [va_wsS]), ok _ (by simp [va_wsS])⟩
  have h2 := hd.2.2
  rw [h] at h2
  exact (Option.some.inj h2).symm
theorem vx_callSW (X : Stand p l e R s m args below meth c T locs cells slots) (hexec : p.tables.exec = Jvm.exec) {own : String} {index : Nat} {y : MethodName} {bytes : ByteArray} {maxL : Nat} {ret : Option FieldType} {hh : List (Nat × Nat × Nat × Nat)}
    (hown : s.vm.findClass own = some m.cls) (hlink : (Cond.methodLink own index y).before args s = true) (hstat : (Cond.static y).before args s = true) (hinit : (Cond.initialized y.cls).before args s = true)
    (hcode : (Cond.codeWith y bytes maxL ret hh).before args s = true) (hy : y.cls ≠ "java/lang/invoke/MethodHandle" ∧ y.cls ≠ "java/lang/invoke/VarHandle")
    {W9 : Nat} {Pre : Pt → Array Value → Prop} {Post : Pt → Array Value → Option Value → Pt → Prop} (hK : Back l R p e below s args y 3 W9 Pre Post)
    {g : JFrame} (hg : g.method = m) (hsize : g.locals.size = c.maxLocals) {argsL rest : List Value} (hlen : ∀ sig, parseMethodDescriptor y.desc = some sig → argsL.length = sig.parameters.length)
    (hstack : g.stack = argsL.reverse ++ rest) (hW : 2 * g.monitorRoom + (rest.map fun v => v.category).sum ≤ W9) (hdg : decode c.code g.pc = .ok (.invokestatic index, 3))
    (hpre : ∀ vm₁, s.WarmedH vm₁ → Pre ⟨T.setVm vm₁, locs, cells, slots⟩ argsL.toArray) :
    ∃ (v : Option Value) (vm₁ : Vm) (B : Pt), s.WarmedH vm₁ ∧ Stand p l e R s m args below meth c B.U B.locs B.cells B.slots ∧ Post ⟨T.setVm vm₁, locs, cells, slots⟩ argsL.toArray v B ∧
      ∀ target, Steps p.tables e below (B.U.setTop { g with pc := g.pc + 3, stack := v.toList ++ rest }) target → Steps p.tables e below (T.setTop g) target := by
  obtain ⟨mk, methM, cM, hnamed, hmethM, -, -, -, -, -, -, hsigM⟩ := Cond.codeWith_spec hcode
  have hstatic : methM.isStatic = true := Cond.static_spec hnamed hmethM hstat
  obtain ⟨kP, hkP, -⟩ := className_of_methodNamed hnamed
  have hinitP : kP.init = .initialized := Cond.initialized_spec (findClass_of_methodNamed hnamed) hkP hinit
  obtain ⟨vm₁, X₁, hstep₁⟩ := X.invokestatic hexec hown hlink hnamed hmethM hstatic hkP hinitP hy (g := g) hg (argsL := argsL) (rest := rest) (hlen _ hsigM) hstack hdg
  obtain ⟨v, B, X', hpost, hsteps⟩ := hK m meth c ⟨T.setVm vm₁, locs, cells, slots⟩ { g with stack := rest } (.invokestatic index) mk argsL.toArray X₁ hg hsize hdg hW (X₁.named hnamed) (hpre vm₁ X₁.warmed)
  exact ⟨v, vm₁, B, X₁.warmed, X', hpost, fun target h => hstep₁ _ fun acts => by rw [doInvoke_state]; exact hsteps.trans h⟩
theorem vx_runSW {y : MethodName} {bytes cc : ByteArray} {maxL nL mc ms n index : Nat} {ret : Option FieldType} {hh : List (Nat × Nat × Nat × Nat)} {ws : List Cond} {rm : Room} {Pc : Array Value → State → Prop} {Qc : Array Value → State → Outcome → State → Prop} {free : Addr → Prop} {Ts : List Cond} {own : String} {As rest : List Value} {g : JFrame}
    (S : CallFix p m c cc nL s args Ts own) (hM : Met l y ws rm Pc Qc mc ms free) (cw : vx_CSW R s args own index y bytes maxL ret hh ws rm mc ms n) (hp : PreS s H Pc As)
    (hg : g.method = m) (hn : As.length = n) (hsize : g.locals.size = nL) (hstack : g.stack = As.reverse ++ rest) (hW : 2 * g.monitorRoom + (rest.map fun v => v.category).sum ≤ 8) (hdg : decode cc g.pc = .ok (.invokestatic index, 3)) (hf : cells + mc ≤ R.cells ∧ slots + ms ≤ R.slots) :
    va_Run p l e R s m args below meth c H locs cells slots mc ms g rest (Qc As.toArray) (free) := by
  obtain ⟨⟨hrc, hrs, hfr, hlo, hws, hcw⟩, hcode, hini, hy, hlen, hl, hstt⟩ := cw
  have hK : Back l R p e below s args y 3 8 (PreOf R mc ms Pc) (PostOf Qc mc ms free) := va_backW (hh := hh) (bytes := bytes) (maxL := maxL) (ret := ret) hM hp.1 hrc hrs hfr hlo hws hcw (fun a' U hW => word_at hW (Or.inl (by first | rfl | simp [Cond.onTables, Cond.keeps, Cond.steady])) hini)
  obtain ⟨hx, hb, hml, ho, -⟩ := S
  intro T hT X
  obtain ⟨v, vm₁, ⟨U', l2, c2, s2⟩, hW₁, X', ⟨g', mk, t, L, e1, e2, hq, h1, hL, h2, h3⟩, st⟩ := vx_callSW X hx (hh := hh) (bytes := bytes) (maxL := maxL) (ret := ret) ho hl hstt hini hcode hy hK hg (hsize.trans hml.symm) (argsL := As) (rest := rest) (fun sig h => hn.trans (hlen sig h)) hstack hW (by rw [hb]; exact hdg)
    (fun vm₁ hW₁ => ⟨hf.1, hf.2, hp.2 (T.setVm vm₁) hT hW₁⟩)
  dsimp only [Pt.U, Pt.locs, Pt.cells, Pt.slots] at X' e1 e2 h1 h2 h3 st
  subst h1; subst h2; subst h3
  exact ⟨v, (T.setVm vm₁).calling g' mk As.toArray, t, U', L, hT, X', hL, e1, e2, hq, st⟩
/-- not caught here, past rows that name other classes: it goes on to the caller -/
theorem vx_outP {p : Program} {l : Launch} {e : Env} {R : Room} {s : State} {m : MethodId} {args : Array Value} {below : List Frame} {meth : Method} {c : Code} {H : Heap} {locs : List Loc} {cells slots : Nat} {free : Addr → Prop} {ls : Array Slot} {rest : List Value} {Qc : Array Value → State → Outcome → State → Prop} {XC : String → State → State → Prop}
    {pc : Nat} {own E : String} {ce : Cell} {q : Addr} {mc ms : Nat} (hown : s.vm.findClass own = some m.cls) (hlocks : meth.locks = false)
    (hpass : ∀ z ∈ c.exceptionTable.toList, covers z pc = false ∨ (z.catchType ≠ 0 ∧ ∃ nm : String, (Cond.classLink own z.catchType nm).before args s = true ∧ va_Nc E nm s)) (hcell : H[q]? = some ce) (hv : ce.vm = .none) (hcl : s.vm.findClass E = some ce.cls)
    (hx : ∀ t : State, t.heap = H → s.vm.Alike t.vm → XC E s t) (hf : ∀ z ∈ locs, free z.base) (hc : cells ≤ mc) (hs : slots ≤ ms) :
    vx_W p l e R s m args below meth c H locs cells slots (vx_MQ below Qc XC args s mc ms free) (F0 m pc ls rest) q := by
  intro T hT X
  have hpl : e.platform.magicAccessors = ({} : Platform).magicAccessors := by rw [X.admits.platform]
  obtain ⟨vm', hW', X', st⟩ := X.outThrough hlocks q (g := F0 m pc ls rest) rfl rfl rfl (cell := ce) (by rw [hT]; exact hcell) (by rw [hv]; rfl)
    (by obtain ⟨k9, h9, -⟩ := Vm.findClass_spec hcl; exact ⟨k9, h9⟩) (fun z hz => by
      rcases hpass z hz with h | ⟨hz0, nm, hl1, hn1⟩
      · exact Or.inl h
      · obtain ⟨c6, hc6, hcl6⟩ := Cond.classLink_spec hown hl1 e.platform hpl
        obtain ⟨a8, b8, h1, h2, h3⟩ := hn1
        cases Option.some.inj (h1.symm.trans hcl)
        cases Option.some.inj (h2.symm.trans hc6)
        exact Or.inr ⟨hz0, _, hcl6, h3⟩)
  obtain ⟨g₀, hfr⟩ := X'.frames_eq
  have hcell9 : ((T.setVm vm').setFrames (.throwing q :: below)).heap[q]? = some ce := by
    show T.heap[q]? = some ce
    rw [hT]; exact hcell
  have hend : Ended ((T.setVm vm').setFrames (.throwing q :: below)) below (.threw q) := State.frames_setFrames _ (State.cur_lt_of_frames hfr)
  refine ⟨(T.setVm vm').setFrames (.throwing q :: below), ?_, .threw q, X'.here.running, hend, Or.inr ⟨q, rfl, E, ce, locs, hx _ hT (X'.ends _).1.alike, hcell9, hv, hcl, (X'.ends _).1, (X'.ends _).2.mono hc hs, hf⟩⟩
  rw [X.pushThrowing_eq]
  exact st
/-- a thing of a world lies in the heap -/
theorem vx_lt {D : va_G} {cl : List vw_C} {ws : va_W} {H1 : Heap} (h : va_P D cl ws H1) {k : Nat} {q : Nat × va_E} (hk : ws[k]? = some q) : q.1 < H1.size := (h k q hk).lt
end VXS
/-! ===== END ===== -/
/-! ===== BEGIN methods with a table of their own: called by a name, returning or throwing ===== -/
section VXH
/-! vx_backW, vx_callVX, vx_callSX, vx_callVW, vx_runVW, vx_runVX, vx_runSX, vx_ofWH follow the same proofs as their sisters above (Free/Laws.lean, Shelf42/LK1.lean); vx_outP calls Shelf42/NT130.lean (outThrough). -/
section
variable {l : Launch} {R : Room} {p : Program} {e : Env} {below : List Frame} {s : State} {sargs : Array Value} {y : MethodName} {len W9 : Nat}
theorem vx_backW {ws : List Cond} {rm : Room} {Pc : Array Value → State → Prop} {Qc : Array Value → State → Outcome → State → Prop} {XC : String → State → State → Prop} {mc ms : Nat} {free : Addr → Prop} {bytes : ByteArray} {maxL : Nat} {ret : Option FieldType} {hh : List (Nat × Nat × Nat × Nat)}
    (hM : vx_Met l y ws rm Pc Qc XC mc ms free) (hblind : FrameBlind Pc) (hrc : rm.cells = mc) (hrs : rm.slots = ms)
    (hframes : rm.frames + 1 ≤ R.frames) (hlocals : W9 + (maxL + 11) + rm.locals ≤ R.locals)
    (hws : ∀ w ∈ ws, ∀ a' U, s.WarmedH U.vm → w.before a' U = true) (hcode : Cond.codeWith y bytes maxL ret hh ∈ ws) (hinit : ∀ a' U, s.WarmedH U.vm → (Cond.initialized y.cls).before a' U = true) :
    vx_Back l R p e below s sargs y len W9 (PreOf R mc ms Pc) (PostOf Qc mc ms free) (vx_Post XC mc ms free) := by
  intro m meth c A g ig mk a X hg hsize hdg hW hn hp
  have h1 : (headSpec ws rm).pre.before a A.U = true := atoms_intro fun w hw => hws w hw _ _ X.warmed
  have h2 : (Cond.codeWith y bytes maxL ret hh).before a A.U = true := hws _ hcode _ _ X.warmed
  have h3 : (Cond.initialized y.cls).before a A.U = true := hinit _ _ X.warmed
  have h4 : A.cells + (headSpec ws rm).room.cells ≤ R.cells := by rw [show (headSpec ws rm).room.cells = mc from hrc]; exact hp.1
  have h5 : A.slots + (headSpec ws rm).room.slots ≤ R.slots := by rw [show (headSpec ws rm).room.slots = ms from hrs]; exact hp.2.1
  have hPc : Pc a (A.U.calling g mk a) := hblind _ _ _ _ hp.2.2
  obtain ⟨U, Ls, c0, s0⟩ := A
  dsimp only [Pt.U, Pt.locs, Pt.cells, Pt.slots] at h1 h2 h3 h4 h5 X hn hPc ⊢
  obtain ⟨m9, methY, cY, hn9, hmY, hcY, -, hlY, -⟩ := Cond.codeWith_spec h2
  cases Option.some.inj (hn9.symm.trans hn)
  obtain ⟨kY, hkY, -⟩ := className_of_methodNamed hn
  have hinitY : kY.init = .initialized := Cond.initialized_spec (findClass_of_methodNamed hn) hkY h3
  have h : At U g.method c below := by rw [hg]; exact X.here
  have hlocals9 : W9 + (maxL + 11) + (headSpec ws rm).room.locals ≤ R.locals := hlocals
  have happ : (headSpec ws rm).appliesLoose y e.platform (U.calling g mk a) = true :=
    Spec.appliesLoose_calling (g := g) h hdg hn hkY hinitY
      (X.room_calling (g := g) (R' := (headSpec ws rm).room) hsize hmY hcY hframes (by rw [hlY]; omega) h4 h5) h1
  obtain ⟨mid, hmid⟩ := h.above
  have hfr : (U.setTop g).frames = (.java g :: mid) ++ below := by rw [State.frames_setTop' g h.top, hmid]; rfl
  obtain ⟨o, s₂, hsteps, -, hend, hq⟩ := Steps.callFree hM p X.admits X.cas X.clock (acts := []) hfr happ hPc trivial
  have hq' : vx_Q Qc XC mc ms free a (U.calling g mk a) o s₂ := hq
  rw [State.frames_setTop' g h.top] at hend
  obtain ⟨g₀, hg0⟩ := Option.isSome_iff_exists.mp h.top
  obtain ⟨r, hr⟩ := State.topJava?_eq_some.mp hg0
  have hr' : (({ U with heap := s₂.heap, slotsUsed := s₂.slotsUsed } : State).setVm s₂.vm).frames = .java g₀ :: r := hr
  rcases hq' with ⟨hqc, L, hfe, hL⟩ | ⟨q, rfl, E, ce, L, hx, hce, hcv, hcl, hW₂, hsm, hL⟩
  · obtain ⟨⟨v, rfl⟩, hW₂, e2, q2, q3, q4, q5, q6⟩ := id hfe
    have e3 : s₂ = ({ (U.calling g mk a).setFrames s₂.frames with heap := s₂.heap, slotsUsed := s₂.slotsUsed } : State).setVm s₂.vm := by
      have : s₂ = ({ s₂ with vm := (U.calling g mk a).vm } : State).setVm s₂.vm := rfl
      rw [e2] at this
      exact this
    obtain ⟨c₂, i₂, len₂, hc₂, hd₂, hf₂⟩ := hend
    have hW' : U.WarmedH s₂.vm := hW₂
    have hcc : c₂ = c := by
      have h1 : s₂.code? g.method = U.code? g.method := by
        rw [State.code?_eq, State.code?_eq, hW'.alike.method?]
      exact Option.some.inj (hc₂.symm.trans (h1.trans h.code))
    subst hcc
    have hlen : len₂ = len := by rw [hdg] at hd₂; cases hd₂; rfl
    subst hlen
    have hs₂ : s₂ = (({ U with heap := s₂.heap, slotsUsed := s₂.slotsUsed } : State).setVm s₂.vm).setTop { g with pc := g.pc + len₂, stack := v.toList ++ g.stack } := by
      refine e3.trans ?_
      rw [hf₂, State.calling_eq h.top, State.setFrames_setFrames, State.setTop_of_frames _ hr', hr]
      rfl
    have hsame : U.sameButNew ({ U with heap := s₂.heap, slotsUsed := s₂.slotsUsed } : State) L mc ms := by
      refine ⟨?_, q2, q3, q4, q5, q6⟩
      obtain ⟨t, ht, -⟩ := State.frames_cons hr
      show ({ U with heap := s₂.heap, slotsUsed := s₂.slotsUsed } : State) = { U.setFrames U.frames with heap := s₂.heap, slotsUsed := s₂.slotsUsed }
      rw [State.setFrames_self ht]
    subst hg
    refine Or.inl ⟨v, ⟨(({ U with heap := s₂.heap, slotsUsed := s₂.slotsUsed } : State).setVm s₂.vm), Ls ++ L, c0 + mc, s0 + ms⟩,
      ⟨X.admits, X.cas, X.clock, X.frames, X.room, X.hears, X.method, X.code, (X.here.setHeapUsed s₂.heap s₂.slotsUsed).setVm hW'.alike, X.tail, State.WarmedH.trans X.warmed hW', X.limits, X.bytes, X.same.trans (hsame.setVm s.vm)⟩,
      ⟨g, mk, s₂, L, rfl, rfl, hqc, rfl, hL, rfl, rfl⟩, ?_⟩
    show Steps p.tables e below _ ((({ U with heap := s₂.heap, slotsUsed := s₂.slotsUsed } : State).setVm s₂.vm).setTop { g with pc := g.pc + len₂, stack := v.toList ++ g.stack })
    rw [← hs₂]
    exact hsteps
  · obtain ⟨e2, q2, q3, q4, q5, q6⟩ := id hsm
    have e3 : s₂ = ({ (U.calling g mk a).setFrames s₂.frames with heap := s₂.heap, slotsUsed := s₂.slotsUsed } : State).setVm s₂.vm := by
      have : s₂ = ({ s₂ with vm := (U.calling g mk a).vm } : State).setVm s₂.vm := rfl
      rw [e2] at this
      exact this
    have hf₂ : s₂.frames = .throwing q :: .java g :: U.frames.tail := hend
    have hW' : U.WarmedH s₂.vm := hW₂
    have hs₂ : s₂ = ((({ U with heap := s₂.heap, slotsUsed := s₂.slotsUsed } : State).setVm s₂.vm).setTop g).pushFrame (.throwing q) := by
      refine e3.trans ?_
      rw [hf₂, State.calling_eq h.top, State.setFrames_setFrames, State.pushFrame, State.frames_setTop _ hr', State.setTop_of_frames _ hr', State.setFrames_setFrames, hr]
      rfl
    have hsame : U.sameButNew ({ U with heap := s₂.heap, slotsUsed := s₂.slotsUsed } : State) L mc ms := by
      refine ⟨?_, q2, q3, q4, q5, q6⟩
      obtain ⟨t, ht, -⟩ := State.frames_cons hr
      show ({ U with heap := s₂.heap, slotsUsed := s₂.slotsUsed } : State) = { U.setFrames U.frames with heap := s₂.heap, slotsUsed := s₂.slotsUsed }
      rw [State.setFrames_self ht]
    subst hg
    refine Or.inr ⟨q, ⟨(({ U with heap := s₂.heap, slotsUsed := s₂.slotsUsed } : State).setVm s₂.vm), Ls ++ L, c0 + mc, s0 + ms⟩,
      ⟨X.admits, X.cas, X.clock, X.frames, X.room, X.hears, X.method, X.code, (X.here.setHeapUsed s₂.heap s₂.slotsUsed).setVm hW'.alike, X.tail, State.WarmedH.trans X.warmed hW', X.limits, X.bytes, X.same.trans (hsame.setVm s.vm)⟩,
      ⟨g, mk, s₂, L, E, ce, rfl, rfl, hx, hce, hcv, hcl, rfl, hL, rfl, rfl⟩, ?_⟩
    show Steps p.tables e below _ (((({ U with heap := s₂.heap, slotsUsed := s₂.slotsUsed } : State).setVm s₂.vm).setTop g).pushFrame (.throwing q))
    rw [← hs₂]
    exact hsteps
end
variable {p : Program} {l : Launch} {e : Env} {R : Room} {s : State} {m : MethodId} {args : Array Value} {below : List Frame} {meth : Method} {c : Code} {T : State} {H : Heap} {locs : List Loc} {cells slots : Nat}
theorem vx_callVX (X : Stand p l e R s m args below meth c T locs cells slots) (hexec : p.tables.exec = Jvm.exec) {own C : String} {index : Nat} {y : MethodName} {bytes : ByteArray} {maxL : Nat} {ret : Option FieldType} {hh : List (Nat × Nat × Nat × Nat)}
    (hown : s.vm.findClass own = some m.cls) (hlink : (Cond.methodLink own index y).before args s = true) (hinst : (Cond.instanceMethod y).before args s = true) (hsel : (Cond.selects C y y).before args s = true)
    (hcode : (Cond.codeWith y bytes maxL ret hh).before args s = true) (hy : y.cls ≠ "java/lang/invoke/MethodHandle" ∧ y.cls ≠ "java/lang/invoke/VarHandle")
    {W9 : Nat} {Pre : Pt → Array Value → Prop} {Post : Pt → Array Value → Option Value → Pt → Prop} {PostX : Pt → Array Value → Addr → Pt → Prop} (hK : vx_Back l R p e below s args y 3 W9 Pre Post PostX)
    {b : Addr} {cellB : Cell} (hcell : T.heap[b]? = some cellB) (hobj : cellB.vm.isStatics = false) (hcls : s.vm.findClass C = some cellB.cls)
    {g : JFrame} (hg : g.method = m) (hsize : g.locals.size = c.maxLocals) {argsL rest : List Value} (hlen : ∀ sig, parseMethodDescriptor y.desc = some sig → argsL.length = sig.parameters.length)
    (hstack : g.stack = argsL.reverse ++ .ref b :: rest) (hW : 2 * g.monitorRoom + (rest.map fun v => v.category).sum ≤ W9) (hdg : decode c.code g.pc = .ok (.invokevirtual index, 3))
    (hpre : ∀ vm₁, s.WarmedH vm₁ → Pre ⟨T.setVm vm₁, locs, cells, slots⟩ (Value.ref b :: argsL).toArray) :
    (∃ (v : Option Value) (vm₁ : Vm) (B : Pt), s.WarmedH vm₁ ∧ Stand p l e R s m args below meth c B.U B.locs B.cells B.slots ∧ Post ⟨T.setVm vm₁, locs, cells, slots⟩ (Value.ref b :: argsL).toArray v B ∧
      ∀ target, Steps p.tables e below (B.U.setTop { g with pc := g.pc + 3, stack := v.toList ++ rest }) target → Steps p.tables e below (T.setTop g) target) ∨
    (∃ (q : Addr) (vm₁ : Vm) (B : Pt), s.WarmedH vm₁ ∧ Stand p l e R s m args below meth c B.U B.locs B.cells B.slots ∧ PostX ⟨T.setVm vm₁, locs, cells, slots⟩ (Value.ref b :: argsL).toArray q B ∧
      Steps p.tables e below (T.setTop g) ((B.U.setTop { g with stack := rest }).pushFrame (.throwing q))) := by
  obtain ⟨mk, methM, hnamed, hmethM, hstM, habM⟩ := Cond.instanceMethod_spec hinst
  obtain ⟨m8, methM', cM, hn8, hmethM', -, -, -, -, -, -, hsigM⟩ := Cond.codeWith_spec hcode
  cases Option.some.inj (hn8.symm.trans hnamed)
  cases hmethM.symm.trans hmethM'
  obtain ⟨c2, r2, m2, q1, q2, q3, q4, kP, hkP, hkPi⟩ := Cond.selects_spec hsel
  cases hcls.symm.trans q1
  cases (State.methodFound?_of_named hnamed hy).symm.trans q2
  cases hnamed.symm.trans q3
  have hselP : selectMethod e.platform s.vm cellB.cls mk = .method mk := by rw [Launch.admits_selectMethod X.admits]; exact q4
  obtain ⟨vm₁, X₁, hstep₁⟩ := X.invokevirtual hexec hown hlink hnamed hmethM hstM hkP hkPi hy (a := b) (cell := cellB) hcell
    (fun z h => by rw [h] at hobj; cases hobj) hselP hmethM habM hkP hkPi (g := g) hg (argsL := argsL) (rest := rest) (hlen _ hsigM) hstack hdg
  rcases hK m meth c ⟨T.setVm vm₁, locs, cells, slots⟩ { g with stack := rest } (.invokevirtual index) mk (Value.ref b :: argsL).toArray X₁ hg hsize hdg hW (X₁.named hnamed) (hpre vm₁ X₁.warmed) with ⟨v, B, X', hpost, hsteps⟩ | ⟨q, B, X', hpost, hsteps⟩
  · exact Or.inl ⟨v, vm₁, B, X₁.warmed, X', hpost, fun target h => hstep₁ _ fun acts => by rw [doInvoke_state]; exact hsteps.trans h⟩
  · exact Or.inr ⟨q, vm₁, B, X₁.warmed, X', hpost, hstep₁ _ fun acts => by rw [doInvoke_state]; exact hsteps⟩
theorem vx_callSX (X : Stand p l e R s m args below meth c T locs cells slots) (hexec : p.tables.exec = Jvm.exec) {own : String} {index : Nat} {y : MethodName} {bytes : ByteArray} {maxL : Nat} {ret : Option FieldType} {hh : List (Nat × Nat × Nat × Nat)}
    (hown : s.vm.findClass own = some m.cls) (hlink : (Cond.methodLink own index y).before args s = true) (hstat : (Cond.static y).before args s = true) (hinit : (Cond.initialized y.cls).before args s = true)
    (hcode : (Cond.codeWith y bytes maxL ret hh).before args s = true) (hy : y.cls ≠ "java/lang/invoke/MethodHandle" ∧ y.cls ≠ "java/lang/invoke/VarHandle")
    {W9 : Nat} {Pre : Pt → Array Value → Prop} {Post : Pt → Array Value → Option Value → Pt → Prop} {PostX : Pt → Array Value → Addr → Pt → Prop} (hK : vx_Back l R p e below s args y 3 W9 Pre Post PostX)
    {g : JFrame} (hg : g.method = m) (hsize : g.locals.size = c.maxLocals) {argsL rest : List Value} (hlen : ∀ sig, parseMethodDescriptor y.desc = some sig → argsL.length = sig.parameters.length)
    (hstack : g.stack = argsL.reverse ++ rest) (hW : 2 * g.monitorRoom + (rest.map fun v => v.category).sum ≤ W9) (hdg : decode c.code g.pc = .ok (.invokestatic index, 3))
    (hpre : ∀ vm₁, s.WarmedH vm₁ → Pre ⟨T.setVm vm₁, locs, cells, slots⟩ argsL.toArray) :
    (∃ (v : Option Value) (vm₁ : Vm) (B : Pt), s.WarmedH vm₁ ∧ Stand p l e R s m args below meth c B.U B.locs B.cells B.slots ∧ Post ⟨T.setVm vm₁, locs, cells, slots⟩ argsL.toArray v B ∧
      ∀ target, Steps p.tables e below (B.U.setTop { g with pc := g.pc + 3, stack := v.toList ++ rest }) target → Steps p.tables e below (T.setTop g) target) ∨
    (∃ (q : Addr) (vm₁ : Vm) (B : Pt), s.WarmedH vm₁ ∧ Stand p l e R s m args below meth c B.U B.locs B.cells B.slots ∧ PostX ⟨T.setVm vm₁, locs, cells, slots⟩ argsL.toArray q B ∧
      Steps p.tables e below (T.setTop g) ((B.U.setTop { g with stack := rest }).pushFrame (.throwing q))) := by
  obtain ⟨mk, methM, cM, hnamed, hmethM, -, -, -, -, -, -, hsigM⟩ := Cond.codeWith_spec hcode
  have hstatic : methM.isStatic = true := Cond.static_spec hnamed hmethM hstat
  obtain ⟨kP, hkP, -⟩ := className_of_methodNamed hnamed
  have hinitP : kP.init = .initialized := Cond.initialized_spec (findClass_of_methodNamed hnamed) hkP hinit
  obtain ⟨vm₁, X₁, hstep₁⟩ := X.invokestatic hexec hown hlink hnamed hmethM hstatic hkP hinitP hy (g := g) hg (argsL := argsL) (rest := rest) (hlen _ hsigM) hstack hdg
  rcases hK m meth c ⟨T.setVm vm₁, locs, cells, slots⟩ { g with stack := rest } (.invokestatic index) mk argsL.toArray X₁ hg hsize hdg hW (X₁.named hnamed) (hpre vm₁ X₁.warmed) with ⟨v, B, X', hpost, hsteps⟩ | ⟨q, B, X', hpost, hsteps⟩
  · exact Or.inl ⟨v, vm₁, B, X₁.warmed, X', hpost, fun target h => hstep₁ _ fun acts => by rw [doInvoke_state]; exact hsteps.trans h⟩
  · exact Or.inr ⟨q, vm₁, B, X₁.warmed, X', hpost, hstep₁ _ fun acts => by rw [doInvoke_state]; exact hsteps⟩
theorem vx_callVW (X : Stand p l e R s m args below meth c T locs cells slots) (hexec : p.tables.exec = Jvm.exec) {own C : String} {index : Nat} {y : MethodName} {bytes : ByteArray} {maxL : Nat} {ret : Option FieldType} {hh : List (Nat × Nat × Nat × Nat)}
    (hown : s.vm.findClass own = some m.cls) (hlink : (Cond.methodLink own index y).before args s = true) (hinst : (Cond.instanceMethod y).before args s = true) (hsel : (Cond.selects C y y).before args s = true)
    (hcode : (Cond.codeWith y bytes maxL ret hh).before args s = true) (hy : y.cls ≠ "java/lang/invoke/MethodHandle" ∧ y.cls ≠ "java/lang/invoke/VarHandle")
    {W9 : Nat} {Pre : Pt → Array Value → Prop} {Post : Pt → Array Value → Option Value → Pt → Prop} (hK : Back l R p e below s args y 3 W9 Pre Post)
    {b : Addr} {cellB : Cell} (hcell : T.heap[b]? = some cellB) (hobj : cellB.vm.isStatics = false) (hcls : s.vm.findClass C = some cellB.cls)
    {g : JFrame} (hg : g.method = m) (hsize : g.locals.size = c.maxLocals) {argsL rest : List Value} (hlen : ∀ sig, parseMethodDescriptor y.desc = some sig → argsL.length = sig.parameters.length)
    (hstack : g.stack = argsL.reverse ++ .ref b :: rest) (hW : 2 * g.monitorRoom + (rest.map fun v => v.category).sum ≤ W9) (hdg : decode c.code g.pc = .ok (.invokevirtual index, 3))
    (hpre : ∀ vm₁, s.WarmedH vm₁ → Pre ⟨T.setVm vm₁, locs, cells, slots⟩ (Value.ref b :: argsL).toArray) :
    ∃ (v : Option Value) (vm₁ : Vm) (B : Pt), s.WarmedH vm₁ ∧ Stand p l e R s m args below meth c B.U B.locs B.cells B.slots ∧ Post ⟨T.setVm vm₁, locs, cells, slots⟩ (Value.ref b :: argsL).toArray v B ∧
      ∀ target, Steps p.tables e below (B.U.setTop { g with pc := g.pc + 3, stack := v.toList ++ rest }) target → Steps p.tables e below (T.setTop g) target := by
  obtain ⟨mk, methM, hnamed, hmethM, hstM, habM⟩ := Cond.instanceMethod_spec hinst
  obtain ⟨m8, methM', cM, hn8, hmethM', -, -, -, -, -, -, hsigM⟩ := Cond.codeWith_spec hcode
  cases Option.some.inj (hn8.symm.trans hnamed)
  cases hmethM.symm.trans hmethM'
  obtain ⟨c2, r2, m2, q1, q2, q3, q4, kP, hkP, hkPi⟩ := Cond.selects_spec hsel
  cases hcls.symm.trans q1
  cases (State.methodFound?_of_named hnamed hy).symm.trans q2
  cases hnamed.symm.trans q3
  have hselP : selectMethod e.platform s.vm cellB.cls mk = .method mk := by rw [Launch.admits_selectMethod X.admits]; exact q4
  obtain ⟨vm₁, X₁, hstep₁⟩ := X.invokevirtual hexec hown hlink hnamed hmethM hstM hkP hkPi hy (a := b) (cell := cellB) hcell
    (fun z h => by rw [h] at hobj; cases hobj) hselP hmethM habM hkP hkPi (g := g) hg (argsL := argsL) (rest := rest) (hlen _ hsigM) hstack hdg
  obtain ⟨v, B, X', hpost, hsteps⟩ := hK m meth c ⟨T.setVm vm₁, locs, cells, slots⟩ { g with stack := rest } (.invokevirtual index) mk (Value.ref b :: argsL).toArray X₁ hg hsize hdg hW (X₁.named hnamed) (hpre vm₁ X₁.warmed)
  exact ⟨v, vm₁, B, X₁.warmed, X', hpost, fun target h => hstep₁ _ fun acts => by rw [doInvoke_state]; exact hsteps.trans h⟩
abbrev vx_CVW (R : Room) (s : State) (args : Array Value) (own C : String) (index : Nat) (y : MethodName) (bytes : ByteArray) (maxL : Nat) (ret : Option FieldType) (hh : List (Nat × Nat × Nat × Nat)) (ws : List Cond) (rm : Room) (mc ms n : Nat) : Prop :=
  (rm.cells = mc ∧ rm.slots = ms ∧ rm.frames + 1 ≤ R.frames ∧ 8 + (maxL + 11) + rm.locals ≤ R.locals ∧ (∀ w ∈ ws, ∀ (a' : Array Value) (U : State), s.WarmedH U.vm → w.before a' U = true) ∧ Cond.codeWith y bytes maxL ret hh ∈ ws) ∧
  (Cond.codeWith y bytes maxL ret hh).before args s = true ∧ (Cond.initialized y.cls).before args s = true ∧ (y.cls ≠ "java/lang/invoke/MethodHandle" ∧ y.cls ≠ "java/lang/invoke/VarHandle") ∧
  (∀ sig, parseMethodDescriptor y.desc = some sig → n = sig.parameters.length) ∧ (Cond.methodLink own index y).before args s = true ∧ (Cond.instanceMethod y).before args s = true ∧ (Cond.selects C y y).before args s = true
theorem vx_cwVW {own C : String} {index maxL mc ms : Nat} {y : MethodName} {bytes : ByteArray} {ret : Option FieldType} {hh : List (Nat × Nat × Nat × Nat)} {Ts ws ws' : List Cond} {rm : Room} (n : Nat) (ht : ∀ w ∈ Ts, w.before args s = true) (hT : GoodIn Ts (wsV own index C y ws)) (hw : ws = Cond.codeWith y bytes maxL ret hh :: ws') (hrc : rm.cells = mc) (hrs : rm.slots = ms)
    (hd : y.cls = C ∧ y.cls ≠ "java/lang/invoke/MethodHandle" ∧ y.cls ≠ "java/lang/invoke/VarHandle" ∧ (parseMethodDescriptor y.desc).map (fun d => d.parameters.length) = some n) (hR : rm.frames + 1 ≤ R.frames ∧ 8 + (maxL + 11) + rm.locals ≤ R.locals) :
    vx_CVW R s args own C index y bytes maxL ret hh ws rm mc ms n := by
  obtain ⟨hC, hd⟩ := hd
  subst hC
  have ok : ∀ w ∈ wsV own index y.cls y ws, w.before args s = true := fun w h => ht w (hT w h).1
  have hG : GoodIn Ts ws := fun w h => hT w (by unfold wsV; exact List.mem_append_right _ h)
  have hc : Cond.codeWith y bytes maxL ret hh ∈ ws := by rw [hw]; exact List.mem_cons_self
  refine ⟨⟨hrc, hrs, hR.1, hR.2, pay_in ht hG, hc⟩, ht _ (hG _ hc).1, ok _ (by simp [wsV]), ⟨hd.1, hd.2.1⟩, fun sig h => ?_, ok _ (by simp [wsV]), ok _ (by simp [wsV]), ok _ (by simp [wsV])⟩
  have h2 := hd.2.2
  rw [h] at h2
  exact (Option.some.inj h2).symm
theorem vx_runVW {y : MethodName} {bytes cc : ByteArray} {maxL nL mc ms n index : Nat} {ret : Option FieldType} {hh : List (Nat × Nat × Nat × Nat)} {ws : List Cond} {rm : Room} {Pc : Array Value → State → Prop} {Qc : Array Value → State → Outcome → State → Prop} {free : Addr → Prop} {Ts : List Cond} {own C : String} {b : Addr} {As rest : List Value} {g : JFrame}
    (S : CallFix p m c cc nL s args Ts own) (hM : Met l y ws rm Pc Qc mc ms free) (cw : vx_CVW R s args own C index y bytes maxL ret hh ws rm mc ms n) (hp : PreV s H C b Pc As)
    (hg : g.method = m) (hn : As.length = n) (hsize : g.locals.size = nL) (hstack : g.stack = As.reverse ++ .ref b :: rest) (hW : 2 * g.monitorRoom + (rest.map fun v => v.category).sum ≤ 8) (hdg : decode cc g.pc = .ok (.invokevirtual index, 3)) (hf : cells + mc ≤ R.cells ∧ slots + ms ≤ R.slots) :
    va_Run p l e R s m args below meth c H locs cells slots mc ms g rest (Qc (Value.ref b :: As).toArray) free := by
  obtain ⟨⟨hrc, hrs, hfr, hlo, hws, hcw⟩, hcode, hini, hy, hlen, hl, hin, hse⟩ := cw
  have hK : Back l R p e below s args y 3 8 (PreOf R mc ms Pc) (PostOf Qc mc ms free) := va_backW (hh := hh) (bytes := bytes) (maxL := maxL) (ret := ret) hM hp.1 hrc hrs hfr hlo hws hcw (fun a' U hW => word_at hW (Or.inl (by first | rfl | simp [Cond.onTables, Cond.keeps, Cond.steady])) hini)
  obtain ⟨hx, hb, hml, ho, -⟩ := S
  obtain ⟨-, ⟨cellB, hcB, hoB, hclB⟩, hPc⟩ := hp
  intro T hT X
  obtain ⟨v, vm₁, ⟨U', l2, c2, s2⟩, hW₁, X', ⟨g', mk, t, L, e1, e2, hq, h1, hL, h2, h3⟩, st⟩ := vx_callVW X hx (C := C) (hh := hh) (bytes := bytes) (maxL := maxL) (ret := ret) ho hl hin hse hcode hy hK (by rw [hT]; exact hcB) hoB hclB hg (hsize.trans hml.symm) (argsL := As) (rest := rest) (fun sig h => hn.trans (hlen sig h)) hstack hW (by rw [hb]; exact hdg)
    (fun vm₁ hW₁ => ⟨hf.1, hf.2, hPc (T.setVm vm₁) hT hW₁⟩)
  dsimp only [Pt.U, Pt.locs, Pt.cells, Pt.slots] at X' e1 e2 h1 h2 h3 st
  subst h1; subst h2; subst h3
  exact ⟨v, (T.setVm vm₁).calling g' mk (Value.ref b :: As).toArray, t, U', L, hT, X', hL, e1, e2, hq, st⟩
section
variable {y : MethodName} {bytes cc : ByteArray} {maxL nL mc ms n index : Nat} {ret : Option FieldType} {ws : List Cond} {rm : Room} {Pc : Array Value → State → Prop} {Qc : Array Value → State → Outcome → State → Prop} {XC : String → State → State → Prop} {free : Addr → Prop} {Ts : List Cond} {own C : String} {b : Addr} {As rest : List Value} {g : JFrame}
theorem vx_runVX {hh : List (Nat × Nat × Nat × Nat)} (S : CallFix p m c cc nL s args Ts own) (hM : vx_Met l y ws rm Pc Qc XC mc ms free) (cw : vx_CVW R s args own C index y bytes maxL ret hh ws rm mc ms n) (hp : PreV s H C b Pc As)
    (hg : g.method = m) (hn : As.length = n) (hsize : g.locals.size = nL) (hstack : g.stack = As.reverse ++ .ref b :: rest) (hW : 2 * g.monitorRoom + (rest.map fun v => v.category).sum ≤ 8) (hdg : decode cc g.pc = .ok (.invokevirtual index, 3)) (hf : cells + mc ≤ R.cells ∧ slots + ms ≤ R.slots) :
    vx_Run p l e R s m args below meth c H locs cells slots mc ms g rest (Qc (Value.ref b :: As).toArray) XC free := by
  obtain ⟨⟨hrc, hrs, hfr, hlo, hws, hcw⟩, hcode, hini, hy, hlen, hl, hin, hse⟩ := cw
  have hK : vx_Back l R p e below s args y 3 8 (PreOf R mc ms Pc) (PostOf Qc mc ms free) (vx_Post XC mc ms free) := vx_backW (hh := hh) (bytes := bytes) (maxL := maxL) (ret := ret) hM hp.1 hrc hrs hfr hlo hws hcw (fun a' U hW => word_at hW (Or.inl (by first | rfl | simp [Cond.onTables, Cond.keeps, Cond.steady])) hini)
  obtain ⟨hx, hb, hml, ho, -⟩ := S
  obtain ⟨-, ⟨cellB, hcB, hoB, hclB⟩, hPc⟩ := hp
  intro T hT X
  rcases vx_callVX X hx (C := C) (hh := hh) (bytes := bytes) (maxL := maxL) (ret := ret) ho hl hin hse hcode hy hK (by rw [hT]; exact hcB) hoB hclB hg (hsize.trans hml.symm) (argsL := As) (rest := rest) (fun sig h => hn.trans (hlen sig h)) hstack hW (by rw [hb]; exact hdg)
    (fun vm₁ hW₁ => ⟨hf.1, hf.2, hPc (T.setVm vm₁) hT hW₁⟩) with ⟨v, vm₁, ⟨U', l2, c2, s2⟩, hW₁, X', ⟨g', mk, t, L, e1, e2, hq, h1, hL, h2, h3⟩, st⟩ | ⟨q, vm₁, ⟨U', l2, c2, s2⟩, hW₁, X', ⟨g', mk, t, L, E, ce, e1, e2, hq, hce, hcv, hcl, h1, hL, h2, h3⟩, st⟩
  · dsimp only [Pt.U, Pt.locs, Pt.cells, Pt.slots] at X' e1 e2 h1 h2 h3 st
    subst h1; subst h2; subst h3
    exact Or.inl ⟨v, (T.setVm vm₁).calling g' mk (Value.ref b :: As).toArray, t, U', L, hT, X', hL, e1, e2, hq, st⟩
  · dsimp only [Pt.U, Pt.locs, Pt.cells, Pt.slots] at X' e1 e2 h1 h2 h3 st hcl
    subst h1; subst h2; subst h3
    exact Or.inr ⟨q, (T.setVm vm₁).calling g' mk (Value.ref b :: As).toArray, t, U', L, E, ce, hT, X', hL, e1, e2, hq, hce, hcv, vx_cls hW₁ hcl, st⟩
theorem vx_runSX {hh : List (Nat × Nat × Nat × Nat)} (S : CallFix p m c cc nL s args Ts own) (hM : vx_Met l y ws rm Pc Qc XC mc ms free) (cw : vx_CSW R s args own index y bytes maxL ret hh ws rm mc ms n) (hp : PreS s H Pc As)
    (hg : g.method = m) (hn : As.length = n) (hsize : g.locals.size = nL) (hstack : g.stack = As.reverse ++ rest) (hW : 2 * g.monitorRoom + (rest.map fun v => v.category).sum ≤ 8) (hdg : decode cc g.pc = .ok (.invokestatic index, 3)) (hf : cells + mc ≤ R.cells ∧ slots + ms ≤ R.slots) :
    vx_Run p l e R s m args below meth c H locs cells slots mc ms g rest (Qc As.toArray) XC free := by
  obtain ⟨⟨hrc, hrs, hfr, hlo, hws, hcw⟩, hcode, hini, hy, hlen, hl, hstt⟩ := cw
  have hK : vx_Back l R p e below s args y 3 8 (PreOf R mc ms Pc) (PostOf Qc mc ms free) (vx_Post XC mc ms free) := vx_backW (hh := hh) (bytes := bytes) (maxL := maxL) (ret := ret) hM hp.1 hrc hrs hfr hlo hws hcw (fun a' U hW => word_at hW (Or.inl (by first | rfl | simp [Cond.onTables, Cond.keeps, Cond.steady])) hini)
  obtain ⟨hx, hb, hml, ho, -⟩ := S
  intro T hT X
  rcases vx_callSX X hx (hh := hh) (bytes := bytes) (maxL := maxL) (ret := ret) ho hl hstt hini hcode hy hK hg (hsize.trans hml.symm) (argsL := As) (rest := rest) (fun sig h => hn.trans (hlen sig h)) hstack hW (by rw [hb]; exact hdg)
    (fun vm₁ hW₁ => ⟨hf.1, hf.2, hp.2 (T.setVm vm₁) hT hW₁⟩) with ⟨v, vm₁, ⟨U', l2, c2, s2⟩, hW₁, X', ⟨g', mk, t, L, e1, e2, hq, h1, hL, h2, h3⟩, st⟩ | ⟨q, vm₁, ⟨U', l2, c2, s2⟩, hW₁, X', ⟨g', mk, t, L, E, ce, e1, e2, hq, hce, hcv, hcl, h1, hL, h2, h3⟩, st⟩
  · dsimp only [Pt.U, Pt.locs, Pt.cells, Pt.slots] at X' e1 e2 h1 h2 h3 st
    subst h1; subst h2; subst h3
    exact Or.inl ⟨v, (T.setVm vm₁).calling g' mk As.toArray, t, U', L, hT, X', hL, e1, e2, hq, st⟩
  · dsimp only [Pt.U, Pt.locs, Pt.cells, Pt.slots] at X' e1 e2 h1 h2 h3 st hcl
    subst h1; subst h2; subst h3
    exact Or.inr ⟨q, (T.setVm vm₁).calling g' mk As.toArray, t, U', L, E, ce, hT, X', hL, e1, e2, hq, hce, hcv, vx_cls hW₁ hcl, st⟩
end
end VXH
theorem vx_ofWH {l : Launch} {y : MethodName} {ws ws' : List Cond} {rm : Room} {Pc : Array Value → State → Prop} {Qc : Array Value → State → Outcome → State → Prop} {XC : String → State → State → Prop} {mc ms : Nat} {free : Addr → Prop} {cc : ByteArray} {maxL : Nat} {ret : Option FieldType} {hh : List (Nat × Nat × Nat × Nat)}
    (hy : plainName y.cls = true) (hw : ws = Cond.codeWith y cc maxL ret hh :: ws')
    (body : ∀ p e s m args below meth c s₁, BodyLoose p l y (headSpec ws rm) cc maxL ret e s m args below meth c s₁ → c.maxLocals = maxL → Pc args s →
      W p l e (headSpec ws rm).room s m args below meth c s.heap [] 0 0 (vx_MQ below Qc XC args s mc ms free) (entryFrame m args maxL)) : vx_Met l y ws rm Pc Qc XC mc ms free := by
  refine MetFree.of_bodyS (code := cc) (maxLocals := maxL) (ret := ret) hy ?_ ?_
  · intro args s m h hn
    obtain ⟨m9, meth, c, hn9, h1, h2, h3, h4, -, h5, h6, -⟩ := Cond.codeWith_spec (atoms_spec (ws := ws) h _ (by rw [hw]; exact List.mem_cons_self))
    cases hn.symm.trans hn9
    exact ⟨meth, c, h1, h2, h3, h4, h5, h6⟩
  · intro p e s m args below meth c s₁ B hml hP _
    have hh0 : s₁.heap = s.heap := by rw [B.state]; rfl
    obtain ⟨t, a1, o, b1, b2, b3⟩ := body p e s m args below meth c s₁ B hml hP s₁ hh0 (Stand.of_body B)
    exact ⟨t, o, a1, b1, b2, b3⟩
/-! ===== END ===== -/
end
section
/-! ===== BEGIN printed: names, fields, word lists, decode rows ===== -/
def RX0 : String := "TicketCoincidences"
def TX0 : u_T := fun k => match k with
  | 0 => ("TicketCoincidences", "tickets", "[I", true)
  | 1 => ("TicketCoincidences", "colours", "[I", true)
  | 2 => ("TicketCoincidences", "corners", "[I", true)
  | 3 => ("TicketCoincidences", "walks", "[I", true)
  | 4 => ("TicketCoincidences", "people", "I", false)
  | 5 => ("TicketCoincidences", "hourNow", "I", false)
  | 6 => ("TicketCoincidences", "inStore", "I", false)
  | 7 => ("TicketCoincidences", "countedInAll", "I", false)
  | _ => ("TicketCoincidences", "spentInAll", "I", false)
def tyX0 : Nat → FieldType := fun k => match k with
  | 0 => .array .int
  | 1 => .array .int
  | 2 => .array .int
  | 3 => .array .int
  | 4 => .int
  | 5 => .int
  | 6 => .int
  | 7 => .int
  | _ => .int
abbrev wsX00 : List Cond := u_ws RX0 TX0 9
theorem nmX0 : ∀ a, a < 9 → ∀ b, b < 9 → a ≠ b → (TX0 a).2.1 ≠ (TX0 b).2.1 := by decide +kernel
theorem tyX0_ok : ∀ k, k < 9 → parseFieldDescriptor (TX0 k).2.2.1 = some (tyX0 k) := by decide +kernel
abbrev cX0_init : ByteArray := prog_1_method_1_code
def yX0_init : MethodName := ⟨RX0, "<init>", "()V"⟩
abbrev cX0_addStranger : ByteArray := prog_1_method_2_code
def yX0_addStranger : MethodName := ⟨RX0, "addStranger", "(IIII)I"⟩
abbrev cX0_setWalk : ByteArray := prog_1_method_3_code
def yX0_setWalk : MethodName := ⟨RX0, "setWalk", "(II)I"⟩
abbrev cX0_move : ByteArray := prog_1_method_4_code
def yX0_move : MethodName := ⟨RX0, "move", "(II)I"⟩
abbrev cX0_swapUmbrellas : ByteArray := prog_1_method_5_code
def yX0_swapUmbrellas : MethodName := ⟨RX0, "swapUmbrellas", "(II)I"⟩
abbrev cX0_swapTickets : ByteArray := prog_1_method_6_code
def yX0_swapTickets : MethodName := ⟨RX0, "swapTickets", "(II)I"⟩
abbrev cX0_draw : ByteArray := prog_1_method_7_code
def yX0_draw : MethodName := ⟨RX0, "draw", "(II)I"⟩
abbrev cX0_pass : ByteArray := prog_1_method_8_code
def yX0_pass : MethodName := ⟨RX0, "pass", "(I)I"⟩
abbrev cX0_strangers : ByteArray := prog_1_method_9_code
def yX0_strangers : MethodName := ⟨RX0, "strangers", "()I"⟩
abbrev cX0_hour : ByteArray := prog_1_method_10_code
def yX0_hour : MethodName := ⟨RX0, "hour", "()I"⟩
abbrev cX0_store : ByteArray := prog_1_method_11_code
def yX0_store : MethodName := ⟨RX0, "store", "()I"⟩
abbrev cX0_counted : ByteArray := prog_1_method_12_code
def yX0_counted : MethodName := ⟨RX0, "counted", "()I"⟩
abbrev cX0_spent : ByteArray := prog_1_method_13_code
def yX0_spent : MethodName := ⟨RX0, "spent", "()I"⟩
abbrev cX0_ticketOf : ByteArray := prog_1_method_14_code
def yX0_ticketOf : MethodName := ⟨RX0, "ticketOf", "(I)I"⟩
abbrev cX0_colourOf : ByteArray := prog_1_method_15_code
def yX0_colourOf : MethodName := ⟨RX0, "colourOf", "(I)I"⟩
abbrev cX0_cornerOf : ByteArray := prog_1_method_16_code
def yX0_cornerOf : MethodName := ⟨RX0, "cornerOf", "(I)I"⟩
abbrev cX0_walkOf : ByteArray := prog_1_method_17_code
def yX0_walkOf : MethodName := ⟨RX0, "walkOf", "(I)I"⟩
abbrev cX0_peopleAt : ByteArray := prog_1_method_18_code
def yX0_peopleAt : MethodName := ⟨RX0, "peopleAt", "(I)I"⟩
abbrev cX0_pointsOf : ByteArray := prog_1_method_19_code
def yX0_pointsOf : MethodName := ⟨RX0, "pointsOf", "(II)I"⟩
abbrev cX0_areTogether : ByteArray := prog_1_method_20_code
def yX0_areTogether : MethodName := ⟨RX0, "areTogether", "(II)Z"⟩
abbrev cX0_areMirrored : ByteArray := prog_1_method_21_code
def yX0_areMirrored : MethodName := ⟨RX0, "areMirrored", "(II)Z"⟩
abbrev cX0_coincidences : ByteArray := prog_1_method_22_code
def yX0_coincidences : MethodName := ⟨RX0, "coincidences", "()I"⟩
abbrev cX0_coincidencesAt : ByteArray := prog_1_method_23_code
def yX0_coincidencesAt : MethodName := ⟨RX0, "coincidencesAt", "(I)I"⟩
abbrev cX0_luckOf : ByteArray := prog_1_method_24_code
def yX0_luckOf : MethodName := ⟨RX0, "luckOf", "(I)I"⟩
abbrev cX0_luckiestPair : ByteArray := prog_1_method_25_code
def yX0_luckiestPair : MethodName := ⟨RX0, "luckiestPair", "()I"⟩
abbrev cX0_coincidencesIn : ByteArray := prog_1_method_26_code
def yX0_coincidencesIn : MethodName := ⟨RX0, "coincidencesIn", "(I)I"⟩
abbrev cX0_hoursUntilTogether : ByteArray := prog_1_method_27_code
def yX0_hoursUntilTogether : MethodName := ⟨RX0, "hoursUntilTogether", "(II)I"⟩
abbrev cX0_costOfMeeting : ByteArray := prog_1_method_28_code
def yX0_costOfMeeting : MethodName := ⟨RX0, "costOfMeeting", "(II)I"⟩
abbrev cX0_bestHour : ByteArray := prog_1_method_29_code
def yX0_bestHour : MethodName := ⟨RX0, "bestHour", "()I"⟩
abbrev cX0_bestCorner : ByteArray := prog_1_method_30_code
def yX0_bestCorner : MethodName := ⟨RX0, "bestCorner", "(I)I"⟩
abbrev cX0_bestSwap : ByteArray := prog_1_method_31_code
def yX0_bestSwap : MethodName := ⟨RX0, "bestSwap", "()I"⟩
abbrev cX0_bestTicket : ByteArray := prog_1_method_32_code
def yX0_bestTicket : MethodName := ⟨RX0, "bestTicket", "(I)I"⟩
abbrev cX0_meanLuck : ByteArray := prog_1_method_33_code
def yX0_meanLuck : MethodName := ⟨RX0, "meanLuck", "()D"⟩
abbrev cX0_digest : ByteArray := prog_1_method_34_code
def yX0_digest : MethodName := ⟨RX0, "digest", "()J"⟩
abbrev cX0_isTicket : ByteArray := prog_1_method_35_code
def yX0_isTicket : MethodName := ⟨RX0, "isTicket", "(I)Z"⟩
abbrev cX0_isColour : ByteArray := prog_1_method_36_code
def yX0_isColour : MethodName := ⟨RX0, "isColour", "(I)Z"⟩
abbrev cX0_isCorner : ByteArray := prog_1_method_37_code
def yX0_isCorner : MethodName := ⟨RX0, "isCorner", "(I)Z"⟩
abbrev cX0_isWalk : ByteArray := prog_1_method_38_code
def yX0_isWalk : MethodName := ⟨RX0, "isWalk", "(I)Z"⟩
abbrev cX0_requireStranger : ByteArray := prog_1_method_39_code
def yX0_requireStranger : MethodName := ⟨RX0, "requireStranger", "(I)V"⟩
abbrev cX0_requirePair : ByteArray := prog_1_method_40_code
def yX0_requirePair : MethodName := ⟨RX0, "requirePair", "(II)V"⟩
abbrev cX0_requireCorner : ByteArray := prog_1_method_41_code
def yX0_requireCorner : MethodName := ⟨RX0, "requireCorner", "(I)V"⟩
abbrev cX0_pay : ByteArray := prog_1_method_42_code
def yX0_pay : MethodName := ⟨RX0, "pay", "(I)V"⟩
abbrev cX0_costOfWay : ByteArray := prog_1_method_43_code
def yX0_costOfWay : MethodName := ⟨RX0, "costOfWay", "(II)I"⟩
abbrev cX0_passOneHour : ByteArray := prog_1_method_44_code
def yX0_passOneHour : MethodName := ⟨RX0, "passOneHour", "()V"⟩
abbrev cX0_emptyCorners : ByteArray := prog_1_method_45_code
def yX0_emptyCorners : MethodName := ⟨RX0, "emptyCorners", "()I"⟩
abbrev cX0_crowdAt : ByteArray := prog_1_method_46_code
def yX0_crowdAt : MethodName := ⟨RX0, "crowdAt", "(I)I"⟩
abbrev cX0_exchange : ByteArray := prog_1_method_47_code
def yX0_exchange : MethodName := ⟨RX0, "exchange", "([III)V"⟩
abbrev cX0_mirrored : ByteArray := prog_1_method_48_code
def yX0_mirrored : MethodName := ⟨RX0, "mirrored", "(II)Z"⟩
abbrev cX0_figureSum : ByteArray := prog_1_method_49_code
def yX0_figureSum : MethodName := ⟨RX0, "figureSum", "(I)I"⟩
abbrev cX0_pointsOfTickets : ByteArray := prog_1_method_50_code
def yX0_pointsOfTickets : MethodName := ⟨RX0, "pointsOfTickets", "(II)I"⟩
abbrev cX0_pointsOfColours : ByteArray := prog_1_method_51_code
def yX0_pointsOfColours : MethodName := ⟨RX0, "pointsOfColours", "(II)I"⟩
abbrev cX0_pointsOfPair : ByteArray := prog_1_method_52_code
def yX0_pointsOfPair : MethodName := ⟨RX0, "pointsOfPair", "(II)I"⟩
abbrev cX0_cornerBehind : ByteArray := prog_1_method_53_code
def yX0_cornerBehind : MethodName := ⟨RX0, "cornerBehind", "(II)I"⟩
abbrev cX0_townBehind : ByteArray := prog_1_method_54_code
def yX0_townBehind : MethodName := ⟨RX0, "townBehind", "(I)I"⟩
abbrev cX0_townIfSwapped : ByteArray := prog_1_method_55_code
def yX0_townIfSwapped : MethodName := ⟨RX0, "townIfSwapped", "(II)I"⟩
abbrev cX0_luckNow : ByteArray := prog_1_method_56_code
def yX0_luckNow : MethodName := ⟨RX0, "luckNow", "(I)I"⟩
abbrev cX0_luckWith : ByteArray := prog_1_method_57_code
def yX0_luckWith : MethodName := ⟨RX0, "luckWith", "(III)I"⟩
abbrev cX0_mixed : ByteArray := prog_1_method_58_code
def yX0_mixed : MethodName := ⟨RX0, "mixed", "(JJ)J"⟩
def RX1 : String := "TicketCoincidencesModel"
def TX1 : u_T := fun k => match k with
  | 0 => ("TicketCoincidencesModel", "thrown", "I", false)
  | 1 => ("TicketCoincidencesModel", "people", "I", false)
  | 2 => ("TicketCoincidencesModel", "ticket", "[I", true)
  | 3 => ("TicketCoincidencesModel", "colour", "[I", true)
  | 4 => ("TicketCoincidencesModel", "corner", "[I", true)
  | 5 => ("TicketCoincidencesModel", "walk", "[I", true)
  | 6 => ("TicketCoincidencesModel", "hour", "I", false)
  | 7 => ("TicketCoincidencesModel", "store", "I", false)
  | 8 => ("TicketCoincidencesModel", "counted", "I", false)
  | _ => ("TicketCoincidencesModel", "spent", "I", false)
def tyX1 : Nat → FieldType := fun k => match k with
  | 0 => .int
  | 1 => .int
  | 2 => .array .int
  | 3 => .array .int
  | 4 => .array .int
  | 5 => .array .int
  | 6 => .int
  | 7 => .int
  | 8 => .int
  | _ => .int
abbrev wsX10 : List Cond := u_ws RX1 TX1 10
theorem nmX1 : ∀ a, a < 10 → ∀ b, b < 10 → a ≠ b → (TX1 a).2.1 ≠ (TX1 b).2.1 := by decide +kernel
theorem tyX1_ok : ∀ k, k < 10 → parseFieldDescriptor (TX1 k).2.2.1 = some (tyX1 k) := by decide +kernel
abbrev cX1_init : ByteArray := prog_3_method_1_code
def yX1_init : MethodName := ⟨RX1, "<init>", "()V"⟩
abbrev cX1_thrown : ByteArray := prog_3_method_2_code
def yX1_thrown : MethodName := ⟨RX1, "thrown", "()I"⟩
abbrev cX1_no : ByteArray := prog_3_method_3_code
def yX1_no : MethodName := ⟨RX1, "no", "(I)I"⟩
abbrev cX1_ok : ByteArray := prog_3_method_5_code
def yX1_ok : MethodName := ⟨RX1, "ok", "(I)I"⟩
abbrev cX1_isIn : ByteArray := prog_3_method_6_code
def yX1_isIn : MethodName := ⟨RX1, "isIn", "(III)Z"⟩
abbrev cX1_isOne : ByteArray := prog_3_method_7_code
def yX1_isOne : MethodName := ⟨RX1, "isOne", "(I)Z"⟩
abbrev cX1_isCorner : ByteArray := prog_3_method_8_code
def yX1_isCorner : MethodName := ⟨RX1, "isCorner", "(I)Z"⟩
abbrev cX1_isMirror : ByteArray := prog_3_method_9_code
def yX1_isMirror : MethodName := ⟨RX1, "isMirror", "(II)Z"⟩
abbrev cX1_points : ByteArray := prog_3_method_10_code
def yX1_points : MethodName := ⟨RX1, "points", "(II)I"⟩
abbrev cX1_cornerIn : ByteArray := prog_3_method_11_code
def yX1_cornerIn : MethodName := ⟨RX1, "cornerIn", "(II)I"⟩
abbrev cX1_town : ByteArray := prog_3_method_12_code
def yX1_town : MethodName := ⟨RX1, "town", "(II)I"⟩
abbrev cX1_here : ByteArray := prog_3_method_13_code
def yX1_here : MethodName := ⟨RX1, "here", "()I"⟩
abbrev cX1_luck : ByteArray := prog_3_method_14_code
def yX1_luck : MethodName := ⟨RX1, "luck", "(I)I"⟩
abbrev cX1_at : ByteArray := prog_3_method_15_code
def yX1_at : MethodName := ⟨RX1, "at", "(I)I"⟩
abbrev cX1_apart : ByteArray := prog_3_method_16_code
def yX1_apart : MethodName := ⟨RX1, "apart", "(II)I"⟩
abbrev cX1_addStranger : ByteArray := prog_3_method_17_code
def yX1_addStranger : MethodName := ⟨RX1, "addStranger", "(IIII)I"⟩
abbrev cX1_setWalk : ByteArray := prog_3_method_18_code
def yX1_setWalk : MethodName := ⟨RX1, "setWalk", "(II)I"⟩
abbrev cX1_pay : ByteArray := prog_3_method_19_code
def yX1_pay : MethodName := ⟨RX1, "pay", "(I)I"⟩
abbrev cX1_move : ByteArray := prog_3_method_20_code
def yX1_move : MethodName := ⟨RX1, "move", "(II)I"⟩
abbrev cX1_wrongPair : ByteArray := prog_3_method_21_code
def yX1_wrongPair : MethodName := ⟨RX1, "wrongPair", "(II)I"⟩
abbrev cX1_swap : ByteArray := prog_3_method_22_code
def yX1_swap : MethodName := ⟨RX1, "swap", "([III)V"⟩
abbrev cX1_swapped : ByteArray := prog_3_method_23_code
def yX1_swapped : MethodName := ⟨RX1, "swapped", "([III)I"⟩
abbrev cX1_swapUmbrellas : ByteArray := prog_3_method_24_code
def yX1_swapUmbrellas : MethodName := ⟨RX1, "swapUmbrellas", "(II)I"⟩
abbrev cX1_swapTickets : ByteArray := prog_3_method_25_code
def yX1_swapTickets : MethodName := ⟨RX1, "swapTickets", "(II)I"⟩
abbrev cX1_draw : ByteArray := prog_3_method_26_code
def yX1_draw : MethodName := ⟨RX1, "draw", "(II)I"⟩
abbrev cX1_goOn : ByteArray := prog_3_method_27_code
def yX1_goOn : MethodName := ⟨RX1, "goOn", "()V"⟩
abbrev cX1_pass : ByteArray := prog_3_method_28_code
def yX1_pass : MethodName := ⟨RX1, "pass", "(I)I"⟩
abbrev cX1_strangers : ByteArray := prog_3_method_29_code
def yX1_strangers : MethodName := ⟨RX1, "strangers", "()I"⟩
abbrev cX1_hour : ByteArray := prog_3_method_30_code
def yX1_hour : MethodName := ⟨RX1, "hour", "()I"⟩
abbrev cX1_store : ByteArray := prog_3_method_31_code
def yX1_store : MethodName := ⟨RX1, "store", "()I"⟩
abbrev cX1_counted : ByteArray := prog_3_method_32_code
def yX1_counted : MethodName := ⟨RX1, "counted", "()I"⟩
abbrev cX1_spent : ByteArray := prog_3_method_33_code
def yX1_spent : MethodName := ⟨RX1, "spent", "()I"⟩
abbrev cX1_of : ByteArray := prog_3_method_34_code
def yX1_of : MethodName := ⟨RX1, "of", "(I[I)I"⟩
abbrev cX1_ticketOf : ByteArray := prog_3_method_35_code
def yX1_ticketOf : MethodName := ⟨RX1, "ticketOf", "(I)I"⟩
abbrev cX1_colourOf : ByteArray := prog_3_method_36_code
def yX1_colourOf : MethodName := ⟨RX1, "colourOf", "(I)I"⟩
abbrev cX1_cornerOf : ByteArray := prog_3_method_37_code
def yX1_cornerOf : MethodName := ⟨RX1, "cornerOf", "(I)I"⟩
abbrev cX1_walkOf : ByteArray := prog_3_method_38_code
def yX1_walkOf : MethodName := ⟨RX1, "walkOf", "(I)I"⟩
abbrev cX1_peopleAt : ByteArray := prog_3_method_39_code
def yX1_peopleAt : MethodName := ⟨RX1, "peopleAt", "(I)I"⟩
abbrev cX1_pointsOf : ByteArray := prog_3_method_40_code
def yX1_pointsOf : MethodName := ⟨RX1, "pointsOf", "(II)I"⟩
abbrev cX1_areTogether : ByteArray := prog_3_method_41_code
def yX1_areTogether : MethodName := ⟨RX1, "areTogether", "(II)Z"⟩
abbrev cX1_areMirrored : ByteArray := prog_3_method_42_code
def yX1_areMirrored : MethodName := ⟨RX1, "areMirrored", "(II)Z"⟩
abbrev cX1_coincidences : ByteArray := prog_3_method_43_code
def yX1_coincidences : MethodName := ⟨RX1, "coincidences", "()I"⟩
abbrev cX1_coincidencesAt : ByteArray := prog_3_method_44_code
def yX1_coincidencesAt : MethodName := ⟨RX1, "coincidencesAt", "(I)I"⟩
abbrev cX1_luckOf : ByteArray := prog_3_method_45_code
def yX1_luckOf : MethodName := ⟨RX1, "luckOf", "(I)I"⟩
abbrev cX1_luckiest : ByteArray := prog_3_method_46_code
def yX1_luckiest : MethodName := ⟨RX1, "luckiest", "()I"⟩
abbrev cX1_luckiestPair : ByteArray := prog_3_method_47_code
def yX1_luckiestPair : MethodName := ⟨RX1, "luckiestPair", "()I"⟩
abbrev cX1_coincidencesIn : ByteArray := prog_3_method_48_code
def yX1_coincidencesIn : MethodName := ⟨RX1, "coincidencesIn", "(I)I"⟩
abbrev cX1_untilTogether : ByteArray := prog_3_method_49_code
def yX1_untilTogether : MethodName := ⟨RX1, "untilTogether", "(II)I"⟩
abbrev cX1_hoursUntilTogether : ByteArray := prog_3_method_50_code
def yX1_hoursUntilTogether : MethodName := ⟨RX1, "hoursUntilTogether", "(II)I"⟩
abbrev cX1_costOfMeeting : ByteArray := prog_3_method_51_code
def yX1_costOfMeeting : MethodName := ⟨RX1, "costOfMeeting", "(II)I"⟩
abbrev cX1_hourOfMost : ByteArray := prog_3_method_52_code
def yX1_hourOfMost : MethodName := ⟨RX1, "hourOfMost", "()I"⟩
abbrev cX1_bestHour : ByteArray := prog_3_method_53_code
def yX1_bestHour : MethodName := ⟨RX1, "bestHour", "()I"⟩
abbrev cX1_bestOf : ByteArray := prog_3_method_54_code
def yX1_bestOf : MethodName := ⟨RX1, "bestOf", "([III)I"⟩
abbrev cX1_bestCorner : ByteArray := prog_3_method_55_code
def yX1_bestCorner : MethodName := ⟨RX1, "bestCorner", "(I)I"⟩
abbrev cX1_swapOfMost : ByteArray := prog_3_method_56_code
def yX1_swapOfMost : MethodName := ⟨RX1, "swapOfMost", "()I"⟩
abbrev cX1_bestSwap : ByteArray := prog_3_method_57_code
def yX1_bestSwap : MethodName := ⟨RX1, "bestSwap", "()I"⟩
abbrev cX1_bestTicket : ByteArray := prog_3_method_58_code
def yX1_bestTicket : MethodName := ⟨RX1, "bestTicket", "(I)I"⟩
abbrev cX1_meanLuck : ByteArray := prog_3_method_59_code
def yX1_meanLuck : MethodName := ⟨RX1, "meanLuck", "()D"⟩
abbrev cX1_digest : ByteArray := prog_3_method_60_code
def yX1_digest : MethodName := ⟨RX1, "digest", "()J"⟩
def RJ9 : String := "java/lang/Math"
def TJ9 : u_T := fun k => match k with
  | _ => ("", "", "", false)
def tyJ9 : Nat → FieldType := fun k => match k with
  | _ => .int
abbrev wsJ90 : List Cond := u_ws RJ9 TJ9 0
theorem nmJ9 : ∀ a, a < 0 → ∀ b, b < 0 → a ≠ b → (TJ9 a).2.1 ≠ (TJ9 b).2.1 := by decide +kernel
theorem tyJ9_ok : ∀ k, k < 0 → parseFieldDescriptor (TJ9 k).2.2.1 = some (tyJ9 k) := by decide +kernel
abbrev cJ9_abs_0f7a4 : ByteArray := prog_8_method_59_code
def yJ9_abs_0f7a4 : MethodName := ⟨RJ9, "abs", "(I)I"⟩
abbrev cJ9_min_7cf53 : ByteArray := prog_8_method_69_code
def yJ9_min_7cf53 : MethodName := ⟨RJ9, "min", "(II)I"⟩
def RJ0 : String := "java/lang/String"
def TJ0 : u_T := fun k => match k with
  | _ => ("", "", "", false)
def tyJ0 : Nat → FieldType := fun k => match k with
  | _ => .int
abbrev wsJ00 : List Cond := u_ws RJ0 TJ0 0
theorem nmJ0 : ∀ a, a < 0 → ∀ b, b < 0 → a ≠ b → (TJ0 a).2.1 ≠ (TJ0 b).2.1 := by decide +kernel
theorem tyJ0_ok : ∀ k, k < 0 → parseFieldDescriptor (TJ0 k).2.2.1 = some (tyJ0 k) := by decide +kernel
def RL : String := "TicketCoincidencesLaw"
abbrev cL_addStranger : ByteArray := method_3_code
def yL_addStranger : MethodName := ⟨RL, "addStranger", "(LTicketCoincidences;IIII[J)I"⟩
abbrev cL_setWalk : ByteArray := method_4_code
def yL_setWalk : MethodName := ⟨RL, "setWalk", "(LTicketCoincidences;II[J)I"⟩
abbrev cL_move : ByteArray := method_5_code
def yL_move : MethodName := ⟨RL, "move", "(LTicketCoincidences;II[J)I"⟩
abbrev cL_swapUmbrellas : ByteArray := method_6_code
def yL_swapUmbrellas : MethodName := ⟨RL, "swapUmbrellas", "(LTicketCoincidences;II[J)I"⟩
abbrev cL_swapTickets : ByteArray := method_7_code
def yL_swapTickets : MethodName := ⟨RL, "swapTickets", "(LTicketCoincidences;II[J)I"⟩
abbrev cL_draw : ByteArray := method_8_code
def yL_draw : MethodName := ⟨RL, "draw", "(LTicketCoincidences;II[J)I"⟩
abbrev cL_pass : ByteArray := method_9_code
def yL_pass : MethodName := ⟨RL, "pass", "(LTicketCoincidences;I[J)I"⟩
abbrev cL_ticketOf : ByteArray := method_10_code
def yL_ticketOf : MethodName := ⟨RL, "ticketOf", "(LTicketCoincidences;I[J)I"⟩
abbrev cL_colourOf : ByteArray := method_11_code
def yL_colourOf : MethodName := ⟨RL, "colourOf", "(LTicketCoincidences;I[J)I"⟩
abbrev cL_cornerOf : ByteArray := method_12_code
def yL_cornerOf : MethodName := ⟨RL, "cornerOf", "(LTicketCoincidences;I[J)I"⟩
abbrev cL_walkOf : ByteArray := method_13_code
def yL_walkOf : MethodName := ⟨RL, "walkOf", "(LTicketCoincidences;I[J)I"⟩
abbrev cL_peopleAt : ByteArray := method_14_code
def yL_peopleAt : MethodName := ⟨RL, "peopleAt", "(LTicketCoincidences;I[J)I"⟩
abbrev cL_pointsOf : ByteArray := method_15_code
def yL_pointsOf : MethodName := ⟨RL, "pointsOf", "(LTicketCoincidences;II[J)I"⟩
abbrev cL_areTogether : ByteArray := method_16_code
def yL_areTogether : MethodName := ⟨RL, "areTogether", "(LTicketCoincidences;II[J)I"⟩
abbrev cL_areMirrored : ByteArray := method_17_code
def yL_areMirrored : MethodName := ⟨RL, "areMirrored", "(LTicketCoincidences;II[J)I"⟩
abbrev cL_coincidencesAt : ByteArray := method_18_code
def yL_coincidencesAt : MethodName := ⟨RL, "coincidencesAt", "(LTicketCoincidences;I[J)I"⟩
abbrev cL_luckOf : ByteArray := method_19_code
def yL_luckOf : MethodName := ⟨RL, "luckOf", "(LTicketCoincidences;I[J)I"⟩
abbrev cL_coincidencesIn : ByteArray := method_20_code
def yL_coincidencesIn : MethodName := ⟨RL, "coincidencesIn", "(LTicketCoincidences;I[J)I"⟩
abbrev cL_hoursUntilTogether : ByteArray := method_21_code
def yL_hoursUntilTogether : MethodName := ⟨RL, "hoursUntilTogether", "(LTicketCoincidences;II[J)I"⟩
abbrev cL_costOfMeeting : ByteArray := method_22_code
def yL_costOfMeeting : MethodName := ⟨RL, "costOfMeeting", "(LTicketCoincidences;II[J)I"⟩
abbrev cL_bestCorner : ByteArray := method_23_code
def yL_bestCorner : MethodName := ⟨RL, "bestCorner", "(LTicketCoincidences;I[J)I"⟩
abbrev cL_bestTicket : ByteArray := method_24_code
def yL_bestTicket : MethodName := ⟨RL, "bestTicket", "(LTicketCoincidences;I[J)I"⟩
abbrev cL_law : ByteArray := code
def yL_law : MethodName := ⟨RL, "law", "([I)Z"⟩
def wsX0_init : List Cond := .code yX0_init cX0_init 1 none :: ([.methodLink RX0 1 objectInit, .instanceMethod objectInit, .code objectInit ⟨#[0xb1]⟩ 1 none, .arrayClass .int, .fieldLink RX0 9 "TicketCoincidences" "tickets" "[I", .fieldLink RX0 13 "TicketCoincidences" "colours" "[I", .fieldLink RX0 16 "TicketCoincidences" "corners" "[I", .fieldLink RX0 19 "TicketCoincidences" "walks" "[I", .fieldLink RX0 22 "TicketCoincidences" "people" "I", .fieldLink RX0 26 "TicketCoincidences" "hourNow" "I", .fieldLink RX0 29 "TicketCoincidences" "inStore" "I", .fieldLink RX0 32 "TicketCoincidences" "countedInAll" "I", .fieldLink RX0 35 "TicketCoincidences" "spentInAll" "I"] ++ wsX00)
def wsX0_isTicket : List Cond := .code yX0_isTicket cX0_isTicket 1 (some .boolean) :: ([])
def wsX0_isColour : List Cond := .code yX0_isColour cX0_isColour 1 (some .boolean) :: ([])
def wsX0_isCorner : List Cond := .code yX0_isCorner cX0_isCorner 1 (some .boolean) :: ([])
def wsX0_isWalk : List Cond := .code yX0_isWalk cX0_isWalk 1 (some .boolean) :: ([])
def wsX0_addStranger : List Cond := .code yX0_addStranger cX0_addStranger 6 (some .int) :: ([.classLink RX0 51 "java/lang/IllegalArgumentException", .initialized "java/lang/IllegalArgumentException", .classLink RX0 58 "java/lang/IllegalStateException", .initialized "java/lang/IllegalStateException", .fieldLink RX0 22 "TicketCoincidences" "people" "I", .fieldLink RX0 9 "TicketCoincidences" "tickets" "[I", .fieldLink RX0 13 "TicketCoincidences" "colours" "[I", .fieldLink RX0 16 "TicketCoincidences" "corners" "[I", .fieldLink RX0 19 "TicketCoincidences" "walks" "[I", .methodLink RX0 38 yX0_isTicket, .static yX0_isTicket, .initialized RX0, .code yX0_isTicket cX0_isTicket 1 (some .boolean), .methodLink RX0 42 yX0_isColour, .static yX0_isColour, .code yX0_isColour cX0_isColour 1 (some .boolean), .methodLink RX0 45 yX0_isCorner, .static yX0_isCorner, .code yX0_isCorner cX0_isCorner 1 (some .boolean), .methodLink RX0 48 yX0_isWalk, .static yX0_isWalk, .code yX0_isWalk cX0_isWalk 1 (some .boolean)] ++ wsX00 ++ (vx_atS RX0 55 "java/lang/IllegalArgumentException" ["java/lang/RuntimeException", "java/lang/Exception"]).filter goodWord ++ (vx_atS RX0 62 "java/lang/IllegalStateException" ["java/lang/RuntimeException", "java/lang/Exception"]).filter goodWord)
def wsX0_requireStranger : List Cond := .code yX0_requireStranger cX0_requireStranger 2 none :: ([.classLink RX0 157 "java/lang/IndexOutOfBoundsException", .initialized "java/lang/IndexOutOfBoundsException", .fieldLink RX0 22 "TicketCoincidences" "people" "I"] ++ wsX00 ++ (vx_atS RX0 161 "java/lang/IndexOutOfBoundsException" ["java/lang/RuntimeException", "java/lang/Exception"]).filter goodWord)
def wsX0_setWalk : List Cond := .code yX0_setWalk cX0_setWalk 4 (some .int) :: ([.classLink RX0 51 "java/lang/IllegalArgumentException", .initialized "java/lang/IllegalArgumentException", .fieldLink RX0 19 "TicketCoincidences" "walks" "[I", .methodLink RX0 63 yX0_requireStranger, .instanceMethod yX0_requireStranger, .selects RX0 yX0_requireStranger yX0_requireStranger, .initialized RX0, .code yX0_requireStranger cX0_requireStranger 2 none, .classLink RX0 157 "java/lang/IndexOutOfBoundsException", .initialized "java/lang/IndexOutOfBoundsException", .fieldLink RX0 22 "TicketCoincidences" "people" "I", .methodLink RX0 48 yX0_isWalk, .static yX0_isWalk, .code yX0_isWalk cX0_isWalk 1 (some .boolean)] ++ wsX00 ++ (vx_atS RX0 55 "java/lang/IllegalArgumentException" ["java/lang/RuntimeException", "java/lang/Exception"]).filter goodWord ++ (vx_atS RX0 161 "java/lang/IndexOutOfBoundsException" ["java/lang/RuntimeException", "java/lang/Exception"]).filter goodWord)
def wsX0_costOfWay : List Cond := .code yX0_costOfWay cX0_costOfWay 3 (some .int) :: ([.methodLink RX0 166 Lib.Math.abs.name, .static Lib.Math.abs.name, .initialized "java/lang/Math", .code Lib.Math.abs.name Lib.Math.abs.code 1 (some .int), .methodLink RX0 171 Lib.Math.min.name, .static Lib.Math.min.name, .code Lib.Math.min.name Lib.Math.min.code 2 (some .int)])
def wsX0_pay : List Cond := .code yX0_pay cX0_pay 2 none :: ([.classLink RX0 58 "java/lang/IllegalStateException", .initialized "java/lang/IllegalStateException", .fieldLink RX0 29 "TicketCoincidences" "inStore" "I", .fieldLink RX0 35 "TicketCoincidences" "spentInAll" "I"] ++ wsX00 ++ (vx_atS RX0 62 "java/lang/IllegalStateException" ["java/lang/RuntimeException", "java/lang/Exception"]).filter goodWord)
def wsX0_move_r1 : List Cond := [Cond.classLink RX0 51 "java/lang/IllegalArgumentException", Cond.initialized "java/lang/IllegalArgumentException", Cond.classLink RX0 58 "java/lang/IllegalStateException", Cond.initialized "java/lang/IllegalStateException", Cond.fieldLink RX0 16 "TicketCoincidences" "corners" "[I", Cond.methodLink RX0 63 yX0_requireStranger, Cond.instanceMethod yX0_requireStranger, Cond.selects RX0 yX0_requireStranger yX0_requireStranger, Cond.initialized RX0, Cond.code yX0_requireStranger cX0_requireStranger 2 none, Cond.classLink RX0 157 "java/lang/IndexOutOfBoundsException", Cond.initialized "java/lang/IndexOutOfBoundsException", Cond.fieldLink RX0 22 "TicketCoincidences" "people" "I", Cond.methodLink RX0 45 yX0_isCorner, Cond.static yX0_isCorner, Cond.code yX0_isCorner cX0_isCorner 1 (some .boolean), Cond.methodLink RX0 73 yX0_costOfWay, Cond.static yX0_costOfWay, Cond.code yX0_costOfWay cX0_costOfWay 3 (some .int), Cond.methodLink RX0 166 Lib.Math.abs.name, Cond.static Lib.Math.abs.name, Cond.initialized "java/lang/Math", Cond.code Lib.Math.abs.name Lib.Math.abs.code 1 (some .int), Cond.methodLink RX0 171 Lib.Math.min.name]
def wsX0_move_r2 : List Cond := [Cond.static Lib.Math.min.name, Cond.code Lib.Math.min.name Lib.Math.min.code 2 (some .int), Cond.methodLink RX0 77 yX0_pay, Cond.instanceMethod yX0_pay, Cond.selects RX0 yX0_pay yX0_pay, Cond.code yX0_pay cX0_pay 2 none, Cond.fieldLink RX0 29 "TicketCoincidences" "inStore" "I", Cond.fieldLink RX0 35 "TicketCoincidences" "spentInAll" "I"]
def wsX0_move : List Cond := .code yX0_move cX0_move 4 (some .int) :: ((wsX0_move_r1 ++ wsX0_move_r2) ++ wsX00 ++ (vx_atS RX0 55 "java/lang/IllegalArgumentException" ["java/lang/RuntimeException", "java/lang/Exception"]).filter goodWord ++ (vx_atS RX0 62 "java/lang/IllegalStateException" ["java/lang/RuntimeException", "java/lang/Exception"]).filter goodWord ++ (vx_atS RX0 161 "java/lang/IndexOutOfBoundsException" ["java/lang/RuntimeException", "java/lang/Exception"]).filter goodWord)
def wsX0_requirePair : List Cond := .code yX0_requirePair cX0_requirePair 3 none :: ([.classLink RX0 51 "java/lang/IllegalArgumentException", .initialized "java/lang/IllegalArgumentException", .methodLink RX0 63 yX0_requireStranger, .instanceMethod yX0_requireStranger, .selects RX0 yX0_requireStranger yX0_requireStranger, .initialized RX0, .code yX0_requireStranger cX0_requireStranger 2 none, .classLink RX0 157 "java/lang/IndexOutOfBoundsException", .initialized "java/lang/IndexOutOfBoundsException", .fieldLink RX0 22 "TicketCoincidences" "people" "I"] ++ wsX00 ++ (vx_atS RX0 55 "java/lang/IllegalArgumentException" ["java/lang/RuntimeException", "java/lang/Exception"]).filter goodWord ++ (vx_atS RX0 161 "java/lang/IndexOutOfBoundsException" ["java/lang/RuntimeException", "java/lang/Exception"]).filter goodWord)
def wsX0_cornerBehind : List Cond := .code yX0_cornerBehind cX0_cornerBehind 3 (some .int) :: ([.fieldLink RX0 16 "TicketCoincidences" "corners" "[I", .fieldLink RX0 19 "TicketCoincidences" "walks" "[I"] ++ wsX00)
def wsX0_figureSum : List Cond := .code yX0_figureSum cX0_figureSum 1 (some .int) :: ([])
def wsX0_mirrored : List Cond := .code yX0_mirrored cX0_mirrored 2 (some .boolean) :: ([])
def wsX0_pointsOfTickets : List Cond := .code yX0_pointsOfTickets cX0_pointsOfTickets 3 (some .int) :: ([.methodLink RX0 166 Lib.Math.abs.name, .static Lib.Math.abs.name, .initialized "java/lang/Math", .code Lib.Math.abs.name Lib.Math.abs.code 1 (some .int), .methodLink RX0 177 yX0_figureSum, .static yX0_figureSum, .initialized RX0, .code yX0_figureSum cX0_figureSum 1 (some .int), .methodLink RX0 110 yX0_mirrored, .static yX0_mirrored, .code yX0_mirrored cX0_mirrored 2 (some .boolean)])
def wsX0_pointsOfColours : List Cond := .code yX0_pointsOfColours cX0_pointsOfColours 2 (some .int) :: ([])
def wsX0_pointsOfPair : List Cond := .code yX0_pointsOfPair cX0_pointsOfPair 3 (some .int) :: ([.fieldLink RX0 9 "TicketCoincidences" "tickets" "[I", .fieldLink RX0 13 "TicketCoincidences" "colours" "[I", .methodLink RX0 180 yX0_pointsOfTickets, .static yX0_pointsOfTickets, .initialized RX0, .code yX0_pointsOfTickets cX0_pointsOfTickets 3 (some .int), .methodLink RX0 166 Lib.Math.abs.name, .static Lib.Math.abs.name, .initialized "java/lang/Math", .code Lib.Math.abs.name Lib.Math.abs.code 1 (some .int), .methodLink RX0 177 yX0_figureSum, .static yX0_figureSum, .code yX0_figureSum cX0_figureSum 1 (some .int), .methodLink RX0 110 yX0_mirrored, .static yX0_mirrored, .code yX0_mirrored cX0_mirrored 2 (some .boolean), .methodLink RX0 183 yX0_pointsOfColours, .static yX0_pointsOfColours, .code yX0_pointsOfColours cX0_pointsOfColours 2 (some .int)] ++ wsX00)
def wsX0_townBehind_r1 : List Cond := [Cond.fieldLink RX0 22 "TicketCoincidences" "people" "I", Cond.methodLink RX0 119 yX0_cornerBehind, Cond.instanceMethod yX0_cornerBehind, Cond.selects RX0 yX0_cornerBehind yX0_cornerBehind, Cond.initialized RX0, Cond.code yX0_cornerBehind cX0_cornerBehind 3 (some .int), Cond.fieldLink RX0 16 "TicketCoincidences" "corners" "[I", Cond.fieldLink RX0 19 "TicketCoincidences" "walks" "[I", Cond.methodLink RX0 107 yX0_pointsOfPair, Cond.instanceMethod yX0_pointsOfPair, Cond.selects RX0 yX0_pointsOfPair yX0_pointsOfPair, Cond.code yX0_pointsOfPair cX0_pointsOfPair 3 (some .int), Cond.fieldLink RX0 9 "TicketCoincidences" "tickets" "[I", Cond.fieldLink RX0 13 "TicketCoincidences" "colours" "[I", Cond.methodLink RX0 180 yX0_pointsOfTickets, Cond.static yX0_pointsOfTickets, Cond.code yX0_pointsOfTickets cX0_pointsOfTickets 3 (some .int), Cond.methodLink RX0 166 Lib.Math.abs.name, Cond.static Lib.Math.abs.name, Cond.initialized "java/lang/Math", Cond.code Lib.Math.abs.name Lib.Math.abs.code 1 (some .int), Cond.methodLink RX0 177 yX0_figureSum, Cond.static yX0_figureSum, Cond.code yX0_figureSum cX0_figureSum 1 (some .int)]
def wsX0_townBehind_r2 : List Cond := [Cond.methodLink RX0 110 yX0_mirrored, Cond.static yX0_mirrored, Cond.code yX0_mirrored cX0_mirrored 2 (some .boolean), Cond.methodLink RX0 183 yX0_pointsOfColours, Cond.static yX0_pointsOfColours, Cond.code yX0_pointsOfColours cX0_pointsOfColours 2 (some .int)]
def wsX0_townBehind : List Cond := .code yX0_townBehind cX0_townBehind 5 (some .int) :: ((wsX0_townBehind_r1 ++ wsX0_townBehind_r2) ++ wsX00)
def wsX0_exchange : List Cond := .code yX0_exchange cX0_exchange 4 none :: ([])
def wsX0_swapUmbrellas_r1 : List Cond := [Cond.classLink RX0 58 "java/lang/IllegalStateException", Cond.initialized "java/lang/IllegalStateException", Cond.fieldLink RX0 16 "TicketCoincidences" "corners" "[I", Cond.fieldLink RX0 13 "TicketCoincidences" "colours" "[I", Cond.methodLink RX0 80 yX0_requirePair, Cond.instanceMethod yX0_requirePair, Cond.selects RX0 yX0_requirePair yX0_requirePair, Cond.initialized RX0, Cond.code yX0_requirePair cX0_requirePair 3 none, Cond.classLink RX0 51 "java/lang/IllegalArgumentException", Cond.initialized "java/lang/IllegalArgumentException", Cond.methodLink RX0 63 yX0_requireStranger, Cond.instanceMethod yX0_requireStranger, Cond.selects RX0 yX0_requireStranger yX0_requireStranger, Cond.code yX0_requireStranger cX0_requireStranger 2 none, Cond.classLink RX0 157 "java/lang/IndexOutOfBoundsException", Cond.initialized "java/lang/IndexOutOfBoundsException", Cond.fieldLink RX0 22 "TicketCoincidences" "people" "I", Cond.methodLink RX0 77 yX0_pay, Cond.instanceMethod yX0_pay, Cond.selects RX0 yX0_pay yX0_pay, Cond.code yX0_pay cX0_pay 2 none, Cond.fieldLink RX0 29 "TicketCoincidences" "inStore" "I", Cond.fieldLink RX0 35 "TicketCoincidences" "spentInAll" "I"]
def wsX0_swapUmbrellas_r2 : List Cond := [Cond.methodLink RX0 86 yX0_townBehind, Cond.instanceMethod yX0_townBehind, Cond.selects RX0 yX0_townBehind yX0_townBehind, Cond.code yX0_townBehind cX0_townBehind 5 (some .int), Cond.methodLink RX0 119 yX0_cornerBehind, Cond.instanceMethod yX0_cornerBehind, Cond.selects RX0 yX0_cornerBehind yX0_cornerBehind, Cond.code yX0_cornerBehind cX0_cornerBehind 3 (some .int), Cond.fieldLink RX0 19 "TicketCoincidences" "walks" "[I", Cond.methodLink RX0 107 yX0_pointsOfPair, Cond.instanceMethod yX0_pointsOfPair, Cond.selects RX0 yX0_pointsOfPair yX0_pointsOfPair, Cond.code yX0_pointsOfPair cX0_pointsOfPair 3 (some .int), Cond.fieldLink RX0 9 "TicketCoincidences" "tickets" "[I", Cond.methodLink RX0 180 yX0_pointsOfTickets, Cond.static yX0_pointsOfTickets, Cond.code yX0_pointsOfTickets cX0_pointsOfTickets 3 (some .int), Cond.methodLink RX0 166 Lib.Math.abs.name, Cond.static Lib.Math.abs.name, Cond.initialized "java/lang/Math", Cond.code Lib.Math.abs.name Lib.Math.abs.code 1 (some .int), Cond.methodLink RX0 177 yX0_figureSum, Cond.static yX0_figureSum, Cond.code yX0_figureSum cX0_figureSum 1 (some .int)]
def wsX0_swapUmbrellas_r3 : List Cond := [Cond.methodLink RX0 110 yX0_mirrored, Cond.static yX0_mirrored, Cond.code yX0_mirrored cX0_mirrored 2 (some .boolean), Cond.methodLink RX0 183 yX0_pointsOfColours, Cond.static yX0_pointsOfColours, Cond.code yX0_pointsOfColours cX0_pointsOfColours 2 (some .int), Cond.methodLink RX0 90 yX0_exchange, Cond.static yX0_exchange, Cond.code yX0_exchange cX0_exchange 4 none]
def wsX0_swapUmbrellas : List Cond := .code yX0_swapUmbrellas cX0_swapUmbrellas 4 (some .int) :: ((wsX0_swapUmbrellas_r1 ++ (wsX0_swapUmbrellas_r2 ++ wsX0_swapUmbrellas_r3)) ++ wsX00 ++ (vx_atS RX0 62 "java/lang/IllegalStateException" ["java/lang/RuntimeException", "java/lang/Exception"]).filter goodWord ++ (vx_atS RX0 55 "java/lang/IllegalArgumentException" ["java/lang/RuntimeException", "java/lang/Exception"]).filter goodWord ++ (vx_atS RX0 161 "java/lang/IndexOutOfBoundsException" ["java/lang/RuntimeException", "java/lang/Exception"]).filter goodWord)
def wsX0_swapTickets_r1 : List Cond := [Cond.fieldLink RX0 9 "TicketCoincidences" "tickets" "[I", Cond.methodLink RX0 80 yX0_requirePair, Cond.instanceMethod yX0_requirePair, Cond.selects RX0 yX0_requirePair yX0_requirePair, Cond.initialized RX0, Cond.code yX0_requirePair cX0_requirePair 3 none, Cond.classLink RX0 51 "java/lang/IllegalArgumentException", Cond.initialized "java/lang/IllegalArgumentException", Cond.methodLink RX0 63 yX0_requireStranger, Cond.instanceMethod yX0_requireStranger, Cond.selects RX0 yX0_requireStranger yX0_requireStranger, Cond.code yX0_requireStranger cX0_requireStranger 2 none, Cond.classLink RX0 157 "java/lang/IndexOutOfBoundsException", Cond.initialized "java/lang/IndexOutOfBoundsException", Cond.fieldLink RX0 22 "TicketCoincidences" "people" "I", Cond.methodLink RX0 77 yX0_pay, Cond.instanceMethod yX0_pay, Cond.selects RX0 yX0_pay yX0_pay, Cond.code yX0_pay cX0_pay 2 none, Cond.classLink RX0 58 "java/lang/IllegalStateException", Cond.initialized "java/lang/IllegalStateException", Cond.fieldLink RX0 29 "TicketCoincidences" "inStore" "I", Cond.fieldLink RX0 35 "TicketCoincidences" "spentInAll" "I", Cond.methodLink RX0 86 yX0_townBehind]
def wsX0_swapTickets_r2 : List Cond := [Cond.instanceMethod yX0_townBehind, Cond.selects RX0 yX0_townBehind yX0_townBehind, Cond.code yX0_townBehind cX0_townBehind 5 (some .int), Cond.methodLink RX0 119 yX0_cornerBehind, Cond.instanceMethod yX0_cornerBehind, Cond.selects RX0 yX0_cornerBehind yX0_cornerBehind, Cond.code yX0_cornerBehind cX0_cornerBehind 3 (some .int), Cond.fieldLink RX0 16 "TicketCoincidences" "corners" "[I", Cond.fieldLink RX0 19 "TicketCoincidences" "walks" "[I", Cond.methodLink RX0 107 yX0_pointsOfPair, Cond.instanceMethod yX0_pointsOfPair, Cond.selects RX0 yX0_pointsOfPair yX0_pointsOfPair, Cond.code yX0_pointsOfPair cX0_pointsOfPair 3 (some .int), Cond.fieldLink RX0 13 "TicketCoincidences" "colours" "[I", Cond.methodLink RX0 180 yX0_pointsOfTickets, Cond.static yX0_pointsOfTickets, Cond.code yX0_pointsOfTickets cX0_pointsOfTickets 3 (some .int), Cond.methodLink RX0 166 Lib.Math.abs.name, Cond.static Lib.Math.abs.name, Cond.initialized "java/lang/Math", Cond.code Lib.Math.abs.name Lib.Math.abs.code 1 (some .int), Cond.methodLink RX0 177 yX0_figureSum, Cond.static yX0_figureSum, Cond.code yX0_figureSum cX0_figureSum 1 (some .int)]
def wsX0_swapTickets_r3 : List Cond := [Cond.methodLink RX0 110 yX0_mirrored, Cond.static yX0_mirrored, Cond.code yX0_mirrored cX0_mirrored 2 (some .boolean), Cond.methodLink RX0 183 yX0_pointsOfColours, Cond.static yX0_pointsOfColours, Cond.code yX0_pointsOfColours cX0_pointsOfColours 2 (some .int), Cond.methodLink RX0 90 yX0_exchange, Cond.static yX0_exchange, Cond.code yX0_exchange cX0_exchange 4 none]
def wsX0_swapTickets : List Cond := .code yX0_swapTickets cX0_swapTickets 4 (some .int) :: ((wsX0_swapTickets_r1 ++ (wsX0_swapTickets_r2 ++ wsX0_swapTickets_r3)) ++ wsX00 ++ (vx_atS RX0 55 "java/lang/IllegalArgumentException" ["java/lang/RuntimeException", "java/lang/Exception"]).filter goodWord ++ (vx_atS RX0 161 "java/lang/IndexOutOfBoundsException" ["java/lang/RuntimeException", "java/lang/Exception"]).filter goodWord ++ (vx_atS RX0 62 "java/lang/IllegalStateException" ["java/lang/RuntimeException", "java/lang/Exception"]).filter goodWord)
def wsX0_draw : List Cond := .code yX0_draw cX0_draw 4 (some .int) :: ([.classLink RX0 51 "java/lang/IllegalArgumentException", .initialized "java/lang/IllegalArgumentException", .fieldLink RX0 9 "TicketCoincidences" "tickets" "[I", .methodLink RX0 63 yX0_requireStranger, .instanceMethod yX0_requireStranger, .selects RX0 yX0_requireStranger yX0_requireStranger, .initialized RX0, .code yX0_requireStranger cX0_requireStranger 2 none, .classLink RX0 157 "java/lang/IndexOutOfBoundsException", .initialized "java/lang/IndexOutOfBoundsException", .fieldLink RX0 22 "TicketCoincidences" "people" "I", .methodLink RX0 38 yX0_isTicket, .static yX0_isTicket, .code yX0_isTicket cX0_isTicket 1 (some .boolean), .methodLink RX0 77 yX0_pay, .instanceMethod yX0_pay, .selects RX0 yX0_pay yX0_pay, .code yX0_pay cX0_pay 2 none, .classLink RX0 58 "java/lang/IllegalStateException", .initialized "java/lang/IllegalStateException", .fieldLink RX0 29 "TicketCoincidences" "inStore" "I", .fieldLink RX0 35 "TicketCoincidences" "spentInAll" "I"] ++ wsX00 ++ (vx_atS RX0 55 "java/lang/IllegalArgumentException" ["java/lang/RuntimeException", "java/lang/Exception"]).filter goodWord ++ (vx_atS RX0 161 "java/lang/IndexOutOfBoundsException" ["java/lang/RuntimeException", "java/lang/Exception"]).filter goodWord ++ (vx_atS RX0 62 "java/lang/IllegalStateException" ["java/lang/RuntimeException", "java/lang/Exception"]).filter goodWord)
def wsX0_crowdAt : List Cond := .code yX0_crowdAt cX0_crowdAt 4 (some .int) :: ([.fieldLink RX0 22 "TicketCoincidences" "people" "I", .fieldLink RX0 16 "TicketCoincidences" "corners" "[I"] ++ wsX00)
def wsX0_emptyCorners : List Cond := .code yX0_emptyCorners cX0_emptyCorners 3 (some .int) :: ([.methodLink RX0 104 yX0_crowdAt, .instanceMethod yX0_crowdAt, .selects RX0 yX0_crowdAt yX0_crowdAt, .initialized RX0, .code yX0_crowdAt cX0_crowdAt 4 (some .int), .fieldLink RX0 22 "TicketCoincidences" "people" "I", .fieldLink RX0 16 "TicketCoincidences" "corners" "[I"] ++ wsX00)
def wsX0_passOneHour_r1 : List Cond := [Cond.fieldLink RX0 22 "TicketCoincidences" "people" "I", Cond.fieldLink RX0 16 "TicketCoincidences" "corners" "[I", Cond.fieldLink RX0 32 "TicketCoincidences" "countedInAll" "I", Cond.fieldLink RX0 29 "TicketCoincidences" "inStore" "I", Cond.methodLink RX0 171 Lib.Math.min.name, Cond.static Lib.Math.min.name, Cond.initialized "java/lang/Math", Cond.code Lib.Math.min.name Lib.Math.min.code 2 (some .int), Cond.fieldLink RX0 26 "TicketCoincidences" "hourNow" "I", Cond.methodLink RX0 119 yX0_cornerBehind, Cond.instanceMethod yX0_cornerBehind, Cond.selects RX0 yX0_cornerBehind yX0_cornerBehind, Cond.initialized RX0, Cond.code yX0_cornerBehind cX0_cornerBehind 3 (some .int), Cond.fieldLink RX0 19 "TicketCoincidences" "walks" "[I", Cond.methodLink RX0 86 yX0_townBehind, Cond.instanceMethod yX0_townBehind, Cond.selects RX0 yX0_townBehind yX0_townBehind, Cond.code yX0_townBehind cX0_townBehind 5 (some .int), Cond.methodLink RX0 107 yX0_pointsOfPair, Cond.instanceMethod yX0_pointsOfPair, Cond.selects RX0 yX0_pointsOfPair yX0_pointsOfPair, Cond.code yX0_pointsOfPair cX0_pointsOfPair 3 (some .int), Cond.fieldLink RX0 9 "TicketCoincidences" "tickets" "[I"]
def wsX0_passOneHour_r2 : List Cond := [Cond.fieldLink RX0 13 "TicketCoincidences" "colours" "[I", Cond.methodLink RX0 180 yX0_pointsOfTickets, Cond.static yX0_pointsOfTickets, Cond.code yX0_pointsOfTickets cX0_pointsOfTickets 3 (some .int), Cond.methodLink RX0 166 Lib.Math.abs.name, Cond.static Lib.Math.abs.name, Cond.code Lib.Math.abs.name Lib.Math.abs.code 1 (some .int), Cond.methodLink RX0 177 yX0_figureSum, Cond.static yX0_figureSum, Cond.code yX0_figureSum cX0_figureSum 1 (some .int), Cond.methodLink RX0 110 yX0_mirrored, Cond.static yX0_mirrored, Cond.code yX0_mirrored cX0_mirrored 2 (some .boolean), Cond.methodLink RX0 183 yX0_pointsOfColours, Cond.static yX0_pointsOfColours, Cond.code yX0_pointsOfColours cX0_pointsOfColours 2 (some .int), Cond.methodLink RX0 174 yX0_emptyCorners, Cond.instanceMethod yX0_emptyCorners, Cond.selects RX0 yX0_emptyCorners yX0_emptyCorners, Cond.code yX0_emptyCorners cX0_emptyCorners 3 (some .int), Cond.methodLink RX0 104 yX0_crowdAt, Cond.instanceMethod yX0_crowdAt, Cond.selects RX0 yX0_crowdAt yX0_crowdAt, Cond.code yX0_crowdAt cX0_crowdAt 4 (some .int)]
def wsX0_passOneHour : List Cond := .code yX0_passOneHour cX0_passOneHour 2 none :: ((wsX0_passOneHour_r1 ++ wsX0_passOneHour_r2) ++ wsX00)
def wsX0_pass_r1 : List Cond := [Cond.classLink RX0 51 "java/lang/IllegalArgumentException", Cond.initialized "java/lang/IllegalArgumentException", Cond.fieldLink RX0 32 "TicketCoincidences" "countedInAll" "I", Cond.methodLink RX0 98 yX0_passOneHour, Cond.instanceMethod yX0_passOneHour, Cond.selects RX0 yX0_passOneHour yX0_passOneHour, Cond.initialized RX0, Cond.code yX0_passOneHour cX0_passOneHour 2 none, Cond.fieldLink RX0 22 "TicketCoincidences" "people" "I", Cond.fieldLink RX0 16 "TicketCoincidences" "corners" "[I", Cond.fieldLink RX0 29 "TicketCoincidences" "inStore" "I", Cond.methodLink RX0 171 Lib.Math.min.name, Cond.static Lib.Math.min.name, Cond.initialized "java/lang/Math", Cond.code Lib.Math.min.name Lib.Math.min.code 2 (some .int), Cond.fieldLink RX0 26 "TicketCoincidences" "hourNow" "I", Cond.methodLink RX0 119 yX0_cornerBehind, Cond.instanceMethod yX0_cornerBehind, Cond.selects RX0 yX0_cornerBehind yX0_cornerBehind, Cond.code yX0_cornerBehind cX0_cornerBehind 3 (some .int), Cond.fieldLink RX0 19 "TicketCoincidences" "walks" "[I", Cond.methodLink RX0 86 yX0_townBehind, Cond.instanceMethod yX0_townBehind, Cond.selects RX0 yX0_townBehind yX0_townBehind]
def wsX0_pass_r2 : List Cond := [Cond.code yX0_townBehind cX0_townBehind 5 (some .int), Cond.methodLink RX0 107 yX0_pointsOfPair, Cond.instanceMethod yX0_pointsOfPair, Cond.selects RX0 yX0_pointsOfPair yX0_pointsOfPair, Cond.code yX0_pointsOfPair cX0_pointsOfPair 3 (some .int), Cond.fieldLink RX0 9 "TicketCoincidences" "tickets" "[I", Cond.fieldLink RX0 13 "TicketCoincidences" "colours" "[I", Cond.methodLink RX0 180 yX0_pointsOfTickets, Cond.static yX0_pointsOfTickets, Cond.code yX0_pointsOfTickets cX0_pointsOfTickets 3 (some .int), Cond.methodLink RX0 166 Lib.Math.abs.name, Cond.static Lib.Math.abs.name, Cond.code Lib.Math.abs.name Lib.Math.abs.code 1 (some .int), Cond.methodLink RX0 177 yX0_figureSum, Cond.static yX0_figureSum, Cond.code yX0_figureSum cX0_figureSum 1 (some .int), Cond.methodLink RX0 110 yX0_mirrored, Cond.static yX0_mirrored, Cond.code yX0_mirrored cX0_mirrored 2 (some .boolean), Cond.methodLink RX0 183 yX0_pointsOfColours, Cond.static yX0_pointsOfColours, Cond.code yX0_pointsOfColours cX0_pointsOfColours 2 (some .int), Cond.methodLink RX0 174 yX0_emptyCorners, Cond.instanceMethod yX0_emptyCorners]
def wsX0_pass_r3 : List Cond := [Cond.selects RX0 yX0_emptyCorners yX0_emptyCorners, Cond.code yX0_emptyCorners cX0_emptyCorners 3 (some .int), Cond.methodLink RX0 104 yX0_crowdAt, Cond.instanceMethod yX0_crowdAt, Cond.selects RX0 yX0_crowdAt yX0_crowdAt, Cond.code yX0_crowdAt cX0_crowdAt 4 (some .int)]
def wsX0_pass : List Cond := .code yX0_pass cX0_pass 4 (some .int) :: ((wsX0_pass_r1 ++ (wsX0_pass_r2 ++ wsX0_pass_r3)) ++ wsX00 ++ (vx_atS RX0 55 "java/lang/IllegalArgumentException" ["java/lang/RuntimeException", "java/lang/Exception"]).filter goodWord)
def wsX0_strangers : List Cond := .code yX0_strangers cX0_strangers 1 (some .int) :: ([.fieldLink RX0 22 "TicketCoincidences" "people" "I"] ++ wsX00)
def wsX0_hour : List Cond := .code yX0_hour cX0_hour 1 (some .int) :: ([.fieldLink RX0 26 "TicketCoincidences" "hourNow" "I"] ++ wsX00)
def wsX0_store : List Cond := .code yX0_store cX0_store 1 (some .int) :: ([.fieldLink RX0 29 "TicketCoincidences" "inStore" "I"] ++ wsX00)
def wsX0_counted : List Cond := .code yX0_counted cX0_counted 1 (some .int) :: ([.fieldLink RX0 32 "TicketCoincidences" "countedInAll" "I"] ++ wsX00)
def wsX0_spent : List Cond := .code yX0_spent cX0_spent 1 (some .int) :: ([.fieldLink RX0 35 "TicketCoincidences" "spentInAll" "I"] ++ wsX00)
def wsX0_ticketOf : List Cond := .code yX0_ticketOf cX0_ticketOf 2 (some .int) :: ([.fieldLink RX0 9 "TicketCoincidences" "tickets" "[I", .methodLink RX0 63 yX0_requireStranger, .instanceMethod yX0_requireStranger, .selects RX0 yX0_requireStranger yX0_requireStranger, .initialized RX0, .code yX0_requireStranger cX0_requireStranger 2 none, .classLink RX0 157 "java/lang/IndexOutOfBoundsException", .initialized "java/lang/IndexOutOfBoundsException", .fieldLink RX0 22 "TicketCoincidences" "people" "I"] ++ wsX00 ++ (vx_atS RX0 161 "java/lang/IndexOutOfBoundsException" ["java/lang/RuntimeException", "java/lang/Exception"]).filter goodWord)
def wsX0_colourOf : List Cond := .code yX0_colourOf cX0_colourOf 2 (some .int) :: ([.fieldLink RX0 13 "TicketCoincidences" "colours" "[I", .methodLink RX0 63 yX0_requireStranger, .instanceMethod yX0_requireStranger, .selects RX0 yX0_requireStranger yX0_requireStranger, .initialized RX0, .code yX0_requireStranger cX0_requireStranger 2 none, .classLink RX0 157 "java/lang/IndexOutOfBoundsException", .initialized "java/lang/IndexOutOfBoundsException", .fieldLink RX0 22 "TicketCoincidences" "people" "I"] ++ wsX00 ++ (vx_atS RX0 161 "java/lang/IndexOutOfBoundsException" ["java/lang/RuntimeException", "java/lang/Exception"]).filter goodWord)
def wsX0_cornerOf : List Cond := .code yX0_cornerOf cX0_cornerOf 2 (some .int) :: ([.fieldLink RX0 16 "TicketCoincidences" "corners" "[I", .methodLink RX0 63 yX0_requireStranger, .instanceMethod yX0_requireStranger, .selects RX0 yX0_requireStranger yX0_requireStranger, .initialized RX0, .code yX0_requireStranger cX0_requireStranger 2 none, .classLink RX0 157 "java/lang/IndexOutOfBoundsException", .initialized "java/lang/IndexOutOfBoundsException", .fieldLink RX0 22 "TicketCoincidences" "people" "I"] ++ wsX00 ++ (vx_atS RX0 161 "java/lang/IndexOutOfBoundsException" ["java/lang/RuntimeException", "java/lang/Exception"]).filter goodWord)
def wsX0_walkOf : List Cond := .code yX0_walkOf cX0_walkOf 2 (some .int) :: ([.fieldLink RX0 19 "TicketCoincidences" "walks" "[I", .methodLink RX0 63 yX0_requireStranger, .instanceMethod yX0_requireStranger, .selects RX0 yX0_requireStranger yX0_requireStranger, .initialized RX0, .code yX0_requireStranger cX0_requireStranger 2 none, .classLink RX0 157 "java/lang/IndexOutOfBoundsException", .initialized "java/lang/IndexOutOfBoundsException", .fieldLink RX0 22 "TicketCoincidences" "people" "I"] ++ wsX00 ++ (vx_atS RX0 161 "java/lang/IndexOutOfBoundsException" ["java/lang/RuntimeException", "java/lang/Exception"]).filter goodWord)
def wsX0_requireCorner : List Cond := .code yX0_requireCorner cX0_requireCorner 1 none :: ([.classLink RX0 157 "java/lang/IndexOutOfBoundsException", .initialized "java/lang/IndexOutOfBoundsException", .methodLink RX0 45 yX0_isCorner, .static yX0_isCorner, .initialized RX0, .code yX0_isCorner cX0_isCorner 1 (some .boolean)] ++ (vx_atS RX0 161 "java/lang/IndexOutOfBoundsException" ["java/lang/RuntimeException", "java/lang/Exception"]).filter goodWord)
def wsX0_peopleAt : List Cond := .code yX0_peopleAt cX0_peopleAt 2 (some .int) :: ([.methodLink RX0 101 yX0_requireCorner, .static yX0_requireCorner, .initialized RX0, .code yX0_requireCorner cX0_requireCorner 1 none, .classLink RX0 157 "java/lang/IndexOutOfBoundsException", .initialized "java/lang/IndexOutOfBoundsException", .methodLink RX0 45 yX0_isCorner, .static yX0_isCorner, .code yX0_isCorner cX0_isCorner 1 (some .boolean), .methodLink RX0 104 yX0_crowdAt, .instanceMethod yX0_crowdAt, .selects RX0 yX0_crowdAt yX0_crowdAt, .code yX0_crowdAt cX0_crowdAt 4 (some .int), .fieldLink RX0 22 "TicketCoincidences" "people" "I", .fieldLink RX0 16 "TicketCoincidences" "corners" "[I"] ++ wsX00 ++ (vx_atS RX0 161 "java/lang/IndexOutOfBoundsException" ["java/lang/RuntimeException", "java/lang/Exception"]).filter goodWord)
def wsX0_pointsOf_r1 : List Cond := [Cond.methodLink RX0 80 yX0_requirePair, Cond.instanceMethod yX0_requirePair, Cond.selects RX0 yX0_requirePair yX0_requirePair, Cond.initialized RX0, Cond.code yX0_requirePair cX0_requirePair 3 none, Cond.classLink RX0 51 "java/lang/IllegalArgumentException", Cond.initialized "java/lang/IllegalArgumentException", Cond.methodLink RX0 63 yX0_requireStranger, Cond.instanceMethod yX0_requireStranger, Cond.selects RX0 yX0_requireStranger yX0_requireStranger, Cond.code yX0_requireStranger cX0_requireStranger 2 none, Cond.classLink RX0 157 "java/lang/IndexOutOfBoundsException", Cond.initialized "java/lang/IndexOutOfBoundsException", Cond.fieldLink RX0 22 "TicketCoincidences" "people" "I", Cond.methodLink RX0 107 yX0_pointsOfPair, Cond.instanceMethod yX0_pointsOfPair, Cond.selects RX0 yX0_pointsOfPair yX0_pointsOfPair, Cond.code yX0_pointsOfPair cX0_pointsOfPair 3 (some .int), Cond.fieldLink RX0 9 "TicketCoincidences" "tickets" "[I", Cond.fieldLink RX0 13 "TicketCoincidences" "colours" "[I", Cond.methodLink RX0 180 yX0_pointsOfTickets, Cond.static yX0_pointsOfTickets, Cond.code yX0_pointsOfTickets cX0_pointsOfTickets 3 (some .int), Cond.methodLink RX0 166 Lib.Math.abs.name]
def wsX0_pointsOf_r2 : List Cond := [Cond.static Lib.Math.abs.name, Cond.initialized "java/lang/Math", Cond.code Lib.Math.abs.name Lib.Math.abs.code 1 (some .int), Cond.methodLink RX0 177 yX0_figureSum, Cond.static yX0_figureSum, Cond.code yX0_figureSum cX0_figureSum 1 (some .int), Cond.methodLink RX0 110 yX0_mirrored, Cond.static yX0_mirrored, Cond.code yX0_mirrored cX0_mirrored 2 (some .boolean), Cond.methodLink RX0 183 yX0_pointsOfColours, Cond.static yX0_pointsOfColours, Cond.code yX0_pointsOfColours cX0_pointsOfColours 2 (some .int)]
def wsX0_pointsOf : List Cond := .code yX0_pointsOf cX0_pointsOf 3 (some .int) :: ((wsX0_pointsOf_r1 ++ wsX0_pointsOf_r2) ++ wsX00 ++ (vx_atS RX0 55 "java/lang/IllegalArgumentException" ["java/lang/RuntimeException", "java/lang/Exception"]).filter goodWord ++ (vx_atS RX0 161 "java/lang/IndexOutOfBoundsException" ["java/lang/RuntimeException", "java/lang/Exception"]).filter goodWord)
def wsX0_areTogether : List Cond := .code yX0_areTogether cX0_areTogether 3 (some .boolean) :: ([.fieldLink RX0 16 "TicketCoincidences" "corners" "[I", .methodLink RX0 80 yX0_requirePair, .instanceMethod yX0_requirePair, .selects RX0 yX0_requirePair yX0_requirePair, .initialized RX0, .code yX0_requirePair cX0_requirePair 3 none, .classLink RX0 51 "java/lang/IllegalArgumentException", .initialized "java/lang/IllegalArgumentException", .methodLink RX0 63 yX0_requireStranger, .instanceMethod yX0_requireStranger, .selects RX0 yX0_requireStranger yX0_requireStranger, .code yX0_requireStranger cX0_requireStranger 2 none, .classLink RX0 157 "java/lang/IndexOutOfBoundsException", .initialized "java/lang/IndexOutOfBoundsException", .fieldLink RX0 22 "TicketCoincidences" "people" "I"] ++ wsX00 ++ (vx_atS RX0 55 "java/lang/IllegalArgumentException" ["java/lang/RuntimeException", "java/lang/Exception"]).filter goodWord ++ (vx_atS RX0 161 "java/lang/IndexOutOfBoundsException" ["java/lang/RuntimeException", "java/lang/Exception"]).filter goodWord)
def wsX0_areMirrored : List Cond := .code yX0_areMirrored cX0_areMirrored 3 (some .boolean) :: ([.fieldLink RX0 9 "TicketCoincidences" "tickets" "[I", .methodLink RX0 80 yX0_requirePair, .instanceMethod yX0_requirePair, .selects RX0 yX0_requirePair yX0_requirePair, .initialized RX0, .code yX0_requirePair cX0_requirePair 3 none, .classLink RX0 51 "java/lang/IllegalArgumentException", .initialized "java/lang/IllegalArgumentException", .methodLink RX0 63 yX0_requireStranger, .instanceMethod yX0_requireStranger, .selects RX0 yX0_requireStranger yX0_requireStranger, .code yX0_requireStranger cX0_requireStranger 2 none, .classLink RX0 157 "java/lang/IndexOutOfBoundsException", .initialized "java/lang/IndexOutOfBoundsException", .fieldLink RX0 22 "TicketCoincidences" "people" "I", .methodLink RX0 110 yX0_mirrored, .static yX0_mirrored, .code yX0_mirrored cX0_mirrored 2 (some .boolean)] ++ wsX00 ++ (vx_atS RX0 55 "java/lang/IllegalArgumentException" ["java/lang/RuntimeException", "java/lang/Exception"]).filter goodWord ++ (vx_atS RX0 161 "java/lang/IndexOutOfBoundsException" ["java/lang/RuntimeException", "java/lang/Exception"]).filter goodWord)
def wsX0_coincidences_r1 : List Cond := [Cond.methodLink RX0 86 yX0_townBehind, Cond.instanceMethod yX0_townBehind, Cond.selects RX0 yX0_townBehind yX0_townBehind, Cond.initialized RX0, Cond.code yX0_townBehind cX0_townBehind 5 (some .int), Cond.fieldLink RX0 22 "TicketCoincidences" "people" "I", Cond.methodLink RX0 119 yX0_cornerBehind, Cond.instanceMethod yX0_cornerBehind, Cond.selects RX0 yX0_cornerBehind yX0_cornerBehind, Cond.code yX0_cornerBehind cX0_cornerBehind 3 (some .int), Cond.fieldLink RX0 16 "TicketCoincidences" "corners" "[I", Cond.fieldLink RX0 19 "TicketCoincidences" "walks" "[I", Cond.methodLink RX0 107 yX0_pointsOfPair, Cond.instanceMethod yX0_pointsOfPair, Cond.selects RX0 yX0_pointsOfPair yX0_pointsOfPair, Cond.code yX0_pointsOfPair cX0_pointsOfPair 3 (some .int), Cond.fieldLink RX0 9 "TicketCoincidences" "tickets" "[I", Cond.fieldLink RX0 13 "TicketCoincidences" "colours" "[I", Cond.methodLink RX0 180 yX0_pointsOfTickets, Cond.static yX0_pointsOfTickets, Cond.code yX0_pointsOfTickets cX0_pointsOfTickets 3 (some .int), Cond.methodLink RX0 166 Lib.Math.abs.name, Cond.static Lib.Math.abs.name, Cond.initialized "java/lang/Math"]
def wsX0_coincidences_r2 : List Cond := [Cond.code Lib.Math.abs.name Lib.Math.abs.code 1 (some .int), Cond.methodLink RX0 177 yX0_figureSum, Cond.static yX0_figureSum, Cond.code yX0_figureSum cX0_figureSum 1 (some .int), Cond.methodLink RX0 110 yX0_mirrored, Cond.static yX0_mirrored, Cond.code yX0_mirrored cX0_mirrored 2 (some .boolean), Cond.methodLink RX0 183 yX0_pointsOfColours, Cond.static yX0_pointsOfColours, Cond.code yX0_pointsOfColours cX0_pointsOfColours 2 (some .int)]
def wsX0_coincidences : List Cond := .code yX0_coincidences cX0_coincidences 1 (some .int) :: ((wsX0_coincidences_r1 ++ wsX0_coincidences_r2) ++ wsX00)
def wsX0_coincidencesAt_r1 : List Cond := [Cond.fieldLink RX0 22 "TicketCoincidences" "people" "I", Cond.fieldLink RX0 16 "TicketCoincidences" "corners" "[I", Cond.methodLink RX0 101 yX0_requireCorner, Cond.static yX0_requireCorner, Cond.initialized RX0, Cond.code yX0_requireCorner cX0_requireCorner 1 none, Cond.classLink RX0 157 "java/lang/IndexOutOfBoundsException", Cond.initialized "java/lang/IndexOutOfBoundsException", Cond.methodLink RX0 45 yX0_isCorner, Cond.static yX0_isCorner, Cond.code yX0_isCorner cX0_isCorner 1 (some .boolean), Cond.methodLink RX0 107 yX0_pointsOfPair, Cond.instanceMethod yX0_pointsOfPair, Cond.selects RX0 yX0_pointsOfPair yX0_pointsOfPair, Cond.code yX0_pointsOfPair cX0_pointsOfPair 3 (some .int), Cond.fieldLink RX0 9 "TicketCoincidences" "tickets" "[I", Cond.fieldLink RX0 13 "TicketCoincidences" "colours" "[I", Cond.methodLink RX0 180 yX0_pointsOfTickets, Cond.static yX0_pointsOfTickets, Cond.code yX0_pointsOfTickets cX0_pointsOfTickets 3 (some .int), Cond.methodLink RX0 166 Lib.Math.abs.name, Cond.static Lib.Math.abs.name, Cond.initialized "java/lang/Math", Cond.code Lib.Math.abs.name Lib.Math.abs.code 1 (some .int)]
def wsX0_coincidencesAt_r2 : List Cond := [Cond.methodLink RX0 177 yX0_figureSum, Cond.static yX0_figureSum, Cond.code yX0_figureSum cX0_figureSum 1 (some .int), Cond.methodLink RX0 110 yX0_mirrored, Cond.static yX0_mirrored, Cond.code yX0_mirrored cX0_mirrored 2 (some .boolean), Cond.methodLink RX0 183 yX0_pointsOfColours, Cond.static yX0_pointsOfColours, Cond.code yX0_pointsOfColours cX0_pointsOfColours 2 (some .int)]
def wsX0_coincidencesAt : List Cond := .code yX0_coincidencesAt cX0_coincidencesAt 5 (some .int) :: ((wsX0_coincidencesAt_r1 ++ wsX0_coincidencesAt_r2) ++ wsX00 ++ (vx_atS RX0 161 "java/lang/IndexOutOfBoundsException" ["java/lang/RuntimeException", "java/lang/Exception"]).filter goodWord)
def wsX0_luckWith : List Cond := .code yX0_luckWith cX0_luckWith 6 (some .int) :: ([.fieldLink RX0 22 "TicketCoincidences" "people" "I", .fieldLink RX0 16 "TicketCoincidences" "corners" "[I", .fieldLink RX0 9 "TicketCoincidences" "tickets" "[I", .fieldLink RX0 13 "TicketCoincidences" "colours" "[I", .methodLink RX0 180 yX0_pointsOfTickets, .static yX0_pointsOfTickets, .initialized RX0, .code yX0_pointsOfTickets cX0_pointsOfTickets 3 (some .int), .methodLink RX0 166 Lib.Math.abs.name, .static Lib.Math.abs.name, .initialized "java/lang/Math", .code Lib.Math.abs.name Lib.Math.abs.code 1 (some .int), .methodLink RX0 177 yX0_figureSum, .static yX0_figureSum, .code yX0_figureSum cX0_figureSum 1 (some .int), .methodLink RX0 110 yX0_mirrored, .static yX0_mirrored, .code yX0_mirrored cX0_mirrored 2 (some .boolean), .methodLink RX0 183 yX0_pointsOfColours, .static yX0_pointsOfColours, .code yX0_pointsOfColours cX0_pointsOfColours 2 (some .int)] ++ wsX00)
def wsX0_luckNow_r1 : List Cond := [Cond.fieldLink RX0 9 "TicketCoincidences" "tickets" "[I", Cond.fieldLink RX0 16 "TicketCoincidences" "corners" "[I", Cond.methodLink RX0 122 yX0_luckWith, Cond.instanceMethod yX0_luckWith, Cond.selects RX0 yX0_luckWith yX0_luckWith, Cond.initialized RX0, Cond.code yX0_luckWith cX0_luckWith 6 (some .int), Cond.fieldLink RX0 22 "TicketCoincidences" "people" "I", Cond.fieldLink RX0 13 "TicketCoincidences" "colours" "[I", Cond.methodLink RX0 180 yX0_pointsOfTickets, Cond.static yX0_pointsOfTickets, Cond.code yX0_pointsOfTickets cX0_pointsOfTickets 3 (some .int), Cond.methodLink RX0 166 Lib.Math.abs.name, Cond.static Lib.Math.abs.name, Cond.initialized "java/lang/Math", Cond.code Lib.Math.abs.name Lib.Math.abs.code 1 (some .int), Cond.methodLink RX0 177 yX0_figureSum, Cond.static yX0_figureSum, Cond.code yX0_figureSum cX0_figureSum 1 (some .int), Cond.methodLink RX0 110 yX0_mirrored, Cond.static yX0_mirrored, Cond.code yX0_mirrored cX0_mirrored 2 (some .boolean), Cond.methodLink RX0 183 yX0_pointsOfColours, Cond.static yX0_pointsOfColours]
def wsX0_luckNow_r2 : List Cond := [Cond.code yX0_pointsOfColours cX0_pointsOfColours 2 (some .int)]
def wsX0_luckNow : List Cond := .code yX0_luckNow cX0_luckNow 2 (some .int) :: ((wsX0_luckNow_r1 ++ wsX0_luckNow_r2) ++ wsX00)
def wsX0_luckOf_r1 : List Cond := [Cond.methodLink RX0 63 yX0_requireStranger, Cond.instanceMethod yX0_requireStranger, Cond.selects RX0 yX0_requireStranger yX0_requireStranger, Cond.initialized RX0, Cond.code yX0_requireStranger cX0_requireStranger 2 none, Cond.classLink RX0 157 "java/lang/IndexOutOfBoundsException", Cond.initialized "java/lang/IndexOutOfBoundsException", Cond.fieldLink RX0 22 "TicketCoincidences" "people" "I", Cond.methodLink RX0 114 yX0_luckNow, Cond.instanceMethod yX0_luckNow, Cond.selects RX0 yX0_luckNow yX0_luckNow, Cond.code yX0_luckNow cX0_luckNow 2 (some .int), Cond.fieldLink RX0 9 "TicketCoincidences" "tickets" "[I", Cond.fieldLink RX0 16 "TicketCoincidences" "corners" "[I", Cond.methodLink RX0 122 yX0_luckWith, Cond.instanceMethod yX0_luckWith, Cond.selects RX0 yX0_luckWith yX0_luckWith, Cond.code yX0_luckWith cX0_luckWith 6 (some .int), Cond.fieldLink RX0 13 "TicketCoincidences" "colours" "[I", Cond.methodLink RX0 180 yX0_pointsOfTickets, Cond.static yX0_pointsOfTickets, Cond.code yX0_pointsOfTickets cX0_pointsOfTickets 3 (some .int), Cond.methodLink RX0 166 Lib.Math.abs.name, Cond.static Lib.Math.abs.name]
def wsX0_luckOf_r2 : List Cond := [Cond.initialized "java/lang/Math", Cond.code Lib.Math.abs.name Lib.Math.abs.code 1 (some .int), Cond.methodLink RX0 177 yX0_figureSum, Cond.static yX0_figureSum, Cond.code yX0_figureSum cX0_figureSum 1 (some .int), Cond.methodLink RX0 110 yX0_mirrored, Cond.static yX0_mirrored, Cond.code yX0_mirrored cX0_mirrored 2 (some .boolean), Cond.methodLink RX0 183 yX0_pointsOfColours, Cond.static yX0_pointsOfColours, Cond.code yX0_pointsOfColours cX0_pointsOfColours 2 (some .int)]
def wsX0_luckOf : List Cond := .code yX0_luckOf cX0_luckOf 2 (some .int) :: ((wsX0_luckOf_r1 ++ wsX0_luckOf_r2) ++ wsX00 ++ (vx_atS RX0 161 "java/lang/IndexOutOfBoundsException" ["java/lang/RuntimeException", "java/lang/Exception"]).filter goodWord)
def wsX0_luckiestPair : List Cond := .code yX0_luckiestPair cX0_luckiestPair 6 (some .int) :: ([.fieldLink RX0 22 "TicketCoincidences" "people" "I", .methodLink RX0 107 yX0_pointsOfPair, .instanceMethod yX0_pointsOfPair, .selects RX0 yX0_pointsOfPair yX0_pointsOfPair, .initialized RX0, .code yX0_pointsOfPair cX0_pointsOfPair 3 (some .int), .fieldLink RX0 9 "TicketCoincidences" "tickets" "[I", .fieldLink RX0 13 "TicketCoincidences" "colours" "[I", .methodLink RX0 180 yX0_pointsOfTickets, .static yX0_pointsOfTickets, .code yX0_pointsOfTickets cX0_pointsOfTickets 3 (some .int), .methodLink RX0 166 Lib.Math.abs.name, .static Lib.Math.abs.name, .initialized "java/lang/Math", .code Lib.Math.abs.name Lib.Math.abs.code 1 (some .int), .methodLink RX0 177 yX0_figureSum, .static yX0_figureSum, .code yX0_figureSum cX0_figureSum 1 (some .int), .methodLink RX0 110 yX0_mirrored, .static yX0_mirrored, .code yX0_mirrored cX0_mirrored 2 (some .boolean), .methodLink RX0 183 yX0_pointsOfColours, .static yX0_pointsOfColours, .code yX0_pointsOfColours cX0_pointsOfColours 2 (some .int)] ++ wsX00)
def wsX0_coincidencesIn_r1 : List Cond := [Cond.classLink RX0 51 "java/lang/IllegalArgumentException", Cond.initialized "java/lang/IllegalArgumentException", Cond.methodLink RX0 86 yX0_townBehind, Cond.instanceMethod yX0_townBehind, Cond.selects RX0 yX0_townBehind yX0_townBehind, Cond.initialized RX0, Cond.code yX0_townBehind cX0_townBehind 5 (some .int), Cond.fieldLink RX0 22 "TicketCoincidences" "people" "I", Cond.methodLink RX0 119 yX0_cornerBehind, Cond.instanceMethod yX0_cornerBehind, Cond.selects RX0 yX0_cornerBehind yX0_cornerBehind, Cond.code yX0_cornerBehind cX0_cornerBehind 3 (some .int), Cond.fieldLink RX0 16 "TicketCoincidences" "corners" "[I", Cond.fieldLink RX0 19 "TicketCoincidences" "walks" "[I", Cond.methodLink RX0 107 yX0_pointsOfPair, Cond.instanceMethod yX0_pointsOfPair, Cond.selects RX0 yX0_pointsOfPair yX0_pointsOfPair, Cond.code yX0_pointsOfPair cX0_pointsOfPair 3 (some .int), Cond.fieldLink RX0 9 "TicketCoincidences" "tickets" "[I", Cond.fieldLink RX0 13 "TicketCoincidences" "colours" "[I", Cond.methodLink RX0 180 yX0_pointsOfTickets, Cond.static yX0_pointsOfTickets, Cond.code yX0_pointsOfTickets cX0_pointsOfTickets 3 (some .int), Cond.methodLink RX0 166 Lib.Math.abs.name]
def wsX0_coincidencesIn_r2 : List Cond := [Cond.static Lib.Math.abs.name, Cond.initialized "java/lang/Math", Cond.code Lib.Math.abs.name Lib.Math.abs.code 1 (some .int), Cond.methodLink RX0 177 yX0_figureSum, Cond.static yX0_figureSum, Cond.code yX0_figureSum cX0_figureSum 1 (some .int), Cond.methodLink RX0 110 yX0_mirrored, Cond.static yX0_mirrored, Cond.code yX0_mirrored cX0_mirrored 2 (some .boolean), Cond.methodLink RX0 183 yX0_pointsOfColours, Cond.static yX0_pointsOfColours, Cond.code yX0_pointsOfColours cX0_pointsOfColours 2 (some .int)]
def wsX0_coincidencesIn : List Cond := .code yX0_coincidencesIn cX0_coincidencesIn 2 (some .int) :: ((wsX0_coincidencesIn_r1 ++ wsX0_coincidencesIn_r2) ++ wsX00 ++ (vx_atS RX0 55 "java/lang/IllegalArgumentException" ["java/lang/RuntimeException", "java/lang/Exception"]).filter goodWord)
def wsX0_hoursUntilTogether : List Cond := .code yX0_hoursUntilTogether cX0_hoursUntilTogether 4 (some .int) :: ([.methodLink RX0 80 yX0_requirePair, .instanceMethod yX0_requirePair, .selects RX0 yX0_requirePair yX0_requirePair, .initialized RX0, .code yX0_requirePair cX0_requirePair 3 none, .classLink RX0 51 "java/lang/IllegalArgumentException", .initialized "java/lang/IllegalArgumentException", .methodLink RX0 63 yX0_requireStranger, .instanceMethod yX0_requireStranger, .selects RX0 yX0_requireStranger yX0_requireStranger, .code yX0_requireStranger cX0_requireStranger 2 none, .classLink RX0 157 "java/lang/IndexOutOfBoundsException", .initialized "java/lang/IndexOutOfBoundsException", .fieldLink RX0 22 "TicketCoincidences" "people" "I", .methodLink RX0 119 yX0_cornerBehind, .instanceMethod yX0_cornerBehind, .selects RX0 yX0_cornerBehind yX0_cornerBehind, .code yX0_cornerBehind cX0_cornerBehind 3 (some .int), .fieldLink RX0 16 "TicketCoincidences" "corners" "[I", .fieldLink RX0 19 "TicketCoincidences" "walks" "[I"] ++ wsX00 ++ (vx_atS RX0 55 "java/lang/IllegalArgumentException" ["java/lang/RuntimeException", "java/lang/Exception"]).filter goodWord ++ (vx_atS RX0 161 "java/lang/IndexOutOfBoundsException" ["java/lang/RuntimeException", "java/lang/Exception"]).filter goodWord)
def wsX0_costOfMeeting_r1 : List Cond := [Cond.fieldLink RX0 16 "TicketCoincidences" "corners" "[I", Cond.methodLink RX0 80 yX0_requirePair, Cond.instanceMethod yX0_requirePair, Cond.selects RX0 yX0_requirePair yX0_requirePair, Cond.initialized RX0, Cond.code yX0_requirePair cX0_requirePair 3 none, Cond.classLink RX0 51 "java/lang/IllegalArgumentException", Cond.initialized "java/lang/IllegalArgumentException", Cond.methodLink RX0 63 yX0_requireStranger, Cond.instanceMethod yX0_requireStranger, Cond.selects RX0 yX0_requireStranger yX0_requireStranger, Cond.code yX0_requireStranger cX0_requireStranger 2 none, Cond.classLink RX0 157 "java/lang/IndexOutOfBoundsException", Cond.initialized "java/lang/IndexOutOfBoundsException", Cond.fieldLink RX0 22 "TicketCoincidences" "people" "I", Cond.methodLink RX0 73 yX0_costOfWay, Cond.static yX0_costOfWay, Cond.code yX0_costOfWay cX0_costOfWay 3 (some .int), Cond.methodLink RX0 166 Lib.Math.abs.name, Cond.static Lib.Math.abs.name, Cond.initialized "java/lang/Math", Cond.code Lib.Math.abs.name Lib.Math.abs.code 1 (some .int), Cond.methodLink RX0 171 Lib.Math.min.name, Cond.static Lib.Math.min.name]
def wsX0_costOfMeeting_r2 : List Cond := [Cond.code Lib.Math.min.name Lib.Math.min.code 2 (some .int)]
def wsX0_costOfMeeting : List Cond := .code yX0_costOfMeeting cX0_costOfMeeting 3 (some .int) :: ((wsX0_costOfMeeting_r1 ++ wsX0_costOfMeeting_r2) ++ wsX00 ++ (vx_atS RX0 55 "java/lang/IllegalArgumentException" ["java/lang/RuntimeException", "java/lang/Exception"]).filter goodWord ++ (vx_atS RX0 161 "java/lang/IndexOutOfBoundsException" ["java/lang/RuntimeException", "java/lang/Exception"]).filter goodWord)
def wsX0_bestHour_r1 : List Cond := [Cond.methodLink RX0 86 yX0_townBehind, Cond.instanceMethod yX0_townBehind, Cond.selects RX0 yX0_townBehind yX0_townBehind, Cond.initialized RX0, Cond.code yX0_townBehind cX0_townBehind 5 (some .int), Cond.fieldLink RX0 22 "TicketCoincidences" "people" "I", Cond.methodLink RX0 119 yX0_cornerBehind, Cond.instanceMethod yX0_cornerBehind, Cond.selects RX0 yX0_cornerBehind yX0_cornerBehind, Cond.code yX0_cornerBehind cX0_cornerBehind 3 (some .int), Cond.fieldLink RX0 16 "TicketCoincidences" "corners" "[I", Cond.fieldLink RX0 19 "TicketCoincidences" "walks" "[I", Cond.methodLink RX0 107 yX0_pointsOfPair, Cond.instanceMethod yX0_pointsOfPair, Cond.selects RX0 yX0_pointsOfPair yX0_pointsOfPair, Cond.code yX0_pointsOfPair cX0_pointsOfPair 3 (some .int), Cond.fieldLink RX0 9 "TicketCoincidences" "tickets" "[I", Cond.fieldLink RX0 13 "TicketCoincidences" "colours" "[I", Cond.methodLink RX0 180 yX0_pointsOfTickets, Cond.static yX0_pointsOfTickets, Cond.code yX0_pointsOfTickets cX0_pointsOfTickets 3 (some .int), Cond.methodLink RX0 166 Lib.Math.abs.name, Cond.static Lib.Math.abs.name, Cond.initialized "java/lang/Math"]
def wsX0_bestHour_r2 : List Cond := [Cond.code Lib.Math.abs.name Lib.Math.abs.code 1 (some .int), Cond.methodLink RX0 177 yX0_figureSum, Cond.static yX0_figureSum, Cond.code yX0_figureSum cX0_figureSum 1 (some .int), Cond.methodLink RX0 110 yX0_mirrored, Cond.static yX0_mirrored, Cond.code yX0_mirrored cX0_mirrored 2 (some .boolean), Cond.methodLink RX0 183 yX0_pointsOfColours, Cond.static yX0_pointsOfColours, Cond.code yX0_pointsOfColours cX0_pointsOfColours 2 (some .int)]
def wsX0_bestHour : List Cond := .code yX0_bestHour cX0_bestHour 5 (some .int) :: ((wsX0_bestHour_r1 ++ wsX0_bestHour_r2) ++ wsX00)
def wsX0_bestCorner_r1 : List Cond := [Cond.fieldLink RX0 9 "TicketCoincidences" "tickets" "[I", Cond.methodLink RX0 63 yX0_requireStranger, Cond.instanceMethod yX0_requireStranger, Cond.selects RX0 yX0_requireStranger yX0_requireStranger, Cond.initialized RX0, Cond.code yX0_requireStranger cX0_requireStranger 2 none, Cond.classLink RX0 157 "java/lang/IndexOutOfBoundsException", Cond.initialized "java/lang/IndexOutOfBoundsException", Cond.fieldLink RX0 22 "TicketCoincidences" "people" "I", Cond.methodLink RX0 122 yX0_luckWith, Cond.instanceMethod yX0_luckWith, Cond.selects RX0 yX0_luckWith yX0_luckWith, Cond.code yX0_luckWith cX0_luckWith 6 (some .int), Cond.fieldLink RX0 16 "TicketCoincidences" "corners" "[I", Cond.fieldLink RX0 13 "TicketCoincidences" "colours" "[I", Cond.methodLink RX0 180 yX0_pointsOfTickets, Cond.static yX0_pointsOfTickets, Cond.code yX0_pointsOfTickets cX0_pointsOfTickets 3 (some .int), Cond.methodLink RX0 166 Lib.Math.abs.name, Cond.static Lib.Math.abs.name, Cond.initialized "java/lang/Math", Cond.code Lib.Math.abs.name Lib.Math.abs.code 1 (some .int), Cond.methodLink RX0 177 yX0_figureSum, Cond.static yX0_figureSum]
def wsX0_bestCorner_r2 : List Cond := [Cond.code yX0_figureSum cX0_figureSum 1 (some .int), Cond.methodLink RX0 110 yX0_mirrored, Cond.static yX0_mirrored, Cond.code yX0_mirrored cX0_mirrored 2 (some .boolean), Cond.methodLink RX0 183 yX0_pointsOfColours, Cond.static yX0_pointsOfColours, Cond.code yX0_pointsOfColours cX0_pointsOfColours 2 (some .int)]
def wsX0_bestCorner : List Cond := .code yX0_bestCorner cX0_bestCorner 6 (some .int) :: ((wsX0_bestCorner_r1 ++ wsX0_bestCorner_r2) ++ wsX00 ++ (vx_atS RX0 161 "java/lang/IndexOutOfBoundsException" ["java/lang/RuntimeException", "java/lang/Exception"]).filter goodWord)
def wsX0_townIfSwapped_r1 : List Cond := [Cond.fieldLink RX0 9 "TicketCoincidences" "tickets" "[I", Cond.methodLink RX0 90 yX0_exchange, Cond.static yX0_exchange, Cond.initialized RX0, Cond.code yX0_exchange cX0_exchange 4 none, Cond.methodLink RX0 86 yX0_townBehind, Cond.instanceMethod yX0_townBehind, Cond.selects RX0 yX0_townBehind yX0_townBehind, Cond.code yX0_townBehind cX0_townBehind 5 (some .int), Cond.fieldLink RX0 22 "TicketCoincidences" "people" "I", Cond.methodLink RX0 119 yX0_cornerBehind, Cond.instanceMethod yX0_cornerBehind, Cond.selects RX0 yX0_cornerBehind yX0_cornerBehind, Cond.code yX0_cornerBehind cX0_cornerBehind 3 (some .int), Cond.fieldLink RX0 16 "TicketCoincidences" "corners" "[I", Cond.fieldLink RX0 19 "TicketCoincidences" "walks" "[I", Cond.methodLink RX0 107 yX0_pointsOfPair, Cond.instanceMethod yX0_pointsOfPair, Cond.selects RX0 yX0_pointsOfPair yX0_pointsOfPair, Cond.code yX0_pointsOfPair cX0_pointsOfPair 3 (some .int), Cond.fieldLink RX0 13 "TicketCoincidences" "colours" "[I", Cond.methodLink RX0 180 yX0_pointsOfTickets, Cond.static yX0_pointsOfTickets, Cond.code yX0_pointsOfTickets cX0_pointsOfTickets 3 (some .int)]
def wsX0_townIfSwapped_r2 : List Cond := [Cond.methodLink RX0 166 Lib.Math.abs.name, Cond.static Lib.Math.abs.name, Cond.initialized "java/lang/Math", Cond.code Lib.Math.abs.name Lib.Math.abs.code 1 (some .int), Cond.methodLink RX0 177 yX0_figureSum, Cond.static yX0_figureSum, Cond.code yX0_figureSum cX0_figureSum 1 (some .int), Cond.methodLink RX0 110 yX0_mirrored, Cond.static yX0_mirrored, Cond.code yX0_mirrored cX0_mirrored 2 (some .boolean), Cond.methodLink RX0 183 yX0_pointsOfColours, Cond.static yX0_pointsOfColours, Cond.code yX0_pointsOfColours cX0_pointsOfColours 2 (some .int)]
def wsX0_townIfSwapped : List Cond := .code yX0_townIfSwapped cX0_townIfSwapped 4 (some .int) :: ((wsX0_townIfSwapped_r1 ++ wsX0_townIfSwapped_r2) ++ wsX00)
def wsX0_bestSwap_r1 : List Cond := [Cond.fieldLink RX0 22 "TicketCoincidences" "people" "I", Cond.methodLink RX0 86 yX0_townBehind, Cond.instanceMethod yX0_townBehind, Cond.selects RX0 yX0_townBehind yX0_townBehind, Cond.initialized RX0, Cond.code yX0_townBehind cX0_townBehind 5 (some .int), Cond.methodLink RX0 119 yX0_cornerBehind, Cond.instanceMethod yX0_cornerBehind, Cond.selects RX0 yX0_cornerBehind yX0_cornerBehind, Cond.code yX0_cornerBehind cX0_cornerBehind 3 (some .int), Cond.fieldLink RX0 16 "TicketCoincidences" "corners" "[I", Cond.fieldLink RX0 19 "TicketCoincidences" "walks" "[I", Cond.methodLink RX0 107 yX0_pointsOfPair, Cond.instanceMethod yX0_pointsOfPair, Cond.selects RX0 yX0_pointsOfPair yX0_pointsOfPair, Cond.code yX0_pointsOfPair cX0_pointsOfPair 3 (some .int), Cond.fieldLink RX0 9 "TicketCoincidences" "tickets" "[I", Cond.fieldLink RX0 13 "TicketCoincidences" "colours" "[I", Cond.methodLink RX0 180 yX0_pointsOfTickets, Cond.static yX0_pointsOfTickets, Cond.code yX0_pointsOfTickets cX0_pointsOfTickets 3 (some .int), Cond.methodLink RX0 166 Lib.Math.abs.name, Cond.static Lib.Math.abs.name, Cond.initialized "java/lang/Math"]
def wsX0_bestSwap_r2 : List Cond := [Cond.code Lib.Math.abs.name Lib.Math.abs.code 1 (some .int), Cond.methodLink RX0 177 yX0_figureSum, Cond.static yX0_figureSum, Cond.code yX0_figureSum cX0_figureSum 1 (some .int), Cond.methodLink RX0 110 yX0_mirrored, Cond.static yX0_mirrored, Cond.code yX0_mirrored cX0_mirrored 2 (some .boolean), Cond.methodLink RX0 183 yX0_pointsOfColours, Cond.static yX0_pointsOfColours, Cond.code yX0_pointsOfColours cX0_pointsOfColours 2 (some .int), Cond.methodLink RX0 126 yX0_townIfSwapped, Cond.instanceMethod yX0_townIfSwapped, Cond.selects RX0 yX0_townIfSwapped yX0_townIfSwapped, Cond.code yX0_townIfSwapped cX0_townIfSwapped 4 (some .int), Cond.methodLink RX0 90 yX0_exchange, Cond.static yX0_exchange, Cond.code yX0_exchange cX0_exchange 4 none]
def wsX0_bestSwap : List Cond := .code yX0_bestSwap cX0_bestSwap 6 (some .int) :: ((wsX0_bestSwap_r1 ++ wsX0_bestSwap_r2) ++ wsX00)
def wsX0_bestTicket_r1 : List Cond := [Cond.fieldLink RX0 16 "TicketCoincidences" "corners" "[I", Cond.methodLink RX0 63 yX0_requireStranger, Cond.instanceMethod yX0_requireStranger, Cond.selects RX0 yX0_requireStranger yX0_requireStranger, Cond.initialized RX0, Cond.code yX0_requireStranger cX0_requireStranger 2 none, Cond.classLink RX0 157 "java/lang/IndexOutOfBoundsException", Cond.initialized "java/lang/IndexOutOfBoundsException", Cond.fieldLink RX0 22 "TicketCoincidences" "people" "I", Cond.methodLink RX0 122 yX0_luckWith, Cond.instanceMethod yX0_luckWith, Cond.selects RX0 yX0_luckWith yX0_luckWith, Cond.code yX0_luckWith cX0_luckWith 6 (some .int), Cond.fieldLink RX0 9 "TicketCoincidences" "tickets" "[I", Cond.fieldLink RX0 13 "TicketCoincidences" "colours" "[I", Cond.methodLink RX0 180 yX0_pointsOfTickets, Cond.static yX0_pointsOfTickets, Cond.code yX0_pointsOfTickets cX0_pointsOfTickets 3 (some .int), Cond.methodLink RX0 166 Lib.Math.abs.name, Cond.static Lib.Math.abs.name, Cond.initialized "java/lang/Math", Cond.code Lib.Math.abs.name Lib.Math.abs.code 1 (some .int), Cond.methodLink RX0 177 yX0_figureSum, Cond.static yX0_figureSum]
def wsX0_bestTicket_r2 : List Cond := [Cond.code yX0_figureSum cX0_figureSum 1 (some .int), Cond.methodLink RX0 110 yX0_mirrored, Cond.static yX0_mirrored, Cond.code yX0_mirrored cX0_mirrored 2 (some .boolean), Cond.methodLink RX0 183 yX0_pointsOfColours, Cond.static yX0_pointsOfColours, Cond.code yX0_pointsOfColours cX0_pointsOfColours 2 (some .int)]
def wsX0_bestTicket : List Cond := .code yX0_bestTicket cX0_bestTicket 6 (some .int) :: ((wsX0_bestTicket_r1 ++ wsX0_bestTicket_r2) ++ wsX00 ++ (vx_atS RX0 161 "java/lang/IndexOutOfBoundsException" ["java/lang/RuntimeException", "java/lang/Exception"]).filter goodWord)
def wsX0_meanLuck_r1 : List Cond := [Cond.fieldLink RX0 22 "TicketCoincidences" "people" "I", Cond.methodLink RX0 114 yX0_luckNow, Cond.instanceMethod yX0_luckNow, Cond.selects RX0 yX0_luckNow yX0_luckNow, Cond.initialized RX0, Cond.code yX0_luckNow cX0_luckNow 2 (some .int), Cond.fieldLink RX0 9 "TicketCoincidences" "tickets" "[I", Cond.fieldLink RX0 16 "TicketCoincidences" "corners" "[I", Cond.methodLink RX0 122 yX0_luckWith, Cond.instanceMethod yX0_luckWith, Cond.selects RX0 yX0_luckWith yX0_luckWith, Cond.code yX0_luckWith cX0_luckWith 6 (some .int), Cond.fieldLink RX0 13 "TicketCoincidences" "colours" "[I", Cond.methodLink RX0 180 yX0_pointsOfTickets, Cond.static yX0_pointsOfTickets, Cond.code yX0_pointsOfTickets cX0_pointsOfTickets 3 (some .int), Cond.methodLink RX0 166 Lib.Math.abs.name, Cond.static Lib.Math.abs.name, Cond.initialized "java/lang/Math", Cond.code Lib.Math.abs.name Lib.Math.abs.code 1 (some .int), Cond.methodLink RX0 177 yX0_figureSum, Cond.static yX0_figureSum, Cond.code yX0_figureSum cX0_figureSum 1 (some .int), Cond.methodLink RX0 110 yX0_mirrored]
def wsX0_meanLuck_r2 : List Cond := [Cond.static yX0_mirrored, Cond.code yX0_mirrored cX0_mirrored 2 (some .boolean), Cond.methodLink RX0 183 yX0_pointsOfColours, Cond.static yX0_pointsOfColours, Cond.code yX0_pointsOfColours cX0_pointsOfColours 2 (some .int)]
def wsX0_meanLuck : List Cond := .code yX0_meanLuck cX0_meanLuck 3 (some .double) :: ((wsX0_meanLuck_r1 ++ wsX0_meanLuck_r2) ++ wsX00)
def wsX0_mixed : List Cond := .code yX0_mixed cX0_mixed 4 (some .long) :: ([.constantLong RX0 186 (31)])
def wsX0_digest_r1 : List Cond := [Cond.constantLong RX0 129 (1979), Cond.fieldLink RX0 22 "TicketCoincidences" "people" "I", Cond.fieldLink RX0 26 "TicketCoincidences" "hourNow" "I", Cond.fieldLink RX0 29 "TicketCoincidences" "inStore" "I", Cond.fieldLink RX0 32 "TicketCoincidences" "countedInAll" "I", Cond.fieldLink RX0 35 "TicketCoincidences" "spentInAll" "I", Cond.fieldLink RX0 9 "TicketCoincidences" "tickets" "[I", Cond.fieldLink RX0 13 "TicketCoincidences" "colours" "[I", Cond.fieldLink RX0 16 "TicketCoincidences" "corners" "[I", Cond.fieldLink RX0 19 "TicketCoincidences" "walks" "[I", Cond.methodLink RX0 131 yX0_mixed, Cond.static yX0_mixed, Cond.initialized RX0, Cond.code yX0_mixed cX0_mixed 4 (some .long), Cond.constantLong RX0 186 (31), Cond.methodLink RX0 135 yX0_coincidences, Cond.instanceMethod yX0_coincidences, Cond.selects RX0 yX0_coincidences yX0_coincidences, Cond.code yX0_coincidences cX0_coincidences 1 (some .int), Cond.methodLink RX0 86 yX0_townBehind, Cond.instanceMethod yX0_townBehind, Cond.selects RX0 yX0_townBehind yX0_townBehind, Cond.code yX0_townBehind cX0_townBehind 5 (some .int), Cond.methodLink RX0 119 yX0_cornerBehind]
def wsX0_digest_r2 : List Cond := [Cond.instanceMethod yX0_cornerBehind, Cond.selects RX0 yX0_cornerBehind yX0_cornerBehind, Cond.code yX0_cornerBehind cX0_cornerBehind 3 (some .int), Cond.methodLink RX0 107 yX0_pointsOfPair, Cond.instanceMethod yX0_pointsOfPair, Cond.selects RX0 yX0_pointsOfPair yX0_pointsOfPair, Cond.code yX0_pointsOfPair cX0_pointsOfPair 3 (some .int), Cond.methodLink RX0 180 yX0_pointsOfTickets, Cond.static yX0_pointsOfTickets, Cond.code yX0_pointsOfTickets cX0_pointsOfTickets 3 (some .int), Cond.methodLink RX0 166 Lib.Math.abs.name, Cond.static Lib.Math.abs.name, Cond.initialized "java/lang/Math", Cond.code Lib.Math.abs.name Lib.Math.abs.code 1 (some .int), Cond.methodLink RX0 177 yX0_figureSum, Cond.static yX0_figureSum, Cond.code yX0_figureSum cX0_figureSum 1 (some .int), Cond.methodLink RX0 110 yX0_mirrored, Cond.static yX0_mirrored, Cond.code yX0_mirrored cX0_mirrored 2 (some .boolean), Cond.methodLink RX0 183 yX0_pointsOfColours, Cond.static yX0_pointsOfColours, Cond.code yX0_pointsOfColours cX0_pointsOfColours 2 (some .int), Cond.methodLink RX0 139 yX0_luckiestPair]
def wsX0_digest_r3 : List Cond := [Cond.instanceMethod yX0_luckiestPair, Cond.selects RX0 yX0_luckiestPair yX0_luckiestPair, Cond.code yX0_luckiestPair cX0_luckiestPair 6 (some .int), Cond.methodLink RX0 142 yX0_bestHour, Cond.instanceMethod yX0_bestHour, Cond.selects RX0 yX0_bestHour yX0_bestHour, Cond.code yX0_bestHour cX0_bestHour 5 (some .int), Cond.methodLink RX0 145 yX0_bestSwap, Cond.instanceMethod yX0_bestSwap, Cond.selects RX0 yX0_bestSwap yX0_bestSwap, Cond.code yX0_bestSwap cX0_bestSwap 6 (some .int), Cond.methodLink RX0 126 yX0_townIfSwapped, Cond.instanceMethod yX0_townIfSwapped, Cond.selects RX0 yX0_townIfSwapped yX0_townIfSwapped, Cond.code yX0_townIfSwapped cX0_townIfSwapped 4 (some .int), Cond.methodLink RX0 90 yX0_exchange, Cond.static yX0_exchange, Cond.code yX0_exchange cX0_exchange 4 none, Cond.methodLink RX0 148 yX0_peopleAt, Cond.instanceMethod yX0_peopleAt, Cond.selects RX0 yX0_peopleAt yX0_peopleAt, Cond.code yX0_peopleAt cX0_peopleAt 2 (some .int), Cond.methodLink RX0 101 yX0_requireCorner, Cond.static yX0_requireCorner]
def wsX0_digest_r4 : List Cond := [Cond.code yX0_requireCorner cX0_requireCorner 1 none, Cond.classLink RX0 157 "java/lang/IndexOutOfBoundsException", Cond.initialized "java/lang/IndexOutOfBoundsException", Cond.methodLink RX0 45 yX0_isCorner, Cond.static yX0_isCorner, Cond.code yX0_isCorner cX0_isCorner 1 (some .boolean), Cond.methodLink RX0 104 yX0_crowdAt, Cond.instanceMethod yX0_crowdAt, Cond.selects RX0 yX0_crowdAt yX0_crowdAt, Cond.code yX0_crowdAt cX0_crowdAt 4 (some .int), Cond.methodLink RX0 151 yX0_coincidencesAt, Cond.instanceMethod yX0_coincidencesAt, Cond.selects RX0 yX0_coincidencesAt yX0_coincidencesAt, Cond.code yX0_coincidencesAt cX0_coincidencesAt 5 (some .int), Cond.methodLink RX0 114 yX0_luckNow, Cond.instanceMethod yX0_luckNow, Cond.selects RX0 yX0_luckNow yX0_luckNow, Cond.code yX0_luckNow cX0_luckNow 2 (some .int), Cond.methodLink RX0 122 yX0_luckWith, Cond.instanceMethod yX0_luckWith, Cond.selects RX0 yX0_luckWith yX0_luckWith, Cond.code yX0_luckWith cX0_luckWith 6 (some .int), Cond.methodLink RX0 154 yX0_bestCorner, Cond.instanceMethod yX0_bestCorner]
def wsX0_digest_r5 : List Cond := [Cond.selects RX0 yX0_bestCorner yX0_bestCorner, Cond.code yX0_bestCorner cX0_bestCorner 6 (some .int), Cond.methodLink RX0 63 yX0_requireStranger, Cond.instanceMethod yX0_requireStranger, Cond.selects RX0 yX0_requireStranger yX0_requireStranger, Cond.code yX0_requireStranger cX0_requireStranger 2 none]
def wsX0_digest : List Cond := .code yX0_digest cX0_digest 4 (some .long) :: ((wsX0_digest_r1 ++ (wsX0_digest_r2 ++ (wsX0_digest_r3 ++ (wsX0_digest_r4 ++ wsX0_digest_r5)))) ++ wsX00 ++ (vx_atS RX0 161 "java/lang/IndexOutOfBoundsException" ["java/lang/RuntimeException", "java/lang/Exception"]).filter goodWord)
def wsX1_init : List Cond := .code yX1_init cX1_init 1 none :: ([.methodLink RX1 1 objectInit, .instanceMethod objectInit, .code objectInit ⟨#[0xb1]⟩ 1 none, .arrayClass .int, .fieldLink RX1 9 "TicketCoincidencesModel" "ticket" "[I", .fieldLink RX1 13 "TicketCoincidencesModel" "colour" "[I", .fieldLink RX1 16 "TicketCoincidencesModel" "corner" "[I", .fieldLink RX1 19 "TicketCoincidencesModel" "walk" "[I", .fieldLink RX1 22 "TicketCoincidencesModel" "store" "I"] ++ wsX10)
def wsX1_thrown : List Cond := .code yX1_thrown cX1_thrown 1 (some .int) :: ([.fieldLink RX1 26 "TicketCoincidencesModel" "thrown" "I"] ++ wsX10)
def wsX1_no : List Cond := .code yX1_no cX1_no 2 (some .int) :: ([.fieldLink RX1 26 "TicketCoincidencesModel" "thrown" "I"] ++ wsX10)
def wsX1_ok : List Cond := .code yX1_ok cX1_ok 2 (some .int) :: ([.fieldLink RX1 26 "TicketCoincidencesModel" "thrown" "I"] ++ wsX10)
def wsX1_isIn : List Cond := .code yX1_isIn cX1_isIn 3 (some .boolean) :: ([])
def wsX1_isOne : List Cond := .code yX1_isOne cX1_isOne 2 (some .boolean) :: ([.fieldLink RX1 29 "TicketCoincidencesModel" "people" "I", .methodLink RX1 32 yX1_isIn, .static yX1_isIn, .initialized RX1, .code yX1_isIn cX1_isIn 3 (some .boolean)] ++ wsX10)
def wsX1_isCorner : List Cond := .code yX1_isCorner cX1_isCorner 1 (some .boolean) :: ([.methodLink RX1 32 yX1_isIn, .static yX1_isIn, .initialized RX1, .code yX1_isIn cX1_isIn 3 (some .boolean)])
def wsX1_isMirror : List Cond := .code yX1_isMirror cX1_isMirror 2 (some .boolean) :: ([])
def wsX1_points : List Cond := .code yX1_points cX1_points 6 (some .int) :: ([.fieldLink RX1 9 "TicketCoincidencesModel" "ticket" "[I", .fieldLink RX1 13 "TicketCoincidencesModel" "colour" "[I", .methodLink RX1 36 yX1_isMirror, .static yX1_isMirror, .initialized RX1, .code yX1_isMirror cX1_isMirror 2 (some .boolean)] ++ wsX10)
def wsX1_cornerIn : List Cond := .code yX1_cornerIn cX1_cornerIn 3 (some .int) :: ([.fieldLink RX1 16 "TicketCoincidencesModel" "corner" "[I", .fieldLink RX1 19 "TicketCoincidencesModel" "walk" "[I"] ++ wsX10)
def wsX1_town : List Cond := .code yX1_town cX1_town 6 (some .int) :: ([.fieldLink RX1 29 "TicketCoincidencesModel" "people" "I", .methodLink RX1 40 yX1_cornerIn, .instanceMethod yX1_cornerIn, .selects RX1 yX1_cornerIn yX1_cornerIn, .initialized RX1, .code yX1_cornerIn cX1_cornerIn 3 (some .int), .fieldLink RX1 16 "TicketCoincidencesModel" "corner" "[I", .fieldLink RX1 19 "TicketCoincidencesModel" "walk" "[I", .methodLink RX1 44 yX1_points, .instanceMethod yX1_points, .selects RX1 yX1_points yX1_points, .code yX1_points cX1_points 6 (some .int), .fieldLink RX1 9 "TicketCoincidencesModel" "ticket" "[I", .fieldLink RX1 13 "TicketCoincidencesModel" "colour" "[I", .methodLink RX1 36 yX1_isMirror, .static yX1_isMirror, .code yX1_isMirror cX1_isMirror 2 (some .boolean)] ++ wsX10)
def wsX1_here : List Cond := .code yX1_here cX1_here 1 (some .int) :: ([.methodLink RX1 47 yX1_town, .instanceMethod yX1_town, .selects RX1 yX1_town yX1_town, .initialized RX1, .code yX1_town cX1_town 6 (some .int), .fieldLink RX1 29 "TicketCoincidencesModel" "people" "I", .methodLink RX1 40 yX1_cornerIn, .instanceMethod yX1_cornerIn, .selects RX1 yX1_cornerIn yX1_cornerIn, .code yX1_cornerIn cX1_cornerIn 3 (some .int), .fieldLink RX1 16 "TicketCoincidencesModel" "corner" "[I", .fieldLink RX1 19 "TicketCoincidencesModel" "walk" "[I", .methodLink RX1 44 yX1_points, .instanceMethod yX1_points, .selects RX1 yX1_points yX1_points, .code yX1_points cX1_points 6 (some .int), .fieldLink RX1 9 "TicketCoincidencesModel" "ticket" "[I", .fieldLink RX1 13 "TicketCoincidencesModel" "colour" "[I", .methodLink RX1 36 yX1_isMirror, .static yX1_isMirror, .code yX1_isMirror cX1_isMirror 2 (some .boolean)] ++ wsX10)
def wsX1_luck : List Cond := .code yX1_luck cX1_luck 4 (some .int) :: ([.fieldLink RX1 29 "TicketCoincidencesModel" "people" "I", .fieldLink RX1 16 "TicketCoincidencesModel" "corner" "[I", .methodLink RX1 44 yX1_points, .instanceMethod yX1_points, .selects RX1 yX1_points yX1_points, .initialized RX1, .code yX1_points cX1_points 6 (some .int), .fieldLink RX1 9 "TicketCoincidencesModel" "ticket" "[I", .fieldLink RX1 13 "TicketCoincidencesModel" "colour" "[I", .methodLink RX1 36 yX1_isMirror, .static yX1_isMirror, .code yX1_isMirror cX1_isMirror 2 (some .boolean)] ++ wsX10)
def wsX1_at : List Cond := .code yX1_at cX1_at 4 (some .int) :: ([.fieldLink RX1 29 "TicketCoincidencesModel" "people" "I", .fieldLink RX1 16 "TicketCoincidencesModel" "corner" "[I"] ++ wsX10)
def wsX1_apart : List Cond := .code yX1_apart cX1_apart 3 (some .int) :: ([.methodLink RX1 50 Lib.Math.abs.name, .static Lib.Math.abs.name, .initialized "java/lang/Math", .code Lib.Math.abs.name Lib.Math.abs.code 1 (some .int), .methodLink RX1 56 Lib.Math.min.name, .static Lib.Math.min.name, .code Lib.Math.min.name Lib.Math.min.code 2 (some .int)])
def wsX1_addStranger : List Cond := .code yX1_addStranger cX1_addStranger 5 (some .int) :: ([.fieldLink RX1 26 "TicketCoincidencesModel" "thrown" "I", .fieldLink RX1 29 "TicketCoincidencesModel" "people" "I", .fieldLink RX1 9 "TicketCoincidencesModel" "ticket" "[I", .fieldLink RX1 13 "TicketCoincidencesModel" "colour" "[I", .fieldLink RX1 16 "TicketCoincidencesModel" "corner" "[I", .fieldLink RX1 19 "TicketCoincidencesModel" "walk" "[I", .methodLink RX1 32 yX1_isIn, .static yX1_isIn, .initialized RX1, .code yX1_isIn cX1_isIn 3 (some .boolean), .methodLink RX1 59 yX1_isCorner, .static yX1_isCorner, .code yX1_isCorner cX1_isCorner 1 (some .boolean), .methodLink RX1 63 yX1_no, .instanceMethod yX1_no, .selects RX1 yX1_no yX1_no, .code yX1_no cX1_no 2 (some .int)] ++ wsX10)
def wsX1_setWalk : List Cond := .code yX1_setWalk cX1_setWalk 4 (some .int) :: ([.fieldLink RX1 26 "TicketCoincidencesModel" "thrown" "I", .fieldLink RX1 19 "TicketCoincidencesModel" "walk" "[I", .methodLink RX1 66 yX1_isOne, .instanceMethod yX1_isOne, .selects RX1 yX1_isOne yX1_isOne, .initialized RX1, .code yX1_isOne cX1_isOne 2 (some .boolean), .fieldLink RX1 29 "TicketCoincidencesModel" "people" "I", .methodLink RX1 32 yX1_isIn, .static yX1_isIn, .code yX1_isIn cX1_isIn 3 (some .boolean), .methodLink RX1 63 yX1_no, .instanceMethod yX1_no, .selects RX1 yX1_no yX1_no, .code yX1_no cX1_no 2 (some .int), .methodLink RX1 59 yX1_isCorner, .static yX1_isCorner, .code yX1_isCorner cX1_isCorner 1 (some .boolean)] ++ wsX10)
def wsX1_pay : List Cond := .code yX1_pay cX1_pay 2 (some .int) :: ([.fieldLink RX1 22 "TicketCoincidencesModel" "store" "I", .fieldLink RX1 69 "TicketCoincidencesModel" "spent" "I"] ++ wsX10)
def wsX1_move_r1 : List Cond := [Cond.fieldLink RX1 26 "TicketCoincidencesModel" "thrown" "I", Cond.fieldLink RX1 16 "TicketCoincidencesModel" "corner" "[I", Cond.fieldLink RX1 22 "TicketCoincidencesModel" "store" "I", Cond.methodLink RX1 66 yX1_isOne, Cond.instanceMethod yX1_isOne, Cond.selects RX1 yX1_isOne yX1_isOne, Cond.initialized RX1, Cond.code yX1_isOne cX1_isOne 2 (some .boolean), Cond.fieldLink RX1 29 "TicketCoincidencesModel" "people" "I", Cond.methodLink RX1 32 yX1_isIn, Cond.static yX1_isIn, Cond.code yX1_isIn cX1_isIn 3 (some .boolean), Cond.methodLink RX1 63 yX1_no, Cond.instanceMethod yX1_no, Cond.selects RX1 yX1_no yX1_no, Cond.code yX1_no cX1_no 2 (some .int), Cond.methodLink RX1 59 yX1_isCorner, Cond.static yX1_isCorner, Cond.code yX1_isCorner cX1_isCorner 1 (some .boolean), Cond.methodLink RX1 72 yX1_apart, Cond.static yX1_apart, Cond.code yX1_apart cX1_apart 3 (some .int), Cond.methodLink RX1 50 Lib.Math.abs.name, Cond.static Lib.Math.abs.name]
def wsX1_move_r2 : List Cond := [Cond.initialized "java/lang/Math", Cond.code Lib.Math.abs.name Lib.Math.abs.code 1 (some .int), Cond.methodLink RX1 56 Lib.Math.min.name, Cond.static Lib.Math.min.name, Cond.code Lib.Math.min.name Lib.Math.min.code 2 (some .int), Cond.methodLink RX1 75 yX1_pay, Cond.instanceMethod yX1_pay, Cond.selects RX1 yX1_pay yX1_pay, Cond.code yX1_pay cX1_pay 2 (some .int), Cond.fieldLink RX1 69 "TicketCoincidencesModel" "spent" "I"]
def wsX1_move : List Cond := .code yX1_move cX1_move 4 (some .int) :: ((wsX1_move_r1 ++ wsX1_move_r2) ++ wsX10)
def wsX1_wrongPair : List Cond := .code yX1_wrongPair cX1_wrongPair 3 (some .int) :: ([.methodLink RX1 66 yX1_isOne, .instanceMethod yX1_isOne, .selects RX1 yX1_isOne yX1_isOne, .initialized RX1, .code yX1_isOne cX1_isOne 2 (some .boolean), .fieldLink RX1 29 "TicketCoincidencesModel" "people" "I", .methodLink RX1 32 yX1_isIn, .static yX1_isIn, .code yX1_isIn cX1_isIn 3 (some .boolean)] ++ wsX10)
def wsX1_swap : List Cond := .code yX1_swap cX1_swap 4 none :: ([])
def wsX1_swapped_r1 : List Cond := [Cond.methodLink RX1 78 yX1_here, Cond.instanceMethod yX1_here, Cond.selects RX1 yX1_here yX1_here, Cond.initialized RX1, Cond.code yX1_here cX1_here 1 (some .int), Cond.methodLink RX1 47 yX1_town, Cond.instanceMethod yX1_town, Cond.selects RX1 yX1_town yX1_town, Cond.code yX1_town cX1_town 6 (some .int), Cond.fieldLink RX1 29 "TicketCoincidencesModel" "people" "I", Cond.methodLink RX1 40 yX1_cornerIn, Cond.instanceMethod yX1_cornerIn, Cond.selects RX1 yX1_cornerIn yX1_cornerIn, Cond.code yX1_cornerIn cX1_cornerIn 3 (some .int), Cond.fieldLink RX1 16 "TicketCoincidencesModel" "corner" "[I", Cond.fieldLink RX1 19 "TicketCoincidencesModel" "walk" "[I", Cond.methodLink RX1 44 yX1_points, Cond.instanceMethod yX1_points, Cond.selects RX1 yX1_points yX1_points, Cond.code yX1_points cX1_points 6 (some .int), Cond.fieldLink RX1 9 "TicketCoincidencesModel" "ticket" "[I", Cond.fieldLink RX1 13 "TicketCoincidencesModel" "colour" "[I", Cond.methodLink RX1 36 yX1_isMirror, Cond.static yX1_isMirror]
def wsX1_swapped_r2 : List Cond := [Cond.code yX1_isMirror cX1_isMirror 2 (some .boolean), Cond.methodLink RX1 82 yX1_swap, Cond.static yX1_swap, Cond.code yX1_swap cX1_swap 4 none]
def wsX1_swapped : List Cond := .code yX1_swapped cX1_swapped 5 (some .int) :: ((wsX1_swapped_r1 ++ wsX1_swapped_r2) ++ wsX10)
def wsX1_swapUmbrellas_r1 : List Cond := [Cond.fieldLink RX1 26 "TicketCoincidencesModel" "thrown" "I", Cond.fieldLink RX1 16 "TicketCoincidencesModel" "corner" "[I", Cond.fieldLink RX1 22 "TicketCoincidencesModel" "store" "I", Cond.fieldLink RX1 13 "TicketCoincidencesModel" "colour" "[I", Cond.methodLink RX1 86 yX1_wrongPair, Cond.instanceMethod yX1_wrongPair, Cond.selects RX1 yX1_wrongPair yX1_wrongPair, Cond.initialized RX1, Cond.code yX1_wrongPair cX1_wrongPair 3 (some .int), Cond.methodLink RX1 66 yX1_isOne, Cond.instanceMethod yX1_isOne, Cond.selects RX1 yX1_isOne yX1_isOne, Cond.code yX1_isOne cX1_isOne 2 (some .boolean), Cond.fieldLink RX1 29 "TicketCoincidencesModel" "people" "I", Cond.methodLink RX1 32 yX1_isIn, Cond.static yX1_isIn, Cond.code yX1_isIn cX1_isIn 3 (some .boolean), Cond.methodLink RX1 63 yX1_no, Cond.instanceMethod yX1_no, Cond.selects RX1 yX1_no yX1_no, Cond.code yX1_no cX1_no 2 (some .int), Cond.methodLink RX1 75 yX1_pay, Cond.instanceMethod yX1_pay, Cond.selects RX1 yX1_pay yX1_pay]
def wsX1_swapUmbrellas_r2 : List Cond := [Cond.code yX1_pay cX1_pay 2 (some .int), Cond.fieldLink RX1 69 "TicketCoincidencesModel" "spent" "I", Cond.methodLink RX1 89 yX1_swapped, Cond.instanceMethod yX1_swapped, Cond.selects RX1 yX1_swapped yX1_swapped, Cond.code yX1_swapped cX1_swapped 5 (some .int), Cond.methodLink RX1 78 yX1_here, Cond.instanceMethod yX1_here, Cond.selects RX1 yX1_here yX1_here, Cond.code yX1_here cX1_here 1 (some .int), Cond.methodLink RX1 47 yX1_town, Cond.instanceMethod yX1_town, Cond.selects RX1 yX1_town yX1_town, Cond.code yX1_town cX1_town 6 (some .int), Cond.methodLink RX1 40 yX1_cornerIn, Cond.instanceMethod yX1_cornerIn, Cond.selects RX1 yX1_cornerIn yX1_cornerIn, Cond.code yX1_cornerIn cX1_cornerIn 3 (some .int), Cond.fieldLink RX1 19 "TicketCoincidencesModel" "walk" "[I", Cond.methodLink RX1 44 yX1_points, Cond.instanceMethod yX1_points, Cond.selects RX1 yX1_points yX1_points, Cond.code yX1_points cX1_points 6 (some .int), Cond.fieldLink RX1 9 "TicketCoincidencesModel" "ticket" "[I"]
def wsX1_swapUmbrellas_r3 : List Cond := [Cond.methodLink RX1 36 yX1_isMirror, Cond.static yX1_isMirror, Cond.code yX1_isMirror cX1_isMirror 2 (some .boolean), Cond.methodLink RX1 82 yX1_swap, Cond.static yX1_swap, Cond.code yX1_swap cX1_swap 4 none]
def wsX1_swapUmbrellas : List Cond := .code yX1_swapUmbrellas cX1_swapUmbrellas 3 (some .int) :: ((wsX1_swapUmbrellas_r1 ++ (wsX1_swapUmbrellas_r2 ++ wsX1_swapUmbrellas_r3)) ++ wsX10)
def wsX1_swapTickets_r1 : List Cond := [Cond.fieldLink RX1 26 "TicketCoincidencesModel" "thrown" "I", Cond.fieldLink RX1 22 "TicketCoincidencesModel" "store" "I", Cond.fieldLink RX1 9 "TicketCoincidencesModel" "ticket" "[I", Cond.methodLink RX1 86 yX1_wrongPair, Cond.instanceMethod yX1_wrongPair, Cond.selects RX1 yX1_wrongPair yX1_wrongPair, Cond.initialized RX1, Cond.code yX1_wrongPair cX1_wrongPair 3 (some .int), Cond.methodLink RX1 66 yX1_isOne, Cond.instanceMethod yX1_isOne, Cond.selects RX1 yX1_isOne yX1_isOne, Cond.code yX1_isOne cX1_isOne 2 (some .boolean), Cond.fieldLink RX1 29 "TicketCoincidencesModel" "people" "I", Cond.methodLink RX1 32 yX1_isIn, Cond.static yX1_isIn, Cond.code yX1_isIn cX1_isIn 3 (some .boolean), Cond.methodLink RX1 63 yX1_no, Cond.instanceMethod yX1_no, Cond.selects RX1 yX1_no yX1_no, Cond.code yX1_no cX1_no 2 (some .int), Cond.methodLink RX1 75 yX1_pay, Cond.instanceMethod yX1_pay, Cond.selects RX1 yX1_pay yX1_pay, Cond.code yX1_pay cX1_pay 2 (some .int)]
def wsX1_swapTickets_r2 : List Cond := [Cond.fieldLink RX1 69 "TicketCoincidencesModel" "spent" "I", Cond.methodLink RX1 89 yX1_swapped, Cond.instanceMethod yX1_swapped, Cond.selects RX1 yX1_swapped yX1_swapped, Cond.code yX1_swapped cX1_swapped 5 (some .int), Cond.methodLink RX1 78 yX1_here, Cond.instanceMethod yX1_here, Cond.selects RX1 yX1_here yX1_here, Cond.code yX1_here cX1_here 1 (some .int), Cond.methodLink RX1 47 yX1_town, Cond.instanceMethod yX1_town, Cond.selects RX1 yX1_town yX1_town, Cond.code yX1_town cX1_town 6 (some .int), Cond.methodLink RX1 40 yX1_cornerIn, Cond.instanceMethod yX1_cornerIn, Cond.selects RX1 yX1_cornerIn yX1_cornerIn, Cond.code yX1_cornerIn cX1_cornerIn 3 (some .int), Cond.fieldLink RX1 16 "TicketCoincidencesModel" "corner" "[I", Cond.fieldLink RX1 19 "TicketCoincidencesModel" "walk" "[I", Cond.methodLink RX1 44 yX1_points, Cond.instanceMethod yX1_points, Cond.selects RX1 yX1_points yX1_points, Cond.code yX1_points cX1_points 6 (some .int), Cond.fieldLink RX1 13 "TicketCoincidencesModel" "colour" "[I"]
def wsX1_swapTickets_r3 : List Cond := [Cond.methodLink RX1 36 yX1_isMirror, Cond.static yX1_isMirror, Cond.code yX1_isMirror cX1_isMirror 2 (some .boolean), Cond.methodLink RX1 82 yX1_swap, Cond.static yX1_swap, Cond.code yX1_swap cX1_swap 4 none]
def wsX1_swapTickets : List Cond := .code yX1_swapTickets cX1_swapTickets 3 (some .int) :: ((wsX1_swapTickets_r1 ++ (wsX1_swapTickets_r2 ++ wsX1_swapTickets_r3)) ++ wsX10)
def wsX1_draw : List Cond := .code yX1_draw cX1_draw 4 (some .int) :: ([.fieldLink RX1 26 "TicketCoincidencesModel" "thrown" "I", .fieldLink RX1 22 "TicketCoincidencesModel" "store" "I", .fieldLink RX1 9 "TicketCoincidencesModel" "ticket" "[I", .methodLink RX1 66 yX1_isOne, .instanceMethod yX1_isOne, .selects RX1 yX1_isOne yX1_isOne, .initialized RX1, .code yX1_isOne cX1_isOne 2 (some .boolean), .fieldLink RX1 29 "TicketCoincidencesModel" "people" "I", .methodLink RX1 32 yX1_isIn, .static yX1_isIn, .code yX1_isIn cX1_isIn 3 (some .boolean), .methodLink RX1 63 yX1_no, .instanceMethod yX1_no, .selects RX1 yX1_no yX1_no, .code yX1_no cX1_no 2 (some .int), .methodLink RX1 75 yX1_pay, .instanceMethod yX1_pay, .selects RX1 yX1_pay yX1_pay, .code yX1_pay cX1_pay 2 (some .int), .fieldLink RX1 69 "TicketCoincidencesModel" "spent" "I"] ++ wsX10)
def wsX1_goOn_r1 : List Cond := [Cond.fieldLink RX1 29 "TicketCoincidencesModel" "people" "I", Cond.fieldLink RX1 16 "TicketCoincidencesModel" "corner" "[I", Cond.fieldLink RX1 93 "TicketCoincidencesModel" "counted" "I", Cond.fieldLink RX1 22 "TicketCoincidencesModel" "store" "I", Cond.fieldLink RX1 99 "TicketCoincidencesModel" "hour" "I", Cond.methodLink RX1 40 yX1_cornerIn, Cond.instanceMethod yX1_cornerIn, Cond.selects RX1 yX1_cornerIn yX1_cornerIn, Cond.initialized RX1, Cond.code yX1_cornerIn cX1_cornerIn 3 (some .int), Cond.fieldLink RX1 19 "TicketCoincidencesModel" "walk" "[I", Cond.methodLink RX1 78 yX1_here, Cond.instanceMethod yX1_here, Cond.selects RX1 yX1_here yX1_here, Cond.code yX1_here cX1_here 1 (some .int), Cond.methodLink RX1 47 yX1_town, Cond.instanceMethod yX1_town, Cond.selects RX1 yX1_town yX1_town, Cond.code yX1_town cX1_town 6 (some .int), Cond.methodLink RX1 44 yX1_points, Cond.instanceMethod yX1_points, Cond.selects RX1 yX1_points yX1_points, Cond.code yX1_points cX1_points 6 (some .int), Cond.fieldLink RX1 9 "TicketCoincidencesModel" "ticket" "[I"]
def wsX1_goOn_r2 : List Cond := [Cond.fieldLink RX1 13 "TicketCoincidencesModel" "colour" "[I", Cond.methodLink RX1 36 yX1_isMirror, Cond.static yX1_isMirror, Cond.code yX1_isMirror cX1_isMirror 2 (some .boolean), Cond.methodLink RX1 96 yX1_at, Cond.instanceMethod yX1_at, Cond.selects RX1 yX1_at yX1_at, Cond.code yX1_at cX1_at 4 (some .int)]
def wsX1_goOn : List Cond := .code yX1_goOn cX1_goOn 2 none :: ((wsX1_goOn_r1 ++ wsX1_goOn_r2) ++ wsX10)
def wsX1_pass_r1 : List Cond := [Cond.fieldLink RX1 26 "TicketCoincidencesModel" "thrown" "I", Cond.fieldLink RX1 93 "TicketCoincidencesModel" "counted" "I", Cond.methodLink RX1 32 yX1_isIn, Cond.static yX1_isIn, Cond.initialized RX1, Cond.code yX1_isIn cX1_isIn 3 (some .boolean), Cond.methodLink RX1 63 yX1_no, Cond.instanceMethod yX1_no, Cond.selects RX1 yX1_no yX1_no, Cond.code yX1_no cX1_no 2 (some .int), Cond.methodLink RX1 102 yX1_goOn, Cond.instanceMethod yX1_goOn, Cond.selects RX1 yX1_goOn yX1_goOn, Cond.code yX1_goOn cX1_goOn 2 none, Cond.fieldLink RX1 29 "TicketCoincidencesModel" "people" "I", Cond.fieldLink RX1 16 "TicketCoincidencesModel" "corner" "[I", Cond.fieldLink RX1 22 "TicketCoincidencesModel" "store" "I", Cond.fieldLink RX1 99 "TicketCoincidencesModel" "hour" "I", Cond.methodLink RX1 40 yX1_cornerIn, Cond.instanceMethod yX1_cornerIn, Cond.selects RX1 yX1_cornerIn yX1_cornerIn, Cond.code yX1_cornerIn cX1_cornerIn 3 (some .int), Cond.fieldLink RX1 19 "TicketCoincidencesModel" "walk" "[I", Cond.methodLink RX1 78 yX1_here]
def wsX1_pass_r2 : List Cond := [Cond.instanceMethod yX1_here, Cond.selects RX1 yX1_here yX1_here, Cond.code yX1_here cX1_here 1 (some .int), Cond.methodLink RX1 47 yX1_town, Cond.instanceMethod yX1_town, Cond.selects RX1 yX1_town yX1_town, Cond.code yX1_town cX1_town 6 (some .int), Cond.methodLink RX1 44 yX1_points, Cond.instanceMethod yX1_points, Cond.selects RX1 yX1_points yX1_points, Cond.code yX1_points cX1_points 6 (some .int), Cond.fieldLink RX1 9 "TicketCoincidencesModel" "ticket" "[I", Cond.fieldLink RX1 13 "TicketCoincidencesModel" "colour" "[I", Cond.methodLink RX1 36 yX1_isMirror, Cond.static yX1_isMirror, Cond.code yX1_isMirror cX1_isMirror 2 (some .boolean), Cond.methodLink RX1 96 yX1_at, Cond.instanceMethod yX1_at, Cond.selects RX1 yX1_at yX1_at, Cond.code yX1_at cX1_at 4 (some .int)]
def wsX1_pass : List Cond := .code yX1_pass cX1_pass 4 (some .int) :: ((wsX1_pass_r1 ++ wsX1_pass_r2) ++ wsX10)
def wsX1_strangers : List Cond := .code yX1_strangers cX1_strangers 1 (some .int) :: ([.fieldLink RX1 29 "TicketCoincidencesModel" "people" "I", .methodLink RX1 105 yX1_ok, .instanceMethod yX1_ok, .selects RX1 yX1_ok yX1_ok, .initialized RX1, .code yX1_ok cX1_ok 2 (some .int), .fieldLink RX1 26 "TicketCoincidencesModel" "thrown" "I"] ++ wsX10)
def wsX1_hour : List Cond := .code yX1_hour cX1_hour 1 (some .int) :: ([.fieldLink RX1 99 "TicketCoincidencesModel" "hour" "I", .methodLink RX1 105 yX1_ok, .instanceMethod yX1_ok, .selects RX1 yX1_ok yX1_ok, .initialized RX1, .code yX1_ok cX1_ok 2 (some .int), .fieldLink RX1 26 "TicketCoincidencesModel" "thrown" "I"] ++ wsX10)
def wsX1_store : List Cond := .code yX1_store cX1_store 1 (some .int) :: ([.fieldLink RX1 22 "TicketCoincidencesModel" "store" "I", .methodLink RX1 105 yX1_ok, .instanceMethod yX1_ok, .selects RX1 yX1_ok yX1_ok, .initialized RX1, .code yX1_ok cX1_ok 2 (some .int), .fieldLink RX1 26 "TicketCoincidencesModel" "thrown" "I"] ++ wsX10)
def wsX1_counted : List Cond := .code yX1_counted cX1_counted 1 (some .int) :: ([.fieldLink RX1 93 "TicketCoincidencesModel" "counted" "I", .methodLink RX1 105 yX1_ok, .instanceMethod yX1_ok, .selects RX1 yX1_ok yX1_ok, .initialized RX1, .code yX1_ok cX1_ok 2 (some .int), .fieldLink RX1 26 "TicketCoincidencesModel" "thrown" "I"] ++ wsX10)
def wsX1_spent : List Cond := .code yX1_spent cX1_spent 1 (some .int) :: ([.fieldLink RX1 69 "TicketCoincidencesModel" "spent" "I", .methodLink RX1 105 yX1_ok, .instanceMethod yX1_ok, .selects RX1 yX1_ok yX1_ok, .initialized RX1, .code yX1_ok cX1_ok 2 (some .int), .fieldLink RX1 26 "TicketCoincidencesModel" "thrown" "I"] ++ wsX10)
def wsX1_of : List Cond := .code yX1_of cX1_of 3 (some .int) :: ([.fieldLink RX1 26 "TicketCoincidencesModel" "thrown" "I", .methodLink RX1 66 yX1_isOne, .instanceMethod yX1_isOne, .selects RX1 yX1_isOne yX1_isOne, .initialized RX1, .code yX1_isOne cX1_isOne 2 (some .boolean), .fieldLink RX1 29 "TicketCoincidencesModel" "people" "I", .methodLink RX1 32 yX1_isIn, .static yX1_isIn, .code yX1_isIn cX1_isIn 3 (some .boolean), .methodLink RX1 63 yX1_no, .instanceMethod yX1_no, .selects RX1 yX1_no yX1_no, .code yX1_no cX1_no 2 (some .int)] ++ wsX10)
def wsX1_ticketOf : List Cond := .code yX1_ticketOf cX1_ticketOf 2 (some .int) :: ([.fieldLink RX1 9 "TicketCoincidencesModel" "ticket" "[I", .methodLink RX1 108 yX1_of, .instanceMethod yX1_of, .selects RX1 yX1_of yX1_of, .initialized RX1, .code yX1_of cX1_of 3 (some .int), .fieldLink RX1 26 "TicketCoincidencesModel" "thrown" "I", .methodLink RX1 66 yX1_isOne, .instanceMethod yX1_isOne, .selects RX1 yX1_isOne yX1_isOne, .code yX1_isOne cX1_isOne 2 (some .boolean), .fieldLink RX1 29 "TicketCoincidencesModel" "people" "I", .methodLink RX1 32 yX1_isIn, .static yX1_isIn, .code yX1_isIn cX1_isIn 3 (some .boolean), .methodLink RX1 63 yX1_no, .instanceMethod yX1_no, .selects RX1 yX1_no yX1_no, .code yX1_no cX1_no 2 (some .int)] ++ wsX10)
def wsX1_colourOf : List Cond := .code yX1_colourOf cX1_colourOf 2 (some .int) :: ([.fieldLink RX1 13 "TicketCoincidencesModel" "colour" "[I", .methodLink RX1 108 yX1_of, .instanceMethod yX1_of, .selects RX1 yX1_of yX1_of, .initialized RX1, .code yX1_of cX1_of 3 (some .int), .fieldLink RX1 26 "TicketCoincidencesModel" "thrown" "I", .methodLink RX1 66 yX1_isOne, .instanceMethod yX1_isOne, .selects RX1 yX1_isOne yX1_isOne, .code yX1_isOne cX1_isOne 2 (some .boolean), .fieldLink RX1 29 "TicketCoincidencesModel" "people" "I", .methodLink RX1 32 yX1_isIn, .static yX1_isIn, .code yX1_isIn cX1_isIn 3 (some .boolean), .methodLink RX1 63 yX1_no, .instanceMethod yX1_no, .selects RX1 yX1_no yX1_no, .code yX1_no cX1_no 2 (some .int)] ++ wsX10)
def wsX1_cornerOf : List Cond := .code yX1_cornerOf cX1_cornerOf 2 (some .int) :: ([.fieldLink RX1 16 "TicketCoincidencesModel" "corner" "[I", .methodLink RX1 108 yX1_of, .instanceMethod yX1_of, .selects RX1 yX1_of yX1_of, .initialized RX1, .code yX1_of cX1_of 3 (some .int), .fieldLink RX1 26 "TicketCoincidencesModel" "thrown" "I", .methodLink RX1 66 yX1_isOne, .instanceMethod yX1_isOne, .selects RX1 yX1_isOne yX1_isOne, .code yX1_isOne cX1_isOne 2 (some .boolean), .fieldLink RX1 29 "TicketCoincidencesModel" "people" "I", .methodLink RX1 32 yX1_isIn, .static yX1_isIn, .code yX1_isIn cX1_isIn 3 (some .boolean), .methodLink RX1 63 yX1_no, .instanceMethod yX1_no, .selects RX1 yX1_no yX1_no, .code yX1_no cX1_no 2 (some .int)] ++ wsX10)
def wsX1_walkOf : List Cond := .code yX1_walkOf cX1_walkOf 2 (some .int) :: ([.fieldLink RX1 19 "TicketCoincidencesModel" "walk" "[I", .methodLink RX1 108 yX1_of, .instanceMethod yX1_of, .selects RX1 yX1_of yX1_of, .initialized RX1, .code yX1_of cX1_of 3 (some .int), .fieldLink RX1 26 "TicketCoincidencesModel" "thrown" "I", .methodLink RX1 66 yX1_isOne, .instanceMethod yX1_isOne, .selects RX1 yX1_isOne yX1_isOne, .code yX1_isOne cX1_isOne 2 (some .boolean), .fieldLink RX1 29 "TicketCoincidencesModel" "people" "I", .methodLink RX1 32 yX1_isIn, .static yX1_isIn, .code yX1_isIn cX1_isIn 3 (some .boolean), .methodLink RX1 63 yX1_no, .instanceMethod yX1_no, .selects RX1 yX1_no yX1_no, .code yX1_no cX1_no 2 (some .int)] ++ wsX10)
def wsX1_peopleAt : List Cond := .code yX1_peopleAt cX1_peopleAt 2 (some .int) :: ([.fieldLink RX1 26 "TicketCoincidencesModel" "thrown" "I", .methodLink RX1 59 yX1_isCorner, .static yX1_isCorner, .initialized RX1, .code yX1_isCorner cX1_isCorner 1 (some .boolean), .methodLink RX1 32 yX1_isIn, .static yX1_isIn, .code yX1_isIn cX1_isIn 3 (some .boolean), .methodLink RX1 96 yX1_at, .instanceMethod yX1_at, .selects RX1 yX1_at yX1_at, .code yX1_at cX1_at 4 (some .int), .fieldLink RX1 29 "TicketCoincidencesModel" "people" "I", .fieldLink RX1 16 "TicketCoincidencesModel" "corner" "[I", .methodLink RX1 63 yX1_no, .instanceMethod yX1_no, .selects RX1 yX1_no yX1_no, .code yX1_no cX1_no 2 (some .int)] ++ wsX10)
def wsX1_pointsOf : List Cond := .code yX1_pointsOf cX1_pointsOf 3 (some .int) :: ([.fieldLink RX1 26 "TicketCoincidencesModel" "thrown" "I", .methodLink RX1 86 yX1_wrongPair, .instanceMethod yX1_wrongPair, .selects RX1 yX1_wrongPair yX1_wrongPair, .initialized RX1, .code yX1_wrongPair cX1_wrongPair 3 (some .int), .methodLink RX1 66 yX1_isOne, .instanceMethod yX1_isOne, .selects RX1 yX1_isOne yX1_isOne, .code yX1_isOne cX1_isOne 2 (some .boolean), .fieldLink RX1 29 "TicketCoincidencesModel" "people" "I", .methodLink RX1 32 yX1_isIn, .static yX1_isIn, .code yX1_isIn cX1_isIn 3 (some .boolean), .methodLink RX1 44 yX1_points, .instanceMethod yX1_points, .selects RX1 yX1_points yX1_points, .code yX1_points cX1_points 6 (some .int), .fieldLink RX1 9 "TicketCoincidencesModel" "ticket" "[I", .fieldLink RX1 13 "TicketCoincidencesModel" "colour" "[I", .methodLink RX1 36 yX1_isMirror, .static yX1_isMirror, .code yX1_isMirror cX1_isMirror 2 (some .boolean)] ++ wsX10)
def wsX1_areTogether : List Cond := .code yX1_areTogether cX1_areTogether 3 (some .boolean) :: ([.fieldLink RX1 26 "TicketCoincidencesModel" "thrown" "I", .fieldLink RX1 16 "TicketCoincidencesModel" "corner" "[I", .methodLink RX1 86 yX1_wrongPair, .instanceMethod yX1_wrongPair, .selects RX1 yX1_wrongPair yX1_wrongPair, .initialized RX1, .code yX1_wrongPair cX1_wrongPair 3 (some .int), .methodLink RX1 66 yX1_isOne, .instanceMethod yX1_isOne, .selects RX1 yX1_isOne yX1_isOne, .code yX1_isOne cX1_isOne 2 (some .boolean), .fieldLink RX1 29 "TicketCoincidencesModel" "people" "I", .methodLink RX1 32 yX1_isIn, .static yX1_isIn, .code yX1_isIn cX1_isIn 3 (some .boolean)] ++ wsX10)
def wsX1_areMirrored : List Cond := .code yX1_areMirrored cX1_areMirrored 3 (some .boolean) :: ([.fieldLink RX1 26 "TicketCoincidencesModel" "thrown" "I", .fieldLink RX1 9 "TicketCoincidencesModel" "ticket" "[I", .methodLink RX1 86 yX1_wrongPair, .instanceMethod yX1_wrongPair, .selects RX1 yX1_wrongPair yX1_wrongPair, .initialized RX1, .code yX1_wrongPair cX1_wrongPair 3 (some .int), .methodLink RX1 66 yX1_isOne, .instanceMethod yX1_isOne, .selects RX1 yX1_isOne yX1_isOne, .code yX1_isOne cX1_isOne 2 (some .boolean), .fieldLink RX1 29 "TicketCoincidencesModel" "people" "I", .methodLink RX1 32 yX1_isIn, .static yX1_isIn, .code yX1_isIn cX1_isIn 3 (some .boolean), .methodLink RX1 36 yX1_isMirror, .static yX1_isMirror, .code yX1_isMirror cX1_isMirror 2 (some .boolean)] ++ wsX10)
def wsX1_coincidences_r1 : List Cond := [Cond.methodLink RX1 78 yX1_here, Cond.instanceMethod yX1_here, Cond.selects RX1 yX1_here yX1_here, Cond.initialized RX1, Cond.code yX1_here cX1_here 1 (some .int), Cond.methodLink RX1 47 yX1_town, Cond.instanceMethod yX1_town, Cond.selects RX1 yX1_town yX1_town, Cond.code yX1_town cX1_town 6 (some .int), Cond.fieldLink RX1 29 "TicketCoincidencesModel" "people" "I", Cond.methodLink RX1 40 yX1_cornerIn, Cond.instanceMethod yX1_cornerIn, Cond.selects RX1 yX1_cornerIn yX1_cornerIn, Cond.code yX1_cornerIn cX1_cornerIn 3 (some .int), Cond.fieldLink RX1 16 "TicketCoincidencesModel" "corner" "[I", Cond.fieldLink RX1 19 "TicketCoincidencesModel" "walk" "[I", Cond.methodLink RX1 44 yX1_points, Cond.instanceMethod yX1_points, Cond.selects RX1 yX1_points yX1_points, Cond.code yX1_points cX1_points 6 (some .int), Cond.fieldLink RX1 9 "TicketCoincidencesModel" "ticket" "[I", Cond.fieldLink RX1 13 "TicketCoincidencesModel" "colour" "[I", Cond.methodLink RX1 36 yX1_isMirror, Cond.static yX1_isMirror]
def wsX1_coincidences_r2 : List Cond := [Cond.code yX1_isMirror cX1_isMirror 2 (some .boolean), Cond.methodLink RX1 105 yX1_ok, Cond.instanceMethod yX1_ok, Cond.selects RX1 yX1_ok yX1_ok, Cond.code yX1_ok cX1_ok 2 (some .int), Cond.fieldLink RX1 26 "TicketCoincidencesModel" "thrown" "I"]
def wsX1_coincidences : List Cond := .code yX1_coincidences cX1_coincidences 1 (some .int) :: ((wsX1_coincidences_r1 ++ wsX1_coincidences_r2) ++ wsX10)
def wsX1_coincidencesAt_r1 : List Cond := [Cond.fieldLink RX1 26 "TicketCoincidencesModel" "thrown" "I", Cond.methodLink RX1 59 yX1_isCorner, Cond.static yX1_isCorner, Cond.initialized RX1, Cond.code yX1_isCorner cX1_isCorner 1 (some .boolean), Cond.methodLink RX1 32 yX1_isIn, Cond.static yX1_isIn, Cond.code yX1_isIn cX1_isIn 3 (some .boolean), Cond.methodLink RX1 47 yX1_town, Cond.instanceMethod yX1_town, Cond.selects RX1 yX1_town yX1_town, Cond.code yX1_town cX1_town 6 (some .int), Cond.fieldLink RX1 29 "TicketCoincidencesModel" "people" "I", Cond.methodLink RX1 40 yX1_cornerIn, Cond.instanceMethod yX1_cornerIn, Cond.selects RX1 yX1_cornerIn yX1_cornerIn, Cond.code yX1_cornerIn cX1_cornerIn 3 (some .int), Cond.fieldLink RX1 16 "TicketCoincidencesModel" "corner" "[I", Cond.fieldLink RX1 19 "TicketCoincidencesModel" "walk" "[I", Cond.methodLink RX1 44 yX1_points, Cond.instanceMethod yX1_points, Cond.selects RX1 yX1_points yX1_points, Cond.code yX1_points cX1_points 6 (some .int), Cond.fieldLink RX1 9 "TicketCoincidencesModel" "ticket" "[I"]
def wsX1_coincidencesAt_r2 : List Cond := [Cond.fieldLink RX1 13 "TicketCoincidencesModel" "colour" "[I", Cond.methodLink RX1 36 yX1_isMirror, Cond.static yX1_isMirror, Cond.code yX1_isMirror cX1_isMirror 2 (some .boolean), Cond.methodLink RX1 63 yX1_no, Cond.instanceMethod yX1_no, Cond.selects RX1 yX1_no yX1_no, Cond.code yX1_no cX1_no 2 (some .int)]
def wsX1_coincidencesAt : List Cond := .code yX1_coincidencesAt cX1_coincidencesAt 2 (some .int) :: ((wsX1_coincidencesAt_r1 ++ wsX1_coincidencesAt_r2) ++ wsX10)
def wsX1_luckOf_r1 : List Cond := [Cond.fieldLink RX1 26 "TicketCoincidencesModel" "thrown" "I", Cond.methodLink RX1 66 yX1_isOne, Cond.instanceMethod yX1_isOne, Cond.selects RX1 yX1_isOne yX1_isOne, Cond.initialized RX1, Cond.code yX1_isOne cX1_isOne 2 (some .boolean), Cond.fieldLink RX1 29 "TicketCoincidencesModel" "people" "I", Cond.methodLink RX1 32 yX1_isIn, Cond.static yX1_isIn, Cond.code yX1_isIn cX1_isIn 3 (some .boolean), Cond.methodLink RX1 112 yX1_luck, Cond.instanceMethod yX1_luck, Cond.selects RX1 yX1_luck yX1_luck, Cond.code yX1_luck cX1_luck 4 (some .int), Cond.fieldLink RX1 16 "TicketCoincidencesModel" "corner" "[I", Cond.methodLink RX1 44 yX1_points, Cond.instanceMethod yX1_points, Cond.selects RX1 yX1_points yX1_points, Cond.code yX1_points cX1_points 6 (some .int), Cond.fieldLink RX1 9 "TicketCoincidencesModel" "ticket" "[I", Cond.fieldLink RX1 13 "TicketCoincidencesModel" "colour" "[I", Cond.methodLink RX1 36 yX1_isMirror, Cond.static yX1_isMirror, Cond.code yX1_isMirror cX1_isMirror 2 (some .boolean)]
def wsX1_luckOf_r2 : List Cond := [Cond.methodLink RX1 63 yX1_no, Cond.instanceMethod yX1_no, Cond.selects RX1 yX1_no yX1_no, Cond.code yX1_no cX1_no 2 (some .int)]
def wsX1_luckOf : List Cond := .code yX1_luckOf cX1_luckOf 2 (some .int) :: ((wsX1_luckOf_r1 ++ wsX1_luckOf_r2) ++ wsX10)
def wsX1_luckiest : List Cond := .code yX1_luckiest cX1_luckiest 5 (some .int) :: ([.fieldLink RX1 29 "TicketCoincidencesModel" "people" "I", .methodLink RX1 44 yX1_points, .instanceMethod yX1_points, .selects RX1 yX1_points yX1_points, .initialized RX1, .code yX1_points cX1_points 6 (some .int), .fieldLink RX1 9 "TicketCoincidencesModel" "ticket" "[I", .fieldLink RX1 13 "TicketCoincidencesModel" "colour" "[I", .methodLink RX1 36 yX1_isMirror, .static yX1_isMirror, .code yX1_isMirror cX1_isMirror 2 (some .boolean)] ++ wsX10)
def wsX1_luckiestPair : List Cond := .code yX1_luckiestPair cX1_luckiestPair 1 (some .int) :: ([.methodLink RX1 115 yX1_luckiest, .instanceMethod yX1_luckiest, .selects RX1 yX1_luckiest yX1_luckiest, .initialized RX1, .code yX1_luckiest cX1_luckiest 5 (some .int), .fieldLink RX1 29 "TicketCoincidencesModel" "people" "I", .methodLink RX1 44 yX1_points, .instanceMethod yX1_points, .selects RX1 yX1_points yX1_points, .code yX1_points cX1_points 6 (some .int), .fieldLink RX1 9 "TicketCoincidencesModel" "ticket" "[I", .fieldLink RX1 13 "TicketCoincidencesModel" "colour" "[I", .methodLink RX1 36 yX1_isMirror, .static yX1_isMirror, .code yX1_isMirror cX1_isMirror 2 (some .boolean), .methodLink RX1 105 yX1_ok, .instanceMethod yX1_ok, .selects RX1 yX1_ok yX1_ok, .code yX1_ok cX1_ok 2 (some .int), .fieldLink RX1 26 "TicketCoincidencesModel" "thrown" "I"] ++ wsX10)
def wsX1_coincidencesIn_r1 : List Cond := [Cond.fieldLink RX1 26 "TicketCoincidencesModel" "thrown" "I", Cond.methodLink RX1 32 yX1_isIn, Cond.static yX1_isIn, Cond.initialized RX1, Cond.code yX1_isIn cX1_isIn 3 (some .boolean), Cond.methodLink RX1 47 yX1_town, Cond.instanceMethod yX1_town, Cond.selects RX1 yX1_town yX1_town, Cond.code yX1_town cX1_town 6 (some .int), Cond.fieldLink RX1 29 "TicketCoincidencesModel" "people" "I", Cond.methodLink RX1 40 yX1_cornerIn, Cond.instanceMethod yX1_cornerIn, Cond.selects RX1 yX1_cornerIn yX1_cornerIn, Cond.code yX1_cornerIn cX1_cornerIn 3 (some .int), Cond.fieldLink RX1 16 "TicketCoincidencesModel" "corner" "[I", Cond.fieldLink RX1 19 "TicketCoincidencesModel" "walk" "[I", Cond.methodLink RX1 44 yX1_points, Cond.instanceMethod yX1_points, Cond.selects RX1 yX1_points yX1_points, Cond.code yX1_points cX1_points 6 (some .int), Cond.fieldLink RX1 9 "TicketCoincidencesModel" "ticket" "[I", Cond.fieldLink RX1 13 "TicketCoincidencesModel" "colour" "[I", Cond.methodLink RX1 36 yX1_isMirror, Cond.static yX1_isMirror]
def wsX1_coincidencesIn_r2 : List Cond := [Cond.code yX1_isMirror cX1_isMirror 2 (some .boolean), Cond.methodLink RX1 63 yX1_no, Cond.instanceMethod yX1_no, Cond.selects RX1 yX1_no yX1_no, Cond.code yX1_no cX1_no 2 (some .int)]
def wsX1_coincidencesIn : List Cond := .code yX1_coincidencesIn cX1_coincidencesIn 2 (some .int) :: ((wsX1_coincidencesIn_r1 ++ wsX1_coincidencesIn_r2) ++ wsX10)
def wsX1_untilTogether : List Cond := .code yX1_untilTogether cX1_untilTogether 4 (some .int) :: ([.methodLink RX1 40 yX1_cornerIn, .instanceMethod yX1_cornerIn, .selects RX1 yX1_cornerIn yX1_cornerIn, .initialized RX1, .code yX1_cornerIn cX1_cornerIn 3 (some .int), .fieldLink RX1 16 "TicketCoincidencesModel" "corner" "[I", .fieldLink RX1 19 "TicketCoincidencesModel" "walk" "[I"] ++ wsX10)
def wsX1_hoursUntilTogether : List Cond := .code yX1_hoursUntilTogether cX1_hoursUntilTogether 3 (some .int) :: ([.fieldLink RX1 26 "TicketCoincidencesModel" "thrown" "I", .methodLink RX1 86 yX1_wrongPair, .instanceMethod yX1_wrongPair, .selects RX1 yX1_wrongPair yX1_wrongPair, .initialized RX1, .code yX1_wrongPair cX1_wrongPair 3 (some .int), .methodLink RX1 66 yX1_isOne, .instanceMethod yX1_isOne, .selects RX1 yX1_isOne yX1_isOne, .code yX1_isOne cX1_isOne 2 (some .boolean), .fieldLink RX1 29 "TicketCoincidencesModel" "people" "I", .methodLink RX1 32 yX1_isIn, .static yX1_isIn, .code yX1_isIn cX1_isIn 3 (some .boolean), .methodLink RX1 118 yX1_untilTogether, .instanceMethod yX1_untilTogether, .selects RX1 yX1_untilTogether yX1_untilTogether, .code yX1_untilTogether cX1_untilTogether 4 (some .int), .methodLink RX1 40 yX1_cornerIn, .instanceMethod yX1_cornerIn, .selects RX1 yX1_cornerIn yX1_cornerIn, .code yX1_cornerIn cX1_cornerIn 3 (some .int), .fieldLink RX1 16 "TicketCoincidencesModel" "corner" "[I", .fieldLink RX1 19 "TicketCoincidencesModel" "walk" "[I"] ++ wsX10)
def wsX1_costOfMeeting_r1 : List Cond := [Cond.fieldLink RX1 26 "TicketCoincidencesModel" "thrown" "I", Cond.fieldLink RX1 16 "TicketCoincidencesModel" "corner" "[I", Cond.methodLink RX1 86 yX1_wrongPair, Cond.instanceMethod yX1_wrongPair, Cond.selects RX1 yX1_wrongPair yX1_wrongPair, Cond.initialized RX1, Cond.code yX1_wrongPair cX1_wrongPair 3 (some .int), Cond.methodLink RX1 66 yX1_isOne, Cond.instanceMethod yX1_isOne, Cond.selects RX1 yX1_isOne yX1_isOne, Cond.code yX1_isOne cX1_isOne 2 (some .boolean), Cond.fieldLink RX1 29 "TicketCoincidencesModel" "people" "I", Cond.methodLink RX1 32 yX1_isIn, Cond.static yX1_isIn, Cond.code yX1_isIn cX1_isIn 3 (some .boolean), Cond.methodLink RX1 72 yX1_apart, Cond.static yX1_apart, Cond.code yX1_apart cX1_apart 3 (some .int), Cond.methodLink RX1 50 Lib.Math.abs.name, Cond.static Lib.Math.abs.name, Cond.initialized "java/lang/Math", Cond.code Lib.Math.abs.name Lib.Math.abs.code 1 (some .int), Cond.methodLink RX1 56 Lib.Math.min.name, Cond.static Lib.Math.min.name]
def wsX1_costOfMeeting_r2 : List Cond := [Cond.code Lib.Math.min.name Lib.Math.min.code 2 (some .int)]
def wsX1_costOfMeeting : List Cond := .code yX1_costOfMeeting cX1_costOfMeeting 3 (some .int) :: ((wsX1_costOfMeeting_r1 ++ wsX1_costOfMeeting_r2) ++ wsX10)
def wsX1_hourOfMost : List Cond := .code yX1_hourOfMost cX1_hourOfMost 3 (some .int) :: ([.methodLink RX1 47 yX1_town, .instanceMethod yX1_town, .selects RX1 yX1_town yX1_town, .initialized RX1, .code yX1_town cX1_town 6 (some .int), .fieldLink RX1 29 "TicketCoincidencesModel" "people" "I", .methodLink RX1 40 yX1_cornerIn, .instanceMethod yX1_cornerIn, .selects RX1 yX1_cornerIn yX1_cornerIn, .code yX1_cornerIn cX1_cornerIn 3 (some .int), .fieldLink RX1 16 "TicketCoincidencesModel" "corner" "[I", .fieldLink RX1 19 "TicketCoincidencesModel" "walk" "[I", .methodLink RX1 44 yX1_points, .instanceMethod yX1_points, .selects RX1 yX1_points yX1_points, .code yX1_points cX1_points 6 (some .int), .fieldLink RX1 9 "TicketCoincidencesModel" "ticket" "[I", .fieldLink RX1 13 "TicketCoincidencesModel" "colour" "[I", .methodLink RX1 36 yX1_isMirror, .static yX1_isMirror, .code yX1_isMirror cX1_isMirror 2 (some .boolean)] ++ wsX10)
def wsX1_bestHour_r1 : List Cond := [Cond.methodLink RX1 121 yX1_hourOfMost, Cond.instanceMethod yX1_hourOfMost, Cond.selects RX1 yX1_hourOfMost yX1_hourOfMost, Cond.initialized RX1, Cond.code yX1_hourOfMost cX1_hourOfMost 3 (some .int), Cond.methodLink RX1 47 yX1_town, Cond.instanceMethod yX1_town, Cond.selects RX1 yX1_town yX1_town, Cond.code yX1_town cX1_town 6 (some .int), Cond.fieldLink RX1 29 "TicketCoincidencesModel" "people" "I", Cond.methodLink RX1 40 yX1_cornerIn, Cond.instanceMethod yX1_cornerIn, Cond.selects RX1 yX1_cornerIn yX1_cornerIn, Cond.code yX1_cornerIn cX1_cornerIn 3 (some .int), Cond.fieldLink RX1 16 "TicketCoincidencesModel" "corner" "[I", Cond.fieldLink RX1 19 "TicketCoincidencesModel" "walk" "[I", Cond.methodLink RX1 44 yX1_points, Cond.instanceMethod yX1_points, Cond.selects RX1 yX1_points yX1_points, Cond.code yX1_points cX1_points 6 (some .int), Cond.fieldLink RX1 9 "TicketCoincidencesModel" "ticket" "[I", Cond.fieldLink RX1 13 "TicketCoincidencesModel" "colour" "[I", Cond.methodLink RX1 36 yX1_isMirror, Cond.static yX1_isMirror]
def wsX1_bestHour_r2 : List Cond := [Cond.code yX1_isMirror cX1_isMirror 2 (some .boolean), Cond.methodLink RX1 105 yX1_ok, Cond.instanceMethod yX1_ok, Cond.selects RX1 yX1_ok yX1_ok, Cond.code yX1_ok cX1_ok 2 (some .int), Cond.fieldLink RX1 26 "TicketCoincidencesModel" "thrown" "I"]
def wsX1_bestHour : List Cond := .code yX1_bestHour cX1_bestHour 1 (some .int) :: ((wsX1_bestHour_r1 ++ wsX1_bestHour_r2) ++ wsX10)
def wsX1_bestOf_r1 : List Cond := [Cond.methodLink RX1 78 yX1_here, Cond.instanceMethod yX1_here, Cond.selects RX1 yX1_here yX1_here, Cond.initialized RX1, Cond.code yX1_here cX1_here 1 (some .int), Cond.methodLink RX1 47 yX1_town, Cond.instanceMethod yX1_town, Cond.selects RX1 yX1_town yX1_town, Cond.code yX1_town cX1_town 6 (some .int), Cond.fieldLink RX1 29 "TicketCoincidencesModel" "people" "I", Cond.methodLink RX1 40 yX1_cornerIn, Cond.instanceMethod yX1_cornerIn, Cond.selects RX1 yX1_cornerIn yX1_cornerIn, Cond.code yX1_cornerIn cX1_cornerIn 3 (some .int), Cond.fieldLink RX1 16 "TicketCoincidencesModel" "corner" "[I", Cond.fieldLink RX1 19 "TicketCoincidencesModel" "walk" "[I", Cond.methodLink RX1 44 yX1_points, Cond.instanceMethod yX1_points, Cond.selects RX1 yX1_points yX1_points, Cond.code yX1_points cX1_points 6 (some .int), Cond.fieldLink RX1 9 "TicketCoincidencesModel" "ticket" "[I", Cond.fieldLink RX1 13 "TicketCoincidencesModel" "colour" "[I", Cond.methodLink RX1 36 yX1_isMirror, Cond.static yX1_isMirror]
def wsX1_bestOf_r2 : List Cond := [Cond.code yX1_isMirror cX1_isMirror 2 (some .boolean)]
def wsX1_bestOf : List Cond := .code yX1_bestOf cX1_bestOf 9 (some .int) :: ((wsX1_bestOf_r1 ++ wsX1_bestOf_r2) ++ wsX10)
def wsX1_bestCorner_r1 : List Cond := [Cond.fieldLink RX1 26 "TicketCoincidencesModel" "thrown" "I", Cond.fieldLink RX1 16 "TicketCoincidencesModel" "corner" "[I", Cond.methodLink RX1 66 yX1_isOne, Cond.instanceMethod yX1_isOne, Cond.selects RX1 yX1_isOne yX1_isOne, Cond.initialized RX1, Cond.code yX1_isOne cX1_isOne 2 (some .boolean), Cond.fieldLink RX1 29 "TicketCoincidencesModel" "people" "I", Cond.methodLink RX1 32 yX1_isIn, Cond.static yX1_isIn, Cond.code yX1_isIn cX1_isIn 3 (some .boolean), Cond.methodLink RX1 124 yX1_bestOf, Cond.instanceMethod yX1_bestOf, Cond.selects RX1 yX1_bestOf yX1_bestOf, Cond.code yX1_bestOf cX1_bestOf 9 (some .int), Cond.methodLink RX1 78 yX1_here, Cond.instanceMethod yX1_here, Cond.selects RX1 yX1_here yX1_here, Cond.code yX1_here cX1_here 1 (some .int), Cond.methodLink RX1 47 yX1_town, Cond.instanceMethod yX1_town, Cond.selects RX1 yX1_town yX1_town, Cond.code yX1_town cX1_town 6 (some .int), Cond.methodLink RX1 40 yX1_cornerIn]
def wsX1_bestCorner_r2 : List Cond := [Cond.instanceMethod yX1_cornerIn, Cond.selects RX1 yX1_cornerIn yX1_cornerIn, Cond.code yX1_cornerIn cX1_cornerIn 3 (some .int), Cond.fieldLink RX1 19 "TicketCoincidencesModel" "walk" "[I", Cond.methodLink RX1 44 yX1_points, Cond.instanceMethod yX1_points, Cond.selects RX1 yX1_points yX1_points, Cond.code yX1_points cX1_points 6 (some .int), Cond.fieldLink RX1 9 "TicketCoincidencesModel" "ticket" "[I", Cond.fieldLink RX1 13 "TicketCoincidencesModel" "colour" "[I", Cond.methodLink RX1 36 yX1_isMirror, Cond.static yX1_isMirror, Cond.code yX1_isMirror cX1_isMirror 2 (some .boolean), Cond.methodLink RX1 63 yX1_no, Cond.instanceMethod yX1_no, Cond.selects RX1 yX1_no yX1_no, Cond.code yX1_no cX1_no 2 (some .int)]
def wsX1_bestCorner : List Cond := .code yX1_bestCorner cX1_bestCorner 2 (some .int) :: ((wsX1_bestCorner_r1 ++ wsX1_bestCorner_r2) ++ wsX10)
def wsX1_swapOfMost_r1 : List Cond := [Cond.fieldLink RX1 29 "TicketCoincidencesModel" "people" "I", Cond.fieldLink RX1 9 "TicketCoincidencesModel" "ticket" "[I", Cond.methodLink RX1 78 yX1_here, Cond.instanceMethod yX1_here, Cond.selects RX1 yX1_here yX1_here, Cond.initialized RX1, Cond.code yX1_here cX1_here 1 (some .int), Cond.methodLink RX1 47 yX1_town, Cond.instanceMethod yX1_town, Cond.selects RX1 yX1_town yX1_town, Cond.code yX1_town cX1_town 6 (some .int), Cond.methodLink RX1 40 yX1_cornerIn, Cond.instanceMethod yX1_cornerIn, Cond.selects RX1 yX1_cornerIn yX1_cornerIn, Cond.code yX1_cornerIn cX1_cornerIn 3 (some .int), Cond.fieldLink RX1 16 "TicketCoincidencesModel" "corner" "[I", Cond.fieldLink RX1 19 "TicketCoincidencesModel" "walk" "[I", Cond.methodLink RX1 44 yX1_points, Cond.instanceMethod yX1_points, Cond.selects RX1 yX1_points yX1_points, Cond.code yX1_points cX1_points 6 (some .int), Cond.fieldLink RX1 13 "TicketCoincidencesModel" "colour" "[I", Cond.methodLink RX1 36 yX1_isMirror, Cond.static yX1_isMirror]
def wsX1_swapOfMost_r2 : List Cond := [Cond.code yX1_isMirror cX1_isMirror 2 (some .boolean), Cond.methodLink RX1 82 yX1_swap, Cond.static yX1_swap, Cond.code yX1_swap cX1_swap 4 none]
def wsX1_swapOfMost : List Cond := .code yX1_swapOfMost cX1_swapOfMost 6 (some .int) :: ((wsX1_swapOfMost_r1 ++ wsX1_swapOfMost_r2) ++ wsX10)
def wsX1_bestSwap_r1 : List Cond := [Cond.methodLink RX1 127 yX1_swapOfMost, Cond.instanceMethod yX1_swapOfMost, Cond.selects RX1 yX1_swapOfMost yX1_swapOfMost, Cond.initialized RX1, Cond.code yX1_swapOfMost cX1_swapOfMost 6 (some .int), Cond.fieldLink RX1 29 "TicketCoincidencesModel" "people" "I", Cond.fieldLink RX1 9 "TicketCoincidencesModel" "ticket" "[I", Cond.methodLink RX1 78 yX1_here, Cond.instanceMethod yX1_here, Cond.selects RX1 yX1_here yX1_here, Cond.code yX1_here cX1_here 1 (some .int), Cond.methodLink RX1 47 yX1_town, Cond.instanceMethod yX1_town, Cond.selects RX1 yX1_town yX1_town, Cond.code yX1_town cX1_town 6 (some .int), Cond.methodLink RX1 40 yX1_cornerIn, Cond.instanceMethod yX1_cornerIn, Cond.selects RX1 yX1_cornerIn yX1_cornerIn, Cond.code yX1_cornerIn cX1_cornerIn 3 (some .int), Cond.fieldLink RX1 16 "TicketCoincidencesModel" "corner" "[I", Cond.fieldLink RX1 19 "TicketCoincidencesModel" "walk" "[I", Cond.methodLink RX1 44 yX1_points, Cond.instanceMethod yX1_points, Cond.selects RX1 yX1_points yX1_points]
def wsX1_bestSwap_r2 : List Cond := [Cond.code yX1_points cX1_points 6 (some .int), Cond.fieldLink RX1 13 "TicketCoincidencesModel" "colour" "[I", Cond.methodLink RX1 36 yX1_isMirror, Cond.static yX1_isMirror, Cond.code yX1_isMirror cX1_isMirror 2 (some .boolean), Cond.methodLink RX1 82 yX1_swap, Cond.static yX1_swap, Cond.code yX1_swap cX1_swap 4 none, Cond.methodLink RX1 105 yX1_ok, Cond.instanceMethod yX1_ok, Cond.selects RX1 yX1_ok yX1_ok, Cond.code yX1_ok cX1_ok 2 (some .int), Cond.fieldLink RX1 26 "TicketCoincidencesModel" "thrown" "I"]
def wsX1_bestSwap : List Cond := .code yX1_bestSwap cX1_bestSwap 1 (some .int) :: ((wsX1_bestSwap_r1 ++ wsX1_bestSwap_r2) ++ wsX10)
def wsX1_bestTicket_r1 : List Cond := [Cond.fieldLink RX1 26 "TicketCoincidencesModel" "thrown" "I", Cond.fieldLink RX1 9 "TicketCoincidencesModel" "ticket" "[I", Cond.methodLink RX1 66 yX1_isOne, Cond.instanceMethod yX1_isOne, Cond.selects RX1 yX1_isOne yX1_isOne, Cond.initialized RX1, Cond.code yX1_isOne cX1_isOne 2 (some .boolean), Cond.fieldLink RX1 29 "TicketCoincidencesModel" "people" "I", Cond.methodLink RX1 32 yX1_isIn, Cond.static yX1_isIn, Cond.code yX1_isIn cX1_isIn 3 (some .boolean), Cond.methodLink RX1 124 yX1_bestOf, Cond.instanceMethod yX1_bestOf, Cond.selects RX1 yX1_bestOf yX1_bestOf, Cond.code yX1_bestOf cX1_bestOf 9 (some .int), Cond.methodLink RX1 78 yX1_here, Cond.instanceMethod yX1_here, Cond.selects RX1 yX1_here yX1_here, Cond.code yX1_here cX1_here 1 (some .int), Cond.methodLink RX1 47 yX1_town, Cond.instanceMethod yX1_town, Cond.selects RX1 yX1_town yX1_town, Cond.code yX1_town cX1_town 6 (some .int), Cond.methodLink RX1 40 yX1_cornerIn]
def wsX1_bestTicket_r2 : List Cond := [Cond.instanceMethod yX1_cornerIn, Cond.selects RX1 yX1_cornerIn yX1_cornerIn, Cond.code yX1_cornerIn cX1_cornerIn 3 (some .int), Cond.fieldLink RX1 16 "TicketCoincidencesModel" "corner" "[I", Cond.fieldLink RX1 19 "TicketCoincidencesModel" "walk" "[I", Cond.methodLink RX1 44 yX1_points, Cond.instanceMethod yX1_points, Cond.selects RX1 yX1_points yX1_points, Cond.code yX1_points cX1_points 6 (some .int), Cond.fieldLink RX1 13 "TicketCoincidencesModel" "colour" "[I", Cond.methodLink RX1 36 yX1_isMirror, Cond.static yX1_isMirror, Cond.code yX1_isMirror cX1_isMirror 2 (some .boolean), Cond.methodLink RX1 63 yX1_no, Cond.instanceMethod yX1_no, Cond.selects RX1 yX1_no yX1_no, Cond.code yX1_no cX1_no 2 (some .int)]
def wsX1_bestTicket : List Cond := .code yX1_bestTicket cX1_bestTicket 2 (some .int) :: ((wsX1_bestTicket_r1 ++ wsX1_bestTicket_r2) ++ wsX10)
def wsX1_meanLuck_r1 : List Cond := [Cond.fieldLink RX1 26 "TicketCoincidencesModel" "thrown" "I", Cond.fieldLink RX1 29 "TicketCoincidencesModel" "people" "I", Cond.methodLink RX1 78 yX1_here, Cond.instanceMethod yX1_here, Cond.selects RX1 yX1_here yX1_here, Cond.initialized RX1, Cond.code yX1_here cX1_here 1 (some .int), Cond.methodLink RX1 47 yX1_town, Cond.instanceMethod yX1_town, Cond.selects RX1 yX1_town yX1_town, Cond.code yX1_town cX1_town 6 (some .int), Cond.methodLink RX1 40 yX1_cornerIn, Cond.instanceMethod yX1_cornerIn, Cond.selects RX1 yX1_cornerIn yX1_cornerIn, Cond.code yX1_cornerIn cX1_cornerIn 3 (some .int), Cond.fieldLink RX1 16 "TicketCoincidencesModel" "corner" "[I", Cond.fieldLink RX1 19 "TicketCoincidencesModel" "walk" "[I", Cond.methodLink RX1 44 yX1_points, Cond.instanceMethod yX1_points, Cond.selects RX1 yX1_points yX1_points, Cond.code yX1_points cX1_points 6 (some .int), Cond.fieldLink RX1 9 "TicketCoincidencesModel" "ticket" "[I", Cond.fieldLink RX1 13 "TicketCoincidencesModel" "colour" "[I", Cond.methodLink RX1 36 yX1_isMirror]
def wsX1_meanLuck_r2 : List Cond := [Cond.static yX1_isMirror, Cond.code yX1_isMirror cX1_isMirror 2 (some .boolean)]
def wsX1_meanLuck : List Cond := .code yX1_meanLuck cX1_meanLuck 1 (some .double) :: ((wsX1_meanLuck_r1 ++ wsX1_meanLuck_r2) ++ wsX10)
def wsX1_digest_r1 : List Cond := [Cond.fieldLink RX1 26 "TicketCoincidencesModel" "thrown" "I", Cond.arrayClass .int, Cond.fieldLink RX1 29 "TicketCoincidencesModel" "people" "I", Cond.fieldLink RX1 99 "TicketCoincidencesModel" "hour" "I", Cond.fieldLink RX1 22 "TicketCoincidencesModel" "store" "I", Cond.fieldLink RX1 93 "TicketCoincidencesModel" "counted" "I", Cond.fieldLink RX1 69 "TicketCoincidencesModel" "spent" "I", Cond.constantLong RX1 130 (1979), Cond.constantLong RX1 132 (31), Cond.fieldLink RX1 9 "TicketCoincidencesModel" "ticket" "[I", Cond.fieldLink RX1 13 "TicketCoincidencesModel" "colour" "[I", Cond.fieldLink RX1 16 "TicketCoincidencesModel" "corner" "[I", Cond.fieldLink RX1 19 "TicketCoincidencesModel" "walk" "[I", Cond.methodLink RX1 78 yX1_here, Cond.instanceMethod yX1_here, Cond.selects RX1 yX1_here yX1_here, Cond.initialized RX1, Cond.code yX1_here cX1_here 1 (some .int), Cond.methodLink RX1 47 yX1_town, Cond.instanceMethod yX1_town, Cond.selects RX1 yX1_town yX1_town, Cond.code yX1_town cX1_town 6 (some .int), Cond.methodLink RX1 40 yX1_cornerIn, Cond.instanceMethod yX1_cornerIn]
def wsX1_digest_r2 : List Cond := [Cond.selects RX1 yX1_cornerIn yX1_cornerIn, Cond.code yX1_cornerIn cX1_cornerIn 3 (some .int), Cond.methodLink RX1 44 yX1_points, Cond.instanceMethod yX1_points, Cond.selects RX1 yX1_points yX1_points, Cond.code yX1_points cX1_points 6 (some .int), Cond.methodLink RX1 36 yX1_isMirror, Cond.static yX1_isMirror, Cond.code yX1_isMirror cX1_isMirror 2 (some .boolean), Cond.methodLink RX1 115 yX1_luckiest, Cond.instanceMethod yX1_luckiest, Cond.selects RX1 yX1_luckiest yX1_luckiest, Cond.code yX1_luckiest cX1_luckiest 5 (some .int), Cond.methodLink RX1 121 yX1_hourOfMost, Cond.instanceMethod yX1_hourOfMost, Cond.selects RX1 yX1_hourOfMost yX1_hourOfMost, Cond.code yX1_hourOfMost cX1_hourOfMost 3 (some .int), Cond.methodLink RX1 127 yX1_swapOfMost, Cond.instanceMethod yX1_swapOfMost, Cond.selects RX1 yX1_swapOfMost yX1_swapOfMost, Cond.code yX1_swapOfMost cX1_swapOfMost 6 (some .int), Cond.methodLink RX1 82 yX1_swap, Cond.static yX1_swap, Cond.code yX1_swap cX1_swap 4 none]
def wsX1_digest_r3 : List Cond := [Cond.methodLink RX1 96 yX1_at, Cond.instanceMethod yX1_at, Cond.selects RX1 yX1_at yX1_at, Cond.code yX1_at cX1_at 4 (some .int), Cond.methodLink RX1 112 yX1_luck, Cond.instanceMethod yX1_luck, Cond.selects RX1 yX1_luck yX1_luck, Cond.code yX1_luck cX1_luck 4 (some .int), Cond.methodLink RX1 124 yX1_bestOf, Cond.instanceMethod yX1_bestOf, Cond.selects RX1 yX1_bestOf yX1_bestOf, Cond.code yX1_bestOf cX1_bestOf 9 (some .int)]
def wsX1_digest : List Cond := .code yX1_digest cX1_digest 8 (some .long) :: ((wsX1_digest_r1 ++ (wsX1_digest_r2 ++ wsX1_digest_r3)) ++ wsX10)
def wsJ9_abs_0f7a4 : List Cond := .code yJ9_abs_0f7a4 cJ9_abs_0f7a4 1 (some .int) :: ([])
def wsJ9_min_7cf53 : List Cond := .code yJ9_min_7cf53 cJ9_min_7cf53 2 (some .int) :: ([])
def wsL_addStranger_r1 : List Cond := [Cond.classLink RL 13 "java/lang/IllegalArgumentException", Cond.classLink RL 15 "java/lang/IllegalStateException", Cond.methodLink RL 7 yX0_addStranger, Cond.instanceMethod yX0_addStranger, Cond.selects RX0 yX0_addStranger yX0_addStranger, Cond.initialized RX0, Cond.code yX0_addStranger cX0_addStranger 6 (some .int), Cond.classLink RX0 51 "java/lang/IllegalArgumentException", Cond.initialized "java/lang/IllegalArgumentException", Cond.classLink RX0 58 "java/lang/IllegalStateException", Cond.initialized "java/lang/IllegalStateException", Cond.fieldLink RX0 22 "TicketCoincidences" "people" "I", Cond.fieldLink RX0 9 "TicketCoincidences" "tickets" "[I", Cond.fieldLink RX0 13 "TicketCoincidences" "colours" "[I", Cond.fieldLink RX0 16 "TicketCoincidences" "corners" "[I", Cond.fieldLink RX0 19 "TicketCoincidences" "walks" "[I", Cond.methodLink RX0 38 yX0_isTicket, Cond.static yX0_isTicket, Cond.code yX0_isTicket cX0_isTicket 1 (some .boolean), Cond.methodLink RX0 42 yX0_isColour, Cond.static yX0_isColour, Cond.code yX0_isColour cX0_isColour 1 (some .boolean), Cond.methodLink RX0 45 yX0_isCorner, Cond.static yX0_isCorner]
def wsL_addStranger_r2 : List Cond := [Cond.code yX0_isCorner cX0_isCorner 1 (some .boolean), Cond.methodLink RX0 48 yX0_isWalk, Cond.static yX0_isWalk, Cond.code yX0_isWalk cX0_isWalk 1 (some .boolean)]
def wsL_addStranger : List Cond := .codeWith yL_addStranger cL_addStranger 7 (some .int) [(0, 14, 17, 13), (0, 14, 21, 15)] :: ((wsL_addStranger_r1 ++ wsL_addStranger_r2) ++ wsX00 ++ (vx_atS RX0 55 "java/lang/IllegalArgumentException" ["java/lang/RuntimeException", "java/lang/Exception"]).filter goodWord ++ (vx_atS RX0 62 "java/lang/IllegalStateException" ["java/lang/RuntimeException", "java/lang/Exception"]).filter goodWord)
def wsL_setWalk : List Cond := .codeWith yL_setWalk cL_setWalk 5 (some .int) [(0, 10, 13, 21), (0, 10, 17, 13)] :: ([.classLink RL 21 "java/lang/IndexOutOfBoundsException", .classLink RL 13 "java/lang/IllegalArgumentException", .methodLink RL 17 yX0_setWalk, .instanceMethod yX0_setWalk, .selects RX0 yX0_setWalk yX0_setWalk, .initialized RX0, .code yX0_setWalk cX0_setWalk 4 (some .int), .classLink RX0 51 "java/lang/IllegalArgumentException", .initialized "java/lang/IllegalArgumentException", .fieldLink RX0 19 "TicketCoincidences" "walks" "[I", .methodLink RX0 63 yX0_requireStranger, .instanceMethod yX0_requireStranger, .selects RX0 yX0_requireStranger yX0_requireStranger, .code yX0_requireStranger cX0_requireStranger 2 none, .classLink RX0 157 "java/lang/IndexOutOfBoundsException", .initialized "java/lang/IndexOutOfBoundsException", .fieldLink RX0 22 "TicketCoincidences" "people" "I", .methodLink RX0 48 yX0_isWalk, .static yX0_isWalk, .code yX0_isWalk cX0_isWalk 1 (some .boolean)] ++ wsX00 ++ (vx_atS RX0 55 "java/lang/IllegalArgumentException" ["java/lang/RuntimeException", "java/lang/Exception"]).filter goodWord ++ (vx_atS RX0 161 "java/lang/IndexOutOfBoundsException" ["java/lang/RuntimeException", "java/lang/Exception"]).filter goodWord)
def wsL_move_r1 : List Cond := [Cond.classLink RL 21 "java/lang/IndexOutOfBoundsException", Cond.classLink RL 13 "java/lang/IllegalArgumentException", Cond.classLink RL 15 "java/lang/IllegalStateException", Cond.methodLink RL 23 yX0_move, Cond.instanceMethod yX0_move, Cond.selects RX0 yX0_move yX0_move, Cond.initialized RX0, Cond.code yX0_move cX0_move 4 (some .int), Cond.classLink RX0 51 "java/lang/IllegalArgumentException", Cond.initialized "java/lang/IllegalArgumentException", Cond.classLink RX0 58 "java/lang/IllegalStateException", Cond.initialized "java/lang/IllegalStateException", Cond.fieldLink RX0 16 "TicketCoincidences" "corners" "[I", Cond.methodLink RX0 63 yX0_requireStranger, Cond.instanceMethod yX0_requireStranger, Cond.selects RX0 yX0_requireStranger yX0_requireStranger, Cond.code yX0_requireStranger cX0_requireStranger 2 none, Cond.classLink RX0 157 "java/lang/IndexOutOfBoundsException", Cond.initialized "java/lang/IndexOutOfBoundsException", Cond.fieldLink RX0 22 "TicketCoincidences" "people" "I", Cond.methodLink RX0 45 yX0_isCorner, Cond.static yX0_isCorner, Cond.code yX0_isCorner cX0_isCorner 1 (some .boolean), Cond.methodLink RX0 73 yX0_costOfWay]
def wsL_move_r2 : List Cond := [Cond.static yX0_costOfWay, Cond.code yX0_costOfWay cX0_costOfWay 3 (some .int), Cond.methodLink RX0 166 Lib.Math.abs.name, Cond.static Lib.Math.abs.name, Cond.initialized "java/lang/Math", Cond.code Lib.Math.abs.name Lib.Math.abs.code 1 (some .int), Cond.methodLink RX0 171 Lib.Math.min.name, Cond.static Lib.Math.min.name, Cond.code Lib.Math.min.name Lib.Math.min.code 2 (some .int), Cond.methodLink RX0 77 yX0_pay, Cond.instanceMethod yX0_pay, Cond.selects RX0 yX0_pay yX0_pay, Cond.code yX0_pay cX0_pay 2 none, Cond.fieldLink RX0 29 "TicketCoincidences" "inStore" "I", Cond.fieldLink RX0 35 "TicketCoincidences" "spentInAll" "I"]
def wsL_move : List Cond := .codeWith yL_move cL_move 5 (some .int) [(0, 10, 13, 21), (0, 10, 17, 13), (0, 10, 21, 15)] :: ((wsL_move_r1 ++ wsL_move_r2) ++ wsX00 ++ (vx_atS RX0 55 "java/lang/IllegalArgumentException" ["java/lang/RuntimeException", "java/lang/Exception"]).filter goodWord ++ (vx_atS RX0 62 "java/lang/IllegalStateException" ["java/lang/RuntimeException", "java/lang/Exception"]).filter goodWord ++ (vx_atS RX0 161 "java/lang/IndexOutOfBoundsException" ["java/lang/RuntimeException", "java/lang/Exception"]).filter goodWord)
def wsL_swapUmbrellas_r1 : List Cond := [Cond.classLink RL 21 "java/lang/IndexOutOfBoundsException", Cond.classLink RL 13 "java/lang/IllegalArgumentException", Cond.classLink RL 15 "java/lang/IllegalStateException", Cond.methodLink RL 26 yX0_swapUmbrellas, Cond.instanceMethod yX0_swapUmbrellas, Cond.selects RX0 yX0_swapUmbrellas yX0_swapUmbrellas, Cond.initialized RX0, Cond.code yX0_swapUmbrellas cX0_swapUmbrellas 4 (some .int), Cond.classLink RX0 58 "java/lang/IllegalStateException", Cond.initialized "java/lang/IllegalStateException", Cond.fieldLink RX0 16 "TicketCoincidences" "corners" "[I", Cond.fieldLink RX0 13 "TicketCoincidences" "colours" "[I", Cond.methodLink RX0 80 yX0_requirePair, Cond.instanceMethod yX0_requirePair, Cond.selects RX0 yX0_requirePair yX0_requirePair, Cond.code yX0_requirePair cX0_requirePair 3 none, Cond.classLink RX0 51 "java/lang/IllegalArgumentException", Cond.initialized "java/lang/IllegalArgumentException", Cond.methodLink RX0 63 yX0_requireStranger, Cond.instanceMethod yX0_requireStranger, Cond.selects RX0 yX0_requireStranger yX0_requireStranger, Cond.code yX0_requireStranger cX0_requireStranger 2 none, Cond.classLink RX0 157 "java/lang/IndexOutOfBoundsException", Cond.initialized "java/lang/IndexOutOfBoundsException"]
def wsL_swapUmbrellas_r2 : List Cond := [Cond.fieldLink RX0 22 "TicketCoincidences" "people" "I", Cond.methodLink RX0 77 yX0_pay, Cond.instanceMethod yX0_pay, Cond.selects RX0 yX0_pay yX0_pay, Cond.code yX0_pay cX0_pay 2 none, Cond.fieldLink RX0 29 "TicketCoincidences" "inStore" "I", Cond.fieldLink RX0 35 "TicketCoincidences" "spentInAll" "I", Cond.methodLink RX0 86 yX0_townBehind, Cond.instanceMethod yX0_townBehind, Cond.selects RX0 yX0_townBehind yX0_townBehind, Cond.code yX0_townBehind cX0_townBehind 5 (some .int), Cond.methodLink RX0 119 yX0_cornerBehind, Cond.instanceMethod yX0_cornerBehind, Cond.selects RX0 yX0_cornerBehind yX0_cornerBehind, Cond.code yX0_cornerBehind cX0_cornerBehind 3 (some .int), Cond.fieldLink RX0 19 "TicketCoincidences" "walks" "[I", Cond.methodLink RX0 107 yX0_pointsOfPair, Cond.instanceMethod yX0_pointsOfPair, Cond.selects RX0 yX0_pointsOfPair yX0_pointsOfPair, Cond.code yX0_pointsOfPair cX0_pointsOfPair 3 (some .int), Cond.fieldLink RX0 9 "TicketCoincidences" "tickets" "[I", Cond.methodLink RX0 180 yX0_pointsOfTickets, Cond.static yX0_pointsOfTickets, Cond.code yX0_pointsOfTickets cX0_pointsOfTickets 3 (some .int)]
def wsL_swapUmbrellas_r3 : List Cond := [Cond.methodLink RX0 166 Lib.Math.abs.name, Cond.static Lib.Math.abs.name, Cond.initialized "java/lang/Math", Cond.code Lib.Math.abs.name Lib.Math.abs.code 1 (some .int), Cond.methodLink RX0 177 yX0_figureSum, Cond.static yX0_figureSum, Cond.code yX0_figureSum cX0_figureSum 1 (some .int), Cond.methodLink RX0 110 yX0_mirrored, Cond.static yX0_mirrored, Cond.code yX0_mirrored cX0_mirrored 2 (some .boolean), Cond.methodLink RX0 183 yX0_pointsOfColours, Cond.static yX0_pointsOfColours, Cond.code yX0_pointsOfColours cX0_pointsOfColours 2 (some .int), Cond.methodLink RX0 90 yX0_exchange, Cond.static yX0_exchange, Cond.code yX0_exchange cX0_exchange 4 none]
def wsL_swapUmbrellas : List Cond := .codeWith yL_swapUmbrellas cL_swapUmbrellas 5 (some .int) [(0, 10, 13, 21), (0, 10, 17, 13), (0, 10, 21, 15)] :: ((wsL_swapUmbrellas_r1 ++ (wsL_swapUmbrellas_r2 ++ wsL_swapUmbrellas_r3)) ++ wsX00 ++ (vx_atS RX0 62 "java/lang/IllegalStateException" ["java/lang/RuntimeException", "java/lang/Exception"]).filter goodWord ++ (vx_atS RX0 55 "java/lang/IllegalArgumentException" ["java/lang/RuntimeException", "java/lang/Exception"]).filter goodWord ++ (vx_atS RX0 161 "java/lang/IndexOutOfBoundsException" ["java/lang/RuntimeException", "java/lang/Exception"]).filter goodWord)
def wsL_swapTickets_r1 : List Cond := [Cond.classLink RL 21 "java/lang/IndexOutOfBoundsException", Cond.classLink RL 13 "java/lang/IllegalArgumentException", Cond.classLink RL 15 "java/lang/IllegalStateException", Cond.methodLink RL 29 yX0_swapTickets, Cond.instanceMethod yX0_swapTickets, Cond.selects RX0 yX0_swapTickets yX0_swapTickets, Cond.initialized RX0, Cond.code yX0_swapTickets cX0_swapTickets 4 (some .int), Cond.fieldLink RX0 9 "TicketCoincidences" "tickets" "[I", Cond.methodLink RX0 80 yX0_requirePair, Cond.instanceMethod yX0_requirePair, Cond.selects RX0 yX0_requirePair yX0_requirePair, Cond.code yX0_requirePair cX0_requirePair 3 none, Cond.classLink RX0 51 "java/lang/IllegalArgumentException", Cond.initialized "java/lang/IllegalArgumentException", Cond.methodLink RX0 63 yX0_requireStranger, Cond.instanceMethod yX0_requireStranger, Cond.selects RX0 yX0_requireStranger yX0_requireStranger, Cond.code yX0_requireStranger cX0_requireStranger 2 none, Cond.classLink RX0 157 "java/lang/IndexOutOfBoundsException", Cond.initialized "java/lang/IndexOutOfBoundsException", Cond.fieldLink RX0 22 "TicketCoincidences" "people" "I", Cond.methodLink RX0 77 yX0_pay, Cond.instanceMethod yX0_pay]
def wsL_swapTickets_r2 : List Cond := [Cond.selects RX0 yX0_pay yX0_pay, Cond.code yX0_pay cX0_pay 2 none, Cond.classLink RX0 58 "java/lang/IllegalStateException", Cond.initialized "java/lang/IllegalStateException", Cond.fieldLink RX0 29 "TicketCoincidences" "inStore" "I", Cond.fieldLink RX0 35 "TicketCoincidences" "spentInAll" "I", Cond.methodLink RX0 86 yX0_townBehind, Cond.instanceMethod yX0_townBehind, Cond.selects RX0 yX0_townBehind yX0_townBehind, Cond.code yX0_townBehind cX0_townBehind 5 (some .int), Cond.methodLink RX0 119 yX0_cornerBehind, Cond.instanceMethod yX0_cornerBehind, Cond.selects RX0 yX0_cornerBehind yX0_cornerBehind, Cond.code yX0_cornerBehind cX0_cornerBehind 3 (some .int), Cond.fieldLink RX0 16 "TicketCoincidences" "corners" "[I", Cond.fieldLink RX0 19 "TicketCoincidences" "walks" "[I", Cond.methodLink RX0 107 yX0_pointsOfPair, Cond.instanceMethod yX0_pointsOfPair, Cond.selects RX0 yX0_pointsOfPair yX0_pointsOfPair, Cond.code yX0_pointsOfPair cX0_pointsOfPair 3 (some .int), Cond.fieldLink RX0 13 "TicketCoincidences" "colours" "[I", Cond.methodLink RX0 180 yX0_pointsOfTickets, Cond.static yX0_pointsOfTickets, Cond.code yX0_pointsOfTickets cX0_pointsOfTickets 3 (some .int)]
def wsL_swapTickets_r3 : List Cond := [Cond.methodLink RX0 166 Lib.Math.abs.name, Cond.static Lib.Math.abs.name, Cond.initialized "java/lang/Math", Cond.code Lib.Math.abs.name Lib.Math.abs.code 1 (some .int), Cond.methodLink RX0 177 yX0_figureSum, Cond.static yX0_figureSum, Cond.code yX0_figureSum cX0_figureSum 1 (some .int), Cond.methodLink RX0 110 yX0_mirrored, Cond.static yX0_mirrored, Cond.code yX0_mirrored cX0_mirrored 2 (some .boolean), Cond.methodLink RX0 183 yX0_pointsOfColours, Cond.static yX0_pointsOfColours, Cond.code yX0_pointsOfColours cX0_pointsOfColours 2 (some .int), Cond.methodLink RX0 90 yX0_exchange, Cond.static yX0_exchange, Cond.code yX0_exchange cX0_exchange 4 none]
def wsL_swapTickets : List Cond := .codeWith yL_swapTickets cL_swapTickets 5 (some .int) [(0, 10, 13, 21), (0, 10, 17, 13), (0, 10, 21, 15)] :: ((wsL_swapTickets_r1 ++ (wsL_swapTickets_r2 ++ wsL_swapTickets_r3)) ++ wsX00 ++ (vx_atS RX0 55 "java/lang/IllegalArgumentException" ["java/lang/RuntimeException", "java/lang/Exception"]).filter goodWord ++ (vx_atS RX0 161 "java/lang/IndexOutOfBoundsException" ["java/lang/RuntimeException", "java/lang/Exception"]).filter goodWord ++ (vx_atS RX0 62 "java/lang/IllegalStateException" ["java/lang/RuntimeException", "java/lang/Exception"]).filter goodWord)
def wsL_draw_r1 : List Cond := [Cond.classLink RL 21 "java/lang/IndexOutOfBoundsException", Cond.classLink RL 13 "java/lang/IllegalArgumentException", Cond.classLink RL 15 "java/lang/IllegalStateException", Cond.methodLink RL 32 yX0_draw, Cond.instanceMethod yX0_draw, Cond.selects RX0 yX0_draw yX0_draw, Cond.initialized RX0, Cond.code yX0_draw cX0_draw 4 (some .int), Cond.classLink RX0 51 "java/lang/IllegalArgumentException", Cond.initialized "java/lang/IllegalArgumentException", Cond.fieldLink RX0 9 "TicketCoincidences" "tickets" "[I", Cond.methodLink RX0 63 yX0_requireStranger, Cond.instanceMethod yX0_requireStranger, Cond.selects RX0 yX0_requireStranger yX0_requireStranger, Cond.code yX0_requireStranger cX0_requireStranger 2 none, Cond.classLink RX0 157 "java/lang/IndexOutOfBoundsException", Cond.initialized "java/lang/IndexOutOfBoundsException", Cond.fieldLink RX0 22 "TicketCoincidences" "people" "I", Cond.methodLink RX0 38 yX0_isTicket, Cond.static yX0_isTicket, Cond.code yX0_isTicket cX0_isTicket 1 (some .boolean), Cond.methodLink RX0 77 yX0_pay, Cond.instanceMethod yX0_pay, Cond.selects RX0 yX0_pay yX0_pay]
def wsL_draw_r2 : List Cond := [Cond.code yX0_pay cX0_pay 2 none, Cond.classLink RX0 58 "java/lang/IllegalStateException", Cond.initialized "java/lang/IllegalStateException", Cond.fieldLink RX0 29 "TicketCoincidences" "inStore" "I", Cond.fieldLink RX0 35 "TicketCoincidences" "spentInAll" "I"]
def wsL_draw : List Cond := .codeWith yL_draw cL_draw 5 (some .int) [(0, 10, 13, 21), (0, 10, 17, 13), (0, 10, 21, 15)] :: ((wsL_draw_r1 ++ wsL_draw_r2) ++ wsX00 ++ (vx_atS RX0 55 "java/lang/IllegalArgumentException" ["java/lang/RuntimeException", "java/lang/Exception"]).filter goodWord ++ (vx_atS RX0 161 "java/lang/IndexOutOfBoundsException" ["java/lang/RuntimeException", "java/lang/Exception"]).filter goodWord ++ (vx_atS RX0 62 "java/lang/IllegalStateException" ["java/lang/RuntimeException", "java/lang/Exception"]).filter goodWord)
def wsL_pass_r1 : List Cond := [Cond.classLink RL 13 "java/lang/IllegalArgumentException", Cond.methodLink RL 35 yX0_pass, Cond.instanceMethod yX0_pass, Cond.selects RX0 yX0_pass yX0_pass, Cond.initialized RX0, Cond.code yX0_pass cX0_pass 4 (some .int), Cond.classLink RX0 51 "java/lang/IllegalArgumentException", Cond.initialized "java/lang/IllegalArgumentException", Cond.fieldLink RX0 32 "TicketCoincidences" "countedInAll" "I", Cond.methodLink RX0 98 yX0_passOneHour, Cond.instanceMethod yX0_passOneHour, Cond.selects RX0 yX0_passOneHour yX0_passOneHour, Cond.code yX0_passOneHour cX0_passOneHour 2 none, Cond.fieldLink RX0 22 "TicketCoincidences" "people" "I", Cond.fieldLink RX0 16 "TicketCoincidences" "corners" "[I", Cond.fieldLink RX0 29 "TicketCoincidences" "inStore" "I", Cond.methodLink RX0 171 Lib.Math.min.name, Cond.static Lib.Math.min.name, Cond.initialized "java/lang/Math", Cond.code Lib.Math.min.name Lib.Math.min.code 2 (some .int), Cond.fieldLink RX0 26 "TicketCoincidences" "hourNow" "I", Cond.methodLink RX0 119 yX0_cornerBehind, Cond.instanceMethod yX0_cornerBehind, Cond.selects RX0 yX0_cornerBehind yX0_cornerBehind]
def wsL_pass_r2 : List Cond := [Cond.code yX0_cornerBehind cX0_cornerBehind 3 (some .int), Cond.fieldLink RX0 19 "TicketCoincidences" "walks" "[I", Cond.methodLink RX0 86 yX0_townBehind, Cond.instanceMethod yX0_townBehind, Cond.selects RX0 yX0_townBehind yX0_townBehind, Cond.code yX0_townBehind cX0_townBehind 5 (some .int), Cond.methodLink RX0 107 yX0_pointsOfPair, Cond.instanceMethod yX0_pointsOfPair, Cond.selects RX0 yX0_pointsOfPair yX0_pointsOfPair, Cond.code yX0_pointsOfPair cX0_pointsOfPair 3 (some .int), Cond.fieldLink RX0 9 "TicketCoincidences" "tickets" "[I", Cond.fieldLink RX0 13 "TicketCoincidences" "colours" "[I", Cond.methodLink RX0 180 yX0_pointsOfTickets, Cond.static yX0_pointsOfTickets, Cond.code yX0_pointsOfTickets cX0_pointsOfTickets 3 (some .int), Cond.methodLink RX0 166 Lib.Math.abs.name, Cond.static Lib.Math.abs.name, Cond.code Lib.Math.abs.name Lib.Math.abs.code 1 (some .int), Cond.methodLink RX0 177 yX0_figureSum, Cond.static yX0_figureSum, Cond.code yX0_figureSum cX0_figureSum 1 (some .int), Cond.methodLink RX0 110 yX0_mirrored, Cond.static yX0_mirrored, Cond.code yX0_mirrored cX0_mirrored 2 (some .boolean)]
def wsL_pass_r3 : List Cond := [Cond.methodLink RX0 183 yX0_pointsOfColours, Cond.static yX0_pointsOfColours, Cond.code yX0_pointsOfColours cX0_pointsOfColours 2 (some .int), Cond.methodLink RX0 174 yX0_emptyCorners, Cond.instanceMethod yX0_emptyCorners, Cond.selects RX0 yX0_emptyCorners yX0_emptyCorners, Cond.code yX0_emptyCorners cX0_emptyCorners 3 (some .int), Cond.methodLink RX0 104 yX0_crowdAt, Cond.instanceMethod yX0_crowdAt, Cond.selects RX0 yX0_crowdAt yX0_crowdAt, Cond.code yX0_crowdAt cX0_crowdAt 4 (some .int)]
def wsL_pass : List Cond := .codeWith yL_pass cL_pass 4 (some .int) [(0, 9, 12, 13)] :: ((wsL_pass_r1 ++ (wsL_pass_r2 ++ wsL_pass_r3)) ++ wsX00 ++ (vx_atS RX0 55 "java/lang/IllegalArgumentException" ["java/lang/RuntimeException", "java/lang/Exception"]).filter goodWord)
def wsL_ticketOf : List Cond := .codeWith yL_ticketOf cL_ticketOf 4 (some .int) [(0, 9, 12, 21)] :: ([.classLink RL 21 "java/lang/IndexOutOfBoundsException", .methodLink RL 39 yX0_ticketOf, .instanceMethod yX0_ticketOf, .selects RX0 yX0_ticketOf yX0_ticketOf, .initialized RX0, .code yX0_ticketOf cX0_ticketOf 2 (some .int), .fieldLink RX0 9 "TicketCoincidences" "tickets" "[I", .methodLink RX0 63 yX0_requireStranger, .instanceMethod yX0_requireStranger, .selects RX0 yX0_requireStranger yX0_requireStranger, .code yX0_requireStranger cX0_requireStranger 2 none, .classLink RX0 157 "java/lang/IndexOutOfBoundsException", .initialized "java/lang/IndexOutOfBoundsException", .fieldLink RX0 22 "TicketCoincidences" "people" "I"] ++ wsX00 ++ (vx_atS RX0 161 "java/lang/IndexOutOfBoundsException" ["java/lang/RuntimeException", "java/lang/Exception"]).filter goodWord)
def wsL_colourOf : List Cond := .codeWith yL_colourOf cL_colourOf 4 (some .int) [(0, 9, 12, 21)] :: ([.classLink RL 21 "java/lang/IndexOutOfBoundsException", .methodLink RL 42 yX0_colourOf, .instanceMethod yX0_colourOf, .selects RX0 yX0_colourOf yX0_colourOf, .initialized RX0, .code yX0_colourOf cX0_colourOf 2 (some .int), .fieldLink RX0 13 "TicketCoincidences" "colours" "[I", .methodLink RX0 63 yX0_requireStranger, .instanceMethod yX0_requireStranger, .selects RX0 yX0_requireStranger yX0_requireStranger, .code yX0_requireStranger cX0_requireStranger 2 none, .classLink RX0 157 "java/lang/IndexOutOfBoundsException", .initialized "java/lang/IndexOutOfBoundsException", .fieldLink RX0 22 "TicketCoincidences" "people" "I"] ++ wsX00 ++ (vx_atS RX0 161 "java/lang/IndexOutOfBoundsException" ["java/lang/RuntimeException", "java/lang/Exception"]).filter goodWord)
def wsL_cornerOf : List Cond := .codeWith yL_cornerOf cL_cornerOf 4 (some .int) [(0, 9, 12, 21)] :: ([.classLink RL 21 "java/lang/IndexOutOfBoundsException", .methodLink RL 45 yX0_cornerOf, .instanceMethod yX0_cornerOf, .selects RX0 yX0_cornerOf yX0_cornerOf, .initialized RX0, .code yX0_cornerOf cX0_cornerOf 2 (some .int), .fieldLink RX0 16 "TicketCoincidences" "corners" "[I", .methodLink RX0 63 yX0_requireStranger, .instanceMethod yX0_requireStranger, .selects RX0 yX0_requireStranger yX0_requireStranger, .code yX0_requireStranger cX0_requireStranger 2 none, .classLink RX0 157 "java/lang/IndexOutOfBoundsException", .initialized "java/lang/IndexOutOfBoundsException", .fieldLink RX0 22 "TicketCoincidences" "people" "I"] ++ wsX00 ++ (vx_atS RX0 161 "java/lang/IndexOutOfBoundsException" ["java/lang/RuntimeException", "java/lang/Exception"]).filter goodWord)
def wsL_walkOf : List Cond := .codeWith yL_walkOf cL_walkOf 4 (some .int) [(0, 9, 12, 21)] :: ([.classLink RL 21 "java/lang/IndexOutOfBoundsException", .methodLink RL 48 yX0_walkOf, .instanceMethod yX0_walkOf, .selects RX0 yX0_walkOf yX0_walkOf, .initialized RX0, .code yX0_walkOf cX0_walkOf 2 (some .int), .fieldLink RX0 19 "TicketCoincidences" "walks" "[I", .methodLink RX0 63 yX0_requireStranger, .instanceMethod yX0_requireStranger, .selects RX0 yX0_requireStranger yX0_requireStranger, .code yX0_requireStranger cX0_requireStranger 2 none, .classLink RX0 157 "java/lang/IndexOutOfBoundsException", .initialized "java/lang/IndexOutOfBoundsException", .fieldLink RX0 22 "TicketCoincidences" "people" "I"] ++ wsX00 ++ (vx_atS RX0 161 "java/lang/IndexOutOfBoundsException" ["java/lang/RuntimeException", "java/lang/Exception"]).filter goodWord)
def wsL_peopleAt : List Cond := .codeWith yL_peopleAt cL_peopleAt 4 (some .int) [(0, 9, 12, 21)] :: ([.classLink RL 21 "java/lang/IndexOutOfBoundsException", .methodLink RL 51 yX0_peopleAt, .instanceMethod yX0_peopleAt, .selects RX0 yX0_peopleAt yX0_peopleAt, .initialized RX0, .code yX0_peopleAt cX0_peopleAt 2 (some .int), .methodLink RX0 101 yX0_requireCorner, .static yX0_requireCorner, .code yX0_requireCorner cX0_requireCorner 1 none, .classLink RX0 157 "java/lang/IndexOutOfBoundsException", .initialized "java/lang/IndexOutOfBoundsException", .methodLink RX0 45 yX0_isCorner, .static yX0_isCorner, .code yX0_isCorner cX0_isCorner 1 (some .boolean), .methodLink RX0 104 yX0_crowdAt, .instanceMethod yX0_crowdAt, .selects RX0 yX0_crowdAt yX0_crowdAt, .code yX0_crowdAt cX0_crowdAt 4 (some .int), .fieldLink RX0 22 "TicketCoincidences" "people" "I", .fieldLink RX0 16 "TicketCoincidences" "corners" "[I"] ++ wsX00 ++ (vx_atS RX0 161 "java/lang/IndexOutOfBoundsException" ["java/lang/RuntimeException", "java/lang/Exception"]).filter goodWord)
def wsL_pointsOf_r1 : List Cond := [Cond.classLink RL 21 "java/lang/IndexOutOfBoundsException", Cond.classLink RL 13 "java/lang/IllegalArgumentException", Cond.methodLink RL 54 yX0_pointsOf, Cond.instanceMethod yX0_pointsOf, Cond.selects RX0 yX0_pointsOf yX0_pointsOf, Cond.initialized RX0, Cond.code yX0_pointsOf cX0_pointsOf 3 (some .int), Cond.methodLink RX0 80 yX0_requirePair, Cond.instanceMethod yX0_requirePair, Cond.selects RX0 yX0_requirePair yX0_requirePair, Cond.code yX0_requirePair cX0_requirePair 3 none, Cond.classLink RX0 51 "java/lang/IllegalArgumentException", Cond.initialized "java/lang/IllegalArgumentException", Cond.methodLink RX0 63 yX0_requireStranger, Cond.instanceMethod yX0_requireStranger, Cond.selects RX0 yX0_requireStranger yX0_requireStranger, Cond.code yX0_requireStranger cX0_requireStranger 2 none, Cond.classLink RX0 157 "java/lang/IndexOutOfBoundsException", Cond.initialized "java/lang/IndexOutOfBoundsException", Cond.fieldLink RX0 22 "TicketCoincidences" "people" "I", Cond.methodLink RX0 107 yX0_pointsOfPair, Cond.instanceMethod yX0_pointsOfPair, Cond.selects RX0 yX0_pointsOfPair yX0_pointsOfPair, Cond.code yX0_pointsOfPair cX0_pointsOfPair 3 (some .int)]
def wsL_pointsOf_r2 : List Cond := [Cond.fieldLink RX0 9 "TicketCoincidences" "tickets" "[I", Cond.fieldLink RX0 13 "TicketCoincidences" "colours" "[I", Cond.methodLink RX0 180 yX0_pointsOfTickets, Cond.static yX0_pointsOfTickets, Cond.code yX0_pointsOfTickets cX0_pointsOfTickets 3 (some .int), Cond.methodLink RX0 166 Lib.Math.abs.name, Cond.static Lib.Math.abs.name, Cond.initialized "java/lang/Math", Cond.code Lib.Math.abs.name Lib.Math.abs.code 1 (some .int), Cond.methodLink RX0 177 yX0_figureSum, Cond.static yX0_figureSum, Cond.code yX0_figureSum cX0_figureSum 1 (some .int), Cond.methodLink RX0 110 yX0_mirrored, Cond.static yX0_mirrored, Cond.code yX0_mirrored cX0_mirrored 2 (some .boolean), Cond.methodLink RX0 183 yX0_pointsOfColours, Cond.static yX0_pointsOfColours, Cond.code yX0_pointsOfColours cX0_pointsOfColours 2 (some .int)]
def wsL_pointsOf : List Cond := .codeWith yL_pointsOf cL_pointsOf 5 (some .int) [(0, 10, 13, 21), (0, 10, 17, 13)] :: ((wsL_pointsOf_r1 ++ wsL_pointsOf_r2) ++ wsX00 ++ (vx_atS RX0 55 "java/lang/IllegalArgumentException" ["java/lang/RuntimeException", "java/lang/Exception"]).filter goodWord ++ (vx_atS RX0 161 "java/lang/IndexOutOfBoundsException" ["java/lang/RuntimeException", "java/lang/Exception"]).filter goodWord)
def wsL_areTogether : List Cond := .codeWith yL_areTogether cL_areTogether 5 (some .int) [(0, 17, 20, 21), (0, 17, 24, 13)] :: ([.classLink RL 21 "java/lang/IndexOutOfBoundsException", .classLink RL 13 "java/lang/IllegalArgumentException", .methodLink RL 57 yX0_areTogether, .instanceMethod yX0_areTogether, .selects RX0 yX0_areTogether yX0_areTogether, .initialized RX0, .code yX0_areTogether cX0_areTogether 3 (some .boolean), .fieldLink RX0 16 "TicketCoincidences" "corners" "[I", .methodLink RX0 80 yX0_requirePair, .instanceMethod yX0_requirePair, .selects RX0 yX0_requirePair yX0_requirePair, .code yX0_requirePair cX0_requirePair 3 none, .classLink RX0 51 "java/lang/IllegalArgumentException", .initialized "java/lang/IllegalArgumentException", .methodLink RX0 63 yX0_requireStranger, .instanceMethod yX0_requireStranger, .selects RX0 yX0_requireStranger yX0_requireStranger, .code yX0_requireStranger cX0_requireStranger 2 none, .classLink RX0 157 "java/lang/IndexOutOfBoundsException", .initialized "java/lang/IndexOutOfBoundsException", .fieldLink RX0 22 "TicketCoincidences" "people" "I"] ++ wsX00 ++ (vx_atS RX0 55 "java/lang/IllegalArgumentException" ["java/lang/RuntimeException", "java/lang/Exception"]).filter goodWord ++ (vx_atS RX0 161 "java/lang/IndexOutOfBoundsException" ["java/lang/RuntimeException", "java/lang/Exception"]).filter goodWord)
def wsL_areMirrored : List Cond := .codeWith yL_areMirrored cL_areMirrored 5 (some .int) [(0, 17, 20, 21), (0, 17, 24, 13)] :: ([.classLink RL 21 "java/lang/IndexOutOfBoundsException", .classLink RL 13 "java/lang/IllegalArgumentException", .methodLink RL 61 yX0_areMirrored, .instanceMethod yX0_areMirrored, .selects RX0 yX0_areMirrored yX0_areMirrored, .initialized RX0, .code yX0_areMirrored cX0_areMirrored 3 (some .boolean), .fieldLink RX0 9 "TicketCoincidences" "tickets" "[I", .methodLink RX0 80 yX0_requirePair, .instanceMethod yX0_requirePair, .selects RX0 yX0_requirePair yX0_requirePair, .code yX0_requirePair cX0_requirePair 3 none, .classLink RX0 51 "java/lang/IllegalArgumentException", .initialized "java/lang/IllegalArgumentException", .methodLink RX0 63 yX0_requireStranger, .instanceMethod yX0_requireStranger, .selects RX0 yX0_requireStranger yX0_requireStranger, .code yX0_requireStranger cX0_requireStranger 2 none, .classLink RX0 157 "java/lang/IndexOutOfBoundsException", .initialized "java/lang/IndexOutOfBoundsException", .fieldLink RX0 22 "TicketCoincidences" "people" "I", .methodLink RX0 110 yX0_mirrored, .static yX0_mirrored, .code yX0_mirrored cX0_mirrored 2 (some .boolean)] ++ wsX00 ++ (vx_atS RX0 55 "java/lang/IllegalArgumentException" ["java/lang/RuntimeException", "java/lang/Exception"]).filter goodWord ++ (vx_atS RX0 161 "java/lang/IndexOutOfBoundsException" ["java/lang/RuntimeException", "java/lang/Exception"]).filter goodWord)
def wsL_coincidencesAt_r1 : List Cond := [Cond.classLink RL 21 "java/lang/IndexOutOfBoundsException", Cond.methodLink RL 64 yX0_coincidencesAt, Cond.instanceMethod yX0_coincidencesAt, Cond.selects RX0 yX0_coincidencesAt yX0_coincidencesAt, Cond.initialized RX0, Cond.code yX0_coincidencesAt cX0_coincidencesAt 5 (some .int), Cond.fieldLink RX0 22 "TicketCoincidences" "people" "I", Cond.fieldLink RX0 16 "TicketCoincidences" "corners" "[I", Cond.methodLink RX0 101 yX0_requireCorner, Cond.static yX0_requireCorner, Cond.code yX0_requireCorner cX0_requireCorner 1 none, Cond.classLink RX0 157 "java/lang/IndexOutOfBoundsException", Cond.initialized "java/lang/IndexOutOfBoundsException", Cond.methodLink RX0 45 yX0_isCorner, Cond.static yX0_isCorner, Cond.code yX0_isCorner cX0_isCorner 1 (some .boolean), Cond.methodLink RX0 107 yX0_pointsOfPair, Cond.instanceMethod yX0_pointsOfPair, Cond.selects RX0 yX0_pointsOfPair yX0_pointsOfPair, Cond.code yX0_pointsOfPair cX0_pointsOfPair 3 (some .int), Cond.fieldLink RX0 9 "TicketCoincidences" "tickets" "[I", Cond.fieldLink RX0 13 "TicketCoincidences" "colours" "[I", Cond.methodLink RX0 180 yX0_pointsOfTickets, Cond.static yX0_pointsOfTickets]
def wsL_coincidencesAt_r2 : List Cond := [Cond.code yX0_pointsOfTickets cX0_pointsOfTickets 3 (some .int), Cond.methodLink RX0 166 Lib.Math.abs.name, Cond.static Lib.Math.abs.name, Cond.initialized "java/lang/Math", Cond.code Lib.Math.abs.name Lib.Math.abs.code 1 (some .int), Cond.methodLink RX0 177 yX0_figureSum, Cond.static yX0_figureSum, Cond.code yX0_figureSum cX0_figureSum 1 (some .int), Cond.methodLink RX0 110 yX0_mirrored, Cond.static yX0_mirrored, Cond.code yX0_mirrored cX0_mirrored 2 (some .boolean), Cond.methodLink RX0 183 yX0_pointsOfColours, Cond.static yX0_pointsOfColours, Cond.code yX0_pointsOfColours cX0_pointsOfColours 2 (some .int)]
def wsL_coincidencesAt : List Cond := .codeWith yL_coincidencesAt cL_coincidencesAt 4 (some .int) [(0, 9, 12, 21)] :: ((wsL_coincidencesAt_r1 ++ wsL_coincidencesAt_r2) ++ wsX00 ++ (vx_atS RX0 161 "java/lang/IndexOutOfBoundsException" ["java/lang/RuntimeException", "java/lang/Exception"]).filter goodWord)
def wsL_luckOf_r1 : List Cond := [Cond.classLink RL 21 "java/lang/IndexOutOfBoundsException", Cond.methodLink RL 67 yX0_luckOf, Cond.instanceMethod yX0_luckOf, Cond.selects RX0 yX0_luckOf yX0_luckOf, Cond.initialized RX0, Cond.code yX0_luckOf cX0_luckOf 2 (some .int), Cond.methodLink RX0 63 yX0_requireStranger, Cond.instanceMethod yX0_requireStranger, Cond.selects RX0 yX0_requireStranger yX0_requireStranger, Cond.code yX0_requireStranger cX0_requireStranger 2 none, Cond.classLink RX0 157 "java/lang/IndexOutOfBoundsException", Cond.initialized "java/lang/IndexOutOfBoundsException", Cond.fieldLink RX0 22 "TicketCoincidences" "people" "I", Cond.methodLink RX0 114 yX0_luckNow, Cond.instanceMethod yX0_luckNow, Cond.selects RX0 yX0_luckNow yX0_luckNow, Cond.code yX0_luckNow cX0_luckNow 2 (some .int), Cond.fieldLink RX0 9 "TicketCoincidences" "tickets" "[I", Cond.fieldLink RX0 16 "TicketCoincidences" "corners" "[I", Cond.methodLink RX0 122 yX0_luckWith, Cond.instanceMethod yX0_luckWith, Cond.selects RX0 yX0_luckWith yX0_luckWith, Cond.code yX0_luckWith cX0_luckWith 6 (some .int), Cond.fieldLink RX0 13 "TicketCoincidences" "colours" "[I"]
def wsL_luckOf_r2 : List Cond := [Cond.methodLink RX0 180 yX0_pointsOfTickets, Cond.static yX0_pointsOfTickets, Cond.code yX0_pointsOfTickets cX0_pointsOfTickets 3 (some .int), Cond.methodLink RX0 166 Lib.Math.abs.name, Cond.static Lib.Math.abs.name, Cond.initialized "java/lang/Math", Cond.code Lib.Math.abs.name Lib.Math.abs.code 1 (some .int), Cond.methodLink RX0 177 yX0_figureSum, Cond.static yX0_figureSum, Cond.code yX0_figureSum cX0_figureSum 1 (some .int), Cond.methodLink RX0 110 yX0_mirrored, Cond.static yX0_mirrored, Cond.code yX0_mirrored cX0_mirrored 2 (some .boolean), Cond.methodLink RX0 183 yX0_pointsOfColours, Cond.static yX0_pointsOfColours, Cond.code yX0_pointsOfColours cX0_pointsOfColours 2 (some .int)]
def wsL_luckOf : List Cond := .codeWith yL_luckOf cL_luckOf 4 (some .int) [(0, 9, 12, 21)] :: ((wsL_luckOf_r1 ++ wsL_luckOf_r2) ++ wsX00 ++ (vx_atS RX0 161 "java/lang/IndexOutOfBoundsException" ["java/lang/RuntimeException", "java/lang/Exception"]).filter goodWord)
def wsL_coincidencesIn_r1 : List Cond := [Cond.classLink RL 13 "java/lang/IllegalArgumentException", Cond.methodLink RL 70 yX0_coincidencesIn, Cond.instanceMethod yX0_coincidencesIn, Cond.selects RX0 yX0_coincidencesIn yX0_coincidencesIn, Cond.initialized RX0, Cond.code yX0_coincidencesIn cX0_coincidencesIn 2 (some .int), Cond.classLink RX0 51 "java/lang/IllegalArgumentException", Cond.initialized "java/lang/IllegalArgumentException", Cond.methodLink RX0 86 yX0_townBehind, Cond.instanceMethod yX0_townBehind, Cond.selects RX0 yX0_townBehind yX0_townBehind, Cond.code yX0_townBehind cX0_townBehind 5 (some .int), Cond.fieldLink RX0 22 "TicketCoincidences" "people" "I", Cond.methodLink RX0 119 yX0_cornerBehind, Cond.instanceMethod yX0_cornerBehind, Cond.selects RX0 yX0_cornerBehind yX0_cornerBehind, Cond.code yX0_cornerBehind cX0_cornerBehind 3 (some .int), Cond.fieldLink RX0 16 "TicketCoincidences" "corners" "[I", Cond.fieldLink RX0 19 "TicketCoincidences" "walks" "[I", Cond.methodLink RX0 107 yX0_pointsOfPair, Cond.instanceMethod yX0_pointsOfPair, Cond.selects RX0 yX0_pointsOfPair yX0_pointsOfPair, Cond.code yX0_pointsOfPair cX0_pointsOfPair 3 (some .int), Cond.fieldLink RX0 9 "TicketCoincidences" "tickets" "[I"]
def wsL_coincidencesIn_r2 : List Cond := [Cond.fieldLink RX0 13 "TicketCoincidences" "colours" "[I", Cond.methodLink RX0 180 yX0_pointsOfTickets, Cond.static yX0_pointsOfTickets, Cond.code yX0_pointsOfTickets cX0_pointsOfTickets 3 (some .int), Cond.methodLink RX0 166 Lib.Math.abs.name, Cond.static Lib.Math.abs.name, Cond.initialized "java/lang/Math", Cond.code Lib.Math.abs.name Lib.Math.abs.code 1 (some .int), Cond.methodLink RX0 177 yX0_figureSum, Cond.static yX0_figureSum, Cond.code yX0_figureSum cX0_figureSum 1 (some .int), Cond.methodLink RX0 110 yX0_mirrored, Cond.static yX0_mirrored, Cond.code yX0_mirrored cX0_mirrored 2 (some .boolean), Cond.methodLink RX0 183 yX0_pointsOfColours, Cond.static yX0_pointsOfColours, Cond.code yX0_pointsOfColours cX0_pointsOfColours 2 (some .int)]
def wsL_coincidencesIn : List Cond := .codeWith yL_coincidencesIn cL_coincidencesIn 4 (some .int) [(0, 9, 12, 13)] :: ((wsL_coincidencesIn_r1 ++ wsL_coincidencesIn_r2) ++ wsX00 ++ (vx_atS RX0 55 "java/lang/IllegalArgumentException" ["java/lang/RuntimeException", "java/lang/Exception"]).filter goodWord)
def wsL_hoursUntilTogether_r1 : List Cond := [Cond.classLink RL 21 "java/lang/IndexOutOfBoundsException", Cond.classLink RL 13 "java/lang/IllegalArgumentException", Cond.methodLink RL 73 yX0_hoursUntilTogether, Cond.instanceMethod yX0_hoursUntilTogether, Cond.selects RX0 yX0_hoursUntilTogether yX0_hoursUntilTogether, Cond.initialized RX0, Cond.code yX0_hoursUntilTogether cX0_hoursUntilTogether 4 (some .int), Cond.methodLink RX0 80 yX0_requirePair, Cond.instanceMethod yX0_requirePair, Cond.selects RX0 yX0_requirePair yX0_requirePair, Cond.code yX0_requirePair cX0_requirePair 3 none, Cond.classLink RX0 51 "java/lang/IllegalArgumentException", Cond.initialized "java/lang/IllegalArgumentException", Cond.methodLink RX0 63 yX0_requireStranger, Cond.instanceMethod yX0_requireStranger, Cond.selects RX0 yX0_requireStranger yX0_requireStranger, Cond.code yX0_requireStranger cX0_requireStranger 2 none, Cond.classLink RX0 157 "java/lang/IndexOutOfBoundsException", Cond.initialized "java/lang/IndexOutOfBoundsException", Cond.fieldLink RX0 22 "TicketCoincidences" "people" "I", Cond.methodLink RX0 119 yX0_cornerBehind, Cond.instanceMethod yX0_cornerBehind, Cond.selects RX0 yX0_cornerBehind yX0_cornerBehind, Cond.code yX0_cornerBehind cX0_cornerBehind 3 (some .int)]
def wsL_hoursUntilTogether_r2 : List Cond := [Cond.fieldLink RX0 16 "TicketCoincidences" "corners" "[I", Cond.fieldLink RX0 19 "TicketCoincidences" "walks" "[I"]
def wsL_hoursUntilTogether : List Cond := .codeWith yL_hoursUntilTogether cL_hoursUntilTogether 5 (some .int) [(0, 10, 13, 21), (0, 10, 17, 13)] :: ((wsL_hoursUntilTogether_r1 ++ wsL_hoursUntilTogether_r2) ++ wsX00 ++ (vx_atS RX0 55 "java/lang/IllegalArgumentException" ["java/lang/RuntimeException", "java/lang/Exception"]).filter goodWord ++ (vx_atS RX0 161 "java/lang/IndexOutOfBoundsException" ["java/lang/RuntimeException", "java/lang/Exception"]).filter goodWord)
def wsL_costOfMeeting_r1 : List Cond := [Cond.classLink RL 21 "java/lang/IndexOutOfBoundsException", Cond.classLink RL 13 "java/lang/IllegalArgumentException", Cond.methodLink RL 76 yX0_costOfMeeting, Cond.instanceMethod yX0_costOfMeeting, Cond.selects RX0 yX0_costOfMeeting yX0_costOfMeeting, Cond.initialized RX0, Cond.code yX0_costOfMeeting cX0_costOfMeeting 3 (some .int), Cond.fieldLink RX0 16 "TicketCoincidences" "corners" "[I", Cond.methodLink RX0 80 yX0_requirePair, Cond.instanceMethod yX0_requirePair, Cond.selects RX0 yX0_requirePair yX0_requirePair, Cond.code yX0_requirePair cX0_requirePair 3 none, Cond.classLink RX0 51 "java/lang/IllegalArgumentException", Cond.initialized "java/lang/IllegalArgumentException", Cond.methodLink RX0 63 yX0_requireStranger, Cond.instanceMethod yX0_requireStranger, Cond.selects RX0 yX0_requireStranger yX0_requireStranger, Cond.code yX0_requireStranger cX0_requireStranger 2 none, Cond.classLink RX0 157 "java/lang/IndexOutOfBoundsException", Cond.initialized "java/lang/IndexOutOfBoundsException", Cond.fieldLink RX0 22 "TicketCoincidences" "people" "I", Cond.methodLink RX0 73 yX0_costOfWay, Cond.static yX0_costOfWay, Cond.code yX0_costOfWay cX0_costOfWay 3 (some .int)]
def wsL_costOfMeeting_r2 : List Cond := [Cond.methodLink RX0 166 Lib.Math.abs.name, Cond.static Lib.Math.abs.name, Cond.initialized "java/lang/Math", Cond.code Lib.Math.abs.name Lib.Math.abs.code 1 (some .int), Cond.methodLink RX0 171 Lib.Math.min.name, Cond.static Lib.Math.min.name, Cond.code Lib.Math.min.name Lib.Math.min.code 2 (some .int)]
def wsL_costOfMeeting : List Cond := .codeWith yL_costOfMeeting cL_costOfMeeting 5 (some .int) [(0, 10, 13, 21), (0, 10, 17, 13)] :: ((wsL_costOfMeeting_r1 ++ wsL_costOfMeeting_r2) ++ wsX00 ++ (vx_atS RX0 55 "java/lang/IllegalArgumentException" ["java/lang/RuntimeException", "java/lang/Exception"]).filter goodWord ++ (vx_atS RX0 161 "java/lang/IndexOutOfBoundsException" ["java/lang/RuntimeException", "java/lang/Exception"]).filter goodWord)
def wsL_bestCorner_r1 : List Cond := [Cond.classLink RL 21 "java/lang/IndexOutOfBoundsException", Cond.methodLink RL 79 yX0_bestCorner, Cond.instanceMethod yX0_bestCorner, Cond.selects RX0 yX0_bestCorner yX0_bestCorner, Cond.initialized RX0, Cond.code yX0_bestCorner cX0_bestCorner 6 (some .int), Cond.fieldLink RX0 9 "TicketCoincidences" "tickets" "[I", Cond.methodLink RX0 63 yX0_requireStranger, Cond.instanceMethod yX0_requireStranger, Cond.selects RX0 yX0_requireStranger yX0_requireStranger, Cond.code yX0_requireStranger cX0_requireStranger 2 none, Cond.classLink RX0 157 "java/lang/IndexOutOfBoundsException", Cond.initialized "java/lang/IndexOutOfBoundsException", Cond.fieldLink RX0 22 "TicketCoincidences" "people" "I", Cond.methodLink RX0 122 yX0_luckWith, Cond.instanceMethod yX0_luckWith, Cond.selects RX0 yX0_luckWith yX0_luckWith, Cond.code yX0_luckWith cX0_luckWith 6 (some .int), Cond.fieldLink RX0 16 "TicketCoincidences" "corners" "[I", Cond.fieldLink RX0 13 "TicketCoincidences" "colours" "[I", Cond.methodLink RX0 180 yX0_pointsOfTickets, Cond.static yX0_pointsOfTickets, Cond.code yX0_pointsOfTickets cX0_pointsOfTickets 3 (some .int), Cond.methodLink RX0 166 Lib.Math.abs.name]
def wsL_bestCorner_r2 : List Cond := [Cond.static Lib.Math.abs.name, Cond.initialized "java/lang/Math", Cond.code Lib.Math.abs.name Lib.Math.abs.code 1 (some .int), Cond.methodLink RX0 177 yX0_figureSum, Cond.static yX0_figureSum, Cond.code yX0_figureSum cX0_figureSum 1 (some .int), Cond.methodLink RX0 110 yX0_mirrored, Cond.static yX0_mirrored, Cond.code yX0_mirrored cX0_mirrored 2 (some .boolean), Cond.methodLink RX0 183 yX0_pointsOfColours, Cond.static yX0_pointsOfColours, Cond.code yX0_pointsOfColours cX0_pointsOfColours 2 (some .int)]
def wsL_bestCorner : List Cond := .codeWith yL_bestCorner cL_bestCorner 4 (some .int) [(0, 9, 12, 21)] :: ((wsL_bestCorner_r1 ++ wsL_bestCorner_r2) ++ wsX00 ++ (vx_atS RX0 161 "java/lang/IndexOutOfBoundsException" ["java/lang/RuntimeException", "java/lang/Exception"]).filter goodWord)
def wsL_bestTicket_r1 : List Cond := [Cond.classLink RL 21 "java/lang/IndexOutOfBoundsException", Cond.methodLink RL 82 yX0_bestTicket, Cond.instanceMethod yX0_bestTicket, Cond.selects RX0 yX0_bestTicket yX0_bestTicket, Cond.initialized RX0, Cond.code yX0_bestTicket cX0_bestTicket 6 (some .int), Cond.fieldLink RX0 16 "TicketCoincidences" "corners" "[I", Cond.methodLink RX0 63 yX0_requireStranger, Cond.instanceMethod yX0_requireStranger, Cond.selects RX0 yX0_requireStranger yX0_requireStranger, Cond.code yX0_requireStranger cX0_requireStranger 2 none, Cond.classLink RX0 157 "java/lang/IndexOutOfBoundsException", Cond.initialized "java/lang/IndexOutOfBoundsException", Cond.fieldLink RX0 22 "TicketCoincidences" "people" "I", Cond.methodLink RX0 122 yX0_luckWith, Cond.instanceMethod yX0_luckWith, Cond.selects RX0 yX0_luckWith yX0_luckWith, Cond.code yX0_luckWith cX0_luckWith 6 (some .int), Cond.fieldLink RX0 9 "TicketCoincidences" "tickets" "[I", Cond.fieldLink RX0 13 "TicketCoincidences" "colours" "[I", Cond.methodLink RX0 180 yX0_pointsOfTickets, Cond.static yX0_pointsOfTickets, Cond.code yX0_pointsOfTickets cX0_pointsOfTickets 3 (some .int), Cond.methodLink RX0 166 Lib.Math.abs.name]
def wsL_bestTicket_r2 : List Cond := [Cond.static Lib.Math.abs.name, Cond.initialized "java/lang/Math", Cond.code Lib.Math.abs.name Lib.Math.abs.code 1 (some .int), Cond.methodLink RX0 177 yX0_figureSum, Cond.static yX0_figureSum, Cond.code yX0_figureSum cX0_figureSum 1 (some .int), Cond.methodLink RX0 110 yX0_mirrored, Cond.static yX0_mirrored, Cond.code yX0_mirrored cX0_mirrored 2 (some .boolean), Cond.methodLink RX0 183 yX0_pointsOfColours, Cond.static yX0_pointsOfColours, Cond.code yX0_pointsOfColours cX0_pointsOfColours 2 (some .int)]
def wsL_bestTicket : List Cond := .codeWith yL_bestTicket cL_bestTicket 4 (some .int) [(0, 9, 12, 21)] :: ((wsL_bestTicket_r1 ++ wsL_bestTicket_r2) ++ wsX00 ++ (vx_atS RX0 161 "java/lang/IndexOutOfBoundsException" ["java/lang/RuntimeException", "java/lang/Exception"]).filter goodWord)
def wsL_law0_r1 : List Cond := [Cond.classLink RL 8 RX0, Cond.instantiable RX0 9, Cond.initialized RX0, Cond.classLink RL 86 RX1, Cond.instantiable RX1 10, Cond.initialized RX1, Cond.arrayClass .long, Cond.methodLink RL 85 yX0_init, Cond.instanceMethod yX0_init, Cond.code yX0_init cX0_init 1 none, Cond.methodLink RX0 1 objectInit, Cond.instanceMethod objectInit, Cond.code objectInit ⟨#[0xb1]⟩ 1 none, Cond.arrayClass .int, Cond.fieldLink RX0 9 "TicketCoincidences" "tickets" "[I", Cond.fieldLink RX0 13 "TicketCoincidences" "colours" "[I", Cond.fieldLink RX0 16 "TicketCoincidences" "corners" "[I", Cond.fieldLink RX0 19 "TicketCoincidences" "walks" "[I", Cond.fieldLink RX0 22 "TicketCoincidences" "people" "I", Cond.fieldLink RX0 26 "TicketCoincidences" "hourNow" "I", Cond.fieldLink RX0 29 "TicketCoincidences" "inStore" "I", Cond.fieldLink RX0 32 "TicketCoincidences" "countedInAll" "I", Cond.fieldLink RX0 35 "TicketCoincidences" "spentInAll" "I", Cond.methodLink RL 88 yX1_init]
def wsL_law0_r2 : List Cond := [Cond.instanceMethod yX1_init, Cond.code yX1_init cX1_init 1 none, Cond.methodLink RX1 1 objectInit, Cond.fieldLink RX1 9 "TicketCoincidencesModel" "ticket" "[I", Cond.fieldLink RX1 13 "TicketCoincidencesModel" "colour" "[I", Cond.fieldLink RX1 16 "TicketCoincidencesModel" "corner" "[I", Cond.fieldLink RX1 19 "TicketCoincidencesModel" "walk" "[I", Cond.fieldLink RX1 22 "TicketCoincidencesModel" "store" "I", Cond.methodLink RL 89 yL_addStranger, Cond.static yL_addStranger, Cond.initialized RL, Cond.codeWith yL_addStranger cL_addStranger 7 (some .int) [(0, 14, 17, 13), (0, 14, 21, 15)], Cond.classLink RL 13 "java/lang/IllegalArgumentException", Cond.classLink RL 15 "java/lang/IllegalStateException", Cond.methodLink RL 7 yX0_addStranger, Cond.instanceMethod yX0_addStranger, Cond.selects RX0 yX0_addStranger yX0_addStranger, Cond.code yX0_addStranger cX0_addStranger 6 (some .int), Cond.classLink RX0 51 "java/lang/IllegalArgumentException", Cond.initialized "java/lang/IllegalArgumentException", Cond.classLink RX0 58 "java/lang/IllegalStateException", Cond.initialized "java/lang/IllegalStateException", Cond.methodLink RX0 38 yX0_isTicket, Cond.static yX0_isTicket]
def wsL_law0_r3 : List Cond := [Cond.code yX0_isTicket cX0_isTicket 1 (some .boolean), Cond.methodLink RX0 42 yX0_isColour, Cond.static yX0_isColour, Cond.code yX0_isColour cX0_isColour 1 (some .boolean), Cond.methodLink RX0 45 yX0_isCorner, Cond.static yX0_isCorner, Cond.code yX0_isCorner cX0_isCorner 1 (some .boolean), Cond.methodLink RX0 48 yX0_isWalk, Cond.static yX0_isWalk, Cond.code yX0_isWalk cX0_isWalk 1 (some .boolean), Cond.methodLink RL 94 yX1_addStranger, Cond.instanceMethod yX1_addStranger, Cond.selects RX1 yX1_addStranger yX1_addStranger, Cond.code yX1_addStranger cX1_addStranger 5 (some .int), Cond.fieldLink RX1 26 "TicketCoincidencesModel" "thrown" "I", Cond.fieldLink RX1 29 "TicketCoincidencesModel" "people" "I", Cond.methodLink RX1 32 yX1_isIn, Cond.static yX1_isIn, Cond.code yX1_isIn cX1_isIn 3 (some .boolean), Cond.methodLink RX1 59 yX1_isCorner, Cond.static yX1_isCorner, Cond.code yX1_isCorner cX1_isCorner 1 (some .boolean), Cond.methodLink RX1 63 yX1_no, Cond.instanceMethod yX1_no]
def wsL_law0_r4 : List Cond := [Cond.selects RX1 yX1_no yX1_no, Cond.code yX1_no cX1_no 2 (some .int), Cond.methodLink RL 95 yX1_thrown, Cond.instanceMethod yX1_thrown, Cond.selects RX1 yX1_thrown yX1_thrown, Cond.code yX1_thrown cX1_thrown 1 (some .int), Cond.methodLink RL 99 yL_setWalk, Cond.static yL_setWalk, Cond.codeWith yL_setWalk cL_setWalk 5 (some .int) [(0, 10, 13, 21), (0, 10, 17, 13)], Cond.classLink RL 21 "java/lang/IndexOutOfBoundsException", Cond.methodLink RL 17 yX0_setWalk, Cond.instanceMethod yX0_setWalk, Cond.selects RX0 yX0_setWalk yX0_setWalk, Cond.code yX0_setWalk cX0_setWalk 4 (some .int), Cond.methodLink RX0 63 yX0_requireStranger, Cond.instanceMethod yX0_requireStranger, Cond.selects RX0 yX0_requireStranger yX0_requireStranger, Cond.code yX0_requireStranger cX0_requireStranger 2 none, Cond.classLink RX0 157 "java/lang/IndexOutOfBoundsException", Cond.initialized "java/lang/IndexOutOfBoundsException", Cond.methodLink RL 102 yX1_setWalk, Cond.instanceMethod yX1_setWalk, Cond.selects RX1 yX1_setWalk yX1_setWalk, Cond.code yX1_setWalk cX1_setWalk 4 (some .int)]
def wsL_law0_r5 : List Cond := [Cond.methodLink RX1 66 yX1_isOne, Cond.instanceMethod yX1_isOne, Cond.selects RX1 yX1_isOne yX1_isOne, Cond.code yX1_isOne cX1_isOne 2 (some .boolean), Cond.methodLink RL 103 yL_move, Cond.static yL_move, Cond.codeWith yL_move cL_move 5 (some .int) [(0, 10, 13, 21), (0, 10, 17, 13), (0, 10, 21, 15)], Cond.methodLink RL 23 yX0_move, Cond.instanceMethod yX0_move, Cond.selects RX0 yX0_move yX0_move, Cond.code yX0_move cX0_move 4 (some .int), Cond.methodLink RX0 73 yX0_costOfWay, Cond.static yX0_costOfWay, Cond.code yX0_costOfWay cX0_costOfWay 3 (some .int), Cond.methodLink RX0 166 Lib.Math.abs.name, Cond.static Lib.Math.abs.name, Cond.initialized "java/lang/Math", Cond.code Lib.Math.abs.name Lib.Math.abs.code 1 (some .int), Cond.methodLink RX0 171 Lib.Math.min.name, Cond.static Lib.Math.min.name, Cond.code Lib.Math.min.name Lib.Math.min.code 2 (some .int), Cond.methodLink RX0 77 yX0_pay, Cond.instanceMethod yX0_pay, Cond.selects RX0 yX0_pay yX0_pay]
def wsL_law0_r6 : List Cond := [Cond.code yX0_pay cX0_pay 2 none, Cond.methodLink RL 105 yX1_move, Cond.instanceMethod yX1_move, Cond.selects RX1 yX1_move yX1_move, Cond.code yX1_move cX1_move 4 (some .int), Cond.methodLink RX1 72 yX1_apart, Cond.static yX1_apart, Cond.code yX1_apart cX1_apart 3 (some .int), Cond.methodLink RX1 50 Lib.Math.abs.name, Cond.methodLink RX1 56 Lib.Math.min.name, Cond.methodLink RX1 75 yX1_pay, Cond.instanceMethod yX1_pay, Cond.selects RX1 yX1_pay yX1_pay, Cond.code yX1_pay cX1_pay 2 (some .int), Cond.fieldLink RX1 69 "TicketCoincidencesModel" "spent" "I", Cond.methodLink RL 106 yL_swapUmbrellas, Cond.static yL_swapUmbrellas, Cond.codeWith yL_swapUmbrellas cL_swapUmbrellas 5 (some .int) [(0, 10, 13, 21), (0, 10, 17, 13), (0, 10, 21, 15)], Cond.methodLink RL 26 yX0_swapUmbrellas, Cond.instanceMethod yX0_swapUmbrellas, Cond.selects RX0 yX0_swapUmbrellas yX0_swapUmbrellas, Cond.code yX0_swapUmbrellas cX0_swapUmbrellas 4 (some .int), Cond.methodLink RX0 80 yX0_requirePair, Cond.instanceMethod yX0_requirePair]
def wsL_law0_r7 : List Cond := [Cond.selects RX0 yX0_requirePair yX0_requirePair, Cond.code yX0_requirePair cX0_requirePair 3 none, Cond.methodLink RX0 86 yX0_townBehind, Cond.instanceMethod yX0_townBehind, Cond.selects RX0 yX0_townBehind yX0_townBehind, Cond.code yX0_townBehind cX0_townBehind 5 (some .int), Cond.methodLink RX0 119 yX0_cornerBehind, Cond.instanceMethod yX0_cornerBehind, Cond.selects RX0 yX0_cornerBehind yX0_cornerBehind, Cond.code yX0_cornerBehind cX0_cornerBehind 3 (some .int), Cond.methodLink RX0 107 yX0_pointsOfPair, Cond.instanceMethod yX0_pointsOfPair, Cond.selects RX0 yX0_pointsOfPair yX0_pointsOfPair, Cond.code yX0_pointsOfPair cX0_pointsOfPair 3 (some .int), Cond.methodLink RX0 180 yX0_pointsOfTickets, Cond.static yX0_pointsOfTickets, Cond.code yX0_pointsOfTickets cX0_pointsOfTickets 3 (some .int), Cond.methodLink RX0 177 yX0_figureSum, Cond.static yX0_figureSum, Cond.code yX0_figureSum cX0_figureSum 1 (some .int), Cond.methodLink RX0 110 yX0_mirrored, Cond.static yX0_mirrored, Cond.code yX0_mirrored cX0_mirrored 2 (some .boolean), Cond.methodLink RX0 183 yX0_pointsOfColours]
def wsL_law0_r8 : List Cond := [Cond.static yX0_pointsOfColours, Cond.code yX0_pointsOfColours cX0_pointsOfColours 2 (some .int), Cond.methodLink RX0 90 yX0_exchange, Cond.static yX0_exchange, Cond.code yX0_exchange cX0_exchange 4 none, Cond.methodLink RL 108 yX1_swapUmbrellas, Cond.instanceMethod yX1_swapUmbrellas, Cond.selects RX1 yX1_swapUmbrellas yX1_swapUmbrellas, Cond.code yX1_swapUmbrellas cX1_swapUmbrellas 3 (some .int), Cond.methodLink RX1 86 yX1_wrongPair, Cond.instanceMethod yX1_wrongPair, Cond.selects RX1 yX1_wrongPair yX1_wrongPair, Cond.code yX1_wrongPair cX1_wrongPair 3 (some .int), Cond.methodLink RX1 89 yX1_swapped, Cond.instanceMethod yX1_swapped, Cond.selects RX1 yX1_swapped yX1_swapped, Cond.code yX1_swapped cX1_swapped 5 (some .int), Cond.methodLink RX1 78 yX1_here, Cond.instanceMethod yX1_here, Cond.selects RX1 yX1_here yX1_here, Cond.code yX1_here cX1_here 1 (some .int), Cond.methodLink RX1 47 yX1_town, Cond.instanceMethod yX1_town, Cond.selects RX1 yX1_town yX1_town]
def wsL_law0_r9 : List Cond := [Cond.code yX1_town cX1_town 6 (some .int), Cond.methodLink RX1 40 yX1_cornerIn, Cond.instanceMethod yX1_cornerIn, Cond.selects RX1 yX1_cornerIn yX1_cornerIn, Cond.code yX1_cornerIn cX1_cornerIn 3 (some .int), Cond.methodLink RX1 44 yX1_points, Cond.instanceMethod yX1_points, Cond.selects RX1 yX1_points yX1_points, Cond.code yX1_points cX1_points 6 (some .int), Cond.methodLink RX1 36 yX1_isMirror, Cond.static yX1_isMirror, Cond.code yX1_isMirror cX1_isMirror 2 (some .boolean), Cond.methodLink RX1 82 yX1_swap, Cond.static yX1_swap, Cond.code yX1_swap cX1_swap 4 none, Cond.methodLink RL 109 yL_swapTickets, Cond.static yL_swapTickets, Cond.codeWith yL_swapTickets cL_swapTickets 5 (some .int) [(0, 10, 13, 21), (0, 10, 17, 13), (0, 10, 21, 15)], Cond.methodLink RL 29 yX0_swapTickets, Cond.instanceMethod yX0_swapTickets, Cond.selects RX0 yX0_swapTickets yX0_swapTickets, Cond.code yX0_swapTickets cX0_swapTickets 4 (some .int), Cond.methodLink RL 111 yX1_swapTickets, Cond.instanceMethod yX1_swapTickets]
def wsL_law0_r10 : List Cond := [Cond.selects RX1 yX1_swapTickets yX1_swapTickets, Cond.code yX1_swapTickets cX1_swapTickets 3 (some .int), Cond.methodLink RL 112 yL_draw, Cond.static yL_draw, Cond.codeWith yL_draw cL_draw 5 (some .int) [(0, 10, 13, 21), (0, 10, 17, 13), (0, 10, 21, 15)], Cond.methodLink RL 32 yX0_draw, Cond.instanceMethod yX0_draw, Cond.selects RX0 yX0_draw yX0_draw, Cond.code yX0_draw cX0_draw 4 (some .int), Cond.methodLink RL 114 yX1_draw, Cond.instanceMethod yX1_draw, Cond.selects RX1 yX1_draw yX1_draw, Cond.code yX1_draw cX1_draw 4 (some .int), Cond.methodLink RL 115 yL_pass, Cond.static yL_pass, Cond.codeWith yL_pass cL_pass 4 (some .int) [(0, 9, 12, 13)], Cond.methodLink RL 35 yX0_pass, Cond.instanceMethod yX0_pass, Cond.selects RX0 yX0_pass yX0_pass, Cond.code yX0_pass cX0_pass 4 (some .int), Cond.methodLink RX0 98 yX0_passOneHour, Cond.instanceMethod yX0_passOneHour, Cond.selects RX0 yX0_passOneHour yX0_passOneHour, Cond.code yX0_passOneHour cX0_passOneHour 2 none]
def wsL_law0_r11 : List Cond := [Cond.methodLink RX0 174 yX0_emptyCorners, Cond.instanceMethod yX0_emptyCorners, Cond.selects RX0 yX0_emptyCorners yX0_emptyCorners, Cond.code yX0_emptyCorners cX0_emptyCorners 3 (some .int), Cond.methodLink RX0 104 yX0_crowdAt, Cond.instanceMethod yX0_crowdAt, Cond.selects RX0 yX0_crowdAt yX0_crowdAt, Cond.code yX0_crowdAt cX0_crowdAt 4 (some .int), Cond.methodLink RL 118 yX1_pass, Cond.instanceMethod yX1_pass, Cond.selects RX1 yX1_pass yX1_pass, Cond.code yX1_pass cX1_pass 4 (some .int), Cond.fieldLink RX1 93 "TicketCoincidencesModel" "counted" "I", Cond.methodLink RX1 102 yX1_goOn, Cond.instanceMethod yX1_goOn, Cond.selects RX1 yX1_goOn yX1_goOn, Cond.code yX1_goOn cX1_goOn 2 none, Cond.fieldLink RX1 99 "TicketCoincidencesModel" "hour" "I", Cond.methodLink RX1 96 yX1_at, Cond.instanceMethod yX1_at, Cond.selects RX1 yX1_at yX1_at, Cond.code yX1_at cX1_at 4 (some .int), Cond.methodLink RL 119 yX0_strangers, Cond.instanceMethod yX0_strangers]
def wsL_law0_r12 : List Cond := [Cond.selects RX0 yX0_strangers yX0_strangers, Cond.code yX0_strangers cX0_strangers 1 (some .int), Cond.methodLink RL 122 yX1_strangers, Cond.instanceMethod yX1_strangers, Cond.selects RX1 yX1_strangers yX1_strangers, Cond.code yX1_strangers cX1_strangers 1 (some .int), Cond.methodLink RX1 105 yX1_ok, Cond.instanceMethod yX1_ok, Cond.selects RX1 yX1_ok yX1_ok, Cond.code yX1_ok cX1_ok 2 (some .int), Cond.methodLink RL 123 yX0_hour, Cond.instanceMethod yX0_hour, Cond.selects RX0 yX0_hour yX0_hour, Cond.code yX0_hour cX0_hour 1 (some .int), Cond.methodLink RL 126 yX1_hour, Cond.instanceMethod yX1_hour, Cond.selects RX1 yX1_hour yX1_hour, Cond.code yX1_hour cX1_hour 1 (some .int), Cond.methodLink RL 127 yX0_store, Cond.instanceMethod yX0_store, Cond.selects RX0 yX0_store yX0_store, Cond.code yX0_store cX0_store 1 (some .int), Cond.methodLink RL 130 yX1_store, Cond.instanceMethod yX1_store]
def wsL_law0_r13 : List Cond := [Cond.selects RX1 yX1_store yX1_store, Cond.code yX1_store cX1_store 1 (some .int), Cond.methodLink RL 131 yX0_counted, Cond.instanceMethod yX0_counted, Cond.selects RX0 yX0_counted yX0_counted, Cond.code yX0_counted cX0_counted 1 (some .int), Cond.methodLink RL 134 yX1_counted, Cond.instanceMethod yX1_counted, Cond.selects RX1 yX1_counted yX1_counted, Cond.code yX1_counted cX1_counted 1 (some .int), Cond.methodLink RL 135 yX0_spent, Cond.instanceMethod yX0_spent, Cond.selects RX0 yX0_spent yX0_spent, Cond.code yX0_spent cX0_spent 1 (some .int), Cond.methodLink RL 138 yX1_spent, Cond.instanceMethod yX1_spent, Cond.selects RX1 yX1_spent yX1_spent, Cond.code yX1_spent cX1_spent 1 (some .int), Cond.methodLink RL 139 yL_ticketOf, Cond.static yL_ticketOf, Cond.codeWith yL_ticketOf cL_ticketOf 4 (some .int) [(0, 9, 12, 21)], Cond.methodLink RL 39 yX0_ticketOf, Cond.instanceMethod yX0_ticketOf, Cond.selects RX0 yX0_ticketOf yX0_ticketOf]
def wsL_law0_r14 : List Cond := [Cond.code yX0_ticketOf cX0_ticketOf 2 (some .int), Cond.methodLink RL 141 yX1_ticketOf, Cond.instanceMethod yX1_ticketOf, Cond.selects RX1 yX1_ticketOf yX1_ticketOf, Cond.code yX1_ticketOf cX1_ticketOf 2 (some .int), Cond.methodLink RX1 108 yX1_of, Cond.instanceMethod yX1_of, Cond.selects RX1 yX1_of yX1_of, Cond.code yX1_of cX1_of 3 (some .int), Cond.methodLink RL 142 yL_colourOf, Cond.static yL_colourOf, Cond.codeWith yL_colourOf cL_colourOf 4 (some .int) [(0, 9, 12, 21)], Cond.methodLink RL 42 yX0_colourOf, Cond.instanceMethod yX0_colourOf, Cond.selects RX0 yX0_colourOf yX0_colourOf, Cond.code yX0_colourOf cX0_colourOf 2 (some .int), Cond.methodLink RL 144 yX1_colourOf, Cond.instanceMethod yX1_colourOf, Cond.selects RX1 yX1_colourOf yX1_colourOf, Cond.code yX1_colourOf cX1_colourOf 2 (some .int), Cond.methodLink RL 145 yL_cornerOf, Cond.static yL_cornerOf, Cond.codeWith yL_cornerOf cL_cornerOf 4 (some .int) [(0, 9, 12, 21)], Cond.methodLink RL 45 yX0_cornerOf]
def wsL_law0_r15 : List Cond := [Cond.instanceMethod yX0_cornerOf, Cond.selects RX0 yX0_cornerOf yX0_cornerOf, Cond.code yX0_cornerOf cX0_cornerOf 2 (some .int), Cond.methodLink RL 147 yX1_cornerOf, Cond.instanceMethod yX1_cornerOf, Cond.selects RX1 yX1_cornerOf yX1_cornerOf, Cond.code yX1_cornerOf cX1_cornerOf 2 (some .int), Cond.methodLink RL 148 yL_walkOf, Cond.static yL_walkOf, Cond.codeWith yL_walkOf cL_walkOf 4 (some .int) [(0, 9, 12, 21)], Cond.methodLink RL 48 yX0_walkOf, Cond.instanceMethod yX0_walkOf, Cond.selects RX0 yX0_walkOf yX0_walkOf, Cond.code yX0_walkOf cX0_walkOf 2 (some .int), Cond.methodLink RL 150 yX1_walkOf, Cond.instanceMethod yX1_walkOf, Cond.selects RX1 yX1_walkOf yX1_walkOf, Cond.code yX1_walkOf cX1_walkOf 2 (some .int), Cond.methodLink RL 151 yL_peopleAt, Cond.static yL_peopleAt, Cond.codeWith yL_peopleAt cL_peopleAt 4 (some .int) [(0, 9, 12, 21)], Cond.methodLink RL 51 yX0_peopleAt, Cond.instanceMethod yX0_peopleAt, Cond.selects RX0 yX0_peopleAt yX0_peopleAt]
def wsL_law0_r16 : List Cond := [Cond.code yX0_peopleAt cX0_peopleAt 2 (some .int), Cond.methodLink RX0 101 yX0_requireCorner, Cond.static yX0_requireCorner, Cond.code yX0_requireCorner cX0_requireCorner 1 none, Cond.methodLink RL 153 yX1_peopleAt, Cond.instanceMethod yX1_peopleAt, Cond.selects RX1 yX1_peopleAt yX1_peopleAt, Cond.code yX1_peopleAt cX1_peopleAt 2 (some .int), Cond.methodLink RL 154 yL_pointsOf, Cond.static yL_pointsOf, Cond.codeWith yL_pointsOf cL_pointsOf 5 (some .int) [(0, 10, 13, 21), (0, 10, 17, 13)], Cond.methodLink RL 54 yX0_pointsOf, Cond.instanceMethod yX0_pointsOf, Cond.selects RX0 yX0_pointsOf yX0_pointsOf, Cond.code yX0_pointsOf cX0_pointsOf 3 (some .int), Cond.methodLink RL 156 yX1_pointsOf, Cond.instanceMethod yX1_pointsOf, Cond.selects RX1 yX1_pointsOf yX1_pointsOf, Cond.code yX1_pointsOf cX1_pointsOf 3 (some .int), Cond.methodLink RL 157 yL_areTogether, Cond.static yL_areTogether, Cond.codeWith yL_areTogether cL_areTogether 5 (some .int) [(0, 17, 20, 21), (0, 17, 24, 13)], Cond.methodLink RL 57 yX0_areTogether, Cond.instanceMethod yX0_areTogether]
def wsL_law0_r17 : List Cond := [Cond.selects RX0 yX0_areTogether yX0_areTogether, Cond.code yX0_areTogether cX0_areTogether 3 (some .boolean), Cond.methodLink RL 159 yX1_areTogether, Cond.instanceMethod yX1_areTogether, Cond.selects RX1 yX1_areTogether yX1_areTogether, Cond.code yX1_areTogether cX1_areTogether 3 (some .boolean), Cond.methodLink RL 160 yL_areMirrored, Cond.static yL_areMirrored, Cond.codeWith yL_areMirrored cL_areMirrored 5 (some .int) [(0, 17, 20, 21), (0, 17, 24, 13)], Cond.methodLink RL 61 yX0_areMirrored, Cond.instanceMethod yX0_areMirrored, Cond.selects RX0 yX0_areMirrored yX0_areMirrored, Cond.code yX0_areMirrored cX0_areMirrored 3 (some .boolean), Cond.methodLink RL 162 yX1_areMirrored, Cond.instanceMethod yX1_areMirrored, Cond.selects RX1 yX1_areMirrored yX1_areMirrored, Cond.code yX1_areMirrored cX1_areMirrored 3 (some .boolean), Cond.methodLink RL 163 yX0_coincidences, Cond.instanceMethod yX0_coincidences, Cond.selects RX0 yX0_coincidences yX0_coincidences, Cond.code yX0_coincidences cX0_coincidences 1 (some .int), Cond.methodLink RL 166 yX1_coincidences, Cond.instanceMethod yX1_coincidences, Cond.selects RX1 yX1_coincidences yX1_coincidences]
def wsL_law0_r18 : List Cond := [Cond.code yX1_coincidences cX1_coincidences 1 (some .int), Cond.methodLink RL 167 yL_coincidencesAt, Cond.static yL_coincidencesAt, Cond.codeWith yL_coincidencesAt cL_coincidencesAt 4 (some .int) [(0, 9, 12, 21)], Cond.methodLink RL 64 yX0_coincidencesAt, Cond.instanceMethod yX0_coincidencesAt, Cond.selects RX0 yX0_coincidencesAt yX0_coincidencesAt, Cond.code yX0_coincidencesAt cX0_coincidencesAt 5 (some .int), Cond.methodLink RL 169 yX1_coincidencesAt, Cond.instanceMethod yX1_coincidencesAt, Cond.selects RX1 yX1_coincidencesAt yX1_coincidencesAt, Cond.code yX1_coincidencesAt cX1_coincidencesAt 2 (some .int), Cond.methodLink RL 170 yL_luckOf, Cond.static yL_luckOf, Cond.codeWith yL_luckOf cL_luckOf 4 (some .int) [(0, 9, 12, 21)], Cond.methodLink RL 67 yX0_luckOf, Cond.instanceMethod yX0_luckOf, Cond.selects RX0 yX0_luckOf yX0_luckOf, Cond.code yX0_luckOf cX0_luckOf 2 (some .int), Cond.methodLink RX0 114 yX0_luckNow, Cond.instanceMethod yX0_luckNow, Cond.selects RX0 yX0_luckNow yX0_luckNow, Cond.code yX0_luckNow cX0_luckNow 2 (some .int), Cond.methodLink RX0 122 yX0_luckWith]
def wsL_law0_r19 : List Cond := [Cond.instanceMethod yX0_luckWith, Cond.selects RX0 yX0_luckWith yX0_luckWith, Cond.code yX0_luckWith cX0_luckWith 6 (some .int), Cond.methodLink RL 172 yX1_luckOf, Cond.instanceMethod yX1_luckOf, Cond.selects RX1 yX1_luckOf yX1_luckOf, Cond.code yX1_luckOf cX1_luckOf 2 (some .int), Cond.methodLink RX1 112 yX1_luck, Cond.instanceMethod yX1_luck, Cond.selects RX1 yX1_luck yX1_luck, Cond.code yX1_luck cX1_luck 4 (some .int), Cond.methodLink RL 173 yX0_luckiestPair, Cond.instanceMethod yX0_luckiestPair, Cond.selects RX0 yX0_luckiestPair yX0_luckiestPair, Cond.code yX0_luckiestPair cX0_luckiestPair 6 (some .int), Cond.methodLink RL 176 yX1_luckiestPair, Cond.instanceMethod yX1_luckiestPair, Cond.selects RX1 yX1_luckiestPair yX1_luckiestPair, Cond.code yX1_luckiestPair cX1_luckiestPair 1 (some .int), Cond.methodLink RX1 115 yX1_luckiest, Cond.instanceMethod yX1_luckiest, Cond.selects RX1 yX1_luckiest yX1_luckiest, Cond.code yX1_luckiest cX1_luckiest 5 (some .int), Cond.methodLink RL 177 yL_coincidencesIn]
def wsL_law0_r20 : List Cond := [Cond.static yL_coincidencesIn, Cond.codeWith yL_coincidencesIn cL_coincidencesIn 4 (some .int) [(0, 9, 12, 13)], Cond.methodLink RL 70 yX0_coincidencesIn, Cond.instanceMethod yX0_coincidencesIn, Cond.selects RX0 yX0_coincidencesIn yX0_coincidencesIn, Cond.code yX0_coincidencesIn cX0_coincidencesIn 2 (some .int), Cond.methodLink RL 179 yX1_coincidencesIn, Cond.instanceMethod yX1_coincidencesIn, Cond.selects RX1 yX1_coincidencesIn yX1_coincidencesIn, Cond.code yX1_coincidencesIn cX1_coincidencesIn 2 (some .int), Cond.methodLink RL 180 yL_hoursUntilTogether, Cond.static yL_hoursUntilTogether, Cond.codeWith yL_hoursUntilTogether cL_hoursUntilTogether 5 (some .int) [(0, 10, 13, 21), (0, 10, 17, 13)], Cond.methodLink RL 73 yX0_hoursUntilTogether, Cond.instanceMethod yX0_hoursUntilTogether, Cond.selects RX0 yX0_hoursUntilTogether yX0_hoursUntilTogether, Cond.code yX0_hoursUntilTogether cX0_hoursUntilTogether 4 (some .int), Cond.methodLink RL 182 yX1_hoursUntilTogether, Cond.instanceMethod yX1_hoursUntilTogether, Cond.selects RX1 yX1_hoursUntilTogether yX1_hoursUntilTogether, Cond.code yX1_hoursUntilTogether cX1_hoursUntilTogether 3 (some .int), Cond.methodLink RX1 118 yX1_untilTogether, Cond.instanceMethod yX1_untilTogether, Cond.selects RX1 yX1_untilTogether yX1_untilTogether]
def wsL_law0_r21 : List Cond := [Cond.code yX1_untilTogether cX1_untilTogether 4 (some .int), Cond.methodLink RL 183 yL_costOfMeeting, Cond.static yL_costOfMeeting, Cond.codeWith yL_costOfMeeting cL_costOfMeeting 5 (some .int) [(0, 10, 13, 21), (0, 10, 17, 13)], Cond.methodLink RL 76 yX0_costOfMeeting, Cond.instanceMethod yX0_costOfMeeting, Cond.selects RX0 yX0_costOfMeeting yX0_costOfMeeting, Cond.code yX0_costOfMeeting cX0_costOfMeeting 3 (some .int), Cond.methodLink RL 185 yX1_costOfMeeting, Cond.instanceMethod yX1_costOfMeeting, Cond.selects RX1 yX1_costOfMeeting yX1_costOfMeeting, Cond.code yX1_costOfMeeting cX1_costOfMeeting 3 (some .int), Cond.methodLink RL 186 yX0_bestHour, Cond.instanceMethod yX0_bestHour, Cond.selects RX0 yX0_bestHour yX0_bestHour, Cond.code yX0_bestHour cX0_bestHour 5 (some .int), Cond.methodLink RL 189 yX1_bestHour, Cond.instanceMethod yX1_bestHour, Cond.selects RX1 yX1_bestHour yX1_bestHour, Cond.code yX1_bestHour cX1_bestHour 1 (some .int), Cond.methodLink RX1 121 yX1_hourOfMost, Cond.instanceMethod yX1_hourOfMost, Cond.selects RX1 yX1_hourOfMost yX1_hourOfMost, Cond.code yX1_hourOfMost cX1_hourOfMost 3 (some .int)]
def wsL_law0_r22 : List Cond := [Cond.methodLink RL 190 yL_bestCorner, Cond.static yL_bestCorner, Cond.codeWith yL_bestCorner cL_bestCorner 4 (some .int) [(0, 9, 12, 21)], Cond.methodLink RL 79 yX0_bestCorner, Cond.instanceMethod yX0_bestCorner, Cond.selects RX0 yX0_bestCorner yX0_bestCorner, Cond.code yX0_bestCorner cX0_bestCorner 6 (some .int), Cond.methodLink RL 192 yX1_bestCorner, Cond.instanceMethod yX1_bestCorner, Cond.selects RX1 yX1_bestCorner yX1_bestCorner, Cond.code yX1_bestCorner cX1_bestCorner 2 (some .int), Cond.methodLink RX1 124 yX1_bestOf, Cond.instanceMethod yX1_bestOf, Cond.selects RX1 yX1_bestOf yX1_bestOf, Cond.code yX1_bestOf cX1_bestOf 9 (some .int), Cond.methodLink RL 193 yX0_bestSwap, Cond.instanceMethod yX0_bestSwap, Cond.selects RX0 yX0_bestSwap yX0_bestSwap, Cond.code yX0_bestSwap cX0_bestSwap 6 (some .int), Cond.methodLink RX0 126 yX0_townIfSwapped, Cond.instanceMethod yX0_townIfSwapped, Cond.selects RX0 yX0_townIfSwapped yX0_townIfSwapped, Cond.code yX0_townIfSwapped cX0_townIfSwapped 4 (some .int), Cond.methodLink RL 196 yX1_bestSwap]
def wsL_law0_r23 : List Cond := [Cond.instanceMethod yX1_bestSwap, Cond.selects RX1 yX1_bestSwap yX1_bestSwap, Cond.code yX1_bestSwap cX1_bestSwap 1 (some .int), Cond.methodLink RX1 127 yX1_swapOfMost, Cond.instanceMethod yX1_swapOfMost, Cond.selects RX1 yX1_swapOfMost yX1_swapOfMost, Cond.code yX1_swapOfMost cX1_swapOfMost 6 (some .int), Cond.methodLink RL 197 yL_bestTicket, Cond.static yL_bestTicket, Cond.codeWith yL_bestTicket cL_bestTicket 4 (some .int) [(0, 9, 12, 21)], Cond.methodLink RL 82 yX0_bestTicket, Cond.instanceMethod yX0_bestTicket, Cond.selects RX0 yX0_bestTicket yX0_bestTicket, Cond.code yX0_bestTicket cX0_bestTicket 6 (some .int), Cond.methodLink RL 199 yX1_bestTicket, Cond.instanceMethod yX1_bestTicket, Cond.selects RX1 yX1_bestTicket yX1_bestTicket, Cond.code yX1_bestTicket cX1_bestTicket 2 (some .int), Cond.methodLink RL 200 yX0_meanLuck, Cond.instanceMethod yX0_meanLuck, Cond.selects RX0 yX0_meanLuck yX0_meanLuck, Cond.code yX0_meanLuck cX0_meanLuck 3 (some .double), Cond.methodLink RL 204 yX1_meanLuck, Cond.instanceMethod yX1_meanLuck]
def wsL_law0_r24 : List Cond := [Cond.selects RX1 yX1_meanLuck yX1_meanLuck, Cond.code yX1_meanLuck cX1_meanLuck 1 (some .double), Cond.methodLink RL 205 yX0_digest, Cond.instanceMethod yX0_digest, Cond.selects RX0 yX0_digest yX0_digest, Cond.code yX0_digest cX0_digest 4 (some .long), Cond.constantLong RX0 129 (1979), Cond.methodLink RX0 131 yX0_mixed, Cond.static yX0_mixed, Cond.code yX0_mixed cX0_mixed 4 (some .long), Cond.constantLong RX0 186 (31), Cond.methodLink RX0 135 yX0_coincidences, Cond.methodLink RX0 139 yX0_luckiestPair, Cond.methodLink RX0 142 yX0_bestHour, Cond.methodLink RX0 145 yX0_bestSwap, Cond.methodLink RX0 148 yX0_peopleAt, Cond.methodLink RX0 151 yX0_coincidencesAt, Cond.methodLink RX0 154 yX0_bestCorner, Cond.methodLink RL 209 yX1_digest, Cond.instanceMethod yX1_digest, Cond.selects RX1 yX1_digest yX1_digest, Cond.code yX1_digest cX1_digest 8 (some .long), Cond.constantLong RX1 130 (1979), Cond.constantLong RX1 132 (31)]
def wsL_law0 : List Cond := (wsL_law0_r1 ++ (wsL_law0_r2 ++ (wsL_law0_r3 ++ (wsL_law0_r4 ++ (wsL_law0_r5 ++ (wsL_law0_r6 ++ (wsL_law0_r7 ++ (wsL_law0_r8 ++ (wsL_law0_r9 ++ (wsL_law0_r10 ++ (wsL_law0_r11 ++ (wsL_law0_r12 ++ (wsL_law0_r13 ++ (wsL_law0_r14 ++ (wsL_law0_r15 ++ (wsL_law0_r16 ++ (wsL_law0_r17 ++ (wsL_law0_r18 ++ (wsL_law0_r19 ++ (wsL_law0_r20 ++ (wsL_law0_r21 ++ (wsL_law0_r22 ++ (wsL_law0_r23 ++ wsL_law0_r24))))))))))))))))))))))) ++ wsX00 ++ wsX10 ++ ([] : List Cond)
def wsL_law : List Cond := wsL_law0 ++ (vx_atS RX0 55 "java/lang/IllegalArgumentException" ["java/lang/RuntimeException", "java/lang/Exception"]).filter goodWord ++ (vx_atS RX0 62 "java/lang/IllegalStateException" ["java/lang/RuntimeException", "java/lang/Exception"]).filter goodWord ++ (vx_atS RX0 161 "java/lang/IndexOutOfBoundsException" ["java/lang/RuntimeException", "java/lang/Exception"]).filter goodWord
abbrev vwCl : List vw_C := [(RX0, TX0, 9), (RX1, TX1, 10)]
end
section
set_option maxRecDepth 20000 in
theorem wsL_law0_r1_in : ∀ w ∈ wsL_law0_r1, w ∈ lw_tbl := fun w h => (goodIn_p wsL_law0_r1 [46, 49] (by decide +kernel) (by decide +kernel) w h).1
set_option maxRecDepth 20000 in
theorem wsL_law0_r2_in : ∀ w ∈ wsL_law0_r2, w ∈ lw_tbl := fun w h => (goodIn_p wsL_law0_r2 [492, 277] (by decide +kernel) (by decide +kernel) w h).1
set_option maxRecDepth 20000 in
theorem wsL_law0_r3_in : ∀ w ∈ wsL_law0_r3, w ∈ lw_tbl := fun w h => (goodIn_p wsL_law0_r3 [280, 283, 183, 286, 532, 535, 538] (by decide +kernel) (by decide +kernel) w h).1
set_option maxRecDepth 20000 in
theorem wsL_law0_r4_in : ∀ w ∈ wsL_law0_r4, w ∈ lw_tbl := fun w h => (goodIn_p wsL_law0_r4 [542, 528, 326, 267, 546] (by decide +kernel) (by decide +kernel) w h).1
set_option maxRecDepth 20000 in
theorem wsL_law0_r5_in : ∀ w ∈ wsL_law0_r5, w ∈ lw_tbl := fun w h => (goodIn_p wsL_law0_r5 [550, 334, 338, 123, 341] (by decide +kernel) (by decide +kernel) w h).1
set_option maxRecDepth 20000 in
theorem wsL_law0_r6_in : ∀ w ∈ wsL_law0_r6, w ∈ lw_tbl := fun w h => (goodIn_p wsL_law0_r6 [345, 554, 557, 563, 353] (by decide +kernel) (by decide +kernel) w h).1
set_option maxRecDepth 20000 in
theorem wsL_law0_r7_in : ∀ w ∈ wsL_law0_r7, w ∈ lw_tbl := fun w h => (goodIn_p wsL_law0_r7 [357, 106, 110, 114, 117, 120, 126] (by decide +kernel) (by decide +kernel) w h).1
set_option maxRecDepth 20000 in
theorem wsL_law0_r8_in : ∀ w ∈ wsL_law0_r8, w ∈ lw_tbl := fun w h => (goodIn_p wsL_law0_r8 [129, 148, 567, 571, 575, 579] (by decide +kernel) (by decide +kernel) w h).1
set_option maxRecDepth 20000 in
theorem wsL_law0_r9_in : ∀ w ∈ wsL_law0_r9, w ∈ lw_tbl := fun w h => (goodIn_p wsL_law0_r9 [583, 587, 591, 594, 597, 366] (by decide +kernel) (by decide +kernel) w h).1
set_option maxRecDepth 20000 in
theorem wsL_law0_r10_in : ∀ w ∈ wsL_law0_r10, w ∈ lw_tbl := fun w h => (goodIn_p wsL_law0_r10 [601, 373, 605, 381, 386] (by decide +kernel) (by decide +kernel) w h).1
set_option maxRecDepth 20000 in
theorem wsL_law0_r11_in : ∀ w ∈ wsL_law0_r11, w ∈ lw_tbl := fun w h => (goodIn_p wsL_law0_r11 [390, 255, 609, 613, 617] (by decide +kernel) (by decide +kernel) w h).1
set_option maxRecDepth 20000 in
theorem wsL_law0_r12_in : ∀ w ∈ wsL_law0_r12, w ∈ lw_tbl := fun w h => (goodIn_p wsL_law0_r12 [82, 621, 625, 86, 629, 90] (by decide +kernel) (by decide +kernel) w h).1
set_option maxRecDepth 20000 in
theorem wsL_law0_r13_in : ∀ w ∈ wsL_law0_r13, w ∈ lw_tbl := fun w h => (goodIn_p wsL_law0_r13 [633, 94, 637, 98, 641] (by decide +kernel) (by decide +kernel) w h).1
set_option maxRecDepth 20000 in
theorem wsL_law0_r14_in : ∀ w ∈ wsL_law0_r14, w ∈ lw_tbl := fun w h => (goodIn_p wsL_law0_r14 [397, 645, 649, 404, 653] (by decide +kernel) (by decide +kernel) w h).1
set_option maxRecDepth 20000 in
theorem wsL_law0_r15_in : ∀ w ∈ wsL_law0_r15, w ∈ lw_tbl := fun w h => (goodIn_p wsL_law0_r15 [411, 657, 418, 661] (by decide +kernel) (by decide +kernel) w h).1
set_option maxRecDepth 20000 in
theorem wsL_law0_r16_in : ∀ w ∈ wsL_law0_r16, w ∈ lw_tbl := fun w h => (goodIn_p wsL_law0_r16 [177, 180, 665, 429, 669] (by decide +kernel) (by decide +kernel) w h).1
set_option maxRecDepth 20000 in
theorem wsL_law0_r17_in : ∀ w ∈ wsL_law0_r17, w ∈ lw_tbl := fun w h => (goodIn_p wsL_law0_r17 [436, 673, 443, 677, 102] (by decide +kernel) (by decide +kernel) w h).1
set_option maxRecDepth 20000 in
theorem wsL_law0_r18_in : ∀ w ∈ wsL_law0_r18, w ∈ lw_tbl := fun w h => (goodIn_p wsL_law0_r18 [681, 259, 685, 454, 156] (by decide +kernel) (by decide +kernel) w h).1
set_option maxRecDepth 20000 in
theorem wsL_law0_r19_in : ∀ w ∈ wsL_law0_r19, w ∈ lw_tbl := fun w h => (goodIn_p wsL_law0_r19 [160, 689, 693, 133, 697, 701] (by decide +kernel) (by decide +kernel) w h).1
set_option maxRecDepth 20000 in
theorem wsL_law0_r20_in : ∀ w ∈ wsL_law0_r20, w ∈ lw_tbl := fun w h => (goodIn_p wsL_law0_r20 [461, 705, 469, 709] (by decide +kernel) (by decide +kernel) w h).1
set_option maxRecDepth 20000 in
theorem wsL_law0_r21_in : ∀ w ∈ wsL_law0_r21, w ∈ lw_tbl := fun w h => (goodIn_p wsL_law0_r21 [713, 476, 717, 137, 721, 725] (by decide +kernel) (by decide +kernel) w h).1
set_option maxRecDepth 20000 in
theorem wsL_law0_r22_in : ∀ w ∈ wsL_law0_r22, w ∈ lw_tbl := fun w h => (goodIn_p wsL_law0_r22 [263, 729, 733, 141, 145] (by decide +kernel) (by decide +kernel) w h).1
set_option maxRecDepth 20000 in
theorem wsL_law0_r23_in : ∀ w ∈ wsL_law0_r23, w ∈ lw_tbl := fun w h => (goodIn_p wsL_law0_r23 [737, 741, 487, 745, 152] (by decide +kernel) (by decide +kernel) w h).1
set_option maxRecDepth 20000 in
theorem wsL_law0_r24_in : ∀ w ∈ wsL_law0_r24, w ∈ lw_tbl := fun w h => (goodIn_p wsL_law0_r24 [749, 164, 168, 753] (by decide +kernel) (by decide +kernel) w h).1
set_option maxRecDepth 20000 in
theorem wsX00_in : ∀ w ∈ wsX00, w ∈ lw_tbl := by decide +kernel
set_option maxRecDepth 20000 in
theorem wsX10_in : ∀ w ∈ wsX10, w ∈ lw_tbl := by decide +kernel
theorem wsL_law_in0 : ∀ w ∈ wsL_law0, w ∈ lw_tbl := fun w h => (List.mem_append.mp h).elim (fun h => (List.mem_append.mp h).elim (fun h => (List.mem_append.mp h).elim (fun h => (List.mem_append.mp h).elim (fun h => wsL_law0_r1_in w h) (fun h => (List.mem_append.mp h).elim (fun h => wsL_law0_r2_in w h) (fun h => (List.mem_append.mp h).elim (fun h => wsL_law0_r3_in w h) (fun h => (List.mem_append.mp h).elim (fun h => wsL_law0_r4_in w h) (fun h => (List.mem_append.mp h).elim (fun h => wsL_law0_r5_in w h) (fun h => (List.mem_append.mp h).elim (fun h => wsL_law0_r6_in w h) (fun h => (List.mem_append.mp h).elim (fun h => wsL_law0_r7_in w h) (fun h => (List.mem_append.mp h).elim (fun h => wsL_law0_r8_in w h) (fun h => (List.mem_append.mp h).elim (fun h => wsL_law0_r9_in w h) (fun h => (List.mem_append.mp h).elim (fun h => wsL_law0_r10_in w h) (fun h => (List.mem_append.mp h).elim (fun h => wsL_law0_r11_in w h) (fun h => (List.mem_append.mp h).elim (fun h => wsL_law0_r12_in w h) (fun h => (List.mem_append.mp h).elim (fun h => wsL_law0_r13_in w h) (fun h => (List.mem_append.mp h).elim (fun h => wsL_law0_r14_in w h) (fun h => (List.mem_append.mp h).elim (fun h => wsL_law0_r15_in w h) (fun h => (List.mem_append.mp h).elim (fun h => wsL_law0_r16_in w h) (fun h => (List.mem_append.mp h).elim (fun h => wsL_law0_r17_in w h) (fun h => (List.mem_append.mp h).elim (fun h => wsL_law0_r18_in w h) (fun h => (List.mem_append.mp h).elim (fun h => wsL_law0_r19_in w h) (fun h => (List.mem_append.mp h).elim (fun h => wsL_law0_r20_in w h) (fun h => (List.mem_append.mp h).elim (fun h => wsL_law0_r21_in w h) (fun h => (List.mem_append.mp h).elim (fun h => wsL_law0_r22_in w h) (fun h => (List.mem_append.mp h).elim (fun h => wsL_law0_r23_in w h) (fun h => wsL_law0_r24_in w h)))))))))))))))))))))))) (fun h => wsX00_in w h)) (fun h => wsX10_in w h)) (fun h => nomatch h)
theorem wsL_law_x0 : ∀ w ∈ (vx_atS RX0 55 "java/lang/IllegalArgumentException" ["java/lang/RuntimeException", "java/lang/Exception"]).filter goodWord, w ∈ lw_tbl := by decide +kernel
theorem wsL_law_x1 : ∀ w ∈ (vx_atS RX0 62 "java/lang/IllegalStateException" ["java/lang/RuntimeException", "java/lang/Exception"]).filter goodWord, w ∈ lw_tbl := by decide +kernel
theorem wsL_law_x2 : ∀ w ∈ (vx_atS RX0 161 "java/lang/IndexOutOfBoundsException" ["java/lang/RuntimeException", "java/lang/Exception"]).filter goodWord, w ∈ lw_tbl := by decide +kernel
theorem wsL_law_in : ∀ w ∈ wsL_law, w ∈ lw_tbl := fun w h => (List.mem_append.mp h).elim (fun h => (List.mem_append.mp h).elim (fun h => (List.mem_append.mp h).elim (fun h => wsL_law_in0 w h) (fun h => wsL_law_x0 w h)) (fun h => wsL_law_x1 w h)) (fun h => wsL_law_x2 w h)
theorem inlX0 : ∀ w ∈ wsX00, w ∈ wsL_law := fun _ h => List.mem_append_left _ (List.mem_append_left _ (List.mem_append_left _ (List.mem_append_left _ (List.mem_append_left _ (List.mem_append_right _ h)))))
theorem inX0 : ∀ w ∈ wsX00, w ∈ lw_tbl := fun w h => wsL_law_in w (inlX0 w h)
theorem inlX1 : ∀ w ∈ wsX10, w ∈ wsL_law := fun _ h => List.mem_append_left _ (List.mem_append_left _ (List.mem_append_left _ (List.mem_append_left _ (List.mem_append_right _ h))))
theorem inX1 : ∀ w ∈ wsX10, w ∈ lw_tbl := fun w h => wsL_law_in w (inlX1 w h)
theorem inJ9 : ∀ w ∈ wsJ90, w ∈ lw_tbl := by decide +kernel
theorem inJ0 : ∀ w ∈ wsJ00, w ∈ lw_tbl := by decide +kernel
end
section
theorem dX0_init_0 : decode cX0_init 0 = .ok (.aload_n 0, 1) := by decide +kernel
theorem dX0_init_1 : decode cX0_init 1 = .ok (.invokespecial 1, 3) := by decide +kernel
theorem dX0_init_4 : decode cX0_init 4 = .ok (.aload_n 0, 1) := by decide +kernel
theorem dX0_init_5 : decode cX0_init 5 = .ok (.bipush 12, 2) := by decide +kernel
theorem dX0_init_7 : decode cX0_init 7 = .ok (.newarray .int, 2) := by decide +kernel
theorem dX0_init_9 : decode cX0_init 9 = .ok (.putfield 9, 3) := by decide +kernel
theorem dX0_init_12 : decode cX0_init 12 = .ok (.aload_n 0, 1) := by decide +kernel
theorem dX0_init_13 : decode cX0_init 13 = .ok (.bipush 12, 2) := by decide +kernel
theorem dX0_init_15 : decode cX0_init 15 = .ok (.newarray .int, 2) := by decide +kernel
theorem dX0_init_17 : decode cX0_init 17 = .ok (.putfield 13, 3) := by decide +kernel
theorem dX0_init_20 : decode cX0_init 20 = .ok (.aload_n 0, 1) := by decide +kernel
theorem dX0_init_21 : decode cX0_init 21 = .ok (.bipush 12, 2) := by decide +kernel
theorem dX0_init_23 : decode cX0_init 23 = .ok (.newarray .int, 2) := by decide +kernel
theorem dX0_init_25 : decode cX0_init 25 = .ok (.putfield 16, 3) := by decide +kernel
theorem dX0_init_28 : decode cX0_init 28 = .ok (.aload_n 0, 1) := by decide +kernel
theorem dX0_init_29 : decode cX0_init 29 = .ok (.bipush 12, 2) := by decide +kernel
theorem dX0_init_31 : decode cX0_init 31 = .ok (.newarray .int, 2) := by decide +kernel
theorem dX0_init_33 : decode cX0_init 33 = .ok (.putfield 19, 3) := by decide +kernel
theorem dX0_init_36 : decode cX0_init 36 = .ok (.aload_n 0, 1) := by decide +kernel
theorem dX0_init_37 : decode cX0_init 37 = .ok (.iconst 0, 1) := by decide +kernel
theorem dX0_init_38 : decode cX0_init 38 = .ok (.putfield 22, 3) := by decide +kernel
theorem dX0_init_41 : decode cX0_init 41 = .ok (.aload_n 0, 1) := by decide +kernel
theorem dX0_init_42 : decode cX0_init 42 = .ok (.iconst 0, 1) := by decide +kernel
theorem dX0_init_43 : decode cX0_init 43 = .ok (.putfield 26, 3) := by decide +kernel
theorem dX0_init_46 : decode cX0_init 46 = .ok (.aload_n 0, 1) := by decide +kernel
theorem dX0_init_47 : decode cX0_init 47 = .ok (.bipush 20, 2) := by decide +kernel
theorem dX0_init_49 : decode cX0_init 49 = .ok (.putfield 29, 3) := by decide +kernel
theorem dX0_init_52 : decode cX0_init 52 = .ok (.aload_n 0, 1) := by decide +kernel
theorem dX0_init_53 : decode cX0_init 53 = .ok (.iconst 0, 1) := by decide +kernel
theorem dX0_init_54 : decode cX0_init 54 = .ok (.putfield 32, 3) := by decide +kernel
theorem dX0_init_57 : decode cX0_init 57 = .ok (.aload_n 0, 1) := by decide +kernel
theorem dX0_init_58 : decode cX0_init 58 = .ok (.iconst 0, 1) := by decide +kernel
theorem dX0_init_59 : decode cX0_init 59 = .ok (.putfield 35, 3) := by decide +kernel
theorem dX0_init_62 : decode cX0_init 62 = .ok (.return_, 1) := by decide +kernel
set_option maxRecDepth 20000 in
theorem ggX0_addStranger_X0_isTicket : GoodIn wsX0_addStranger wsX0_isTicket := goodIn_r _ [13] (by decide +kernel) (by decide +kernel)
set_option maxRecDepth 20000 in
theorem gX0_addStranger_X0_isTicket : GoodIn wsX0_addStranger (va_wsS RX0 38 yX0_isTicket wsX0_isTicket) := goodIn_app (goodIn_of _ (by decide +kernel)) ggX0_addStranger_X0_isTicket
set_option maxRecDepth 20000 in
theorem ggX0_addStranger_X0_isColour : GoodIn wsX0_addStranger wsX0_isColour := goodIn_r _ [16] (by decide +kernel) (by decide +kernel)
set_option maxRecDepth 20000 in
theorem gX0_addStranger_X0_isColour : GoodIn wsX0_addStranger (va_wsS RX0 42 yX0_isColour wsX0_isColour) := goodIn_app (goodIn_of _ (by decide +kernel)) ggX0_addStranger_X0_isColour
set_option maxRecDepth 20000 in
theorem ggX0_addStranger_X0_isCorner : GoodIn wsX0_addStranger wsX0_isCorner := goodIn_r _ [19] (by decide +kernel) (by decide +kernel)
set_option maxRecDepth 20000 in
theorem gX0_addStranger_X0_isCorner : GoodIn wsX0_addStranger (va_wsS RX0 45 yX0_isCorner wsX0_isCorner) := goodIn_app (goodIn_of _ (by decide +kernel)) ggX0_addStranger_X0_isCorner
set_option maxRecDepth 20000 in
theorem ggX0_addStranger_X0_isWalk : GoodIn wsX0_addStranger wsX0_isWalk := goodIn_r _ [22] (by decide +kernel) (by decide +kernel)
set_option maxRecDepth 20000 in
theorem gX0_addStranger_X0_isWalk : GoodIn wsX0_addStranger (va_wsS RX0 48 yX0_isWalk wsX0_isWalk) := goodIn_app (goodIn_of _ (by decide +kernel)) ggX0_addStranger_X0_isWalk
theorem dX0_addStranger_0 : decode cX0_addStranger 0 = .ok (.iload_n 1, 1) := by decide +kernel
theorem dX0_addStranger_1 : decode cX0_addStranger 1 = .ok (.invokestatic 38, 3) := by decide +kernel
theorem dX0_addStranger_4 : decode cX0_addStranger 4 = .ok (.ifCond .eq 25, 3) := by decide +kernel
theorem dX0_addStranger_7 : decode cX0_addStranger 7 = .ok (.iload_n 2, 1) := by decide +kernel
theorem dX0_addStranger_8 : decode cX0_addStranger 8 = .ok (.invokestatic 42, 3) := by decide +kernel
theorem dX0_addStranger_11 : decode cX0_addStranger 11 = .ok (.ifCond .eq 18, 3) := by decide +kernel
theorem dX0_addStranger_14 : decode cX0_addStranger 14 = .ok (.iload_n 3, 1) := by decide +kernel
theorem dX0_addStranger_15 : decode cX0_addStranger 15 = .ok (.invokestatic 45, 3) := by decide +kernel
theorem dX0_addStranger_18 : decode cX0_addStranger 18 = .ok (.ifCond .eq 11, 3) := by decide +kernel
theorem dX0_addStranger_21 : decode cX0_addStranger 21 = .ok (.iload 4, 2) := by decide +kernel
theorem dX0_addStranger_23 : decode cX0_addStranger 23 = .ok (.invokestatic 48, 3) := by decide +kernel
theorem dX0_addStranger_26 : decode cX0_addStranger 26 = .ok (.ifCond .ne 13, 3) := by decide +kernel
theorem dX0_addStranger_29 : decode cX0_addStranger 29 = .ok (.new 51, 3) := by decide +kernel
theorem dX0_addStranger_32 : decode cX0_addStranger 32 = .ok (.dup, 1) := by decide +kernel
theorem dX0_addStranger_33 : decode cX0_addStranger 33 = .ok (.ldc 53, 2) := by decide +kernel
theorem dX0_addStranger_35 : decode cX0_addStranger 35 = .ok (.invokespecial 55, 3) := by decide +kernel
theorem dX0_addStranger_38 : decode cX0_addStranger 38 = .ok (.athrow, 1) := by decide +kernel
theorem dX0_addStranger_39 : decode cX0_addStranger 39 = .ok (.aload_n 0, 1) := by decide +kernel
theorem dX0_addStranger_40 : decode cX0_addStranger 40 = .ok (.getfield 22, 3) := by decide +kernel
theorem dX0_addStranger_43 : decode cX0_addStranger 43 = .ok (.bipush 12, 2) := by decide +kernel
theorem dX0_addStranger_45 : decode cX0_addStranger 45 = .ok (.if_icmp .lt 13, 3) := by decide +kernel
theorem dX0_addStranger_48 : decode cX0_addStranger 48 = .ok (.new 58, 3) := by decide +kernel
theorem dX0_addStranger_51 : decode cX0_addStranger 51 = .ok (.dup, 1) := by decide +kernel
theorem dX0_addStranger_52 : decode cX0_addStranger 52 = .ok (.ldc 60, 2) := by decide +kernel
theorem dX0_addStranger_54 : decode cX0_addStranger 54 = .ok (.invokespecial 62, 3) := by decide +kernel
theorem dX0_addStranger_57 : decode cX0_addStranger 57 = .ok (.athrow, 1) := by decide +kernel
theorem dX0_addStranger_58 : decode cX0_addStranger 58 = .ok (.aload_n 0, 1) := by decide +kernel
theorem dX0_addStranger_59 : decode cX0_addStranger 59 = .ok (.getfield 22, 3) := by decide +kernel
theorem dX0_addStranger_62 : decode cX0_addStranger 62 = .ok (.istore 5, 2) := by decide +kernel
theorem dX0_addStranger_64 : decode cX0_addStranger 64 = .ok (.aload_n 0, 1) := by decide +kernel
theorem dX0_addStranger_65 : decode cX0_addStranger 65 = .ok (.getfield 9, 3) := by decide +kernel
theorem dX0_addStranger_68 : decode cX0_addStranger 68 = .ok (.iload 5, 2) := by decide +kernel
theorem dX0_addStranger_70 : decode cX0_addStranger 70 = .ok (.iload_n 1, 1) := by decide +kernel
theorem dX0_addStranger_71 : decode cX0_addStranger 71 = .ok (.iastore, 1) := by decide +kernel
theorem dX0_addStranger_72 : decode cX0_addStranger 72 = .ok (.aload_n 0, 1) := by decide +kernel
theorem dX0_addStranger_73 : decode cX0_addStranger 73 = .ok (.getfield 13, 3) := by decide +kernel
theorem dX0_addStranger_76 : decode cX0_addStranger 76 = .ok (.iload 5, 2) := by decide +kernel
theorem dX0_addStranger_78 : decode cX0_addStranger 78 = .ok (.iload_n 2, 1) := by decide +kernel
theorem dX0_addStranger_79 : decode cX0_addStranger 79 = .ok (.iastore, 1) := by decide +kernel
theorem dX0_addStranger_80 : decode cX0_addStranger 80 = .ok (.aload_n 0, 1) := by decide +kernel
theorem dX0_addStranger_81 : decode cX0_addStranger 81 = .ok (.getfield 16, 3) := by decide +kernel
theorem dX0_addStranger_84 : decode cX0_addStranger 84 = .ok (.iload 5, 2) := by decide +kernel
theorem dX0_addStranger_86 : decode cX0_addStranger 86 = .ok (.iload_n 3, 1) := by decide +kernel
theorem dX0_addStranger_87 : decode cX0_addStranger 87 = .ok (.iastore, 1) := by decide +kernel
theorem dX0_addStranger_88 : decode cX0_addStranger 88 = .ok (.aload_n 0, 1) := by decide +kernel
theorem dX0_addStranger_89 : decode cX0_addStranger 89 = .ok (.getfield 19, 3) := by decide +kernel
theorem dX0_addStranger_92 : decode cX0_addStranger 92 = .ok (.iload 5, 2) := by decide +kernel
theorem dX0_addStranger_94 : decode cX0_addStranger 94 = .ok (.iload 4, 2) := by decide +kernel
theorem dX0_addStranger_96 : decode cX0_addStranger 96 = .ok (.iastore, 1) := by decide +kernel
theorem dX0_addStranger_97 : decode cX0_addStranger 97 = .ok (.aload_n 0, 1) := by decide +kernel
theorem dX0_addStranger_98 : decode cX0_addStranger 98 = .ok (.iload 5, 2) := by decide +kernel
theorem dX0_addStranger_100 : decode cX0_addStranger 100 = .ok (.iconst 1, 1) := by decide +kernel
theorem dX0_addStranger_101 : decode cX0_addStranger 101 = .ok (.iadd, 1) := by decide +kernel
theorem dX0_addStranger_102 : decode cX0_addStranger 102 = .ok (.putfield 22, 3) := by decide +kernel
theorem dX0_addStranger_105 : decode cX0_addStranger 105 = .ok (.iload 5, 2) := by decide +kernel
theorem dX0_addStranger_107 : decode cX0_addStranger 107 = .ok (.ireturn, 1) := by decide +kernel
set_option maxRecDepth 20000 in
theorem ggX0_setWalk_X0_requireStranger : GoodIn wsX0_setWalk wsX0_requireStranger := goodIn_ca (goodIn_r _ [8, 9, 10, 11, 15, 16, 17, 18, 19, 20, 21, 22, 23] (by decide +kernel) (by decide +kernel)) (goodIn_sub (fun _ h => List.mem_cons_of_mem _ (List.mem_append_right _ h)) (by decide +kernel))
set_option maxRecDepth 20000 in
theorem gX0_setWalk_X0_requireStranger : GoodIn wsX0_setWalk (wsV RX0 63 RX0 yX0_requireStranger wsX0_requireStranger) := goodIn_app (goodIn_of _ (by decide +kernel)) ggX0_setWalk_X0_requireStranger
set_option maxRecDepth 20000 in
theorem ggX0_setWalk_X0_isWalk : GoodIn wsX0_setWalk wsX0_isWalk := goodIn_r _ [14] (by decide +kernel) (by decide +kernel)
set_option maxRecDepth 20000 in
theorem gX0_setWalk_X0_isWalk : GoodIn wsX0_setWalk (va_wsS RX0 48 yX0_isWalk wsX0_isWalk) := goodIn_app (goodIn_of _ (by decide +kernel)) ggX0_setWalk_X0_isWalk
theorem dX0_setWalk_0 : decode cX0_setWalk 0 = .ok (.aload_n 0, 1) := by decide +kernel
theorem dX0_setWalk_1 : decode cX0_setWalk 1 = .ok (.iload_n 1, 1) := by decide +kernel
theorem dX0_setWalk_2 : decode cX0_setWalk 2 = .ok (.invokevirtual 63, 3) := by decide +kernel
theorem dX0_setWalk_5 : decode cX0_setWalk 5 = .ok (.iload_n 2, 1) := by decide +kernel
theorem dX0_setWalk_6 : decode cX0_setWalk 6 = .ok (.invokestatic 48, 3) := by decide +kernel
theorem dX0_setWalk_9 : decode cX0_setWalk 9 = .ok (.ifCond .ne 13, 3) := by decide +kernel
theorem dX0_setWalk_12 : decode cX0_setWalk 12 = .ok (.new 51, 3) := by decide +kernel
theorem dX0_setWalk_15 : decode cX0_setWalk 15 = .ok (.dup, 1) := by decide +kernel
theorem dX0_setWalk_16 : decode cX0_setWalk 16 = .ok (.ldc 67, 2) := by decide +kernel
theorem dX0_setWalk_18 : decode cX0_setWalk 18 = .ok (.invokespecial 55, 3) := by decide +kernel
theorem dX0_setWalk_21 : decode cX0_setWalk 21 = .ok (.athrow, 1) := by decide +kernel
theorem dX0_setWalk_22 : decode cX0_setWalk 22 = .ok (.aload_n 0, 1) := by decide +kernel
theorem dX0_setWalk_23 : decode cX0_setWalk 23 = .ok (.getfield 19, 3) := by decide +kernel
theorem dX0_setWalk_26 : decode cX0_setWalk 26 = .ok (.iload_n 1, 1) := by decide +kernel
theorem dX0_setWalk_27 : decode cX0_setWalk 27 = .ok (.iaload, 1) := by decide +kernel
theorem dX0_setWalk_28 : decode cX0_setWalk 28 = .ok (.istore_n 3, 1) := by decide +kernel
theorem dX0_setWalk_29 : decode cX0_setWalk 29 = .ok (.aload_n 0, 1) := by decide +kernel
theorem dX0_setWalk_30 : decode cX0_setWalk 30 = .ok (.getfield 19, 3) := by decide +kernel
theorem dX0_setWalk_33 : decode cX0_setWalk 33 = .ok (.iload_n 1, 1) := by decide +kernel
theorem dX0_setWalk_34 : decode cX0_setWalk 34 = .ok (.iload_n 2, 1) := by decide +kernel
theorem dX0_setWalk_35 : decode cX0_setWalk 35 = .ok (.iastore, 1) := by decide +kernel
theorem dX0_setWalk_36 : decode cX0_setWalk 36 = .ok (.iload_n 3, 1) := by decide +kernel
theorem dX0_setWalk_37 : decode cX0_setWalk 37 = .ok (.ireturn, 1) := by decide +kernel
set_option maxRecDepth 20000 in
theorem ggX0_move_X0_requireStranger : GoodIn wsX0_move wsX0_requireStranger := goodIn_ca (goodIn_r _ [10, 11, 12, 13, 33, 34, 35, 36, 37, 38, 39, 40, 41] (by decide +kernel) (by decide +kernel)) (goodIn_sub (fun _ h => List.mem_cons_of_mem _ (List.mem_append_right _ h)) (by decide +kernel))
set_option maxRecDepth 20000 in
theorem gX0_move_X0_requireStranger : GoodIn wsX0_move (wsV RX0 63 RX0 yX0_requireStranger wsX0_requireStranger) := goodIn_app (goodIn_of _ (by decide +kernel)) ggX0_move_X0_requireStranger
set_option maxRecDepth 20000 in
theorem ggX0_move_X0_isCorner : GoodIn wsX0_move wsX0_isCorner := goodIn_r _ [16] (by decide +kernel) (by decide +kernel)
set_option maxRecDepth 20000 in
theorem gX0_move_X0_isCorner : GoodIn wsX0_move (va_wsS RX0 45 yX0_isCorner wsX0_isCorner) := goodIn_app (goodIn_of _ (by decide +kernel)) ggX0_move_X0_isCorner
set_option maxRecDepth 20000 in
theorem ggX0_move_X0_costOfWay : GoodIn wsX0_move wsX0_costOfWay := goodIn_r _ [19, 20, 21, 22, 23, 24, 25, 26] (by decide +kernel) (by decide +kernel)
set_option maxRecDepth 20000 in
theorem gX0_move_X0_costOfWay : GoodIn wsX0_move (va_wsS RX0 73 yX0_costOfWay wsX0_costOfWay) := goodIn_app (goodIn_of _ (by decide +kernel)) ggX0_move_X0_costOfWay
set_option maxRecDepth 20000 in
theorem ggX0_move_X0_pay : GoodIn wsX0_move wsX0_pay := goodIn_ca (goodIn_r _ [30, 3, 4, 31, 32, 33, 34, 35, 36, 37, 38, 39, 40, 41] (by decide +kernel) (by decide +kernel)) (goodIn_sub (fun _ h => List.mem_cons_of_mem _ (List.mem_append_left _ (List.mem_append_right _ h))) (by decide +kernel))
set_option maxRecDepth 20000 in
theorem gX0_move_X0_pay : GoodIn wsX0_move (wsV RX0 77 RX0 yX0_pay wsX0_pay) := goodIn_app (goodIn_of _ (by decide +kernel)) ggX0_move_X0_pay
theorem dX0_move_0 : decode cX0_move 0 = .ok (.aload_n 0, 1) := by decide +kernel
theorem dX0_move_1 : decode cX0_move 1 = .ok (.iload_n 1, 1) := by decide +kernel
theorem dX0_move_2 : decode cX0_move 2 = .ok (.invokevirtual 63, 3) := by decide +kernel
theorem dX0_move_5 : decode cX0_move 5 = .ok (.iload_n 2, 1) := by decide +kernel
theorem dX0_move_6 : decode cX0_move 6 = .ok (.invokestatic 45, 3) := by decide +kernel
theorem dX0_move_9 : decode cX0_move 9 = .ok (.ifCond .ne 13, 3) := by decide +kernel
theorem dX0_move_12 : decode cX0_move 12 = .ok (.new 51, 3) := by decide +kernel
theorem dX0_move_15 : decode cX0_move 15 = .ok (.dup, 1) := by decide +kernel
theorem dX0_move_16 : decode cX0_move 16 = .ok (.ldc 69, 2) := by decide +kernel
theorem dX0_move_18 : decode cX0_move 18 = .ok (.invokespecial 55, 3) := by decide +kernel
theorem dX0_move_21 : decode cX0_move 21 = .ok (.athrow, 1) := by decide +kernel
theorem dX0_move_22 : decode cX0_move 22 = .ok (.aload_n 0, 1) := by decide +kernel
theorem dX0_move_23 : decode cX0_move 23 = .ok (.getfield 16, 3) := by decide +kernel
theorem dX0_move_26 : decode cX0_move 26 = .ok (.iload_n 1, 1) := by decide +kernel
theorem dX0_move_27 : decode cX0_move 27 = .ok (.iaload, 1) := by decide +kernel
theorem dX0_move_28 : decode cX0_move 28 = .ok (.iload_n 2, 1) := by decide +kernel
theorem dX0_move_29 : decode cX0_move 29 = .ok (.if_icmp .ne 13, 3) := by decide +kernel
theorem dX0_move_32 : decode cX0_move 32 = .ok (.new 58, 3) := by decide +kernel
theorem dX0_move_35 : decode cX0_move 35 = .ok (.dup, 1) := by decide +kernel
theorem dX0_move_36 : decode cX0_move 36 = .ok (.ldc 71, 2) := by decide +kernel
theorem dX0_move_38 : decode cX0_move 38 = .ok (.invokespecial 62, 3) := by decide +kernel
theorem dX0_move_41 : decode cX0_move 41 = .ok (.athrow, 1) := by decide +kernel
theorem dX0_move_42 : decode cX0_move 42 = .ok (.aload_n 0, 1) := by decide +kernel
theorem dX0_move_43 : decode cX0_move 43 = .ok (.getfield 16, 3) := by decide +kernel
theorem dX0_move_46 : decode cX0_move 46 = .ok (.iload_n 1, 1) := by decide +kernel
theorem dX0_move_47 : decode cX0_move 47 = .ok (.iaload, 1) := by decide +kernel
theorem dX0_move_48 : decode cX0_move 48 = .ok (.iload_n 2, 1) := by decide +kernel
theorem dX0_move_49 : decode cX0_move 49 = .ok (.invokestatic 73, 3) := by decide +kernel
theorem dX0_move_52 : decode cX0_move 52 = .ok (.istore_n 3, 1) := by decide +kernel
theorem dX0_move_53 : decode cX0_move 53 = .ok (.aload_n 0, 1) := by decide +kernel
theorem dX0_move_54 : decode cX0_move 54 = .ok (.iload_n 3, 1) := by decide +kernel
theorem dX0_move_55 : decode cX0_move 55 = .ok (.invokevirtual 77, 3) := by decide +kernel
theorem dX0_move_58 : decode cX0_move 58 = .ok (.aload_n 0, 1) := by decide +kernel
theorem dX0_move_59 : decode cX0_move 59 = .ok (.getfield 16, 3) := by decide +kernel
theorem dX0_move_62 : decode cX0_move 62 = .ok (.iload_n 1, 1) := by decide +kernel
theorem dX0_move_63 : decode cX0_move 63 = .ok (.iload_n 2, 1) := by decide +kernel
theorem dX0_move_64 : decode cX0_move 64 = .ok (.iastore, 1) := by decide +kernel
theorem dX0_move_65 : decode cX0_move 65 = .ok (.iload_n 3, 1) := by decide +kernel
theorem dX0_move_66 : decode cX0_move 66 = .ok (.ireturn, 1) := by decide +kernel
set_option maxRecDepth 20000 in
theorem ggX0_swapUmbrellas_X0_requirePair : GoodIn wsX0_swapUmbrellas wsX0_requirePair := goodIn_ca (goodIn_ca (goodIn_r _ [9, 10, 11, 12, 13, 14, 8, 15, 16, 17, 18, 58, 59, 60, 61, 62, 63, 64, 65, 66] (by decide +kernel) (by decide +kernel)) (goodIn_sub (fun _ h => List.mem_cons_of_mem _ (List.mem_append_left _ (List.mem_append_right _ h))) (by decide +kernel))) (goodIn_sub (fun _ h => List.mem_cons_of_mem _ (List.mem_append_right _ h)) (by decide +kernel))
set_option maxRecDepth 20000 in
theorem gX0_swapUmbrellas_X0_requirePair : GoodIn wsX0_swapUmbrellas (wsV RX0 80 RX0 yX0_requirePair wsX0_requirePair) := goodIn_app (goodIn_of _ (by decide +kernel)) ggX0_swapUmbrellas_X0_requirePair
set_option maxRecDepth 20000 in
theorem ggX0_swapUmbrellas_X0_pay : GoodIn wsX0_swapUmbrellas wsX0_pay := goodIn_ca (goodIn_r _ [22, 1, 2, 23, 24, 58, 59, 60, 61, 62, 63, 64, 65, 66] (by decide +kernel) (by decide +kernel)) (goodIn_sub (fun _ h => List.mem_cons_of_mem _ (List.mem_append_left _ (List.mem_append_left _ (List.mem_append_right _ h)))) (by decide +kernel))
set_option maxRecDepth 20000 in
theorem gX0_swapUmbrellas_X0_pay : GoodIn wsX0_swapUmbrellas (wsV RX0 77 RX0 yX0_pay wsX0_pay) := goodIn_app (goodIn_of _ (by decide +kernel)) ggX0_swapUmbrellas_X0_pay
set_option maxRecDepth 20000 in
theorem ggX0_swapUmbrellas_X0_townBehind : GoodIn wsX0_swapUmbrellas wsX0_townBehind := goodIn_r _ [28, 18, 29, 30, 31, 8, 32, 3, 33, 34, 35, 36, 37, 38, 4, 39, 40, 41, 42, 43, 44, 45, 46, 47, 48, 49, 50, 51, 52, 53, 54, 58, 59, 60, 61, 62, 63, 64, 65, 66] (by decide +kernel) (by decide +kernel)
set_option maxRecDepth 20000 in
theorem gX0_swapUmbrellas_X0_townBehind : GoodIn wsX0_swapUmbrellas (wsV RX0 86 RX0 yX0_townBehind wsX0_townBehind) := goodIn_app (goodIn_of _ (by decide +kernel)) ggX0_swapUmbrellas_X0_townBehind
set_option maxRecDepth 20000 in
theorem ggX0_swapUmbrellas_X0_exchange : GoodIn wsX0_swapUmbrellas wsX0_exchange := goodIn_r _ [57] (by decide +kernel) (by decide +kernel)
set_option maxRecDepth 20000 in
theorem gX0_swapUmbrellas_X0_exchange : GoodIn wsX0_swapUmbrellas (va_wsS RX0 90 yX0_exchange wsX0_exchange) := goodIn_app (goodIn_of _ (by decide +kernel)) ggX0_swapUmbrellas_X0_exchange
theorem dX0_swapUmbrellas_0 : decode cX0_swapUmbrellas 0 = .ok (.aload_n 0, 1) := by decide +kernel
theorem dX0_swapUmbrellas_1 : decode cX0_swapUmbrellas 1 = .ok (.iload_n 1, 1) := by decide +kernel
theorem dX0_swapUmbrellas_2 : decode cX0_swapUmbrellas 2 = .ok (.iload_n 2, 1) := by decide +kernel
theorem dX0_swapUmbrellas_3 : decode cX0_swapUmbrellas 3 = .ok (.invokevirtual 80, 3) := by decide +kernel
theorem dX0_swapUmbrellas_6 : decode cX0_swapUmbrellas 6 = .ok (.aload_n 0, 1) := by decide +kernel
theorem dX0_swapUmbrellas_7 : decode cX0_swapUmbrellas 7 = .ok (.getfield 16, 3) := by decide +kernel
theorem dX0_swapUmbrellas_10 : decode cX0_swapUmbrellas 10 = .ok (.iload_n 1, 1) := by decide +kernel
theorem dX0_swapUmbrellas_11 : decode cX0_swapUmbrellas 11 = .ok (.iaload, 1) := by decide +kernel
theorem dX0_swapUmbrellas_12 : decode cX0_swapUmbrellas 12 = .ok (.aload_n 0, 1) := by decide +kernel
theorem dX0_swapUmbrellas_13 : decode cX0_swapUmbrellas 13 = .ok (.getfield 16, 3) := by decide +kernel
theorem dX0_swapUmbrellas_16 : decode cX0_swapUmbrellas 16 = .ok (.iload_n 2, 1) := by decide +kernel
theorem dX0_swapUmbrellas_17 : decode cX0_swapUmbrellas 17 = .ok (.iaload, 1) := by decide +kernel
theorem dX0_swapUmbrellas_18 : decode cX0_swapUmbrellas 18 = .ok (.if_icmp .eq 13, 3) := by decide +kernel
theorem dX0_swapUmbrellas_21 : decode cX0_swapUmbrellas 21 = .ok (.new 58, 3) := by decide +kernel
theorem dX0_swapUmbrellas_24 : decode cX0_swapUmbrellas 24 = .ok (.dup, 1) := by decide +kernel
theorem dX0_swapUmbrellas_25 : decode cX0_swapUmbrellas 25 = .ok (.ldc 84, 2) := by decide +kernel
theorem dX0_swapUmbrellas_27 : decode cX0_swapUmbrellas 27 = .ok (.invokespecial 62, 3) := by decide +kernel
theorem dX0_swapUmbrellas_30 : decode cX0_swapUmbrellas 30 = .ok (.athrow, 1) := by decide +kernel
theorem dX0_swapUmbrellas_31 : decode cX0_swapUmbrellas 31 = .ok (.aload_n 0, 1) := by decide +kernel
theorem dX0_swapUmbrellas_32 : decode cX0_swapUmbrellas 32 = .ok (.iconst 3, 1) := by decide +kernel
theorem dX0_swapUmbrellas_33 : decode cX0_swapUmbrellas 33 = .ok (.invokevirtual 77, 3) := by decide +kernel
theorem dX0_swapUmbrellas_36 : decode cX0_swapUmbrellas 36 = .ok (.aload_n 0, 1) := by decide +kernel
theorem dX0_swapUmbrellas_37 : decode cX0_swapUmbrellas 37 = .ok (.iconst 0, 1) := by decide +kernel
theorem dX0_swapUmbrellas_38 : decode cX0_swapUmbrellas 38 = .ok (.invokevirtual 86, 3) := by decide +kernel
theorem dX0_swapUmbrellas_41 : decode cX0_swapUmbrellas 41 = .ok (.istore_n 3, 1) := by decide +kernel
theorem dX0_swapUmbrellas_42 : decode cX0_swapUmbrellas 42 = .ok (.aload_n 0, 1) := by decide +kernel
theorem dX0_swapUmbrellas_43 : decode cX0_swapUmbrellas 43 = .ok (.getfield 13, 3) := by decide +kernel
theorem dX0_swapUmbrellas_46 : decode cX0_swapUmbrellas 46 = .ok (.iload_n 1, 1) := by decide +kernel
theorem dX0_swapUmbrellas_47 : decode cX0_swapUmbrellas 47 = .ok (.iload_n 2, 1) := by decide +kernel
theorem dX0_swapUmbrellas_48 : decode cX0_swapUmbrellas 48 = .ok (.invokestatic 90, 3) := by decide +kernel
theorem dX0_swapUmbrellas_51 : decode cX0_swapUmbrellas 51 = .ok (.aload_n 0, 1) := by decide +kernel
theorem dX0_swapUmbrellas_52 : decode cX0_swapUmbrellas 52 = .ok (.iconst 0, 1) := by decide +kernel
theorem dX0_swapUmbrellas_53 : decode cX0_swapUmbrellas 53 = .ok (.invokevirtual 86, 3) := by decide +kernel
theorem dX0_swapUmbrellas_56 : decode cX0_swapUmbrellas 56 = .ok (.iload_n 3, 1) := by decide +kernel
theorem dX0_swapUmbrellas_57 : decode cX0_swapUmbrellas 57 = .ok (.isub, 1) := by decide +kernel
theorem dX0_swapUmbrellas_58 : decode cX0_swapUmbrellas 58 = .ok (.ireturn, 1) := by decide +kernel
set_option maxRecDepth 20000 in
theorem ggX0_swapTickets_X0_requirePair : GoodIn wsX0_swapTickets wsX0_requirePair := goodIn_ca (goodIn_ca (goodIn_r _ [6, 7, 8, 9, 10, 11, 5, 12, 13, 14, 15, 58, 59, 60, 61, 62, 63, 64, 65, 66] (by decide +kernel) (by decide +kernel)) (goodIn_sub (fun _ h => List.mem_cons_of_mem _ (List.mem_append_left _ (List.mem_append_left _ (List.mem_append_right _ h)))) (by decide +kernel))) (goodIn_sub (fun _ h => List.mem_cons_of_mem _ (List.mem_append_left _ (List.mem_append_right _ h))) (by decide +kernel))
set_option maxRecDepth 20000 in
theorem gX0_swapTickets_X0_requirePair : GoodIn wsX0_swapTickets (wsV RX0 80 RX0 yX0_requirePair wsX0_requirePair) := goodIn_app (goodIn_of _ (by decide +kernel)) ggX0_swapTickets_X0_requirePair
set_option maxRecDepth 20000 in
theorem ggX0_swapTickets_X0_pay : GoodIn wsX0_swapTickets wsX0_pay := goodIn_ca (goodIn_r _ [19, 20, 21, 22, 23, 58, 59, 60, 61, 62, 63, 64, 65, 66] (by decide +kernel) (by decide +kernel)) (goodIn_sub (fun _ h => List.mem_cons_of_mem _ (List.mem_append_right _ h)) (by decide +kernel))
set_option maxRecDepth 20000 in
theorem gX0_swapTickets_X0_pay : GoodIn wsX0_swapTickets (wsV RX0 77 RX0 yX0_pay wsX0_pay) := goodIn_app (goodIn_of _ (by decide +kernel)) ggX0_swapTickets_X0_pay
set_option maxRecDepth 20000 in
theorem ggX0_swapTickets_X0_townBehind : GoodIn wsX0_swapTickets wsX0_townBehind := goodIn_r _ [27, 15, 28, 29, 30, 5, 31, 32, 33, 34, 35, 36, 37, 1, 38, 39, 40, 41, 42, 43, 44, 45, 46, 47, 48, 49, 50, 51, 52, 53, 54, 58, 59, 60, 61, 62, 63, 64, 65, 66] (by decide +kernel) (by decide +kernel)
set_option maxRecDepth 20000 in
theorem gX0_swapTickets_X0_townBehind : GoodIn wsX0_swapTickets (wsV RX0 86 RX0 yX0_townBehind wsX0_townBehind) := goodIn_app (goodIn_of _ (by decide +kernel)) ggX0_swapTickets_X0_townBehind
set_option maxRecDepth 20000 in
theorem ggX0_swapTickets_X0_exchange : GoodIn wsX0_swapTickets wsX0_exchange := goodIn_r _ [57] (by decide +kernel) (by decide +kernel)
set_option maxRecDepth 20000 in
theorem gX0_swapTickets_X0_exchange : GoodIn wsX0_swapTickets (va_wsS RX0 90 yX0_exchange wsX0_exchange) := goodIn_app (goodIn_of _ (by decide +kernel)) ggX0_swapTickets_X0_exchange
theorem dX0_swapTickets_0 : decode cX0_swapTickets 0 = .ok (.aload_n 0, 1) := by decide +kernel
theorem dX0_swapTickets_1 : decode cX0_swapTickets 1 = .ok (.iload_n 1, 1) := by decide +kernel
theorem dX0_swapTickets_2 : decode cX0_swapTickets 2 = .ok (.iload_n 2, 1) := by decide +kernel
theorem dX0_swapTickets_3 : decode cX0_swapTickets 3 = .ok (.invokevirtual 80, 3) := by decide +kernel
theorem dX0_swapTickets_6 : decode cX0_swapTickets 6 = .ok (.aload_n 0, 1) := by decide +kernel
theorem dX0_swapTickets_7 : decode cX0_swapTickets 7 = .ok (.bipush 8, 2) := by decide +kernel
theorem dX0_swapTickets_9 : decode cX0_swapTickets 9 = .ok (.invokevirtual 77, 3) := by decide +kernel
theorem dX0_swapTickets_12 : decode cX0_swapTickets 12 = .ok (.aload_n 0, 1) := by decide +kernel
theorem dX0_swapTickets_13 : decode cX0_swapTickets 13 = .ok (.iconst 0, 1) := by decide +kernel
theorem dX0_swapTickets_14 : decode cX0_swapTickets 14 = .ok (.invokevirtual 86, 3) := by decide +kernel
theorem dX0_swapTickets_17 : decode cX0_swapTickets 17 = .ok (.istore_n 3, 1) := by decide +kernel
theorem dX0_swapTickets_18 : decode cX0_swapTickets 18 = .ok (.aload_n 0, 1) := by decide +kernel
theorem dX0_swapTickets_19 : decode cX0_swapTickets 19 = .ok (.getfield 9, 3) := by decide +kernel
theorem dX0_swapTickets_22 : decode cX0_swapTickets 22 = .ok (.iload_n 1, 1) := by decide +kernel
theorem dX0_swapTickets_23 : decode cX0_swapTickets 23 = .ok (.iload_n 2, 1) := by decide +kernel
theorem dX0_swapTickets_24 : decode cX0_swapTickets 24 = .ok (.invokestatic 90, 3) := by decide +kernel
theorem dX0_swapTickets_27 : decode cX0_swapTickets 27 = .ok (.aload_n 0, 1) := by decide +kernel
theorem dX0_swapTickets_28 : decode cX0_swapTickets 28 = .ok (.iconst 0, 1) := by decide +kernel
theorem dX0_swapTickets_29 : decode cX0_swapTickets 29 = .ok (.invokevirtual 86, 3) := by decide +kernel
theorem dX0_swapTickets_32 : decode cX0_swapTickets 32 = .ok (.iload_n 3, 1) := by decide +kernel
theorem dX0_swapTickets_33 : decode cX0_swapTickets 33 = .ok (.isub, 1) := by decide +kernel
theorem dX0_swapTickets_34 : decode cX0_swapTickets 34 = .ok (.ireturn, 1) := by decide +kernel
set_option maxRecDepth 20000 in
theorem ggX0_draw_X0_requireStranger : GoodIn wsX0_draw wsX0_requireStranger := goodIn_ca (goodIn_r _ [8, 9, 10, 11, 23, 24, 25, 26, 27, 28, 29, 30, 31] (by decide +kernel) (by decide +kernel)) (goodIn_sub (fun _ h => List.mem_cons_of_mem _ (List.mem_append_left _ (List.mem_append_right _ h))) (by decide +kernel))
set_option maxRecDepth 20000 in
theorem gX0_draw_X0_requireStranger : GoodIn wsX0_draw (wsV RX0 63 RX0 yX0_requireStranger wsX0_requireStranger) := goodIn_app (goodIn_of _ (by decide +kernel)) ggX0_draw_X0_requireStranger
set_option maxRecDepth 20000 in
theorem ggX0_draw_X0_isTicket : GoodIn wsX0_draw wsX0_isTicket := goodIn_r _ [14] (by decide +kernel) (by decide +kernel)
set_option maxRecDepth 20000 in
theorem gX0_draw_X0_isTicket : GoodIn wsX0_draw (va_wsS RX0 38 yX0_isTicket wsX0_isTicket) := goodIn_app (goodIn_of _ (by decide +kernel)) ggX0_draw_X0_isTicket
set_option maxRecDepth 20000 in
theorem ggX0_draw_X0_pay : GoodIn wsX0_draw wsX0_pay := goodIn_ca (goodIn_r _ [18, 19, 20, 21, 22, 23, 24, 25, 26, 27, 28, 29, 30, 31] (by decide +kernel) (by decide +kernel)) (goodIn_sub (fun _ h => List.mem_cons_of_mem _ (List.mem_append_right _ h)) (by decide +kernel))
set_option maxRecDepth 20000 in
theorem gX0_draw_X0_pay : GoodIn wsX0_draw (wsV RX0 77 RX0 yX0_pay wsX0_pay) := goodIn_app (goodIn_of _ (by decide +kernel)) ggX0_draw_X0_pay
theorem dX0_draw_0 : decode cX0_draw 0 = .ok (.aload_n 0, 1) := by decide +kernel
theorem dX0_draw_1 : decode cX0_draw 1 = .ok (.iload_n 1, 1) := by decide +kernel
theorem dX0_draw_2 : decode cX0_draw 2 = .ok (.invokevirtual 63, 3) := by decide +kernel
theorem dX0_draw_5 : decode cX0_draw 5 = .ok (.iload_n 2, 1) := by decide +kernel
theorem dX0_draw_6 : decode cX0_draw 6 = .ok (.invokestatic 38, 3) := by decide +kernel
theorem dX0_draw_9 : decode cX0_draw 9 = .ok (.ifCond .ne 13, 3) := by decide +kernel
theorem dX0_draw_12 : decode cX0_draw 12 = .ok (.new 51, 3) := by decide +kernel
theorem dX0_draw_15 : decode cX0_draw 15 = .ok (.dup, 1) := by decide +kernel
theorem dX0_draw_16 : decode cX0_draw 16 = .ok (.ldc 94, 2) := by decide +kernel
theorem dX0_draw_18 : decode cX0_draw 18 = .ok (.invokespecial 55, 3) := by decide +kernel
theorem dX0_draw_21 : decode cX0_draw 21 = .ok (.athrow, 1) := by decide +kernel
theorem dX0_draw_22 : decode cX0_draw 22 = .ok (.aload_n 0, 1) := by decide +kernel
theorem dX0_draw_23 : decode cX0_draw 23 = .ok (.bipush 12, 2) := by decide +kernel
theorem dX0_draw_25 : decode cX0_draw 25 = .ok (.invokevirtual 77, 3) := by decide +kernel
theorem dX0_draw_28 : decode cX0_draw 28 = .ok (.aload_n 0, 1) := by decide +kernel
theorem dX0_draw_29 : decode cX0_draw 29 = .ok (.getfield 9, 3) := by decide +kernel
theorem dX0_draw_32 : decode cX0_draw 32 = .ok (.iload_n 1, 1) := by decide +kernel
theorem dX0_draw_33 : decode cX0_draw 33 = .ok (.iaload, 1) := by decide +kernel
theorem dX0_draw_34 : decode cX0_draw 34 = .ok (.istore_n 3, 1) := by decide +kernel
theorem dX0_draw_35 : decode cX0_draw 35 = .ok (.aload_n 0, 1) := by decide +kernel
theorem dX0_draw_36 : decode cX0_draw 36 = .ok (.getfield 9, 3) := by decide +kernel
theorem dX0_draw_39 : decode cX0_draw 39 = .ok (.iload_n 1, 1) := by decide +kernel
theorem dX0_draw_40 : decode cX0_draw 40 = .ok (.iload_n 2, 1) := by decide +kernel
theorem dX0_draw_41 : decode cX0_draw 41 = .ok (.iastore, 1) := by decide +kernel
theorem dX0_draw_42 : decode cX0_draw 42 = .ok (.iload_n 3, 1) := by decide +kernel
theorem dX0_draw_43 : decode cX0_draw 43 = .ok (.ireturn, 1) := by decide +kernel
set_option maxRecDepth 20000 in
theorem ggX0_pass_X0_passOneHour : GoodIn wsX0_pass wsX0_passOneHour := goodIn_r _ [8, 9, 10, 3, 11, 12, 13, 14, 15, 16, 17, 18, 19, 7, 20, 21, 22, 23, 24, 25, 26, 27, 28, 29, 30, 31, 32, 33, 34, 35, 36, 37, 38, 39, 40, 41, 42, 43, 44, 45, 46, 47, 48, 49, 50, 51, 52, 53, 54, 55, 56, 57, 58, 59, 60, 61, 62, 63] (by decide +kernel) (by decide +kernel)
set_option maxRecDepth 20000 in
theorem gX0_pass_X0_passOneHour : GoodIn wsX0_pass (wsV RX0 98 RX0 yX0_passOneHour wsX0_passOneHour) := goodIn_app (goodIn_of _ (by decide +kernel)) ggX0_pass_X0_passOneHour
theorem dX0_pass_0 : decode cX0_pass 0 = .ok (.iload_n 1, 1) := by decide +kernel
theorem dX0_pass_1 : decode cX0_pass 1 = .ok (.iconst 1, 1) := by decide +kernel
theorem dX0_pass_2 : decode cX0_pass 2 = .ok (.if_icmp .lt 9, 3) := by decide +kernel
theorem dX0_pass_5 : decode cX0_pass 5 = .ok (.iload_n 1, 1) := by decide +kernel
theorem dX0_pass_6 : decode cX0_pass 6 = .ok (.bipush 60, 2) := by decide +kernel
theorem dX0_pass_8 : decode cX0_pass 8 = .ok (.if_icmp .le 13, 3) := by decide +kernel
theorem dX0_pass_11 : decode cX0_pass 11 = .ok (.new 51, 3) := by decide +kernel
theorem dX0_pass_14 : decode cX0_pass 14 = .ok (.dup, 1) := by decide +kernel
theorem dX0_pass_15 : decode cX0_pass 15 = .ok (.ldc 96, 2) := by decide +kernel
theorem dX0_pass_17 : decode cX0_pass 17 = .ok (.invokespecial 55, 3) := by decide +kernel
theorem dX0_pass_20 : decode cX0_pass 20 = .ok (.athrow, 1) := by decide +kernel
theorem dX0_pass_21 : decode cX0_pass 21 = .ok (.aload_n 0, 1) := by decide +kernel
theorem dX0_pass_22 : decode cX0_pass 22 = .ok (.getfield 32, 3) := by decide +kernel
theorem dX0_pass_25 : decode cX0_pass 25 = .ok (.istore_n 2, 1) := by decide +kernel
theorem dX0_pass_26 : decode cX0_pass 26 = .ok (.iconst 0, 1) := by decide +kernel
theorem dX0_pass_27 : decode cX0_pass 27 = .ok (.istore_n 3, 1) := by decide +kernel
theorem dX0_pass_28 : decode cX0_pass 28 = .ok (.iload_n 3, 1) := by decide +kernel
theorem dX0_pass_29 : decode cX0_pass 29 = .ok (.iload_n 1, 1) := by decide +kernel
theorem dX0_pass_30 : decode cX0_pass 30 = .ok (.if_icmp .ge 13, 3) := by decide +kernel
theorem dX0_pass_33 : decode cX0_pass 33 = .ok (.aload_n 0, 1) := by decide +kernel
theorem dX0_pass_34 : decode cX0_pass 34 = .ok (.invokevirtual 98, 3) := by decide +kernel
theorem dX0_pass_37 : decode cX0_pass 37 = .ok (.iinc 3 1, 3) := by decide +kernel
theorem dX0_pass_40 : decode cX0_pass 40 = .ok (.goto (-12), 3) := by decide +kernel
theorem dX0_pass_43 : decode cX0_pass 43 = .ok (.aload_n 0, 1) := by decide +kernel
theorem dX0_pass_44 : decode cX0_pass 44 = .ok (.getfield 32, 3) := by decide +kernel
theorem dX0_pass_47 : decode cX0_pass 47 = .ok (.iload_n 2, 1) := by decide +kernel
theorem dX0_pass_48 : decode cX0_pass 48 = .ok (.isub, 1) := by decide +kernel
theorem dX0_pass_49 : decode cX0_pass 49 = .ok (.ireturn, 1) := by decide +kernel
theorem dX0_strangers_0 : decode cX0_strangers 0 = .ok (.aload_n 0, 1) := by decide +kernel
theorem dX0_strangers_1 : decode cX0_strangers 1 = .ok (.getfield 22, 3) := by decide +kernel
theorem dX0_strangers_4 : decode cX0_strangers 4 = .ok (.ireturn, 1) := by decide +kernel
theorem dX0_hour_0 : decode cX0_hour 0 = .ok (.aload_n 0, 1) := by decide +kernel
theorem dX0_hour_1 : decode cX0_hour 1 = .ok (.getfield 26, 3) := by decide +kernel
theorem dX0_hour_4 : decode cX0_hour 4 = .ok (.ireturn, 1) := by decide +kernel
theorem dX0_store_0 : decode cX0_store 0 = .ok (.aload_n 0, 1) := by decide +kernel
theorem dX0_store_1 : decode cX0_store 1 = .ok (.getfield 29, 3) := by decide +kernel
theorem dX0_store_4 : decode cX0_store 4 = .ok (.ireturn, 1) := by decide +kernel
theorem dX0_counted_0 : decode cX0_counted 0 = .ok (.aload_n 0, 1) := by decide +kernel
theorem dX0_counted_1 : decode cX0_counted 1 = .ok (.getfield 32, 3) := by decide +kernel
theorem dX0_counted_4 : decode cX0_counted 4 = .ok (.ireturn, 1) := by decide +kernel
theorem dX0_spent_0 : decode cX0_spent 0 = .ok (.aload_n 0, 1) := by decide +kernel
theorem dX0_spent_1 : decode cX0_spent 1 = .ok (.getfield 35, 3) := by decide +kernel
theorem dX0_spent_4 : decode cX0_spent 4 = .ok (.ireturn, 1) := by decide +kernel
set_option maxRecDepth 20000 in
theorem ggX0_ticketOf_X0_requireStranger : GoodIn wsX0_ticketOf wsX0_requireStranger := goodIn_ca (goodIn_r _ [6, 7, 8, 9, 10, 11, 12, 13, 14, 15, 16, 17, 18] (by decide +kernel) (by decide +kernel)) (goodIn_sub (fun _ h => List.mem_cons_of_mem _ (List.mem_append_right _ h)) (by decide +kernel))
set_option maxRecDepth 20000 in
theorem gX0_ticketOf_X0_requireStranger : GoodIn wsX0_ticketOf (wsV RX0 63 RX0 yX0_requireStranger wsX0_requireStranger) := goodIn_app (goodIn_of _ (by decide +kernel)) ggX0_ticketOf_X0_requireStranger
theorem dX0_ticketOf_0 : decode cX0_ticketOf 0 = .ok (.aload_n 0, 1) := by decide +kernel
theorem dX0_ticketOf_1 : decode cX0_ticketOf 1 = .ok (.iload_n 1, 1) := by decide +kernel
theorem dX0_ticketOf_2 : decode cX0_ticketOf 2 = .ok (.invokevirtual 63, 3) := by decide +kernel
theorem dX0_ticketOf_5 : decode cX0_ticketOf 5 = .ok (.aload_n 0, 1) := by decide +kernel
theorem dX0_ticketOf_6 : decode cX0_ticketOf 6 = .ok (.getfield 9, 3) := by decide +kernel
theorem dX0_ticketOf_9 : decode cX0_ticketOf 9 = .ok (.iload_n 1, 1) := by decide +kernel
theorem dX0_ticketOf_10 : decode cX0_ticketOf 10 = .ok (.iaload, 1) := by decide +kernel
theorem dX0_ticketOf_11 : decode cX0_ticketOf 11 = .ok (.ireturn, 1) := by decide +kernel
set_option maxRecDepth 20000 in
theorem ggX0_colourOf_X0_requireStranger : GoodIn wsX0_colourOf wsX0_requireStranger := goodIn_ca (goodIn_r _ [6, 7, 8, 9, 10, 11, 12, 13, 14, 15, 16, 17, 18] (by decide +kernel) (by decide +kernel)) (goodIn_sub (fun _ h => List.mem_cons_of_mem _ (List.mem_append_right _ h)) (by decide +kernel))
set_option maxRecDepth 20000 in
theorem gX0_colourOf_X0_requireStranger : GoodIn wsX0_colourOf (wsV RX0 63 RX0 yX0_requireStranger wsX0_requireStranger) := goodIn_app (goodIn_of _ (by decide +kernel)) ggX0_colourOf_X0_requireStranger
theorem dX0_colourOf_0 : decode cX0_colourOf 0 = .ok (.aload_n 0, 1) := by decide +kernel
theorem dX0_colourOf_1 : decode cX0_colourOf 1 = .ok (.iload_n 1, 1) := by decide +kernel
theorem dX0_colourOf_2 : decode cX0_colourOf 2 = .ok (.invokevirtual 63, 3) := by decide +kernel
theorem dX0_colourOf_5 : decode cX0_colourOf 5 = .ok (.aload_n 0, 1) := by decide +kernel
theorem dX0_colourOf_6 : decode cX0_colourOf 6 = .ok (.getfield 13, 3) := by decide +kernel
theorem dX0_colourOf_9 : decode cX0_colourOf 9 = .ok (.iload_n 1, 1) := by decide +kernel
theorem dX0_colourOf_10 : decode cX0_colourOf 10 = .ok (.iaload, 1) := by decide +kernel
theorem dX0_colourOf_11 : decode cX0_colourOf 11 = .ok (.ireturn, 1) := by decide +kernel
set_option maxRecDepth 20000 in
theorem ggX0_cornerOf_X0_requireStranger : GoodIn wsX0_cornerOf wsX0_requireStranger := goodIn_ca (goodIn_r _ [6, 7, 8, 9, 10, 11, 12, 13, 14, 15, 16, 17, 18] (by decide +kernel) (by decide +kernel)) (goodIn_sub (fun _ h => List.mem_cons_of_mem _ (List.mem_append_right _ h)) (by decide +kernel))
set_option maxRecDepth 20000 in
theorem gX0_cornerOf_X0_requireStranger : GoodIn wsX0_cornerOf (wsV RX0 63 RX0 yX0_requireStranger wsX0_requireStranger) := goodIn_app (goodIn_of _ (by decide +kernel)) ggX0_cornerOf_X0_requireStranger
theorem dX0_cornerOf_0 : decode cX0_cornerOf 0 = .ok (.aload_n 0, 1) := by decide +kernel
theorem dX0_cornerOf_1 : decode cX0_cornerOf 1 = .ok (.iload_n 1, 1) := by decide +kernel
theorem dX0_cornerOf_2 : decode cX0_cornerOf 2 = .ok (.invokevirtual 63, 3) := by decide +kernel
theorem dX0_cornerOf_5 : decode cX0_cornerOf 5 = .ok (.aload_n 0, 1) := by decide +kernel
theorem dX0_cornerOf_6 : decode cX0_cornerOf 6 = .ok (.getfield 16, 3) := by decide +kernel
theorem dX0_cornerOf_9 : decode cX0_cornerOf 9 = .ok (.iload_n 1, 1) := by decide +kernel
theorem dX0_cornerOf_10 : decode cX0_cornerOf 10 = .ok (.iaload, 1) := by decide +kernel
theorem dX0_cornerOf_11 : decode cX0_cornerOf 11 = .ok (.ireturn, 1) := by decide +kernel
set_option maxRecDepth 20000 in
theorem ggX0_walkOf_X0_requireStranger : GoodIn wsX0_walkOf wsX0_requireStranger := goodIn_ca (goodIn_r _ [6, 7, 8, 9, 10, 11, 12, 13, 14, 15, 16, 17, 18] (by decide +kernel) (by decide +kernel)) (goodIn_sub (fun _ h => List.mem_cons_of_mem _ (List.mem_append_right _ h)) (by decide +kernel))
set_option maxRecDepth 20000 in
theorem gX0_walkOf_X0_requireStranger : GoodIn wsX0_walkOf (wsV RX0 63 RX0 yX0_requireStranger wsX0_requireStranger) := goodIn_app (goodIn_of _ (by decide +kernel)) ggX0_walkOf_X0_requireStranger
theorem dX0_walkOf_0 : decode cX0_walkOf 0 = .ok (.aload_n 0, 1) := by decide +kernel
theorem dX0_walkOf_1 : decode cX0_walkOf 1 = .ok (.iload_n 1, 1) := by decide +kernel
theorem dX0_walkOf_2 : decode cX0_walkOf 2 = .ok (.invokevirtual 63, 3) := by decide +kernel
theorem dX0_walkOf_5 : decode cX0_walkOf 5 = .ok (.aload_n 0, 1) := by decide +kernel
theorem dX0_walkOf_6 : decode cX0_walkOf 6 = .ok (.getfield 19, 3) := by decide +kernel
theorem dX0_walkOf_9 : decode cX0_walkOf 9 = .ok (.iload_n 1, 1) := by decide +kernel
theorem dX0_walkOf_10 : decode cX0_walkOf 10 = .ok (.iaload, 1) := by decide +kernel
theorem dX0_walkOf_11 : decode cX0_walkOf 11 = .ok (.ireturn, 1) := by decide +kernel
set_option maxRecDepth 20000 in
theorem ggX0_peopleAt_X0_requireCorner : GoodIn wsX0_peopleAt wsX0_requireCorner := goodIn_ca (goodIn_r _ [4, 5, 6, 7, 8, 3, 9] (by decide +kernel) (by decide +kernel)) (goodIn_sub (fun _ h => List.mem_cons_of_mem _ (List.mem_append_right _ h)) (by decide +kernel))
set_option maxRecDepth 20000 in
theorem gX0_peopleAt_X0_requireCorner : GoodIn wsX0_peopleAt (va_wsS RX0 101 yX0_requireCorner wsX0_requireCorner) := goodIn_app (goodIn_of _ (by decide +kernel)) ggX0_peopleAt_X0_requireCorner
set_option maxRecDepth 20000 in
theorem ggX0_peopleAt_X0_crowdAt : GoodIn wsX0_peopleAt wsX0_crowdAt := goodIn_r _ [13, 14, 15, 16, 17, 18, 19, 20, 21, 22, 23, 24] (by decide +kernel) (by decide +kernel)
set_option maxRecDepth 20000 in
theorem gX0_peopleAt_X0_crowdAt : GoodIn wsX0_peopleAt (wsV RX0 104 RX0 yX0_crowdAt wsX0_crowdAt) := goodIn_app (goodIn_of _ (by decide +kernel)) ggX0_peopleAt_X0_crowdAt
theorem dX0_peopleAt_0 : decode cX0_peopleAt 0 = .ok (.iload_n 1, 1) := by decide +kernel
theorem dX0_peopleAt_1 : decode cX0_peopleAt 1 = .ok (.invokestatic 101, 3) := by decide +kernel
theorem dX0_peopleAt_4 : decode cX0_peopleAt 4 = .ok (.aload_n 0, 1) := by decide +kernel
theorem dX0_peopleAt_5 : decode cX0_peopleAt 5 = .ok (.iload_n 1, 1) := by decide +kernel
theorem dX0_peopleAt_6 : decode cX0_peopleAt 6 = .ok (.invokevirtual 104, 3) := by decide +kernel
theorem dX0_peopleAt_9 : decode cX0_peopleAt 9 = .ok (.ireturn, 1) := by decide +kernel
set_option maxRecDepth 20000 in
theorem ggX0_pointsOf_X0_requirePair : GoodIn wsX0_pointsOf wsX0_requirePair := goodIn_ca (goodIn_ca (goodIn_r _ [5, 6, 7, 8, 9, 10, 4, 11, 12, 13, 14, 37, 38, 39, 40, 41, 42, 43, 44, 45] (by decide +kernel) (by decide +kernel)) (goodIn_sub (fun _ h => List.mem_cons_of_mem _ (List.mem_append_left _ (List.mem_append_right _ h))) (by decide +kernel))) (goodIn_sub (fun _ h => List.mem_cons_of_mem _ (List.mem_append_right _ h)) (by decide +kernel))
set_option maxRecDepth 20000 in
theorem gX0_pointsOf_X0_requirePair : GoodIn wsX0_pointsOf (wsV RX0 80 RX0 yX0_requirePair wsX0_requirePair) := goodIn_app (goodIn_of _ (by decide +kernel)) ggX0_pointsOf_X0_requirePair
set_option maxRecDepth 20000 in
theorem ggX0_pointsOf_X0_pointsOfPair : GoodIn wsX0_pointsOf wsX0_pointsOfPair := goodIn_r _ [18, 19, 20, 21, 22, 4, 23, 24, 25, 26, 27, 28, 29, 30, 31, 32, 33, 34, 35, 36, 37, 38, 39, 40, 41, 42, 43, 44, 45] (by decide +kernel) (by decide +kernel)
set_option maxRecDepth 20000 in
theorem gX0_pointsOf_X0_pointsOfPair : GoodIn wsX0_pointsOf (wsV RX0 107 RX0 yX0_pointsOfPair wsX0_pointsOfPair) := goodIn_app (goodIn_of _ (by decide +kernel)) ggX0_pointsOf_X0_pointsOfPair
theorem dX0_pointsOf_0 : decode cX0_pointsOf 0 = .ok (.aload_n 0, 1) := by decide +kernel
theorem dX0_pointsOf_1 : decode cX0_pointsOf 1 = .ok (.iload_n 1, 1) := by decide +kernel
theorem dX0_pointsOf_2 : decode cX0_pointsOf 2 = .ok (.iload_n 2, 1) := by decide +kernel
theorem dX0_pointsOf_3 : decode cX0_pointsOf 3 = .ok (.invokevirtual 80, 3) := by decide +kernel
theorem dX0_pointsOf_6 : decode cX0_pointsOf 6 = .ok (.aload_n 0, 1) := by decide +kernel
theorem dX0_pointsOf_7 : decode cX0_pointsOf 7 = .ok (.iload_n 1, 1) := by decide +kernel
theorem dX0_pointsOf_8 : decode cX0_pointsOf 8 = .ok (.iload_n 2, 1) := by decide +kernel
theorem dX0_pointsOf_9 : decode cX0_pointsOf 9 = .ok (.invokevirtual 107, 3) := by decide +kernel
theorem dX0_pointsOf_12 : decode cX0_pointsOf 12 = .ok (.ireturn, 1) := by decide +kernel
set_option maxRecDepth 20000 in
theorem ggX0_areTogether_X0_requirePair : GoodIn wsX0_areTogether wsX0_requirePair := goodIn_ca (goodIn_ca (goodIn_r _ [6, 7, 8, 9, 10, 11, 5, 12, 13, 14, 15, 16, 17, 18, 19, 20, 21, 22, 23, 24] (by decide +kernel) (by decide +kernel)) (goodIn_sub (fun _ h => List.mem_cons_of_mem _ (List.mem_append_left _ (List.mem_append_right _ h))) (by decide +kernel))) (goodIn_sub (fun _ h => List.mem_cons_of_mem _ (List.mem_append_right _ h)) (by decide +kernel))
set_option maxRecDepth 20000 in
theorem gX0_areTogether_X0_requirePair : GoodIn wsX0_areTogether (wsV RX0 80 RX0 yX0_requirePair wsX0_requirePair) := goodIn_app (goodIn_of _ (by decide +kernel)) ggX0_areTogether_X0_requirePair
theorem dX0_areTogether_0 : decode cX0_areTogether 0 = .ok (.aload_n 0, 1) := by decide +kernel
theorem dX0_areTogether_1 : decode cX0_areTogether 1 = .ok (.iload_n 1, 1) := by decide +kernel
theorem dX0_areTogether_2 : decode cX0_areTogether 2 = .ok (.iload_n 2, 1) := by decide +kernel
theorem dX0_areTogether_3 : decode cX0_areTogether 3 = .ok (.invokevirtual 80, 3) := by decide +kernel
theorem dX0_areTogether_6 : decode cX0_areTogether 6 = .ok (.aload_n 0, 1) := by decide +kernel
theorem dX0_areTogether_7 : decode cX0_areTogether 7 = .ok (.getfield 16, 3) := by decide +kernel
theorem dX0_areTogether_10 : decode cX0_areTogether 10 = .ok (.iload_n 1, 1) := by decide +kernel
theorem dX0_areTogether_11 : decode cX0_areTogether 11 = .ok (.iaload, 1) := by decide +kernel
theorem dX0_areTogether_12 : decode cX0_areTogether 12 = .ok (.aload_n 0, 1) := by decide +kernel
theorem dX0_areTogether_13 : decode cX0_areTogether 13 = .ok (.getfield 16, 3) := by decide +kernel
theorem dX0_areTogether_16 : decode cX0_areTogether 16 = .ok (.iload_n 2, 1) := by decide +kernel
theorem dX0_areTogether_17 : decode cX0_areTogether 17 = .ok (.iaload, 1) := by decide +kernel
theorem dX0_areTogether_18 : decode cX0_areTogether 18 = .ok (.if_icmp .ne 7, 3) := by decide +kernel
theorem dX0_areTogether_21 : decode cX0_areTogether 21 = .ok (.iconst 1, 1) := by decide +kernel
theorem dX0_areTogether_22 : decode cX0_areTogether 22 = .ok (.goto 4, 3) := by decide +kernel
theorem dX0_areTogether_25 : decode cX0_areTogether 25 = .ok (.iconst 0, 1) := by decide +kernel
theorem dX0_areTogether_26 : decode cX0_areTogether 26 = .ok (.ireturn, 1) := by decide +kernel
set_option maxRecDepth 20000 in
theorem ggX0_areMirrored_X0_requirePair : GoodIn wsX0_areMirrored wsX0_requirePair := goodIn_ca (goodIn_ca (goodIn_r _ [6, 7, 8, 9, 10, 11, 5, 12, 13, 14, 15, 19, 20, 21, 22, 23, 24, 25, 26, 27] (by decide +kernel) (by decide +kernel)) (goodIn_sub (fun _ h => List.mem_cons_of_mem _ (List.mem_append_left _ (List.mem_append_right _ h))) (by decide +kernel))) (goodIn_sub (fun _ h => List.mem_cons_of_mem _ (List.mem_append_right _ h)) (by decide +kernel))
set_option maxRecDepth 20000 in
theorem gX0_areMirrored_X0_requirePair : GoodIn wsX0_areMirrored (wsV RX0 80 RX0 yX0_requirePair wsX0_requirePair) := goodIn_app (goodIn_of _ (by decide +kernel)) ggX0_areMirrored_X0_requirePair
set_option maxRecDepth 20000 in
theorem ggX0_areMirrored_X0_mirrored : GoodIn wsX0_areMirrored wsX0_mirrored := goodIn_r _ [18] (by decide +kernel) (by decide +kernel)
set_option maxRecDepth 20000 in
theorem gX0_areMirrored_X0_mirrored : GoodIn wsX0_areMirrored (va_wsS RX0 110 yX0_mirrored wsX0_mirrored) := goodIn_app (goodIn_of _ (by decide +kernel)) ggX0_areMirrored_X0_mirrored
theorem dX0_areMirrored_0 : decode cX0_areMirrored 0 = .ok (.aload_n 0, 1) := by decide +kernel
theorem dX0_areMirrored_1 : decode cX0_areMirrored 1 = .ok (.iload_n 1, 1) := by decide +kernel
theorem dX0_areMirrored_2 : decode cX0_areMirrored 2 = .ok (.iload_n 2, 1) := by decide +kernel
theorem dX0_areMirrored_3 : decode cX0_areMirrored 3 = .ok (.invokevirtual 80, 3) := by decide +kernel
theorem dX0_areMirrored_6 : decode cX0_areMirrored 6 = .ok (.aload_n 0, 1) := by decide +kernel
theorem dX0_areMirrored_7 : decode cX0_areMirrored 7 = .ok (.getfield 9, 3) := by decide +kernel
theorem dX0_areMirrored_10 : decode cX0_areMirrored 10 = .ok (.iload_n 1, 1) := by decide +kernel
theorem dX0_areMirrored_11 : decode cX0_areMirrored 11 = .ok (.iaload, 1) := by decide +kernel
theorem dX0_areMirrored_12 : decode cX0_areMirrored 12 = .ok (.aload_n 0, 1) := by decide +kernel
theorem dX0_areMirrored_13 : decode cX0_areMirrored 13 = .ok (.getfield 9, 3) := by decide +kernel
theorem dX0_areMirrored_16 : decode cX0_areMirrored 16 = .ok (.iload_n 2, 1) := by decide +kernel
theorem dX0_areMirrored_17 : decode cX0_areMirrored 17 = .ok (.iaload, 1) := by decide +kernel
theorem dX0_areMirrored_18 : decode cX0_areMirrored 18 = .ok (.invokestatic 110, 3) := by decide +kernel
theorem dX0_areMirrored_21 : decode cX0_areMirrored 21 = .ok (.ireturn, 1) := by decide +kernel
set_option maxRecDepth 20000 in
theorem ggX0_coincidences_X0_townBehind : GoodIn wsX0_coincidences wsX0_townBehind := goodIn_r _ [5, 6, 7, 8, 9, 4, 10, 11, 12, 13, 14, 15, 16, 17, 18, 19, 20, 21, 22, 23, 24, 25, 26, 27, 28, 29, 30, 31, 32, 33, 34, 35, 36, 37, 38, 39, 40, 41, 42, 43] (by decide +kernel) (by decide +kernel)
set_option maxRecDepth 20000 in
theorem gX0_coincidences_X0_townBehind : GoodIn wsX0_coincidences (wsV RX0 86 RX0 yX0_townBehind wsX0_townBehind) := goodIn_app (goodIn_of _ (by decide +kernel)) ggX0_coincidences_X0_townBehind
theorem dX0_coincidences_0 : decode cX0_coincidences 0 = .ok (.aload_n 0, 1) := by decide +kernel
theorem dX0_coincidences_1 : decode cX0_coincidences 1 = .ok (.iconst 0, 1) := by decide +kernel
theorem dX0_coincidences_2 : decode cX0_coincidences 2 = .ok (.invokevirtual 86, 3) := by decide +kernel
theorem dX0_coincidences_5 : decode cX0_coincidences 5 = .ok (.ireturn, 1) := by decide +kernel
set_option maxRecDepth 20000 in
theorem ggX0_coincidencesAt_X0_requireCorner : GoodIn wsX0_coincidencesAt wsX0_requireCorner := goodIn_ca (goodIn_r _ [6, 7, 8, 9, 10, 5, 11] (by decide +kernel) (by decide +kernel)) (goodIn_sub (fun _ h => List.mem_cons_of_mem _ (List.mem_append_right _ h)) (by decide +kernel))
set_option maxRecDepth 20000 in
theorem gX0_coincidencesAt_X0_requireCorner : GoodIn wsX0_coincidencesAt (va_wsS RX0 101 yX0_requireCorner wsX0_requireCorner) := goodIn_app (goodIn_of _ (by decide +kernel)) ggX0_coincidencesAt_X0_requireCorner
set_option maxRecDepth 20000 in
theorem ggX0_coincidencesAt_X0_pointsOfPair : GoodIn wsX0_coincidencesAt wsX0_pointsOfPair := goodIn_r _ [15, 16, 17, 18, 19, 5, 20, 21, 22, 23, 24, 25, 26, 27, 28, 29, 30, 31, 32, 33, 34, 35, 36, 37, 38, 39, 40, 41, 42] (by decide +kernel) (by decide +kernel)
set_option maxRecDepth 20000 in
theorem gX0_coincidencesAt_X0_pointsOfPair : GoodIn wsX0_coincidencesAt (wsV RX0 107 RX0 yX0_pointsOfPair wsX0_pointsOfPair) := goodIn_app (goodIn_of _ (by decide +kernel)) ggX0_coincidencesAt_X0_pointsOfPair
theorem dX0_coincidencesAt_0 : decode cX0_coincidencesAt 0 = .ok (.iload_n 1, 1) := by decide +kernel
theorem dX0_coincidencesAt_1 : decode cX0_coincidencesAt 1 = .ok (.invokestatic 101, 3) := by decide +kernel
theorem dX0_coincidencesAt_4 : decode cX0_coincidencesAt 4 = .ok (.iconst 0, 1) := by decide +kernel
theorem dX0_coincidencesAt_5 : decode cX0_coincidencesAt 5 = .ok (.istore_n 2, 1) := by decide +kernel
theorem dX0_coincidencesAt_6 : decode cX0_coincidencesAt 6 = .ok (.iconst 0, 1) := by decide +kernel
theorem dX0_coincidencesAt_7 : decode cX0_coincidencesAt 7 = .ok (.istore_n 3, 1) := by decide +kernel
theorem dX0_coincidencesAt_8 : decode cX0_coincidencesAt 8 = .ok (.iload_n 3, 1) := by decide +kernel
theorem dX0_coincidencesAt_9 : decode cX0_coincidencesAt 9 = .ok (.aload_n 0, 1) := by decide +kernel
theorem dX0_coincidencesAt_10 : decode cX0_coincidencesAt 10 = .ok (.getfield 22, 3) := by decide +kernel
theorem dX0_coincidencesAt_13 : decode cX0_coincidencesAt 13 = .ok (.if_icmp .ge 60, 3) := by decide +kernel
theorem dX0_coincidencesAt_16 : decode cX0_coincidencesAt 16 = .ok (.iload_n 3, 1) := by decide +kernel
theorem dX0_coincidencesAt_17 : decode cX0_coincidencesAt 17 = .ok (.iconst 1, 1) := by decide +kernel
theorem dX0_coincidencesAt_18 : decode cX0_coincidencesAt 18 = .ok (.iadd, 1) := by decide +kernel
theorem dX0_coincidencesAt_19 : decode cX0_coincidencesAt 19 = .ok (.istore 4, 2) := by decide +kernel
theorem dX0_coincidencesAt_21 : decode cX0_coincidencesAt 21 = .ok (.iload 4, 2) := by decide +kernel
theorem dX0_coincidencesAt_23 : decode cX0_coincidencesAt 23 = .ok (.aload_n 0, 1) := by decide +kernel
theorem dX0_coincidencesAt_24 : decode cX0_coincidencesAt 24 = .ok (.getfield 22, 3) := by decide +kernel
theorem dX0_coincidencesAt_27 : decode cX0_coincidencesAt 27 = .ok (.if_icmp .ge 40, 3) := by decide +kernel
theorem dX0_coincidencesAt_30 : decode cX0_coincidencesAt 30 = .ok (.aload_n 0, 1) := by decide +kernel
theorem dX0_coincidencesAt_31 : decode cX0_coincidencesAt 31 = .ok (.getfield 16, 3) := by decide +kernel
theorem dX0_coincidencesAt_34 : decode cX0_coincidencesAt 34 = .ok (.iload_n 3, 1) := by decide +kernel
theorem dX0_coincidencesAt_35 : decode cX0_coincidencesAt 35 = .ok (.iaload, 1) := by decide +kernel
theorem dX0_coincidencesAt_36 : decode cX0_coincidencesAt 36 = .ok (.iload_n 1, 1) := by decide +kernel
theorem dX0_coincidencesAt_37 : decode cX0_coincidencesAt 37 = .ok (.if_icmp .ne 24, 3) := by decide +kernel
theorem dX0_coincidencesAt_40 : decode cX0_coincidencesAt 40 = .ok (.aload_n 0, 1) := by decide +kernel
theorem dX0_coincidencesAt_41 : decode cX0_coincidencesAt 41 = .ok (.getfield 16, 3) := by decide +kernel
theorem dX0_coincidencesAt_44 : decode cX0_coincidencesAt 44 = .ok (.iload 4, 2) := by decide +kernel
theorem dX0_coincidencesAt_46 : decode cX0_coincidencesAt 46 = .ok (.iaload, 1) := by decide +kernel
theorem dX0_coincidencesAt_47 : decode cX0_coincidencesAt 47 = .ok (.iload_n 1, 1) := by decide +kernel
theorem dX0_coincidencesAt_48 : decode cX0_coincidencesAt 48 = .ok (.if_icmp .ne 13, 3) := by decide +kernel
theorem dX0_coincidencesAt_51 : decode cX0_coincidencesAt 51 = .ok (.iload_n 2, 1) := by decide +kernel
theorem dX0_coincidencesAt_52 : decode cX0_coincidencesAt 52 = .ok (.aload_n 0, 1) := by decide +kernel
theorem dX0_coincidencesAt_53 : decode cX0_coincidencesAt 53 = .ok (.iload_n 3, 1) := by decide +kernel
theorem dX0_coincidencesAt_54 : decode cX0_coincidencesAt 54 = .ok (.iload 4, 2) := by decide +kernel
theorem dX0_coincidencesAt_56 : decode cX0_coincidencesAt 56 = .ok (.invokevirtual 107, 3) := by decide +kernel
theorem dX0_coincidencesAt_59 : decode cX0_coincidencesAt 59 = .ok (.iadd, 1) := by decide +kernel
theorem dX0_coincidencesAt_60 : decode cX0_coincidencesAt 60 = .ok (.istore_n 2, 1) := by decide +kernel
theorem dX0_coincidencesAt_61 : decode cX0_coincidencesAt 61 = .ok (.iinc 4 1, 3) := by decide +kernel
theorem dX0_coincidencesAt_64 : decode cX0_coincidencesAt 64 = .ok (.goto (-43), 3) := by decide +kernel
theorem dX0_coincidencesAt_67 : decode cX0_coincidencesAt 67 = .ok (.iinc 3 1, 3) := by decide +kernel
theorem dX0_coincidencesAt_70 : decode cX0_coincidencesAt 70 = .ok (.goto (-62), 3) := by decide +kernel
theorem dX0_coincidencesAt_73 : decode cX0_coincidencesAt 73 = .ok (.iload_n 2, 1) := by decide +kernel
theorem dX0_coincidencesAt_74 : decode cX0_coincidencesAt 74 = .ok (.ireturn, 1) := by decide +kernel
set_option maxRecDepth 20000 in
theorem ggX0_luckOf_X0_requireStranger : GoodIn wsX0_luckOf wsX0_requireStranger := goodIn_ca (goodIn_r _ [5, 6, 7, 8, 36, 37, 38, 39, 40, 41, 42, 43, 44] (by decide +kernel) (by decide +kernel)) (goodIn_sub (fun _ h => List.mem_cons_of_mem _ (List.mem_append_right _ h)) (by decide +kernel))
set_option maxRecDepth 20000 in
theorem gX0_luckOf_X0_requireStranger : GoodIn wsX0_luckOf (wsV RX0 63 RX0 yX0_requireStranger wsX0_requireStranger) := goodIn_app (goodIn_of _ (by decide +kernel)) ggX0_luckOf_X0_requireStranger
set_option maxRecDepth 20000 in
theorem ggX0_luckOf_X0_luckNow : GoodIn wsX0_luckOf wsX0_luckNow := goodIn_r _ [12, 13, 14, 15, 16, 17, 4, 18, 8, 19, 20, 21, 22, 23, 24, 25, 26, 27, 28, 29, 30, 31, 32, 33, 34, 35, 36, 37, 38, 39, 40, 41, 42, 43, 44] (by decide +kernel) (by decide +kernel)
set_option maxRecDepth 20000 in
theorem gX0_luckOf_X0_luckNow : GoodIn wsX0_luckOf (wsV RX0 114 RX0 yX0_luckNow wsX0_luckNow) := goodIn_app (goodIn_of _ (by decide +kernel)) ggX0_luckOf_X0_luckNow
theorem dX0_luckOf_0 : decode cX0_luckOf 0 = .ok (.aload_n 0, 1) := by decide +kernel
theorem dX0_luckOf_1 : decode cX0_luckOf 1 = .ok (.iload_n 1, 1) := by decide +kernel
theorem dX0_luckOf_2 : decode cX0_luckOf 2 = .ok (.invokevirtual 63, 3) := by decide +kernel
theorem dX0_luckOf_5 : decode cX0_luckOf 5 = .ok (.aload_n 0, 1) := by decide +kernel
theorem dX0_luckOf_6 : decode cX0_luckOf 6 = .ok (.iload_n 1, 1) := by decide +kernel
theorem dX0_luckOf_7 : decode cX0_luckOf 7 = .ok (.invokevirtual 114, 3) := by decide +kernel
theorem dX0_luckOf_10 : decode cX0_luckOf 10 = .ok (.ireturn, 1) := by decide +kernel
set_option maxRecDepth 20000 in
theorem ggX0_luckiestPair_X0_pointsOfPair : GoodIn wsX0_luckiestPair wsX0_pointsOfPair := goodIn_r _ [6, 7, 8, 9, 10, 5, 11, 12, 13, 14, 15, 16, 17, 18, 19, 20, 21, 22, 23, 24, 25, 26, 27, 28, 29, 30, 31, 32, 33] (by decide +kernel) (by decide +kernel)
set_option maxRecDepth 20000 in
theorem gX0_luckiestPair_X0_pointsOfPair : GoodIn wsX0_luckiestPair (wsV RX0 107 RX0 yX0_pointsOfPair wsX0_pointsOfPair) := goodIn_app (goodIn_of _ (by decide +kernel)) ggX0_luckiestPair_X0_pointsOfPair
theorem dX0_luckiestPair_0 : decode cX0_luckiestPair 0 = .ok (.iconst (-1), 1) := by decide +kernel
theorem dX0_luckiestPair_1 : decode cX0_luckiestPair 1 = .ok (.istore_n 1, 1) := by decide +kernel
theorem dX0_luckiestPair_2 : decode cX0_luckiestPair 2 = .ok (.iconst (-1), 1) := by decide +kernel
theorem dX0_luckiestPair_3 : decode cX0_luckiestPair 3 = .ok (.istore_n 2, 1) := by decide +kernel
theorem dX0_luckiestPair_4 : decode cX0_luckiestPair 4 = .ok (.iconst 0, 1) := by decide +kernel
theorem dX0_luckiestPair_5 : decode cX0_luckiestPair 5 = .ok (.istore_n 3, 1) := by decide +kernel
theorem dX0_luckiestPair_6 : decode cX0_luckiestPair 6 = .ok (.iload_n 3, 1) := by decide +kernel
theorem dX0_luckiestPair_7 : decode cX0_luckiestPair 7 = .ok (.aload_n 0, 1) := by decide +kernel
theorem dX0_luckiestPair_8 : decode cX0_luckiestPair 8 = .ok (.getfield 22, 3) := by decide +kernel
theorem dX0_luckiestPair_11 : decode cX0_luckiestPair 11 = .ok (.if_icmp .ge 55, 3) := by decide +kernel
theorem dX0_luckiestPair_14 : decode cX0_luckiestPair 14 = .ok (.iload_n 3, 1) := by decide +kernel
theorem dX0_luckiestPair_15 : decode cX0_luckiestPair 15 = .ok (.iconst 1, 1) := by decide +kernel
theorem dX0_luckiestPair_16 : decode cX0_luckiestPair 16 = .ok (.iadd, 1) := by decide +kernel
theorem dX0_luckiestPair_17 : decode cX0_luckiestPair 17 = .ok (.istore 4, 2) := by decide +kernel
theorem dX0_luckiestPair_19 : decode cX0_luckiestPair 19 = .ok (.iload 4, 2) := by decide +kernel
theorem dX0_luckiestPair_21 : decode cX0_luckiestPair 21 = .ok (.aload_n 0, 1) := by decide +kernel
theorem dX0_luckiestPair_22 : decode cX0_luckiestPair 22 = .ok (.getfield 22, 3) := by decide +kernel
theorem dX0_luckiestPair_25 : decode cX0_luckiestPair 25 = .ok (.if_icmp .ge 35, 3) := by decide +kernel
theorem dX0_luckiestPair_28 : decode cX0_luckiestPair 28 = .ok (.aload_n 0, 1) := by decide +kernel
theorem dX0_luckiestPair_29 : decode cX0_luckiestPair 29 = .ok (.iload_n 3, 1) := by decide +kernel
theorem dX0_luckiestPair_30 : decode cX0_luckiestPair 30 = .ok (.iload 4, 2) := by decide +kernel
theorem dX0_luckiestPair_32 : decode cX0_luckiestPair 32 = .ok (.invokevirtual 107, 3) := by decide +kernel
theorem dX0_luckiestPair_35 : decode cX0_luckiestPair 35 = .ok (.istore 5, 2) := by decide +kernel
theorem dX0_luckiestPair_37 : decode cX0_luckiestPair 37 = .ok (.iload 5, 2) := by decide +kernel
theorem dX0_luckiestPair_39 : decode cX0_luckiestPair 39 = .ok (.iload_n 2, 1) := by decide +kernel
theorem dX0_luckiestPair_40 : decode cX0_luckiestPair 40 = .ok (.if_icmp .le 14, 3) := by decide +kernel
theorem dX0_luckiestPair_43 : decode cX0_luckiestPair 43 = .ok (.iload 5, 2) := by decide +kernel
theorem dX0_luckiestPair_45 : decode cX0_luckiestPair 45 = .ok (.istore_n 2, 1) := by decide +kernel
theorem dX0_luckiestPair_46 : decode cX0_luckiestPair 46 = .ok (.bipush 100, 2) := by decide +kernel
theorem dX0_luckiestPair_48 : decode cX0_luckiestPair 48 = .ok (.iload_n 3, 1) := by decide +kernel
theorem dX0_luckiestPair_49 : decode cX0_luckiestPair 49 = .ok (.imul, 1) := by decide +kernel
theorem dX0_luckiestPair_50 : decode cX0_luckiestPair 50 = .ok (.iload 4, 2) := by decide +kernel
theorem dX0_luckiestPair_52 : decode cX0_luckiestPair 52 = .ok (.iadd, 1) := by decide +kernel
theorem dX0_luckiestPair_53 : decode cX0_luckiestPair 53 = .ok (.istore_n 1, 1) := by decide +kernel
theorem dX0_luckiestPair_54 : decode cX0_luckiestPair 54 = .ok (.iinc 4 1, 3) := by decide +kernel
theorem dX0_luckiestPair_57 : decode cX0_luckiestPair 57 = .ok (.goto (-38), 3) := by decide +kernel
theorem dX0_luckiestPair_60 : decode cX0_luckiestPair 60 = .ok (.iinc 3 1, 3) := by decide +kernel
theorem dX0_luckiestPair_63 : decode cX0_luckiestPair 63 = .ok (.goto (-57), 3) := by decide +kernel
theorem dX0_luckiestPair_66 : decode cX0_luckiestPair 66 = .ok (.iload_n 1, 1) := by decide +kernel
theorem dX0_luckiestPair_67 : decode cX0_luckiestPair 67 = .ok (.ireturn, 1) := by decide +kernel
set_option maxRecDepth 20000 in
theorem ggX0_coincidencesIn_X0_townBehind : GoodIn wsX0_coincidencesIn wsX0_townBehind := goodIn_r _ [7, 8, 9, 10, 11, 6, 12, 13, 14, 15, 16, 17, 18, 19, 20, 21, 22, 23, 24, 25, 26, 27, 28, 29, 30, 31, 32, 33, 34, 35, 36, 37, 38, 39, 40, 41, 42, 43, 44, 45] (by decide +kernel) (by decide +kernel)
set_option maxRecDepth 20000 in
theorem gX0_coincidencesIn_X0_townBehind : GoodIn wsX0_coincidencesIn (wsV RX0 86 RX0 yX0_townBehind wsX0_townBehind) := goodIn_app (goodIn_of _ (by decide +kernel)) ggX0_coincidencesIn_X0_townBehind
theorem dX0_coincidencesIn_0 : decode cX0_coincidencesIn 0 = .ok (.iload_n 1, 1) := by decide +kernel
theorem dX0_coincidencesIn_1 : decode cX0_coincidencesIn 1 = .ok (.ifCond .lt 9, 3) := by decide +kernel
theorem dX0_coincidencesIn_4 : decode cX0_coincidencesIn 4 = .ok (.iload_n 1, 1) := by decide +kernel
theorem dX0_coincidencesIn_5 : decode cX0_coincidencesIn 5 = .ok (.bipush 60, 2) := by decide +kernel
theorem dX0_coincidencesIn_7 : decode cX0_coincidencesIn 7 = .ok (.if_icmp .le 13, 3) := by decide +kernel
theorem dX0_coincidencesIn_10 : decode cX0_coincidencesIn 10 = .ok (.new 51, 3) := by decide +kernel
theorem dX0_coincidencesIn_13 : decode cX0_coincidencesIn 13 = .ok (.dup, 1) := by decide +kernel
theorem dX0_coincidencesIn_14 : decode cX0_coincidencesIn 14 = .ok (.ldc 117, 2) := by decide +kernel
theorem dX0_coincidencesIn_16 : decode cX0_coincidencesIn 16 = .ok (.invokespecial 55, 3) := by decide +kernel
theorem dX0_coincidencesIn_19 : decode cX0_coincidencesIn 19 = .ok (.athrow, 1) := by decide +kernel
theorem dX0_coincidencesIn_20 : decode cX0_coincidencesIn 20 = .ok (.aload_n 0, 1) := by decide +kernel
theorem dX0_coincidencesIn_21 : decode cX0_coincidencesIn 21 = .ok (.iload_n 1, 1) := by decide +kernel
theorem dX0_coincidencesIn_22 : decode cX0_coincidencesIn 22 = .ok (.invokevirtual 86, 3) := by decide +kernel
theorem dX0_coincidencesIn_25 : decode cX0_coincidencesIn 25 = .ok (.ireturn, 1) := by decide +kernel
set_option maxRecDepth 20000 in
theorem ggX0_hoursUntilTogether_X0_requirePair : GoodIn wsX0_hoursUntilTogether wsX0_requirePair := goodIn_ca (goodIn_ca (goodIn_r _ [5, 6, 7, 8, 9, 10, 4, 11, 12, 13, 14, 21, 22, 23, 24, 25, 26, 27, 28, 29] (by decide +kernel) (by decide +kernel)) (goodIn_sub (fun _ h => List.mem_cons_of_mem _ (List.mem_append_left _ (List.mem_append_right _ h))) (by decide +kernel))) (goodIn_sub (fun _ h => List.mem_cons_of_mem _ (List.mem_append_right _ h)) (by decide +kernel))
set_option maxRecDepth 20000 in
theorem gX0_hoursUntilTogether_X0_requirePair : GoodIn wsX0_hoursUntilTogether (wsV RX0 80 RX0 yX0_requirePair wsX0_requirePair) := goodIn_app (goodIn_of _ (by decide +kernel)) ggX0_hoursUntilTogether_X0_requirePair
set_option maxRecDepth 20000 in
theorem ggX0_hoursUntilTogether_X0_cornerBehind : GoodIn wsX0_hoursUntilTogether wsX0_cornerBehind := goodIn_r _ [18, 19, 20, 21, 22, 23, 24, 25, 26, 27, 28, 29] (by decide +kernel) (by decide +kernel)
set_option maxRecDepth 20000 in
theorem gX0_hoursUntilTogether_X0_cornerBehind : GoodIn wsX0_hoursUntilTogether (wsV RX0 119 RX0 yX0_cornerBehind wsX0_cornerBehind) := goodIn_app (goodIn_of _ (by decide +kernel)) ggX0_hoursUntilTogether_X0_cornerBehind
theorem dX0_hoursUntilTogether_0 : decode cX0_hoursUntilTogether 0 = .ok (.aload_n 0, 1) := by decide +kernel
theorem dX0_hoursUntilTogether_1 : decode cX0_hoursUntilTogether 1 = .ok (.iload_n 1, 1) := by decide +kernel
theorem dX0_hoursUntilTogether_2 : decode cX0_hoursUntilTogether 2 = .ok (.iload_n 2, 1) := by decide +kernel
theorem dX0_hoursUntilTogether_3 : decode cX0_hoursUntilTogether 3 = .ok (.invokevirtual 80, 3) := by decide +kernel
theorem dX0_hoursUntilTogether_6 : decode cX0_hoursUntilTogether 6 = .ok (.iconst 0, 1) := by decide +kernel
theorem dX0_hoursUntilTogether_7 : decode cX0_hoursUntilTogether 7 = .ok (.istore_n 3, 1) := by decide +kernel
theorem dX0_hoursUntilTogether_8 : decode cX0_hoursUntilTogether 8 = .ok (.iload_n 3, 1) := by decide +kernel
theorem dX0_hoursUntilTogether_9 : decode cX0_hoursUntilTogether 9 = .ok (.bipush 6, 2) := by decide +kernel
theorem dX0_hoursUntilTogether_11 : decode cX0_hoursUntilTogether 11 = .ok (.if_icmp .ge 26, 3) := by decide +kernel
theorem dX0_hoursUntilTogether_14 : decode cX0_hoursUntilTogether 14 = .ok (.aload_n 0, 1) := by decide +kernel
theorem dX0_hoursUntilTogether_15 : decode cX0_hoursUntilTogether 15 = .ok (.iload_n 1, 1) := by decide +kernel
theorem dX0_hoursUntilTogether_16 : decode cX0_hoursUntilTogether 16 = .ok (.iload_n 3, 1) := by decide +kernel
theorem dX0_hoursUntilTogether_17 : decode cX0_hoursUntilTogether 17 = .ok (.invokevirtual 119, 3) := by decide +kernel
theorem dX0_hoursUntilTogether_20 : decode cX0_hoursUntilTogether 20 = .ok (.aload_n 0, 1) := by decide +kernel
theorem dX0_hoursUntilTogether_21 : decode cX0_hoursUntilTogether 21 = .ok (.iload_n 2, 1) := by decide +kernel
theorem dX0_hoursUntilTogether_22 : decode cX0_hoursUntilTogether 22 = .ok (.iload_n 3, 1) := by decide +kernel
theorem dX0_hoursUntilTogether_23 : decode cX0_hoursUntilTogether 23 = .ok (.invokevirtual 119, 3) := by decide +kernel
theorem dX0_hoursUntilTogether_26 : decode cX0_hoursUntilTogether 26 = .ok (.if_icmp .ne 5, 3) := by decide +kernel
theorem dX0_hoursUntilTogether_29 : decode cX0_hoursUntilTogether 29 = .ok (.iload_n 3, 1) := by decide +kernel
theorem dX0_hoursUntilTogether_30 : decode cX0_hoursUntilTogether 30 = .ok (.ireturn, 1) := by decide +kernel
theorem dX0_hoursUntilTogether_31 : decode cX0_hoursUntilTogether 31 = .ok (.iinc 3 1, 3) := by decide +kernel
theorem dX0_hoursUntilTogether_34 : decode cX0_hoursUntilTogether 34 = .ok (.goto (-26), 3) := by decide +kernel
theorem dX0_hoursUntilTogether_37 : decode cX0_hoursUntilTogether 37 = .ok (.iconst (-1), 1) := by decide +kernel
theorem dX0_hoursUntilTogether_38 : decode cX0_hoursUntilTogether 38 = .ok (.ireturn, 1) := by decide +kernel
set_option maxRecDepth 20000 in
theorem ggX0_costOfMeeting_X0_requirePair : GoodIn wsX0_costOfMeeting wsX0_requirePair := goodIn_ca (goodIn_ca (goodIn_r _ [6, 7, 8, 9, 10, 11, 5, 12, 13, 14, 15, 26, 27, 28, 29, 30, 31, 32, 33, 34] (by decide +kernel) (by decide +kernel)) (goodIn_sub (fun _ h => List.mem_cons_of_mem _ (List.mem_append_left _ (List.mem_append_right _ h))) (by decide +kernel))) (goodIn_sub (fun _ h => List.mem_cons_of_mem _ (List.mem_append_right _ h)) (by decide +kernel))
set_option maxRecDepth 20000 in
theorem gX0_costOfMeeting_X0_requirePair : GoodIn wsX0_costOfMeeting (wsV RX0 80 RX0 yX0_requirePair wsX0_requirePair) := goodIn_app (goodIn_of _ (by decide +kernel)) ggX0_costOfMeeting_X0_requirePair
set_option maxRecDepth 20000 in
theorem ggX0_costOfMeeting_X0_costOfWay : GoodIn wsX0_costOfMeeting wsX0_costOfWay := goodIn_r _ [18, 19, 20, 21, 22, 23, 24, 25] (by decide +kernel) (by decide +kernel)
set_option maxRecDepth 20000 in
theorem gX0_costOfMeeting_X0_costOfWay : GoodIn wsX0_costOfMeeting (va_wsS RX0 73 yX0_costOfWay wsX0_costOfWay) := goodIn_app (goodIn_of _ (by decide +kernel)) ggX0_costOfMeeting_X0_costOfWay
theorem dX0_costOfMeeting_0 : decode cX0_costOfMeeting 0 = .ok (.aload_n 0, 1) := by decide +kernel
theorem dX0_costOfMeeting_1 : decode cX0_costOfMeeting 1 = .ok (.iload_n 1, 1) := by decide +kernel
theorem dX0_costOfMeeting_2 : decode cX0_costOfMeeting 2 = .ok (.iload_n 2, 1) := by decide +kernel
theorem dX0_costOfMeeting_3 : decode cX0_costOfMeeting 3 = .ok (.invokevirtual 80, 3) := by decide +kernel
theorem dX0_costOfMeeting_6 : decode cX0_costOfMeeting 6 = .ok (.aload_n 0, 1) := by decide +kernel
theorem dX0_costOfMeeting_7 : decode cX0_costOfMeeting 7 = .ok (.getfield 16, 3) := by decide +kernel
theorem dX0_costOfMeeting_10 : decode cX0_costOfMeeting 10 = .ok (.iload_n 1, 1) := by decide +kernel
theorem dX0_costOfMeeting_11 : decode cX0_costOfMeeting 11 = .ok (.iaload, 1) := by decide +kernel
theorem dX0_costOfMeeting_12 : decode cX0_costOfMeeting 12 = .ok (.aload_n 0, 1) := by decide +kernel
theorem dX0_costOfMeeting_13 : decode cX0_costOfMeeting 13 = .ok (.getfield 16, 3) := by decide +kernel
theorem dX0_costOfMeeting_16 : decode cX0_costOfMeeting 16 = .ok (.iload_n 2, 1) := by decide +kernel
theorem dX0_costOfMeeting_17 : decode cX0_costOfMeeting 17 = .ok (.iaload, 1) := by decide +kernel
theorem dX0_costOfMeeting_18 : decode cX0_costOfMeeting 18 = .ok (.invokestatic 73, 3) := by decide +kernel
theorem dX0_costOfMeeting_21 : decode cX0_costOfMeeting 21 = .ok (.ireturn, 1) := by decide +kernel
set_option maxRecDepth 20000 in
theorem ggX0_bestHour_X0_townBehind : GoodIn wsX0_bestHour wsX0_townBehind := goodIn_r _ [5, 6, 7, 8, 9, 4, 10, 11, 12, 13, 14, 15, 16, 17, 18, 19, 20, 21, 22, 23, 24, 25, 26, 27, 28, 29, 30, 31, 32, 33, 34, 35, 36, 37, 38, 39, 40, 41, 42, 43] (by decide +kernel) (by decide +kernel)
set_option maxRecDepth 20000 in
theorem gX0_bestHour_X0_townBehind : GoodIn wsX0_bestHour (wsV RX0 86 RX0 yX0_townBehind wsX0_townBehind) := goodIn_app (goodIn_of _ (by decide +kernel)) ggX0_bestHour_X0_townBehind
theorem dX0_bestHour_0 : decode cX0_bestHour 0 = .ok (.iconst 1, 1) := by decide +kernel
theorem dX0_bestHour_1 : decode cX0_bestHour 1 = .ok (.istore_n 1, 1) := by decide +kernel
theorem dX0_bestHour_2 : decode cX0_bestHour 2 = .ok (.aload_n 0, 1) := by decide +kernel
theorem dX0_bestHour_3 : decode cX0_bestHour 3 = .ok (.iconst 1, 1) := by decide +kernel
theorem dX0_bestHour_4 : decode cX0_bestHour 4 = .ok (.invokevirtual 86, 3) := by decide +kernel
theorem dX0_bestHour_7 : decode cX0_bestHour 7 = .ok (.istore_n 2, 1) := by decide +kernel
theorem dX0_bestHour_8 : decode cX0_bestHour 8 = .ok (.iconst 2, 1) := by decide +kernel
theorem dX0_bestHour_9 : decode cX0_bestHour 9 = .ok (.istore_n 3, 1) := by decide +kernel
theorem dX0_bestHour_10 : decode cX0_bestHour 10 = .ok (.iload_n 3, 1) := by decide +kernel
theorem dX0_bestHour_11 : decode cX0_bestHour 11 = .ok (.bipush 6, 2) := by decide +kernel
theorem dX0_bestHour_13 : decode cX0_bestHour 13 = .ok (.if_icmp .gt 27, 3) := by decide +kernel
theorem dX0_bestHour_16 : decode cX0_bestHour 16 = .ok (.aload_n 0, 1) := by decide +kernel
theorem dX0_bestHour_17 : decode cX0_bestHour 17 = .ok (.iload_n 3, 1) := by decide +kernel
theorem dX0_bestHour_18 : decode cX0_bestHour 18 = .ok (.invokevirtual 86, 3) := by decide +kernel
theorem dX0_bestHour_21 : decode cX0_bestHour 21 = .ok (.istore 4, 2) := by decide +kernel
theorem dX0_bestHour_23 : decode cX0_bestHour 23 = .ok (.iload 4, 2) := by decide +kernel
theorem dX0_bestHour_25 : decode cX0_bestHour 25 = .ok (.iload_n 2, 1) := by decide +kernel
theorem dX0_bestHour_26 : decode cX0_bestHour 26 = .ok (.if_icmp .le 8, 3) := by decide +kernel
theorem dX0_bestHour_29 : decode cX0_bestHour 29 = .ok (.iload 4, 2) := by decide +kernel
theorem dX0_bestHour_31 : decode cX0_bestHour 31 = .ok (.istore_n 2, 1) := by decide +kernel
theorem dX0_bestHour_32 : decode cX0_bestHour 32 = .ok (.iload_n 3, 1) := by decide +kernel
theorem dX0_bestHour_33 : decode cX0_bestHour 33 = .ok (.istore_n 1, 1) := by decide +kernel
theorem dX0_bestHour_34 : decode cX0_bestHour 34 = .ok (.iinc 3 1, 3) := by decide +kernel
theorem dX0_bestHour_37 : decode cX0_bestHour 37 = .ok (.goto (-27), 3) := by decide +kernel
theorem dX0_bestHour_40 : decode cX0_bestHour 40 = .ok (.iload_n 1, 1) := by decide +kernel
theorem dX0_bestHour_41 : decode cX0_bestHour 41 = .ok (.ireturn, 1) := by decide +kernel
set_option maxRecDepth 20000 in
theorem ggX0_bestCorner_X0_requireStranger : GoodIn wsX0_bestCorner wsX0_requireStranger := goodIn_ca (goodIn_r _ [6, 7, 8, 9, 32, 33, 34, 35, 36, 37, 38, 39, 40] (by decide +kernel) (by decide +kernel)) (goodIn_sub (fun _ h => List.mem_cons_of_mem _ (List.mem_append_right _ h)) (by decide +kernel))
set_option maxRecDepth 20000 in
theorem gX0_bestCorner_X0_requireStranger : GoodIn wsX0_bestCorner (wsV RX0 63 RX0 yX0_requireStranger wsX0_requireStranger) := goodIn_app (goodIn_of _ (by decide +kernel)) ggX0_bestCorner_X0_requireStranger
set_option maxRecDepth 20000 in
theorem ggX0_bestCorner_X0_luckWith : GoodIn wsX0_bestCorner wsX0_luckWith := goodIn_r _ [13, 9, 14, 1, 15, 16, 17, 5, 18, 19, 20, 21, 22, 23, 24, 25, 26, 27, 28, 29, 30, 31, 32, 33, 34, 35, 36, 37, 38, 39, 40] (by decide +kernel) (by decide +kernel)
set_option maxRecDepth 20000 in
theorem gX0_bestCorner_X0_luckWith : GoodIn wsX0_bestCorner (wsV RX0 122 RX0 yX0_luckWith wsX0_luckWith) := goodIn_app (goodIn_of _ (by decide +kernel)) ggX0_bestCorner_X0_luckWith
theorem dX0_bestCorner_0 : decode cX0_bestCorner 0 = .ok (.aload_n 0, 1) := by decide +kernel
theorem dX0_bestCorner_1 : decode cX0_bestCorner 1 = .ok (.iload_n 1, 1) := by decide +kernel
theorem dX0_bestCorner_2 : decode cX0_bestCorner 2 = .ok (.invokevirtual 63, 3) := by decide +kernel
theorem dX0_bestCorner_5 : decode cX0_bestCorner 5 = .ok (.iconst 0, 1) := by decide +kernel
theorem dX0_bestCorner_6 : decode cX0_bestCorner 6 = .ok (.istore_n 2, 1) := by decide +kernel
theorem dX0_bestCorner_7 : decode cX0_bestCorner 7 = .ok (.iconst (-1), 1) := by decide +kernel
theorem dX0_bestCorner_8 : decode cX0_bestCorner 8 = .ok (.istore_n 3, 1) := by decide +kernel
theorem dX0_bestCorner_9 : decode cX0_bestCorner 9 = .ok (.iconst 0, 1) := by decide +kernel
theorem dX0_bestCorner_10 : decode cX0_bestCorner 10 = .ok (.istore 4, 2) := by decide +kernel
theorem dX0_bestCorner_12 : decode cX0_bestCorner 12 = .ok (.iload 4, 2) := by decide +kernel
theorem dX0_bestCorner_14 : decode cX0_bestCorner 14 = .ok (.bipush 6, 2) := by decide +kernel
theorem dX0_bestCorner_16 : decode cX0_bestCorner 16 = .ok (.if_icmp .ge 36, 3) := by decide +kernel
theorem dX0_bestCorner_19 : decode cX0_bestCorner 19 = .ok (.aload_n 0, 1) := by decide +kernel
theorem dX0_bestCorner_20 : decode cX0_bestCorner 20 = .ok (.iload_n 1, 1) := by decide +kernel
theorem dX0_bestCorner_21 : decode cX0_bestCorner 21 = .ok (.aload_n 0, 1) := by decide +kernel
theorem dX0_bestCorner_22 : decode cX0_bestCorner 22 = .ok (.getfield 9, 3) := by decide +kernel
theorem dX0_bestCorner_25 : decode cX0_bestCorner 25 = .ok (.iload_n 1, 1) := by decide +kernel
theorem dX0_bestCorner_26 : decode cX0_bestCorner 26 = .ok (.iaload, 1) := by decide +kernel
theorem dX0_bestCorner_27 : decode cX0_bestCorner 27 = .ok (.iload 4, 2) := by decide +kernel
theorem dX0_bestCorner_29 : decode cX0_bestCorner 29 = .ok (.invokevirtual 122, 3) := by decide +kernel
theorem dX0_bestCorner_32 : decode cX0_bestCorner 32 = .ok (.istore 5, 2) := by decide +kernel
theorem dX0_bestCorner_34 : decode cX0_bestCorner 34 = .ok (.iload 5, 2) := by decide +kernel
theorem dX0_bestCorner_36 : decode cX0_bestCorner 36 = .ok (.iload_n 3, 1) := by decide +kernel
theorem dX0_bestCorner_37 : decode cX0_bestCorner 37 = .ok (.if_icmp .le 9, 3) := by decide +kernel
theorem dX0_bestCorner_40 : decode cX0_bestCorner 40 = .ok (.iload 5, 2) := by decide +kernel
theorem dX0_bestCorner_42 : decode cX0_bestCorner 42 = .ok (.istore_n 3, 1) := by decide +kernel
theorem dX0_bestCorner_43 : decode cX0_bestCorner 43 = .ok (.iload 4, 2) := by decide +kernel
theorem dX0_bestCorner_45 : decode cX0_bestCorner 45 = .ok (.istore_n 2, 1) := by decide +kernel
theorem dX0_bestCorner_46 : decode cX0_bestCorner 46 = .ok (.iinc 4 1, 3) := by decide +kernel
theorem dX0_bestCorner_49 : decode cX0_bestCorner 49 = .ok (.goto (-37), 3) := by decide +kernel
theorem dX0_bestCorner_52 : decode cX0_bestCorner 52 = .ok (.iload_n 2, 1) := by decide +kernel
theorem dX0_bestCorner_53 : decode cX0_bestCorner 53 = .ok (.ireturn, 1) := by decide +kernel
set_option maxRecDepth 20000 in
theorem ggX0_bestSwap_X0_townBehind : GoodIn wsX0_bestSwap wsX0_townBehind := goodIn_r _ [6, 1, 7, 8, 9, 5, 10, 11, 12, 13, 14, 15, 16, 17, 18, 19, 20, 21, 22, 23, 24, 25, 26, 27, 28, 29, 30, 31, 32, 33, 34, 42, 43, 44, 45, 46, 47, 48, 49, 50] (by decide +kernel) (by decide +kernel)
set_option maxRecDepth 20000 in
theorem gX0_bestSwap_X0_townBehind : GoodIn wsX0_bestSwap (wsV RX0 86 RX0 yX0_townBehind wsX0_townBehind) := goodIn_app (goodIn_of _ (by decide +kernel)) ggX0_bestSwap_X0_townBehind
set_option maxRecDepth 20000 in
theorem ggX0_bestSwap_X0_townIfSwapped : GoodIn wsX0_bestSwap wsX0_townIfSwapped := goodIn_r _ [38, 17, 39, 40, 5, 41, 2, 3, 4, 6, 1, 7, 8, 9, 10, 11, 12, 13, 14, 15, 16, 18, 19, 20, 21, 22, 23, 24, 25, 26, 27, 28, 29, 30, 31, 32, 33, 34, 42, 43, 44, 45, 46, 47, 48, 49, 50] (by decide +kernel) (by decide +kernel)
set_option maxRecDepth 20000 in
theorem gX0_bestSwap_X0_townIfSwapped : GoodIn wsX0_bestSwap (wsV RX0 126 RX0 yX0_townIfSwapped wsX0_townIfSwapped) := goodIn_app (goodIn_of _ (by decide +kernel)) ggX0_bestSwap_X0_townIfSwapped
theorem dX0_bestSwap_0 : decode cX0_bestSwap 0 = .ok (.iconst (-1), 1) := by decide +kernel
theorem dX0_bestSwap_1 : decode cX0_bestSwap 1 = .ok (.istore_n 1, 1) := by decide +kernel
theorem dX0_bestSwap_2 : decode cX0_bestSwap 2 = .ok (.aload_n 0, 1) := by decide +kernel
theorem dX0_bestSwap_3 : decode cX0_bestSwap 3 = .ok (.iconst 0, 1) := by decide +kernel
theorem dX0_bestSwap_4 : decode cX0_bestSwap 4 = .ok (.invokevirtual 86, 3) := by decide +kernel
theorem dX0_bestSwap_7 : decode cX0_bestSwap 7 = .ok (.istore_n 2, 1) := by decide +kernel
theorem dX0_bestSwap_8 : decode cX0_bestSwap 8 = .ok (.iconst 0, 1) := by decide +kernel
theorem dX0_bestSwap_9 : decode cX0_bestSwap 9 = .ok (.istore_n 3, 1) := by decide +kernel
theorem dX0_bestSwap_10 : decode cX0_bestSwap 10 = .ok (.iload_n 3, 1) := by decide +kernel
theorem dX0_bestSwap_11 : decode cX0_bestSwap 11 = .ok (.aload_n 0, 1) := by decide +kernel
theorem dX0_bestSwap_12 : decode cX0_bestSwap 12 = .ok (.getfield 22, 3) := by decide +kernel
theorem dX0_bestSwap_15 : decode cX0_bestSwap 15 = .ok (.if_icmp .ge 55, 3) := by decide +kernel
theorem dX0_bestSwap_18 : decode cX0_bestSwap 18 = .ok (.iload_n 3, 1) := by decide +kernel
theorem dX0_bestSwap_19 : decode cX0_bestSwap 19 = .ok (.iconst 1, 1) := by decide +kernel
theorem dX0_bestSwap_20 : decode cX0_bestSwap 20 = .ok (.iadd, 1) := by decide +kernel
theorem dX0_bestSwap_21 : decode cX0_bestSwap 21 = .ok (.istore 4, 2) := by decide +kernel
theorem dX0_bestSwap_23 : decode cX0_bestSwap 23 = .ok (.iload 4, 2) := by decide +kernel
theorem dX0_bestSwap_25 : decode cX0_bestSwap 25 = .ok (.aload_n 0, 1) := by decide +kernel
theorem dX0_bestSwap_26 : decode cX0_bestSwap 26 = .ok (.getfield 22, 3) := by decide +kernel
theorem dX0_bestSwap_29 : decode cX0_bestSwap 29 = .ok (.if_icmp .ge 35, 3) := by decide +kernel
theorem dX0_bestSwap_32 : decode cX0_bestSwap 32 = .ok (.aload_n 0, 1) := by decide +kernel
theorem dX0_bestSwap_33 : decode cX0_bestSwap 33 = .ok (.iload_n 3, 1) := by decide +kernel
theorem dX0_bestSwap_34 : decode cX0_bestSwap 34 = .ok (.iload 4, 2) := by decide +kernel
theorem dX0_bestSwap_36 : decode cX0_bestSwap 36 = .ok (.invokevirtual 126, 3) := by decide +kernel
theorem dX0_bestSwap_39 : decode cX0_bestSwap 39 = .ok (.istore 5, 2) := by decide +kernel
theorem dX0_bestSwap_41 : decode cX0_bestSwap 41 = .ok (.iload 5, 2) := by decide +kernel
theorem dX0_bestSwap_43 : decode cX0_bestSwap 43 = .ok (.iload_n 2, 1) := by decide +kernel
theorem dX0_bestSwap_44 : decode cX0_bestSwap 44 = .ok (.if_icmp .le 14, 3) := by decide +kernel
theorem dX0_bestSwap_47 : decode cX0_bestSwap 47 = .ok (.iload 5, 2) := by decide +kernel
theorem dX0_bestSwap_49 : decode cX0_bestSwap 49 = .ok (.istore_n 2, 1) := by decide +kernel
theorem dX0_bestSwap_50 : decode cX0_bestSwap 50 = .ok (.bipush 100, 2) := by decide +kernel
theorem dX0_bestSwap_52 : decode cX0_bestSwap 52 = .ok (.iload_n 3, 1) := by decide +kernel
theorem dX0_bestSwap_53 : decode cX0_bestSwap 53 = .ok (.imul, 1) := by decide +kernel
theorem dX0_bestSwap_54 : decode cX0_bestSwap 54 = .ok (.iload 4, 2) := by decide +kernel
theorem dX0_bestSwap_56 : decode cX0_bestSwap 56 = .ok (.iadd, 1) := by decide +kernel
theorem dX0_bestSwap_57 : decode cX0_bestSwap 57 = .ok (.istore_n 1, 1) := by decide +kernel
theorem dX0_bestSwap_58 : decode cX0_bestSwap 58 = .ok (.iinc 4 1, 3) := by decide +kernel
theorem dX0_bestSwap_61 : decode cX0_bestSwap 61 = .ok (.goto (-38), 3) := by decide +kernel
theorem dX0_bestSwap_64 : decode cX0_bestSwap 64 = .ok (.iinc 3 1, 3) := by decide +kernel
theorem dX0_bestSwap_67 : decode cX0_bestSwap 67 = .ok (.goto (-57), 3) := by decide +kernel
theorem dX0_bestSwap_70 : decode cX0_bestSwap 70 = .ok (.iload_n 1, 1) := by decide +kernel
theorem dX0_bestSwap_71 : decode cX0_bestSwap 71 = .ok (.ireturn, 1) := by decide +kernel
set_option maxRecDepth 20000 in
theorem ggX0_bestTicket_X0_requireStranger : GoodIn wsX0_bestTicket wsX0_requireStranger := goodIn_ca (goodIn_r _ [6, 7, 8, 9, 32, 33, 34, 35, 36, 37, 38, 39, 40] (by decide +kernel) (by decide +kernel)) (goodIn_sub (fun _ h => List.mem_cons_of_mem _ (List.mem_append_right _ h)) (by decide +kernel))
set_option maxRecDepth 20000 in
theorem gX0_bestTicket_X0_requireStranger : GoodIn wsX0_bestTicket (wsV RX0 63 RX0 yX0_requireStranger wsX0_requireStranger) := goodIn_app (goodIn_of _ (by decide +kernel)) ggX0_bestTicket_X0_requireStranger
set_option maxRecDepth 20000 in
theorem ggX0_bestTicket_X0_luckWith : GoodIn wsX0_bestTicket wsX0_luckWith := goodIn_r _ [13, 9, 1, 14, 15, 16, 17, 5, 18, 19, 20, 21, 22, 23, 24, 25, 26, 27, 28, 29, 30, 31, 32, 33, 34, 35, 36, 37, 38, 39, 40] (by decide +kernel) (by decide +kernel)
set_option maxRecDepth 20000 in
theorem gX0_bestTicket_X0_luckWith : GoodIn wsX0_bestTicket (wsV RX0 122 RX0 yX0_luckWith wsX0_luckWith) := goodIn_app (goodIn_of _ (by decide +kernel)) ggX0_bestTicket_X0_luckWith
theorem dX0_bestTicket_0 : decode cX0_bestTicket 0 = .ok (.aload_n 0, 1) := by decide +kernel
theorem dX0_bestTicket_1 : decode cX0_bestTicket 1 = .ok (.iload_n 1, 1) := by decide +kernel
theorem dX0_bestTicket_2 : decode cX0_bestTicket 2 = .ok (.invokevirtual 63, 3) := by decide +kernel
theorem dX0_bestTicket_5 : decode cX0_bestTicket 5 = .ok (.iconst 0, 1) := by decide +kernel
theorem dX0_bestTicket_6 : decode cX0_bestTicket 6 = .ok (.istore_n 2, 1) := by decide +kernel
theorem dX0_bestTicket_7 : decode cX0_bestTicket 7 = .ok (.iconst (-1), 1) := by decide +kernel
theorem dX0_bestTicket_8 : decode cX0_bestTicket 8 = .ok (.istore_n 3, 1) := by decide +kernel
theorem dX0_bestTicket_9 : decode cX0_bestTicket 9 = .ok (.iconst 0, 1) := by decide +kernel
theorem dX0_bestTicket_10 : decode cX0_bestTicket 10 = .ok (.istore 4, 2) := by decide +kernel
theorem dX0_bestTicket_12 : decode cX0_bestTicket 12 = .ok (.iload 4, 2) := by decide +kernel
theorem dX0_bestTicket_14 : decode cX0_bestTicket 14 = .ok (.bipush 100, 2) := by decide +kernel
theorem dX0_bestTicket_16 : decode cX0_bestTicket 16 = .ok (.if_icmp .ge 36, 3) := by decide +kernel
theorem dX0_bestTicket_19 : decode cX0_bestTicket 19 = .ok (.aload_n 0, 1) := by decide +kernel
theorem dX0_bestTicket_20 : decode cX0_bestTicket 20 = .ok (.iload_n 1, 1) := by decide +kernel
theorem dX0_bestTicket_21 : decode cX0_bestTicket 21 = .ok (.iload 4, 2) := by decide +kernel
theorem dX0_bestTicket_23 : decode cX0_bestTicket 23 = .ok (.aload_n 0, 1) := by decide +kernel
theorem dX0_bestTicket_24 : decode cX0_bestTicket 24 = .ok (.getfield 16, 3) := by decide +kernel
theorem dX0_bestTicket_27 : decode cX0_bestTicket 27 = .ok (.iload_n 1, 1) := by decide +kernel
theorem dX0_bestTicket_28 : decode cX0_bestTicket 28 = .ok (.iaload, 1) := by decide +kernel
theorem dX0_bestTicket_29 : decode cX0_bestTicket 29 = .ok (.invokevirtual 122, 3) := by decide +kernel
theorem dX0_bestTicket_32 : decode cX0_bestTicket 32 = .ok (.istore 5, 2) := by decide +kernel
theorem dX0_bestTicket_34 : decode cX0_bestTicket 34 = .ok (.iload 5, 2) := by decide +kernel
theorem dX0_bestTicket_36 : decode cX0_bestTicket 36 = .ok (.iload_n 3, 1) := by decide +kernel
theorem dX0_bestTicket_37 : decode cX0_bestTicket 37 = .ok (.if_icmp .le 9, 3) := by decide +kernel
theorem dX0_bestTicket_40 : decode cX0_bestTicket 40 = .ok (.iload 5, 2) := by decide +kernel
theorem dX0_bestTicket_42 : decode cX0_bestTicket 42 = .ok (.istore_n 3, 1) := by decide +kernel
theorem dX0_bestTicket_43 : decode cX0_bestTicket 43 = .ok (.iload 4, 2) := by decide +kernel
theorem dX0_bestTicket_45 : decode cX0_bestTicket 45 = .ok (.istore_n 2, 1) := by decide +kernel
theorem dX0_bestTicket_46 : decode cX0_bestTicket 46 = .ok (.iinc 4 1, 3) := by decide +kernel
theorem dX0_bestTicket_49 : decode cX0_bestTicket 49 = .ok (.goto (-37), 3) := by decide +kernel
theorem dX0_bestTicket_52 : decode cX0_bestTicket 52 = .ok (.iload_n 2, 1) := by decide +kernel
theorem dX0_bestTicket_53 : decode cX0_bestTicket 53 = .ok (.ireturn, 1) := by decide +kernel
set_option maxRecDepth 20000 in
theorem ggX0_meanLuck_X0_luckNow : GoodIn wsX0_meanLuck wsX0_luckNow := goodIn_r _ [6, 7, 8, 9, 10, 11, 5, 12, 1, 13, 14, 15, 16, 17, 18, 19, 20, 21, 22, 23, 24, 25, 26, 27, 28, 29, 30, 31, 32, 33, 34, 35, 36, 37, 38] (by decide +kernel) (by decide +kernel)
set_option maxRecDepth 20000 in
theorem gX0_meanLuck_X0_luckNow : GoodIn wsX0_meanLuck (wsV RX0 114 RX0 yX0_luckNow wsX0_luckNow) := goodIn_app (goodIn_of _ (by decide +kernel)) ggX0_meanLuck_X0_luckNow
theorem dX0_meanLuck_0 : decode cX0_meanLuck 0 = .ok (.aload_n 0, 1) := by decide +kernel
theorem dX0_meanLuck_1 : decode cX0_meanLuck 1 = .ok (.getfield 22, 3) := by decide +kernel
theorem dX0_meanLuck_4 : decode cX0_meanLuck 4 = .ok (.ifCond .ne 5, 3) := by decide +kernel
theorem dX0_meanLuck_7 : decode cX0_meanLuck 7 = .ok (.dconst 0, 1) := by decide +kernel
theorem dX0_meanLuck_8 : decode cX0_meanLuck 8 = .ok (.dreturn, 1) := by decide +kernel
theorem dX0_meanLuck_9 : decode cX0_meanLuck 9 = .ok (.iconst 0, 1) := by decide +kernel
theorem dX0_meanLuck_10 : decode cX0_meanLuck 10 = .ok (.istore_n 1, 1) := by decide +kernel
theorem dX0_meanLuck_11 : decode cX0_meanLuck 11 = .ok (.iconst 0, 1) := by decide +kernel
theorem dX0_meanLuck_12 : decode cX0_meanLuck 12 = .ok (.istore_n 2, 1) := by decide +kernel
theorem dX0_meanLuck_13 : decode cX0_meanLuck 13 = .ok (.iload_n 2, 1) := by decide +kernel
theorem dX0_meanLuck_14 : decode cX0_meanLuck 14 = .ok (.aload_n 0, 1) := by decide +kernel
theorem dX0_meanLuck_15 : decode cX0_meanLuck 15 = .ok (.getfield 22, 3) := by decide +kernel
theorem dX0_meanLuck_18 : decode cX0_meanLuck 18 = .ok (.if_icmp .ge 17, 3) := by decide +kernel
theorem dX0_meanLuck_21 : decode cX0_meanLuck 21 = .ok (.iload_n 1, 1) := by decide +kernel
theorem dX0_meanLuck_22 : decode cX0_meanLuck 22 = .ok (.aload_n 0, 1) := by decide +kernel
theorem dX0_meanLuck_23 : decode cX0_meanLuck 23 = .ok (.iload_n 2, 1) := by decide +kernel
theorem dX0_meanLuck_24 : decode cX0_meanLuck 24 = .ok (.invokevirtual 114, 3) := by decide +kernel
theorem dX0_meanLuck_27 : decode cX0_meanLuck 27 = .ok (.iadd, 1) := by decide +kernel
theorem dX0_meanLuck_28 : decode cX0_meanLuck 28 = .ok (.istore_n 1, 1) := by decide +kernel
theorem dX0_meanLuck_29 : decode cX0_meanLuck 29 = .ok (.iinc 2 1, 3) := by decide +kernel
theorem dX0_meanLuck_32 : decode cX0_meanLuck 32 = .ok (.goto (-19), 3) := by decide +kernel
theorem dX0_meanLuck_35 : decode cX0_meanLuck 35 = .ok (.iload_n 1, 1) := by decide +kernel
theorem dX0_meanLuck_36 : decode cX0_meanLuck 36 = .ok (.i2d, 1) := by decide +kernel
theorem dX0_meanLuck_37 : decode cX0_meanLuck 37 = .ok (.aload_n 0, 1) := by decide +kernel
theorem dX0_meanLuck_38 : decode cX0_meanLuck 38 = .ok (.getfield 22, 3) := by decide +kernel
theorem dX0_meanLuck_41 : decode cX0_meanLuck 41 = .ok (.i2d, 1) := by decide +kernel
theorem dX0_meanLuck_42 : decode cX0_meanLuck 42 = .ok (.ddiv, 1) := by decide +kernel
theorem dX0_meanLuck_43 : decode cX0_meanLuck 43 = .ok (.dreturn, 1) := by decide +kernel
set_option maxRecDepth 20000 in
theorem ggX0_digest_X0_mixed : GoodIn wsX0_digest wsX0_mixed := goodIn_r _ [14, 15] (by decide +kernel) (by decide +kernel)
set_option maxRecDepth 20000 in
theorem gX0_digest_X0_mixed : GoodIn wsX0_digest (va_wsS RX0 131 yX0_mixed wsX0_mixed) := goodIn_app (goodIn_of _ (by decide +kernel)) ggX0_digest_X0_mixed
set_option maxRecDepth 20000 in
theorem ggX0_digest_X0_coincidences : GoodIn wsX0_digest wsX0_coincidences := goodIn_r _ [19, 20, 21, 22, 13, 23, 2, 24, 25, 26, 27, 9, 10, 28, 29, 30, 31, 7, 8, 32, 33, 34, 35, 36, 37, 38, 39, 40, 41, 42, 43, 44, 45, 46, 47, 103, 104, 105, 106, 107, 108, 109, 110, 111] (by decide +kernel) (by decide +kernel)
set_option maxRecDepth 20000 in
theorem gX0_digest_X0_coincidences : GoodIn wsX0_digest (wsV RX0 135 RX0 yX0_coincidences wsX0_coincidences) := goodIn_app (goodIn_of _ (by decide +kernel)) ggX0_digest_X0_coincidences
set_option maxRecDepth 20000 in
theorem ggX0_digest_X0_luckiestPair : GoodIn wsX0_digest wsX0_luckiestPair := goodIn_r _ [51, 2, 28, 29, 30, 13, 31, 7, 8, 32, 33, 34, 35, 36, 37, 38, 39, 40, 41, 42, 43, 44, 45, 46, 47, 103, 104, 105, 106, 107, 108, 109, 110, 111] (by decide +kernel) (by decide +kernel)
set_option maxRecDepth 20000 in
theorem gX0_digest_X0_luckiestPair : GoodIn wsX0_digest (wsV RX0 139 RX0 yX0_luckiestPair wsX0_luckiestPair) := goodIn_app (goodIn_of _ (by decide +kernel)) ggX0_digest_X0_luckiestPair
set_option maxRecDepth 20000 in
theorem ggX0_digest_X0_bestHour : GoodIn wsX0_digest wsX0_bestHour := goodIn_r _ [55, 20, 21, 22, 13, 23, 2, 24, 25, 26, 27, 9, 10, 28, 29, 30, 31, 7, 8, 32, 33, 34, 35, 36, 37, 38, 39, 40, 41, 42, 43, 44, 45, 46, 47, 103, 104, 105, 106, 107, 108, 109, 110, 111] (by decide +kernel) (by decide +kernel)
set_option maxRecDepth 20000 in
theorem gX0_digest_X0_bestHour : GoodIn wsX0_digest (wsV RX0 142 RX0 yX0_bestHour wsX0_bestHour) := goodIn_app (goodIn_of _ (by decide +kernel)) ggX0_digest_X0_bestHour
set_option maxRecDepth 20000 in
theorem ggX0_digest_X0_bestSwap : GoodIn wsX0_digest wsX0_bestSwap := goodIn_r _ [59, 2, 20, 21, 22, 13, 23, 24, 25, 26, 27, 9, 10, 28, 29, 30, 31, 7, 8, 32, 33, 34, 35, 36, 37, 38, 39, 40, 41, 42, 43, 44, 45, 46, 47, 60, 61, 62, 63, 64, 65, 66, 103, 104, 105, 106, 107, 108, 109, 110, 111] (by decide +kernel) (by decide +kernel)
set_option maxRecDepth 20000 in
theorem gX0_digest_X0_bestSwap : GoodIn wsX0_digest (wsV RX0 145 RX0 yX0_bestSwap wsX0_bestSwap) := goodIn_app (goodIn_of _ (by decide +kernel)) ggX0_digest_X0_bestSwap
set_option maxRecDepth 20000 in
theorem ggX0_digest_X0_peopleAt : GoodIn wsX0_digest wsX0_peopleAt := goodIn_ca (goodIn_r _ [70, 71, 72, 13, 73, 74, 75, 76, 77, 78, 79, 80, 81, 82, 2, 9, 103, 104, 105, 106, 107, 108, 109, 110, 111] (by decide +kernel) (by decide +kernel)) (goodIn_sub (fun _ h => List.mem_cons_of_mem _ (List.mem_append_right _ h)) (by decide +kernel))
set_option maxRecDepth 20000 in
theorem gX0_digest_X0_peopleAt : GoodIn wsX0_digest (wsV RX0 148 RX0 yX0_peopleAt wsX0_peopleAt) := goodIn_app (goodIn_of _ (by decide +kernel)) ggX0_digest_X0_peopleAt
set_option maxRecDepth 20000 in
theorem ggX0_digest_X0_coincidencesAt : GoodIn wsX0_digest wsX0_coincidencesAt := goodIn_ca (goodIn_r _ [86, 2, 9, 71, 72, 13, 73, 74, 75, 76, 77, 78, 28, 29, 30, 31, 7, 8, 32, 33, 34, 35, 36, 37, 38, 39, 40, 41, 42, 43, 44, 45, 46, 47, 103, 104, 105, 106, 107, 108, 109, 110, 111] (by decide +kernel) (by decide +kernel)) (goodIn_sub (fun _ h => List.mem_cons_of_mem _ (List.mem_append_right _ h)) (by decide +kernel))
set_option maxRecDepth 20000 in
theorem gX0_digest_X0_coincidencesAt : GoodIn wsX0_digest (wsV RX0 151 RX0 yX0_coincidencesAt wsX0_coincidencesAt) := goodIn_app (goodIn_of _ (by decide +kernel)) ggX0_digest_X0_coincidencesAt
set_option maxRecDepth 20000 in
theorem ggX0_digest_X0_luckNow : GoodIn wsX0_digest wsX0_luckNow := goodIn_r _ [90, 7, 9, 91, 92, 93, 13, 94, 2, 8, 32, 33, 34, 35, 36, 37, 38, 39, 40, 41, 42, 43, 44, 45, 46, 47, 103, 104, 105, 106, 107, 108, 109, 110, 111] (by decide +kernel) (by decide +kernel)
set_option maxRecDepth 20000 in
theorem gX0_digest_X0_luckNow : GoodIn wsX0_digest (wsV RX0 114 RX0 yX0_luckNow wsX0_luckNow) := goodIn_app (goodIn_of _ (by decide +kernel)) ggX0_digest_X0_luckNow
set_option maxRecDepth 20000 in
theorem ggX0_digest_X0_bestCorner : GoodIn wsX0_digest wsX0_bestCorner := goodIn_ca (goodIn_r _ [98, 7, 99, 100, 101, 13, 102, 74, 75, 2, 91, 92, 93, 94, 9, 8, 32, 33, 34, 35, 36, 37, 38, 39, 40, 41, 42, 43, 44, 45, 46, 47, 103, 104, 105, 106, 107, 108, 109, 110, 111] (by decide +kernel) (by decide +kernel)) (goodIn_sub (fun _ h => List.mem_cons_of_mem _ (List.mem_append_right _ h)) (by decide +kernel))
set_option maxRecDepth 20000 in
theorem gX0_digest_X0_bestCorner : GoodIn wsX0_digest (wsV RX0 154 RX0 yX0_bestCorner wsX0_bestCorner) := goodIn_app (goodIn_of _ (by decide +kernel)) ggX0_digest_X0_bestCorner
theorem dX0_digest_0 : decode cX0_digest 0 = .ok (.ldc2_w 129, 3) := by decide +kernel
theorem dX0_digest_3 : decode cX0_digest 3 = .ok (.lstore_n 1, 1) := by decide +kernel
theorem dX0_digest_4 : decode cX0_digest 4 = .ok (.lload_n 1, 1) := by decide +kernel
theorem dX0_digest_5 : decode cX0_digest 5 = .ok (.aload_n 0, 1) := by decide +kernel
theorem dX0_digest_6 : decode cX0_digest 6 = .ok (.getfield 22, 3) := by decide +kernel
theorem dX0_digest_9 : decode cX0_digest 9 = .ok (.i2l, 1) := by decide +kernel
theorem dX0_digest_10 : decode cX0_digest 10 = .ok (.invokestatic 131, 3) := by decide +kernel
theorem dX0_digest_13 : decode cX0_digest 13 = .ok (.lstore_n 1, 1) := by decide +kernel
theorem dX0_digest_14 : decode cX0_digest 14 = .ok (.lload_n 1, 1) := by decide +kernel
theorem dX0_digest_15 : decode cX0_digest 15 = .ok (.aload_n 0, 1) := by decide +kernel
theorem dX0_digest_16 : decode cX0_digest 16 = .ok (.getfield 26, 3) := by decide +kernel
theorem dX0_digest_19 : decode cX0_digest 19 = .ok (.i2l, 1) := by decide +kernel
theorem dX0_digest_20 : decode cX0_digest 20 = .ok (.invokestatic 131, 3) := by decide +kernel
theorem dX0_digest_23 : decode cX0_digest 23 = .ok (.lstore_n 1, 1) := by decide +kernel
theorem dX0_digest_24 : decode cX0_digest 24 = .ok (.lload_n 1, 1) := by decide +kernel
theorem dX0_digest_25 : decode cX0_digest 25 = .ok (.aload_n 0, 1) := by decide +kernel
theorem dX0_digest_26 : decode cX0_digest 26 = .ok (.getfield 29, 3) := by decide +kernel
theorem dX0_digest_29 : decode cX0_digest 29 = .ok (.i2l, 1) := by decide +kernel
theorem dX0_digest_30 : decode cX0_digest 30 = .ok (.invokestatic 131, 3) := by decide +kernel
theorem dX0_digest_33 : decode cX0_digest 33 = .ok (.lstore_n 1, 1) := by decide +kernel
theorem dX0_digest_34 : decode cX0_digest 34 = .ok (.lload_n 1, 1) := by decide +kernel
theorem dX0_digest_35 : decode cX0_digest 35 = .ok (.aload_n 0, 1) := by decide +kernel
theorem dX0_digest_36 : decode cX0_digest 36 = .ok (.getfield 32, 3) := by decide +kernel
theorem dX0_digest_39 : decode cX0_digest 39 = .ok (.i2l, 1) := by decide +kernel
theorem dX0_digest_40 : decode cX0_digest 40 = .ok (.invokestatic 131, 3) := by decide +kernel
theorem dX0_digest_43 : decode cX0_digest 43 = .ok (.lstore_n 1, 1) := by decide +kernel
theorem dX0_digest_44 : decode cX0_digest 44 = .ok (.lload_n 1, 1) := by decide +kernel
theorem dX0_digest_45 : decode cX0_digest 45 = .ok (.aload_n 0, 1) := by decide +kernel
theorem dX0_digest_46 : decode cX0_digest 46 = .ok (.getfield 35, 3) := by decide +kernel
theorem dX0_digest_49 : decode cX0_digest 49 = .ok (.i2l, 1) := by decide +kernel
theorem dX0_digest_50 : decode cX0_digest 50 = .ok (.invokestatic 131, 3) := by decide +kernel
theorem dX0_digest_53 : decode cX0_digest 53 = .ok (.lstore_n 1, 1) := by decide +kernel
theorem dX0_digest_54 : decode cX0_digest 54 = .ok (.lload_n 1, 1) := by decide +kernel
theorem dX0_digest_55 : decode cX0_digest 55 = .ok (.aload_n 0, 1) := by decide +kernel
theorem dX0_digest_56 : decode cX0_digest 56 = .ok (.invokevirtual 135, 3) := by decide +kernel
theorem dX0_digest_59 : decode cX0_digest 59 = .ok (.i2l, 1) := by decide +kernel
theorem dX0_digest_60 : decode cX0_digest 60 = .ok (.invokestatic 131, 3) := by decide +kernel
theorem dX0_digest_63 : decode cX0_digest 63 = .ok (.lstore_n 1, 1) := by decide +kernel
theorem dX0_digest_64 : decode cX0_digest 64 = .ok (.lload_n 1, 1) := by decide +kernel
theorem dX0_digest_65 : decode cX0_digest 65 = .ok (.aload_n 0, 1) := by decide +kernel
theorem dX0_digest_66 : decode cX0_digest 66 = .ok (.invokevirtual 139, 3) := by decide +kernel
theorem dX0_digest_69 : decode cX0_digest 69 = .ok (.i2l, 1) := by decide +kernel
theorem dX0_digest_70 : decode cX0_digest 70 = .ok (.invokestatic 131, 3) := by decide +kernel
theorem dX0_digest_73 : decode cX0_digest 73 = .ok (.lstore_n 1, 1) := by decide +kernel
theorem dX0_digest_74 : decode cX0_digest 74 = .ok (.lload_n 1, 1) := by decide +kernel
theorem dX0_digest_75 : decode cX0_digest 75 = .ok (.aload_n 0, 1) := by decide +kernel
theorem dX0_digest_76 : decode cX0_digest 76 = .ok (.invokevirtual 142, 3) := by decide +kernel
theorem dX0_digest_79 : decode cX0_digest 79 = .ok (.i2l, 1) := by decide +kernel
theorem dX0_digest_80 : decode cX0_digest 80 = .ok (.invokestatic 131, 3) := by decide +kernel
theorem dX0_digest_83 : decode cX0_digest 83 = .ok (.lstore_n 1, 1) := by decide +kernel
theorem dX0_digest_84 : decode cX0_digest 84 = .ok (.lload_n 1, 1) := by decide +kernel
theorem dX0_digest_85 : decode cX0_digest 85 = .ok (.aload_n 0, 1) := by decide +kernel
theorem dX0_digest_86 : decode cX0_digest 86 = .ok (.invokevirtual 145, 3) := by decide +kernel
theorem dX0_digest_89 : decode cX0_digest 89 = .ok (.i2l, 1) := by decide +kernel
theorem dX0_digest_90 : decode cX0_digest 90 = .ok (.invokestatic 131, 3) := by decide +kernel
theorem dX0_digest_93 : decode cX0_digest 93 = .ok (.lstore_n 1, 1) := by decide +kernel
theorem dX0_digest_94 : decode cX0_digest 94 = .ok (.iconst 0, 1) := by decide +kernel
theorem dX0_digest_95 : decode cX0_digest 95 = .ok (.istore_n 3, 1) := by decide +kernel
theorem dX0_digest_96 : decode cX0_digest 96 = .ok (.iload_n 3, 1) := by decide +kernel
theorem dX0_digest_97 : decode cX0_digest 97 = .ok (.bipush 6, 2) := by decide +kernel
theorem dX0_digest_99 : decode cX0_digest 99 = .ok (.if_icmp .ge 31, 3) := by decide +kernel
theorem dX0_digest_102 : decode cX0_digest 102 = .ok (.lload_n 1, 1) := by decide +kernel
theorem dX0_digest_103 : decode cX0_digest 103 = .ok (.aload_n 0, 1) := by decide +kernel
theorem dX0_digest_104 : decode cX0_digest 104 = .ok (.iload_n 3, 1) := by decide +kernel
theorem dX0_digest_105 : decode cX0_digest 105 = .ok (.invokevirtual 148, 3) := by decide +kernel
theorem dX0_digest_108 : decode cX0_digest 108 = .ok (.i2l, 1) := by decide +kernel
theorem dX0_digest_109 : decode cX0_digest 109 = .ok (.invokestatic 131, 3) := by decide +kernel
theorem dX0_digest_112 : decode cX0_digest 112 = .ok (.lstore_n 1, 1) := by decide +kernel
theorem dX0_digest_113 : decode cX0_digest 113 = .ok (.lload_n 1, 1) := by decide +kernel
theorem dX0_digest_114 : decode cX0_digest 114 = .ok (.aload_n 0, 1) := by decide +kernel
theorem dX0_digest_115 : decode cX0_digest 115 = .ok (.iload_n 3, 1) := by decide +kernel
theorem dX0_digest_116 : decode cX0_digest 116 = .ok (.invokevirtual 151, 3) := by decide +kernel
theorem dX0_digest_119 : decode cX0_digest 119 = .ok (.i2l, 1) := by decide +kernel
theorem dX0_digest_120 : decode cX0_digest 120 = .ok (.invokestatic 131, 3) := by decide +kernel
theorem dX0_digest_123 : decode cX0_digest 123 = .ok (.lstore_n 1, 1) := by decide +kernel
theorem dX0_digest_124 : decode cX0_digest 124 = .ok (.iinc 3 1, 3) := by decide +kernel
theorem dX0_digest_127 : decode cX0_digest 127 = .ok (.goto (-31), 3) := by decide +kernel
theorem dX0_digest_130 : decode cX0_digest 130 = .ok (.iconst 0, 1) := by decide +kernel
theorem dX0_digest_131 : decode cX0_digest 131 = .ok (.istore_n 3, 1) := by decide +kernel
theorem dX0_digest_132 : decode cX0_digest 132 = .ok (.iload_n 3, 1) := by decide +kernel
theorem dX0_digest_133 : decode cX0_digest 133 = .ok (.aload_n 0, 1) := by decide +kernel
theorem dX0_digest_134 : decode cX0_digest 134 = .ok (.getfield 22, 3) := by decide +kernel
theorem dX0_digest_137 : decode cX0_digest 137 = .ok (.if_icmp .ge 79, 3) := by decide +kernel
theorem dX0_digest_140 : decode cX0_digest 140 = .ok (.lload_n 1, 1) := by decide +kernel
theorem dX0_digest_141 : decode cX0_digest 141 = .ok (.aload_n 0, 1) := by decide +kernel
theorem dX0_digest_142 : decode cX0_digest 142 = .ok (.getfield 9, 3) := by decide +kernel
theorem dX0_digest_145 : decode cX0_digest 145 = .ok (.iload_n 3, 1) := by decide +kernel
theorem dX0_digest_146 : decode cX0_digest 146 = .ok (.iaload, 1) := by decide +kernel
theorem dX0_digest_147 : decode cX0_digest 147 = .ok (.i2l, 1) := by decide +kernel
theorem dX0_digest_148 : decode cX0_digest 148 = .ok (.invokestatic 131, 3) := by decide +kernel
theorem dX0_digest_151 : decode cX0_digest 151 = .ok (.lstore_n 1, 1) := by decide +kernel
theorem dX0_digest_152 : decode cX0_digest 152 = .ok (.lload_n 1, 1) := by decide +kernel
theorem dX0_digest_153 : decode cX0_digest 153 = .ok (.aload_n 0, 1) := by decide +kernel
theorem dX0_digest_154 : decode cX0_digest 154 = .ok (.getfield 13, 3) := by decide +kernel
theorem dX0_digest_157 : decode cX0_digest 157 = .ok (.iload_n 3, 1) := by decide +kernel
theorem dX0_digest_158 : decode cX0_digest 158 = .ok (.iaload, 1) := by decide +kernel
theorem dX0_digest_159 : decode cX0_digest 159 = .ok (.i2l, 1) := by decide +kernel
theorem dX0_digest_160 : decode cX0_digest 160 = .ok (.invokestatic 131, 3) := by decide +kernel
theorem dX0_digest_163 : decode cX0_digest 163 = .ok (.lstore_n 1, 1) := by decide +kernel
theorem dX0_digest_164 : decode cX0_digest 164 = .ok (.lload_n 1, 1) := by decide +kernel
theorem dX0_digest_165 : decode cX0_digest 165 = .ok (.aload_n 0, 1) := by decide +kernel
theorem dX0_digest_166 : decode cX0_digest 166 = .ok (.getfield 16, 3) := by decide +kernel
theorem dX0_digest_169 : decode cX0_digest 169 = .ok (.iload_n 3, 1) := by decide +kernel
theorem dX0_digest_170 : decode cX0_digest 170 = .ok (.iaload, 1) := by decide +kernel
theorem dX0_digest_171 : decode cX0_digest 171 = .ok (.i2l, 1) := by decide +kernel
theorem dX0_digest_172 : decode cX0_digest 172 = .ok (.invokestatic 131, 3) := by decide +kernel
theorem dX0_digest_175 : decode cX0_digest 175 = .ok (.lstore_n 1, 1) := by decide +kernel
theorem dX0_digest_176 : decode cX0_digest 176 = .ok (.lload_n 1, 1) := by decide +kernel
theorem dX0_digest_177 : decode cX0_digest 177 = .ok (.aload_n 0, 1) := by decide +kernel
theorem dX0_digest_178 : decode cX0_digest 178 = .ok (.getfield 19, 3) := by decide +kernel
theorem dX0_digest_181 : decode cX0_digest 181 = .ok (.iload_n 3, 1) := by decide +kernel
theorem dX0_digest_182 : decode cX0_digest 182 = .ok (.iaload, 1) := by decide +kernel
theorem dX0_digest_183 : decode cX0_digest 183 = .ok (.i2l, 1) := by decide +kernel
theorem dX0_digest_184 : decode cX0_digest 184 = .ok (.invokestatic 131, 3) := by decide +kernel
theorem dX0_digest_187 : decode cX0_digest 187 = .ok (.lstore_n 1, 1) := by decide +kernel
theorem dX0_digest_188 : decode cX0_digest 188 = .ok (.lload_n 1, 1) := by decide +kernel
theorem dX0_digest_189 : decode cX0_digest 189 = .ok (.aload_n 0, 1) := by decide +kernel
theorem dX0_digest_190 : decode cX0_digest 190 = .ok (.iload_n 3, 1) := by decide +kernel
theorem dX0_digest_191 : decode cX0_digest 191 = .ok (.invokevirtual 114, 3) := by decide +kernel
theorem dX0_digest_194 : decode cX0_digest 194 = .ok (.i2l, 1) := by decide +kernel
theorem dX0_digest_195 : decode cX0_digest 195 = .ok (.invokestatic 131, 3) := by decide +kernel
theorem dX0_digest_198 : decode cX0_digest 198 = .ok (.lstore_n 1, 1) := by decide +kernel
theorem dX0_digest_199 : decode cX0_digest 199 = .ok (.lload_n 1, 1) := by decide +kernel
theorem dX0_digest_200 : decode cX0_digest 200 = .ok (.aload_n 0, 1) := by decide +kernel
theorem dX0_digest_201 : decode cX0_digest 201 = .ok (.iload_n 3, 1) := by decide +kernel
theorem dX0_digest_202 : decode cX0_digest 202 = .ok (.invokevirtual 154, 3) := by decide +kernel
theorem dX0_digest_205 : decode cX0_digest 205 = .ok (.i2l, 1) := by decide +kernel
theorem dX0_digest_206 : decode cX0_digest 206 = .ok (.invokestatic 131, 3) := by decide +kernel
theorem dX0_digest_209 : decode cX0_digest 209 = .ok (.lstore_n 1, 1) := by decide +kernel
theorem dX0_digest_210 : decode cX0_digest 210 = .ok (.iinc 3 1, 3) := by decide +kernel
theorem dX0_digest_213 : decode cX0_digest 213 = .ok (.goto (-81), 3) := by decide +kernel
theorem dX0_digest_216 : decode cX0_digest 216 = .ok (.lload_n 1, 1) := by decide +kernel
theorem dX0_digest_217 : decode cX0_digest 217 = .ok (.lreturn, 1) := by decide +kernel
theorem dX0_isTicket_0 : decode cX0_isTicket 0 = .ok (.iload_n 0, 1) := by decide +kernel
theorem dX0_isTicket_1 : decode cX0_isTicket 1 = .ok (.ifCond .lt 13, 3) := by decide +kernel
theorem dX0_isTicket_4 : decode cX0_isTicket 4 = .ok (.iload_n 0, 1) := by decide +kernel
theorem dX0_isTicket_5 : decode cX0_isTicket 5 = .ok (.bipush 100, 2) := by decide +kernel
theorem dX0_isTicket_7 : decode cX0_isTicket 7 = .ok (.if_icmp .ge 7, 3) := by decide +kernel
theorem dX0_isTicket_10 : decode cX0_isTicket 10 = .ok (.iconst 1, 1) := by decide +kernel
theorem dX0_isTicket_11 : decode cX0_isTicket 11 = .ok (.goto 4, 3) := by decide +kernel
theorem dX0_isTicket_14 : decode cX0_isTicket 14 = .ok (.iconst 0, 1) := by decide +kernel
theorem dX0_isTicket_15 : decode cX0_isTicket 15 = .ok (.ireturn, 1) := by decide +kernel
theorem dX0_isColour_0 : decode cX0_isColour 0 = .ok (.iload_n 0, 1) := by decide +kernel
theorem dX0_isColour_1 : decode cX0_isColour 1 = .ok (.ifCond .lt 12, 3) := by decide +kernel
theorem dX0_isColour_4 : decode cX0_isColour 4 = .ok (.iload_n 0, 1) := by decide +kernel
theorem dX0_isColour_5 : decode cX0_isColour 5 = .ok (.iconst 5, 1) := by decide +kernel
theorem dX0_isColour_6 : decode cX0_isColour 6 = .ok (.if_icmp .ge 7, 3) := by decide +kernel
theorem dX0_isColour_9 : decode cX0_isColour 9 = .ok (.iconst 1, 1) := by decide +kernel
theorem dX0_isColour_10 : decode cX0_isColour 10 = .ok (.goto 4, 3) := by decide +kernel
theorem dX0_isColour_13 : decode cX0_isColour 13 = .ok (.iconst 0, 1) := by decide +kernel
theorem dX0_isColour_14 : decode cX0_isColour 14 = .ok (.ireturn, 1) := by decide +kernel
theorem dX0_isCorner_0 : decode cX0_isCorner 0 = .ok (.iload_n 0, 1) := by decide +kernel
theorem dX0_isCorner_1 : decode cX0_isCorner 1 = .ok (.ifCond .lt 13, 3) := by decide +kernel
theorem dX0_isCorner_4 : decode cX0_isCorner 4 = .ok (.iload_n 0, 1) := by decide +kernel
theorem dX0_isCorner_5 : decode cX0_isCorner 5 = .ok (.bipush 6, 2) := by decide +kernel
theorem dX0_isCorner_7 : decode cX0_isCorner 7 = .ok (.if_icmp .ge 7, 3) := by decide +kernel
theorem dX0_isCorner_10 : decode cX0_isCorner 10 = .ok (.iconst 1, 1) := by decide +kernel
theorem dX0_isCorner_11 : decode cX0_isCorner 11 = .ok (.goto 4, 3) := by decide +kernel
theorem dX0_isCorner_14 : decode cX0_isCorner 14 = .ok (.iconst 0, 1) := by decide +kernel
theorem dX0_isCorner_15 : decode cX0_isCorner 15 = .ok (.ireturn, 1) := by decide +kernel
theorem dX0_isWalk_0 : decode cX0_isWalk 0 = .ok (.iload_n 0, 1) := by decide +kernel
theorem dX0_isWalk_1 : decode cX0_isWalk 1 = .ok (.ifCond .lt 12, 3) := by decide +kernel
theorem dX0_isWalk_4 : decode cX0_isWalk 4 = .ok (.iload_n 0, 1) := by decide +kernel
theorem dX0_isWalk_5 : decode cX0_isWalk 5 = .ok (.iconst 5, 1) := by decide +kernel
theorem dX0_isWalk_6 : decode cX0_isWalk 6 = .ok (.if_icmp .gt 7, 3) := by decide +kernel
theorem dX0_isWalk_9 : decode cX0_isWalk 9 = .ok (.iconst 1, 1) := by decide +kernel
theorem dX0_isWalk_10 : decode cX0_isWalk 10 = .ok (.goto 4, 3) := by decide +kernel
theorem dX0_isWalk_13 : decode cX0_isWalk 13 = .ok (.iconst 0, 1) := by decide +kernel
theorem dX0_isWalk_14 : decode cX0_isWalk 14 = .ok (.ireturn, 1) := by decide +kernel
theorem dX0_requireStranger_0 : decode cX0_requireStranger 0 = .ok (.iload_n 1, 1) := by decide +kernel
theorem dX0_requireStranger_1 : decode cX0_requireStranger 1 = .ok (.ifCond .lt 11, 3) := by decide +kernel
theorem dX0_requireStranger_4 : decode cX0_requireStranger 4 = .ok (.iload_n 1, 1) := by decide +kernel
theorem dX0_requireStranger_5 : decode cX0_requireStranger 5 = .ok (.aload_n 0, 1) := by decide +kernel
theorem dX0_requireStranger_6 : decode cX0_requireStranger 6 = .ok (.getfield 22, 3) := by decide +kernel
theorem dX0_requireStranger_9 : decode cX0_requireStranger 9 = .ok (.if_icmp .lt 13, 3) := by decide +kernel
theorem dX0_requireStranger_12 : decode cX0_requireStranger 12 = .ok (.new 157, 3) := by decide +kernel
theorem dX0_requireStranger_15 : decode cX0_requireStranger 15 = .ok (.dup, 1) := by decide +kernel
theorem dX0_requireStranger_16 : decode cX0_requireStranger 16 = .ok (.ldc 159, 2) := by decide +kernel
theorem dX0_requireStranger_18 : decode cX0_requireStranger 18 = .ok (.invokespecial 161, 3) := by decide +kernel
theorem dX0_requireStranger_21 : decode cX0_requireStranger 21 = .ok (.athrow, 1) := by decide +kernel
theorem dX0_requireStranger_22 : decode cX0_requireStranger 22 = .ok (.return_, 1) := by decide +kernel
set_option maxRecDepth 20000 in
theorem ggX0_requirePair_X0_requireStranger : GoodIn wsX0_requirePair wsX0_requireStranger := goodIn_ca (goodIn_r _ [7, 8, 9, 10, 11, 12, 13, 14, 15, 16, 17, 18, 19] (by decide +kernel) (by decide +kernel)) (goodIn_sub (fun _ h => List.mem_cons_of_mem _ (List.mem_append_right _ h)) (by decide +kernel))
set_option maxRecDepth 20000 in
theorem gX0_requirePair_X0_requireStranger : GoodIn wsX0_requirePair (wsV RX0 63 RX0 yX0_requireStranger wsX0_requireStranger) := goodIn_app (goodIn_of _ (by decide +kernel)) ggX0_requirePair_X0_requireStranger
theorem dX0_requirePair_0 : decode cX0_requirePair 0 = .ok (.aload_n 0, 1) := by decide +kernel
theorem dX0_requirePair_1 : decode cX0_requirePair 1 = .ok (.iload_n 1, 1) := by decide +kernel
theorem dX0_requirePair_2 : decode cX0_requirePair 2 = .ok (.invokevirtual 63, 3) := by decide +kernel
theorem dX0_requirePair_5 : decode cX0_requirePair 5 = .ok (.aload_n 0, 1) := by decide +kernel
theorem dX0_requirePair_6 : decode cX0_requirePair 6 = .ok (.iload_n 2, 1) := by decide +kernel
theorem dX0_requirePair_7 : decode cX0_requirePair 7 = .ok (.invokevirtual 63, 3) := by decide +kernel
theorem dX0_requirePair_10 : decode cX0_requirePair 10 = .ok (.iload_n 1, 1) := by decide +kernel
theorem dX0_requirePair_11 : decode cX0_requirePair 11 = .ok (.iload_n 2, 1) := by decide +kernel
theorem dX0_requirePair_12 : decode cX0_requirePair 12 = .ok (.if_icmp .ne 13, 3) := by decide +kernel
theorem dX0_requirePair_15 : decode cX0_requirePair 15 = .ok (.new 51, 3) := by decide +kernel
theorem dX0_requirePair_18 : decode cX0_requirePair 18 = .ok (.dup, 1) := by decide +kernel
theorem dX0_requirePair_19 : decode cX0_requirePair 19 = .ok (.ldc 162, 2) := by decide +kernel
theorem dX0_requirePair_21 : decode cX0_requirePair 21 = .ok (.invokespecial 55, 3) := by decide +kernel
theorem dX0_requirePair_24 : decode cX0_requirePair 24 = .ok (.athrow, 1) := by decide +kernel
theorem dX0_requirePair_25 : decode cX0_requirePair 25 = .ok (.return_, 1) := by decide +kernel
set_option maxRecDepth 20000 in
theorem ggX0_requireCorner_X0_isCorner : GoodIn wsX0_requireCorner wsX0_isCorner := goodIn_r _ [6] (by decide +kernel) (by decide +kernel)
set_option maxRecDepth 20000 in
theorem gX0_requireCorner_X0_isCorner : GoodIn wsX0_requireCorner (va_wsS RX0 45 yX0_isCorner wsX0_isCorner) := goodIn_app (goodIn_of _ (by decide +kernel)) ggX0_requireCorner_X0_isCorner
theorem dX0_requireCorner_0 : decode cX0_requireCorner 0 = .ok (.iload_n 0, 1) := by decide +kernel
theorem dX0_requireCorner_1 : decode cX0_requireCorner 1 = .ok (.invokestatic 45, 3) := by decide +kernel
theorem dX0_requireCorner_4 : decode cX0_requireCorner 4 = .ok (.ifCond .ne 13, 3) := by decide +kernel
theorem dX0_requireCorner_7 : decode cX0_requireCorner 7 = .ok (.new 157, 3) := by decide +kernel
theorem dX0_requireCorner_10 : decode cX0_requireCorner 10 = .ok (.dup, 1) := by decide +kernel
theorem dX0_requireCorner_11 : decode cX0_requireCorner 11 = .ok (.ldc 69, 2) := by decide +kernel
theorem dX0_requireCorner_13 : decode cX0_requireCorner 13 = .ok (.invokespecial 161, 3) := by decide +kernel
theorem dX0_requireCorner_16 : decode cX0_requireCorner 16 = .ok (.athrow, 1) := by decide +kernel
theorem dX0_requireCorner_17 : decode cX0_requireCorner 17 = .ok (.return_, 1) := by decide +kernel
theorem dX0_pay_0 : decode cX0_pay 0 = .ok (.iload_n 1, 1) := by decide +kernel
theorem dX0_pay_1 : decode cX0_pay 1 = .ok (.aload_n 0, 1) := by decide +kernel
theorem dX0_pay_2 : decode cX0_pay 2 = .ok (.getfield 29, 3) := by decide +kernel
theorem dX0_pay_5 : decode cX0_pay 5 = .ok (.if_icmp .le 13, 3) := by decide +kernel
theorem dX0_pay_8 : decode cX0_pay 8 = .ok (.new 58, 3) := by decide +kernel
theorem dX0_pay_11 : decode cX0_pay 11 = .ok (.dup, 1) := by decide +kernel
theorem dX0_pay_12 : decode cX0_pay 12 = .ok (.ldc 164, 2) := by decide +kernel
theorem dX0_pay_14 : decode cX0_pay 14 = .ok (.invokespecial 62, 3) := by decide +kernel
theorem dX0_pay_17 : decode cX0_pay 17 = .ok (.athrow, 1) := by decide +kernel
theorem dX0_pay_18 : decode cX0_pay 18 = .ok (.aload_n 0, 1) := by decide +kernel
theorem dX0_pay_19 : decode cX0_pay 19 = .ok (.dup, 1) := by decide +kernel
theorem dX0_pay_20 : decode cX0_pay 20 = .ok (.getfield 29, 3) := by decide +kernel
theorem dX0_pay_23 : decode cX0_pay 23 = .ok (.iload_n 1, 1) := by decide +kernel
theorem dX0_pay_24 : decode cX0_pay 24 = .ok (.isub, 1) := by decide +kernel
theorem dX0_pay_25 : decode cX0_pay 25 = .ok (.putfield 29, 3) := by decide +kernel
theorem dX0_pay_28 : decode cX0_pay 28 = .ok (.aload_n 0, 1) := by decide +kernel
theorem dX0_pay_29 : decode cX0_pay 29 = .ok (.dup, 1) := by decide +kernel
theorem dX0_pay_30 : decode cX0_pay 30 = .ok (.getfield 35, 3) := by decide +kernel
theorem dX0_pay_33 : decode cX0_pay 33 = .ok (.iload_n 1, 1) := by decide +kernel
theorem dX0_pay_34 : decode cX0_pay 34 = .ok (.iadd, 1) := by decide +kernel
theorem dX0_pay_35 : decode cX0_pay 35 = .ok (.putfield 35, 3) := by decide +kernel
theorem dX0_pay_38 : decode cX0_pay 38 = .ok (.return_, 1) := by decide +kernel
theorem dX0_costOfWay_0 : decode cX0_costOfWay 0 = .ok (.iload_n 0, 1) := by decide +kernel
theorem dX0_costOfWay_1 : decode cX0_costOfWay 1 = .ok (.iload_n 1, 1) := by decide +kernel
theorem dX0_costOfWay_2 : decode cX0_costOfWay 2 = .ok (.isub, 1) := by decide +kernel
theorem dX0_costOfWay_3 : decode cX0_costOfWay 3 = .ok (.invokestatic 166, 3) := by decide +kernel
theorem dX0_costOfWay_6 : decode cX0_costOfWay 6 = .ok (.istore_n 2, 1) := by decide +kernel
theorem dX0_costOfWay_7 : decode cX0_costOfWay 7 = .ok (.iconst 2, 1) := by decide +kernel
theorem dX0_costOfWay_8 : decode cX0_costOfWay 8 = .ok (.iload_n 2, 1) := by decide +kernel
theorem dX0_costOfWay_9 : decode cX0_costOfWay 9 = .ok (.bipush 6, 2) := by decide +kernel
theorem dX0_costOfWay_11 : decode cX0_costOfWay 11 = .ok (.iload_n 2, 1) := by decide +kernel
theorem dX0_costOfWay_12 : decode cX0_costOfWay 12 = .ok (.isub, 1) := by decide +kernel
theorem dX0_costOfWay_13 : decode cX0_costOfWay 13 = .ok (.invokestatic 171, 3) := by decide +kernel
theorem dX0_costOfWay_16 : decode cX0_costOfWay 16 = .ok (.imul, 1) := by decide +kernel
theorem dX0_costOfWay_17 : decode cX0_costOfWay 17 = .ok (.ireturn, 1) := by decide +kernel
set_option maxRecDepth 20000 in
theorem ggX0_passOneHour_X0_cornerBehind : GoodIn wsX0_passOneHour wsX0_cornerBehind := goodIn_r _ [14, 2, 15, 49, 50, 51, 52, 53, 54, 55, 56, 57] (by decide +kernel) (by decide +kernel)
set_option maxRecDepth 20000 in
theorem gX0_passOneHour_X0_cornerBehind : GoodIn wsX0_passOneHour (wsV RX0 119 RX0 yX0_cornerBehind wsX0_cornerBehind) := goodIn_app (goodIn_of _ (by decide +kernel)) ggX0_passOneHour_X0_cornerBehind
set_option maxRecDepth 20000 in
theorem ggX0_passOneHour_X0_townBehind : GoodIn wsX0_passOneHour wsX0_townBehind := goodIn_r _ [19, 1, 10, 11, 12, 13, 14, 2, 15, 20, 21, 22, 23, 24, 25, 26, 27, 28, 29, 30, 7, 31, 32, 33, 34, 35, 36, 37, 38, 39, 40, 49, 50, 51, 52, 53, 54, 55, 56, 57] (by decide +kernel) (by decide +kernel)
set_option maxRecDepth 20000 in
theorem gX0_passOneHour_X0_townBehind : GoodIn wsX0_passOneHour (wsV RX0 86 RX0 yX0_townBehind wsX0_townBehind) := goodIn_app (goodIn_of _ (by decide +kernel)) ggX0_passOneHour_X0_townBehind
set_option maxRecDepth 20000 in
theorem ggX0_passOneHour_X0_emptyCorners : GoodIn wsX0_passOneHour wsX0_emptyCorners := goodIn_r _ [44, 45, 46, 47, 13, 48, 1, 2, 49, 50, 51, 52, 53, 54, 55, 56, 57] (by decide +kernel) (by decide +kernel)
set_option maxRecDepth 20000 in
theorem gX0_passOneHour_X0_emptyCorners : GoodIn wsX0_passOneHour (wsV RX0 174 RX0 yX0_emptyCorners wsX0_emptyCorners) := goodIn_app (goodIn_of _ (by decide +kernel)) ggX0_passOneHour_X0_emptyCorners
theorem dX0_passOneHour_0 : decode cX0_passOneHour 0 = .ok (.iconst 0, 1) := by decide +kernel
theorem dX0_passOneHour_1 : decode cX0_passOneHour 1 = .ok (.istore_n 1, 1) := by decide +kernel
theorem dX0_passOneHour_2 : decode cX0_passOneHour 2 = .ok (.iload_n 1, 1) := by decide +kernel
theorem dX0_passOneHour_3 : decode cX0_passOneHour 3 = .ok (.aload_n 0, 1) := by decide +kernel
theorem dX0_passOneHour_4 : decode cX0_passOneHour 4 = .ok (.getfield 22, 3) := by decide +kernel
theorem dX0_passOneHour_7 : decode cX0_passOneHour 7 = .ok (.if_icmp .ge 21, 3) := by decide +kernel
theorem dX0_passOneHour_10 : decode cX0_passOneHour 10 = .ok (.aload_n 0, 1) := by decide +kernel
theorem dX0_passOneHour_11 : decode cX0_passOneHour 11 = .ok (.getfield 16, 3) := by decide +kernel
theorem dX0_passOneHour_14 : decode cX0_passOneHour 14 = .ok (.iload_n 1, 1) := by decide +kernel
theorem dX0_passOneHour_15 : decode cX0_passOneHour 15 = .ok (.aload_n 0, 1) := by decide +kernel
theorem dX0_passOneHour_16 : decode cX0_passOneHour 16 = .ok (.iload_n 1, 1) := by decide +kernel
theorem dX0_passOneHour_17 : decode cX0_passOneHour 17 = .ok (.iconst 1, 1) := by decide +kernel
theorem dX0_passOneHour_18 : decode cX0_passOneHour 18 = .ok (.invokevirtual 119, 3) := by decide +kernel
theorem dX0_passOneHour_21 : decode cX0_passOneHour 21 = .ok (.iastore, 1) := by decide +kernel
theorem dX0_passOneHour_22 : decode cX0_passOneHour 22 = .ok (.iinc 1 1, 3) := by decide +kernel
theorem dX0_passOneHour_25 : decode cX0_passOneHour 25 = .ok (.goto (-23), 3) := by decide +kernel
theorem dX0_passOneHour_28 : decode cX0_passOneHour 28 = .ok (.aload_n 0, 1) := by decide +kernel
theorem dX0_passOneHour_29 : decode cX0_passOneHour 29 = .ok (.dup, 1) := by decide +kernel
theorem dX0_passOneHour_30 : decode cX0_passOneHour 30 = .ok (.getfield 32, 3) := by decide +kernel
theorem dX0_passOneHour_33 : decode cX0_passOneHour 33 = .ok (.aload_n 0, 1) := by decide +kernel
theorem dX0_passOneHour_34 : decode cX0_passOneHour 34 = .ok (.iconst 0, 1) := by decide +kernel
theorem dX0_passOneHour_35 : decode cX0_passOneHour 35 = .ok (.invokevirtual 86, 3) := by decide +kernel
theorem dX0_passOneHour_38 : decode cX0_passOneHour 38 = .ok (.iadd, 1) := by decide +kernel
theorem dX0_passOneHour_39 : decode cX0_passOneHour 39 = .ok (.putfield 32, 3) := by decide +kernel
theorem dX0_passOneHour_42 : decode cX0_passOneHour 42 = .ok (.aload_n 0, 1) := by decide +kernel
theorem dX0_passOneHour_43 : decode cX0_passOneHour 43 = .ok (.bipush 100, 2) := by decide +kernel
theorem dX0_passOneHour_45 : decode cX0_passOneHour 45 = .ok (.aload_n 0, 1) := by decide +kernel
theorem dX0_passOneHour_46 : decode cX0_passOneHour 46 = .ok (.getfield 29, 3) := by decide +kernel
theorem dX0_passOneHour_49 : decode cX0_passOneHour 49 = .ok (.aload_n 0, 1) := by decide +kernel
theorem dX0_passOneHour_50 : decode cX0_passOneHour 50 = .ok (.invokevirtual 174, 3) := by decide +kernel
theorem dX0_passOneHour_53 : decode cX0_passOneHour 53 = .ok (.iadd, 1) := by decide +kernel
theorem dX0_passOneHour_54 : decode cX0_passOneHour 54 = .ok (.invokestatic 171, 3) := by decide +kernel
theorem dX0_passOneHour_57 : decode cX0_passOneHour 57 = .ok (.putfield 29, 3) := by decide +kernel
theorem dX0_passOneHour_60 : decode cX0_passOneHour 60 = .ok (.aload_n 0, 1) := by decide +kernel
theorem dX0_passOneHour_61 : decode cX0_passOneHour 61 = .ok (.dup, 1) := by decide +kernel
theorem dX0_passOneHour_62 : decode cX0_passOneHour 62 = .ok (.getfield 26, 3) := by decide +kernel
theorem dX0_passOneHour_65 : decode cX0_passOneHour 65 = .ok (.iconst 1, 1) := by decide +kernel
theorem dX0_passOneHour_66 : decode cX0_passOneHour 66 = .ok (.iadd, 1) := by decide +kernel
theorem dX0_passOneHour_67 : decode cX0_passOneHour 67 = .ok (.putfield 26, 3) := by decide +kernel
theorem dX0_passOneHour_70 : decode cX0_passOneHour 70 = .ok (.return_, 1) := by decide +kernel
set_option maxRecDepth 20000 in
theorem ggX0_emptyCorners_X0_crowdAt : GoodIn wsX0_emptyCorners wsX0_crowdAt := goodIn_r _ [5, 6, 7, 8, 9, 10, 11, 12, 13, 14, 15, 16] (by decide +kernel) (by decide +kernel)
set_option maxRecDepth 20000 in
theorem gX0_emptyCorners_X0_crowdAt : GoodIn wsX0_emptyCorners (wsV RX0 104 RX0 yX0_crowdAt wsX0_crowdAt) := goodIn_app (goodIn_of _ (by decide +kernel)) ggX0_emptyCorners_X0_crowdAt
theorem dX0_emptyCorners_0 : decode cX0_emptyCorners 0 = .ok (.iconst 0, 1) := by decide +kernel
theorem dX0_emptyCorners_1 : decode cX0_emptyCorners 1 = .ok (.istore_n 1, 1) := by decide +kernel
theorem dX0_emptyCorners_2 : decode cX0_emptyCorners 2 = .ok (.iconst 0, 1) := by decide +kernel
theorem dX0_emptyCorners_3 : decode cX0_emptyCorners 3 = .ok (.istore_n 2, 1) := by decide +kernel
theorem dX0_emptyCorners_4 : decode cX0_emptyCorners 4 = .ok (.iload_n 2, 1) := by decide +kernel
theorem dX0_emptyCorners_5 : decode cX0_emptyCorners 5 = .ok (.bipush 6, 2) := by decide +kernel
theorem dX0_emptyCorners_7 : decode cX0_emptyCorners 7 = .ok (.if_icmp .ge 20, 3) := by decide +kernel
theorem dX0_emptyCorners_10 : decode cX0_emptyCorners 10 = .ok (.aload_n 0, 1) := by decide +kernel
theorem dX0_emptyCorners_11 : decode cX0_emptyCorners 11 = .ok (.iload_n 2, 1) := by decide +kernel
theorem dX0_emptyCorners_12 : decode cX0_emptyCorners 12 = .ok (.invokevirtual 104, 3) := by decide +kernel
theorem dX0_emptyCorners_15 : decode cX0_emptyCorners 15 = .ok (.ifCond .ne 6, 3) := by decide +kernel
theorem dX0_emptyCorners_18 : decode cX0_emptyCorners 18 = .ok (.iinc 1 1, 3) := by decide +kernel
theorem dX0_emptyCorners_21 : decode cX0_emptyCorners 21 = .ok (.iinc 2 1, 3) := by decide +kernel
theorem dX0_emptyCorners_24 : decode cX0_emptyCorners 24 = .ok (.goto (-20), 3) := by decide +kernel
theorem dX0_emptyCorners_27 : decode cX0_emptyCorners 27 = .ok (.iload_n 1, 1) := by decide +kernel
theorem dX0_emptyCorners_28 : decode cX0_emptyCorners 28 = .ok (.ireturn, 1) := by decide +kernel
theorem dX0_crowdAt_0 : decode cX0_crowdAt 0 = .ok (.iconst 0, 1) := by decide +kernel
theorem dX0_crowdAt_1 : decode cX0_crowdAt 1 = .ok (.istore_n 2, 1) := by decide +kernel
theorem dX0_crowdAt_2 : decode cX0_crowdAt 2 = .ok (.iconst 0, 1) := by decide +kernel
theorem dX0_crowdAt_3 : decode cX0_crowdAt 3 = .ok (.istore_n 3, 1) := by decide +kernel
theorem dX0_crowdAt_4 : decode cX0_crowdAt 4 = .ok (.iload_n 3, 1) := by decide +kernel
theorem dX0_crowdAt_5 : decode cX0_crowdAt 5 = .ok (.aload_n 0, 1) := by decide +kernel
theorem dX0_crowdAt_6 : decode cX0_crowdAt 6 = .ok (.getfield 22, 3) := by decide +kernel
theorem dX0_crowdAt_9 : decode cX0_crowdAt 9 = .ok (.if_icmp .ge 22, 3) := by decide +kernel
theorem dX0_crowdAt_12 : decode cX0_crowdAt 12 = .ok (.aload_n 0, 1) := by decide +kernel
theorem dX0_crowdAt_13 : decode cX0_crowdAt 13 = .ok (.getfield 16, 3) := by decide +kernel
theorem dX0_crowdAt_16 : decode cX0_crowdAt 16 = .ok (.iload_n 3, 1) := by decide +kernel
theorem dX0_crowdAt_17 : decode cX0_crowdAt 17 = .ok (.iaload, 1) := by decide +kernel
theorem dX0_crowdAt_18 : decode cX0_crowdAt 18 = .ok (.iload_n 1, 1) := by decide +kernel
theorem dX0_crowdAt_19 : decode cX0_crowdAt 19 = .ok (.if_icmp .ne 6, 3) := by decide +kernel
theorem dX0_crowdAt_22 : decode cX0_crowdAt 22 = .ok (.iinc 2 1, 3) := by decide +kernel
theorem dX0_crowdAt_25 : decode cX0_crowdAt 25 = .ok (.iinc 3 1, 3) := by decide +kernel
theorem dX0_crowdAt_28 : decode cX0_crowdAt 28 = .ok (.goto (-24), 3) := by decide +kernel
theorem dX0_crowdAt_31 : decode cX0_crowdAt 31 = .ok (.iload_n 2, 1) := by decide +kernel
theorem dX0_crowdAt_32 : decode cX0_crowdAt 32 = .ok (.ireturn, 1) := by decide +kernel
theorem dX0_exchange_0 : decode cX0_exchange 0 = .ok (.aload_n 0, 1) := by decide +kernel
theorem dX0_exchange_1 : decode cX0_exchange 1 = .ok (.iload_n 1, 1) := by decide +kernel
theorem dX0_exchange_2 : decode cX0_exchange 2 = .ok (.iaload, 1) := by decide +kernel
theorem dX0_exchange_3 : decode cX0_exchange 3 = .ok (.istore_n 3, 1) := by decide +kernel
theorem dX0_exchange_4 : decode cX0_exchange 4 = .ok (.aload_n 0, 1) := by decide +kernel
theorem dX0_exchange_5 : decode cX0_exchange 5 = .ok (.iload_n 1, 1) := by decide +kernel
theorem dX0_exchange_6 : decode cX0_exchange 6 = .ok (.aload_n 0, 1) := by decide +kernel
theorem dX0_exchange_7 : decode cX0_exchange 7 = .ok (.iload_n 2, 1) := by decide +kernel
theorem dX0_exchange_8 : decode cX0_exchange 8 = .ok (.iaload, 1) := by decide +kernel
theorem dX0_exchange_9 : decode cX0_exchange 9 = .ok (.iastore, 1) := by decide +kernel
theorem dX0_exchange_10 : decode cX0_exchange 10 = .ok (.aload_n 0, 1) := by decide +kernel
theorem dX0_exchange_11 : decode cX0_exchange 11 = .ok (.iload_n 2, 1) := by decide +kernel
theorem dX0_exchange_12 : decode cX0_exchange 12 = .ok (.iload_n 3, 1) := by decide +kernel
theorem dX0_exchange_13 : decode cX0_exchange 13 = .ok (.iastore, 1) := by decide +kernel
theorem dX0_exchange_14 : decode cX0_exchange 14 = .ok (.return_, 1) := by decide +kernel
theorem dX0_mirrored_0 : decode cX0_mirrored 0 = .ok (.iload_n 0, 1) := by decide +kernel
theorem dX0_mirrored_1 : decode cX0_mirrored 1 = .ok (.bipush 10, 2) := by decide +kernel
theorem dX0_mirrored_3 : decode cX0_mirrored 3 = .ok (.idiv, 1) := by decide +kernel
theorem dX0_mirrored_4 : decode cX0_mirrored 4 = .ok (.iload_n 1, 1) := by decide +kernel
theorem dX0_mirrored_5 : decode cX0_mirrored 5 = .ok (.bipush 10, 2) := by decide +kernel
theorem dX0_mirrored_7 : decode cX0_mirrored 7 = .ok (.irem, 1) := by decide +kernel
theorem dX0_mirrored_8 : decode cX0_mirrored 8 = .ok (.if_icmp .ne 18, 3) := by decide +kernel
theorem dX0_mirrored_11 : decode cX0_mirrored 11 = .ok (.iload_n 0, 1) := by decide +kernel
theorem dX0_mirrored_12 : decode cX0_mirrored 12 = .ok (.bipush 10, 2) := by decide +kernel
theorem dX0_mirrored_14 : decode cX0_mirrored 14 = .ok (.irem, 1) := by decide +kernel
theorem dX0_mirrored_15 : decode cX0_mirrored 15 = .ok (.iload_n 1, 1) := by decide +kernel
theorem dX0_mirrored_16 : decode cX0_mirrored 16 = .ok (.bipush 10, 2) := by decide +kernel
theorem dX0_mirrored_18 : decode cX0_mirrored 18 = .ok (.idiv, 1) := by decide +kernel
theorem dX0_mirrored_19 : decode cX0_mirrored 19 = .ok (.if_icmp .ne 7, 3) := by decide +kernel
theorem dX0_mirrored_22 : decode cX0_mirrored 22 = .ok (.iconst 1, 1) := by decide +kernel
theorem dX0_mirrored_23 : decode cX0_mirrored 23 = .ok (.goto 4, 3) := by decide +kernel
theorem dX0_mirrored_26 : decode cX0_mirrored 26 = .ok (.iconst 0, 1) := by decide +kernel
theorem dX0_mirrored_27 : decode cX0_mirrored 27 = .ok (.ireturn, 1) := by decide +kernel
theorem dX0_figureSum_0 : decode cX0_figureSum 0 = .ok (.iload_n 0, 1) := by decide +kernel
theorem dX0_figureSum_1 : decode cX0_figureSum 1 = .ok (.bipush 10, 2) := by decide +kernel
theorem dX0_figureSum_3 : decode cX0_figureSum 3 = .ok (.idiv, 1) := by decide +kernel
theorem dX0_figureSum_4 : decode cX0_figureSum 4 = .ok (.iload_n 0, 1) := by decide +kernel
theorem dX0_figureSum_5 : decode cX0_figureSum 5 = .ok (.bipush 10, 2) := by decide +kernel
theorem dX0_figureSum_7 : decode cX0_figureSum 7 = .ok (.irem, 1) := by decide +kernel
theorem dX0_figureSum_8 : decode cX0_figureSum 8 = .ok (.iadd, 1) := by decide +kernel
theorem dX0_figureSum_9 : decode cX0_figureSum 9 = .ok (.ireturn, 1) := by decide +kernel
set_option maxRecDepth 20000 in
theorem ggX0_pointsOfTickets_X0_figureSum : GoodIn wsX0_pointsOfTickets wsX0_figureSum := goodIn_r _ [8] (by decide +kernel) (by decide +kernel)
set_option maxRecDepth 20000 in
theorem gX0_pointsOfTickets_X0_figureSum : GoodIn wsX0_pointsOfTickets (va_wsS RX0 177 yX0_figureSum wsX0_figureSum) := goodIn_app (goodIn_of _ (by decide +kernel)) ggX0_pointsOfTickets_X0_figureSum
set_option maxRecDepth 20000 in
theorem ggX0_pointsOfTickets_X0_mirrored : GoodIn wsX0_pointsOfTickets wsX0_mirrored := goodIn_r _ [11] (by decide +kernel) (by decide +kernel)
set_option maxRecDepth 20000 in
theorem gX0_pointsOfTickets_X0_mirrored : GoodIn wsX0_pointsOfTickets (va_wsS RX0 110 yX0_mirrored wsX0_mirrored) := goodIn_app (goodIn_of _ (by decide +kernel)) ggX0_pointsOfTickets_X0_mirrored
theorem dX0_pointsOfTickets_0 : decode cX0_pointsOfTickets 0 = .ok (.iconst 0, 1) := by decide +kernel
theorem dX0_pointsOfTickets_1 : decode cX0_pointsOfTickets 1 = .ok (.istore_n 2, 1) := by decide +kernel
theorem dX0_pointsOfTickets_2 : decode cX0_pointsOfTickets 2 = .ok (.iload_n 0, 1) := by decide +kernel
theorem dX0_pointsOfTickets_3 : decode cX0_pointsOfTickets 3 = .ok (.bipush 10, 2) := by decide +kernel
theorem dX0_pointsOfTickets_5 : decode cX0_pointsOfTickets 5 = .ok (.irem, 1) := by decide +kernel
theorem dX0_pointsOfTickets_6 : decode cX0_pointsOfTickets 6 = .ok (.iload_n 1, 1) := by decide +kernel
theorem dX0_pointsOfTickets_7 : decode cX0_pointsOfTickets 7 = .ok (.bipush 10, 2) := by decide +kernel
theorem dX0_pointsOfTickets_9 : decode cX0_pointsOfTickets 9 = .ok (.irem, 1) := by decide +kernel
theorem dX0_pointsOfTickets_10 : decode cX0_pointsOfTickets 10 = .ok (.if_icmp .ne 6, 3) := by decide +kernel
theorem dX0_pointsOfTickets_13 : decode cX0_pointsOfTickets 13 = .ok (.iinc 2 1, 3) := by decide +kernel
theorem dX0_pointsOfTickets_16 : decode cX0_pointsOfTickets 16 = .ok (.iload_n 0, 1) := by decide +kernel
theorem dX0_pointsOfTickets_17 : decode cX0_pointsOfTickets 17 = .ok (.invokestatic 177, 3) := by decide +kernel
theorem dX0_pointsOfTickets_20 : decode cX0_pointsOfTickets 20 = .ok (.iload_n 1, 1) := by decide +kernel
theorem dX0_pointsOfTickets_21 : decode cX0_pointsOfTickets 21 = .ok (.invokestatic 177, 3) := by decide +kernel
theorem dX0_pointsOfTickets_24 : decode cX0_pointsOfTickets 24 = .ok (.if_icmp .ne 6, 3) := by decide +kernel
theorem dX0_pointsOfTickets_27 : decode cX0_pointsOfTickets 27 = .ok (.iinc 2 2, 3) := by decide +kernel
theorem dX0_pointsOfTickets_30 : decode cX0_pointsOfTickets 30 = .ok (.iload_n 0, 1) := by decide +kernel
theorem dX0_pointsOfTickets_31 : decode cX0_pointsOfTickets 31 = .ok (.iload_n 1, 1) := by decide +kernel
theorem dX0_pointsOfTickets_32 : decode cX0_pointsOfTickets 32 = .ok (.isub, 1) := by decide +kernel
theorem dX0_pointsOfTickets_33 : decode cX0_pointsOfTickets 33 = .ok (.invokestatic 166, 3) := by decide +kernel
theorem dX0_pointsOfTickets_36 : decode cX0_pointsOfTickets 36 = .ok (.iconst 1, 1) := by decide +kernel
theorem dX0_pointsOfTickets_37 : decode cX0_pointsOfTickets 37 = .ok (.if_icmp .ne 6, 3) := by decide +kernel
theorem dX0_pointsOfTickets_40 : decode cX0_pointsOfTickets 40 = .ok (.iinc 2 3, 3) := by decide +kernel
theorem dX0_pointsOfTickets_43 : decode cX0_pointsOfTickets 43 = .ok (.iload_n 0, 1) := by decide +kernel
theorem dX0_pointsOfTickets_44 : decode cX0_pointsOfTickets 44 = .ok (.iload_n 1, 1) := by decide +kernel
theorem dX0_pointsOfTickets_45 : decode cX0_pointsOfTickets 45 = .ok (.invokestatic 110, 3) := by decide +kernel
theorem dX0_pointsOfTickets_48 : decode cX0_pointsOfTickets 48 = .ok (.ifCond .eq 6, 3) := by decide +kernel
theorem dX0_pointsOfTickets_51 : decode cX0_pointsOfTickets 51 = .ok (.iinc 2 5, 3) := by decide +kernel
theorem dX0_pointsOfTickets_54 : decode cX0_pointsOfTickets 54 = .ok (.iload_n 2, 1) := by decide +kernel
theorem dX0_pointsOfTickets_55 : decode cX0_pointsOfTickets 55 = .ok (.ireturn, 1) := by decide +kernel
theorem dX0_pointsOfColours_0 : decode cX0_pointsOfColours 0 = .ok (.iload_n 0, 1) := by decide +kernel
theorem dX0_pointsOfColours_1 : decode cX0_pointsOfColours 1 = .ok (.iload_n 1, 1) := by decide +kernel
theorem dX0_pointsOfColours_2 : decode cX0_pointsOfColours 2 = .ok (.if_icmp .ne 7, 3) := by decide +kernel
theorem dX0_pointsOfColours_5 : decode cX0_pointsOfColours 5 = .ok (.iconst 2, 1) := by decide +kernel
theorem dX0_pointsOfColours_6 : decode cX0_pointsOfColours 6 = .ok (.goto 4, 3) := by decide +kernel
theorem dX0_pointsOfColours_9 : decode cX0_pointsOfColours 9 = .ok (.iconst 0, 1) := by decide +kernel
theorem dX0_pointsOfColours_10 : decode cX0_pointsOfColours 10 = .ok (.ireturn, 1) := by decide +kernel
set_option maxRecDepth 20000 in
theorem ggX0_pointsOfPair_X0_pointsOfTickets : GoodIn wsX0_pointsOfPair wsX0_pointsOfTickets := goodIn_r _ [6, 7, 8, 9, 10, 11, 12, 5, 13, 14, 15, 16] (by decide +kernel) (by decide +kernel)
set_option maxRecDepth 20000 in
theorem gX0_pointsOfPair_X0_pointsOfTickets : GoodIn wsX0_pointsOfPair (va_wsS RX0 180 yX0_pointsOfTickets wsX0_pointsOfTickets) := goodIn_app (goodIn_of _ (by decide +kernel)) ggX0_pointsOfPair_X0_pointsOfTickets
set_option maxRecDepth 20000 in
theorem ggX0_pointsOfPair_X0_pointsOfColours : GoodIn wsX0_pointsOfPair wsX0_pointsOfColours := goodIn_r _ [19] (by decide +kernel) (by decide +kernel)
set_option maxRecDepth 20000 in
theorem gX0_pointsOfPair_X0_pointsOfColours : GoodIn wsX0_pointsOfPair (va_wsS RX0 183 yX0_pointsOfColours wsX0_pointsOfColours) := goodIn_app (goodIn_of _ (by decide +kernel)) ggX0_pointsOfPair_X0_pointsOfColours
theorem dX0_pointsOfPair_0 : decode cX0_pointsOfPair 0 = .ok (.aload_n 0, 1) := by decide +kernel
theorem dX0_pointsOfPair_1 : decode cX0_pointsOfPair 1 = .ok (.getfield 9, 3) := by decide +kernel
theorem dX0_pointsOfPair_4 : decode cX0_pointsOfPair 4 = .ok (.iload_n 1, 1) := by decide +kernel
theorem dX0_pointsOfPair_5 : decode cX0_pointsOfPair 5 = .ok (.iaload, 1) := by decide +kernel
theorem dX0_pointsOfPair_6 : decode cX0_pointsOfPair 6 = .ok (.aload_n 0, 1) := by decide +kernel
theorem dX0_pointsOfPair_7 : decode cX0_pointsOfPair 7 = .ok (.getfield 9, 3) := by decide +kernel
theorem dX0_pointsOfPair_10 : decode cX0_pointsOfPair 10 = .ok (.iload_n 2, 1) := by decide +kernel
theorem dX0_pointsOfPair_11 : decode cX0_pointsOfPair 11 = .ok (.iaload, 1) := by decide +kernel
theorem dX0_pointsOfPair_12 : decode cX0_pointsOfPair 12 = .ok (.invokestatic 180, 3) := by decide +kernel
theorem dX0_pointsOfPair_15 : decode cX0_pointsOfPair 15 = .ok (.aload_n 0, 1) := by decide +kernel
theorem dX0_pointsOfPair_16 : decode cX0_pointsOfPair 16 = .ok (.getfield 13, 3) := by decide +kernel
theorem dX0_pointsOfPair_19 : decode cX0_pointsOfPair 19 = .ok (.iload_n 1, 1) := by decide +kernel
theorem dX0_pointsOfPair_20 : decode cX0_pointsOfPair 20 = .ok (.iaload, 1) := by decide +kernel
theorem dX0_pointsOfPair_21 : decode cX0_pointsOfPair 21 = .ok (.aload_n 0, 1) := by decide +kernel
theorem dX0_pointsOfPair_22 : decode cX0_pointsOfPair 22 = .ok (.getfield 13, 3) := by decide +kernel
theorem dX0_pointsOfPair_25 : decode cX0_pointsOfPair 25 = .ok (.iload_n 2, 1) := by decide +kernel
theorem dX0_pointsOfPair_26 : decode cX0_pointsOfPair 26 = .ok (.iaload, 1) := by decide +kernel
theorem dX0_pointsOfPair_27 : decode cX0_pointsOfPair 27 = .ok (.invokestatic 183, 3) := by decide +kernel
theorem dX0_pointsOfPair_30 : decode cX0_pointsOfPair 30 = .ok (.iadd, 1) := by decide +kernel
theorem dX0_pointsOfPair_31 : decode cX0_pointsOfPair 31 = .ok (.ireturn, 1) := by decide +kernel
theorem dX0_cornerBehind_0 : decode cX0_cornerBehind 0 = .ok (.aload_n 0, 1) := by decide +kernel
theorem dX0_cornerBehind_1 : decode cX0_cornerBehind 1 = .ok (.getfield 16, 3) := by decide +kernel
theorem dX0_cornerBehind_4 : decode cX0_cornerBehind 4 = .ok (.iload_n 1, 1) := by decide +kernel
theorem dX0_cornerBehind_5 : decode cX0_cornerBehind 5 = .ok (.iaload, 1) := by decide +kernel
theorem dX0_cornerBehind_6 : decode cX0_cornerBehind 6 = .ok (.aload_n 0, 1) := by decide +kernel
theorem dX0_cornerBehind_7 : decode cX0_cornerBehind 7 = .ok (.getfield 19, 3) := by decide +kernel
theorem dX0_cornerBehind_10 : decode cX0_cornerBehind 10 = .ok (.iload_n 1, 1) := by decide +kernel
theorem dX0_cornerBehind_11 : decode cX0_cornerBehind 11 = .ok (.iaload, 1) := by decide +kernel
theorem dX0_cornerBehind_12 : decode cX0_cornerBehind 12 = .ok (.iload_n 2, 1) := by decide +kernel
theorem dX0_cornerBehind_13 : decode cX0_cornerBehind 13 = .ok (.imul, 1) := by decide +kernel
theorem dX0_cornerBehind_14 : decode cX0_cornerBehind 14 = .ok (.iadd, 1) := by decide +kernel
theorem dX0_cornerBehind_15 : decode cX0_cornerBehind 15 = .ok (.bipush 6, 2) := by decide +kernel
theorem dX0_cornerBehind_17 : decode cX0_cornerBehind 17 = .ok (.irem, 1) := by decide +kernel
theorem dX0_cornerBehind_18 : decode cX0_cornerBehind 18 = .ok (.ireturn, 1) := by decide +kernel
set_option maxRecDepth 20000 in
theorem ggX0_townBehind_X0_cornerBehind : GoodIn wsX0_townBehind wsX0_cornerBehind := goodIn_r _ [6, 7, 8, 31, 32, 33, 34, 35, 36, 37, 38, 39] (by decide +kernel) (by decide +kernel)
set_option maxRecDepth 20000 in
theorem gX0_townBehind_X0_cornerBehind : GoodIn wsX0_townBehind (wsV RX0 119 RX0 yX0_cornerBehind wsX0_cornerBehind) := goodIn_app (goodIn_of _ (by decide +kernel)) ggX0_townBehind_X0_cornerBehind
set_option maxRecDepth 20000 in
theorem ggX0_townBehind_X0_pointsOfPair : GoodIn wsX0_townBehind wsX0_pointsOfPair := goodIn_r _ [12, 13, 14, 15, 16, 5, 17, 18, 19, 20, 21, 22, 23, 24, 25, 26, 27, 28, 29, 30, 31, 32, 33, 34, 35, 36, 37, 38, 39] (by decide +kernel) (by decide +kernel)
set_option maxRecDepth 20000 in
theorem gX0_townBehind_X0_pointsOfPair : GoodIn wsX0_townBehind (wsV RX0 107 RX0 yX0_pointsOfPair wsX0_pointsOfPair) := goodIn_app (goodIn_of _ (by decide +kernel)) ggX0_townBehind_X0_pointsOfPair
theorem dX0_townBehind_0 : decode cX0_townBehind 0 = .ok (.iconst 0, 1) := by decide +kernel
theorem dX0_townBehind_1 : decode cX0_townBehind 1 = .ok (.istore_n 2, 1) := by decide +kernel
theorem dX0_townBehind_2 : decode cX0_townBehind 2 = .ok (.iconst 0, 1) := by decide +kernel
theorem dX0_townBehind_3 : decode cX0_townBehind 3 = .ok (.istore_n 3, 1) := by decide +kernel
theorem dX0_townBehind_4 : decode cX0_townBehind 4 = .ok (.iload_n 3, 1) := by decide +kernel
theorem dX0_townBehind_5 : decode cX0_townBehind 5 = .ok (.aload_n 0, 1) := by decide +kernel
theorem dX0_townBehind_6 : decode cX0_townBehind 6 = .ok (.getfield 22, 3) := by decide +kernel
theorem dX0_townBehind_9 : decode cX0_townBehind 9 = .ok (.if_icmp .ge 55, 3) := by decide +kernel
theorem dX0_townBehind_12 : decode cX0_townBehind 12 = .ok (.iload_n 3, 1) := by decide +kernel
theorem dX0_townBehind_13 : decode cX0_townBehind 13 = .ok (.iconst 1, 1) := by decide +kernel
theorem dX0_townBehind_14 : decode cX0_townBehind 14 = .ok (.iadd, 1) := by decide +kernel
theorem dX0_townBehind_15 : decode cX0_townBehind 15 = .ok (.istore 4, 2) := by decide +kernel
theorem dX0_townBehind_17 : decode cX0_townBehind 17 = .ok (.iload 4, 2) := by decide +kernel
theorem dX0_townBehind_19 : decode cX0_townBehind 19 = .ok (.aload_n 0, 1) := by decide +kernel
theorem dX0_townBehind_20 : decode cX0_townBehind 20 = .ok (.getfield 22, 3) := by decide +kernel
theorem dX0_townBehind_23 : decode cX0_townBehind 23 = .ok (.if_icmp .ge 35, 3) := by decide +kernel
theorem dX0_townBehind_26 : decode cX0_townBehind 26 = .ok (.aload_n 0, 1) := by decide +kernel
theorem dX0_townBehind_27 : decode cX0_townBehind 27 = .ok (.iload_n 3, 1) := by decide +kernel
theorem dX0_townBehind_28 : decode cX0_townBehind 28 = .ok (.iload_n 1, 1) := by decide +kernel
theorem dX0_townBehind_29 : decode cX0_townBehind 29 = .ok (.invokevirtual 119, 3) := by decide +kernel
theorem dX0_townBehind_32 : decode cX0_townBehind 32 = .ok (.aload_n 0, 1) := by decide +kernel
theorem dX0_townBehind_33 : decode cX0_townBehind 33 = .ok (.iload 4, 2) := by decide +kernel
theorem dX0_townBehind_35 : decode cX0_townBehind 35 = .ok (.iload_n 1, 1) := by decide +kernel
theorem dX0_townBehind_36 : decode cX0_townBehind 36 = .ok (.invokevirtual 119, 3) := by decide +kernel
theorem dX0_townBehind_39 : decode cX0_townBehind 39 = .ok (.if_icmp .ne 13, 3) := by decide +kernel
theorem dX0_townBehind_42 : decode cX0_townBehind 42 = .ok (.iload_n 2, 1) := by decide +kernel
theorem dX0_townBehind_43 : decode cX0_townBehind 43 = .ok (.aload_n 0, 1) := by decide +kernel
theorem dX0_townBehind_44 : decode cX0_townBehind 44 = .ok (.iload_n 3, 1) := by decide +kernel
theorem dX0_townBehind_45 : decode cX0_townBehind 45 = .ok (.iload 4, 2) := by decide +kernel
theorem dX0_townBehind_47 : decode cX0_townBehind 47 = .ok (.invokevirtual 107, 3) := by decide +kernel
theorem dX0_townBehind_50 : decode cX0_townBehind 50 = .ok (.iadd, 1) := by decide +kernel
theorem dX0_townBehind_51 : decode cX0_townBehind 51 = .ok (.istore_n 2, 1) := by decide +kernel
theorem dX0_townBehind_52 : decode cX0_townBehind 52 = .ok (.iinc 4 1, 3) := by decide +kernel
theorem dX0_townBehind_55 : decode cX0_townBehind 55 = .ok (.goto (-38), 3) := by decide +kernel
theorem dX0_townBehind_58 : decode cX0_townBehind 58 = .ok (.iinc 3 1, 3) := by decide +kernel
theorem dX0_townBehind_61 : decode cX0_townBehind 61 = .ok (.goto (-57), 3) := by decide +kernel
theorem dX0_townBehind_64 : decode cX0_townBehind 64 = .ok (.iload_n 2, 1) := by decide +kernel
theorem dX0_townBehind_65 : decode cX0_townBehind 65 = .ok (.ireturn, 1) := by decide +kernel
set_option maxRecDepth 20000 in
theorem ggX0_townIfSwapped_X0_exchange : GoodIn wsX0_townIfSwapped wsX0_exchange := goodIn_r _ [5] (by decide +kernel) (by decide +kernel)
set_option maxRecDepth 20000 in
theorem gX0_townIfSwapped_X0_exchange : GoodIn wsX0_townIfSwapped (va_wsS RX0 90 yX0_exchange wsX0_exchange) := goodIn_app (goodIn_of _ (by decide +kernel)) ggX0_townIfSwapped_X0_exchange
set_option maxRecDepth 20000 in
theorem ggX0_townIfSwapped_X0_townBehind : GoodIn wsX0_townIfSwapped wsX0_townBehind := goodIn_r _ [9, 10, 11, 12, 13, 4, 14, 15, 16, 17, 18, 19, 20, 1, 21, 22, 23, 24, 25, 26, 27, 28, 29, 30, 31, 32, 33, 34, 35, 36, 37, 38, 39, 40, 41, 42, 43, 44, 45, 46] (by decide +kernel) (by decide +kernel)
set_option maxRecDepth 20000 in
theorem gX0_townIfSwapped_X0_townBehind : GoodIn wsX0_townIfSwapped (wsV RX0 86 RX0 yX0_townBehind wsX0_townBehind) := goodIn_app (goodIn_of _ (by decide +kernel)) ggX0_townIfSwapped_X0_townBehind
theorem dX0_townIfSwapped_0 : decode cX0_townIfSwapped 0 = .ok (.aload_n 0, 1) := by decide +kernel
theorem dX0_townIfSwapped_1 : decode cX0_townIfSwapped 1 = .ok (.getfield 9, 3) := by decide +kernel
theorem dX0_townIfSwapped_4 : decode cX0_townIfSwapped 4 = .ok (.iload_n 1, 1) := by decide +kernel
theorem dX0_townIfSwapped_5 : decode cX0_townIfSwapped 5 = .ok (.iload_n 2, 1) := by decide +kernel
theorem dX0_townIfSwapped_6 : decode cX0_townIfSwapped 6 = .ok (.invokestatic 90, 3) := by decide +kernel
theorem dX0_townIfSwapped_9 : decode cX0_townIfSwapped 9 = .ok (.aload_n 0, 1) := by decide +kernel
theorem dX0_townIfSwapped_10 : decode cX0_townIfSwapped 10 = .ok (.iconst 0, 1) := by decide +kernel
theorem dX0_townIfSwapped_11 : decode cX0_townIfSwapped 11 = .ok (.invokevirtual 86, 3) := by decide +kernel
theorem dX0_townIfSwapped_14 : decode cX0_townIfSwapped 14 = .ok (.istore_n 3, 1) := by decide +kernel
theorem dX0_townIfSwapped_15 : decode cX0_townIfSwapped 15 = .ok (.aload_n 0, 1) := by decide +kernel
theorem dX0_townIfSwapped_16 : decode cX0_townIfSwapped 16 = .ok (.getfield 9, 3) := by decide +kernel
theorem dX0_townIfSwapped_19 : decode cX0_townIfSwapped 19 = .ok (.iload_n 1, 1) := by decide +kernel
theorem dX0_townIfSwapped_20 : decode cX0_townIfSwapped 20 = .ok (.iload_n 2, 1) := by decide +kernel
theorem dX0_townIfSwapped_21 : decode cX0_townIfSwapped 21 = .ok (.invokestatic 90, 3) := by decide +kernel
theorem dX0_townIfSwapped_24 : decode cX0_townIfSwapped 24 = .ok (.iload_n 3, 1) := by decide +kernel
theorem dX0_townIfSwapped_25 : decode cX0_townIfSwapped 25 = .ok (.ireturn, 1) := by decide +kernel
set_option maxRecDepth 20000 in
theorem ggX0_luckNow_X0_luckWith : GoodIn wsX0_luckNow wsX0_luckWith := goodIn_r _ [7, 8, 2, 1, 9, 10, 11, 6, 12, 13, 14, 15, 16, 17, 18, 19, 20, 21, 22, 23, 24, 25, 26, 27, 28, 29, 30, 31, 32, 33, 34] (by decide +kernel) (by decide +kernel)
set_option maxRecDepth 20000 in
theorem gX0_luckNow_X0_luckWith : GoodIn wsX0_luckNow (wsV RX0 122 RX0 yX0_luckWith wsX0_luckWith) := goodIn_app (goodIn_of _ (by decide +kernel)) ggX0_luckNow_X0_luckWith
theorem dX0_luckNow_0 : decode cX0_luckNow 0 = .ok (.aload_n 0, 1) := by decide +kernel
theorem dX0_luckNow_1 : decode cX0_luckNow 1 = .ok (.iload_n 1, 1) := by decide +kernel
theorem dX0_luckNow_2 : decode cX0_luckNow 2 = .ok (.aload_n 0, 1) := by decide +kernel
theorem dX0_luckNow_3 : decode cX0_luckNow 3 = .ok (.getfield 9, 3) := by decide +kernel
theorem dX0_luckNow_6 : decode cX0_luckNow 6 = .ok (.iload_n 1, 1) := by decide +kernel
theorem dX0_luckNow_7 : decode cX0_luckNow 7 = .ok (.iaload, 1) := by decide +kernel
theorem dX0_luckNow_8 : decode cX0_luckNow 8 = .ok (.aload_n 0, 1) := by decide +kernel
theorem dX0_luckNow_9 : decode cX0_luckNow 9 = .ok (.getfield 16, 3) := by decide +kernel
theorem dX0_luckNow_12 : decode cX0_luckNow 12 = .ok (.iload_n 1, 1) := by decide +kernel
theorem dX0_luckNow_13 : decode cX0_luckNow 13 = .ok (.iaload, 1) := by decide +kernel
theorem dX0_luckNow_14 : decode cX0_luckNow 14 = .ok (.invokevirtual 122, 3) := by decide +kernel
theorem dX0_luckNow_17 : decode cX0_luckNow 17 = .ok (.ireturn, 1) := by decide +kernel
set_option maxRecDepth 20000 in
theorem ggX0_luckWith_X0_pointsOfTickets : GoodIn wsX0_luckWith wsX0_pointsOfTickets := goodIn_r _ [8, 9, 10, 11, 12, 13, 14, 7, 15, 16, 17, 18] (by decide +kernel) (by decide +kernel)
set_option maxRecDepth 20000 in
theorem gX0_luckWith_X0_pointsOfTickets : GoodIn wsX0_luckWith (va_wsS RX0 180 yX0_pointsOfTickets wsX0_pointsOfTickets) := goodIn_app (goodIn_of _ (by decide +kernel)) ggX0_luckWith_X0_pointsOfTickets
set_option maxRecDepth 20000 in
theorem ggX0_luckWith_X0_pointsOfColours : GoodIn wsX0_luckWith wsX0_pointsOfColours := goodIn_r _ [21] (by decide +kernel) (by decide +kernel)
set_option maxRecDepth 20000 in
theorem gX0_luckWith_X0_pointsOfColours : GoodIn wsX0_luckWith (va_wsS RX0 183 yX0_pointsOfColours wsX0_pointsOfColours) := goodIn_app (goodIn_of _ (by decide +kernel)) ggX0_luckWith_X0_pointsOfColours
theorem dX0_luckWith_0 : decode cX0_luckWith 0 = .ok (.iconst 0, 1) := by decide +kernel
theorem dX0_luckWith_1 : decode cX0_luckWith 1 = .ok (.istore 4, 2) := by decide +kernel
theorem dX0_luckWith_3 : decode cX0_luckWith 3 = .ok (.iconst 0, 1) := by decide +kernel
theorem dX0_luckWith_4 : decode cX0_luckWith 4 = .ok (.istore 5, 2) := by decide +kernel
theorem dX0_luckWith_6 : decode cX0_luckWith 6 = .ok (.iload 5, 2) := by decide +kernel
theorem dX0_luckWith_8 : decode cX0_luckWith 8 = .ok (.aload_n 0, 1) := by decide +kernel
theorem dX0_luckWith_9 : decode cX0_luckWith 9 = .ok (.getfield 22, 3) := by decide +kernel
theorem dX0_luckWith_12 : decode cX0_luckWith 12 = .ok (.if_icmp .ge 59, 3) := by decide +kernel
theorem dX0_luckWith_15 : decode cX0_luckWith 15 = .ok (.iload 5, 2) := by decide +kernel
theorem dX0_luckWith_17 : decode cX0_luckWith 17 = .ok (.iload_n 1, 1) := by decide +kernel
theorem dX0_luckWith_18 : decode cX0_luckWith 18 = .ok (.if_icmp .eq 47, 3) := by decide +kernel
theorem dX0_luckWith_21 : decode cX0_luckWith 21 = .ok (.aload_n 0, 1) := by decide +kernel
theorem dX0_luckWith_22 : decode cX0_luckWith 22 = .ok (.getfield 16, 3) := by decide +kernel
theorem dX0_luckWith_25 : decode cX0_luckWith 25 = .ok (.iload 5, 2) := by decide +kernel
theorem dX0_luckWith_27 : decode cX0_luckWith 27 = .ok (.iaload, 1) := by decide +kernel
theorem dX0_luckWith_28 : decode cX0_luckWith 28 = .ok (.iload_n 3, 1) := by decide +kernel
theorem dX0_luckWith_29 : decode cX0_luckWith 29 = .ok (.if_icmp .ne 36, 3) := by decide +kernel
theorem dX0_luckWith_32 : decode cX0_luckWith 32 = .ok (.iload 4, 2) := by decide +kernel
theorem dX0_luckWith_34 : decode cX0_luckWith 34 = .ok (.iload_n 2, 1) := by decide +kernel
theorem dX0_luckWith_35 : decode cX0_luckWith 35 = .ok (.aload_n 0, 1) := by decide +kernel
theorem dX0_luckWith_36 : decode cX0_luckWith 36 = .ok (.getfield 9, 3) := by decide +kernel
theorem dX0_luckWith_39 : decode cX0_luckWith 39 = .ok (.iload 5, 2) := by decide +kernel
theorem dX0_luckWith_41 : decode cX0_luckWith 41 = .ok (.iaload, 1) := by decide +kernel
theorem dX0_luckWith_42 : decode cX0_luckWith 42 = .ok (.invokestatic 180, 3) := by decide +kernel
theorem dX0_luckWith_45 : decode cX0_luckWith 45 = .ok (.aload_n 0, 1) := by decide +kernel
theorem dX0_luckWith_46 : decode cX0_luckWith 46 = .ok (.getfield 13, 3) := by decide +kernel
theorem dX0_luckWith_49 : decode cX0_luckWith 49 = .ok (.iload_n 1, 1) := by decide +kernel
theorem dX0_luckWith_50 : decode cX0_luckWith 50 = .ok (.iaload, 1) := by decide +kernel
theorem dX0_luckWith_51 : decode cX0_luckWith 51 = .ok (.aload_n 0, 1) := by decide +kernel
theorem dX0_luckWith_52 : decode cX0_luckWith 52 = .ok (.getfield 13, 3) := by decide +kernel
theorem dX0_luckWith_55 : decode cX0_luckWith 55 = .ok (.iload 5, 2) := by decide +kernel
theorem dX0_luckWith_57 : decode cX0_luckWith 57 = .ok (.iaload, 1) := by decide +kernel
theorem dX0_luckWith_58 : decode cX0_luckWith 58 = .ok (.invokestatic 183, 3) := by decide +kernel
theorem dX0_luckWith_61 : decode cX0_luckWith 61 = .ok (.iadd, 1) := by decide +kernel
theorem dX0_luckWith_62 : decode cX0_luckWith 62 = .ok (.iadd, 1) := by decide +kernel
theorem dX0_luckWith_63 : decode cX0_luckWith 63 = .ok (.istore 4, 2) := by decide +kernel
theorem dX0_luckWith_65 : decode cX0_luckWith 65 = .ok (.iinc 5 1, 3) := by decide +kernel
theorem dX0_luckWith_68 : decode cX0_luckWith 68 = .ok (.goto (-62), 3) := by decide +kernel
theorem dX0_luckWith_71 : decode cX0_luckWith 71 = .ok (.iload 4, 2) := by decide +kernel
theorem dX0_luckWith_73 : decode cX0_luckWith 73 = .ok (.ireturn, 1) := by decide +kernel
theorem dX0_mixed_0 : decode cX0_mixed 0 = .ok (.lload_n 0, 1) := by decide +kernel
theorem dX0_mixed_1 : decode cX0_mixed 1 = .ok (.ldc2_w 186, 3) := by decide +kernel
theorem dX0_mixed_4 : decode cX0_mixed 4 = .ok (.lmul, 1) := by decide +kernel
theorem dX0_mixed_5 : decode cX0_mixed 5 = .ok (.lload_n 2, 1) := by decide +kernel
theorem dX0_mixed_6 : decode cX0_mixed 6 = .ok (.ladd, 1) := by decide +kernel
theorem dX0_mixed_7 : decode cX0_mixed 7 = .ok (.lreturn, 1) := by decide +kernel
end
section
theorem dX1_init_0 : decode cX1_init 0 = .ok (.aload_n 0, 1) := by decide +kernel
theorem dX1_init_1 : decode cX1_init 1 = .ok (.invokespecial 1, 3) := by decide +kernel
theorem dX1_init_4 : decode cX1_init 4 = .ok (.aload_n 0, 1) := by decide +kernel
theorem dX1_init_5 : decode cX1_init 5 = .ok (.bipush 12, 2) := by decide +kernel
theorem dX1_init_7 : decode cX1_init 7 = .ok (.newarray .int, 2) := by decide +kernel
theorem dX1_init_9 : decode cX1_init 9 = .ok (.putfield 9, 3) := by decide +kernel
theorem dX1_init_12 : decode cX1_init 12 = .ok (.aload_n 0, 1) := by decide +kernel
theorem dX1_init_13 : decode cX1_init 13 = .ok (.bipush 12, 2) := by decide +kernel
theorem dX1_init_15 : decode cX1_init 15 = .ok (.newarray .int, 2) := by decide +kernel
theorem dX1_init_17 : decode cX1_init 17 = .ok (.putfield 13, 3) := by decide +kernel
theorem dX1_init_20 : decode cX1_init 20 = .ok (.aload_n 0, 1) := by decide +kernel
theorem dX1_init_21 : decode cX1_init 21 = .ok (.bipush 12, 2) := by decide +kernel
theorem dX1_init_23 : decode cX1_init 23 = .ok (.newarray .int, 2) := by decide +kernel
theorem dX1_init_25 : decode cX1_init 25 = .ok (.putfield 16, 3) := by decide +kernel
theorem dX1_init_28 : decode cX1_init 28 = .ok (.aload_n 0, 1) := by decide +kernel
theorem dX1_init_29 : decode cX1_init 29 = .ok (.bipush 12, 2) := by decide +kernel
theorem dX1_init_31 : decode cX1_init 31 = .ok (.newarray .int, 2) := by decide +kernel
theorem dX1_init_33 : decode cX1_init 33 = .ok (.putfield 19, 3) := by decide +kernel
theorem dX1_init_36 : decode cX1_init 36 = .ok (.aload_n 0, 1) := by decide +kernel
theorem dX1_init_37 : decode cX1_init 37 = .ok (.bipush 20, 2) := by decide +kernel
theorem dX1_init_39 : decode cX1_init 39 = .ok (.putfield 22, 3) := by decide +kernel
theorem dX1_init_42 : decode cX1_init 42 = .ok (.return_, 1) := by decide +kernel
theorem dX1_thrown_0 : decode cX1_thrown 0 = .ok (.aload_n 0, 1) := by decide +kernel
theorem dX1_thrown_1 : decode cX1_thrown 1 = .ok (.getfield 26, 3) := by decide +kernel
theorem dX1_thrown_4 : decode cX1_thrown 4 = .ok (.ireturn, 1) := by decide +kernel
theorem dX1_no_0 : decode cX1_no 0 = .ok (.aload_n 0, 1) := by decide +kernel
theorem dX1_no_1 : decode cX1_no 1 = .ok (.iload_n 1, 1) := by decide +kernel
theorem dX1_no_2 : decode cX1_no 2 = .ok (.putfield 26, 3) := by decide +kernel
theorem dX1_no_5 : decode cX1_no 5 = .ok (.iconst 0, 1) := by decide +kernel
theorem dX1_no_6 : decode cX1_no 6 = .ok (.ireturn, 1) := by decide +kernel
theorem dX1_ok_0 : decode cX1_ok 0 = .ok (.aload_n 0, 1) := by decide +kernel
theorem dX1_ok_1 : decode cX1_ok 1 = .ok (.iconst 0, 1) := by decide +kernel
theorem dX1_ok_2 : decode cX1_ok 2 = .ok (.putfield 26, 3) := by decide +kernel
theorem dX1_ok_5 : decode cX1_ok 5 = .ok (.iload_n 1, 1) := by decide +kernel
theorem dX1_ok_6 : decode cX1_ok 6 = .ok (.ireturn, 1) := by decide +kernel
theorem dX1_isIn_0 : decode cX1_isIn 0 = .ok (.iload_n 0, 1) := by decide +kernel
theorem dX1_isIn_1 : decode cX1_isIn 1 = .ok (.iload_n 1, 1) := by decide +kernel
theorem dX1_isIn_2 : decode cX1_isIn 2 = .ok (.if_icmp .lt 12, 3) := by decide +kernel
theorem dX1_isIn_5 : decode cX1_isIn 5 = .ok (.iload_n 0, 1) := by decide +kernel
theorem dX1_isIn_6 : decode cX1_isIn 6 = .ok (.iload_n 2, 1) := by decide +kernel
theorem dX1_isIn_7 : decode cX1_isIn 7 = .ok (.if_icmp .gt 7, 3) := by decide +kernel
theorem dX1_isIn_10 : decode cX1_isIn 10 = .ok (.iconst 1, 1) := by decide +kernel
theorem dX1_isIn_11 : decode cX1_isIn 11 = .ok (.goto 4, 3) := by decide +kernel
theorem dX1_isIn_14 : decode cX1_isIn 14 = .ok (.iconst 0, 1) := by decide +kernel
theorem dX1_isIn_15 : decode cX1_isIn 15 = .ok (.ireturn, 1) := by decide +kernel
set_option maxRecDepth 20000 in
theorem ggX1_isOne_X1_isIn : GoodIn wsX1_isOne wsX1_isIn := goodIn_r _ [5] (by decide +kernel) (by decide +kernel)
set_option maxRecDepth 20000 in
theorem gX1_isOne_X1_isIn : GoodIn wsX1_isOne (va_wsS RX1 32 yX1_isIn wsX1_isIn) := goodIn_app (goodIn_of _ (by decide +kernel)) ggX1_isOne_X1_isIn
theorem dX1_isOne_0 : decode cX1_isOne 0 = .ok (.iload_n 1, 1) := by decide +kernel
theorem dX1_isOne_1 : decode cX1_isOne 1 = .ok (.iconst 0, 1) := by decide +kernel
theorem dX1_isOne_2 : decode cX1_isOne 2 = .ok (.aload_n 0, 1) := by decide +kernel
theorem dX1_isOne_3 : decode cX1_isOne 3 = .ok (.getfield 29, 3) := by decide +kernel
theorem dX1_isOne_6 : decode cX1_isOne 6 = .ok (.iconst 1, 1) := by decide +kernel
theorem dX1_isOne_7 : decode cX1_isOne 7 = .ok (.isub, 1) := by decide +kernel
theorem dX1_isOne_8 : decode cX1_isOne 8 = .ok (.invokestatic 32, 3) := by decide +kernel
theorem dX1_isOne_11 : decode cX1_isOne 11 = .ok (.ireturn, 1) := by decide +kernel
set_option maxRecDepth 20000 in
theorem ggX1_isCorner_X1_isIn : GoodIn wsX1_isCorner wsX1_isIn := goodIn_r _ [4] (by decide +kernel) (by decide +kernel)
set_option maxRecDepth 20000 in
theorem gX1_isCorner_X1_isIn : GoodIn wsX1_isCorner (va_wsS RX1 32 yX1_isIn wsX1_isIn) := goodIn_app (goodIn_of _ (by decide +kernel)) ggX1_isCorner_X1_isIn
theorem dX1_isCorner_0 : decode cX1_isCorner 0 = .ok (.iload_n 0, 1) := by decide +kernel
theorem dX1_isCorner_1 : decode cX1_isCorner 1 = .ok (.iconst 0, 1) := by decide +kernel
theorem dX1_isCorner_2 : decode cX1_isCorner 2 = .ok (.iconst 5, 1) := by decide +kernel
theorem dX1_isCorner_3 : decode cX1_isCorner 3 = .ok (.invokestatic 32, 3) := by decide +kernel
theorem dX1_isCorner_6 : decode cX1_isCorner 6 = .ok (.ireturn, 1) := by decide +kernel
theorem dX1_isMirror_0 : decode cX1_isMirror 0 = .ok (.iload_n 0, 1) := by decide +kernel
theorem dX1_isMirror_1 : decode cX1_isMirror 1 = .ok (.bipush 10, 2) := by decide +kernel
theorem dX1_isMirror_3 : decode cX1_isMirror 3 = .ok (.idiv, 1) := by decide +kernel
theorem dX1_isMirror_4 : decode cX1_isMirror 4 = .ok (.iload_n 1, 1) := by decide +kernel
theorem dX1_isMirror_5 : decode cX1_isMirror 5 = .ok (.bipush 10, 2) := by decide +kernel
theorem dX1_isMirror_7 : decode cX1_isMirror 7 = .ok (.irem, 1) := by decide +kernel
theorem dX1_isMirror_8 : decode cX1_isMirror 8 = .ok (.if_icmp .ne 18, 3) := by decide +kernel
theorem dX1_isMirror_11 : decode cX1_isMirror 11 = .ok (.iload_n 0, 1) := by decide +kernel
theorem dX1_isMirror_12 : decode cX1_isMirror 12 = .ok (.bipush 10, 2) := by decide +kernel
theorem dX1_isMirror_14 : decode cX1_isMirror 14 = .ok (.irem, 1) := by decide +kernel
theorem dX1_isMirror_15 : decode cX1_isMirror 15 = .ok (.iload_n 1, 1) := by decide +kernel
theorem dX1_isMirror_16 : decode cX1_isMirror 16 = .ok (.bipush 10, 2) := by decide +kernel
theorem dX1_isMirror_18 : decode cX1_isMirror 18 = .ok (.idiv, 1) := by decide +kernel
theorem dX1_isMirror_19 : decode cX1_isMirror 19 = .ok (.if_icmp .ne 7, 3) := by decide +kernel
theorem dX1_isMirror_22 : decode cX1_isMirror 22 = .ok (.iconst 1, 1) := by decide +kernel
theorem dX1_isMirror_23 : decode cX1_isMirror 23 = .ok (.goto 4, 3) := by decide +kernel
theorem dX1_isMirror_26 : decode cX1_isMirror 26 = .ok (.iconst 0, 1) := by decide +kernel
theorem dX1_isMirror_27 : decode cX1_isMirror 27 = .ok (.ireturn, 1) := by decide +kernel
set_option maxRecDepth 20000 in
theorem ggX1_points_X1_isMirror : GoodIn wsX1_points wsX1_isMirror := goodIn_r _ [6] (by decide +kernel) (by decide +kernel)
set_option maxRecDepth 20000 in
theorem gX1_points_X1_isMirror : GoodIn wsX1_points (va_wsS RX1 36 yX1_isMirror wsX1_isMirror) := goodIn_app (goodIn_of _ (by decide +kernel)) ggX1_points_X1_isMirror
theorem dX1_points_0 : decode cX1_points 0 = .ok (.aload_n 0, 1) := by decide +kernel
theorem dX1_points_1 : decode cX1_points 1 = .ok (.getfield 9, 3) := by decide +kernel
theorem dX1_points_4 : decode cX1_points 4 = .ok (.iload_n 1, 1) := by decide +kernel
theorem dX1_points_5 : decode cX1_points 5 = .ok (.iaload, 1) := by decide +kernel
theorem dX1_points_6 : decode cX1_points 6 = .ok (.istore_n 3, 1) := by decide +kernel
theorem dX1_points_7 : decode cX1_points 7 = .ok (.aload_n 0, 1) := by decide +kernel
theorem dX1_points_8 : decode cX1_points 8 = .ok (.getfield 9, 3) := by decide +kernel
theorem dX1_points_11 : decode cX1_points 11 = .ok (.iload_n 2, 1) := by decide +kernel
theorem dX1_points_12 : decode cX1_points 12 = .ok (.iaload, 1) := by decide +kernel
theorem dX1_points_13 : decode cX1_points 13 = .ok (.istore 4, 2) := by decide +kernel
theorem dX1_points_15 : decode cX1_points 15 = .ok (.iload_n 3, 1) := by decide +kernel
theorem dX1_points_16 : decode cX1_points 16 = .ok (.bipush 10, 2) := by decide +kernel
theorem dX1_points_18 : decode cX1_points 18 = .ok (.irem, 1) := by decide +kernel
theorem dX1_points_19 : decode cX1_points 19 = .ok (.iload 4, 2) := by decide +kernel
theorem dX1_points_21 : decode cX1_points 21 = .ok (.bipush 10, 2) := by decide +kernel
theorem dX1_points_23 : decode cX1_points 23 = .ok (.irem, 1) := by decide +kernel
theorem dX1_points_24 : decode cX1_points 24 = .ok (.if_icmp .ne 7, 3) := by decide +kernel
theorem dX1_points_27 : decode cX1_points 27 = .ok (.iconst 1, 1) := by decide +kernel
theorem dX1_points_28 : decode cX1_points 28 = .ok (.goto 4, 3) := by decide +kernel
theorem dX1_points_31 : decode cX1_points 31 = .ok (.iconst 0, 1) := by decide +kernel
theorem dX1_points_32 : decode cX1_points 32 = .ok (.istore 5, 2) := by decide +kernel
theorem dX1_points_34 : decode cX1_points 34 = .ok (.iload_n 3, 1) := by decide +kernel
theorem dX1_points_35 : decode cX1_points 35 = .ok (.bipush 10, 2) := by decide +kernel
theorem dX1_points_37 : decode cX1_points 37 = .ok (.idiv, 1) := by decide +kernel
theorem dX1_points_38 : decode cX1_points 38 = .ok (.iload_n 3, 1) := by decide +kernel
theorem dX1_points_39 : decode cX1_points 39 = .ok (.bipush 10, 2) := by decide +kernel
theorem dX1_points_41 : decode cX1_points 41 = .ok (.irem, 1) := by decide +kernel
theorem dX1_points_42 : decode cX1_points 42 = .ok (.iadd, 1) := by decide +kernel
theorem dX1_points_43 : decode cX1_points 43 = .ok (.iload 4, 2) := by decide +kernel
theorem dX1_points_45 : decode cX1_points 45 = .ok (.bipush 10, 2) := by decide +kernel
theorem dX1_points_47 : decode cX1_points 47 = .ok (.idiv, 1) := by decide +kernel
theorem dX1_points_48 : decode cX1_points 48 = .ok (.iload 4, 2) := by decide +kernel
theorem dX1_points_50 : decode cX1_points 50 = .ok (.bipush 10, 2) := by decide +kernel
theorem dX1_points_52 : decode cX1_points 52 = .ok (.irem, 1) := by decide +kernel
theorem dX1_points_53 : decode cX1_points 53 = .ok (.iadd, 1) := by decide +kernel
theorem dX1_points_54 : decode cX1_points 54 = .ok (.if_icmp .ne 6, 3) := by decide +kernel
theorem dX1_points_57 : decode cX1_points 57 = .ok (.iinc 5 2, 3) := by decide +kernel
theorem dX1_points_60 : decode cX1_points 60 = .ok (.iload_n 3, 1) := by decide +kernel
theorem dX1_points_61 : decode cX1_points 61 = .ok (.iload 4, 2) := by decide +kernel
theorem dX1_points_63 : decode cX1_points 63 = .ok (.isub, 1) := by decide +kernel
theorem dX1_points_64 : decode cX1_points 64 = .ok (.iconst 1, 1) := by decide +kernel
theorem dX1_points_65 : decode cX1_points 65 = .ok (.if_icmp .eq 11, 3) := by decide +kernel
theorem dX1_points_68 : decode cX1_points 68 = .ok (.iload 4, 2) := by decide +kernel
theorem dX1_points_70 : decode cX1_points 70 = .ok (.iload_n 3, 1) := by decide +kernel
theorem dX1_points_71 : decode cX1_points 71 = .ok (.isub, 1) := by decide +kernel
theorem dX1_points_72 : decode cX1_points 72 = .ok (.iconst 1, 1) := by decide +kernel
theorem dX1_points_73 : decode cX1_points 73 = .ok (.if_icmp .ne 6, 3) := by decide +kernel
theorem dX1_points_76 : decode cX1_points 76 = .ok (.iinc 5 3, 3) := by decide +kernel
theorem dX1_points_79 : decode cX1_points 79 = .ok (.iload_n 3, 1) := by decide +kernel
theorem dX1_points_80 : decode cX1_points 80 = .ok (.iload 4, 2) := by decide +kernel
theorem dX1_points_82 : decode cX1_points 82 = .ok (.invokestatic 36, 3) := by decide +kernel
theorem dX1_points_85 : decode cX1_points 85 = .ok (.ifCond .eq 6, 3) := by decide +kernel
theorem dX1_points_88 : decode cX1_points 88 = .ok (.iinc 5 5, 3) := by decide +kernel
theorem dX1_points_91 : decode cX1_points 91 = .ok (.aload_n 0, 1) := by decide +kernel
theorem dX1_points_92 : decode cX1_points 92 = .ok (.getfield 13, 3) := by decide +kernel
theorem dX1_points_95 : decode cX1_points 95 = .ok (.iload_n 1, 1) := by decide +kernel
theorem dX1_points_96 : decode cX1_points 96 = .ok (.iaload, 1) := by decide +kernel
theorem dX1_points_97 : decode cX1_points 97 = .ok (.aload_n 0, 1) := by decide +kernel
theorem dX1_points_98 : decode cX1_points 98 = .ok (.getfield 13, 3) := by decide +kernel
theorem dX1_points_101 : decode cX1_points 101 = .ok (.iload_n 2, 1) := by decide +kernel
theorem dX1_points_102 : decode cX1_points 102 = .ok (.iaload, 1) := by decide +kernel
theorem dX1_points_103 : decode cX1_points 103 = .ok (.if_icmp .ne 10, 3) := by decide +kernel
theorem dX1_points_106 : decode cX1_points 106 = .ok (.iload 5, 2) := by decide +kernel
theorem dX1_points_108 : decode cX1_points 108 = .ok (.iconst 2, 1) := by decide +kernel
theorem dX1_points_109 : decode cX1_points 109 = .ok (.iadd, 1) := by decide +kernel
theorem dX1_points_110 : decode cX1_points 110 = .ok (.goto 5, 3) := by decide +kernel
theorem dX1_points_113 : decode cX1_points 113 = .ok (.iload 5, 2) := by decide +kernel
theorem dX1_points_115 : decode cX1_points 115 = .ok (.ireturn, 1) := by decide +kernel
theorem dX1_cornerIn_0 : decode cX1_cornerIn 0 = .ok (.aload_n 0, 1) := by decide +kernel
theorem dX1_cornerIn_1 : decode cX1_cornerIn 1 = .ok (.getfield 16, 3) := by decide +kernel
theorem dX1_cornerIn_4 : decode cX1_cornerIn 4 = .ok (.iload_n 1, 1) := by decide +kernel
theorem dX1_cornerIn_5 : decode cX1_cornerIn 5 = .ok (.iaload, 1) := by decide +kernel
theorem dX1_cornerIn_6 : decode cX1_cornerIn 6 = .ok (.aload_n 0, 1) := by decide +kernel
theorem dX1_cornerIn_7 : decode cX1_cornerIn 7 = .ok (.getfield 19, 3) := by decide +kernel
theorem dX1_cornerIn_10 : decode cX1_cornerIn 10 = .ok (.iload_n 1, 1) := by decide +kernel
theorem dX1_cornerIn_11 : decode cX1_cornerIn 11 = .ok (.iaload, 1) := by decide +kernel
theorem dX1_cornerIn_12 : decode cX1_cornerIn 12 = .ok (.iload_n 2, 1) := by decide +kernel
theorem dX1_cornerIn_13 : decode cX1_cornerIn 13 = .ok (.imul, 1) := by decide +kernel
theorem dX1_cornerIn_14 : decode cX1_cornerIn 14 = .ok (.iadd, 1) := by decide +kernel
theorem dX1_cornerIn_15 : decode cX1_cornerIn 15 = .ok (.bipush 6, 2) := by decide +kernel
theorem dX1_cornerIn_17 : decode cX1_cornerIn 17 = .ok (.irem, 1) := by decide +kernel
theorem dX1_cornerIn_18 : decode cX1_cornerIn 18 = .ok (.ireturn, 1) := by decide +kernel
set_option maxRecDepth 20000 in
theorem ggX1_town_X1_cornerIn : GoodIn wsX1_town wsX1_cornerIn := goodIn_r _ [6, 7, 8, 18, 19, 20, 21, 22, 23, 24, 25, 26, 27] (by decide +kernel) (by decide +kernel)
set_option maxRecDepth 20000 in
theorem gX1_town_X1_cornerIn : GoodIn wsX1_town (wsV RX1 40 RX1 yX1_cornerIn wsX1_cornerIn) := goodIn_app (goodIn_of _ (by decide +kernel)) ggX1_town_X1_cornerIn
set_option maxRecDepth 20000 in
theorem ggX1_town_X1_points : GoodIn wsX1_town wsX1_points := goodIn_r _ [12, 13, 14, 15, 16, 5, 17, 18, 19, 20, 21, 22, 23, 24, 25, 26, 27] (by decide +kernel) (by decide +kernel)
set_option maxRecDepth 20000 in
theorem gX1_town_X1_points : GoodIn wsX1_town (wsV RX1 44 RX1 yX1_points wsX1_points) := goodIn_app (goodIn_of _ (by decide +kernel)) ggX1_town_X1_points
theorem dX1_town_0 : decode cX1_town 0 = .ok (.iconst 0, 1) := by decide +kernel
theorem dX1_town_1 : decode cX1_town 1 = .ok (.istore_n 3, 1) := by decide +kernel
theorem dX1_town_2 : decode cX1_town 2 = .ok (.iconst 0, 1) := by decide +kernel
theorem dX1_town_3 : decode cX1_town 3 = .ok (.istore 4, 2) := by decide +kernel
theorem dX1_town_5 : decode cX1_town 5 = .ok (.iload 4, 2) := by decide +kernel
theorem dX1_town_7 : decode cX1_town 7 = .ok (.aload_n 0, 1) := by decide +kernel
theorem dX1_town_8 : decode cX1_town 8 = .ok (.getfield 29, 3) := by decide +kernel
theorem dX1_town_11 : decode cX1_town 11 = .ok (.if_icmp .ge 72, 3) := by decide +kernel
theorem dX1_town_14 : decode cX1_town 14 = .ok (.iload_n 2, 1) := by decide +kernel
theorem dX1_town_15 : decode cX1_town 15 = .ok (.iconst (-1), 1) := by decide +kernel
theorem dX1_town_16 : decode cX1_town 16 = .ok (.if_icmp .eq 17, 3) := by decide +kernel
theorem dX1_town_19 : decode cX1_town 19 = .ok (.aload_n 0, 1) := by decide +kernel
theorem dX1_town_20 : decode cX1_town 20 = .ok (.iload 4, 2) := by decide +kernel
theorem dX1_town_22 : decode cX1_town 22 = .ok (.iload_n 1, 1) := by decide +kernel
theorem dX1_town_23 : decode cX1_town 23 = .ok (.invokevirtual 40, 3) := by decide +kernel
theorem dX1_town_26 : decode cX1_town 26 = .ok (.iload_n 2, 1) := by decide +kernel
theorem dX1_town_27 : decode cX1_town 27 = .ok (.if_icmp .eq 6, 3) := by decide +kernel
theorem dX1_town_30 : decode cX1_town 30 = .ok (.goto 47, 3) := by decide +kernel
theorem dX1_town_33 : decode cX1_town 33 = .ok (.iconst 0, 1) := by decide +kernel
theorem dX1_town_34 : decode cX1_town 34 = .ok (.istore 5, 2) := by decide +kernel
theorem dX1_town_36 : decode cX1_town 36 = .ok (.iload 5, 2) := by decide +kernel
theorem dX1_town_38 : decode cX1_town 38 = .ok (.iload 4, 2) := by decide +kernel
theorem dX1_town_40 : decode cX1_town 40 = .ok (.if_icmp .ge 37, 3) := by decide +kernel
theorem dX1_town_43 : decode cX1_town 43 = .ok (.aload_n 0, 1) := by decide +kernel
theorem dX1_town_44 : decode cX1_town 44 = .ok (.iload 4, 2) := by decide +kernel
theorem dX1_town_46 : decode cX1_town 46 = .ok (.iload_n 1, 1) := by decide +kernel
theorem dX1_town_47 : decode cX1_town 47 = .ok (.invokevirtual 40, 3) := by decide +kernel
theorem dX1_town_50 : decode cX1_town 50 = .ok (.aload_n 0, 1) := by decide +kernel
theorem dX1_town_51 : decode cX1_town 51 = .ok (.iload 5, 2) := by decide +kernel
theorem dX1_town_53 : decode cX1_town 53 = .ok (.iload_n 1, 1) := by decide +kernel
theorem dX1_town_54 : decode cX1_town 54 = .ok (.invokevirtual 40, 3) := by decide +kernel
theorem dX1_town_57 : decode cX1_town 57 = .ok (.if_icmp .ne 14, 3) := by decide +kernel
theorem dX1_town_60 : decode cX1_town 60 = .ok (.iload_n 3, 1) := by decide +kernel
theorem dX1_town_61 : decode cX1_town 61 = .ok (.aload_n 0, 1) := by decide +kernel
theorem dX1_town_62 : decode cX1_town 62 = .ok (.iload 4, 2) := by decide +kernel
theorem dX1_town_64 : decode cX1_town 64 = .ok (.iload 5, 2) := by decide +kernel
theorem dX1_town_66 : decode cX1_town 66 = .ok (.invokevirtual 44, 3) := by decide +kernel
theorem dX1_town_69 : decode cX1_town 69 = .ok (.iadd, 1) := by decide +kernel
theorem dX1_town_70 : decode cX1_town 70 = .ok (.istore_n 3, 1) := by decide +kernel
theorem dX1_town_71 : decode cX1_town 71 = .ok (.iinc 5 1, 3) := by decide +kernel
theorem dX1_town_74 : decode cX1_town 74 = .ok (.goto (-38), 3) := by decide +kernel
theorem dX1_town_77 : decode cX1_town 77 = .ok (.iinc 4 1, 3) := by decide +kernel
theorem dX1_town_80 : decode cX1_town 80 = .ok (.goto (-75), 3) := by decide +kernel
theorem dX1_town_83 : decode cX1_town 83 = .ok (.iload_n 3, 1) := by decide +kernel
theorem dX1_town_84 : decode cX1_town 84 = .ok (.ireturn, 1) := by decide +kernel
set_option maxRecDepth 20000 in
theorem ggX1_here_X1_town : GoodIn wsX1_here wsX1_town := goodIn_r _ [5, 6, 7, 8, 9, 4, 10, 11, 12, 13, 14, 15, 16, 17, 18, 19, 20, 21, 22, 23, 24, 25, 26, 27, 28, 29, 30, 31] (by decide +kernel) (by decide +kernel)
set_option maxRecDepth 20000 in
theorem gX1_here_X1_town : GoodIn wsX1_here (wsV RX1 47 RX1 yX1_town wsX1_town) := goodIn_app (goodIn_of _ (by decide +kernel)) ggX1_here_X1_town
theorem dX1_here_0 : decode cX1_here 0 = .ok (.aload_n 0, 1) := by decide +kernel
theorem dX1_here_1 : decode cX1_here 1 = .ok (.iconst 0, 1) := by decide +kernel
theorem dX1_here_2 : decode cX1_here 2 = .ok (.iconst (-1), 1) := by decide +kernel
theorem dX1_here_3 : decode cX1_here 3 = .ok (.invokevirtual 47, 3) := by decide +kernel
theorem dX1_here_6 : decode cX1_here 6 = .ok (.ireturn, 1) := by decide +kernel
set_option maxRecDepth 20000 in
theorem ggX1_luck_X1_points : GoodIn wsX1_luck wsX1_points := goodIn_r _ [7, 8, 9, 10, 11, 6, 12, 13, 14, 15, 16, 17, 18, 19, 20, 21, 22] (by decide +kernel) (by decide +kernel)
set_option maxRecDepth 20000 in
theorem gX1_luck_X1_points : GoodIn wsX1_luck (wsV RX1 44 RX1 yX1_points wsX1_points) := goodIn_app (goodIn_of _ (by decide +kernel)) ggX1_luck_X1_points
theorem dX1_luck_0 : decode cX1_luck 0 = .ok (.iconst 0, 1) := by decide +kernel
theorem dX1_luck_1 : decode cX1_luck 1 = .ok (.istore_n 2, 1) := by decide +kernel
theorem dX1_luck_2 : decode cX1_luck 2 = .ok (.iconst 0, 1) := by decide +kernel
theorem dX1_luck_3 : decode cX1_luck 3 = .ok (.istore_n 3, 1) := by decide +kernel
theorem dX1_luck_4 : decode cX1_luck 4 = .ok (.iload_n 3, 1) := by decide +kernel
theorem dX1_luck_5 : decode cX1_luck 5 = .ok (.aload_n 0, 1) := by decide +kernel
theorem dX1_luck_6 : decode cX1_luck 6 = .ok (.getfield 29, 3) := by decide +kernel
theorem dX1_luck_9 : decode cX1_luck 9 = .ok (.if_icmp .ge 42, 3) := by decide +kernel
theorem dX1_luck_12 : decode cX1_luck 12 = .ok (.iload_n 2, 1) := by decide +kernel
theorem dX1_luck_13 : decode cX1_luck 13 = .ok (.iload_n 3, 1) := by decide +kernel
theorem dX1_luck_14 : decode cX1_luck 14 = .ok (.iload_n 1, 1) := by decide +kernel
theorem dX1_luck_15 : decode cX1_luck 15 = .ok (.if_icmp .eq 27, 3) := by decide +kernel
theorem dX1_luck_18 : decode cX1_luck 18 = .ok (.aload_n 0, 1) := by decide +kernel
theorem dX1_luck_19 : decode cX1_luck 19 = .ok (.getfield 16, 3) := by decide +kernel
theorem dX1_luck_22 : decode cX1_luck 22 = .ok (.iload_n 3, 1) := by decide +kernel
theorem dX1_luck_23 : decode cX1_luck 23 = .ok (.iaload, 1) := by decide +kernel
theorem dX1_luck_24 : decode cX1_luck 24 = .ok (.aload_n 0, 1) := by decide +kernel
theorem dX1_luck_25 : decode cX1_luck 25 = .ok (.getfield 16, 3) := by decide +kernel
theorem dX1_luck_28 : decode cX1_luck 28 = .ok (.iload_n 1, 1) := by decide +kernel
theorem dX1_luck_29 : decode cX1_luck 29 = .ok (.iaload, 1) := by decide +kernel
theorem dX1_luck_30 : decode cX1_luck 30 = .ok (.if_icmp .ne 12, 3) := by decide +kernel
theorem dX1_luck_33 : decode cX1_luck 33 = .ok (.aload_n 0, 1) := by decide +kernel
theorem dX1_luck_34 : decode cX1_luck 34 = .ok (.iload_n 1, 1) := by decide +kernel
theorem dX1_luck_35 : decode cX1_luck 35 = .ok (.iload_n 3, 1) := by decide +kernel
theorem dX1_luck_36 : decode cX1_luck 36 = .ok (.invokevirtual 44, 3) := by decide +kernel
theorem dX1_luck_39 : decode cX1_luck 39 = .ok (.goto 4, 3) := by decide +kernel
theorem dX1_luck_42 : decode cX1_luck 42 = .ok (.iconst 0, 1) := by decide +kernel
theorem dX1_luck_43 : decode cX1_luck 43 = .ok (.iadd, 1) := by decide +kernel
theorem dX1_luck_44 : decode cX1_luck 44 = .ok (.istore_n 2, 1) := by decide +kernel
theorem dX1_luck_45 : decode cX1_luck 45 = .ok (.iinc 3 1, 3) := by decide +kernel
theorem dX1_luck_48 : decode cX1_luck 48 = .ok (.goto (-44), 3) := by decide +kernel
theorem dX1_luck_51 : decode cX1_luck 51 = .ok (.iload_n 2, 1) := by decide +kernel
theorem dX1_luck_52 : decode cX1_luck 52 = .ok (.ireturn, 1) := by decide +kernel
theorem dX1_at_0 : decode cX1_at 0 = .ok (.iconst 0, 1) := by decide +kernel
theorem dX1_at_1 : decode cX1_at 1 = .ok (.istore_n 2, 1) := by decide +kernel
theorem dX1_at_2 : decode cX1_at 2 = .ok (.iconst 0, 1) := by decide +kernel
theorem dX1_at_3 : decode cX1_at 3 = .ok (.istore_n 3, 1) := by decide +kernel
theorem dX1_at_4 : decode cX1_at 4 = .ok (.iload_n 3, 1) := by decide +kernel
theorem dX1_at_5 : decode cX1_at 5 = .ok (.aload_n 0, 1) := by decide +kernel
theorem dX1_at_6 : decode cX1_at 6 = .ok (.getfield 29, 3) := by decide +kernel
theorem dX1_at_9 : decode cX1_at 9 = .ok (.if_icmp .ge 27, 3) := by decide +kernel
theorem dX1_at_12 : decode cX1_at 12 = .ok (.iload_n 2, 1) := by decide +kernel
theorem dX1_at_13 : decode cX1_at 13 = .ok (.aload_n 0, 1) := by decide +kernel
theorem dX1_at_14 : decode cX1_at 14 = .ok (.getfield 16, 3) := by decide +kernel
theorem dX1_at_17 : decode cX1_at 17 = .ok (.iload_n 3, 1) := by decide +kernel
theorem dX1_at_18 : decode cX1_at 18 = .ok (.iaload, 1) := by decide +kernel
theorem dX1_at_19 : decode cX1_at 19 = .ok (.iload_n 1, 1) := by decide +kernel
theorem dX1_at_20 : decode cX1_at 20 = .ok (.if_icmp .ne 7, 3) := by decide +kernel
theorem dX1_at_23 : decode cX1_at 23 = .ok (.iconst 1, 1) := by decide +kernel
theorem dX1_at_24 : decode cX1_at 24 = .ok (.goto 4, 3) := by decide +kernel
theorem dX1_at_27 : decode cX1_at 27 = .ok (.iconst 0, 1) := by decide +kernel
theorem dX1_at_28 : decode cX1_at 28 = .ok (.iadd, 1) := by decide +kernel
theorem dX1_at_29 : decode cX1_at 29 = .ok (.istore_n 2, 1) := by decide +kernel
theorem dX1_at_30 : decode cX1_at 30 = .ok (.iinc 3 1, 3) := by decide +kernel
theorem dX1_at_33 : decode cX1_at 33 = .ok (.goto (-29), 3) := by decide +kernel
theorem dX1_at_36 : decode cX1_at 36 = .ok (.iload_n 2, 1) := by decide +kernel
theorem dX1_at_37 : decode cX1_at 37 = .ok (.ireturn, 1) := by decide +kernel
theorem dX1_apart_0 : decode cX1_apart 0 = .ok (.iload_n 0, 1) := by decide +kernel
theorem dX1_apart_1 : decode cX1_apart 1 = .ok (.iload_n 1, 1) := by decide +kernel
theorem dX1_apart_2 : decode cX1_apart 2 = .ok (.isub, 1) := by decide +kernel
theorem dX1_apart_3 : decode cX1_apart 3 = .ok (.invokestatic 50, 3) := by decide +kernel
theorem dX1_apart_6 : decode cX1_apart 6 = .ok (.istore_n 2, 1) := by decide +kernel
theorem dX1_apart_7 : decode cX1_apart 7 = .ok (.iload_n 2, 1) := by decide +kernel
theorem dX1_apart_8 : decode cX1_apart 8 = .ok (.bipush 6, 2) := by decide +kernel
theorem dX1_apart_10 : decode cX1_apart 10 = .ok (.iload_n 2, 1) := by decide +kernel
theorem dX1_apart_11 : decode cX1_apart 11 = .ok (.isub, 1) := by decide +kernel
theorem dX1_apart_12 : decode cX1_apart 12 = .ok (.invokestatic 56, 3) := by decide +kernel
theorem dX1_apart_15 : decode cX1_apart 15 = .ok (.ireturn, 1) := by decide +kernel
set_option maxRecDepth 20000 in
theorem ggX1_addStranger_X1_isIn : GoodIn wsX1_addStranger wsX1_isIn := goodIn_r _ [10] (by decide +kernel) (by decide +kernel)
set_option maxRecDepth 20000 in
theorem gX1_addStranger_X1_isIn : GoodIn wsX1_addStranger (va_wsS RX1 32 yX1_isIn wsX1_isIn) := goodIn_app (goodIn_of _ (by decide +kernel)) ggX1_addStranger_X1_isIn
set_option maxRecDepth 20000 in
theorem ggX1_addStranger_X1_isCorner : GoodIn wsX1_addStranger wsX1_isCorner := goodIn_r _ [13, 7, 8, 9, 10] (by decide +kernel) (by decide +kernel)
set_option maxRecDepth 20000 in
theorem gX1_addStranger_X1_isCorner : GoodIn wsX1_addStranger (va_wsS RX1 59 yX1_isCorner wsX1_isCorner) := goodIn_app (goodIn_of _ (by decide +kernel)) ggX1_addStranger_X1_isCorner
set_option maxRecDepth 20000 in
theorem ggX1_addStranger_X1_no : GoodIn wsX1_addStranger wsX1_no := goodIn_r _ [17, 1, 18, 19, 20, 21, 22, 23, 24, 25, 26, 27] (by decide +kernel) (by decide +kernel)
set_option maxRecDepth 20000 in
theorem gX1_addStranger_X1_no : GoodIn wsX1_addStranger (wsV RX1 63 RX1 yX1_no wsX1_no) := goodIn_app (goodIn_of _ (by decide +kernel)) ggX1_addStranger_X1_no
theorem dX1_addStranger_0 : decode cX1_addStranger 0 = .ok (.aload_n 0, 1) := by decide +kernel
theorem dX1_addStranger_1 : decode cX1_addStranger 1 = .ok (.iconst 0, 1) := by decide +kernel
theorem dX1_addStranger_2 : decode cX1_addStranger 2 = .ok (.putfield 26, 3) := by decide +kernel
theorem dX1_addStranger_5 : decode cX1_addStranger 5 = .ok (.iload_n 1, 1) := by decide +kernel
theorem dX1_addStranger_6 : decode cX1_addStranger 6 = .ok (.iconst 0, 1) := by decide +kernel
theorem dX1_addStranger_7 : decode cX1_addStranger 7 = .ok (.bipush 99, 2) := by decide +kernel
theorem dX1_addStranger_9 : decode cX1_addStranger 9 = .ok (.invokestatic 32, 3) := by decide +kernel
theorem dX1_addStranger_12 : decode cX1_addStranger 12 = .ok (.ifCond .eq 27, 3) := by decide +kernel
theorem dX1_addStranger_15 : decode cX1_addStranger 15 = .ok (.iload_n 2, 1) := by decide +kernel
theorem dX1_addStranger_16 : decode cX1_addStranger 16 = .ok (.iconst 0, 1) := by decide +kernel
theorem dX1_addStranger_17 : decode cX1_addStranger 17 = .ok (.iconst 4, 1) := by decide +kernel
theorem dX1_addStranger_18 : decode cX1_addStranger 18 = .ok (.invokestatic 32, 3) := by decide +kernel
theorem dX1_addStranger_21 : decode cX1_addStranger 21 = .ok (.ifCond .eq 18, 3) := by decide +kernel
theorem dX1_addStranger_24 : decode cX1_addStranger 24 = .ok (.iload_n 3, 1) := by decide +kernel
theorem dX1_addStranger_25 : decode cX1_addStranger 25 = .ok (.invokestatic 59, 3) := by decide +kernel
theorem dX1_addStranger_28 : decode cX1_addStranger 28 = .ok (.ifCond .eq 11, 3) := by decide +kernel
theorem dX1_addStranger_31 : decode cX1_addStranger 31 = .ok (.iload 4, 2) := by decide +kernel
theorem dX1_addStranger_33 : decode cX1_addStranger 33 = .ok (.invokestatic 59, 3) := by decide +kernel
theorem dX1_addStranger_36 : decode cX1_addStranger 36 = .ok (.ifCond .ne 9, 3) := by decide +kernel
theorem dX1_addStranger_39 : decode cX1_addStranger 39 = .ok (.aload_n 0, 1) := by decide +kernel
theorem dX1_addStranger_40 : decode cX1_addStranger 40 = .ok (.iconst 1, 1) := by decide +kernel
theorem dX1_addStranger_41 : decode cX1_addStranger 41 = .ok (.invokevirtual 63, 3) := by decide +kernel
theorem dX1_addStranger_44 : decode cX1_addStranger 44 = .ok (.ireturn, 1) := by decide +kernel
theorem dX1_addStranger_45 : decode cX1_addStranger 45 = .ok (.aload_n 0, 1) := by decide +kernel
theorem dX1_addStranger_46 : decode cX1_addStranger 46 = .ok (.getfield 29, 3) := by decide +kernel
theorem dX1_addStranger_49 : decode cX1_addStranger 49 = .ok (.bipush 12, 2) := by decide +kernel
theorem dX1_addStranger_51 : decode cX1_addStranger 51 = .ok (.if_icmp .ne 9, 3) := by decide +kernel
theorem dX1_addStranger_54 : decode cX1_addStranger 54 = .ok (.aload_n 0, 1) := by decide +kernel
theorem dX1_addStranger_55 : decode cX1_addStranger 55 = .ok (.iconst 2, 1) := by decide +kernel
theorem dX1_addStranger_56 : decode cX1_addStranger 56 = .ok (.invokevirtual 63, 3) := by decide +kernel
theorem dX1_addStranger_59 : decode cX1_addStranger 59 = .ok (.ireturn, 1) := by decide +kernel
theorem dX1_addStranger_60 : decode cX1_addStranger 60 = .ok (.aload_n 0, 1) := by decide +kernel
theorem dX1_addStranger_61 : decode cX1_addStranger 61 = .ok (.getfield 9, 3) := by decide +kernel
theorem dX1_addStranger_64 : decode cX1_addStranger 64 = .ok (.aload_n 0, 1) := by decide +kernel
theorem dX1_addStranger_65 : decode cX1_addStranger 65 = .ok (.getfield 29, 3) := by decide +kernel
theorem dX1_addStranger_68 : decode cX1_addStranger 68 = .ok (.iload_n 1, 1) := by decide +kernel
theorem dX1_addStranger_69 : decode cX1_addStranger 69 = .ok (.iastore, 1) := by decide +kernel
theorem dX1_addStranger_70 : decode cX1_addStranger 70 = .ok (.aload_n 0, 1) := by decide +kernel
theorem dX1_addStranger_71 : decode cX1_addStranger 71 = .ok (.getfield 13, 3) := by decide +kernel
theorem dX1_addStranger_74 : decode cX1_addStranger 74 = .ok (.aload_n 0, 1) := by decide +kernel
theorem dX1_addStranger_75 : decode cX1_addStranger 75 = .ok (.getfield 29, 3) := by decide +kernel
theorem dX1_addStranger_78 : decode cX1_addStranger 78 = .ok (.iload_n 2, 1) := by decide +kernel
theorem dX1_addStranger_79 : decode cX1_addStranger 79 = .ok (.iastore, 1) := by decide +kernel
theorem dX1_addStranger_80 : decode cX1_addStranger 80 = .ok (.aload_n 0, 1) := by decide +kernel
theorem dX1_addStranger_81 : decode cX1_addStranger 81 = .ok (.getfield 16, 3) := by decide +kernel
theorem dX1_addStranger_84 : decode cX1_addStranger 84 = .ok (.aload_n 0, 1) := by decide +kernel
theorem dX1_addStranger_85 : decode cX1_addStranger 85 = .ok (.getfield 29, 3) := by decide +kernel
theorem dX1_addStranger_88 : decode cX1_addStranger 88 = .ok (.iload_n 3, 1) := by decide +kernel
theorem dX1_addStranger_89 : decode cX1_addStranger 89 = .ok (.iastore, 1) := by decide +kernel
theorem dX1_addStranger_90 : decode cX1_addStranger 90 = .ok (.aload_n 0, 1) := by decide +kernel
theorem dX1_addStranger_91 : decode cX1_addStranger 91 = .ok (.getfield 19, 3) := by decide +kernel
theorem dX1_addStranger_94 : decode cX1_addStranger 94 = .ok (.aload_n 0, 1) := by decide +kernel
theorem dX1_addStranger_95 : decode cX1_addStranger 95 = .ok (.getfield 29, 3) := by decide +kernel
theorem dX1_addStranger_98 : decode cX1_addStranger 98 = .ok (.iload 4, 2) := by decide +kernel
theorem dX1_addStranger_100 : decode cX1_addStranger 100 = .ok (.iastore, 1) := by decide +kernel
theorem dX1_addStranger_101 : decode cX1_addStranger 101 = .ok (.aload_n 0, 1) := by decide +kernel
theorem dX1_addStranger_102 : decode cX1_addStranger 102 = .ok (.dup, 1) := by decide +kernel
theorem dX1_addStranger_103 : decode cX1_addStranger 103 = .ok (.getfield 29, 3) := by decide +kernel
theorem dX1_addStranger_106 : decode cX1_addStranger 106 = .ok (.iconst 1, 1) := by decide +kernel
theorem dX1_addStranger_107 : decode cX1_addStranger 107 = .ok (.iadd, 1) := by decide +kernel
theorem dX1_addStranger_108 : decode cX1_addStranger 108 = .ok (.putfield 29, 3) := by decide +kernel
theorem dX1_addStranger_111 : decode cX1_addStranger 111 = .ok (.aload_n 0, 1) := by decide +kernel
theorem dX1_addStranger_112 : decode cX1_addStranger 112 = .ok (.getfield 29, 3) := by decide +kernel
theorem dX1_addStranger_115 : decode cX1_addStranger 115 = .ok (.iconst 1, 1) := by decide +kernel
theorem dX1_addStranger_116 : decode cX1_addStranger 116 = .ok (.isub, 1) := by decide +kernel
theorem dX1_addStranger_117 : decode cX1_addStranger 117 = .ok (.ireturn, 1) := by decide +kernel
set_option maxRecDepth 20000 in
theorem ggX1_setWalk_X1_isOne : GoodIn wsX1_setWalk wsX1_isOne := goodIn_r _ [7, 8, 9, 10, 6, 11, 19, 20, 21, 22, 23, 24, 25, 26, 27, 28] (by decide +kernel) (by decide +kernel)
set_option maxRecDepth 20000 in
theorem gX1_setWalk_X1_isOne : GoodIn wsX1_setWalk (wsV RX1 66 RX1 yX1_isOne wsX1_isOne) := goodIn_app (goodIn_of _ (by decide +kernel)) ggX1_setWalk_X1_isOne
set_option maxRecDepth 20000 in
theorem ggX1_setWalk_X1_no : GoodIn wsX1_setWalk wsX1_no := goodIn_r _ [15, 1, 19, 20, 21, 22, 23, 24, 25, 26, 27, 28] (by decide +kernel) (by decide +kernel)
set_option maxRecDepth 20000 in
theorem gX1_setWalk_X1_no : GoodIn wsX1_setWalk (wsV RX1 63 RX1 yX1_no wsX1_no) := goodIn_app (goodIn_of _ (by decide +kernel)) ggX1_setWalk_X1_no
set_option maxRecDepth 20000 in
theorem ggX1_setWalk_X1_isCorner : GoodIn wsX1_setWalk wsX1_isCorner := goodIn_r _ [18, 9, 10, 6, 11] (by decide +kernel) (by decide +kernel)
set_option maxRecDepth 20000 in
theorem gX1_setWalk_X1_isCorner : GoodIn wsX1_setWalk (va_wsS RX1 59 yX1_isCorner wsX1_isCorner) := goodIn_app (goodIn_of _ (by decide +kernel)) ggX1_setWalk_X1_isCorner
theorem dX1_setWalk_0 : decode cX1_setWalk 0 = .ok (.aload_n 0, 1) := by decide +kernel
theorem dX1_setWalk_1 : decode cX1_setWalk 1 = .ok (.iconst 0, 1) := by decide +kernel
theorem dX1_setWalk_2 : decode cX1_setWalk 2 = .ok (.putfield 26, 3) := by decide +kernel
theorem dX1_setWalk_5 : decode cX1_setWalk 5 = .ok (.aload_n 0, 1) := by decide +kernel
theorem dX1_setWalk_6 : decode cX1_setWalk 6 = .ok (.iload_n 1, 1) := by decide +kernel
theorem dX1_setWalk_7 : decode cX1_setWalk 7 = .ok (.invokevirtual 66, 3) := by decide +kernel
theorem dX1_setWalk_10 : decode cX1_setWalk 10 = .ok (.ifCond .ne 9, 3) := by decide +kernel
theorem dX1_setWalk_13 : decode cX1_setWalk 13 = .ok (.aload_n 0, 1) := by decide +kernel
theorem dX1_setWalk_14 : decode cX1_setWalk 14 = .ok (.iconst 1, 1) := by decide +kernel
theorem dX1_setWalk_15 : decode cX1_setWalk 15 = .ok (.invokevirtual 63, 3) := by decide +kernel
theorem dX1_setWalk_18 : decode cX1_setWalk 18 = .ok (.ireturn, 1) := by decide +kernel
theorem dX1_setWalk_19 : decode cX1_setWalk 19 = .ok (.iload_n 2, 1) := by decide +kernel
theorem dX1_setWalk_20 : decode cX1_setWalk 20 = .ok (.invokestatic 59, 3) := by decide +kernel
theorem dX1_setWalk_23 : decode cX1_setWalk 23 = .ok (.ifCond .ne 9, 3) := by decide +kernel
theorem dX1_setWalk_26 : decode cX1_setWalk 26 = .ok (.aload_n 0, 1) := by decide +kernel
theorem dX1_setWalk_27 : decode cX1_setWalk 27 = .ok (.iconst 2, 1) := by decide +kernel
theorem dX1_setWalk_28 : decode cX1_setWalk 28 = .ok (.invokevirtual 63, 3) := by decide +kernel
theorem dX1_setWalk_31 : decode cX1_setWalk 31 = .ok (.ireturn, 1) := by decide +kernel
theorem dX1_setWalk_32 : decode cX1_setWalk 32 = .ok (.aload_n 0, 1) := by decide +kernel
theorem dX1_setWalk_33 : decode cX1_setWalk 33 = .ok (.getfield 19, 3) := by decide +kernel
theorem dX1_setWalk_36 : decode cX1_setWalk 36 = .ok (.iload_n 1, 1) := by decide +kernel
theorem dX1_setWalk_37 : decode cX1_setWalk 37 = .ok (.iaload, 1) := by decide +kernel
theorem dX1_setWalk_38 : decode cX1_setWalk 38 = .ok (.istore_n 3, 1) := by decide +kernel
theorem dX1_setWalk_39 : decode cX1_setWalk 39 = .ok (.aload_n 0, 1) := by decide +kernel
theorem dX1_setWalk_40 : decode cX1_setWalk 40 = .ok (.getfield 19, 3) := by decide +kernel
theorem dX1_setWalk_43 : decode cX1_setWalk 43 = .ok (.iload_n 1, 1) := by decide +kernel
theorem dX1_setWalk_44 : decode cX1_setWalk 44 = .ok (.iload_n 2, 1) := by decide +kernel
theorem dX1_setWalk_45 : decode cX1_setWalk 45 = .ok (.iastore, 1) := by decide +kernel
theorem dX1_setWalk_46 : decode cX1_setWalk 46 = .ok (.iload_n 3, 1) := by decide +kernel
theorem dX1_setWalk_47 : decode cX1_setWalk 47 = .ok (.ireturn, 1) := by decide +kernel
theorem dX1_pay_0 : decode cX1_pay 0 = .ok (.aload_n 0, 1) := by decide +kernel
theorem dX1_pay_1 : decode cX1_pay 1 = .ok (.dup, 1) := by decide +kernel
theorem dX1_pay_2 : decode cX1_pay 2 = .ok (.getfield 22, 3) := by decide +kernel
theorem dX1_pay_5 : decode cX1_pay 5 = .ok (.iload_n 1, 1) := by decide +kernel
theorem dX1_pay_6 : decode cX1_pay 6 = .ok (.isub, 1) := by decide +kernel
theorem dX1_pay_7 : decode cX1_pay 7 = .ok (.putfield 22, 3) := by decide +kernel
theorem dX1_pay_10 : decode cX1_pay 10 = .ok (.aload_n 0, 1) := by decide +kernel
theorem dX1_pay_11 : decode cX1_pay 11 = .ok (.dup, 1) := by decide +kernel
theorem dX1_pay_12 : decode cX1_pay 12 = .ok (.getfield 69, 3) := by decide +kernel
theorem dX1_pay_15 : decode cX1_pay 15 = .ok (.iload_n 1, 1) := by decide +kernel
theorem dX1_pay_16 : decode cX1_pay 16 = .ok (.iadd, 1) := by decide +kernel
theorem dX1_pay_17 : decode cX1_pay 17 = .ok (.putfield 69, 3) := by decide +kernel
theorem dX1_pay_20 : decode cX1_pay 20 = .ok (.iload_n 1, 1) := by decide +kernel
theorem dX1_pay_21 : decode cX1_pay 21 = .ok (.ireturn, 1) := by decide +kernel
set_option maxRecDepth 20000 in
theorem ggX1_move_X1_isOne : GoodIn wsX1_move wsX1_isOne := goodIn_r _ [8, 9, 10, 11, 7, 12, 35, 36, 37, 38, 39, 40, 41, 42, 43, 44] (by decide +kernel) (by decide +kernel)
set_option maxRecDepth 20000 in
theorem gX1_move_X1_isOne : GoodIn wsX1_move (wsV RX1 66 RX1 yX1_isOne wsX1_isOne) := goodIn_app (goodIn_of _ (by decide +kernel)) ggX1_move_X1_isOne
set_option maxRecDepth 20000 in
theorem ggX1_move_X1_no : GoodIn wsX1_move wsX1_no := goodIn_r _ [16, 1, 35, 36, 37, 38, 39, 40, 41, 42, 43, 44] (by decide +kernel) (by decide +kernel)
set_option maxRecDepth 20000 in
theorem gX1_move_X1_no : GoodIn wsX1_move (wsV RX1 63 RX1 yX1_no wsX1_no) := goodIn_app (goodIn_of _ (by decide +kernel)) ggX1_move_X1_no
set_option maxRecDepth 20000 in
theorem ggX1_move_X1_isCorner : GoodIn wsX1_move wsX1_isCorner := goodIn_r _ [19, 10, 11, 7, 12] (by decide +kernel) (by decide +kernel)
set_option maxRecDepth 20000 in
theorem gX1_move_X1_isCorner : GoodIn wsX1_move (va_wsS RX1 59 yX1_isCorner wsX1_isCorner) := goodIn_app (goodIn_of _ (by decide +kernel)) ggX1_move_X1_isCorner
set_option maxRecDepth 20000 in
theorem ggX1_move_X1_apart : GoodIn wsX1_move wsX1_apart := goodIn_r _ [22, 23, 24, 25, 26, 27, 28, 29] (by decide +kernel) (by decide +kernel)
set_option maxRecDepth 20000 in
theorem gX1_move_X1_apart : GoodIn wsX1_move (va_wsS RX1 72 yX1_apart wsX1_apart) := goodIn_app (goodIn_of _ (by decide +kernel)) ggX1_move_X1_apart
set_option maxRecDepth 20000 in
theorem ggX1_move_X1_pay : GoodIn wsX1_move wsX1_pay := goodIn_r _ [33, 3, 34, 35, 36, 37, 38, 39, 40, 41, 42, 43, 44] (by decide +kernel) (by decide +kernel)
set_option maxRecDepth 20000 in
theorem gX1_move_X1_pay : GoodIn wsX1_move (wsV RX1 75 RX1 yX1_pay wsX1_pay) := goodIn_app (goodIn_of _ (by decide +kernel)) ggX1_move_X1_pay
theorem dX1_move_0 : decode cX1_move 0 = .ok (.aload_n 0, 1) := by decide +kernel
theorem dX1_move_1 : decode cX1_move 1 = .ok (.iconst 0, 1) := by decide +kernel
theorem dX1_move_2 : decode cX1_move 2 = .ok (.putfield 26, 3) := by decide +kernel
theorem dX1_move_5 : decode cX1_move 5 = .ok (.aload_n 0, 1) := by decide +kernel
theorem dX1_move_6 : decode cX1_move 6 = .ok (.iload_n 1, 1) := by decide +kernel
theorem dX1_move_7 : decode cX1_move 7 = .ok (.invokevirtual 66, 3) := by decide +kernel
theorem dX1_move_10 : decode cX1_move 10 = .ok (.ifCond .ne 9, 3) := by decide +kernel
theorem dX1_move_13 : decode cX1_move 13 = .ok (.aload_n 0, 1) := by decide +kernel
theorem dX1_move_14 : decode cX1_move 14 = .ok (.iconst 1, 1) := by decide +kernel
theorem dX1_move_15 : decode cX1_move 15 = .ok (.invokevirtual 63, 3) := by decide +kernel
theorem dX1_move_18 : decode cX1_move 18 = .ok (.ireturn, 1) := by decide +kernel
theorem dX1_move_19 : decode cX1_move 19 = .ok (.iload_n 2, 1) := by decide +kernel
theorem dX1_move_20 : decode cX1_move 20 = .ok (.invokestatic 59, 3) := by decide +kernel
theorem dX1_move_23 : decode cX1_move 23 = .ok (.ifCond .ne 9, 3) := by decide +kernel
theorem dX1_move_26 : decode cX1_move 26 = .ok (.aload_n 0, 1) := by decide +kernel
theorem dX1_move_27 : decode cX1_move 27 = .ok (.iconst 2, 1) := by decide +kernel
theorem dX1_move_28 : decode cX1_move 28 = .ok (.invokevirtual 63, 3) := by decide +kernel
theorem dX1_move_31 : decode cX1_move 31 = .ok (.ireturn, 1) := by decide +kernel
theorem dX1_move_32 : decode cX1_move 32 = .ok (.iconst 2, 1) := by decide +kernel
theorem dX1_move_33 : decode cX1_move 33 = .ok (.aload_n 0, 1) := by decide +kernel
theorem dX1_move_34 : decode cX1_move 34 = .ok (.getfield 16, 3) := by decide +kernel
theorem dX1_move_37 : decode cX1_move 37 = .ok (.iload_n 1, 1) := by decide +kernel
theorem dX1_move_38 : decode cX1_move 38 = .ok (.iaload, 1) := by decide +kernel
theorem dX1_move_39 : decode cX1_move 39 = .ok (.iload_n 2, 1) := by decide +kernel
theorem dX1_move_40 : decode cX1_move 40 = .ok (.invokestatic 72, 3) := by decide +kernel
theorem dX1_move_43 : decode cX1_move 43 = .ok (.imul, 1) := by decide +kernel
theorem dX1_move_44 : decode cX1_move 44 = .ok (.istore_n 3, 1) := by decide +kernel
theorem dX1_move_45 : decode cX1_move 45 = .ok (.iload_n 3, 1) := by decide +kernel
theorem dX1_move_46 : decode cX1_move 46 = .ok (.ifCond .eq 11, 3) := by decide +kernel
theorem dX1_move_49 : decode cX1_move 49 = .ok (.iload_n 3, 1) := by decide +kernel
theorem dX1_move_50 : decode cX1_move 50 = .ok (.aload_n 0, 1) := by decide +kernel
theorem dX1_move_51 : decode cX1_move 51 = .ok (.getfield 22, 3) := by decide +kernel
theorem dX1_move_54 : decode cX1_move 54 = .ok (.if_icmp .le 9, 3) := by decide +kernel
theorem dX1_move_57 : decode cX1_move 57 = .ok (.aload_n 0, 1) := by decide +kernel
theorem dX1_move_58 : decode cX1_move 58 = .ok (.iconst 3, 1) := by decide +kernel
theorem dX1_move_59 : decode cX1_move 59 = .ok (.invokevirtual 63, 3) := by decide +kernel
theorem dX1_move_62 : decode cX1_move 62 = .ok (.ireturn, 1) := by decide +kernel
theorem dX1_move_63 : decode cX1_move 63 = .ok (.aload_n 0, 1) := by decide +kernel
theorem dX1_move_64 : decode cX1_move 64 = .ok (.getfield 16, 3) := by decide +kernel
theorem dX1_move_67 : decode cX1_move 67 = .ok (.iload_n 1, 1) := by decide +kernel
theorem dX1_move_68 : decode cX1_move 68 = .ok (.iload_n 2, 1) := by decide +kernel
theorem dX1_move_69 : decode cX1_move 69 = .ok (.iastore, 1) := by decide +kernel
theorem dX1_move_70 : decode cX1_move 70 = .ok (.aload_n 0, 1) := by decide +kernel
theorem dX1_move_71 : decode cX1_move 71 = .ok (.iload_n 3, 1) := by decide +kernel
theorem dX1_move_72 : decode cX1_move 72 = .ok (.invokevirtual 75, 3) := by decide +kernel
theorem dX1_move_75 : decode cX1_move 75 = .ok (.ireturn, 1) := by decide +kernel
set_option maxRecDepth 20000 in
theorem ggX1_wrongPair_X1_isOne : GoodIn wsX1_wrongPair wsX1_isOne := goodIn_r _ [5, 6, 7, 8, 4, 9, 10, 11, 12, 13, 14, 15, 16, 17, 18, 19] (by decide +kernel) (by decide +kernel)
set_option maxRecDepth 20000 in
theorem gX1_wrongPair_X1_isOne : GoodIn wsX1_wrongPair (wsV RX1 66 RX1 yX1_isOne wsX1_isOne) := goodIn_app (goodIn_of _ (by decide +kernel)) ggX1_wrongPair_X1_isOne
theorem dX1_wrongPair_0 : decode cX1_wrongPair 0 = .ok (.aload_n 0, 1) := by decide +kernel
theorem dX1_wrongPair_1 : decode cX1_wrongPair 1 = .ok (.iload_n 1, 1) := by decide +kernel
theorem dX1_wrongPair_2 : decode cX1_wrongPair 2 = .ok (.invokevirtual 66, 3) := by decide +kernel
theorem dX1_wrongPair_5 : decode cX1_wrongPair 5 = .ok (.ifCond .eq 11, 3) := by decide +kernel
theorem dX1_wrongPair_8 : decode cX1_wrongPair 8 = .ok (.aload_n 0, 1) := by decide +kernel
theorem dX1_wrongPair_9 : decode cX1_wrongPair 9 = .ok (.iload_n 2, 1) := by decide +kernel
theorem dX1_wrongPair_10 : decode cX1_wrongPair 10 = .ok (.invokevirtual 66, 3) := by decide +kernel
theorem dX1_wrongPair_13 : decode cX1_wrongPair 13 = .ok (.ifCond .ne 7, 3) := by decide +kernel
theorem dX1_wrongPair_16 : decode cX1_wrongPair 16 = .ok (.iconst 1, 1) := by decide +kernel
theorem dX1_wrongPair_17 : decode cX1_wrongPair 17 = .ok (.goto 13, 3) := by decide +kernel
theorem dX1_wrongPair_20 : decode cX1_wrongPair 20 = .ok (.iload_n 1, 1) := by decide +kernel
theorem dX1_wrongPair_21 : decode cX1_wrongPair 21 = .ok (.iload_n 2, 1) := by decide +kernel
theorem dX1_wrongPair_22 : decode cX1_wrongPair 22 = .ok (.if_icmp .ne 7, 3) := by decide +kernel
theorem dX1_wrongPair_25 : decode cX1_wrongPair 25 = .ok (.iconst 2, 1) := by decide +kernel
theorem dX1_wrongPair_26 : decode cX1_wrongPair 26 = .ok (.goto 4, 3) := by decide +kernel
theorem dX1_wrongPair_29 : decode cX1_wrongPair 29 = .ok (.iconst 0, 1) := by decide +kernel
theorem dX1_wrongPair_30 : decode cX1_wrongPair 30 = .ok (.ireturn, 1) := by decide +kernel
theorem dX1_swap_0 : decode cX1_swap 0 = .ok (.aload_n 0, 1) := by decide +kernel
theorem dX1_swap_1 : decode cX1_swap 1 = .ok (.iload_n 1, 1) := by decide +kernel
theorem dX1_swap_2 : decode cX1_swap 2 = .ok (.iaload, 1) := by decide +kernel
theorem dX1_swap_3 : decode cX1_swap 3 = .ok (.istore_n 3, 1) := by decide +kernel
theorem dX1_swap_4 : decode cX1_swap 4 = .ok (.aload_n 0, 1) := by decide +kernel
theorem dX1_swap_5 : decode cX1_swap 5 = .ok (.iload_n 1, 1) := by decide +kernel
theorem dX1_swap_6 : decode cX1_swap 6 = .ok (.aload_n 0, 1) := by decide +kernel
theorem dX1_swap_7 : decode cX1_swap 7 = .ok (.iload_n 2, 1) := by decide +kernel
theorem dX1_swap_8 : decode cX1_swap 8 = .ok (.iaload, 1) := by decide +kernel
theorem dX1_swap_9 : decode cX1_swap 9 = .ok (.iastore, 1) := by decide +kernel
theorem dX1_swap_10 : decode cX1_swap 10 = .ok (.aload_n 0, 1) := by decide +kernel
theorem dX1_swap_11 : decode cX1_swap 11 = .ok (.iload_n 2, 1) := by decide +kernel
theorem dX1_swap_12 : decode cX1_swap 12 = .ok (.iload_n 3, 1) := by decide +kernel
theorem dX1_swap_13 : decode cX1_swap 13 = .ok (.iastore, 1) := by decide +kernel
theorem dX1_swap_14 : decode cX1_swap 14 = .ok (.return_, 1) := by decide +kernel
set_option maxRecDepth 20000 in
theorem ggX1_swapped_X1_here : GoodIn wsX1_swapped wsX1_here := goodIn_r _ [5, 6, 7, 8, 4, 9, 10, 11, 12, 13, 14, 15, 16, 17, 18, 19, 20, 21, 22, 23, 24, 25, 29, 30, 31, 32, 33, 34, 35, 36, 37, 38] (by decide +kernel) (by decide +kernel)
set_option maxRecDepth 20000 in
theorem gX1_swapped_X1_here : GoodIn wsX1_swapped (wsV RX1 78 RX1 yX1_here wsX1_here) := goodIn_app (goodIn_of _ (by decide +kernel)) ggX1_swapped_X1_here
set_option maxRecDepth 20000 in
theorem ggX1_swapped_X1_swap : GoodIn wsX1_swapped wsX1_swap := goodIn_r _ [28] (by decide +kernel) (by decide +kernel)
set_option maxRecDepth 20000 in
theorem gX1_swapped_X1_swap : GoodIn wsX1_swapped (va_wsS RX1 82 yX1_swap wsX1_swap) := goodIn_app (goodIn_of _ (by decide +kernel)) ggX1_swapped_X1_swap
theorem dX1_swapped_0 : decode cX1_swapped 0 = .ok (.aload_n 0, 1) := by decide +kernel
theorem dX1_swapped_1 : decode cX1_swapped 1 = .ok (.invokevirtual 78, 3) := by decide +kernel
theorem dX1_swapped_4 : decode cX1_swapped 4 = .ok (.istore 4, 2) := by decide +kernel
theorem dX1_swapped_6 : decode cX1_swapped 6 = .ok (.aload_n 1, 1) := by decide +kernel
theorem dX1_swapped_7 : decode cX1_swapped 7 = .ok (.iload_n 2, 1) := by decide +kernel
theorem dX1_swapped_8 : decode cX1_swapped 8 = .ok (.iload_n 3, 1) := by decide +kernel
theorem dX1_swapped_9 : decode cX1_swapped 9 = .ok (.invokestatic 82, 3) := by decide +kernel
theorem dX1_swapped_12 : decode cX1_swapped 12 = .ok (.aload_n 0, 1) := by decide +kernel
theorem dX1_swapped_13 : decode cX1_swapped 13 = .ok (.invokevirtual 78, 3) := by decide +kernel
theorem dX1_swapped_16 : decode cX1_swapped 16 = .ok (.iload 4, 2) := by decide +kernel
theorem dX1_swapped_18 : decode cX1_swapped 18 = .ok (.isub, 1) := by decide +kernel
theorem dX1_swapped_19 : decode cX1_swapped 19 = .ok (.ireturn, 1) := by decide +kernel
set_option maxRecDepth 20000 in
theorem ggX1_swapUmbrellas_X1_wrongPair : GoodIn wsX1_swapUmbrellas wsX1_wrongPair := goodIn_r _ [9, 10, 11, 12, 8, 13, 14, 15, 16, 17, 55, 56, 57, 58, 59, 60, 61, 62, 63, 64] (by decide +kernel) (by decide +kernel)
set_option maxRecDepth 20000 in
theorem gX1_swapUmbrellas_X1_wrongPair : GoodIn wsX1_swapUmbrellas (wsV RX1 86 RX1 yX1_wrongPair wsX1_wrongPair) := goodIn_app (goodIn_of _ (by decide +kernel)) ggX1_swapUmbrellas_X1_wrongPair
set_option maxRecDepth 20000 in
theorem ggX1_swapUmbrellas_X1_no : GoodIn wsX1_swapUmbrellas wsX1_no := goodIn_r _ [21, 1, 55, 56, 57, 58, 59, 60, 61, 62, 63, 64] (by decide +kernel) (by decide +kernel)
set_option maxRecDepth 20000 in
theorem gX1_swapUmbrellas_X1_no : GoodIn wsX1_swapUmbrellas (wsV RX1 63 RX1 yX1_no wsX1_no) := goodIn_app (goodIn_of _ (by decide +kernel)) ggX1_swapUmbrellas_X1_no
set_option maxRecDepth 20000 in
theorem ggX1_swapUmbrellas_X1_pay : GoodIn wsX1_swapUmbrellas wsX1_pay := goodIn_r _ [25, 3, 26, 55, 56, 57, 58, 59, 60, 61, 62, 63, 64] (by decide +kernel) (by decide +kernel)
set_option maxRecDepth 20000 in
theorem gX1_swapUmbrellas_X1_pay : GoodIn wsX1_swapUmbrellas (wsV RX1 75 RX1 yX1_pay wsX1_pay) := goodIn_app (goodIn_of _ (by decide +kernel)) ggX1_swapUmbrellas_X1_pay
set_option maxRecDepth 20000 in
theorem ggX1_swapUmbrellas_X1_swapped : GoodIn wsX1_swapUmbrellas wsX1_swapped := goodIn_r _ [30, 31, 32, 33, 8, 34, 35, 36, 37, 38, 14, 39, 40, 41, 42, 2, 43, 44, 45, 46, 47, 48, 4, 49, 50, 51, 52, 53, 54, 55, 56, 57, 58, 59, 60, 61, 62, 63, 64] (by decide +kernel) (by decide +kernel)
set_option maxRecDepth 20000 in
theorem gX1_swapUmbrellas_X1_swapped : GoodIn wsX1_swapUmbrellas (wsV RX1 89 RX1 yX1_swapped wsX1_swapped) := goodIn_app (goodIn_of _ (by decide +kernel)) ggX1_swapUmbrellas_X1_swapped
theorem dX1_swapUmbrellas_0 : decode cX1_swapUmbrellas 0 = .ok (.aload_n 0, 1) := by decide +kernel
theorem dX1_swapUmbrellas_1 : decode cX1_swapUmbrellas 1 = .ok (.aload_n 0, 1) := by decide +kernel
theorem dX1_swapUmbrellas_2 : decode cX1_swapUmbrellas 2 = .ok (.iload_n 1, 1) := by decide +kernel
theorem dX1_swapUmbrellas_3 : decode cX1_swapUmbrellas 3 = .ok (.iload_n 2, 1) := by decide +kernel
theorem dX1_swapUmbrellas_4 : decode cX1_swapUmbrellas 4 = .ok (.invokevirtual 86, 3) := by decide +kernel
theorem dX1_swapUmbrellas_7 : decode cX1_swapUmbrellas 7 = .ok (.putfield 26, 3) := by decide +kernel
theorem dX1_swapUmbrellas_10 : decode cX1_swapUmbrellas 10 = .ok (.aload_n 0, 1) := by decide +kernel
theorem dX1_swapUmbrellas_11 : decode cX1_swapUmbrellas 11 = .ok (.getfield 26, 3) := by decide +kernel
theorem dX1_swapUmbrellas_14 : decode cX1_swapUmbrellas 14 = .ok (.ifCond .le 5, 3) := by decide +kernel
theorem dX1_swapUmbrellas_17 : decode cX1_swapUmbrellas 17 = .ok (.iconst 0, 1) := by decide +kernel
theorem dX1_swapUmbrellas_18 : decode cX1_swapUmbrellas 18 = .ok (.ireturn, 1) := by decide +kernel
theorem dX1_swapUmbrellas_19 : decode cX1_swapUmbrellas 19 = .ok (.aload_n 0, 1) := by decide +kernel
theorem dX1_swapUmbrellas_20 : decode cX1_swapUmbrellas 20 = .ok (.getfield 16, 3) := by decide +kernel
theorem dX1_swapUmbrellas_23 : decode cX1_swapUmbrellas 23 = .ok (.iload_n 1, 1) := by decide +kernel
theorem dX1_swapUmbrellas_24 : decode cX1_swapUmbrellas 24 = .ok (.iaload, 1) := by decide +kernel
theorem dX1_swapUmbrellas_25 : decode cX1_swapUmbrellas 25 = .ok (.aload_n 0, 1) := by decide +kernel
theorem dX1_swapUmbrellas_26 : decode cX1_swapUmbrellas 26 = .ok (.getfield 16, 3) := by decide +kernel
theorem dX1_swapUmbrellas_29 : decode cX1_swapUmbrellas 29 = .ok (.iload_n 2, 1) := by decide +kernel
theorem dX1_swapUmbrellas_30 : decode cX1_swapUmbrellas 30 = .ok (.iaload, 1) := by decide +kernel
theorem dX1_swapUmbrellas_31 : decode cX1_swapUmbrellas 31 = .ok (.if_icmp .ne 11, 3) := by decide +kernel
theorem dX1_swapUmbrellas_34 : decode cX1_swapUmbrellas 34 = .ok (.aload_n 0, 1) := by decide +kernel
theorem dX1_swapUmbrellas_35 : decode cX1_swapUmbrellas 35 = .ok (.getfield 22, 3) := by decide +kernel
theorem dX1_swapUmbrellas_38 : decode cX1_swapUmbrellas 38 = .ok (.iconst 3, 1) := by decide +kernel
theorem dX1_swapUmbrellas_39 : decode cX1_swapUmbrellas 39 = .ok (.if_icmp .ge 9, 3) := by decide +kernel
theorem dX1_swapUmbrellas_42 : decode cX1_swapUmbrellas 42 = .ok (.aload_n 0, 1) := by decide +kernel
theorem dX1_swapUmbrellas_43 : decode cX1_swapUmbrellas 43 = .ok (.iconst 3, 1) := by decide +kernel
theorem dX1_swapUmbrellas_44 : decode cX1_swapUmbrellas 44 = .ok (.invokevirtual 63, 3) := by decide +kernel
theorem dX1_swapUmbrellas_47 : decode cX1_swapUmbrellas 47 = .ok (.ireturn, 1) := by decide +kernel
theorem dX1_swapUmbrellas_48 : decode cX1_swapUmbrellas 48 = .ok (.aload_n 0, 1) := by decide +kernel
theorem dX1_swapUmbrellas_49 : decode cX1_swapUmbrellas 49 = .ok (.iconst 3, 1) := by decide +kernel
theorem dX1_swapUmbrellas_50 : decode cX1_swapUmbrellas 50 = .ok (.invokevirtual 75, 3) := by decide +kernel
theorem dX1_swapUmbrellas_53 : decode cX1_swapUmbrellas 53 = .ok (.pop, 1) := by decide +kernel
theorem dX1_swapUmbrellas_54 : decode cX1_swapUmbrellas 54 = .ok (.aload_n 0, 1) := by decide +kernel
theorem dX1_swapUmbrellas_55 : decode cX1_swapUmbrellas 55 = .ok (.aload_n 0, 1) := by decide +kernel
theorem dX1_swapUmbrellas_56 : decode cX1_swapUmbrellas 56 = .ok (.getfield 13, 3) := by decide +kernel
theorem dX1_swapUmbrellas_59 : decode cX1_swapUmbrellas 59 = .ok (.iload_n 1, 1) := by decide +kernel
theorem dX1_swapUmbrellas_60 : decode cX1_swapUmbrellas 60 = .ok (.iload_n 2, 1) := by decide +kernel
theorem dX1_swapUmbrellas_61 : decode cX1_swapUmbrellas 61 = .ok (.invokevirtual 89, 3) := by decide +kernel
theorem dX1_swapUmbrellas_64 : decode cX1_swapUmbrellas 64 = .ok (.ireturn, 1) := by decide +kernel
set_option maxRecDepth 20000 in
theorem ggX1_swapTickets_X1_wrongPair : GoodIn wsX1_swapTickets wsX1_wrongPair := goodIn_r _ [8, 9, 10, 11, 7, 12, 13, 14, 15, 16, 55, 56, 57, 58, 59, 60, 61, 62, 63, 64] (by decide +kernel) (by decide +kernel)
set_option maxRecDepth 20000 in
theorem gX1_swapTickets_X1_wrongPair : GoodIn wsX1_swapTickets (wsV RX1 86 RX1 yX1_wrongPair wsX1_wrongPair) := goodIn_app (goodIn_of _ (by decide +kernel)) ggX1_swapTickets_X1_wrongPair
set_option maxRecDepth 20000 in
theorem ggX1_swapTickets_X1_no : GoodIn wsX1_swapTickets wsX1_no := goodIn_r _ [20, 1, 55, 56, 57, 58, 59, 60, 61, 62, 63, 64] (by decide +kernel) (by decide +kernel)
set_option maxRecDepth 20000 in
theorem gX1_swapTickets_X1_no : GoodIn wsX1_swapTickets (wsV RX1 63 RX1 yX1_no wsX1_no) := goodIn_app (goodIn_of _ (by decide +kernel)) ggX1_swapTickets_X1_no
set_option maxRecDepth 20000 in
theorem ggX1_swapTickets_X1_pay : GoodIn wsX1_swapTickets wsX1_pay := goodIn_r _ [24, 2, 25, 55, 56, 57, 58, 59, 60, 61, 62, 63, 64] (by decide +kernel) (by decide +kernel)
set_option maxRecDepth 20000 in
theorem gX1_swapTickets_X1_pay : GoodIn wsX1_swapTickets (wsV RX1 75 RX1 yX1_pay wsX1_pay) := goodIn_app (goodIn_of _ (by decide +kernel)) ggX1_swapTickets_X1_pay
set_option maxRecDepth 20000 in
theorem ggX1_swapTickets_X1_swapped : GoodIn wsX1_swapTickets wsX1_swapped := goodIn_r _ [29, 30, 31, 32, 7, 33, 34, 35, 36, 37, 13, 38, 39, 40, 41, 42, 43, 44, 45, 46, 47, 3, 48, 49, 50, 51, 52, 53, 54, 55, 56, 57, 58, 59, 60, 61, 62, 63, 64] (by decide +kernel) (by decide +kernel)
set_option maxRecDepth 20000 in
theorem gX1_swapTickets_X1_swapped : GoodIn wsX1_swapTickets (wsV RX1 89 RX1 yX1_swapped wsX1_swapped) := goodIn_app (goodIn_of _ (by decide +kernel)) ggX1_swapTickets_X1_swapped
theorem dX1_swapTickets_0 : decode cX1_swapTickets 0 = .ok (.aload_n 0, 1) := by decide +kernel
theorem dX1_swapTickets_1 : decode cX1_swapTickets 1 = .ok (.aload_n 0, 1) := by decide +kernel
theorem dX1_swapTickets_2 : decode cX1_swapTickets 2 = .ok (.iload_n 1, 1) := by decide +kernel
theorem dX1_swapTickets_3 : decode cX1_swapTickets 3 = .ok (.iload_n 2, 1) := by decide +kernel
theorem dX1_swapTickets_4 : decode cX1_swapTickets 4 = .ok (.invokevirtual 86, 3) := by decide +kernel
theorem dX1_swapTickets_7 : decode cX1_swapTickets 7 = .ok (.putfield 26, 3) := by decide +kernel
theorem dX1_swapTickets_10 : decode cX1_swapTickets 10 = .ok (.aload_n 0, 1) := by decide +kernel
theorem dX1_swapTickets_11 : decode cX1_swapTickets 11 = .ok (.getfield 26, 3) := by decide +kernel
theorem dX1_swapTickets_14 : decode cX1_swapTickets 14 = .ok (.ifCond .le 5, 3) := by decide +kernel
theorem dX1_swapTickets_17 : decode cX1_swapTickets 17 = .ok (.iconst 0, 1) := by decide +kernel
theorem dX1_swapTickets_18 : decode cX1_swapTickets 18 = .ok (.ireturn, 1) := by decide +kernel
theorem dX1_swapTickets_19 : decode cX1_swapTickets 19 = .ok (.aload_n 0, 1) := by decide +kernel
theorem dX1_swapTickets_20 : decode cX1_swapTickets 20 = .ok (.getfield 22, 3) := by decide +kernel
theorem dX1_swapTickets_23 : decode cX1_swapTickets 23 = .ok (.bipush 8, 2) := by decide +kernel
theorem dX1_swapTickets_25 : decode cX1_swapTickets 25 = .ok (.if_icmp .ge 9, 3) := by decide +kernel
theorem dX1_swapTickets_28 : decode cX1_swapTickets 28 = .ok (.aload_n 0, 1) := by decide +kernel
theorem dX1_swapTickets_29 : decode cX1_swapTickets 29 = .ok (.iconst 3, 1) := by decide +kernel
theorem dX1_swapTickets_30 : decode cX1_swapTickets 30 = .ok (.invokevirtual 63, 3) := by decide +kernel
theorem dX1_swapTickets_33 : decode cX1_swapTickets 33 = .ok (.ireturn, 1) := by decide +kernel
theorem dX1_swapTickets_34 : decode cX1_swapTickets 34 = .ok (.aload_n 0, 1) := by decide +kernel
theorem dX1_swapTickets_35 : decode cX1_swapTickets 35 = .ok (.bipush 8, 2) := by decide +kernel
theorem dX1_swapTickets_37 : decode cX1_swapTickets 37 = .ok (.invokevirtual 75, 3) := by decide +kernel
theorem dX1_swapTickets_40 : decode cX1_swapTickets 40 = .ok (.pop, 1) := by decide +kernel
theorem dX1_swapTickets_41 : decode cX1_swapTickets 41 = .ok (.aload_n 0, 1) := by decide +kernel
theorem dX1_swapTickets_42 : decode cX1_swapTickets 42 = .ok (.aload_n 0, 1) := by decide +kernel
theorem dX1_swapTickets_43 : decode cX1_swapTickets 43 = .ok (.getfield 9, 3) := by decide +kernel
theorem dX1_swapTickets_46 : decode cX1_swapTickets 46 = .ok (.iload_n 1, 1) := by decide +kernel
theorem dX1_swapTickets_47 : decode cX1_swapTickets 47 = .ok (.iload_n 2, 1) := by decide +kernel
theorem dX1_swapTickets_48 : decode cX1_swapTickets 48 = .ok (.invokevirtual 89, 3) := by decide +kernel
theorem dX1_swapTickets_51 : decode cX1_swapTickets 51 = .ok (.ireturn, 1) := by decide +kernel
set_option maxRecDepth 20000 in
theorem ggX1_draw_X1_isOne : GoodIn wsX1_draw wsX1_isOne := goodIn_r _ [8, 9, 10, 11, 7, 12, 22, 23, 24, 25, 26, 27, 28, 29, 30, 31] (by decide +kernel) (by decide +kernel)
set_option maxRecDepth 20000 in
theorem gX1_draw_X1_isOne : GoodIn wsX1_draw (wsV RX1 66 RX1 yX1_isOne wsX1_isOne) := goodIn_app (goodIn_of _ (by decide +kernel)) ggX1_draw_X1_isOne
set_option maxRecDepth 20000 in
theorem ggX1_draw_X1_no : GoodIn wsX1_draw wsX1_no := goodIn_r _ [16, 1, 22, 23, 24, 25, 26, 27, 28, 29, 30, 31] (by decide +kernel) (by decide +kernel)
set_option maxRecDepth 20000 in
theorem gX1_draw_X1_no : GoodIn wsX1_draw (wsV RX1 63 RX1 yX1_no wsX1_no) := goodIn_app (goodIn_of _ (by decide +kernel)) ggX1_draw_X1_no
set_option maxRecDepth 20000 in
theorem ggX1_draw_X1_isIn : GoodIn wsX1_draw wsX1_isIn := goodIn_r _ [12] (by decide +kernel) (by decide +kernel)
set_option maxRecDepth 20000 in
theorem gX1_draw_X1_isIn : GoodIn wsX1_draw (va_wsS RX1 32 yX1_isIn wsX1_isIn) := goodIn_app (goodIn_of _ (by decide +kernel)) ggX1_draw_X1_isIn
set_option maxRecDepth 20000 in
theorem ggX1_draw_X1_pay : GoodIn wsX1_draw wsX1_pay := goodIn_r _ [20, 2, 21, 22, 23, 24, 25, 26, 27, 28, 29, 30, 31] (by decide +kernel) (by decide +kernel)
set_option maxRecDepth 20000 in
theorem gX1_draw_X1_pay : GoodIn wsX1_draw (wsV RX1 75 RX1 yX1_pay wsX1_pay) := goodIn_app (goodIn_of _ (by decide +kernel)) ggX1_draw_X1_pay
theorem dX1_draw_0 : decode cX1_draw 0 = .ok (.aload_n 0, 1) := by decide +kernel
theorem dX1_draw_1 : decode cX1_draw 1 = .ok (.iconst 0, 1) := by decide +kernel
theorem dX1_draw_2 : decode cX1_draw 2 = .ok (.putfield 26, 3) := by decide +kernel
theorem dX1_draw_5 : decode cX1_draw 5 = .ok (.aload_n 0, 1) := by decide +kernel
theorem dX1_draw_6 : decode cX1_draw 6 = .ok (.iload_n 1, 1) := by decide +kernel
theorem dX1_draw_7 : decode cX1_draw 7 = .ok (.invokevirtual 66, 3) := by decide +kernel
theorem dX1_draw_10 : decode cX1_draw 10 = .ok (.ifCond .ne 9, 3) := by decide +kernel
theorem dX1_draw_13 : decode cX1_draw 13 = .ok (.aload_n 0, 1) := by decide +kernel
theorem dX1_draw_14 : decode cX1_draw 14 = .ok (.iconst 1, 1) := by decide +kernel
theorem dX1_draw_15 : decode cX1_draw 15 = .ok (.invokevirtual 63, 3) := by decide +kernel
theorem dX1_draw_18 : decode cX1_draw 18 = .ok (.ireturn, 1) := by decide +kernel
theorem dX1_draw_19 : decode cX1_draw 19 = .ok (.iload_n 2, 1) := by decide +kernel
theorem dX1_draw_20 : decode cX1_draw 20 = .ok (.iconst 0, 1) := by decide +kernel
theorem dX1_draw_21 : decode cX1_draw 21 = .ok (.bipush 99, 2) := by decide +kernel
theorem dX1_draw_23 : decode cX1_draw 23 = .ok (.invokestatic 32, 3) := by decide +kernel
theorem dX1_draw_26 : decode cX1_draw 26 = .ok (.ifCond .ne 9, 3) := by decide +kernel
theorem dX1_draw_29 : decode cX1_draw 29 = .ok (.aload_n 0, 1) := by decide +kernel
theorem dX1_draw_30 : decode cX1_draw 30 = .ok (.iconst 2, 1) := by decide +kernel
theorem dX1_draw_31 : decode cX1_draw 31 = .ok (.invokevirtual 63, 3) := by decide +kernel
theorem dX1_draw_34 : decode cX1_draw 34 = .ok (.ireturn, 1) := by decide +kernel
theorem dX1_draw_35 : decode cX1_draw 35 = .ok (.aload_n 0, 1) := by decide +kernel
theorem dX1_draw_36 : decode cX1_draw 36 = .ok (.getfield 22, 3) := by decide +kernel
theorem dX1_draw_39 : decode cX1_draw 39 = .ok (.bipush 12, 2) := by decide +kernel
theorem dX1_draw_41 : decode cX1_draw 41 = .ok (.if_icmp .ge 9, 3) := by decide +kernel
theorem dX1_draw_44 : decode cX1_draw 44 = .ok (.aload_n 0, 1) := by decide +kernel
theorem dX1_draw_45 : decode cX1_draw 45 = .ok (.iconst 3, 1) := by decide +kernel
theorem dX1_draw_46 : decode cX1_draw 46 = .ok (.invokevirtual 63, 3) := by decide +kernel
theorem dX1_draw_49 : decode cX1_draw 49 = .ok (.ireturn, 1) := by decide +kernel
theorem dX1_draw_50 : decode cX1_draw 50 = .ok (.aload_n 0, 1) := by decide +kernel
theorem dX1_draw_51 : decode cX1_draw 51 = .ok (.bipush 12, 2) := by decide +kernel
theorem dX1_draw_53 : decode cX1_draw 53 = .ok (.invokevirtual 75, 3) := by decide +kernel
theorem dX1_draw_56 : decode cX1_draw 56 = .ok (.pop, 1) := by decide +kernel
theorem dX1_draw_57 : decode cX1_draw 57 = .ok (.aload_n 0, 1) := by decide +kernel
theorem dX1_draw_58 : decode cX1_draw 58 = .ok (.getfield 9, 3) := by decide +kernel
theorem dX1_draw_61 : decode cX1_draw 61 = .ok (.iload_n 1, 1) := by decide +kernel
theorem dX1_draw_62 : decode cX1_draw 62 = .ok (.iaload, 1) := by decide +kernel
theorem dX1_draw_63 : decode cX1_draw 63 = .ok (.istore_n 3, 1) := by decide +kernel
theorem dX1_draw_64 : decode cX1_draw 64 = .ok (.aload_n 0, 1) := by decide +kernel
theorem dX1_draw_65 : decode cX1_draw 65 = .ok (.getfield 9, 3) := by decide +kernel
theorem dX1_draw_68 : decode cX1_draw 68 = .ok (.iload_n 1, 1) := by decide +kernel
theorem dX1_draw_69 : decode cX1_draw 69 = .ok (.iload_n 2, 1) := by decide +kernel
theorem dX1_draw_70 : decode cX1_draw 70 = .ok (.iastore, 1) := by decide +kernel
theorem dX1_draw_71 : decode cX1_draw 71 = .ok (.iload_n 3, 1) := by decide +kernel
theorem dX1_draw_72 : decode cX1_draw 72 = .ok (.ireturn, 1) := by decide +kernel
set_option maxRecDepth 20000 in
theorem ggX1_goOn_X1_cornerIn : GoodIn wsX1_goOn wsX1_cornerIn := goodIn_r _ [10, 2, 11, 33, 34, 35, 36, 37, 38, 39, 40, 41, 42] (by decide +kernel) (by decide +kernel)
set_option maxRecDepth 20000 in
theorem gX1_goOn_X1_cornerIn : GoodIn wsX1_goOn (wsV RX1 40 RX1 yX1_cornerIn wsX1_cornerIn) := goodIn_app (goodIn_of _ (by decide +kernel)) ggX1_goOn_X1_cornerIn
set_option maxRecDepth 20000 in
theorem ggX1_goOn_X1_here : GoodIn wsX1_goOn wsX1_here := goodIn_r _ [15, 16, 17, 18, 9, 19, 1, 6, 7, 8, 10, 2, 11, 20, 21, 22, 23, 24, 25, 26, 27, 28, 33, 34, 35, 36, 37, 38, 39, 40, 41, 42] (by decide +kernel) (by decide +kernel)
set_option maxRecDepth 20000 in
theorem gX1_goOn_X1_here : GoodIn wsX1_goOn (wsV RX1 78 RX1 yX1_here wsX1_here) := goodIn_app (goodIn_of _ (by decide +kernel)) ggX1_goOn_X1_here
set_option maxRecDepth 20000 in
theorem ggX1_goOn_X1_at : GoodIn wsX1_goOn wsX1_at := goodIn_r _ [32, 1, 2, 33, 34, 35, 36, 37, 38, 39, 40, 41, 42] (by decide +kernel) (by decide +kernel)
set_option maxRecDepth 20000 in
theorem gX1_goOn_X1_at : GoodIn wsX1_goOn (wsV RX1 96 RX1 yX1_at wsX1_at) := goodIn_app (goodIn_of _ (by decide +kernel)) ggX1_goOn_X1_at
theorem dX1_goOn_0 : decode cX1_goOn 0 = .ok (.iconst 0, 1) := by decide +kernel
theorem dX1_goOn_1 : decode cX1_goOn 1 = .ok (.istore_n 1, 1) := by decide +kernel
theorem dX1_goOn_2 : decode cX1_goOn 2 = .ok (.iload_n 1, 1) := by decide +kernel
theorem dX1_goOn_3 : decode cX1_goOn 3 = .ok (.aload_n 0, 1) := by decide +kernel
theorem dX1_goOn_4 : decode cX1_goOn 4 = .ok (.getfield 29, 3) := by decide +kernel
theorem dX1_goOn_7 : decode cX1_goOn 7 = .ok (.if_icmp .ge 21, 3) := by decide +kernel
theorem dX1_goOn_10 : decode cX1_goOn 10 = .ok (.aload_n 0, 1) := by decide +kernel
theorem dX1_goOn_11 : decode cX1_goOn 11 = .ok (.getfield 16, 3) := by decide +kernel
theorem dX1_goOn_14 : decode cX1_goOn 14 = .ok (.iload_n 1, 1) := by decide +kernel
theorem dX1_goOn_15 : decode cX1_goOn 15 = .ok (.aload_n 0, 1) := by decide +kernel
theorem dX1_goOn_16 : decode cX1_goOn 16 = .ok (.iload_n 1, 1) := by decide +kernel
theorem dX1_goOn_17 : decode cX1_goOn 17 = .ok (.iconst 1, 1) := by decide +kernel
theorem dX1_goOn_18 : decode cX1_goOn 18 = .ok (.invokevirtual 40, 3) := by decide +kernel
theorem dX1_goOn_21 : decode cX1_goOn 21 = .ok (.iastore, 1) := by decide +kernel
theorem dX1_goOn_22 : decode cX1_goOn 22 = .ok (.iinc 1 1, 3) := by decide +kernel
theorem dX1_goOn_25 : decode cX1_goOn 25 = .ok (.goto (-23), 3) := by decide +kernel
theorem dX1_goOn_28 : decode cX1_goOn 28 = .ok (.aload_n 0, 1) := by decide +kernel
theorem dX1_goOn_29 : decode cX1_goOn 29 = .ok (.dup, 1) := by decide +kernel
theorem dX1_goOn_30 : decode cX1_goOn 30 = .ok (.getfield 93, 3) := by decide +kernel
theorem dX1_goOn_33 : decode cX1_goOn 33 = .ok (.aload_n 0, 1) := by decide +kernel
theorem dX1_goOn_34 : decode cX1_goOn 34 = .ok (.invokevirtual 78, 3) := by decide +kernel
theorem dX1_goOn_37 : decode cX1_goOn 37 = .ok (.iadd, 1) := by decide +kernel
theorem dX1_goOn_38 : decode cX1_goOn 38 = .ok (.putfield 93, 3) := by decide +kernel
theorem dX1_goOn_41 : decode cX1_goOn 41 = .ok (.iconst 0, 1) := by decide +kernel
theorem dX1_goOn_42 : decode cX1_goOn 42 = .ok (.istore_n 1, 1) := by decide +kernel
theorem dX1_goOn_43 : decode cX1_goOn 43 = .ok (.iload_n 1, 1) := by decide +kernel
theorem dX1_goOn_44 : decode cX1_goOn 44 = .ok (.bipush 6, 2) := by decide +kernel
theorem dX1_goOn_46 : decode cX1_goOn 46 = .ok (.if_icmp .ge 40, 3) := by decide +kernel
theorem dX1_goOn_49 : decode cX1_goOn 49 = .ok (.aload_n 0, 1) := by decide +kernel
theorem dX1_goOn_50 : decode cX1_goOn 50 = .ok (.dup, 1) := by decide +kernel
theorem dX1_goOn_51 : decode cX1_goOn 51 = .ok (.getfield 22, 3) := by decide +kernel
theorem dX1_goOn_54 : decode cX1_goOn 54 = .ok (.aload_n 0, 1) := by decide +kernel
theorem dX1_goOn_55 : decode cX1_goOn 55 = .ok (.iload_n 1, 1) := by decide +kernel
theorem dX1_goOn_56 : decode cX1_goOn 56 = .ok (.invokevirtual 96, 3) := by decide +kernel
theorem dX1_goOn_59 : decode cX1_goOn 59 = .ok (.ifCond .ne 16, 3) := by decide +kernel
theorem dX1_goOn_62 : decode cX1_goOn 62 = .ok (.aload_n 0, 1) := by decide +kernel
theorem dX1_goOn_63 : decode cX1_goOn 63 = .ok (.getfield 22, 3) := by decide +kernel
theorem dX1_goOn_66 : decode cX1_goOn 66 = .ok (.bipush 100, 2) := by decide +kernel
theorem dX1_goOn_68 : decode cX1_goOn 68 = .ok (.if_icmp .ge 7, 3) := by decide +kernel
theorem dX1_goOn_71 : decode cX1_goOn 71 = .ok (.iconst 1, 1) := by decide +kernel
theorem dX1_goOn_72 : decode cX1_goOn 72 = .ok (.goto 4, 3) := by decide +kernel
theorem dX1_goOn_75 : decode cX1_goOn 75 = .ok (.iconst 0, 1) := by decide +kernel
theorem dX1_goOn_76 : decode cX1_goOn 76 = .ok (.iadd, 1) := by decide +kernel
theorem dX1_goOn_77 : decode cX1_goOn 77 = .ok (.putfield 22, 3) := by decide +kernel
theorem dX1_goOn_80 : decode cX1_goOn 80 = .ok (.iinc 1 1, 3) := by decide +kernel
theorem dX1_goOn_83 : decode cX1_goOn 83 = .ok (.goto (-40), 3) := by decide +kernel
theorem dX1_goOn_86 : decode cX1_goOn 86 = .ok (.aload_n 0, 1) := by decide +kernel
theorem dX1_goOn_87 : decode cX1_goOn 87 = .ok (.dup, 1) := by decide +kernel
theorem dX1_goOn_88 : decode cX1_goOn 88 = .ok (.getfield 99, 3) := by decide +kernel
theorem dX1_goOn_91 : decode cX1_goOn 91 = .ok (.iconst 1, 1) := by decide +kernel
theorem dX1_goOn_92 : decode cX1_goOn 92 = .ok (.iadd, 1) := by decide +kernel
theorem dX1_goOn_93 : decode cX1_goOn 93 = .ok (.putfield 99, 3) := by decide +kernel
theorem dX1_goOn_96 : decode cX1_goOn 96 = .ok (.return_, 1) := by decide +kernel
set_option maxRecDepth 20000 in
theorem ggX1_pass_X1_isIn : GoodIn wsX1_pass wsX1_isIn := goodIn_r _ [6] (by decide +kernel) (by decide +kernel)
set_option maxRecDepth 20000 in
theorem gX1_pass_X1_isIn : GoodIn wsX1_pass (va_wsS RX1 32 yX1_isIn wsX1_isIn) := goodIn_app (goodIn_of _ (by decide +kernel)) ggX1_pass_X1_isIn
set_option maxRecDepth 20000 in
theorem ggX1_pass_X1_no : GoodIn wsX1_pass wsX1_no := goodIn_r _ [10, 1, 45, 46, 47, 48, 49, 50, 51, 52, 53, 54] (by decide +kernel) (by decide +kernel)
set_option maxRecDepth 20000 in
theorem gX1_pass_X1_no : GoodIn wsX1_pass (wsV RX1 63 RX1 yX1_no wsX1_no) := goodIn_app (goodIn_of _ (by decide +kernel)) ggX1_pass_X1_no
set_option maxRecDepth 20000 in
theorem ggX1_pass_X1_goOn : GoodIn wsX1_pass wsX1_goOn := goodIn_r _ [14, 15, 16, 2, 17, 18, 19, 20, 21, 5, 22, 23, 24, 25, 26, 27, 28, 29, 30, 31, 32, 33, 34, 35, 36, 37, 38, 39, 40, 41, 42, 43, 44, 45, 46, 47, 48, 49, 50, 51, 52, 53, 54] (by decide +kernel) (by decide +kernel)
set_option maxRecDepth 20000 in
theorem gX1_pass_X1_goOn : GoodIn wsX1_pass (wsV RX1 102 RX1 yX1_goOn wsX1_goOn) := goodIn_app (goodIn_of _ (by decide +kernel)) ggX1_pass_X1_goOn
theorem dX1_pass_0 : decode cX1_pass 0 = .ok (.aload_n 0, 1) := by decide +kernel
theorem dX1_pass_1 : decode cX1_pass 1 = .ok (.iconst 0, 1) := by decide +kernel
theorem dX1_pass_2 : decode cX1_pass 2 = .ok (.putfield 26, 3) := by decide +kernel
theorem dX1_pass_5 : decode cX1_pass 5 = .ok (.iload_n 1, 1) := by decide +kernel
theorem dX1_pass_6 : decode cX1_pass 6 = .ok (.iconst 1, 1) := by decide +kernel
theorem dX1_pass_7 : decode cX1_pass 7 = .ok (.bipush 60, 2) := by decide +kernel
theorem dX1_pass_9 : decode cX1_pass 9 = .ok (.invokestatic 32, 3) := by decide +kernel
theorem dX1_pass_12 : decode cX1_pass 12 = .ok (.ifCond .ne 9, 3) := by decide +kernel
theorem dX1_pass_15 : decode cX1_pass 15 = .ok (.aload_n 0, 1) := by decide +kernel
theorem dX1_pass_16 : decode cX1_pass 16 = .ok (.iconst 1, 1) := by decide +kernel
theorem dX1_pass_17 : decode cX1_pass 17 = .ok (.invokevirtual 63, 3) := by decide +kernel
theorem dX1_pass_20 : decode cX1_pass 20 = .ok (.ireturn, 1) := by decide +kernel
theorem dX1_pass_21 : decode cX1_pass 21 = .ok (.aload_n 0, 1) := by decide +kernel
theorem dX1_pass_22 : decode cX1_pass 22 = .ok (.getfield 93, 3) := by decide +kernel
theorem dX1_pass_25 : decode cX1_pass 25 = .ok (.istore_n 2, 1) := by decide +kernel
theorem dX1_pass_26 : decode cX1_pass 26 = .ok (.iconst 0, 1) := by decide +kernel
theorem dX1_pass_27 : decode cX1_pass 27 = .ok (.istore_n 3, 1) := by decide +kernel
theorem dX1_pass_28 : decode cX1_pass 28 = .ok (.iload_n 3, 1) := by decide +kernel
theorem dX1_pass_29 : decode cX1_pass 29 = .ok (.iload_n 1, 1) := by decide +kernel
theorem dX1_pass_30 : decode cX1_pass 30 = .ok (.if_icmp .ge 13, 3) := by decide +kernel
theorem dX1_pass_33 : decode cX1_pass 33 = .ok (.aload_n 0, 1) := by decide +kernel
theorem dX1_pass_34 : decode cX1_pass 34 = .ok (.invokevirtual 102, 3) := by decide +kernel
theorem dX1_pass_37 : decode cX1_pass 37 = .ok (.iinc 3 1, 3) := by decide +kernel
theorem dX1_pass_40 : decode cX1_pass 40 = .ok (.goto (-12), 3) := by decide +kernel
theorem dX1_pass_43 : decode cX1_pass 43 = .ok (.aload_n 0, 1) := by decide +kernel
theorem dX1_pass_44 : decode cX1_pass 44 = .ok (.getfield 93, 3) := by decide +kernel
theorem dX1_pass_47 : decode cX1_pass 47 = .ok (.iload_n 2, 1) := by decide +kernel
theorem dX1_pass_48 : decode cX1_pass 48 = .ok (.isub, 1) := by decide +kernel
theorem dX1_pass_49 : decode cX1_pass 49 = .ok (.ireturn, 1) := by decide +kernel
set_option maxRecDepth 20000 in
theorem ggX1_strangers_X1_ok : GoodIn wsX1_strangers wsX1_ok := goodIn_r _ [6, 7, 8, 9, 10, 11, 12, 13, 14, 15, 16, 17] (by decide +kernel) (by decide +kernel)
set_option maxRecDepth 20000 in
theorem gX1_strangers_X1_ok : GoodIn wsX1_strangers (wsV RX1 105 RX1 yX1_ok wsX1_ok) := goodIn_app (goodIn_of _ (by decide +kernel)) ggX1_strangers_X1_ok
theorem dX1_strangers_0 : decode cX1_strangers 0 = .ok (.aload_n 0, 1) := by decide +kernel
theorem dX1_strangers_1 : decode cX1_strangers 1 = .ok (.aload_n 0, 1) := by decide +kernel
theorem dX1_strangers_2 : decode cX1_strangers 2 = .ok (.getfield 29, 3) := by decide +kernel
theorem dX1_strangers_5 : decode cX1_strangers 5 = .ok (.invokevirtual 105, 3) := by decide +kernel
theorem dX1_strangers_8 : decode cX1_strangers 8 = .ok (.ireturn, 1) := by decide +kernel
set_option maxRecDepth 20000 in
theorem ggX1_hour_X1_ok : GoodIn wsX1_hour wsX1_ok := goodIn_r _ [6, 7, 8, 9, 10, 11, 12, 13, 14, 15, 16, 17] (by decide +kernel) (by decide +kernel)
set_option maxRecDepth 20000 in
theorem gX1_hour_X1_ok : GoodIn wsX1_hour (wsV RX1 105 RX1 yX1_ok wsX1_ok) := goodIn_app (goodIn_of _ (by decide +kernel)) ggX1_hour_X1_ok
theorem dX1_hour_0 : decode cX1_hour 0 = .ok (.aload_n 0, 1) := by decide +kernel
theorem dX1_hour_1 : decode cX1_hour 1 = .ok (.aload_n 0, 1) := by decide +kernel
theorem dX1_hour_2 : decode cX1_hour 2 = .ok (.getfield 99, 3) := by decide +kernel
theorem dX1_hour_5 : decode cX1_hour 5 = .ok (.invokevirtual 105, 3) := by decide +kernel
theorem dX1_hour_8 : decode cX1_hour 8 = .ok (.ireturn, 1) := by decide +kernel
set_option maxRecDepth 20000 in
theorem ggX1_store_X1_ok : GoodIn wsX1_store wsX1_ok := goodIn_r _ [6, 7, 8, 9, 10, 11, 12, 13, 14, 15, 16, 17] (by decide +kernel) (by decide +kernel)
set_option maxRecDepth 20000 in
theorem gX1_store_X1_ok : GoodIn wsX1_store (wsV RX1 105 RX1 yX1_ok wsX1_ok) := goodIn_app (goodIn_of _ (by decide +kernel)) ggX1_store_X1_ok
theorem dX1_store_0 : decode cX1_store 0 = .ok (.aload_n 0, 1) := by decide +kernel
theorem dX1_store_1 : decode cX1_store 1 = .ok (.aload_n 0, 1) := by decide +kernel
theorem dX1_store_2 : decode cX1_store 2 = .ok (.getfield 22, 3) := by decide +kernel
theorem dX1_store_5 : decode cX1_store 5 = .ok (.invokevirtual 105, 3) := by decide +kernel
theorem dX1_store_8 : decode cX1_store 8 = .ok (.ireturn, 1) := by decide +kernel
set_option maxRecDepth 20000 in
theorem ggX1_counted_X1_ok : GoodIn wsX1_counted wsX1_ok := goodIn_r _ [6, 7, 8, 9, 10, 11, 12, 13, 14, 15, 16, 17] (by decide +kernel) (by decide +kernel)
set_option maxRecDepth 20000 in
theorem gX1_counted_X1_ok : GoodIn wsX1_counted (wsV RX1 105 RX1 yX1_ok wsX1_ok) := goodIn_app (goodIn_of _ (by decide +kernel)) ggX1_counted_X1_ok
theorem dX1_counted_0 : decode cX1_counted 0 = .ok (.aload_n 0, 1) := by decide +kernel
theorem dX1_counted_1 : decode cX1_counted 1 = .ok (.aload_n 0, 1) := by decide +kernel
theorem dX1_counted_2 : decode cX1_counted 2 = .ok (.getfield 93, 3) := by decide +kernel
theorem dX1_counted_5 : decode cX1_counted 5 = .ok (.invokevirtual 105, 3) := by decide +kernel
theorem dX1_counted_8 : decode cX1_counted 8 = .ok (.ireturn, 1) := by decide +kernel
set_option maxRecDepth 20000 in
theorem ggX1_spent_X1_ok : GoodIn wsX1_spent wsX1_ok := goodIn_r _ [6, 7, 8, 9, 10, 11, 12, 13, 14, 15, 16, 17] (by decide +kernel) (by decide +kernel)
set_option maxRecDepth 20000 in
theorem gX1_spent_X1_ok : GoodIn wsX1_spent (wsV RX1 105 RX1 yX1_ok wsX1_ok) := goodIn_app (goodIn_of _ (by decide +kernel)) ggX1_spent_X1_ok
theorem dX1_spent_0 : decode cX1_spent 0 = .ok (.aload_n 0, 1) := by decide +kernel
theorem dX1_spent_1 : decode cX1_spent 1 = .ok (.aload_n 0, 1) := by decide +kernel
theorem dX1_spent_2 : decode cX1_spent 2 = .ok (.getfield 69, 3) := by decide +kernel
theorem dX1_spent_5 : decode cX1_spent 5 = .ok (.invokevirtual 105, 3) := by decide +kernel
theorem dX1_spent_8 : decode cX1_spent 8 = .ok (.ireturn, 1) := by decide +kernel
set_option maxRecDepth 20000 in
theorem ggX1_of_X1_isOne : GoodIn wsX1_of wsX1_isOne := goodIn_r _ [6, 7, 8, 9, 5, 10, 15, 16, 17, 18, 19, 20, 21, 22, 23, 24] (by decide +kernel) (by decide +kernel)
set_option maxRecDepth 20000 in
theorem gX1_of_X1_isOne : GoodIn wsX1_of (wsV RX1 66 RX1 yX1_isOne wsX1_isOne) := goodIn_app (goodIn_of _ (by decide +kernel)) ggX1_of_X1_isOne
set_option maxRecDepth 20000 in
theorem ggX1_of_X1_no : GoodIn wsX1_of wsX1_no := goodIn_r _ [14, 1, 15, 16, 17, 18, 19, 20, 21, 22, 23, 24] (by decide +kernel) (by decide +kernel)
set_option maxRecDepth 20000 in
theorem gX1_of_X1_no : GoodIn wsX1_of (wsV RX1 63 RX1 yX1_no wsX1_no) := goodIn_app (goodIn_of _ (by decide +kernel)) ggX1_of_X1_no
theorem dX1_of_0 : decode cX1_of 0 = .ok (.aload_n 0, 1) := by decide +kernel
theorem dX1_of_1 : decode cX1_of 1 = .ok (.iconst 0, 1) := by decide +kernel
theorem dX1_of_2 : decode cX1_of 2 = .ok (.putfield 26, 3) := by decide +kernel
theorem dX1_of_5 : decode cX1_of 5 = .ok (.aload_n 0, 1) := by decide +kernel
theorem dX1_of_6 : decode cX1_of 6 = .ok (.iload_n 1, 1) := by decide +kernel
theorem dX1_of_7 : decode cX1_of 7 = .ok (.invokevirtual 66, 3) := by decide +kernel
theorem dX1_of_10 : decode cX1_of 10 = .ok (.ifCond .eq 9, 3) := by decide +kernel
theorem dX1_of_13 : decode cX1_of 13 = .ok (.aload_n 2, 1) := by decide +kernel
theorem dX1_of_14 : decode cX1_of 14 = .ok (.iload_n 1, 1) := by decide +kernel
theorem dX1_of_15 : decode cX1_of 15 = .ok (.iaload, 1) := by decide +kernel
theorem dX1_of_16 : decode cX1_of 16 = .ok (.goto 8, 3) := by decide +kernel
theorem dX1_of_19 : decode cX1_of 19 = .ok (.aload_n 0, 1) := by decide +kernel
theorem dX1_of_20 : decode cX1_of 20 = .ok (.iconst 1, 1) := by decide +kernel
theorem dX1_of_21 : decode cX1_of 21 = .ok (.invokevirtual 63, 3) := by decide +kernel
theorem dX1_of_24 : decode cX1_of 24 = .ok (.ireturn, 1) := by decide +kernel
set_option maxRecDepth 20000 in
theorem ggX1_ticketOf_X1_of : GoodIn wsX1_ticketOf wsX1_of := goodIn_r _ [6, 7, 8, 9, 10, 5, 11, 12, 13, 14, 15, 16, 17, 18, 19, 20, 21, 22, 23, 24, 25, 26, 27, 28, 29] (by decide +kernel) (by decide +kernel)
set_option maxRecDepth 20000 in
theorem gX1_ticketOf_X1_of : GoodIn wsX1_ticketOf (wsV RX1 108 RX1 yX1_of wsX1_of) := goodIn_app (goodIn_of _ (by decide +kernel)) ggX1_ticketOf_X1_of
theorem dX1_ticketOf_0 : decode cX1_ticketOf 0 = .ok (.aload_n 0, 1) := by decide +kernel
theorem dX1_ticketOf_1 : decode cX1_ticketOf 1 = .ok (.iload_n 1, 1) := by decide +kernel
theorem dX1_ticketOf_2 : decode cX1_ticketOf 2 = .ok (.aload_n 0, 1) := by decide +kernel
theorem dX1_ticketOf_3 : decode cX1_ticketOf 3 = .ok (.getfield 9, 3) := by decide +kernel
theorem dX1_ticketOf_6 : decode cX1_ticketOf 6 = .ok (.invokevirtual 108, 3) := by decide +kernel
theorem dX1_ticketOf_9 : decode cX1_ticketOf 9 = .ok (.ireturn, 1) := by decide +kernel
set_option maxRecDepth 20000 in
theorem ggX1_colourOf_X1_of : GoodIn wsX1_colourOf wsX1_of := goodIn_r _ [6, 7, 8, 9, 10, 5, 11, 12, 13, 14, 15, 16, 17, 18, 19, 20, 21, 22, 23, 24, 25, 26, 27, 28, 29] (by decide +kernel) (by decide +kernel)
set_option maxRecDepth 20000 in
theorem gX1_colourOf_X1_of : GoodIn wsX1_colourOf (wsV RX1 108 RX1 yX1_of wsX1_of) := goodIn_app (goodIn_of _ (by decide +kernel)) ggX1_colourOf_X1_of
theorem dX1_colourOf_0 : decode cX1_colourOf 0 = .ok (.aload_n 0, 1) := by decide +kernel
theorem dX1_colourOf_1 : decode cX1_colourOf 1 = .ok (.iload_n 1, 1) := by decide +kernel
theorem dX1_colourOf_2 : decode cX1_colourOf 2 = .ok (.aload_n 0, 1) := by decide +kernel
theorem dX1_colourOf_3 : decode cX1_colourOf 3 = .ok (.getfield 13, 3) := by decide +kernel
theorem dX1_colourOf_6 : decode cX1_colourOf 6 = .ok (.invokevirtual 108, 3) := by decide +kernel
theorem dX1_colourOf_9 : decode cX1_colourOf 9 = .ok (.ireturn, 1) := by decide +kernel
set_option maxRecDepth 20000 in
theorem ggX1_cornerOf_X1_of : GoodIn wsX1_cornerOf wsX1_of := goodIn_r _ [6, 7, 8, 9, 10, 5, 11, 12, 13, 14, 15, 16, 17, 18, 19, 20, 21, 22, 23, 24, 25, 26, 27, 28, 29] (by decide +kernel) (by decide +kernel)
set_option maxRecDepth 20000 in
theorem gX1_cornerOf_X1_of : GoodIn wsX1_cornerOf (wsV RX1 108 RX1 yX1_of wsX1_of) := goodIn_app (goodIn_of _ (by decide +kernel)) ggX1_cornerOf_X1_of
theorem dX1_cornerOf_0 : decode cX1_cornerOf 0 = .ok (.aload_n 0, 1) := by decide +kernel
theorem dX1_cornerOf_1 : decode cX1_cornerOf 1 = .ok (.iload_n 1, 1) := by decide +kernel
theorem dX1_cornerOf_2 : decode cX1_cornerOf 2 = .ok (.aload_n 0, 1) := by decide +kernel
theorem dX1_cornerOf_3 : decode cX1_cornerOf 3 = .ok (.getfield 16, 3) := by decide +kernel
theorem dX1_cornerOf_6 : decode cX1_cornerOf 6 = .ok (.invokevirtual 108, 3) := by decide +kernel
theorem dX1_cornerOf_9 : decode cX1_cornerOf 9 = .ok (.ireturn, 1) := by decide +kernel
set_option maxRecDepth 20000 in
theorem ggX1_walkOf_X1_of : GoodIn wsX1_walkOf wsX1_of := goodIn_r _ [6, 7, 8, 9, 10, 5, 11, 12, 13, 14, 15, 16, 17, 18, 19, 20, 21, 22, 23, 24, 25, 26, 27, 28, 29] (by decide +kernel) (by decide +kernel)
set_option maxRecDepth 20000 in
theorem gX1_walkOf_X1_of : GoodIn wsX1_walkOf (wsV RX1 108 RX1 yX1_of wsX1_of) := goodIn_app (goodIn_of _ (by decide +kernel)) ggX1_walkOf_X1_of
theorem dX1_walkOf_0 : decode cX1_walkOf 0 = .ok (.aload_n 0, 1) := by decide +kernel
theorem dX1_walkOf_1 : decode cX1_walkOf 1 = .ok (.iload_n 1, 1) := by decide +kernel
theorem dX1_walkOf_2 : decode cX1_walkOf 2 = .ok (.aload_n 0, 1) := by decide +kernel
theorem dX1_walkOf_3 : decode cX1_walkOf 3 = .ok (.getfield 19, 3) := by decide +kernel
theorem dX1_walkOf_6 : decode cX1_walkOf 6 = .ok (.invokevirtual 108, 3) := by decide +kernel
theorem dX1_walkOf_9 : decode cX1_walkOf 9 = .ok (.ireturn, 1) := by decide +kernel
set_option maxRecDepth 20000 in
theorem ggX1_peopleAt_X1_isCorner : GoodIn wsX1_peopleAt wsX1_isCorner := goodIn_r _ [5, 6, 7, 4, 8] (by decide +kernel) (by decide +kernel)
set_option maxRecDepth 20000 in
theorem gX1_peopleAt_X1_isCorner : GoodIn wsX1_peopleAt (va_wsS RX1 59 yX1_isCorner wsX1_isCorner) := goodIn_app (goodIn_of _ (by decide +kernel)) ggX1_peopleAt_X1_isCorner
set_option maxRecDepth 20000 in
theorem ggX1_peopleAt_X1_at : GoodIn wsX1_peopleAt wsX1_at := goodIn_r _ [12, 13, 14, 19, 20, 21, 22, 23, 24, 25, 26, 27, 28] (by decide +kernel) (by decide +kernel)
set_option maxRecDepth 20000 in
theorem gX1_peopleAt_X1_at : GoodIn wsX1_peopleAt (wsV RX1 96 RX1 yX1_at wsX1_at) := goodIn_app (goodIn_of _ (by decide +kernel)) ggX1_peopleAt_X1_at
set_option maxRecDepth 20000 in
theorem ggX1_peopleAt_X1_no : GoodIn wsX1_peopleAt wsX1_no := goodIn_r _ [18, 1, 19, 20, 21, 22, 23, 24, 25, 26, 27, 28] (by decide +kernel) (by decide +kernel)
set_option maxRecDepth 20000 in
theorem gX1_peopleAt_X1_no : GoodIn wsX1_peopleAt (wsV RX1 63 RX1 yX1_no wsX1_no) := goodIn_app (goodIn_of _ (by decide +kernel)) ggX1_peopleAt_X1_no
theorem dX1_peopleAt_0 : decode cX1_peopleAt 0 = .ok (.aload_n 0, 1) := by decide +kernel
theorem dX1_peopleAt_1 : decode cX1_peopleAt 1 = .ok (.iconst 0, 1) := by decide +kernel
theorem dX1_peopleAt_2 : decode cX1_peopleAt 2 = .ok (.putfield 26, 3) := by decide +kernel
theorem dX1_peopleAt_5 : decode cX1_peopleAt 5 = .ok (.iload_n 1, 1) := by decide +kernel
theorem dX1_peopleAt_6 : decode cX1_peopleAt 6 = .ok (.invokestatic 59, 3) := by decide +kernel
theorem dX1_peopleAt_9 : decode cX1_peopleAt 9 = .ok (.ifCond .eq 11, 3) := by decide +kernel
theorem dX1_peopleAt_12 : decode cX1_peopleAt 12 = .ok (.aload_n 0, 1) := by decide +kernel
theorem dX1_peopleAt_13 : decode cX1_peopleAt 13 = .ok (.iload_n 1, 1) := by decide +kernel
theorem dX1_peopleAt_14 : decode cX1_peopleAt 14 = .ok (.invokevirtual 96, 3) := by decide +kernel
theorem dX1_peopleAt_17 : decode cX1_peopleAt 17 = .ok (.goto 8, 3) := by decide +kernel
theorem dX1_peopleAt_20 : decode cX1_peopleAt 20 = .ok (.aload_n 0, 1) := by decide +kernel
theorem dX1_peopleAt_21 : decode cX1_peopleAt 21 = .ok (.iconst 1, 1) := by decide +kernel
theorem dX1_peopleAt_22 : decode cX1_peopleAt 22 = .ok (.invokevirtual 63, 3) := by decide +kernel
theorem dX1_peopleAt_25 : decode cX1_peopleAt 25 = .ok (.ireturn, 1) := by decide +kernel
set_option maxRecDepth 20000 in
theorem ggX1_pointsOf_X1_wrongPair : GoodIn wsX1_pointsOf wsX1_wrongPair := goodIn_r _ [6, 7, 8, 9, 5, 10, 11, 12, 13, 14, 24, 25, 26, 27, 28, 29, 30, 31, 32, 33] (by decide +kernel) (by decide +kernel)
set_option maxRecDepth 20000 in
theorem gX1_pointsOf_X1_wrongPair : GoodIn wsX1_pointsOf (wsV RX1 86 RX1 yX1_wrongPair wsX1_wrongPair) := goodIn_app (goodIn_of _ (by decide +kernel)) ggX1_pointsOf_X1_wrongPair
set_option maxRecDepth 20000 in
theorem ggX1_pointsOf_X1_points : GoodIn wsX1_pointsOf wsX1_points := goodIn_r _ [18, 19, 20, 21, 22, 5, 23, 24, 25, 26, 27, 28, 29, 30, 31, 32, 33] (by decide +kernel) (by decide +kernel)
set_option maxRecDepth 20000 in
theorem gX1_pointsOf_X1_points : GoodIn wsX1_pointsOf (wsV RX1 44 RX1 yX1_points wsX1_points) := goodIn_app (goodIn_of _ (by decide +kernel)) ggX1_pointsOf_X1_points
theorem dX1_pointsOf_0 : decode cX1_pointsOf 0 = .ok (.aload_n 0, 1) := by decide +kernel
theorem dX1_pointsOf_1 : decode cX1_pointsOf 1 = .ok (.aload_n 0, 1) := by decide +kernel
theorem dX1_pointsOf_2 : decode cX1_pointsOf 2 = .ok (.iload_n 1, 1) := by decide +kernel
theorem dX1_pointsOf_3 : decode cX1_pointsOf 3 = .ok (.iload_n 2, 1) := by decide +kernel
theorem dX1_pointsOf_4 : decode cX1_pointsOf 4 = .ok (.invokevirtual 86, 3) := by decide +kernel
theorem dX1_pointsOf_7 : decode cX1_pointsOf 7 = .ok (.putfield 26, 3) := by decide +kernel
theorem dX1_pointsOf_10 : decode cX1_pointsOf 10 = .ok (.aload_n 0, 1) := by decide +kernel
theorem dX1_pointsOf_11 : decode cX1_pointsOf 11 = .ok (.getfield 26, 3) := by decide +kernel
theorem dX1_pointsOf_14 : decode cX1_pointsOf 14 = .ok (.ifCond .le 7, 3) := by decide +kernel
theorem dX1_pointsOf_17 : decode cX1_pointsOf 17 = .ok (.iconst 0, 1) := by decide +kernel
theorem dX1_pointsOf_18 : decode cX1_pointsOf 18 = .ok (.goto 9, 3) := by decide +kernel
theorem dX1_pointsOf_21 : decode cX1_pointsOf 21 = .ok (.aload_n 0, 1) := by decide +kernel
theorem dX1_pointsOf_22 : decode cX1_pointsOf 22 = .ok (.iload_n 1, 1) := by decide +kernel
theorem dX1_pointsOf_23 : decode cX1_pointsOf 23 = .ok (.iload_n 2, 1) := by decide +kernel
theorem dX1_pointsOf_24 : decode cX1_pointsOf 24 = .ok (.invokevirtual 44, 3) := by decide +kernel
theorem dX1_pointsOf_27 : decode cX1_pointsOf 27 = .ok (.ireturn, 1) := by decide +kernel
set_option maxRecDepth 20000 in
theorem ggX1_areTogether_X1_wrongPair : GoodIn wsX1_areTogether wsX1_wrongPair := goodIn_r _ [7, 8, 9, 10, 6, 11, 12, 13, 14, 15, 16, 17, 18, 19, 20, 21, 22, 23, 24, 25] (by decide +kernel) (by decide +kernel)
set_option maxRecDepth 20000 in
theorem gX1_areTogether_X1_wrongPair : GoodIn wsX1_areTogether (wsV RX1 86 RX1 yX1_wrongPair wsX1_wrongPair) := goodIn_app (goodIn_of _ (by decide +kernel)) ggX1_areTogether_X1_wrongPair
theorem dX1_areTogether_0 : decode cX1_areTogether 0 = .ok (.aload_n 0, 1) := by decide +kernel
theorem dX1_areTogether_1 : decode cX1_areTogether 1 = .ok (.aload_n 0, 1) := by decide +kernel
theorem dX1_areTogether_2 : decode cX1_areTogether 2 = .ok (.iload_n 1, 1) := by decide +kernel
theorem dX1_areTogether_3 : decode cX1_areTogether 3 = .ok (.iload_n 2, 1) := by decide +kernel
theorem dX1_areTogether_4 : decode cX1_areTogether 4 = .ok (.invokevirtual 86, 3) := by decide +kernel
theorem dX1_areTogether_7 : decode cX1_areTogether 7 = .ok (.putfield 26, 3) := by decide +kernel
theorem dX1_areTogether_10 : decode cX1_areTogether 10 = .ok (.aload_n 0, 1) := by decide +kernel
theorem dX1_areTogether_11 : decode cX1_areTogether 11 = .ok (.getfield 26, 3) := by decide +kernel
theorem dX1_areTogether_14 : decode cX1_areTogether 14 = .ok (.ifCond .ne 22, 3) := by decide +kernel
theorem dX1_areTogether_17 : decode cX1_areTogether 17 = .ok (.aload_n 0, 1) := by decide +kernel
theorem dX1_areTogether_18 : decode cX1_areTogether 18 = .ok (.getfield 16, 3) := by decide +kernel
theorem dX1_areTogether_21 : decode cX1_areTogether 21 = .ok (.iload_n 1, 1) := by decide +kernel
theorem dX1_areTogether_22 : decode cX1_areTogether 22 = .ok (.iaload, 1) := by decide +kernel
theorem dX1_areTogether_23 : decode cX1_areTogether 23 = .ok (.aload_n 0, 1) := by decide +kernel
theorem dX1_areTogether_24 : decode cX1_areTogether 24 = .ok (.getfield 16, 3) := by decide +kernel
theorem dX1_areTogether_27 : decode cX1_areTogether 27 = .ok (.iload_n 2, 1) := by decide +kernel
theorem dX1_areTogether_28 : decode cX1_areTogether 28 = .ok (.iaload, 1) := by decide +kernel
theorem dX1_areTogether_29 : decode cX1_areTogether 29 = .ok (.if_icmp .ne 7, 3) := by decide +kernel
theorem dX1_areTogether_32 : decode cX1_areTogether 32 = .ok (.iconst 1, 1) := by decide +kernel
theorem dX1_areTogether_33 : decode cX1_areTogether 33 = .ok (.goto 4, 3) := by decide +kernel
theorem dX1_areTogether_36 : decode cX1_areTogether 36 = .ok (.iconst 0, 1) := by decide +kernel
theorem dX1_areTogether_37 : decode cX1_areTogether 37 = .ok (.ireturn, 1) := by decide +kernel
set_option maxRecDepth 20000 in
theorem ggX1_areMirrored_X1_wrongPair : GoodIn wsX1_areMirrored wsX1_wrongPair := goodIn_r _ [7, 8, 9, 10, 6, 11, 12, 13, 14, 15, 19, 20, 21, 22, 23, 24, 25, 26, 27, 28] (by decide +kernel) (by decide +kernel)
set_option maxRecDepth 20000 in
theorem gX1_areMirrored_X1_wrongPair : GoodIn wsX1_areMirrored (wsV RX1 86 RX1 yX1_wrongPair wsX1_wrongPair) := goodIn_app (goodIn_of _ (by decide +kernel)) ggX1_areMirrored_X1_wrongPair
set_option maxRecDepth 20000 in
theorem ggX1_areMirrored_X1_isMirror : GoodIn wsX1_areMirrored wsX1_isMirror := goodIn_r _ [18] (by decide +kernel) (by decide +kernel)
set_option maxRecDepth 20000 in
theorem gX1_areMirrored_X1_isMirror : GoodIn wsX1_areMirrored (va_wsS RX1 36 yX1_isMirror wsX1_isMirror) := goodIn_app (goodIn_of _ (by decide +kernel)) ggX1_areMirrored_X1_isMirror
theorem dX1_areMirrored_0 : decode cX1_areMirrored 0 = .ok (.aload_n 0, 1) := by decide +kernel
theorem dX1_areMirrored_1 : decode cX1_areMirrored 1 = .ok (.aload_n 0, 1) := by decide +kernel
theorem dX1_areMirrored_2 : decode cX1_areMirrored 2 = .ok (.iload_n 1, 1) := by decide +kernel
theorem dX1_areMirrored_3 : decode cX1_areMirrored 3 = .ok (.iload_n 2, 1) := by decide +kernel
theorem dX1_areMirrored_4 : decode cX1_areMirrored 4 = .ok (.invokevirtual 86, 3) := by decide +kernel
theorem dX1_areMirrored_7 : decode cX1_areMirrored 7 = .ok (.putfield 26, 3) := by decide +kernel
theorem dX1_areMirrored_10 : decode cX1_areMirrored 10 = .ok (.aload_n 0, 1) := by decide +kernel
theorem dX1_areMirrored_11 : decode cX1_areMirrored 11 = .ok (.getfield 26, 3) := by decide +kernel
theorem dX1_areMirrored_14 : decode cX1_areMirrored 14 = .ok (.ifCond .ne 25, 3) := by decide +kernel
theorem dX1_areMirrored_17 : decode cX1_areMirrored 17 = .ok (.aload_n 0, 1) := by decide +kernel
theorem dX1_areMirrored_18 : decode cX1_areMirrored 18 = .ok (.getfield 9, 3) := by decide +kernel
theorem dX1_areMirrored_21 : decode cX1_areMirrored 21 = .ok (.iload_n 1, 1) := by decide +kernel
theorem dX1_areMirrored_22 : decode cX1_areMirrored 22 = .ok (.iaload, 1) := by decide +kernel
theorem dX1_areMirrored_23 : decode cX1_areMirrored 23 = .ok (.aload_n 0, 1) := by decide +kernel
theorem dX1_areMirrored_24 : decode cX1_areMirrored 24 = .ok (.getfield 9, 3) := by decide +kernel
theorem dX1_areMirrored_27 : decode cX1_areMirrored 27 = .ok (.iload_n 2, 1) := by decide +kernel
theorem dX1_areMirrored_28 : decode cX1_areMirrored 28 = .ok (.iaload, 1) := by decide +kernel
theorem dX1_areMirrored_29 : decode cX1_areMirrored 29 = .ok (.invokestatic 36, 3) := by decide +kernel
theorem dX1_areMirrored_32 : decode cX1_areMirrored 32 = .ok (.ifCond .eq 7, 3) := by decide +kernel
theorem dX1_areMirrored_35 : decode cX1_areMirrored 35 = .ok (.iconst 1, 1) := by decide +kernel
theorem dX1_areMirrored_36 : decode cX1_areMirrored 36 = .ok (.goto 4, 3) := by decide +kernel
theorem dX1_areMirrored_39 : decode cX1_areMirrored 39 = .ok (.iconst 0, 1) := by decide +kernel
theorem dX1_areMirrored_40 : decode cX1_areMirrored 40 = .ok (.ireturn, 1) := by decide +kernel
set_option maxRecDepth 20000 in
theorem ggX1_coincidences_X1_here : GoodIn wsX1_coincidences wsX1_here := goodIn_r _ [5, 6, 7, 8, 4, 9, 10, 11, 12, 13, 14, 15, 16, 17, 18, 19, 20, 21, 22, 23, 24, 25, 31, 32, 33, 34, 35, 36, 37, 38, 39, 40] (by decide +kernel) (by decide +kernel)
set_option maxRecDepth 20000 in
theorem gX1_coincidences_X1_here : GoodIn wsX1_coincidences (wsV RX1 78 RX1 yX1_here wsX1_here) := goodIn_app (goodIn_of _ (by decide +kernel)) ggX1_coincidences_X1_here
set_option maxRecDepth 20000 in
theorem ggX1_coincidences_X1_ok : GoodIn wsX1_coincidences wsX1_ok := goodIn_r _ [29, 30, 31, 32, 33, 34, 35, 36, 37, 38, 39, 40] (by decide +kernel) (by decide +kernel)
set_option maxRecDepth 20000 in
theorem gX1_coincidences_X1_ok : GoodIn wsX1_coincidences (wsV RX1 105 RX1 yX1_ok wsX1_ok) := goodIn_app (goodIn_of _ (by decide +kernel)) ggX1_coincidences_X1_ok
theorem dX1_coincidences_0 : decode cX1_coincidences 0 = .ok (.aload_n 0, 1) := by decide +kernel
theorem dX1_coincidences_1 : decode cX1_coincidences 1 = .ok (.aload_n 0, 1) := by decide +kernel
theorem dX1_coincidences_2 : decode cX1_coincidences 2 = .ok (.invokevirtual 78, 3) := by decide +kernel
theorem dX1_coincidences_5 : decode cX1_coincidences 5 = .ok (.invokevirtual 105, 3) := by decide +kernel
theorem dX1_coincidences_8 : decode cX1_coincidences 8 = .ok (.ireturn, 1) := by decide +kernel
set_option maxRecDepth 20000 in
theorem ggX1_coincidencesAt_X1_isCorner : GoodIn wsX1_coincidencesAt wsX1_isCorner := goodIn_r _ [5, 6, 7, 4, 8] (by decide +kernel) (by decide +kernel)
set_option maxRecDepth 20000 in
theorem gX1_coincidencesAt_X1_isCorner : GoodIn wsX1_coincidencesAt (va_wsS RX1 59 yX1_isCorner wsX1_isCorner) := goodIn_app (goodIn_of _ (by decide +kernel)) ggX1_coincidencesAt_X1_isCorner
set_option maxRecDepth 20000 in
theorem ggX1_coincidencesAt_X1_town : GoodIn wsX1_coincidencesAt wsX1_town := goodIn_r _ [12, 13, 14, 15, 16, 4, 17, 18, 19, 20, 21, 22, 23, 24, 25, 26, 27, 28, 33, 34, 35, 36, 37, 38, 39, 40, 41, 42] (by decide +kernel) (by decide +kernel)
set_option maxRecDepth 20000 in
theorem gX1_coincidencesAt_X1_town : GoodIn wsX1_coincidencesAt (wsV RX1 47 RX1 yX1_town wsX1_town) := goodIn_app (goodIn_of _ (by decide +kernel)) ggX1_coincidencesAt_X1_town
set_option maxRecDepth 20000 in
theorem ggX1_coincidencesAt_X1_no : GoodIn wsX1_coincidencesAt wsX1_no := goodIn_r _ [32, 1, 33, 34, 35, 36, 37, 38, 39, 40, 41, 42] (by decide +kernel) (by decide +kernel)
set_option maxRecDepth 20000 in
theorem gX1_coincidencesAt_X1_no : GoodIn wsX1_coincidencesAt (wsV RX1 63 RX1 yX1_no wsX1_no) := goodIn_app (goodIn_of _ (by decide +kernel)) ggX1_coincidencesAt_X1_no
theorem dX1_coincidencesAt_0 : decode cX1_coincidencesAt 0 = .ok (.aload_n 0, 1) := by decide +kernel
theorem dX1_coincidencesAt_1 : decode cX1_coincidencesAt 1 = .ok (.iconst 0, 1) := by decide +kernel
theorem dX1_coincidencesAt_2 : decode cX1_coincidencesAt 2 = .ok (.putfield 26, 3) := by decide +kernel
theorem dX1_coincidencesAt_5 : decode cX1_coincidencesAt 5 = .ok (.iload_n 1, 1) := by decide +kernel
theorem dX1_coincidencesAt_6 : decode cX1_coincidencesAt 6 = .ok (.invokestatic 59, 3) := by decide +kernel
theorem dX1_coincidencesAt_9 : decode cX1_coincidencesAt 9 = .ok (.ifCond .eq 12, 3) := by decide +kernel
theorem dX1_coincidencesAt_12 : decode cX1_coincidencesAt 12 = .ok (.aload_n 0, 1) := by decide +kernel
theorem dX1_coincidencesAt_13 : decode cX1_coincidencesAt 13 = .ok (.iconst 0, 1) := by decide +kernel
theorem dX1_coincidencesAt_14 : decode cX1_coincidencesAt 14 = .ok (.iload_n 1, 1) := by decide +kernel
theorem dX1_coincidencesAt_15 : decode cX1_coincidencesAt 15 = .ok (.invokevirtual 47, 3) := by decide +kernel
theorem dX1_coincidencesAt_18 : decode cX1_coincidencesAt 18 = .ok (.goto 8, 3) := by decide +kernel
theorem dX1_coincidencesAt_21 : decode cX1_coincidencesAt 21 = .ok (.aload_n 0, 1) := by decide +kernel
theorem dX1_coincidencesAt_22 : decode cX1_coincidencesAt 22 = .ok (.iconst 1, 1) := by decide +kernel
theorem dX1_coincidencesAt_23 : decode cX1_coincidencesAt 23 = .ok (.invokevirtual 63, 3) := by decide +kernel
theorem dX1_coincidencesAt_26 : decode cX1_coincidencesAt 26 = .ok (.ireturn, 1) := by decide +kernel
set_option maxRecDepth 20000 in
theorem ggX1_luckOf_X1_isOne : GoodIn wsX1_luckOf wsX1_isOne := goodIn_r _ [6, 7, 8, 9, 5, 10, 29, 30, 31, 32, 33, 34, 35, 36, 37, 38] (by decide +kernel) (by decide +kernel)
set_option maxRecDepth 20000 in
theorem gX1_luckOf_X1_isOne : GoodIn wsX1_luckOf (wsV RX1 66 RX1 yX1_isOne wsX1_isOne) := goodIn_app (goodIn_of _ (by decide +kernel)) ggX1_luckOf_X1_isOne
set_option maxRecDepth 20000 in
theorem ggX1_luckOf_X1_luck : GoodIn wsX1_luckOf wsX1_luck := goodIn_r _ [14, 7, 15, 16, 17, 18, 5, 19, 20, 21, 22, 23, 24, 29, 30, 31, 32, 33, 34, 35, 36, 37, 38] (by decide +kernel) (by decide +kernel)
set_option maxRecDepth 20000 in
theorem gX1_luckOf_X1_luck : GoodIn wsX1_luckOf (wsV RX1 112 RX1 yX1_luck wsX1_luck) := goodIn_app (goodIn_of _ (by decide +kernel)) ggX1_luckOf_X1_luck
set_option maxRecDepth 20000 in
theorem ggX1_luckOf_X1_no : GoodIn wsX1_luckOf wsX1_no := goodIn_r _ [28, 1, 29, 30, 31, 32, 33, 34, 35, 36, 37, 38] (by decide +kernel) (by decide +kernel)
set_option maxRecDepth 20000 in
theorem gX1_luckOf_X1_no : GoodIn wsX1_luckOf (wsV RX1 63 RX1 yX1_no wsX1_no) := goodIn_app (goodIn_of _ (by decide +kernel)) ggX1_luckOf_X1_no
theorem dX1_luckOf_0 : decode cX1_luckOf 0 = .ok (.aload_n 0, 1) := by decide +kernel
theorem dX1_luckOf_1 : decode cX1_luckOf 1 = .ok (.iconst 0, 1) := by decide +kernel
theorem dX1_luckOf_2 : decode cX1_luckOf 2 = .ok (.putfield 26, 3) := by decide +kernel
theorem dX1_luckOf_5 : decode cX1_luckOf 5 = .ok (.aload_n 0, 1) := by decide +kernel
theorem dX1_luckOf_6 : decode cX1_luckOf 6 = .ok (.iload_n 1, 1) := by decide +kernel
theorem dX1_luckOf_7 : decode cX1_luckOf 7 = .ok (.invokevirtual 66, 3) := by decide +kernel
theorem dX1_luckOf_10 : decode cX1_luckOf 10 = .ok (.ifCond .eq 11, 3) := by decide +kernel
theorem dX1_luckOf_13 : decode cX1_luckOf 13 = .ok (.aload_n 0, 1) := by decide +kernel
theorem dX1_luckOf_14 : decode cX1_luckOf 14 = .ok (.iload_n 1, 1) := by decide +kernel
theorem dX1_luckOf_15 : decode cX1_luckOf 15 = .ok (.invokevirtual 112, 3) := by decide +kernel
theorem dX1_luckOf_18 : decode cX1_luckOf 18 = .ok (.goto 8, 3) := by decide +kernel
theorem dX1_luckOf_21 : decode cX1_luckOf 21 = .ok (.aload_n 0, 1) := by decide +kernel
theorem dX1_luckOf_22 : decode cX1_luckOf 22 = .ok (.iconst 1, 1) := by decide +kernel
theorem dX1_luckOf_23 : decode cX1_luckOf 23 = .ok (.invokevirtual 63, 3) := by decide +kernel
theorem dX1_luckOf_26 : decode cX1_luckOf 26 = .ok (.ireturn, 1) := by decide +kernel
set_option maxRecDepth 20000 in
theorem ggX1_luckiest_X1_points : GoodIn wsX1_luckiest wsX1_points := goodIn_r _ [6, 7, 8, 9, 10, 5, 11, 12, 13, 14, 15, 16, 17, 18, 19, 20, 21] (by decide +kernel) (by decide +kernel)
set_option maxRecDepth 20000 in
theorem gX1_luckiest_X1_points : GoodIn wsX1_luckiest (wsV RX1 44 RX1 yX1_points wsX1_points) := goodIn_app (goodIn_of _ (by decide +kernel)) ggX1_luckiest_X1_points
theorem dX1_luckiest_0 : decode cX1_luckiest 0 = .ok (.iconst (-1), 1) := by decide +kernel
theorem dX1_luckiest_1 : decode cX1_luckiest 1 = .ok (.istore_n 1, 1) := by decide +kernel
theorem dX1_luckiest_2 : decode cX1_luckiest 2 = .ok (.iconst (-1), 1) := by decide +kernel
theorem dX1_luckiest_3 : decode cX1_luckiest 3 = .ok (.istore_n 2, 1) := by decide +kernel
theorem dX1_luckiest_4 : decode cX1_luckiest 4 = .ok (.iconst 0, 1) := by decide +kernel
theorem dX1_luckiest_5 : decode cX1_luckiest 5 = .ok (.istore_n 3, 1) := by decide +kernel
theorem dX1_luckiest_6 : decode cX1_luckiest 6 = .ok (.iload_n 3, 1) := by decide +kernel
theorem dX1_luckiest_7 : decode cX1_luckiest 7 = .ok (.aload_n 0, 1) := by decide +kernel
theorem dX1_luckiest_8 : decode cX1_luckiest 8 = .ok (.getfield 29, 3) := by decide +kernel
theorem dX1_luckiest_11 : decode cX1_luckiest 11 = .ok (.if_icmp .ge 59, 3) := by decide +kernel
theorem dX1_luckiest_14 : decode cX1_luckiest 14 = .ok (.iload_n 3, 1) := by decide +kernel
theorem dX1_luckiest_15 : decode cX1_luckiest 15 = .ok (.iconst 1, 1) := by decide +kernel
theorem dX1_luckiest_16 : decode cX1_luckiest 16 = .ok (.iadd, 1) := by decide +kernel
theorem dX1_luckiest_17 : decode cX1_luckiest 17 = .ok (.istore 4, 2) := by decide +kernel
theorem dX1_luckiest_19 : decode cX1_luckiest 19 = .ok (.iload 4, 2) := by decide +kernel
theorem dX1_luckiest_21 : decode cX1_luckiest 21 = .ok (.aload_n 0, 1) := by decide +kernel
theorem dX1_luckiest_22 : decode cX1_luckiest 22 = .ok (.getfield 29, 3) := by decide +kernel
theorem dX1_luckiest_25 : decode cX1_luckiest 25 = .ok (.if_icmp .ge 39, 3) := by decide +kernel
theorem dX1_luckiest_28 : decode cX1_luckiest 28 = .ok (.aload_n 0, 1) := by decide +kernel
theorem dX1_luckiest_29 : decode cX1_luckiest 29 = .ok (.iload_n 3, 1) := by decide +kernel
theorem dX1_luckiest_30 : decode cX1_luckiest 30 = .ok (.iload 4, 2) := by decide +kernel
theorem dX1_luckiest_32 : decode cX1_luckiest 32 = .ok (.invokevirtual 44, 3) := by decide +kernel
theorem dX1_luckiest_35 : decode cX1_luckiest 35 = .ok (.iload_n 2, 1) := by decide +kernel
theorem dX1_luckiest_36 : decode cX1_luckiest 36 = .ok (.if_icmp .gt 6, 3) := by decide +kernel
theorem dX1_luckiest_39 : decode cX1_luckiest 39 = .ok (.goto 19, 3) := by decide +kernel
theorem dX1_luckiest_42 : decode cX1_luckiest 42 = .ok (.aload_n 0, 1) := by decide +kernel
theorem dX1_luckiest_43 : decode cX1_luckiest 43 = .ok (.iload_n 3, 1) := by decide +kernel
theorem dX1_luckiest_44 : decode cX1_luckiest 44 = .ok (.iload 4, 2) := by decide +kernel
theorem dX1_luckiest_46 : decode cX1_luckiest 46 = .ok (.invokevirtual 44, 3) := by decide +kernel
theorem dX1_luckiest_49 : decode cX1_luckiest 49 = .ok (.istore_n 2, 1) := by decide +kernel
theorem dX1_luckiest_50 : decode cX1_luckiest 50 = .ok (.bipush 100, 2) := by decide +kernel
theorem dX1_luckiest_52 : decode cX1_luckiest 52 = .ok (.iload_n 3, 1) := by decide +kernel
theorem dX1_luckiest_53 : decode cX1_luckiest 53 = .ok (.imul, 1) := by decide +kernel
theorem dX1_luckiest_54 : decode cX1_luckiest 54 = .ok (.iload 4, 2) := by decide +kernel
theorem dX1_luckiest_56 : decode cX1_luckiest 56 = .ok (.iadd, 1) := by decide +kernel
theorem dX1_luckiest_57 : decode cX1_luckiest 57 = .ok (.istore_n 1, 1) := by decide +kernel
theorem dX1_luckiest_58 : decode cX1_luckiest 58 = .ok (.iinc 4 1, 3) := by decide +kernel
theorem dX1_luckiest_61 : decode cX1_luckiest 61 = .ok (.goto (-42), 3) := by decide +kernel
theorem dX1_luckiest_64 : decode cX1_luckiest 64 = .ok (.iinc 3 1, 3) := by decide +kernel
theorem dX1_luckiest_67 : decode cX1_luckiest 67 = .ok (.goto (-61), 3) := by decide +kernel
theorem dX1_luckiest_70 : decode cX1_luckiest 70 = .ok (.iload_n 1, 1) := by decide +kernel
theorem dX1_luckiest_71 : decode cX1_luckiest 71 = .ok (.ireturn, 1) := by decide +kernel
set_option maxRecDepth 20000 in
theorem ggX1_luckiestPair_X1_luckiest : GoodIn wsX1_luckiestPair wsX1_luckiest := goodIn_r _ [5, 6, 7, 8, 9, 4, 10, 11, 12, 13, 14, 15, 21, 22, 23, 24, 25, 26, 27, 28, 29, 30] (by decide +kernel) (by decide +kernel)
set_option maxRecDepth 20000 in
theorem gX1_luckiestPair_X1_luckiest : GoodIn wsX1_luckiestPair (wsV RX1 115 RX1 yX1_luckiest wsX1_luckiest) := goodIn_app (goodIn_of _ (by decide +kernel)) ggX1_luckiestPair_X1_luckiest
set_option maxRecDepth 20000 in
theorem ggX1_luckiestPair_X1_ok : GoodIn wsX1_luckiestPair wsX1_ok := goodIn_r _ [19, 20, 21, 22, 23, 24, 25, 26, 27, 28, 29, 30] (by decide +kernel) (by decide +kernel)
set_option maxRecDepth 20000 in
theorem gX1_luckiestPair_X1_ok : GoodIn wsX1_luckiestPair (wsV RX1 105 RX1 yX1_ok wsX1_ok) := goodIn_app (goodIn_of _ (by decide +kernel)) ggX1_luckiestPair_X1_ok
theorem dX1_luckiestPair_0 : decode cX1_luckiestPair 0 = .ok (.aload_n 0, 1) := by decide +kernel
theorem dX1_luckiestPair_1 : decode cX1_luckiestPair 1 = .ok (.aload_n 0, 1) := by decide +kernel
theorem dX1_luckiestPair_2 : decode cX1_luckiestPair 2 = .ok (.invokevirtual 115, 3) := by decide +kernel
theorem dX1_luckiestPair_5 : decode cX1_luckiestPair 5 = .ok (.invokevirtual 105, 3) := by decide +kernel
theorem dX1_luckiestPair_8 : decode cX1_luckiestPair 8 = .ok (.ireturn, 1) := by decide +kernel
set_option maxRecDepth 20000 in
theorem ggX1_coincidencesIn_X1_isIn : GoodIn wsX1_coincidencesIn wsX1_isIn := goodIn_r _ [5] (by decide +kernel) (by decide +kernel)
set_option maxRecDepth 20000 in
theorem gX1_coincidencesIn_X1_isIn : GoodIn wsX1_coincidencesIn (va_wsS RX1 32 yX1_isIn wsX1_isIn) := goodIn_app (goodIn_of _ (by decide +kernel)) ggX1_coincidencesIn_X1_isIn
set_option maxRecDepth 20000 in
theorem ggX1_coincidencesIn_X1_town : GoodIn wsX1_coincidencesIn wsX1_town := goodIn_r _ [9, 10, 11, 12, 13, 4, 14, 15, 16, 17, 18, 19, 20, 21, 22, 23, 24, 25, 30, 31, 32, 33, 34, 35, 36, 37, 38, 39] (by decide +kernel) (by decide +kernel)
set_option maxRecDepth 20000 in
theorem gX1_coincidencesIn_X1_town : GoodIn wsX1_coincidencesIn (wsV RX1 47 RX1 yX1_town wsX1_town) := goodIn_app (goodIn_of _ (by decide +kernel)) ggX1_coincidencesIn_X1_town
set_option maxRecDepth 20000 in
theorem ggX1_coincidencesIn_X1_no : GoodIn wsX1_coincidencesIn wsX1_no := goodIn_r _ [29, 1, 30, 31, 32, 33, 34, 35, 36, 37, 38, 39] (by decide +kernel) (by decide +kernel)
set_option maxRecDepth 20000 in
theorem gX1_coincidencesIn_X1_no : GoodIn wsX1_coincidencesIn (wsV RX1 63 RX1 yX1_no wsX1_no) := goodIn_app (goodIn_of _ (by decide +kernel)) ggX1_coincidencesIn_X1_no
theorem dX1_coincidencesIn_0 : decode cX1_coincidencesIn 0 = .ok (.aload_n 0, 1) := by decide +kernel
theorem dX1_coincidencesIn_1 : decode cX1_coincidencesIn 1 = .ok (.iconst 0, 1) := by decide +kernel
theorem dX1_coincidencesIn_2 : decode cX1_coincidencesIn 2 = .ok (.putfield 26, 3) := by decide +kernel
theorem dX1_coincidencesIn_5 : decode cX1_coincidencesIn 5 = .ok (.iload_n 1, 1) := by decide +kernel
theorem dX1_coincidencesIn_6 : decode cX1_coincidencesIn 6 = .ok (.iconst 0, 1) := by decide +kernel
theorem dX1_coincidencesIn_7 : decode cX1_coincidencesIn 7 = .ok (.bipush 60, 2) := by decide +kernel
theorem dX1_coincidencesIn_9 : decode cX1_coincidencesIn 9 = .ok (.invokestatic 32, 3) := by decide +kernel
theorem dX1_coincidencesIn_12 : decode cX1_coincidencesIn 12 = .ok (.ifCond .eq 12, 3) := by decide +kernel
theorem dX1_coincidencesIn_15 : decode cX1_coincidencesIn 15 = .ok (.aload_n 0, 1) := by decide +kernel
theorem dX1_coincidencesIn_16 : decode cX1_coincidencesIn 16 = .ok (.iload_n 1, 1) := by decide +kernel
theorem dX1_coincidencesIn_17 : decode cX1_coincidencesIn 17 = .ok (.iconst (-1), 1) := by decide +kernel
theorem dX1_coincidencesIn_18 : decode cX1_coincidencesIn 18 = .ok (.invokevirtual 47, 3) := by decide +kernel
theorem dX1_coincidencesIn_21 : decode cX1_coincidencesIn 21 = .ok (.goto 8, 3) := by decide +kernel
theorem dX1_coincidencesIn_24 : decode cX1_coincidencesIn 24 = .ok (.aload_n 0, 1) := by decide +kernel
theorem dX1_coincidencesIn_25 : decode cX1_coincidencesIn 25 = .ok (.iconst 1, 1) := by decide +kernel
theorem dX1_coincidencesIn_26 : decode cX1_coincidencesIn 26 = .ok (.invokevirtual 63, 3) := by decide +kernel
theorem dX1_coincidencesIn_29 : decode cX1_coincidencesIn 29 = .ok (.ireturn, 1) := by decide +kernel
set_option maxRecDepth 20000 in
theorem ggX1_untilTogether_X1_cornerIn : GoodIn wsX1_untilTogether wsX1_cornerIn := goodIn_r _ [5, 6, 7, 8, 9, 10, 11, 12, 13, 14, 15, 16, 17] (by decide +kernel) (by decide +kernel)
set_option maxRecDepth 20000 in
theorem gX1_untilTogether_X1_cornerIn : GoodIn wsX1_untilTogether (wsV RX1 40 RX1 yX1_cornerIn wsX1_cornerIn) := goodIn_app (goodIn_of _ (by decide +kernel)) ggX1_untilTogether_X1_cornerIn
theorem dX1_untilTogether_0 : decode cX1_untilTogether 0 = .ok (.iconst 0, 1) := by decide +kernel
theorem dX1_untilTogether_1 : decode cX1_untilTogether 1 = .ok (.istore_n 3, 1) := by decide +kernel
theorem dX1_untilTogether_2 : decode cX1_untilTogether 2 = .ok (.iload_n 3, 1) := by decide +kernel
theorem dX1_untilTogether_3 : decode cX1_untilTogether 3 = .ok (.bipush 6, 2) := by decide +kernel
theorem dX1_untilTogether_5 : decode cX1_untilTogether 5 = .ok (.if_icmp .ge 26, 3) := by decide +kernel
theorem dX1_untilTogether_8 : decode cX1_untilTogether 8 = .ok (.aload_n 0, 1) := by decide +kernel
theorem dX1_untilTogether_9 : decode cX1_untilTogether 9 = .ok (.iload_n 1, 1) := by decide +kernel
theorem dX1_untilTogether_10 : decode cX1_untilTogether 10 = .ok (.iload_n 3, 1) := by decide +kernel
theorem dX1_untilTogether_11 : decode cX1_untilTogether 11 = .ok (.invokevirtual 40, 3) := by decide +kernel
theorem dX1_untilTogether_14 : decode cX1_untilTogether 14 = .ok (.aload_n 0, 1) := by decide +kernel
theorem dX1_untilTogether_15 : decode cX1_untilTogether 15 = .ok (.iload_n 2, 1) := by decide +kernel
theorem dX1_untilTogether_16 : decode cX1_untilTogether 16 = .ok (.iload_n 3, 1) := by decide +kernel
theorem dX1_untilTogether_17 : decode cX1_untilTogether 17 = .ok (.invokevirtual 40, 3) := by decide +kernel
theorem dX1_untilTogether_20 : decode cX1_untilTogether 20 = .ok (.if_icmp .ne 5, 3) := by decide +kernel
theorem dX1_untilTogether_23 : decode cX1_untilTogether 23 = .ok (.iload_n 3, 1) := by decide +kernel
theorem dX1_untilTogether_24 : decode cX1_untilTogether 24 = .ok (.ireturn, 1) := by decide +kernel
theorem dX1_untilTogether_25 : decode cX1_untilTogether 25 = .ok (.iinc 3 1, 3) := by decide +kernel
theorem dX1_untilTogether_28 : decode cX1_untilTogether 28 = .ok (.goto (-26), 3) := by decide +kernel
theorem dX1_untilTogether_31 : decode cX1_untilTogether 31 = .ok (.iconst (-1), 1) := by decide +kernel
theorem dX1_untilTogether_32 : decode cX1_untilTogether 32 = .ok (.ireturn, 1) := by decide +kernel
set_option maxRecDepth 20000 in
theorem ggX1_hoursUntilTogether_X1_wrongPair : GoodIn wsX1_hoursUntilTogether wsX1_wrongPair := goodIn_r _ [6, 7, 8, 9, 5, 10, 11, 12, 13, 14, 25, 26, 27, 28, 29, 30, 31, 32, 33, 34] (by decide +kernel) (by decide +kernel)
set_option maxRecDepth 20000 in
theorem gX1_hoursUntilTogether_X1_wrongPair : GoodIn wsX1_hoursUntilTogether (wsV RX1 86 RX1 yX1_wrongPair wsX1_wrongPair) := goodIn_app (goodIn_of _ (by decide +kernel)) ggX1_hoursUntilTogether_X1_wrongPair
set_option maxRecDepth 20000 in
theorem ggX1_hoursUntilTogether_X1_untilTogether : GoodIn wsX1_hoursUntilTogether wsX1_untilTogether := goodIn_r _ [18, 19, 20, 21, 5, 22, 23, 24, 25, 26, 27, 28, 29, 30, 31, 32, 33, 34] (by decide +kernel) (by decide +kernel)
set_option maxRecDepth 20000 in
theorem gX1_hoursUntilTogether_X1_untilTogether : GoodIn wsX1_hoursUntilTogether (wsV RX1 118 RX1 yX1_untilTogether wsX1_untilTogether) := goodIn_app (goodIn_of _ (by decide +kernel)) ggX1_hoursUntilTogether_X1_untilTogether
theorem dX1_hoursUntilTogether_0 : decode cX1_hoursUntilTogether 0 = .ok (.aload_n 0, 1) := by decide +kernel
theorem dX1_hoursUntilTogether_1 : decode cX1_hoursUntilTogether 1 = .ok (.aload_n 0, 1) := by decide +kernel
theorem dX1_hoursUntilTogether_2 : decode cX1_hoursUntilTogether 2 = .ok (.iload_n 1, 1) := by decide +kernel
theorem dX1_hoursUntilTogether_3 : decode cX1_hoursUntilTogether 3 = .ok (.iload_n 2, 1) := by decide +kernel
theorem dX1_hoursUntilTogether_4 : decode cX1_hoursUntilTogether 4 = .ok (.invokevirtual 86, 3) := by decide +kernel
theorem dX1_hoursUntilTogether_7 : decode cX1_hoursUntilTogether 7 = .ok (.putfield 26, 3) := by decide +kernel
theorem dX1_hoursUntilTogether_10 : decode cX1_hoursUntilTogether 10 = .ok (.aload_n 0, 1) := by decide +kernel
theorem dX1_hoursUntilTogether_11 : decode cX1_hoursUntilTogether 11 = .ok (.getfield 26, 3) := by decide +kernel
theorem dX1_hoursUntilTogether_14 : decode cX1_hoursUntilTogether 14 = .ok (.ifCond .le 7, 3) := by decide +kernel
theorem dX1_hoursUntilTogether_17 : decode cX1_hoursUntilTogether 17 = .ok (.iconst 0, 1) := by decide +kernel
theorem dX1_hoursUntilTogether_18 : decode cX1_hoursUntilTogether 18 = .ok (.goto 9, 3) := by decide +kernel
theorem dX1_hoursUntilTogether_21 : decode cX1_hoursUntilTogether 21 = .ok (.aload_n 0, 1) := by decide +kernel
theorem dX1_hoursUntilTogether_22 : decode cX1_hoursUntilTogether 22 = .ok (.iload_n 1, 1) := by decide +kernel
theorem dX1_hoursUntilTogether_23 : decode cX1_hoursUntilTogether 23 = .ok (.iload_n 2, 1) := by decide +kernel
theorem dX1_hoursUntilTogether_24 : decode cX1_hoursUntilTogether 24 = .ok (.invokevirtual 118, 3) := by decide +kernel
theorem dX1_hoursUntilTogether_27 : decode cX1_hoursUntilTogether 27 = .ok (.ireturn, 1) := by decide +kernel
set_option maxRecDepth 20000 in
theorem ggX1_costOfMeeting_X1_wrongPair : GoodIn wsX1_costOfMeeting wsX1_wrongPair := goodIn_r _ [7, 8, 9, 10, 6, 11, 12, 13, 14, 15, 26, 27, 28, 29, 30, 31, 32, 33, 34, 35] (by decide +kernel) (by decide +kernel)
set_option maxRecDepth 20000 in
theorem gX1_costOfMeeting_X1_wrongPair : GoodIn wsX1_costOfMeeting (wsV RX1 86 RX1 yX1_wrongPair wsX1_wrongPair) := goodIn_app (goodIn_of _ (by decide +kernel)) ggX1_costOfMeeting_X1_wrongPair
set_option maxRecDepth 20000 in
theorem ggX1_costOfMeeting_X1_apart : GoodIn wsX1_costOfMeeting wsX1_apart := goodIn_r _ [18, 19, 20, 21, 22, 23, 24, 25] (by decide +kernel) (by decide +kernel)
set_option maxRecDepth 20000 in
theorem gX1_costOfMeeting_X1_apart : GoodIn wsX1_costOfMeeting (va_wsS RX1 72 yX1_apart wsX1_apart) := goodIn_app (goodIn_of _ (by decide +kernel)) ggX1_costOfMeeting_X1_apart
theorem dX1_costOfMeeting_0 : decode cX1_costOfMeeting 0 = .ok (.aload_n 0, 1) := by decide +kernel
theorem dX1_costOfMeeting_1 : decode cX1_costOfMeeting 1 = .ok (.aload_n 0, 1) := by decide +kernel
theorem dX1_costOfMeeting_2 : decode cX1_costOfMeeting 2 = .ok (.iload_n 1, 1) := by decide +kernel
theorem dX1_costOfMeeting_3 : decode cX1_costOfMeeting 3 = .ok (.iload_n 2, 1) := by decide +kernel
theorem dX1_costOfMeeting_4 : decode cX1_costOfMeeting 4 = .ok (.invokevirtual 86, 3) := by decide +kernel
theorem dX1_costOfMeeting_7 : decode cX1_costOfMeeting 7 = .ok (.putfield 26, 3) := by decide +kernel
theorem dX1_costOfMeeting_10 : decode cX1_costOfMeeting 10 = .ok (.aload_n 0, 1) := by decide +kernel
theorem dX1_costOfMeeting_11 : decode cX1_costOfMeeting 11 = .ok (.getfield 26, 3) := by decide +kernel
theorem dX1_costOfMeeting_14 : decode cX1_costOfMeeting 14 = .ok (.ifCond .le 7, 3) := by decide +kernel
theorem dX1_costOfMeeting_17 : decode cX1_costOfMeeting 17 = .ok (.iconst 0, 1) := by decide +kernel
theorem dX1_costOfMeeting_18 : decode cX1_costOfMeeting 18 = .ok (.goto 20, 3) := by decide +kernel
theorem dX1_costOfMeeting_21 : decode cX1_costOfMeeting 21 = .ok (.iconst 2, 1) := by decide +kernel
theorem dX1_costOfMeeting_22 : decode cX1_costOfMeeting 22 = .ok (.aload_n 0, 1) := by decide +kernel
theorem dX1_costOfMeeting_23 : decode cX1_costOfMeeting 23 = .ok (.getfield 16, 3) := by decide +kernel
theorem dX1_costOfMeeting_26 : decode cX1_costOfMeeting 26 = .ok (.iload_n 1, 1) := by decide +kernel
theorem dX1_costOfMeeting_27 : decode cX1_costOfMeeting 27 = .ok (.iaload, 1) := by decide +kernel
theorem dX1_costOfMeeting_28 : decode cX1_costOfMeeting 28 = .ok (.aload_n 0, 1) := by decide +kernel
theorem dX1_costOfMeeting_29 : decode cX1_costOfMeeting 29 = .ok (.getfield 16, 3) := by decide +kernel
theorem dX1_costOfMeeting_32 : decode cX1_costOfMeeting 32 = .ok (.iload_n 2, 1) := by decide +kernel
theorem dX1_costOfMeeting_33 : decode cX1_costOfMeeting 33 = .ok (.iaload, 1) := by decide +kernel
theorem dX1_costOfMeeting_34 : decode cX1_costOfMeeting 34 = .ok (.invokestatic 72, 3) := by decide +kernel
theorem dX1_costOfMeeting_37 : decode cX1_costOfMeeting 37 = .ok (.imul, 1) := by decide +kernel
theorem dX1_costOfMeeting_38 : decode cX1_costOfMeeting 38 = .ok (.ireturn, 1) := by decide +kernel
set_option maxRecDepth 20000 in
theorem ggX1_hourOfMost_X1_town : GoodIn wsX1_hourOfMost wsX1_town := goodIn_r _ [5, 6, 7, 8, 9, 4, 10, 11, 12, 13, 14, 15, 16, 17, 18, 19, 20, 21, 22, 23, 24, 25, 26, 27, 28, 29, 30, 31] (by decide +kernel) (by decide +kernel)
set_option maxRecDepth 20000 in
theorem gX1_hourOfMost_X1_town : GoodIn wsX1_hourOfMost (wsV RX1 47 RX1 yX1_town wsX1_town) := goodIn_app (goodIn_of _ (by decide +kernel)) ggX1_hourOfMost_X1_town
theorem dX1_hourOfMost_0 : decode cX1_hourOfMost 0 = .ok (.iconst 1, 1) := by decide +kernel
theorem dX1_hourOfMost_1 : decode cX1_hourOfMost 1 = .ok (.istore_n 1, 1) := by decide +kernel
theorem dX1_hourOfMost_2 : decode cX1_hourOfMost 2 = .ok (.iconst 2, 1) := by decide +kernel
theorem dX1_hourOfMost_3 : decode cX1_hourOfMost 3 = .ok (.istore_n 2, 1) := by decide +kernel
theorem dX1_hourOfMost_4 : decode cX1_hourOfMost 4 = .ok (.iload_n 2, 1) := by decide +kernel
theorem dX1_hourOfMost_5 : decode cX1_hourOfMost 5 = .ok (.bipush 6, 2) := by decide +kernel
theorem dX1_hourOfMost_7 : decode cX1_hourOfMost 7 = .ok (.if_icmp .gt 26, 3) := by decide +kernel
theorem dX1_hourOfMost_10 : decode cX1_hourOfMost 10 = .ok (.aload_n 0, 1) := by decide +kernel
theorem dX1_hourOfMost_11 : decode cX1_hourOfMost 11 = .ok (.iload_n 2, 1) := by decide +kernel
theorem dX1_hourOfMost_12 : decode cX1_hourOfMost 12 = .ok (.iconst (-1), 1) := by decide +kernel
theorem dX1_hourOfMost_13 : decode cX1_hourOfMost 13 = .ok (.invokevirtual 47, 3) := by decide +kernel
theorem dX1_hourOfMost_16 : decode cX1_hourOfMost 16 = .ok (.aload_n 0, 1) := by decide +kernel
theorem dX1_hourOfMost_17 : decode cX1_hourOfMost 17 = .ok (.iload_n 1, 1) := by decide +kernel
theorem dX1_hourOfMost_18 : decode cX1_hourOfMost 18 = .ok (.iconst (-1), 1) := by decide +kernel
theorem dX1_hourOfMost_19 : decode cX1_hourOfMost 19 = .ok (.invokevirtual 47, 3) := by decide +kernel
theorem dX1_hourOfMost_22 : decode cX1_hourOfMost 22 = .ok (.if_icmp .le 5, 3) := by decide +kernel
theorem dX1_hourOfMost_25 : decode cX1_hourOfMost 25 = .ok (.iload_n 2, 1) := by decide +kernel
theorem dX1_hourOfMost_26 : decode cX1_hourOfMost 26 = .ok (.istore_n 1, 1) := by decide +kernel
theorem dX1_hourOfMost_27 : decode cX1_hourOfMost 27 = .ok (.iinc 2 1, 3) := by decide +kernel
theorem dX1_hourOfMost_30 : decode cX1_hourOfMost 30 = .ok (.goto (-26), 3) := by decide +kernel
theorem dX1_hourOfMost_33 : decode cX1_hourOfMost 33 = .ok (.iload_n 1, 1) := by decide +kernel
theorem dX1_hourOfMost_34 : decode cX1_hourOfMost 34 = .ok (.ireturn, 1) := by decide +kernel
set_option maxRecDepth 20000 in
theorem ggX1_bestHour_X1_hourOfMost : GoodIn wsX1_bestHour wsX1_hourOfMost := goodIn_r _ [5, 6, 7, 8, 4, 9, 10, 11, 12, 13, 14, 15, 16, 17, 18, 19, 20, 21, 22, 23, 24, 25, 31, 32, 33, 34, 35, 36, 37, 38, 39, 40] (by decide +kernel) (by decide +kernel)
set_option maxRecDepth 20000 in
theorem gX1_bestHour_X1_hourOfMost : GoodIn wsX1_bestHour (wsV RX1 121 RX1 yX1_hourOfMost wsX1_hourOfMost) := goodIn_app (goodIn_of _ (by decide +kernel)) ggX1_bestHour_X1_hourOfMost
set_option maxRecDepth 20000 in
theorem ggX1_bestHour_X1_ok : GoodIn wsX1_bestHour wsX1_ok := goodIn_r _ [29, 30, 31, 32, 33, 34, 35, 36, 37, 38, 39, 40] (by decide +kernel) (by decide +kernel)
set_option maxRecDepth 20000 in
theorem gX1_bestHour_X1_ok : GoodIn wsX1_bestHour (wsV RX1 105 RX1 yX1_ok wsX1_ok) := goodIn_app (goodIn_of _ (by decide +kernel)) ggX1_bestHour_X1_ok
theorem dX1_bestHour_0 : decode cX1_bestHour 0 = .ok (.aload_n 0, 1) := by decide +kernel
theorem dX1_bestHour_1 : decode cX1_bestHour 1 = .ok (.aload_n 0, 1) := by decide +kernel
theorem dX1_bestHour_2 : decode cX1_bestHour 2 = .ok (.invokevirtual 121, 3) := by decide +kernel
theorem dX1_bestHour_5 : decode cX1_bestHour 5 = .ok (.invokevirtual 105, 3) := by decide +kernel
theorem dX1_bestHour_8 : decode cX1_bestHour 8 = .ok (.ireturn, 1) := by decide +kernel
set_option maxRecDepth 20000 in
theorem ggX1_bestOf_X1_here : GoodIn wsX1_bestOf wsX1_here := goodIn_r _ [5, 6, 7, 8, 4, 9, 10, 11, 12, 13, 14, 15, 16, 17, 18, 19, 20, 21, 22, 23, 24, 25, 26, 27, 28, 29, 30, 31, 32, 33, 34, 35] (by decide +kernel) (by decide +kernel)
set_option maxRecDepth 20000 in
theorem gX1_bestOf_X1_here : GoodIn wsX1_bestOf (wsV RX1 78 RX1 yX1_here wsX1_here) := goodIn_app (goodIn_of _ (by decide +kernel)) ggX1_bestOf_X1_here
theorem dX1_bestOf_0 : decode cX1_bestOf 0 = .ok (.aload_n 1, 1) := by decide +kernel
theorem dX1_bestOf_1 : decode cX1_bestOf 1 = .ok (.iload_n 2, 1) := by decide +kernel
theorem dX1_bestOf_2 : decode cX1_bestOf 2 = .ok (.iaload, 1) := by decide +kernel
theorem dX1_bestOf_3 : decode cX1_bestOf 3 = .ok (.istore 4, 2) := by decide +kernel
theorem dX1_bestOf_5 : decode cX1_bestOf 5 = .ok (.iconst 0, 1) := by decide +kernel
theorem dX1_bestOf_6 : decode cX1_bestOf 6 = .ok (.istore 5, 2) := by decide +kernel
theorem dX1_bestOf_8 : decode cX1_bestOf 8 = .ok (.iconst (-1), 1) := by decide +kernel
theorem dX1_bestOf_9 : decode cX1_bestOf 9 = .ok (.istore 6, 2) := by decide +kernel
theorem dX1_bestOf_11 : decode cX1_bestOf 11 = .ok (.iconst 0, 1) := by decide +kernel
theorem dX1_bestOf_12 : decode cX1_bestOf 12 = .ok (.istore 7, 2) := by decide +kernel
theorem dX1_bestOf_14 : decode cX1_bestOf 14 = .ok (.iload 7, 2) := by decide +kernel
theorem dX1_bestOf_16 : decode cX1_bestOf 16 = .ok (.iload_n 3, 1) := by decide +kernel
theorem dX1_bestOf_17 : decode cX1_bestOf 17 = .ok (.if_icmp .ge 38, 3) := by decide +kernel
theorem dX1_bestOf_20 : decode cX1_bestOf 20 = .ok (.aload_n 1, 1) := by decide +kernel
theorem dX1_bestOf_21 : decode cX1_bestOf 21 = .ok (.iload_n 2, 1) := by decide +kernel
theorem dX1_bestOf_22 : decode cX1_bestOf 22 = .ok (.iload 7, 2) := by decide +kernel
theorem dX1_bestOf_24 : decode cX1_bestOf 24 = .ok (.iastore, 1) := by decide +kernel
theorem dX1_bestOf_25 : decode cX1_bestOf 25 = .ok (.aload_n 0, 1) := by decide +kernel
theorem dX1_bestOf_26 : decode cX1_bestOf 26 = .ok (.invokevirtual 78, 3) := by decide +kernel
theorem dX1_bestOf_29 : decode cX1_bestOf 29 = .ok (.istore 8, 2) := by decide +kernel
theorem dX1_bestOf_31 : decode cX1_bestOf 31 = .ok (.iload 8, 2) := by decide +kernel
theorem dX1_bestOf_33 : decode cX1_bestOf 33 = .ok (.iload 6, 2) := by decide +kernel
theorem dX1_bestOf_35 : decode cX1_bestOf 35 = .ok (.if_icmp .gt 6, 3) := by decide +kernel
theorem dX1_bestOf_38 : decode cX1_bestOf 38 = .ok (.goto 11, 3) := by decide +kernel
theorem dX1_bestOf_41 : decode cX1_bestOf 41 = .ok (.iload 8, 2) := by decide +kernel
theorem dX1_bestOf_43 : decode cX1_bestOf 43 = .ok (.istore 6, 2) := by decide +kernel
theorem dX1_bestOf_45 : decode cX1_bestOf 45 = .ok (.iload 7, 2) := by decide +kernel
theorem dX1_bestOf_47 : decode cX1_bestOf 47 = .ok (.istore 5, 2) := by decide +kernel
theorem dX1_bestOf_49 : decode cX1_bestOf 49 = .ok (.iinc 7 1, 3) := by decide +kernel
theorem dX1_bestOf_52 : decode cX1_bestOf 52 = .ok (.goto (-38), 3) := by decide +kernel
theorem dX1_bestOf_55 : decode cX1_bestOf 55 = .ok (.aload_n 1, 1) := by decide +kernel
theorem dX1_bestOf_56 : decode cX1_bestOf 56 = .ok (.iload_n 2, 1) := by decide +kernel
theorem dX1_bestOf_57 : decode cX1_bestOf 57 = .ok (.iload 4, 2) := by decide +kernel
theorem dX1_bestOf_59 : decode cX1_bestOf 59 = .ok (.iastore, 1) := by decide +kernel
theorem dX1_bestOf_60 : decode cX1_bestOf 60 = .ok (.iload 5, 2) := by decide +kernel
theorem dX1_bestOf_62 : decode cX1_bestOf 62 = .ok (.ireturn, 1) := by decide +kernel
set_option maxRecDepth 20000 in
theorem ggX1_bestCorner_X1_isOne : GoodIn wsX1_bestCorner wsX1_isOne := goodIn_r _ [7, 8, 9, 10, 6, 11, 42, 43, 44, 45, 46, 47, 48, 49, 50, 51] (by decide +kernel) (by decide +kernel)
set_option maxRecDepth 20000 in
theorem gX1_bestCorner_X1_isOne : GoodIn wsX1_bestCorner (wsV RX1 66 RX1 yX1_isOne wsX1_isOne) := goodIn_app (goodIn_of _ (by decide +kernel)) ggX1_bestCorner_X1_isOne
set_option maxRecDepth 20000 in
theorem ggX1_bestCorner_X1_bestOf : GoodIn wsX1_bestCorner wsX1_bestOf := goodIn_r _ [15, 16, 17, 18, 6, 19, 20, 21, 22, 23, 8, 24, 25, 26, 27, 2, 28, 29, 30, 31, 32, 33, 34, 35, 36, 37, 42, 43, 44, 45, 46, 47, 48, 49, 50, 51] (by decide +kernel) (by decide +kernel)
set_option maxRecDepth 20000 in
theorem gX1_bestCorner_X1_bestOf : GoodIn wsX1_bestCorner (wsV RX1 124 RX1 yX1_bestOf wsX1_bestOf) := goodIn_app (goodIn_of _ (by decide +kernel)) ggX1_bestCorner_X1_bestOf
set_option maxRecDepth 20000 in
theorem ggX1_bestCorner_X1_no : GoodIn wsX1_bestCorner wsX1_no := goodIn_r _ [41, 1, 42, 43, 44, 45, 46, 47, 48, 49, 50, 51] (by decide +kernel) (by decide +kernel)
set_option maxRecDepth 20000 in
theorem gX1_bestCorner_X1_no : GoodIn wsX1_bestCorner (wsV RX1 63 RX1 yX1_no wsX1_no) := goodIn_app (goodIn_of _ (by decide +kernel)) ggX1_bestCorner_X1_no
theorem dX1_bestCorner_0 : decode cX1_bestCorner 0 = .ok (.aload_n 0, 1) := by decide +kernel
theorem dX1_bestCorner_1 : decode cX1_bestCorner 1 = .ok (.iconst 0, 1) := by decide +kernel
theorem dX1_bestCorner_2 : decode cX1_bestCorner 2 = .ok (.putfield 26, 3) := by decide +kernel
theorem dX1_bestCorner_5 : decode cX1_bestCorner 5 = .ok (.aload_n 0, 1) := by decide +kernel
theorem dX1_bestCorner_6 : decode cX1_bestCorner 6 = .ok (.iload_n 1, 1) := by decide +kernel
theorem dX1_bestCorner_7 : decode cX1_bestCorner 7 = .ok (.invokevirtual 66, 3) := by decide +kernel
theorem dX1_bestCorner_10 : decode cX1_bestCorner 10 = .ok (.ifCond .eq 17, 3) := by decide +kernel
theorem dX1_bestCorner_13 : decode cX1_bestCorner 13 = .ok (.aload_n 0, 1) := by decide +kernel
theorem dX1_bestCorner_14 : decode cX1_bestCorner 14 = .ok (.aload_n 0, 1) := by decide +kernel
theorem dX1_bestCorner_15 : decode cX1_bestCorner 15 = .ok (.getfield 16, 3) := by decide +kernel
theorem dX1_bestCorner_18 : decode cX1_bestCorner 18 = .ok (.iload_n 1, 1) := by decide +kernel
theorem dX1_bestCorner_19 : decode cX1_bestCorner 19 = .ok (.bipush 6, 2) := by decide +kernel
theorem dX1_bestCorner_21 : decode cX1_bestCorner 21 = .ok (.invokevirtual 124, 3) := by decide +kernel
theorem dX1_bestCorner_24 : decode cX1_bestCorner 24 = .ok (.goto 8, 3) := by decide +kernel
theorem dX1_bestCorner_27 : decode cX1_bestCorner 27 = .ok (.aload_n 0, 1) := by decide +kernel
theorem dX1_bestCorner_28 : decode cX1_bestCorner 28 = .ok (.iconst 1, 1) := by decide +kernel
theorem dX1_bestCorner_29 : decode cX1_bestCorner 29 = .ok (.invokevirtual 63, 3) := by decide +kernel
theorem dX1_bestCorner_32 : decode cX1_bestCorner 32 = .ok (.ireturn, 1) := by decide +kernel
set_option maxRecDepth 20000 in
theorem ggX1_swapOfMost_X1_here : GoodIn wsX1_swapOfMost wsX1_here := goodIn_r _ [7, 8, 9, 10, 6, 11, 1, 12, 13, 14, 15, 16, 17, 18, 19, 20, 21, 2, 22, 23, 24, 25, 29, 30, 31, 32, 33, 34, 35, 36, 37, 38] (by decide +kernel) (by decide +kernel)
set_option maxRecDepth 20000 in
theorem gX1_swapOfMost_X1_here : GoodIn wsX1_swapOfMost (wsV RX1 78 RX1 yX1_here wsX1_here) := goodIn_app (goodIn_of _ (by decide +kernel)) ggX1_swapOfMost_X1_here
set_option maxRecDepth 20000 in
theorem ggX1_swapOfMost_X1_swap : GoodIn wsX1_swapOfMost wsX1_swap := goodIn_r _ [28] (by decide +kernel) (by decide +kernel)
set_option maxRecDepth 20000 in
theorem gX1_swapOfMost_X1_swap : GoodIn wsX1_swapOfMost (va_wsS RX1 82 yX1_swap wsX1_swap) := goodIn_app (goodIn_of _ (by decide +kernel)) ggX1_swapOfMost_X1_swap
theorem dX1_swapOfMost_0 : decode cX1_swapOfMost 0 = .ok (.iconst (-1), 1) := by decide +kernel
theorem dX1_swapOfMost_1 : decode cX1_swapOfMost 1 = .ok (.istore_n 1, 1) := by decide +kernel
theorem dX1_swapOfMost_2 : decode cX1_swapOfMost 2 = .ok (.aload_n 0, 1) := by decide +kernel
theorem dX1_swapOfMost_3 : decode cX1_swapOfMost 3 = .ok (.invokevirtual 78, 3) := by decide +kernel
theorem dX1_swapOfMost_6 : decode cX1_swapOfMost 6 = .ok (.istore_n 2, 1) := by decide +kernel
theorem dX1_swapOfMost_7 : decode cX1_swapOfMost 7 = .ok (.iconst 0, 1) := by decide +kernel
theorem dX1_swapOfMost_8 : decode cX1_swapOfMost 8 = .ok (.istore_n 3, 1) := by decide +kernel
theorem dX1_swapOfMost_9 : decode cX1_swapOfMost 9 = .ok (.iload_n 3, 1) := by decide +kernel
theorem dX1_swapOfMost_10 : decode cX1_swapOfMost 10 = .ok (.aload_n 0, 1) := by decide +kernel
theorem dX1_swapOfMost_11 : decode cX1_swapOfMost 11 = .ok (.getfield 29, 3) := by decide +kernel
theorem dX1_swapOfMost_14 : decode cX1_swapOfMost 14 = .ok (.if_icmp .ge 75, 3) := by decide +kernel
theorem dX1_swapOfMost_17 : decode cX1_swapOfMost 17 = .ok (.iload_n 3, 1) := by decide +kernel
theorem dX1_swapOfMost_18 : decode cX1_swapOfMost 18 = .ok (.iconst 1, 1) := by decide +kernel
theorem dX1_swapOfMost_19 : decode cX1_swapOfMost 19 = .ok (.iadd, 1) := by decide +kernel
theorem dX1_swapOfMost_20 : decode cX1_swapOfMost 20 = .ok (.istore 4, 2) := by decide +kernel
theorem dX1_swapOfMost_22 : decode cX1_swapOfMost 22 = .ok (.iload 4, 2) := by decide +kernel
theorem dX1_swapOfMost_24 : decode cX1_swapOfMost 24 = .ok (.aload_n 0, 1) := by decide +kernel
theorem dX1_swapOfMost_25 : decode cX1_swapOfMost 25 = .ok (.getfield 29, 3) := by decide +kernel
theorem dX1_swapOfMost_28 : decode cX1_swapOfMost 28 = .ok (.if_icmp .ge 55, 3) := by decide +kernel
theorem dX1_swapOfMost_31 : decode cX1_swapOfMost 31 = .ok (.aload_n 0, 1) := by decide +kernel
theorem dX1_swapOfMost_32 : decode cX1_swapOfMost 32 = .ok (.getfield 9, 3) := by decide +kernel
theorem dX1_swapOfMost_35 : decode cX1_swapOfMost 35 = .ok (.iload_n 3, 1) := by decide +kernel
theorem dX1_swapOfMost_36 : decode cX1_swapOfMost 36 = .ok (.iload 4, 2) := by decide +kernel
theorem dX1_swapOfMost_38 : decode cX1_swapOfMost 38 = .ok (.invokestatic 82, 3) := by decide +kernel
theorem dX1_swapOfMost_41 : decode cX1_swapOfMost 41 = .ok (.aload_n 0, 1) := by decide +kernel
theorem dX1_swapOfMost_42 : decode cX1_swapOfMost 42 = .ok (.invokevirtual 78, 3) := by decide +kernel
theorem dX1_swapOfMost_45 : decode cX1_swapOfMost 45 = .ok (.istore 5, 2) := by decide +kernel
theorem dX1_swapOfMost_47 : decode cX1_swapOfMost 47 = .ok (.aload_n 0, 1) := by decide +kernel
theorem dX1_swapOfMost_48 : decode cX1_swapOfMost 48 = .ok (.getfield 9, 3) := by decide +kernel
theorem dX1_swapOfMost_51 : decode cX1_swapOfMost 51 = .ok (.iload_n 3, 1) := by decide +kernel
theorem dX1_swapOfMost_52 : decode cX1_swapOfMost 52 = .ok (.iload 4, 2) := by decide +kernel
theorem dX1_swapOfMost_54 : decode cX1_swapOfMost 54 = .ok (.invokestatic 82, 3) := by decide +kernel
theorem dX1_swapOfMost_57 : decode cX1_swapOfMost 57 = .ok (.iload 5, 2) := by decide +kernel
theorem dX1_swapOfMost_59 : decode cX1_swapOfMost 59 = .ok (.iload_n 2, 1) := by decide +kernel
theorem dX1_swapOfMost_60 : decode cX1_swapOfMost 60 = .ok (.if_icmp .gt 6, 3) := by decide +kernel
theorem dX1_swapOfMost_63 : decode cX1_swapOfMost 63 = .ok (.goto 14, 3) := by decide +kernel
theorem dX1_swapOfMost_66 : decode cX1_swapOfMost 66 = .ok (.iload 5, 2) := by decide +kernel
theorem dX1_swapOfMost_68 : decode cX1_swapOfMost 68 = .ok (.istore_n 2, 1) := by decide +kernel
theorem dX1_swapOfMost_69 : decode cX1_swapOfMost 69 = .ok (.bipush 100, 2) := by decide +kernel
theorem dX1_swapOfMost_71 : decode cX1_swapOfMost 71 = .ok (.iload_n 3, 1) := by decide +kernel
theorem dX1_swapOfMost_72 : decode cX1_swapOfMost 72 = .ok (.imul, 1) := by decide +kernel
theorem dX1_swapOfMost_73 : decode cX1_swapOfMost 73 = .ok (.iload 4, 2) := by decide +kernel
theorem dX1_swapOfMost_75 : decode cX1_swapOfMost 75 = .ok (.iadd, 1) := by decide +kernel
theorem dX1_swapOfMost_76 : decode cX1_swapOfMost 76 = .ok (.istore_n 1, 1) := by decide +kernel
theorem dX1_swapOfMost_77 : decode cX1_swapOfMost 77 = .ok (.iinc 4 1, 3) := by decide +kernel
theorem dX1_swapOfMost_80 : decode cX1_swapOfMost 80 = .ok (.goto (-58), 3) := by decide +kernel
theorem dX1_swapOfMost_83 : decode cX1_swapOfMost 83 = .ok (.iinc 3 1, 3) := by decide +kernel
theorem dX1_swapOfMost_86 : decode cX1_swapOfMost 86 = .ok (.goto (-77), 3) := by decide +kernel
theorem dX1_swapOfMost_89 : decode cX1_swapOfMost 89 = .ok (.iload_n 1, 1) := by decide +kernel
theorem dX1_swapOfMost_90 : decode cX1_swapOfMost 90 = .ok (.ireturn, 1) := by decide +kernel
set_option maxRecDepth 20000 in
theorem ggX1_bestSwap_X1_swapOfMost : GoodIn wsX1_bestSwap wsX1_swapOfMost := goodIn_r _ [5, 6, 7, 8, 9, 10, 4, 11, 12, 13, 14, 15, 16, 17, 18, 19, 20, 21, 22, 23, 24, 25, 26, 27, 28, 29, 30, 31, 32, 38, 39, 40, 41, 42, 43, 44, 45, 46, 47] (by decide +kernel) (by decide +kernel)
set_option maxRecDepth 20000 in
theorem gX1_bestSwap_X1_swapOfMost : GoodIn wsX1_bestSwap (wsV RX1 127 RX1 yX1_swapOfMost wsX1_swapOfMost) := goodIn_app (goodIn_of _ (by decide +kernel)) ggX1_bestSwap_X1_swapOfMost
set_option maxRecDepth 20000 in
theorem ggX1_bestSwap_X1_ok : GoodIn wsX1_bestSwap wsX1_ok := goodIn_r _ [36, 37, 38, 39, 40, 41, 42, 43, 44, 45, 46, 47] (by decide +kernel) (by decide +kernel)
set_option maxRecDepth 20000 in
theorem gX1_bestSwap_X1_ok : GoodIn wsX1_bestSwap (wsV RX1 105 RX1 yX1_ok wsX1_ok) := goodIn_app (goodIn_of _ (by decide +kernel)) ggX1_bestSwap_X1_ok
theorem dX1_bestSwap_0 : decode cX1_bestSwap 0 = .ok (.aload_n 0, 1) := by decide +kernel
theorem dX1_bestSwap_1 : decode cX1_bestSwap 1 = .ok (.aload_n 0, 1) := by decide +kernel
theorem dX1_bestSwap_2 : decode cX1_bestSwap 2 = .ok (.invokevirtual 127, 3) := by decide +kernel
theorem dX1_bestSwap_5 : decode cX1_bestSwap 5 = .ok (.invokevirtual 105, 3) := by decide +kernel
theorem dX1_bestSwap_8 : decode cX1_bestSwap 8 = .ok (.ireturn, 1) := by decide +kernel
set_option maxRecDepth 20000 in
theorem ggX1_bestTicket_X1_isOne : GoodIn wsX1_bestTicket wsX1_isOne := goodIn_r _ [7, 8, 9, 10, 6, 11, 42, 43, 44, 45, 46, 47, 48, 49, 50, 51] (by decide +kernel) (by decide +kernel)
set_option maxRecDepth 20000 in
theorem gX1_bestTicket_X1_isOne : GoodIn wsX1_bestTicket (wsV RX1 66 RX1 yX1_isOne wsX1_isOne) := goodIn_app (goodIn_of _ (by decide +kernel)) ggX1_bestTicket_X1_isOne
set_option maxRecDepth 20000 in
theorem ggX1_bestTicket_X1_bestOf : GoodIn wsX1_bestTicket wsX1_bestOf := goodIn_r _ [15, 16, 17, 18, 6, 19, 20, 21, 22, 23, 8, 24, 25, 26, 27, 28, 29, 30, 31, 32, 33, 2, 34, 35, 36, 37, 42, 43, 44, 45, 46, 47, 48, 49, 50, 51] (by decide +kernel) (by decide +kernel)
set_option maxRecDepth 20000 in
theorem gX1_bestTicket_X1_bestOf : GoodIn wsX1_bestTicket (wsV RX1 124 RX1 yX1_bestOf wsX1_bestOf) := goodIn_app (goodIn_of _ (by decide +kernel)) ggX1_bestTicket_X1_bestOf
set_option maxRecDepth 20000 in
theorem ggX1_bestTicket_X1_no : GoodIn wsX1_bestTicket wsX1_no := goodIn_r _ [41, 1, 42, 43, 44, 45, 46, 47, 48, 49, 50, 51] (by decide +kernel) (by decide +kernel)
set_option maxRecDepth 20000 in
theorem gX1_bestTicket_X1_no : GoodIn wsX1_bestTicket (wsV RX1 63 RX1 yX1_no wsX1_no) := goodIn_app (goodIn_of _ (by decide +kernel)) ggX1_bestTicket_X1_no
theorem dX1_bestTicket_0 : decode cX1_bestTicket 0 = .ok (.aload_n 0, 1) := by decide +kernel
theorem dX1_bestTicket_1 : decode cX1_bestTicket 1 = .ok (.iconst 0, 1) := by decide +kernel
theorem dX1_bestTicket_2 : decode cX1_bestTicket 2 = .ok (.putfield 26, 3) := by decide +kernel
theorem dX1_bestTicket_5 : decode cX1_bestTicket 5 = .ok (.aload_n 0, 1) := by decide +kernel
theorem dX1_bestTicket_6 : decode cX1_bestTicket 6 = .ok (.iload_n 1, 1) := by decide +kernel
theorem dX1_bestTicket_7 : decode cX1_bestTicket 7 = .ok (.invokevirtual 66, 3) := by decide +kernel
theorem dX1_bestTicket_10 : decode cX1_bestTicket 10 = .ok (.ifCond .eq 17, 3) := by decide +kernel
theorem dX1_bestTicket_13 : decode cX1_bestTicket 13 = .ok (.aload_n 0, 1) := by decide +kernel
theorem dX1_bestTicket_14 : decode cX1_bestTicket 14 = .ok (.aload_n 0, 1) := by decide +kernel
theorem dX1_bestTicket_15 : decode cX1_bestTicket 15 = .ok (.getfield 9, 3) := by decide +kernel
theorem dX1_bestTicket_18 : decode cX1_bestTicket 18 = .ok (.iload_n 1, 1) := by decide +kernel
theorem dX1_bestTicket_19 : decode cX1_bestTicket 19 = .ok (.bipush 100, 2) := by decide +kernel
theorem dX1_bestTicket_21 : decode cX1_bestTicket 21 = .ok (.invokevirtual 124, 3) := by decide +kernel
theorem dX1_bestTicket_24 : decode cX1_bestTicket 24 = .ok (.goto 8, 3) := by decide +kernel
theorem dX1_bestTicket_27 : decode cX1_bestTicket 27 = .ok (.aload_n 0, 1) := by decide +kernel
theorem dX1_bestTicket_28 : decode cX1_bestTicket 28 = .ok (.iconst 1, 1) := by decide +kernel
theorem dX1_bestTicket_29 : decode cX1_bestTicket 29 = .ok (.invokevirtual 63, 3) := by decide +kernel
theorem dX1_bestTicket_32 : decode cX1_bestTicket 32 = .ok (.ireturn, 1) := by decide +kernel
set_option maxRecDepth 20000 in
theorem ggX1_meanLuck_X1_here : GoodIn wsX1_meanLuck wsX1_here := goodIn_r _ [7, 8, 9, 10, 6, 11, 2, 12, 13, 14, 15, 16, 17, 18, 19, 20, 21, 22, 23, 24, 25, 26, 27, 28, 29, 30, 31, 32, 33, 34, 35, 36] (by decide +kernel) (by decide +kernel)
set_option maxRecDepth 20000 in
theorem gX1_meanLuck_X1_here : GoodIn wsX1_meanLuck (wsV RX1 78 RX1 yX1_here wsX1_here) := goodIn_app (goodIn_of _ (by decide +kernel)) ggX1_meanLuck_X1_here
theorem dX1_meanLuck_0 : decode cX1_meanLuck 0 = .ok (.aload_n 0, 1) := by decide +kernel
theorem dX1_meanLuck_1 : decode cX1_meanLuck 1 = .ok (.iconst 0, 1) := by decide +kernel
theorem dX1_meanLuck_2 : decode cX1_meanLuck 2 = .ok (.putfield 26, 3) := by decide +kernel
theorem dX1_meanLuck_5 : decode cX1_meanLuck 5 = .ok (.aload_n 0, 1) := by decide +kernel
theorem dX1_meanLuck_6 : decode cX1_meanLuck 6 = .ok (.getfield 29, 3) := by decide +kernel
theorem dX1_meanLuck_9 : decode cX1_meanLuck 9 = .ok (.ifCond .ne 7, 3) := by decide +kernel
theorem dX1_meanLuck_12 : decode cX1_meanLuck 12 = .ok (.dconst 0, 1) := by decide +kernel
theorem dX1_meanLuck_13 : decode cX1_meanLuck 13 = .ok (.goto 16, 3) := by decide +kernel
theorem dX1_meanLuck_16 : decode cX1_meanLuck 16 = .ok (.iconst 2, 1) := by decide +kernel
theorem dX1_meanLuck_17 : decode cX1_meanLuck 17 = .ok (.aload_n 0, 1) := by decide +kernel
theorem dX1_meanLuck_18 : decode cX1_meanLuck 18 = .ok (.invokevirtual 78, 3) := by decide +kernel
theorem dX1_meanLuck_21 : decode cX1_meanLuck 21 = .ok (.imul, 1) := by decide +kernel
theorem dX1_meanLuck_22 : decode cX1_meanLuck 22 = .ok (.i2d, 1) := by decide +kernel
theorem dX1_meanLuck_23 : decode cX1_meanLuck 23 = .ok (.aload_n 0, 1) := by decide +kernel
theorem dX1_meanLuck_24 : decode cX1_meanLuck 24 = .ok (.getfield 29, 3) := by decide +kernel
theorem dX1_meanLuck_27 : decode cX1_meanLuck 27 = .ok (.i2d, 1) := by decide +kernel
theorem dX1_meanLuck_28 : decode cX1_meanLuck 28 = .ok (.ddiv, 1) := by decide +kernel
theorem dX1_meanLuck_29 : decode cX1_meanLuck 29 = .ok (.dreturn, 1) := by decide +kernel
set_option maxRecDepth 20000 in
theorem ggX1_digest_X1_here : GoodIn wsX1_digest wsX1_here := goodIn_r _ [18, 19, 20, 21, 17, 22, 3, 23, 24, 25, 26, 12, 13, 27, 28, 29, 30, 10, 11, 31, 32, 33, 61, 62, 63, 64, 65, 66, 67, 68, 69, 70] (by decide +kernel) (by decide +kernel)
set_option maxRecDepth 20000 in
theorem gX1_digest_X1_here : GoodIn wsX1_digest (wsV RX1 78 RX1 yX1_here wsX1_here) := goodIn_app (goodIn_of _ (by decide +kernel)) ggX1_digest_X1_here
set_option maxRecDepth 20000 in
theorem ggX1_digest_X1_luckiest : GoodIn wsX1_digest wsX1_luckiest := goodIn_r _ [37, 3, 27, 28, 29, 17, 30, 10, 11, 31, 32, 33, 61, 62, 63, 64, 65, 66, 67, 68, 69, 70] (by decide +kernel) (by decide +kernel)
set_option maxRecDepth 20000 in
theorem gX1_digest_X1_luckiest : GoodIn wsX1_digest (wsV RX1 115 RX1 yX1_luckiest wsX1_luckiest) := goodIn_app (goodIn_of _ (by decide +kernel)) ggX1_digest_X1_luckiest
set_option maxRecDepth 20000 in
theorem ggX1_digest_X1_hourOfMost : GoodIn wsX1_digest wsX1_hourOfMost := goodIn_r _ [41, 19, 20, 21, 17, 22, 3, 23, 24, 25, 26, 12, 13, 27, 28, 29, 30, 10, 11, 31, 32, 33, 61, 62, 63, 64, 65, 66, 67, 68, 69, 70] (by decide +kernel) (by decide +kernel)
set_option maxRecDepth 20000 in
theorem gX1_digest_X1_hourOfMost : GoodIn wsX1_digest (wsV RX1 121 RX1 yX1_hourOfMost wsX1_hourOfMost) := goodIn_app (goodIn_of _ (by decide +kernel)) ggX1_digest_X1_hourOfMost
set_option maxRecDepth 20000 in
theorem ggX1_digest_X1_swapOfMost : GoodIn wsX1_digest wsX1_swapOfMost := goodIn_r _ [45, 3, 10, 14, 15, 16, 17, 18, 19, 20, 21, 22, 23, 24, 25, 26, 12, 13, 27, 28, 29, 30, 11, 31, 32, 33, 46, 47, 48, 61, 62, 63, 64, 65, 66, 67, 68, 69, 70] (by decide +kernel) (by decide +kernel)
set_option maxRecDepth 20000 in
theorem gX1_digest_X1_swapOfMost : GoodIn wsX1_digest (wsV RX1 127 RX1 yX1_swapOfMost wsX1_swapOfMost) := goodIn_app (goodIn_of _ (by decide +kernel)) ggX1_digest_X1_swapOfMost
set_option maxRecDepth 20000 in
theorem ggX1_digest_X1_at : GoodIn wsX1_digest wsX1_at := goodIn_r _ [52, 3, 12, 61, 62, 63, 64, 65, 66, 67, 68, 69, 70] (by decide +kernel) (by decide +kernel)
set_option maxRecDepth 20000 in
theorem gX1_digest_X1_at : GoodIn wsX1_digest (wsV RX1 96 RX1 yX1_at wsX1_at) := goodIn_app (goodIn_of _ (by decide +kernel)) ggX1_digest_X1_at
set_option maxRecDepth 20000 in
theorem ggX1_digest_X1_town : GoodIn wsX1_digest wsX1_town := goodIn_r _ [22, 3, 23, 24, 25, 17, 26, 12, 13, 27, 28, 29, 30, 10, 11, 31, 32, 33, 61, 62, 63, 64, 65, 66, 67, 68, 69, 70] (by decide +kernel) (by decide +kernel)
set_option maxRecDepth 20000 in
theorem gX1_digest_X1_town : GoodIn wsX1_digest (wsV RX1 47 RX1 yX1_town wsX1_town) := goodIn_app (goodIn_of _ (by decide +kernel)) ggX1_digest_X1_town
set_option maxRecDepth 20000 in
theorem ggX1_digest_X1_luck : GoodIn wsX1_digest wsX1_luck := goodIn_r _ [56, 3, 12, 27, 28, 29, 17, 30, 10, 11, 31, 32, 33, 61, 62, 63, 64, 65, 66, 67, 68, 69, 70] (by decide +kernel) (by decide +kernel)
set_option maxRecDepth 20000 in
theorem gX1_digest_X1_luck : GoodIn wsX1_digest (wsV RX1 112 RX1 yX1_luck wsX1_luck) := goodIn_app (goodIn_of _ (by decide +kernel)) ggX1_digest_X1_luck
set_option maxRecDepth 20000 in
theorem ggX1_digest_X1_bestOf : GoodIn wsX1_digest wsX1_bestOf := goodIn_r _ [60, 14, 15, 16, 17, 18, 19, 20, 21, 22, 3, 23, 24, 25, 26, 12, 13, 27, 28, 29, 30, 10, 11, 31, 32, 33, 61, 62, 63, 64, 65, 66, 67, 68, 69, 70] (by decide +kernel) (by decide +kernel)
set_option maxRecDepth 20000 in
theorem gX1_digest_X1_bestOf : GoodIn wsX1_digest (wsV RX1 124 RX1 yX1_bestOf wsX1_bestOf) := goodIn_app (goodIn_of _ (by decide +kernel)) ggX1_digest_X1_bestOf
theorem dX1_digest_0 : decode cX1_digest 0 = .ok (.aload_n 0, 1) := by decide +kernel
theorem dX1_digest_1 : decode cX1_digest 1 = .ok (.iconst 0, 1) := by decide +kernel
theorem dX1_digest_2 : decode cX1_digest 2 = .ok (.putfield 26, 3) := by decide +kernel
theorem dX1_digest_5 : decode cX1_digest 5 = .ok (.bipush 9, 2) := by decide +kernel
theorem dX1_digest_7 : decode cX1_digest 7 = .ok (.newarray .int, 2) := by decide +kernel
theorem dX1_digest_9 : decode cX1_digest 9 = .ok (.dup, 1) := by decide +kernel
theorem dX1_digest_10 : decode cX1_digest 10 = .ok (.iconst 0, 1) := by decide +kernel
theorem dX1_digest_11 : decode cX1_digest 11 = .ok (.aload_n 0, 1) := by decide +kernel
theorem dX1_digest_12 : decode cX1_digest 12 = .ok (.getfield 29, 3) := by decide +kernel
theorem dX1_digest_15 : decode cX1_digest 15 = .ok (.iastore, 1) := by decide +kernel
theorem dX1_digest_16 : decode cX1_digest 16 = .ok (.dup, 1) := by decide +kernel
theorem dX1_digest_17 : decode cX1_digest 17 = .ok (.iconst 1, 1) := by decide +kernel
theorem dX1_digest_18 : decode cX1_digest 18 = .ok (.aload_n 0, 1) := by decide +kernel
theorem dX1_digest_19 : decode cX1_digest 19 = .ok (.getfield 99, 3) := by decide +kernel
theorem dX1_digest_22 : decode cX1_digest 22 = .ok (.iastore, 1) := by decide +kernel
theorem dX1_digest_23 : decode cX1_digest 23 = .ok (.dup, 1) := by decide +kernel
theorem dX1_digest_24 : decode cX1_digest 24 = .ok (.iconst 2, 1) := by decide +kernel
theorem dX1_digest_25 : decode cX1_digest 25 = .ok (.aload_n 0, 1) := by decide +kernel
theorem dX1_digest_26 : decode cX1_digest 26 = .ok (.getfield 22, 3) := by decide +kernel
theorem dX1_digest_29 : decode cX1_digest 29 = .ok (.iastore, 1) := by decide +kernel
theorem dX1_digest_30 : decode cX1_digest 30 = .ok (.dup, 1) := by decide +kernel
theorem dX1_digest_31 : decode cX1_digest 31 = .ok (.iconst 3, 1) := by decide +kernel
theorem dX1_digest_32 : decode cX1_digest 32 = .ok (.aload_n 0, 1) := by decide +kernel
theorem dX1_digest_33 : decode cX1_digest 33 = .ok (.getfield 93, 3) := by decide +kernel
theorem dX1_digest_36 : decode cX1_digest 36 = .ok (.iastore, 1) := by decide +kernel
theorem dX1_digest_37 : decode cX1_digest 37 = .ok (.dup, 1) := by decide +kernel
theorem dX1_digest_38 : decode cX1_digest 38 = .ok (.iconst 4, 1) := by decide +kernel
theorem dX1_digest_39 : decode cX1_digest 39 = .ok (.aload_n 0, 1) := by decide +kernel
theorem dX1_digest_40 : decode cX1_digest 40 = .ok (.getfield 69, 3) := by decide +kernel
theorem dX1_digest_43 : decode cX1_digest 43 = .ok (.iastore, 1) := by decide +kernel
theorem dX1_digest_44 : decode cX1_digest 44 = .ok (.dup, 1) := by decide +kernel
theorem dX1_digest_45 : decode cX1_digest 45 = .ok (.iconst 5, 1) := by decide +kernel
theorem dX1_digest_46 : decode cX1_digest 46 = .ok (.aload_n 0, 1) := by decide +kernel
theorem dX1_digest_47 : decode cX1_digest 47 = .ok (.invokevirtual 78, 3) := by decide +kernel
theorem dX1_digest_50 : decode cX1_digest 50 = .ok (.iastore, 1) := by decide +kernel
theorem dX1_digest_51 : decode cX1_digest 51 = .ok (.dup, 1) := by decide +kernel
theorem dX1_digest_52 : decode cX1_digest 52 = .ok (.bipush 6, 2) := by decide +kernel
theorem dX1_digest_54 : decode cX1_digest 54 = .ok (.aload_n 0, 1) := by decide +kernel
theorem dX1_digest_55 : decode cX1_digest 55 = .ok (.invokevirtual 115, 3) := by decide +kernel
theorem dX1_digest_58 : decode cX1_digest 58 = .ok (.iastore, 1) := by decide +kernel
theorem dX1_digest_59 : decode cX1_digest 59 = .ok (.dup, 1) := by decide +kernel
theorem dX1_digest_60 : decode cX1_digest 60 = .ok (.bipush 7, 2) := by decide +kernel
theorem dX1_digest_62 : decode cX1_digest 62 = .ok (.aload_n 0, 1) := by decide +kernel
theorem dX1_digest_63 : decode cX1_digest 63 = .ok (.invokevirtual 121, 3) := by decide +kernel
theorem dX1_digest_66 : decode cX1_digest 66 = .ok (.iastore, 1) := by decide +kernel
theorem dX1_digest_67 : decode cX1_digest 67 = .ok (.dup, 1) := by decide +kernel
theorem dX1_digest_68 : decode cX1_digest 68 = .ok (.bipush 8, 2) := by decide +kernel
theorem dX1_digest_70 : decode cX1_digest 70 = .ok (.aload_n 0, 1) := by decide +kernel
theorem dX1_digest_71 : decode cX1_digest 71 = .ok (.invokevirtual 127, 3) := by decide +kernel
theorem dX1_digest_74 : decode cX1_digest 74 = .ok (.iastore, 1) := by decide +kernel
theorem dX1_digest_75 : decode cX1_digest 75 = .ok (.astore_n 1, 1) := by decide +kernel
theorem dX1_digest_76 : decode cX1_digest 76 = .ok (.ldc2_w 130, 3) := by decide +kernel
theorem dX1_digest_79 : decode cX1_digest 79 = .ok (.lstore_n 2, 1) := by decide +kernel
theorem dX1_digest_80 : decode cX1_digest 80 = .ok (.aload_n 1, 1) := by decide +kernel
theorem dX1_digest_81 : decode cX1_digest 81 = .ok (.astore 4, 2) := by decide +kernel
theorem dX1_digest_83 : decode cX1_digest 83 = .ok (.aload 4, 2) := by decide +kernel
theorem dX1_digest_85 : decode cX1_digest 85 = .ok (.arraylength, 1) := by decide +kernel
theorem dX1_digest_86 : decode cX1_digest 86 = .ok (.istore 5, 2) := by decide +kernel
theorem dX1_digest_88 : decode cX1_digest 88 = .ok (.iconst 0, 1) := by decide +kernel
theorem dX1_digest_89 : decode cX1_digest 89 = .ok (.istore 6, 2) := by decide +kernel
theorem dX1_digest_91 : decode cX1_digest 91 = .ok (.iload 6, 2) := by decide +kernel
theorem dX1_digest_93 : decode cX1_digest 93 = .ok (.iload 5, 2) := by decide +kernel
theorem dX1_digest_95 : decode cX1_digest 95 = .ok (.if_icmp .ge 26, 3) := by decide +kernel
theorem dX1_digest_98 : decode cX1_digest 98 = .ok (.aload 4, 2) := by decide +kernel
theorem dX1_digest_100 : decode cX1_digest 100 = .ok (.iload 6, 2) := by decide +kernel
theorem dX1_digest_102 : decode cX1_digest 102 = .ok (.iaload, 1) := by decide +kernel
theorem dX1_digest_103 : decode cX1_digest 103 = .ok (.istore 7, 2) := by decide +kernel
theorem dX1_digest_105 : decode cX1_digest 105 = .ok (.lload_n 2, 1) := by decide +kernel
theorem dX1_digest_106 : decode cX1_digest 106 = .ok (.ldc2_w 132, 3) := by decide +kernel
theorem dX1_digest_109 : decode cX1_digest 109 = .ok (.lmul, 1) := by decide +kernel
theorem dX1_digest_110 : decode cX1_digest 110 = .ok (.iload 7, 2) := by decide +kernel
theorem dX1_digest_112 : decode cX1_digest 112 = .ok (.i2l, 1) := by decide +kernel
theorem dX1_digest_113 : decode cX1_digest 113 = .ok (.ladd, 1) := by decide +kernel
theorem dX1_digest_114 : decode cX1_digest 114 = .ok (.lstore_n 2, 1) := by decide +kernel
theorem dX1_digest_115 : decode cX1_digest 115 = .ok (.iinc 6 1, 3) := by decide +kernel
theorem dX1_digest_118 : decode cX1_digest 118 = .ok (.goto (-27), 3) := by decide +kernel
theorem dX1_digest_121 : decode cX1_digest 121 = .ok (.iconst 0, 1) := by decide +kernel
theorem dX1_digest_122 : decode cX1_digest 122 = .ok (.istore 4, 2) := by decide +kernel
theorem dX1_digest_124 : decode cX1_digest 124 = .ok (.iload 4, 2) := by decide +kernel
theorem dX1_digest_126 : decode cX1_digest 126 = .ok (.bipush 6, 2) := by decide +kernel
theorem dX1_digest_128 : decode cX1_digest 128 = .ok (.if_icmp .ge 36, 3) := by decide +kernel
theorem dX1_digest_131 : decode cX1_digest 131 = .ok (.lload_n 2, 1) := by decide +kernel
theorem dX1_digest_132 : decode cX1_digest 132 = .ok (.ldc2_w 132, 3) := by decide +kernel
theorem dX1_digest_135 : decode cX1_digest 135 = .ok (.lmul, 1) := by decide +kernel
theorem dX1_digest_136 : decode cX1_digest 136 = .ok (.aload_n 0, 1) := by decide +kernel
theorem dX1_digest_137 : decode cX1_digest 137 = .ok (.iload 4, 2) := by decide +kernel
theorem dX1_digest_139 : decode cX1_digest 139 = .ok (.invokevirtual 96, 3) := by decide +kernel
theorem dX1_digest_142 : decode cX1_digest 142 = .ok (.i2l, 1) := by decide +kernel
theorem dX1_digest_143 : decode cX1_digest 143 = .ok (.ladd, 1) := by decide +kernel
theorem dX1_digest_144 : decode cX1_digest 144 = .ok (.ldc2_w 132, 3) := by decide +kernel
theorem dX1_digest_147 : decode cX1_digest 147 = .ok (.lmul, 1) := by decide +kernel
theorem dX1_digest_148 : decode cX1_digest 148 = .ok (.aload_n 0, 1) := by decide +kernel
theorem dX1_digest_149 : decode cX1_digest 149 = .ok (.iconst 0, 1) := by decide +kernel
theorem dX1_digest_150 : decode cX1_digest 150 = .ok (.iload 4, 2) := by decide +kernel
theorem dX1_digest_152 : decode cX1_digest 152 = .ok (.invokevirtual 47, 3) := by decide +kernel
theorem dX1_digest_155 : decode cX1_digest 155 = .ok (.i2l, 1) := by decide +kernel
theorem dX1_digest_156 : decode cX1_digest 156 = .ok (.ladd, 1) := by decide +kernel
theorem dX1_digest_157 : decode cX1_digest 157 = .ok (.lstore_n 2, 1) := by decide +kernel
theorem dX1_digest_158 : decode cX1_digest 158 = .ok (.iinc 4 1, 3) := by decide +kernel
theorem dX1_digest_161 : decode cX1_digest 161 = .ok (.goto (-37), 3) := by decide +kernel
theorem dX1_digest_164 : decode cX1_digest 164 = .ok (.iconst 0, 1) := by decide +kernel
theorem dX1_digest_165 : decode cX1_digest 165 = .ok (.istore 4, 2) := by decide +kernel
theorem dX1_digest_167 : decode cX1_digest 167 = .ok (.iload 4, 2) := by decide +kernel
theorem dX1_digest_169 : decode cX1_digest 169 = .ok (.aload_n 0, 1) := by decide +kernel
theorem dX1_digest_170 : decode cX1_digest 170 = .ok (.getfield 29, 3) := by decide +kernel
theorem dX1_digest_173 : decode cX1_digest 173 = .ok (.if_icmp .ge 97, 3) := by decide +kernel
theorem dX1_digest_176 : decode cX1_digest 176 = .ok (.lload_n 2, 1) := by decide +kernel
theorem dX1_digest_177 : decode cX1_digest 177 = .ok (.ldc2_w 132, 3) := by decide +kernel
theorem dX1_digest_180 : decode cX1_digest 180 = .ok (.lmul, 1) := by decide +kernel
theorem dX1_digest_181 : decode cX1_digest 181 = .ok (.aload_n 0, 1) := by decide +kernel
theorem dX1_digest_182 : decode cX1_digest 182 = .ok (.getfield 9, 3) := by decide +kernel
theorem dX1_digest_185 : decode cX1_digest 185 = .ok (.iload 4, 2) := by decide +kernel
theorem dX1_digest_187 : decode cX1_digest 187 = .ok (.iaload, 1) := by decide +kernel
theorem dX1_digest_188 : decode cX1_digest 188 = .ok (.i2l, 1) := by decide +kernel
theorem dX1_digest_189 : decode cX1_digest 189 = .ok (.ladd, 1) := by decide +kernel
theorem dX1_digest_190 : decode cX1_digest 190 = .ok (.ldc2_w 132, 3) := by decide +kernel
theorem dX1_digest_193 : decode cX1_digest 193 = .ok (.lmul, 1) := by decide +kernel
theorem dX1_digest_194 : decode cX1_digest 194 = .ok (.aload_n 0, 1) := by decide +kernel
theorem dX1_digest_195 : decode cX1_digest 195 = .ok (.getfield 13, 3) := by decide +kernel
theorem dX1_digest_198 : decode cX1_digest 198 = .ok (.iload 4, 2) := by decide +kernel
theorem dX1_digest_200 : decode cX1_digest 200 = .ok (.iaload, 1) := by decide +kernel
theorem dX1_digest_201 : decode cX1_digest 201 = .ok (.i2l, 1) := by decide +kernel
theorem dX1_digest_202 : decode cX1_digest 202 = .ok (.ladd, 1) := by decide +kernel
theorem dX1_digest_203 : decode cX1_digest 203 = .ok (.lstore_n 2, 1) := by decide +kernel
theorem dX1_digest_204 : decode cX1_digest 204 = .ok (.lload_n 2, 1) := by decide +kernel
theorem dX1_digest_205 : decode cX1_digest 205 = .ok (.ldc2_w 132, 3) := by decide +kernel
theorem dX1_digest_208 : decode cX1_digest 208 = .ok (.lmul, 1) := by decide +kernel
theorem dX1_digest_209 : decode cX1_digest 209 = .ok (.aload_n 0, 1) := by decide +kernel
theorem dX1_digest_210 : decode cX1_digest 210 = .ok (.getfield 16, 3) := by decide +kernel
theorem dX1_digest_213 : decode cX1_digest 213 = .ok (.iload 4, 2) := by decide +kernel
theorem dX1_digest_215 : decode cX1_digest 215 = .ok (.iaload, 1) := by decide +kernel
theorem dX1_digest_216 : decode cX1_digest 216 = .ok (.i2l, 1) := by decide +kernel
theorem dX1_digest_217 : decode cX1_digest 217 = .ok (.ladd, 1) := by decide +kernel
theorem dX1_digest_218 : decode cX1_digest 218 = .ok (.ldc2_w 132, 3) := by decide +kernel
theorem dX1_digest_221 : decode cX1_digest 221 = .ok (.lmul, 1) := by decide +kernel
theorem dX1_digest_222 : decode cX1_digest 222 = .ok (.aload_n 0, 1) := by decide +kernel
theorem dX1_digest_223 : decode cX1_digest 223 = .ok (.getfield 19, 3) := by decide +kernel
theorem dX1_digest_226 : decode cX1_digest 226 = .ok (.iload 4, 2) := by decide +kernel
theorem dX1_digest_228 : decode cX1_digest 228 = .ok (.iaload, 1) := by decide +kernel
theorem dX1_digest_229 : decode cX1_digest 229 = .ok (.i2l, 1) := by decide +kernel
theorem dX1_digest_230 : decode cX1_digest 230 = .ok (.ladd, 1) := by decide +kernel
theorem dX1_digest_231 : decode cX1_digest 231 = .ok (.lstore_n 2, 1) := by decide +kernel
theorem dX1_digest_232 : decode cX1_digest 232 = .ok (.lload_n 2, 1) := by decide +kernel
theorem dX1_digest_233 : decode cX1_digest 233 = .ok (.ldc2_w 132, 3) := by decide +kernel
theorem dX1_digest_236 : decode cX1_digest 236 = .ok (.lmul, 1) := by decide +kernel
theorem dX1_digest_237 : decode cX1_digest 237 = .ok (.aload_n 0, 1) := by decide +kernel
theorem dX1_digest_238 : decode cX1_digest 238 = .ok (.iload 4, 2) := by decide +kernel
theorem dX1_digest_240 : decode cX1_digest 240 = .ok (.invokevirtual 112, 3) := by decide +kernel
theorem dX1_digest_243 : decode cX1_digest 243 = .ok (.i2l, 1) := by decide +kernel
theorem dX1_digest_244 : decode cX1_digest 244 = .ok (.ladd, 1) := by decide +kernel
theorem dX1_digest_245 : decode cX1_digest 245 = .ok (.ldc2_w 132, 3) := by decide +kernel
theorem dX1_digest_248 : decode cX1_digest 248 = .ok (.lmul, 1) := by decide +kernel
theorem dX1_digest_249 : decode cX1_digest 249 = .ok (.aload_n 0, 1) := by decide +kernel
theorem dX1_digest_250 : decode cX1_digest 250 = .ok (.aload_n 0, 1) := by decide +kernel
theorem dX1_digest_251 : decode cX1_digest 251 = .ok (.getfield 16, 3) := by decide +kernel
theorem dX1_digest_254 : decode cX1_digest 254 = .ok (.iload 4, 2) := by decide +kernel
theorem dX1_digest_256 : decode cX1_digest 256 = .ok (.bipush 6, 2) := by decide +kernel
theorem dX1_digest_258 : decode cX1_digest 258 = .ok (.invokevirtual 124, 3) := by decide +kernel
theorem dX1_digest_261 : decode cX1_digest 261 = .ok (.i2l, 1) := by decide +kernel
theorem dX1_digest_262 : decode cX1_digest 262 = .ok (.ladd, 1) := by decide +kernel
theorem dX1_digest_263 : decode cX1_digest 263 = .ok (.lstore_n 2, 1) := by decide +kernel
theorem dX1_digest_264 : decode cX1_digest 264 = .ok (.iinc 4 1, 3) := by decide +kernel
theorem dX1_digest_267 : decode cX1_digest 267 = .ok (.goto (-100), 3) := by decide +kernel
theorem dX1_digest_270 : decode cX1_digest 270 = .ok (.lload_n 2, 1) := by decide +kernel
theorem dX1_digest_271 : decode cX1_digest 271 = .ok (.lreturn, 1) := by decide +kernel
theorem dJ9_abs_0f7a4_0 : decode cJ9_abs_0f7a4 0 = .ok (.iload_n 0, 1) := by decide +kernel
theorem dJ9_abs_0f7a4_1 : decode cJ9_abs_0f7a4 1 = .ok (.ifCond .ge 8, 3) := by decide +kernel
theorem dJ9_abs_0f7a4_4 : decode cJ9_abs_0f7a4 4 = .ok (.iload_n 0, 1) := by decide +kernel
theorem dJ9_abs_0f7a4_5 : decode cJ9_abs_0f7a4 5 = .ok (.ineg, 1) := by decide +kernel
theorem dJ9_abs_0f7a4_6 : decode cJ9_abs_0f7a4 6 = .ok (.goto 4, 3) := by decide +kernel
theorem dJ9_abs_0f7a4_9 : decode cJ9_abs_0f7a4 9 = .ok (.iload_n 0, 1) := by decide +kernel
theorem dJ9_abs_0f7a4_10 : decode cJ9_abs_0f7a4 10 = .ok (.ireturn, 1) := by decide +kernel
theorem dJ9_min_7cf53_0 : decode cJ9_min_7cf53 0 = .ok (.iload_n 0, 1) := by decide +kernel
theorem dJ9_min_7cf53_1 : decode cJ9_min_7cf53 1 = .ok (.iload_n 1, 1) := by decide +kernel
theorem dJ9_min_7cf53_2 : decode cJ9_min_7cf53 2 = .ok (.if_icmp .gt 7, 3) := by decide +kernel
theorem dJ9_min_7cf53_5 : decode cJ9_min_7cf53 5 = .ok (.iload_n 0, 1) := by decide +kernel
theorem dJ9_min_7cf53_6 : decode cJ9_min_7cf53 6 = .ok (.goto 4, 3) := by decide +kernel
theorem dJ9_min_7cf53_9 : decode cJ9_min_7cf53 9 = .ok (.iload_n 1, 1) := by decide +kernel
theorem dJ9_min_7cf53_10 : decode cJ9_min_7cf53 10 = .ok (.ireturn, 1) := by decide +kernel
set_option maxRecDepth 20000 in
theorem ggL_addStranger_X0_addStranger : GoodIn wsL_addStranger wsX0_addStranger := goodIn_ca (goodIn_ca (goodIn_r _ [7, 8, 9, 10, 11, 12, 13, 14, 15, 16, 17, 18, 6, 19, 20, 21, 22, 23, 24, 25, 26, 27, 28, 29, 30, 31, 32, 33, 34, 35, 36, 37] (by decide +kernel) (by decide +kernel)) (goodIn_sub (fun _ h => List.mem_cons_of_mem _ (List.mem_append_left _ (List.mem_append_right _ h))) (by decide +kernel))) (goodIn_sub (fun _ h => List.mem_cons_of_mem _ (List.mem_append_right _ h)) (by decide +kernel))
set_option maxRecDepth 20000 in
theorem gL_addStranger_X0_addStranger : GoodIn wsL_addStranger (wsV RL 7 RX0 yX0_addStranger wsX0_addStranger) := goodIn_app (goodIn_of _ (by decide +kernel)) ggL_addStranger_X0_addStranger
end
section
theorem dL_addStranger_0 : decode cL_addStranger 0 = .ok (.aload 5, 2) := by decide +kernel
theorem dL_addStranger_2 : decode cL_addStranger 2 = .ok (.iconst 0, 1) := by decide +kernel
theorem dL_addStranger_3 : decode cL_addStranger 3 = .ok (.aload_n 0, 1) := by decide +kernel
theorem dL_addStranger_4 : decode cL_addStranger 4 = .ok (.iload_n 1, 1) := by decide +kernel
theorem dL_addStranger_5 : decode cL_addStranger 5 = .ok (.iload_n 2, 1) := by decide +kernel
theorem dL_addStranger_6 : decode cL_addStranger 6 = .ok (.iload_n 3, 1) := by decide +kernel
theorem dL_addStranger_7 : decode cL_addStranger 7 = .ok (.iload 4, 2) := by decide +kernel
theorem dL_addStranger_9 : decode cL_addStranger 9 = .ok (.invokevirtual 7, 3) := by decide +kernel
theorem dL_addStranger_12 : decode cL_addStranger 12 = .ok (.i2l, 1) := by decide +kernel
theorem dL_addStranger_13 : decode cL_addStranger 13 = .ok (.lastore, 1) := by decide +kernel
theorem dL_addStranger_14 : decode cL_addStranger 14 = .ok (.goto 11, 3) := by decide +kernel
theorem dL_addStranger_17 : decode cL_addStranger 17 = .ok (.astore 6, 2) := by decide +kernel
theorem dL_addStranger_19 : decode cL_addStranger 19 = .ok (.iconst 1, 1) := by decide +kernel
theorem dL_addStranger_20 : decode cL_addStranger 20 = .ok (.ireturn, 1) := by decide +kernel
theorem dL_addStranger_21 : decode cL_addStranger 21 = .ok (.astore 6, 2) := by decide +kernel
theorem dL_addStranger_23 : decode cL_addStranger 23 = .ok (.iconst 2, 1) := by decide +kernel
theorem dL_addStranger_24 : decode cL_addStranger 24 = .ok (.ireturn, 1) := by decide +kernel
theorem dL_addStranger_25 : decode cL_addStranger 25 = .ok (.iconst 0, 1) := by decide +kernel
theorem dL_addStranger_26 : decode cL_addStranger 26 = .ok (.ireturn, 1) := by decide +kernel
set_option maxRecDepth 20000 in
theorem ggL_setWalk_X0_setWalk : GoodIn wsL_setWalk wsX0_setWalk := goodIn_ca (goodIn_ca (goodIn_r _ [7, 8, 9, 10, 11, 12, 13, 6, 14, 15, 16, 17, 18, 19, 20, 21, 22, 23, 24, 25, 26, 27, 28, 29] (by decide +kernel) (by decide +kernel)) (goodIn_sub (fun _ h => List.mem_cons_of_mem _ (List.mem_append_left _ (List.mem_append_right _ h))) (by decide +kernel))) (goodIn_sub (fun _ h => List.mem_cons_of_mem _ (List.mem_append_right _ h)) (by decide +kernel))
set_option maxRecDepth 20000 in
theorem gL_setWalk_X0_setWalk : GoodIn wsL_setWalk (wsV RL 17 RX0 yX0_setWalk wsX0_setWalk) := goodIn_app (goodIn_of _ (by decide +kernel)) ggL_setWalk_X0_setWalk
theorem dL_setWalk_0 : decode cL_setWalk 0 = .ok (.aload_n 3, 1) := by decide +kernel
theorem dL_setWalk_1 : decode cL_setWalk 1 = .ok (.iconst 0, 1) := by decide +kernel
theorem dL_setWalk_2 : decode cL_setWalk 2 = .ok (.aload_n 0, 1) := by decide +kernel
theorem dL_setWalk_3 : decode cL_setWalk 3 = .ok (.iload_n 1, 1) := by decide +kernel
theorem dL_setWalk_4 : decode cL_setWalk 4 = .ok (.iload_n 2, 1) := by decide +kernel
theorem dL_setWalk_5 : decode cL_setWalk 5 = .ok (.invokevirtual 17, 3) := by decide +kernel
theorem dL_setWalk_8 : decode cL_setWalk 8 = .ok (.i2l, 1) := by decide +kernel
theorem dL_setWalk_9 : decode cL_setWalk 9 = .ok (.lastore, 1) := by decide +kernel
theorem dL_setWalk_10 : decode cL_setWalk 10 = .ok (.goto 11, 3) := by decide +kernel
theorem dL_setWalk_13 : decode cL_setWalk 13 = .ok (.astore 4, 2) := by decide +kernel
theorem dL_setWalk_15 : decode cL_setWalk 15 = .ok (.iconst 1, 1) := by decide +kernel
theorem dL_setWalk_16 : decode cL_setWalk 16 = .ok (.ireturn, 1) := by decide +kernel
theorem dL_setWalk_17 : decode cL_setWalk 17 = .ok (.astore 4, 2) := by decide +kernel
theorem dL_setWalk_19 : decode cL_setWalk 19 = .ok (.iconst 2, 1) := by decide +kernel
theorem dL_setWalk_20 : decode cL_setWalk 20 = .ok (.ireturn, 1) := by decide +kernel
theorem dL_setWalk_21 : decode cL_setWalk 21 = .ok (.iconst 0, 1) := by decide +kernel
theorem dL_setWalk_22 : decode cL_setWalk 22 = .ok (.ireturn, 1) := by decide +kernel
set_option maxRecDepth 20000 in
theorem ggL_move_X0_move : GoodIn wsL_move wsX0_move := goodIn_ca (goodIn_ca (goodIn_ca (goodIn_r _ [8, 9, 10, 11, 12, 13, 14, 15, 16, 7, 17, 18, 19, 20, 21, 22, 23, 24, 25, 26, 27, 28, 29, 30, 31, 32, 33, 34, 35, 36, 37, 38, 39, 40, 41, 42, 43, 44, 45, 46, 47, 48] (by decide +kernel) (by decide +kernel)) (goodIn_sub (fun _ h => List.mem_cons_of_mem _ (List.mem_append_left _ (List.mem_append_left _ (List.mem_append_right _ h)))) (by decide +kernel))) (goodIn_sub (fun _ h => List.mem_cons_of_mem _ (List.mem_append_left _ (List.mem_append_right _ h))) (by decide +kernel))) (goodIn_sub (fun _ h => List.mem_cons_of_mem _ (List.mem_append_right _ h)) (by decide +kernel))
set_option maxRecDepth 20000 in
theorem gL_move_X0_move : GoodIn wsL_move (wsV RL 23 RX0 yX0_move wsX0_move) := goodIn_app (goodIn_of _ (by decide +kernel)) ggL_move_X0_move
theorem dL_move_0 : decode cL_move 0 = .ok (.aload_n 3, 1) := by decide +kernel
theorem dL_move_1 : decode cL_move 1 = .ok (.iconst 0, 1) := by decide +kernel
theorem dL_move_2 : decode cL_move 2 = .ok (.aload_n 0, 1) := by decide +kernel
theorem dL_move_3 : decode cL_move 3 = .ok (.iload_n 1, 1) := by decide +kernel
theorem dL_move_4 : decode cL_move 4 = .ok (.iload_n 2, 1) := by decide +kernel
theorem dL_move_5 : decode cL_move 5 = .ok (.invokevirtual 23, 3) := by decide +kernel
theorem dL_move_8 : decode cL_move 8 = .ok (.i2l, 1) := by decide +kernel
theorem dL_move_9 : decode cL_move 9 = .ok (.lastore, 1) := by decide +kernel
theorem dL_move_10 : decode cL_move 10 = .ok (.goto 15, 3) := by decide +kernel
theorem dL_move_13 : decode cL_move 13 = .ok (.astore 4, 2) := by decide +kernel
theorem dL_move_15 : decode cL_move 15 = .ok (.iconst 1, 1) := by decide +kernel
theorem dL_move_16 : decode cL_move 16 = .ok (.ireturn, 1) := by decide +kernel
theorem dL_move_17 : decode cL_move 17 = .ok (.astore 4, 2) := by decide +kernel
theorem dL_move_19 : decode cL_move 19 = .ok (.iconst 2, 1) := by decide +kernel
theorem dL_move_20 : decode cL_move 20 = .ok (.ireturn, 1) := by decide +kernel
theorem dL_move_21 : decode cL_move 21 = .ok (.astore 4, 2) := by decide +kernel
theorem dL_move_23 : decode cL_move 23 = .ok (.iconst 3, 1) := by decide +kernel
theorem dL_move_24 : decode cL_move 24 = .ok (.ireturn, 1) := by decide +kernel
theorem dL_move_25 : decode cL_move 25 = .ok (.iconst 0, 1) := by decide +kernel
theorem dL_move_26 : decode cL_move 26 = .ok (.ireturn, 1) := by decide +kernel
set_option maxRecDepth 20000 in
theorem ggL_swapUmbrellas_X0_swapUmbrellas : GoodIn wsL_swapUmbrellas wsX0_swapUmbrellas := goodIn_ca (goodIn_ca (goodIn_ca (goodIn_r _ [8, 9, 10, 11, 12, 13, 14, 15, 7, 16, 17, 18, 19, 20, 21, 22, 23, 24, 25, 26, 27, 28, 29, 30, 31, 32, 33, 34, 35, 36, 37, 38, 39, 40, 41, 42, 43, 44, 45, 46, 47, 48, 49, 50, 51, 52, 53, 54, 55, 56, 57, 58, 59, 60, 61, 62, 63, 64, 65, 66, 67, 68, 69, 70, 71, 72, 73] (by decide +kernel) (by decide +kernel)) (goodIn_sub (fun _ h => List.mem_cons_of_mem _ (List.mem_append_left _ (List.mem_append_left _ (List.mem_append_right _ h)))) (by decide +kernel))) (goodIn_sub (fun _ h => List.mem_cons_of_mem _ (List.mem_append_left _ (List.mem_append_right _ h))) (by decide +kernel))) (goodIn_sub (fun _ h => List.mem_cons_of_mem _ (List.mem_append_right _ h)) (by decide +kernel))
set_option maxRecDepth 20000 in
theorem gL_swapUmbrellas_X0_swapUmbrellas : GoodIn wsL_swapUmbrellas (wsV RL 26 RX0 yX0_swapUmbrellas wsX0_swapUmbrellas) := goodIn_app (goodIn_of _ (by decide +kernel)) ggL_swapUmbrellas_X0_swapUmbrellas
theorem dL_swapUmbrellas_0 : decode cL_swapUmbrellas 0 = .ok (.aload_n 3, 1) := by decide +kernel
theorem dL_swapUmbrellas_1 : decode cL_swapUmbrellas 1 = .ok (.iconst 0, 1) := by decide +kernel
theorem dL_swapUmbrellas_2 : decode cL_swapUmbrellas 2 = .ok (.aload_n 0, 1) := by decide +kernel
theorem dL_swapUmbrellas_3 : decode cL_swapUmbrellas 3 = .ok (.iload_n 1, 1) := by decide +kernel
theorem dL_swapUmbrellas_4 : decode cL_swapUmbrellas 4 = .ok (.iload_n 2, 1) := by decide +kernel
theorem dL_swapUmbrellas_5 : decode cL_swapUmbrellas 5 = .ok (.invokevirtual 26, 3) := by decide +kernel
theorem dL_swapUmbrellas_8 : decode cL_swapUmbrellas 8 = .ok (.i2l, 1) := by decide +kernel
theorem dL_swapUmbrellas_9 : decode cL_swapUmbrellas 9 = .ok (.lastore, 1) := by decide +kernel
theorem dL_swapUmbrellas_10 : decode cL_swapUmbrellas 10 = .ok (.goto 15, 3) := by decide +kernel
theorem dL_swapUmbrellas_13 : decode cL_swapUmbrellas 13 = .ok (.astore 4, 2) := by decide +kernel
theorem dL_swapUmbrellas_15 : decode cL_swapUmbrellas 15 = .ok (.iconst 1, 1) := by decide +kernel
theorem dL_swapUmbrellas_16 : decode cL_swapUmbrellas 16 = .ok (.ireturn, 1) := by decide +kernel
theorem dL_swapUmbrellas_17 : decode cL_swapUmbrellas 17 = .ok (.astore 4, 2) := by decide +kernel
theorem dL_swapUmbrellas_19 : decode cL_swapUmbrellas 19 = .ok (.iconst 2, 1) := by decide +kernel
theorem dL_swapUmbrellas_20 : decode cL_swapUmbrellas 20 = .ok (.ireturn, 1) := by decide +kernel
theorem dL_swapUmbrellas_21 : decode cL_swapUmbrellas 21 = .ok (.astore 4, 2) := by decide +kernel
theorem dL_swapUmbrellas_23 : decode cL_swapUmbrellas 23 = .ok (.iconst 3, 1) := by decide +kernel
theorem dL_swapUmbrellas_24 : decode cL_swapUmbrellas 24 = .ok (.ireturn, 1) := by decide +kernel
theorem dL_swapUmbrellas_25 : decode cL_swapUmbrellas 25 = .ok (.iconst 0, 1) := by decide +kernel
theorem dL_swapUmbrellas_26 : decode cL_swapUmbrellas 26 = .ok (.ireturn, 1) := by decide +kernel
set_option maxRecDepth 20000 in
theorem ggL_swapTickets_X0_swapTickets : GoodIn wsL_swapTickets wsX0_swapTickets := goodIn_ca (goodIn_ca (goodIn_ca (goodIn_r _ [8, 9, 10, 11, 12, 7, 13, 14, 15, 16, 17, 18, 19, 20, 21, 22, 23, 24, 25, 26, 27, 28, 29, 30, 31, 32, 33, 34, 35, 36, 37, 38, 39, 40, 41, 42, 43, 44, 45, 46, 47, 48, 49, 50, 51, 52, 53, 54, 55, 56, 57, 58, 59, 60, 61, 62, 63, 64, 65, 66, 67, 68, 69, 70, 71, 72, 73] (by decide +kernel) (by decide +kernel)) (goodIn_sub (fun _ h => List.mem_cons_of_mem _ (List.mem_append_left _ (List.mem_append_left _ (List.mem_append_right _ h)))) (by decide +kernel))) (goodIn_sub (fun _ h => List.mem_cons_of_mem _ (List.mem_append_left _ (List.mem_append_right _ h))) (by decide +kernel))) (goodIn_sub (fun _ h => List.mem_cons_of_mem _ (List.mem_append_right _ h)) (by decide +kernel))
set_option maxRecDepth 20000 in
theorem gL_swapTickets_X0_swapTickets : GoodIn wsL_swapTickets (wsV RL 29 RX0 yX0_swapTickets wsX0_swapTickets) := goodIn_app (goodIn_of _ (by decide +kernel)) ggL_swapTickets_X0_swapTickets
theorem dL_swapTickets_0 : decode cL_swapTickets 0 = .ok (.aload_n 3, 1) := by decide +kernel
theorem dL_swapTickets_1 : decode cL_swapTickets 1 = .ok (.iconst 0, 1) := by decide +kernel
theorem dL_swapTickets_2 : decode cL_swapTickets 2 = .ok (.aload_n 0, 1) := by decide +kernel
theorem dL_swapTickets_3 : decode cL_swapTickets 3 = .ok (.iload_n 1, 1) := by decide +kernel
theorem dL_swapTickets_4 : decode cL_swapTickets 4 = .ok (.iload_n 2, 1) := by decide +kernel
theorem dL_swapTickets_5 : decode cL_swapTickets 5 = .ok (.invokevirtual 29, 3) := by decide +kernel
theorem dL_swapTickets_8 : decode cL_swapTickets 8 = .ok (.i2l, 1) := by decide +kernel
theorem dL_swapTickets_9 : decode cL_swapTickets 9 = .ok (.lastore, 1) := by decide +kernel
theorem dL_swapTickets_10 : decode cL_swapTickets 10 = .ok (.goto 15, 3) := by decide +kernel
theorem dL_swapTickets_13 : decode cL_swapTickets 13 = .ok (.astore 4, 2) := by decide +kernel
theorem dL_swapTickets_15 : decode cL_swapTickets 15 = .ok (.iconst 1, 1) := by decide +kernel
theorem dL_swapTickets_16 : decode cL_swapTickets 16 = .ok (.ireturn, 1) := by decide +kernel
theorem dL_swapTickets_17 : decode cL_swapTickets 17 = .ok (.astore 4, 2) := by decide +kernel
theorem dL_swapTickets_19 : decode cL_swapTickets 19 = .ok (.iconst 2, 1) := by decide +kernel
theorem dL_swapTickets_20 : decode cL_swapTickets 20 = .ok (.ireturn, 1) := by decide +kernel
theorem dL_swapTickets_21 : decode cL_swapTickets 21 = .ok (.astore 4, 2) := by decide +kernel
theorem dL_swapTickets_23 : decode cL_swapTickets 23 = .ok (.iconst 3, 1) := by decide +kernel
theorem dL_swapTickets_24 : decode cL_swapTickets 24 = .ok (.ireturn, 1) := by decide +kernel
theorem dL_swapTickets_25 : decode cL_swapTickets 25 = .ok (.iconst 0, 1) := by decide +kernel
theorem dL_swapTickets_26 : decode cL_swapTickets 26 = .ok (.ireturn, 1) := by decide +kernel
set_option maxRecDepth 20000 in
theorem ggL_draw_X0_draw : GoodIn wsL_draw wsX0_draw := goodIn_ca (goodIn_ca (goodIn_ca (goodIn_r _ [8, 9, 10, 11, 12, 13, 14, 7, 15, 16, 17, 18, 19, 20, 21, 22, 23, 24, 25, 26, 27, 28, 29, 30, 31, 32, 33, 34, 35, 36, 37, 38] (by decide +kernel) (by decide +kernel)) (goodIn_sub (fun _ h => List.mem_cons_of_mem _ (List.mem_append_left _ (List.mem_append_left _ (List.mem_append_right _ h)))) (by decide +kernel))) (goodIn_sub (fun _ h => List.mem_cons_of_mem _ (List.mem_append_left _ (List.mem_append_right _ h))) (by decide +kernel))) (goodIn_sub (fun _ h => List.mem_cons_of_mem _ (List.mem_append_right _ h)) (by decide +kernel))
set_option maxRecDepth 20000 in
theorem gL_draw_X0_draw : GoodIn wsL_draw (wsV RL 32 RX0 yX0_draw wsX0_draw) := goodIn_app (goodIn_of _ (by decide +kernel)) ggL_draw_X0_draw
theorem dL_draw_0 : decode cL_draw 0 = .ok (.aload_n 3, 1) := by decide +kernel
theorem dL_draw_1 : decode cL_draw 1 = .ok (.iconst 0, 1) := by decide +kernel
theorem dL_draw_2 : decode cL_draw 2 = .ok (.aload_n 0, 1) := by decide +kernel
theorem dL_draw_3 : decode cL_draw 3 = .ok (.iload_n 1, 1) := by decide +kernel
theorem dL_draw_4 : decode cL_draw 4 = .ok (.iload_n 2, 1) := by decide +kernel
theorem dL_draw_5 : decode cL_draw 5 = .ok (.invokevirtual 32, 3) := by decide +kernel
theorem dL_draw_8 : decode cL_draw 8 = .ok (.i2l, 1) := by decide +kernel
theorem dL_draw_9 : decode cL_draw 9 = .ok (.lastore, 1) := by decide +kernel
theorem dL_draw_10 : decode cL_draw 10 = .ok (.goto 15, 3) := by decide +kernel
theorem dL_draw_13 : decode cL_draw 13 = .ok (.astore 4, 2) := by decide +kernel
theorem dL_draw_15 : decode cL_draw 15 = .ok (.iconst 1, 1) := by decide +kernel
theorem dL_draw_16 : decode cL_draw 16 = .ok (.ireturn, 1) := by decide +kernel
theorem dL_draw_17 : decode cL_draw 17 = .ok (.astore 4, 2) := by decide +kernel
theorem dL_draw_19 : decode cL_draw 19 = .ok (.iconst 2, 1) := by decide +kernel
theorem dL_draw_20 : decode cL_draw 20 = .ok (.ireturn, 1) := by decide +kernel
theorem dL_draw_21 : decode cL_draw 21 = .ok (.astore 4, 2) := by decide +kernel
theorem dL_draw_23 : decode cL_draw 23 = .ok (.iconst 3, 1) := by decide +kernel
theorem dL_draw_24 : decode cL_draw 24 = .ok (.ireturn, 1) := by decide +kernel
theorem dL_draw_25 : decode cL_draw 25 = .ok (.iconst 0, 1) := by decide +kernel
theorem dL_draw_26 : decode cL_draw 26 = .ok (.ireturn, 1) := by decide +kernel
set_option maxRecDepth 20000 in
theorem ggL_pass_X0_pass : GoodIn wsL_pass wsX0_pass := goodIn_ca (goodIn_r _ [6, 7, 8, 9, 10, 11, 12, 5, 13, 14, 15, 16, 17, 18, 19, 20, 21, 22, 23, 24, 25, 26, 27, 28, 29, 30, 31, 32, 33, 34, 35, 36, 37, 38, 39, 40, 41, 42, 43, 44, 45, 46, 47, 48, 49, 50, 51, 52, 53, 54, 55, 56, 57, 58, 59, 60, 61, 62, 63, 64, 65, 66, 67, 68] (by decide +kernel) (by decide +kernel)) (goodIn_sub (fun _ h => List.mem_cons_of_mem _ (List.mem_append_right _ h)) (by decide +kernel))
set_option maxRecDepth 20000 in
theorem gL_pass_X0_pass : GoodIn wsL_pass (wsV RL 35 RX0 yX0_pass wsX0_pass) := goodIn_app (goodIn_of _ (by decide +kernel)) ggL_pass_X0_pass
theorem dL_pass_0 : decode cL_pass 0 = .ok (.aload_n 2, 1) := by decide +kernel
theorem dL_pass_1 : decode cL_pass 1 = .ok (.iconst 0, 1) := by decide +kernel
theorem dL_pass_2 : decode cL_pass 2 = .ok (.aload_n 0, 1) := by decide +kernel
theorem dL_pass_3 : decode cL_pass 3 = .ok (.iload_n 1, 1) := by decide +kernel
theorem dL_pass_4 : decode cL_pass 4 = .ok (.invokevirtual 35, 3) := by decide +kernel
theorem dL_pass_7 : decode cL_pass 7 = .ok (.i2l, 1) := by decide +kernel
theorem dL_pass_8 : decode cL_pass 8 = .ok (.lastore, 1) := by decide +kernel
theorem dL_pass_9 : decode cL_pass 9 = .ok (.goto 6, 3) := by decide +kernel
theorem dL_pass_12 : decode cL_pass 12 = .ok (.astore_n 3, 1) := by decide +kernel
theorem dL_pass_13 : decode cL_pass 13 = .ok (.iconst 1, 1) := by decide +kernel
theorem dL_pass_14 : decode cL_pass 14 = .ok (.ireturn, 1) := by decide +kernel
theorem dL_pass_15 : decode cL_pass 15 = .ok (.iconst 0, 1) := by decide +kernel
theorem dL_pass_16 : decode cL_pass 16 = .ok (.ireturn, 1) := by decide +kernel
set_option maxRecDepth 20000 in
theorem ggL_ticketOf_X0_ticketOf : GoodIn wsL_ticketOf wsX0_ticketOf := goodIn_ca (goodIn_r _ [6, 7, 8, 9, 10, 5, 11, 12, 13, 14, 15, 16, 17, 18, 19, 20, 21, 22, 23] (by decide +kernel) (by decide +kernel)) (goodIn_sub (fun _ h => List.mem_cons_of_mem _ (List.mem_append_right _ h)) (by decide +kernel))
set_option maxRecDepth 20000 in
theorem gL_ticketOf_X0_ticketOf : GoodIn wsL_ticketOf (wsV RL 39 RX0 yX0_ticketOf wsX0_ticketOf) := goodIn_app (goodIn_of _ (by decide +kernel)) ggL_ticketOf_X0_ticketOf
theorem dL_ticketOf_0 : decode cL_ticketOf 0 = .ok (.aload_n 2, 1) := by decide +kernel
theorem dL_ticketOf_1 : decode cL_ticketOf 1 = .ok (.iconst 0, 1) := by decide +kernel
theorem dL_ticketOf_2 : decode cL_ticketOf 2 = .ok (.aload_n 0, 1) := by decide +kernel
theorem dL_ticketOf_3 : decode cL_ticketOf 3 = .ok (.iload_n 1, 1) := by decide +kernel
theorem dL_ticketOf_4 : decode cL_ticketOf 4 = .ok (.invokevirtual 39, 3) := by decide +kernel
theorem dL_ticketOf_7 : decode cL_ticketOf 7 = .ok (.i2l, 1) := by decide +kernel
theorem dL_ticketOf_8 : decode cL_ticketOf 8 = .ok (.lastore, 1) := by decide +kernel
theorem dL_ticketOf_9 : decode cL_ticketOf 9 = .ok (.goto 6, 3) := by decide +kernel
theorem dL_ticketOf_12 : decode cL_ticketOf 12 = .ok (.astore_n 3, 1) := by decide +kernel
theorem dL_ticketOf_13 : decode cL_ticketOf 13 = .ok (.iconst 1, 1) := by decide +kernel
theorem dL_ticketOf_14 : decode cL_ticketOf 14 = .ok (.ireturn, 1) := by decide +kernel
theorem dL_ticketOf_15 : decode cL_ticketOf 15 = .ok (.iconst 0, 1) := by decide +kernel
theorem dL_ticketOf_16 : decode cL_ticketOf 16 = .ok (.ireturn, 1) := by decide +kernel
set_option maxRecDepth 20000 in
theorem ggL_colourOf_X0_colourOf : GoodIn wsL_colourOf wsX0_colourOf := goodIn_ca (goodIn_r _ [6, 7, 8, 9, 10, 5, 11, 12, 13, 14, 15, 16, 17, 18, 19, 20, 21, 22, 23] (by decide +kernel) (by decide +kernel)) (goodIn_sub (fun _ h => List.mem_cons_of_mem _ (List.mem_append_right _ h)) (by decide +kernel))
set_option maxRecDepth 20000 in
theorem gL_colourOf_X0_colourOf : GoodIn wsL_colourOf (wsV RL 42 RX0 yX0_colourOf wsX0_colourOf) := goodIn_app (goodIn_of _ (by decide +kernel)) ggL_colourOf_X0_colourOf
theorem dL_colourOf_0 : decode cL_colourOf 0 = .ok (.aload_n 2, 1) := by decide +kernel
theorem dL_colourOf_1 : decode cL_colourOf 1 = .ok (.iconst 0, 1) := by decide +kernel
theorem dL_colourOf_2 : decode cL_colourOf 2 = .ok (.aload_n 0, 1) := by decide +kernel
theorem dL_colourOf_3 : decode cL_colourOf 3 = .ok (.iload_n 1, 1) := by decide +kernel
theorem dL_colourOf_4 : decode cL_colourOf 4 = .ok (.invokevirtual 42, 3) := by decide +kernel
theorem dL_colourOf_7 : decode cL_colourOf 7 = .ok (.i2l, 1) := by decide +kernel
theorem dL_colourOf_8 : decode cL_colourOf 8 = .ok (.lastore, 1) := by decide +kernel
theorem dL_colourOf_9 : decode cL_colourOf 9 = .ok (.goto 6, 3) := by decide +kernel
theorem dL_colourOf_12 : decode cL_colourOf 12 = .ok (.astore_n 3, 1) := by decide +kernel
theorem dL_colourOf_13 : decode cL_colourOf 13 = .ok (.iconst 1, 1) := by decide +kernel
theorem dL_colourOf_14 : decode cL_colourOf 14 = .ok (.ireturn, 1) := by decide +kernel
theorem dL_colourOf_15 : decode cL_colourOf 15 = .ok (.iconst 0, 1) := by decide +kernel
theorem dL_colourOf_16 : decode cL_colourOf 16 = .ok (.ireturn, 1) := by decide +kernel
set_option maxRecDepth 20000 in
theorem ggL_cornerOf_X0_cornerOf : GoodIn wsL_cornerOf wsX0_cornerOf := goodIn_ca (goodIn_r _ [6, 7, 8, 9, 10, 5, 11, 12, 13, 14, 15, 16, 17, 18, 19, 20, 21, 22, 23] (by decide +kernel) (by decide +kernel)) (goodIn_sub (fun _ h => List.mem_cons_of_mem _ (List.mem_append_right _ h)) (by decide +kernel))
set_option maxRecDepth 20000 in
theorem gL_cornerOf_X0_cornerOf : GoodIn wsL_cornerOf (wsV RL 45 RX0 yX0_cornerOf wsX0_cornerOf) := goodIn_app (goodIn_of _ (by decide +kernel)) ggL_cornerOf_X0_cornerOf
theorem dL_cornerOf_0 : decode cL_cornerOf 0 = .ok (.aload_n 2, 1) := by decide +kernel
theorem dL_cornerOf_1 : decode cL_cornerOf 1 = .ok (.iconst 0, 1) := by decide +kernel
theorem dL_cornerOf_2 : decode cL_cornerOf 2 = .ok (.aload_n 0, 1) := by decide +kernel
theorem dL_cornerOf_3 : decode cL_cornerOf 3 = .ok (.iload_n 1, 1) := by decide +kernel
theorem dL_cornerOf_4 : decode cL_cornerOf 4 = .ok (.invokevirtual 45, 3) := by decide +kernel
theorem dL_cornerOf_7 : decode cL_cornerOf 7 = .ok (.i2l, 1) := by decide +kernel
theorem dL_cornerOf_8 : decode cL_cornerOf 8 = .ok (.lastore, 1) := by decide +kernel
theorem dL_cornerOf_9 : decode cL_cornerOf 9 = .ok (.goto 6, 3) := by decide +kernel
theorem dL_cornerOf_12 : decode cL_cornerOf 12 = .ok (.astore_n 3, 1) := by decide +kernel
theorem dL_cornerOf_13 : decode cL_cornerOf 13 = .ok (.iconst 1, 1) := by decide +kernel
theorem dL_cornerOf_14 : decode cL_cornerOf 14 = .ok (.ireturn, 1) := by decide +kernel
theorem dL_cornerOf_15 : decode cL_cornerOf 15 = .ok (.iconst 0, 1) := by decide +kernel
theorem dL_cornerOf_16 : decode cL_cornerOf 16 = .ok (.ireturn, 1) := by decide +kernel
set_option maxRecDepth 20000 in
theorem ggL_walkOf_X0_walkOf : GoodIn wsL_walkOf wsX0_walkOf := goodIn_ca (goodIn_r _ [6, 7, 8, 9, 10, 5, 11, 12, 13, 14, 15, 16, 17, 18, 19, 20, 21, 22, 23] (by decide +kernel) (by decide +kernel)) (goodIn_sub (fun _ h => List.mem_cons_of_mem _ (List.mem_append_right _ h)) (by decide +kernel))
set_option maxRecDepth 20000 in
theorem gL_walkOf_X0_walkOf : GoodIn wsL_walkOf (wsV RL 48 RX0 yX0_walkOf wsX0_walkOf) := goodIn_app (goodIn_of _ (by decide +kernel)) ggL_walkOf_X0_walkOf
theorem dL_walkOf_0 : decode cL_walkOf 0 = .ok (.aload_n 2, 1) := by decide +kernel
theorem dL_walkOf_1 : decode cL_walkOf 1 = .ok (.iconst 0, 1) := by decide +kernel
theorem dL_walkOf_2 : decode cL_walkOf 2 = .ok (.aload_n 0, 1) := by decide +kernel
theorem dL_walkOf_3 : decode cL_walkOf 3 = .ok (.iload_n 1, 1) := by decide +kernel
theorem dL_walkOf_4 : decode cL_walkOf 4 = .ok (.invokevirtual 48, 3) := by decide +kernel
theorem dL_walkOf_7 : decode cL_walkOf 7 = .ok (.i2l, 1) := by decide +kernel
theorem dL_walkOf_8 : decode cL_walkOf 8 = .ok (.lastore, 1) := by decide +kernel
theorem dL_walkOf_9 : decode cL_walkOf 9 = .ok (.goto 6, 3) := by decide +kernel
theorem dL_walkOf_12 : decode cL_walkOf 12 = .ok (.astore_n 3, 1) := by decide +kernel
theorem dL_walkOf_13 : decode cL_walkOf 13 = .ok (.iconst 1, 1) := by decide +kernel
theorem dL_walkOf_14 : decode cL_walkOf 14 = .ok (.ireturn, 1) := by decide +kernel
theorem dL_walkOf_15 : decode cL_walkOf 15 = .ok (.iconst 0, 1) := by decide +kernel
theorem dL_walkOf_16 : decode cL_walkOf 16 = .ok (.ireturn, 1) := by decide +kernel
set_option maxRecDepth 20000 in
theorem ggL_peopleAt_X0_peopleAt : GoodIn wsL_peopleAt wsX0_peopleAt := goodIn_ca (goodIn_r _ [6, 7, 8, 5, 9, 10, 11, 12, 13, 14, 15, 16, 17, 18, 19, 20, 21, 22, 23, 24, 25, 26, 27, 28, 29] (by decide +kernel) (by decide +kernel)) (goodIn_sub (fun _ h => List.mem_cons_of_mem _ (List.mem_append_right _ h)) (by decide +kernel))
set_option maxRecDepth 20000 in
theorem gL_peopleAt_X0_peopleAt : GoodIn wsL_peopleAt (wsV RL 51 RX0 yX0_peopleAt wsX0_peopleAt) := goodIn_app (goodIn_of _ (by decide +kernel)) ggL_peopleAt_X0_peopleAt
theorem dL_peopleAt_0 : decode cL_peopleAt 0 = .ok (.aload_n 2, 1) := by decide +kernel
theorem dL_peopleAt_1 : decode cL_peopleAt 1 = .ok (.iconst 0, 1) := by decide +kernel
theorem dL_peopleAt_2 : decode cL_peopleAt 2 = .ok (.aload_n 0, 1) := by decide +kernel
theorem dL_peopleAt_3 : decode cL_peopleAt 3 = .ok (.iload_n 1, 1) := by decide +kernel
theorem dL_peopleAt_4 : decode cL_peopleAt 4 = .ok (.invokevirtual 51, 3) := by decide +kernel
theorem dL_peopleAt_7 : decode cL_peopleAt 7 = .ok (.i2l, 1) := by decide +kernel
theorem dL_peopleAt_8 : decode cL_peopleAt 8 = .ok (.lastore, 1) := by decide +kernel
theorem dL_peopleAt_9 : decode cL_peopleAt 9 = .ok (.goto 6, 3) := by decide +kernel
theorem dL_peopleAt_12 : decode cL_peopleAt 12 = .ok (.astore_n 3, 1) := by decide +kernel
theorem dL_peopleAt_13 : decode cL_peopleAt 13 = .ok (.iconst 1, 1) := by decide +kernel
theorem dL_peopleAt_14 : decode cL_peopleAt 14 = .ok (.ireturn, 1) := by decide +kernel
theorem dL_peopleAt_15 : decode cL_peopleAt 15 = .ok (.iconst 0, 1) := by decide +kernel
theorem dL_peopleAt_16 : decode cL_peopleAt 16 = .ok (.ireturn, 1) := by decide +kernel
set_option maxRecDepth 20000 in
theorem ggL_pointsOf_X0_pointsOf : GoodIn wsL_pointsOf wsX0_pointsOf := goodIn_ca (goodIn_ca (goodIn_r _ [7, 8, 9, 10, 6, 11, 12, 13, 14, 15, 16, 17, 18, 19, 20, 21, 22, 23, 24, 25, 26, 27, 28, 29, 30, 31, 32, 33, 34, 35, 36, 37, 38, 39, 40, 41, 42, 43, 44, 45, 46, 47, 48, 49, 50, 51] (by decide +kernel) (by decide +kernel)) (goodIn_sub (fun _ h => List.mem_cons_of_mem _ (List.mem_append_left _ (List.mem_append_right _ h))) (by decide +kernel))) (goodIn_sub (fun _ h => List.mem_cons_of_mem _ (List.mem_append_right _ h)) (by decide +kernel))
set_option maxRecDepth 20000 in
theorem gL_pointsOf_X0_pointsOf : GoodIn wsL_pointsOf (wsV RL 54 RX0 yX0_pointsOf wsX0_pointsOf) := goodIn_app (goodIn_of _ (by decide +kernel)) ggL_pointsOf_X0_pointsOf
theorem dL_pointsOf_0 : decode cL_pointsOf 0 = .ok (.aload_n 3, 1) := by decide +kernel
theorem dL_pointsOf_1 : decode cL_pointsOf 1 = .ok (.iconst 0, 1) := by decide +kernel
theorem dL_pointsOf_2 : decode cL_pointsOf 2 = .ok (.aload_n 0, 1) := by decide +kernel
theorem dL_pointsOf_3 : decode cL_pointsOf 3 = .ok (.iload_n 1, 1) := by decide +kernel
theorem dL_pointsOf_4 : decode cL_pointsOf 4 = .ok (.iload_n 2, 1) := by decide +kernel
theorem dL_pointsOf_5 : decode cL_pointsOf 5 = .ok (.invokevirtual 54, 3) := by decide +kernel
theorem dL_pointsOf_8 : decode cL_pointsOf 8 = .ok (.i2l, 1) := by decide +kernel
theorem dL_pointsOf_9 : decode cL_pointsOf 9 = .ok (.lastore, 1) := by decide +kernel
theorem dL_pointsOf_10 : decode cL_pointsOf 10 = .ok (.goto 11, 3) := by decide +kernel
theorem dL_pointsOf_13 : decode cL_pointsOf 13 = .ok (.astore 4, 2) := by decide +kernel
theorem dL_pointsOf_15 : decode cL_pointsOf 15 = .ok (.iconst 1, 1) := by decide +kernel
theorem dL_pointsOf_16 : decode cL_pointsOf 16 = .ok (.ireturn, 1) := by decide +kernel
theorem dL_pointsOf_17 : decode cL_pointsOf 17 = .ok (.astore 4, 2) := by decide +kernel
theorem dL_pointsOf_19 : decode cL_pointsOf 19 = .ok (.iconst 2, 1) := by decide +kernel
theorem dL_pointsOf_20 : decode cL_pointsOf 20 = .ok (.ireturn, 1) := by decide +kernel
theorem dL_pointsOf_21 : decode cL_pointsOf 21 = .ok (.iconst 0, 1) := by decide +kernel
theorem dL_pointsOf_22 : decode cL_pointsOf 22 = .ok (.ireturn, 1) := by decide +kernel
set_option maxRecDepth 20000 in
theorem ggL_areTogether_X0_areTogether : GoodIn wsL_areTogether wsX0_areTogether := goodIn_ca (goodIn_ca (goodIn_r _ [7, 8, 9, 10, 11, 6, 12, 13, 14, 15, 16, 17, 18, 19, 20, 21, 22, 23, 24, 25, 26, 27, 28, 29, 30] (by decide +kernel) (by decide +kernel)) (goodIn_sub (fun _ h => List.mem_cons_of_mem _ (List.mem_append_left _ (List.mem_append_right _ h))) (by decide +kernel))) (goodIn_sub (fun _ h => List.mem_cons_of_mem _ (List.mem_append_right _ h)) (by decide +kernel))
set_option maxRecDepth 20000 in
theorem gL_areTogether_X0_areTogether : GoodIn wsL_areTogether (wsV RL 57 RX0 yX0_areTogether wsX0_areTogether) := goodIn_app (goodIn_of _ (by decide +kernel)) ggL_areTogether_X0_areTogether
theorem dL_areTogether_0 : decode cL_areTogether 0 = .ok (.aload_n 3, 1) := by decide +kernel
theorem dL_areTogether_1 : decode cL_areTogether 1 = .ok (.iconst 0, 1) := by decide +kernel
theorem dL_areTogether_2 : decode cL_areTogether 2 = .ok (.aload_n 0, 1) := by decide +kernel
theorem dL_areTogether_3 : decode cL_areTogether 3 = .ok (.iload_n 1, 1) := by decide +kernel
theorem dL_areTogether_4 : decode cL_areTogether 4 = .ok (.iload_n 2, 1) := by decide +kernel
theorem dL_areTogether_5 : decode cL_areTogether 5 = .ok (.invokevirtual 57, 3) := by decide +kernel
theorem dL_areTogether_8 : decode cL_areTogether 8 = .ok (.ifCond .eq 7, 3) := by decide +kernel
theorem dL_areTogether_11 : decode cL_areTogether 11 = .ok (.lconst 1, 1) := by decide +kernel
theorem dL_areTogether_12 : decode cL_areTogether 12 = .ok (.goto 4, 3) := by decide +kernel
theorem dL_areTogether_15 : decode cL_areTogether 15 = .ok (.lconst 0, 1) := by decide +kernel
theorem dL_areTogether_16 : decode cL_areTogether 16 = .ok (.lastore, 1) := by decide +kernel
theorem dL_areTogether_17 : decode cL_areTogether 17 = .ok (.goto 11, 3) := by decide +kernel
theorem dL_areTogether_20 : decode cL_areTogether 20 = .ok (.astore 4, 2) := by decide +kernel
theorem dL_areTogether_22 : decode cL_areTogether 22 = .ok (.iconst 1, 1) := by decide +kernel
theorem dL_areTogether_23 : decode cL_areTogether 23 = .ok (.ireturn, 1) := by decide +kernel
theorem dL_areTogether_24 : decode cL_areTogether 24 = .ok (.astore 4, 2) := by decide +kernel
theorem dL_areTogether_26 : decode cL_areTogether 26 = .ok (.iconst 2, 1) := by decide +kernel
theorem dL_areTogether_27 : decode cL_areTogether 27 = .ok (.ireturn, 1) := by decide +kernel
theorem dL_areTogether_28 : decode cL_areTogether 28 = .ok (.iconst 0, 1) := by decide +kernel
theorem dL_areTogether_29 : decode cL_areTogether 29 = .ok (.ireturn, 1) := by decide +kernel
set_option maxRecDepth 20000 in
theorem ggL_areMirrored_X0_areMirrored : GoodIn wsL_areMirrored wsX0_areMirrored := goodIn_ca (goodIn_ca (goodIn_r _ [7, 8, 9, 10, 11, 6, 12, 13, 14, 15, 16, 17, 18, 19, 20, 21, 22, 23, 24, 25, 26, 27, 28, 29, 30, 31, 32, 33] (by decide +kernel) (by decide +kernel)) (goodIn_sub (fun _ h => List.mem_cons_of_mem _ (List.mem_append_left _ (List.mem_append_right _ h))) (by decide +kernel))) (goodIn_sub (fun _ h => List.mem_cons_of_mem _ (List.mem_append_right _ h)) (by decide +kernel))
set_option maxRecDepth 20000 in
theorem gL_areMirrored_X0_areMirrored : GoodIn wsL_areMirrored (wsV RL 61 RX0 yX0_areMirrored wsX0_areMirrored) := goodIn_app (goodIn_of _ (by decide +kernel)) ggL_areMirrored_X0_areMirrored
theorem dL_areMirrored_0 : decode cL_areMirrored 0 = .ok (.aload_n 3, 1) := by decide +kernel
theorem dL_areMirrored_1 : decode cL_areMirrored 1 = .ok (.iconst 0, 1) := by decide +kernel
theorem dL_areMirrored_2 : decode cL_areMirrored 2 = .ok (.aload_n 0, 1) := by decide +kernel
theorem dL_areMirrored_3 : decode cL_areMirrored 3 = .ok (.iload_n 1, 1) := by decide +kernel
theorem dL_areMirrored_4 : decode cL_areMirrored 4 = .ok (.iload_n 2, 1) := by decide +kernel
theorem dL_areMirrored_5 : decode cL_areMirrored 5 = .ok (.invokevirtual 61, 3) := by decide +kernel
theorem dL_areMirrored_8 : decode cL_areMirrored 8 = .ok (.ifCond .eq 7, 3) := by decide +kernel
theorem dL_areMirrored_11 : decode cL_areMirrored 11 = .ok (.lconst 1, 1) := by decide +kernel
theorem dL_areMirrored_12 : decode cL_areMirrored 12 = .ok (.goto 4, 3) := by decide +kernel
theorem dL_areMirrored_15 : decode cL_areMirrored 15 = .ok (.lconst 0, 1) := by decide +kernel
theorem dL_areMirrored_16 : decode cL_areMirrored 16 = .ok (.lastore, 1) := by decide +kernel
theorem dL_areMirrored_17 : decode cL_areMirrored 17 = .ok (.goto 11, 3) := by decide +kernel
theorem dL_areMirrored_20 : decode cL_areMirrored 20 = .ok (.astore 4, 2) := by decide +kernel
theorem dL_areMirrored_22 : decode cL_areMirrored 22 = .ok (.iconst 1, 1) := by decide +kernel
theorem dL_areMirrored_23 : decode cL_areMirrored 23 = .ok (.ireturn, 1) := by decide +kernel
theorem dL_areMirrored_24 : decode cL_areMirrored 24 = .ok (.astore 4, 2) := by decide +kernel
theorem dL_areMirrored_26 : decode cL_areMirrored 26 = .ok (.iconst 2, 1) := by decide +kernel
theorem dL_areMirrored_27 : decode cL_areMirrored 27 = .ok (.ireturn, 1) := by decide +kernel
theorem dL_areMirrored_28 : decode cL_areMirrored 28 = .ok (.iconst 0, 1) := by decide +kernel
theorem dL_areMirrored_29 : decode cL_areMirrored 29 = .ok (.ireturn, 1) := by decide +kernel
set_option maxRecDepth 20000 in
theorem ggL_coincidencesAt_X0_coincidencesAt : GoodIn wsL_coincidencesAt wsX0_coincidencesAt := goodIn_ca (goodIn_r _ [6, 7, 8, 9, 10, 5, 11, 12, 13, 14, 15, 16, 17, 18, 19, 20, 21, 22, 23, 24, 25, 26, 27, 28, 29, 30, 31, 32, 33, 34, 35, 36, 37, 38, 39, 40, 41, 42, 43, 44, 45, 46, 47] (by decide +kernel) (by decide +kernel)) (goodIn_sub (fun _ h => List.mem_cons_of_mem _ (List.mem_append_right _ h)) (by decide +kernel))
set_option maxRecDepth 20000 in
theorem gL_coincidencesAt_X0_coincidencesAt : GoodIn wsL_coincidencesAt (wsV RL 64 RX0 yX0_coincidencesAt wsX0_coincidencesAt) := goodIn_app (goodIn_of _ (by decide +kernel)) ggL_coincidencesAt_X0_coincidencesAt
theorem dL_coincidencesAt_0 : decode cL_coincidencesAt 0 = .ok (.aload_n 2, 1) := by decide +kernel
theorem dL_coincidencesAt_1 : decode cL_coincidencesAt 1 = .ok (.iconst 0, 1) := by decide +kernel
theorem dL_coincidencesAt_2 : decode cL_coincidencesAt 2 = .ok (.aload_n 0, 1) := by decide +kernel
theorem dL_coincidencesAt_3 : decode cL_coincidencesAt 3 = .ok (.iload_n 1, 1) := by decide +kernel
theorem dL_coincidencesAt_4 : decode cL_coincidencesAt 4 = .ok (.invokevirtual 64, 3) := by decide +kernel
theorem dL_coincidencesAt_7 : decode cL_coincidencesAt 7 = .ok (.i2l, 1) := by decide +kernel
theorem dL_coincidencesAt_8 : decode cL_coincidencesAt 8 = .ok (.lastore, 1) := by decide +kernel
theorem dL_coincidencesAt_9 : decode cL_coincidencesAt 9 = .ok (.goto 6, 3) := by decide +kernel
theorem dL_coincidencesAt_12 : decode cL_coincidencesAt 12 = .ok (.astore_n 3, 1) := by decide +kernel
theorem dL_coincidencesAt_13 : decode cL_coincidencesAt 13 = .ok (.iconst 1, 1) := by decide +kernel
theorem dL_coincidencesAt_14 : decode cL_coincidencesAt 14 = .ok (.ireturn, 1) := by decide +kernel
theorem dL_coincidencesAt_15 : decode cL_coincidencesAt 15 = .ok (.iconst 0, 1) := by decide +kernel
theorem dL_coincidencesAt_16 : decode cL_coincidencesAt 16 = .ok (.ireturn, 1) := by decide +kernel
set_option maxRecDepth 20000 in
theorem ggL_luckOf_X0_luckOf : GoodIn wsL_luckOf wsX0_luckOf := goodIn_ca (goodIn_r _ [6, 7, 8, 9, 5, 10, 11, 12, 13, 14, 15, 16, 17, 18, 19, 20, 21, 22, 23, 24, 25, 26, 27, 28, 29, 30, 31, 32, 33, 34, 35, 36, 37, 38, 39, 40, 41, 42, 43, 44, 45, 46, 47, 48, 49] (by decide +kernel) (by decide +kernel)) (goodIn_sub (fun _ h => List.mem_cons_of_mem _ (List.mem_append_right _ h)) (by decide +kernel))
set_option maxRecDepth 20000 in
theorem gL_luckOf_X0_luckOf : GoodIn wsL_luckOf (wsV RL 67 RX0 yX0_luckOf wsX0_luckOf) := goodIn_app (goodIn_of _ (by decide +kernel)) ggL_luckOf_X0_luckOf
theorem dL_luckOf_0 : decode cL_luckOf 0 = .ok (.aload_n 2, 1) := by decide +kernel
theorem dL_luckOf_1 : decode cL_luckOf 1 = .ok (.iconst 0, 1) := by decide +kernel
theorem dL_luckOf_2 : decode cL_luckOf 2 = .ok (.aload_n 0, 1) := by decide +kernel
theorem dL_luckOf_3 : decode cL_luckOf 3 = .ok (.iload_n 1, 1) := by decide +kernel
theorem dL_luckOf_4 : decode cL_luckOf 4 = .ok (.invokevirtual 67, 3) := by decide +kernel
theorem dL_luckOf_7 : decode cL_luckOf 7 = .ok (.i2l, 1) := by decide +kernel
theorem dL_luckOf_8 : decode cL_luckOf 8 = .ok (.lastore, 1) := by decide +kernel
theorem dL_luckOf_9 : decode cL_luckOf 9 = .ok (.goto 6, 3) := by decide +kernel
theorem dL_luckOf_12 : decode cL_luckOf 12 = .ok (.astore_n 3, 1) := by decide +kernel
theorem dL_luckOf_13 : decode cL_luckOf 13 = .ok (.iconst 1, 1) := by decide +kernel
theorem dL_luckOf_14 : decode cL_luckOf 14 = .ok (.ireturn, 1) := by decide +kernel
theorem dL_luckOf_15 : decode cL_luckOf 15 = .ok (.iconst 0, 1) := by decide +kernel
theorem dL_luckOf_16 : decode cL_luckOf 16 = .ok (.ireturn, 1) := by decide +kernel
set_option maxRecDepth 20000 in
theorem ggL_coincidencesIn_X0_coincidencesIn : GoodIn wsL_coincidencesIn wsX0_coincidencesIn := goodIn_ca (goodIn_r _ [6, 7, 8, 9, 10, 11, 5, 12, 13, 14, 15, 16, 17, 18, 19, 20, 21, 22, 23, 24, 25, 26, 27, 28, 29, 30, 31, 32, 33, 34, 35, 36, 37, 38, 39, 40, 41, 42, 43, 44, 45, 46, 47, 48, 49, 50] (by decide +kernel) (by decide +kernel)) (goodIn_sub (fun _ h => List.mem_cons_of_mem _ (List.mem_append_right _ h)) (by decide +kernel))
set_option maxRecDepth 20000 in
theorem gL_coincidencesIn_X0_coincidencesIn : GoodIn wsL_coincidencesIn (wsV RL 70 RX0 yX0_coincidencesIn wsX0_coincidencesIn) := goodIn_app (goodIn_of _ (by decide +kernel)) ggL_coincidencesIn_X0_coincidencesIn
theorem dL_coincidencesIn_0 : decode cL_coincidencesIn 0 = .ok (.aload_n 2, 1) := by decide +kernel
theorem dL_coincidencesIn_1 : decode cL_coincidencesIn 1 = .ok (.iconst 0, 1) := by decide +kernel
theorem dL_coincidencesIn_2 : decode cL_coincidencesIn 2 = .ok (.aload_n 0, 1) := by decide +kernel
theorem dL_coincidencesIn_3 : decode cL_coincidencesIn 3 = .ok (.iload_n 1, 1) := by decide +kernel
theorem dL_coincidencesIn_4 : decode cL_coincidencesIn 4 = .ok (.invokevirtual 70, 3) := by decide +kernel
theorem dL_coincidencesIn_7 : decode cL_coincidencesIn 7 = .ok (.i2l, 1) := by decide +kernel
theorem dL_coincidencesIn_8 : decode cL_coincidencesIn 8 = .ok (.lastore, 1) := by decide +kernel
theorem dL_coincidencesIn_9 : decode cL_coincidencesIn 9 = .ok (.goto 6, 3) := by decide +kernel
theorem dL_coincidencesIn_12 : decode cL_coincidencesIn 12 = .ok (.astore_n 3, 1) := by decide +kernel
theorem dL_coincidencesIn_13 : decode cL_coincidencesIn 13 = .ok (.iconst 1, 1) := by decide +kernel
theorem dL_coincidencesIn_14 : decode cL_coincidencesIn 14 = .ok (.ireturn, 1) := by decide +kernel
theorem dL_coincidencesIn_15 : decode cL_coincidencesIn 15 = .ok (.iconst 0, 1) := by decide +kernel
theorem dL_coincidencesIn_16 : decode cL_coincidencesIn 16 = .ok (.ireturn, 1) := by decide +kernel
set_option maxRecDepth 20000 in
theorem ggL_hoursUntilTogether_X0_hoursUntilTogether : GoodIn wsL_hoursUntilTogether wsX0_hoursUntilTogether := goodIn_ca (goodIn_ca (goodIn_r _ [7, 8, 9, 10, 6, 11, 12, 13, 14, 15, 16, 17, 18, 19, 20, 21, 22, 23, 24, 25, 26, 27, 28, 29, 30, 31, 32, 33, 34, 35] (by decide +kernel) (by decide +kernel)) (goodIn_sub (fun _ h => List.mem_cons_of_mem _ (List.mem_append_left _ (List.mem_append_right _ h))) (by decide +kernel))) (goodIn_sub (fun _ h => List.mem_cons_of_mem _ (List.mem_append_right _ h)) (by decide +kernel))
set_option maxRecDepth 20000 in
theorem gL_hoursUntilTogether_X0_hoursUntilTogether : GoodIn wsL_hoursUntilTogether (wsV RL 73 RX0 yX0_hoursUntilTogether wsX0_hoursUntilTogether) := goodIn_app (goodIn_of _ (by decide +kernel)) ggL_hoursUntilTogether_X0_hoursUntilTogether
theorem dL_hoursUntilTogether_0 : decode cL_hoursUntilTogether 0 = .ok (.aload_n 3, 1) := by decide +kernel
theorem dL_hoursUntilTogether_1 : decode cL_hoursUntilTogether 1 = .ok (.iconst 0, 1) := by decide +kernel
theorem dL_hoursUntilTogether_2 : decode cL_hoursUntilTogether 2 = .ok (.aload_n 0, 1) := by decide +kernel
theorem dL_hoursUntilTogether_3 : decode cL_hoursUntilTogether 3 = .ok (.iload_n 1, 1) := by decide +kernel
theorem dL_hoursUntilTogether_4 : decode cL_hoursUntilTogether 4 = .ok (.iload_n 2, 1) := by decide +kernel
theorem dL_hoursUntilTogether_5 : decode cL_hoursUntilTogether 5 = .ok (.invokevirtual 73, 3) := by decide +kernel
theorem dL_hoursUntilTogether_8 : decode cL_hoursUntilTogether 8 = .ok (.i2l, 1) := by decide +kernel
theorem dL_hoursUntilTogether_9 : decode cL_hoursUntilTogether 9 = .ok (.lastore, 1) := by decide +kernel
theorem dL_hoursUntilTogether_10 : decode cL_hoursUntilTogether 10 = .ok (.goto 11, 3) := by decide +kernel
theorem dL_hoursUntilTogether_13 : decode cL_hoursUntilTogether 13 = .ok (.astore 4, 2) := by decide +kernel
theorem dL_hoursUntilTogether_15 : decode cL_hoursUntilTogether 15 = .ok (.iconst 1, 1) := by decide +kernel
theorem dL_hoursUntilTogether_16 : decode cL_hoursUntilTogether 16 = .ok (.ireturn, 1) := by decide +kernel
theorem dL_hoursUntilTogether_17 : decode cL_hoursUntilTogether 17 = .ok (.astore 4, 2) := by decide +kernel
theorem dL_hoursUntilTogether_19 : decode cL_hoursUntilTogether 19 = .ok (.iconst 2, 1) := by decide +kernel
theorem dL_hoursUntilTogether_20 : decode cL_hoursUntilTogether 20 = .ok (.ireturn, 1) := by decide +kernel
theorem dL_hoursUntilTogether_21 : decode cL_hoursUntilTogether 21 = .ok (.iconst 0, 1) := by decide +kernel
theorem dL_hoursUntilTogether_22 : decode cL_hoursUntilTogether 22 = .ok (.ireturn, 1) := by decide +kernel
set_option maxRecDepth 20000 in
theorem ggL_costOfMeeting_X0_costOfMeeting : GoodIn wsL_costOfMeeting wsX0_costOfMeeting := goodIn_ca (goodIn_ca (goodIn_r _ [7, 8, 9, 10, 11, 6, 12, 13, 14, 15, 16, 17, 18, 19, 20, 21, 22, 23, 24, 25, 26, 27, 28, 29, 30, 31, 32, 33, 34, 35, 36, 37, 38, 39, 40] (by decide +kernel) (by decide +kernel)) (goodIn_sub (fun _ h => List.mem_cons_of_mem _ (List.mem_append_left _ (List.mem_append_right _ h))) (by decide +kernel))) (goodIn_sub (fun _ h => List.mem_cons_of_mem _ (List.mem_append_right _ h)) (by decide +kernel))
set_option maxRecDepth 20000 in
theorem gL_costOfMeeting_X0_costOfMeeting : GoodIn wsL_costOfMeeting (wsV RL 76 RX0 yX0_costOfMeeting wsX0_costOfMeeting) := goodIn_app (goodIn_of _ (by decide +kernel)) ggL_costOfMeeting_X0_costOfMeeting
theorem dL_costOfMeeting_0 : decode cL_costOfMeeting 0 = .ok (.aload_n 3, 1) := by decide +kernel
theorem dL_costOfMeeting_1 : decode cL_costOfMeeting 1 = .ok (.iconst 0, 1) := by decide +kernel
theorem dL_costOfMeeting_2 : decode cL_costOfMeeting 2 = .ok (.aload_n 0, 1) := by decide +kernel
theorem dL_costOfMeeting_3 : decode cL_costOfMeeting 3 = .ok (.iload_n 1, 1) := by decide +kernel
theorem dL_costOfMeeting_4 : decode cL_costOfMeeting 4 = .ok (.iload_n 2, 1) := by decide +kernel
theorem dL_costOfMeeting_5 : decode cL_costOfMeeting 5 = .ok (.invokevirtual 76, 3) := by decide +kernel
theorem dL_costOfMeeting_8 : decode cL_costOfMeeting 8 = .ok (.i2l, 1) := by decide +kernel
theorem dL_costOfMeeting_9 : decode cL_costOfMeeting 9 = .ok (.lastore, 1) := by decide +kernel
theorem dL_costOfMeeting_10 : decode cL_costOfMeeting 10 = .ok (.goto 11, 3) := by decide +kernel
theorem dL_costOfMeeting_13 : decode cL_costOfMeeting 13 = .ok (.astore 4, 2) := by decide +kernel
theorem dL_costOfMeeting_15 : decode cL_costOfMeeting 15 = .ok (.iconst 1, 1) := by decide +kernel
theorem dL_costOfMeeting_16 : decode cL_costOfMeeting 16 = .ok (.ireturn, 1) := by decide +kernel
theorem dL_costOfMeeting_17 : decode cL_costOfMeeting 17 = .ok (.astore 4, 2) := by decide +kernel
theorem dL_costOfMeeting_19 : decode cL_costOfMeeting 19 = .ok (.iconst 2, 1) := by decide +kernel
theorem dL_costOfMeeting_20 : decode cL_costOfMeeting 20 = .ok (.ireturn, 1) := by decide +kernel
theorem dL_costOfMeeting_21 : decode cL_costOfMeeting 21 = .ok (.iconst 0, 1) := by decide +kernel
theorem dL_costOfMeeting_22 : decode cL_costOfMeeting 22 = .ok (.ireturn, 1) := by decide +kernel
set_option maxRecDepth 20000 in
theorem ggL_bestCorner_X0_bestCorner : GoodIn wsL_bestCorner wsX0_bestCorner := goodIn_ca (goodIn_r _ [6, 7, 8, 9, 10, 5, 11, 12, 13, 14, 15, 16, 17, 18, 19, 20, 21, 22, 23, 24, 25, 26, 27, 28, 29, 30, 31, 32, 33, 34, 35, 36, 37, 38, 39, 40, 41, 42, 43, 44, 45] (by decide +kernel) (by decide +kernel)) (goodIn_sub (fun _ h => List.mem_cons_of_mem _ (List.mem_append_right _ h)) (by decide +kernel))
set_option maxRecDepth 20000 in
theorem gL_bestCorner_X0_bestCorner : GoodIn wsL_bestCorner (wsV RL 79 RX0 yX0_bestCorner wsX0_bestCorner) := goodIn_app (goodIn_of _ (by decide +kernel)) ggL_bestCorner_X0_bestCorner
theorem dL_bestCorner_0 : decode cL_bestCorner 0 = .ok (.aload_n 2, 1) := by decide +kernel
theorem dL_bestCorner_1 : decode cL_bestCorner 1 = .ok (.iconst 0, 1) := by decide +kernel
theorem dL_bestCorner_2 : decode cL_bestCorner 2 = .ok (.aload_n 0, 1) := by decide +kernel
theorem dL_bestCorner_3 : decode cL_bestCorner 3 = .ok (.iload_n 1, 1) := by decide +kernel
theorem dL_bestCorner_4 : decode cL_bestCorner 4 = .ok (.invokevirtual 79, 3) := by decide +kernel
theorem dL_bestCorner_7 : decode cL_bestCorner 7 = .ok (.i2l, 1) := by decide +kernel
theorem dL_bestCorner_8 : decode cL_bestCorner 8 = .ok (.lastore, 1) := by decide +kernel
theorem dL_bestCorner_9 : decode cL_bestCorner 9 = .ok (.goto 6, 3) := by decide +kernel
theorem dL_bestCorner_12 : decode cL_bestCorner 12 = .ok (.astore_n 3, 1) := by decide +kernel
theorem dL_bestCorner_13 : decode cL_bestCorner 13 = .ok (.iconst 1, 1) := by decide +kernel
theorem dL_bestCorner_14 : decode cL_bestCorner 14 = .ok (.ireturn, 1) := by decide +kernel
theorem dL_bestCorner_15 : decode cL_bestCorner 15 = .ok (.iconst 0, 1) := by decide +kernel
theorem dL_bestCorner_16 : decode cL_bestCorner 16 = .ok (.ireturn, 1) := by decide +kernel
set_option maxRecDepth 20000 in
theorem ggL_bestTicket_X0_bestTicket : GoodIn wsL_bestTicket wsX0_bestTicket := goodIn_ca (goodIn_r _ [6, 7, 8, 9, 10, 5, 11, 12, 13, 14, 15, 16, 17, 18, 19, 20, 21, 22, 23, 24, 25, 26, 27, 28, 29, 30, 31, 32, 33, 34, 35, 36, 37, 38, 39, 40, 41, 42, 43, 44, 45] (by decide +kernel) (by decide +kernel)) (goodIn_sub (fun _ h => List.mem_cons_of_mem _ (List.mem_append_right _ h)) (by decide +kernel))
set_option maxRecDepth 20000 in
theorem gL_bestTicket_X0_bestTicket : GoodIn wsL_bestTicket (wsV RL 82 RX0 yX0_bestTicket wsX0_bestTicket) := goodIn_app (goodIn_of _ (by decide +kernel)) ggL_bestTicket_X0_bestTicket
theorem dL_bestTicket_0 : decode cL_bestTicket 0 = .ok (.aload_n 2, 1) := by decide +kernel
theorem dL_bestTicket_1 : decode cL_bestTicket 1 = .ok (.iconst 0, 1) := by decide +kernel
theorem dL_bestTicket_2 : decode cL_bestTicket 2 = .ok (.aload_n 0, 1) := by decide +kernel
theorem dL_bestTicket_3 : decode cL_bestTicket 3 = .ok (.iload_n 1, 1) := by decide +kernel
theorem dL_bestTicket_4 : decode cL_bestTicket 4 = .ok (.invokevirtual 82, 3) := by decide +kernel
theorem dL_bestTicket_7 : decode cL_bestTicket 7 = .ok (.i2l, 1) := by decide +kernel
theorem dL_bestTicket_8 : decode cL_bestTicket 8 = .ok (.lastore, 1) := by decide +kernel
theorem dL_bestTicket_9 : decode cL_bestTicket 9 = .ok (.goto 6, 3) := by decide +kernel
theorem dL_bestTicket_12 : decode cL_bestTicket 12 = .ok (.astore_n 3, 1) := by decide +kernel
theorem dL_bestTicket_13 : decode cL_bestTicket 13 = .ok (.iconst 1, 1) := by decide +kernel
theorem dL_bestTicket_14 : decode cL_bestTicket 14 = .ok (.ireturn, 1) := by decide +kernel
theorem dL_bestTicket_15 : decode cL_bestTicket 15 = .ok (.iconst 0, 1) := by decide +kernel
theorem dL_bestTicket_16 : decode cL_bestTicket 16 = .ok (.ireturn, 1) := by decide +kernel
set_option maxRecDepth 20000 in
theorem ggL_law_X0_init : GoodIn wsL_law wsX0_init := goodIn_r _ [9, 10, 11, 12, 13, 14, 15, 16, 17, 18, 19, 20, 21, 22, 576, 577, 578, 579, 580, 581, 582, 583, 584] (by decide +kernel) (by decide +kernel)
set_option maxRecDepth 20000 in
theorem gL_law_X0_init : GoodIn wsL_law (wsX0_init) := ggL_law_X0_init
set_option maxRecDepth 20000 in
theorem ggL_law_X1_init : GoodIn wsL_law wsX1_init := goodIn_r _ [25, 26, 11, 12, 13, 27, 28, 29, 30, 31, 585, 586, 587, 588, 589, 590, 591, 592, 593, 594] (by decide +kernel) (by decide +kernel)
set_option maxRecDepth 20000 in
theorem gL_law_X1_init : GoodIn wsL_law (wsX1_init) := ggL_law_X1_init
set_option maxRecDepth 20000 in
theorem ggL_law_L_addStranger : GoodIn wsL_law wsL_addStranger := goodIn_ca (goodIn_ca (goodIn_r _ [35, 36, 37, 38, 39, 40, 2, 41, 42, 43, 44, 45, 18, 14, 15, 16, 17, 46, 47, 48, 49, 50, 51, 52, 53, 54, 55, 56, 57, 576, 577, 578, 579, 580, 581, 582, 583, 584] (by decide +kernel) (by decide +kernel)) (goodIn_sub (fun _ h => List.mem_append_left _ (List.mem_append_left _ (List.mem_append_right _ h))) (by decide +kernel))) (goodIn_sub (fun _ h => List.mem_append_left _ (List.mem_append_right _ h)) (by decide +kernel))
set_option maxRecDepth 20000 in
theorem gL_law_L_addStranger : GoodIn wsL_law (va_wsS RL 89 yL_addStranger wsL_addStranger) := goodIn_app (goodIn_of _ (by decide +kernel)) ggL_law_L_addStranger
set_option maxRecDepth 20000 in
theorem ggL_law_X1_addStranger : GoodIn wsL_law wsX1_addStranger := goodIn_r _ [61, 62, 63, 27, 28, 29, 30, 64, 65, 5, 66, 67, 68, 69, 70, 71, 72, 73, 585, 586, 587, 588, 589, 590, 591, 592, 593, 594] (by decide +kernel) (by decide +kernel)
set_option maxRecDepth 20000 in
theorem gL_law_X1_addStranger : GoodIn wsL_law (wsV RL 94 RX1 yX1_addStranger wsX1_addStranger) := goodIn_app (goodIn_of _ (by decide +kernel)) ggL_law_X1_addStranger
set_option maxRecDepth 20000 in
theorem ggL_law_X1_thrown : GoodIn wsL_law wsX1_thrown := goodIn_r _ [77, 62, 585, 586, 587, 588, 589, 590, 591, 592, 593, 594] (by decide +kernel) (by decide +kernel)
set_option maxRecDepth 20000 in
theorem gL_law_X1_thrown : GoodIn wsL_law (wsV RL 95 RX1 yX1_thrown wsX1_thrown) := goodIn_app (goodIn_of _ (by decide +kernel)) ggL_law_X1_thrown
set_option maxRecDepth 20000 in
theorem ggL_law_L_setWalk : GoodIn wsL_law wsL_setWalk := goodIn_ca (goodIn_ca (goodIn_r _ [80, 81, 36, 82, 83, 84, 2, 85, 42, 43, 17, 86, 87, 88, 89, 90, 91, 18, 55, 56, 57, 576, 577, 578, 579, 580, 581, 582, 583, 584] (by decide +kernel) (by decide +kernel)) (goodIn_sub (fun _ h => List.mem_append_left _ (List.mem_append_left _ (List.mem_append_right _ h))) (by decide +kernel))) (goodIn_sub (fun _ h => List.mem_append_right _ h) (by decide +kernel))
set_option maxRecDepth 20000 in
theorem gL_law_L_setWalk : GoodIn wsL_law (va_wsS RL 99 yL_setWalk wsL_setWalk) := goodIn_app (goodIn_of _ (by decide +kernel)) ggL_law_L_setWalk
set_option maxRecDepth 20000 in
theorem ggL_law_X1_setWalk : GoodIn wsL_law wsX1_setWalk := goodIn_r _ [95, 62, 30, 96, 97, 98, 5, 99, 63, 64, 65, 66, 70, 71, 72, 73, 67, 68, 69, 585, 586, 587, 588, 589, 590, 591, 592, 593, 594] (by decide +kernel) (by decide +kernel)
set_option maxRecDepth 20000 in
theorem gL_law_X1_setWalk : GoodIn wsL_law (wsV RL 102 RX1 yX1_setWalk wsX1_setWalk) := goodIn_app (goodIn_of _ (by decide +kernel)) ggL_law_X1_setWalk
set_option maxRecDepth 20000 in
theorem ggL_law_L_move : GoodIn wsL_law wsL_move := goodIn_ca (goodIn_ca (goodIn_ca (goodIn_r _ [102, 81, 36, 37, 103, 104, 105, 2, 106, 42, 43, 44, 45, 16, 86, 87, 88, 89, 90, 91, 18, 52, 53, 54, 107, 108, 109, 110, 111, 112, 113, 114, 115, 116, 117, 118, 119, 120, 20, 22, 576, 577, 578, 579, 580, 581, 582, 583, 584] (by decide +kernel) (by decide +kernel)) (goodIn_sub (fun _ h => List.mem_append_left _ (List.mem_append_left _ (List.mem_append_right _ h))) (by decide +kernel))) (goodIn_sub (fun _ h => List.mem_append_left _ (List.mem_append_right _ h)) (by decide +kernel))) (goodIn_sub (fun _ h => List.mem_append_right _ h) (by decide +kernel))
set_option maxRecDepth 20000 in
theorem gL_law_L_move : GoodIn wsL_law (va_wsS RL 103 yL_move wsL_move) := goodIn_app (goodIn_of _ (by decide +kernel)) ggL_law_L_move
set_option maxRecDepth 20000 in
theorem ggL_law_X1_move : GoodIn wsL_law wsX1_move := goodIn_r _ [124, 62, 29, 31, 96, 97, 98, 5, 99, 63, 64, 65, 66, 70, 71, 72, 73, 67, 68, 69, 125, 126, 127, 128, 111, 112, 113, 129, 115, 116, 130, 131, 132, 133, 134, 585, 586, 587, 588, 589, 590, 591, 592, 593, 594] (by decide +kernel) (by decide +kernel)
set_option maxRecDepth 20000 in
theorem gL_law_X1_move : GoodIn wsL_law (wsV RL 105 RX1 yX1_move wsX1_move) := goodIn_app (goodIn_of _ (by decide +kernel)) ggL_law_X1_move
set_option maxRecDepth 20000 in
theorem ggL_law_L_swapUmbrellas : GoodIn wsL_law wsL_swapUmbrellas := goodIn_ca (goodIn_ca (goodIn_ca (goodIn_r _ [137, 81, 36, 37, 138, 139, 140, 2, 141, 44, 45, 16, 15, 142, 143, 144, 145, 42, 43, 86, 87, 88, 89, 90, 91, 18, 117, 118, 119, 120, 20, 22, 146, 147, 148, 149, 150, 151, 152, 153, 17, 154, 155, 156, 157, 14, 158, 159, 160, 110, 111, 112, 113, 161, 162, 163, 164, 165, 166, 167, 168, 169, 170, 171, 172, 576, 577, 578, 579, 580, 581, 582, 583, 584] (by decide +kernel) (by decide +kernel)) (goodIn_sub (fun _ h => List.mem_append_left _ (List.mem_append_right _ h)) (by decide +kernel))) (goodIn_sub (fun _ h => List.mem_append_left _ (List.mem_append_left _ (List.mem_append_right _ h))) (by decide +kernel))) (goodIn_sub (fun _ h => List.mem_append_right _ h) (by decide +kernel))
set_option maxRecDepth 20000 in
theorem gL_law_L_swapUmbrellas : GoodIn wsL_law (va_wsS RL 106 yL_swapUmbrellas wsL_swapUmbrellas) := goodIn_app (goodIn_of _ (by decide +kernel)) ggL_law_L_swapUmbrellas
set_option maxRecDepth 20000 in
theorem ggL_law_X1_swapUmbrellas : GoodIn wsL_law wsX1_swapUmbrellas := goodIn_r _ [176, 62, 29, 31, 28, 177, 178, 179, 5, 180, 96, 97, 98, 99, 63, 64, 65, 66, 70, 71, 72, 73, 130, 131, 132, 133, 134, 181, 182, 183, 184, 185, 186, 187, 188, 189, 190, 191, 192, 193, 194, 195, 196, 30, 197, 198, 199, 200, 27, 201, 202, 203, 204, 205, 206, 585, 586, 587, 588, 589, 590, 591, 592, 593, 594] (by decide +kernel) (by decide +kernel)
set_option maxRecDepth 20000 in
theorem gL_law_X1_swapUmbrellas : GoodIn wsL_law (wsV RL 108 RX1 yX1_swapUmbrellas wsX1_swapUmbrellas) := goodIn_app (goodIn_of _ (by decide +kernel)) ggL_law_X1_swapUmbrellas
set_option maxRecDepth 20000 in
theorem ggL_law_L_swapTickets : GoodIn wsL_law wsL_swapTickets := goodIn_ca (goodIn_ca (goodIn_ca (goodIn_r _ [209, 81, 36, 37, 210, 211, 212, 2, 213, 14, 142, 143, 144, 145, 42, 43, 86, 87, 88, 89, 90, 91, 18, 117, 118, 119, 120, 44, 45, 20, 22, 146, 147, 148, 149, 150, 151, 152, 153, 16, 17, 154, 155, 156, 157, 15, 158, 159, 160, 110, 111, 112, 113, 161, 162, 163, 164, 165, 166, 167, 168, 169, 170, 171, 172, 576, 577, 578, 579, 580, 581, 582, 583, 584] (by decide +kernel) (by decide +kernel)) (goodIn_sub (fun _ h => List.mem_append_left _ (List.mem_append_left _ (List.mem_append_right _ h))) (by decide +kernel))) (goodIn_sub (fun _ h => List.mem_append_right _ h) (by decide +kernel))) (goodIn_sub (fun _ h => List.mem_append_left _ (List.mem_append_right _ h)) (by decide +kernel))
set_option maxRecDepth 20000 in
theorem gL_law_L_swapTickets : GoodIn wsL_law (va_wsS RL 109 yL_swapTickets wsL_swapTickets) := goodIn_app (goodIn_of _ (by decide +kernel)) ggL_law_L_swapTickets
set_option maxRecDepth 20000 in
theorem ggL_law_X1_swapTickets : GoodIn wsL_law wsX1_swapTickets := goodIn_r _ [217, 62, 31, 27, 177, 178, 179, 5, 180, 96, 97, 98, 99, 63, 64, 65, 66, 70, 71, 72, 73, 130, 131, 132, 133, 134, 181, 182, 183, 184, 185, 186, 187, 188, 189, 190, 191, 192, 193, 194, 195, 196, 29, 30, 197, 198, 199, 200, 28, 201, 202, 203, 204, 205, 206, 585, 586, 587, 588, 589, 590, 591, 592, 593, 594] (by decide +kernel) (by decide +kernel)
set_option maxRecDepth 20000 in
theorem gL_law_X1_swapTickets : GoodIn wsL_law (wsV RL 111 RX1 yX1_swapTickets wsX1_swapTickets) := goodIn_app (goodIn_of _ (by decide +kernel)) ggL_law_X1_swapTickets
set_option maxRecDepth 20000 in
theorem ggL_law_L_draw : GoodIn wsL_law wsL_draw := goodIn_ca (goodIn_ca (goodIn_ca (goodIn_r _ [220, 81, 36, 37, 221, 222, 223, 2, 224, 42, 43, 14, 86, 87, 88, 89, 90, 91, 18, 46, 47, 48, 117, 118, 119, 120, 44, 45, 20, 22, 576, 577, 578, 579, 580, 581, 582, 583, 584] (by decide +kernel) (by decide +kernel)) (goodIn_sub (fun _ h => List.mem_append_left _ (List.mem_append_left _ (List.mem_append_right _ h))) (by decide +kernel))) (goodIn_sub (fun _ h => List.mem_append_right _ h) (by decide +kernel))) (goodIn_sub (fun _ h => List.mem_append_left _ (List.mem_append_right _ h)) (by decide +kernel))
set_option maxRecDepth 20000 in
theorem gL_law_L_draw : GoodIn wsL_law (va_wsS RL 112 yL_draw wsL_draw) := goodIn_app (goodIn_of _ (by decide +kernel)) ggL_law_L_draw
set_option maxRecDepth 20000 in
theorem ggL_law_X1_draw : GoodIn wsL_law wsX1_draw := goodIn_r _ [228, 62, 31, 27, 96, 97, 98, 5, 99, 63, 64, 65, 66, 70, 71, 72, 73, 130, 131, 132, 133, 134, 585, 586, 587, 588, 589, 590, 591, 592, 593, 594] (by decide +kernel) (by decide +kernel)
set_option maxRecDepth 20000 in
theorem gL_law_X1_draw : GoodIn wsL_law (wsV RL 114 RX1 yX1_draw wsX1_draw) := goodIn_app (goodIn_of _ (by decide +kernel)) ggL_law_X1_draw
set_option maxRecDepth 20000 in
theorem ggL_law_L_pass : GoodIn wsL_law wsL_pass := goodIn_ca (goodIn_r _ [231, 36, 232, 233, 234, 2, 235, 42, 43, 21, 236, 237, 238, 239, 18, 16, 20, 114, 115, 112, 116, 19, 150, 151, 152, 153, 17, 146, 147, 148, 149, 154, 155, 156, 157, 14, 15, 158, 159, 160, 110, 111, 113, 161, 162, 163, 164, 165, 166, 167, 168, 169, 240, 241, 242, 243, 244, 245, 246, 247, 576, 577, 578, 579, 580, 581, 582, 583, 584] (by decide +kernel) (by decide +kernel)) (goodIn_sub (fun _ h => List.mem_append_left _ (List.mem_append_left _ (List.mem_append_right _ h))) (by decide +kernel))
set_option maxRecDepth 20000 in
theorem gL_law_L_pass : GoodIn wsL_law (va_wsS RL 115 yL_pass wsL_pass) := goodIn_app (goodIn_of _ (by decide +kernel)) ggL_law_L_pass
set_option maxRecDepth 20000 in
theorem ggL_law_X1_pass : GoodIn wsL_law wsX1_pass := goodIn_r _ [251, 62, 252, 64, 65, 5, 66, 70, 71, 72, 73, 253, 254, 255, 256, 63, 29, 31, 257, 193, 194, 195, 196, 30, 185, 186, 187, 188, 189, 190, 191, 192, 197, 198, 199, 200, 27, 28, 201, 202, 203, 258, 259, 260, 261, 585, 586, 587, 588, 589, 590, 591, 592, 593, 594] (by decide +kernel) (by decide +kernel)
set_option maxRecDepth 20000 in
theorem gL_law_X1_pass : GoodIn wsL_law (wsV RL 118 RX1 yX1_pass wsX1_pass) := goodIn_app (goodIn_of _ (by decide +kernel)) ggL_law_X1_pass
set_option maxRecDepth 20000 in
theorem ggL_law_X0_strangers : GoodIn wsL_law wsX0_strangers := goodIn_r _ [265, 18, 576, 577, 578, 579, 580, 581, 582, 583, 584] (by decide +kernel) (by decide +kernel)
set_option maxRecDepth 20000 in
theorem gL_law_X0_strangers : GoodIn wsL_law (wsV RL 119 RX0 yX0_strangers wsX0_strangers) := goodIn_app (goodIn_of _ (by decide +kernel)) ggL_law_X0_strangers
set_option maxRecDepth 20000 in
theorem ggL_law_X1_strangers : GoodIn wsL_law wsX1_strangers := goodIn_r _ [269, 63, 270, 271, 272, 5, 273, 62, 585, 586, 587, 588, 589, 590, 591, 592, 593, 594] (by decide +kernel) (by decide +kernel)
set_option maxRecDepth 20000 in
theorem gL_law_X1_strangers : GoodIn wsL_law (wsV RL 122 RX1 yX1_strangers wsX1_strangers) := goodIn_app (goodIn_of _ (by decide +kernel)) ggL_law_X1_strangers
set_option maxRecDepth 20000 in
theorem ggL_law_X0_hour : GoodIn wsL_law wsX0_hour := goodIn_r _ [277, 19, 576, 577, 578, 579, 580, 581, 582, 583, 584] (by decide +kernel) (by decide +kernel)
set_option maxRecDepth 20000 in
theorem gL_law_X0_hour : GoodIn wsL_law (wsV RL 123 RX0 yX0_hour wsX0_hour) := goodIn_app (goodIn_of _ (by decide +kernel)) ggL_law_X0_hour
set_option maxRecDepth 20000 in
theorem ggL_law_X1_hour : GoodIn wsL_law wsX1_hour := goodIn_r _ [281, 257, 270, 271, 272, 5, 273, 62, 585, 586, 587, 588, 589, 590, 591, 592, 593, 594] (by decide +kernel) (by decide +kernel)
set_option maxRecDepth 20000 in
theorem gL_law_X1_hour : GoodIn wsL_law (wsV RL 126 RX1 yX1_hour wsX1_hour) := goodIn_app (goodIn_of _ (by decide +kernel)) ggL_law_X1_hour
set_option maxRecDepth 20000 in
theorem ggL_law_X0_store : GoodIn wsL_law wsX0_store := goodIn_r _ [285, 20, 576, 577, 578, 579, 580, 581, 582, 583, 584] (by decide +kernel) (by decide +kernel)
set_option maxRecDepth 20000 in
theorem gL_law_X0_store : GoodIn wsL_law (wsV RL 127 RX0 yX0_store wsX0_store) := goodIn_app (goodIn_of _ (by decide +kernel)) ggL_law_X0_store
set_option maxRecDepth 20000 in
theorem ggL_law_X1_store : GoodIn wsL_law wsX1_store := goodIn_r _ [289, 31, 270, 271, 272, 5, 273, 62, 585, 586, 587, 588, 589, 590, 591, 592, 593, 594] (by decide +kernel) (by decide +kernel)
set_option maxRecDepth 20000 in
theorem gL_law_X1_store : GoodIn wsL_law (wsV RL 130 RX1 yX1_store wsX1_store) := goodIn_app (goodIn_of _ (by decide +kernel)) ggL_law_X1_store
set_option maxRecDepth 20000 in
theorem ggL_law_X0_counted : GoodIn wsL_law wsX0_counted := goodIn_r _ [293, 21, 576, 577, 578, 579, 580, 581, 582, 583, 584] (by decide +kernel) (by decide +kernel)
set_option maxRecDepth 20000 in
theorem gL_law_X0_counted : GoodIn wsL_law (wsV RL 131 RX0 yX0_counted wsX0_counted) := goodIn_app (goodIn_of _ (by decide +kernel)) ggL_law_X0_counted
set_option maxRecDepth 20000 in
theorem ggL_law_X1_counted : GoodIn wsL_law wsX1_counted := goodIn_r _ [297, 252, 270, 271, 272, 5, 273, 62, 585, 586, 587, 588, 589, 590, 591, 592, 593, 594] (by decide +kernel) (by decide +kernel)
set_option maxRecDepth 20000 in
theorem gL_law_X1_counted : GoodIn wsL_law (wsV RL 134 RX1 yX1_counted wsX1_counted) := goodIn_app (goodIn_of _ (by decide +kernel)) ggL_law_X1_counted
set_option maxRecDepth 20000 in
theorem ggL_law_X0_spent : GoodIn wsL_law wsX0_spent := goodIn_r _ [301, 22, 576, 577, 578, 579, 580, 581, 582, 583, 584] (by decide +kernel) (by decide +kernel)
set_option maxRecDepth 20000 in
theorem gL_law_X0_spent : GoodIn wsL_law (wsV RL 135 RX0 yX0_spent wsX0_spent) := goodIn_app (goodIn_of _ (by decide +kernel)) ggL_law_X0_spent
set_option maxRecDepth 20000 in
theorem ggL_law_X1_spent : GoodIn wsL_law wsX1_spent := goodIn_r _ [305, 134, 270, 271, 272, 5, 273, 62, 585, 586, 587, 588, 589, 590, 591, 592, 593, 594] (by decide +kernel) (by decide +kernel)
set_option maxRecDepth 20000 in
theorem gL_law_X1_spent : GoodIn wsL_law (wsV RL 138 RX1 yX1_spent wsX1_spent) := goodIn_app (goodIn_of _ (by decide +kernel)) ggL_law_X1_spent
set_option maxRecDepth 20000 in
theorem ggL_law_L_ticketOf : GoodIn wsL_law wsL_ticketOf := goodIn_ca (goodIn_r _ [308, 81, 309, 310, 311, 2, 312, 14, 86, 87, 88, 89, 90, 91, 18, 576, 577, 578, 579, 580, 581, 582, 583, 584] (by decide +kernel) (by decide +kernel)) (goodIn_sub (fun _ h => List.mem_append_right _ h) (by decide +kernel))
set_option maxRecDepth 20000 in
theorem gL_law_L_ticketOf : GoodIn wsL_law (va_wsS RL 139 yL_ticketOf wsL_ticketOf) := goodIn_app (goodIn_of _ (by decide +kernel)) ggL_law_L_ticketOf
set_option maxRecDepth 20000 in
theorem ggL_law_X1_ticketOf : GoodIn wsL_law wsX1_ticketOf := goodIn_r _ [316, 27, 317, 318, 319, 5, 320, 62, 96, 97, 98, 99, 63, 64, 65, 66, 70, 71, 72, 73, 585, 586, 587, 588, 589, 590, 591, 592, 593, 594] (by decide +kernel) (by decide +kernel)
set_option maxRecDepth 20000 in
theorem gL_law_X1_ticketOf : GoodIn wsL_law (wsV RL 141 RX1 yX1_ticketOf wsX1_ticketOf) := goodIn_app (goodIn_of _ (by decide +kernel)) ggL_law_X1_ticketOf
set_option maxRecDepth 20000 in
theorem ggL_law_L_colourOf : GoodIn wsL_law wsL_colourOf := goodIn_ca (goodIn_r _ [323, 81, 324, 325, 326, 2, 327, 15, 86, 87, 88, 89, 90, 91, 18, 576, 577, 578, 579, 580, 581, 582, 583, 584] (by decide +kernel) (by decide +kernel)) (goodIn_sub (fun _ h => List.mem_append_right _ h) (by decide +kernel))
set_option maxRecDepth 20000 in
theorem gL_law_L_colourOf : GoodIn wsL_law (va_wsS RL 142 yL_colourOf wsL_colourOf) := goodIn_app (goodIn_of _ (by decide +kernel)) ggL_law_L_colourOf
set_option maxRecDepth 20000 in
theorem ggL_law_X1_colourOf : GoodIn wsL_law wsX1_colourOf := goodIn_r _ [331, 28, 317, 318, 319, 5, 320, 62, 96, 97, 98, 99, 63, 64, 65, 66, 70, 71, 72, 73, 585, 586, 587, 588, 589, 590, 591, 592, 593, 594] (by decide +kernel) (by decide +kernel)
set_option maxRecDepth 20000 in
theorem gL_law_X1_colourOf : GoodIn wsL_law (wsV RL 144 RX1 yX1_colourOf wsX1_colourOf) := goodIn_app (goodIn_of _ (by decide +kernel)) ggL_law_X1_colourOf
set_option maxRecDepth 20000 in
theorem ggL_law_L_cornerOf : GoodIn wsL_law wsL_cornerOf := goodIn_ca (goodIn_r _ [334, 81, 335, 336, 337, 2, 338, 16, 86, 87, 88, 89, 90, 91, 18, 576, 577, 578, 579, 580, 581, 582, 583, 584] (by decide +kernel) (by decide +kernel)) (goodIn_sub (fun _ h => List.mem_append_right _ h) (by decide +kernel))
set_option maxRecDepth 20000 in
theorem gL_law_L_cornerOf : GoodIn wsL_law (va_wsS RL 145 yL_cornerOf wsL_cornerOf) := goodIn_app (goodIn_of _ (by decide +kernel)) ggL_law_L_cornerOf
set_option maxRecDepth 20000 in
theorem ggL_law_X1_cornerOf : GoodIn wsL_law wsX1_cornerOf := goodIn_r _ [342, 29, 317, 318, 319, 5, 320, 62, 96, 97, 98, 99, 63, 64, 65, 66, 70, 71, 72, 73, 585, 586, 587, 588, 589, 590, 591, 592, 593, 594] (by decide +kernel) (by decide +kernel)
set_option maxRecDepth 20000 in
theorem gL_law_X1_cornerOf : GoodIn wsL_law (wsV RL 147 RX1 yX1_cornerOf wsX1_cornerOf) := goodIn_app (goodIn_of _ (by decide +kernel)) ggL_law_X1_cornerOf
set_option maxRecDepth 20000 in
theorem ggL_law_L_walkOf : GoodIn wsL_law wsL_walkOf := goodIn_ca (goodIn_r _ [345, 81, 346, 347, 348, 2, 349, 17, 86, 87, 88, 89, 90, 91, 18, 576, 577, 578, 579, 580, 581, 582, 583, 584] (by decide +kernel) (by decide +kernel)) (goodIn_sub (fun _ h => List.mem_append_right _ h) (by decide +kernel))
set_option maxRecDepth 20000 in
theorem gL_law_L_walkOf : GoodIn wsL_law (va_wsS RL 148 yL_walkOf wsL_walkOf) := goodIn_app (goodIn_of _ (by decide +kernel)) ggL_law_L_walkOf
set_option maxRecDepth 20000 in
theorem ggL_law_X1_walkOf : GoodIn wsL_law wsX1_walkOf := goodIn_r _ [353, 30, 317, 318, 319, 5, 320, 62, 96, 97, 98, 99, 63, 64, 65, 66, 70, 71, 72, 73, 585, 586, 587, 588, 589, 590, 591, 592, 593, 594] (by decide +kernel) (by decide +kernel)
set_option maxRecDepth 20000 in
theorem gL_law_X1_walkOf : GoodIn wsL_law (wsV RL 150 RX1 yX1_walkOf wsX1_walkOf) := goodIn_app (goodIn_of _ (by decide +kernel)) ggL_law_X1_walkOf
set_option maxRecDepth 20000 in
theorem ggL_law_L_peopleAt : GoodIn wsL_law wsL_peopleAt := goodIn_ca (goodIn_r _ [356, 81, 357, 358, 359, 2, 360, 361, 362, 363, 90, 91, 52, 53, 54, 244, 245, 246, 247, 18, 16, 576, 577, 578, 579, 580, 581, 582, 583, 584] (by decide +kernel) (by decide +kernel)) (goodIn_sub (fun _ h => List.mem_append_right _ h) (by decide +kernel))
set_option maxRecDepth 20000 in
theorem gL_law_L_peopleAt : GoodIn wsL_law (va_wsS RL 151 yL_peopleAt wsL_peopleAt) := goodIn_app (goodIn_of _ (by decide +kernel)) ggL_law_L_peopleAt
set_option maxRecDepth 20000 in
theorem ggL_law_X1_peopleAt : GoodIn wsL_law wsX1_peopleAt := goodIn_r _ [367, 62, 67, 68, 5, 69, 64, 65, 66, 258, 259, 260, 261, 63, 29, 70, 71, 72, 73, 585, 586, 587, 588, 589, 590, 591, 592, 593, 594] (by decide +kernel) (by decide +kernel)
set_option maxRecDepth 20000 in
theorem gL_law_X1_peopleAt : GoodIn wsL_law (wsV RL 153 RX1 yX1_peopleAt wsX1_peopleAt) := goodIn_app (goodIn_of _ (by decide +kernel)) ggL_law_X1_peopleAt
set_option maxRecDepth 20000 in
theorem ggL_law_L_pointsOf : GoodIn wsL_law wsL_pointsOf := goodIn_ca (goodIn_ca (goodIn_r _ [370, 81, 36, 371, 372, 373, 2, 374, 142, 143, 144, 145, 42, 43, 86, 87, 88, 89, 90, 91, 18, 154, 155, 156, 157, 14, 15, 158, 159, 160, 110, 111, 112, 113, 161, 162, 163, 164, 165, 166, 167, 168, 169, 576, 577, 578, 579, 580, 581, 582, 583, 584] (by decide +kernel) (by decide +kernel)) (goodIn_sub (fun _ h => List.mem_append_left _ (List.mem_append_left _ (List.mem_append_right _ h))) (by decide +kernel))) (goodIn_sub (fun _ h => List.mem_append_right _ h) (by decide +kernel))
set_option maxRecDepth 20000 in
theorem gL_law_L_pointsOf : GoodIn wsL_law (va_wsS RL 154 yL_pointsOf wsL_pointsOf) := goodIn_app (goodIn_of _ (by decide +kernel)) ggL_law_L_pointsOf
set_option maxRecDepth 20000 in
theorem ggL_law_X1_pointsOf : GoodIn wsL_law wsX1_pointsOf := goodIn_r _ [378, 62, 177, 178, 179, 5, 180, 96, 97, 98, 99, 63, 64, 65, 66, 197, 198, 199, 200, 27, 28, 201, 202, 203, 585, 586, 587, 588, 589, 590, 591, 592, 593, 594] (by decide +kernel) (by decide +kernel)
set_option maxRecDepth 20000 in
theorem gL_law_X1_pointsOf : GoodIn wsL_law (wsV RL 156 RX1 yX1_pointsOf wsX1_pointsOf) := goodIn_app (goodIn_of _ (by decide +kernel)) ggL_law_X1_pointsOf
set_option maxRecDepth 20000 in
theorem ggL_law_L_areTogether : GoodIn wsL_law wsL_areTogether := goodIn_ca (goodIn_ca (goodIn_r _ [381, 81, 36, 382, 383, 384, 2, 385, 16, 142, 143, 144, 145, 42, 43, 86, 87, 88, 89, 90, 91, 18, 576, 577, 578, 579, 580, 581, 582, 583, 584] (by decide +kernel) (by decide +kernel)) (goodIn_sub (fun _ h => List.mem_append_left _ (List.mem_append_left _ (List.mem_append_right _ h))) (by decide +kernel))) (goodIn_sub (fun _ h => List.mem_append_right _ h) (by decide +kernel))
set_option maxRecDepth 20000 in
theorem gL_law_L_areTogether : GoodIn wsL_law (va_wsS RL 157 yL_areTogether wsL_areTogether) := goodIn_app (goodIn_of _ (by decide +kernel)) ggL_law_L_areTogether
set_option maxRecDepth 20000 in
theorem ggL_law_X1_areTogether : GoodIn wsL_law wsX1_areTogether := goodIn_r _ [389, 62, 29, 177, 178, 179, 5, 180, 96, 97, 98, 99, 63, 64, 65, 66, 585, 586, 587, 588, 589, 590, 591, 592, 593, 594] (by decide +kernel) (by decide +kernel)
set_option maxRecDepth 20000 in
theorem gL_law_X1_areTogether : GoodIn wsL_law (wsV RL 159 RX1 yX1_areTogether wsX1_areTogether) := goodIn_app (goodIn_of _ (by decide +kernel)) ggL_law_X1_areTogether
set_option maxRecDepth 20000 in
theorem ggL_law_L_areMirrored : GoodIn wsL_law wsL_areMirrored := goodIn_ca (goodIn_ca (goodIn_r _ [392, 81, 36, 393, 394, 395, 2, 396, 14, 142, 143, 144, 145, 42, 43, 86, 87, 88, 89, 90, 91, 18, 164, 165, 166, 576, 577, 578, 579, 580, 581, 582, 583, 584] (by decide +kernel) (by decide +kernel)) (goodIn_sub (fun _ h => List.mem_append_left _ (List.mem_append_left _ (List.mem_append_right _ h))) (by decide +kernel))) (goodIn_sub (fun _ h => List.mem_append_right _ h) (by decide +kernel))
set_option maxRecDepth 20000 in
theorem gL_law_L_areMirrored : GoodIn wsL_law (va_wsS RL 160 yL_areMirrored wsL_areMirrored) := goodIn_app (goodIn_of _ (by decide +kernel)) ggL_law_L_areMirrored
set_option maxRecDepth 20000 in
theorem ggL_law_X1_areMirrored : GoodIn wsL_law wsX1_areMirrored := goodIn_r _ [400, 62, 27, 177, 178, 179, 5, 180, 96, 97, 98, 99, 63, 64, 65, 66, 201, 202, 203, 585, 586, 587, 588, 589, 590, 591, 592, 593, 594] (by decide +kernel) (by decide +kernel)
set_option maxRecDepth 20000 in
theorem gL_law_X1_areMirrored : GoodIn wsL_law (wsV RL 162 RX1 yX1_areMirrored wsX1_areMirrored) := goodIn_app (goodIn_of _ (by decide +kernel)) ggL_law_X1_areMirrored
set_option maxRecDepth 20000 in
theorem ggL_law_X0_coincidences : GoodIn wsL_law wsX0_coincidences := goodIn_r _ [404, 146, 147, 148, 2, 149, 18, 150, 151, 152, 153, 16, 17, 154, 155, 156, 157, 14, 15, 158, 159, 160, 110, 111, 112, 113, 161, 162, 163, 164, 165, 166, 167, 168, 169, 576, 577, 578, 579, 580, 581, 582, 583, 584] (by decide +kernel) (by decide +kernel)
set_option maxRecDepth 20000 in
theorem gL_law_X0_coincidences : GoodIn wsL_law (wsV RL 163 RX0 yX0_coincidences wsX0_coincidences) := goodIn_app (goodIn_of _ (by decide +kernel)) ggL_law_X0_coincidences
set_option maxRecDepth 20000 in
theorem ggL_law_X1_coincidences : GoodIn wsL_law wsX1_coincidences := goodIn_r _ [408, 185, 186, 187, 5, 188, 189, 190, 191, 192, 63, 193, 194, 195, 196, 29, 30, 197, 198, 199, 200, 27, 28, 201, 202, 203, 270, 271, 272, 273, 62, 585, 586, 587, 588, 589, 590, 591, 592, 593, 594] (by decide +kernel) (by decide +kernel)
set_option maxRecDepth 20000 in
theorem gL_law_X1_coincidences : GoodIn wsL_law (wsV RL 166 RX1 yX1_coincidences wsX1_coincidences) := goodIn_app (goodIn_of _ (by decide +kernel)) ggL_law_X1_coincidences
set_option maxRecDepth 20000 in
theorem ggL_law_L_coincidencesAt : GoodIn wsL_law wsL_coincidencesAt := goodIn_ca (goodIn_r _ [411, 81, 412, 413, 414, 2, 415, 18, 16, 361, 362, 363, 90, 91, 52, 53, 54, 154, 155, 156, 157, 14, 15, 158, 159, 160, 110, 111, 112, 113, 161, 162, 163, 164, 165, 166, 167, 168, 169, 576, 577, 578, 579, 580, 581, 582, 583, 584] (by decide +kernel) (by decide +kernel)) (goodIn_sub (fun _ h => List.mem_append_right _ h) (by decide +kernel))
set_option maxRecDepth 20000 in
theorem gL_law_L_coincidencesAt : GoodIn wsL_law (va_wsS RL 167 yL_coincidencesAt wsL_coincidencesAt) := goodIn_app (goodIn_of _ (by decide +kernel)) ggL_law_L_coincidencesAt
set_option maxRecDepth 20000 in
theorem ggL_law_X1_coincidencesAt : GoodIn wsL_law wsX1_coincidencesAt := goodIn_r _ [419, 62, 67, 68, 5, 69, 64, 65, 66, 189, 190, 191, 192, 63, 193, 194, 195, 196, 29, 30, 197, 198, 199, 200, 27, 28, 201, 202, 203, 70, 71, 72, 73, 585, 586, 587, 588, 589, 590, 591, 592, 593, 594] (by decide +kernel) (by decide +kernel)
set_option maxRecDepth 20000 in
theorem gL_law_X1_coincidencesAt : GoodIn wsL_law (wsV RL 169 RX1 yX1_coincidencesAt wsX1_coincidencesAt) := goodIn_app (goodIn_of _ (by decide +kernel)) ggL_law_X1_coincidencesAt
set_option maxRecDepth 20000 in
theorem ggL_law_L_luckOf : GoodIn wsL_law wsL_luckOf := goodIn_ca (goodIn_r _ [422, 81, 423, 424, 425, 2, 426, 86, 87, 88, 89, 90, 91, 18, 427, 428, 429, 430, 14, 16, 431, 432, 433, 434, 15, 158, 159, 160, 110, 111, 112, 113, 161, 162, 163, 164, 165, 166, 167, 168, 169, 576, 577, 578, 579, 580, 581, 582, 583, 584] (by decide +kernel) (by decide +kernel)) (goodIn_sub (fun _ h => List.mem_append_right _ h) (by decide +kernel))
set_option maxRecDepth 20000 in
theorem gL_law_L_luckOf : GoodIn wsL_law (va_wsS RL 170 yL_luckOf wsL_luckOf) := goodIn_app (goodIn_of _ (by decide +kernel)) ggL_law_L_luckOf
set_option maxRecDepth 20000 in
theorem ggL_law_X1_luckOf : GoodIn wsL_law wsX1_luckOf := goodIn_r _ [438, 62, 96, 97, 98, 5, 99, 63, 64, 65, 66, 439, 440, 441, 442, 29, 197, 198, 199, 200, 27, 28, 201, 202, 203, 70, 71, 72, 73, 585, 586, 587, 588, 589, 590, 591, 592, 593, 594] (by decide +kernel) (by decide +kernel)
set_option maxRecDepth 20000 in
theorem gL_law_X1_luckOf : GoodIn wsL_law (wsV RL 172 RX1 yX1_luckOf wsX1_luckOf) := goodIn_app (goodIn_of _ (by decide +kernel)) ggL_law_X1_luckOf
set_option maxRecDepth 20000 in
theorem ggL_law_X0_luckiestPair : GoodIn wsL_law wsX0_luckiestPair := goodIn_r _ [446, 18, 154, 155, 156, 2, 157, 14, 15, 158, 159, 160, 110, 111, 112, 113, 161, 162, 163, 164, 165, 166, 167, 168, 169, 576, 577, 578, 579, 580, 581, 582, 583, 584] (by decide +kernel) (by decide +kernel)
set_option maxRecDepth 20000 in
theorem gL_law_X0_luckiestPair : GoodIn wsL_law (wsV RL 173 RX0 yX0_luckiestPair wsX0_luckiestPair) := goodIn_app (goodIn_of _ (by decide +kernel)) ggL_law_X0_luckiestPair
set_option maxRecDepth 20000 in
theorem ggL_law_X1_luckiestPair : GoodIn wsL_law wsX1_luckiestPair := goodIn_r _ [450, 451, 452, 453, 5, 454, 63, 197, 198, 199, 200, 27, 28, 201, 202, 203, 270, 271, 272, 273, 62, 585, 586, 587, 588, 589, 590, 591, 592, 593, 594] (by decide +kernel) (by decide +kernel)
set_option maxRecDepth 20000 in
theorem gL_law_X1_luckiestPair : GoodIn wsL_law (wsV RL 176 RX1 yX1_luckiestPair wsX1_luckiestPair) := goodIn_app (goodIn_of _ (by decide +kernel)) ggL_law_X1_luckiestPair
set_option maxRecDepth 20000 in
theorem ggL_law_L_coincidencesIn : GoodIn wsL_law wsL_coincidencesIn := goodIn_ca (goodIn_r _ [457, 36, 458, 459, 460, 2, 461, 42, 43, 146, 147, 148, 149, 18, 150, 151, 152, 153, 16, 17, 154, 155, 156, 157, 14, 15, 158, 159, 160, 110, 111, 112, 113, 161, 162, 163, 164, 165, 166, 167, 168, 169, 576, 577, 578, 579, 580, 581, 582, 583, 584] (by decide +kernel) (by decide +kernel)) (goodIn_sub (fun _ h => List.mem_append_left _ (List.mem_append_left _ (List.mem_append_right _ h))) (by decide +kernel))
set_option maxRecDepth 20000 in
theorem gL_law_L_coincidencesIn : GoodIn wsL_law (va_wsS RL 177 yL_coincidencesIn wsL_coincidencesIn) := goodIn_app (goodIn_of _ (by decide +kernel)) ggL_law_L_coincidencesIn
set_option maxRecDepth 20000 in
theorem ggL_law_X1_coincidencesIn : GoodIn wsL_law wsX1_coincidencesIn := goodIn_r _ [465, 62, 64, 65, 5, 66, 189, 190, 191, 192, 63, 193, 194, 195, 196, 29, 30, 197, 198, 199, 200, 27, 28, 201, 202, 203, 70, 71, 72, 73, 585, 586, 587, 588, 589, 590, 591, 592, 593, 594] (by decide +kernel) (by decide +kernel)
set_option maxRecDepth 20000 in
theorem gL_law_X1_coincidencesIn : GoodIn wsL_law (wsV RL 179 RX1 yX1_coincidencesIn wsX1_coincidencesIn) := goodIn_app (goodIn_of _ (by decide +kernel)) ggL_law_X1_coincidencesIn
set_option maxRecDepth 20000 in
theorem ggL_law_L_hoursUntilTogether : GoodIn wsL_law wsL_hoursUntilTogether := goodIn_ca (goodIn_ca (goodIn_r _ [468, 81, 36, 469, 470, 471, 2, 472, 142, 143, 144, 145, 42, 43, 86, 87, 88, 89, 90, 91, 18, 150, 151, 152, 153, 16, 17, 576, 577, 578, 579, 580, 581, 582, 583, 584] (by decide +kernel) (by decide +kernel)) (goodIn_sub (fun _ h => List.mem_append_left _ (List.mem_append_left _ (List.mem_append_right _ h))) (by decide +kernel))) (goodIn_sub (fun _ h => List.mem_append_right _ h) (by decide +kernel))
set_option maxRecDepth 20000 in
theorem gL_law_L_hoursUntilTogether : GoodIn wsL_law (va_wsS RL 180 yL_hoursUntilTogether wsL_hoursUntilTogether) := goodIn_app (goodIn_of _ (by decide +kernel)) ggL_law_L_hoursUntilTogether
set_option maxRecDepth 20000 in
theorem ggL_law_X1_hoursUntilTogether : GoodIn wsL_law wsX1_hoursUntilTogether := goodIn_r _ [476, 62, 177, 178, 179, 5, 180, 96, 97, 98, 99, 63, 64, 65, 66, 477, 478, 479, 480, 193, 194, 195, 196, 29, 30, 585, 586, 587, 588, 589, 590, 591, 592, 593, 594] (by decide +kernel) (by decide +kernel)
set_option maxRecDepth 20000 in
theorem gL_law_X1_hoursUntilTogether : GoodIn wsL_law (wsV RL 182 RX1 yX1_hoursUntilTogether wsX1_hoursUntilTogether) := goodIn_app (goodIn_of _ (by decide +kernel)) ggL_law_X1_hoursUntilTogether
set_option maxRecDepth 20000 in
theorem ggL_law_L_costOfMeeting : GoodIn wsL_law wsL_costOfMeeting := goodIn_ca (goodIn_ca (goodIn_r _ [483, 81, 36, 484, 485, 486, 2, 487, 16, 142, 143, 144, 145, 42, 43, 86, 87, 88, 89, 90, 91, 18, 107, 108, 109, 110, 111, 112, 113, 114, 115, 116, 576, 577, 578, 579, 580, 581, 582, 583, 584] (by decide +kernel) (by decide +kernel)) (goodIn_sub (fun _ h => List.mem_append_left _ (List.mem_append_left _ (List.mem_append_right _ h))) (by decide +kernel))) (goodIn_sub (fun _ h => List.mem_append_right _ h) (by decide +kernel))
set_option maxRecDepth 20000 in
theorem gL_law_L_costOfMeeting : GoodIn wsL_law (va_wsS RL 183 yL_costOfMeeting wsL_costOfMeeting) := goodIn_app (goodIn_of _ (by decide +kernel)) ggL_law_L_costOfMeeting
set_option maxRecDepth 20000 in
theorem ggL_law_X1_costOfMeeting : GoodIn wsL_law wsX1_costOfMeeting := goodIn_r _ [491, 62, 29, 177, 178, 179, 5, 180, 96, 97, 98, 99, 63, 64, 65, 66, 125, 126, 127, 128, 111, 112, 113, 129, 115, 116, 585, 586, 587, 588, 589, 590, 591, 592, 593, 594] (by decide +kernel) (by decide +kernel)
set_option maxRecDepth 20000 in
theorem gL_law_X1_costOfMeeting : GoodIn wsL_law (wsV RL 185 RX1 yX1_costOfMeeting wsX1_costOfMeeting) := goodIn_app (goodIn_of _ (by decide +kernel)) ggL_law_X1_costOfMeeting
set_option maxRecDepth 20000 in
theorem ggL_law_X0_bestHour : GoodIn wsL_law wsX0_bestHour := goodIn_r _ [495, 146, 147, 148, 2, 149, 18, 150, 151, 152, 153, 16, 17, 154, 155, 156, 157, 14, 15, 158, 159, 160, 110, 111, 112, 113, 161, 162, 163, 164, 165, 166, 167, 168, 169, 576, 577, 578, 579, 580, 581, 582, 583, 584] (by decide +kernel) (by decide +kernel)
set_option maxRecDepth 20000 in
theorem gL_law_X0_bestHour : GoodIn wsL_law (wsV RL 186 RX0 yX0_bestHour wsX0_bestHour) := goodIn_app (goodIn_of _ (by decide +kernel)) ggL_law_X0_bestHour
set_option maxRecDepth 20000 in
theorem ggL_law_X1_bestHour : GoodIn wsL_law wsX1_bestHour := goodIn_r _ [499, 500, 501, 502, 5, 503, 189, 190, 191, 192, 63, 193, 194, 195, 196, 29, 30, 197, 198, 199, 200, 27, 28, 201, 202, 203, 270, 271, 272, 273, 62, 585, 586, 587, 588, 589, 590, 591, 592, 593, 594] (by decide +kernel) (by decide +kernel)
set_option maxRecDepth 20000 in
theorem gL_law_X1_bestHour : GoodIn wsL_law (wsV RL 189 RX1 yX1_bestHour wsX1_bestHour) := goodIn_app (goodIn_of _ (by decide +kernel)) ggL_law_X1_bestHour
set_option maxRecDepth 20000 in
theorem ggL_law_L_bestCorner : GoodIn wsL_law wsL_bestCorner := goodIn_ca (goodIn_r _ [506, 81, 507, 508, 509, 2, 510, 14, 86, 87, 88, 89, 90, 91, 18, 431, 432, 433, 434, 16, 15, 158, 159, 160, 110, 111, 112, 113, 161, 162, 163, 164, 165, 166, 167, 168, 169, 576, 577, 578, 579, 580, 581, 582, 583, 584] (by decide +kernel) (by decide +kernel)) (goodIn_sub (fun _ h => List.mem_append_right _ h) (by decide +kernel))
set_option maxRecDepth 20000 in
theorem gL_law_L_bestCorner : GoodIn wsL_law (va_wsS RL 190 yL_bestCorner wsL_bestCorner) := goodIn_app (goodIn_of _ (by decide +kernel)) ggL_law_L_bestCorner
set_option maxRecDepth 20000 in
theorem ggL_law_X1_bestCorner : GoodIn wsL_law wsX1_bestCorner := goodIn_r _ [514, 62, 29, 96, 97, 98, 5, 99, 63, 64, 65, 66, 515, 516, 517, 518, 185, 186, 187, 188, 189, 190, 191, 192, 193, 194, 195, 196, 30, 197, 198, 199, 200, 27, 28, 201, 202, 203, 70, 71, 72, 73, 585, 586, 587, 588, 589, 590, 591, 592, 593, 594] (by decide +kernel) (by decide +kernel)
set_option maxRecDepth 20000 in
theorem gL_law_X1_bestCorner : GoodIn wsL_law (wsV RL 192 RX1 yX1_bestCorner wsX1_bestCorner) := goodIn_app (goodIn_of _ (by decide +kernel)) ggL_law_X1_bestCorner
set_option maxRecDepth 20000 in
theorem ggL_law_X0_bestSwap : GoodIn wsL_law wsX0_bestSwap := goodIn_r _ [522, 18, 146, 147, 148, 2, 149, 150, 151, 152, 153, 16, 17, 154, 155, 156, 157, 14, 15, 158, 159, 160, 110, 111, 112, 113, 161, 162, 163, 164, 165, 166, 167, 168, 169, 523, 524, 525, 526, 170, 171, 172, 576, 577, 578, 579, 580, 581, 582, 583, 584] (by decide +kernel) (by decide +kernel)
set_option maxRecDepth 20000 in
theorem gL_law_X0_bestSwap : GoodIn wsL_law (wsV RL 193 RX0 yX0_bestSwap wsX0_bestSwap) := goodIn_app (goodIn_of _ (by decide +kernel)) ggL_law_X0_bestSwap
set_option maxRecDepth 20000 in
theorem ggL_law_X1_bestSwap : GoodIn wsL_law wsX1_bestSwap := goodIn_r _ [530, 531, 532, 533, 5, 534, 63, 27, 185, 186, 187, 188, 189, 190, 191, 192, 193, 194, 195, 196, 29, 30, 197, 198, 199, 200, 28, 201, 202, 203, 204, 205, 206, 270, 271, 272, 273, 62, 585, 586, 587, 588, 589, 590, 591, 592, 593, 594] (by decide +kernel) (by decide +kernel)
set_option maxRecDepth 20000 in
theorem gL_law_X1_bestSwap : GoodIn wsL_law (wsV RL 196 RX1 yX1_bestSwap wsX1_bestSwap) := goodIn_app (goodIn_of _ (by decide +kernel)) ggL_law_X1_bestSwap
set_option maxRecDepth 20000 in
theorem ggL_law_L_bestTicket : GoodIn wsL_law wsL_bestTicket := goodIn_ca (goodIn_r _ [537, 81, 538, 539, 540, 2, 541, 16, 86, 87, 88, 89, 90, 91, 18, 431, 432, 433, 434, 14, 15, 158, 159, 160, 110, 111, 112, 113, 161, 162, 163, 164, 165, 166, 167, 168, 169, 576, 577, 578, 579, 580, 581, 582, 583, 584] (by decide +kernel) (by decide +kernel)) (goodIn_sub (fun _ h => List.mem_append_right _ h) (by decide +kernel))
set_option maxRecDepth 20000 in
theorem gL_law_L_bestTicket : GoodIn wsL_law (va_wsS RL 197 yL_bestTicket wsL_bestTicket) := goodIn_app (goodIn_of _ (by decide +kernel)) ggL_law_L_bestTicket
set_option maxRecDepth 20000 in
theorem ggL_law_X1_bestTicket : GoodIn wsL_law wsX1_bestTicket := goodIn_r _ [545, 62, 27, 96, 97, 98, 5, 99, 63, 64, 65, 66, 515, 516, 517, 518, 185, 186, 187, 188, 189, 190, 191, 192, 193, 194, 195, 196, 29, 30, 197, 198, 199, 200, 28, 201, 202, 203, 70, 71, 72, 73, 585, 586, 587, 588, 589, 590, 591, 592, 593, 594] (by decide +kernel) (by decide +kernel)
set_option maxRecDepth 20000 in
theorem gL_law_X1_bestTicket : GoodIn wsL_law (wsV RL 199 RX1 yX1_bestTicket wsX1_bestTicket) := goodIn_app (goodIn_of _ (by decide +kernel)) ggL_law_X1_bestTicket
set_option maxRecDepth 20000 in
theorem ggL_law_X0_meanLuck : GoodIn wsL_law wsX0_meanLuck := goodIn_r _ [549, 18, 427, 428, 429, 2, 430, 14, 16, 431, 432, 433, 434, 15, 158, 159, 160, 110, 111, 112, 113, 161, 162, 163, 164, 165, 166, 167, 168, 169, 576, 577, 578, 579, 580, 581, 582, 583, 584] (by decide +kernel) (by decide +kernel)
set_option maxRecDepth 20000 in
theorem gL_law_X0_meanLuck : GoodIn wsL_law (wsV RL 200 RX0 yX0_meanLuck wsX0_meanLuck) := goodIn_app (goodIn_of _ (by decide +kernel)) ggL_law_X0_meanLuck
set_option maxRecDepth 20000 in
theorem ggL_law_X1_meanLuck : GoodIn wsL_law wsX1_meanLuck := goodIn_r _ [553, 62, 63, 185, 186, 187, 5, 188, 189, 190, 191, 192, 193, 194, 195, 196, 29, 30, 197, 198, 199, 200, 27, 28, 201, 202, 203, 585, 586, 587, 588, 589, 590, 591, 592, 593, 594] (by decide +kernel) (by decide +kernel)
set_option maxRecDepth 20000 in
theorem gL_law_X1_meanLuck : GoodIn wsL_law (wsV RL 204 RX1 yX1_meanLuck wsX1_meanLuck) := goodIn_app (goodIn_of _ (by decide +kernel)) ggL_law_X1_meanLuck
set_option maxRecDepth 20000 in
theorem ggL_law_X0_digest : GoodIn wsL_law wsX0_digest := goodIn_ca (goodIn_r _ [557, 558, 18, 19, 20, 21, 22, 14, 15, 16, 17, 559, 560, 2, 561, 562, 563, 402, 403, 404, 146, 147, 148, 149, 150, 151, 152, 153, 154, 155, 156, 157, 158, 159, 160, 110, 111, 112, 113, 161, 162, 163, 164, 165, 166, 167, 168, 169, 564, 444, 445, 446, 565, 493, 494, 495, 566, 520, 521, 522, 523, 524, 525, 526, 170, 171, 172, 567, 358, 359, 360, 361, 362, 363, 90, 91, 52, 53, 54, 244, 245, 246, 247, 568, 413, 414, 415, 427, 428, 429, 430, 431, 432, 433, 434, 569, 508, 509, 510, 86, 87, 88, 89, 576, 577, 578, 579, 580, 581, 582, 583, 584] (by decide +kernel) (by decide +kernel)) (goodIn_sub (fun _ h => List.mem_append_right _ h) (by decide +kernel))
set_option maxRecDepth 20000 in
theorem gL_law_X0_digest : GoodIn wsL_law (wsV RL 205 RX0 yX0_digest wsX0_digest) := goodIn_app (goodIn_of _ (by decide +kernel)) ggL_law_X0_digest
set_option maxRecDepth 20000 in
theorem ggL_law_X1_digest : GoodIn wsL_law wsX1_digest := goodIn_r _ [573, 62, 13, 63, 257, 31, 252, 134, 574, 575, 27, 28, 29, 30, 185, 186, 187, 5, 188, 189, 190, 191, 192, 193, 194, 195, 196, 197, 198, 199, 200, 201, 202, 203, 451, 452, 453, 454, 500, 501, 502, 503, 531, 532, 533, 534, 204, 205, 206, 258, 259, 260, 261, 439, 440, 441, 442, 515, 516, 517, 518, 585, 586, 587, 588, 589, 590, 591, 592, 593, 594] (by decide +kernel) (by decide +kernel)
set_option maxRecDepth 20000 in
theorem gL_law_X1_digest : GoodIn wsL_law (wsV RL 209 RX1 yX1_digest wsX1_digest) := goodIn_app (goodIn_of _ (by decide +kernel)) ggL_law_X1_digest
end
section
theorem dL_law_0 : decode cL_law 0 = .ok (.new 8, 3) := by decide +kernel
theorem dL_law_3 : decode cL_law 3 = .ok (.dup, 1) := by decide +kernel
theorem dL_law_4 : decode cL_law 4 = .ok (.invokespecial 85, 3) := by decide +kernel
theorem dL_law_7 : decode cL_law 7 = .ok (.astore_n 1, 1) := by decide +kernel
theorem dL_law_8 : decode cL_law 8 = .ok (.new 86, 3) := by decide +kernel
theorem dL_law_11 : decode cL_law 11 = .ok (.dup, 1) := by decide +kernel
theorem dL_law_12 : decode cL_law 12 = .ok (.invokespecial 88, 3) := by decide +kernel
theorem dL_law_15 : decode cL_law 15 = .ok (.astore_n 2, 1) := by decide +kernel
theorem dL_law_16 : decode cL_law 16 = .ok (.iconst 1, 1) := by decide +kernel
theorem dL_law_17 : decode cL_law 17 = .ok (.newarray .long, 2) := by decide +kernel
theorem dL_law_19 : decode cL_law 19 = .ok (.astore_n 3, 1) := by decide +kernel
theorem dL_law_20 : decode cL_law 20 = .ok (.iconst 0, 1) := by decide +kernel
theorem dL_law_21 : decode cL_law 21 = .ok (.istore 4, 2) := by decide +kernel
theorem dL_law_23 : decode cL_law 23 = .ok (.iload 4, 2) := by decide +kernel
theorem dL_law_25 : decode cL_law 25 = .ok (.aload_n 0, 1) := by decide +kernel
theorem dL_law_26 : decode cL_law 26 = .ok (.arraylength, 1) := by decide +kernel
theorem dL_law_27 : decode cL_law 27 = .ok (.iconst 5, 1) := by decide +kernel
theorem dL_law_28 : decode cL_law 28 = .ok (.isub, 1) := by decide +kernel
theorem dL_law_29 : decode cL_law 29 = .ok (.if_icmp .gt 1735, 3) := by decide +kernel
theorem dL_law_32 : decode cL_law 32 = .ok (.aload_n 0, 1) := by decide +kernel
theorem dL_law_33 : decode cL_law 33 = .ok (.iload 4, 2) := by decide +kernel
theorem dL_law_35 : decode cL_law 35 = .ok (.iaload, 1) := by decide +kernel
theorem dL_law_36 : decode cL_law 36 = .ok (.bipush 63, 2) := by decide +kernel
theorem dL_law_38 : decode cL_law 38 = .ok (.iand, 1) := by decide +kernel
theorem dL_law_39 : decode cL_law 39 = .ok (.tableswitch 1719 0 32 #[145, 237, 305, 373, 441, 509, 577, 633, 646, 659, 672, 685, 698, 754, 810, 866, 922, 978, 1046, 1121, 1196, 1209, 1265, 1321, 1334, 1390, 1458, 1526, 1539, 1595, 1608, 1664, 1705], 145) := by decide +kernel
theorem dL_law_184 : decode cL_law 184 = .ok (.aload_n 1, 1) := by decide +kernel
theorem dL_law_185 : decode cL_law 185 = .ok (.aload_n 0, 1) := by decide +kernel
theorem dL_law_186 : decode cL_law 186 = .ok (.iload 4, 2) := by decide +kernel
theorem dL_law_188 : decode cL_law 188 = .ok (.iconst 1, 1) := by decide +kernel
theorem dL_law_189 : decode cL_law 189 = .ok (.iadd, 1) := by decide +kernel
theorem dL_law_190 : decode cL_law 190 = .ok (.iaload, 1) := by decide +kernel
theorem dL_law_191 : decode cL_law 191 = .ok (.aload_n 0, 1) := by decide +kernel
theorem dL_law_192 : decode cL_law 192 = .ok (.iload 4, 2) := by decide +kernel
theorem dL_law_194 : decode cL_law 194 = .ok (.iconst 2, 1) := by decide +kernel
theorem dL_law_195 : decode cL_law 195 = .ok (.iadd, 1) := by decide +kernel
theorem dL_law_196 : decode cL_law 196 = .ok (.iaload, 1) := by decide +kernel
theorem dL_law_197 : decode cL_law 197 = .ok (.aload_n 0, 1) := by decide +kernel
theorem dL_law_198 : decode cL_law 198 = .ok (.iload 4, 2) := by decide +kernel
theorem dL_law_200 : decode cL_law 200 = .ok (.iconst 3, 1) := by decide +kernel
theorem dL_law_201 : decode cL_law 201 = .ok (.iadd, 1) := by decide +kernel
theorem dL_law_202 : decode cL_law 202 = .ok (.iaload, 1) := by decide +kernel
theorem dL_law_203 : decode cL_law 203 = .ok (.aload_n 0, 1) := by decide +kernel
theorem dL_law_204 : decode cL_law 204 = .ok (.iload 4, 2) := by decide +kernel
theorem dL_law_206 : decode cL_law 206 = .ok (.iconst 4, 1) := by decide +kernel
theorem dL_law_207 : decode cL_law 207 = .ok (.iadd, 1) := by decide +kernel
theorem dL_law_208 : decode cL_law 208 = .ok (.iaload, 1) := by decide +kernel
theorem dL_law_209 : decode cL_law 209 = .ok (.aload_n 3, 1) := by decide +kernel
theorem dL_law_210 : decode cL_law 210 = .ok (.invokestatic 89, 3) := by decide +kernel
theorem dL_law_213 : decode cL_law 213 = .ok (.istore 5, 2) := by decide +kernel
theorem dL_law_215 : decode cL_law 215 = .ok (.aload_n 2, 1) := by decide +kernel
theorem dL_law_216 : decode cL_law 216 = .ok (.aload_n 0, 1) := by decide +kernel
theorem dL_law_217 : decode cL_law 217 = .ok (.iload 4, 2) := by decide +kernel
theorem dL_law_219 : decode cL_law 219 = .ok (.iconst 1, 1) := by decide +kernel
theorem dL_law_220 : decode cL_law 220 = .ok (.iadd, 1) := by decide +kernel
theorem dL_law_221 : decode cL_law 221 = .ok (.iaload, 1) := by decide +kernel
theorem dL_law_222 : decode cL_law 222 = .ok (.aload_n 0, 1) := by decide +kernel
theorem dL_law_223 : decode cL_law 223 = .ok (.iload 4, 2) := by decide +kernel
theorem dL_law_225 : decode cL_law 225 = .ok (.iconst 2, 1) := by decide +kernel
theorem dL_law_226 : decode cL_law 226 = .ok (.iadd, 1) := by decide +kernel
theorem dL_law_227 : decode cL_law 227 = .ok (.iaload, 1) := by decide +kernel
theorem dL_law_228 : decode cL_law 228 = .ok (.aload_n 0, 1) := by decide +kernel
theorem dL_law_229 : decode cL_law 229 = .ok (.iload 4, 2) := by decide +kernel
theorem dL_law_231 : decode cL_law 231 = .ok (.iconst 3, 1) := by decide +kernel
theorem dL_law_232 : decode cL_law 232 = .ok (.iadd, 1) := by decide +kernel
theorem dL_law_233 : decode cL_law 233 = .ok (.iaload, 1) := by decide +kernel
theorem dL_law_234 : decode cL_law 234 = .ok (.aload_n 0, 1) := by decide +kernel
theorem dL_law_235 : decode cL_law 235 = .ok (.iload 4, 2) := by decide +kernel
theorem dL_law_237 : decode cL_law 237 = .ok (.iconst 4, 1) := by decide +kernel
theorem dL_law_238 : decode cL_law 238 = .ok (.iadd, 1) := by decide +kernel
theorem dL_law_239 : decode cL_law 239 = .ok (.iaload, 1) := by decide +kernel
theorem dL_law_240 : decode cL_law 240 = .ok (.invokevirtual 94, 3) := by decide +kernel
theorem dL_law_243 : decode cL_law 243 = .ok (.istore 6, 2) := by decide +kernel
theorem dL_law_245 : decode cL_law 245 = .ok (.aload_n 2, 1) := by decide +kernel
theorem dL_law_246 : decode cL_law 246 = .ok (.invokevirtual 95, 3) := by decide +kernel
theorem dL_law_249 : decode cL_law 249 = .ok (.iload 5, 2) := by decide +kernel
theorem dL_law_251 : decode cL_law 251 = .ok (.if_icmp .eq 5, 3) := by decide +kernel
theorem dL_law_254 : decode cL_law 254 = .ok (.iconst 0, 1) := by decide +kernel
theorem dL_law_255 : decode cL_law 255 = .ok (.ireturn, 1) := by decide +kernel
theorem dL_law_256 : decode cL_law 256 = .ok (.iload 5, 2) := by decide +kernel
theorem dL_law_258 : decode cL_law 258 = .ok (.ifCond .ne 15, 3) := by decide +kernel
theorem dL_law_261 : decode cL_law 261 = .ok (.aload_n 3, 1) := by decide +kernel
theorem dL_law_262 : decode cL_law 262 = .ok (.iconst 0, 1) := by decide +kernel
theorem dL_law_263 : decode cL_law 263 = .ok (.laload, 1) := by decide +kernel
theorem dL_law_264 : decode cL_law 264 = .ok (.iload 6, 2) := by decide +kernel
theorem dL_law_266 : decode cL_law 266 = .ok (.i2l, 1) := by decide +kernel
theorem dL_law_267 : decode cL_law 267 = .ok (.lcmp, 1) := by decide +kernel
theorem dL_law_268 : decode cL_law 268 = .ok (.ifCond .eq 5, 3) := by decide +kernel
theorem dL_law_271 : decode cL_law 271 = .ok (.iconst 0, 1) := by decide +kernel
theorem dL_law_272 : decode cL_law 272 = .ok (.ireturn, 1) := by decide +kernel
theorem dL_law_273 : decode cL_law 273 = .ok (.goto 1485, 3) := by decide +kernel
theorem dL_law_276 : decode cL_law 276 = .ok (.aload_n 1, 1) := by decide +kernel
theorem dL_law_277 : decode cL_law 277 = .ok (.aload_n 0, 1) := by decide +kernel
theorem dL_law_278 : decode cL_law 278 = .ok (.iload 4, 2) := by decide +kernel
theorem dL_law_280 : decode cL_law 280 = .ok (.iconst 1, 1) := by decide +kernel
theorem dL_law_281 : decode cL_law 281 = .ok (.iadd, 1) := by decide +kernel
theorem dL_law_282 : decode cL_law 282 = .ok (.iaload, 1) := by decide +kernel
theorem dL_law_283 : decode cL_law 283 = .ok (.aload_n 0, 1) := by decide +kernel
theorem dL_law_284 : decode cL_law 284 = .ok (.iload 4, 2) := by decide +kernel
theorem dL_law_286 : decode cL_law 286 = .ok (.iconst 2, 1) := by decide +kernel
theorem dL_law_287 : decode cL_law 287 = .ok (.iadd, 1) := by decide +kernel
theorem dL_law_288 : decode cL_law 288 = .ok (.iaload, 1) := by decide +kernel
theorem dL_law_289 : decode cL_law 289 = .ok (.aload_n 3, 1) := by decide +kernel
theorem dL_law_290 : decode cL_law 290 = .ok (.invokestatic 99, 3) := by decide +kernel
theorem dL_law_293 : decode cL_law 293 = .ok (.istore 5, 2) := by decide +kernel
theorem dL_law_295 : decode cL_law 295 = .ok (.aload_n 2, 1) := by decide +kernel
theorem dL_law_296 : decode cL_law 296 = .ok (.aload_n 0, 1) := by decide +kernel
theorem dL_law_297 : decode cL_law 297 = .ok (.iload 4, 2) := by decide +kernel
theorem dL_law_299 : decode cL_law 299 = .ok (.iconst 1, 1) := by decide +kernel
theorem dL_law_300 : decode cL_law 300 = .ok (.iadd, 1) := by decide +kernel
theorem dL_law_301 : decode cL_law 301 = .ok (.iaload, 1) := by decide +kernel
theorem dL_law_302 : decode cL_law 302 = .ok (.aload_n 0, 1) := by decide +kernel
theorem dL_law_303 : decode cL_law 303 = .ok (.iload 4, 2) := by decide +kernel
theorem dL_law_305 : decode cL_law 305 = .ok (.iconst 2, 1) := by decide +kernel
theorem dL_law_306 : decode cL_law 306 = .ok (.iadd, 1) := by decide +kernel
theorem dL_law_307 : decode cL_law 307 = .ok (.iaload, 1) := by decide +kernel
theorem dL_law_308 : decode cL_law 308 = .ok (.invokevirtual 102, 3) := by decide +kernel
theorem dL_law_311 : decode cL_law 311 = .ok (.istore 6, 2) := by decide +kernel
theorem dL_law_313 : decode cL_law 313 = .ok (.aload_n 2, 1) := by decide +kernel
theorem dL_law_314 : decode cL_law 314 = .ok (.invokevirtual 95, 3) := by decide +kernel
theorem dL_law_317 : decode cL_law 317 = .ok (.iload 5, 2) := by decide +kernel
theorem dL_law_319 : decode cL_law 319 = .ok (.if_icmp .eq 5, 3) := by decide +kernel
theorem dL_law_322 : decode cL_law 322 = .ok (.iconst 0, 1) := by decide +kernel
theorem dL_law_323 : decode cL_law 323 = .ok (.ireturn, 1) := by decide +kernel
theorem dL_law_324 : decode cL_law 324 = .ok (.iload 5, 2) := by decide +kernel
theorem dL_law_326 : decode cL_law 326 = .ok (.ifCond .ne 15, 3) := by decide +kernel
theorem dL_law_329 : decode cL_law 329 = .ok (.aload_n 3, 1) := by decide +kernel
theorem dL_law_330 : decode cL_law 330 = .ok (.iconst 0, 1) := by decide +kernel
theorem dL_law_331 : decode cL_law 331 = .ok (.laload, 1) := by decide +kernel
theorem dL_law_332 : decode cL_law 332 = .ok (.iload 6, 2) := by decide +kernel
theorem dL_law_334 : decode cL_law 334 = .ok (.i2l, 1) := by decide +kernel
theorem dL_law_335 : decode cL_law 335 = .ok (.lcmp, 1) := by decide +kernel
theorem dL_law_336 : decode cL_law 336 = .ok (.ifCond .eq 5, 3) := by decide +kernel
theorem dL_law_339 : decode cL_law 339 = .ok (.iconst 0, 1) := by decide +kernel
theorem dL_law_340 : decode cL_law 340 = .ok (.ireturn, 1) := by decide +kernel
theorem dL_law_341 : decode cL_law 341 = .ok (.goto 1417, 3) := by decide +kernel
theorem dL_law_344 : decode cL_law 344 = .ok (.aload_n 1, 1) := by decide +kernel
theorem dL_law_345 : decode cL_law 345 = .ok (.aload_n 0, 1) := by decide +kernel
theorem dL_law_346 : decode cL_law 346 = .ok (.iload 4, 2) := by decide +kernel
theorem dL_law_348 : decode cL_law 348 = .ok (.iconst 1, 1) := by decide +kernel
theorem dL_law_349 : decode cL_law 349 = .ok (.iadd, 1) := by decide +kernel
theorem dL_law_350 : decode cL_law 350 = .ok (.iaload, 1) := by decide +kernel
theorem dL_law_351 : decode cL_law 351 = .ok (.aload_n 0, 1) := by decide +kernel
theorem dL_law_352 : decode cL_law 352 = .ok (.iload 4, 2) := by decide +kernel
theorem dL_law_354 : decode cL_law 354 = .ok (.iconst 2, 1) := by decide +kernel
theorem dL_law_355 : decode cL_law 355 = .ok (.iadd, 1) := by decide +kernel
theorem dL_law_356 : decode cL_law 356 = .ok (.iaload, 1) := by decide +kernel
theorem dL_law_357 : decode cL_law 357 = .ok (.aload_n 3, 1) := by decide +kernel
theorem dL_law_358 : decode cL_law 358 = .ok (.invokestatic 103, 3) := by decide +kernel
theorem dL_law_361 : decode cL_law 361 = .ok (.istore 5, 2) := by decide +kernel
theorem dL_law_363 : decode cL_law 363 = .ok (.aload_n 2, 1) := by decide +kernel
theorem dL_law_364 : decode cL_law 364 = .ok (.aload_n 0, 1) := by decide +kernel
theorem dL_law_365 : decode cL_law 365 = .ok (.iload 4, 2) := by decide +kernel
theorem dL_law_367 : decode cL_law 367 = .ok (.iconst 1, 1) := by decide +kernel
theorem dL_law_368 : decode cL_law 368 = .ok (.iadd, 1) := by decide +kernel
theorem dL_law_369 : decode cL_law 369 = .ok (.iaload, 1) := by decide +kernel
theorem dL_law_370 : decode cL_law 370 = .ok (.aload_n 0, 1) := by decide +kernel
theorem dL_law_371 : decode cL_law 371 = .ok (.iload 4, 2) := by decide +kernel
theorem dL_law_373 : decode cL_law 373 = .ok (.iconst 2, 1) := by decide +kernel
theorem dL_law_374 : decode cL_law 374 = .ok (.iadd, 1) := by decide +kernel
theorem dL_law_375 : decode cL_law 375 = .ok (.iaload, 1) := by decide +kernel
theorem dL_law_376 : decode cL_law 376 = .ok (.invokevirtual 105, 3) := by decide +kernel
theorem dL_law_379 : decode cL_law 379 = .ok (.istore 6, 2) := by decide +kernel
theorem dL_law_381 : decode cL_law 381 = .ok (.aload_n 2, 1) := by decide +kernel
theorem dL_law_382 : decode cL_law 382 = .ok (.invokevirtual 95, 3) := by decide +kernel
theorem dL_law_385 : decode cL_law 385 = .ok (.iload 5, 2) := by decide +kernel
theorem dL_law_387 : decode cL_law 387 = .ok (.if_icmp .eq 5, 3) := by decide +kernel
theorem dL_law_390 : decode cL_law 390 = .ok (.iconst 0, 1) := by decide +kernel
theorem dL_law_391 : decode cL_law 391 = .ok (.ireturn, 1) := by decide +kernel
theorem dL_law_392 : decode cL_law 392 = .ok (.iload 5, 2) := by decide +kernel
theorem dL_law_394 : decode cL_law 394 = .ok (.ifCond .ne 15, 3) := by decide +kernel
theorem dL_law_397 : decode cL_law 397 = .ok (.aload_n 3, 1) := by decide +kernel
theorem dL_law_398 : decode cL_law 398 = .ok (.iconst 0, 1) := by decide +kernel
theorem dL_law_399 : decode cL_law 399 = .ok (.laload, 1) := by decide +kernel
theorem dL_law_400 : decode cL_law 400 = .ok (.iload 6, 2) := by decide +kernel
theorem dL_law_402 : decode cL_law 402 = .ok (.i2l, 1) := by decide +kernel
theorem dL_law_403 : decode cL_law 403 = .ok (.lcmp, 1) := by decide +kernel
theorem dL_law_404 : decode cL_law 404 = .ok (.ifCond .eq 5, 3) := by decide +kernel
theorem dL_law_407 : decode cL_law 407 = .ok (.iconst 0, 1) := by decide +kernel
theorem dL_law_408 : decode cL_law 408 = .ok (.ireturn, 1) := by decide +kernel
theorem dL_law_409 : decode cL_law 409 = .ok (.goto 1349, 3) := by decide +kernel
theorem dL_law_412 : decode cL_law 412 = .ok (.aload_n 1, 1) := by decide +kernel
theorem dL_law_413 : decode cL_law 413 = .ok (.aload_n 0, 1) := by decide +kernel
theorem dL_law_414 : decode cL_law 414 = .ok (.iload 4, 2) := by decide +kernel
theorem dL_law_416 : decode cL_law 416 = .ok (.iconst 1, 1) := by decide +kernel
theorem dL_law_417 : decode cL_law 417 = .ok (.iadd, 1) := by decide +kernel
theorem dL_law_418 : decode cL_law 418 = .ok (.iaload, 1) := by decide +kernel
theorem dL_law_419 : decode cL_law 419 = .ok (.aload_n 0, 1) := by decide +kernel
theorem dL_law_420 : decode cL_law 420 = .ok (.iload 4, 2) := by decide +kernel
theorem dL_law_422 : decode cL_law 422 = .ok (.iconst 2, 1) := by decide +kernel
theorem dL_law_423 : decode cL_law 423 = .ok (.iadd, 1) := by decide +kernel
theorem dL_law_424 : decode cL_law 424 = .ok (.iaload, 1) := by decide +kernel
theorem dL_law_425 : decode cL_law 425 = .ok (.aload_n 3, 1) := by decide +kernel
theorem dL_law_426 : decode cL_law 426 = .ok (.invokestatic 106, 3) := by decide +kernel
theorem dL_law_429 : decode cL_law 429 = .ok (.istore 5, 2) := by decide +kernel
theorem dL_law_431 : decode cL_law 431 = .ok (.aload_n 2, 1) := by decide +kernel
theorem dL_law_432 : decode cL_law 432 = .ok (.aload_n 0, 1) := by decide +kernel
theorem dL_law_433 : decode cL_law 433 = .ok (.iload 4, 2) := by decide +kernel
theorem dL_law_435 : decode cL_law 435 = .ok (.iconst 1, 1) := by decide +kernel
theorem dL_law_436 : decode cL_law 436 = .ok (.iadd, 1) := by decide +kernel
theorem dL_law_437 : decode cL_law 437 = .ok (.iaload, 1) := by decide +kernel
theorem dL_law_438 : decode cL_law 438 = .ok (.aload_n 0, 1) := by decide +kernel
theorem dL_law_439 : decode cL_law 439 = .ok (.iload 4, 2) := by decide +kernel
theorem dL_law_441 : decode cL_law 441 = .ok (.iconst 2, 1) := by decide +kernel
theorem dL_law_442 : decode cL_law 442 = .ok (.iadd, 1) := by decide +kernel
theorem dL_law_443 : decode cL_law 443 = .ok (.iaload, 1) := by decide +kernel
theorem dL_law_444 : decode cL_law 444 = .ok (.invokevirtual 108, 3) := by decide +kernel
theorem dL_law_447 : decode cL_law 447 = .ok (.istore 6, 2) := by decide +kernel
theorem dL_law_449 : decode cL_law 449 = .ok (.aload_n 2, 1) := by decide +kernel
theorem dL_law_450 : decode cL_law 450 = .ok (.invokevirtual 95, 3) := by decide +kernel
theorem dL_law_453 : decode cL_law 453 = .ok (.iload 5, 2) := by decide +kernel
theorem dL_law_455 : decode cL_law 455 = .ok (.if_icmp .eq 5, 3) := by decide +kernel
theorem dL_law_458 : decode cL_law 458 = .ok (.iconst 0, 1) := by decide +kernel
theorem dL_law_459 : decode cL_law 459 = .ok (.ireturn, 1) := by decide +kernel
theorem dL_law_460 : decode cL_law 460 = .ok (.iload 5, 2) := by decide +kernel
theorem dL_law_462 : decode cL_law 462 = .ok (.ifCond .ne 15, 3) := by decide +kernel
theorem dL_law_465 : decode cL_law 465 = .ok (.aload_n 3, 1) := by decide +kernel
theorem dL_law_466 : decode cL_law 466 = .ok (.iconst 0, 1) := by decide +kernel
theorem dL_law_467 : decode cL_law 467 = .ok (.laload, 1) := by decide +kernel
theorem dL_law_468 : decode cL_law 468 = .ok (.iload 6, 2) := by decide +kernel
theorem dL_law_470 : decode cL_law 470 = .ok (.i2l, 1) := by decide +kernel
theorem dL_law_471 : decode cL_law 471 = .ok (.lcmp, 1) := by decide +kernel
theorem dL_law_472 : decode cL_law 472 = .ok (.ifCond .eq 5, 3) := by decide +kernel
theorem dL_law_475 : decode cL_law 475 = .ok (.iconst 0, 1) := by decide +kernel
theorem dL_law_476 : decode cL_law 476 = .ok (.ireturn, 1) := by decide +kernel
theorem dL_law_477 : decode cL_law 477 = .ok (.goto 1281, 3) := by decide +kernel
theorem dL_law_480 : decode cL_law 480 = .ok (.aload_n 1, 1) := by decide +kernel
theorem dL_law_481 : decode cL_law 481 = .ok (.aload_n 0, 1) := by decide +kernel
theorem dL_law_482 : decode cL_law 482 = .ok (.iload 4, 2) := by decide +kernel
theorem dL_law_484 : decode cL_law 484 = .ok (.iconst 1, 1) := by decide +kernel
theorem dL_law_485 : decode cL_law 485 = .ok (.iadd, 1) := by decide +kernel
theorem dL_law_486 : decode cL_law 486 = .ok (.iaload, 1) := by decide +kernel
theorem dL_law_487 : decode cL_law 487 = .ok (.aload_n 0, 1) := by decide +kernel
theorem dL_law_488 : decode cL_law 488 = .ok (.iload 4, 2) := by decide +kernel
theorem dL_law_490 : decode cL_law 490 = .ok (.iconst 2, 1) := by decide +kernel
theorem dL_law_491 : decode cL_law 491 = .ok (.iadd, 1) := by decide +kernel
theorem dL_law_492 : decode cL_law 492 = .ok (.iaload, 1) := by decide +kernel
theorem dL_law_493 : decode cL_law 493 = .ok (.aload_n 3, 1) := by decide +kernel
theorem dL_law_494 : decode cL_law 494 = .ok (.invokestatic 109, 3) := by decide +kernel
theorem dL_law_497 : decode cL_law 497 = .ok (.istore 5, 2) := by decide +kernel
theorem dL_law_499 : decode cL_law 499 = .ok (.aload_n 2, 1) := by decide +kernel
theorem dL_law_500 : decode cL_law 500 = .ok (.aload_n 0, 1) := by decide +kernel
theorem dL_law_501 : decode cL_law 501 = .ok (.iload 4, 2) := by decide +kernel
theorem dL_law_503 : decode cL_law 503 = .ok (.iconst 1, 1) := by decide +kernel
theorem dL_law_504 : decode cL_law 504 = .ok (.iadd, 1) := by decide +kernel
theorem dL_law_505 : decode cL_law 505 = .ok (.iaload, 1) := by decide +kernel
theorem dL_law_506 : decode cL_law 506 = .ok (.aload_n 0, 1) := by decide +kernel
theorem dL_law_507 : decode cL_law 507 = .ok (.iload 4, 2) := by decide +kernel
theorem dL_law_509 : decode cL_law 509 = .ok (.iconst 2, 1) := by decide +kernel
theorem dL_law_510 : decode cL_law 510 = .ok (.iadd, 1) := by decide +kernel
theorem dL_law_511 : decode cL_law 511 = .ok (.iaload, 1) := by decide +kernel
theorem dL_law_512 : decode cL_law 512 = .ok (.invokevirtual 111, 3) := by decide +kernel
theorem dL_law_515 : decode cL_law 515 = .ok (.istore 6, 2) := by decide +kernel
theorem dL_law_517 : decode cL_law 517 = .ok (.aload_n 2, 1) := by decide +kernel
theorem dL_law_518 : decode cL_law 518 = .ok (.invokevirtual 95, 3) := by decide +kernel
theorem dL_law_521 : decode cL_law 521 = .ok (.iload 5, 2) := by decide +kernel
theorem dL_law_523 : decode cL_law 523 = .ok (.if_icmp .eq 5, 3) := by decide +kernel
theorem dL_law_526 : decode cL_law 526 = .ok (.iconst 0, 1) := by decide +kernel
theorem dL_law_527 : decode cL_law 527 = .ok (.ireturn, 1) := by decide +kernel
theorem dL_law_528 : decode cL_law 528 = .ok (.iload 5, 2) := by decide +kernel
theorem dL_law_530 : decode cL_law 530 = .ok (.ifCond .ne 15, 3) := by decide +kernel
theorem dL_law_533 : decode cL_law 533 = .ok (.aload_n 3, 1) := by decide +kernel
theorem dL_law_534 : decode cL_law 534 = .ok (.iconst 0, 1) := by decide +kernel
theorem dL_law_535 : decode cL_law 535 = .ok (.laload, 1) := by decide +kernel
theorem dL_law_536 : decode cL_law 536 = .ok (.iload 6, 2) := by decide +kernel
theorem dL_law_538 : decode cL_law 538 = .ok (.i2l, 1) := by decide +kernel
theorem dL_law_539 : decode cL_law 539 = .ok (.lcmp, 1) := by decide +kernel
theorem dL_law_540 : decode cL_law 540 = .ok (.ifCond .eq 5, 3) := by decide +kernel
theorem dL_law_543 : decode cL_law 543 = .ok (.iconst 0, 1) := by decide +kernel
theorem dL_law_544 : decode cL_law 544 = .ok (.ireturn, 1) := by decide +kernel
theorem dL_law_545 : decode cL_law 545 = .ok (.goto 1213, 3) := by decide +kernel
theorem dL_law_548 : decode cL_law 548 = .ok (.aload_n 1, 1) := by decide +kernel
theorem dL_law_549 : decode cL_law 549 = .ok (.aload_n 0, 1) := by decide +kernel
theorem dL_law_550 : decode cL_law 550 = .ok (.iload 4, 2) := by decide +kernel
theorem dL_law_552 : decode cL_law 552 = .ok (.iconst 1, 1) := by decide +kernel
theorem dL_law_553 : decode cL_law 553 = .ok (.iadd, 1) := by decide +kernel
theorem dL_law_554 : decode cL_law 554 = .ok (.iaload, 1) := by decide +kernel
theorem dL_law_555 : decode cL_law 555 = .ok (.aload_n 0, 1) := by decide +kernel
theorem dL_law_556 : decode cL_law 556 = .ok (.iload 4, 2) := by decide +kernel
theorem dL_law_558 : decode cL_law 558 = .ok (.iconst 2, 1) := by decide +kernel
theorem dL_law_559 : decode cL_law 559 = .ok (.iadd, 1) := by decide +kernel
theorem dL_law_560 : decode cL_law 560 = .ok (.iaload, 1) := by decide +kernel
theorem dL_law_561 : decode cL_law 561 = .ok (.aload_n 3, 1) := by decide +kernel
theorem dL_law_562 : decode cL_law 562 = .ok (.invokestatic 112, 3) := by decide +kernel
theorem dL_law_565 : decode cL_law 565 = .ok (.istore 5, 2) := by decide +kernel
theorem dL_law_567 : decode cL_law 567 = .ok (.aload_n 2, 1) := by decide +kernel
theorem dL_law_568 : decode cL_law 568 = .ok (.aload_n 0, 1) := by decide +kernel
theorem dL_law_569 : decode cL_law 569 = .ok (.iload 4, 2) := by decide +kernel
theorem dL_law_571 : decode cL_law 571 = .ok (.iconst 1, 1) := by decide +kernel
theorem dL_law_572 : decode cL_law 572 = .ok (.iadd, 1) := by decide +kernel
theorem dL_law_573 : decode cL_law 573 = .ok (.iaload, 1) := by decide +kernel
theorem dL_law_574 : decode cL_law 574 = .ok (.aload_n 0, 1) := by decide +kernel
theorem dL_law_575 : decode cL_law 575 = .ok (.iload 4, 2) := by decide +kernel
theorem dL_law_577 : decode cL_law 577 = .ok (.iconst 2, 1) := by decide +kernel
theorem dL_law_578 : decode cL_law 578 = .ok (.iadd, 1) := by decide +kernel
theorem dL_law_579 : decode cL_law 579 = .ok (.iaload, 1) := by decide +kernel
theorem dL_law_580 : decode cL_law 580 = .ok (.invokevirtual 114, 3) := by decide +kernel
theorem dL_law_583 : decode cL_law 583 = .ok (.istore 6, 2) := by decide +kernel
theorem dL_law_585 : decode cL_law 585 = .ok (.aload_n 2, 1) := by decide +kernel
theorem dL_law_586 : decode cL_law 586 = .ok (.invokevirtual 95, 3) := by decide +kernel
theorem dL_law_589 : decode cL_law 589 = .ok (.iload 5, 2) := by decide +kernel
theorem dL_law_591 : decode cL_law 591 = .ok (.if_icmp .eq 5, 3) := by decide +kernel
theorem dL_law_594 : decode cL_law 594 = .ok (.iconst 0, 1) := by decide +kernel
theorem dL_law_595 : decode cL_law 595 = .ok (.ireturn, 1) := by decide +kernel
theorem dL_law_596 : decode cL_law 596 = .ok (.iload 5, 2) := by decide +kernel
theorem dL_law_598 : decode cL_law 598 = .ok (.ifCond .ne 15, 3) := by decide +kernel
theorem dL_law_601 : decode cL_law 601 = .ok (.aload_n 3, 1) := by decide +kernel
theorem dL_law_602 : decode cL_law 602 = .ok (.iconst 0, 1) := by decide +kernel
theorem dL_law_603 : decode cL_law 603 = .ok (.laload, 1) := by decide +kernel
theorem dL_law_604 : decode cL_law 604 = .ok (.iload 6, 2) := by decide +kernel
theorem dL_law_606 : decode cL_law 606 = .ok (.i2l, 1) := by decide +kernel
theorem dL_law_607 : decode cL_law 607 = .ok (.lcmp, 1) := by decide +kernel
theorem dL_law_608 : decode cL_law 608 = .ok (.ifCond .eq 5, 3) := by decide +kernel
theorem dL_law_611 : decode cL_law 611 = .ok (.iconst 0, 1) := by decide +kernel
theorem dL_law_612 : decode cL_law 612 = .ok (.ireturn, 1) := by decide +kernel
theorem dL_law_613 : decode cL_law 613 = .ok (.goto 1145, 3) := by decide +kernel
theorem dL_law_616 : decode cL_law 616 = .ok (.aload_n 1, 1) := by decide +kernel
theorem dL_law_617 : decode cL_law 617 = .ok (.aload_n 0, 1) := by decide +kernel
theorem dL_law_618 : decode cL_law 618 = .ok (.iload 4, 2) := by decide +kernel
theorem dL_law_620 : decode cL_law 620 = .ok (.iconst 1, 1) := by decide +kernel
theorem dL_law_621 : decode cL_law 621 = .ok (.iadd, 1) := by decide +kernel
theorem dL_law_622 : decode cL_law 622 = .ok (.iaload, 1) := by decide +kernel
theorem dL_law_623 : decode cL_law 623 = .ok (.aload_n 3, 1) := by decide +kernel
theorem dL_law_624 : decode cL_law 624 = .ok (.invokestatic 115, 3) := by decide +kernel
theorem dL_law_627 : decode cL_law 627 = .ok (.istore 5, 2) := by decide +kernel
theorem dL_law_629 : decode cL_law 629 = .ok (.aload_n 2, 1) := by decide +kernel
theorem dL_law_630 : decode cL_law 630 = .ok (.aload_n 0, 1) := by decide +kernel
theorem dL_law_631 : decode cL_law 631 = .ok (.iload 4, 2) := by decide +kernel
theorem dL_law_633 : decode cL_law 633 = .ok (.iconst 1, 1) := by decide +kernel
theorem dL_law_634 : decode cL_law 634 = .ok (.iadd, 1) := by decide +kernel
theorem dL_law_635 : decode cL_law 635 = .ok (.iaload, 1) := by decide +kernel
theorem dL_law_636 : decode cL_law 636 = .ok (.invokevirtual 118, 3) := by decide +kernel
theorem dL_law_639 : decode cL_law 639 = .ok (.istore 6, 2) := by decide +kernel
theorem dL_law_641 : decode cL_law 641 = .ok (.aload_n 2, 1) := by decide +kernel
theorem dL_law_642 : decode cL_law 642 = .ok (.invokevirtual 95, 3) := by decide +kernel
theorem dL_law_645 : decode cL_law 645 = .ok (.iload 5, 2) := by decide +kernel
theorem dL_law_647 : decode cL_law 647 = .ok (.if_icmp .eq 5, 3) := by decide +kernel
theorem dL_law_650 : decode cL_law 650 = .ok (.iconst 0, 1) := by decide +kernel
theorem dL_law_651 : decode cL_law 651 = .ok (.ireturn, 1) := by decide +kernel
theorem dL_law_652 : decode cL_law 652 = .ok (.iload 5, 2) := by decide +kernel
theorem dL_law_654 : decode cL_law 654 = .ok (.ifCond .ne 15, 3) := by decide +kernel
theorem dL_law_657 : decode cL_law 657 = .ok (.aload_n 3, 1) := by decide +kernel
theorem dL_law_658 : decode cL_law 658 = .ok (.iconst 0, 1) := by decide +kernel
theorem dL_law_659 : decode cL_law 659 = .ok (.laload, 1) := by decide +kernel
theorem dL_law_660 : decode cL_law 660 = .ok (.iload 6, 2) := by decide +kernel
theorem dL_law_662 : decode cL_law 662 = .ok (.i2l, 1) := by decide +kernel
theorem dL_law_663 : decode cL_law 663 = .ok (.lcmp, 1) := by decide +kernel
theorem dL_law_664 : decode cL_law 664 = .ok (.ifCond .eq 5, 3) := by decide +kernel
theorem dL_law_667 : decode cL_law 667 = .ok (.iconst 0, 1) := by decide +kernel
theorem dL_law_668 : decode cL_law 668 = .ok (.ireturn, 1) := by decide +kernel
theorem dL_law_669 : decode cL_law 669 = .ok (.goto 1089, 3) := by decide +kernel
theorem dL_law_672 : decode cL_law 672 = .ok (.aload_n 1, 1) := by decide +kernel
theorem dL_law_673 : decode cL_law 673 = .ok (.invokevirtual 119, 3) := by decide +kernel
theorem dL_law_676 : decode cL_law 676 = .ok (.aload_n 2, 1) := by decide +kernel
theorem dL_law_677 : decode cL_law 677 = .ok (.invokevirtual 122, 3) := by decide +kernel
theorem dL_law_680 : decode cL_law 680 = .ok (.if_icmp .eq 1078, 3) := by decide +kernel
theorem dL_law_683 : decode cL_law 683 = .ok (.iconst 0, 1) := by decide +kernel
theorem dL_law_684 : decode cL_law 684 = .ok (.ireturn, 1) := by decide +kernel
theorem dL_law_685 : decode cL_law 685 = .ok (.aload_n 1, 1) := by decide +kernel
theorem dL_law_686 : decode cL_law 686 = .ok (.invokevirtual 123, 3) := by decide +kernel
theorem dL_law_689 : decode cL_law 689 = .ok (.aload_n 2, 1) := by decide +kernel
theorem dL_law_690 : decode cL_law 690 = .ok (.invokevirtual 126, 3) := by decide +kernel
theorem dL_law_693 : decode cL_law 693 = .ok (.if_icmp .eq 1065, 3) := by decide +kernel
theorem dL_law_696 : decode cL_law 696 = .ok (.iconst 0, 1) := by decide +kernel
theorem dL_law_697 : decode cL_law 697 = .ok (.ireturn, 1) := by decide +kernel
theorem dL_law_698 : decode cL_law 698 = .ok (.aload_n 1, 1) := by decide +kernel
theorem dL_law_699 : decode cL_law 699 = .ok (.invokevirtual 127, 3) := by decide +kernel
theorem dL_law_702 : decode cL_law 702 = .ok (.aload_n 2, 1) := by decide +kernel
theorem dL_law_703 : decode cL_law 703 = .ok (.invokevirtual 130, 3) := by decide +kernel
theorem dL_law_706 : decode cL_law 706 = .ok (.if_icmp .eq 1052, 3) := by decide +kernel
theorem dL_law_709 : decode cL_law 709 = .ok (.iconst 0, 1) := by decide +kernel
theorem dL_law_710 : decode cL_law 710 = .ok (.ireturn, 1) := by decide +kernel
theorem dL_law_711 : decode cL_law 711 = .ok (.aload_n 1, 1) := by decide +kernel
theorem dL_law_712 : decode cL_law 712 = .ok (.invokevirtual 131, 3) := by decide +kernel
theorem dL_law_715 : decode cL_law 715 = .ok (.aload_n 2, 1) := by decide +kernel
theorem dL_law_716 : decode cL_law 716 = .ok (.invokevirtual 134, 3) := by decide +kernel
theorem dL_law_719 : decode cL_law 719 = .ok (.if_icmp .eq 1039, 3) := by decide +kernel
theorem dL_law_722 : decode cL_law 722 = .ok (.iconst 0, 1) := by decide +kernel
theorem dL_law_723 : decode cL_law 723 = .ok (.ireturn, 1) := by decide +kernel
theorem dL_law_724 : decode cL_law 724 = .ok (.aload_n 1, 1) := by decide +kernel
theorem dL_law_725 : decode cL_law 725 = .ok (.invokevirtual 135, 3) := by decide +kernel
theorem dL_law_728 : decode cL_law 728 = .ok (.aload_n 2, 1) := by decide +kernel
theorem dL_law_729 : decode cL_law 729 = .ok (.invokevirtual 138, 3) := by decide +kernel
theorem dL_law_732 : decode cL_law 732 = .ok (.if_icmp .eq 1026, 3) := by decide +kernel
theorem dL_law_735 : decode cL_law 735 = .ok (.iconst 0, 1) := by decide +kernel
theorem dL_law_736 : decode cL_law 736 = .ok (.ireturn, 1) := by decide +kernel
theorem dL_law_737 : decode cL_law 737 = .ok (.aload_n 1, 1) := by decide +kernel
theorem dL_law_738 : decode cL_law 738 = .ok (.aload_n 0, 1) := by decide +kernel
theorem dL_law_739 : decode cL_law 739 = .ok (.iload 4, 2) := by decide +kernel
theorem dL_law_741 : decode cL_law 741 = .ok (.iconst 1, 1) := by decide +kernel
theorem dL_law_742 : decode cL_law 742 = .ok (.iadd, 1) := by decide +kernel
theorem dL_law_743 : decode cL_law 743 = .ok (.iaload, 1) := by decide +kernel
theorem dL_law_744 : decode cL_law 744 = .ok (.aload_n 3, 1) := by decide +kernel
theorem dL_law_745 : decode cL_law 745 = .ok (.invokestatic 139, 3) := by decide +kernel
theorem dL_law_748 : decode cL_law 748 = .ok (.istore 5, 2) := by decide +kernel
theorem dL_law_750 : decode cL_law 750 = .ok (.aload_n 2, 1) := by decide +kernel
theorem dL_law_751 : decode cL_law 751 = .ok (.aload_n 0, 1) := by decide +kernel
theorem dL_law_752 : decode cL_law 752 = .ok (.iload 4, 2) := by decide +kernel
theorem dL_law_754 : decode cL_law 754 = .ok (.iconst 1, 1) := by decide +kernel
theorem dL_law_755 : decode cL_law 755 = .ok (.iadd, 1) := by decide +kernel
theorem dL_law_756 : decode cL_law 756 = .ok (.iaload, 1) := by decide +kernel
theorem dL_law_757 : decode cL_law 757 = .ok (.invokevirtual 141, 3) := by decide +kernel
theorem dL_law_760 : decode cL_law 760 = .ok (.istore 6, 2) := by decide +kernel
theorem dL_law_762 : decode cL_law 762 = .ok (.aload_n 2, 1) := by decide +kernel
theorem dL_law_763 : decode cL_law 763 = .ok (.invokevirtual 95, 3) := by decide +kernel
theorem dL_law_766 : decode cL_law 766 = .ok (.iload 5, 2) := by decide +kernel
theorem dL_law_768 : decode cL_law 768 = .ok (.if_icmp .eq 5, 3) := by decide +kernel
theorem dL_law_771 : decode cL_law 771 = .ok (.iconst 0, 1) := by decide +kernel
theorem dL_law_772 : decode cL_law 772 = .ok (.ireturn, 1) := by decide +kernel
theorem dL_law_773 : decode cL_law 773 = .ok (.iload 5, 2) := by decide +kernel
theorem dL_law_775 : decode cL_law 775 = .ok (.ifCond .ne 15, 3) := by decide +kernel
theorem dL_law_778 : decode cL_law 778 = .ok (.aload_n 3, 1) := by decide +kernel
theorem dL_law_779 : decode cL_law 779 = .ok (.iconst 0, 1) := by decide +kernel
theorem dL_law_780 : decode cL_law 780 = .ok (.laload, 1) := by decide +kernel
theorem dL_law_781 : decode cL_law 781 = .ok (.iload 6, 2) := by decide +kernel
theorem dL_law_783 : decode cL_law 783 = .ok (.i2l, 1) := by decide +kernel
theorem dL_law_784 : decode cL_law 784 = .ok (.lcmp, 1) := by decide +kernel
theorem dL_law_785 : decode cL_law 785 = .ok (.ifCond .eq 5, 3) := by decide +kernel
theorem dL_law_788 : decode cL_law 788 = .ok (.iconst 0, 1) := by decide +kernel
theorem dL_law_789 : decode cL_law 789 = .ok (.ireturn, 1) := by decide +kernel
theorem dL_law_790 : decode cL_law 790 = .ok (.goto 968, 3) := by decide +kernel
theorem dL_law_793 : decode cL_law 793 = .ok (.aload_n 1, 1) := by decide +kernel
theorem dL_law_794 : decode cL_law 794 = .ok (.aload_n 0, 1) := by decide +kernel
theorem dL_law_795 : decode cL_law 795 = .ok (.iload 4, 2) := by decide +kernel
theorem dL_law_797 : decode cL_law 797 = .ok (.iconst 1, 1) := by decide +kernel
theorem dL_law_798 : decode cL_law 798 = .ok (.iadd, 1) := by decide +kernel
theorem dL_law_799 : decode cL_law 799 = .ok (.iaload, 1) := by decide +kernel
theorem dL_law_800 : decode cL_law 800 = .ok (.aload_n 3, 1) := by decide +kernel
theorem dL_law_801 : decode cL_law 801 = .ok (.invokestatic 142, 3) := by decide +kernel
theorem dL_law_804 : decode cL_law 804 = .ok (.istore 5, 2) := by decide +kernel
theorem dL_law_806 : decode cL_law 806 = .ok (.aload_n 2, 1) := by decide +kernel
theorem dL_law_807 : decode cL_law 807 = .ok (.aload_n 0, 1) := by decide +kernel
theorem dL_law_808 : decode cL_law 808 = .ok (.iload 4, 2) := by decide +kernel
theorem dL_law_810 : decode cL_law 810 = .ok (.iconst 1, 1) := by decide +kernel
theorem dL_law_811 : decode cL_law 811 = .ok (.iadd, 1) := by decide +kernel
theorem dL_law_812 : decode cL_law 812 = .ok (.iaload, 1) := by decide +kernel
theorem dL_law_813 : decode cL_law 813 = .ok (.invokevirtual 144, 3) := by decide +kernel
theorem dL_law_816 : decode cL_law 816 = .ok (.istore 6, 2) := by decide +kernel
theorem dL_law_818 : decode cL_law 818 = .ok (.aload_n 2, 1) := by decide +kernel
theorem dL_law_819 : decode cL_law 819 = .ok (.invokevirtual 95, 3) := by decide +kernel
theorem dL_law_822 : decode cL_law 822 = .ok (.iload 5, 2) := by decide +kernel
theorem dL_law_824 : decode cL_law 824 = .ok (.if_icmp .eq 5, 3) := by decide +kernel
theorem dL_law_827 : decode cL_law 827 = .ok (.iconst 0, 1) := by decide +kernel
theorem dL_law_828 : decode cL_law 828 = .ok (.ireturn, 1) := by decide +kernel
theorem dL_law_829 : decode cL_law 829 = .ok (.iload 5, 2) := by decide +kernel
theorem dL_law_831 : decode cL_law 831 = .ok (.ifCond .ne 15, 3) := by decide +kernel
theorem dL_law_834 : decode cL_law 834 = .ok (.aload_n 3, 1) := by decide +kernel
theorem dL_law_835 : decode cL_law 835 = .ok (.iconst 0, 1) := by decide +kernel
theorem dL_law_836 : decode cL_law 836 = .ok (.laload, 1) := by decide +kernel
theorem dL_law_837 : decode cL_law 837 = .ok (.iload 6, 2) := by decide +kernel
theorem dL_law_839 : decode cL_law 839 = .ok (.i2l, 1) := by decide +kernel
theorem dL_law_840 : decode cL_law 840 = .ok (.lcmp, 1) := by decide +kernel
theorem dL_law_841 : decode cL_law 841 = .ok (.ifCond .eq 5, 3) := by decide +kernel
theorem dL_law_844 : decode cL_law 844 = .ok (.iconst 0, 1) := by decide +kernel
theorem dL_law_845 : decode cL_law 845 = .ok (.ireturn, 1) := by decide +kernel
theorem dL_law_846 : decode cL_law 846 = .ok (.goto 912, 3) := by decide +kernel
theorem dL_law_849 : decode cL_law 849 = .ok (.aload_n 1, 1) := by decide +kernel
theorem dL_law_850 : decode cL_law 850 = .ok (.aload_n 0, 1) := by decide +kernel
theorem dL_law_851 : decode cL_law 851 = .ok (.iload 4, 2) := by decide +kernel
theorem dL_law_853 : decode cL_law 853 = .ok (.iconst 1, 1) := by decide +kernel
theorem dL_law_854 : decode cL_law 854 = .ok (.iadd, 1) := by decide +kernel
theorem dL_law_855 : decode cL_law 855 = .ok (.iaload, 1) := by decide +kernel
theorem dL_law_856 : decode cL_law 856 = .ok (.aload_n 3, 1) := by decide +kernel
theorem dL_law_857 : decode cL_law 857 = .ok (.invokestatic 145, 3) := by decide +kernel
theorem dL_law_860 : decode cL_law 860 = .ok (.istore 5, 2) := by decide +kernel
theorem dL_law_862 : decode cL_law 862 = .ok (.aload_n 2, 1) := by decide +kernel
theorem dL_law_863 : decode cL_law 863 = .ok (.aload_n 0, 1) := by decide +kernel
theorem dL_law_864 : decode cL_law 864 = .ok (.iload 4, 2) := by decide +kernel
theorem dL_law_866 : decode cL_law 866 = .ok (.iconst 1, 1) := by decide +kernel
theorem dL_law_867 : decode cL_law 867 = .ok (.iadd, 1) := by decide +kernel
theorem dL_law_868 : decode cL_law 868 = .ok (.iaload, 1) := by decide +kernel
theorem dL_law_869 : decode cL_law 869 = .ok (.invokevirtual 147, 3) := by decide +kernel
theorem dL_law_872 : decode cL_law 872 = .ok (.istore 6, 2) := by decide +kernel
theorem dL_law_874 : decode cL_law 874 = .ok (.aload_n 2, 1) := by decide +kernel
theorem dL_law_875 : decode cL_law 875 = .ok (.invokevirtual 95, 3) := by decide +kernel
theorem dL_law_878 : decode cL_law 878 = .ok (.iload 5, 2) := by decide +kernel
theorem dL_law_880 : decode cL_law 880 = .ok (.if_icmp .eq 5, 3) := by decide +kernel
theorem dL_law_883 : decode cL_law 883 = .ok (.iconst 0, 1) := by decide +kernel
theorem dL_law_884 : decode cL_law 884 = .ok (.ireturn, 1) := by decide +kernel
theorem dL_law_885 : decode cL_law 885 = .ok (.iload 5, 2) := by decide +kernel
theorem dL_law_887 : decode cL_law 887 = .ok (.ifCond .ne 15, 3) := by decide +kernel
theorem dL_law_890 : decode cL_law 890 = .ok (.aload_n 3, 1) := by decide +kernel
theorem dL_law_891 : decode cL_law 891 = .ok (.iconst 0, 1) := by decide +kernel
theorem dL_law_892 : decode cL_law 892 = .ok (.laload, 1) := by decide +kernel
theorem dL_law_893 : decode cL_law 893 = .ok (.iload 6, 2) := by decide +kernel
theorem dL_law_895 : decode cL_law 895 = .ok (.i2l, 1) := by decide +kernel
theorem dL_law_896 : decode cL_law 896 = .ok (.lcmp, 1) := by decide +kernel
theorem dL_law_897 : decode cL_law 897 = .ok (.ifCond .eq 5, 3) := by decide +kernel
theorem dL_law_900 : decode cL_law 900 = .ok (.iconst 0, 1) := by decide +kernel
theorem dL_law_901 : decode cL_law 901 = .ok (.ireturn, 1) := by decide +kernel
theorem dL_law_902 : decode cL_law 902 = .ok (.goto 856, 3) := by decide +kernel
theorem dL_law_905 : decode cL_law 905 = .ok (.aload_n 1, 1) := by decide +kernel
theorem dL_law_906 : decode cL_law 906 = .ok (.aload_n 0, 1) := by decide +kernel
theorem dL_law_907 : decode cL_law 907 = .ok (.iload 4, 2) := by decide +kernel
theorem dL_law_909 : decode cL_law 909 = .ok (.iconst 1, 1) := by decide +kernel
theorem dL_law_910 : decode cL_law 910 = .ok (.iadd, 1) := by decide +kernel
theorem dL_law_911 : decode cL_law 911 = .ok (.iaload, 1) := by decide +kernel
theorem dL_law_912 : decode cL_law 912 = .ok (.aload_n 3, 1) := by decide +kernel
theorem dL_law_913 : decode cL_law 913 = .ok (.invokestatic 148, 3) := by decide +kernel
theorem dL_law_916 : decode cL_law 916 = .ok (.istore 5, 2) := by decide +kernel
theorem dL_law_918 : decode cL_law 918 = .ok (.aload_n 2, 1) := by decide +kernel
theorem dL_law_919 : decode cL_law 919 = .ok (.aload_n 0, 1) := by decide +kernel
theorem dL_law_920 : decode cL_law 920 = .ok (.iload 4, 2) := by decide +kernel
theorem dL_law_922 : decode cL_law 922 = .ok (.iconst 1, 1) := by decide +kernel
theorem dL_law_923 : decode cL_law 923 = .ok (.iadd, 1) := by decide +kernel
theorem dL_law_924 : decode cL_law 924 = .ok (.iaload, 1) := by decide +kernel
theorem dL_law_925 : decode cL_law 925 = .ok (.invokevirtual 150, 3) := by decide +kernel
theorem dL_law_928 : decode cL_law 928 = .ok (.istore 6, 2) := by decide +kernel
theorem dL_law_930 : decode cL_law 930 = .ok (.aload_n 2, 1) := by decide +kernel
theorem dL_law_931 : decode cL_law 931 = .ok (.invokevirtual 95, 3) := by decide +kernel
theorem dL_law_934 : decode cL_law 934 = .ok (.iload 5, 2) := by decide +kernel
theorem dL_law_936 : decode cL_law 936 = .ok (.if_icmp .eq 5, 3) := by decide +kernel
theorem dL_law_939 : decode cL_law 939 = .ok (.iconst 0, 1) := by decide +kernel
theorem dL_law_940 : decode cL_law 940 = .ok (.ireturn, 1) := by decide +kernel
theorem dL_law_941 : decode cL_law 941 = .ok (.iload 5, 2) := by decide +kernel
theorem dL_law_943 : decode cL_law 943 = .ok (.ifCond .ne 15, 3) := by decide +kernel
theorem dL_law_946 : decode cL_law 946 = .ok (.aload_n 3, 1) := by decide +kernel
theorem dL_law_947 : decode cL_law 947 = .ok (.iconst 0, 1) := by decide +kernel
theorem dL_law_948 : decode cL_law 948 = .ok (.laload, 1) := by decide +kernel
theorem dL_law_949 : decode cL_law 949 = .ok (.iload 6, 2) := by decide +kernel
theorem dL_law_951 : decode cL_law 951 = .ok (.i2l, 1) := by decide +kernel
theorem dL_law_952 : decode cL_law 952 = .ok (.lcmp, 1) := by decide +kernel
theorem dL_law_953 : decode cL_law 953 = .ok (.ifCond .eq 5, 3) := by decide +kernel
theorem dL_law_956 : decode cL_law 956 = .ok (.iconst 0, 1) := by decide +kernel
theorem dL_law_957 : decode cL_law 957 = .ok (.ireturn, 1) := by decide +kernel
theorem dL_law_958 : decode cL_law 958 = .ok (.goto 800, 3) := by decide +kernel
theorem dL_law_961 : decode cL_law 961 = .ok (.aload_n 1, 1) := by decide +kernel
theorem dL_law_962 : decode cL_law 962 = .ok (.aload_n 0, 1) := by decide +kernel
theorem dL_law_963 : decode cL_law 963 = .ok (.iload 4, 2) := by decide +kernel
theorem dL_law_965 : decode cL_law 965 = .ok (.iconst 1, 1) := by decide +kernel
theorem dL_law_966 : decode cL_law 966 = .ok (.iadd, 1) := by decide +kernel
theorem dL_law_967 : decode cL_law 967 = .ok (.iaload, 1) := by decide +kernel
theorem dL_law_968 : decode cL_law 968 = .ok (.aload_n 3, 1) := by decide +kernel
theorem dL_law_969 : decode cL_law 969 = .ok (.invokestatic 151, 3) := by decide +kernel
theorem dL_law_972 : decode cL_law 972 = .ok (.istore 5, 2) := by decide +kernel
theorem dL_law_974 : decode cL_law 974 = .ok (.aload_n 2, 1) := by decide +kernel
theorem dL_law_975 : decode cL_law 975 = .ok (.aload_n 0, 1) := by decide +kernel
theorem dL_law_976 : decode cL_law 976 = .ok (.iload 4, 2) := by decide +kernel
theorem dL_law_978 : decode cL_law 978 = .ok (.iconst 1, 1) := by decide +kernel
theorem dL_law_979 : decode cL_law 979 = .ok (.iadd, 1) := by decide +kernel
theorem dL_law_980 : decode cL_law 980 = .ok (.iaload, 1) := by decide +kernel
theorem dL_law_981 : decode cL_law 981 = .ok (.invokevirtual 153, 3) := by decide +kernel
theorem dL_law_984 : decode cL_law 984 = .ok (.istore 6, 2) := by decide +kernel
theorem dL_law_986 : decode cL_law 986 = .ok (.aload_n 2, 1) := by decide +kernel
theorem dL_law_987 : decode cL_law 987 = .ok (.invokevirtual 95, 3) := by decide +kernel
theorem dL_law_990 : decode cL_law 990 = .ok (.iload 5, 2) := by decide +kernel
theorem dL_law_992 : decode cL_law 992 = .ok (.if_icmp .eq 5, 3) := by decide +kernel
theorem dL_law_995 : decode cL_law 995 = .ok (.iconst 0, 1) := by decide +kernel
theorem dL_law_996 : decode cL_law 996 = .ok (.ireturn, 1) := by decide +kernel
theorem dL_law_997 : decode cL_law 997 = .ok (.iload 5, 2) := by decide +kernel
theorem dL_law_999 : decode cL_law 999 = .ok (.ifCond .ne 15, 3) := by decide +kernel
theorem dL_law_1002 : decode cL_law 1002 = .ok (.aload_n 3, 1) := by decide +kernel
theorem dL_law_1003 : decode cL_law 1003 = .ok (.iconst 0, 1) := by decide +kernel
theorem dL_law_1004 : decode cL_law 1004 = .ok (.laload, 1) := by decide +kernel
theorem dL_law_1005 : decode cL_law 1005 = .ok (.iload 6, 2) := by decide +kernel
theorem dL_law_1007 : decode cL_law 1007 = .ok (.i2l, 1) := by decide +kernel
theorem dL_law_1008 : decode cL_law 1008 = .ok (.lcmp, 1) := by decide +kernel
theorem dL_law_1009 : decode cL_law 1009 = .ok (.ifCond .eq 5, 3) := by decide +kernel
theorem dL_law_1012 : decode cL_law 1012 = .ok (.iconst 0, 1) := by decide +kernel
theorem dL_law_1013 : decode cL_law 1013 = .ok (.ireturn, 1) := by decide +kernel
theorem dL_law_1014 : decode cL_law 1014 = .ok (.goto 744, 3) := by decide +kernel
theorem dL_law_1017 : decode cL_law 1017 = .ok (.aload_n 1, 1) := by decide +kernel
theorem dL_law_1018 : decode cL_law 1018 = .ok (.aload_n 0, 1) := by decide +kernel
theorem dL_law_1019 : decode cL_law 1019 = .ok (.iload 4, 2) := by decide +kernel
theorem dL_law_1021 : decode cL_law 1021 = .ok (.iconst 1, 1) := by decide +kernel
theorem dL_law_1022 : decode cL_law 1022 = .ok (.iadd, 1) := by decide +kernel
theorem dL_law_1023 : decode cL_law 1023 = .ok (.iaload, 1) := by decide +kernel
theorem dL_law_1024 : decode cL_law 1024 = .ok (.aload_n 0, 1) := by decide +kernel
theorem dL_law_1025 : decode cL_law 1025 = .ok (.iload 4, 2) := by decide +kernel
theorem dL_law_1027 : decode cL_law 1027 = .ok (.iconst 2, 1) := by decide +kernel
theorem dL_law_1028 : decode cL_law 1028 = .ok (.iadd, 1) := by decide +kernel
theorem dL_law_1029 : decode cL_law 1029 = .ok (.iaload, 1) := by decide +kernel
theorem dL_law_1030 : decode cL_law 1030 = .ok (.aload_n 3, 1) := by decide +kernel
theorem dL_law_1031 : decode cL_law 1031 = .ok (.invokestatic 154, 3) := by decide +kernel
theorem dL_law_1034 : decode cL_law 1034 = .ok (.istore 5, 2) := by decide +kernel
theorem dL_law_1036 : decode cL_law 1036 = .ok (.aload_n 2, 1) := by decide +kernel
theorem dL_law_1037 : decode cL_law 1037 = .ok (.aload_n 0, 1) := by decide +kernel
theorem dL_law_1038 : decode cL_law 1038 = .ok (.iload 4, 2) := by decide +kernel
theorem dL_law_1040 : decode cL_law 1040 = .ok (.iconst 1, 1) := by decide +kernel
theorem dL_law_1041 : decode cL_law 1041 = .ok (.iadd, 1) := by decide +kernel
theorem dL_law_1042 : decode cL_law 1042 = .ok (.iaload, 1) := by decide +kernel
theorem dL_law_1043 : decode cL_law 1043 = .ok (.aload_n 0, 1) := by decide +kernel
theorem dL_law_1044 : decode cL_law 1044 = .ok (.iload 4, 2) := by decide +kernel
theorem dL_law_1046 : decode cL_law 1046 = .ok (.iconst 2, 1) := by decide +kernel
theorem dL_law_1047 : decode cL_law 1047 = .ok (.iadd, 1) := by decide +kernel
theorem dL_law_1048 : decode cL_law 1048 = .ok (.iaload, 1) := by decide +kernel
theorem dL_law_1049 : decode cL_law 1049 = .ok (.invokevirtual 156, 3) := by decide +kernel
theorem dL_law_1052 : decode cL_law 1052 = .ok (.istore 6, 2) := by decide +kernel
theorem dL_law_1054 : decode cL_law 1054 = .ok (.aload_n 2, 1) := by decide +kernel
theorem dL_law_1055 : decode cL_law 1055 = .ok (.invokevirtual 95, 3) := by decide +kernel
theorem dL_law_1058 : decode cL_law 1058 = .ok (.iload 5, 2) := by decide +kernel
theorem dL_law_1060 : decode cL_law 1060 = .ok (.if_icmp .eq 5, 3) := by decide +kernel
theorem dL_law_1063 : decode cL_law 1063 = .ok (.iconst 0, 1) := by decide +kernel
theorem dL_law_1064 : decode cL_law 1064 = .ok (.ireturn, 1) := by decide +kernel
theorem dL_law_1065 : decode cL_law 1065 = .ok (.iload 5, 2) := by decide +kernel
theorem dL_law_1067 : decode cL_law 1067 = .ok (.ifCond .ne 15, 3) := by decide +kernel
theorem dL_law_1070 : decode cL_law 1070 = .ok (.aload_n 3, 1) := by decide +kernel
theorem dL_law_1071 : decode cL_law 1071 = .ok (.iconst 0, 1) := by decide +kernel
theorem dL_law_1072 : decode cL_law 1072 = .ok (.laload, 1) := by decide +kernel
theorem dL_law_1073 : decode cL_law 1073 = .ok (.iload 6, 2) := by decide +kernel
theorem dL_law_1075 : decode cL_law 1075 = .ok (.i2l, 1) := by decide +kernel
theorem dL_law_1076 : decode cL_law 1076 = .ok (.lcmp, 1) := by decide +kernel
theorem dL_law_1077 : decode cL_law 1077 = .ok (.ifCond .eq 5, 3) := by decide +kernel
theorem dL_law_1080 : decode cL_law 1080 = .ok (.iconst 0, 1) := by decide +kernel
theorem dL_law_1081 : decode cL_law 1081 = .ok (.ireturn, 1) := by decide +kernel
theorem dL_law_1082 : decode cL_law 1082 = .ok (.goto 676, 3) := by decide +kernel
theorem dL_law_1085 : decode cL_law 1085 = .ok (.aload_n 1, 1) := by decide +kernel
theorem dL_law_1086 : decode cL_law 1086 = .ok (.aload_n 0, 1) := by decide +kernel
theorem dL_law_1087 : decode cL_law 1087 = .ok (.iload 4, 2) := by decide +kernel
theorem dL_law_1089 : decode cL_law 1089 = .ok (.iconst 1, 1) := by decide +kernel
theorem dL_law_1090 : decode cL_law 1090 = .ok (.iadd, 1) := by decide +kernel
theorem dL_law_1091 : decode cL_law 1091 = .ok (.iaload, 1) := by decide +kernel
theorem dL_law_1092 : decode cL_law 1092 = .ok (.aload_n 0, 1) := by decide +kernel
theorem dL_law_1093 : decode cL_law 1093 = .ok (.iload 4, 2) := by decide +kernel
theorem dL_law_1095 : decode cL_law 1095 = .ok (.iconst 2, 1) := by decide +kernel
theorem dL_law_1096 : decode cL_law 1096 = .ok (.iadd, 1) := by decide +kernel
theorem dL_law_1097 : decode cL_law 1097 = .ok (.iaload, 1) := by decide +kernel
theorem dL_law_1098 : decode cL_law 1098 = .ok (.aload_n 3, 1) := by decide +kernel
theorem dL_law_1099 : decode cL_law 1099 = .ok (.invokestatic 157, 3) := by decide +kernel
theorem dL_law_1102 : decode cL_law 1102 = .ok (.istore 5, 2) := by decide +kernel
theorem dL_law_1104 : decode cL_law 1104 = .ok (.aload_n 2, 1) := by decide +kernel
theorem dL_law_1105 : decode cL_law 1105 = .ok (.aload_n 0, 1) := by decide +kernel
theorem dL_law_1106 : decode cL_law 1106 = .ok (.iload 4, 2) := by decide +kernel
theorem dL_law_1108 : decode cL_law 1108 = .ok (.iconst 1, 1) := by decide +kernel
theorem dL_law_1109 : decode cL_law 1109 = .ok (.iadd, 1) := by decide +kernel
theorem dL_law_1110 : decode cL_law 1110 = .ok (.iaload, 1) := by decide +kernel
theorem dL_law_1111 : decode cL_law 1111 = .ok (.aload_n 0, 1) := by decide +kernel
theorem dL_law_1112 : decode cL_law 1112 = .ok (.iload 4, 2) := by decide +kernel
theorem dL_law_1114 : decode cL_law 1114 = .ok (.iconst 2, 1) := by decide +kernel
theorem dL_law_1115 : decode cL_law 1115 = .ok (.iadd, 1) := by decide +kernel
theorem dL_law_1116 : decode cL_law 1116 = .ok (.iaload, 1) := by decide +kernel
theorem dL_law_1117 : decode cL_law 1117 = .ok (.invokevirtual 159, 3) := by decide +kernel
theorem dL_law_1120 : decode cL_law 1120 = .ok (.istore 6, 2) := by decide +kernel
theorem dL_law_1122 : decode cL_law 1122 = .ok (.aload_n 2, 1) := by decide +kernel
theorem dL_law_1123 : decode cL_law 1123 = .ok (.invokevirtual 95, 3) := by decide +kernel
theorem dL_law_1126 : decode cL_law 1126 = .ok (.iload 5, 2) := by decide +kernel
theorem dL_law_1128 : decode cL_law 1128 = .ok (.if_icmp .eq 5, 3) := by decide +kernel
theorem dL_law_1131 : decode cL_law 1131 = .ok (.iconst 0, 1) := by decide +kernel
theorem dL_law_1132 : decode cL_law 1132 = .ok (.ireturn, 1) := by decide +kernel
theorem dL_law_1133 : decode cL_law 1133 = .ok (.iload 5, 2) := by decide +kernel
theorem dL_law_1135 : decode cL_law 1135 = .ok (.ifCond .ne 22, 3) := by decide +kernel
theorem dL_law_1138 : decode cL_law 1138 = .ok (.aload_n 3, 1) := by decide +kernel
theorem dL_law_1139 : decode cL_law 1139 = .ok (.iconst 0, 1) := by decide +kernel
theorem dL_law_1140 : decode cL_law 1140 = .ok (.laload, 1) := by decide +kernel
theorem dL_law_1141 : decode cL_law 1141 = .ok (.iload 6, 2) := by decide +kernel
theorem dL_law_1143 : decode cL_law 1143 = .ok (.ifCond .eq 7, 3) := by decide +kernel
theorem dL_law_1146 : decode cL_law 1146 = .ok (.lconst 1, 1) := by decide +kernel
theorem dL_law_1147 : decode cL_law 1147 = .ok (.goto 4, 3) := by decide +kernel
theorem dL_law_1150 : decode cL_law 1150 = .ok (.lconst 0, 1) := by decide +kernel
theorem dL_law_1151 : decode cL_law 1151 = .ok (.lcmp, 1) := by decide +kernel
theorem dL_law_1152 : decode cL_law 1152 = .ok (.ifCond .eq 5, 3) := by decide +kernel
theorem dL_law_1155 : decode cL_law 1155 = .ok (.iconst 0, 1) := by decide +kernel
theorem dL_law_1156 : decode cL_law 1156 = .ok (.ireturn, 1) := by decide +kernel
theorem dL_law_1157 : decode cL_law 1157 = .ok (.goto 601, 3) := by decide +kernel
theorem dL_law_1160 : decode cL_law 1160 = .ok (.aload_n 1, 1) := by decide +kernel
theorem dL_law_1161 : decode cL_law 1161 = .ok (.aload_n 0, 1) := by decide +kernel
theorem dL_law_1162 : decode cL_law 1162 = .ok (.iload 4, 2) := by decide +kernel
theorem dL_law_1164 : decode cL_law 1164 = .ok (.iconst 1, 1) := by decide +kernel
theorem dL_law_1165 : decode cL_law 1165 = .ok (.iadd, 1) := by decide +kernel
theorem dL_law_1166 : decode cL_law 1166 = .ok (.iaload, 1) := by decide +kernel
theorem dL_law_1167 : decode cL_law 1167 = .ok (.aload_n 0, 1) := by decide +kernel
theorem dL_law_1168 : decode cL_law 1168 = .ok (.iload 4, 2) := by decide +kernel
theorem dL_law_1170 : decode cL_law 1170 = .ok (.iconst 2, 1) := by decide +kernel
theorem dL_law_1171 : decode cL_law 1171 = .ok (.iadd, 1) := by decide +kernel
theorem dL_law_1172 : decode cL_law 1172 = .ok (.iaload, 1) := by decide +kernel
theorem dL_law_1173 : decode cL_law 1173 = .ok (.aload_n 3, 1) := by decide +kernel
theorem dL_law_1174 : decode cL_law 1174 = .ok (.invokestatic 160, 3) := by decide +kernel
theorem dL_law_1177 : decode cL_law 1177 = .ok (.istore 5, 2) := by decide +kernel
theorem dL_law_1179 : decode cL_law 1179 = .ok (.aload_n 2, 1) := by decide +kernel
theorem dL_law_1180 : decode cL_law 1180 = .ok (.aload_n 0, 1) := by decide +kernel
theorem dL_law_1181 : decode cL_law 1181 = .ok (.iload 4, 2) := by decide +kernel
theorem dL_law_1183 : decode cL_law 1183 = .ok (.iconst 1, 1) := by decide +kernel
theorem dL_law_1184 : decode cL_law 1184 = .ok (.iadd, 1) := by decide +kernel
theorem dL_law_1185 : decode cL_law 1185 = .ok (.iaload, 1) := by decide +kernel
theorem dL_law_1186 : decode cL_law 1186 = .ok (.aload_n 0, 1) := by decide +kernel
theorem dL_law_1187 : decode cL_law 1187 = .ok (.iload 4, 2) := by decide +kernel
theorem dL_law_1189 : decode cL_law 1189 = .ok (.iconst 2, 1) := by decide +kernel
theorem dL_law_1190 : decode cL_law 1190 = .ok (.iadd, 1) := by decide +kernel
theorem dL_law_1191 : decode cL_law 1191 = .ok (.iaload, 1) := by decide +kernel
theorem dL_law_1192 : decode cL_law 1192 = .ok (.invokevirtual 162, 3) := by decide +kernel
theorem dL_law_1195 : decode cL_law 1195 = .ok (.istore 6, 2) := by decide +kernel
theorem dL_law_1197 : decode cL_law 1197 = .ok (.aload_n 2, 1) := by decide +kernel
theorem dL_law_1198 : decode cL_law 1198 = .ok (.invokevirtual 95, 3) := by decide +kernel
theorem dL_law_1201 : decode cL_law 1201 = .ok (.iload 5, 2) := by decide +kernel
theorem dL_law_1203 : decode cL_law 1203 = .ok (.if_icmp .eq 5, 3) := by decide +kernel
theorem dL_law_1206 : decode cL_law 1206 = .ok (.iconst 0, 1) := by decide +kernel
theorem dL_law_1207 : decode cL_law 1207 = .ok (.ireturn, 1) := by decide +kernel
theorem dL_law_1208 : decode cL_law 1208 = .ok (.iload 5, 2) := by decide +kernel
theorem dL_law_1210 : decode cL_law 1210 = .ok (.ifCond .ne 22, 3) := by decide +kernel
theorem dL_law_1213 : decode cL_law 1213 = .ok (.aload_n 3, 1) := by decide +kernel
theorem dL_law_1214 : decode cL_law 1214 = .ok (.iconst 0, 1) := by decide +kernel
theorem dL_law_1215 : decode cL_law 1215 = .ok (.laload, 1) := by decide +kernel
theorem dL_law_1216 : decode cL_law 1216 = .ok (.iload 6, 2) := by decide +kernel
theorem dL_law_1218 : decode cL_law 1218 = .ok (.ifCond .eq 7, 3) := by decide +kernel
theorem dL_law_1221 : decode cL_law 1221 = .ok (.lconst 1, 1) := by decide +kernel
theorem dL_law_1222 : decode cL_law 1222 = .ok (.goto 4, 3) := by decide +kernel
theorem dL_law_1225 : decode cL_law 1225 = .ok (.lconst 0, 1) := by decide +kernel
theorem dL_law_1226 : decode cL_law 1226 = .ok (.lcmp, 1) := by decide +kernel
theorem dL_law_1227 : decode cL_law 1227 = .ok (.ifCond .eq 5, 3) := by decide +kernel
theorem dL_law_1230 : decode cL_law 1230 = .ok (.iconst 0, 1) := by decide +kernel
theorem dL_law_1231 : decode cL_law 1231 = .ok (.ireturn, 1) := by decide +kernel
theorem dL_law_1232 : decode cL_law 1232 = .ok (.goto 526, 3) := by decide +kernel
theorem dL_law_1235 : decode cL_law 1235 = .ok (.aload_n 1, 1) := by decide +kernel
theorem dL_law_1236 : decode cL_law 1236 = .ok (.invokevirtual 163, 3) := by decide +kernel
theorem dL_law_1239 : decode cL_law 1239 = .ok (.aload_n 2, 1) := by decide +kernel
theorem dL_law_1240 : decode cL_law 1240 = .ok (.invokevirtual 166, 3) := by decide +kernel
theorem dL_law_1243 : decode cL_law 1243 = .ok (.if_icmp .eq 515, 3) := by decide +kernel
theorem dL_law_1246 : decode cL_law 1246 = .ok (.iconst 0, 1) := by decide +kernel
theorem dL_law_1247 : decode cL_law 1247 = .ok (.ireturn, 1) := by decide +kernel
theorem dL_law_1248 : decode cL_law 1248 = .ok (.aload_n 1, 1) := by decide +kernel
theorem dL_law_1249 : decode cL_law 1249 = .ok (.aload_n 0, 1) := by decide +kernel
theorem dL_law_1250 : decode cL_law 1250 = .ok (.iload 4, 2) := by decide +kernel
theorem dL_law_1252 : decode cL_law 1252 = .ok (.iconst 1, 1) := by decide +kernel
theorem dL_law_1253 : decode cL_law 1253 = .ok (.iadd, 1) := by decide +kernel
theorem dL_law_1254 : decode cL_law 1254 = .ok (.iaload, 1) := by decide +kernel
theorem dL_law_1255 : decode cL_law 1255 = .ok (.aload_n 3, 1) := by decide +kernel
theorem dL_law_1256 : decode cL_law 1256 = .ok (.invokestatic 167, 3) := by decide +kernel
theorem dL_law_1259 : decode cL_law 1259 = .ok (.istore 5, 2) := by decide +kernel
theorem dL_law_1261 : decode cL_law 1261 = .ok (.aload_n 2, 1) := by decide +kernel
theorem dL_law_1262 : decode cL_law 1262 = .ok (.aload_n 0, 1) := by decide +kernel
theorem dL_law_1263 : decode cL_law 1263 = .ok (.iload 4, 2) := by decide +kernel
theorem dL_law_1265 : decode cL_law 1265 = .ok (.iconst 1, 1) := by decide +kernel
theorem dL_law_1266 : decode cL_law 1266 = .ok (.iadd, 1) := by decide +kernel
theorem dL_law_1267 : decode cL_law 1267 = .ok (.iaload, 1) := by decide +kernel
theorem dL_law_1268 : decode cL_law 1268 = .ok (.invokevirtual 169, 3) := by decide +kernel
theorem dL_law_1271 : decode cL_law 1271 = .ok (.istore 6, 2) := by decide +kernel
theorem dL_law_1273 : decode cL_law 1273 = .ok (.aload_n 2, 1) := by decide +kernel
theorem dL_law_1274 : decode cL_law 1274 = .ok (.invokevirtual 95, 3) := by decide +kernel
theorem dL_law_1277 : decode cL_law 1277 = .ok (.iload 5, 2) := by decide +kernel
theorem dL_law_1279 : decode cL_law 1279 = .ok (.if_icmp .eq 5, 3) := by decide +kernel
theorem dL_law_1282 : decode cL_law 1282 = .ok (.iconst 0, 1) := by decide +kernel
theorem dL_law_1283 : decode cL_law 1283 = .ok (.ireturn, 1) := by decide +kernel
theorem dL_law_1284 : decode cL_law 1284 = .ok (.iload 5, 2) := by decide +kernel
theorem dL_law_1286 : decode cL_law 1286 = .ok (.ifCond .ne 15, 3) := by decide +kernel
theorem dL_law_1289 : decode cL_law 1289 = .ok (.aload_n 3, 1) := by decide +kernel
theorem dL_law_1290 : decode cL_law 1290 = .ok (.iconst 0, 1) := by decide +kernel
theorem dL_law_1291 : decode cL_law 1291 = .ok (.laload, 1) := by decide +kernel
theorem dL_law_1292 : decode cL_law 1292 = .ok (.iload 6, 2) := by decide +kernel
theorem dL_law_1294 : decode cL_law 1294 = .ok (.i2l, 1) := by decide +kernel
theorem dL_law_1295 : decode cL_law 1295 = .ok (.lcmp, 1) := by decide +kernel
theorem dL_law_1296 : decode cL_law 1296 = .ok (.ifCond .eq 5, 3) := by decide +kernel
theorem dL_law_1299 : decode cL_law 1299 = .ok (.iconst 0, 1) := by decide +kernel
theorem dL_law_1300 : decode cL_law 1300 = .ok (.ireturn, 1) := by decide +kernel
theorem dL_law_1301 : decode cL_law 1301 = .ok (.goto 457, 3) := by decide +kernel
theorem dL_law_1304 : decode cL_law 1304 = .ok (.aload_n 1, 1) := by decide +kernel
theorem dL_law_1305 : decode cL_law 1305 = .ok (.aload_n 0, 1) := by decide +kernel
theorem dL_law_1306 : decode cL_law 1306 = .ok (.iload 4, 2) := by decide +kernel
theorem dL_law_1308 : decode cL_law 1308 = .ok (.iconst 1, 1) := by decide +kernel
theorem dL_law_1309 : decode cL_law 1309 = .ok (.iadd, 1) := by decide +kernel
theorem dL_law_1310 : decode cL_law 1310 = .ok (.iaload, 1) := by decide +kernel
theorem dL_law_1311 : decode cL_law 1311 = .ok (.aload_n 3, 1) := by decide +kernel
theorem dL_law_1312 : decode cL_law 1312 = .ok (.invokestatic 170, 3) := by decide +kernel
theorem dL_law_1315 : decode cL_law 1315 = .ok (.istore 5, 2) := by decide +kernel
theorem dL_law_1317 : decode cL_law 1317 = .ok (.aload_n 2, 1) := by decide +kernel
theorem dL_law_1318 : decode cL_law 1318 = .ok (.aload_n 0, 1) := by decide +kernel
theorem dL_law_1319 : decode cL_law 1319 = .ok (.iload 4, 2) := by decide +kernel
theorem dL_law_1321 : decode cL_law 1321 = .ok (.iconst 1, 1) := by decide +kernel
theorem dL_law_1322 : decode cL_law 1322 = .ok (.iadd, 1) := by decide +kernel
theorem dL_law_1323 : decode cL_law 1323 = .ok (.iaload, 1) := by decide +kernel
theorem dL_law_1324 : decode cL_law 1324 = .ok (.invokevirtual 172, 3) := by decide +kernel
theorem dL_law_1327 : decode cL_law 1327 = .ok (.istore 6, 2) := by decide +kernel
theorem dL_law_1329 : decode cL_law 1329 = .ok (.aload_n 2, 1) := by decide +kernel
theorem dL_law_1330 : decode cL_law 1330 = .ok (.invokevirtual 95, 3) := by decide +kernel
theorem dL_law_1333 : decode cL_law 1333 = .ok (.iload 5, 2) := by decide +kernel
theorem dL_law_1335 : decode cL_law 1335 = .ok (.if_icmp .eq 5, 3) := by decide +kernel
theorem dL_law_1338 : decode cL_law 1338 = .ok (.iconst 0, 1) := by decide +kernel
theorem dL_law_1339 : decode cL_law 1339 = .ok (.ireturn, 1) := by decide +kernel
theorem dL_law_1340 : decode cL_law 1340 = .ok (.iload 5, 2) := by decide +kernel
theorem dL_law_1342 : decode cL_law 1342 = .ok (.ifCond .ne 15, 3) := by decide +kernel
theorem dL_law_1345 : decode cL_law 1345 = .ok (.aload_n 3, 1) := by decide +kernel
theorem dL_law_1346 : decode cL_law 1346 = .ok (.iconst 0, 1) := by decide +kernel
theorem dL_law_1347 : decode cL_law 1347 = .ok (.laload, 1) := by decide +kernel
theorem dL_law_1348 : decode cL_law 1348 = .ok (.iload 6, 2) := by decide +kernel
theorem dL_law_1350 : decode cL_law 1350 = .ok (.i2l, 1) := by decide +kernel
theorem dL_law_1351 : decode cL_law 1351 = .ok (.lcmp, 1) := by decide +kernel
theorem dL_law_1352 : decode cL_law 1352 = .ok (.ifCond .eq 5, 3) := by decide +kernel
theorem dL_law_1355 : decode cL_law 1355 = .ok (.iconst 0, 1) := by decide +kernel
theorem dL_law_1356 : decode cL_law 1356 = .ok (.ireturn, 1) := by decide +kernel
theorem dL_law_1357 : decode cL_law 1357 = .ok (.goto 401, 3) := by decide +kernel
theorem dL_law_1360 : decode cL_law 1360 = .ok (.aload_n 1, 1) := by decide +kernel
theorem dL_law_1361 : decode cL_law 1361 = .ok (.invokevirtual 173, 3) := by decide +kernel
theorem dL_law_1364 : decode cL_law 1364 = .ok (.aload_n 2, 1) := by decide +kernel
theorem dL_law_1365 : decode cL_law 1365 = .ok (.invokevirtual 176, 3) := by decide +kernel
theorem dL_law_1368 : decode cL_law 1368 = .ok (.if_icmp .eq 390, 3) := by decide +kernel
theorem dL_law_1371 : decode cL_law 1371 = .ok (.iconst 0, 1) := by decide +kernel
theorem dL_law_1372 : decode cL_law 1372 = .ok (.ireturn, 1) := by decide +kernel
theorem dL_law_1373 : decode cL_law 1373 = .ok (.aload_n 1, 1) := by decide +kernel
theorem dL_law_1374 : decode cL_law 1374 = .ok (.aload_n 0, 1) := by decide +kernel
theorem dL_law_1375 : decode cL_law 1375 = .ok (.iload 4, 2) := by decide +kernel
theorem dL_law_1377 : decode cL_law 1377 = .ok (.iconst 1, 1) := by decide +kernel
theorem dL_law_1378 : decode cL_law 1378 = .ok (.iadd, 1) := by decide +kernel
theorem dL_law_1379 : decode cL_law 1379 = .ok (.iaload, 1) := by decide +kernel
theorem dL_law_1380 : decode cL_law 1380 = .ok (.aload_n 3, 1) := by decide +kernel
theorem dL_law_1381 : decode cL_law 1381 = .ok (.invokestatic 177, 3) := by decide +kernel
theorem dL_law_1384 : decode cL_law 1384 = .ok (.istore 5, 2) := by decide +kernel
theorem dL_law_1386 : decode cL_law 1386 = .ok (.aload_n 2, 1) := by decide +kernel
theorem dL_law_1387 : decode cL_law 1387 = .ok (.aload_n 0, 1) := by decide +kernel
theorem dL_law_1388 : decode cL_law 1388 = .ok (.iload 4, 2) := by decide +kernel
theorem dL_law_1390 : decode cL_law 1390 = .ok (.iconst 1, 1) := by decide +kernel
theorem dL_law_1391 : decode cL_law 1391 = .ok (.iadd, 1) := by decide +kernel
theorem dL_law_1392 : decode cL_law 1392 = .ok (.iaload, 1) := by decide +kernel
theorem dL_law_1393 : decode cL_law 1393 = .ok (.invokevirtual 179, 3) := by decide +kernel
theorem dL_law_1396 : decode cL_law 1396 = .ok (.istore 6, 2) := by decide +kernel
theorem dL_law_1398 : decode cL_law 1398 = .ok (.aload_n 2, 1) := by decide +kernel
theorem dL_law_1399 : decode cL_law 1399 = .ok (.invokevirtual 95, 3) := by decide +kernel
theorem dL_law_1402 : decode cL_law 1402 = .ok (.iload 5, 2) := by decide +kernel
theorem dL_law_1404 : decode cL_law 1404 = .ok (.if_icmp .eq 5, 3) := by decide +kernel
theorem dL_law_1407 : decode cL_law 1407 = .ok (.iconst 0, 1) := by decide +kernel
theorem dL_law_1408 : decode cL_law 1408 = .ok (.ireturn, 1) := by decide +kernel
theorem dL_law_1409 : decode cL_law 1409 = .ok (.iload 5, 2) := by decide +kernel
theorem dL_law_1411 : decode cL_law 1411 = .ok (.ifCond .ne 15, 3) := by decide +kernel
theorem dL_law_1414 : decode cL_law 1414 = .ok (.aload_n 3, 1) := by decide +kernel
theorem dL_law_1415 : decode cL_law 1415 = .ok (.iconst 0, 1) := by decide +kernel
theorem dL_law_1416 : decode cL_law 1416 = .ok (.laload, 1) := by decide +kernel
theorem dL_law_1417 : decode cL_law 1417 = .ok (.iload 6, 2) := by decide +kernel
theorem dL_law_1419 : decode cL_law 1419 = .ok (.i2l, 1) := by decide +kernel
theorem dL_law_1420 : decode cL_law 1420 = .ok (.lcmp, 1) := by decide +kernel
theorem dL_law_1421 : decode cL_law 1421 = .ok (.ifCond .eq 5, 3) := by decide +kernel
theorem dL_law_1424 : decode cL_law 1424 = .ok (.iconst 0, 1) := by decide +kernel
theorem dL_law_1425 : decode cL_law 1425 = .ok (.ireturn, 1) := by decide +kernel
theorem dL_law_1426 : decode cL_law 1426 = .ok (.goto 332, 3) := by decide +kernel
theorem dL_law_1429 : decode cL_law 1429 = .ok (.aload_n 1, 1) := by decide +kernel
theorem dL_law_1430 : decode cL_law 1430 = .ok (.aload_n 0, 1) := by decide +kernel
theorem dL_law_1431 : decode cL_law 1431 = .ok (.iload 4, 2) := by decide +kernel
theorem dL_law_1433 : decode cL_law 1433 = .ok (.iconst 1, 1) := by decide +kernel
theorem dL_law_1434 : decode cL_law 1434 = .ok (.iadd, 1) := by decide +kernel
theorem dL_law_1435 : decode cL_law 1435 = .ok (.iaload, 1) := by decide +kernel
theorem dL_law_1436 : decode cL_law 1436 = .ok (.aload_n 0, 1) := by decide +kernel
theorem dL_law_1437 : decode cL_law 1437 = .ok (.iload 4, 2) := by decide +kernel
theorem dL_law_1439 : decode cL_law 1439 = .ok (.iconst 2, 1) := by decide +kernel
theorem dL_law_1440 : decode cL_law 1440 = .ok (.iadd, 1) := by decide +kernel
theorem dL_law_1441 : decode cL_law 1441 = .ok (.iaload, 1) := by decide +kernel
theorem dL_law_1442 : decode cL_law 1442 = .ok (.aload_n 3, 1) := by decide +kernel
theorem dL_law_1443 : decode cL_law 1443 = .ok (.invokestatic 180, 3) := by decide +kernel
theorem dL_law_1446 : decode cL_law 1446 = .ok (.istore 5, 2) := by decide +kernel
theorem dL_law_1448 : decode cL_law 1448 = .ok (.aload_n 2, 1) := by decide +kernel
theorem dL_law_1449 : decode cL_law 1449 = .ok (.aload_n 0, 1) := by decide +kernel
theorem dL_law_1450 : decode cL_law 1450 = .ok (.iload 4, 2) := by decide +kernel
theorem dL_law_1452 : decode cL_law 1452 = .ok (.iconst 1, 1) := by decide +kernel
theorem dL_law_1453 : decode cL_law 1453 = .ok (.iadd, 1) := by decide +kernel
theorem dL_law_1454 : decode cL_law 1454 = .ok (.iaload, 1) := by decide +kernel
theorem dL_law_1455 : decode cL_law 1455 = .ok (.aload_n 0, 1) := by decide +kernel
theorem dL_law_1456 : decode cL_law 1456 = .ok (.iload 4, 2) := by decide +kernel
theorem dL_law_1458 : decode cL_law 1458 = .ok (.iconst 2, 1) := by decide +kernel
theorem dL_law_1459 : decode cL_law 1459 = .ok (.iadd, 1) := by decide +kernel
theorem dL_law_1460 : decode cL_law 1460 = .ok (.iaload, 1) := by decide +kernel
theorem dL_law_1461 : decode cL_law 1461 = .ok (.invokevirtual 182, 3) := by decide +kernel
theorem dL_law_1464 : decode cL_law 1464 = .ok (.istore 6, 2) := by decide +kernel
theorem dL_law_1466 : decode cL_law 1466 = .ok (.aload_n 2, 1) := by decide +kernel
theorem dL_law_1467 : decode cL_law 1467 = .ok (.invokevirtual 95, 3) := by decide +kernel
theorem dL_law_1470 : decode cL_law 1470 = .ok (.iload 5, 2) := by decide +kernel
theorem dL_law_1472 : decode cL_law 1472 = .ok (.if_icmp .eq 5, 3) := by decide +kernel
theorem dL_law_1475 : decode cL_law 1475 = .ok (.iconst 0, 1) := by decide +kernel
theorem dL_law_1476 : decode cL_law 1476 = .ok (.ireturn, 1) := by decide +kernel
theorem dL_law_1477 : decode cL_law 1477 = .ok (.iload 5, 2) := by decide +kernel
theorem dL_law_1479 : decode cL_law 1479 = .ok (.ifCond .ne 15, 3) := by decide +kernel
theorem dL_law_1482 : decode cL_law 1482 = .ok (.aload_n 3, 1) := by decide +kernel
theorem dL_law_1483 : decode cL_law 1483 = .ok (.iconst 0, 1) := by decide +kernel
theorem dL_law_1484 : decode cL_law 1484 = .ok (.laload, 1) := by decide +kernel
theorem dL_law_1485 : decode cL_law 1485 = .ok (.iload 6, 2) := by decide +kernel
theorem dL_law_1487 : decode cL_law 1487 = .ok (.i2l, 1) := by decide +kernel
theorem dL_law_1488 : decode cL_law 1488 = .ok (.lcmp, 1) := by decide +kernel
theorem dL_law_1489 : decode cL_law 1489 = .ok (.ifCond .eq 5, 3) := by decide +kernel
theorem dL_law_1492 : decode cL_law 1492 = .ok (.iconst 0, 1) := by decide +kernel
theorem dL_law_1493 : decode cL_law 1493 = .ok (.ireturn, 1) := by decide +kernel
theorem dL_law_1494 : decode cL_law 1494 = .ok (.goto 264, 3) := by decide +kernel
theorem dL_law_1497 : decode cL_law 1497 = .ok (.aload_n 1, 1) := by decide +kernel
theorem dL_law_1498 : decode cL_law 1498 = .ok (.aload_n 0, 1) := by decide +kernel
theorem dL_law_1499 : decode cL_law 1499 = .ok (.iload 4, 2) := by decide +kernel
theorem dL_law_1501 : decode cL_law 1501 = .ok (.iconst 1, 1) := by decide +kernel
theorem dL_law_1502 : decode cL_law 1502 = .ok (.iadd, 1) := by decide +kernel
theorem dL_law_1503 : decode cL_law 1503 = .ok (.iaload, 1) := by decide +kernel
theorem dL_law_1504 : decode cL_law 1504 = .ok (.aload_n 0, 1) := by decide +kernel
theorem dL_law_1505 : decode cL_law 1505 = .ok (.iload 4, 2) := by decide +kernel
theorem dL_law_1507 : decode cL_law 1507 = .ok (.iconst 2, 1) := by decide +kernel
theorem dL_law_1508 : decode cL_law 1508 = .ok (.iadd, 1) := by decide +kernel
theorem dL_law_1509 : decode cL_law 1509 = .ok (.iaload, 1) := by decide +kernel
theorem dL_law_1510 : decode cL_law 1510 = .ok (.aload_n 3, 1) := by decide +kernel
theorem dL_law_1511 : decode cL_law 1511 = .ok (.invokestatic 183, 3) := by decide +kernel
theorem dL_law_1514 : decode cL_law 1514 = .ok (.istore 5, 2) := by decide +kernel
theorem dL_law_1516 : decode cL_law 1516 = .ok (.aload_n 2, 1) := by decide +kernel
theorem dL_law_1517 : decode cL_law 1517 = .ok (.aload_n 0, 1) := by decide +kernel
theorem dL_law_1518 : decode cL_law 1518 = .ok (.iload 4, 2) := by decide +kernel
theorem dL_law_1520 : decode cL_law 1520 = .ok (.iconst 1, 1) := by decide +kernel
theorem dL_law_1521 : decode cL_law 1521 = .ok (.iadd, 1) := by decide +kernel
theorem dL_law_1522 : decode cL_law 1522 = .ok (.iaload, 1) := by decide +kernel
theorem dL_law_1523 : decode cL_law 1523 = .ok (.aload_n 0, 1) := by decide +kernel
theorem dL_law_1524 : decode cL_law 1524 = .ok (.iload 4, 2) := by decide +kernel
theorem dL_law_1526 : decode cL_law 1526 = .ok (.iconst 2, 1) := by decide +kernel
theorem dL_law_1527 : decode cL_law 1527 = .ok (.iadd, 1) := by decide +kernel
theorem dL_law_1528 : decode cL_law 1528 = .ok (.iaload, 1) := by decide +kernel
theorem dL_law_1529 : decode cL_law 1529 = .ok (.invokevirtual 185, 3) := by decide +kernel
theorem dL_law_1532 : decode cL_law 1532 = .ok (.istore 6, 2) := by decide +kernel
theorem dL_law_1534 : decode cL_law 1534 = .ok (.aload_n 2, 1) := by decide +kernel
theorem dL_law_1535 : decode cL_law 1535 = .ok (.invokevirtual 95, 3) := by decide +kernel
theorem dL_law_1538 : decode cL_law 1538 = .ok (.iload 5, 2) := by decide +kernel
theorem dL_law_1540 : decode cL_law 1540 = .ok (.if_icmp .eq 5, 3) := by decide +kernel
theorem dL_law_1543 : decode cL_law 1543 = .ok (.iconst 0, 1) := by decide +kernel
theorem dL_law_1544 : decode cL_law 1544 = .ok (.ireturn, 1) := by decide +kernel
theorem dL_law_1545 : decode cL_law 1545 = .ok (.iload 5, 2) := by decide +kernel
theorem dL_law_1547 : decode cL_law 1547 = .ok (.ifCond .ne 15, 3) := by decide +kernel
theorem dL_law_1550 : decode cL_law 1550 = .ok (.aload_n 3, 1) := by decide +kernel
theorem dL_law_1551 : decode cL_law 1551 = .ok (.iconst 0, 1) := by decide +kernel
theorem dL_law_1552 : decode cL_law 1552 = .ok (.laload, 1) := by decide +kernel
theorem dL_law_1553 : decode cL_law 1553 = .ok (.iload 6, 2) := by decide +kernel
theorem dL_law_1555 : decode cL_law 1555 = .ok (.i2l, 1) := by decide +kernel
theorem dL_law_1556 : decode cL_law 1556 = .ok (.lcmp, 1) := by decide +kernel
theorem dL_law_1557 : decode cL_law 1557 = .ok (.ifCond .eq 5, 3) := by decide +kernel
theorem dL_law_1560 : decode cL_law 1560 = .ok (.iconst 0, 1) := by decide +kernel
theorem dL_law_1561 : decode cL_law 1561 = .ok (.ireturn, 1) := by decide +kernel
theorem dL_law_1562 : decode cL_law 1562 = .ok (.goto 196, 3) := by decide +kernel
theorem dL_law_1565 : decode cL_law 1565 = .ok (.aload_n 1, 1) := by decide +kernel
theorem dL_law_1566 : decode cL_law 1566 = .ok (.invokevirtual 186, 3) := by decide +kernel
theorem dL_law_1569 : decode cL_law 1569 = .ok (.aload_n 2, 1) := by decide +kernel
theorem dL_law_1570 : decode cL_law 1570 = .ok (.invokevirtual 189, 3) := by decide +kernel
theorem dL_law_1573 : decode cL_law 1573 = .ok (.if_icmp .eq 185, 3) := by decide +kernel
theorem dL_law_1576 : decode cL_law 1576 = .ok (.iconst 0, 1) := by decide +kernel
theorem dL_law_1577 : decode cL_law 1577 = .ok (.ireturn, 1) := by decide +kernel
theorem dL_law_1578 : decode cL_law 1578 = .ok (.aload_n 1, 1) := by decide +kernel
theorem dL_law_1579 : decode cL_law 1579 = .ok (.aload_n 0, 1) := by decide +kernel
theorem dL_law_1580 : decode cL_law 1580 = .ok (.iload 4, 2) := by decide +kernel
theorem dL_law_1582 : decode cL_law 1582 = .ok (.iconst 1, 1) := by decide +kernel
theorem dL_law_1583 : decode cL_law 1583 = .ok (.iadd, 1) := by decide +kernel
theorem dL_law_1584 : decode cL_law 1584 = .ok (.iaload, 1) := by decide +kernel
theorem dL_law_1585 : decode cL_law 1585 = .ok (.aload_n 3, 1) := by decide +kernel
theorem dL_law_1586 : decode cL_law 1586 = .ok (.invokestatic 190, 3) := by decide +kernel
theorem dL_law_1589 : decode cL_law 1589 = .ok (.istore 5, 2) := by decide +kernel
theorem dL_law_1591 : decode cL_law 1591 = .ok (.aload_n 2, 1) := by decide +kernel
theorem dL_law_1592 : decode cL_law 1592 = .ok (.aload_n 0, 1) := by decide +kernel
theorem dL_law_1593 : decode cL_law 1593 = .ok (.iload 4, 2) := by decide +kernel
theorem dL_law_1595 : decode cL_law 1595 = .ok (.iconst 1, 1) := by decide +kernel
theorem dL_law_1596 : decode cL_law 1596 = .ok (.iadd, 1) := by decide +kernel
theorem dL_law_1597 : decode cL_law 1597 = .ok (.iaload, 1) := by decide +kernel
theorem dL_law_1598 : decode cL_law 1598 = .ok (.invokevirtual 192, 3) := by decide +kernel
theorem dL_law_1601 : decode cL_law 1601 = .ok (.istore 6, 2) := by decide +kernel
theorem dL_law_1603 : decode cL_law 1603 = .ok (.aload_n 2, 1) := by decide +kernel
theorem dL_law_1604 : decode cL_law 1604 = .ok (.invokevirtual 95, 3) := by decide +kernel
theorem dL_law_1607 : decode cL_law 1607 = .ok (.iload 5, 2) := by decide +kernel
theorem dL_law_1609 : decode cL_law 1609 = .ok (.if_icmp .eq 5, 3) := by decide +kernel
theorem dL_law_1612 : decode cL_law 1612 = .ok (.iconst 0, 1) := by decide +kernel
theorem dL_law_1613 : decode cL_law 1613 = .ok (.ireturn, 1) := by decide +kernel
theorem dL_law_1614 : decode cL_law 1614 = .ok (.iload 5, 2) := by decide +kernel
theorem dL_law_1616 : decode cL_law 1616 = .ok (.ifCond .ne 15, 3) := by decide +kernel
theorem dL_law_1619 : decode cL_law 1619 = .ok (.aload_n 3, 1) := by decide +kernel
theorem dL_law_1620 : decode cL_law 1620 = .ok (.iconst 0, 1) := by decide +kernel
theorem dL_law_1621 : decode cL_law 1621 = .ok (.laload, 1) := by decide +kernel
theorem dL_law_1622 : decode cL_law 1622 = .ok (.iload 6, 2) := by decide +kernel
theorem dL_law_1624 : decode cL_law 1624 = .ok (.i2l, 1) := by decide +kernel
theorem dL_law_1625 : decode cL_law 1625 = .ok (.lcmp, 1) := by decide +kernel
theorem dL_law_1626 : decode cL_law 1626 = .ok (.ifCond .eq 5, 3) := by decide +kernel
theorem dL_law_1629 : decode cL_law 1629 = .ok (.iconst 0, 1) := by decide +kernel
theorem dL_law_1630 : decode cL_law 1630 = .ok (.ireturn, 1) := by decide +kernel
theorem dL_law_1631 : decode cL_law 1631 = .ok (.goto 127, 3) := by decide +kernel
theorem dL_law_1634 : decode cL_law 1634 = .ok (.aload_n 1, 1) := by decide +kernel
theorem dL_law_1635 : decode cL_law 1635 = .ok (.invokevirtual 193, 3) := by decide +kernel
theorem dL_law_1638 : decode cL_law 1638 = .ok (.aload_n 2, 1) := by decide +kernel
theorem dL_law_1639 : decode cL_law 1639 = .ok (.invokevirtual 196, 3) := by decide +kernel
theorem dL_law_1642 : decode cL_law 1642 = .ok (.if_icmp .eq 116, 3) := by decide +kernel
theorem dL_law_1645 : decode cL_law 1645 = .ok (.iconst 0, 1) := by decide +kernel
theorem dL_law_1646 : decode cL_law 1646 = .ok (.ireturn, 1) := by decide +kernel
theorem dL_law_1647 : decode cL_law 1647 = .ok (.aload_n 1, 1) := by decide +kernel
theorem dL_law_1648 : decode cL_law 1648 = .ok (.aload_n 0, 1) := by decide +kernel
theorem dL_law_1649 : decode cL_law 1649 = .ok (.iload 4, 2) := by decide +kernel
theorem dL_law_1651 : decode cL_law 1651 = .ok (.iconst 1, 1) := by decide +kernel
theorem dL_law_1652 : decode cL_law 1652 = .ok (.iadd, 1) := by decide +kernel
theorem dL_law_1653 : decode cL_law 1653 = .ok (.iaload, 1) := by decide +kernel
theorem dL_law_1654 : decode cL_law 1654 = .ok (.aload_n 3, 1) := by decide +kernel
theorem dL_law_1655 : decode cL_law 1655 = .ok (.invokestatic 197, 3) := by decide +kernel
theorem dL_law_1658 : decode cL_law 1658 = .ok (.istore 5, 2) := by decide +kernel
theorem dL_law_1660 : decode cL_law 1660 = .ok (.aload_n 2, 1) := by decide +kernel
theorem dL_law_1661 : decode cL_law 1661 = .ok (.aload_n 0, 1) := by decide +kernel
theorem dL_law_1662 : decode cL_law 1662 = .ok (.iload 4, 2) := by decide +kernel
theorem dL_law_1664 : decode cL_law 1664 = .ok (.iconst 1, 1) := by decide +kernel
theorem dL_law_1665 : decode cL_law 1665 = .ok (.iadd, 1) := by decide +kernel
theorem dL_law_1666 : decode cL_law 1666 = .ok (.iaload, 1) := by decide +kernel
theorem dL_law_1667 : decode cL_law 1667 = .ok (.invokevirtual 199, 3) := by decide +kernel
theorem dL_law_1670 : decode cL_law 1670 = .ok (.istore 6, 2) := by decide +kernel
theorem dL_law_1672 : decode cL_law 1672 = .ok (.aload_n 2, 1) := by decide +kernel
theorem dL_law_1673 : decode cL_law 1673 = .ok (.invokevirtual 95, 3) := by decide +kernel
theorem dL_law_1676 : decode cL_law 1676 = .ok (.iload 5, 2) := by decide +kernel
theorem dL_law_1678 : decode cL_law 1678 = .ok (.if_icmp .eq 5, 3) := by decide +kernel
theorem dL_law_1681 : decode cL_law 1681 = .ok (.iconst 0, 1) := by decide +kernel
theorem dL_law_1682 : decode cL_law 1682 = .ok (.ireturn, 1) := by decide +kernel
theorem dL_law_1683 : decode cL_law 1683 = .ok (.iload 5, 2) := by decide +kernel
theorem dL_law_1685 : decode cL_law 1685 = .ok (.ifCond .ne 15, 3) := by decide +kernel
theorem dL_law_1688 : decode cL_law 1688 = .ok (.aload_n 3, 1) := by decide +kernel
theorem dL_law_1689 : decode cL_law 1689 = .ok (.iconst 0, 1) := by decide +kernel
theorem dL_law_1690 : decode cL_law 1690 = .ok (.laload, 1) := by decide +kernel
theorem dL_law_1691 : decode cL_law 1691 = .ok (.iload 6, 2) := by decide +kernel
theorem dL_law_1693 : decode cL_law 1693 = .ok (.i2l, 1) := by decide +kernel
theorem dL_law_1694 : decode cL_law 1694 = .ok (.lcmp, 1) := by decide +kernel
theorem dL_law_1695 : decode cL_law 1695 = .ok (.ifCond .eq 5, 3) := by decide +kernel
theorem dL_law_1698 : decode cL_law 1698 = .ok (.iconst 0, 1) := by decide +kernel
theorem dL_law_1699 : decode cL_law 1699 = .ok (.ireturn, 1) := by decide +kernel
theorem dL_law_1700 : decode cL_law 1700 = .ok (.goto 58, 3) := by decide +kernel
theorem dL_law_1703 : decode cL_law 1703 = .ok (.aload_n 1, 1) := by decide +kernel
theorem dL_law_1704 : decode cL_law 1704 = .ok (.invokevirtual 200, 3) := by decide +kernel
theorem dL_law_1707 : decode cL_law 1707 = .ok (.dstore 5, 2) := by decide +kernel
theorem dL_law_1709 : decode cL_law 1709 = .ok (.aload_n 2, 1) := by decide +kernel
theorem dL_law_1710 : decode cL_law 1710 = .ok (.invokevirtual 204, 3) := by decide +kernel
theorem dL_law_1713 : decode cL_law 1713 = .ok (.dstore 7, 2) := by decide +kernel
theorem dL_law_1715 : decode cL_law 1715 = .ok (.dload 5, 2) := by decide +kernel
theorem dL_law_1717 : decode cL_law 1717 = .ok (.dload 7, 2) := by decide +kernel
theorem dL_law_1719 : decode cL_law 1719 = .ok (.dcmp .l, 1) := by decide +kernel
theorem dL_law_1720 : decode cL_law 1720 = .ok (.ifCond .eq 21, 3) := by decide +kernel
theorem dL_law_1723 : decode cL_law 1723 = .ok (.dload 5, 2) := by decide +kernel
theorem dL_law_1725 : decode cL_law 1725 = .ok (.dload 5, 2) := by decide +kernel
theorem dL_law_1727 : decode cL_law 1727 = .ok (.dcmp .l, 1) := by decide +kernel
theorem dL_law_1728 : decode cL_law 1728 = .ok (.ifCond .eq 11, 3) := by decide +kernel
theorem dL_law_1731 : decode cL_law 1731 = .ok (.dload 7, 2) := by decide +kernel
theorem dL_law_1733 : decode cL_law 1733 = .ok (.dload 7, 2) := by decide +kernel
theorem dL_law_1735 : decode cL_law 1735 = .ok (.dcmp .l, 1) := by decide +kernel
theorem dL_law_1736 : decode cL_law 1736 = .ok (.ifCond .ne 5, 3) := by decide +kernel
theorem dL_law_1739 : decode cL_law 1739 = .ok (.iconst 0, 1) := by decide +kernel
theorem dL_law_1740 : decode cL_law 1740 = .ok (.ireturn, 1) := by decide +kernel
theorem dL_law_1741 : decode cL_law 1741 = .ok (.goto 17, 3) := by decide +kernel
theorem dL_law_1744 : decode cL_law 1744 = .ok (.aload_n 1, 1) := by decide +kernel
theorem dL_law_1745 : decode cL_law 1745 = .ok (.invokevirtual 205, 3) := by decide +kernel
theorem dL_law_1748 : decode cL_law 1748 = .ok (.aload_n 2, 1) := by decide +kernel
theorem dL_law_1749 : decode cL_law 1749 = .ok (.invokevirtual 209, 3) := by decide +kernel
theorem dL_law_1752 : decode cL_law 1752 = .ok (.lcmp, 1) := by decide +kernel
theorem dL_law_1753 : decode cL_law 1753 = .ok (.ifCond .eq 5, 3) := by decide +kernel
theorem dL_law_1756 : decode cL_law 1756 = .ok (.iconst 0, 1) := by decide +kernel
theorem dL_law_1757 : decode cL_law 1757 = .ok (.ireturn, 1) := by decide +kernel
theorem dL_law_1758 : decode cL_law 1758 = .ok (.iinc 4 5, 3) := by decide +kernel
theorem dL_law_1761 : decode cL_law 1761 = .ok (.goto (-1738), 3) := by decide +kernel
theorem dL_law_1764 : decode cL_law 1764 = .ok (.iconst 1, 1) := by decide +kernel
theorem dL_law_1765 : decode cL_law 1765 = .ok (.ireturn, 1) := by decide +kernel
end
section
/-! my kit: rows over natural numbers, the one form of contract, calls and ends -/
section TCK
variable {p : Program} {l : Launch} {e : Env} {R : Room} {s : State} {m : MethodId} {args : Array Value} {below : List Frame} {meth : Method} {c : Code} {H : Heap} {locs : List Loc} {cells slots : Nat} {Q : State → Prop}
variable {cc : ByteArray} {pc : Nat} {ls : Array Slot} {rest : List Value}
/-- a boolean as a number -/
def b2n (b : Bool) : Nat := if b then 1 else 0
theorem b2n_t : b2n true = 1 := rfl
theorem b2n_f : b2n false = 0 := rfl
/-- one less: -1 for 0 -/
def iM (n : Nat) : Int32 := nI n - 1
theorem iM_s (n : Nat) : iM (n + 1) = nI n := nI_pred n
theorem iM_0 : iM 0 = -1 := by decide
theorem iM_toInt {n : Nat} (h : n < 2 ^ 31) : (iM n).toInt = (n : Int) - 1 := by
  cases n with
  | zero => decide
  | succ k => rw [iM_s, nI_toInt (by omega)]; omega
theorem nI_le_iM {a b : Nat} (ha : a < 2 ^ 31) (hb : b < 2 ^ 31) : nI a ≤ iM b ↔ a + 1 ≤ b := by
  rw [Int32.le_iff_toInt_le, nI_toInt ha, iM_toInt hb]; omega
/-- a number of a kind: 0 to n - 1 -/
def tcIn (x : Int32) (n : Nat) : Bool := decide (0 ≤ x.toInt ∧ x.toInt < (n : Int))
theorem tcIn_lo {x : Int32} {n : Nat} (h : x < 0) : tcIn x n = false := by
  rw [Int32.lt_iff_toInt_lt] at h
  have h0 : (0 : Int32).toInt = 0 := by decide
  unfold tcIn; rw [decide_eq_false_iff_not]; omega
theorem tcIn_hi {x : Int32} {n : Nat} (hn : n < 2 ^ 31) (h : nI n ≤ x) : tcIn x n = false := by
  rw [Int32.le_iff_toInt_le, nI_toInt hn] at h
  unfold tcIn; rw [decide_eq_false_iff_not]; omega
theorem tcIn_hi' {x : Int32} {n : Nat} (hn : n < 2 ^ 31) (h : nI n < x) : tcIn x (n + 1) = false := by
  rw [Int32.lt_iff_toInt_lt, nI_toInt hn] at h
  unfold tcIn; rw [decide_eq_false_iff_not]; omega
theorem tcIn_yes {x : Int32} {n : Nat} (hn : n < 2 ^ 31) (h : ¬ x < 0) (h2 : ¬ nI n ≤ x) : tcIn x n = true := by
  rw [Int32.lt_iff_toInt_lt] at h
  have h0 : (0 : Int32).toInt = 0 := by decide
  rw [Int32.le_iff_toInt_le, nI_toInt hn] at h2
  unfold tcIn; rw [decide_eq_true_iff]; omega
theorem tcIn_yes' {x : Int32} {n : Nat} (hn : n < 2 ^ 31) (h : ¬ x < 0) (h2 : ¬ nI n < x) : tcIn x (n + 1) = true := by
  rw [Int32.lt_iff_toInt_lt] at h
  have h0 : (0 : Int32).toInt = 0 := by decide
  rw [Int32.lt_iff_toInt_lt, nI_toInt hn] at h2
  unfold tcIn; rw [decide_eq_true_iff]; omega
theorem tcIn_nI {x n : Nat} (hx : x < 2 ^ 31) : tcIn (nI x) n = decide (x < n) := by
  unfold tcIn; rw [nI_toInt hx]; rw [decide_eq_decide]; omega
theorem tcIn_of {x : Int32} {n : Nat} (hn : n < 2 ^ 31) (h : tcIn x n = true) : ∃ j : Nat, j < n ∧ x = nI j := by
  unfold tcIn at h; rw [decide_eq_true_iff] at h
  exact vp_in_of (vp_in_iff.mpr h) hn

theorem tc_top {x y : Int32} (h : x = y) (k : W p l e R s m args below meth c H locs cells slots Q (F0 m pc ls (.int y :: rest))) : W p l e R s m args below meth c H locs cells slots Q (F0 m pc ls (.int x :: rest)) := h ▸ k
theorem tn_iadd (hx : p.tables.exec = Jvm.exec) (hb : c.code = cc) {a b : Nat} (hdg : decode cc pc = .ok (.iadd, 1))  (k : W p l e R s m args below meth c H locs cells slots Q (F0 m (pc + 1) ls (.int (nI (a + b)) :: rest))) : W p l e R s m args below meth c H locs cells slots Q (F0 m pc ls (.int (nI b) :: .int (nI a) :: rest)) := lv_iadd hx hb hdg (tc_top (nI_add a b) k)
theorem tn_isub (hx : p.tables.exec = Jvm.exec) (hb : c.code = cc) {a b : Nat} (hdg : decode cc pc = .ok (.isub, 1)) (h : b ≤ a) (k : W p l e R s m args below meth c H locs cells slots Q (F0 m (pc + 1) ls (.int (nI (a - b)) :: rest))) : W p l e R s m args below meth c H locs cells slots Q (F0 m pc ls (.int (nI b) :: .int (nI a) :: rest)) := lv_isub hx hb hdg (tc_top (pk_sub h) k)
theorem tn_imul (hx : p.tables.exec = Jvm.exec) (hb : c.code = cc) {a b : Nat} (hdg : decode cc pc = .ok (.imul, 1))  (k : W p l e R s m args below meth c H locs cells slots Q (F0 m (pc + 1) ls (.int (nI (a * b)) :: rest))) : W p l e R s m args below meth c H locs cells slots Q (F0 m pc ls (.int (nI b) :: .int (nI a) :: rest)) := lv_imul hx hb hdg (tc_top (pk_mul a b) k)
theorem tn_idiv (hx : p.tables.exec = Jvm.exec) (hb : c.code = cc) {a b : Nat} (hdg : decode cc pc = .ok (.idiv, 1)) (ha : a < 2 ^ 31) (h0 : 0 < b) (h2 : b < 2 ^ 31) (k : W p l e R s m args below meth c H locs cells slots Q (F0 m (pc + 1) ls (.int (nI (a / b)) :: rest))) : W p l e R s m args below meth c H locs cells slots Q (F0 m pc ls (.int (nI b) :: .int (nI a) :: rest)) := lv_idiv hx hb hdg (nI_ne0 h0 h2) (tc_top (pk_div ha h0 h2) k)
theorem tn_irem (hx : p.tables.exec = Jvm.exec) (hb : c.code = cc) {a b : Nat} (hdg : decode cc pc = .ok (.irem, 1)) (ha : a < 2 ^ 31) (h0 : 0 < b) (h2 : b < 2 ^ 31) (k : W p l e R s m args below meth c H locs cells slots Q (F0 m (pc + 1) ls (.int (nI (a % b)) :: rest))) : W p l e R s m args below meth c H locs cells slots Q (F0 m pc ls (.int (nI b) :: .int (nI a) :: rest)) := lv_irem hx hb hdg (nI_ne0 h0 h2) (tc_top (pk_rem ha h0 h2) k)
theorem tn_icmp_eq (hx : p.tables.exec = Jvm.exec) (hb : c.code = cc) {a b : Nat} {off : Int} {tgt : Nat} (hdg : decode cc pc = .ok (.if_icmp .eq off, 3)) (ht : (pc : Int) + off = (tgt : Int)) (ha : a < 2 ^ 31) (h2 : b < 2 ^ 31) (kt : a = b → W p l e R s m args below meth c H locs cells slots Q (F0 m tgt ls rest)) (kf : ¬ a = b → W p l e R s m args below meth c H locs cells slots Q (F0 m (pc + 3) ls rest)) : W p l e R s m args below meth c H locs cells slots Q (F0 m pc ls (.int (nI b) :: .int (nI a) :: rest)) := lv_icmp_eq hx hb hdg ht (fun h => kt ((nI_eq ha h2).mp h)) (fun h => kf (fun z => h ((nI_eq ha h2).mpr z)))
theorem tn_icmp_ne (hx : p.tables.exec = Jvm.exec) (hb : c.code = cc) {a b : Nat} {off : Int} {tgt : Nat} (hdg : decode cc pc = .ok (.if_icmp .ne off, 3)) (ht : (pc : Int) + off = (tgt : Int)) (ha : a < 2 ^ 31) (h2 : b < 2 ^ 31) (kt : ¬ a = b → W p l e R s m args below meth c H locs cells slots Q (F0 m tgt ls rest)) (kf : a = b → W p l e R s m args below meth c H locs cells slots Q (F0 m (pc + 3) ls rest)) : W p l e R s m args below meth c H locs cells slots Q (F0 m pc ls (.int (nI b) :: .int (nI a) :: rest)) := lv_icmp_ne hx hb hdg ht (fun h => kt (fun z => h ((nI_eq ha h2).mpr z))) (fun h => kf ((nI_eq ha h2).mp h))
theorem tn_icmp_lt (hx : p.tables.exec = Jvm.exec) (hb : c.code = cc) {a b : Nat} {off : Int} {tgt : Nat} (hdg : decode cc pc = .ok (.if_icmp .lt off, 3)) (ht : (pc : Int) + off = (tgt : Int)) (ha : a < 2 ^ 31) (h2 : b < 2 ^ 31) (kt : a < b → W p l e R s m args below meth c H locs cells slots Q (F0 m tgt ls rest)) (kf : b ≤ a → W p l e R s m args below meth c H locs cells slots Q (F0 m (pc + 3) ls rest)) : W p l e R s m args below meth c H locs cells slots Q (F0 m pc ls (.int (nI b) :: .int (nI a) :: rest)) := lv_icmp_lt hx hb hdg ht (fun h => kt ((nI_ltI ha h2).mp h)) (fun h => kf (Nat.le_of_not_lt (fun z => h ((nI_ltI ha h2).mpr z))))
theorem tn_icmp_ge (hx : p.tables.exec = Jvm.exec) (hb : c.code = cc) {a b : Nat} {off : Int} {tgt : Nat} (hdg : decode cc pc = .ok (.if_icmp .ge off, 3)) (ht : (pc : Int) + off = (tgt : Int)) (ha : a < 2 ^ 31) (h2 : b < 2 ^ 31) (kt : b ≤ a → W p l e R s m args below meth c H locs cells slots Q (F0 m tgt ls rest)) (kf : a < b → W p l e R s m args below meth c H locs cells slots Q (F0 m (pc + 3) ls rest)) : W p l e R s m args below meth c H locs cells slots Q (F0 m pc ls (.int (nI b) :: .int (nI a) :: rest)) := lv_icmp_ge hx hb hdg ht (fun h => kt ((nI_leI h2 ha).mp h)) (fun h => kf (Nat.lt_of_not_le (fun z => h ((nI_leI h2 ha).mpr z))))
theorem tn_icmp_gt (hx : p.tables.exec = Jvm.exec) (hb : c.code = cc) {a b : Nat} {off : Int} {tgt : Nat} (hdg : decode cc pc = .ok (.if_icmp .gt off, 3)) (ht : (pc : Int) + off = (tgt : Int)) (ha : a < 2 ^ 31) (h2 : b < 2 ^ 31) (kt : b < a → W p l e R s m args below meth c H locs cells slots Q (F0 m tgt ls rest)) (kf : a ≤ b → W p l e R s m args below meth c H locs cells slots Q (F0 m (pc + 3) ls rest)) : W p l e R s m args below meth c H locs cells slots Q (F0 m pc ls (.int (nI b) :: .int (nI a) :: rest)) := lv_icmp_gt hx hb hdg ht (fun h => kt ((nI_ltI h2 ha).mp h)) (fun h => kf (Nat.le_of_not_lt (fun z => h ((nI_ltI h2 ha).mpr z))))
theorem tn_icmp_le (hx : p.tables.exec = Jvm.exec) (hb : c.code = cc) {a b : Nat} {off : Int} {tgt : Nat} (hdg : decode cc pc = .ok (.if_icmp .le off, 3)) (ht : (pc : Int) + off = (tgt : Int)) (ha : a < 2 ^ 31) (h2 : b < 2 ^ 31) (kt : a ≤ b → W p l e R s m args below meth c H locs cells slots Q (F0 m tgt ls rest)) (kf : b < a → W p l e R s m args below meth c H locs cells slots Q (F0 m (pc + 3) ls rest)) : W p l e R s m args below meth c H locs cells slots Q (F0 m pc ls (.int (nI b) :: .int (nI a) :: rest)) := lv_icmp_le hx hb hdg ht (fun h => kt ((nI_leI ha h2).mp h)) (fun h => kf (Nat.lt_of_not_le (fun z => h ((nI_leI ha h2).mpr z))))
theorem tn_if_eq (hx : p.tables.exec = Jvm.exec) (hb : c.code = cc) {a : Nat} {off : Int} {tgt : Nat} (hdg : decode cc pc = .ok (.ifCond .eq off, 3)) (ht : (pc : Int) + off = (tgt : Int)) (ha : a < 2 ^ 31) (kt : a = 0 → W p l e R s m args below meth c H locs cells slots Q (F0 m tgt ls rest)) (kf : 0 < a → W p l e R s m args below meth c H locs cells slots Q (F0 m (pc + 3) ls rest)) : W p l e R s m args below meth c H locs cells slots Q (F0 m pc ls (.int (nI a) :: rest)) := lv_if_eq hx hb hdg ht (fun h => kt (Nat.eq_zero_of_not_pos (fun z => nI_ne0 z ha h))) (fun h => kf (Nat.pos_of_ne_zero (fun z => h (by rw [z]; rfl))))
theorem tn_if_ne (hx : p.tables.exec = Jvm.exec) (hb : c.code = cc) {a : Nat} {off : Int} {tgt : Nat} (hdg : decode cc pc = .ok (.ifCond .ne off, 3)) (ht : (pc : Int) + off = (tgt : Int)) (ha : a < 2 ^ 31) (kt : 0 < a → W p l e R s m args below meth c H locs cells slots Q (F0 m tgt ls rest)) (kf : a = 0 → W p l e R s m args below meth c H locs cells slots Q (F0 m (pc + 3) ls rest)) : W p l e R s m args below meth c H locs cells slots Q (F0 m pc ls (.int (nI a) :: rest)) := lv_if_ne hx hb hdg ht (fun h => kt (Nat.pos_of_ne_zero (fun z => h (by rw [z]; rfl)))) (fun h => kf (Nat.eq_zero_of_not_pos (fun z => nI_ne0 z ha h)))
theorem tn_if_gt (hx : p.tables.exec = Jvm.exec) (hb : c.code = cc) {a : Nat} {off : Int} {tgt : Nat} (hdg : decode cc pc = .ok (.ifCond .gt off, 3)) (ht : (pc : Int) + off = (tgt : Int)) (ha : a < 2 ^ 31) (kt : 0 < a → W p l e R s m args below meth c H locs cells slots Q (F0 m tgt ls rest)) (kf : a = 0 → W p l e R s m args below meth c H locs cells slots Q (F0 m (pc + 3) ls rest)) : W p l e R s m args below meth c H locs cells slots Q (F0 m pc ls (.int (nI a) :: rest)) := lv_if_gt hx hb hdg ht (fun h => kt ((nI_ltI (by decide) ha).mp h)) (fun h => kf (Nat.eq_zero_of_not_pos (fun z => h ((nI_ltI (by decide) ha).mpr z))))
theorem tn_if_le (hx : p.tables.exec = Jvm.exec) (hb : c.code = cc) {a : Nat} {off : Int} {tgt : Nat} (hdg : decode cc pc = .ok (.ifCond .le off, 3)) (ht : (pc : Int) + off = (tgt : Int)) (ha : a < 2 ^ 31) (kt : a = 0 → W p l e R s m args below meth c H locs cells slots Q (F0 m tgt ls rest)) (kf : 0 < a → W p l e R s m args below meth c H locs cells slots Q (F0 m (pc + 3) ls rest)) : W p l e R s m args below meth c H locs cells slots Q (F0 m pc ls (.int (nI a) :: rest)) := lv_if_le hx hb hdg ht (fun h => kt (Nat.le_zero.mp ((nI_leI ha (by decide)).mp h))) (fun h => kf (Nat.pos_of_ne_zero (fun z => h ((nI_leI ha (by decide)).mpr (Nat.le_zero.mpr z)))))
theorem b2n_z {b : Bool} : nI (b2n b) = 0 ↔ b = false := by cases b <;> decide
theorem b2n_nz {b : Bool} : ¬ nI (b2n b) = 0 ↔ b = true := by cases b <;> decide
theorem tb_if_eq (hx : p.tables.exec = Jvm.exec) (hb : c.code = cc) {b : Bool} {off : Int} {tgt : Nat} (hdg : decode cc pc = .ok (.ifCond .eq off, 3)) (ht : (pc : Int) + off = (tgt : Int)) (kt : b = false → W p l e R s m args below meth c H locs cells slots Q (F0 m tgt ls rest)) (kf : b = true → W p l e R s m args below meth c H locs cells slots Q (F0 m (pc + 3) ls rest)) : W p l e R s m args below meth c H locs cells slots Q (F0 m pc ls (.int (nI (b2n b)) :: rest)) := lv_if_eq hx hb hdg ht (fun h => kt (b2n_z.mp h)) (fun h => kf (b2n_nz.mp h))
theorem tb_if_ne (hx : p.tables.exec = Jvm.exec) (hb : c.code = cc) {b : Bool} {off : Int} {tgt : Nat} (hdg : decode cc pc = .ok (.ifCond .ne off, 3)) (ht : (pc : Int) + off = (tgt : Int)) (kt : b = true → W p l e R s m args below meth c H locs cells slots Q (F0 m tgt ls rest)) (kf : b = false → W p l e R s m args below meth c H locs cells slots Q (F0 m (pc + 3) ls rest)) : W p l e R s m args below meth c H locs cells slots Q (F0 m pc ls (.int (nI (b2n b)) :: rest)) := lv_if_ne hx hb hdg ht (fun h => kt (b2n_nz.mp h)) (fun h => kf (b2n_z.mp h))
theorem tm_icmp_le (hx : p.tables.exec = Jvm.exec) (hb : c.code = cc) {a b : Nat} {off : Int} {tgt : Nat} (hdg : decode cc pc = .ok (.if_icmp .le off, 3)) (ht : (pc : Int) + off = (tgt : Int)) (ha : a < 2 ^ 31) (h2 : b < 2 ^ 31) (kt : a < b → W p l e R s m args below meth c H locs cells slots Q (F0 m tgt ls rest)) (kf : b ≤ a → W p l e R s m args below meth c H locs cells slots Q (F0 m (pc + 3) ls rest)) : W p l e R s m args below meth c H locs cells slots Q (F0 m pc ls (.int (iM b) :: .int (nI a) :: rest)) := lv_icmp_le hx hb hdg ht (fun h => kt ((nI_le_iM ha h2).mp h)) (fun h => kf (Nat.le_of_not_lt (fun z => h ((nI_le_iM ha h2).mpr z))))
theorem tn_iinc (hx : p.tables.exec = Jvm.exec) (hb : c.code = cc) {i nL k t : Nat} {lv lv' : List (Nat × Value)} (hdg : decode cc pc = .ok (.iinc i 1, 3)) (h : lv_has ls nL lv) (hk : lv[k]? = some (i, .int (nI t))) (hn : i < nL) (hl : (i, Value.int (nI (t + 1))) :: lv.filter (fun q => !(q.1 == i) && !(q.1 + 1 == i && q.2.category == 2)) = lv') (kk : ∀ ls' : Array Slot, lv_has ls' nL lv' → W p l e R s m args below meth c H locs cells slots Q (F0 m (pc + 3) ls' rest)) : W p l e R s m args below meth c H locs cells slots Q (F0 m pc ls rest) := lv_iinc hx hb hdg h hk (nI_1 t) hn hl kk
end TCK
end
section
/-! the one form of contract: a world over one base N0, code numbers of what is thrown -/
abbrev tcA (N0 : Nat) : Nat → Prop := fun q => N0 ≤ q
def tcStr : List (Nat × String) := [(117, "hours are 0 to 60"), (159, "there is no such stranger"), (162, "both are the same"), (164, "it costs too much"), (53, "no such ticket, colour, corner or walk"), (60, "there are 12 strangers"), (67, "a walk is 0 to 5"), (69, "a corner is 0 to 5"), (71, "this one stands there"), (84, "they do not stand at one corner"), (94, "a ticket is 0 to 99"), (96, "hours are 1 to 60")]
def tcEx (N0 : Nat) (U : State) (H : Heap) : Prop := vx_Zq Bundle.tN "UNASSIGNED_STACK" Bundle.steD (tcA N0) U H ∧ vx_Zq Bundle.tN "SUPPRESSED_SENTINEL" Bundle.listD (tcA N0) U H ∧ ∀ q ∈ tcStr, ∃ sa : Nat, vk_R RX0 q.1 q.2 sa U
def tcTy (cI cJ : ClassId) : List (ClassId × FieldType) := [(cI, .int), (cJ, .long)]
def tcG (D : va_G) (cI cJ : ClassId) (N0 : Nat) (ws : va_W) (U : State) (H : Heap) : Prop := va_P D vwCl ws H ∧ va_K D vwCl (tcTy cI cJ) U ∧ va_D (tcA N0) ws ∧ N0 ≤ H.size ∧ tcEx N0 U H
def tc_P (As : List Value) (D : va_G) (cI cJ : ClassId) (N0 : Nat) (ws : va_W) : Array Value → State → Prop := fun a U => a = As.toArray ∧ tcG D cI cJ N0 ws U U.heap
def tc_Q (C : Prop) (v : Option Value) (D : va_G) (N0 : Nat) (ws : va_W) : Array Value → State → Outcome → State → Prop := fun _ st o t => C ∧ o = .returned v ∧ va_P D vwCl ws t.heap ∧ va_D (tcA N0) ws ∧ va_F (tcA N0) st t
def tc_X (es : List String) (cd : Nat) (D : va_G) (N0 : Nat) (ws : va_W) : String → State → State → Prop := fun E st t => (∃ i : Nat, es[i]? = some E ∧ cd = i + 1) ∧ va_P D vwCl ws t.heap ∧ va_F (tcA N0) st t
/-- THE CONTRACT of y with the arguments As, in the world ws: where cd = 0 it returns v, and the world is ws'; where cd = i + 1 it throws es[i], and the world is as before -/
def tcM (l : Launch) (y : MethodName) (wsY : List Cond) (rm : Room) (es : List String) (cd : Nat) (As : List Value) (D : va_G) (cI cJ : ClassId) (N0 : Nat) (ws : va_W) (v : Option Value) (ws' : va_W) (mc ms : Nat) : Prop := vx_Met l y wsY rm (tc_P As D cI cJ N0 ws) (tc_Q (cd = 0) v D N0 ws') (tc_X es cd D N0 ws) mc ms (tcA N0)
/-- what a body owes at its end -/
def tcE (below : List Frame) (es : List String) (cd : Nat) (D : va_G) (N0 : Nat) (ws : va_W) (v : Option Value) (ws' : va_W) (args : Array Value) (s : State) (mc ms : Nat) : State → Prop := vx_MQ below (tc_Q (cd = 0) v D N0 ws') (tc_X es cd D N0 ws) args s mc ms (tcA N0)
theorem tcEx.warm {N0 : Nat} {s U : State} {H : Heap} (hW : s.WarmedH U.vm) (h : tcEx N0 s H) : tcEx N0 U H := ⟨vx_Zq.moved hW.alike h.1, vx_Zq.moved hW.alike h.2.1, fun q hq => (h.2.2 q hq).imp fun _ z => vk_R.warm hW z⟩
theorem tcG.warm {D : va_G} {cI cJ : ClassId} {N0 : Nat} {ws : va_W} {s U : State} {H : Heap} (hW : s.WarmedH U.vm) (h : tcG D cI cJ N0 ws s H) : tcG D cI cJ N0 ws U H := ⟨h.1, va_K.moved hW.alike h.2.1, h.2.2.1, h.2.2.2.1, h.2.2.2.2.warm hW⟩
theorem tcG.same {D : va_G} {cI cJ : ClassId} {N0 : Nat} {ws : va_W} {s U : State} {H : Heap} (hv : U.vm = s.vm) (h : tcG D cI cJ N0 ws s H) : tcG D cI cJ N0 ws U H := by
  have ha : s.vm.Alike U.vm := by rw [hv]; exact Vm.Alike.refl _
  exact ⟨h.1, va_K.moved ha h.2.1, h.2.2.1, h.2.2.2.1, vx_Zq.moved ha h.2.2.2.2.1, vx_Zq.moved ha h.2.2.2.2.2.1, fun q hq => (h.2.2.2.2.2.2 q hq).imp fun _ z => vk_R.same hv z⟩
theorem tcG.next {D : va_G} {cI cJ : ClassId} {N0 : Nat} {ws ws' : va_W} {s : State} {H H1 : Heap} (h : tcG D cI cJ N0 ws s H) (hP : va_P D vwCl ws' H1) (hD : va_D (tcA N0) ws') (hz : H.size ≤ H1.size) (hk : ∀ q : Nat, q < H.size → ¬ tcA N0 q → H1[q]? = H[q]?) : tcG D cI cJ N0 ws' s H1 :=
  ⟨hP, h.2.1, hD, Nat.le_trans h.2.2.2.1 hz, vx_Zq.kept h.2.2.2.2.1 hk, vx_Zq.kept h.2.2.2.2.2.1 hk, h.2.2.2.2.2.2⟩
theorem tcG.eq {D : va_G} {cI cJ : ClassId} {N0 : Nat} {ws ws' : va_W} {s : State} {H : Heap} (e : ws = ws') (h : tcG D cI cJ N0 ws s H) : tcG D cI cJ N0 ws' s H := e ▸ h
theorem tcG.sub {D : va_G} {cI cJ : ClassId} {N0 : Nat} {ws ws' : va_W} {s : State} {H : Heap} (h : tcG D cI cJ N0 ws s H) (is : List Nat) (hn : va_nd is = true) (e1 : is.filterMap (fun i => ws[i]?) = ws') (e2 : is.map (fun i => ws[i]?) = ws'.map some) : tcG D cI cJ N0 ws' s H := ⟨h.1.sub is e1, h.2.1, h.2.2.1.sub is hn e2, h.2.2.2.1, h.2.2.2.2⟩
theorem tc_blind {As : List Value} {D : va_G} {cI cJ : ClassId} {N0 : Nat} {ws : va_W} : FrameBlind (tc_P As D cI cJ N0 ws) := fun _ U _ _ h => ⟨h.1, h.2.same (U := _) rfl⟩
theorem tc_pre {As : List Value} {D : va_G} {cI cJ : ClassId} {N0 : Nat} {ws : va_W} {s U : State} {H : Heap} (hG : tcG D cI cJ N0 ws s H) (hU : U.heap = H) (hW : s.WarmedH U.vm) : tc_P As D cI cJ N0 ws As.toArray U := ⟨rfl, by rw [hU]; exact hG.warm hW⟩
section TCF
variable {p : Program} {l : Launch} {e : Env} {R : Room} {s : State} {m : MethodId} {args : Array Value} {below : List Frame} {meth : Method} {c : Code} {H : Heap} {locs : List Loc} {cells slots : Nat} {Q : State → Prop}
variable {cc : ByteArray} {pc : Nat} {ls : Array Slot} {rest st0 : List Value} {D : va_G} {cI cJ : ClassId} {N0 : Nat} {ws ws' : va_W} {es : List String} {cd mc ms nL : Nat} {v : Option Value} {As : List Value} {own : String} {Ts : List Cond}
/-- from the walk of the body to the contract -/
theorem tcM.of {y : MethodName} {wsY ws0 : List Cond} {rm : Room} {maxL : Nat} {ret : Option FieldType} (hy : plainName y.cls = true) (hw : wsY = Cond.code y cc maxL ret :: ws0) (hlen : (lg_sl As).length ≤ maxL)
    (body : ∀ (p : Program) (e : Env) (s : State) (m : MethodId) (args : Array Value) (below : List Frame) (meth : Method) (c : Code), CallFix p m c cc maxL s args wsY y.cls → meth.sig.returnType = ret → meth.locks = false → (∀ x ∈ c.exceptionTable.toList, False) → meth.name = y.name → tcG D cI cJ N0 ws s s.heap →
      ∀ ls : Array Slot, lv_has ls maxL (lv_args 0 As) → W p l e rm s m args below meth c s.heap [] 0 0 (tcE below es cd D N0 ws v ws' args s mc ms) (F0 m 0 ls [])) : tcM l y wsY rm es cd As D cI cJ N0 ws v ws' mc ms := by
  refine vx_ofW (cc := cc) (maxL := maxL) (ret := ret) hy hw ?_
  intro p e s m args below meth c s₁ B hml ht hv
  obtain ⟨rfl, hG⟩ := hv
  have hts := atoms_spec (ws := wsY) B.pre
  have hown : s.vm.findClass y.cls = some m.cls := findClass_of_methodNamed B.named
  rw [lg_entry_eq]
  exact body p e s m _ below meth c ⟨B.exec, B.bytes, hml, hown, hts⟩ B.returns B.notSynchronized ht (name_of_methodNamed B.named B.method).1 hG _ (lv_entry As hlen)
theorem tc_keepG {st₀ t T' : State} {L : List Loc} (h0 : st₀.heap = H) (e1 : T'.heap = t.heap) (hG : tcG D cI cJ N0 ws s H) (hS : va_S (tcA N0) s.heap H locs) (hL : ∀ q ∈ L, tcA N0 q.base) (hF : va_F (tcA N0) st₀ t) (hP : va_P D vwCl ws' t.heap) (hD : va_D (tcA N0) ws') : tcG D cI cJ N0 ws' s T'.heap ∧ va_S (tcA N0) s.heap T'.heap (locs ++ L) := by
  obtain ⟨k1, k2, k3⟩ := vx_keep h0 e1 hS (fun _ _ z => z) (fun _ z => z) hL hF
  exact ⟨hG.next (by rw [e1]; exact hP) hD k1 k2, k3⟩
theorem tc_run (hr : vx_Run p l e R s m args below meth c H locs cells slots mc ms (F0 m pc ls st0) rest (tc_Q (cd = 0) v D N0 ws' As.toArray) (tc_X es cd D N0 ws) (tcA N0)) (hG : tcG D cI cJ N0 ws s H) (hS : va_S (tcA N0) s.heap H locs)
    (kx : ∀ (i : Nat) (E : String) (q9 : Addr) (ce : Cell) (H1 : Heap) (locs1 : List Loc), es[i]? = some E → cd = i + 1 → tcG D cI cJ N0 ws s H1 → va_S (tcA N0) s.heap H1 locs1 → H1[q9]? = some ce → ce.vm = .none → s.vm.findClass E = some ce.cls → vx_W p l e R s m args below meth c H1 locs1 (cells + mc) (slots + ms) Q (F0 m pc ls rest) q9)
    (kk : cd = 0 → ∀ (H1 : Heap) (locs1 : List Loc), tcG D cI cJ N0 ws' s H1 → va_S (tcA N0) s.heap H1 locs1 → W p l e R s m args below meth c H1 locs1 (cells + mc) (slots + ms) Q (F0 m (pc + 3) ls (v.toList ++ rest))) : W p l e R s m args below meth c H locs cells slots Q (F0 m pc ls st0) := by
  intro T hT X
  rcases hr T hT X with ⟨v1, st₀, t, T', L, h0, X', hL, e1, e2, ⟨hC, hv, hP, hD, hF⟩, st⟩ | ⟨q, st₀, t, T', L, E, ce, h0, X', hL, e1, e2, ⟨⟨i, hi, hcd⟩, hP, hF⟩, hce, hcv, hcl, st⟩
  · cases hv
    obtain ⟨k1, k2⟩ := tc_keepG h0 e1 hG hS hL hF hP hD
    obtain ⟨t2, a1, b1⟩ := kk hC T'.heap (locs ++ L) k1 k2 T' rfl X'
    exact ⟨t2, st t2 a1, b1⟩
  · obtain ⟨k1, k2⟩ := tc_keepG h0 e1 hG hS hL hF hP hG.2.2.1
    obtain ⟨t2, a1, b1⟩ := kx i E q ce T'.heap (locs ++ L) hi hcd k1 k2 (by rw [e1]; exact hce) hcv hcl T' rfl X'
    exact ⟨t2, st.trans a1, b1⟩
theorem tc_cat {st : List Value} (h : (st.map fun v => v.category).sum ≤ 8) : 2 * (F0 m pc ls st0).monitorRoom + (st.map fun v => v.category).sum ≤ 8 := lv_room h
/-- a call of an instance's method -/
theorem tc_callVx {C : String} {T : u_T} {N ci q0 b index maxL n : Nat} {fs : List Value} {y : MethodName} {bytes : ByteArray} {ret : Option FieldType} {wsY : List Cond} {rm : Room} {lv : List (Nat × Value)}
    (C0 : CallFix p m c cc nL s args Ts own) (hG : tcG D cI cJ N0 ws s H) (hS : va_S (tcA N0) s.heap H locs) (he : ws[q0]? = some (b, .inr (ci, fs))) (hc : vwCl[ci]? = some (C, T, N)) (hM : tcM l y wsY rm es cd (.ref b :: As) D cI cJ N0 ws v ws' mc ms) (cw : CallW R s args own C index y bytes maxL ret wsY rm mc ms n) (hn : As.length = n) (hl : lv_has ls nL lv) (hst : st0 = As.reverse ++ .ref b :: rest) (hcat : (rest.map fun v => v.category).sum ≤ 8) (hdg : decode cc pc = .ok (.invokevirtual index, 3)) (hf : cells + mc ≤ R.cells ∧ slots + ms ≤ R.slots)
    (kx : ∀ (i : Nat) (E : String) (q9 : Addr) (ce : Cell) (H1 : Heap) (locs1 : List Loc), es[i]? = some E → cd = i + 1 → tcG D cI cJ N0 ws s H1 → va_S (tcA N0) s.heap H1 locs1 → H1[q9]? = some ce → ce.vm = .none → s.vm.findClass E = some ce.cls → vx_W p l e R s m args below meth c H1 locs1 (cells + mc) (slots + ms) Q (F0 m pc ls rest) q9)
    (kk : cd = 0 → ∀ (H1 : Heap) (locs1 : List Loc), tcG D cI cJ N0 ws' s H1 → va_S (tcA N0) s.heap H1 locs1 → W p l e R s m args below meth c H1 locs1 (cells + mc) (slots + ms) Q (F0 m (pc + 3) ls (v.toList ++ rest))) : W p l e R s m args below meth c H locs cells slots Q (F0 m pc ls st0) := by
  subst hst
  exact tc_run (vx_runV (As := As) (rest := rest) (g := F0 m pc ls (As.reverse ++ .ref b :: rest)) C0 hM cw ⟨tc_blind, va_recv (q := (C, T, N)) hG.2.1 hG.1 hc he, fun U hU hW => tc_pre hG hU hW⟩ rfl hn hl.1 rfl (tc_cat hcat) hdg hf) hG hS kx kk
/-- a call of a static method -/
theorem tc_callSx {index maxL n : Nat} {y : MethodName} {bytes : ByteArray} {ret : Option FieldType} {wsY : List Cond} {rm : Room} {lv : List (Nat × Value)}
    (C0 : CallFix p m c cc nL s args Ts own) (hG : tcG D cI cJ N0 ws s H) (hS : va_S (tcA N0) s.heap H locs) (hM : tcM l y wsY rm es cd As D cI cJ N0 ws v ws' mc ms) (cw : CallB R s args own index y bytes maxL ret wsY rm mc ms n ∧ (Cond.static y).before args s = true) (hn : As.length = n) (hl : lv_has ls nL lv) (hst : st0 = As.reverse ++ rest) (hcat : (rest.map fun v => v.category).sum ≤ 8) (hdg : decode cc pc = .ok (.invokestatic index, 3)) (hf : cells + mc ≤ R.cells ∧ slots + ms ≤ R.slots)
    (kx : ∀ (i : Nat) (E : String) (q9 : Addr) (ce : Cell) (H1 : Heap) (locs1 : List Loc), es[i]? = some E → cd = i + 1 → tcG D cI cJ N0 ws s H1 → va_S (tcA N0) s.heap H1 locs1 → H1[q9]? = some ce → ce.vm = .none → s.vm.findClass E = some ce.cls → vx_W p l e R s m args below meth c H1 locs1 (cells + mc) (slots + ms) Q (F0 m pc ls rest) q9)
    (kk : cd = 0 → ∀ (H1 : Heap) (locs1 : List Loc), tcG D cI cJ N0 ws' s H1 → va_S (tcA N0) s.heap H1 locs1 → W p l e R s m args below meth c H1 locs1 (cells + mc) (slots + ms) Q (F0 m (pc + 3) ls (v.toList ++ rest))) : W p l e R s m args below meth c H locs cells slots Q (F0 m pc ls st0) := by
  subst hst
  exact tc_run (vx_runS (As := As) (rest := rest) (g := F0 m pc ls (As.reverse ++ rest)) C0 hM cw ⟨tc_blind, fun U hU hW => tc_pre hG hU hW⟩ rfl hn hl.1 rfl (tc_cat hcat) hdg hf) hG hS kx kk
/-- .. that doesn't throw -/
theorem tc_callV {C : String} {T : u_T} {N ci q0 b index maxL n : Nat} {fs : List Value} {y : MethodName} {bytes : ByteArray} {ret : Option FieldType} {wsY : List Cond} {rm : Room} {lv : List (Nat × Value)} {r : Value}
    (C0 : CallFix p m c cc nL s args Ts own) (hG : tcG D cI cJ N0 ws s H) (hS : va_S (tcA N0) s.heap H locs) (he : ws[q0]? = some (b, .inr (ci, fs))) (hc : vwCl[ci]? = some (C, T, N)) (hM : tcM l y wsY rm [] 0 (.ref b :: As) D cI cJ N0 ws (some r) ws' mc ms) (cw : CallW R s args own C index y bytes maxL ret wsY rm mc ms n) (hn : As.length = n) (hl : lv_has ls nL lv) (hst : st0 = As.reverse ++ .ref b :: rest) (hcat : (rest.map fun v => v.category).sum ≤ 8) (hdg : decode cc pc = .ok (.invokevirtual index, 3)) (hf : cells + mc ≤ R.cells ∧ slots + ms ≤ R.slots)
    (kk : ∀ (H1 : Heap) (locs1 : List Loc), tcG D cI cJ N0 ws' s H1 → va_S (tcA N0) s.heap H1 locs1 → W p l e R s m args below meth c H1 locs1 (cells + mc) (slots + ms) Q (F0 m (pc + 3) ls (r :: rest))) : W p l e R s m args below meth c H locs cells slots Q (F0 m pc ls st0) :=
  tc_callVx C0 hG hS he hc hM cw hn hl hst hcat hdg hf (fun i E q9 ce H1 locs1 h => by cases h) (fun _ => kk)
theorem tc_callVv {C : String} {T : u_T} {N ci q0 b index maxL n : Nat} {fs : List Value} {y : MethodName} {bytes : ByteArray} {ret : Option FieldType} {wsY : List Cond} {rm : Room} {lv : List (Nat × Value)}
    (C0 : CallFix p m c cc nL s args Ts own) (hG : tcG D cI cJ N0 ws s H) (hS : va_S (tcA N0) s.heap H locs) (he : ws[q0]? = some (b, .inr (ci, fs))) (hc : vwCl[ci]? = some (C, T, N)) (hM : tcM l y wsY rm [] 0 (.ref b :: As) D cI cJ N0 ws none ws' mc ms) (cw : CallW R s args own C index y bytes maxL ret wsY rm mc ms n) (hn : As.length = n) (hl : lv_has ls nL lv) (hst : st0 = As.reverse ++ .ref b :: rest) (hcat : (rest.map fun v => v.category).sum ≤ 8) (hdg : decode cc pc = .ok (.invokevirtual index, 3)) (hf : cells + mc ≤ R.cells ∧ slots + ms ≤ R.slots)
    (kk : ∀ (H1 : Heap) (locs1 : List Loc), tcG D cI cJ N0 ws' s H1 → va_S (tcA N0) s.heap H1 locs1 → W p l e R s m args below meth c H1 locs1 (cells + mc) (slots + ms) Q (F0 m (pc + 3) ls rest)) : W p l e R s m args below meth c H locs cells slots Q (F0 m pc ls st0) :=
  tc_callVx C0 hG hS he hc hM cw hn hl hst hcat hdg hf (fun i E q9 ce H1 locs1 h => by cases h) (fun _ => kk)
theorem tc_callS {index maxL n : Nat} {y : MethodName} {bytes : ByteArray} {ret : Option FieldType} {wsY : List Cond} {rm : Room} {lv : List (Nat × Value)} {r : Value}
    (C0 : CallFix p m c cc nL s args Ts own) (hG : tcG D cI cJ N0 ws s H) (hS : va_S (tcA N0) s.heap H locs) (hM : tcM l y wsY rm [] 0 As D cI cJ N0 ws (some r) ws' mc ms) (cw : CallB R s args own index y bytes maxL ret wsY rm mc ms n ∧ (Cond.static y).before args s = true) (hn : As.length = n) (hl : lv_has ls nL lv) (hst : st0 = As.reverse ++ rest) (hcat : (rest.map fun v => v.category).sum ≤ 8) (hdg : decode cc pc = .ok (.invokestatic index, 3)) (hf : cells + mc ≤ R.cells ∧ slots + ms ≤ R.slots)
    (kk : ∀ (H1 : Heap) (locs1 : List Loc), tcG D cI cJ N0 ws' s H1 → va_S (tcA N0) s.heap H1 locs1 → W p l e R s m args below meth c H1 locs1 (cells + mc) (slots + ms) Q (F0 m (pc + 3) ls (r :: rest))) : W p l e R s m args below meth c H locs cells slots Q (F0 m pc ls st0) :=
  tc_callSx C0 hG hS hM cw hn hl hst hcat hdg hf (fun i E q9 ce H1 locs1 h => by cases h) (fun _ => kk)
theorem tc_callSv {index maxL n : Nat} {y : MethodName} {bytes : ByteArray} {ret : Option FieldType} {wsY : List Cond} {rm : Room} {lv : List (Nat × Value)}
    (C0 : CallFix p m c cc nL s args Ts own) (hG : tcG D cI cJ N0 ws s H) (hS : va_S (tcA N0) s.heap H locs) (hM : tcM l y wsY rm [] 0 As D cI cJ N0 ws none ws' mc ms) (cw : CallB R s args own index y bytes maxL ret wsY rm mc ms n ∧ (Cond.static y).before args s = true) (hn : As.length = n) (hl : lv_has ls nL lv) (hst : st0 = As.reverse ++ rest) (hcat : (rest.map fun v => v.category).sum ≤ 8) (hdg : decode cc pc = .ok (.invokestatic index, 3)) (hf : cells + mc ≤ R.cells ∧ slots + ms ≤ R.slots)
    (kk : ∀ (H1 : Heap) (locs1 : List Loc), tcG D cI cJ N0 ws' s H1 → va_S (tcA N0) s.heap H1 locs1 → W p l e R s m args below meth c H1 locs1 (cells + mc) (slots + ms) Q (F0 m (pc + 3) ls rest)) : W p l e R s m args below meth c H locs cells slots Q (F0 m pc ls st0) :=
  tc_callSx C0 hG hS hM cw hn hl hst hcat hdg hf (fun i E q9 ce H1 locs1 h => by cases h) (fun _ => kk)
/-- not caught here -/
theorem tc_out {i : Nat} {E : String} {q9 : Addr} {ce : Cell} (ht : ∀ x ∈ c.exceptionTable.toList, False) (hlk : meth.locks = false) (hG : tcG D cI cJ N0 ws s H) (hS : va_S (tcA N0) s.heap H locs) (hce : H[q9]? = some ce) (hcv : ce.vm = .none) (hcl : s.vm.findClass E = some ce.cls) (hi : es[i]? = some E) (hcd : cd = i + 1) (hc : cells ≤ mc) (hs : slots ≤ ms) : vx_W p l e R s m args below meth c H locs cells slots (tcE below es cd D N0 ws v ws' args s mc ms) (F0 m pc ls rest) q9 :=
  vx_out (fun x hx => (ht x hx).elim) hlk hce hcv hcl (fun t h1 _ => ⟨⟨i, hi, hcd⟩, by rw [h1]; exact hG.1, hS.F h1⟩) hS.2.2 hc hs
/-- 'throw new E("text")' in the class -/
theorem tc_throw {lv : List (Nat × Value)} {i ik is ic : Nat} {cls text : String} (C0 : CallFix p m c cc nL s args Ts RX0) (hlf : l.stackTraces = false) (ht : ∀ x ∈ c.exceptionTable.toList, False) (hlk : meth.locks = false) (hG : tcG D cI cJ N0 ws s s.heap) (hl : lv_has ls nL lv) (htx : (is, text) ∈ tcStr) (hcls : Bundle.fit cls = true)
    (hk : Cond.classLink RX0 ik cls ∈ Ts) (hini : Cond.initialized cls ∈ Ts) (hat : ∀ w ∈ vx_atS RX0 ic cls ["java/lang/RuntimeException", "java/lang/Exception"], w ∈ Ts ∧ vx_ot w = true)
    (d0 : decode cc pc = .ok (.new ik, 3)) (d3 : decode cc (pc + 3) = .ok (.dup, 1)) (d4 : decode cc (pc + 4) = .ok (.ldc is, 2)) (d6 : decode cc (pc + 6) = .ok (.invokespecial ic, 3)) (d9 : decode cc (pc + 9) = .ok (.athrow, 1))
    (hR1 : 5 < R.frames) (hR2 : (rest.map fun v => v.category).sum + 82 ≤ R.locals) (hf : cells + 1 ≤ R.cells ∧ slots + 6 ≤ R.slots) (hi : es[i]? = some cls) (hcd : cd = i + 1) (hc : cells + 1 ≤ mc) (hs : slots + 6 ≤ ms) :
    W p l e R s m args below meth c s.heap [] cells slots (tcE below es cd D N0 ws v ws' args s mc ms) (F0 m pc ls rest) := by
  obtain ⟨hx, hb, hml, hown, hts⟩ := C0
  obtain ⟨sa, hsa⟩ := hG.2.2.2.2.2.2 _ htx
  refine vx_throwS hx hb hlf (names := ["java/lang/RuntimeException", "java/lang/Exception"]) (A := tcA N0) hown hcls (by decide +kernel) (hts _ hk) (hts _ hini) hsa (fun w hw => hts w (hat w hw).1) ?_ hG.2.2.2.2.1 hG.2.2.2.2.2.1 va_S.rf (hl.1.trans hml.symm) d0 d3 d4 d6 d9 (fun x hx => (ht x hx).elim) hR1 hR2 hf.1 hf.2 hlk ?_ (fun z hz => by cases hz) hc hs
  · intro w hw
    rcases List.mem_cons.mp hw with rfl | hw
    · rfl
    · rcases List.mem_cons.mp hw with rfl | hw
      · rfl
      · exact (hat w hw).2
  · intro t _ h2 h3
    exact ⟨⟨i, hi, hcd⟩, fun k q hq => (hG.1 k q hq).kept (h3 q.1 (hG.1 k q hq).lt), ⟨h2, fun q h _ => h3 q h⟩⟩
end TCF
end
section
/-! worlds of the class and of the model; a row a field -/
abbrev tcArr (cI : ClassId) (f : Nat → Nat) : va_E := .inl (cI, 12, .inl (fun j => nI (f j)))
abbrev wT (h r1 r2 r3 r4 : Nat) (cI : ClassId) (tk co cn wk : Nat → Nat) (n : Nat) (ho : Int32) (st : Nat) (ct sp : Int32) (Z : va_W) : va_W := (h, .inr (0, [.ref r1, .ref r2, .ref r3, .ref r4, .int (nI n), .int ho, .int (nI st), .int ct, .int sp])) :: (r1, tcArr cI tk) :: (r2, tcArr cI co) :: (r3, tcArr cI cn) :: (r4, tcArr cI wk) :: Z
abbrev wM (h r1 r2 r3 r4 : Nat) (cI : ClassId) (th : Int32) (tk co cn wk : Nat → Nat) (n : Nat) (ho : Int32) (st : Nat) (ct sp : Int32) (Z : va_W) : va_W := (h, .inr (1, [.int th, .int (nI n), .ref r1, .ref r2, .ref r3, .ref r4, .int ho, .int (nI st), .int ct, .int sp])) :: (r1, tcArr cI tk) :: (r2, tcArr cI co) :: (r3, tcArr cI cn) :: (r4, tcArr cI wk) :: Z
def tOk (tk co cn wk : Nat → Nat) (n st : Nat) : Prop := (∀ i, tk i < 100) ∧ (∀ i, co i < 5) ∧ (∀ i, cn i < 6) ∧ (∀ i, wk i < 6) ∧ n ≤ 12 ∧ st ≤ 100
theorem tc_upd (f : Nat → Nat) (i x : Nat) (hi : i < 2 ^ 31) : upd (fun j => nI (f j)) (nI i).toNatClampNeg (nI x) = fun j => nI (va_up f i x j) := by
  rw [nI_clamp hi]; funext j
  by_cases h : j = i
  · subst h; rw [pk_us]; simp [va_up]
  · rw [pk_un h]; simp [va_up, h]
theorem tcG.put {D : va_G} {cI cJ : ClassId} {N0 : Nat} {ws0 ws' : va_W} {s : State} {H : Heap} {locs : List Loc} (h : tcG D cI cJ N0 ws0 s s.heap) (hP : va_P D vwCl ws' H) (hD : va_D (tcA N0) ws') (hS : va_S (tcA N0) s.heap H locs) : tcG D cI cJ N0 ws' s H := h.next hP hD hS.1 hS.2.1
section TCR
variable {p : Program} {l : Launch} {e : Env} {R : Room} {s : State} {m : MethodId} {args : Array Value} {below : List Frame} {meth : Method} {c : Code} {H : Heap} {locs : List Loc} {cells slots : Nat} {Q : State → Prop}
variable {cc : ByteArray} {pc : Nat} {ls : Array Slot} {rest st0 : List Value} {D : va_G} {cI cJ : ClassId} {N0 : Nat} {ws ws' ws0 : va_W} {es : List String} {cd mc ms nL : Nat} {own : String} {Ts : List Cond}
variable {h r1 r2 r3 r4 : Nat} {tk co cn wk : Nat → Nat} {n st : Nat} {ho ct sp th : Int32} {Z : va_W}
theorem tc_ald (C0 : CallFix p m c cc nL s args Ts own) (hG : tcG D cI cJ N0 ws s H) {q0 a i : Nat} {f : Nat → Nat} (he : ws[q0]? = some (a, tcArr cI f)) (hi : i < 12) (hdg : decode cc pc = .ok (.iaload, 1)) (kk : W p l e R s m args below meth c H locs cells slots Q (F0 m (pc + 1) ls (.int (nI (f i)) :: rest))) : W p l e R s m args below meth c H locs cells slots Q (F0 m pc ls (.int (nI i) :: .ref a :: rest)) := by
  refine va_iald C0.1 C0.2.1 hG.2.1 hG.1 q0 0 he rfl (vp_in_nI hi (by decide)) hdg ?_
  show W p l e R s m args below meth c H locs cells slots Q (F0 m (pc + 1) ls (.int (nI (f (nI i).toNatClampNeg)) :: rest))
  rw [nI_clamp (by omega)]
  exact kk
theorem tc_ast (C0 : CallFix p m c cc nL s args Ts own) (hG0 : tcG D cI cJ N0 ws0 s s.heap) (hG : tcG D cI cJ N0 ws s H) (hS : va_S (tcA N0) s.heap H locs) {q0 a i x : Nat} {f : Nat → Nat} (he : ws[q0]? = some (a, tcArr cI f)) (hi : i < 12) (hdg : decode cc pc = .ok (.iastore, 1)) (kk : ∀ (H1 : Heap) (locs1 : List Loc), tcG D cI cJ N0 (ws.set q0 (a, tcArr cI (va_up f i x))) s H1 → va_S (tcA N0) s.heap H1 locs1 → W p l e R s m args below meth c H1 locs1 cells slots Q (F0 m (pc + 1) ls rest)) : W p l e R s m args below meth c H locs cells slots Q (F0 m pc ls (.int (nI x) :: .int (nI i) :: .ref a :: rest)) := by
  refine va_iast C0.1 C0.2.1 hG.2.1 hG.1 hG.2.2.1 hS q0 0 he rfl (vp_in_nI hi (by decide)) hdg (fun H1 locs1 hP hD hS1 => ?_)
  rw [tc_upd f i x (by omega)] at hP hD
  exact kk H1 locs1 (hG0.put hP hD hS1) hS1
theorem tgX0_tickets (C0 : CallFix p m c cc nL s args Ts RX0) (hF : ∀ w ∈ wsX00, w ∈ Ts) (hG : tcG D cI cJ N0 (wT h r1 r2 r3 r4 cI tk co cn wk n ho st ct sp Z) s H) (hk : Cond.fieldLink RX0 9 "TicketCoincidences" "tickets" "[I" ∈ Ts) (hdg : decode cc pc = .ok (.getfield 9, 3)) (kk : W p l e R s m args below meth c H locs cells slots Q (F0 m (pc + 3) ls (.ref r1 :: rest))) : W p l e R s m args below meth c H locs cells slots Q (F0 m pc ls (.ref h :: rest)) :=
  va_get (D := D) (ci := 0) (C := RX0) (T := TX0) (N := 9) C0.1 C0.2.1 C0.2.2.2.2 hF C0.2.2.2.1 hG.2.1 hG.1 0 rfl rfl 0 (by decide) (C0.2.2.2.2 _ hk) (fun _ h9 => h9) rfl hdg kk
theorem tgX0_colours (C0 : CallFix p m c cc nL s args Ts RX0) (hF : ∀ w ∈ wsX00, w ∈ Ts) (hG : tcG D cI cJ N0 (wT h r1 r2 r3 r4 cI tk co cn wk n ho st ct sp Z) s H) (hk : Cond.fieldLink RX0 13 "TicketCoincidences" "colours" "[I" ∈ Ts) (hdg : decode cc pc = .ok (.getfield 13, 3)) (kk : W p l e R s m args below meth c H locs cells slots Q (F0 m (pc + 3) ls (.ref r2 :: rest))) : W p l e R s m args below meth c H locs cells slots Q (F0 m pc ls (.ref h :: rest)) :=
  va_get (D := D) (ci := 0) (C := RX0) (T := TX0) (N := 9) C0.1 C0.2.1 C0.2.2.2.2 hF C0.2.2.2.1 hG.2.1 hG.1 0 rfl rfl 1 (by decide) (C0.2.2.2.2 _ hk) (fun _ h9 => h9) rfl hdg kk
theorem tgX0_corners (C0 : CallFix p m c cc nL s args Ts RX0) (hF : ∀ w ∈ wsX00, w ∈ Ts) (hG : tcG D cI cJ N0 (wT h r1 r2 r3 r4 cI tk co cn wk n ho st ct sp Z) s H) (hk : Cond.fieldLink RX0 16 "TicketCoincidences" "corners" "[I" ∈ Ts) (hdg : decode cc pc = .ok (.getfield 16, 3)) (kk : W p l e R s m args below meth c H locs cells slots Q (F0 m (pc + 3) ls (.ref r3 :: rest))) : W p l e R s m args below meth c H locs cells slots Q (F0 m pc ls (.ref h :: rest)) :=
  va_get (D := D) (ci := 0) (C := RX0) (T := TX0) (N := 9) C0.1 C0.2.1 C0.2.2.2.2 hF C0.2.2.2.1 hG.2.1 hG.1 0 rfl rfl 2 (by decide) (C0.2.2.2.2 _ hk) (fun _ h9 => h9) rfl hdg kk
theorem tgX0_walks (C0 : CallFix p m c cc nL s args Ts RX0) (hF : ∀ w ∈ wsX00, w ∈ Ts) (hG : tcG D cI cJ N0 (wT h r1 r2 r3 r4 cI tk co cn wk n ho st ct sp Z) s H) (hk : Cond.fieldLink RX0 19 "TicketCoincidences" "walks" "[I" ∈ Ts) (hdg : decode cc pc = .ok (.getfield 19, 3)) (kk : W p l e R s m args below meth c H locs cells slots Q (F0 m (pc + 3) ls (.ref r4 :: rest))) : W p l e R s m args below meth c H locs cells slots Q (F0 m pc ls (.ref h :: rest)) :=
  va_get (D := D) (ci := 0) (C := RX0) (T := TX0) (N := 9) C0.1 C0.2.1 C0.2.2.2.2 hF C0.2.2.2.1 hG.2.1 hG.1 0 rfl rfl 3 (by decide) (C0.2.2.2.2 _ hk) (fun _ h9 => h9) rfl hdg kk
theorem tgX0_people (C0 : CallFix p m c cc nL s args Ts RX0) (hF : ∀ w ∈ wsX00, w ∈ Ts) (hG : tcG D cI cJ N0 (wT h r1 r2 r3 r4 cI tk co cn wk n ho st ct sp Z) s H) (hk : Cond.fieldLink RX0 22 "TicketCoincidences" "people" "I" ∈ Ts) (hdg : decode cc pc = .ok (.getfield 22, 3)) (kk : W p l e R s m args below meth c H locs cells slots Q (F0 m (pc + 3) ls (.int (nI n) :: rest))) : W p l e R s m args below meth c H locs cells slots Q (F0 m pc ls (.ref h :: rest)) :=
  va_get (D := D) (ci := 0) (C := RX0) (T := TX0) (N := 9) C0.1 C0.2.1 C0.2.2.2.2 hF C0.2.2.2.1 hG.2.1 hG.1 0 rfl rfl 4 (by decide) (C0.2.2.2.2 _ hk) (fun _ h9 => h9) rfl hdg kk
theorem tpX0_people (C0 : CallFix p m c cc nL s args Ts RX0) (hF : ∀ w ∈ wsX00, w ∈ Ts) (hG0 : tcG D cI cJ N0 ws0 s s.heap) (hG : tcG D cI cJ N0 (wT h r1 r2 r3 r4 cI tk co cn wk n ho st ct sp Z) s H) (hS : va_S (tcA N0) s.heap H locs) {x : Nat} (hk : Cond.fieldLink RX0 22 "TicketCoincidences" "people" "I" ∈ Ts) (hdg : decode cc pc = .ok (.putfield 22, 3)) (kk : ∀ (H1 : Heap) (locs1 : List Loc), tcG D cI cJ N0 (wT h r1 r2 r3 r4 cI tk co cn wk x ho st ct sp Z) s H1 → va_S (tcA N0) s.heap H1 locs1 → W p l e R s m args below meth c H1 locs1 cells slots Q (F0 m (pc + 3) ls rest)) : W p l e R s m args below meth c H locs cells slots Q (F0 m pc ls (.int (nI x) :: .ref h :: rest)) :=
  va_put (D := D) (ci := 0) (ty := .int) (C := RX0) (T := TX0) (N := 9) C0.1 C0.2.1 C0.2.2.2.2 hF tyX0 tyX0_ok nmX0 C0.2.2.2.1 hG.2.1 hG.1 hG.2.2.1 hS 0 rfl rfl 4 (by decide) (C0.2.2.2.2 _ hk) (fun _ h9 => h9) rfl (by decide +kernel) rfl rfl (Nat.le_of_ble_eq_true rfl) hdg (fun H1 locs1 hP hD hS1 => kk H1 locs1 (hG0.put hP hD hS1) hS1)
theorem tgX0_hourNow (C0 : CallFix p m c cc nL s args Ts RX0) (hF : ∀ w ∈ wsX00, w ∈ Ts) (hG : tcG D cI cJ N0 (wT h r1 r2 r3 r4 cI tk co cn wk n ho st ct sp Z) s H) (hk : Cond.fieldLink RX0 26 "TicketCoincidences" "hourNow" "I" ∈ Ts) (hdg : decode cc pc = .ok (.getfield 26, 3)) (kk : W p l e R s m args below meth c H locs cells slots Q (F0 m (pc + 3) ls (.int ho :: rest))) : W p l e R s m args below meth c H locs cells slots Q (F0 m pc ls (.ref h :: rest)) :=
  va_get (D := D) (ci := 0) (C := RX0) (T := TX0) (N := 9) C0.1 C0.2.1 C0.2.2.2.2 hF C0.2.2.2.1 hG.2.1 hG.1 0 rfl rfl 5 (by decide) (C0.2.2.2.2 _ hk) (fun _ h9 => h9) rfl hdg kk
theorem tpX0_hourNow (C0 : CallFix p m c cc nL s args Ts RX0) (hF : ∀ w ∈ wsX00, w ∈ Ts) (hG0 : tcG D cI cJ N0 ws0 s s.heap) (hG : tcG D cI cJ N0 (wT h r1 r2 r3 r4 cI tk co cn wk n ho st ct sp Z) s H) (hS : va_S (tcA N0) s.heap H locs) {x : Int32} (hk : Cond.fieldLink RX0 26 "TicketCoincidences" "hourNow" "I" ∈ Ts) (hdg : decode cc pc = .ok (.putfield 26, 3)) (kk : ∀ (H1 : Heap) (locs1 : List Loc), tcG D cI cJ N0 (wT h r1 r2 r3 r4 cI tk co cn wk n x st ct sp Z) s H1 → va_S (tcA N0) s.heap H1 locs1 → W p l e R s m args below meth c H1 locs1 cells slots Q (F0 m (pc + 3) ls rest)) : W p l e R s m args below meth c H locs cells slots Q (F0 m pc ls (.int x :: .ref h :: rest)) :=
  va_put (D := D) (ci := 0) (ty := .int) (C := RX0) (T := TX0) (N := 9) C0.1 C0.2.1 C0.2.2.2.2 hF tyX0 tyX0_ok nmX0 C0.2.2.2.1 hG.2.1 hG.1 hG.2.2.1 hS 0 rfl rfl 5 (by decide) (C0.2.2.2.2 _ hk) (fun _ h9 => h9) rfl (by decide +kernel) rfl rfl (Nat.le_of_ble_eq_true rfl) hdg (fun H1 locs1 hP hD hS1 => kk H1 locs1 (hG0.put hP hD hS1) hS1)
theorem tgX0_inStore (C0 : CallFix p m c cc nL s args Ts RX0) (hF : ∀ w ∈ wsX00, w ∈ Ts) (hG : tcG D cI cJ N0 (wT h r1 r2 r3 r4 cI tk co cn wk n ho st ct sp Z) s H) (hk : Cond.fieldLink RX0 29 "TicketCoincidences" "inStore" "I" ∈ Ts) (hdg : decode cc pc = .ok (.getfield 29, 3)) (kk : W p l e R s m args below meth c H locs cells slots Q (F0 m (pc + 3) ls (.int (nI st) :: rest))) : W p l e R s m args below meth c H locs cells slots Q (F0 m pc ls (.ref h :: rest)) :=
  va_get (D := D) (ci := 0) (C := RX0) (T := TX0) (N := 9) C0.1 C0.2.1 C0.2.2.2.2 hF C0.2.2.2.1 hG.2.1 hG.1 0 rfl rfl 6 (by decide) (C0.2.2.2.2 _ hk) (fun _ h9 => h9) rfl hdg kk
theorem tpX0_inStore (C0 : CallFix p m c cc nL s args Ts RX0) (hF : ∀ w ∈ wsX00, w ∈ Ts) (hG0 : tcG D cI cJ N0 ws0 s s.heap) (hG : tcG D cI cJ N0 (wT h r1 r2 r3 r4 cI tk co cn wk n ho st ct sp Z) s H) (hS : va_S (tcA N0) s.heap H locs) {x : Nat} (hk : Cond.fieldLink RX0 29 "TicketCoincidences" "inStore" "I" ∈ Ts) (hdg : decode cc pc = .ok (.putfield 29, 3)) (kk : ∀ (H1 : Heap) (locs1 : List Loc), tcG D cI cJ N0 (wT h r1 r2 r3 r4 cI tk co cn wk n ho x ct sp Z) s H1 → va_S (tcA N0) s.heap H1 locs1 → W p l e R s m args below meth c H1 locs1 cells slots Q (F0 m (pc + 3) ls rest)) : W p l e R s m args below meth c H locs cells slots Q (F0 m pc ls (.int (nI x) :: .ref h :: rest)) :=
  va_put (D := D) (ci := 0) (ty := .int) (C := RX0) (T := TX0) (N := 9) C0.1 C0.2.1 C0.2.2.2.2 hF tyX0 tyX0_ok nmX0 C0.2.2.2.1 hG.2.1 hG.1 hG.2.2.1 hS 0 rfl rfl 6 (by decide) (C0.2.2.2.2 _ hk) (fun _ h9 => h9) rfl (by decide +kernel) rfl rfl (Nat.le_of_ble_eq_true rfl) hdg (fun H1 locs1 hP hD hS1 => kk H1 locs1 (hG0.put hP hD hS1) hS1)
theorem tgX0_countedInAll (C0 : CallFix p m c cc nL s args Ts RX0) (hF : ∀ w ∈ wsX00, w ∈ Ts) (hG : tcG D cI cJ N0 (wT h r1 r2 r3 r4 cI tk co cn wk n ho st ct sp Z) s H) (hk : Cond.fieldLink RX0 32 "TicketCoincidences" "countedInAll" "I" ∈ Ts) (hdg : decode cc pc = .ok (.getfield 32, 3)) (kk : W p l e R s m args below meth c H locs cells slots Q (F0 m (pc + 3) ls (.int ct :: rest))) : W p l e R s m args below meth c H locs cells slots Q (F0 m pc ls (.ref h :: rest)) :=
  va_get (D := D) (ci := 0) (C := RX0) (T := TX0) (N := 9) C0.1 C0.2.1 C0.2.2.2.2 hF C0.2.2.2.1 hG.2.1 hG.1 0 rfl rfl 7 (by decide) (C0.2.2.2.2 _ hk) (fun _ h9 => h9) rfl hdg kk
theorem tpX0_countedInAll (C0 : CallFix p m c cc nL s args Ts RX0) (hF : ∀ w ∈ wsX00, w ∈ Ts) (hG0 : tcG D cI cJ N0 ws0 s s.heap) (hG : tcG D cI cJ N0 (wT h r1 r2 r3 r4 cI tk co cn wk n ho st ct sp Z) s H) (hS : va_S (tcA N0) s.heap H locs) {x : Int32} (hk : Cond.fieldLink RX0 32 "TicketCoincidences" "countedInAll" "I" ∈ Ts) (hdg : decode cc pc = .ok (.putfield 32, 3)) (kk : ∀ (H1 : Heap) (locs1 : List Loc), tcG D cI cJ N0 (wT h r1 r2 r3 r4 cI tk co cn wk n ho st x sp Z) s H1 → va_S (tcA N0) s.heap H1 locs1 → W p l e R s m args below meth c H1 locs1 cells slots Q (F0 m (pc + 3) ls rest)) : W p l e R s m args below meth c H locs cells slots Q (F0 m pc ls (.int x :: .ref h :: rest)) :=
  va_put (D := D) (ci := 0) (ty := .int) (C := RX0) (T := TX0) (N := 9) C0.1 C0.2.1 C0.2.2.2.2 hF tyX0 tyX0_ok nmX0 C0.2.2.2.1 hG.2.1 hG.1 hG.2.2.1 hS 0 rfl rfl 7 (by decide) (C0.2.2.2.2 _ hk) (fun _ h9 => h9) rfl (by decide +kernel) rfl rfl (Nat.le_of_ble_eq_true rfl) hdg (fun H1 locs1 hP hD hS1 => kk H1 locs1 (hG0.put hP hD hS1) hS1)
theorem tgX0_spentInAll (C0 : CallFix p m c cc nL s args Ts RX0) (hF : ∀ w ∈ wsX00, w ∈ Ts) (hG : tcG D cI cJ N0 (wT h r1 r2 r3 r4 cI tk co cn wk n ho st ct sp Z) s H) (hk : Cond.fieldLink RX0 35 "TicketCoincidences" "spentInAll" "I" ∈ Ts) (hdg : decode cc pc = .ok (.getfield 35, 3)) (kk : W p l e R s m args below meth c H locs cells slots Q (F0 m (pc + 3) ls (.int sp :: rest))) : W p l e R s m args below meth c H locs cells slots Q (F0 m pc ls (.ref h :: rest)) :=
  va_get (D := D) (ci := 0) (C := RX0) (T := TX0) (N := 9) C0.1 C0.2.1 C0.2.2.2.2 hF C0.2.2.2.1 hG.2.1 hG.1 0 rfl rfl 8 (by decide) (C0.2.2.2.2 _ hk) (fun _ h9 => h9) rfl hdg kk
theorem tpX0_spentInAll (C0 : CallFix p m c cc nL s args Ts RX0) (hF : ∀ w ∈ wsX00, w ∈ Ts) (hG0 : tcG D cI cJ N0 ws0 s s.heap) (hG : tcG D cI cJ N0 (wT h r1 r2 r3 r4 cI tk co cn wk n ho st ct sp Z) s H) (hS : va_S (tcA N0) s.heap H locs) {x : Int32} (hk : Cond.fieldLink RX0 35 "TicketCoincidences" "spentInAll" "I" ∈ Ts) (hdg : decode cc pc = .ok (.putfield 35, 3)) (kk : ∀ (H1 : Heap) (locs1 : List Loc), tcG D cI cJ N0 (wT h r1 r2 r3 r4 cI tk co cn wk n ho st ct x Z) s H1 → va_S (tcA N0) s.heap H1 locs1 → W p l e R s m args below meth c H1 locs1 cells slots Q (F0 m (pc + 3) ls rest)) : W p l e R s m args below meth c H locs cells slots Q (F0 m pc ls (.int x :: .ref h :: rest)) :=
  va_put (D := D) (ci := 0) (ty := .int) (C := RX0) (T := TX0) (N := 9) C0.1 C0.2.1 C0.2.2.2.2 hF tyX0 tyX0_ok nmX0 C0.2.2.2.1 hG.2.1 hG.1 hG.2.2.1 hS 0 rfl rfl 8 (by decide) (C0.2.2.2.2 _ hk) (fun _ h9 => h9) rfl (by decide +kernel) rfl rfl (Nat.le_of_ble_eq_true rfl) hdg (fun H1 locs1 hP hD hS1 => kk H1 locs1 (hG0.put hP hD hS1) hS1)
theorem tgX1_thrown (C0 : CallFix p m c cc nL s args Ts RX1) (hF : ∀ w ∈ wsX10, w ∈ Ts) (hG : tcG D cI cJ N0 (wM h r1 r2 r3 r4 cI th tk co cn wk n ho st ct sp Z) s H) (hk : Cond.fieldLink RX1 26 "TicketCoincidencesModel" "thrown" "I" ∈ Ts) (hdg : decode cc pc = .ok (.getfield 26, 3)) (kk : W p l e R s m args below meth c H locs cells slots Q (F0 m (pc + 3) ls (.int th :: rest))) : W p l e R s m args below meth c H locs cells slots Q (F0 m pc ls (.ref h :: rest)) :=
  va_get (D := D) (ci := 1) (C := RX1) (T := TX1) (N := 10) C0.1 C0.2.1 C0.2.2.2.2 hF C0.2.2.2.1 hG.2.1 hG.1 0 rfl rfl 0 (by decide) (C0.2.2.2.2 _ hk) (fun _ h9 => h9) rfl hdg kk
theorem tpX1_thrown (C0 : CallFix p m c cc nL s args Ts RX1) (hF : ∀ w ∈ wsX10, w ∈ Ts) (hG0 : tcG D cI cJ N0 ws0 s s.heap) (hG : tcG D cI cJ N0 (wM h r1 r2 r3 r4 cI th tk co cn wk n ho st ct sp Z) s H) (hS : va_S (tcA N0) s.heap H locs) {x : Int32} (hk : Cond.fieldLink RX1 26 "TicketCoincidencesModel" "thrown" "I" ∈ Ts) (hdg : decode cc pc = .ok (.putfield 26, 3)) (kk : ∀ (H1 : Heap) (locs1 : List Loc), tcG D cI cJ N0 (wM h r1 r2 r3 r4 cI x tk co cn wk n ho st ct sp Z) s H1 → va_S (tcA N0) s.heap H1 locs1 → W p l e R s m args below meth c H1 locs1 cells slots Q (F0 m (pc + 3) ls rest)) : W p l e R s m args below meth c H locs cells slots Q (F0 m pc ls (.int x :: .ref h :: rest)) :=
  va_put (D := D) (ci := 1) (ty := .int) (C := RX1) (T := TX1) (N := 10) C0.1 C0.2.1 C0.2.2.2.2 hF tyX1 tyX1_ok nmX1 C0.2.2.2.1 hG.2.1 hG.1 hG.2.2.1 hS 0 rfl rfl 0 (by decide) (C0.2.2.2.2 _ hk) (fun _ h9 => h9) rfl (by decide +kernel) rfl rfl (Nat.le_of_ble_eq_true rfl) hdg (fun H1 locs1 hP hD hS1 => kk H1 locs1 (hG0.put hP hD hS1) hS1)
theorem tgX1_people (C0 : CallFix p m c cc nL s args Ts RX1) (hF : ∀ w ∈ wsX10, w ∈ Ts) (hG : tcG D cI cJ N0 (wM h r1 r2 r3 r4 cI th tk co cn wk n ho st ct sp Z) s H) (hk : Cond.fieldLink RX1 29 "TicketCoincidencesModel" "people" "I" ∈ Ts) (hdg : decode cc pc = .ok (.getfield 29, 3)) (kk : W p l e R s m args below meth c H locs cells slots Q (F0 m (pc + 3) ls (.int (nI n) :: rest))) : W p l e R s m args below meth c H locs cells slots Q (F0 m pc ls (.ref h :: rest)) :=
  va_get (D := D) (ci := 1) (C := RX1) (T := TX1) (N := 10) C0.1 C0.2.1 C0.2.2.2.2 hF C0.2.2.2.1 hG.2.1 hG.1 0 rfl rfl 1 (by decide) (C0.2.2.2.2 _ hk) (fun _ h9 => h9) rfl hdg kk
theorem tpX1_people (C0 : CallFix p m c cc nL s args Ts RX1) (hF : ∀ w ∈ wsX10, w ∈ Ts) (hG0 : tcG D cI cJ N0 ws0 s s.heap) (hG : tcG D cI cJ N0 (wM h r1 r2 r3 r4 cI th tk co cn wk n ho st ct sp Z) s H) (hS : va_S (tcA N0) s.heap H locs) {x : Nat} (hk : Cond.fieldLink RX1 29 "TicketCoincidencesModel" "people" "I" ∈ Ts) (hdg : decode cc pc = .ok (.putfield 29, 3)) (kk : ∀ (H1 : Heap) (locs1 : List Loc), tcG D cI cJ N0 (wM h r1 r2 r3 r4 cI th tk co cn wk x ho st ct sp Z) s H1 → va_S (tcA N0) s.heap H1 locs1 → W p l e R s m args below meth c H1 locs1 cells slots Q (F0 m (pc + 3) ls rest)) : W p l e R s m args below meth c H locs cells slots Q (F0 m pc ls (.int (nI x) :: .ref h :: rest)) :=
  va_put (D := D) (ci := 1) (ty := .int) (C := RX1) (T := TX1) (N := 10) C0.1 C0.2.1 C0.2.2.2.2 hF tyX1 tyX1_ok nmX1 C0.2.2.2.1 hG.2.1 hG.1 hG.2.2.1 hS 0 rfl rfl 1 (by decide) (C0.2.2.2.2 _ hk) (fun _ h9 => h9) rfl (by decide +kernel) rfl rfl (Nat.le_of_ble_eq_true rfl) hdg (fun H1 locs1 hP hD hS1 => kk H1 locs1 (hG0.put hP hD hS1) hS1)
theorem tgX1_ticket (C0 : CallFix p m c cc nL s args Ts RX1) (hF : ∀ w ∈ wsX10, w ∈ Ts) (hG : tcG D cI cJ N0 (wM h r1 r2 r3 r4 cI th tk co cn wk n ho st ct sp Z) s H) (hk : Cond.fieldLink RX1 9 "TicketCoincidencesModel" "ticket" "[I" ∈ Ts) (hdg : decode cc pc = .ok (.getfield 9, 3)) (kk : W p l e R s m args below meth c H locs cells slots Q (F0 m (pc + 3) ls (.ref r1 :: rest))) : W p l e R s m args below meth c H locs cells slots Q (F0 m pc ls (.ref h :: rest)) :=
  va_get (D := D) (ci := 1) (C := RX1) (T := TX1) (N := 10) C0.1 C0.2.1 C0.2.2.2.2 hF C0.2.2.2.1 hG.2.1 hG.1 0 rfl rfl 2 (by decide) (C0.2.2.2.2 _ hk) (fun _ h9 => h9) rfl hdg kk
theorem tgX1_colour (C0 : CallFix p m c cc nL s args Ts RX1) (hF : ∀ w ∈ wsX10, w ∈ Ts) (hG : tcG D cI cJ N0 (wM h r1 r2 r3 r4 cI th tk co cn wk n ho st ct sp Z) s H) (hk : Cond.fieldLink RX1 13 "TicketCoincidencesModel" "colour" "[I" ∈ Ts) (hdg : decode cc pc = .ok (.getfield 13, 3)) (kk : W p l e R s m args below meth c H locs cells slots Q (F0 m (pc + 3) ls (.ref r2 :: rest))) : W p l e R s m args below meth c H locs cells slots Q (F0 m pc ls (.ref h :: rest)) :=
  va_get (D := D) (ci := 1) (C := RX1) (T := TX1) (N := 10) C0.1 C0.2.1 C0.2.2.2.2 hF C0.2.2.2.1 hG.2.1 hG.1 0 rfl rfl 3 (by decide) (C0.2.2.2.2 _ hk) (fun _ h9 => h9) rfl hdg kk
theorem tgX1_corner (C0 : CallFix p m c cc nL s args Ts RX1) (hF : ∀ w ∈ wsX10, w ∈ Ts) (hG : tcG D cI cJ N0 (wM h r1 r2 r3 r4 cI th tk co cn wk n ho st ct sp Z) s H) (hk : Cond.fieldLink RX1 16 "TicketCoincidencesModel" "corner" "[I" ∈ Ts) (hdg : decode cc pc = .ok (.getfield 16, 3)) (kk : W p l e R s m args below meth c H locs cells slots Q (F0 m (pc + 3) ls (.ref r3 :: rest))) : W p l e R s m args below meth c H locs cells slots Q (F0 m pc ls (.ref h :: rest)) :=
  va_get (D := D) (ci := 1) (C := RX1) (T := TX1) (N := 10) C0.1 C0.2.1 C0.2.2.2.2 hF C0.2.2.2.1 hG.2.1 hG.1 0 rfl rfl 4 (by decide) (C0.2.2.2.2 _ hk) (fun _ h9 => h9) rfl hdg kk
theorem tgX1_walk (C0 : CallFix p m c cc nL s args Ts RX1) (hF : ∀ w ∈ wsX10, w ∈ Ts) (hG : tcG D cI cJ N0 (wM h r1 r2 r3 r4 cI th tk co cn wk n ho st ct sp Z) s H) (hk : Cond.fieldLink RX1 19 "TicketCoincidencesModel" "walk" "[I" ∈ Ts) (hdg : decode cc pc = .ok (.getfield 19, 3)) (kk : W p l e R s m args below meth c H locs cells slots Q (F0 m (pc + 3) ls (.ref r4 :: rest))) : W p l e R s m args below meth c H locs cells slots Q (F0 m pc ls (.ref h :: rest)) :=
  va_get (D := D) (ci := 1) (C := RX1) (T := TX1) (N := 10) C0.1 C0.2.1 C0.2.2.2.2 hF C0.2.2.2.1 hG.2.1 hG.1 0 rfl rfl 5 (by decide) (C0.2.2.2.2 _ hk) (fun _ h9 => h9) rfl hdg kk
theorem tgX1_hour (C0 : CallFix p m c cc nL s args Ts RX1) (hF : ∀ w ∈ wsX10, w ∈ Ts) (hG : tcG D cI cJ N0 (wM h r1 r2 r3 r4 cI th tk co cn wk n ho st ct sp Z) s H) (hk : Cond.fieldLink RX1 99 "TicketCoincidencesModel" "hour" "I" ∈ Ts) (hdg : decode cc pc = .ok (.getfield 99, 3)) (kk : W p l e R s m args below meth c H locs cells slots Q (F0 m (pc + 3) ls (.int ho :: rest))) : W p l e R s m args below meth c H locs cells slots Q (F0 m pc ls (.ref h :: rest)) :=
  va_get (D := D) (ci := 1) (C := RX1) (T := TX1) (N := 10) C0.1 C0.2.1 C0.2.2.2.2 hF C0.2.2.2.1 hG.2.1 hG.1 0 rfl rfl 6 (by decide) (C0.2.2.2.2 _ hk) (fun _ h9 => h9) rfl hdg kk
theorem tpX1_hour (C0 : CallFix p m c cc nL s args Ts RX1) (hF : ∀ w ∈ wsX10, w ∈ Ts) (hG0 : tcG D cI cJ N0 ws0 s s.heap) (hG : tcG D cI cJ N0 (wM h r1 r2 r3 r4 cI th tk co cn wk n ho st ct sp Z) s H) (hS : va_S (tcA N0) s.heap H locs) {x : Int32} (hk : Cond.fieldLink RX1 99 "TicketCoincidencesModel" "hour" "I" ∈ Ts) (hdg : decode cc pc = .ok (.putfield 99, 3)) (kk : ∀ (H1 : Heap) (locs1 : List Loc), tcG D cI cJ N0 (wM h r1 r2 r3 r4 cI th tk co cn wk n x st ct sp Z) s H1 → va_S (tcA N0) s.heap H1 locs1 → W p l e R s m args below meth c H1 locs1 cells slots Q (F0 m (pc + 3) ls rest)) : W p l e R s m args below meth c H locs cells slots Q (F0 m pc ls (.int x :: .ref h :: rest)) :=
  va_put (D := D) (ci := 1) (ty := .int) (C := RX1) (T := TX1) (N := 10) C0.1 C0.2.1 C0.2.2.2.2 hF tyX1 tyX1_ok nmX1 C0.2.2.2.1 hG.2.1 hG.1 hG.2.2.1 hS 0 rfl rfl 6 (by decide) (C0.2.2.2.2 _ hk) (fun _ h9 => h9) rfl (by decide +kernel) rfl rfl (Nat.le_of_ble_eq_true rfl) hdg (fun H1 locs1 hP hD hS1 => kk H1 locs1 (hG0.put hP hD hS1) hS1)
theorem tgX1_store (C0 : CallFix p m c cc nL s args Ts RX1) (hF : ∀ w ∈ wsX10, w ∈ Ts) (hG : tcG D cI cJ N0 (wM h r1 r2 r3 r4 cI th tk co cn wk n ho st ct sp Z) s H) (hk : Cond.fieldLink RX1 22 "TicketCoincidencesModel" "store" "I" ∈ Ts) (hdg : decode cc pc = .ok (.getfield 22, 3)) (kk : W p l e R s m args below meth c H locs cells slots Q (F0 m (pc + 3) ls (.int (nI st) :: rest))) : W p l e R s m args below meth c H locs cells slots Q (F0 m pc ls (.ref h :: rest)) :=
  va_get (D := D) (ci := 1) (C := RX1) (T := TX1) (N := 10) C0.1 C0.2.1 C0.2.2.2.2 hF C0.2.2.2.1 hG.2.1 hG.1 0 rfl rfl 7 (by decide) (C0.2.2.2.2 _ hk) (fun _ h9 => h9) rfl hdg kk
theorem tpX1_store (C0 : CallFix p m c cc nL s args Ts RX1) (hF : ∀ w ∈ wsX10, w ∈ Ts) (hG0 : tcG D cI cJ N0 ws0 s s.heap) (hG : tcG D cI cJ N0 (wM h r1 r2 r3 r4 cI th tk co cn wk n ho st ct sp Z) s H) (hS : va_S (tcA N0) s.heap H locs) {x : Nat} (hk : Cond.fieldLink RX1 22 "TicketCoincidencesModel" "store" "I" ∈ Ts) (hdg : decode cc pc = .ok (.putfield 22, 3)) (kk : ∀ (H1 : Heap) (locs1 : List Loc), tcG D cI cJ N0 (wM h r1 r2 r3 r4 cI th tk co cn wk n ho x ct sp Z) s H1 → va_S (tcA N0) s.heap H1 locs1 → W p l e R s m args below meth c H1 locs1 cells slots Q (F0 m (pc + 3) ls rest)) : W p l e R s m args below meth c H locs cells slots Q (F0 m pc ls (.int (nI x) :: .ref h :: rest)) :=
  va_put (D := D) (ci := 1) (ty := .int) (C := RX1) (T := TX1) (N := 10) C0.1 C0.2.1 C0.2.2.2.2 hF tyX1 tyX1_ok nmX1 C0.2.2.2.1 hG.2.1 hG.1 hG.2.2.1 hS 0 rfl rfl 7 (by decide) (C0.2.2.2.2 _ hk) (fun _ h9 => h9) rfl (by decide +kernel) rfl rfl (Nat.le_of_ble_eq_true rfl) hdg (fun H1 locs1 hP hD hS1 => kk H1 locs1 (hG0.put hP hD hS1) hS1)
theorem tgX1_counted (C0 : CallFix p m c cc nL s args Ts RX1) (hF : ∀ w ∈ wsX10, w ∈ Ts) (hG : tcG D cI cJ N0 (wM h r1 r2 r3 r4 cI th tk co cn wk n ho st ct sp Z) s H) (hk : Cond.fieldLink RX1 93 "TicketCoincidencesModel" "counted" "I" ∈ Ts) (hdg : decode cc pc = .ok (.getfield 93, 3)) (kk : W p l e R s m args below meth c H locs cells slots Q (F0 m (pc + 3) ls (.int ct :: rest))) : W p l e R s m args below meth c H locs cells slots Q (F0 m pc ls (.ref h :: rest)) :=
  va_get (D := D) (ci := 1) (C := RX1) (T := TX1) (N := 10) C0.1 C0.2.1 C0.2.2.2.2 hF C0.2.2.2.1 hG.2.1 hG.1 0 rfl rfl 8 (by decide) (C0.2.2.2.2 _ hk) (fun _ h9 => h9) rfl hdg kk
theorem tpX1_counted (C0 : CallFix p m c cc nL s args Ts RX1) (hF : ∀ w ∈ wsX10, w ∈ Ts) (hG0 : tcG D cI cJ N0 ws0 s s.heap) (hG : tcG D cI cJ N0 (wM h r1 r2 r3 r4 cI th tk co cn wk n ho st ct sp Z) s H) (hS : va_S (tcA N0) s.heap H locs) {x : Int32} (hk : Cond.fieldLink RX1 93 "TicketCoincidencesModel" "counted" "I" ∈ Ts) (hdg : decode cc pc = .ok (.putfield 93, 3)) (kk : ∀ (H1 : Heap) (locs1 : List Loc), tcG D cI cJ N0 (wM h r1 r2 r3 r4 cI th tk co cn wk n ho st x sp Z) s H1 → va_S (tcA N0) s.heap H1 locs1 → W p l e R s m args below meth c H1 locs1 cells slots Q (F0 m (pc + 3) ls rest)) : W p l e R s m args below meth c H locs cells slots Q (F0 m pc ls (.int x :: .ref h :: rest)) :=
  va_put (D := D) (ci := 1) (ty := .int) (C := RX1) (T := TX1) (N := 10) C0.1 C0.2.1 C0.2.2.2.2 hF tyX1 tyX1_ok nmX1 C0.2.2.2.1 hG.2.1 hG.1 hG.2.2.1 hS 0 rfl rfl 8 (by decide) (C0.2.2.2.2 _ hk) (fun _ h9 => h9) rfl (by decide +kernel) rfl rfl (Nat.le_of_ble_eq_true rfl) hdg (fun H1 locs1 hP hD hS1 => kk H1 locs1 (hG0.put hP hD hS1) hS1)
theorem tgX1_spent (C0 : CallFix p m c cc nL s args Ts RX1) (hF : ∀ w ∈ wsX10, w ∈ Ts) (hG : tcG D cI cJ N0 (wM h r1 r2 r3 r4 cI th tk co cn wk n ho st ct sp Z) s H) (hk : Cond.fieldLink RX1 69 "TicketCoincidencesModel" "spent" "I" ∈ Ts) (hdg : decode cc pc = .ok (.getfield 69, 3)) (kk : W p l e R s m args below meth c H locs cells slots Q (F0 m (pc + 3) ls (.int sp :: rest))) : W p l e R s m args below meth c H locs cells slots Q (F0 m pc ls (.ref h :: rest)) :=
  va_get (D := D) (ci := 1) (C := RX1) (T := TX1) (N := 10) C0.1 C0.2.1 C0.2.2.2.2 hF C0.2.2.2.1 hG.2.1 hG.1 0 rfl rfl 9 (by decide) (C0.2.2.2.2 _ hk) (fun _ h9 => h9) rfl hdg kk
theorem tpX1_spent (C0 : CallFix p m c cc nL s args Ts RX1) (hF : ∀ w ∈ wsX10, w ∈ Ts) (hG0 : tcG D cI cJ N0 ws0 s s.heap) (hG : tcG D cI cJ N0 (wM h r1 r2 r3 r4 cI th tk co cn wk n ho st ct sp Z) s H) (hS : va_S (tcA N0) s.heap H locs) {x : Int32} (hk : Cond.fieldLink RX1 69 "TicketCoincidencesModel" "spent" "I" ∈ Ts) (hdg : decode cc pc = .ok (.putfield 69, 3)) (kk : ∀ (H1 : Heap) (locs1 : List Loc), tcG D cI cJ N0 (wM h r1 r2 r3 r4 cI th tk co cn wk n ho st ct x Z) s H1 → va_S (tcA N0) s.heap H1 locs1 → W p l e R s m args below meth c H1 locs1 cells slots Q (F0 m (pc + 3) ls rest)) : W p l e R s m args below meth c H locs cells slots Q (F0 m pc ls (.int x :: .ref h :: rest)) :=
  va_put (D := D) (ci := 1) (ty := .int) (C := RX1) (T := TX1) (N := 10) C0.1 C0.2.1 C0.2.2.2.2 hF tyX1 tyX1_ok nmX1 C0.2.2.2.1 hG.2.1 hG.1 hG.2.2.1 hS 0 rfl rfl 9 (by decide) (C0.2.2.2.2 _ hk) (fun _ h9 => h9) rfl (by decide +kernel) rfl rfl (Nat.le_of_ble_eq_true rfl) hdg (fun H1 locs1 hP hD hS1 => kk H1 locs1 (hG0.put hP hD hS1) hS1)
theorem tc_iret (C0 : CallFix p m c cc nL s args Ts own) (hr : meth.sig.returnType = some .int) (hlk : meth.locks = false) (hG : tcG D cI cJ N0 ws' s H) (hS : va_S (tcA N0) s.heap H locs) {x y : Int32} (hC : cd = 0) (hv : x = y) (hc : cells ≤ mc) (hs : slots ≤ ms) (hdg : decode cc pc = .ok (.ireturn, 1)) : W p l e R s m args below meth c H locs cells slots (tcE below es cd D N0 ws (some (.int y)) ws' args s mc ms) (F0 m pc ls [.int x]) := by
  subst hv; refine W.widen hc hs ?_
  exact vx_ret (W.iret C0.1 C0.2.1 hr (fun t ht _ => ⟨hC, rfl, by rw [ht]; exact hG.1, hG.2.2.1, hS.F ht⟩) hS.2.2 hdg hlk)
theorem tc_zret (C0 : CallFix p m c cc nL s args Ts own) (hr : meth.sig.returnType = some .boolean) (hlk : meth.locks = false) (hG : tcG D cI cJ N0 ws' s H) (hS : va_S (tcA N0) s.heap H locs) {x : Int32} {y : Bool} (hC : cd = 0) (hv : x = nI (b2n y)) (hc : cells ≤ mc) (hs : slots ≤ ms) (hdg : decode cc pc = .ok (.ireturn, 1)) : W p l e R s m args below meth c H locs cells slots (tcE below es cd D N0 ws (some (.int (nI (b2n y)))) ws' args s mc ms) (F0 m pc ls [.int x]) := by
  subst hv; refine W.widen hc hs ?_
  exact vx_ret (W.zret C0.1 C0.2.1 hr (by cases y <;> rfl) (fun t ht _ => ⟨hC, rfl, by rw [ht]; exact hG.1, hG.2.2.1, hS.F ht⟩) hS.2.2 hdg hlk)
theorem tc_lret (C0 : CallFix p m c cc nL s args Ts own) (hr : meth.sig.returnType = some .long) (hlk : meth.locks = false) (hG : tcG D cI cJ N0 ws' s H) (hS : va_S (tcA N0) s.heap H locs) {x y : Int64} (hC : cd = 0) (hv : x = y) (hc : cells ≤ mc) (hs : slots ≤ ms) (hdg : decode cc pc = .ok (.lreturn, 1)) : W p l e R s m args below meth c H locs cells slots (tcE below es cd D N0 ws (some (.long y)) ws' args s mc ms) (F0 m pc ls [.long x]) := by
  subst hv; refine W.widen hc hs ?_
  exact vx_ret (W.lret C0.1 C0.2.1 hr (fun t ht _ => ⟨hC, rfl, by rw [ht]; exact hG.1, hG.2.2.1, hS.F ht⟩) hS.2.2 hdg hlk)
theorem tc_dret (C0 : CallFix p m c cc nL s args Ts own) (hr : meth.sig.returnType = some .double) (hlk : meth.locks = false) (hG : tcG D cI cJ N0 ws' s H) (hS : va_S (tcA N0) s.heap H locs) {x y : UInt64} (hC : cd = 0) (hv : x = y) (hc : cells ≤ mc) (hs : slots ≤ ms) (hdg : decode cc pc = .ok (.dreturn, 1)) : W p l e R s m args below meth c H locs cells slots (tcE below es cd D N0 ws (some (.double y)) ws' args s mc ms) (F0 m pc ls [.double x]) := by
  subst hv; refine W.widen hc hs ?_
  exact vx_ret (W.dret C0.1 C0.2.1 hr (fun t ht _ => ⟨hC, rfl, by rw [ht]; exact hG.1, hG.2.2.1, hS.F ht⟩) hS.2.2 hdg hlk)
theorem tc_vret (C0 : CallFix p m c cc nL s args Ts own) (hr : meth.sig.returnType = none) (hlk : meth.locks = false) (hG : tcG D cI cJ N0 ws' s H) (hS : va_S (tcA N0) s.heap H locs)  (hC : cd = 0)  (hc : cells ≤ mc) (hs : slots ≤ ms) (hdg : decode cc pc = .ok (.return_, 1)) : W p l e R s m args below meth c H locs cells slots (tcE below es cd D N0 ws none ws' args s mc ms) (F0 m pc ls []) := by
  refine W.widen hc hs ?_
  exact vx_ret (W.vret C0.1 C0.2.1 hr (fun t ht _ => ⟨hC, rfl, by rw [ht]; exact hG.1, hG.2.2.1, hS.F ht⟩) hS.2.2 hdg hlk)
theorem iM_eq {a b : Nat} (ha : a < 2 ^ 31) (hb : b < 2 ^ 31) : iM a = iM b ↔ a = b := by
  constructor
  · intro h
    have h1 := congrArg Int32.toInt h
    rw [iM_toInt ha, iM_toInt hb] at h1; omega
  · intro h; rw [h]
theorem tm_icmp_eq (hx : p.tables.exec = Jvm.exec) (hb : c.code = cc) {a b : Nat} {off : Int} {tgt : Nat} (hdg : decode cc pc = .ok (.if_icmp .eq off, 3)) (ht : (pc : Int) + off = (tgt : Int)) (ha : a < 2 ^ 31) (h2 : b < 2 ^ 31) (kt : a = b → W p l e R s m args below meth c H locs cells slots Q (F0 m tgt ls rest)) (kf : ¬ a = b → W p l e R s m args below meth c H locs cells slots Q (F0 m (pc + 3) ls rest)) : W p l e R s m args below meth c H locs cells slots Q (F0 m pc ls (.int (iM b) :: .int (iM a) :: rest)) := lv_icmp_eq hx hb hdg ht (fun h => kt ((iM_eq ha h2).mp h)) (fun h => kf (fun z => h ((iM_eq ha h2).mpr z)))
theorem tm_icmp_ne (hx : p.tables.exec = Jvm.exec) (hb : c.code = cc) {a b : Nat} {off : Int} {tgt : Nat} (hdg : decode cc pc = .ok (.if_icmp .ne off, 3)) (ht : (pc : Int) + off = (tgt : Int)) (ha : a < 2 ^ 31) (h2 : b < 2 ^ 31) (kt : ¬ a = b → W p l e R s m args below meth c H locs cells slots Q (F0 m tgt ls rest)) (kf : a = b → W p l e R s m args below meth c H locs cells slots Q (F0 m (pc + 3) ls rest)) : W p l e R s m args below meth c H locs cells slots Q (F0 m pc ls (.int (iM b) :: .int (iM a) :: rest)) := lv_icmp_ne hx hb hdg ht (fun h => kt (fun z => h ((iM_eq ha h2).mpr z))) (fun h => kf ((iM_eq ha h2).mp h))
theorem tm_icmp_gt (hx : p.tables.exec = Jvm.exec) (hb : c.code = cc) {a b : Nat} {off : Int} {tgt : Nat} (hdg : decode cc pc = .ok (.if_icmp .gt off, 3)) (ht : (pc : Int) + off = (tgt : Int)) (ha : a < 2 ^ 31) (h2 : b < 2 ^ 31) (kt : b ≤ a → W p l e R s m args below meth c H locs cells slots Q (F0 m tgt ls rest)) (kf : a < b → W p l e R s m args below meth c H locs cells slots Q (F0 m (pc + 3) ls rest)) : W p l e R s m args below meth c H locs cells slots Q (F0 m pc ls (.int (iM b) :: .int (nI a) :: rest)) := lv_icmp_gt hx hb hdg ht (fun h => kt (Nat.le_of_not_lt (fun z => Int32.not_le.mpr h ((nI_le_iM ha h2).mpr z)))) (fun h => kf ((nI_le_iM ha h2).mp (Int32.not_lt.mp h)))
/-- how far apart two numbers are -/
def adist (a b : Nat) : Nat := if a < b then b - a else a - b
theorem adist_le {a b k : Nat} (ha : a ≤ k) (hb : b ≤ k) : adist a b ≤ k := by unfold adist; split <;> omega
theorem tc_abs {a b : Nat} (ha : a < 2 ^ 30) (hb : b < 2 ^ 30) : (if 0 ≤ nI a - nI b then nI a - nI b else 0 - (nI a - nI b)) = nI (adist a b) := by
  have h0 : (0 : Int32).toInt = 0 := by decide
  by_cases h : a < b
  · have h1 : nI a - nI b < 0 := pk_sneg hb h
    rw [if_neg (Int32.not_le.mpr h1)]
    unfold adist; rw [if_pos h]
    rw [Int32.zero_sub, Int32.neg_sub]; exact pk_sub (Nat.le_of_lt h)
  · have h1 : nI a - nI b = nI (a - b) := pk_sub (Nat.le_of_not_lt h)
    rw [h1, if_pos (by rw [Int32.le_iff_toInt_le, nI_toInt (by omega), h0]; omega)]
    unfold adist; rw [if_neg h]
theorem tc_min {a b : Nat} (ha : a < 2 ^ 31) (hb : b < 2 ^ 31) : (if nI b < nI a then nI b else nI a) = nI (min a b) := by
  by_cases h : b < a
  · rw [if_pos ((nI_ltI hb ha).mpr h)]; congr 1; omega
  · rw [if_neg (fun z => h ((nI_ltI hb ha).mp z))]; congr 1; omega
end TCR
end
section
/-! the town as plain numbers -/
def sm (f : Nat → Nat) : Nat → Nat | 0 => 0 | n + 1 => sm f n + f n
theorem sm_0 (f : Nat → Nat) : sm f 0 = 0 := rfl
theorem sm_s (f : Nat → Nat) (n : Nat) : sm f (n + 1) = sm f n + f n := rfl
theorem sm_cong {f g : Nat → Nat} : ∀ {n : Nat}, (∀ k, k < n → f k = g k) → sm f n = sm g n
  | 0, _ => rfl
  | n + 1, h => by rw [sm_s, sm_s, sm_cong (fun k hk => h k (by omega)), h n (by omega)]
theorem sm_add (f g : Nat → Nat) : ∀ n, sm (fun k => f k + g k) n = sm f n + sm g n
  | 0 => rfl
  | n + 1 => by rw [sm_s, sm_s, sm_s, sm_add f g n]; omega
theorem sm_zero {f : Nat → Nat} : ∀ {n : Nat}, (∀ k, k < n → f k = 0) → sm f n = 0
  | 0, _ => rfl
  | n + 1, h => by rw [sm_s, sm_zero (fun k hk => h k (by omega)), h n (by omega)]
theorem sm_le {f : Nat → Nat} {c : Nat} : ∀ {n : Nat}, (∀ k, k < n → f k ≤ c) → sm f n ≤ n * c
  | 0, _ => by simp [sm]
  | n + 1, h => by
    have h1 := sm_le (n := n) (fun k hk => h k (by omega))
    have h2 := h n (by omega)
    rw [sm_s, Nat.succ_mul]; omega
theorem sm_if {f : Nat → Nat} (c : Prop) [Decidable c] (n : Nat) : (if c then sm f n else 0) = sm (fun k => if c then f k else 0) n := by
  by_cases h : c
  · rw [if_pos h]; exact sm_cong (fun k _ => by rw [if_pos h])
  · rw [if_neg h, sm_zero (fun k _ => by rw [if_neg h])]
/-- points of two tickets, of two colours, of a pair -/
def mir (t u : Nat) : Bool := decide (t / 10 = u % 10 ∧ t % 10 = u / 10)
def ptk (t u : Nat) : Nat := (if t % 10 = u % 10 then 1 else 0) + (if t / 10 + t % 10 = u / 10 + u % 10 then 2 else 0) + (if adist t u = 1 then 3 else 0) + (if mir t u = true then 5 else 0)
def pco (c d : Nat) : Nat := if c = d then 2 else 0
def pts (tk co : Nat → Nat) (a b : Nat) : Nat := ptk (tk a) (tk b) + pco (co a) (co b)
theorem adist_sym (a b : Nat) : adist a b = adist b a := by unfold adist; split <;> split <;> omega
theorem adist_1 (a b : Nat) : adist a b = 1 ↔ (a = b + 1 ∨ b = a + 1) := by unfold adist; split <;> omega
theorem mir_sym (t u : Nat) : mir t u = mir u t := by
  unfold mir; rw [decide_eq_decide]
  exact ⟨fun h => ⟨h.2.symm, h.1.symm⟩, fun h => ⟨h.2.symm, h.1.symm⟩⟩
theorem ptk_sym (t u : Nat) : ptk t u = ptk u t := by
  unfold ptk
  rw [adist_sym t u, mir_sym t u]
  simp only [eq_comm (a := t % 10) (b := u % 10), eq_comm (a := t / 10 + t % 10) (b := u / 10 + u % 10)]
theorem pco_sym (c d : Nat) : pco c d = pco d c := by unfold pco; simp only [eq_comm (a := c) (b := d)]
theorem pts_sym (tk co : Nat → Nat) (a b : Nat) : pts tk co a b = pts tk co b a := by unfold pts; rw [ptk_sym, pco_sym]
theorem ptk_le (t u : Nat) : ptk t u ≤ 11 := by unfold ptk; split <;> split <;> split <;> split <;> omega
theorem pco_le (c d : Nat) : pco c d ≤ 2 := by unfold pco; split <;> omega
theorem pts_le (tk co : Nat → Nat) (a b : Nat) : pts tk co a b ≤ 13 := by
  have h1 := ptk_le (tk a) (tk b); have h2 := pco_le (co a) (co b); unfold pts; omega
/-- the corner behind some hours -/
def cnr (cn wk : Nat → Nat) (h k : Nat) : Nat := (cn k + wk k * h) % 6
theorem cnr_lt (cn wk : Nat → Nat) (h k : Nat) : cnr cn wk h k < 6 := Nat.mod_lt _ (by decide)
theorem cnr_0 {cn : Nat → Nat} (wk : Nat → Nat) {k : Nat} (h : cn k < 6) : cnr cn wk 0 k = cn k := by unfold cnr; rw [Nat.mul_zero, Nat.add_zero, Nat.mod_eq_of_lt h]
/-- all pairs, each once: b before a, or a before b -/
def pm (g : Nat → Nat → Nat) (n : Nat) : Nat := sm (fun a => sm (g a) a) n
def pt (g : Nat → Nat → Nat) (n : Nat) : Nat := sm (fun a => sm (fun b => if a < b then g a b else 0) n) n
theorem pt_pm {g : Nat → Nat → Nat} (hg : ∀ a b, g a b = g b a) : ∀ n, pt g n = pm g n
  | 0 => rfl
  | n + 1 => by
    have ih := pt_pm hg n
    unfold pt pm at ih ⊢
    have s1 : sm (fun a => sm (fun b => if a < b then g a b else 0) (n + 1)) (n + 1) = sm (fun a => sm (fun b => if a < b then g a b else 0) (n + 1)) n + sm (fun b => if n < b then g n b else 0) (n + 1) := rfl
    have e1 : sm (fun a => sm (fun b => if a < b then g a b else 0) (n + 1)) n = sm (fun a => sm (fun b => if a < b then g a b else 0) n) n + sm (fun a => g n a) n := by
      rw [← sm_add]
      exact sm_cong (fun a ha => by rw [sm_s, if_pos ha, hg a n])
    have e2 : sm (fun b => if n < b then g n b else 0) (n + 1) = 0 := sm_zero (fun k hk => if_neg (by omega))
    rw [s1, e1, e2, ih]; rfl
theorem pm_cong {g g' : Nat → Nat → Nat} {n : Nat} (h : ∀ a b, a < n → b < a → g a b = g' a b) : pm g n = pm g' n :=
  sm_cong (fun a ha => sm_cong (fun b hb => h a b ha hb))
theorem pm_le {g : Nat → Nat → Nat} {c n : Nat} (h : ∀ a b, g a b ≤ c) (hn : n ≤ 12) : pm g n ≤ 12 * (12 * c) := by
  have h1 : ∀ a, a < n → sm (g a) a ≤ 12 * c := fun a ha => by
    have := sm_le (f := g a) (c := c) (n := a) (fun k _ => h a k)
    exact Nat.le_trans this (Nat.mul_le_mul_right c (by omega))
  exact Nat.le_trans (sm_le h1) (Nat.mul_le_mul_right _ hn)
/-- the pairs with k -/
def pw (g : Nat → Nat → Nat) (k n : Nat) : Nat := sm (fun i => if i ≠ k then g k i else 0) n
/-- the pairs without k -/
def po (g : Nat → Nat → Nat) (k n : Nat) : Nat := pm (fun a b => if a ≠ k ∧ b ≠ k then g a b else 0) n
theorem pm_split {g : Nat → Nat → Nat} (hg : ∀ a b, g a b = g b a) (k : Nat) : ∀ n, (n ≤ k → pm g n = po g k n) ∧ (k < n → pm g n = po g k n + pw g k n)
  | 0 => ⟨fun _ => rfl, fun h => absurd h (Nat.not_lt_zero k)⟩
  | n + 1 => by
    obtain ⟨i1, i2⟩ := pm_split hg k n
    have s1 : pm g (n + 1) = pm g n + sm (g n) n := rfl
    have s2 : po g k (n + 1) = po g k n + sm (fun b => if n ≠ k ∧ b ≠ k then g n b else 0) n := rfl
    have s3 : pw g k (n + 1) = pw g k n + (if n ≠ k then g k n else 0) := rfl
    refine ⟨fun h => ?_, fun h => ?_⟩
    · rw [s1, s2, i1 (by omega)]
      congr 1
      exact sm_cong (fun b hb => by rw [if_pos ⟨by omega, by omega⟩])
    · rcases Nat.lt_or_ge k n with q | q
      · rw [s1, s2, s3, i2 q, if_pos (by omega : n ≠ k)]
        have e : sm (g n) n = sm (fun b => if n ≠ k ∧ b ≠ k then g n b else 0) n + g n k := by
          have gen : ∀ m, k < m → sm (g n) m = sm (fun b => if n ≠ k ∧ b ≠ k then g n b else 0) m + g n k := by
            intro m
            induction m with
            | zero => intro hm; exact absurd hm (Nat.not_lt_zero k)
            | succ m ihm =>
              intro hm
              rw [sm_s, sm_s]
              rcases Nat.lt_or_ge k m with r | r
              · rw [ihm r, if_pos ⟨by omega, by omega⟩]; omega
              · have e1 : m = k := by omega
                subst e1
                rw [if_neg (fun z => z.2 rfl)]
                have e2 : sm (g n) m = sm (fun b => if n ≠ m ∧ b ≠ m then g n b else 0) m := sm_cong (fun b hb => by rw [if_pos ⟨by omega, by omega⟩])
                rw [e2]; omega
          exact gen n q
        rw [e, hg k n]; omega
      · have e1 : n = k := by omega
        subst e1
        rw [s1, s2, s3, i1 (Nat.le_refl n), if_neg (fun z => z rfl)]
        have e2 : sm (fun b => if n ≠ n ∧ b ≠ n then g n b else 0) n = 0 := sm_zero (fun b _ => if_neg (fun z => z.1 rfl))
        have e3 : pw g n n = sm (g n) n := sm_cong (fun b hb => if_pos (by omega))
        rw [e2, e3]; omega
theorem pw_sum {g : Nat → Nat → Nat} (hg : ∀ a b, g a b = g b a) : ∀ n, sm (fun k => pw g k n) n = 2 * pm g n
  | 0 => rfl
  | n + 1 => by
    have ih := pw_sum hg n
    have s1 : pm g (n + 1) = pm g n + sm (g n) n := rfl
    have s3 : ∀ k, pw g k (n + 1) = pw g k n + (if n ≠ k then g k n else 0) := fun _ => rfl
    rw [sm_s, s1]
    have e1 : sm (fun k => pw g k (n + 1)) n = sm (fun k => pw g k n) n + sm (g n) n := by
      rw [← sm_add]
      exact sm_cong (fun k hk => by rw [s3, if_pos (by omega), hg k n])
    have e3 : pw g n n = sm (g n) n := sm_cong (fun b hb => if_pos (by omega))
    rw [e1, ih, s3 n, if_neg (fun z => z rfl), e3]; omega
/-- coincidences of the town behind some hours; at a corner; luck -/
def twg (tk co cn wk : Nat → Nat) (h a b : Nat) : Nat := if cnr cn wk h a = cnr cn wk h b then pts tk co a b else 0
def tw (tk co cn wk : Nat → Nat) (h n : Nat) : Nat := pm (twg tk co cn wk h) n
theorem twg_sym (tk co cn wk : Nat → Nat) (h a b : Nat) : twg tk co cn wk h a b = twg tk co cn wk h b a := by
  unfold twg; rw [pts_sym tk co a b]; simp only [eq_comm (a := cnr cn wk h a) (b := cnr cn wk h b)]
theorem twg_le (tk co cn wk : Nat → Nat) (h a b : Nat) : twg tk co cn wk h a b ≤ 13 := by
  have := pts_le tk co a b; unfold twg; split <;> omega
theorem tw_le (tk co cn wk : Nat → Nat) (h : Nat) {n : Nat} (hn : n ≤ 12) : tw tk co cn wk h n ≤ 1872 := pm_le (twg_le tk co cn wk h) hn
def cag (tk co cn : Nat → Nat) (c a b : Nat) : Nat := if cn a = c ∧ cn b = c then pts tk co a b else 0
def cAt (tk co cn : Nat → Nat) (c n : Nat) : Nat := pm (cag tk co cn c) n
theorem cag_sym (tk co cn : Nat → Nat) (c a b : Nat) : cag tk co cn c a b = cag tk co cn c b a := by
  unfold cag; rw [pts_sym tk co a b]; simp only [and_comm (a := cn a = c)]
def lwg (tk co cn : Nat → Nat) (k t c i : Nat) : Nat := if i ≠ k ∧ cn i = c then ptk t (tk i) + pco (co k) (co i) else 0
def lw (tk co cn : Nat → Nat) (k t c n : Nat) : Nat := sm (lwg tk co cn k t c) n
theorem lw_le (tk co cn : Nat → Nat) (k t c : Nat) {n : Nat} (hn : n ≤ 12) : lw tk co cn k t c n ≤ 156 := by
  have h : ∀ i, i < n → lwg tk co cn k t c i ≤ 13 := fun i _ => by
    have h1 := ptk_le t (tk i); have h2 := pco_le (co k) (co i); unfold lwg; split <;> omega
  have := sm_le h
  unfold lw; omega
def crowd (cn : Nat → Nat) (c n : Nat) : Nat := sm (fun i => if cn i = c then 1 else 0) n
theorem crowd_le (cn : Nat → Nat) (c : Nat) {n : Nat} (hn : n ≤ 12) : crowd cn c n ≤ 12 := by
  have := sm_le (f := fun i => if cn i = c then 1 else 0) (c := 1) (n := n) (fun i _ => by split <;> omega)
  unfold crowd; omega
def emp (cn : Nat → Nat) (n : Nat) : Nat := sm (fun c => if crowd cn c n = 0 then 1 else 0) 6
theorem emp_le (cn : Nat → Nat) (n : Nat) : emp cn n ≤ 6 := by
  have := sm_le (f := fun c => if crowd cn c n = 0 then 1 else 0) (c := 1) (n := 6) (fun i _ => by split <;> omega)
  unfold emp; omega
def lkn (tk co cn : Nat → Nat) (k n : Nat) : Nat := lw tk co cn k (tk k) (cn k) n
/-- the best of many, the first of equals: how much and one more, which -/
def am (f : Nat → Nat) : Nat → Nat × Nat | 0 => (0, 0) | v + 1 => if (am f v).1 ≤ f v then (f v + 1, v) else am f v
theorem am_s (f : Nat → Nat) (v : Nat) : am f (v + 1) = if (am f v).1 ≤ f v then (f v + 1, v) else am f v := rfl
theorem am_y {f : Nat → Nat} {v : Nat} (h : (am f v).1 ≤ f v) : am f (v + 1) = (f v + 1, v) := by rw [am_s, if_pos h]
theorem am_n {f : Nat → Nat} {v : Nat} (h : f v < (am f v).1) : am f (v + 1) = am f v := by rw [am_s, if_neg (by omega)]
theorem am_le {f : Nat → Nat} {c : Nat} (h : ∀ v, f v ≤ c) : ∀ v, (am f v).1 ≤ c + 1
  | 0 => Nat.zero_le _
  | v + 1 => by
    have ih := am_le h v; have h2 := h v
    rw [am_s]; split
    · show f v + 1 ≤ c + 1; omega
    · exact ih
theorem am_add {f g : Nat → Nat} {r : Nat} : ∀ {v : Nat}, (∀ k, k < v → g k = r + f k) → (am g v).2 = (am f v).2 ∧ (0 < v → (am g v).1 = r + (am f v).1)
  | 0, _ => ⟨rfl, fun h => absurd h (Nat.lt_irrefl 0)⟩
  | v + 1, h => by
    obtain ⟨i1, i2⟩ := am_add (v := v) (fun k hk => h k (by omega))
    have e := h v (by omega)
    rcases Nat.eq_zero_or_pos v with q | q
    · subst q
      refine ⟨rfl, fun _ => ?_⟩
      show g 0 + 1 = r + (f 0 + 1); omega
    · have i3 := i2 q
      by_cases c : (am f v).1 ≤ f v
      · rw [am_y c, am_y (by omega)]
        exact ⟨rfl, fun _ => by show g v + 1 = r + (f v + 1); omega⟩
      · rw [am_n (by omega), am_n (by omega)]
        exact ⟨i1, fun _ => i3⟩
/-- the best hour -/
def hb (f : Nat → Nat) : Nat → Nat × Nat | 0 => (f 1, 1) | j + 1 => if (hb f j).1 < f (j + 2) then (f (j + 2), j + 2) else hb f j
theorem hb_y {f : Nat → Nat} {j : Nat} (h : (hb f j).1 < f (j + 2)) : hb f (j + 1) = (f (j + 2), j + 2) := by rw [hb, if_pos h]
theorem hb_n {f : Nat → Nat} {j : Nat} (h : f (j + 2) ≤ (hb f j).1) : hb f (j + 1) = hb f j := by rw [hb, if_neg (by omega)]
theorem hb_fst (f : Nat → Nat) : ∀ j, (hb f j).1 = f (hb f j).2
  | 0 => rfl
  | j + 1 => by
    by_cases c : (hb f j).1 < f (j + 2)
    · rw [hb_y c]
    · rw [hb_n (by omega)]; exact hb_fst f j
theorem hb_le (f : Nat → Nat) : ∀ j, (hb f j).2 ≤ j + 1
  | 0 => Nat.le_refl 1
  | j + 1 => by
    by_cases c : (hb f j).1 < f (j + 2)
    · rw [hb_y c]; exact Nat.le_refl _
    · rw [hb_n (by omega)]; exact Nat.le_succ_of_le (hb_le f j)
/-- the best pair: how much and one more, which and one more -/
def lkr (p : Nat → Nat → Nat) (a : Nat) : Nat → Nat × Nat → Nat × Nat | 0, s => s | b + 1, s => if a < b ∧ (lkr p a b s).1 ≤ p a b then (p a b + 1, 100 * a + b + 1) else lkr p a b s
theorem lkr_y {p : Nat → Nat → Nat} {a b : Nat} {s : Nat × Nat} (h : a < b) (h2 : (lkr p a b s).1 ≤ p a b) : lkr p a (b + 1) s = (p a b + 1, 100 * a + b + 1) := by rw [lkr, if_pos ⟨h, h2⟩]
theorem lkr_n {p : Nat → Nat → Nat} {a b : Nat} {s : Nat × Nat} (h2 : p a b < (lkr p a b s).1) : lkr p a (b + 1) s = lkr p a b s := by rw [lkr, if_neg (fun z => by omega)]
theorem lkr_lo {p : Nat → Nat → Nat} {a : Nat} {s : Nat × Nat} : ∀ {b : Nat}, b ≤ a + 1 → lkr p a b s = s
  | 0, _ => rfl
  | b + 1, h => by rw [lkr, if_neg (fun z => by omega)]; exact lkr_lo (by omega)
theorem lkr_le {p : Nat → Nat → Nat} {a c : Nat} {s : Nat × Nat} (h : ∀ a b, p a b ≤ c) (hs : s.1 ≤ c + 1) : ∀ b, (lkr p a b s).1 ≤ c + 1
  | 0 => hs
  | b + 1 => by
    have ih := lkr_le (a := a) h hs b; have h2 := h a b
    rw [lkr]; split
    · show p a b + 1 ≤ c + 1; omega
    · exact ih
theorem lkr_cong {p q : Nat → Nat → Nat} {a : Nat} {s : Nat × Nat} : ∀ {b : Nat}, (∀ j, j < b → p a j = q a j) → lkr p a b s = lkr q a b s
  | 0, _ => rfl
  | b + 1, h => by rw [lkr, lkr, lkr_cong (fun j hj => h j (by omega)), h b (by omega)]
def lkf (p : Nat → Nat → Nat) (n : Nat) (s : Nat × Nat) : Nat → Nat × Nat | 0 => s | a + 1 => lkr p a n (lkf p n s a)
theorem lkf_0 (p : Nat → Nat → Nat) (n : Nat) (s : Nat × Nat) : lkf p n s 0 = s := rfl
theorem lkf_s (p : Nat → Nat → Nat) (n a : Nat) (s : Nat × Nat) : lkf p n s (a + 1) = lkr p a n (lkf p n s a) := rfl
theorem lkf_le {p : Nat → Nat → Nat} {n c : Nat} {s : Nat × Nat} (h : ∀ a b, p a b ≤ c) (hs : s.1 ≤ c + 1) : ∀ a, (lkf p n s a).1 ≤ c + 1
  | 0 => hs
  | a + 1 => by rw [lkf_s]; exact lkr_le h (lkf_le h hs a) n
/-- two places of a row swapped -/
def swp (f : Nat → Nat) (a b : Nat) : Nat → Nat := va_up (va_up f a (f b)) b (f a)
theorem swp_swp (f : Nat → Nat) (a b : Nat) : swp (swp f a b) a b = f := by
  funext j
  unfold swp va_up
  by_cases h1 : j = b
  · by_cases h2 : a = b
    · subst h1; subst h2; simp
    · subst h1; simp [h2, Ne.symm h2]
  · by_cases h2 : j = a
    · subst h2; simp [h1]
    · simp [h1, h2]
def luckiest (tk co : Nat → Nat) (n : Nat) : Nat := (lkf (pts tk co) n (0, 0) n).2
def bestHr (tk co cn wk : Nat → Nat) (n : Nat) : Nat := (hb (fun h => tw tk co cn wk h n) 5).2
def bestCn (tk co cn : Nat → Nat) (k n : Nat) : Nat := (am (fun v => lw tk co cn k (tk k) v n) 6).2
def bestTk (tk co cn : Nat → Nat) (k n : Nat) : Nat := (am (fun v => lw tk co cn k v (cn k) n) 100).2
def swt (tk co cn wk : Nat → Nat) (n a b : Nat) : Nat := tw (swp tk a b) co cn wk 0 n
def bestSw (tk co cn wk : Nat → Nat) (n : Nat) : Nat := (lkf (swt tk co cn wk n) n (tw tk co cn wk 0 n + 1, 0) n).2
/-- the corners behind an hour, for the first i -/
def pcn (cn wk : Nat → Nat) (i : Nat) : Nat → Nat := fun j => if j < i then cnr cn wk 1 j else cn j
theorem pcn_0 (cn wk : Nat → Nat) : pcn cn wk 0 = cn := rfl
theorem pcn_at (cn wk : Nat → Nat) (i : Nat) : cnr (pcn cn wk i) wk 1 i = cnr cn wk 1 i := by
  unfold cnr pcn; rw [if_neg (Nat.lt_irrefl i)]
theorem pcn_s (cn wk : Nat → Nat) (i : Nat) : va_up (pcn cn wk i) i (cnr (pcn cn wk i) wk 1 i) = pcn cn wk (i + 1) := by
  rw [pcn_at]; funext j
  unfold va_up pcn
  by_cases h : j = i
  · subst h; simp
  · by_cases h2 : j < i
    · rw [if_neg h, if_pos h2, if_pos (by omega)]
    · rw [if_neg h, if_neg h2, if_neg (by omega)]
theorem pcn_lt {cn : Nat → Nat} (wk : Nat → Nat) (i : Nat) (h : ∀ j, cn j < 6) (j : Nat) : pcn cn wk i j < 6 := by
  unfold pcn; split
  · exact cnr_lt cn wk 1 j
  · exact h j
/-- the store behind an hour -/
def stn (st em : Nat) : Nat := min 100 (st + em)
/-- hours one by one: corners, counted, store -/
def hrs (tk co wk : Nat → Nat) (n : Nat) (cn : Nat → Nat) (ct : Int32) (st : Nat) : Nat → (Nat → Nat) × Int32 × Nat
  | 0 => (cn, ct, st)
  | i + 1 => let q := hrs tk co wk n cn ct st i; (pcn q.1 wk n, q.2.1 + nI (tw tk co (pcn q.1 wk n) wk 0 n), stn q.2.2 (emp (pcn q.1 wk n) n))
theorem hrs_lt {tk co wk : Nat → Nat} {n : Nat} {cn : Nat → Nat} {ct : Int32} {st : Nat} (h : ∀ j, cn j < 6) (hs : st ≤ 100) : ∀ i, (∀ j, (hrs tk co wk n cn ct st i).1 j < 6) ∧ (hrs tk co wk n cn ct st i).2.2 ≤ 100
  | 0 => ⟨h, hs⟩
  | i + 1 => ⟨fun j => pcn_lt wk n (hrs_lt h hs i).1 j, Nat.min_le_left _ _⟩
/-- when two come together: the hours and one more, 0 for never -/
def untl (cn wk : Nat → Nat) (a b : Nat) : Nat → Nat → Nat | 0, _ => 0 | f + 1, k => if cnr cn wk k a = cnr cn wk k b then k + 1 else untl cn wk a b f (k + 1)
def meet (cn wk : Nat → Nat) (a b : Nat) : Nat := untl cn wk a b 6 0
theorem untl_y {cn wk : Nat → Nat} {a b k : Nat} (hk : k < 6) (h : cnr cn wk k a = cnr cn wk k b) : untl cn wk a b (6 - k) k = k + 1 := by
  obtain ⟨f, hf⟩ : ∃ f, 6 - k = f + 1 := ⟨5 - k, by omega⟩
  rw [hf, untl, if_pos h]
theorem untl_n {cn wk : Nat → Nat} {a b k : Nat} (hk : k < 6) (h : ¬ cnr cn wk k a = cnr cn wk k b) : untl cn wk a b (6 - k) k = untl cn wk a b (6 - (k + 1)) (k + 1) := by
  obtain ⟨f, hf⟩ : ∃ f, 6 - k = f + 1 := ⟨5 - k, by omega⟩
  have e : 6 - (k + 1) = f := by omega
  rw [hf, e, untl, if_neg h]
def way (a b : Nat) : Nat := 2 * min (adist a b) (6 - adist a b)
/-- codes of what is thrown -/
def cdS (k : Int32) (n : Nat) : Nat := if tcIn k n = true then 0 else 1
def cdP (a b : Int32) (n : Nat) : Nat := if tcIn a n = true then (if tcIn b n = true then (if a = b then 2 else 0) else 1) else 1
def cdK (k : Int32) (n : Nat) (x : Int32) (m : Nat) : Nat := if tcIn k n = true then (if tcIn x m = true then 0 else 2) else 1
theorem cdS_y {k : Int32} {n : Nat} (h : tcIn k n = true) : cdS k n = 0 := if_pos h
theorem cdS_n {k : Int32} {n : Nat} (h : tcIn k n = false) : cdS k n = 1 := if_neg (by rw [h]; decide)
theorem cdS_0 {k : Int32} {n : Nat} (h : cdS k n = 0) : tcIn k n = true := by
  cases q : tcIn k n with
  | true => rfl
  | false => rw [cdS_n q] at h; cases h
theorem cdS_1 {k : Int32} {n i : Nat} (h : cdS k n = i + 1) : tcIn k n = false ∧ i = 0 := by
  cases q : tcIn k n with
  | true => rw [cdS_y q] at h; cases h
  | false => rw [cdS_n q] at h; exact ⟨rfl, by omega⟩
def ix (x : Int32) : Nat := x.toNatClampNeg
theorem ix_nI {j : Nat} (h : j < 2 ^ 31) : ix (nI j) = j := nI_clamp h
theorem tc_nI_ne {a b : Nat} (ha : a < 2 ^ 31) (hb : b < 2 ^ 31) (h : ¬ nI a = nI b) : a ≠ b := fun z => h (by rw [z])
section TCN
variable {p : Program} {l : Launch} {e : Env} {R : Room} {s : State} {m : MethodId} {args : Array Value} {below : List Frame} {meth : Method} {c : Code} {H : Heap} {locs : List Loc} {cells slots : Nat} {Q : State → Prop}
theorem tc_nameQ {g : JFrame} (k : ∀ Qg : State → Prop, Qg = Q → W p l e R s m args below meth c H locs cells slots Qg g) : W p l e R s m args below meth c H locs cells slots Q g := k Q rfl
variable {cc : ByteArray} {pc : Nat} {ls : Array Slot} {rest : List Value} {D : va_G} {cI cJ : ClassId} {N0 : Nat} {ws ws' : va_W} {es : List String} {cd mc ms nL : Nat} {v : Option Value} {Ts : List Cond}
/-- 'throw new E("text")' where nothing was written so far; the heap may have grown -/
theorem tc_thr {lv : List (Nat × Value)} {i ik is ic : Nat} {cls text : String} (C0 : CallFix p m c cc nL s args Ts RX0) (hlf : l.stackTraces = false) (ht : ∀ x ∈ c.exceptionTable.toList, False) (hlk : meth.locks = false) (hG0 : tcG D cI cJ N0 ws s s.heap) (hG : tcG D cI cJ N0 ws s H) (hS : va_S (tcA N0) s.heap H locs) (hl : lv_has ls nL lv) (htx : (is, text) ∈ tcStr) (hcls : Bundle.fit cls = true)
    (hk : Cond.classLink RX0 ik cls ∈ Ts) (hini : Cond.initialized cls ∈ Ts) (hat : (vx_atS RX0 ic cls ["java/lang/RuntimeException", "java/lang/Exception"]).all (fun w => decide (w ∈ Ts) && vx_ot w) = true)
    (d0 : decode cc pc = .ok (.new ik, 3)) (d3 : decode cc (pc + 3) = .ok (.dup, 1)) (d4 : decode cc (pc + 4) = .ok (.ldc is, 2)) (d6 : decode cc (pc + 6) = .ok (.invokespecial ic, 3)) (d9 : decode cc (pc + 9) = .ok (.athrow, 1))
    (hR1 : 5 < R.frames) (hR2 : (rest.map fun v => v.category).sum + 82 ≤ R.locals) (hf : cells + 1 ≤ R.cells ∧ slots + 6 ≤ R.slots) (hi : es[i]? = some cls) (hcd : cd = i + 1) (hc : cells + 1 ≤ mc) (hs : slots + 6 ≤ ms) :
    W p l e R s m args below meth c H locs cells slots (tcE below es cd D N0 ws v ws' args s mc ms) (F0 m pc ls rest) := by
  obtain ⟨hx, hb, hml, hown, hts⟩ := C0
  obtain ⟨sa, hsa⟩ := hG0.2.2.2.2.2.2 _ htx
  have hat' : ∀ w ∈ vx_atS RX0 ic cls ["java/lang/RuntimeException", "java/lang/Exception"], w ∈ Ts ∧ vx_ot w = true := fun w hw => by
    have h1 := List.all_eq_true.mp hat w hw
    simp only [Bool.and_eq_true, decide_eq_true_eq] at h1
    exact h1
  refine vx_throwS hx hb hlf (names := ["java/lang/RuntimeException", "java/lang/Exception"]) (A := tcA N0) hown hcls (by decide +kernel) (hts _ hk) (hts _ hini) hsa (fun w hw => hts w (hat' w hw).1) ?_ hG0.2.2.2.2.1 hG0.2.2.2.2.2.1 hS (hl.1.trans hml.symm) d0 d3 d4 d6 d9 (fun x hx => (ht x hx).elim) hR1 hR2 hf.1 hf.2 hlk ?_ hS.2.2 hc hs
  · intro w hw
    rcases List.mem_cons.mp hw with rfl | hw
    · rfl
    · rcases List.mem_cons.mp hw with rfl | hw
      · rfl
      · exact (hat' w hw).2
  · intro t _ h2 h3
    exact ⟨⟨i, hi, hcd⟩, fun k q hq => (hG.1 k q hq).kept (h3 q.1 (hG.1 k q hq).lt), ⟨Nat.le_trans hS.1 h2, fun q h1 hq => by rw [h3 q (Nat.lt_of_lt_of_le h1 hS.1)]; exact hS.2.1 q h1 hq⟩⟩
end TCN
end
section
/-! small facts for the walks -/
def tcEs : List String := ["java/lang/IndexOutOfBoundsException", "java/lang/IllegalArgumentException", "java/lang/IllegalStateException"]
def tcEa : List String := ["java/lang/IllegalArgumentException", "java/lang/IllegalStateException"]
theorem sm_step {f : Nat → Nat} {i q x : Nat} (hq : q = sm f i) (hx : f i = x) : q + x = sm f (i + 1) := by rw [sm_s, hq, hx]
theorem sm_skip {f : Nat → Nat} {i q : Nat} (hq : q = sm f i) (hx : f i = 0) : q = sm f (i + 1) := by rw [sm_s, hx]; exact hq
theorem sm_step2 {f : Nat → Nat} {i q q0 x : Nat} (hq : q = q0 + sm f i) (hx : f i = x) : q + x = q0 + sm f (i + 1) := by rw [sm_s, hq, hx]; omega
theorem sm_skip2 {f : Nat → Nat} {i q q0 : Nat} (hq : q = q0 + sm f i) (hx : f i = 0) : q = q0 + sm f (i + 1) := by rw [sm_s, hx]; exact hq
theorem sm_start2 {f : Nat → Nat} {i q : Nat} (h : ∀ k, k < i → f k = 0) : q = q + sm f i := by rw [sm_zero h]; rfl
theorem swp_lt {f : Nat → Nat} {m : Nat} (h : ∀ i, f i < m) (a b j : Nat) : swp f a b j < m := by
  unfold swp va_up; split
  · exact h a
  · split
    · exact h b
    · exact h j
theorem up_lt {f : Nat → Nat} {m x : Nat} (h : ∀ i, f i < m) (hx : x < m) (a j : Nat) : va_up f a x j < m := by
  unfold va_up; split
  · exact hx
  · exact h j
theorem tOk.tk {tk tk' co cn wk : Nat → Nat} {n st : Nat} (hk : tOk tk co cn wk n st) (h : ∀ i, tk' i < 100) : tOk tk' co cn wk n st := ⟨h, hk.2⟩
theorem tOk.co {tk co co' cn wk : Nat → Nat} {n st : Nat} (hk : tOk tk co cn wk n st) (h : ∀ i, co' i < 5) : tOk tk co' cn wk n st := ⟨hk.1, h, hk.2.2⟩
theorem tOk.cn {tk co cn cn' wk : Nat → Nat} {n st : Nat} (hk : tOk tk co cn wk n st) (h : ∀ i, cn' i < 6) : tOk tk co cn' wk n st := ⟨hk.1, hk.2.1, h, hk.2.2.2⟩
theorem tOk.wk {tk co cn wk wk' : Nat → Nat} {n st : Nat} (hk : tOk tk co cn wk n st) (h : ∀ i, wk' i < 6) : tOk tk co cn wk' n st := ⟨hk.1, hk.2.1, hk.2.2.1, h, hk.2.2.2.2⟩
theorem tOk.n {tk co cn wk : Nat → Nat} {n n' st : Nat} (hk : tOk tk co cn wk n st) (h : n' ≤ 12) : tOk tk co cn wk n' st := ⟨hk.1, hk.2.1, hk.2.2.1, hk.2.2.2.1, h, hk.2.2.2.2.2⟩
theorem tOk.st {tk co cn wk : Nat → Nat} {n st st' : Nat} (hk : tOk tk co cn wk n st) (h : st' ≤ 100) : tOk tk co cn wk n st' := ⟨hk.1, hk.2.1, hk.2.2.1, hk.2.2.2.1, hk.2.2.2.2.1, h⟩
theorem tc_set_get {ws : va_W} {q0 : Nat} {x y : Nat × va_E} (h : ws[q0]? = some x) : (ws.set q0 y)[q0]? = some y := by
  rw [List.getElem?_set]
  have hl : q0 < ws.length := (List.getElem?_eq_some_iff.mp h).1
  simp [hl]
/-- what each pair's code says -/
theorem cdP_1 {a b : Int32} {n : Nat} (h : tcIn a n = false) : cdP a b n = 1 := if_neg (by rw [h]; decide)
theorem cdP_2 {a b : Int32} {n : Nat} (h : tcIn b n = false) : cdP a b n = 1 := by
  unfold cdP; split
  · rw [h]; rfl
  · rfl
theorem cdP_3 {a b : Int32} {n : Nat} (ha : tcIn a n = true) (hb : tcIn b n = true) (e : a = b) : cdP a b n = 2 := by unfold cdP; rw [if_pos ha, if_pos hb, if_pos e]
theorem cdP_0 {a b : Int32} {n : Nat} (ha : tcIn a n = true) (hb : tcIn b n = true) (e : ¬ a = b) : cdP a b n = 0 := by unfold cdP; rw [if_pos ha, if_pos hb, if_neg e]
theorem cdP_ok {a b : Int32} {n : Nat} (h : cdP a b n = 0) : tcIn a n = true ∧ tcIn b n = true ∧ ¬ a = b := by
  cases qa : tcIn a n with
  | false => rw [cdP_1 qa] at h; cases h
  | true =>
    cases qb : tcIn b n with
    | false => rw [cdP_2 qb] at h; cases h
    | true =>
      refine ⟨rfl, rfl, fun e => ?_⟩
      rw [cdP_3 qa qb e] at h; cases h
theorem cdK_1 {k x : Int32} {n m : Nat} (h : tcIn k n = false) : cdK k n x m = 1 := if_neg (by rw [h]; decide)
theorem cdK_2 {k x : Int32} {n m : Nat} (h : tcIn k n = true) (h2 : tcIn x m = false) : cdK k n x m = 2 := by unfold cdK; rw [if_pos h, if_neg (by rw [h2]; decide)]
theorem cdK_0 {k x : Int32} {n m : Nat} (h : tcIn k n = true) (h2 : tcIn x m = true) : cdK k n x m = 0 := by unfold cdK; rw [if_pos h, if_pos h2]
/-- a cost against the store -/
def cdC (c st : Nat) : Nat := if c ≤ st then 0 else 3
theorem cdC_y {c st : Nat} (h : c ≤ st) : cdC c st = 0 := if_pos h
theorem cdC_n {c st : Nat} (h : st < c) : cdC c st = 3 := if_neg (by omega)
theorem cdC_0 {c st : Nat} (h : cdC c st = 0) : c ≤ st := by
  rcases Nat.lt_or_ge st c with q | q
  · rw [cdC_n q] at h; cases h
  · exact q
theorem cdC_s {c st i : Nat} (h : cdC c st = i + 1) : st < c ∧ i = 2 := by
  rcases Nat.lt_or_ge st c with q | q
  · rw [cdC_n q] at h; exact ⟨q, by omega⟩
  · rw [cdC_y q] at h; cases h
/-- hours, 1 to 60 -/
def tc60 (x : Int32) : Bool := decide (1 ≤ x.toInt ∧ x.toInt ≤ 60)
def cdH (x : Int32) : Nat := if tc60 x = true then 0 else 1
theorem tc60_lo {x : Int32} (h : x < nI 1) : tc60 x = false := by
  rw [Int32.lt_iff_toInt_lt, nI_toInt (by decide)] at h
  unfold tc60; rw [decide_eq_false_iff_not]; omega
theorem tc60_hi {x : Int32} (h : ¬ x ≤ nI 60) : tc60 x = false := by
  rw [Int32.le_iff_toInt_le, nI_toInt (by decide)] at h
  unfold tc60; rw [decide_eq_false_iff_not]; omega
theorem tc60_y {x : Int32} (h : ¬ x < nI 1) (h2 : x ≤ nI 60) : tc60 x = true := by
  rw [Int32.lt_iff_toInt_lt, nI_toInt (by decide)] at h
  rw [Int32.le_iff_toInt_le, nI_toInt (by decide)] at h2
  unfold tc60; rw [decide_eq_true_iff]; omega
theorem tc60_of {x : Int32} (h : tc60 x = true) : ∃ j : Nat, (1 ≤ j ∧ j ≤ 60) ∧ x = nI j := by
  unfold tc60 at h; rw [decide_eq_true_iff] at h
  obtain ⟨j, h1, h2⟩ := tcIn_of (x := x) (n := 61) (by decide) (by unfold tcIn; rw [decide_eq_true_iff]; omega)
  refine ⟨j, ?_, h2⟩
  rw [h2, nI_toInt (by omega)] at h; omega
theorem cdH_y {x : Int32} (h : tc60 x = true) : cdH x = 0 := if_pos h
theorem cdH_n {x : Int32} (h : tc60 x = false) : cdH x = 1 := if_neg (by rw [h]; decide)
/-- a new one's code -/
def cdA (t c k w : Int32) (n : Nat) : Nat := if tcIn t 100 = true ∧ tcIn c 5 = true ∧ tcIn k 6 = true ∧ tcIn w 6 = true then (if n < 12 then 0 else 2) else 1
theorem cdA_t {t c k w : Int32} {n : Nat} (h : tcIn t 100 = false) : cdA t c k w n = 1 := if_neg (fun z => by rw [h] at z; exact absurd z.1 (by decide))
theorem cdA_c {t c k w : Int32} {n : Nat} (h : tcIn c 5 = false) : cdA t c k w n = 1 := if_neg (fun z => by rw [h] at z; exact absurd z.2.1 (by decide))
theorem cdA_k {t c k w : Int32} {n : Nat} (h : tcIn k 6 = false) : cdA t c k w n = 1 := if_neg (fun z => by rw [h] at z; exact absurd z.2.2.1 (by decide))
theorem cdA_w {t c k w : Int32} {n : Nat} (h : tcIn w 6 = false) : cdA t c k w n = 1 := if_neg (fun z => by rw [h] at z; exact absurd z.2.2.2 (by decide))
theorem cdA_2 {t c k w : Int32} {n : Nat} (h1 : tcIn t 100 = true) (h2 : tcIn c 5 = true) (h3 : tcIn k 6 = true) (h4 : tcIn w 6 = true) (h : 12 ≤ n) : cdA t c k w n = 2 := by unfold cdA; rw [if_pos ⟨h1, h2, h3, h4⟩, if_neg (by omega)]
theorem cdA_0 {t c k w : Int32} {n : Nat} (h1 : tcIn t 100 = true) (h2 : tcIn c 5 = true) (h3 : tcIn k 6 = true) (h4 : tcIn w 6 = true) (h : n < 12) : cdA t c k w n = 0 := by unfold cdA; rw [if_pos ⟨h1, h2, h3, h4⟩, if_pos h]
/-- codes of move, draw, the swaps -/
def cdMv (k c : Int32) (cn : Nat → Nat) (n st : Nat) : Nat := if cdK k n c 6 = 0 then (if cn (ix k) = ix c ∨ st < way (cn (ix k)) (ix c) then 3 else 0) else cdK k n c 6
def cdDr (k t : Int32) (n st : Nat) : Nat := if cdK k n t 100 = 0 then cdC 12 st else cdK k n t 100
def cdSu (a b : Int32) (cn : Nat → Nat) (n st : Nat) : Nat := if cdP a b n = 0 then (if cn (ix a) = cn (ix b) ∧ 3 ≤ st then 0 else 3) else cdP a b n
def cdSt (a b : Int32) (n st : Nat) : Nat := if cdP a b n = 0 then cdC 8 st else cdP a b n
theorem cd_in {x y : Nat} (h : x = 0) : (if x = 0 then y else x) = y := if_pos h
theorem cd_out {x y i : Nat} (h : x = i + 1) : (if x = 0 then y else x) = i + 1 := by rw [if_neg (by omega)]; exact h
end
section
theorem lwg_0 {tk co cn : Nat → Nat} {k t c i : Nat} (h : i = k) : lwg tk co cn k t c i = 0 := if_neg (fun q => q.1 h)
theorem lwg_2 {tk co cn : Nat → Nat} {k t c i : Nat} (h : ¬ cn i = c) : lwg tk co cn k t c i = 0 := if_neg (fun q => h q.2)
theorem lwg_1 {tk co cn : Nat → Nat} {k t c i : Nat} (h1 : ¬ i = k) (h : cn i = c) : lwg tk co cn k t c i = ptk t (tk i) + pco (co k) (co i) := if_pos ⟨h1, h⟩
end
section
/-! the class: leaves -/
set_option maxHeartbeats 4000000 in
set_option maxRecDepth 100000 in
theorem kX0_isTicket {l : Launch} (hlf : l.stackTraces = false) {D : va_G} {cI cJ : ClassId} {N0 : Nat} {ws : va_W} (x : Int32)  : tcM l yX0_isTicket wsX0_isTicket { frames := 0, cells := 0, slots := 0, locals := 0 } [] 0 [.int (x)] D cI cJ N0 (ws) (some (.int (nI (b2n (tcIn x 100))))) (ws) 0 0 := by
  refine tcM.of (cc := cX0_isTicket) (maxL := 1) (ret := (some .boolean)) (by decide) rfl (Nat.le_of_ble_eq_true rfl) ?_
  intro p e s m args below meth c C0 hr hlk ht hmn hG ls hl
  have hl : lv_has ls 1 [(0, .int (x))] := hl
  have hG0 := hG
  have hS : va_S (tcA N0) s.heap s.heap [] := va_S.rf
  refine lv_iload_n C0.1 C0.2.1 dX0_isTicket_0 rfl (lv_at hl 0 rfl) ?_
  refine lv_if_lt (tgt := 14) C0.1 C0.2.1 dX0_isTicket_1 (by decide) (fun c_1 => ?_) (fun c_1 => ?_)
  · refine lv_iconst (v := nI 0) C0.1 C0.2.1 dX0_isTicket_14 (by decide) ?_
    exact tc_zret C0 hr hlk hG hS rfl (by first | (rw [tcIn_yes (by decide) c_1 c_7]; rfl) | (rw [tcIn_hi (by decide) c_7]; rfl) | (rw [tcIn_lo c_1]; rfl)) (Nat.le_of_ble_eq_true rfl) (Nat.le_of_ble_eq_true rfl) dX0_isTicket_15
  · refine lv_iload_n C0.1 C0.2.1 dX0_isTicket_4 rfl (lv_at hl 0 rfl) ?_
    refine lv_bipush (v := nI 100) C0.1 C0.2.1 dX0_isTicket_5 (by decide) ?_
    refine lv_icmp_ge (tgt := 14) C0.1 C0.2.1 dX0_isTicket_7 (by decide) (fun c_7 => ?_) (fun c_7 => ?_)
    · refine lv_iconst (v := nI 0) C0.1 C0.2.1 dX0_isTicket_14 (by decide) ?_
      exact tc_zret C0 hr hlk hG hS rfl (by first | (rw [tcIn_yes (by decide) c_1 c_7]; rfl) | (rw [tcIn_hi (by decide) c_7]; rfl) | (rw [tcIn_lo c_1]; rfl)) (Nat.le_of_ble_eq_true rfl) (Nat.le_of_ble_eq_true rfl) dX0_isTicket_15
    · refine lv_iconst (v := nI 1) C0.1 C0.2.1 dX0_isTicket_10 (by decide) ?_
      refine lv_goto (tgt := 15) C0.1 C0.2.1 dX0_isTicket_11 (by decide) ?_
      exact tc_zret C0 hr hlk hG hS rfl (by first | (rw [tcIn_yes (by decide) c_1 c_7]; rfl) | (rw [tcIn_hi (by decide) c_7]; rfl) | (rw [tcIn_lo c_1]; rfl)) (Nat.le_of_ble_eq_true rfl) (Nat.le_of_ble_eq_true rfl) dX0_isTicket_15
set_option maxHeartbeats 4000000 in
set_option maxRecDepth 100000 in
theorem kX0_isColour {l : Launch} (hlf : l.stackTraces = false) {D : va_G} {cI cJ : ClassId} {N0 : Nat} {ws : va_W} (x : Int32)  : tcM l yX0_isColour wsX0_isColour { frames := 0, cells := 0, slots := 0, locals := 0 } [] 0 [.int (x)] D cI cJ N0 (ws) (some (.int (nI (b2n (tcIn x 5))))) (ws) 0 0 := by
  refine tcM.of (cc := cX0_isColour) (maxL := 1) (ret := (some .boolean)) (by decide) rfl (Nat.le_of_ble_eq_true rfl) ?_
  intro p e s m args below meth c C0 hr hlk ht hmn hG ls hl
  have hl : lv_has ls 1 [(0, .int (x))] := hl
  have hG0 := hG
  have hS : va_S (tcA N0) s.heap s.heap [] := va_S.rf
  refine lv_iload_n C0.1 C0.2.1 dX0_isColour_0 rfl (lv_at hl 0 rfl) ?_
  refine lv_if_lt (tgt := 13) C0.1 C0.2.1 dX0_isColour_1 (by decide) (fun c_1 => ?_) (fun c_1 => ?_)
  · refine lv_iconst (v := nI 0) C0.1 C0.2.1 dX0_isColour_13 (by decide) ?_
    exact tc_zret C0 hr hlk hG hS rfl (by first | (rw [tcIn_yes (by decide) c_1 c_6]; rfl) | (rw [tcIn_hi (by decide) c_6]; rfl) | (rw [tcIn_lo c_1]; rfl)) (Nat.le_of_ble_eq_true rfl) (Nat.le_of_ble_eq_true rfl) dX0_isColour_14
  · refine lv_iload_n C0.1 C0.2.1 dX0_isColour_4 rfl (lv_at hl 0 rfl) ?_
    refine lv_iconst (v := nI 5) C0.1 C0.2.1 dX0_isColour_5 (by decide) ?_
    refine lv_icmp_ge (tgt := 13) C0.1 C0.2.1 dX0_isColour_6 (by decide) (fun c_6 => ?_) (fun c_6 => ?_)
    · refine lv_iconst (v := nI 0) C0.1 C0.2.1 dX0_isColour_13 (by decide) ?_
      exact tc_zret C0 hr hlk hG hS rfl (by first | (rw [tcIn_yes (by decide) c_1 c_6]; rfl) | (rw [tcIn_hi (by decide) c_6]; rfl) | (rw [tcIn_lo c_1]; rfl)) (Nat.le_of_ble_eq_true rfl) (Nat.le_of_ble_eq_true rfl) dX0_isColour_14
    · refine lv_iconst (v := nI 1) C0.1 C0.2.1 dX0_isColour_9 (by decide) ?_
      refine lv_goto (tgt := 14) C0.1 C0.2.1 dX0_isColour_10 (by decide) ?_
      exact tc_zret C0 hr hlk hG hS rfl (by first | (rw [tcIn_yes (by decide) c_1 c_6]; rfl) | (rw [tcIn_hi (by decide) c_6]; rfl) | (rw [tcIn_lo c_1]; rfl)) (Nat.le_of_ble_eq_true rfl) (Nat.le_of_ble_eq_true rfl) dX0_isColour_14
set_option maxHeartbeats 4000000 in
set_option maxRecDepth 100000 in
theorem kX0_isCorner {l : Launch} (hlf : l.stackTraces = false) {D : va_G} {cI cJ : ClassId} {N0 : Nat} {ws : va_W} (x : Int32)  : tcM l yX0_isCorner wsX0_isCorner { frames := 0, cells := 0, slots := 0, locals := 0 } [] 0 [.int (x)] D cI cJ N0 (ws) (some (.int (nI (b2n (tcIn x 6))))) (ws) 0 0 := by
  refine tcM.of (cc := cX0_isCorner) (maxL := 1) (ret := (some .boolean)) (by decide) rfl (Nat.le_of_ble_eq_true rfl) ?_
  intro p e s m args below meth c C0 hr hlk ht hmn hG ls hl
  have hl : lv_has ls 1 [(0, .int (x))] := hl
  have hG0 := hG
  have hS : va_S (tcA N0) s.heap s.heap [] := va_S.rf
  refine lv_iload_n C0.1 C0.2.1 dX0_isCorner_0 rfl (lv_at hl 0 rfl) ?_
  refine lv_if_lt (tgt := 14) C0.1 C0.2.1 dX0_isCorner_1 (by decide) (fun c_1 => ?_) (fun c_1 => ?_)
  · refine lv_iconst (v := nI 0) C0.1 C0.2.1 dX0_isCorner_14 (by decide) ?_
    exact tc_zret C0 hr hlk hG hS rfl (by first | (rw [tcIn_yes (by decide) c_1 c_7]; rfl) | (rw [tcIn_hi (by decide) c_7]; rfl) | (rw [tcIn_lo c_1]; rfl)) (Nat.le_of_ble_eq_true rfl) (Nat.le_of_ble_eq_true rfl) dX0_isCorner_15
  · refine lv_iload_n C0.1 C0.2.1 dX0_isCorner_4 rfl (lv_at hl 0 rfl) ?_
    refine lv_bipush (v := nI 6) C0.1 C0.2.1 dX0_isCorner_5 (by decide) ?_
    refine lv_icmp_ge (tgt := 14) C0.1 C0.2.1 dX0_isCorner_7 (by decide) (fun c_7 => ?_) (fun c_7 => ?_)
    · refine lv_iconst (v := nI 0) C0.1 C0.2.1 dX0_isCorner_14 (by decide) ?_
      exact tc_zret C0 hr hlk hG hS rfl (by first | (rw [tcIn_yes (by decide) c_1 c_7]; rfl) | (rw [tcIn_hi (by decide) c_7]; rfl) | (rw [tcIn_lo c_1]; rfl)) (Nat.le_of_ble_eq_true rfl) (Nat.le_of_ble_eq_true rfl) dX0_isCorner_15
    · refine lv_iconst (v := nI 1) C0.1 C0.2.1 dX0_isCorner_10 (by decide) ?_
      refine lv_goto (tgt := 15) C0.1 C0.2.1 dX0_isCorner_11 (by decide) ?_
      exact tc_zret C0 hr hlk hG hS rfl (by first | (rw [tcIn_yes (by decide) c_1 c_7]; rfl) | (rw [tcIn_hi (by decide) c_7]; rfl) | (rw [tcIn_lo c_1]; rfl)) (Nat.le_of_ble_eq_true rfl) (Nat.le_of_ble_eq_true rfl) dX0_isCorner_15
set_option maxHeartbeats 4000000 in
set_option maxRecDepth 100000 in
theorem kX0_isWalk {l : Launch} (hlf : l.stackTraces = false) {D : va_G} {cI cJ : ClassId} {N0 : Nat} {ws : va_W} (x : Int32)  : tcM l yX0_isWalk wsX0_isWalk { frames := 0, cells := 0, slots := 0, locals := 0 } [] 0 [.int (x)] D cI cJ N0 (ws) (some (.int (nI (b2n (tcIn x 6))))) (ws) 0 0 := by
  refine tcM.of (cc := cX0_isWalk) (maxL := 1) (ret := (some .boolean)) (by decide) rfl (Nat.le_of_ble_eq_true rfl) ?_
  intro p e s m args below meth c C0 hr hlk ht hmn hG ls hl
  have hl : lv_has ls 1 [(0, .int (x))] := hl
  have hG0 := hG
  have hS : va_S (tcA N0) s.heap s.heap [] := va_S.rf
  refine lv_iload_n C0.1 C0.2.1 dX0_isWalk_0 rfl (lv_at hl 0 rfl) ?_
  refine lv_if_lt (tgt := 13) C0.1 C0.2.1 dX0_isWalk_1 (by decide) (fun c_1 => ?_) (fun c_1 => ?_)
  · refine lv_iconst (v := nI 0) C0.1 C0.2.1 dX0_isWalk_13 (by decide) ?_
    exact tc_zret C0 hr hlk hG hS rfl (by first | (rw [show tcIn x 6 = true from tcIn_yes' (by decide) c_1 c_6]; rfl) | (rw [show tcIn x 6 = false from tcIn_hi' (by decide) c_6]; rfl) | (rw [tcIn_lo c_1]; rfl)) (Nat.le_of_ble_eq_true rfl) (Nat.le_of_ble_eq_true rfl) dX0_isWalk_14
  · refine lv_iload_n C0.1 C0.2.1 dX0_isWalk_4 rfl (lv_at hl 0 rfl) ?_
    refine lv_iconst (v := nI 5) C0.1 C0.2.1 dX0_isWalk_5 (by decide) ?_
    refine lv_icmp_gt (tgt := 13) C0.1 C0.2.1 dX0_isWalk_6 (by decide) (fun c_6 => ?_) (fun c_6 => ?_)
    · refine lv_iconst (v := nI 0) C0.1 C0.2.1 dX0_isWalk_13 (by decide) ?_
      exact tc_zret C0 hr hlk hG hS rfl (by first | (rw [show tcIn x 6 = true from tcIn_yes' (by decide) c_1 c_6]; rfl) | (rw [show tcIn x 6 = false from tcIn_hi' (by decide) c_6]; rfl) | (rw [tcIn_lo c_1]; rfl)) (Nat.le_of_ble_eq_true rfl) (Nat.le_of_ble_eq_true rfl) dX0_isWalk_14
    · refine lv_iconst (v := nI 1) C0.1 C0.2.1 dX0_isWalk_9 (by decide) ?_
      refine lv_goto (tgt := 14) C0.1 C0.2.1 dX0_isWalk_10 (by decide) ?_
      exact tc_zret C0 hr hlk hG hS rfl (by first | (rw [show tcIn x 6 = true from tcIn_yes' (by decide) c_1 c_6]; rfl) | (rw [show tcIn x 6 = false from tcIn_hi' (by decide) c_6]; rfl) | (rw [tcIn_lo c_1]; rfl)) (Nat.le_of_ble_eq_true rfl) (Nat.le_of_ble_eq_true rfl) dX0_isWalk_14
set_option maxHeartbeats 4000000 in
set_option maxRecDepth 100000 in
theorem kX0_figureSum {l : Launch} (hlf : l.stackTraces = false) {D : va_G} {cI cJ : ClassId} {N0 : Nat} {ws : va_W} (t : Nat) (h1 : t < 100) : tcM l yX0_figureSum wsX0_figureSum { frames := 0, cells := 0, slots := 0, locals := 0 } [] 0 [.int (nI (t))] D cI cJ N0 (ws) (some (.int (nI (t / 10 + t % 10)))) (ws) 0 0 := by
  refine tcM.of (cc := cX0_figureSum) (maxL := 1) (ret := (some .int)) (by decide) rfl (Nat.le_of_ble_eq_true rfl) ?_
  intro p e s m args below meth c C0 hr hlk ht hmn hG ls hl
  have hl : lv_has ls 1 [(0, .int (nI (t)))] := hl
  have hG0 := hG
  have hS : va_S (tcA N0) s.heap s.heap [] := va_S.rf
  refine lv_iload_n C0.1 C0.2.1 dX0_figureSum_0 rfl (lv_at hl 0 rfl) ?_
  refine lv_bipush (v := nI 10) C0.1 C0.2.1 dX0_figureSum_1 (by decide) ?_
  refine tn_idiv C0.1 C0.2.1 dX0_figureSum_3 (by omega) (by decide) (by decide) ?_
  refine lv_iload_n C0.1 C0.2.1 dX0_figureSum_4 rfl (lv_at hl 0 rfl) ?_
  refine lv_bipush (v := nI 10) C0.1 C0.2.1 dX0_figureSum_5 (by decide) ?_
  refine tn_irem C0.1 C0.2.1 dX0_figureSum_7 (by omega) (by decide) (by decide) ?_
  refine tn_iadd C0.1 C0.2.1 dX0_figureSum_8 ?_
  exact tc_iret C0 hr hlk hG hS rfl rfl (Nat.le_of_ble_eq_true rfl) (Nat.le_of_ble_eq_true rfl) dX0_figureSum_9
set_option maxHeartbeats 4000000 in
set_option maxRecDepth 100000 in
theorem kX0_mirrored {l : Launch} (hlf : l.stackTraces = false) {D : va_G} {cI cJ : ClassId} {N0 : Nat} {ws : va_W} (t : Nat) (u : Nat) (h1 : t < 100) (h2 : u < 100) : tcM l yX0_mirrored wsX0_mirrored { frames := 0, cells := 0, slots := 0, locals := 0 } [] 0 [.int (nI (t)), .int (nI (u))] D cI cJ N0 (ws) (some (.int (nI (b2n (mir t u))))) (ws) 0 0 := by
  refine tcM.of (cc := cX0_mirrored) (maxL := 2) (ret := (some .boolean)) (by decide) rfl (Nat.le_of_ble_eq_true rfl) ?_
  intro p e s m args below meth c C0 hr hlk ht hmn hG ls hl
  have hl : lv_has ls 2 [(0, .int (nI (t))), (1, .int (nI (u)))] := hl
  have hG0 := hG
  have hS : va_S (tcA N0) s.heap s.heap [] := va_S.rf
  refine lv_iload_n C0.1 C0.2.1 dX0_mirrored_0 rfl (lv_at hl 0 rfl) ?_
  refine lv_bipush (v := nI 10) C0.1 C0.2.1 dX0_mirrored_1 (by decide) ?_
  refine tn_idiv C0.1 C0.2.1 dX0_mirrored_3 (by omega) (by decide) (by decide) ?_
  refine lv_iload_n C0.1 C0.2.1 dX0_mirrored_4 rfl (lv_at hl 1 rfl) ?_
  refine lv_bipush (v := nI 10) C0.1 C0.2.1 dX0_mirrored_5 (by decide) ?_
  refine tn_irem C0.1 C0.2.1 dX0_mirrored_7 (by omega) (by decide) (by decide) ?_
  refine tn_icmp_ne (tgt := 26) C0.1 C0.2.1 dX0_mirrored_8 (by decide) (by omega) (by omega) (fun c_8 => ?_) (fun c_8 => ?_)
  · refine lv_iconst (v := nI 0) C0.1 C0.2.1 dX0_mirrored_26 (by decide) ?_
    exact tc_zret C0 hr hlk hG hS rfl (by first | (rw [show mir t u = true from decide_eq_true ⟨c_8, c_19⟩]; rfl) | (rw [show mir t u = false from decide_eq_false (fun z => c_8 z.1)]; rfl) | (rw [show mir t u = false from decide_eq_false (fun z => c_19 z.2)]; rfl)) (Nat.le_of_ble_eq_true rfl) (Nat.le_of_ble_eq_true rfl) dX0_mirrored_27
  · refine lv_iload_n C0.1 C0.2.1 dX0_mirrored_11 rfl (lv_at hl 0 rfl) ?_
    refine lv_bipush (v := nI 10) C0.1 C0.2.1 dX0_mirrored_12 (by decide) ?_
    refine tn_irem C0.1 C0.2.1 dX0_mirrored_14 (by omega) (by decide) (by decide) ?_
    refine lv_iload_n C0.1 C0.2.1 dX0_mirrored_15 rfl (lv_at hl 1 rfl) ?_
    refine lv_bipush (v := nI 10) C0.1 C0.2.1 dX0_mirrored_16 (by decide) ?_
    refine tn_idiv C0.1 C0.2.1 dX0_mirrored_18 (by omega) (by decide) (by decide) ?_
    refine tn_icmp_ne (tgt := 26) C0.1 C0.2.1 dX0_mirrored_19 (by decide) (by omega) (by omega) (fun c_19 => ?_) (fun c_19 => ?_)
    · refine lv_iconst (v := nI 0) C0.1 C0.2.1 dX0_mirrored_26 (by decide) ?_
      exact tc_zret C0 hr hlk hG hS rfl (by first | (rw [show mir t u = true from decide_eq_true ⟨c_8, c_19⟩]; rfl) | (rw [show mir t u = false from decide_eq_false (fun z => c_8 z.1)]; rfl) | (rw [show mir t u = false from decide_eq_false (fun z => c_19 z.2)]; rfl)) (Nat.le_of_ble_eq_true rfl) (Nat.le_of_ble_eq_true rfl) dX0_mirrored_27
    · refine lv_iconst (v := nI 1) C0.1 C0.2.1 dX0_mirrored_22 (by decide) ?_
      refine lv_goto (tgt := 27) C0.1 C0.2.1 dX0_mirrored_23 (by decide) ?_
      exact tc_zret C0 hr hlk hG hS rfl (by first | (rw [show mir t u = true from decide_eq_true ⟨c_8, c_19⟩]; rfl) | (rw [show mir t u = false from decide_eq_false (fun z => c_8 z.1)]; rfl) | (rw [show mir t u = false from decide_eq_false (fun z => c_19 z.2)]; rfl)) (Nat.le_of_ble_eq_true rfl) (Nat.le_of_ble_eq_true rfl) dX0_mirrored_27
set_option maxHeartbeats 4000000 in
set_option maxRecDepth 100000 in
theorem kX0_pointsOfColours {l : Launch} (hlf : l.stackTraces = false) {D : va_G} {cI cJ : ClassId} {N0 : Nat} {ws : va_W} (x : Nat) (y : Nat) (h1 : x < 5) (h2 : y < 5) : tcM l yX0_pointsOfColours wsX0_pointsOfColours { frames := 0, cells := 0, slots := 0, locals := 0 } [] 0 [.int (nI (x)), .int (nI (y))] D cI cJ N0 (ws) (some (.int (nI (pco x y)))) (ws) 0 0 := by
  refine tcM.of (cc := cX0_pointsOfColours) (maxL := 2) (ret := (some .int)) (by decide) rfl (Nat.le_of_ble_eq_true rfl) ?_
  intro p e s m args below meth c C0 hr hlk ht hmn hG ls hl
  have hl : lv_has ls 2 [(0, .int (nI (x))), (1, .int (nI (y)))] := hl
  have hG0 := hG
  have hS : va_S (tcA N0) s.heap s.heap [] := va_S.rf
  refine lv_iload_n C0.1 C0.2.1 dX0_pointsOfColours_0 rfl (lv_at hl 0 rfl) ?_
  refine lv_iload_n C0.1 C0.2.1 dX0_pointsOfColours_1 rfl (lv_at hl 1 rfl) ?_
  refine tn_icmp_ne (tgt := 9) C0.1 C0.2.1 dX0_pointsOfColours_2 (by decide) (by omega) (by omega) (fun c_2 => ?_) (fun c_2 => ?_)
  · refine lv_iconst (v := nI 0) C0.1 C0.2.1 dX0_pointsOfColours_9 (by decide) ?_
    exact tc_iret C0 hr hlk hG hS rfl (by unfold pco; first | rw [if_neg c_2] | rw [if_pos c_2]) (Nat.le_of_ble_eq_true rfl) (Nat.le_of_ble_eq_true rfl) dX0_pointsOfColours_10
  · refine lv_iconst (v := nI 2) C0.1 C0.2.1 dX0_pointsOfColours_5 (by decide) ?_
    refine lv_goto (tgt := 10) C0.1 C0.2.1 dX0_pointsOfColours_6 (by decide) ?_
    exact tc_iret C0 hr hlk hG hS rfl (by unfold pco; first | rw [if_neg c_2] | rw [if_pos c_2]) (Nat.le_of_ble_eq_true rfl) (Nat.le_of_ble_eq_true rfl) dX0_pointsOfColours_10
set_option maxHeartbeats 4000000 in
set_option maxRecDepth 100000 in
theorem kX0_pointsOfTickets {l : Launch} (hlf : l.stackTraces = false) {D : va_G} {cI cJ : ClassId} {N0 : Nat} {ws : va_W} (t : Nat) (u : Nat) (h1 : t < 100) (h2 : u < 100) : tcM l yX0_pointsOfTickets wsX0_pointsOfTickets { frames := 1, cells := 0, slots := 0, locals := 21 } [] 0 [.int (nI (t)), .int (nI (u))] D cI cJ N0 (ws) (some (.int (nI (ptk t u)))) (ws) 0 0 := by
  refine tcM.of (cc := cX0_pointsOfTickets) (maxL := 3) (ret := (some .int)) (by decide) rfl (Nat.le_of_ble_eq_true rfl) ?_
  intro p e s m args below meth c C0 hr hlk ht hmn hG ls hl
  have hl : lv_has ls 3 [(0, .int (nI (t))), (1, .int (nI (u)))] := hl
  have hG0 := hG
  have hS : va_S (tcA N0) s.heap s.heap [] := va_S.rf
  refine lv_iconst (v := nI 0) C0.1 C0.2.1 dX0_pointsOfTickets_0 (by decide) ?_
  refine lv_istore_n (lv' := [(2, .int (nI (0))), (0, .int (nI (t))), (1, .int (nI (u)))]) C0.1 C0.2.1 dX0_pointsOfTickets_1 rfl hl (by decide) rfl (fun ls hl => ?_)
  refine tc_nameQ (fun zQg zhQ => ?_)
  have cut_16 : ∀ (q1 : Nat) (hq1 : q1 = if t % 10 = u % 10 then 1 else 0), ∀ (ls : Array Slot), lv_has ls 3 [(2, .int (nI (q1))), (0, .int (nI (t))), (1, .int (nI (u)))] → ∀ (H : Heap) (locs : List Loc), tcG D cI cJ N0 (ws) s H → va_S (tcA N0) s.heap H locs → W p l e ({ frames := 1, cells := 0, slots := 0, locals := 21 } : Room) s m args below meth c H locs (0) (0) zQg (F0 m 16 ls []) := by
    intro q1 hq1 ls hl H locs hG hS
    have cut_30 : ∀ (q2 : Nat) (hq2 : q2 = q1 + if t / 10 + t % 10 = u / 10 + u % 10 then 2 else 0), ∀ (ls : Array Slot), lv_has ls 3 [(2, .int (nI (q2))), (0, .int (nI (t))), (1, .int (nI (u)))] → ∀ (H : Heap) (locs : List Loc), tcG D cI cJ N0 (ws) s H → va_S (tcA N0) s.heap H locs → W p l e ({ frames := 1, cells := 0, slots := 0, locals := 21 } : Room) s m args below meth c H locs (0) (0) zQg (F0 m 30 ls []) := by
      intro q2 hq2 ls hl H locs hG hS
      have cut_43 : ∀ (q3 : Nat) (hq3 : q3 = q2 + if adist t u = 1 then 3 else 0), ∀ (ls : Array Slot), lv_has ls 3 [(2, .int (nI (q3))), (0, .int (nI (t))), (1, .int (nI (u)))] → ∀ (H : Heap) (locs : List Loc), tcG D cI cJ N0 (ws) s H → va_S (tcA N0) s.heap H locs → W p l e ({ frames := 1, cells := 0, slots := 0, locals := 21 } : Room) s m args below meth c H locs (0) (0) zQg (F0 m 43 ls []) := by
        intro q3 hq3 ls hl H locs hG hS
        refine lv_iload_n C0.1 C0.2.1 dX0_pointsOfTickets_43 rfl (lv_at hl 1 rfl) ?_
        refine lv_iload_n C0.1 C0.2.1 dX0_pointsOfTickets_44 rfl (lv_at hl 2 rfl) ?_
        refine tc_callS C0 hG hS (kX0_mirrored hlf  (t) (u) (by omega) (by omega)) (va_cwS 2 C0.2.2.2.2 gX0_pointsOfTickets_X0_mirrored rfl rfl rfl (by decide +kernel) ⟨(Nat.le_of_ble_eq_true rfl), (Nat.le_of_ble_eq_true rfl)⟩) rfl hl rfl (Nat.le_of_ble_eq_true rfl) dX0_pointsOfTickets_45 ⟨(Nat.le_of_ble_eq_true rfl), (Nat.le_of_ble_eq_true rfl)⟩ (fun H locs hG hS => ?_)
        refine tb_if_eq (tgt := 54) C0.1 C0.2.1 dX0_pointsOfTickets_48 (by decide) (fun c_48 => ?_) (fun c_48 => ?_)
        · refine lv_iload_n C0.1 C0.2.1 dX0_pointsOfTickets_54 rfl (lv_at hl 0 rfl) ?_
          subst zhQ
          exact tc_iret C0 hr hlk hG hS rfl (by congr 1; unfold ptk; rw [hq3, hq2, hq1]; first | (rw [if_neg (by rw [c_48]; decide)]; rfl) | (rw [if_pos c_48]; rfl) | rw [if_pos c_48] | simp [c_48]) (Nat.le_of_ble_eq_true rfl) (Nat.le_of_ble_eq_true rfl) dX0_pointsOfTickets_55
        · refine lv_iinc (v := nI (q3 + 5)) (lv' := [(2, .int (nI (q3 + 5))), (0, .int (nI (t))), (1, .int (nI (u)))]) C0.1 C0.2.1 dX0_pointsOfTickets_51 hl (k := 0) rfl (nI_add (q3) 5) (by decide) rfl (fun ls hl => ?_)
          refine lv_iload_n C0.1 C0.2.1 dX0_pointsOfTickets_54 rfl (lv_at hl 0 rfl) ?_
          subst zhQ
          exact tc_iret C0 hr hlk hG hS rfl (by congr 1; unfold ptk; rw [hq3, hq2, hq1]; first | (rw [if_neg (by rw [c_48]; decide)]; rfl) | (rw [if_pos c_48]; rfl) | rw [if_pos c_48] | simp [c_48]) (Nat.le_of_ble_eq_true rfl) (Nat.le_of_ble_eq_true rfl) dX0_pointsOfTickets_55
      refine lv_iload_n C0.1 C0.2.1 dX0_pointsOfTickets_30 rfl (lv_at hl 1 rfl) ?_
      refine lv_iload_n C0.1 C0.2.1 dX0_pointsOfTickets_31 rfl (lv_at hl 2 rfl) ?_
      refine lv_isub C0.1 C0.2.1 dX0_pointsOfTickets_32 ?_
      refine va_mabs C0.1 C0.2.1 (C0.2.2.1.trans hl.1.symm) C0.2.2.2.1 (C0.2.2.2.2 (.methodLink RX0 166 Lib.Math.abs.name) (by decide +kernel)) (C0.2.2.2.2 (.static Lib.Math.abs.name) (by decide +kernel)) (C0.2.2.2.2 (.initialized "java/lang/Math") (by decide +kernel)) (C0.2.2.2.2 (.code Lib.Math.abs.name Lib.Math.abs.code 1 (some .int)) (by decide +kernel)) (Nat.le_of_ble_eq_true rfl) (Nat.le_of_ble_eq_true rfl) (Nat.le_of_ble_eq_true rfl) (Nat.le_of_ble_eq_true rfl) dX0_pointsOfTickets_33 ?_
      refine tc_top (tc_abs (a := t) (b := u) (by omega) (by omega)) ?_
      refine lv_iconst (v := nI 1) C0.1 C0.2.1 dX0_pointsOfTickets_36 (by decide) ?_
      have b_ad := adist_le (a := t) (b := u) (k := 100) (by omega) (by omega)
      refine tn_icmp_ne (tgt := 43) C0.1 C0.2.1 dX0_pointsOfTickets_37 (by decide) (by omega) (by omega) (fun c_37 => ?_) (fun c_37 => ?_)
      · exact cut_43 (q2) (by first | (rw [if_neg c_37]; done) | (rw [if_pos c_37]; done) | (rw [if_neg c_37]; rfl) | (rw [if_pos c_37]; rfl)) ls (lv_sub hl [0, 1, 2] rfl) _ _ hG hS
      · refine lv_iinc (v := nI (q2 + 3)) (lv' := [(2, .int (nI (q2 + 3))), (0, .int (nI (t))), (1, .int (nI (u)))]) C0.1 C0.2.1 dX0_pointsOfTickets_40 hl (k := 0) rfl (nI_add (q2) 3) (by decide) rfl (fun ls hl => ?_)
        exact cut_43 (q2 + 3) (by first | (rw [if_neg c_37]; done) | (rw [if_pos c_37]; done) | (rw [if_neg c_37]; rfl) | (rw [if_pos c_37]; rfl)) ls (lv_sub hl [0, 1, 2] rfl) _ _ hG hS
    refine lv_iload_n C0.1 C0.2.1 dX0_pointsOfTickets_16 rfl (lv_at hl 1 rfl) ?_
    refine tc_callS C0 hG hS (kX0_figureSum hlf  (t) (by omega)) (va_cwS 1 C0.2.2.2.2 gX0_pointsOfTickets_X0_figureSum rfl rfl rfl (by decide +kernel) ⟨(Nat.le_of_ble_eq_true rfl), (Nat.le_of_ble_eq_true rfl)⟩) rfl hl rfl (Nat.le_of_ble_eq_true rfl) dX0_pointsOfTickets_17 ⟨(Nat.le_of_ble_eq_true rfl), (Nat.le_of_ble_eq_true rfl)⟩ (fun H locs hG hS => ?_)
    refine lv_iload_n C0.1 C0.2.1 dX0_pointsOfTickets_20 rfl (lv_at hl 2 rfl) ?_
    refine tc_callS C0 hG hS (kX0_figureSum hlf  (u) (by omega)) (va_cwS 1 C0.2.2.2.2 gX0_pointsOfTickets_X0_figureSum rfl rfl rfl (by decide +kernel) ⟨(Nat.le_of_ble_eq_true rfl), (Nat.le_of_ble_eq_true rfl)⟩) rfl hl rfl (Nat.le_of_ble_eq_true rfl) dX0_pointsOfTickets_21 ⟨(Nat.le_of_ble_eq_true rfl), (Nat.le_of_ble_eq_true rfl)⟩ (fun H locs hG hS => ?_)
    refine tn_icmp_ne (tgt := 30) C0.1 C0.2.1 dX0_pointsOfTickets_24 (by decide) (by omega) (by omega) (fun c_24 => ?_) (fun c_24 => ?_)
    · exact cut_30 (q1) (by first | rw [if_neg c_24]; done | rw [if_pos c_24]; done | (rw [if_neg c_24]; rfl) | (rw [if_pos c_24]; rfl)) ls (lv_sub hl [0, 1, 2] rfl) _ _ hG hS
    · refine lv_iinc (v := nI (q1 + 2)) (lv' := [(2, .int (nI (q1 + 2))), (0, .int (nI (t))), (1, .int (nI (u)))]) C0.1 C0.2.1 dX0_pointsOfTickets_27 hl (k := 0) rfl (nI_add (q1) 2) (by decide) rfl (fun ls hl => ?_)
      exact cut_30 (q1 + 2) (by first | rw [if_neg c_24]; done | rw [if_pos c_24]; done | (rw [if_neg c_24]; rfl) | (rw [if_pos c_24]; rfl)) ls (lv_sub hl [0, 1, 2] rfl) _ _ hG hS
  refine lv_iload_n C0.1 C0.2.1 dX0_pointsOfTickets_2 rfl (lv_at hl 1 rfl) ?_
  refine lv_bipush (v := nI 10) C0.1 C0.2.1 dX0_pointsOfTickets_3 (by decide) ?_
  refine tn_irem C0.1 C0.2.1 dX0_pointsOfTickets_5 (by omega) (by decide) (by decide) ?_
  refine lv_iload_n C0.1 C0.2.1 dX0_pointsOfTickets_6 rfl (lv_at hl 2 rfl) ?_
  refine lv_bipush (v := nI 10) C0.1 C0.2.1 dX0_pointsOfTickets_7 (by decide) ?_
  refine tn_irem C0.1 C0.2.1 dX0_pointsOfTickets_9 (by omega) (by decide) (by decide) ?_
  refine tn_icmp_ne (tgt := 16) C0.1 C0.2.1 dX0_pointsOfTickets_10 (by decide) (by omega) (by omega) (fun c_10 => ?_) (fun c_10 => ?_)
  · exact cut_16 (0) (by first | rw [if_neg c_10] | rw [if_pos c_10]) ls (lv_sub hl [0, 1, 2] rfl) _ _ hG hS
  · refine tn_iinc (lv' := [(2, .int (nI (0 + 1))), (0, .int (nI (t))), (1, .int (nI (u)))]) C0.1 C0.2.1 dX0_pointsOfTickets_13 hl (k := 0) rfl (by decide) rfl (fun ls hl => ?_)
    exact cut_16 (0 + 1) (by first | rw [if_neg c_10] | rw [if_pos c_10]) ls (lv_sub hl [0, 1, 2] rfl) _ _ hG hS
set_option maxHeartbeats 4000000 in
set_option maxRecDepth 100000 in
theorem kX0_pointsOfPair {l : Launch} (hlf : l.stackTraces = false) {D : va_G} {cI cJ : ClassId} {N0 : Nat} {h r1 r2 r3 r4 : Nat} {tk co cn wk : Nat → Nat} {n st : Nat} {ho ct sp : Int32} {Z : va_W} (hk : tOk tk co cn wk n st) (x : Nat) (y : Nat) (h1 : x < 12) (h2 : y < 12) : tcM l yX0_pointsOfPair wsX0_pointsOfPair { frames := 2, cells := 0, slots := 0, locals := 43 } [] 0 [.ref h, .int (nI (x)), .int (nI (y))] D cI cJ N0 (wT h r1 r2 r3 r4 cI tk co cn wk n ho st ct sp Z) (some (.int (nI (pts tk co x y)))) (wT h r1 r2 r3 r4 cI tk co cn wk n ho st ct sp Z) 0 0 := by
  refine tcM.of (cc := cX0_pointsOfPair) (maxL := 3) (ret := (some .int)) (by decide) rfl (Nat.le_of_ble_eq_true rfl) ?_
  intro p e s m args below meth c C0 hr hlk ht hmn hG ls hl
  have hl : lv_has ls 3 [(0, .ref h), (1, .int (nI (x))), (2, .int (nI (y)))] := hl
  obtain ⟨hk1, hk2, hk3, hk4, hn12, hst⟩ := id hk
  have hG0 := hG
  have hS : va_S (tcA N0) s.heap s.heap [] := va_S.rf
  have hF : ∀ w ∈ wsX00, w ∈ wsX0_pointsOfPair := by decide +kernel
  have w_colours : Cond.fieldLink RX0 13 "TicketCoincidences" "colours" "[I" ∈ wsX0_pointsOfPair := by decide +kernel
  have w_tickets : Cond.fieldLink RX0 9 "TicketCoincidences" "tickets" "[I" ∈ wsX0_pointsOfPair := by decide +kernel
  refine lv_aload_n C0.1 C0.2.1 dX0_pointsOfPair_0 rfl (lv_at hl 0 rfl) ?_
  refine tgX0_tickets C0 hF hG w_tickets dX0_pointsOfPair_1 ?_
  refine lv_iload_n C0.1 C0.2.1 dX0_pointsOfPair_4 rfl (lv_at hl 1 rfl) ?_
  refine tc_ald (q0 := 1) C0 hG rfl (by omega) dX0_pointsOfPair_5 ?_
  have b_5 := hk1 (x)
  refine lv_aload_n C0.1 C0.2.1 dX0_pointsOfPair_6 rfl (lv_at hl 0 rfl) ?_
  refine tgX0_tickets C0 hF hG w_tickets dX0_pointsOfPair_7 ?_
  refine lv_iload_n C0.1 C0.2.1 dX0_pointsOfPair_10 rfl (lv_at hl 2 rfl) ?_
  refine tc_ald (q0 := 1) C0 hG rfl (by omega) dX0_pointsOfPair_11 ?_
  have b_11 := hk1 (y)
  refine tc_callS C0 hG hS (kX0_pointsOfTickets hlf  (tk (x)) (tk (y)) (by omega) (by omega)) (va_cwS 2 C0.2.2.2.2 gX0_pointsOfPair_X0_pointsOfTickets rfl rfl rfl (by decide +kernel) ⟨(Nat.le_of_ble_eq_true rfl), (Nat.le_of_ble_eq_true rfl)⟩) rfl hl rfl (Nat.le_of_ble_eq_true rfl) dX0_pointsOfPair_12 ⟨(Nat.le_of_ble_eq_true rfl), (Nat.le_of_ble_eq_true rfl)⟩ (fun H locs hG hS => ?_)
  refine lv_aload_n C0.1 C0.2.1 dX0_pointsOfPair_15 rfl (lv_at hl 0 rfl) ?_
  refine tgX0_colours C0 hF hG w_colours dX0_pointsOfPair_16 ?_
  refine lv_iload_n C0.1 C0.2.1 dX0_pointsOfPair_19 rfl (lv_at hl 1 rfl) ?_
  refine tc_ald (q0 := 2) C0 hG rfl (by omega) dX0_pointsOfPair_20 ?_
  have b_20 := hk2 (x)
  refine lv_aload_n C0.1 C0.2.1 dX0_pointsOfPair_21 rfl (lv_at hl 0 rfl) ?_
  refine tgX0_colours C0 hF hG w_colours dX0_pointsOfPair_22 ?_
  refine lv_iload_n C0.1 C0.2.1 dX0_pointsOfPair_25 rfl (lv_at hl 2 rfl) ?_
  refine tc_ald (q0 := 2) C0 hG rfl (by omega) dX0_pointsOfPair_26 ?_
  have b_26 := hk2 (y)
  refine tc_callS C0 hG hS (kX0_pointsOfColours hlf  (co (x)) (co (y)) (by omega) (by omega)) (va_cwS 2 C0.2.2.2.2 gX0_pointsOfPair_X0_pointsOfColours rfl rfl rfl (by decide +kernel) ⟨(Nat.le_of_ble_eq_true rfl), (Nat.le_of_ble_eq_true rfl)⟩) rfl hl rfl (Nat.le_of_ble_eq_true rfl) dX0_pointsOfPair_27 ⟨(Nat.le_of_ble_eq_true rfl), (Nat.le_of_ble_eq_true rfl)⟩ (fun H locs hG hS => ?_)
  refine tn_iadd C0.1 C0.2.1 dX0_pointsOfPair_30 ?_
  exact tc_iret C0 hr hlk hG hS rfl rfl (Nat.le_of_ble_eq_true rfl) (Nat.le_of_ble_eq_true rfl) dX0_pointsOfPair_31
set_option maxHeartbeats 4000000 in
set_option maxRecDepth 100000 in
theorem kX0_cornerBehind {l : Launch} (hlf : l.stackTraces = false) {D : va_G} {cI cJ : ClassId} {N0 : Nat} {h r1 r2 r3 r4 : Nat} {tk co cn wk : Nat → Nat} {n st : Nat} {ho ct sp : Int32} {Z : va_W} (hk : tOk tk co cn wk n st) (x : Nat) (y : Nat) (h1 : x < 12) (h2 : y ≤ 60) : tcM l yX0_cornerBehind wsX0_cornerBehind { frames := 0, cells := 0, slots := 0, locals := 0 } [] 0 [.ref h, .int (nI (x)), .int (nI (y))] D cI cJ N0 (wT h r1 r2 r3 r4 cI tk co cn wk n ho st ct sp Z) (some (.int (nI (cnr cn wk y x)))) (wT h r1 r2 r3 r4 cI tk co cn wk n ho st ct sp Z) 0 0 := by
  refine tcM.of (cc := cX0_cornerBehind) (maxL := 3) (ret := (some .int)) (by decide) rfl (Nat.le_of_ble_eq_true rfl) ?_
  intro p e s m args below meth c C0 hr hlk ht hmn hG ls hl
  have hl : lv_has ls 3 [(0, .ref h), (1, .int (nI (x))), (2, .int (nI (y)))] := hl
  obtain ⟨hk1, hk2, hk3, hk4, hn12, hst⟩ := id hk
  have hG0 := hG
  have hS : va_S (tcA N0) s.heap s.heap [] := va_S.rf
  have hF : ∀ w ∈ wsX00, w ∈ wsX0_cornerBehind := by decide +kernel
  have w_corners : Cond.fieldLink RX0 16 "TicketCoincidences" "corners" "[I" ∈ wsX0_cornerBehind := by decide +kernel
  have w_walks : Cond.fieldLink RX0 19 "TicketCoincidences" "walks" "[I" ∈ wsX0_cornerBehind := by decide +kernel
  refine lv_aload_n C0.1 C0.2.1 dX0_cornerBehind_0 rfl (lv_at hl 0 rfl) ?_
  refine tgX0_corners C0 hF hG w_corners dX0_cornerBehind_1 ?_
  refine lv_iload_n C0.1 C0.2.1 dX0_cornerBehind_4 rfl (lv_at hl 1 rfl) ?_
  refine tc_ald (q0 := 3) C0 hG rfl (by omega) dX0_cornerBehind_5 ?_
  have b_5 := hk3 (x)
  refine lv_aload_n C0.1 C0.2.1 dX0_cornerBehind_6 rfl (lv_at hl 0 rfl) ?_
  refine tgX0_walks C0 hF hG w_walks dX0_cornerBehind_7 ?_
  refine lv_iload_n C0.1 C0.2.1 dX0_cornerBehind_10 rfl (lv_at hl 1 rfl) ?_
  refine tc_ald (q0 := 4) C0 hG rfl (by omega) dX0_cornerBehind_11 ?_
  have b_11 := hk4 (x)
  refine lv_iload_n C0.1 C0.2.1 dX0_cornerBehind_12 rfl (lv_at hl 2 rfl) ?_
  refine tn_imul C0.1 C0.2.1 dX0_cornerBehind_13 ?_
  refine tn_iadd C0.1 C0.2.1 dX0_cornerBehind_14 ?_
  refine lv_bipush (v := nI 6) C0.1 C0.2.1 dX0_cornerBehind_15 (by decide) ?_
  refine tn_irem C0.1 C0.2.1 dX0_cornerBehind_17 (by have := Nat.mul_le_mul (Nat.le_of_lt b_11) h2; omega) (by decide) (by decide) ?_
  exact tc_iret C0 hr hlk hG hS rfl rfl (Nat.le_of_ble_eq_true rfl) (Nat.le_of_ble_eq_true rfl) dX0_cornerBehind_18
set_option maxHeartbeats 4000000 in
set_option maxRecDepth 100000 in
theorem kX0_crowdAt {l : Launch} (hlf : l.stackTraces = false) {D : va_G} {cI cJ : ClassId} {N0 : Nat} {h r1 r2 r3 r4 : Nat} {tk co cn wk : Nat → Nat} {n st : Nat} {ho ct sp : Int32} {Z : va_W} (hk : tOk tk co cn wk n st) (x : Nat) (h1 : x < 6) : tcM l yX0_crowdAt wsX0_crowdAt { frames := 0, cells := 0, slots := 0, locals := 0 } [] 0 [.ref h, .int (nI (x))] D cI cJ N0 (wT h r1 r2 r3 r4 cI tk co cn wk n ho st ct sp Z) (some (.int (nI (crowd cn x n)))) (wT h r1 r2 r3 r4 cI tk co cn wk n ho st ct sp Z) 0 0 := by
  refine tcM.of (cc := cX0_crowdAt) (maxL := 4) (ret := (some .int)) (by decide) rfl (Nat.le_of_ble_eq_true rfl) ?_
  intro p e s m args below meth c C0 hr hlk ht hmn hG ls hl
  have hl : lv_has ls 4 [(0, .ref h), (1, .int (nI (x)))] := hl
  obtain ⟨hk1, hk2, hk3, hk4, hn12, hst⟩ := id hk
  have hG0 := hG
  have hS : va_S (tcA N0) s.heap s.heap [] := va_S.rf
  have hF : ∀ w ∈ wsX00, w ∈ wsX0_crowdAt := by decide +kernel
  have w_corners : Cond.fieldLink RX0 16 "TicketCoincidences" "corners" "[I" ∈ wsX0_crowdAt := by decide +kernel
  have w_people : Cond.fieldLink RX0 22 "TicketCoincidences" "people" "I" ∈ wsX0_crowdAt := by decide +kernel
  refine lv_iconst (v := nI 0) C0.1 C0.2.1 dX0_crowdAt_0 (by decide) ?_
  refine lv_istore_n (lv' := [(2, .int (nI (0))), (0, .ref h), (1, .int (nI (x)))]) C0.1 C0.2.1 dX0_crowdAt_1 rfl hl (by decide) rfl (fun ls hl => ?_)
  refine lv_iconst (v := nI 0) C0.1 C0.2.1 dX0_crowdAt_2 (by decide) ?_
  refine lv_istore_n (lv' := [(3, .int (nI (0))), (2, .int (nI (0))), (0, .ref h), (1, .int (nI (x)))]) C0.1 C0.2.1 dX0_crowdAt_3 rfl hl (by decide) rfl (fun ls hl => ?_)
  refine tc_nameQ (fun zQg zhQ => ?_)
  have cut_4 : ∀ (kf : Nat) (q : Nat) (i : Nat) (hi : i ≤ n) (hq : q = sm (fun i => if cn i = x then 1 else 0) i) (hm : n + 1 ≤ i + kf), ∀ (ls : Array Slot), lv_has ls 4 [(3, .int (nI (i))), (2, .int (nI (q))), (0, .ref h), (1, .int (nI (x)))] → ∀ (H : Heap) (locs : List Loc), tcG D cI cJ N0 (wT h r1 r2 r3 r4 cI tk co cn wk n ho st ct sp Z) s H → va_S (tcA N0) s.heap H locs → W p l e ({ frames := 0, cells := 0, slots := 0, locals := 0 } : Room) s m args below meth c H locs (0) (0) zQg (F0 m 4 ls []) := by
    intro kf
    induction kf with
    | zero => intro q i hi hq hm; exact absurd hm (by omega)
    | succ kf ih_4 =>
      intro q i hi hq hm ls hl H locs hG hS
      refine lv_iload_n C0.1 C0.2.1 dX0_crowdAt_4 rfl (lv_at hl 0 rfl) ?_
      refine lv_aload_n C0.1 C0.2.1 dX0_crowdAt_5 rfl (lv_at hl 2 rfl) ?_
      refine tgX0_people C0 hF hG w_people dX0_crowdAt_6 ?_
      refine tn_icmp_ge (tgt := 31) C0.1 C0.2.1 dX0_crowdAt_9 (by decide) (by omega) (by omega) (fun c_9 => ?_) (fun c_9 => ?_)
      · refine lv_iload_n C0.1 C0.2.1 dX0_crowdAt_31 rfl (lv_at hl 1 rfl) ?_
        subst zhQ
        exact tc_iret C0 hr hlk hG hS rfl (by rw [hq, show i = n by omega]; rfl) (Nat.le_of_ble_eq_true rfl) (Nat.le_of_ble_eq_true rfl) dX0_crowdAt_32
      · refine lv_aload_n C0.1 C0.2.1 dX0_crowdAt_12 rfl (lv_at hl 2 rfl) ?_
        refine tgX0_corners C0 hF hG w_corners dX0_crowdAt_13 ?_
        refine lv_iload_n C0.1 C0.2.1 dX0_crowdAt_16 rfl (lv_at hl 0 rfl) ?_
        refine tc_ald (q0 := 3) C0 hG rfl (by omega) dX0_crowdAt_17 ?_
        have b_17 := hk3 (i)
        refine lv_iload_n C0.1 C0.2.1 dX0_crowdAt_18 rfl (lv_at hl 3 rfl) ?_
        refine tn_icmp_ne (tgt := 25) C0.1 C0.2.1 dX0_crowdAt_19 (by decide) (by omega) (by omega) (fun c_19 => ?_) (fun c_19 => ?_)
        · refine tn_iinc (lv' := [(3, .int (nI (i + 1))), (2, .int (nI (q))), (0, .ref h), (1, .int (nI (x)))]) C0.1 C0.2.1 dX0_crowdAt_25 hl (k := 0) rfl (by decide) rfl (fun ls hl => ?_)
          refine lv_goto (tgt := 4) C0.1 C0.2.1 dX0_crowdAt_28 (by decide) ?_
          exact ih_4 (q) (i + 1) (by omega) (by first | exact sm_step hq (if_pos c_19) | exact sm_skip hq (if_neg c_19)) (by omega) ls (lv_sub hl [0, 1, 2, 3] rfl) _ _ hG hS
        · refine tn_iinc (lv' := [(2, .int (nI (q + 1))), (3, .int (nI (i))), (0, .ref h), (1, .int (nI (x)))]) C0.1 C0.2.1 dX0_crowdAt_22 hl (k := 1) rfl (by decide) rfl (fun ls hl => ?_)
          refine tn_iinc (lv' := [(3, .int (nI (i + 1))), (2, .int (nI (q + 1))), (0, .ref h), (1, .int (nI (x)))]) C0.1 C0.2.1 dX0_crowdAt_25 hl (k := 1) rfl (by decide) rfl (fun ls hl => ?_)
          refine lv_goto (tgt := 4) C0.1 C0.2.1 dX0_crowdAt_28 (by decide) ?_
          exact ih_4 (q + 1) (i + 1) (by omega) (by first | exact sm_step hq (if_pos c_19) | exact sm_skip hq (if_neg c_19)) (by omega) ls (lv_sub hl [0, 1, 2, 3] rfl) _ _ hG hS
  exact cut_4 (n + 1) (0) (0) (by omega) rfl (by omega) ls (lv_sub hl [0, 1, 2, 3] rfl) _ _ hG hS
set_option maxHeartbeats 4000000 in
set_option maxRecDepth 100000 in
theorem kX0_emptyCorners {l : Launch} (hlf : l.stackTraces = false) {D : va_G} {cI cJ : ClassId} {N0 : Nat} {h r1 r2 r3 r4 : Nat} {tk co cn wk : Nat → Nat} {n st : Nat} {ho ct sp : Int32} {Z : va_W} (hk : tOk tk co cn wk n st)   : tcM l yX0_emptyCorners wsX0_emptyCorners { frames := 1, cells := 0, slots := 0, locals := 23 } [] 0 [.ref h] D cI cJ N0 (wT h r1 r2 r3 r4 cI tk co cn wk n ho st ct sp Z) (some (.int (nI (emp cn n)))) (wT h r1 r2 r3 r4 cI tk co cn wk n ho st ct sp Z) 0 0 := by
  refine tcM.of (cc := cX0_emptyCorners) (maxL := 3) (ret := (some .int)) (by decide) rfl (Nat.le_of_ble_eq_true rfl) ?_
  intro p e s m args below meth c C0 hr hlk ht hmn hG ls hl
  have hl : lv_has ls 3 [(0, .ref h)] := hl
  obtain ⟨hk1, hk2, hk3, hk4, hn12, hst⟩ := id hk
  have hG0 := hG
  have hS : va_S (tcA N0) s.heap s.heap [] := va_S.rf
  refine lv_iconst (v := nI 0) C0.1 C0.2.1 dX0_emptyCorners_0 (by decide) ?_
  refine lv_istore_n (lv' := [(1, .int (nI (0))), (0, .ref h)]) C0.1 C0.2.1 dX0_emptyCorners_1 rfl hl (by decide) rfl (fun ls hl => ?_)
  refine lv_iconst (v := nI 0) C0.1 C0.2.1 dX0_emptyCorners_2 (by decide) ?_
  refine lv_istore_n (lv' := [(2, .int (nI (0))), (1, .int (nI (0))), (0, .ref h)]) C0.1 C0.2.1 dX0_emptyCorners_3 rfl hl (by decide) rfl (fun ls hl => ?_)
  refine tc_nameQ (fun zQg zhQ => ?_)
  have cut_4 : ∀ (kf : Nat) (q : Nat) (i : Nat) (hi : i ≤ 6) (hq : q = sm (fun c => if crowd cn c n = 0 then 1 else 0) i) (hm : 6 + 1 ≤ i + kf), ∀ (ls : Array Slot), lv_has ls 3 [(2, .int (nI (i))), (1, .int (nI (q))), (0, .ref h)] → ∀ (H : Heap) (locs : List Loc), tcG D cI cJ N0 (wT h r1 r2 r3 r4 cI tk co cn wk n ho st ct sp Z) s H → va_S (tcA N0) s.heap H locs → W p l e ({ frames := 1, cells := 0, slots := 0, locals := 23 } : Room) s m args below meth c H locs (0) (0) zQg (F0 m 4 ls []) := by
    intro kf
    induction kf with
    | zero => intro q i hi hq hm; exact absurd hm (by omega)
    | succ kf ih_4 =>
      intro q i hi hq hm ls hl H locs hG hS
      refine lv_iload_n C0.1 C0.2.1 dX0_emptyCorners_4 rfl (lv_at hl 0 rfl) ?_
      refine lv_bipush (v := nI 6) C0.1 C0.2.1 dX0_emptyCorners_5 (by decide) ?_
      refine tn_icmp_ge (tgt := 27) C0.1 C0.2.1 dX0_emptyCorners_7 (by decide) (by omega) (by omega) (fun c_7 => ?_) (fun c_7 => ?_)
      · refine lv_iload_n C0.1 C0.2.1 dX0_emptyCorners_27 rfl (lv_at hl 1 rfl) ?_
        subst zhQ
        exact tc_iret C0 hr hlk hG hS rfl (by rw [hq, show i = 6 by omega]; rfl) (Nat.le_of_ble_eq_true rfl) (Nat.le_of_ble_eq_true rfl) dX0_emptyCorners_28
      · refine lv_aload_n C0.1 C0.2.1 dX0_emptyCorners_10 rfl (lv_at hl 2 rfl) ?_
        refine lv_iload_n C0.1 C0.2.1 dX0_emptyCorners_11 rfl (lv_at hl 0 rfl) ?_
        refine tc_callV (q0 := 0) C0 hG hS rfl rfl (kX0_crowdAt hlf hk  (i) (by omega)) (cwV 1 C0.2.2.2.2 gX0_emptyCorners_X0_crowdAt rfl rfl rfl (by decide +kernel) ⟨(Nat.le_of_ble_eq_true rfl), (Nat.le_of_ble_eq_true rfl)⟩) rfl hl rfl (Nat.le_of_ble_eq_true rfl) dX0_emptyCorners_12 ⟨(Nat.le_of_ble_eq_true rfl), (Nat.le_of_ble_eq_true rfl)⟩ (fun H locs hG hS => ?_)
        have b_12 := crowd_le cn i (n := n) hk.2.2.2.2.1
        refine tn_if_ne (tgt := 21) C0.1 C0.2.1 dX0_emptyCorners_15 (by decide) (by omega) (fun c_15 => ?_) (fun c_15 => ?_)
        · refine tn_iinc (lv' := [(2, .int (nI (i + 1))), (1, .int (nI (q))), (0, .ref h)]) C0.1 C0.2.1 dX0_emptyCorners_21 hl (k := 0) rfl (by decide) rfl (fun ls hl => ?_)
          refine lv_goto (tgt := 4) C0.1 C0.2.1 dX0_emptyCorners_24 (by decide) ?_
          exact ih_4 (q) (i + 1) (by omega) (by first | exact sm_step hq (if_pos c_15) | exact sm_skip hq (if_neg (by omega))) (by omega) ls (lv_sub hl [0, 1, 2] rfl) _ _ hG hS
        · refine tn_iinc (lv' := [(1, .int (nI (q + 1))), (2, .int (nI (i))), (0, .ref h)]) C0.1 C0.2.1 dX0_emptyCorners_18 hl (k := 1) rfl (by decide) rfl (fun ls hl => ?_)
          refine tn_iinc (lv' := [(2, .int (nI (i + 1))), (1, .int (nI (q + 1))), (0, .ref h)]) C0.1 C0.2.1 dX0_emptyCorners_21 hl (k := 1) rfl (by decide) rfl (fun ls hl => ?_)
          refine lv_goto (tgt := 4) C0.1 C0.2.1 dX0_emptyCorners_24 (by decide) ?_
          exact ih_4 (q + 1) (i + 1) (by omega) (by first | exact sm_step hq (if_pos c_15) | exact sm_skip hq (if_neg (by omega))) (by omega) ls (lv_sub hl [0, 1, 2] rfl) _ _ hG hS
  exact cut_4 (6 + 1) (0) (0) (by omega) rfl (by omega) ls (lv_sub hl [0, 1, 2] rfl) _ _ hG hS
set_option maxHeartbeats 4000000 in
set_option maxRecDepth 100000 in
theorem kX0_luckWith {l : Launch} (hlf : l.stackTraces = false) {D : va_G} {cI cJ : ClassId} {N0 : Nat} {h r1 r2 r3 r4 : Nat} {tk co cn wk : Nat → Nat} {n st : Nat} {ho ct sp : Int32} {Z : va_W} (hk : tOk tk co cn wk n st) (x : Nat) (y : Nat) (z : Nat) (h1 : x < 12) (h2 : y < 100) (h3 : z < 6) : tcM l yX0_luckWith wsX0_luckWith { frames := 2, cells := 0, slots := 0, locals := 43 } [] 0 [.ref h, .int (nI (x)), .int (nI (y)), .int (nI (z))] D cI cJ N0 (wT h r1 r2 r3 r4 cI tk co cn wk n ho st ct sp Z) (some (.int (nI (lw tk co cn x y z n)))) (wT h r1 r2 r3 r4 cI tk co cn wk n ho st ct sp Z) 0 0 := by
  refine tcM.of (cc := cX0_luckWith) (maxL := 6) (ret := (some .int)) (by decide) rfl (Nat.le_of_ble_eq_true rfl) ?_
  intro p e s m args below meth c C0 hr hlk ht hmn hG ls hl
  have hl : lv_has ls 6 [(0, .ref h), (1, .int (nI (x))), (2, .int (nI (y))), (3, .int (nI (z)))] := hl
  obtain ⟨hk1, hk2, hk3, hk4, hn12, hst⟩ := id hk
  have hG0 := hG
  have hS : va_S (tcA N0) s.heap s.heap [] := va_S.rf
  have hF : ∀ w ∈ wsX00, w ∈ wsX0_luckWith := by decide +kernel
  have w_colours : Cond.fieldLink RX0 13 "TicketCoincidences" "colours" "[I" ∈ wsX0_luckWith := by decide +kernel
  have w_corners : Cond.fieldLink RX0 16 "TicketCoincidences" "corners" "[I" ∈ wsX0_luckWith := by decide +kernel
  have w_people : Cond.fieldLink RX0 22 "TicketCoincidences" "people" "I" ∈ wsX0_luckWith := by decide +kernel
  have w_tickets : Cond.fieldLink RX0 9 "TicketCoincidences" "tickets" "[I" ∈ wsX0_luckWith := by decide +kernel
  refine lv_iconst (v := nI 0) C0.1 C0.2.1 dX0_luckWith_0 (by decide) ?_
  refine lv_istore (lv' := [(4, .int (nI (0))), (0, .ref h), (1, .int (nI (x))), (2, .int (nI (y))), (3, .int (nI (z)))]) C0.1 C0.2.1 dX0_luckWith_1 hl (by decide) rfl (fun ls hl => ?_)
  refine lv_iconst (v := nI 0) C0.1 C0.2.1 dX0_luckWith_3 (by decide) ?_
  refine lv_istore (lv' := [(5, .int (nI (0))), (4, .int (nI (0))), (0, .ref h), (1, .int (nI (x))), (2, .int (nI (y))), (3, .int (nI (z)))]) C0.1 C0.2.1 dX0_luckWith_4 hl (by decide) rfl (fun ls hl => ?_)
  refine tc_nameQ (fun zQg zhQ => ?_)
  have cut_6 : ∀ (kf : Nat) (q : Nat) (i : Nat) (hi : i ≤ n) (hq : q = sm (lwg tk co cn x y z) i) (hm : n + 1 ≤ i + kf), ∀ (ls : Array Slot), lv_has ls 6 [(5, .int (nI (i))), (4, .int (nI (q))), (0, .ref h), (1, .int (nI (x))), (2, .int (nI (y))), (3, .int (nI (z)))] → ∀ (H : Heap) (locs : List Loc), tcG D cI cJ N0 (wT h r1 r2 r3 r4 cI tk co cn wk n ho st ct sp Z) s H → va_S (tcA N0) s.heap H locs → W p l e ({ frames := 2, cells := 0, slots := 0, locals := 43 } : Room) s m args below meth c H locs (0) (0) zQg (F0 m 6 ls []) := by
    intro kf
    induction kf with
    | zero => intro q i hi hq hm; exact absurd hm (by omega)
    | succ kf ih_6 =>
      intro q i hi hq hm ls hl H locs hG hS
      refine lv_iload C0.1 C0.2.1 dX0_luckWith_6 (lv_at hl 0 rfl) ?_
      refine lv_aload_n C0.1 C0.2.1 dX0_luckWith_8 rfl (lv_at hl 2 rfl) ?_
      refine tgX0_people C0 hF hG w_people dX0_luckWith_9 ?_
      refine tn_icmp_ge (tgt := 71) C0.1 C0.2.1 dX0_luckWith_12 (by decide) (by omega) (by omega) (fun c_12 => ?_) (fun c_12 => ?_)
      · refine lv_iload C0.1 C0.2.1 dX0_luckWith_71 (lv_at hl 1 rfl) ?_
        subst zhQ
        exact tc_iret C0 hr hlk hG hS rfl (by rw [hq, show i = n by omega]; rfl) (Nat.le_of_ble_eq_true rfl) (Nat.le_of_ble_eq_true rfl) dX0_luckWith_73
      · refine lv_iload C0.1 C0.2.1 dX0_luckWith_15 (lv_at hl 0 rfl) ?_
        refine lv_iload_n C0.1 C0.2.1 dX0_luckWith_17 rfl (lv_at hl 3 rfl) ?_
        refine tn_icmp_eq (tgt := 65) C0.1 C0.2.1 dX0_luckWith_18 (by decide) (by omega) (by omega) (fun c_18 => ?_) (fun c_18 => ?_)
        · refine tn_iinc (lv' := [(5, .int (nI (i + 1))), (4, .int (nI (q))), (0, .ref h), (1, .int (nI (x))), (2, .int (nI (y))), (3, .int (nI (z)))]) C0.1 C0.2.1 dX0_luckWith_65 hl (k := 0) rfl (by decide) rfl (fun ls hl => ?_)
          refine lv_goto (tgt := 6) C0.1 C0.2.1 dX0_luckWith_68 (by decide) ?_
          exact ih_6 (q) (i + 1) (by omega) (by first | exact sm_step hq (lwg_1 c_18 c_29) | exact sm_skip hq (lwg_0 c_18) | exact sm_skip hq (lwg_2 c_29)) (by omega) ls (lv_sub hl [0, 1, 2, 3, 4, 5] rfl) _ _ hG hS
        · refine lv_aload_n C0.1 C0.2.1 dX0_luckWith_21 rfl (lv_at hl 2 rfl) ?_
          refine tgX0_corners C0 hF hG w_corners dX0_luckWith_22 ?_
          refine lv_iload C0.1 C0.2.1 dX0_luckWith_25 (lv_at hl 0 rfl) ?_
          refine tc_ald (q0 := 3) C0 hG rfl (by omega) dX0_luckWith_27 ?_
          have b_27 := hk3 (i)
          refine lv_iload_n C0.1 C0.2.1 dX0_luckWith_28 rfl (lv_at hl 5 rfl) ?_
          refine tn_icmp_ne (tgt := 65) C0.1 C0.2.1 dX0_luckWith_29 (by decide) (by omega) (by omega) (fun c_29 => ?_) (fun c_29 => ?_)
          · refine tn_iinc (lv' := [(5, .int (nI (i + 1))), (4, .int (nI (q))), (0, .ref h), (1, .int (nI (x))), (2, .int (nI (y))), (3, .int (nI (z)))]) C0.1 C0.2.1 dX0_luckWith_65 hl (k := 0) rfl (by decide) rfl (fun ls hl => ?_)
            refine lv_goto (tgt := 6) C0.1 C0.2.1 dX0_luckWith_68 (by decide) ?_
            exact ih_6 (q) (i + 1) (by omega) (by first | exact sm_step hq (lwg_1 c_18 c_29) | exact sm_skip hq (lwg_0 c_18) | exact sm_skip hq (lwg_2 c_29)) (by omega) ls (lv_sub hl [0, 1, 2, 3, 4, 5] rfl) _ _ hG hS
          · refine lv_iload C0.1 C0.2.1 dX0_luckWith_32 (lv_at hl 1 rfl) ?_
            refine lv_iload_n C0.1 C0.2.1 dX0_luckWith_34 rfl (lv_at hl 4 rfl) ?_
            refine lv_aload_n C0.1 C0.2.1 dX0_luckWith_35 rfl (lv_at hl 2 rfl) ?_
            refine tgX0_tickets C0 hF hG w_tickets dX0_luckWith_36 ?_
            refine lv_iload C0.1 C0.2.1 dX0_luckWith_39 (lv_at hl 0 rfl) ?_
            refine tc_ald (q0 := 1) C0 hG rfl (by omega) dX0_luckWith_41 ?_
            have b_41 := hk1 (i)
            refine tc_callS C0 hG hS (kX0_pointsOfTickets hlf  (y) (tk (i)) (by omega) (by omega)) (va_cwS 2 C0.2.2.2.2 gX0_luckWith_X0_pointsOfTickets rfl rfl rfl (by decide +kernel) ⟨(Nat.le_of_ble_eq_true rfl), (Nat.le_of_ble_eq_true rfl)⟩) rfl hl rfl (Nat.le_of_ble_eq_true rfl) dX0_luckWith_42 ⟨(Nat.le_of_ble_eq_true rfl), (Nat.le_of_ble_eq_true rfl)⟩ (fun H locs hG hS => ?_)
            refine lv_aload_n C0.1 C0.2.1 dX0_luckWith_45 rfl (lv_at hl 2 rfl) ?_
            refine tgX0_colours C0 hF hG w_colours dX0_luckWith_46 ?_
            refine lv_iload_n C0.1 C0.2.1 dX0_luckWith_49 rfl (lv_at hl 3 rfl) ?_
            refine tc_ald (q0 := 2) C0 hG rfl (by omega) dX0_luckWith_50 ?_
            have b_50 := hk2 (x)
            refine lv_aload_n C0.1 C0.2.1 dX0_luckWith_51 rfl (lv_at hl 2 rfl) ?_
            refine tgX0_colours C0 hF hG w_colours dX0_luckWith_52 ?_
            refine lv_iload C0.1 C0.2.1 dX0_luckWith_55 (lv_at hl 0 rfl) ?_
            refine tc_ald (q0 := 2) C0 hG rfl (by omega) dX0_luckWith_57 ?_
            have b_57 := hk2 (i)
            refine tc_callS C0 hG hS (kX0_pointsOfColours hlf  (co (x)) (co (i)) (by omega) (by omega)) (va_cwS 2 C0.2.2.2.2 gX0_luckWith_X0_pointsOfColours rfl rfl rfl (by decide +kernel) ⟨(Nat.le_of_ble_eq_true rfl), (Nat.le_of_ble_eq_true rfl)⟩) rfl hl rfl (Nat.le_of_ble_eq_true rfl) dX0_luckWith_58 ⟨(Nat.le_of_ble_eq_true rfl), (Nat.le_of_ble_eq_true rfl)⟩ (fun H locs hG hS => ?_)
            refine tn_iadd C0.1 C0.2.1 dX0_luckWith_61 ?_
            refine tn_iadd C0.1 C0.2.1 dX0_luckWith_62 ?_
            refine lv_istore (lv' := [(4, .int (nI (q + (ptk y (tk (i)) + (pco (co (x)) (co (i))))))), (5, .int (nI (i))), (0, .ref h), (1, .int (nI (x))), (2, .int (nI (y))), (3, .int (nI (z)))]) C0.1 C0.2.1 dX0_luckWith_63 hl (by decide) rfl (fun ls hl => ?_)
            refine tn_iinc (lv' := [(5, .int (nI (i + 1))), (4, .int (nI (q + (ptk y (tk (i)) + (pco (co (x)) (co (i))))))), (0, .ref h), (1, .int (nI (x))), (2, .int (nI (y))), (3, .int (nI (z)))]) C0.1 C0.2.1 dX0_luckWith_65 hl (k := 1) rfl (by decide) rfl (fun ls hl => ?_)
            refine lv_goto (tgt := 6) C0.1 C0.2.1 dX0_luckWith_68 (by decide) ?_
            exact ih_6 (q + (ptk y (tk (i)) + (pco (co (x)) (co (i))))) (i + 1) (by omega) (by first | exact sm_step hq (lwg_1 c_18 c_29) | exact sm_skip hq (lwg_0 c_18) | exact sm_skip hq (lwg_2 c_29)) (by omega) ls (lv_sub hl [0, 1, 2, 3, 4, 5] rfl) _ _ hG hS
  exact cut_6 (n + 1) (0) (0) (by omega) rfl (by omega) ls (lv_sub hl [0, 1, 2, 3, 4, 5] rfl) _ _ hG hS
set_option maxHeartbeats 4000000 in
set_option maxRecDepth 100000 in
theorem kX0_luckNow {l : Launch} (hlf : l.stackTraces = false) {D : va_G} {cI cJ : ClassId} {N0 : Nat} {h r1 r2 r3 r4 : Nat} {tk co cn wk : Nat → Nat} {n st : Nat} {ho ct sp : Int32} {Z : va_W} (hk : tOk tk co cn wk n st) (x : Nat) (h1 : x < 12) : tcM l yX0_luckNow wsX0_luckNow { frames := 3, cells := 0, slots := 0, locals := 68 } [] 0 [.ref h, .int (nI (x))] D cI cJ N0 (wT h r1 r2 r3 r4 cI tk co cn wk n ho st ct sp Z) (some (.int (nI (lkn tk co cn x n)))) (wT h r1 r2 r3 r4 cI tk co cn wk n ho st ct sp Z) 0 0 := by
  refine tcM.of (cc := cX0_luckNow) (maxL := 2) (ret := (some .int)) (by decide) rfl (Nat.le_of_ble_eq_true rfl) ?_
  intro p e s m args below meth c C0 hr hlk ht hmn hG ls hl
  have hl : lv_has ls 2 [(0, .ref h), (1, .int (nI (x)))] := hl
  obtain ⟨hk1, hk2, hk3, hk4, hn12, hst⟩ := id hk
  have hG0 := hG
  have hS : va_S (tcA N0) s.heap s.heap [] := va_S.rf
  have hF : ∀ w ∈ wsX00, w ∈ wsX0_luckNow := by decide +kernel
  have w_corners : Cond.fieldLink RX0 16 "TicketCoincidences" "corners" "[I" ∈ wsX0_luckNow := by decide +kernel
  have w_tickets : Cond.fieldLink RX0 9 "TicketCoincidences" "tickets" "[I" ∈ wsX0_luckNow := by decide +kernel
  refine lv_aload_n C0.1 C0.2.1 dX0_luckNow_0 rfl (lv_at hl 0 rfl) ?_
  refine lv_iload_n C0.1 C0.2.1 dX0_luckNow_1 rfl (lv_at hl 1 rfl) ?_
  refine lv_aload_n C0.1 C0.2.1 dX0_luckNow_2 rfl (lv_at hl 0 rfl) ?_
  refine tgX0_tickets C0 hF hG w_tickets dX0_luckNow_3 ?_
  refine lv_iload_n C0.1 C0.2.1 dX0_luckNow_6 rfl (lv_at hl 1 rfl) ?_
  refine tc_ald (q0 := 1) C0 hG rfl (by omega) dX0_luckNow_7 ?_
  have b_7 := hk1 (x)
  refine lv_aload_n C0.1 C0.2.1 dX0_luckNow_8 rfl (lv_at hl 0 rfl) ?_
  refine tgX0_corners C0 hF hG w_corners dX0_luckNow_9 ?_
  refine lv_iload_n C0.1 C0.2.1 dX0_luckNow_12 rfl (lv_at hl 1 rfl) ?_
  refine tc_ald (q0 := 3) C0 hG rfl (by omega) dX0_luckNow_13 ?_
  have b_13 := hk3 (x)
  refine tc_callV (q0 := 0) C0 hG hS rfl rfl (kX0_luckWith hlf hk  (x) (tk (x)) (cn (x)) (by omega) (by omega) (by omega)) (cwV 3 C0.2.2.2.2 gX0_luckNow_X0_luckWith rfl rfl rfl (by decide +kernel) ⟨(Nat.le_of_ble_eq_true rfl), (Nat.le_of_ble_eq_true rfl)⟩) rfl hl rfl (Nat.le_of_ble_eq_true rfl) dX0_luckNow_14 ⟨(Nat.le_of_ble_eq_true rfl), (Nat.le_of_ble_eq_true rfl)⟩ (fun H locs hG hS => ?_)
  have b_14 := lw_le tk co cn x (tk (x)) (cn (x)) (n := n) hk.2.2.2.2.1
  exact tc_iret C0 hr hlk hG hS rfl rfl (Nat.le_of_ble_eq_true rfl) (Nat.le_of_ble_eq_true rfl) dX0_luckNow_17
set_option maxHeartbeats 4000000 in
set_option maxRecDepth 100000 in
theorem kX0_townBehind {l : Launch} (hlf : l.stackTraces = false) {D : va_G} {cI cJ : ClassId} {N0 : Nat} {h r1 r2 r3 r4 : Nat} {tk co cn wk : Nat → Nat} {n st : Nat} {ho ct sp : Int32} {Z : va_W} (hk : tOk tk co cn wk n st) (x : Nat) (h1 : x ≤ 60) : tcM l yX0_townBehind wsX0_townBehind { frames := 3, cells := 0, slots := 0, locals := 65 } [] 0 [.ref h, .int (nI (x))] D cI cJ N0 (wT h r1 r2 r3 r4 cI tk co cn wk n ho st ct sp Z) (some (.int (nI (tw tk co cn wk x n)))) (wT h r1 r2 r3 r4 cI tk co cn wk n ho st ct sp Z) 0 0 := by
  refine tcM.of (cc := cX0_townBehind) (maxL := 5) (ret := (some .int)) (by decide) rfl (Nat.le_of_ble_eq_true rfl) ?_
  intro p e s m args below meth c C0 hr hlk ht hmn hG ls hl
  have hl : lv_has ls 5 [(0, .ref h), (1, .int (nI (x)))] := hl
  obtain ⟨hk1, hk2, hk3, hk4, hn12, hst⟩ := id hk
  have hG0 := hG
  have hS : va_S (tcA N0) s.heap s.heap [] := va_S.rf
  have hF : ∀ w ∈ wsX00, w ∈ wsX0_townBehind := by decide +kernel
  have w_people : Cond.fieldLink RX0 22 "TicketCoincidences" "people" "I" ∈ wsX0_townBehind := by decide +kernel
  refine lv_iconst (v := nI 0) C0.1 C0.2.1 dX0_townBehind_0 (by decide) ?_
  refine lv_istore_n (lv' := [(2, .int (nI (0))), (0, .ref h), (1, .int (nI (x)))]) C0.1 C0.2.1 dX0_townBehind_1 rfl hl (by decide) rfl (fun ls hl => ?_)
  refine lv_iconst (v := nI 0) C0.1 C0.2.1 dX0_townBehind_2 (by decide) ?_
  refine lv_istore_n (lv' := [(3, .int (nI (0))), (2, .int (nI (0))), (0, .ref h), (1, .int (nI (x)))]) C0.1 C0.2.1 dX0_townBehind_3 rfl hl (by decide) rfl (fun ls hl => ?_)
  refine tc_nameQ (fun zQg zhQ => ?_)
  have cut_4 : ∀ (kf : Nat) (q : Nat) (a : Nat) (ha : a ≤ n) (hq : q = sm (fun a => sm (fun b => if a < b then twg tk co cn wk x a b else 0) n) a) (hm : n + 1 ≤ a + kf), ∀ (ls : Array Slot), lv_has ls 5 [(3, .int (nI (a))), (2, .int (nI (q))), (0, .ref h), (1, .int (nI (x)))] → ∀ (H : Heap) (locs : List Loc), tcG D cI cJ N0 (wT h r1 r2 r3 r4 cI tk co cn wk n ho st ct sp Z) s H → va_S (tcA N0) s.heap H locs → W p l e ({ frames := 3, cells := 0, slots := 0, locals := 65 } : Room) s m args below meth c H locs (0) (0) zQg (F0 m 4 ls []) := by
    intro kf
    induction kf with
    | zero => intro q a ha hq hm; exact absurd hm (by omega)
    | succ kf ih_4 =>
      intro q a ha hq hm ls hl H locs hG hS
      refine lv_iload_n C0.1 C0.2.1 dX0_townBehind_4 rfl (lv_at hl 0 rfl) ?_
      refine lv_aload_n C0.1 C0.2.1 dX0_townBehind_5 rfl (lv_at hl 2 rfl) ?_
      refine tgX0_people C0 hF hG w_people dX0_townBehind_6 ?_
      refine tn_icmp_ge (tgt := 64) C0.1 C0.2.1 dX0_townBehind_9 (by decide) (by omega) (by omega) (fun c_9 => ?_) (fun c_9 => ?_)
      · refine lv_iload_n C0.1 C0.2.1 dX0_townBehind_64 rfl (lv_at hl 1 rfl) ?_
        subst zhQ
        exact tc_iret C0 hr hlk hG hS rfl (by rw [hq, show a = n by omega]; exact congrArg nI (pt_pm (twg_sym tk co cn wk x) n)) (Nat.le_of_ble_eq_true rfl) (Nat.le_of_ble_eq_true rfl) dX0_townBehind_65
      · refine lv_iload_n C0.1 C0.2.1 dX0_townBehind_12 rfl (lv_at hl 0 rfl) ?_
        refine lv_iconst (v := nI 1) C0.1 C0.2.1 dX0_townBehind_13 (by decide) ?_
        refine tn_iadd C0.1 C0.2.1 dX0_townBehind_14 ?_
        refine lv_istore (lv' := [(4, .int (nI (a + 1))), (3, .int (nI (a))), (2, .int (nI (q))), (0, .ref h), (1, .int (nI (x)))]) C0.1 C0.2.1 dX0_townBehind_15 hl (by decide) rfl (fun ls hl => ?_)
        have cut_17 : ∀ (kf : Nat) (q2 : Nat) (b : Nat) (hb : b ≤ n) (hab : a < b) (hq2 : q2 = q + sm (fun b => if a < b then twg tk co cn wk x a b else 0) b) (hm : n + 1 ≤ b + kf), ∀ (ls : Array Slot), lv_has ls 5 [(4, .int (nI (b))), (3, .int (nI (a))), (2, .int (nI (q2))), (0, .ref h), (1, .int (nI (x)))] → ∀ (H : Heap) (locs : List Loc), tcG D cI cJ N0 (wT h r1 r2 r3 r4 cI tk co cn wk n ho st ct sp Z) s H → va_S (tcA N0) s.heap H locs → W p l e ({ frames := 3, cells := 0, slots := 0, locals := 65 } : Room) s m args below meth c H locs (0) (0) zQg (F0 m 17 ls []) := by
          intro kf
          induction kf with
          | zero => intro q2 b hb hab hq2 hm; exact absurd hm (by omega)
          | succ kf ih_17 =>
            intro q2 b hb hab hq2 hm ls hl H locs hG hS
            refine lv_iload C0.1 C0.2.1 dX0_townBehind_17 (lv_at hl 0 rfl) ?_
            refine lv_aload_n C0.1 C0.2.1 dX0_townBehind_19 rfl (lv_at hl 3 rfl) ?_
            refine tgX0_people C0 hF hG w_people dX0_townBehind_20 ?_
            refine tn_icmp_ge (tgt := 58) C0.1 C0.2.1 dX0_townBehind_23 (by decide) (by omega) (by omega) (fun c_23 => ?_) (fun c_23 => ?_)
            · refine tn_iinc (lv' := [(3, .int (nI (a + 1))), (4, .int (nI (b))), (2, .int (nI (q2))), (0, .ref h), (1, .int (nI (x)))]) C0.1 C0.2.1 dX0_townBehind_58 hl (k := 1) rfl (by decide) rfl (fun ls hl => ?_)
              refine lv_goto (tgt := 4) C0.1 C0.2.1 dX0_townBehind_61 (by decide) ?_
              exact ih_4 (q2) (a + 1) (by omega) (by have hz : b = n := (by omega); rw [sm_s, ← hq, hq2, hz]) (by omega) ls (lv_sub hl [0, 2, 3, 4] rfl) _ _ hG hS
            · refine lv_aload_n C0.1 C0.2.1 dX0_townBehind_26 rfl (lv_at hl 3 rfl) ?_
              refine lv_iload_n C0.1 C0.2.1 dX0_townBehind_27 rfl (lv_at hl 1 rfl) ?_
              refine lv_iload_n C0.1 C0.2.1 dX0_townBehind_28 rfl (lv_at hl 4 rfl) ?_
              refine tc_callV (q0 := 0) C0 hG hS rfl rfl (kX0_cornerBehind hlf hk  (a) (x) (by omega) (by omega)) (cwV 2 C0.2.2.2.2 gX0_townBehind_X0_cornerBehind rfl rfl rfl (by decide +kernel) ⟨(Nat.le_of_ble_eq_true rfl), (Nat.le_of_ble_eq_true rfl)⟩) rfl hl rfl (Nat.le_of_ble_eq_true rfl) dX0_townBehind_29 ⟨(Nat.le_of_ble_eq_true rfl), (Nat.le_of_ble_eq_true rfl)⟩ (fun H locs hG hS => ?_)
              have b_29 := cnr_lt cn wk x a
              refine lv_aload_n C0.1 C0.2.1 dX0_townBehind_32 rfl (lv_at hl 3 rfl) ?_
              refine lv_iload C0.1 C0.2.1 dX0_townBehind_33 (lv_at hl 0 rfl) ?_
              refine lv_iload_n C0.1 C0.2.1 dX0_townBehind_35 rfl (lv_at hl 4 rfl) ?_
              refine tc_callV (q0 := 0) C0 hG hS rfl rfl (kX0_cornerBehind hlf hk  (b) (x) (by omega) (by omega)) (cwV 2 C0.2.2.2.2 gX0_townBehind_X0_cornerBehind rfl rfl rfl (by decide +kernel) ⟨(Nat.le_of_ble_eq_true rfl), (Nat.le_of_ble_eq_true rfl)⟩) rfl hl rfl (Nat.le_of_ble_eq_true rfl) dX0_townBehind_36 ⟨(Nat.le_of_ble_eq_true rfl), (Nat.le_of_ble_eq_true rfl)⟩ (fun H locs hG hS => ?_)
              have b_36 := cnr_lt cn wk x b
              refine tn_icmp_ne (tgt := 52) C0.1 C0.2.1 dX0_townBehind_39 (by decide) (by omega) (by omega) (fun c_39 => ?_) (fun c_39 => ?_)
              · refine tn_iinc (lv' := [(4, .int (nI (b + 1))), (3, .int (nI (a))), (2, .int (nI (q2))), (0, .ref h), (1, .int (nI (x)))]) C0.1 C0.2.1 dX0_townBehind_52 hl (k := 0) rfl (by decide) rfl (fun ls hl => ?_)
                refine lv_goto (tgt := 17) C0.1 C0.2.1 dX0_townBehind_55 (by decide) ?_
                exact ih_17 (q2) (b + 1) (by omega) (by omega) (by first | exact sm_step2 hq2 ((if_pos hab).trans (if_pos c_39)) | exact sm_skip2 hq2 ((if_pos hab).trans (if_neg c_39))) (by omega) ls (lv_sub hl [0, 1, 2, 3, 4] rfl) _ _ hG hS
              · refine lv_iload_n C0.1 C0.2.1 dX0_townBehind_42 rfl (lv_at hl 2 rfl) ?_
                refine lv_aload_n C0.1 C0.2.1 dX0_townBehind_43 rfl (lv_at hl 3 rfl) ?_
                refine lv_iload_n C0.1 C0.2.1 dX0_townBehind_44 rfl (lv_at hl 1 rfl) ?_
                refine lv_iload C0.1 C0.2.1 dX0_townBehind_45 (lv_at hl 0 rfl) ?_
                refine tc_callV (q0 := 0) C0 hG hS rfl rfl (kX0_pointsOfPair hlf hk  (a) (b) (by omega) (by omega)) (cwV 2 C0.2.2.2.2 gX0_townBehind_X0_pointsOfPair rfl rfl rfl (by decide +kernel) ⟨(Nat.le_of_ble_eq_true rfl), (Nat.le_of_ble_eq_true rfl)⟩) rfl hl rfl (Nat.le_of_ble_eq_true rfl) dX0_townBehind_47 ⟨(Nat.le_of_ble_eq_true rfl), (Nat.le_of_ble_eq_true rfl)⟩ (fun H locs hG hS => ?_)
                have b_47 := pts_le tk co a b
                refine tn_iadd C0.1 C0.2.1 dX0_townBehind_50 ?_
                refine lv_istore_n (lv' := [(2, .int (nI (q2 + (pts tk co a b)))), (4, .int (nI (b))), (3, .int (nI (a))), (0, .ref h), (1, .int (nI (x)))]) C0.1 C0.2.1 dX0_townBehind_51 rfl hl (by decide) rfl (fun ls hl => ?_)
                refine tn_iinc (lv' := [(4, .int (nI (b + 1))), (2, .int (nI (q2 + (pts tk co a b)))), (3, .int (nI (a))), (0, .ref h), (1, .int (nI (x)))]) C0.1 C0.2.1 dX0_townBehind_52 hl (k := 1) rfl (by decide) rfl (fun ls hl => ?_)
                refine lv_goto (tgt := 17) C0.1 C0.2.1 dX0_townBehind_55 (by decide) ?_
                exact ih_17 (q2 + (pts tk co a b)) (b + 1) (by omega) (by omega) (by first | exact sm_step2 hq2 ((if_pos hab).trans (if_pos c_39)) | exact sm_skip2 hq2 ((if_pos hab).trans (if_neg c_39))) (by omega) ls (lv_sub hl [0, 2, 1, 3, 4] rfl) _ _ hG hS
        exact cut_17 (n + 1) (q) (a + 1) (by omega) (by omega) (sm_start2 (fun k hk => if_neg (by omega))) (by omega) ls (lv_sub hl [0, 1, 2, 3, 4] rfl) _ _ hG hS
  exact cut_4 (n + 1) (0) (0) (by omega) rfl (by omega) ls (lv_sub hl [0, 1, 2, 3] rfl) _ _ hG hS
end
