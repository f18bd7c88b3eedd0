section
-- ===== PART A: goes FIRST, ahead of the names: the tables' words, and 'selects' of the private methods out of them =====
/-- a private method of a class that the tables say can be made, by its rows of tables_1 -/
def lw_okq (q : MethodName × Nat) : Prop := (q.1.cls ≠ "java/lang/invoke/MethodHandle" ∧ q.1.cls ≠ "java/lang/invoke/VarHandle") ∧ Cond.instantiable q.1.cls q.2 ∈ tables_1 ∧ Cond.privateMethod q.1 ∈ tables_1 ∧ Cond.instanceMethod q.1 ∈ tables_1
theorem lw_p0 : lw_okq (⟨"TicketCoincidences", "townBehind", "(I)I"⟩, 9) := ⟨⟨by decide +kernel, by decide +kernel⟩, List.mem_of_getElem? (i := 11) (by decide +kernel), List.mem_of_getElem? (i := 72) (by decide +kernel), List.mem_of_getElem? (i := 73) (by decide +kernel)⟩
theorem lw_p1 : lw_okq (⟨"TicketCoincidences", "cornerBehind", "(II)I"⟩, 9) := ⟨⟨by decide +kernel, by decide +kernel⟩, List.mem_of_getElem? (i := 11) (by decide +kernel), List.mem_of_getElem? (i := 76) (by decide +kernel), List.mem_of_getElem? (i := 77) (by decide +kernel)⟩
theorem lw_p2 : lw_okq (⟨"TicketCoincidences", "pointsOfPair", "(II)I"⟩, 9) := ⟨⟨by decide +kernel, by decide +kernel⟩, List.mem_of_getElem? (i := 11) (by decide +kernel), List.mem_of_getElem? (i := 80) (by decide +kernel), List.mem_of_getElem? (i := 81) (by decide +kernel)⟩
theorem lw_p3 : lw_okq (⟨"TicketCoincidences", "townIfSwapped", "(II)I"⟩, 9) := ⟨⟨by decide +kernel, by decide +kernel⟩, List.mem_of_getElem? (i := 11) (by decide +kernel), List.mem_of_getElem? (i := 111) (by decide +kernel), List.mem_of_getElem? (i := 112) (by decide +kernel)⟩
theorem lw_p4 : lw_okq (⟨"TicketCoincidences", "luckNow", "(I)I"⟩, 9) := ⟨⟨by decide +kernel, by decide +kernel⟩, List.mem_of_getElem? (i := 11) (by decide +kernel), List.mem_of_getElem? (i := 122) (by decide +kernel), List.mem_of_getElem? (i := 123) (by decide +kernel)⟩
theorem lw_p5 : lw_okq (⟨"TicketCoincidences", "luckWith", "(III)I"⟩, 9) := ⟨⟨by decide +kernel, by decide +kernel⟩, List.mem_of_getElem? (i := 11) (by decide +kernel), List.mem_of_getElem? (i := 126) (by decide +kernel), List.mem_of_getElem? (i := 127) (by decide +kernel)⟩
theorem lw_p6 : lw_okq (⟨"java/lang/Throwable", "fillInStackTrace", "(I)Ljava/lang/Throwable;"⟩, 6) := ⟨⟨by decide +kernel, by decide +kernel⟩, List.mem_of_getElem? (i := 191) (by decide +kernel), List.mem_of_getElem? (i := 189) (by decide +kernel), List.mem_of_getElem? (i := 190) (by decide +kernel)⟩
theorem lw_p7 : lw_okq (⟨"TicketCoincidences", "crowdAt", "(I)I"⟩, 9) := ⟨⟨by decide +kernel, by decide +kernel⟩, List.mem_of_getElem? (i := 11) (by decide +kernel), List.mem_of_getElem? (i := 221) (by decide +kernel), List.mem_of_getElem? (i := 222) (by decide +kernel)⟩
theorem lw_p8 : lw_okq (⟨"TicketCoincidences", "requireStranger", "(I)V"⟩, 9) := ⟨⟨by decide +kernel, by decide +kernel⟩, List.mem_of_getElem? (i := 11) (by decide +kernel), List.mem_of_getElem? (i := 233) (by decide +kernel), List.mem_of_getElem? (i := 234) (by decide +kernel)⟩
theorem lw_p9 : lw_okq (⟨"TicketCoincidences", "pay", "(I)V"⟩, 9) := ⟨⟨by decide +kernel, by decide +kernel⟩, List.mem_of_getElem? (i := 11) (by decide +kernel), List.mem_of_getElem? (i := 311) (by decide +kernel), List.mem_of_getElem? (i := 312) (by decide +kernel)⟩
theorem lw_p10 : lw_okq (⟨"TicketCoincidences", "requirePair", "(II)V"⟩, 9) := ⟨⟨by decide +kernel, by decide +kernel⟩, List.mem_of_getElem? (i := 11) (by decide +kernel), List.mem_of_getElem? (i := 323) (by decide +kernel), List.mem_of_getElem? (i := 324) (by decide +kernel)⟩
theorem lw_p11 : lw_okq (⟨"TicketCoincidences", "passOneHour", "()V"⟩, 9) := ⟨⟨by decide +kernel, by decide +kernel⟩, List.mem_of_getElem? (i := 11) (by decide +kernel), List.mem_of_getElem? (i := 352) (by decide +kernel), List.mem_of_getElem? (i := 353) (by decide +kernel)⟩
theorem lw_p12 : lw_okq (⟨"TicketCoincidences", "emptyCorners", "()I"⟩, 9) := ⟨⟨by decide +kernel, by decide +kernel⟩, List.mem_of_getElem? (i := 11) (by decide +kernel), List.mem_of_getElem? (i := 356) (by decide +kernel), List.mem_of_getElem? (i := 357) (by decide +kernel)⟩
theorem lw_p13 : lw_okq (⟨"TicketCoincidencesModel", "no", "(I)I"⟩, 10) := ⟨⟨by decide +kernel, by decide +kernel⟩, List.mem_of_getElem? (i := 457) (by decide +kernel), List.mem_of_getElem? (i := 508) (by decide +kernel), List.mem_of_getElem? (i := 509) (by decide +kernel)⟩
theorem lw_p14 : lw_okq (⟨"TicketCoincidencesModel", "isOne", "(I)Z"⟩, 10) := ⟨⟨by decide +kernel, by decide +kernel⟩, List.mem_of_getElem? (i := 457) (by decide +kernel), List.mem_of_getElem? (i := 516) (by decide +kernel), List.mem_of_getElem? (i := 517) (by decide +kernel)⟩
theorem lw_p15 : lw_okq (⟨"TicketCoincidencesModel", "pay", "(I)I"⟩, 10) := ⟨⟨by decide +kernel, by decide +kernel⟩, List.mem_of_getElem? (i := 457) (by decide +kernel), List.mem_of_getElem? (i := 529) (by decide +kernel), List.mem_of_getElem? (i := 530) (by decide +kernel)⟩
def lw_privs_1 : List (MethodName × Nat) := [(⟨"TicketCoincidences", "townBehind", "(I)I"⟩, 9), (⟨"TicketCoincidences", "cornerBehind", "(II)I"⟩, 9), (⟨"TicketCoincidences", "pointsOfPair", "(II)I"⟩, 9), (⟨"TicketCoincidences", "townIfSwapped", "(II)I"⟩, 9), (⟨"TicketCoincidences", "luckNow", "(I)I"⟩, 9), (⟨"TicketCoincidences", "luckWith", "(III)I"⟩, 9), (⟨"java/lang/Throwable", "fillInStackTrace", "(I)Ljava/lang/Throwable;"⟩, 6), (⟨"TicketCoincidences", "crowdAt", "(I)I"⟩, 9), (⟨"TicketCoincidences", "requireStranger", "(I)V"⟩, 9), (⟨"TicketCoincidences", "pay", "(I)V"⟩, 9), (⟨"TicketCoincidences", "requirePair", "(II)V"⟩, 9), (⟨"TicketCoincidences", "passOneHour", "()V"⟩, 9), (⟨"TicketCoincidences", "emptyCorners", "()I"⟩, 9), (⟨"TicketCoincidencesModel", "no", "(I)I"⟩, 10), (⟨"TicketCoincidencesModel", "isOne", "(I)Z"⟩, 10), (⟨"TicketCoincidencesModel", "pay", "(I)I"⟩, 10)]
theorem lw_r1 : ∀ q ∈ lw_privs_1, lw_okq q := List.forall_mem_cons.mpr ⟨lw_p0, List.forall_mem_cons.mpr ⟨lw_p1, List.forall_mem_cons.mpr ⟨lw_p2, List.forall_mem_cons.mpr ⟨lw_p3, List.forall_mem_cons.mpr ⟨lw_p4, List.forall_mem_cons.mpr ⟨lw_p5, List.forall_mem_cons.mpr ⟨lw_p6, List.forall_mem_cons.mpr ⟨lw_p7, List.forall_mem_cons.mpr ⟨lw_p8, List.forall_mem_cons.mpr ⟨lw_p9, List.forall_mem_cons.mpr ⟨lw_p10, List.forall_mem_cons.mpr ⟨lw_p11, List.forall_mem_cons.mpr ⟨lw_p12, List.forall_mem_cons.mpr ⟨lw_p13, List.forall_mem_cons.mpr ⟨lw_p14, List.forall_mem_cons.mpr ⟨lw_p15, fun _ h => absurd h List.not_mem_nil⟩⟩⟩⟩⟩⟩⟩⟩⟩⟩⟩⟩⟩⟩⟩⟩
theorem lw_p16 : lw_okq (⟨"TicketCoincidencesModel", "wrongPair", "(II)I"⟩, 10) := ⟨⟨by decide +kernel, by decide +kernel⟩, List.mem_of_getElem? (i := 457) (by decide +kernel), List.mem_of_getElem? (i := 537) (by decide +kernel), List.mem_of_getElem? (i := 538) (by decide +kernel)⟩
theorem lw_p17 : lw_okq (⟨"TicketCoincidencesModel", "swapped", "([III)I"⟩, 10) := ⟨⟨by decide +kernel, by decide +kernel⟩, List.mem_of_getElem? (i := 457) (by decide +kernel), List.mem_of_getElem? (i := 541) (by decide +kernel), List.mem_of_getElem? (i := 542) (by decide +kernel)⟩
theorem lw_p18 : lw_okq (⟨"TicketCoincidencesModel", "here", "()I"⟩, 10) := ⟨⟨by decide +kernel, by decide +kernel⟩, List.mem_of_getElem? (i := 457) (by decide +kernel), List.mem_of_getElem? (i := 545) (by decide +kernel), List.mem_of_getElem? (i := 546) (by decide +kernel)⟩
theorem lw_p19 : lw_okq (⟨"TicketCoincidencesModel", "town", "(II)I"⟩, 10) := ⟨⟨by decide +kernel, by decide +kernel⟩, List.mem_of_getElem? (i := 457) (by decide +kernel), List.mem_of_getElem? (i := 549) (by decide +kernel), List.mem_of_getElem? (i := 550) (by decide +kernel)⟩
theorem lw_p20 : lw_okq (⟨"TicketCoincidencesModel", "cornerIn", "(II)I"⟩, 10) := ⟨⟨by decide +kernel, by decide +kernel⟩, List.mem_of_getElem? (i := 457) (by decide +kernel), List.mem_of_getElem? (i := 553) (by decide +kernel), List.mem_of_getElem? (i := 554) (by decide +kernel)⟩
theorem lw_p21 : lw_okq (⟨"TicketCoincidencesModel", "points", "(II)I"⟩, 10) := ⟨⟨by decide +kernel, by decide +kernel⟩, List.mem_of_getElem? (i := 457) (by decide +kernel), List.mem_of_getElem? (i := 557) (by decide +kernel), List.mem_of_getElem? (i := 558) (by decide +kernel)⟩
theorem lw_p22 : lw_okq (⟨"TicketCoincidencesModel", "goOn", "()V"⟩, 10) := ⟨⟨by decide +kernel, by decide +kernel⟩, List.mem_of_getElem? (i := 457) (by decide +kernel), List.mem_of_getElem? (i := 579) (by decide +kernel), List.mem_of_getElem? (i := 580) (by decide +kernel)⟩
theorem lw_p23 : lw_okq (⟨"TicketCoincidencesModel", "at", "(I)I"⟩, 10) := ⟨⟨by decide +kernel, by decide +kernel⟩, List.mem_of_getElem? (i := 457) (by decide +kernel), List.mem_of_getElem? (i := 583) (by decide +kernel), List.mem_of_getElem? (i := 584) (by decide +kernel)⟩
theorem lw_p24 : lw_okq (⟨"TicketCoincidencesModel", "ok", "(I)I"⟩, 10) := ⟨⟨by decide +kernel, by decide +kernel⟩, List.mem_of_getElem? (i := 457) (by decide +kernel), List.mem_of_getElem? (i := 591) (by decide +kernel), List.mem_of_getElem? (i := 592) (by decide +kernel)⟩
theorem lw_p25 : lw_okq (⟨"TicketCoincidencesModel", "of", "(I[I)I"⟩, 10) := ⟨⟨by decide +kernel, by decide +kernel⟩, List.mem_of_getElem? (i := 457) (by decide +kernel), List.mem_of_getElem? (i := 615) (by decide +kernel), List.mem_of_getElem? (i := 616) (by decide +kernel)⟩
theorem lw_p26 : lw_okq (⟨"TicketCoincidencesModel", "luck", "(I)I"⟩, 10) := ⟨⟨by decide +kernel, by decide +kernel⟩, List.mem_of_getElem? (i := 457) (by decide +kernel), List.mem_of_getElem? (i := 659) (by decide +kernel), List.mem_of_getElem? (i := 660) (by decide +kernel)⟩
theorem lw_p27 : lw_okq (⟨"TicketCoincidencesModel", "luckiest", "()I"⟩, 10) := ⟨⟨by decide +kernel, by decide +kernel⟩, List.mem_of_getElem? (i := 457) (by decide +kernel), List.mem_of_getElem? (i := 667) (by decide +kernel), List.mem_of_getElem? (i := 668) (by decide +kernel)⟩
theorem lw_p28 : lw_okq (⟨"TicketCoincidencesModel", "untilTogether", "(II)I"⟩, 10) := ⟨⟨by decide +kernel, by decide +kernel⟩, List.mem_of_getElem? (i := 457) (by decide +kernel), List.mem_of_getElem? (i := 679) (by decide +kernel), List.mem_of_getElem? (i := 680) (by decide +kernel)⟩
theorem lw_p29 : lw_okq (⟨"TicketCoincidencesModel", "hourOfMost", "()I"⟩, 10) := ⟨⟨by decide +kernel, by decide +kernel⟩, List.mem_of_getElem? (i := 457) (by decide +kernel), List.mem_of_getElem? (i := 691) (by decide +kernel), List.mem_of_getElem? (i := 692) (by decide +kernel)⟩
theorem lw_p30 : lw_okq (⟨"TicketCoincidencesModel", "bestOf", "([III)I"⟩, 10) := ⟨⟨by decide +kernel, by decide +kernel⟩, List.mem_of_getElem? (i := 457) (by decide +kernel), List.mem_of_getElem? (i := 699) (by decide +kernel), List.mem_of_getElem? (i := 700) (by decide +kernel)⟩
theorem lw_p31 : lw_okq (⟨"TicketCoincidencesModel", "swapOfMost", "()I"⟩, 10) := ⟨⟨by decide +kernel, by decide +kernel⟩, List.mem_of_getElem? (i := 457) (by decide +kernel), List.mem_of_getElem? (i := 707) (by decide +kernel), List.mem_of_getElem? (i := 708) (by decide +kernel)⟩
def lw_privs_2 : List (MethodName × Nat) := [(⟨"TicketCoincidencesModel", "wrongPair", "(II)I"⟩, 10), (⟨"TicketCoincidencesModel", "swapped", "([III)I"⟩, 10), (⟨"TicketCoincidencesModel", "here", "()I"⟩, 10), (⟨"TicketCoincidencesModel", "town", "(II)I"⟩, 10), (⟨"TicketCoincidencesModel", "cornerIn", "(II)I"⟩, 10), (⟨"TicketCoincidencesModel", "points", "(II)I"⟩, 10), (⟨"TicketCoincidencesModel", "goOn", "()V"⟩, 10), (⟨"TicketCoincidencesModel", "at", "(I)I"⟩, 10), (⟨"TicketCoincidencesModel", "ok", "(I)I"⟩, 10), (⟨"TicketCoincidencesModel", "of", "(I[I)I"⟩, 10), (⟨"TicketCoincidencesModel", "luck", "(I)I"⟩, 10), (⟨"TicketCoincidencesModel", "luckiest", "()I"⟩, 10), (⟨"TicketCoincidencesModel", "untilTogether", "(II)I"⟩, 10), (⟨"TicketCoincidencesModel", "hourOfMost", "()I"⟩, 10), (⟨"TicketCoincidencesModel", "bestOf", "([III)I"⟩, 10), (⟨"TicketCoincidencesModel", "swapOfMost", "()I"⟩, 10)]
theorem lw_r2 : ∀ q ∈ lw_privs_2, lw_okq q := List.forall_mem_cons.mpr ⟨lw_p16, List.forall_mem_cons.mpr ⟨lw_p17, List.forall_mem_cons.mpr ⟨lw_p18, List.forall_mem_cons.mpr ⟨lw_p19, List.forall_mem_cons.mpr ⟨lw_p20, List.forall_mem_cons.mpr ⟨lw_p21, List.forall_mem_cons.mpr ⟨lw_p22, List.forall_mem_cons.mpr ⟨lw_p23, List.forall_mem_cons.mpr ⟨lw_p24, List.forall_mem_cons.mpr ⟨lw_p25, List.forall_mem_cons.mpr ⟨lw_p26, List.forall_mem_cons.mpr ⟨lw_p27, List.forall_mem_cons.mpr ⟨lw_p28, List.forall_mem_cons.mpr ⟨lw_p29, List.forall_mem_cons.mpr ⟨lw_p30, List.forall_mem_cons.mpr ⟨lw_p31, fun _ h => absurd h List.not_mem_nil⟩⟩⟩⟩⟩⟩⟩⟩⟩⟩⟩⟩⟩⟩⟩⟩
def lw_privs : List (MethodName × Nat) := lw_privs_1 ++ (lw_privs_2)
def lw_tbl : List Cond := k2_sels lw_privs ++ tables_1
theorem lw_privs_ok : ∀ q ∈ lw_privs, lw_okq q := by
  show ∀ q ∈ lw_privs_1 ++ (lw_privs_2), lw_okq q
  exact List.forall_mem_append.mpr ⟨lw_r1, lw_r2⟩
/-- the streams that the claim lets the run draw from -/
abbrev lw_cs : List Choice := [Jvm.Choice.named "NaN.bits"]
theorem lw_bits : nanBits ∈ lw_cs := by first | decide | exact List.mem_cons_self | simp [lw_cs, nanBits]
end
section
/-! ===== BEGIN words of one list among another's, by their places ===== -/
theorem goodIn_r {big : List Cond} (ws : List Cond) (ps : List Nat) (hp : ws = ps.filterMap (fun i => big[i]?)) (h : ws.all goodWord = true) : GoodIn big ws := by
  intro w hw
  have h1 := List.all_eq_true.mp h w hw
  rw [hp] at hw
  obtain ⟨i, -, hi⟩ := List.mem_filterMap.mp hw
  have hm : w ∈ big := by first | exact List.mem_of_getElem? hi | exact List.getElem?_mem hi
  exact ⟨hm, good_of_word h1⟩
theorem goodIn_app {big a b : List Cond} (ha : GoodIn big a) (hb : GoodIn big b) : GoodIn big (a ++ b) := fun w h => (List.mem_append.mp h).elim (ha w) (hb w)
theorem goodIn_ca {big a b : List Cond} {c : Cond} (ha : GoodIn big (c :: a)) (hb : GoodIn big b) : GoodIn big (c :: (a ++ b)) := fun w h => (List.mem_cons.mp h).elim (fun e => ha w (List.mem_cons.mpr (Or.inl e))) (fun h => (List.mem_append.mp h).elim (fun h => ha w (List.mem_cons.mpr (Or.inr h))) (hb w))
theorem goodIn_sub {big ws : List Cond} (hm : ∀ w ∈ ws, w ∈ big) (h : ws.all goodWord = true) : GoodIn big ws := fun w hw => ⟨hm w hw, good_of_word (List.all_eq_true.mp h w hw)⟩
/-! ===== END ===== -/

/-! ===== BEGIN exceptions that leave a method, and their catching by the caller (launches without stack traces) ===== -/
section VXA
/-! The laws vx_back, vx_callV, vx_callS, vx_callSW, vx_throw0, vx_throwS follow proofs of the library, with one case more: JvmDerived/Free/Laws.lean (Back.of_free), Shelf42/LK1.lean (callV, callS), Shelf/KitTraced.lean (throwNew0V, throwNewS). -/
/-- where a method has thrown q: the class by its name, the cell, what was written, the world -/
def vx_T (XC : String → State → State → Prop) (st : State) (q : Addr) (t : State) (mc ms : Nat) (free : Addr → Prop) : Prop :=
  ∃ (E : String) (ce : Cell) (L : List Loc), XC E st t ∧ t.heap[q]? = some ce ∧ ce.vm = .none ∧ st.vm.findClass E = some ce.cls ∧ st.WarmedH t.vm ∧ st.sameButNew ({ t with vm := st.vm } : State) L mc ms ∧ ∀ z ∈ L, free z.base
def vx_Q (Qc : Array Value → State → Outcome → State → Prop) (XC : String → State → State → Prop) (mc ms : Nat) (free : Addr → Prop) : Array Value → State → Outcome → State → Prop := fun a st o t =>
  (Qc a st o t ∧ ∃ L, FrameEnd st o t L mc ms ∧ ∀ q ∈ L, free q.base) ∨ ∃ q, o = .threw q ∧ vx_T XC st q t mc ms free
/-- a callee that returns or throws -/
def vx_Met (l : Launch) (y : MethodName) (ws : List Cond) (rm : Room) (Pc : Array Value → State → Prop) (Qc : Array Value → State → Outcome → State → Prop) (XC : String → State → State → Prop) (mc ms : Nat) (free : Addr → Prop) : Prop :=
  MetFree l y (headSpec ws rm) Pc (fun _ _ _ _ _ => True) (vx_Q Qc XC mc ms free)
def vx_Post (XC : String → State → State → Prop) (mc ms : Nat) (free : Addr → Prop) : Pt → Array Value → Addr → Pt → Prop := fun A a q B =>
  ∃ (g : JFrame) (mk : MethodId) (t : State) (L : List Loc) (E : String) (ce : Cell), B.U.heap = t.heap ∧ B.U.vm = t.vm ∧ XC E (A.U.calling g mk a) t ∧ t.heap[q]? = some ce ∧ ce.vm = .none ∧ A.U.vm.findClass E = some ce.cls ∧ B.locs = A.locs ++ L ∧ (∀ z ∈ L, free z.base) ∧ B.cells = A.cells + mc ∧ B.slots = A.slots + ms
def vx_Back (l : Launch) (R : Room) (p : Program) (e : Env) (below : List Frame) (s : State) (sargs : Array Value) (y : MethodName) (len W9 : Nat)
    (Pre : Pt → Array Value → Prop) (Post : Pt → Array Value → Option Value → Pt → Prop) (PostX : Pt → Array Value → Addr → Pt → Prop) : Prop :=
  ∀ (m : MethodId) (meth : Method) (c : Code) (A : Pt) (g : JFrame) (ig : Instr) (mk : MethodId) (a : Array Value),
    Stand p l e R s m sargs below meth c A.U A.locs A.cells A.slots → g.method = m → g.locals.size = c.maxLocals → decode c.code g.pc = .ok (ig, len) →
    2 * g.monitorRoom + (g.stack.map fun v => v.category).sum ≤ W9 → A.U.methodNamed? y = some mk → Pre A a →
    (∃ (v : Option Value) (B : Pt), Stand p l e R s m sargs below meth c B.U B.locs B.cells B.slots ∧ Post A a v B ∧
      Steps p.tables e below (doInvoke e (A.U.setTop g) [] mk a).1 (B.U.setTop { g with pc := g.pc + len, stack := v.toList ++ g.stack })) ∨
    (∃ (q : Addr) (B : Pt), Stand p l e R s m sargs below meth c B.U B.locs B.cells B.slots ∧ PostX A a q B ∧
      Steps p.tables e below (doInvoke e (A.U.setTop g) [] mk a).1 ((B.U.setTop g).pushFrame (.throwing q)))
section Payer
variable {l : Launch} {R : Room} {p : Program} {e : Env} {below : List Frame} {s : State} {sargs : Array Value} {y : MethodName} {len W9 : Nat}
theorem vx_back {ws : List Cond} {rm : Room} {Pc : Array Value → State → Prop} {Qc : Array Value → State → Outcome → State → Prop} {XC : String → State → State → Prop} {mc ms : Nat} {free : Addr → Prop} {bytes : ByteArray} {maxL : Nat} {ret : Option FieldType}
    (hM : vx_Met l y ws rm Pc Qc XC mc ms free) (hblind : FrameBlind Pc) (hrc : rm.cells = mc) (hrs : rm.slots = ms)
    (hframes : rm.frames + 1 ≤ R.frames) (hlocals : W9 + (maxL + 11) + rm.locals ≤ R.locals)
    (hws : ∀ w ∈ ws, ∀ a' U, s.WarmedH U.vm → w.before a' U = true) (hcode : Cond.code y bytes maxL ret ∈ ws) (hinit : ∀ a' U, s.WarmedH U.vm → (Cond.initialized y.cls).before a' U = true) :
    vx_Back l R p e below s sargs y len W9 (PreOf R mc ms Pc) (PostOf Qc mc ms free) (vx_Post XC mc ms free) := by
  intro m meth c A g ig mk a X hg hsize hdg hW hn hp
  have h1 : (headSpec ws rm).pre.before a A.U = true := atoms_intro fun w hw => hws w hw _ _ X.warmed
  have h2 : (Cond.code y bytes maxL ret).before a A.U = true := hws _ hcode _ _ X.warmed
  have h3 : (Cond.initialized y.cls).before a A.U = true := hinit _ _ X.warmed
  have h4 : A.cells + (headSpec ws rm).room.cells ≤ R.cells := by rw [show (headSpec ws rm).room.cells = mc from hrc]; exact hp.1
  have h5 : A.slots + (headSpec ws rm).room.slots ≤ R.slots := by rw [show (headSpec ws rm).room.slots = ms from hrs]; exact hp.2.1
  have hPc : Pc a (A.U.calling g mk a) := hblind _ _ _ _ hp.2.2
  obtain ⟨U, Ls, c0, s0⟩ := A
  dsimp only [Pt.U, Pt.locs, Pt.cells, Pt.slots] at h1 h2 h3 h4 h5 X hn hPc ⊢
  obtain ⟨methY, cY, hmY, hcY, -, hlY, -, -, -, -⟩ := Cond.code_spec hn h2
  obtain ⟨kY, hkY, -⟩ := className_of_methodNamed hn
  have hinitY : kY.init = .initialized := Cond.initialized_spec (findClass_of_methodNamed hn) hkY h3
  have h : At U g.method c below := by rw [hg]; exact X.here
  have hlocals9 : W9 + (maxL + 11) + (headSpec ws rm).room.locals ≤ R.locals := hlocals
  have happ : (headSpec ws rm).appliesLoose y e.platform (U.calling g mk a) = true :=
    Spec.appliesLoose_calling (g := g) h hdg hn hkY hinitY
      (X.room_calling (g := g) (R' := (headSpec ws rm).room) hsize hmY hcY hframes (by rw [hlY]; omega) h4 h5) h1
  obtain ⟨mid, hmid⟩ := h.above
  have hfr : (U.setTop g).frames = (.java g :: mid) ++ below := by rw [State.frames_setTop' g h.top, hmid]; rfl
  obtain ⟨o, s₂, hsteps, -, hend, hq⟩ := Steps.callFree hM p X.admits X.cas X.clock (acts := []) hfr happ hPc trivial
  have hq' : vx_Q Qc XC mc ms free a (U.calling g mk a) o s₂ := hq
  rw [State.frames_setTop' g h.top] at hend
  obtain ⟨g₀, hg0⟩ := Option.isSome_iff_exists.mp h.top
  obtain ⟨r, hr⟩ := State.topJava?_eq_some.mp hg0
  have hr' : (({ U with heap := s₂.heap, slotsUsed := s₂.slotsUsed } : State).setVm s₂.vm).frames = .java g₀ :: r := hr
  rcases hq' with ⟨hqc, L, hfe, hL⟩ | ⟨q, rfl, E, ce, L, hx, hce, hcv, hcl, hW₂, hsm, hL⟩
  · obtain ⟨⟨v, rfl⟩, hW₂, e2, q2, q3, q4, q5, q6⟩ := id hfe
    have e3 : s₂ = ({ (U.calling g mk a).setFrames s₂.frames with heap := s₂.heap, slotsUsed := s₂.slotsUsed } : State).setVm s₂.vm := by
      have : s₂ = ({ s₂ with vm := (U.calling g mk a).vm } : State).setVm s₂.vm := rfl
      rw [e2] at this
      exact this
    obtain ⟨c₂, i₂, len₂, hc₂, hd₂, hf₂⟩ := hend
    have hW' : U.WarmedH s₂.vm := hW₂
    have hcc : c₂ = c := by
      have h1 : s₂.code? g.method = U.code? g.method := by
        rw [State.code?_eq, State.code?_eq, hW'.alike.method?]
      exact Option.some.inj (hc₂.symm.trans (h1.trans h.code))
    subst hcc
    have hlen : len₂ = len := by rw [hdg] at hd₂; cases hd₂; rfl
    subst hlen
    have hs₂ : s₂ = (({ U with heap := s₂.heap, slotsUsed := s₂.slotsUsed } : State).setVm s₂.vm).setTop { g with pc := g.pc + len₂, stack := v.toList ++ g.stack } := by
      refine e3.trans ?_
      rw [hf₂, State.calling_eq h.top, State.setFrames_setFrames, State.setTop_of_frames _ hr', hr]
      rfl
    have hsame : U.sameButNew ({ U with heap := s₂.heap, slotsUsed := s₂.slotsUsed } : State) L mc ms := by
      refine ⟨?_, q2, q3, q4, q5, q6⟩
      obtain ⟨t, ht, -⟩ := State.frames_cons hr
      show ({ U with heap := s₂.heap, slotsUsed := s₂.slotsUsed } : State) = { U.setFrames U.frames with heap := s₂.heap, slotsUsed := s₂.slotsUsed }
      rw [State.setFrames_self ht]
    subst hg
    refine Or.inl ⟨v, ⟨(({ U with heap := s₂.heap, slotsUsed := s₂.slotsUsed } : State).setVm s₂.vm), Ls ++ L, c0 + mc, s0 + ms⟩,
      ⟨X.admits, X.cas, X.clock, X.frames, X.room, X.hears, X.method, X.code, (X.here.setHeapUsed s₂.heap s₂.slotsUsed).setVm hW'.alike, X.tail, State.WarmedH.trans X.warmed hW', X.limits, X.bytes, X.same.trans (hsame.setVm s.vm)⟩,
      ⟨g, mk, s₂, L, rfl, rfl, hqc, rfl, hL, rfl, rfl⟩, ?_⟩
    show Steps p.tables e below _ ((({ U with heap := s₂.heap, slotsUsed := s₂.slotsUsed } : State).setVm s₂.vm).setTop { g with pc := g.pc + len₂, stack := v.toList ++ g.stack })
    rw [← hs₂]
    exact hsteps
  · obtain ⟨e2, q2, q3, q4, q5, q6⟩ := id hsm
    have e3 : s₂ = ({ (U.calling g mk a).setFrames s₂.frames with heap := s₂.heap, slotsUsed := s₂.slotsUsed } : State).setVm s₂.vm := by
      have : s₂ = ({ s₂ with vm := (U.calling g mk a).vm } : State).setVm s₂.vm := rfl
      rw [e2] at this
      exact this
    have hf₂ : s₂.frames = .throwing q :: .java g :: U.frames.tail := hend
    have hW' : U.WarmedH s₂.vm := hW₂
    have hs₂ : s₂ = ((({ U with heap := s₂.heap, slotsUsed := s₂.slotsUsed } : State).setVm s₂.vm).setTop g).pushFrame (.throwing q) := by
      refine e3.trans ?_
      rw [hf₂, State.calling_eq h.top, State.setFrames_setFrames, State.pushFrame, State.frames_setTop _ hr', State.setTop_of_frames _ hr', State.setFrames_setFrames, hr]
      rfl
    have hsame : U.sameButNew ({ U with heap := s₂.heap, slotsUsed := s₂.slotsUsed } : State) L mc ms := by
      refine ⟨?_, q2, q3, q4, q5, q6⟩
      obtain ⟨t, ht, -⟩ := State.frames_cons hr
      show ({ U with heap := s₂.heap, slotsUsed := s₂.slotsUsed } : State) = { U.setFrames U.frames with heap := s₂.heap, slotsUsed := s₂.slotsUsed }
      rw [State.setFrames_self ht]
    subst hg
    refine Or.inr ⟨q, ⟨(({ U with heap := s₂.heap, slotsUsed := s₂.slotsUsed } : State).setVm s₂.vm), Ls ++ L, c0 + mc, s0 + ms⟩,
      ⟨X.admits, X.cas, X.clock, X.frames, X.room, X.hears, X.method, X.code, (X.here.setHeapUsed s₂.heap s₂.slotsUsed).setVm hW'.alike, X.tail, State.WarmedH.trans X.warmed hW', X.limits, X.bytes, X.same.trans (hsame.setVm s.vm)⟩,
      ⟨g, mk, s₂, L, E, ce, rfl, rfl, hx, hce, hcv, hcl, rfl, hL, rfl, rfl⟩, ?_⟩
    show Steps p.tables e below _ (((({ U with heap := s₂.heap, slotsUsed := s₂.slotsUsed } : State).setVm s₂.vm).setTop g).pushFrame (.throwing q))
    rw [← hs₂]
    exact hsteps
end Payer
section Calls
variable {p : Program} {l : Launch} {e : Env} {R : Room} {s : State} {m : MethodId} {args : Array Value} {below : List Frame} {meth : Method} {c : Code} {T : State} {locs : List Loc} {cells slots : Nat}
theorem vx_callV (X : Stand p l e R s m args below meth c T locs cells slots) (hexec : p.tables.exec = Jvm.exec) {own C : String} {index : Nat} {y : MethodName} {bytes : ByteArray} {maxL : Nat} {ret : Option FieldType}
    (hown : s.vm.findClass own = some m.cls) (hlink : (Cond.methodLink own index y).before args s = true) (hinst : (Cond.instanceMethod y).before args s = true) (hsel : (Cond.selects C y y).before args s = true)
    (hcode : (Cond.code y bytes maxL ret).before args s = true) (hy : y.cls ≠ "java/lang/invoke/MethodHandle" ∧ y.cls ≠ "java/lang/invoke/VarHandle")
    {W9 : Nat} {Pre : Pt → Array Value → Prop} {Post : Pt → Array Value → Option Value → Pt → Prop} {PostX : Pt → Array Value → Addr → Pt → Prop} (hK : vx_Back l R p e below s args y 3 W9 Pre Post PostX)
    {b : Addr} {cellB : Cell} (hcell : T.heap[b]? = some cellB) (hobj : cellB.vm.isStatics = false) (hcls : s.vm.findClass C = some cellB.cls)
    {g : JFrame} (hg : g.method = m) (hsize : g.locals.size = c.maxLocals) {argsL rest : List Value} (hlen : ∀ sig, parseMethodDescriptor y.desc = some sig → argsL.length = sig.parameters.length)
    (hstack : g.stack = argsL.reverse ++ .ref b :: rest) (hW : 2 * g.monitorRoom + (rest.map fun v => v.category).sum ≤ W9) (hdg : decode c.code g.pc = .ok (.invokevirtual index, 3))
    (hpre : ∀ vm₁, s.WarmedH vm₁ → Pre ⟨T.setVm vm₁, locs, cells, slots⟩ (Value.ref b :: argsL).toArray) :
    (∃ (v : Option Value) (vm₁ : Vm) (B : Pt), s.WarmedH vm₁ ∧ Stand p l e R s m args below meth c B.U B.locs B.cells B.slots ∧ Post ⟨T.setVm vm₁, locs, cells, slots⟩ (Value.ref b :: argsL).toArray v B ∧
      ∀ target, Steps p.tables e below (B.U.setTop { g with pc := g.pc + 3, stack := v.toList ++ rest }) target → Steps p.tables e below (T.setTop g) target) ∨
    (∃ (q : Addr) (vm₁ : Vm) (B : Pt), s.WarmedH vm₁ ∧ Stand p l e R s m args below meth c B.U B.locs B.cells B.slots ∧ PostX ⟨T.setVm vm₁, locs, cells, slots⟩ (Value.ref b :: argsL).toArray q B ∧
      Steps p.tables e below (T.setTop g) ((B.U.setTop { g with stack := rest }).pushFrame (.throwing q))) := by
  obtain ⟨mk, methM, hnamed, hmethM, hstM, habM⟩ := Cond.instanceMethod_spec hinst
  obtain ⟨methM', cM, hmethM', -, -, -, -, -, -, hsigM⟩ := Cond.code_spec hnamed hcode
  cases hmethM.symm.trans hmethM'
  obtain ⟨c2, r2, m2, q1, q2, q3, q4, kP, hkP, hkPi⟩ := Cond.selects_spec hsel
  cases hcls.symm.trans q1
  cases (State.methodFound?_of_named hnamed hy).symm.trans q2
  cases hnamed.symm.trans q3
  have hselP : selectMethod e.platform s.vm cellB.cls mk = .method mk := by rw [Launch.admits_selectMethod X.admits]; exact q4
  obtain ⟨vm₁, X₁, hstep₁⟩ := X.invokevirtual hexec hown hlink hnamed hmethM hstM hkP hkPi hy (a := b) (cell := cellB) hcell
    (fun z h => by rw [h] at hobj; cases hobj) hselP hmethM habM hkP hkPi (g := g) hg (argsL := argsL) (rest := rest) (hlen _ hsigM) hstack hdg
  rcases hK m meth c ⟨T.setVm vm₁, locs, cells, slots⟩ { g with stack := rest } (.invokevirtual index) mk (Value.ref b :: argsL).toArray X₁ hg hsize hdg hW (X₁.named hnamed) (hpre vm₁ X₁.warmed) with ⟨v, B, X', hpost, hsteps⟩ | ⟨q, B, X', hpost, hsteps⟩
  · exact Or.inl ⟨v, vm₁, B, X₁.warmed, X', hpost, fun target h => hstep₁ _ fun acts => by rw [doInvoke_state]; exact hsteps.trans h⟩
  · exact Or.inr ⟨q, vm₁, B, X₁.warmed, X', hpost, hstep₁ _ fun acts => by rw [doInvoke_state]; exact hsteps⟩
theorem vx_callS (X : Stand p l e R s m args below meth c T locs cells slots) (hexec : p.tables.exec = Jvm.exec) {own : String} {index : Nat} {y : MethodName} {bytes : ByteArray} {maxL : Nat} {ret : Option FieldType}
    (hown : s.vm.findClass own = some m.cls) (hlink : (Cond.methodLink own index y).before args s = true) (hstat : (Cond.static y).before args s = true) (hinit : (Cond.initialized y.cls).before args s = true)
    (hcode : (Cond.code y bytes maxL ret).before args s = true) (hy : y.cls ≠ "java/lang/invoke/MethodHandle" ∧ y.cls ≠ "java/lang/invoke/VarHandle")
    {W9 : Nat} {Pre : Pt → Array Value → Prop} {Post : Pt → Array Value → Option Value → Pt → Prop} {PostX : Pt → Array Value → Addr → Pt → Prop} (hK : vx_Back l R p e below s args y 3 W9 Pre Post PostX)
    {g : JFrame} (hg : g.method = m) (hsize : g.locals.size = c.maxLocals) {argsL rest : List Value} (hlen : ∀ sig, parseMethodDescriptor y.desc = some sig → argsL.length = sig.parameters.length)
    (hstack : g.stack = argsL.reverse ++ rest) (hW : 2 * g.monitorRoom + (rest.map fun v => v.category).sum ≤ W9) (hdg : decode c.code g.pc = .ok (.invokestatic index, 3))
    (hpre : ∀ vm₁, s.WarmedH vm₁ → Pre ⟨T.setVm vm₁, locs, cells, slots⟩ argsL.toArray) :
    (∃ (v : Option Value) (vm₁ : Vm) (B : Pt), s.WarmedH vm₁ ∧ Stand p l e R s m args below meth c B.U B.locs B.cells B.slots ∧ Post ⟨T.setVm vm₁, locs, cells, slots⟩ argsL.toArray v B ∧
      ∀ target, Steps p.tables e below (B.U.setTop { g with pc := g.pc + 3, stack := v.toList ++ rest }) target → Steps p.tables e below (T.setTop g) target) ∨
    (∃ (q : Addr) (vm₁ : Vm) (B : Pt), s.WarmedH vm₁ ∧ Stand p l e R s m args below meth c B.U B.locs B.cells B.slots ∧ PostX ⟨T.setVm vm₁, locs, cells, slots⟩ argsL.toArray q B ∧
      Steps p.tables e below (T.setTop g) ((B.U.setTop { g with stack := rest }).pushFrame (.throwing q))) := by
  obtain ⟨mk, hnamed⟩ := Cond.code_named hcode
  obtain ⟨methM, cM, hmethM, -, -, -, -, -, -, hsigM⟩ := Cond.code_spec hnamed hcode
  have hstatic : methM.isStatic = true := Cond.static_spec hnamed hmethM hstat
  obtain ⟨kP, hkP, -⟩ := className_of_methodNamed hnamed
  have hinitP : kP.init = .initialized := Cond.initialized_spec (findClass_of_methodNamed hnamed) hkP hinit
  obtain ⟨vm₁, X₁, hstep₁⟩ := X.invokestatic hexec hown hlink hnamed hmethM hstatic hkP hinitP hy (g := g) hg (argsL := argsL) (rest := rest) (hlen _ hsigM) hstack hdg
  rcases hK m meth c ⟨T.setVm vm₁, locs, cells, slots⟩ { g with stack := rest } (.invokestatic index) mk argsL.toArray X₁ hg hsize hdg hW (X₁.named hnamed) (hpre vm₁ X₁.warmed) with ⟨v, B, X', hpost, hsteps⟩ | ⟨q, B, X', hpost, hsteps⟩
  · exact Or.inl ⟨v, vm₁, B, X₁.warmed, X', hpost, fun target h => hstep₁ _ fun acts => by rw [doInvoke_state]; exact hsteps.trans h⟩
  · exact Or.inr ⟨q, vm₁, B, X₁.warmed, X', hpost, hstep₁ _ fun acts => by rw [doInvoke_state]; exact hsteps⟩
end Calls
theorem vx_cls {s : State} {T : State} {vm₁ : Vm} {E : String} {k : ClassId} (hW : s.WarmedH vm₁) (h : (T.setVm vm₁).vm.findClass E = some k) : s.vm.findClass E = some k := by
  have h1 : vm₁.findClass E = some k := h
  rw [hW.alike.findClass] at h1
  exact h1
/-- the method's frame g, with q thrown over it -/
def vx_W (p : Program) (l : Launch) (e : Env) (R : Room) (s : State) (m : MethodId) (args : Array Value) (below : List Frame) (meth : Method) (c : Code) (H : Heap) (locs : List Loc) (cells slots : Nat) (Q : State → Prop) (g : JFrame) (q : Addr) : Prop :=
  ∀ T : State, T.heap = H → Stand p l e R s m args below meth c T locs cells slots → ∃ t, Steps p.tables e below ((T.setTop g).pushFrame (.throwing q)) t ∧ Q t
def vx_Run (p : Program) (l : Launch) (e : Env) (R : Room) (s : State) (m : MethodId) (args : Array Value) (below : List Frame) (meth : Method) (c : Code) (H : Heap) (locs : List Loc) (cells slots mc ms : Nat) (g : JFrame) (rest : List Value) (Qa : State → Outcome → State → Prop) (XC : String → State → State → Prop) (free : Addr → Prop) : Prop :=
  ∀ T : State, T.heap = H → Stand p l e R s m args below meth c T locs cells slots →
    (∃ (v : Option Value) (st₀ t T' : State) (L : List Loc), st₀.heap = H ∧ Stand p l e R s m args below meth c T' (locs ++ L) (cells + mc) (slots + ms) ∧ (∀ q ∈ L, free q.base) ∧ T'.heap = t.heap ∧ T'.vm = t.vm ∧ Qa st₀ (.returned v) t ∧
      Goes p e below T g T' { g with pc := g.pc + 3, stack := v.toList ++ rest }) ∨
    (∃ (q : Addr) (st₀ t T' : State) (L : List Loc) (E : String) (ce : Cell), st₀.heap = H ∧ Stand p l e R s m args below meth c T' (locs ++ L) (cells + mc) (slots + ms) ∧ (∀ z ∈ L, free z.base) ∧ T'.heap = t.heap ∧ T'.vm = t.vm ∧ XC E st₀ t ∧ t.heap[q]? = some ce ∧ ce.vm = .none ∧ s.vm.findClass E = some ce.cls ∧
      Steps p.tables e below (T.setTop g) ((T'.setTop { g with stack := rest }).pushFrame (.throwing q)))
def vx_X {S : Type} (px : S → Prop) (B : String → S → State → Prop) (A : Nat → Prop) : String → State → State → Prop := fun E st t => ∃ u : S, px u ∧ B E u t ∧ va_F A st t
section Runs
variable {p : Program} {l : Launch} {e : Env} {R : Room} {s : State} {m : MethodId} {args : Array Value} {below : List Frame} {meth : Method} {c : Code} {H : Heap} {locs : List Loc} {cells slots : Nat}
variable {y : MethodName} {bytes cc : ByteArray} {maxL nL mc ms n index : Nat} {ret : Option FieldType} {ws : List Cond} {rm : Room} {Pc : Array Value → State → Prop} {Qc : Array Value → State → Outcome → State → Prop} {XC : String → State → State → Prop} {free : Addr → Prop} {Ts : List Cond} {own C : String} {b : Addr} {As rest : List Value} {g : JFrame}
theorem vx_callBack (cb : CallB R s args own index y bytes maxL ret ws rm mc ms n) (hM : vx_Met l y ws rm Pc Qc XC mc ms free) (hbl : FrameBlind Pc) : vx_Back l R p e below s args y 3 8 (PreOf R mc ms Pc) (PostOf Qc mc ms free) (vx_Post XC mc ms free) := by
  obtain ⟨hrc, hrs, hfr, hlo, hws, hcw, -, hini, -⟩ := cb
  exact vx_back (bytes := bytes) (maxL := maxL) (ret := ret) hM hbl hrc hrs hfr hlo hws hcw (fun a' U hW => word_at hW (Or.inl (by first | rfl | simp [Cond.onTables, Cond.keeps, Cond.steady])) hini)
theorem vx_runV (S : CallFix p m c cc nL s args Ts own) (hM : vx_Met l y ws rm Pc Qc XC mc ms free) (cw : CallW R s args own C index y bytes maxL ret ws rm mc ms n) (hp : PreV s H C b Pc As)
    (hg : g.method = m) (hn : As.length = n) (hsize : g.locals.size = nL) (hstack : g.stack = As.reverse ++ .ref b :: rest) (hW : 2 * g.monitorRoom + (rest.map fun v => v.category).sum ≤ 8) (hdg : decode cc g.pc = .ok (.invokevirtual index, 3)) (hf : cells + mc ≤ R.cells ∧ slots + ms ≤ R.slots) :
    vx_Run p l e R s m args below meth c H locs cells slots mc ms g rest (Qc (Value.ref b :: As).toArray) XC free := by
  have hK : vx_Back l R p e below s args y 3 8 (PreOf R mc ms Pc) (PostOf Qc mc ms free) (vx_Post XC mc ms free) := vx_callBack cw.1 hM hp.1
  obtain ⟨⟨-, -, -, -, -, -, hcode, -, hy, hlen, hl⟩, hin, hse⟩ := cw
  obtain ⟨hx, hb, hml, ho, -⟩ := S
  obtain ⟨-, ⟨cellB, hcB, hoB, hclB⟩, hPc⟩ := hp
  intro T hT X
  rcases vx_callV X hx (C := C) (bytes := bytes) (maxL := maxL) (ret := ret) ho hl hin hse hcode hy hK (by rw [hT]; exact hcB) hoB hclB hg (hsize.trans hml.symm) (argsL := As) (rest := rest) (fun sig h => hn.trans (hlen sig h)) hstack hW (by rw [hb]; exact hdg)
    (fun vm₁ hW₁ => ⟨hf.1, hf.2, hPc (T.setVm vm₁) hT hW₁⟩) with ⟨v, vm₁, ⟨U', l2, c2, s2⟩, hW₁, X', ⟨g', mk, t, L, e1, e2, hq, h1, hL, h2, h3⟩, st⟩ | ⟨q, vm₁, ⟨U', l2, c2, s2⟩, hW₁, X', ⟨g', mk, t, L, E, ce, e1, e2, hq, hce, hcv, hcl, h1, hL, h2, h3⟩, st⟩
  · dsimp only [Pt.U, Pt.locs, Pt.cells, Pt.slots] at X' e1 e2 h1 h2 h3 st
    subst h1; subst h2; subst h3
    exact Or.inl ⟨v, (T.setVm vm₁).calling g' mk (Value.ref b :: As).toArray, t, U', L, hT, X', hL, e1, e2, hq, st⟩
  · dsimp only [Pt.U, Pt.locs, Pt.cells, Pt.slots] at X' e1 e2 h1 h2 h3 st hcl
    subst h1; subst h2; subst h3
    exact Or.inr ⟨q, (T.setVm vm₁).calling g' mk (Value.ref b :: As).toArray, t, U', L, E, ce, hT, X', hL, e1, e2, hq, hce, hcv, vx_cls hW₁ hcl, st⟩
theorem vx_runS (S : CallFix p m c cc nL s args Ts own) (hM : vx_Met l y ws rm Pc Qc XC mc ms free) (cw : CallB R s args own index y bytes maxL ret ws rm mc ms n ∧ (Cond.static y).before args s = true) (hp : PreS s H Pc As)
    (hg : g.method = m) (hn : As.length = n) (hsize : g.locals.size = nL) (hstack : g.stack = As.reverse ++ rest) (hW : 2 * g.monitorRoom + (rest.map fun v => v.category).sum ≤ 8) (hdg : decode cc g.pc = .ok (.invokestatic index, 3)) (hf : cells + mc ≤ R.cells ∧ slots + ms ≤ R.slots) :
    vx_Run p l e R s m args below meth c H locs cells slots mc ms g rest (Qc As.toArray) XC free := by
  have hK : vx_Back l R p e below s args y 3 8 (PreOf R mc ms Pc) (PostOf Qc mc ms free) (vx_Post XC mc ms free) := vx_callBack cw.1 hM hp.1
  obtain ⟨⟨-, -, -, -, -, -, hcode, hini, hy, hlen, hl⟩, hstt⟩ := cw
  obtain ⟨hx, hb, hml, ho, -⟩ := S
  intro T hT X
  rcases vx_callS X hx (bytes := bytes) (maxL := maxL) (ret := ret) ho hl hstt hini hcode hy hK hg (hsize.trans hml.symm) (argsL := As) (rest := rest) (fun sig h => hn.trans (hlen sig h)) hstack hW (by rw [hb]; exact hdg)
    (fun vm₁ hW₁ => ⟨hf.1, hf.2, hp.2 (T.setVm vm₁) hT hW₁⟩) with ⟨v, vm₁, ⟨U', l2, c2, s2⟩, hW₁, X', ⟨g', mk, t, L, e1, e2, hq, h1, hL, h2, h3⟩, st⟩ | ⟨q, vm₁, ⟨U', l2, c2, s2⟩, hW₁, X', ⟨g', mk, t, L, E, ce, e1, e2, hq, hce, hcv, hcl, h1, hL, h2, h3⟩, st⟩
  · dsimp only [Pt.U, Pt.locs, Pt.cells, Pt.slots] at X' e1 e2 h1 h2 h3 st
    subst h1; subst h2; subst h3
    exact Or.inl ⟨v, (T.setVm vm₁).calling g' mk As.toArray, t, U', L, hT, X', hL, e1, e2, hq, st⟩
  · dsimp only [Pt.U, Pt.locs, Pt.cells, Pt.slots] at X' e1 e2 h1 h2 h3 st hcl
    subst h1; subst h2; subst h3
    exact Or.inr ⟨q, (T.setVm vm₁).calling g' mk As.toArray, t, U', L, E, ce, hT, X', hL, e1, e2, hq, hce, hcv, vx_cls hW₁ hcl, st⟩
end Runs
section Rows
variable {p : Program} {l : Launch} {e : Env} {R : Room} {s : State} {m : MethodId} {args : Array Value} {below : List Frame} {meth : Method} {c : Code} {H : Heap} {locs : List Loc} {cells slots : Nat} {Q : State → Prop}
variable {mc ms : Nat} {free : Addr → Prop} {A0 A1 : Nat → Prop} {H0 : Heap} {a : Array Value} {pc : Nat} {ls : Array Slot} {st0 rest : List Value}
theorem vx_keep {st₀ t T' : State} {L : List Loc} (h0 : st₀.heap = H) (e1 : T'.heap = t.heap) (hS : va_S A0 H0 H locs) (hA : ∀ q, q < H.size → A1 q → A0 q) (hf : ∀ q, free q → A0 q) (hL : ∀ q ∈ L, free q.base) (hF : va_F A1 st₀ t) :
    H.size ≤ T'.heap.size ∧ (∀ q : Nat, q < H.size → ¬ A1 q → T'.heap[q]? = H[q]?) ∧ va_S A0 H0 T'.heap (locs ++ L) := by
  obtain ⟨hz, hk⟩ := hF
  rw [h0] at hz hk
  exact ⟨by rw [e1]; exact hz, fun q h1 h2 => by rw [e1]; exact hk q h1 h2,
    ⟨Nat.le_trans hS.1 (by rw [e1]; exact hz), fun q h1 h2 => by rw [e1, hk q (Nat.lt_of_lt_of_le h1 hS.1) (fun z => h2 (hA q (Nat.lt_of_lt_of_le h1 hS.1) z))]; exact hS.2.1 q h1 h2, fun q hq => by
      rcases List.mem_append.mp hq with h | h
      · exact hS.2.2 q h
      · exact hf _ (hL q h)⟩⟩
theorem vx_calli {S SX : Type} {post : Int32 → S → Prop} {px : SX → Prop} {B : S → State → Prop} {BX : String → SX → State → Prop} {AX : Nat → Prop} (hr : vx_Run p l e R s m args below meth c H locs cells slots mc ms (F0 m pc ls st0) rest (va_Qi post B A1 a) (vx_X px BX AX) free) (hS : va_S A0 H0 H locs) (hA : ∀ q, q < H.size → A1 q → A0 q) (hf : ∀ q, free q → A0 q) (hAX : ∀ q, q < H.size → AX q → A0 q)
    (kx : ∀ (E : String) (ce : Cell) (q9 : Addr) (u : SX) (t : State) (H1 : Heap) (locs1 : List Loc), t.heap = H1 → s.vm.Alike t.vm → px u → BX E u t → H.size ≤ H1.size → (∀ q : Nat, q < H.size → ¬ AX q → H1[q]? = H[q]?) → va_S A0 H0 H1 locs1 → H1[q9]? = some ce → ce.vm = .none → s.vm.findClass E = some ce.cls → vx_W p l e R s m args below meth c H1 locs1 (cells + mc) (slots + ms) Q (F0 m pc ls rest) q9)
    (kk : ∀ (r : Int32) (u : S) (t : State) (H1 : Heap) (locs1 : List Loc), t.heap = H1 → s.vm.Alike t.vm → post r u → B u t → H.size ≤ H1.size → (∀ q : Nat, q < H.size → ¬ A1 q → H1[q]? = H[q]?) → va_S A0 H0 H1 locs1 → W p l e R s m args below meth c H1 locs1 (cells + mc) (slots + ms) Q (F0 m (pc + 3) ls (.int r :: rest))) : W p l e R s m args below meth c H locs cells slots Q (F0 m pc ls st0) := by
  intro T hT X
  rcases hr T hT X with ⟨v, st₀, t, T', L, h0, X', hL, e1, e2, ⟨⟨r, u, hv, hp, hb⟩, hF⟩, st⟩ | ⟨q, st₀, t, T', L, E, ce, h0, X', hL, e1, e2, ⟨u, hp, hb, hF⟩, hce, hcv, hcl, st⟩
  · cases hv
    obtain ⟨k1, k2, k3⟩ := vx_keep h0 e1 hS hA hf hL hF
    obtain ⟨t2, a1, b1⟩ := kk r u t T'.heap (locs ++ L) e1.symm (by rw [← e2]; exact X'.warmed.alike) hp hb k1 k2 k3 T' rfl X'
    exact ⟨t2, st t2 a1, b1⟩
  · obtain ⟨k1, k2, k3⟩ := vx_keep h0 e1 hS hAX hf hL hF
    obtain ⟨t2, a1, b1⟩ := kx E ce q u t T'.heap (locs ++ L) e1.symm (by rw [← e2]; exact X'.warmed.alike) hp hb k1 k2 k3 (by rw [e1]; exact hce) hcv hcl T' rfl X'
    exact ⟨t2, st.trans a1, b1⟩
theorem vx_calll {S SX : Type} {post : Int64 → S → Prop} {px : SX → Prop} {B : S → State → Prop} {BX : String → SX → State → Prop} {AX : Nat → Prop} (hr : vx_Run p l e R s m args below meth c H locs cells slots mc ms (F0 m pc ls st0) rest (va_Ql post B A1 a) (vx_X px BX AX) free) (hS : va_S A0 H0 H locs) (hA : ∀ q, q < H.size → A1 q → A0 q) (hf : ∀ q, free q → A0 q) (hAX : ∀ q, q < H.size → AX q → A0 q)
    (kx : ∀ (E : String) (ce : Cell) (q9 : Addr) (u : SX) (t : State) (H1 : Heap) (locs1 : List Loc), t.heap = H1 → s.vm.Alike t.vm → px u → BX E u t → H.size ≤ H1.size → (∀ q : Nat, q < H.size → ¬ AX q → H1[q]? = H[q]?) → va_S A0 H0 H1 locs1 → H1[q9]? = some ce → ce.vm = .none → s.vm.findClass E = some ce.cls → vx_W p l e R s m args below meth c H1 locs1 (cells + mc) (slots + ms) Q (F0 m pc ls rest) q9)
    (kk : ∀ (r : Int64) (u : S) (t : State) (H1 : Heap) (locs1 : List Loc), t.heap = H1 → s.vm.Alike t.vm → post r u → B u t → H.size ≤ H1.size → (∀ q : Nat, q < H.size → ¬ A1 q → H1[q]? = H[q]?) → va_S A0 H0 H1 locs1 → W p l e R s m args below meth c H1 locs1 (cells + mc) (slots + ms) Q (F0 m (pc + 3) ls (.long r :: rest))) : W p l e R s m args below meth c H locs cells slots Q (F0 m pc ls st0) := by
  intro T hT X
  rcases hr T hT X with ⟨v, st₀, t, T', L, h0, X', hL, e1, e2, ⟨⟨r, u, hv, hp, hb⟩, hF⟩, st⟩ | ⟨q, st₀, t, T', L, E, ce, h0, X', hL, e1, e2, ⟨u, hp, hb, hF⟩, hce, hcv, hcl, st⟩
  · cases hv
    obtain ⟨k1, k2, k3⟩ := vx_keep h0 e1 hS hA hf hL hF
    obtain ⟨t2, a1, b1⟩ := kk r u t T'.heap (locs ++ L) e1.symm (by rw [← e2]; exact X'.warmed.alike) hp hb k1 k2 k3 T' rfl X'
    exact ⟨t2, st t2 a1, b1⟩
  · obtain ⟨k1, k2, k3⟩ := vx_keep h0 e1 hS hAX hf hL hF
    obtain ⟨t2, a1, b1⟩ := kx E ce q u t T'.heap (locs ++ L) e1.symm (by rw [← e2]; exact X'.warmed.alike) hp hb k1 k2 k3 (by rw [e1]; exact hce) hcv hcl T' rfl X'
    exact ⟨t2, st.trans a1, b1⟩
theorem vx_callf {S SX : Type} {post : UInt32 → S → Prop} {px : SX → Prop} {B : S → State → Prop} {BX : String → SX → State → Prop} {AX : Nat → Prop} (hr : vx_Run p l e R s m args below meth c H locs cells slots mc ms (F0 m pc ls st0) rest (va_Qf post B A1 a) (vx_X px BX AX) free) (hS : va_S A0 H0 H locs) (hA : ∀ q, q < H.size → A1 q → A0 q) (hf : ∀ q, free q → A0 q) (hAX : ∀ q, q < H.size → AX q → A0 q)
    (kx : ∀ (E : String) (ce : Cell) (q9 : Addr) (u : SX) (t : State) (H1 : Heap) (locs1 : List Loc), t.heap = H1 → s.vm.Alike t.vm → px u → BX E u t → H.size ≤ H1.size → (∀ q : Nat, q < H.size → ¬ AX q → H1[q]? = H[q]?) → va_S A0 H0 H1 locs1 → H1[q9]? = some ce → ce.vm = .none → s.vm.findClass E = some ce.cls → vx_W p l e R s m args below meth c H1 locs1 (cells + mc) (slots + ms) Q (F0 m pc ls rest) q9)
    (kk : ∀ (r : UInt32) (u : S) (t : State) (H1 : Heap) (locs1 : List Loc), t.heap = H1 → s.vm.Alike t.vm → post r u → B u t → H.size ≤ H1.size → (∀ q : Nat, q < H.size → ¬ A1 q → H1[q]? = H[q]?) → va_S A0 H0 H1 locs1 → W p l e R s m args below meth c H1 locs1 (cells + mc) (slots + ms) Q (F0 m (pc + 3) ls (.float r :: rest))) : W p l e R s m args below meth c H locs cells slots Q (F0 m pc ls st0) := by
  intro T hT X
  rcases hr T hT X with ⟨v, st₀, t, T', L, h0, X', hL, e1, e2, ⟨⟨r, u, hv, hp, hb⟩, hF⟩, st⟩ | ⟨q, st₀, t, T', L, E, ce, h0, X', hL, e1, e2, ⟨u, hp, hb, hF⟩, hce, hcv, hcl, st⟩
  · cases hv
    obtain ⟨k1, k2, k3⟩ := vx_keep h0 e1 hS hA hf hL hF
    obtain ⟨t2, a1, b1⟩ := kk r u t T'.heap (locs ++ L) e1.symm (by rw [← e2]; exact X'.warmed.alike) hp hb k1 k2 k3 T' rfl X'
    exact ⟨t2, st t2 a1, b1⟩
  · obtain ⟨k1, k2, k3⟩ := vx_keep h0 e1 hS hAX hf hL hF
    obtain ⟨t2, a1, b1⟩ := kx E ce q u t T'.heap (locs ++ L) e1.symm (by rw [← e2]; exact X'.warmed.alike) hp hb k1 k2 k3 (by rw [e1]; exact hce) hcv hcl T' rfl X'
    exact ⟨t2, st.trans a1, b1⟩
theorem vx_calld {S SX : Type} {post : UInt64 → S → Prop} {px : SX → Prop} {B : S → State → Prop} {BX : String → SX → State → Prop} {AX : Nat → Prop} (hr : vx_Run p l e R s m args below meth c H locs cells slots mc ms (F0 m pc ls st0) rest (va_Qd post B A1 a) (vx_X px BX AX) free) (hS : va_S A0 H0 H locs) (hA : ∀ q, q < H.size → A1 q → A0 q) (hf : ∀ q, free q → A0 q) (hAX : ∀ q, q < H.size → AX q → A0 q)
    (kx : ∀ (E : String) (ce : Cell) (q9 : Addr) (u : SX) (t : State) (H1 : Heap) (locs1 : List Loc), t.heap = H1 → s.vm.Alike t.vm → px u → BX E u t → H.size ≤ H1.size → (∀ q : Nat, q < H.size → ¬ AX q → H1[q]? = H[q]?) → va_S A0 H0 H1 locs1 → H1[q9]? = some ce → ce.vm = .none → s.vm.findClass E = some ce.cls → vx_W p l e R s m args below meth c H1 locs1 (cells + mc) (slots + ms) Q (F0 m pc ls rest) q9)
    (kk : ∀ (r : UInt64) (u : S) (t : State) (H1 : Heap) (locs1 : List Loc), t.heap = H1 → s.vm.Alike t.vm → post r u → B u t → H.size ≤ H1.size → (∀ q : Nat, q < H.size → ¬ A1 q → H1[q]? = H[q]?) → va_S A0 H0 H1 locs1 → W p l e R s m args below meth c H1 locs1 (cells + mc) (slots + ms) Q (F0 m (pc + 3) ls (.double r :: rest))) : W p l e R s m args below meth c H locs cells slots Q (F0 m pc ls st0) := by
  intro T hT X
  rcases hr T hT X with ⟨v, st₀, t, T', L, h0, X', hL, e1, e2, ⟨⟨r, u, hv, hp, hb⟩, hF⟩, st⟩ | ⟨q, st₀, t, T', L, E, ce, h0, X', hL, e1, e2, ⟨u, hp, hb, hF⟩, hce, hcv, hcl, st⟩
  · cases hv
    obtain ⟨k1, k2, k3⟩ := vx_keep h0 e1 hS hA hf hL hF
    obtain ⟨t2, a1, b1⟩ := kk r u t T'.heap (locs ++ L) e1.symm (by rw [← e2]; exact X'.warmed.alike) hp hb k1 k2 k3 T' rfl X'
    exact ⟨t2, st t2 a1, b1⟩
  · obtain ⟨k1, k2, k3⟩ := vx_keep h0 e1 hS hAX hf hL hF
    obtain ⟨t2, a1, b1⟩ := kx E ce q u t T'.heap (locs ++ L) e1.symm (by rw [← e2]; exact X'.warmed.alike) hp hb k1 k2 k3 (by rw [e1]; exact hce) hcv hcl T' rfl X'
    exact ⟨t2, st.trans a1, b1⟩
theorem vx_callv {S SX : Type} {post : S → Prop} {px : SX → Prop} {B : S → State → Prop} {BX : String → SX → State → Prop} {AX : Nat → Prop} (hr : vx_Run p l e R s m args below meth c H locs cells slots mc ms (F0 m pc ls st0) rest (va_Qv post B A1 a) (vx_X px BX AX) free) (hS : va_S A0 H0 H locs) (hA : ∀ q, q < H.size → A1 q → A0 q) (hf : ∀ q, free q → A0 q) (hAX : ∀ q, q < H.size → AX q → A0 q)
    (kx : ∀ (E : String) (ce : Cell) (q9 : Addr) (u : SX) (t : State) (H1 : Heap) (locs1 : List Loc), t.heap = H1 → s.vm.Alike t.vm → px u → BX E u t → H.size ≤ H1.size → (∀ q : Nat, q < H.size → ¬ AX q → H1[q]? = H[q]?) → va_S A0 H0 H1 locs1 → H1[q9]? = some ce → ce.vm = .none → s.vm.findClass E = some ce.cls → vx_W p l e R s m args below meth c H1 locs1 (cells + mc) (slots + ms) Q (F0 m pc ls rest) q9)
    (kk : ∀ (u : S) (t : State) (H1 : Heap) (locs1 : List Loc), t.heap = H1 → s.vm.Alike t.vm → post u → B u t → H.size ≤ H1.size → (∀ q : Nat, q < H.size → ¬ A1 q → H1[q]? = H[q]?) → va_S A0 H0 H1 locs1 → W p l e R s m args below meth c H1 locs1 (cells + mc) (slots + ms) Q (F0 m (pc + 3) ls (rest))) : W p l e R s m args below meth c H locs cells slots Q (F0 m pc ls st0) := by
  intro T hT X
  rcases hr T hT X with ⟨v, st₀, t, T', L, h0, X', hL, e1, e2, ⟨⟨u, hv, hp, hb⟩, hF⟩, st⟩ | ⟨q, st₀, t, T', L, E, ce, h0, X', hL, e1, e2, ⟨u, hp, hb, hF⟩, hce, hcv, hcl, st⟩
  · cases hv
    obtain ⟨k1, k2, k3⟩ := vx_keep h0 e1 hS hA hf hL hF
    obtain ⟨t2, a1, b1⟩ := kk u t T'.heap (locs ++ L) e1.symm (by rw [← e2]; exact X'.warmed.alike) hp hb k1 k2 k3 T' rfl X'
    exact ⟨t2, st t2 a1, b1⟩
  · obtain ⟨k1, k2, k3⟩ := vx_keep h0 e1 hS hAX hf hL hF
    obtain ⟨t2, a1, b1⟩ := kx E ce q u t T'.heap (locs ++ L) e1.symm (by rw [← e2]; exact X'.warmed.alike) hp hb k1 k2 k3 (by rw [e1]; exact hce) hcv hcl T' rfl X'
    exact ⟨t2, st.trans a1, b1⟩
/-- caught by the row x of this method's table; the rows ahead don't take it -/
theorem vx_catch {own name : String} {E : String} {ce : Cell} {q : Addr} (hown : s.vm.findClass own = some m.cls) (pre : List ExceptionTableEntry) (x : ExceptionTableEntry) (suf : List ExceptionTableEntry) (hsplit : c.exceptionTable.toList = pre ++ x :: suf)
    (hpass : ∀ z ∈ pre, covers z pc = false ∨ (z.catchType ≠ 0 ∧ ∃ nm : String, (Cond.classLink own z.catchType nm).before args s = true ∧ va_Nc E nm s)) (hx : covers x pc = true) (h0 : x.catchType ≠ 0)
    (hlink : (Cond.classLink own x.catchType name).before args s = true) (hcast : (Cond.castable E name).before args s = true) (hcell : H[q]? = some ce) (hv : ce.vm = .none) (hcl : s.vm.findClass E = some ce.cls)
    (kk : W p l e R s m args below meth c H locs cells slots Q (F0 m x.handlerPc ls [.ref q])) : vx_W p l e R s m args below meth c H locs cells slots Q (F0 m pc ls rest) q := by
  intro T hT X
  have hpl : e.platform.magicAccessors = ({} : Platform).magicAccessors := by rw [X.admits.platform]
  obtain ⟨c3, c4, hc3, hc4, hasg⟩ := Cond.castable_spec hcast
  cases Option.some.inj (hc3.symm.trans hcl)
  obtain ⟨c5, hc5, hcl5⟩ := Cond.classLink_spec hown hlink e.platform hpl
  cases Option.some.inj (hc4.symm.trans hc5)
  obtain ⟨vm', X', st⟩ := X.thenCaughtThrough q (g := F0 m pc ls rest) rfl (Steps.refl _) (by rw [hT]; exact hcell) (by rw [hv]; rfl) (by obtain ⟨k9, h9, -⟩ := Vm.findClass_spec hcl; exact ⟨k9, h9⟩) pre x suf hsplit
    (fun z hz => by
      rcases hpass z hz with h | ⟨hz0, nm, hl1, hn1⟩
      · exact Or.inl h
      · obtain ⟨c6, hc6, hcl6⟩ := Cond.classLink_spec hown hl1 e.platform hpl
        obtain ⟨a8, b8, h1, h2, h3⟩ := hn1
        cases Option.some.inj (h1.symm.trans hcl)
        cases Option.some.inj (h2.symm.trans hc6)
        exact Or.inr ⟨hz0, _, hcl6, h3⟩) hx (Or.inr ⟨h0, c4, hcl5, hasg⟩)
  obtain ⟨t, a1, b1⟩ := kk (T.setVm vm') hT X'
  exact ⟨t, st.trans a1, b1⟩
end Rows
section Ends
variable {p : Program} {l : Launch} {e : Env} {R : Room} {s : State} {m : MethodId} {args : Array Value} {below : List Frame} {meth : Method} {c : Code} {H : Heap} {locs : List Loc} {cells slots : Nat} {Q : State → Prop}
variable {mc ms : Nat} {free : Addr → Prop} {A0 A1 : Nat → Prop} {H0 : Heap} {a : Array Value} {ls : Array Slot} {st0 rest : List Value}
variable {Qc : Array Value → State → Outcome → State → Prop} {XC : String → State → State → Prop}
/-- what a body that may throw owes at its end -/
def vx_MQ (below : List Frame) (Qc : Array Value → State → Outcome → State → Prop) (XC : String → State → State → Prop) (a : Array Value) (s : State) (mc ms : Nat) (free : Addr → Prop) : State → Prop := fun t =>
  ∃ o, t.status = .running ∧ Ended t below o ∧ vx_Q Qc XC mc ms free a s o t
theorem vx_ret {g : JFrame} {mc ms : Nat} (k : W p l e R s m args below meth c H locs cells slots (MQ below Qc args s mc ms free) g) : W p l e R s m args below meth c H locs cells slots (vx_MQ below Qc XC args s mc ms free) g := by
  intro T hT X
  obtain ⟨t, a1, o, b1, b2, b3, b4⟩ := k T hT X
  exact ⟨t, a1, o, b1, b2, Or.inl ⟨b3, b4⟩⟩
/-- not caught here: it goes on to the caller -/
theorem vx_widen {g : JFrame} {q : Addr} {k n : Nat} (h1 : cells ≤ k) (h2 : slots ≤ n) (kk : vx_W p l e R s m args below meth c H locs k n Q g q) : vx_W p l e R s m args below meth c H locs cells slots Q g q := fun T hT X => kk T hT (stand_widen X h1 h2)
theorem vx_out {pc : Nat} {E : String} {ce : Cell} {q : Addr} {mc ms : Nat} (hout : ∀ x ∈ c.exceptionTable.toList, covers x pc = false) (hlocks : meth.locks = false) (hcell : H[q]? = some ce) (hv : ce.vm = .none) (hcl : s.vm.findClass E = some ce.cls)
    (hx : ∀ t : State, t.heap = H → s.vm.Alike t.vm → XC E s t) (hf : ∀ z ∈ locs, free z.base) (hc : cells ≤ mc) (hs : slots ≤ ms) :
    vx_W p l e R s m args below meth c H locs cells slots (vx_MQ below Qc XC args s mc ms free) (F0 m pc ls rest) q := by
  intro T hT X
  obtain ⟨st1, hrun, hend, hW, hsm⟩ := X.leaveThrown q (g := F0 m pc ls rest) rfl rfl rfl hout hlocks
  have hcell9 : (T.setFrames (.throwing q :: below)).heap[q]? = some ce := by
    show T.heap[q]? = some ce
    rw [hT]; exact hcell
  exact ⟨_, st1, .threw q, hrun, hend, Or.inr ⟨q, rfl, E, ce, locs, hx _ hT hW.alike, hcell9, hv, hcl, hW, hsm.mono hc hs, hf⟩⟩
theorem vx_frame {U : State} {k n : Nat} (h : s.sameButNew ({ U with vm := s.vm } : State) locs k n) : s.heap.size ≤ U.heap.size ∧ ∀ q : Nat, q < s.heap.size → (∀ z ∈ locs, z.base ≠ q) → U.heap[q]? = s.heap[q]? := by
  obtain ⟨-, h2, -, -, -, h6⟩ := h
  refine ⟨h2, fun q hq hz => ?_⟩
  obtain ⟨c9, e1, e2, e3, e4⟩ := h6 q _ (Array.getElem?_eq_getElem hq)
  have hs : c9.slots = (s.heap[q]).slots := Array.ext_getElem? fun i => e4 i fun hm => hz _ hm rfl
  have h9 : c9 = s.heap[q] := by
    rw [hs] at e2
    exact e2
  have e5 : U.heap[q]? = some c9 := e1
  rw [e5, h9, Array.getElem?_eq_getElem hq]
/-- the words of a throw but the four that speak of the heap -/
def vx_no (w : Cond) : Bool := decide (w ≠ .isRef (.static Bundle.tN "UNASSIGNED_STACK" Bundle.steD)) && decide (w ≠ .isRef (.static Bundle.tN "SUPPRESSED_SENTINEL" Bundle.listD)) && decide (w ≠ .laysStatic Bundle.tN "UNASSIGNED_STACK" Bundle.steD) && decide (w ≠ .laysStatic Bundle.tN "SUPPRESSED_SENTINEL" Bundle.listD)
def vx_at0 (own : String) (ic : Nat) (X : String) (names : List String) : List Cond := (Bundle.ownAtoms0 own ic X names).filter vx_no
def vx_atS (own : String) (ic : Nat) (X : String) (names : List String) : List Cond := (Bundle.ownAtoms own ic X names).filter vx_no
/-- a word that the tables alone decide, or a good one -/
def vx_ot (w : Cond) : Bool := w.onTables || goodWord w
theorem vx_ot_at {args a' : Array Value} {s U : State} {w : Cond} (hW : s.WarmedH U.vm) (hvm : s.vm = U.vm) (hg : vx_ot w = true) (h : w.before args s = true) : w.before a' U = true := by
  simp only [vx_ot, Bool.or_eq_true] at hg
  rcases hg with hg | hg
  · exact va_tabs hg hvm h
  · exact word_at hW (good_of_word hg) h
/-- a list's words: the good ones out of the method's own list, the others by premises of their own -/
theorem vx_hat {args : Array Value} {s : State} {L B : List Cond} (h1 : ∀ w ∈ L.filter goodWord, w.before args s = true) (h2 : ∀ w ∈ L.filter (fun w => !goodWord w), w ∈ B) (h3 : ∀ w ∈ B, w.before args s = true) : ∀ w ∈ L, w.before args s = true := by
  intro w hw
  by_cases g : goodWord w = true
  · exact h1 w (List.mem_filter.mpr ⟨hw, g⟩)
  · refine h3 w (h2 w (List.mem_filter.mpr ⟨hw, ?_⟩))
    show (!goodWord w) = true
    cases hgw : goodWord w
    · rfl
    · exact absurd hgw g
theorem vx_c {args : Array Value} {s : State} {w : Cond} {B : List Cond} (h : w.before args s = true) (t : ∀ w ∈ B, w.before args s = true) : ∀ w' ∈ w :: B, w'.before args s = true := fun w' h' => (List.mem_cons.mp h').elim (fun e => by rw [e]; exact h) (t w')
theorem vx_n {args : Array Value} {s : State} : ∀ w ∈ ([] : List Cond), w.before args s = true := fun _ h => nomatch h
theorem vx_own {args : Array Value} {s : State} {L : List Cond} (h1 : ∀ w ∈ L.filter vx_no, w.before args s = true)
    (hU : (Cond.isRef (.static Bundle.tN "UNASSIGNED_STACK" Bundle.steD)).before args s = true) (hN : (Cond.isRef (.static Bundle.tN "SUPPRESSED_SENTINEL" Bundle.listD)).before args s = true)
    (lU : (Cond.laysStatic Bundle.tN "UNASSIGNED_STACK" Bundle.steD).before args s = true) (lN : (Cond.laysStatic Bundle.tN "SUPPRESSED_SENTINEL" Bundle.listD).before args s = true) : ∀ w ∈ L, w.before args s = true := by
  intro w hw
  by_cases e1 : w = .isRef (.static Bundle.tN "UNASSIGNED_STACK" Bundle.steD)
  · rw [e1]; exact hU
  · by_cases e2 : w = .isRef (.static Bundle.tN "SUPPRESSED_SENTINEL" Bundle.listD)
    · rw [e2]; exact hN
    · by_cases e3 : w = .laysStatic Bundle.tN "UNASSIGNED_STACK" Bundle.steD
      · rw [e3]; exact lU
      · by_cases e4 : w = .laysStatic Bundle.tN "SUPPRESSED_SENTINEL" Bundle.listD
        · rw [e4]; exact lN
        · exact h1 w (List.mem_filter.mpr ⟨hw, by unfold vx_no; rw [decide_eq_true e1, decide_eq_true e2, decide_eq_true e3, decide_eq_true e4]; rfl⟩)
/-- where a static field lies, its class's statics cell in H -/
def vx_L (C n d : String) (A : Nat → Prop) (U : State) (H : Heap) : Prop := ∃ (c : ClassId) (k : Class) (i : Nat) (f : Field) (a : Nat) (cell : Cell), U.vm.findClass C = some c ∧ U.fieldFound? C n d = some (c, k, i, f) ∧ f.isStatic = true ∧ k.statics = some a ∧ H[a]? = some cell ∧ cell.vm.isStatics = true ∧ cell.cls = c ∧ f.slot < cell.slots.size ∧ k.staticTypes[f.slot]? = some f.type ∧ ¬ A a
theorem vx_L.moved {C n d : String} {A : Nat → Prop} {u U : State} {H : Heap} (hvm : u.vm.Alike U.vm) (h : vx_L C n d A u H) : vx_L C n d A U H := by
  obtain ⟨c, k, i, f, a, cell, h1, h2, h3, h4, h5, h6, h7, h8, h9, h10⟩ := h
  obtain ⟨k', hi', he⟩ := State.fieldFound?_setVm hvm h2
  exact ⟨c, k', i, f, a, cell, by rw [hvm.findClass]; exact h1, hi', h3, by rw [he]; exact h4, h5, h6, h7, h8, by rw [he]; exact h9, h10⟩
theorem vx_L.kept {C n d : String} {A : Nat → Prop} {U : State} {H H1 : Heap} (h : vx_L C n d A U H) (hq : ∀ a : Nat, a < H.size → ¬ A a → H1[a]? = H[a]?) : vx_L C n d A U H1 := by
  obtain ⟨c, k, i, f, a, cell, h1, h2, h3, h4, h5, h6, h7, h8, h9, h10⟩ := h
  exact ⟨c, k, i, f, a, cell, h1, h2, h3, h4, by rw [hq a (Array.getElem?_eq_some_iff.mp h5).1 h10]; exact h5, h6, h7, h8, h9, h10⟩
theorem vx_L.narrow {C n d : String} {A B : Nat → Prop} {U : State} {H : Heap} (h : vx_L C n d A U H) (hAB : ∀ q, B q → A q) : vx_L C n d B U H := by
  obtain ⟨c, k, i, f, a, cell, h1, h2, h3, h4, h5, h6, h7, h8, h9, h10⟩ := h
  exact ⟨c, k, i, f, a, cell, h1, h2, h3, h4, h5, h6, h7, h8, h9, fun z => h10 (hAB _ z)⟩
theorem vx_L.word {C n d : String} {A : Nat → Prop} {s : State} {args : Array Value} (h : vx_L C n d A s s.heap) : (Cond.laysStatic C n d).before args s = true := by
  obtain ⟨c, k, i, f, a, cell, h1, h2, h3, h4, h5, h6, h7, h8, h9, -⟩ := h
  show (Cond.laysStatic C n d).holds args s none s [] = true
  exact Cond.laysStatic_of h1 h2 h3 h4 h5 h6 h7 h8 h9
/-- .. and what it holds: null or some reference -/
def vx_Zq (C n d : String) (A : Nat → Prop) (U : State) (H : Heap) : Prop := va_Zq C n d A U H ∧ vx_L C n d A U H
theorem vx_Zq.moved {C n d : String} {A : Nat → Prop} {u U : State} {H : Heap} (hvm : u.vm.Alike U.vm) (h : vx_Zq C n d A u H) : vx_Zq C n d A U H := ⟨va_Zq.moved hvm h.1, vx_L.moved hvm h.2⟩
theorem vx_Zq.kept {C n d : String} {A : Nat → Prop} {U : State} {H H1 : Heap} (h : vx_Zq C n d A U H) (hq : ∀ a : Nat, a < H.size → ¬ A a → H1[a]? = H[a]?) : vx_Zq C n d A U H1 := ⟨va_Zq.kept h.1 hq, vx_L.kept h.2 hq⟩
theorem vx_Zq.narrow {C n d : String} {A B : Nat → Prop} {U : State} {H : Heap} (h : vx_Zq C n d A U H) (hAB : ∀ q, B q → A q) : vx_Zq C n d B U H := ⟨va_Zq.narrow h.1 hAB, vx_L.narrow h.2 hAB⟩
theorem vx_Zqof {args : Array Value} {s : State} {C n d : String} {A : Nat → Prop} (hl : (Cond.laysStatic C n d).before args s = true) (hini : (Cond.initialized C).before args s = true) (h : (Cond.isRef (.static C n d)).before args s = true) (hA : ∀ a : Nat, a < s.heap.size → ¬ A a) : vx_Zq C n d A s s.heap := by
  refine ⟨va_Zqof hl hini h hA, ?_⟩
  obtain ⟨c, k, i, f, a, cell, h1, h2, h3, h4, h5, h6, h7, h8, h9⟩ := Cond.laysStatic_spec hl
  exact ⟨c, k, i, f, a, cell, h1, h2, h3, h4, h5, h6, h7, h8, h9, hA a (Array.getElem?_eq_some_iff.mp h5).1⟩
theorem vx_isRef {C n d : String} {v : Value} {A : Nat → Prop} {s : State} {args : Array Value} (h : va_Z C n d v A s s.heap) (hv : v.isRef = true) : (Cond.isRef (.static C n d)).before args s = true := by
  obtain ⟨cf, kf, fi, f, a, cell, h1, h2, h3, h4, h5, h6, h7, -⟩ := h
  have he : (Term.static C n d).eval args s none [] s = some v := by
    simp [Term.eval, State.fieldNamed?, h1, h2, h4, h5, h6, h7]
  simp only [Cond.before, Cond.holds, Cond.value, he]
  cases v <;> simp_all [Value.isRef]
theorem vx_isRefq {C n d : String} {A : Nat → Prop} {s : State} {args : Array Value} (h : va_Zq C n d A s s.heap) : (Cond.isRef (.static C n d)).before args s = true := by
  rcases h with h | ⟨t, h⟩
  · exact vx_isRef h rfl
  · exact vx_isRef h rfl
/-- the same frame, seen from here: as if the method were called anew in this heap -/
theorem vx_rebase {T : State} (X : Stand p l e R s m args below meth c T locs cells slots) {R' : Room} (hf : R'.frames ≤ R.frames) (hl : R'.locals ≤ R.locals) (hc : cells + R'.cells ≤ R.cells) (hs : slots + R'.slots ≤ R.slots) :
    Stand p l e R' ((T.setVm s.vm).setFrames (.invoking m args :: below)) m args below meth c T [] 0 0 := by
  have htop : (T.setVm s.vm).topJava?.isSome := X.here.top
  have hF : ((T.setVm s.vm).setFrames (.invoking m args :: below)).frames = .invoking m args :: below := State.frames_setFrames _ (State.cur_lt_of_top htop)
  obtain ⟨g₀, hg0⟩ := Option.isSome_iff_exists.mp htop
  obtain ⟨r, hr⟩ := State.topJava?_eq_some.mp hg0
  have hl9 : e.platform.stackLimits (T.setVm s.vm).me = e.platform.stackLimits s.me := X.limits
  have hb9 : (T.setVm s.vm).me.stackBytes = s.me.stackBytes := X.bytes
  refine ⟨X.admits, X.cas, X.clock, hF, ?_, X.hears, X.method, X.code, X.here, X.tail, X.warmed, ?_, ?_, ?_⟩
  · have h := X.room
    have hU : ((T.setVm s.vm).setFrames (.invoking m args :: below)).localsInUse = s.localsInUse := by
      rw [State.localsInUse_invoking hF (meth := meth) (c := c) X.method X.code, State.localsInUse_invoking X.frames X.method X.code]
    simp only [State.hasRoom, Bool.and_eq_true, decide_eq_true_eq] at h ⊢
    obtain ⟨⟨⟨⟨h1, h2, h3, h4, h5, h6⟩, h7⟩, h8⟩, h9⟩ := h
    rw [X.frames, List.length_cons] at h2 h3
    have q1 := X.heapSize
    have q2 := X.used
    simp only [hF, hU, List.length_cons, State.stackLimits_setFrames, State.stackBytes_setFrames, hl9, hb9]
    refine ⟨⟨⟨⟨by omega, by omega, by omega, by omega, by omega, h6⟩, ?_⟩, ?_⟩, X.book⟩
    · show T.heap.size + R'.cells ≤ e.platform.maxCells
      omega
    · show T.slotsUsed + R'.slots ≤ e.platform.maxSlots
      omega
  · rw [State.stackLimits_setFrames]; rfl
  · rw [State.stackBytes_setFrames]; rfl
  · refine ⟨?_, Nat.le_refl _, Nat.le_refl _, ?_, ?_, fun a c9 h9 => ⟨c9, h9, rfl, rfl, fun _ _ => rfl⟩⟩
    · obtain ⟨t, ht, -⟩ := State.frames_cons hr
      show T.setVm s.vm = { ((T.setVm s.vm).setFrames (.invoking m args :: below)).setFrames (T.setVm s.vm).frames with heap := T.heap, slotsUsed := T.slotsUsed }
      rw [State.setFrames_setFrames, State.setFrames_self ht]
      rfl
    · show T.slotsUsed = T.slotsUsed + ((T.heap.toList.drop T.heap.size).map (·.slots.size)).sum
      rw [List.drop_eq_nil_of_le (Nat.le_of_eq Array.length_toList)]
      rfl
    · show ((T.heap.toList.drop T.heap.size).map (·.slots.size)).sum ≤ 0
      rw [List.drop_eq_nil_of_le (Nat.le_of_eq Array.length_toList)]
      exact Nat.le_refl _
/-- 'throw new E()': new; dup; invokespecial; athrow -/
theorem vx_throw0 {cc : ByteArray} {pc : Nat} (hexec : p.tables.exec = Jvm.exec) (hb : c.code = cc) (hl : l.stackTraces = false) {own cls : String} {names : List String} {ik ic mc ms : Nat} {A : Nat → Prop}
    (hown : s.vm.findClass own = some m.cls) (hcls : Bundle.fit cls = true) (hnames : ∀ n ∈ names, Bundle.fit n = true)
    (hk : (Cond.classLink own ik cls).before args s = true) (hini : (Cond.initialized cls).before args s = true) (hat : ∀ w ∈ vx_at0 own ic cls names, w.before args s = true)
    (hgood : ∀ w ∈ Cond.classLink own ik cls :: Cond.initialized cls :: vx_at0 own ic cls names, vx_ot w = true)
    (hU : vx_Zq Bundle.tN "UNASSIGNED_STACK" Bundle.steD A s s.heap) (hN : vx_Zq Bundle.tN "SUPPRESSED_SENTINEL" Bundle.listD A s s.heap) (hS : va_S A s.heap H locs) (hsize : ls.size = c.maxLocals)
    (d0 : decode cc pc = .ok (.new ik, 3)) (d3 : decode cc (pc + 3) = .ok (.dup, 1)) (d4 : decode cc (pc + 4) = .ok (.invokespecial ic, 3)) (d7 : decode cc (pc + 7) = .ok (.athrow, 1))
    (hout : ∀ x ∈ c.exceptionTable.toList, covers x (pc + 7) = false)
    (hRframes : names.length + 3 < R.frames) (hRlocals : (rest.map fun v => v.category).sum + (13 * (names.length + 1) + 42) ≤ R.locals) (hRcells : cells + 1 ≤ R.cells) (hRslots : slots + 6 ≤ R.slots) (hlocks : meth.locks = false)
    (hx : ∀ t : State, s.vm.Alike t.vm → H.size ≤ t.heap.size → (∀ q : Nat, q < H.size → t.heap[q]? = H[q]?) → XC cls s t)
    (hf : ∀ z ∈ locs, free z.base) (hc : cells + 1 ≤ mc) (hs : slots + 6 ≤ ms) :
    W p l e R s m args below meth c H locs cells slots (vx_MQ below Qc XC args s mc ms free) (F0 m pc ls rest) := by
  intro T hT X
  have htr : e.platform.stackTraces = false := (show e.platform.stackTraces = l.stackTraces by rw [X.admits.platform]).trans hl
  have Y := vx_rebase X (R' := { frames := R.frames, locals := R.locals, cells := 1, slots := 6 }) (Nat.le_refl _) (Nat.le_refl _) hRcells hRslots
  obtain ⟨s', hA⟩ : ∃ z, z = (T.setVm s.vm).setFrames (.invoking m args :: below) := ⟨_, rfl⟩
  rw [← hA] at Y
  have hvm : s'.vm = s.vm := by rw [hA]; rfl
  have hhp : s'.heap = H := by rw [hA]; exact hT
  have hW0 : s.WarmedH s'.vm := by rw [hvm]; exact State.WarmedH.refl s
  have hat' : ∀ w ∈ vx_at0 own ic cls names, w.before args s' = true := fun w hw => vx_ot_at hW0 hvm.symm (hgood w (List.mem_cons_of_mem _ (List.mem_cons_of_mem _ hw))) (hat w hw)
  have hk' : (Cond.classLink own ik cls).before args s' = true := vx_ot_at hW0 hvm.symm (hgood _ List.mem_cons_self) hk
  have hini' : (Cond.initialized cls).before args s' = true := vx_ot_at hW0 hvm.symm (hgood _ (List.mem_cons_of_mem _ List.mem_cons_self)) hini
  have hU' : vx_Zq Bundle.tN "UNASSIGNED_STACK" Bundle.steD A s' s'.heap := by rw [hhp]; exact vx_Zq.moved hW0.alike (hU.kept hS.2.1)
  have hN' : vx_Zq Bundle.tN "SUPPRESSED_SENTINEL" Bundle.listD A s' s'.heap := by rw [hhp]; exact vx_Zq.moved hW0.alike (hN.kept hS.2.1)
  have h : ∀ w ∈ Bundle.ownAtoms0 own ic cls names, w.before args s' = true := vx_own hat' (vx_isRefq hU'.1) (vx_isRefq hN'.1) hU'.2.word hN'.2.word
  have hown' : s'.vm.findClass own = some m.cls := by rw [hvm]; exact hown
  have hins : (Cond.instantiable cls 6).before args s' = true := h _ (by simp [Bundle.ownAtoms0])
  obtain ⟨vm₁, cX, kX, hfX, hkX, -, -, X₁, st1⟩ := Y.newCold hexec (own := own) (C := cls) (index := ik) (n := 6) hown' hk' hins hini'
    (g := F0 m pc ls rest) rfl (by rw [hb]; exact d0) (Nat.le_refl _) (Nat.le_refl _)
  generalize hT1 : (T.setVm vm₁).pushCell { cls := cX, slots := kX.instanceTypes.map defaultValue, vm := .none } = T1 at X₁ st1
  have hcat : (Value.ref T.heap.size).category = 1 := rfl
  have hcellA : T1.heap[T.heap.size]? = some (freshCell cX kX) := by rw [← hT1]; exact State.heap_pushCell_size _ _
  have d3' : decode c.code (pc + 3) = .ok (.dup, 1) := by rw [hb]; exact d3
  obtain ⟨U, hsteps, hrun, hend, hW, hsame, ce, hce, hO⟩ := X₁.ctorThrow0 hexec htr (own := own) (cls := cls) (names := names) (ic := ic) hown' hcls hnames h (fun x hx => nomatch hx) hfX hkX hcellA (by rw [hhp, hT]; exact Nat.le_refl _)
    (g := { method := m, pc := pc + 4, locals := ls, stack := .ref T.heap.size :: .ref T.heap.size :: rest, locked := none }) rfl hsize rfl rfl (rest := rest) rfl
    (by rw [hb]; exact d4) (by rw [hb]; exact d7) hout hRframes (by simp only [List.map_cons, List.sum_cons, hcat]; omega) hlocks
  obtain ⟨f1, f2⟩ := vx_frame hsame
  rw [hhp] at f1 f2
  have hWs : s.WarmedH U.vm := State.WarmedH.trans hW0 hW
  have hcl : s.vm.findClass cls = some ce.cls := by
    have h9 := hO.cls
    rw [hvm] at h9
    exact h9
  have hall : s.sameButNew ({ U with vm := s.vm } : State) locs mc ms := by
    subst hA
    obtain ⟨e1, e2⟩ := hsame
    rw [State.setFrames_setFrames] at e1
    have h2 : (T.setVm s.vm).sameButNew ({ U with vm := s.vm } : State) [] (0 + 1) (0 + 6) := ⟨e1, e2⟩
    have h3 := X.same.trans h2
    rw [List.append_nil] at h3
    exact h3.mono hc hs
  refine ⟨U, ?_, .threw T.heap.size, hrun, hend, Or.inr ⟨T.heap.size, rfl, cls, ce, locs, hx U hWs.alike f1 (fun q hq => f2 q hq (fun z hz => nomatch hz)), hce, hO.vm, hcl, hWs, hall, hf⟩⟩
  refine st1 _ ?_
  show Steps p.tables e below (T1.setTop { method := m, pc := pc + 3, locals := ls, stack := .ref T.heap.size :: rest, locked := none }) _
  jvm_step X₁.here [X₁.here.top, hexec, d3', Value.category]
  exact hsteps
/-- 'throw new E("text")': new; dup; ldc; invokespecial; athrow -/
theorem vx_throwS {cc : ByteArray} {pc : Nat} (hexec : p.tables.exec = Jvm.exec) (hb : c.code = cc) (hl : l.stackTraces = false) {own cls text : String} {names : List String} {ik is ic mc ms sa : Nat} {A : Nat → Prop}
    (hown : s.vm.findClass own = some m.cls) (hcls : Bundle.fit cls = true) (hnames : ∀ n ∈ names, Bundle.fit n = true)
    (hk : (Cond.classLink own ik cls).before args s = true) (hini : (Cond.initialized cls).before args s = true) (hstr : vk_R own is text sa s) (hat : ∀ w ∈ vx_atS own ic cls names, w.before args s = true)
    (hgood : ∀ w ∈ Cond.classLink own ik cls :: Cond.initialized cls :: vx_atS own ic cls names, vx_ot w = true)
    (hU : vx_Zq Bundle.tN "UNASSIGNED_STACK" Bundle.steD A s s.heap) (hN : vx_Zq Bundle.tN "SUPPRESSED_SENTINEL" Bundle.listD A s s.heap) (hS : va_S A s.heap H locs) (hsize : ls.size = c.maxLocals)
    (d0 : decode cc pc = .ok (.new ik, 3)) (d3 : decode cc (pc + 3) = .ok (.dup, 1)) (d4 : decode cc (pc + 4) = .ok (.ldc is, 2)) (d6 : decode cc (pc + 6) = .ok (.invokespecial ic, 3)) (d9 : decode cc (pc + 9) = .ok (.athrow, 1))
    (hout : ∀ x ∈ c.exceptionTable.toList, covers x (pc + 9) = false)
    (hRframes : names.length + 3 < R.frames) (hRlocals : (rest.map fun v => v.category).sum + (13 * (names.length + 1) + 43) ≤ R.locals) (hRcells : cells + 1 ≤ R.cells) (hRslots : slots + 6 ≤ R.slots) (hlocks : meth.locks = false)
    (hx : ∀ t : State, s.vm.Alike t.vm → H.size ≤ t.heap.size → (∀ q : Nat, q < H.size → t.heap[q]? = H[q]?) → XC cls s t)
    (hf : ∀ z ∈ locs, free z.base) (hc : cells + 1 ≤ mc) (hs : slots + 6 ≤ ms) :
    W p l e R s m args below meth c H locs cells slots (vx_MQ below Qc XC args s mc ms free) (F0 m pc ls rest) := by
  intro T hT X
  have htr : e.platform.stackTraces = false := (show e.platform.stackTraces = l.stackTraces by rw [X.admits.platform]).trans hl
  have Y := vx_rebase X (R' := { frames := R.frames, locals := R.locals, cells := 1, slots := 6 }) (Nat.le_refl _) (Nat.le_refl _) hRcells hRslots
  obtain ⟨s', hA⟩ : ∃ z, z = (T.setVm s.vm).setFrames (.invoking m args :: below) := ⟨_, rfl⟩
  rw [← hA] at Y
  have hvm : s'.vm = s.vm := by rw [hA]; rfl
  have hhp : s'.heap = H := by rw [hA]; exact hT
  have hW0 : s.WarmedH s'.vm := by rw [hvm]; exact State.WarmedH.refl s
  have hat' : ∀ w ∈ vx_atS own ic cls names, w.before args s' = true := fun w hw => vx_ot_at hW0 hvm.symm (hgood w (List.mem_cons_of_mem _ (List.mem_cons_of_mem _ hw))) (hat w hw)
  have hk' : (Cond.classLink own ik cls).before args s' = true := vx_ot_at hW0 hvm.symm (hgood _ List.mem_cons_self) hk
  have hini' : (Cond.initialized cls).before args s' = true := vx_ot_at hW0 hvm.symm (hgood _ (List.mem_cons_of_mem _ List.mem_cons_self)) hini
  have hU' : vx_Zq Bundle.tN "UNASSIGNED_STACK" Bundle.steD A s' s'.heap := by rw [hhp]; exact vx_Zq.moved hW0.alike (hU.kept hS.2.1)
  have hN' : vx_Zq Bundle.tN "SUPPRESSED_SENTINEL" Bundle.listD A s' s'.heap := by rw [hhp]; exact vx_Zq.moved hW0.alike (hN.kept hS.2.1)
  have h : ∀ w ∈ Bundle.ownAtoms own ic cls names, w.before args s' = true := vx_own hat' (vx_isRefq hU'.1) (vx_isRefq hN'.1) hU'.2.word hN'.2.word
  have hown' : s'.vm.findClass own = some m.cls := by rw [hvm]; exact hown
  have hins : (Cond.instantiable cls 6).before args s' = true := h _ (by simp [Bundle.ownAtoms])
  obtain ⟨vm₁, cX, kX, hfX, hkX, -, -, X₁, st1⟩ := Y.newCold hexec (own := own) (C := cls) (index := ik) (n := 6) hown' hk' hins hini'
    (g := F0 m pc ls rest) rfl (by rw [hb]; exact d0) (Nat.le_refl _) (Nat.le_refl _)
  generalize hT1 : (T.setVm vm₁).pushCell { cls := cX, slots := kX.instanceTypes.map defaultValue, vm := .none } = T1 at X₁ st1
  have hcat : (Value.ref T.heap.size).category = 1 := rfl
  have hcellA : T1.heap[T.heap.size]? = some (freshCell cX kX) := by rw [← hT1]; exact State.heap_pushCell_size _ _
  have d3' : decode c.code (pc + 3) = .ok (.dup, 1) := by rw [hb]; exact d3
  have d4' : decode c.code (pc + 4) = .ok (.ldc is, 2) := by rw [hb]; exact d4
  have hstr' : vk_R own is text sa s' := vk_R.warm hW0 hstr
  obtain ⟨U, hsteps, hrun, hend, hW, hsame, ce, hce, hO⟩ := X₁.ctorThrowS hexec htr (own := own) (cls := cls) (names := names) (ic := ic) hown' hcls hnames h (fun x hx => nomatch hx) hfX hkX hcellA (by rw [hhp, hT]; exact Nat.le_refl _) (msg := .ref sa) rfl
    (g := { method := m, pc := pc + 6, locals := ls, stack := .ref sa :: .ref T.heap.size :: .ref T.heap.size :: rest, locked := none }) rfl hsize rfl rfl (rest := rest) rfl
    (by rw [hb]; exact d6) (by rw [hb]; exact d9) hout hRframes (by simp only [List.map_cons, List.sum_cons, hcat]; omega) hlocks
  obtain ⟨f1, f2⟩ := vx_frame hsame
  rw [hhp] at f1 f2
  have hWs : s.WarmedH U.vm := State.WarmedH.trans hW0 hW
  have hcl : s.vm.findClass cls = some ce.cls := by
    have h9 := hO.cls
    rw [hvm] at h9
    exact h9
  have hall : s.sameButNew ({ U with vm := s.vm } : State) locs mc ms := by
    subst hA
    obtain ⟨e1, e2⟩ := hsame
    rw [State.setFrames_setFrames] at e1
    have h2 : (T.setVm s.vm).sameButNew ({ U with vm := s.vm } : State) [] (0 + 1) (0 + 6) := ⟨e1, e2⟩
    have h3 := X.same.trans h2
    rw [List.append_nil] at h3
    exact h3.mono hc hs
  refine ⟨U, ?_, .threw T.heap.size, hrun, hend, Or.inr ⟨T.heap.size, rfl, cls, ce, locs, hx U hWs.alike f1 (fun q hq => f2 q hq (fun z hz => nomatch hz)), hce, hO.vm, hcl, hWs, hall, hf⟩⟩
  refine st1 _ ?_
  show Steps p.tables e below (T1.setTop { method := m, pc := pc + 3, locals := ls, stack := .ref T.heap.size :: rest, locked := none }) _
  jvm_step X₁.here [X₁.here.top, hexec, d3', Value.category]
  exact X₁.ldcString hexec (own := own) (text := text) (index := is) (a := sa) hown' hstr'.1 hstr'.2
    (g := { method := m, pc := pc + 4, locals := ls, stack := .ref T.heap.size :: .ref T.heap.size :: rest, locked := none }) rfl d4' _ hsteps
/-- 'throw new E("text")', the text by a wide index -/
theorem vx_throwSW {cc : ByteArray} {pc : Nat} (hexec : p.tables.exec = Jvm.exec) (hb : c.code = cc) (hl : l.stackTraces = false) {own cls text : String} {names : List String} {ik is ic mc ms sa : Nat} {A : Nat → Prop}
    (hown : s.vm.findClass own = some m.cls) (hcls : Bundle.fit cls = true) (hnames : ∀ n ∈ names, Bundle.fit n = true)
    (hk : (Cond.classLink own ik cls).before args s = true) (hini : (Cond.initialized cls).before args s = true) (hstr : vk_R own is text sa s) (hat : ∀ w ∈ vx_atS own ic cls names, w.before args s = true)
    (hgood : ∀ w ∈ Cond.classLink own ik cls :: Cond.initialized cls :: vx_atS own ic cls names, vx_ot w = true)
    (hU : vx_Zq Bundle.tN "UNASSIGNED_STACK" Bundle.steD A s s.heap) (hN : vx_Zq Bundle.tN "SUPPRESSED_SENTINEL" Bundle.listD A s s.heap) (hS : va_S A s.heap H locs) (hsize : ls.size = c.maxLocals)
    (d0 : decode cc pc = .ok (.new ik, 3)) (d3 : decode cc (pc + 3) = .ok (.dup, 1)) (d4 : decode cc (pc + 4) = .ok (.ldc_w is, 3)) (d7 : decode cc (pc + 7) = .ok (.invokespecial ic, 3)) (d10 : decode cc (pc + 10) = .ok (.athrow, 1))
    (hout : ∀ x ∈ c.exceptionTable.toList, covers x (pc + 10) = false)
    (hRframes : names.length + 3 < R.frames) (hRlocals : (rest.map fun v => v.category).sum + (13 * (names.length + 1) + 43) ≤ R.locals) (hRcells : cells + 1 ≤ R.cells) (hRslots : slots + 6 ≤ R.slots) (hlocks : meth.locks = false)
    (hx : ∀ t : State, s.vm.Alike t.vm → H.size ≤ t.heap.size → (∀ q : Nat, q < H.size → t.heap[q]? = H[q]?) → XC cls s t)
    (hf : ∀ z ∈ locs, free z.base) (hc : cells + 1 ≤ mc) (hs : slots + 6 ≤ ms) :
    W p l e R s m args below meth c H locs cells slots (vx_MQ below Qc XC args s mc ms free) (F0 m pc ls rest) := by
  intro T hT X
  have htr : e.platform.stackTraces = false := (show e.platform.stackTraces = l.stackTraces by rw [X.admits.platform]).trans hl
  have Y := vx_rebase X (R' := { frames := R.frames, locals := R.locals, cells := 1, slots := 6 }) (Nat.le_refl _) (Nat.le_refl _) hRcells hRslots
  obtain ⟨s', hA⟩ : ∃ z, z = (T.setVm s.vm).setFrames (.invoking m args :: below) := ⟨_, rfl⟩
  rw [← hA] at Y
  have hvm : s'.vm = s.vm := by rw [hA]; rfl
  have hhp : s'.heap = H := by rw [hA]; exact hT
  have hW0 : s.WarmedH s'.vm := by rw [hvm]; exact State.WarmedH.refl s
  have hat' : ∀ w ∈ vx_atS own ic cls names, w.before args s' = true := fun w hw => vx_ot_at hW0 hvm.symm (hgood w (List.mem_cons_of_mem _ (List.mem_cons_of_mem _ hw))) (hat w hw)
  have hk' : (Cond.classLink own ik cls).before args s' = true := vx_ot_at hW0 hvm.symm (hgood _ List.mem_cons_self) hk
  have hini' : (Cond.initialized cls).before args s' = true := vx_ot_at hW0 hvm.symm (hgood _ (List.mem_cons_of_mem _ List.mem_cons_self)) hini
  have hU' : vx_Zq Bundle.tN "UNASSIGNED_STACK" Bundle.steD A s' s'.heap := by rw [hhp]; exact vx_Zq.moved hW0.alike (hU.kept hS.2.1)
  have hN' : vx_Zq Bundle.tN "SUPPRESSED_SENTINEL" Bundle.listD A s' s'.heap := by rw [hhp]; exact vx_Zq.moved hW0.alike (hN.kept hS.2.1)
  have h : ∀ w ∈ Bundle.ownAtoms own ic cls names, w.before args s' = true := vx_own hat' (vx_isRefq hU'.1) (vx_isRefq hN'.1) hU'.2.word hN'.2.word
  have hown' : s'.vm.findClass own = some m.cls := by rw [hvm]; exact hown
  have hins : (Cond.instantiable cls 6).before args s' = true := h _ (by simp [Bundle.ownAtoms])
  obtain ⟨vm₁, cX, kX, hfX, hkX, -, -, X₁, st1⟩ := Y.newCold hexec (own := own) (C := cls) (index := ik) (n := 6) hown' hk' hins hini'
    (g := F0 m pc ls rest) rfl (by rw [hb]; exact d0) (Nat.le_refl _) (Nat.le_refl _)
  generalize hT1 : (T.setVm vm₁).pushCell { cls := cX, slots := kX.instanceTypes.map defaultValue, vm := .none } = T1 at X₁ st1
  have hcat : (Value.ref T.heap.size).category = 1 := rfl
  have hcellA : T1.heap[T.heap.size]? = some (freshCell cX kX) := by rw [← hT1]; exact State.heap_pushCell_size _ _
  have d3' : decode c.code (pc + 3) = .ok (.dup, 1) := by rw [hb]; exact d3
  have d4' : decode c.code (pc + 4) = .ok (.ldc_w is, 3) := by rw [hb]; exact d4
  have hstr' : vk_R own is text sa s' := vk_R.warm hW0 hstr
  obtain ⟨U, hsteps, hrun, hend, hW, hsame, ce, hce, hO⟩ := X₁.ctorThrowS hexec htr (own := own) (cls := cls) (names := names) (ic := ic) hown' hcls hnames h (fun x hx => nomatch hx) hfX hkX hcellA (by rw [hhp, hT]; exact Nat.le_refl _) (msg := .ref sa) rfl
    (g := { method := m, pc := pc + 7, locals := ls, stack := .ref sa :: .ref T.heap.size :: .ref T.heap.size :: rest, locked := none }) rfl hsize rfl rfl (rest := rest) rfl
    (by rw [hb]; exact d7) (by rw [hb]; exact d10) hout hRframes (by simp only [List.map_cons, List.sum_cons, hcat]; omega) hlocks
  obtain ⟨f1, f2⟩ := vx_frame hsame
  rw [hhp] at f1 f2
  have hWs : s.WarmedH U.vm := State.WarmedH.trans hW0 hW
  have hcl : s.vm.findClass cls = some ce.cls := by
    have h9 := hO.cls
    rw [hvm] at h9
    exact h9
  have hall : s.sameButNew ({ U with vm := s.vm } : State) locs mc ms := by
    subst hA
    obtain ⟨e1, e2⟩ := hsame
    rw [State.setFrames_setFrames] at e1
    have h2 : (T.setVm s.vm).sameButNew ({ U with vm := s.vm } : State) [] (0 + 1) (0 + 6) := ⟨e1, e2⟩
    have h3 := X.same.trans h2
    rw [List.append_nil] at h3
    exact h3.mono hc hs
  refine ⟨U, ?_, .threw T.heap.size, hrun, hend, Or.inr ⟨T.heap.size, rfl, cls, ce, locs, hx U hWs.alike f1 (fun q hq => f2 q hq (fun z hz => nomatch hz)), hce, hO.vm, hcl, hWs, hall, hf⟩⟩
  refine st1 _ ?_
  show Steps p.tables e below (T1.setTop { method := m, pc := pc + 3, locals := ls, stack := .ref T.heap.size :: rest, locked := none }) _
  jvm_step X₁.here [X₁.here.top, hexec, d3', Value.category]
  exact X₁.ldcStringW hexec (own := own) (text := text) (index := is) (a := sa) hown' hstr'.1 hstr'.2
    (g := { method := m, pc := pc + 4, locals := ls, stack := .ref T.heap.size :: .ref T.heap.size :: rest, locked := none }) rfl d4' _ hsteps
end Ends
section Bodies
variable {l : Launch}
theorem vx_ofW {y : MethodName} {ws ws' : List Cond} {rm : Room} {Pc : Array Value → State → Prop} {Qc : Array Value → State → Outcome → State → Prop} {XC : String → State → State → Prop} {mc ms : Nat} {free : Addr → Prop} {cc : ByteArray} {maxL : Nat} {ret : Option FieldType}
    (hy : plainName y.cls = true) (hw : ws = Cond.code y cc maxL ret :: ws')
    (body : ∀ p e s m args below meth c s₁, BodyLoose p l y (headSpec ws rm) cc maxL ret e s m args below meth c s₁ → c.maxLocals = maxL → (∀ x ∈ c.exceptionTable.toList, False) → Pc args s →
      W p l e (headSpec ws rm).room s m args below meth c s.heap [] 0 0 (vx_MQ below Qc XC args s mc ms free) (entryFrame m args maxL)) : vx_Met l y ws rm Pc Qc XC mc ms free := by
  refine MetFree.of_bodyS (code := cc) (maxLocals := maxL) (ret := ret) hy ?_ ?_
  · intro args s m h hn
    obtain ⟨meth, c, h1, h2, h3, h4, h5, h6, -, -⟩ := Cond.code_spec hn (atoms_spec (ws := ws) h _ (by rw [hw]; exact List.mem_cons_self))
    exact ⟨meth, c, h1, h2, h3, h4, h5, h6⟩
  · intro p e s m args below meth c s₁ B hml hP _
    have hh0 : s₁.heap = s.heap := by rw [B.state]; rfl
    have ht : ∀ x ∈ c.exceptionTable.toList, False := by
      obtain ⟨meth9, c9, h1, h2, -, -, -, -, h7, -⟩ := Cond.code_spec B.named (atoms_spec (ws := ws) B.pre _ (by rw [hw]; exact List.mem_cons_self))
      cases Option.some.inj (h1.symm.trans B.method)
      cases Option.some.inj (h2.symm.trans (Stand.of_body B).code)
      intro x hx
      rw [Array.isEmpty_iff.mp h7] at hx
      cases hx
    obtain ⟨t, a1, o, b1, b2, b3⟩ := body p e s m args below meth c s₁ B hml ht hP s₁ hh0 (Stand.of_body B)
    exact ⟨t, o, a1, b1, b2, b3⟩
/-- the table of a body with handlers -/
theorem vx_table {p : Program} {x y : MethodName} {S : Spec} {cc bytes : ByteArray} {maxL maxL' : Nat} {ret ret' : Option FieldType} {e : Env} {s s₁ : State} {m : MethodId} {args : Array Value} {below : List Frame} {meth : Method} {c : Code} {hh : List (Nat × Nat × Nat × Nat)}
    (B : BodyLoose p l y S cc maxL ret e s m args below meth c s₁) (h : (Cond.codeWith y bytes maxL' ret' hh).before args s = true) : c.exceptionTable.toList = tableOf hh := by
  obtain ⟨m9, meth9, c9, hn9, h1, h2, -, -, h6, -⟩ := Cond.codeWith_spec h
  cases Option.some.inj (hn9.symm.trans B.named)
  cases Option.some.inj (h1.symm.trans B.method)
  cases Option.some.inj (h2.symm.trans (Stand.of_body B).code)
  rw [← h6, table_eq]
end Bodies
end VXA
/-! ===== END ===== -/
/-! ===== BEGIN a static call of a method with an exception table ===== -/
section VXS
variable {p : Program} {l : Launch} {e : Env} {R : Room} {s : State} {m : MethodId} {args : Array Value} {below : List Frame} {meth : Method} {c : Code} {T : State} {H : Heap} {locs : List Loc} {cells slots : Nat}
abbrev vx_CSW (R : Room) (s : State) (args : Array Value) (own : String) (index : Nat) (y : MethodName) (bytes : ByteArray) (maxL : Nat) (ret : Option FieldType) (hh : List (Nat × Nat × Nat × Nat)) (ws : List Cond) (rm : Room) (mc ms n : Nat) : Prop :=
  (rm.cells = mc ∧ rm.slots = ms ∧ rm.frames + 1 ≤ R.frames ∧ 8 + (maxL + 11) + rm.locals ≤ R.locals ∧ (∀ w ∈ ws, ∀ (a' : Array Value) (U : State), s.WarmedH U.vm → w.before a' U = true) ∧ Cond.codeWith y bytes maxL ret hh ∈ ws) ∧
  (Cond.codeWith y bytes maxL ret hh).before args s = true ∧ (Cond.initialized y.cls).before args s = true ∧ (y.cls ≠ "java/lang/invoke/MethodHandle" ∧ y.cls ≠ "java/lang/invoke/VarHandle") ∧
  (∀ sig, parseMethodDescriptor y.desc = some sig → n = sig.parameters.length) ∧ (Cond.methodLink own index y).before args s = true ∧ (Cond.static y).before args s = true
theorem vx_cwSW {own : String} {index maxL mc ms : Nat} {y : MethodName} {bytes : ByteArray} {ret : Option FieldType} {hh : List (Nat × Nat × Nat × Nat)} {Ts ws ws' : List Cond} {rm : Room} (n : Nat) (ht : ∀ w ∈ Ts, w.before args s = true) (hT : GoodIn Ts (va_wsS own index y ws)) (hw : ws = Cond.codeWith y bytes maxL ret hh :: ws') (hrc : rm.cells = mc) (hrs : rm.slots = ms)
    (hd : y.cls ≠ "java/lang/invoke/MethodHandle" ∧ y.cls ≠ "java/lang/invoke/VarHandle" ∧ (parseMethodDescriptor y.desc).map (fun d => d.parameters.length) = some n) (hR : rm.frames + 1 ≤ R.frames ∧ 8 + (maxL + 11) + rm.locals ≤ R.locals) :
    vx_CSW R s args own index y bytes maxL ret hh ws rm mc ms n := by
  have ok : ∀ w ∈ va_wsS own index y ws, w.before args s = true := fun w h => ht w (hT w h).1
  have hG : GoodIn Ts ws := fun w h => hT w (by unfold va_wsS; exact List.mem_append_right _ h)
  have hc : Cond.codeWith y bytes maxL ret hh ∈ ws := by rw [hw]; exact List.mem_cons_self
  refine ⟨⟨hrc, hrs, hR.1, hR.2, pay_in ht hG, hc⟩, ht _ (hG _ hc).1, ok _ (by simp [va_wsS]), ⟨hd.1, hd.2.1⟩, fun sig h => ?_, ok _ (by simp [va_wsS]), ok _ (by simp [va_wsS])⟩
  have h2 := hd.2.2
  rw [h] at h2
  exact (Option.some.inj h2).symm
theorem vx_callSW (X : Stand p l e R s m args below meth c T locs cells slots) (hexec : p.tables.exec = Jvm.exec) {own : String} {index : Nat} {y : MethodName} {bytes : ByteArray} {maxL : Nat} {ret : Option FieldType} {hh : List (Nat × Nat × Nat × Nat)}
    (hown : s.vm.findClass own = some m.cls) (hlink : (Cond.methodLink own index y).before args s = true) (hstat : (Cond.static y).before args s = true) (hinit : (Cond.initialized y.cls).before args s = true)
    (hcode : (Cond.codeWith y bytes maxL ret hh).before args s = true) (hy : y.cls ≠ "java/lang/invoke/MethodHandle" ∧ y.cls ≠ "java/lang/invoke/VarHandle")
    {W9 : Nat} {Pre : Pt → Array Value → Prop} {Post : Pt → Array Value → Option Value → Pt → Prop} (hK : Back l R p e below s args y 3 W9 Pre Post)
    {g : JFrame} (hg : g.method = m) (hsize : g.locals.size = c.maxLocals) {argsL rest : List Value} (hlen : ∀ sig, parseMethodDescriptor y.desc = some sig → argsL.length = sig.parameters.length)
    (hstack : g.stack = argsL.reverse ++ rest) (hW : 2 * g.monitorRoom + (rest.map fun v => v.category).sum ≤ W9) (hdg : decode c.code g.pc = .ok (.invokestatic index, 3))
    (hpre : ∀ vm₁, s.WarmedH vm₁ → Pre ⟨T.setVm vm₁, locs, cells, slots⟩ argsL.toArray) :
    ∃ (v : Option Value) (vm₁ : Vm) (B : Pt), s.WarmedH vm₁ ∧ Stand p l e R s m args below meth c B.U B.locs B.cells B.slots ∧ Post ⟨T.setVm vm₁, locs, cells, slots⟩ argsL.toArray v B ∧
      ∀ target, Steps p.tables e below (B.U.setTop { g with pc := g.pc + 3, stack := v.toList ++ rest }) target → Steps p.tables e below (T.setTop g) target := by
  obtain ⟨mk, methM, cM, hnamed, hmethM, -, -, -, -, -, -, hsigM⟩ := Cond.codeWith_spec hcode
  have hstatic : methM.isStatic = true := Cond.static_spec hnamed hmethM hstat
  obtain ⟨kP, hkP, -⟩ := className_of_methodNamed hnamed
  have hinitP : kP.init = .initialized := Cond.initialized_spec (findClass_of_methodNamed hnamed) hkP hinit
  obtain ⟨vm₁, X₁, hstep₁⟩ := X.invokestatic hexec hown hlink hnamed hmethM hstatic hkP hinitP hy (g := g) hg (argsL := argsL) (rest := rest) (hlen _ hsigM) hstack hdg
  obtain ⟨v, B, X', hpost, hsteps⟩ := hK m meth c ⟨T.setVm vm₁, locs, cells, slots⟩ { g with stack := rest } (.invokestatic index) mk argsL.toArray X₁ hg hsize hdg hW (X₁.named hnamed) (hpre vm₁ X₁.warmed)
  exact ⟨v, vm₁, B, X₁.warmed, X', hpost, fun target h => hstep₁ _ fun acts => by rw [doInvoke_state]; exact hsteps.trans h⟩
theorem vx_runSW {y : MethodName} {bytes cc : ByteArray} {maxL nL mc ms n index : Nat} {ret : Option FieldType} {hh : List (Nat × Nat × Nat × Nat)} {ws : List Cond} {rm : Room} {Pc : Array Value → State → Prop} {Qc : Array Value → State → Outcome → State → Prop} {free : Addr → Prop} {Ts : List Cond} {own : String} {As rest : List Value} {g : JFrame}
    (S : CallFix p m c cc nL s args Ts own) (hM : Met l y ws rm Pc Qc mc ms free) (cw : vx_CSW R s args own index y bytes maxL ret hh ws rm mc ms n) (hp : PreS s H Pc As)
    (hg : g.method = m) (hn : As.length = n) (hsize : g.locals.size = nL) (hstack : g.stack = As.reverse ++ rest) (hW : 2 * g.monitorRoom + (rest.map fun v => v.category).sum ≤ 8) (hdg : decode cc g.pc = .ok (.invokestatic index, 3)) (hf : cells + mc ≤ R.cells ∧ slots + ms ≤ R.slots) :
    va_Run p l e R s m args below meth c H locs cells slots mc ms g rest (Qc As.toArray) (free) := by
  obtain ⟨⟨hrc, hrs, hfr, hlo, hws, hcw⟩, hcode, hini, hy, hlen, hl, hstt⟩ := cw
  have hK : Back l R p e below s args y 3 8 (PreOf R mc ms Pc) (PostOf Qc mc ms free) := va_backW (hh := hh) (bytes := bytes) (maxL := maxL) (ret := ret) hM hp.1 hrc hrs hfr hlo hws hcw (fun a' U hW => word_at hW (Or.inl (by first | rfl | simp [Cond.onTables, Cond.keeps, Cond.steady])) hini)
  obtain ⟨hx, hb, hml, ho, -⟩ := S
  intro T hT X
  obtain ⟨v, vm₁, ⟨U', l2, c2, s2⟩, hW₁, X', ⟨g', mk, t, L, e1, e2, hq, h1, hL, h2, h3⟩, st⟩ := vx_callSW X hx (hh := hh) (bytes := bytes) (maxL := maxL) (ret := ret) ho hl hstt hini hcode hy hK hg (hsize.trans hml.symm) (argsL := As) (rest := rest) (fun sig h => hn.trans (hlen sig h)) hstack hW (by rw [hb]; exact hdg)
    (fun vm₁ hW₁ => ⟨hf.1, hf.2, hp.2 (T.setVm vm₁) hT hW₁⟩)
  dsimp only [Pt.U, Pt.locs, Pt.cells, Pt.slots] at X' e1 e2 h1 h2 h3 st
  subst h1; subst h2; subst h3
  exact ⟨v, (T.setVm vm₁).calling g' mk As.toArray, t, U', L, hT, X', hL, e1, e2, hq, st⟩
/-- not caught here, past rows that name other classes: it goes on to the caller -/
theorem vx_outP {p : Program} {l : Launch} {e : Env} {R : Room} {s : State} {m : MethodId} {args : Array Value} {below : List Frame} {meth : Method} {c : Code} {H : Heap} {locs : List Loc} {cells slots : Nat} {free : Addr → Prop} {ls : Array Slot} {rest : List Value} {Qc : Array Value → State → Outcome → State → Prop} {XC : String → State → State → Prop}
    {pc : Nat} {own E : String} {ce : Cell} {q : Addr} {mc ms : Nat} (hown : s.vm.findClass own = some m.cls) (hlocks : meth.locks = false)
    (hpass : ∀ z ∈ c.exceptionTable.toList, covers z pc = false ∨ (z.catchType ≠ 0 ∧ ∃ nm : String, (Cond.classLink own z.catchType nm).before args s = true ∧ va_Nc E nm s)) (hcell : H[q]? = some ce) (hv : ce.vm = .none) (hcl : s.vm.findClass E = some ce.cls)
    (hx : ∀ t : State, t.heap = H → s.vm.Alike t.vm → XC E s t) (hf : ∀ z ∈ locs, free z.base) (hc : cells ≤ mc) (hs : slots ≤ ms) :
    vx_W p l e R s m args below meth c H locs cells slots (vx_MQ below Qc XC args s mc ms free) (F0 m pc ls rest) q := by
  intro T hT X
  have hpl : e.platform.magicAccessors = ({} : Platform).magicAccessors := by rw [X.admits.platform]
  obtain ⟨vm', hW', X', st⟩ := X.outThrough hlocks q (g := F0 m pc ls rest) rfl rfl rfl (cell := ce) (by rw [hT]; exact hcell) (by rw [hv]; rfl)
    (by obtain ⟨k9, h9, -⟩ := Vm.findClass_spec hcl; exact ⟨k9, h9⟩) (fun z hz => by
      rcases hpass z hz with h | ⟨hz0, nm, hl1, hn1⟩
      · exact Or.inl h
      · obtain ⟨c6, hc6, hcl6⟩ := Cond.classLink_spec hown hl1 e.platform hpl
        obtain ⟨a8, b8, h1, h2, h3⟩ := hn1
        cases Option.some.inj (h1.symm.trans hcl)
        cases Option.some.inj (h2.symm.trans hc6)
        exact Or.inr ⟨hz0, _, hcl6, h3⟩)
  obtain ⟨g₀, hfr⟩ := X'.frames_eq
  have hcell9 : ((T.setVm vm').setFrames (.throwing q :: below)).heap[q]? = some ce := by
    show T.heap[q]? = some ce
    rw [hT]; exact hcell
  have hend : Ended ((T.setVm vm').setFrames (.throwing q :: below)) below (.threw q) := State.frames_setFrames _ (State.cur_lt_of_frames hfr)
  refine ⟨(T.setVm vm').setFrames (.throwing q :: below), ?_, .threw q, X'.here.running, hend, Or.inr ⟨q, rfl, E, ce, locs, hx _ hT (X'.ends _).1.alike, hcell9, hv, hcl, (X'.ends _).1, (X'.ends _).2.mono hc hs, hf⟩⟩
  rw [X.pushThrowing_eq]
  exact st
/-- a thing of a world lies in the heap -/
theorem vx_lt {D : va_G} {cl : List vw_C} {ws : va_W} {H1 : Heap} (h : va_P D cl ws H1) {k : Nat} {q : Nat × va_E} (hk : ws[k]? = some q) : q.1 < H1.size := (h k q hk).lt
end VXS
/-! ===== END ===== -/
/-! ===== BEGIN methods with a table of their own: called by a name, returning or throwing ===== -/
section VXH
/-! vx_backW, vx_callVX, vx_callSX, vx_callVW, vx_runVW, vx_runVX, vx_runSX, vx_ofWH follow the same proofs as their sisters above (Free/Laws.lean, Shelf42/LK1.lean); vx_outP calls Shelf42/NT130.lean (outThrough). -/
section
variable {l : Launch} {R : Room} {p : Program} {e : Env} {below : List Frame} {s : State} {sargs : Array Value} {y : MethodName} {len W9 : Nat}
theorem vx_backW {ws : List Cond} {rm : Room} {Pc : Array Value → State → Prop} {Qc : Array Value → State → Outcome → State → Prop} {XC : String → State → State → Prop} {mc ms : Nat} {free : Addr → Prop} {bytes : ByteArray} {maxL : Nat} {ret : Option FieldType} {hh : List (Nat × Nat × Nat × Nat)}
    (hM : vx_Met l y ws rm Pc Qc XC mc ms free) (hblind : FrameBlind Pc) (hrc : rm.cells = mc) (hrs : rm.slots = ms)
    (hframes : rm.frames + 1 ≤ R.frames) (hlocals : W9 + (maxL + 11) + rm.locals ≤ R.locals)
    (hws : ∀ w ∈ ws, ∀ a' U, s.WarmedH U.vm → w.before a' U = true) (hcode : Cond.codeWith y bytes maxL ret hh ∈ ws) (hinit : ∀ a' U, s.WarmedH U.vm → (Cond.initialized y.cls).before a' U = true) :
    vx_Back l R p e below s sargs y len W9 (PreOf R mc ms Pc) (PostOf Qc mc ms free) (vx_Post XC mc ms free) := by
  intro m meth c A g ig mk a X hg hsize hdg hW hn hp
  have h1 : (headSpec ws rm).pre.before a A.U = true := atoms_intro fun w hw => hws w hw _ _ X.warmed
  have h2 : (Cond.codeWith y bytes maxL ret hh).before a A.U = true := hws _ hcode _ _ X.warmed
  have h3 : (Cond.initialized y.cls).before a A.U = true := hinit _ _ X.warmed
  have h4 : A.cells + (headSpec ws rm).room.cells ≤ R.cells := by rw [show (headSpec ws rm).room.cells = mc from hrc]; exact hp.1
  have h5 : A.slots + (headSpec ws rm).room.slots ≤ R.slots := by rw [show (headSpec ws rm).room.slots = ms from hrs]; exact hp.2.1
  have hPc : Pc a (A.U.calling g mk a) := hblind _ _ _ _ hp.2.2
  obtain ⟨U, Ls, c0, s0⟩ := A
  dsimp only [Pt.U, Pt.locs, Pt.cells, Pt.slots] at h1 h2 h3 h4 h5 X hn hPc ⊢
  obtain ⟨m9, methY, cY, hn9, hmY, hcY, -, hlY, -⟩ := Cond.codeWith_spec h2
  cases Option.some.inj (hn9.symm.trans hn)
  obtain ⟨kY, hkY, -⟩ := className_of_methodNamed hn
  have hinitY : kY.init = .initialized := Cond.initialized_spec (findClass_of_methodNamed hn) hkY h3
  have h : At U g.method c below := by rw [hg]; exact X.here
  have hlocals9 : W9 + (maxL + 11) + (headSpec ws rm).room.locals ≤ R.locals := hlocals
  have happ : (headSpec ws rm).appliesLoose y e.platform (U.calling g mk a) = true :=
    Spec.appliesLoose_calling (g := g) h hdg hn hkY hinitY
      (X.room_calling (g := g) (R' := (headSpec ws rm).room) hsize hmY hcY hframes (by rw [hlY]; omega) h4 h5) h1
  obtain ⟨mid, hmid⟩ := h.above
  have hfr : (U.setTop g).frames = (.java g :: mid) ++ below := by rw [State.frames_setTop' g h.top, hmid]; rfl
  obtain ⟨o, s₂, hsteps, -, hend, hq⟩ := Steps.callFree hM p X.admits X.cas X.clock (acts := []) hfr happ hPc trivial
  have hq' : vx_Q Qc XC mc ms free a (U.calling g mk a) o s₂ := hq
  rw [State.frames_setTop' g h.top] at hend
  obtain ⟨g₀, hg0⟩ := Option.isSome_iff_exists.mp h.top
  obtain ⟨r, hr⟩ := State.topJava?_eq_some.mp hg0
  have hr' : (({ U with heap := s₂.heap, slotsUsed := s₂.slotsUsed } : State).setVm s₂.vm).frames = .java g₀ :: r := hr
  rcases hq' with ⟨hqc, L, hfe, hL⟩ | ⟨q, rfl, E, ce, L, hx, hce, hcv, hcl, hW₂, hsm, hL⟩
  · obtain ⟨⟨v, rfl⟩, hW₂, e2, q2, q3, q4, q5, q6⟩ := id hfe
    have e3 : s₂ = ({ (U.calling g mk a).setFrames s₂.frames with heap := s₂.heap, slotsUsed := s₂.slotsUsed } : State).setVm s₂.vm := by
      have : s₂ = ({ s₂ with vm := (U.calling g mk a).vm } : State).setVm s₂.vm := rfl
      rw [e2] at this
      exact this
    obtain ⟨c₂, i₂, len₂, hc₂, hd₂, hf₂⟩ := hend
    have hW' : U.WarmedH s₂.vm := hW₂
    have hcc : c₂ = c := by
      have h1 : s₂.code? g.method = U.code? g.method := by
        rw [State.code?_eq, State.code?_eq, hW'.alike.method?]
      exact Option.some.inj (hc₂.symm.trans (h1.trans h.code))
    subst hcc
    have hlen : len₂ = len := by rw [hdg] at hd₂; cases hd₂; rfl
    subst hlen
    have hs₂ : s₂ = (({ U with heap := s₂.heap, slotsUsed := s₂.slotsUsed } : State).setVm s₂.vm).setTop { g with pc := g.pc + len₂, stack := v.toList ++ g.stack } := by
      refine e3.trans ?_
      rw [hf₂, State.calling_eq h.top, State.setFrames_setFrames, State.setTop_of_frames _ hr', hr]
      rfl
    have hsame : U.sameButNew ({ U with heap := s₂.heap, slotsUsed := s₂.slotsUsed } : State) L mc ms := by
      refine ⟨?_, q2, q3, q4, q5, q6⟩
      obtain ⟨t, ht, -⟩ := State.frames_cons hr
      show ({ U with heap := s₂.heap, slotsUsed := s₂.slotsUsed } : State) = { U.setFrames U.frames with heap := s₂.heap, slotsUsed := s₂.slotsUsed }
      rw [State.setFrames_self ht]
    subst hg
    refine Or.inl ⟨v, ⟨(({ U with heap := s₂.heap, slotsUsed := s₂.slotsUsed } : State).setVm s₂.vm), Ls ++ L, c0 + mc, s0 + ms⟩,
      ⟨X.admits, X.cas, X.clock, X.frames, X.room, X.hears, X.method, X.code, (X.here.setHeapUsed s₂.heap s₂.slotsUsed).setVm hW'.alike, X.tail, State.WarmedH.trans X.warmed hW', X.limits, X.bytes, X.same.trans (hsame.setVm s.vm)⟩,
      ⟨g, mk, s₂, L, rfl, rfl, hqc, rfl, hL, rfl, rfl⟩, ?_⟩
    show Steps p.tables e below _ ((({ U with heap := s₂.heap, slotsUsed := s₂.slotsUsed } : State).setVm s₂.vm).setTop { g with pc := g.pc + len₂, stack := v.toList ++ g.stack })
    rw [← hs₂]
    exact hsteps
  · obtain ⟨e2, q2, q3, q4, q5, q6⟩ := id hsm
    have e3 : s₂ = ({ (U.calling g mk a).setFrames s₂.frames with heap := s₂.heap, slotsUsed := s₂.slotsUsed } : State).setVm s₂.vm := by
      have : s₂ = ({ s₂ with vm := (U.calling g mk a).vm } : State).setVm s₂.vm := rfl
      rw [e2] at this
      exact this
    have hf₂ : s₂.frames = .throwing q :: .java g :: U.frames.tail := hend
    have hW' : U.WarmedH s₂.vm := hW₂
    have hs₂ : s₂ = ((({ U with heap := s₂.heap, slotsUsed := s₂.slotsUsed } : State).setVm s₂.vm).setTop g).pushFrame (.throwing q) := by
      refine e3.trans ?_
      rw [hf₂, State.calling_eq h.top, State.setFrames_setFrames, State.pushFrame, State.frames_setTop _ hr', State.setTop_of_frames _ hr', State.setFrames_setFrames, hr]
      rfl
    have hsame : U.sameButNew ({ U with heap := s₂.heap, slotsUsed := s₂.slotsUsed } : State) L mc ms := by
      refine ⟨?_, q2, q3, q4, q5, q6⟩
      obtain ⟨t, ht, -⟩ := State.frames_cons hr
      show ({ U with heap := s₂.heap, slotsUsed := s₂.slotsUsed } : State) = { U.setFrames U.frames with heap := s₂.heap, slotsUsed := s₂.slotsUsed }
      rw [State.setFrames_self ht]
    subst hg
    refine Or.inr ⟨q, ⟨(({ U with heap := s₂.heap, slotsUsed := s₂.slotsUsed } : State).setVm s₂.vm), Ls ++ L, c0 + mc, s0 + ms⟩,
      ⟨X.admits, X.cas, X.clock, X.frames, X.room, X.hears, X.method, X.code, (X.here.setHeapUsed s₂.heap s₂.slotsUsed).setVm hW'.alike, X.tail, State.WarmedH.trans X.warmed hW', X.limits, X.bytes, X.same.trans (hsame.setVm s.vm)⟩,
      ⟨g, mk, s₂, L, E, ce, rfl, rfl, hx, hce, hcv, hcl, rfl, hL, rfl, rfl⟩, ?_⟩
    show Steps p.tables e below _ (((({ U with heap := s₂.heap, slotsUsed := s₂.slotsUsed } : State).setVm s₂.vm).setTop g).pushFrame (.throwing q))
    rw [← hs₂]
    exact hsteps
end
variable {p : Program} {l : Launch} {e : Env} {R : Room} {s : State} {m : MethodId} {args : Array Value} {below : List Frame} {meth : Method} {c : Code} {T : State} {H : Heap} {locs : List Loc} {cells slots : Nat}
theorem vx_callVX (X : Stand p l e R s m args below meth c T locs cells slots) (hexec : p.tables.exec = Jvm.exec) {own C : String} {index : Nat} {y : MethodName} {bytes : ByteArray} {maxL : Nat} {ret : Option FieldType} {hh : List (Nat × Nat × Nat × Nat)}
    (hown : s.vm.findClass own = some m.cls) (hlink : (Cond.methodLink own index y).before args s = true) (hinst : (Cond.instanceMethod y).before args s = true) (hsel : (Cond.selects C y y).before args s = true)
    (hcode : (Cond.codeWith y bytes maxL ret hh).before args s = true) (hy : y.cls ≠ "java/lang/invoke/MethodHandle" ∧ y.cls ≠ "java/lang/invoke/VarHandle")
    {W9 : Nat} {Pre : Pt → Array Value → Prop} {Post : Pt → Array Value → Option Value → Pt → Prop} {PostX : Pt → Array Value → Addr → Pt → Prop} (hK : vx_Back l R p e below s args y 3 W9 Pre Post PostX)
    {b : Addr} {cellB : Cell} (hcell : T.heap[b]? = some cellB) (hobj : cellB.vm.isStatics = false) (hcls : s.vm.findClass C = some cellB.cls)
    {g : JFrame} (hg : g.method = m) (hsize : g.locals.size = c.maxLocals) {argsL rest : List Value} (hlen : ∀ sig, parseMethodDescriptor y.desc = some sig → argsL.length = sig.parameters.length)
    (hstack : g.stack = argsL.reverse ++ .ref b :: rest) (hW : 2 * g.monitorRoom + (rest.map fun v => v.category).sum ≤ W9) (hdg : decode c.code g.pc = .ok (.invokevirtual index, 3))
    (hpre : ∀ vm₁, s.WarmedH vm₁ → Pre ⟨T.setVm vm₁, locs, cells, slots⟩ (Value.ref b :: argsL).toArray) :
    (∃ (v : Option Value) (vm₁ : Vm) (B : Pt), s.WarmedH vm₁ ∧ Stand p l e R s m args below meth c B.U B.locs B.cells B.slots ∧ Post ⟨T.setVm vm₁, locs, cells, slots⟩ (Value.ref b :: argsL).toArray v B ∧
      ∀ target, Steps p.tables e below (B.U.setTop { g with pc := g.pc + 3, stack := v.toList ++ rest }) target → Steps p.tables e below (T.setTop g) target) ∨
    (∃ (q : Addr) (vm₁ : Vm) (B : Pt), s.WarmedH vm₁ ∧ Stand p l e R s m args below meth c B.U B.locs B.cells B.slots ∧ PostX ⟨T.setVm vm₁, locs, cells, slots⟩ (Value.ref b :: argsL).toArray q B ∧
      Steps p.tables e below (T.setTop g) ((B.U.setTop { g with stack := rest }).pushFrame (.throwing q))) := by
  obtain ⟨mk, methM, hnamed, hmethM, hstM, habM⟩ := Cond.instanceMethod_spec hinst
  obtain ⟨m8, methM', cM, hn8, hmethM', -, -, -, -, -, -, hsigM⟩ := Cond.codeWith_spec hcode
  cases Option.some.inj (hn8.symm.trans hnamed)
  cases hmethM.symm.trans hmethM'
  obtain ⟨c2, r2, m2, q1, q2, q3, q4, kP, hkP, hkPi⟩ := Cond.selects_spec hsel
  cases hcls.symm.trans q1
  cases (State.methodFound?_of_named hnamed hy).symm.trans q2
  cases hnamed.symm.trans q3
  have hselP : selectMethod e.platform s.vm cellB.cls mk = .method mk := by rw [Launch.admits_selectMethod X.admits]; exact q4
  obtain ⟨vm₁, X₁, hstep₁⟩ := X.invokevirtual hexec hown hlink hnamed hmethM hstM hkP hkPi hy (a := b) (cell := cellB) hcell
    (fun z h => by rw [h] at hobj; cases hobj) hselP hmethM habM hkP hkPi (g := g) hg (argsL := argsL) (rest := rest) (hlen _ hsigM) hstack hdg
  rcases hK m meth c ⟨T.setVm vm₁, locs, cells, slots⟩ { g with stack := rest } (.invokevirtual index) mk (Value.ref b :: argsL).toArray X₁ hg hsize hdg hW (X₁.named hnamed) (hpre vm₁ X₁.warmed) with ⟨v, B, X', hpost, hsteps⟩ | ⟨q, B, X', hpost, hsteps⟩
  · exact Or.inl ⟨v, vm₁, B, X₁.warmed, X', hpost, fun target h => hstep₁ _ fun acts => by rw [doInvoke_state]; exact hsteps.trans h⟩
  · exact Or.inr ⟨q, vm₁, B, X₁.warmed, X', hpost, hstep₁ _ fun acts => by rw [doInvoke_state]; exact hsteps⟩
theorem vx_callSX (X : Stand p l e R s m args below meth c T locs cells slots) (hexec : p.tables.exec = Jvm.exec) {own : String} {index : Nat} {y : MethodName} {bytes : ByteArray} {maxL : Nat} {ret : Option FieldType} {hh : List (Nat × Nat × Nat × Nat)}
    (hown : s.vm.findClass own = some m.cls) (hlink : (Cond.methodLink own index y).before args s = true) (hstat : (Cond.static y).before args s = true) (hinit : (Cond.initialized y.cls).before args s = true)
    (hcode : (Cond.codeWith y bytes maxL ret hh).before args s = true) (hy : y.cls ≠ "java/lang/invoke/MethodHandle" ∧ y.cls ≠ "java/lang/invoke/VarHandle")
    {W9 : Nat} {Pre : Pt → Array Value → Prop} {Post : Pt → Array Value → Option Value → Pt → Prop} {PostX : Pt → Array Value → Addr → Pt → Prop} (hK : vx_Back l R p e below s args y 3 W9 Pre Post PostX)
    {g : JFrame} (hg : g.method = m) (hsize : g.locals.size = c.maxLocals) {argsL rest : List Value} (hlen : ∀ sig, parseMethodDescriptor y.desc = some sig → argsL.length = sig.parameters.length)
    (hstack : g.stack = argsL.reverse ++ rest) (hW : 2 * g.monitorRoom + (rest.map fun v => v.category).sum ≤ W9) (hdg : decode c.code g.pc = .ok (.invokestatic index, 3))
    (hpre : ∀ vm₁, s.WarmedH vm₁ → Pre ⟨T.setVm vm₁, locs, cells, slots⟩ argsL.toArray) :
    (∃ (v : Option Value) (vm₁ : Vm) (B : Pt), s.WarmedH vm₁ ∧ Stand p l e R s m args below meth c B.U B.locs B.cells B.slots ∧ Post ⟨T.setVm vm₁, locs, cells, slots⟩ argsL.toArray v B ∧
      ∀ target, Steps p.tables e below (B.U.setTop { g with pc := g.pc + 3, stack := v.toList ++ rest }) target → Steps p.tables e below (T.setTop g) target) ∨
    (∃ (q : Addr) (vm₁ : Vm) (B : Pt), s.WarmedH vm₁ ∧ Stand p l e R s m args below meth c B.U B.locs B.cells B.slots ∧ PostX ⟨T.setVm vm₁, locs, cells, slots⟩ argsL.toArray q B ∧
      Steps p.tables e below (T.setTop g) ((B.U.setTop { g with stack := rest }).pushFrame (.throwing q))) := by
  obtain ⟨mk, methM, cM, hnamed, hmethM, -, -, -, -, -, -, hsigM⟩ := Cond.codeWith_spec hcode
  have hstatic : methM.isStatic = true := Cond.static_spec hnamed hmethM hstat
  obtain ⟨kP, hkP, -⟩ := className_of_methodNamed hnamed
  have hinitP : kP.init = .initialized := Cond.initialized_spec (findClass_of_methodNamed hnamed) hkP hinit
  obtain ⟨vm₁, X₁, hstep₁⟩ := X.invokestatic hexec hown hlink hnamed hmethM hstatic hkP hinitP hy (g := g) hg (argsL := argsL) (rest := rest) (hlen _ hsigM) hstack hdg
  rcases hK m meth c ⟨T.setVm vm₁, locs, cells, slots⟩ { g with stack := rest } (.invokestatic index) mk argsL.toArray X₁ hg hsize hdg hW (X₁.named hnamed) (hpre vm₁ X₁.warmed) with ⟨v, B, X', hpost, hsteps⟩ | ⟨q, B, X', hpost, hsteps⟩
  · exact Or.inl ⟨v, vm₁, B, X₁.warmed, X', hpost, fun target h => hstep₁ _ fun acts => by rw [doInvoke_state]; exact hsteps.trans h⟩
  · exact Or.inr ⟨q, vm₁, B, X₁.warmed, X', hpost, hstep₁ _ fun acts => by rw [doInvoke_state]; exact hsteps⟩
theorem vx_callVW (X : Stand p l e R s m args below meth c T locs cells slots) (hexec : p.tables.exec = Jvm.exec) {own C : String} {index : Nat} {y : MethodName} {bytes : ByteArray} {maxL : Nat} {ret : Option FieldType} {hh : List (Nat × Nat × Nat × Nat)}
    (hown : s.vm.findClass own = some m.cls) (hlink : (Cond.methodLink own index y).before args s = true) (hinst : (Cond.instanceMethod y).before args s = true) (hsel : (Cond.selects C y y).before args s = true)
    (hcode : (Cond.codeWith y bytes maxL ret hh).before args s = true) (hy : y.cls ≠ "java/lang/invoke/MethodHandle" ∧ y.cls ≠ "java/lang/invoke/VarHandle")
    {W9 : Nat} {Pre : Pt → Array Value → Prop} {Post : Pt → Array Value → Option Value → Pt → Prop} (hK : Back l R p e below s args y 3 W9 Pre Post)
    {b : Addr} {cellB : Cell} (hcell : T.heap[b]? = some cellB) (hobj : cellB.vm.isStatics = false) (hcls : s.vm.findClass C = some cellB.cls)
    {g : JFrame} (hg : g.method = m) (hsize : g.locals.size = c.maxLocals) {argsL rest : List Value} (hlen : ∀ sig, parseMethodDescriptor y.desc = some sig → argsL.length = sig.parameters.length)
    (hstack : g.stack = argsL.reverse ++ .ref b :: rest) (hW : 2 * g.monitorRoom + (rest.map fun v => v.category).sum ≤ W9) (hdg : decode c.code g.pc = .ok (.invokevirtual index, 3))
    (hpre : ∀ vm₁, s.WarmedH vm₁ → Pre ⟨T.setVm vm₁, locs, cells, slots⟩ (Value.ref b :: argsL).toArray) :
    ∃ (v : Option Value) (vm₁ : Vm) (B : Pt), s.WarmedH vm₁ ∧ Stand p l e R s m args below meth c B.U B.locs B.cells B.slots ∧ Post ⟨T.setVm vm₁, locs, cells, slots⟩ (Value.ref b :: argsL).toArray v B ∧
      ∀ target, Steps p.tables e below (B.U.setTop { g with pc := g.pc + 3, stack := v.toList ++ rest }) target → Steps p.tables e below (T.setTop g) target := by
  obtain ⟨mk, methM, hnamed, hmethM, hstM, habM⟩ := Cond.instanceMethod_spec hinst
  obtain ⟨m8, methM', cM, hn8, hmethM', -, -, -, -, -, -, hsigM⟩ := Cond.codeWith_spec hcode
  cases Option.some.inj (hn8.symm.trans hnamed)
  cases hmethM.symm.trans hmethM'
  obtain ⟨c2, r2, m2, q1, q2, q3, q4, kP, hkP, hkPi⟩ := Cond.selects_spec hsel
  cases hcls.symm.trans q1
  cases (State.methodFound?_of_named hnamed hy).symm.trans q2
  cases hnamed.symm.trans q3
  have hselP : selectMethod e.platform s.vm cellB.cls mk = .method mk := by rw [Launch.admits_selectMethod X.admits]; exact q4
  obtain ⟨vm₁, X₁, hstep₁⟩ := X.invokevirtual hexec hown hlink hnamed hmethM hstM hkP hkPi hy (a := b) (cell := cellB) hcell
    (fun z h => by rw [h] at hobj; cases hobj) hselP hmethM habM hkP hkPi (g := g) hg (argsL := argsL) (rest := rest) (hlen _ hsigM) hstack hdg
  obtain ⟨v, B, X', hpost, hsteps⟩ := hK m meth c ⟨T.setVm vm₁, locs, cells, slots⟩ { g with stack := rest } (.invokevirtual index) mk (Value.ref b :: argsL).toArray X₁ hg hsize hdg hW (X₁.named hnamed) (hpre vm₁ X₁.warmed)
  exact ⟨v, vm₁, B, X₁.warmed, X', hpost, fun target h => hstep₁ _ fun acts => by rw [doInvoke_state]; exact hsteps.trans h⟩
abbrev vx_CVW (R : Room) (s : State) (args : Array Value) (own C : String) (index : Nat) (y : MethodName) (bytes : ByteArray) (maxL : Nat) (ret : Option FieldType) (hh : List (Nat × Nat × Nat × Nat)) (ws : List Cond) (rm : Room) (mc ms n : Nat) : Prop :=
  (rm.cells = mc ∧ rm.slots = ms ∧ rm.frames + 1 ≤ R.frames ∧ 8 + (maxL + 11) + rm.locals ≤ R.locals ∧ (∀ w ∈ ws, ∀ (a' : Array Value) (U : State), s.WarmedH U.vm → w.before a' U = true) ∧ Cond.codeWith y bytes maxL ret hh ∈ ws) ∧
  (Cond.codeWith y bytes maxL ret hh).before args s = true ∧ (Cond.initialized y.cls).before args s = true ∧ (y.cls ≠ "java/lang/invoke/MethodHandle" ∧ y.cls ≠ "java/lang/invoke/VarHandle") ∧
  (∀ sig, parseMethodDescriptor y.desc = some sig → n = sig.parameters.length) ∧ (Cond.methodLink own index y).before args s = true ∧ (Cond.instanceMethod y).before args s = true ∧ (Cond.selects C y y).before args s = true
theorem vx_cwVW {own C : String} {index maxL mc ms : Nat} {y : MethodName} {bytes : ByteArray} {ret : Option FieldType} {hh : List (Nat × Nat × Nat × Nat)} {Ts ws ws' : List Cond} {rm : Room} (n : Nat) (ht : ∀ w ∈ Ts, w.before args s = true) (hT : GoodIn Ts (wsV own index C y ws)) (hw : ws = Cond.codeWith y bytes maxL ret hh :: ws') (hrc : rm.cells = mc) (hrs : rm.slots = ms)
    (hd : y.cls = C ∧ y.cls ≠ "java/lang/invoke/MethodHandle" ∧ y.cls ≠ "java/lang/invoke/VarHandle" ∧ (parseMethodDescriptor y.desc).map (fun d => d.parameters.length) = some n) (hR : rm.frames + 1 ≤ R.frames ∧ 8 + (maxL + 11) + rm.locals ≤ R.locals) :
    vx_CVW R s args own C index y bytes maxL ret hh ws rm mc ms n := by
  obtain ⟨hC, hd⟩ := hd
  subst hC
  have ok : ∀ w ∈ wsV own index y.cls y ws, w.before args s = true := fun w h => ht w (hT w h).1
  have hG : GoodIn Ts ws := fun w h => hT w (by unfold wsV; exact List.mem_append_right _ h)
  have hc : Cond.codeWith y bytes maxL ret hh ∈ ws := by rw [hw]; exact List.mem_cons_self
  refine ⟨⟨hrc, hrs, hR.1, hR.2, pay_in ht hG, hc⟩, ht _ (hG _ hc).1, ok _ (by simp [wsV]), ⟨hd.1, hd.2.1⟩, fun sig h => ?_, ok _ (by simp [wsV]), ok _ (by simp [wsV]), ok _ (by simp [wsV])⟩
  have h2 := hd.2.2
  rw [h] at h2
  exact (Option.some.inj h2).symm
theorem vx_runVW {y : MethodName} {bytes cc : ByteArray} {maxL nL mc ms n index : Nat} {ret : Option FieldType} {hh : List (Nat × Nat × Nat × Nat)} {ws : List Cond} {rm : Room} {Pc : Array Value → State → Prop} {Qc : Array Value → State → Outcome → State → Prop} {free : Addr → Prop} {Ts : List Cond} {own C : String} {b : Addr} {As rest : List Value} {g : JFrame}
    (S : CallFix p m c cc nL s args Ts own) (hM : Met l y ws rm Pc Qc mc ms free) (cw : vx_CVW R s args own C index y bytes maxL ret hh ws rm mc ms n) (hp : PreV s H C b Pc As)
    (hg : g.method = m) (hn : As.length = n) (hsize : g.locals.size = nL) (hstack : g.stack = As.reverse ++ .ref b :: rest) (hW : 2 * g.monitorRoom + (rest.map fun v => v.category).sum ≤ 8) (hdg : decode cc g.pc = .ok (.invokevirtual index, 3)) (hf : cells + mc ≤ R.cells ∧ slots + ms ≤ R.slots) :
    va_Run p l e R s m args below meth c H locs cells slots mc ms g rest (Qc (Value.ref b :: As).toArray) free := by
  obtain ⟨⟨hrc, hrs, hfr, hlo, hws, hcw⟩, hcode, hini, hy, hlen, hl, hin, hse⟩ := cw
  have hK : Back l R p e below s args y 3 8 (PreOf R mc ms Pc) (PostOf Qc mc ms free) := va_backW (hh := hh) (bytes := bytes) (maxL := maxL) (ret := ret) hM hp.1 hrc hrs hfr hlo hws hcw (fun a' U hW => word_at hW (Or.inl (by first | rfl | simp [Cond.onTables, Cond.keeps, Cond.steady])) hini)
  obtain ⟨hx, hb, hml, ho, -⟩ := S
  obtain ⟨-, ⟨cellB, hcB, hoB, hclB⟩, hPc⟩ := hp
  intro T hT X
  obtain ⟨v, vm₁, ⟨U', l2, c2, s2⟩, hW₁, X', ⟨g', mk, t, L, e1, e2, hq, h1, hL, h2, h3⟩, st⟩ := vx_callVW X hx (C := C) (hh := hh) (bytes := bytes) (maxL := maxL) (ret := ret) ho hl hin hse hcode hy hK (by rw [hT]; exact hcB) hoB hclB hg (hsize.trans hml.symm) (argsL := As) (rest := rest) (fun sig h => hn.trans (hlen sig h)) hstack hW (by rw [hb]; exact hdg)
    (fun vm₁ hW₁ => ⟨hf.1, hf.2, hPc (T.setVm vm₁) hT hW₁⟩)
  dsimp only [Pt.U, Pt.locs, Pt.cells, Pt.slots] at X' e1 e2 h1 h2 h3 st
  subst h1; subst h2; subst h3
  exact ⟨v, (T.setVm vm₁).calling g' mk (Value.ref b :: As).toArray, t, U', L, hT, X', hL, e1, e2, hq, st⟩
section
variable {y : MethodName} {bytes cc : ByteArray} {maxL nL mc ms n index : Nat} {ret : Option FieldType} {ws : List Cond} {rm : Room} {Pc : Array Value → State → Prop} {Qc : Array Value → State → Outcome → State → Prop} {XC : String → State → State → Prop} {free : Addr → Prop} {Ts : List Cond} {own C : String} {b : Addr} {As rest : List Value} {g : JFrame}
theorem vx_runVX {hh : List (Nat × Nat × Nat × Nat)} (S : CallFix p m c cc nL s args Ts own) (hM : vx_Met l y ws rm Pc Qc XC mc ms free) (cw : vx_CVW R s args own C index y bytes maxL ret hh ws rm mc ms n) (hp : PreV s H C b Pc As)
    (hg : g.method = m) (hn : As.length = n) (hsize : g.locals.size = nL) (hstack : g.stack = As.reverse ++ .ref b :: rest) (hW : 2 * g.monitorRoom + (rest.map fun v => v.category).sum ≤ 8) (hdg : decode cc g.pc = .ok (.invokevirtual index, 3)) (hf : cells + mc ≤ R.cells ∧ slots + ms ≤ R.slots) :
    vx_Run p l e R s m args below meth c H locs cells slots mc ms g rest (Qc (Value.ref b :: As).toArray) XC free := by
  obtain ⟨⟨hrc, hrs, hfr, hlo, hws, hcw⟩, hcode, hini, hy, hlen, hl, hin, hse⟩ := cw
  have hK : vx_Back l R p e below s args y 3 8 (PreOf R mc ms Pc) (PostOf Qc mc ms free) (vx_Post XC mc ms free) := vx_backW (hh := hh) (bytes := bytes) (maxL := maxL) (ret := ret) hM hp.1 hrc hrs hfr hlo hws hcw (fun a' U hW => word_at hW (Or.inl (by first | rfl | simp [Cond.onTables, Cond.keeps, Cond.steady])) hini)
  obtain ⟨hx, hb, hml, ho, -⟩ := S
  obtain ⟨-, ⟨cellB, hcB, hoB, hclB⟩, hPc⟩ := hp
  intro T hT X
  rcases vx_callVX X hx (C := C) (hh := hh) (bytes := bytes) (maxL := maxL) (ret := ret) ho hl hin hse hcode hy hK (by rw [hT]; exact hcB) hoB hclB hg (hsize.trans hml.symm) (argsL := As) (rest := rest) (fun sig h => hn.trans (hlen sig h)) hstack hW (by rw [hb]; exact hdg)
    (fun vm₁ hW₁ => ⟨hf.1, hf.2, hPc (T.setVm vm₁) hT hW₁⟩) with ⟨v, vm₁, ⟨U', l2, c2, s2⟩, hW₁, X', ⟨g', mk, t, L, e1, e2, hq, h1, hL, h2, h3⟩, st⟩ | ⟨q, vm₁, ⟨U', l2, c2, s2⟩, hW₁, X', ⟨g', mk, t, L, E, ce, e1, e2, hq, hce, hcv, hcl, h1, hL, h2, h3⟩, st⟩
  · dsimp only [Pt.U, Pt.locs, Pt.cells, Pt.slots] at X' e1 e2 h1 h2 h3 st
    subst h1; subst h2; subst h3
    exact Or.inl ⟨v, (T.setVm vm₁).calling g' mk (Value.ref b :: As).toArray, t, U', L, hT, X', hL, e1, e2, hq, st⟩
  · dsimp only [Pt.U, Pt.locs, Pt.cells, Pt.slots] at X' e1 e2 h1 h2 h3 st hcl
    subst h1; subst h2; subst h3
    exact Or.inr ⟨q, (T.setVm vm₁).calling g' mk (Value.ref b :: As).toArray, t, U', L, E, ce, hT, X', hL, e1, e2, hq, hce, hcv, vx_cls hW₁ hcl, st⟩
theorem vx_runSX {hh : List (Nat × Nat × Nat × Nat)} (S : CallFix p m c cc nL s args Ts own) (hM : vx_Met l y ws rm Pc Qc XC mc ms free) (cw : vx_CSW R s args own index y bytes maxL ret hh ws rm mc ms n) (hp : PreS s H Pc As)
    (hg : g.method = m) (hn : As.length = n) (hsize : g.locals.size = nL) (hstack : g.stack = As.reverse ++ rest) (hW : 2 * g.monitorRoom + (rest.map fun v => v.category).sum ≤ 8) (hdg : decode cc g.pc = .ok (.invokestatic index, 3)) (hf : cells + mc ≤ R.cells ∧ slots + ms ≤ R.slots) :
    vx_Run p l e R s m args below meth c H locs cells slots mc ms g rest (Qc As.toArray) XC free := by
  obtain ⟨⟨hrc, hrs, hfr, hlo, hws, hcw⟩, hcode, hini, hy, hlen, hl, hstt⟩ := cw
  have hK : vx_Back l R p e below s args y 3 8 (PreOf R mc ms Pc) (PostOf Qc mc ms free) (vx_Post XC mc ms free) := vx_backW (hh := hh) (bytes := bytes) (maxL := maxL) (ret := ret) hM hp.1 hrc hrs hfr hlo hws hcw (fun a' U hW => word_at hW (Or.inl (by first | rfl | simp [Cond.onTables, Cond.keeps, Cond.steady])) hini)
  obtain ⟨hx, hb, hml, ho, -⟩ := S
  intro T hT X
  rcases vx_callSX X hx (hh := hh) (bytes := bytes) (maxL := maxL) (ret := ret) ho hl hstt hini hcode hy hK hg (hsize.trans hml.symm) (argsL := As) (rest := rest) (fun sig h => hn.trans (hlen sig h)) hstack hW (by rw [hb]; exact hdg)
    (fun vm₁ hW₁ => ⟨hf.1, hf.2, hp.2 (T.setVm vm₁) hT hW₁⟩) with ⟨v, vm₁, ⟨U', l2, c2, s2⟩, hW₁, X', ⟨g', mk, t, L, e1, e2, hq, h1, hL, h2, h3⟩, st⟩ | ⟨q, vm₁, ⟨U', l2, c2, s2⟩, hW₁, X', ⟨g', mk, t, L, E, ce, e1, e2, hq, hce, hcv, hcl, h1, hL, h2, h3⟩, st⟩
  · dsimp only [Pt.U, Pt.locs, Pt.cells, Pt.slots] at X' e1 e2 h1 h2 h3 st
    subst h1; subst h2; subst h3
    exact Or.inl ⟨v, (T.setVm vm₁).calling g' mk As.toArray, t, U', L, hT, X', hL, e1, e2, hq, st⟩
  · dsimp only [Pt.U, Pt.locs, Pt.cells, Pt.slots] at X' e1 e2 h1 h2 h3 st hcl
    subst h1; subst h2; subst h3
    exact Or.inr ⟨q, (T.setVm vm₁).calling g' mk As.toArray, t, U', L, E, ce, hT, X', hL, e1, e2, hq, hce, hcv, vx_cls hW₁ hcl, st⟩
end
end VXH
theorem vx_ofWH {l : Launch} {y : MethodName} {ws ws' : List Cond} {rm : Room} {Pc : Array Value → State → Prop} {Qc : Array Value → State → Outcome → State → Prop} {XC : String → State → State → Prop} {mc ms : Nat} {free : Addr → Prop} {cc : ByteArray} {maxL : Nat} {ret : Option FieldType} {hh : List (Nat × Nat × Nat × Nat)}
    (hy : plainName y.cls = true) (hw : ws = Cond.codeWith y cc maxL ret hh :: ws')
    (body : ∀ p e s m args below meth c s₁, BodyLoose p l y (headSpec ws rm) cc maxL ret e s m args below meth c s₁ → c.maxLocals = maxL → Pc args s →
      W p l e (headSpec ws rm).room s m args below meth c s.heap [] 0 0 (vx_MQ below Qc XC args s mc ms free) (entryFrame m args maxL)) : vx_Met l y ws rm Pc Qc XC mc ms free := by
  refine MetFree.of_bodyS (code := cc) (maxLocals := maxL) (ret := ret) hy ?_ ?_
  · intro args s m h hn
    obtain ⟨m9, meth, c, hn9, h1, h2, h3, h4, -, h5, h6, -⟩ := Cond.codeWith_spec (atoms_spec (ws := ws) h _ (by rw [hw]; exact List.mem_cons_self))
    cases hn.symm.trans hn9
    exact ⟨meth, c, h1, h2, h3, h4, h5, h6⟩
  · intro p e s m args below meth c s₁ B hml hP _
    have hh0 : s₁.heap = s.heap := by rw [B.state]; rfl
    obtain ⟨t, a1, o, b1, b2, b3⟩ := body p e s m args below meth c s₁ B hml hP s₁ hh0 (Stand.of_body B)
    exact ⟨t, o, a1, b1, b2, b3⟩
/-! ===== END ===== -/
end
section
/-! ===== BEGIN printed: names, fields, word lists, decode rows ===== -/
def RX0 : String := "TicketCoincidences"
def TX0 : u_T := fun k => match k with
  | 0 => ("TicketCoincidences", "tickets", "[I", true)
  | 1 => ("TicketCoincidences", "colours", "[I", true)
  | 2 => ("TicketCoincidences", "corners", "[I", true)
  | 3 => ("TicketCoincidences", "walks", "[I", true)
  | 4 => ("TicketCoincidences", "people", "I", false)
  | 5 => ("TicketCoincidences", "hourNow", "I", false)
  | 6 => ("TicketCoincidences", "inStore", "I", false)
  | 7 => ("TicketCoincidences", "countedInAll", "I", false)
  | _ => ("TicketCoincidences", "spentInAll", "I", false)
def tyX0 : Nat → FieldType := fun k => match k with
  | 0 => .array .int
  | 1 => .array .int
  | 2 => .array .int
  | 3 => .array .int
  | 4 => .int
  | 5 => .int
  | 6 => .int
  | 7 => .int
  | _ => .int
abbrev wsX00 : List Cond := u_ws RX0 TX0 9
theorem nmX0 : ∀ a, a < 9 → ∀ b, b < 9 → a ≠ b → (TX0 a).2.1 ≠ (TX0 b).2.1 := by decide +kernel
theorem tyX0_ok : ∀ k, k < 9 → parseFieldDescriptor (TX0 k).2.2.1 = some (tyX0 k) := by decide +kernel
abbrev cX0_init : ByteArray := prog_1_method_1_code
def yX0_init : MethodName := ⟨RX0, "<init>", "()V"⟩
abbrev cX0_addStranger : ByteArray := prog_1_method_2_code
def yX0_addStranger : MethodName := ⟨RX0, "addStranger", "(IIII)I"⟩
abbrev cX0_setWalk : ByteArray := prog_1_method_3_code
def yX0_setWalk : MethodName := ⟨RX0, "setWalk", "(II)I"⟩
abbrev cX0_move : ByteArray := prog_1_method_4_code
def yX0_move : MethodName := ⟨RX0, "move", "(II)I"⟩
abbrev cX0_swapUmbrellas : ByteArray := prog_1_method_5_code
def yX0_swapUmbrellas : MethodName := ⟨RX0, "swapUmbrellas", "(II)I"⟩
abbrev cX0_swapTickets : ByteArray := prog_1_method_6_code
def yX0_swapTickets : MethodName := ⟨RX0, "swapTickets", "(II)I"⟩
abbrev cX0_draw : ByteArray := prog_1_method_7_code
def yX0_draw : MethodName := ⟨RX0, "draw", "(II)I"⟩
abbrev cX0_pass : ByteArray := prog_1_method_8_code
def yX0_pass : MethodName := ⟨RX0, "pass", "(I)I"⟩
abbrev cX0_strangers : ByteArray := prog_1_method_9_code
def yX0_strangers : MethodName := ⟨RX0, "strangers", "()I"⟩
abbrev cX0_hour : ByteArray := prog_1_method_10_code
def yX0_hour : MethodName := ⟨RX0, "hour", "()I"⟩
abbrev cX0_store : ByteArray := prog_1_method_11_code
def yX0_store : MethodName := ⟨RX0, "store", "()I"⟩
abbrev cX0_counted : ByteArray := prog_1_method_12_code
def yX0_counted : MethodName := ⟨RX0, "counted", "()I"⟩
abbrev cX0_spent : ByteArray := prog_1_method_13_code
def yX0_spent : MethodName := ⟨RX0, "spent", "()I"⟩
abbrev cX0_ticketOf : ByteArray := prog_1_method_14_code
def yX0_ticketOf : MethodName := ⟨RX0, "ticketOf", "(I)I"⟩
abbrev cX0_colourOf : ByteArray := prog_1_method_15_code
def yX0_colourOf : MethodName := ⟨RX0, "colourOf", "(I)I"⟩
abbrev cX0_cornerOf : ByteArray := prog_1_method_16_code
def yX0_cornerOf : MethodName := ⟨RX0, "cornerOf", "(I)I"⟩
abbrev cX0_walkOf : ByteArray := prog_1_method_17_code
def yX0_walkOf : MethodName := ⟨RX0, "walkOf", "(I)I"⟩
abbrev cX0_peopleAt : ByteArray := prog_1_method_18_code
def yX0_peopleAt : MethodName := ⟨RX0, "peopleAt", "(I)I"⟩
abbrev cX0_pointsOf : ByteArray := prog_1_method_19_code
def yX0_pointsOf : MethodName := ⟨RX0, "pointsOf", "(II)I"⟩
abbrev cX0_areTogether : ByteArray := prog_1_method_20_code
def yX0_areTogether : MethodName := ⟨RX0, "areTogether", "(II)Z"⟩
abbrev cX0_areMirrored : ByteArray := prog_1_method_21_code
def yX0_areMirrored : MethodName := ⟨RX0, "areMirrored", "(II)Z"⟩
abbrev cX0_coincidences : ByteArray := prog_1_method_22_code
def yX0_coincidences : MethodName := ⟨RX0, "coincidences", "()I"⟩
abbrev cX0_coincidencesAt : ByteArray := prog_1_method_23_code
def yX0_coincidencesAt : MethodName := ⟨RX0, "coincidencesAt", "(I)I"⟩
abbrev cX0_luckOf : ByteArray := prog_1_method_24_code
def yX0_luckOf : MethodName := ⟨RX0, "luckOf", "(I)I"⟩
abbrev cX0_luckiestPair : ByteArray := prog_1_method_25_code
def yX0_luckiestPair : MethodName := ⟨RX0, "luckiestPair", "()I"⟩
abbrev cX0_coincidencesIn : ByteArray := prog_1_method_26_code
def yX0_coincidencesIn : MethodName := ⟨RX0, "coincidencesIn", "(I)I"⟩
abbrev cX0_hoursUntilTogether : ByteArray := prog_1_method_27_code
def yX0_hoursUntilTogether : MethodName := ⟨RX0, "hoursUntilTogether", "(II)I"⟩
abbrev cX0_costOfMeeting : ByteArray := prog_1_method_28_code
def yX0_costOfMeeting : MethodName := ⟨RX0, "costOfMeeting", "(II)I"⟩
abbrev cX0_bestHour : ByteArray := prog_1_method_29_code
def yX0_bestHour : MethodName := ⟨RX0, "bestHour", "()I"⟩
abbrev cX0_bestCorner : ByteArray := prog_1_method_30_code
def yX0_bestCorner : MethodName := ⟨RX0, "bestCorner", "(I)I"⟩
abbrev cX0_bestSwap : ByteArray := prog_1_method_31_code
def yX0_bestSwap : MethodName := ⟨RX0, "bestSwap", "()I"⟩
abbrev cX0_bestTicket : ByteArray := prog_1_method_32_code
def yX0_bestTicket : MethodName := ⟨RX0, "bestTicket", "(I)I"⟩
abbrev cX0_meanLuck : ByteArray := prog_1_method_33_code
def yX0_meanLuck : MethodName := ⟨RX0, "meanLuck", "()D"⟩
abbrev cX0_digest : ByteArray := prog_1_method_34_code
def yX0_digest : MethodName := ⟨RX0, "digest", "()J"⟩
abbrev cX0_isTicket : ByteArray := prog_1_method_35_code
def yX0_isTicket : MethodName := ⟨RX0, "isTicket", "(I)Z"⟩
abbrev cX0_isColour : ByteArray := prog_1_method_36_code
def yX0_isColour : MethodName := ⟨RX0, "isColour", "(I)Z"⟩
abbrev cX0_isCorner : ByteArray := prog_1_method_37_code
def yX0_isCorner : MethodName := ⟨RX0, "isCorner", "(I)Z"⟩
abbrev cX0_isWalk : ByteArray := prog_1_method_38_code
def yX0_isWalk : MethodName := ⟨RX0, "isWalk", "(I)Z"⟩
abbrev cX0_requireStranger : ByteArray := prog_1_method_39_code
def yX0_requireStranger : MethodName := ⟨RX0, "requireStranger", "(I)V"⟩
abbrev cX0_requirePair : ByteArray := prog_1_method_40_code
def yX0_requirePair : MethodName := ⟨RX0, "requirePair", "(II)V"⟩
abbrev cX0_requireCorner : ByteArray := prog_1_method_41_code
def yX0_requireCorner : MethodName := ⟨RX0, "requireCorner", "(I)V"⟩
abbrev cX0_pay : ByteArray := prog_1_method_42_code
def yX0_pay : MethodName := ⟨RX0, "pay", "(I)V"⟩
abbrev cX0_costOfWay : ByteArray := prog_1_method_43_code
def yX0_costOfWay : MethodName := ⟨RX0, "costOfWay", "(II)I"⟩
abbrev cX0_passOneHour : ByteArray := prog_1_method_44_code
def yX0_passOneHour : MethodName := ⟨RX0, "passOneHour", "()V"⟩
abbrev cX0_emptyCorners : ByteArray := prog_1_method_45_code
def yX0_emptyCorners : MethodName := ⟨RX0, "emptyCorners", "()I"⟩
abbrev cX0_crowdAt : ByteArray := prog_1_method_46_code
def yX0_crowdAt : MethodName := ⟨RX0, "crowdAt", "(I)I"⟩
abbrev cX0_exchange : ByteArray := prog_1_method_47_code
def yX0_exchange : MethodName := ⟨RX0, "exchange", "([III)V"⟩
abbrev cX0_mirrored : ByteArray := prog_1_method_48_code
def yX0_mirrored : MethodName := ⟨RX0, "mirrored", "(II)Z"⟩
abbrev cX0_figureSum : ByteArray := prog_1_method_49_code
def yX0_figureSum : MethodName := ⟨RX0, "figureSum", "(I)I"⟩
abbrev cX0_pointsOfTickets : ByteArray := prog_1_method_50_code
def yX0_pointsOfTickets : MethodName := ⟨RX0, "pointsOfTickets", "(II)I"⟩
abbrev cX0_pointsOfColours : ByteArray := prog_1_method_51_code
def yX0_pointsOfColours : MethodName := ⟨RX0, "pointsOfColours", "(II)I"⟩
abbrev cX0_pointsOfPair : ByteArray := prog_1_method_52_code
def yX0_pointsOfPair : MethodName := ⟨RX0, "pointsOfPair", "(II)I"⟩
abbrev cX0_cornerBehind : ByteArray := prog_1_method_53_code
def yX0_cornerBehind : MethodName := ⟨RX0, "cornerBehind", "(II)I"⟩
abbrev cX0_townBehind : ByteArray := prog_1_method_54_code
def yX0_townBehind : MethodName := ⟨RX0, "townBehind", "(I)I"⟩
abbrev cX0_townIfSwapped : ByteArray := prog_1_method_55_code
def yX0_townIfSwapped : MethodName := ⟨RX0, "townIfSwapped", "(II)I"⟩
abbrev cX0_luckNow : ByteArray := prog_1_method_56_code
def yX0_luckNow : MethodName := ⟨RX0, "luckNow", "(I)I"⟩
abbrev cX0_luckWith : ByteArray := prog_1_method_57_code
def yX0_luckWith : MethodName := ⟨RX0, "luckWith", "(III)I"⟩
abbrev cX0_mixed : ByteArray := prog_1_method_58_code
def yX0_mixed : MethodName := ⟨RX0, "mixed", "(JJ)J"⟩
def RX1 : String := "TicketCoincidencesModel"
def TX1 : u_T := fun k => match k with
  | 0 => ("TicketCoincidencesModel", "thrown", "I", false)
  | 1 => ("TicketCoincidencesModel", "people", "I", false)
  | 2 => ("TicketCoincidencesModel", "ticket", "[I", true)
  | 3 => ("TicketCoincidencesModel", "colour", "[I", true)
  | 4 => ("TicketCoincidencesModel", "corner", "[I", true)
  | 5 => ("TicketCoincidencesModel", "walk", "[I", true)
  | 6 => ("TicketCoincidencesModel", "hour", "I", false)
  | 7 => ("TicketCoincidencesModel", "store", "I", false)
  | 8 => ("TicketCoincidencesModel", "counted", "I", false)
  | _ => ("TicketCoincidencesModel", "spent", "I", false)
def tyX1 : Nat → FieldType := fun k => match k with
  | 0 => .int
  | 1 => .int
  | 2 => .array .int
  | 3 => .array .int
  | 4 => .array .int
  | 5 => .array .int
  | 6 => .int
  | 7 => .int
  | 8 => .int
  | _ => .int
abbrev wsX10 : List Cond := u_ws RX1 TX1 10
theorem nmX1 : ∀ a, a < 10 → ∀ b, b < 10 → a ≠ b → (TX1 a).2.1 ≠ (TX1 b).2.1 := by decide +kernel
theorem tyX1_ok : ∀ k, k < 10 → parseFieldDescriptor (TX1 k).2.2.1 = some (tyX1 k) := by decide +kernel
abbrev cX1_init : ByteArray := prog_3_method_1_code
def yX1_init : MethodName := ⟨RX1, "<init>", "()V"⟩
abbrev cX1_thrown : ByteArray := prog_3_method_2_code
def yX1_thrown : MethodName := ⟨RX1, "thrown", "()I"⟩
abbrev cX1_no : ByteArray := prog_3_method_3_code
def yX1_no : MethodName := ⟨RX1, "no", "(I)I"⟩
abbrev cX1_ok : ByteArray := prog_3_method_5_code
def yX1_ok : MethodName := ⟨RX1, "ok", "(I)I"⟩
abbrev cX1_isIn : ByteArray := prog_3_method_6_code
def yX1_isIn : MethodName := ⟨RX1, "isIn", "(III)Z"⟩
abbrev cX1_isOne : ByteArray := prog_3_method_7_code
def yX1_isOne : MethodName := ⟨RX1, "isOne", "(I)Z"⟩
abbrev cX1_isCorner : ByteArray := prog_3_method_8_code
def yX1_isCorner : MethodName := ⟨RX1, "isCorner", "(I)Z"⟩
abbrev cX1_isMirror : ByteArray := prog_3_method_9_code
def yX1_isMirror : MethodName := ⟨RX1, "isMirror", "(II)Z"⟩
abbrev cX1_points : ByteArray := prog_3_method_10_code
def yX1_points : MethodName := ⟨RX1, "points", "(II)I"⟩
abbrev cX1_cornerIn : ByteArray := prog_3_method_11_code
def yX1_cornerIn : MethodName := ⟨RX1, "cornerIn", "(II)I"⟩
abbrev cX1_town : ByteArray := prog_3_method_12_code
def yX1_town : MethodName := ⟨RX1, "town", "(II)I"⟩
abbrev cX1_here : ByteArray := prog_3_method_13_code
def yX1_here : MethodName := ⟨RX1, "here", "()I"⟩
abbrev cX1_luck : ByteArray := prog_3_method_14_code
def yX1_luck : MethodName := ⟨RX1, "luck", "(I)I"⟩
abbrev cX1_at : ByteArray := prog_3_method_15_code
def yX1_at : MethodName := ⟨RX1, "at", "(I)I"⟩
abbrev cX1_apart : ByteArray := prog_3_method_16_code
def yX1_apart : MethodName := ⟨RX1, "apart", "(II)I"⟩
abbrev cX1_addStranger : ByteArray := prog_3_method_17_code
def yX1_addStranger : MethodName := ⟨RX1, "addStranger", "(IIII)I"⟩
abbrev cX1_setWalk : ByteArray := prog_3_method_18_code
def yX1_setWalk : MethodName := ⟨RX1, "setWalk", "(II)I"⟩
abbrev cX1_pay : ByteArray := prog_3_method_19_code
def yX1_pay : MethodName := ⟨RX1, "pay", "(I)I"⟩
abbrev cX1_move : ByteArray := prog_3_method_20_code
def yX1_move : MethodName := ⟨RX1, "move", "(II)I"⟩
abbrev cX1_wrongPair : ByteArray := prog_3_method_21_code
def yX1_wrongPair : MethodName := ⟨RX1, "wrongPair", "(II)I"⟩
abbrev cX1_swap : ByteArray := prog_3_method_22_code
def yX1_swap : MethodName := ⟨RX1, "swap", "([III)V"⟩
abbrev cX1_swapped : ByteArray := prog_3_method_23_code
def yX1_swapped : MethodName := ⟨RX1, "swapped", "([III)I"⟩
abbrev cX1_swapUmbrellas : ByteArray := prog_3_method_24_code
def yX1_swapUmbrellas : MethodName := ⟨RX1, "swapUmbrellas", "(II)I"⟩
abbrev cX1_swapTickets : ByteArray := prog_3_method_25_code
def yX1_swapTickets : MethodName := ⟨RX1, "swapTickets", "(II)I"⟩
abbrev cX1_draw : ByteArray := prog_3_method_26_code
def yX1_draw : MethodName := ⟨RX1, "draw", "(II)I"⟩
abbrev cX1_goOn : ByteArray := prog_3_method_27_code
def yX1_goOn : MethodName := ⟨RX1, "goOn", "()V"⟩
abbrev cX1_pass : ByteArray := prog_3_method_28_code
def yX1_pass : MethodName := ⟨RX1, "pass", "(I)I"⟩
abbrev cX1_strangers : ByteArray := prog_3_method_29_code
def yX1_strangers : MethodName := ⟨RX1, "strangers", "()I"⟩
abbrev cX1_hour : ByteArray := prog_3_method_30_code
def yX1_hour : MethodName := ⟨RX1, "hour", "()I"⟩
abbrev cX1_store : ByteArray := prog_3_method_31_code
def yX1_store : MethodName := ⟨RX1, "store", "()I"⟩
abbrev cX1_counted : ByteArray := prog_3_method_32_code
def yX1_counted : MethodName := ⟨RX1, "counted", "()I"⟩
abbrev cX1_spent : ByteArray := prog_3_method_33_code
def yX1_spent : MethodName := ⟨RX1, "spent", "()I"⟩
abbrev cX1_of : ByteArray := prog_3_method_34_code
def yX1_of : MethodName := ⟨RX1, "of", "(I[I)I"⟩
abbrev cX1_ticketOf : ByteArray := prog_3_method_35_code
def yX1_ticketOf : MethodName := ⟨RX1, "ticketOf", "(I)I"⟩
abbrev cX1_colourOf : ByteArray := prog_3_method_36_code
def yX1_colourOf : MethodName := ⟨RX1, "colourOf", "(I)I"⟩
abbrev cX1_cornerOf : ByteArray := prog_3_method_37_code
def yX1_cornerOf : MethodName := ⟨RX1, "cornerOf", "(I)I"⟩
abbrev cX1_walkOf : ByteArray := prog_3_method_38_code
def yX1_walkOf : MethodName := ⟨RX1, "walkOf", "(I)I"⟩
abbrev cX1_peopleAt : ByteArray := prog_3_method_39_code
def yX1_peopleAt : MethodName := ⟨RX1, "peopleAt", "(I)I"⟩
abbrev cX1_pointsOf : ByteArray := prog_3_method_40_code
def yX1_pointsOf : MethodName := ⟨RX1, "pointsOf", "(II)I"⟩
abbrev cX1_areTogether : ByteArray := prog_3_method_41_code
def yX1_areTogether : MethodName := ⟨RX1, "areTogether", "(II)Z"⟩
abbrev cX1_areMirrored : ByteArray := prog_3_method_42_code
def yX1_areMirrored : MethodName := ⟨RX1, "areMirrored", "(II)Z"⟩
abbrev cX1_coincidences : ByteArray := prog_3_method_43_code
def yX1_coincidences : MethodName := ⟨RX1, "coincidences", "()I"⟩
abbrev cX1_coincidencesAt : ByteArray := prog_3_method_44_code
def yX1_coincidencesAt : MethodName := ⟨RX1, "coincidencesAt", "(I)I"⟩
abbrev cX1_luckOf : ByteArray := prog_3_method_45_code
def yX1_luckOf : MethodName := ⟨RX1, "luckOf", "(I)I"⟩
abbrev cX1_luckiest : ByteArray := prog_3_method_46_code
def yX1_luckiest : MethodName := ⟨RX1, "luckiest", "()I"⟩
abbrev cX1_luckiestPair : ByteArray := prog_3_method_47_code
def yX1_luckiestPair : MethodName := ⟨RX1, "luckiestPair", "()I"⟩
abbrev cX1_coincidencesIn : ByteArray := prog_3_method_48_code
def yX1_coincidencesIn : MethodName := ⟨RX1, "coincidencesIn", "(I)I"⟩
abbrev cX1_untilTogether : ByteArray := prog_3_method_49_code
def yX1_untilTogether : MethodName := ⟨RX1, "untilTogether", "(II)I"⟩
abbrev cX1_hoursUntilTogether : ByteArray := prog_3_method_50_code
def yX1_hoursUntilTogether : MethodName := ⟨RX1, "hoursUntilTogether", "(II)I"⟩
abbrev cX1_costOfMeeting : ByteArray := prog_3_method_51_code
def yX1_costOfMeeting : MethodName := ⟨RX1, "costOfMeeting", "(II)I"⟩
abbrev cX1_hourOfMost : ByteArray := prog_3_method_52_code
def yX1_hourOfMost : MethodName := ⟨RX1, "hourOfMost", "()I"⟩
abbrev cX1_bestHour : ByteArray := prog_3_method_53_code
def yX1_bestHour : MethodName := ⟨RX1, "bestHour", "()I"⟩
abbrev cX1_bestOf : ByteArray := prog_3_method_54_code
def yX1_bestOf : MethodName := ⟨RX1, "bestOf", "([III)I"⟩
abbrev cX1_bestCorner : ByteArray := prog_3_method_55_code
def yX1_bestCorner : MethodName := ⟨RX1, "bestCorner", "(I)I"⟩
abbrev cX1_swapOfMost : ByteArray := prog_3_method_56_code
def yX1_swapOfMost : MethodName := ⟨RX1, "swapOfMost", "()I"⟩
abbrev cX1_bestSwap : ByteArray := prog_3_method_57_code
def yX1_bestSwap : MethodName := ⟨RX1, "bestSwap", "()I"⟩
abbrev cX1_bestTicket : ByteArray := prog_3_method_58_code
def yX1_bestTicket : MethodName := ⟨RX1, "bestTicket", "(I)I"⟩
abbrev cX1_meanLuck : ByteArray := prog_3_method_59_code
def yX1_meanLuck : MethodName := ⟨RX1, "meanLuck", "()D"⟩
abbrev cX1_digest : ByteArray := prog_3_method_60_code
def yX1_digest : MethodName := ⟨RX1, "digest", "()J"⟩
def RJ9 : String := "java/lang/Math"
def TJ9 : u_T := fun k => match k with
  | _ => ("", "", "", false)
def tyJ9 : Nat → FieldType := fun k => match k with
  | _ => .int
abbrev wsJ90 : List Cond := u_ws RJ9 TJ9 0
theorem nmJ9 : ∀ a, a < 0 → ∀ b, b < 0 → a ≠ b → (TJ9 a).2.1 ≠ (TJ9 b).2.1 := by decide +kernel
theorem tyJ9_ok : ∀ k, k < 0 → parseFieldDescriptor (TJ9 k).2.2.1 = some (tyJ9 k) := by decide +kernel
abbrev cJ9_abs_0f7a4 : ByteArray := prog_8_method_59_code
def yJ9_abs_0f7a4 : MethodName := ⟨RJ9, "abs", "(I)I"⟩
abbrev cJ9_min_7cf53 : ByteArray := prog_8_method_69_code
def yJ9_min_7cf53 : MethodName := ⟨RJ9, "min", "(II)I"⟩
def RJ0 : String := "java/lang/String"
def TJ0 : u_T := fun k => match k with
  | _ => ("", "", "", false)
def tyJ0 : Nat → FieldType := fun k => match k with
  | _ => .int
abbrev wsJ00 : List Cond := u_ws RJ0 TJ0 0
theorem nmJ0 : ∀ a, a < 0 → ∀ b, b < 0 → a ≠ b → (TJ0 a).2.1 ≠ (TJ0 b).2.1 := by decide +kernel
theorem tyJ0_ok : ∀ k, k < 0 → parseFieldDescriptor (TJ0 k).2.2.1 = some (tyJ0 k) := by decide +kernel
def RL : String := "TicketCoincidencesLaw"
abbrev cL_addStranger : ByteArray := method_3_code
def yL_addStranger : MethodName := ⟨RL, "addStranger", "(LTicketCoincidences;IIII[J)I"⟩
abbrev cL_setWalk : ByteArray := method_4_code
def yL_setWalk : MethodName := ⟨RL, "setWalk", "(LTicketCoincidences;II[J)I"⟩
abbrev cL_move : ByteArray := method_5_code
def yL_move : MethodName := ⟨RL, "move", "(LTicketCoincidences;II[J)I"⟩
abbrev cL_swapUmbrellas : ByteArray := method_6_code
def yL_swapUmbrellas : MethodName := ⟨RL, "swapUmbrellas", "(LTicketCoincidences;II[J)I"⟩
abbrev cL_swapTickets : ByteArray := method_7_code
def yL_swapTickets : MethodName := ⟨RL, "swapTickets", "(LTicketCoincidences;II[J)I"⟩
abbrev cL_draw : ByteArray := method_8_code
def yL_draw : MethodName := ⟨RL, "draw", "(LTicketCoincidences;II[J)I"⟩
abbrev cL_pass : ByteArray := method_9_code
def yL_pass : MethodName := ⟨RL, "pass", "(LTicketCoincidences;I[J)I"⟩
abbrev cL_ticketOf : ByteArray := method_10_code
def yL_ticketOf : MethodName := ⟨RL, "ticketOf", "(LTicketCoincidences;I[J)I"⟩
abbrev cL_colourOf : ByteArray := method_11_code
def yL_colourOf : MethodName := ⟨RL, "colourOf", "(LTicketCoincidences;I[J)I"⟩
abbrev cL_cornerOf : ByteArray := method_12_code
def yL_cornerOf : MethodName := ⟨RL, "cornerOf", "(LTicketCoincidences;I[J)I"⟩
abbrev cL_walkOf : ByteArray := method_13_code
def yL_walkOf : MethodName := ⟨RL, "walkOf", "(LTicketCoincidences;I[J)I"⟩
abbrev cL_peopleAt : ByteArray := method_14_code
def yL_peopleAt : MethodName := ⟨RL, "peopleAt", "(LTicketCoincidences;I[J)I"⟩
abbrev cL_pointsOf : ByteArray := method_15_code
def yL_pointsOf : MethodName := ⟨RL, "pointsOf", "(LTicketCoincidences;II[J)I"⟩
abbrev cL_areTogether : ByteArray := method_16_code
def yL_areTogether : MethodName := ⟨RL, "areTogether", "(LTicketCoincidences;II[J)I"⟩
abbrev cL_areMirrored : ByteArray := method_17_code
def yL_areMirrored : MethodName := ⟨RL, "areMirrored", "(LTicketCoincidences;II[J)I"⟩
abbrev cL_coincidencesAt : ByteArray := method_18_code
def yL_coincidencesAt : MethodName := ⟨RL, "coincidencesAt", "(LTicketCoincidences;I[J)I"⟩
abbrev cL_luckOf : ByteArray := method_19_code
def yL_luckOf : MethodName := ⟨RL, "luckOf", "(LTicketCoincidences;I[J)I"⟩
abbrev cL_coincidencesIn : ByteArray := method_20_code
def yL_coincidencesIn : MethodName := ⟨RL, "coincidencesIn", "(LTicketCoincidences;I[J)I"⟩
abbrev cL_hoursUntilTogether : ByteArray := method_21_code
def yL_hoursUntilTogether : MethodName := ⟨RL, "hoursUntilTogether", "(LTicketCoincidences;II[J)I"⟩
abbrev cL_costOfMeeting : ByteArray := method_22_code
def yL_costOfMeeting : MethodName := ⟨RL, "costOfMeeting", "(LTicketCoincidences;II[J)I"⟩
abbrev cL_bestCorner : ByteArray := method_23_code
def yL_bestCorner : MethodName := ⟨RL, "bestCorner", "(LTicketCoincidences;I[J)I"⟩
abbrev cL_bestTicket : ByteArray := method_24_code
def yL_bestTicket : MethodName := ⟨RL, "bestTicket", "(LTicketCoincidences;I[J)I"⟩
abbrev cL_law : ByteArray := code
def yL_law : MethodName := ⟨RL, "law", "([I)Z"⟩
def wsX0_init : List Cond := .code yX0_init cX0_init 1 none :: ([.methodLink RX0 1 objectInit, .instanceMethod objectInit, .code objectInit ⟨#[0xb1]⟩ 1 none, .arrayClass .int, .fieldLink RX0 9 "TicketCoincidences" "tickets" "[I", .fieldLink RX0 13 "TicketCoincidences" "colours" "[I", .fieldLink RX0 16 "TicketCoincidences" "corners" "[I", .fieldLink RX0 19 "TicketCoincidences" "walks" "[I", .fieldLink RX0 22 "TicketCoincidences" "people" "I", .fieldLink RX0 26 "TicketCoincidences" "hourNow" "I", .fieldLink RX0 29 "TicketCoincidences" "inStore" "I", .fieldLink RX0 32 "TicketCoincidences" "countedInAll" "I", .fieldLink RX0 35 "TicketCoincidences" "spentInAll" "I"] ++ wsX00)
def wsX0_isTicket : List Cond := .code yX0_isTicket cX0_isTicket 1 (some .boolean) :: ([])
def wsX0_isColour : List Cond := .code yX0_isColour cX0_isColour 1 (some .boolean) :: ([])
def wsX0_isCorner : List Cond := .code yX0_isCorner cX0_isCorner 1 (some .boolean) :: ([])
def wsX0_isWalk : List Cond := .code yX0_isWalk cX0_isWalk 1 (some .boolean) :: ([])
def wsX0_addStranger : List Cond := .code yX0_addStranger cX0_addStranger 6 (some .int) :: ([.classLink RX0 51 "java/lang/IllegalArgumentException", .initialized "java/lang/IllegalArgumentException", .classLink RX0 58 "java/lang/IllegalStateException", .initialized "java/lang/IllegalStateException", .fieldLink RX0 22 "TicketCoincidences" "people" "I", .fieldLink RX0 9 "TicketCoincidences" "tickets" "[I", .fieldLink RX0 13 "TicketCoincidences" "colours" "[I", .fieldLink RX0 16 "TicketCoincidences" "corners" "[I", .fieldLink RX0 19 "TicketCoincidences" "walks" "[I", .methodLink RX0 38 yX0_isTicket, .static yX0_isTicket, .initialized RX0, .code yX0_isTicket cX0_isTicket 1 (some .boolean), .methodLink RX0 42 yX0_isColour, .static yX0_isColour, .code yX0_isColour cX0_isColour 1 (some .boolean), .methodLink RX0 45 yX0_isCorner, .static yX0_isCorner, .code yX0_isCorner cX0_isCorner 1 (some .boolean), .methodLink RX0 48 yX0_isWalk, .static yX0_isWalk, .code yX0_isWalk cX0_isWalk 1 (some .boolean)] ++ wsX00 ++ (vx_atS RX0 55 "java/lang/IllegalArgumentException" ["java/lang/RuntimeException", "java/lang/Exception"]).filter goodWord ++ (vx_atS RX0 62 "java/lang/IllegalStateException" ["java/lang/RuntimeException", "java/lang/Exception"]).filter goodWord)
def wsX0_requireStranger : List Cond := .code yX0_requireStranger cX0_requireStranger 2 none :: ([.classLink RX0 157 "java/lang/IndexOutOfBoundsException", .initialized "java/lang/IndexOutOfBoundsException", .fieldLink RX0 22 "TicketCoincidences" "people" "I"] ++ wsX00 ++ (vx_atS RX0 161 "java/lang/IndexOutOfBoundsException" ["java/lang/RuntimeException", "java/lang/Exception"]).filter goodWord)
def wsX0_setWalk : List Cond := .code yX0_setWalk cX0_setWalk 4 (some .int) :: ([.classLink RX0 51 "java/lang/IllegalArgumentException", .initialized "java/lang/IllegalArgumentException", .fieldLink RX0 19 "TicketCoincidences" "walks" "[I", .methodLink RX0 63 yX0_requireStranger, .instanceMethod yX0_requireStranger, .selects RX0 yX0_requireStranger yX0_requireStranger, .initialized RX0, .code yX0_requireStranger cX0_requireStranger 2 none, .classLink RX0 157 "java/lang/IndexOutOfBoundsException", .initialized "java/lang/IndexOutOfBoundsException", .fieldLink RX0 22 "TicketCoincidences" "people" "I", .methodLink RX0 48 yX0_isWalk, .static yX0_isWalk, .code yX0_isWalk cX0_isWalk 1 (some .boolean)] ++ wsX00 ++ (vx_atS RX0 55 "java/lang/IllegalArgumentException" ["java/lang/RuntimeException", "java/lang/Exception"]).filter goodWord ++ (vx_atS RX0 161 "java/lang/IndexOutOfBoundsException" ["java/lang/RuntimeException", "java/lang/Exception"]).filter goodWord)
def wsX0_costOfWay : List Cond := .code yX0_costOfWay cX0_costOfWay 3 (some .int) :: ([.methodLink RX0 166 Lib.Math.abs.name, .static Lib.Math.abs.name, .initialized "java/lang/Math", .code Lib.Math.abs.name Lib.Math.abs.code 1 (some .int), .methodLink RX0 171 Lib.Math.min.name, .static Lib.Math.min.name, .code Lib.Math.min.name Lib.Math.min.code 2 (some .int)])
def wsX0_pay : List Cond := .code yX0_pay cX0_pay 2 none :: ([.classLink RX0 58 "java/lang/IllegalStateException", .initialized "java/lang/IllegalStateException", .fieldLink RX0 29 "TicketCoincidences" "inStore" "I", .fieldLink RX0 35 "TicketCoincidences" "spentInAll" "I"] ++ wsX00 ++ (vx_atS RX0 62 "java/lang/IllegalStateException" ["java/lang/RuntimeException", "java/lang/Exception"]).filter goodWord)
def wsX0_move_r1 : List Cond := [Cond.classLink RX0 51 "java/lang/IllegalArgumentException", Cond.initialized "java/lang/IllegalArgumentException", Cond.classLink RX0 58 "java/lang/IllegalStateException", Cond.initialized "java/lang/IllegalStateException", Cond.fieldLink RX0 16 "TicketCoincidences" "corners" "[I", Cond.methodLink RX0 63 yX0_requireStranger, Cond.instanceMethod yX0_requireStranger, Cond.selects RX0 yX0_requireStranger yX0_requireStranger, Cond.initialized RX0, Cond.code yX0_requireStranger cX0_requireStranger 2 none, Cond.classLink RX0 157 "java/lang/IndexOutOfBoundsException", Cond.initialized "java/lang/IndexOutOfBoundsException", Cond.fieldLink RX0 22 "TicketCoincidences" "people" "I", Cond.methodLink RX0 45 yX0_isCorner, Cond.static yX0_isCorner, Cond.code yX0_isCorner cX0_isCorner 1 (some .boolean), Cond.methodLink RX0 73 yX0_costOfWay, Cond.static yX0_costOfWay, Cond.code yX0_costOfWay cX0_costOfWay 3 (some .int), Cond.methodLink RX0 166 Lib.Math.abs.name, Cond.static Lib.Math.abs.name, Cond.initialized "java/lang/Math", Cond.code Lib.Math.abs.name Lib.Math.abs.code 1 (some .int), Cond.methodLink RX0 171 Lib.Math.min.name]
def wsX0_move_r2 : List Cond := [Cond.static Lib.Math.min.name, Cond.code Lib.Math.min.name Lib.Math.min.code 2 (some .int), Cond.methodLink RX0 77 yX0_pay, Cond.instanceMethod yX0_pay, Cond.selects RX0 yX0_pay yX0_pay, Cond.code yX0_pay cX0_pay 2 none, Cond.fieldLink RX0 29 "TicketCoincidences" "inStore" "I", Cond.fieldLink RX0 35 "TicketCoincidences" "spentInAll" "I"]
def wsX0_move : List Cond := .code yX0_move cX0_move 4 (some .int) :: ((wsX0_move_r1 ++ wsX0_move_r2) ++ wsX00 ++ (vx_atS RX0 55 "java/lang/IllegalArgumentException" ["java/lang/RuntimeException", "java/lang/Exception"]).filter goodWord ++ (vx_atS RX0 62 "java/lang/IllegalStateException" ["java/lang/RuntimeException", "java/lang/Exception"]).filter goodWord ++ (vx_atS RX0 161 "java/lang/IndexOutOfBoundsException" ["java/lang/RuntimeException", "java/lang/Exception"]).filter goodWord)
def wsX0_requirePair : List Cond := .code yX0_requirePair cX0_requirePair 3 none :: ([.classLink RX0 51 "java/lang/IllegalArgumentException", .initialized "java/lang/IllegalArgumentException", .methodLink RX0 63 yX0_requireStranger, .instanceMethod yX0_requireStranger, .selects RX0 yX0_requireStranger yX0_requireStranger, .initialized RX0, .code yX0_requireStranger cX0_requireStranger 2 none, .classLink RX0 157 "java/lang/IndexOutOfBoundsException", .initialized "java/lang/IndexOutOfBoundsException", .fieldLink RX0 22 "TicketCoincidences" "people" "I"] ++ wsX00 ++ (vx_atS RX0 55 "java/lang/IllegalArgumentException" ["java/lang/RuntimeException", "java/lang/Exception"]).filter goodWord ++ (vx_atS RX0 161 "java/lang/IndexOutOfBoundsException" ["java/lang/RuntimeException", "java/lang/Exception"]).filter goodWord)
def wsX0_cornerBehind : List Cond := .code yX0_cornerBehind cX0_cornerBehind 3 (some .int) :: ([.fieldLink RX0 16 "TicketCoincidences" "corners" "[I", .fieldLink RX0 19 "TicketCoincidences" "walks" "[I"] ++ wsX00)
def wsX0_figureSum : List Cond := .code yX0_figureSum cX0_figureSum 1 (some .int) :: ([])
def wsX0_mirrored : List Cond := .code yX0_mirrored cX0_mirrored 2 (some .boolean) :: ([])
def wsX0_pointsOfTickets : List Cond := .code yX0_pointsOfTickets cX0_pointsOfTickets 3 (some .int) :: ([.methodLink RX0 166 Lib.Math.abs.name, .static Lib.Math.abs.name, .initialized "java/lang/Math", .code Lib.Math.abs.name Lib.Math.abs.code 1 (some .int), .methodLink RX0 177 yX0_figureSum, .static yX0_figureSum, .initialized RX0, .code yX0_figureSum cX0_figureSum 1 (some .int), .methodLink RX0 110 yX0_mirrored, .static yX0_mirrored, .code yX0_mirrored cX0_mirrored 2 (some .boolean)])
def wsX0_pointsOfColours : List Cond := .code yX0_pointsOfColours cX0_pointsOfColours 2 (some .int) :: ([])
def wsX0_pointsOfPair : List Cond := .code yX0_pointsOfPair cX0_pointsOfPair 3 (some .int) :: ([.fieldLink RX0 9 "TicketCoincidences" "tickets" "[I", .fieldLink RX0 13 "TicketCoincidences" "colours" "[I", .methodLink RX0 180 yX0_pointsOfTickets, .static yX0_pointsOfTickets, .initialized RX0, .code yX0_pointsOfTickets cX0_pointsOfTickets 3 (some .int), .methodLink RX0 166 Lib.Math.abs.name, .static Lib.Math.abs.name, .initialized "java/lang/Math", .code Lib.Math.abs.name Lib.Math.abs.code 1 (some .int), .methodLink RX0 177 yX0_figureSum, .static yX0_figureSum, .code yX0_figureSum cX0_figureSum 1 (some .int), .methodLink RX0 110 yX0_mirrored, .static yX0_mirrored, .code yX0_mirrored cX0_mirrored 2 (some .boolean), .methodLink RX0 183 yX0_pointsOfColours, .static yX0_pointsOfColours, .code yX0_pointsOfColours cX0_pointsOfColours 2 (some .int)] ++ wsX00)
def wsX0_townBehind_r1 : List Cond := [Cond.fieldLink RX0 22 "TicketCoincidences" "people" "I", Cond.methodLink RX0 119 yX0_cornerBehind, Cond.instanceMethod yX0_cornerBehind, Cond.selects RX0 yX0_cornerBehind yX0_cornerBehind, Cond.initialized RX0, Cond.code yX0_cornerBehind cX0_cornerBehind 3 (some .int), Cond.fieldLink RX0 16 "TicketCoincidences" "corners" "[I", Cond.fieldLink RX0 19 "TicketCoincidences" "walks" "[I", Cond.methodLink RX0 107 yX0_pointsOfPair, Cond.instanceMethod yX0_pointsOfPair, Cond.selects RX0 yX0_pointsOfPair yX0_pointsOfPair, Cond.code yX0_pointsOfPair cX0_pointsOfPair 3 (some .int), Cond.fieldLink RX0 9 "TicketCoincidences" "tickets" "[I", Cond.fieldLink RX0 13 "TicketCoincidences" "colours" "[I", Cond.methodLink RX0 180 yX0_pointsOfTickets, Cond.static yX0_pointsOfTickets, Cond.code yX0_pointsOfTickets cX0_pointsOfTickets 3 (some .int), Cond.methodLink RX0 166 Lib.Math.abs.name, Cond.static Lib.Math.abs.name, Cond.initialized "java/lang/Math", Cond.code Lib.Math.abs.name Lib.Math.abs.code 1 (some .int), Cond.methodLink RX0 177 yX0_figureSum, Cond.static yX0_figureSum, Cond.code yX0_figureSum cX0_figureSum 1 (some .int)]
def wsX0_townBehind_r2 : List Cond := [Cond.methodLink RX0 110 yX0_mirrored, Cond.static yX0_mirrored, Cond.code yX0_mirrored cX0_mirrored 2 (some .boolean), Cond.methodLink RX0 183 yX0_pointsOfColours, Cond.static yX0_pointsOfColours, Cond.code yX0_pointsOfColours cX0_pointsOfColours 2 (some .int)]
def wsX0_townBehind : List Cond := .code yX0_townBehind cX0_townBehind 5 (some .int) :: ((wsX0_townBehind_r1 ++ wsX0_townBehind_r2) ++ wsX00)
def wsX0_exchange : List Cond := .code yX0_exchange cX0_exchange 4 none :: ([])
def wsX0_swapUmbrellas_r1 : List Cond := [Cond.classLink RX0 58 "java/lang/IllegalStateException", Cond.initialized "java/lang/IllegalStateException", Cond.fieldLink RX0 16 "TicketCoincidences" "corners" "[I", Cond.fieldLink RX0 13 "TicketCoincidences" "colours" "[I", Cond.methodLink RX0 80 yX0_requirePair, Cond.instanceMethod yX0_requirePair, Cond.selects RX0 yX0_requirePair yX0_requirePair, Cond.initialized RX0, Cond.code yX0_requirePair cX0_requirePair 3 none, Cond.classLink RX0 51 "java/lang/IllegalArgumentException", Cond.initialized "java/lang/IllegalArgumentException", Cond.methodLink RX0 63 yX0_requireStranger, Cond.instanceMethod yX0_requireStranger, Cond.selects RX0 yX0_requireStranger yX0_requireStranger, Cond.code yX0_requireStranger cX0_requireStranger 2 none, Cond.classLink RX0 157 "java/lang/IndexOutOfBoundsException", Cond.initialized "java/lang/IndexOutOfBoundsException", Cond.fieldLink RX0 22 "TicketCoincidences" "people" "I", Cond.methodLink RX0 77 yX0_pay, Cond.instanceMethod yX0_pay, Cond.selects RX0 yX0_pay yX0_pay, Cond.code yX0_pay cX0_pay 2 none, Cond.fieldLink RX0 29 "TicketCoincidences" "inStore" "I", Cond.fieldLink RX0 35 "TicketCoincidences" "spentInAll" "I"]
def wsX0_swapUmbrellas_r2 : List Cond := [Cond.methodLink RX0 86 yX0_townBehind, Cond.instanceMethod yX0_townBehind, Cond.selects RX0 yX0_townBehind yX0_townBehind, Cond.code yX0_townBehind cX0_townBehind 5 (some .int), Cond.methodLink RX0 119 yX0_cornerBehind, Cond.instanceMethod yX0_cornerBehind, Cond.selects RX0 yX0_cornerBehind yX0_cornerBehind, Cond.code yX0_cornerBehind cX0_cornerBehind 3 (some .int), Cond.fieldLink RX0 19 "TicketCoincidences" "walks" "[I", Cond.methodLink RX0 107 yX0_pointsOfPair, Cond.instanceMethod yX0_pointsOfPair, Cond.selects RX0 yX0_pointsOfPair yX0_pointsOfPair, Cond.code yX0_pointsOfPair cX0_pointsOfPair 3 (some .int), Cond.fieldLink RX0 9 "TicketCoincidences" "tickets" "[I", Cond.methodLink RX0 180 yX0_pointsOfTickets, Cond.static yX0_pointsOfTickets, Cond.code yX0_pointsOfTickets cX0_pointsOfTickets 3 (some .int), Cond.methodLink RX0 166 Lib.Math.abs.name, Cond.static Lib.Math.abs.name, Cond.initialized "java/lang/Math", Cond.code Lib.Math.abs.name Lib.Math.abs.code 1 (some .int), Cond.methodLink RX0 177 yX0_figureSum, Cond.static yX0_figureSum, Cond.code yX0_figureSum cX0_figureSum 1 (some .int)]
def wsX0_swapUmbrellas_r3 : List Cond := [Cond.methodLink RX0 110 yX0_mirrored, Cond.static yX0_mirrored, Cond.code yX0_mirrored cX0_mirrored 2 (some .boolean), Cond.methodLink RX0 183 yX0_pointsOfColours, Cond.static yX0_pointsOfColours, Cond.code yX0_pointsOfColours cX0_pointsOfColours 2 (some .int), Cond.methodLink RX0 90 yX0_exchange, Cond.static yX0_exchange, Cond.code yX0_exchange cX0_exchange 4 none]
def wsX0_swapUmbrellas : List Cond := .code yX0_swapUmbrellas cX0_swapUmbrellas 4 (some .int) :: ((wsX0_swapUmbrellas_r1 ++ (wsX0_swapUmbrellas_r2 ++ wsX0_swapUmbrellas_r3)) ++ wsX00 ++ (vx_atS RX0 62 "java/lang/IllegalStateException" ["java/lang/RuntimeException", "java/lang/Exception"]).filter goodWord ++ (vx_atS RX0 55 "java/lang/IllegalArgumentException" ["java/lang/RuntimeException", "java/lang/Exception"]).filter goodWord ++ (vx_atS RX0 161 "java/lang/IndexOutOfBoundsException" ["java/lang/RuntimeException", "java/lang/Exception"]).filter goodWord)
def wsX0_swapTickets_r1 : List Cond := [Cond.fieldLink RX0 9 "TicketCoincidences" "tickets" "[I", Cond.methodLink RX0 80 yX0_requirePair, Cond.instanceMethod yX0_requirePair, Cond.selects RX0 yX0_requirePair yX0_requirePair, Cond.initialized RX0, Cond.code yX0_requirePair cX0_requirePair 3 none, Cond.classLink RX0 51 "java/lang/IllegalArgumentException", Cond.initialized "java/lang/IllegalArgumentException", Cond.methodLink RX0 63 yX0_requireStranger, Cond.instanceMethod yX0_requireStranger, Cond.selects RX0 yX0_requireStranger yX0_requireStranger, Cond.code yX0_requireStranger cX0_requireStranger 2 none, Cond.classLink RX0 157 "java/lang/IndexOutOfBoundsException", Cond.initialized "java/lang/IndexOutOfBoundsException", Cond.fieldLink RX0 22 "TicketCoincidences" "people" "I", Cond.methodLink RX0 77 yX0_pay, Cond.instanceMethod yX0_pay, Cond.selects RX0 yX0_pay yX0_pay, Cond.code yX0_pay cX0_pay 2 none, Cond.classLink RX0 58 "java/lang/IllegalStateException", Cond.initialized "java/lang/IllegalStateException", Cond.fieldLink RX0 29 "TicketCoincidences" "inStore" "I", Cond.fieldLink RX0 35 "TicketCoincidences" "spentInAll" "I", Cond.methodLink RX0 86 yX0_townBehind]
def wsX0_swapTickets_r2 : List Cond := [Cond.instanceMethod yX0_townBehind, Cond.selects RX0 yX0_townBehind yX0_townBehind, Cond.code yX0_townBehind cX0_townBehind 5 (some .int), Cond.methodLink RX0 119 yX0_cornerBehind, Cond.instanceMethod yX0_cornerBehind, Cond.selects RX0 yX0_cornerBehind yX0_cornerBehind, Cond.code yX0_cornerBehind cX0_cornerBehind 3 (some .int), Cond.fieldLink RX0 16 "TicketCoincidences" "corners" "[I", Cond.fieldLink RX0 19 "TicketCoincidences" "walks" "[I", Cond.methodLink RX0 107 yX0_pointsOfPair, Cond.instanceMethod yX0_pointsOfPair, Cond.selects RX0 yX0_pointsOfPair yX0_pointsOfPair, Cond.code yX0_pointsOfPair cX0_pointsOfPair 3 (some .int), Cond.fieldLink RX0 13 "TicketCoincidences" "colours" "[I", Cond.methodLink RX0 180 yX0_pointsOfTickets, Cond.static yX0_pointsOfTickets, Cond.code yX0_pointsOfTickets cX0_pointsOfTickets 3 (some .int), Cond.methodLink RX0 166 Lib.Math.abs.name, Cond.static Lib.Math.abs.name, Cond.initialized "java/lang/Math", Cond.code Lib.Math.abs.name Lib.Math.abs.code 1 (some .int), Cond.methodLink RX0 177 yX0_figureSum, Cond.static yX0_figureSum, Cond.code yX0_figureSum cX0_figureSum 1 (some .int)]
def wsX0_swapTickets_r3 : List Cond := [Cond.methodLink RX0 110 yX0_mirrored, Cond.static yX0_mirrored, Cond.code yX0_mirrored cX0_mirrored 2 (some .boolean), Cond.methodLink RX0 183 yX0_pointsOfColours, Cond.static yX0_pointsOfColours, Cond.code yX0_pointsOfColours cX0_pointsOfColours 2 (some .int), Cond.methodLink RX0 90 yX0_exchange, Cond.static yX0_exchange, Cond.code yX0_exchange cX0_exchange 4 none]
def wsX0_swapTickets : List Cond := .code yX0_swapTickets cX0_swapTickets 4 (some .int) :: ((wsX0_swapTickets_r1 ++ (wsX0_swapTickets_r2 ++ wsX0_swapTickets_r3)) ++ wsX00 ++ (vx_atS RX0 55 "java/lang/IllegalArgumentException" ["java/lang/RuntimeException", "java/lang/Exception"]).filter goodWord ++ (vx_atS RX0 161 "java/lang/IndexOutOfBoundsException" ["java/lang/RuntimeException", "java/lang/Exception"]).filter goodWord ++ (vx_atS RX0 62 "java/lang/IllegalStateException" ["java/lang/RuntimeException", "java/lang/Exception"]).filter goodWord)
def wsX0_draw : List Cond := .code yX0_draw cX0_draw 4 (some .int) :: ([.classLink RX0 51 "java/lang/IllegalArgumentException", .initialized "java/lang/IllegalArgumentException", .fieldLink RX0 9 "TicketCoincidences" "tickets" "[I", .methodLink RX0 63 yX0_requireStranger, .instanceMethod yX0_requireStranger, .selects RX0 yX0_requireStranger yX0_requireStranger, .initialized RX0, .code yX0_requireStranger cX0_requireStranger 2 none, .classLink RX0 157 "java/lang/IndexOutOfBoundsException", .initialized "java/lang/IndexOutOfBoundsException", .fieldLink RX0 22 "TicketCoincidences" "people" "I", .methodLink RX0 38 yX0_isTicket, .static yX0_isTicket, .code yX0_isTicket cX0_isTicket 1 (some .boolean), .methodLink RX0 77 yX0_pay, .instanceMethod yX0_pay, .selects RX0 yX0_pay yX0_pay, .code yX0_pay cX0_pay 2 none, .classLink RX0 58 "java/lang/IllegalStateException", .initialized "java/lang/IllegalStateException", .fieldLink RX0 29 "TicketCoincidences" "inStore" "I", .fieldLink RX0 35 "TicketCoincidences" "spentInAll" "I"] ++ wsX00 ++ (vx_atS RX0 55 "java/lang/IllegalArgumentException" ["java/lang/RuntimeException", "java/lang/Exception"]).filter goodWord ++ (vx_atS RX0 161 "java/lang/IndexOutOfBoundsException" ["java/lang/RuntimeException", "java/lang/Exception"]).filter goodWord ++ (vx_atS RX0 62 "java/lang/IllegalStateException" ["java/lang/RuntimeException", "java/lang/Exception"]).filter goodWord)
def wsX0_crowdAt : List Cond := .code yX0_crowdAt cX0_crowdAt 4 (some .int) :: ([.fieldLink RX0 22 "TicketCoincidences" "people" "I", .fieldLink RX0 16 "TicketCoincidences" "corners" "[I"] ++ wsX00)
def wsX0_emptyCorners : List Cond := .code yX0_emptyCorners cX0_emptyCorners 3 (some .int) :: ([.methodLink RX0 104 yX0_crowdAt, .instanceMethod yX0_crowdAt, .selects RX0 yX0_crowdAt yX0_crowdAt, .initialized RX0, .code yX0_crowdAt cX0_crowdAt 4 (some .int), .fieldLink RX0 22 "TicketCoincidences" "people" "I", .fieldLink RX0 16 "TicketCoincidences" "corners" "[I"] ++ wsX00)
def wsX0_passOneHour_r1 : List Cond := [Cond.fieldLink RX0 22 "TicketCoincidences" "people" "I", Cond.fieldLink RX0 16 "TicketCoincidences" "corners" "[I", Cond.fieldLink RX0 32 "TicketCoincidences" "countedInAll" "I", Cond.fieldLink RX0 29 "TicketCoincidences" "inStore" "I", Cond.methodLink RX0 171 Lib.Math.min.name, Cond.static Lib.Math.min.name, Cond.initialized "java/lang/Math", Cond.code Lib.Math.min.name Lib.Math.min.code 2 (some .int), Cond.fieldLink RX0 26 "TicketCoincidences" "hourNow" "I", Cond.methodLink RX0 119 yX0_cornerBehind, Cond.instanceMethod yX0_cornerBehind, Cond.selects RX0 yX0_cornerBehind yX0_cornerBehind, Cond.initialized RX0, Cond.code yX0_cornerBehind cX0_cornerBehind 3 (some .int), Cond.fieldLink RX0 19 "TicketCoincidences" "walks" "[I", Cond.methodLink RX0 86 yX0_townBehind, Cond.instanceMethod yX0_townBehind, Cond.selects RX0 yX0_townBehind yX0_townBehind, Cond.code yX0_townBehind cX0_townBehind 5 (some .int), Cond.methodLink RX0 107 yX0_pointsOfPair, Cond.instanceMethod yX0_pointsOfPair, Cond.selects RX0 yX0_pointsOfPair yX0_pointsOfPair, Cond.code yX0_pointsOfPair cX0_pointsOfPair 3 (some .int), Cond.fieldLink RX0 9 "TicketCoincidences" "tickets" "[I"]
def wsX0_passOneHour_r2 : List Cond := [Cond.fieldLink RX0 13 "TicketCoincidences" "colours" "[I", Cond.methodLink RX0 180 yX0_pointsOfTickets, Cond.static yX0_pointsOfTickets, Cond.code yX0_pointsOfTickets cX0_pointsOfTickets 3 (some .int), Cond.methodLink RX0 166 Lib.Math.abs.name, Cond.static Lib.Math.abs.name, Cond.code Lib.Math.abs.name Lib.Math.abs.code 1 (some .int), Cond.methodLink RX0 177 yX0_figureSum, Cond.static yX0_figureSum, Cond.code yX0_figureSum cX0_figureSum 1 (some .int), Cond.methodLink RX0 110 yX0_mirrored, Cond.static yX0_mirrored, Cond.code yX0_mirrored cX0_mirrored 2 (some .boolean), Cond.methodLink RX0 183 yX0_pointsOfColours, Cond.static yX0_pointsOfColours, Cond.code yX0_pointsOfColours cX0_pointsOfColours 2 (some .int), Cond.methodLink RX0 174 yX0_emptyCorners, Cond.instanceMethod yX0_emptyCorners, Cond.selects RX0 yX0_emptyCorners yX0_emptyCorners, Cond.code yX0_emptyCorners cX0_emptyCorners 3 (some .int), Cond.methodLink RX0 104 yX0_crowdAt, Cond.instanceMethod yX0_crowdAt, Cond.selects RX0 yX0_crowdAt yX0_crowdAt, Cond.code yX0_crowdAt cX0_crowdAt 4 (some .int)]
def wsX0_passOneHour : List Cond := .code yX0_passOneHour cX0_passOneHour 2 none :: ((wsX0_passOneHour_r1 ++ wsX0_passOneHour_r2) ++ wsX00)
def wsX0_pass_r1 : List Cond := [Cond.classLink RX0 51 "java/lang/IllegalArgumentException", Cond.initialized "java/lang/IllegalArgumentException", Cond.fieldLink RX0 32 "TicketCoincidences" "countedInAll" "I", Cond.methodLink RX0 98 yX0_passOneHour, Cond.instanceMethod yX0_passOneHour, Cond.selects RX0 yX0_passOneHour yX0_passOneHour, Cond.initialized RX0, Cond.code yX0_passOneHour cX0_passOneHour 2 none, Cond.fieldLink RX0 22 "TicketCoincidences" "people" "I", Cond.fieldLink RX0 16 "TicketCoincidences" "corners" "[I", Cond.fieldLink RX0 29 "TicketCoincidences" "inStore" "I", Cond.methodLink RX0 171 Lib.Math.min.name, Cond.static Lib.Math.min.name, Cond.initialized "java/lang/Math", Cond.code Lib.Math.min.name Lib.Math.min.code 2 (some .int), Cond.fieldLink RX0 26 "TicketCoincidences" "hourNow" "I", Cond.methodLink RX0 119 yX0_cornerBehind, Cond.instanceMethod yX0_cornerBehind, Cond.selects RX0 yX0_cornerBehind yX0_cornerBehind, Cond.code yX0_cornerBehind cX0_cornerBehind 3 (some .int), Cond.fieldLink RX0 19 "TicketCoincidences" "walks" "[I", Cond.methodLink RX0 86 yX0_townBehind, Cond.instanceMethod yX0_townBehind, Cond.selects RX0 yX0_townBehind yX0_townBehind]
def wsX0_pass_r2 : List Cond := [Cond.code yX0_townBehind cX0_townBehind 5 (some .int), Cond.methodLink RX0 107 yX0_pointsOfPair, Cond.instanceMethod yX0_pointsOfPair, Cond.selects RX0 yX0_pointsOfPair yX0_pointsOfPair, Cond.code yX0_pointsOfPair cX0_pointsOfPair 3 (some .int), Cond.fieldLink RX0 9 "TicketCoincidences" "tickets" "[I", Cond.fieldLink RX0 13 "TicketCoincidences" "colours" "[I", Cond.methodLink RX0 180 yX0_pointsOfTickets, Cond.static yX0_pointsOfTickets, Cond.code yX0_pointsOfTickets cX0_pointsOfTickets 3 (some .int), Cond.methodLink RX0 166 Lib.Math.abs.name, Cond.static Lib.Math.abs.name, Cond.code Lib.Math.abs.name Lib.Math.abs.code 1 (some .int), Cond.methodLink RX0 177 yX0_figureSum, Cond.static yX0_figureSum, Cond.code yX0_figureSum cX0_figureSum 1 (some .int), Cond.methodLink RX0 110 yX0_mirrored, Cond.static yX0_mirrored, Cond.code yX0_mirrored cX0_mirrored 2 (some .boolean), Cond.methodLink RX0 183 yX0_pointsOfColours, Cond.static yX0_pointsOfColours, Cond.code yX0_pointsOfColours cX0_pointsOfColours 2 (some .int), Cond.methodLink RX0 174 yX0_emptyCorners, Cond.instanceMethod yX0_emptyCorners]
def wsX0_pass_r3 : List Cond := [Cond.selects RX0 yX0_emptyCorners yX0_emptyCorners, Cond.code yX0_emptyCorners cX0_emptyCorners 3 (some .int), Cond.methodLink RX0 104 yX0_crowdAt, Cond.instanceMethod yX0_crowdAt, Cond.selects RX0 yX0_crowdAt yX0_crowdAt, Cond.code yX0_crowdAt cX0_crowdAt 4 (some .int)]
def wsX0_pass : List Cond := .code yX0_pass cX0_pass 4 (some .int) :: ((wsX0_pass_r1 ++ (wsX0_pass_r2 ++ wsX0_pass_r3)) ++ wsX00 ++ (vx_atS RX0 55 "java/lang/IllegalArgumentException" ["java/lang/RuntimeException", "java/lang/Exception"]).filter goodWord)
def wsX0_strangers : List Cond := .code yX0_strangers cX0_strangers 1 (some .int) :: ([.fieldLink RX0 22 "TicketCoincidences" "people" "I"] ++ wsX00)
def wsX0_hour : List Cond := .code yX0_hour cX0_hour 1 (some .int) :: ([.fieldLink RX0 26 "TicketCoincidences" "hourNow" "I"] ++ wsX00)
def wsX0_store : List Cond := .code yX0_store cX0_store 1 (some .int) :: ([.fieldLink RX0 29 "TicketCoincidences" "inStore" "I"] ++ wsX00)
def wsX0_counted : List Cond := .code yX0_counted cX0_counted 1 (some .int) :: ([.fieldLink RX0 32 "TicketCoincidences" "countedInAll" "I"] ++ wsX00)
def wsX0_spent : List Cond := .code yX0_spent cX0_spent 1 (some .int) :: ([.fieldLink RX0 35 "TicketCoincidences" "spentInAll" "I"] ++ wsX00)
def wsX0_ticketOf : List Cond := .code yX0_ticketOf cX0_ticketOf 2 (some .int) :: ([.fieldLink RX0 9 "TicketCoincidences" "tickets" "[I", .methodLink RX0 63 yX0_requireStranger, .instanceMethod yX0_requireStranger, .selects RX0 yX0_requireStranger yX0_requireStranger, .initialized RX0, .code yX0_requireStranger cX0_requireStranger 2 none, .classLink RX0 157 "java/lang/IndexOutOfBoundsException", .initialized "java/lang/IndexOutOfBoundsException", .fieldLink RX0 22 "TicketCoincidences" "people" "I"] ++ wsX00 ++ (vx_atS RX0 161 "java/lang/IndexOutOfBoundsException" ["java/lang/RuntimeException", "java/lang/Exception"]).filter goodWord)
def wsX0_colourOf : List Cond := .code yX0_colourOf cX0_colourOf 2 (some .int) :: ([.fieldLink RX0 13 "TicketCoincidences" "colours" "[I", .methodLink RX0 63 yX0_requireStranger, .instanceMethod yX0_requireStranger, .selects RX0 yX0_requireStranger yX0_requireStranger, .initialized RX0, .code yX0_requireStranger cX0_requireStranger 2 none, .classLink RX0 157 "java/lang/IndexOutOfBoundsException", .initialized "java/lang/IndexOutOfBoundsException", .fieldLink RX0 22 "TicketCoincidences" "people" "I"] ++ wsX00 ++ (vx_atS RX0 161 "java/lang/IndexOutOfBoundsException" ["java/lang/RuntimeException", "java/lang/Exception"]).filter goodWord)
def wsX0_cornerOf : List Cond := .code yX0_cornerOf cX0_cornerOf 2 (some .int) :: ([.fieldLink RX0 16 "TicketCoincidences" "corners" "[I", .methodLink RX0 63 yX0_requireStranger, .instanceMethod yX0_requireStranger, .selects RX0 yX0_requireStranger yX0_requireStranger, .initialized RX0, .code yX0_requireStranger cX0_requireStranger 2 none, .classLink RX0 157 "java/lang/IndexOutOfBoundsException", .initialized "java/lang/IndexOutOfBoundsException", .fieldLink RX0 22 "TicketCoincidences" "people" "I"] ++ wsX00 ++ (vx_atS RX0 161 "java/lang/IndexOutOfBoundsException" ["java/lang/RuntimeException", "java/lang/Exception"]).filter goodWord)
def wsX0_walkOf : List Cond := .code yX0_walkOf cX0_walkOf 2 (some .int) :: ([.fieldLink RX0 19 "TicketCoincidences" "walks" "[I", .methodLink RX0 63 yX0_requireStranger, .instanceMethod yX0_requireStranger, .selects RX0 yX0_requireStranger yX0_requireStranger, .initialized RX0, .code yX0_requireStranger cX0_requireStranger 2 none, .classLink RX0 157 "java/lang/IndexOutOfBoundsException", .initialized "java/lang/IndexOutOfBoundsException", .fieldLink RX0 22 "TicketCoincidences" "people" "I"] ++ wsX00 ++ (vx_atS RX0 161 "java/lang/IndexOutOfBoundsException" ["java/lang/RuntimeException", "java/lang/Exception"]).filter goodWord)
def wsX0_requireCorner : List Cond := .code yX0_requireCorner cX0_requireCorner 1 none :: ([.classLink RX0 157 "java/lang/IndexOutOfBoundsException", .initialized "java/lang/IndexOutOfBoundsException", .methodLink RX0 45 yX0_isCorner, .static yX0_isCorner, .initialized RX0, .code yX0_isCorner cX0_isCorner 1 (some .boolean)] ++ (vx_atS RX0 161 "java/lang/IndexOutOfBoundsException" ["java/lang/RuntimeException", "java/lang/Exception"]).filter goodWord)
def wsX0_peopleAt : List Cond := .code yX0_peopleAt cX0_peopleAt 2 (some .int) :: ([.methodLink RX0 101 yX0_requireCorner, .static yX0_requireCorner, .initialized RX0, .code yX0_requireCorner cX0_requireCorner 1 none, .classLink RX0 157 "java/lang/IndexOutOfBoundsException", .initialized "java/lang/IndexOutOfBoundsException", .methodLink RX0 45 yX0_isCorner, .static yX0_isCorner, .code yX0_isCorner cX0_isCorner 1 (some .boolean), .methodLink RX0 104 yX0_crowdAt, .instanceMethod yX0_crowdAt, .selects RX0 yX0_crowdAt yX0_crowdAt, .code yX0_crowdAt cX0_crowdAt 4 (some .int), .fieldLink RX0 22 "TicketCoincidences" "people" "I", .fieldLink RX0 16 "TicketCoincidences" "corners" "[I"] ++ wsX00 ++ (vx_atS RX0 161 "java/lang/IndexOutOfBoundsException" ["java/lang/RuntimeException", "java/lang/Exception"]).filter goodWord)
def wsX0_pointsOf_r1 : List Cond := [Cond.methodLink RX0 80 yX0_requirePair, Cond.instanceMethod yX0_requirePair, Cond.selects RX0 yX0_requirePair yX0_requirePair, Cond.initialized RX0, Cond.code yX0_requirePair cX0_requirePair 3 none, Cond.classLink RX0 51 "java/lang/IllegalArgumentException", Cond.initialized "java/lang/IllegalArgumentException", Cond.methodLink RX0 63 yX0_requireStranger, Cond.instanceMethod yX0_requireStranger, Cond.selects RX0 yX0_requireStranger yX0_requireStranger, Cond.code yX0_requireStranger cX0_requireStranger 2 none, Cond.classLink RX0 157 "java/lang/IndexOutOfBoundsException", Cond.initialized "java/lang/IndexOutOfBoundsException", Cond.fieldLink RX0 22 "TicketCoincidences" "people" "I", Cond.methodLink RX0 107 yX0_pointsOfPair, Cond.instanceMethod yX0_pointsOfPair, Cond.selects RX0 yX0_pointsOfPair yX0_pointsOfPair, Cond.code yX0_pointsOfPair cX0_pointsOfPair 3 (some .int), Cond.fieldLink RX0 9 "TicketCoincidences" "tickets" "[I", Cond.fieldLink RX0 13 "TicketCoincidences" "colours" "[I", Cond.methodLink RX0 180 yX0_pointsOfTickets, Cond.static yX0_pointsOfTickets, Cond.code yX0_pointsOfTickets cX0_pointsOfTickets 3 (some .int), Cond.methodLink RX0 166 Lib.Math.abs.name]
def wsX0_pointsOf_r2 : List Cond := [Cond.static Lib.Math.abs.name, Cond.initialized "java/lang/Math", Cond.code Lib.Math.abs.name Lib.Math.abs.code 1 (some .int), Cond.methodLink RX0 177 yX0_figureSum, Cond.static yX0_figureSum, Cond.code yX0_figureSum cX0_figureSum 1 (some .int), Cond.methodLink RX0 110 yX0_mirrored, Cond.static yX0_mirrored, Cond.code yX0_mirrored cX0_mirrored 2 (some .boolean), Cond.methodLink RX0 183 yX0_pointsOfColours, Cond.static yX0_pointsOfColours, Cond.code yX0_pointsOfColours cX0_pointsOfColours 2 (some .int)]
def wsX0_pointsOf : List Cond := .code yX0_pointsOf cX0_pointsOf 3 (some .int) :: ((wsX0_pointsOf_r1 ++ wsX0_pointsOf_r2) ++ wsX00 ++ (vx_atS RX0 55 "java/lang/IllegalArgumentException" ["java/lang/RuntimeException", "java/lang/Exception"]).filter goodWord ++ (vx_atS RX0 161 "java/lang/IndexOutOfBoundsException" ["java/lang/RuntimeException", "java/lang/Exception"]).filter goodWord)
def wsX0_areTogether : List Cond := .code yX0_areTogether cX0_areTogether 3 (some .boolean) :: ([.fieldLink RX0 16 "TicketCoincidences" "corners" "[I", .methodLink RX0 80 yX0_requirePair, .instanceMethod yX0_requirePair, .selects RX0 yX0_requirePair yX0_requirePair, .initialized RX0, .code yX0_requirePair cX0_requirePair 3 none, .classLink RX0 51 "java/lang/IllegalArgumentException", .initialized "java/lang/IllegalArgumentException", .methodLink RX0 63 yX0_requireStranger, .instanceMethod yX0_requireStranger, .selects RX0 yX0_requireStranger yX0_requireStranger, .code yX0_requireStranger cX0_requireStranger 2 none, .classLink RX0 157 "java/lang/IndexOutOfBoundsException", .initialized "java/lang/IndexOutOfBoundsException", .fieldLink RX0 22 "TicketCoincidences" "people" "I"] ++ wsX00 ++ (vx_atS RX0 55 "java/lang/IllegalArgumentException" ["java/lang/RuntimeException", "java/lang/Exception"]).filter goodWord ++ (vx_atS RX0 161 "java/lang/IndexOutOfBoundsException" ["java/lang/RuntimeException", "java/lang/Exception"]).filter goodWord)
def wsX0_areMirrored : List Cond := .code yX0_areMirrored cX0_areMirrored 3 (some .boolean) :: ([.fieldLink RX0 9 "TicketCoincidences" "tickets" "[I", .methodLink RX0 80 yX0_requirePair, .instanceMethod yX0_requirePair, .selects RX0 yX0_requirePair yX0_requirePair, .initialized RX0, .code yX0_requirePair cX0_requirePair 3 none, .classLink RX0 51 "java/lang/IllegalArgumentException", .initialized "java/lang/IllegalArgumentException", .methodLink RX0 63 yX0_requireStranger, .instanceMethod yX0_requireStranger, .selects RX0 yX0_requireStranger yX0_requireStranger, .code yX0_requireStranger cX0_requireStranger 2 none, .classLink RX0 157 "java/lang/IndexOutOfBoundsException", .initialized "java/lang/IndexOutOfBoundsException", .fieldLink RX0 22 "TicketCoincidences" "people" "I", .methodLink RX0 110 yX0_mirrored, .static yX0_mirrored, .code yX0_mirrored cX0_mirrored 2 (some .boolean)] ++ wsX00 ++ (vx_atS RX0 55 "java/lang/IllegalArgumentException" ["java/lang/RuntimeException", "java/lang/Exception"]).filter goodWord ++ (vx_atS RX0 161 "java/lang/IndexOutOfBoundsException" ["java/lang/RuntimeException", "java/lang/Exception"]).filter goodWord)
def wsX0_coincidences_r1 : List Cond := [Cond.methodLink RX0 86 yX0_townBehind, Cond.instanceMethod yX0_townBehind, Cond.selects RX0 yX0_townBehind yX0_townBehind, Cond.initialized RX0, Cond.code yX0_townBehind cX0_townBehind 5 (some .int), Cond.fieldLink RX0 22 "TicketCoincidences" "people" "I", Cond.methodLink RX0 119 yX0_cornerBehind, Cond.instanceMethod yX0_cornerBehind, Cond.selects RX0 yX0_cornerBehind yX0_cornerBehind, Cond.code yX0_cornerBehind cX0_cornerBehind 3 (some .int), Cond.fieldLink RX0 16 "TicketCoincidences" "corners" "[I", Cond.fieldLink RX0 19 "TicketCoincidences" "walks" "[I", Cond.methodLink RX0 107 yX0_pointsOfPair, Cond.instanceMethod yX0_pointsOfPair, Cond.selects RX0 yX0_pointsOfPair yX0_pointsOfPair, Cond.code yX0_pointsOfPair cX0_pointsOfPair 3 (some .int), Cond.fieldLink RX0 9 "TicketCoincidences" "tickets" "[I", Cond.fieldLink RX0 13 "TicketCoincidences" "colours" "[I", Cond.methodLink RX0 180 yX0_pointsOfTickets, Cond.static yX0_pointsOfTickets, Cond.code yX0_pointsOfTickets cX0_pointsOfTickets 3 (some .int), Cond.methodLink RX0 166 Lib.Math.abs.name, Cond.static Lib.Math.abs.name, Cond.initialized "java/lang/Math"]
def wsX0_coincidences_r2 : List Cond := [Cond.code Lib.Math.abs.name Lib.Math.abs.code 1 (some .int), Cond.methodLink RX0 177 yX0_figureSum, Cond.static yX0_figureSum, Cond.code yX0_figureSum cX0_figureSum 1 (some .int), Cond.methodLink RX0 110 yX0_mirrored, Cond.static yX0_mirrored, Cond.code yX0_mirrored cX0_mirrored 2 (some .boolean), Cond.methodLink RX0 183 yX0_pointsOfColours, Cond.static yX0_pointsOfColours, Cond.code yX0_pointsOfColours cX0_pointsOfColours 2 (some .int)]
def wsX0_coincidences : List Cond := .code yX0_coincidences cX0_coincidences 1 (some .int) :: ((wsX0_coincidences_r1 ++ wsX0_coincidences_r2) ++ wsX00)
def wsX0_coincidencesAt_r1 : List Cond := [Cond.fieldLink RX0 22 "TicketCoincidences" "people" "I", Cond.fieldLink RX0 16 "TicketCoincidences" "corners" "[I", Cond.methodLink RX0 101 yX0_requireCorner, Cond.static yX0_requireCorner, Cond.initialized RX0, Cond.code yX0_requireCorner cX0_requireCorner 1 none, Cond.classLink RX0 157 "java/lang/IndexOutOfBoundsException", Cond.initialized "java/lang/IndexOutOfBoundsException", Cond.methodLink RX0 45 yX0_isCorner, Cond.static yX0_isCorner, Cond.code yX0_isCorner cX0_isCorner 1 (some .boolean), Cond.methodLink RX0 107 yX0_pointsOfPair, Cond.instanceMethod yX0_pointsOfPair, Cond.selects RX0 yX0_pointsOfPair yX0_pointsOfPair, Cond.code yX0_pointsOfPair cX0_pointsOfPair 3 (some .int), Cond.fieldLink RX0 9 "TicketCoincidences" "tickets" "[I", Cond.fieldLink RX0 13 "TicketCoincidences" "colours" "[I", Cond.methodLink RX0 180 yX0_pointsOfTickets, Cond.static yX0_pointsOfTickets, Cond.code yX0_pointsOfTickets cX0_pointsOfTickets 3 (some .int), Cond.methodLink RX0 166 Lib.Math.abs.name, Cond.static Lib.Math.abs.name, Cond.initialized "java/lang/Math", Cond.code Lib.Math.abs.name Lib.Math.abs.code 1 (some .int)]
def wsX0_coincidencesAt_r2 : List Cond := [Cond.methodLink RX0 177 yX0_figureSum, Cond.static yX0_figureSum, Cond.code yX0_figureSum cX0_figureSum 1 (some .int), Cond.methodLink RX0 110 yX0_mirrored, Cond.static yX0_mirrored, Cond.code yX0_mirrored cX0_mirrored 2 (some .boolean), Cond.methodLink RX0 183 yX0_pointsOfColours, Cond.static yX0_pointsOfColours, Cond.code yX0_pointsOfColours cX0_pointsOfColours 2 (some .int)]
def wsX0_coincidencesAt : List Cond := .code yX0_coincidencesAt cX0_coincidencesAt 5 (some .int) :: ((wsX0_coincidencesAt_r1 ++ wsX0_coincidencesAt_r2) ++ wsX00 ++ (vx_atS RX0 161 "java/lang/IndexOutOfBoundsException" ["java/lang/RuntimeException", "java/lang/Exception"]).filter goodWord)
def wsX0_luckWith : List Cond := .code yX0_luckWith cX0_luckWith 6 (some .int) :: ([.fieldLink RX0 22 "TicketCoincidences" "people" "I", .fieldLink RX0 16 "TicketCoincidences" "corners" "[I", .fieldLink RX0 9 "TicketCoincidences" "tickets" "[I", .fieldLink RX0 13 "TicketCoincidences" "colours" "[I", .methodLink RX0 180 yX0_pointsOfTickets, .static yX0_pointsOfTickets, .initialized RX0, .code yX0_pointsOfTickets cX0_pointsOfTickets 3 (some .int), .methodLink RX0 166 Lib.Math.abs.name, .static Lib.Math.abs.name, .initialized "java/lang/Math", .code Lib.Math.abs.name Lib.Math.abs.code 1 (some .int), .methodLink RX0 177 yX0_figureSum, .static yX0_figureSum, .code yX0_figureSum cX0_figureSum 1 (some .int), .methodLink RX0 110 yX0_mirrored, .static yX0_mirrored, .code yX0_mirrored cX0_mirrored 2 (some .boolean), .methodLink RX0 183 yX0_pointsOfColours, .static yX0_pointsOfColours, .code yX0_pointsOfColours cX0_pointsOfColours 2 (some .int)] ++ wsX00)
def wsX0_luckNow_r1 : List Cond := [Cond.fieldLink RX0 9 "TicketCoincidences" "tickets" "[I", Cond.fieldLink RX0 16 "TicketCoincidences" "corners" "[I", Cond.methodLink RX0 122 yX0_luckWith, Cond.instanceMethod yX0_luckWith, Cond.selects RX0 yX0_luckWith yX0_luckWith, Cond.initialized RX0, Cond.code yX0_luckWith cX0_luckWith 6 (some .int), Cond.fieldLink RX0 22 "TicketCoincidences" "people" "I", Cond.fieldLink RX0 13 "TicketCoincidences" "colours" "[I", Cond.methodLink RX0 180 yX0_pointsOfTickets, Cond.static yX0_pointsOfTickets, Cond.code yX0_pointsOfTickets cX0_pointsOfTickets 3 (some .int), Cond.methodLink RX0 166 Lib.Math.abs.name, Cond.static Lib.Math.abs.name, Cond.initialized "java/lang/Math", Cond.code Lib.Math.abs.name Lib.Math.abs.code 1 (some .int), Cond.methodLink RX0 177 yX0_figureSum, Cond.static yX0_figureSum, Cond.code yX0_figureSum cX0_figureSum 1 (some .int), Cond.methodLink RX0 110 yX0_mirrored, Cond.static yX0_mirrored, Cond.code yX0_mirrored cX0_mirrored 2 (some .boolean), Cond.methodLink RX0 183 yX0_pointsOfColours, Cond.static yX0_pointsOfColours]
def wsX0_luckNow_r2 : List Cond := [Cond.code yX0_pointsOfColours cX0_pointsOfColours 2 (some .int)]
def wsX0_luckNow : List Cond := .code yX0_luckNow cX0_luckNow 2 (some .int) :: ((wsX0_luckNow_r1 ++ wsX0_luckNow_r2) ++ wsX00)
def wsX0_luckOf_r1 : List Cond := [Cond.methodLink RX0 63 yX0_requireStranger, Cond.instanceMethod yX0_requireStranger, Cond.selects RX0 yX0_requireStranger yX0_requireStranger, Cond.initialized RX0, Cond.code yX0_requireStranger cX0_requireStranger 2 none, Cond.classLink RX0 157 "java/lang/IndexOutOfBoundsException", Cond.initialized "java/lang/IndexOutOfBoundsException", Cond.fieldLink RX0 22 "TicketCoincidences" "people" "I", Cond.methodLink RX0 114 yX0_luckNow, Cond.instanceMethod yX0_luckNow, Cond.selects RX0 yX0_luckNow yX0_luckNow, Cond.code yX0_luckNow cX0_luckNow 2 (some .int), Cond.fieldLink RX0 9 "TicketCoincidences" "tickets" "[I", Cond.fieldLink RX0 16 "TicketCoincidences" "corners" "[I", Cond.methodLink RX0 122 yX0_luckWith, Cond.instanceMethod yX0_luckWith, Cond.selects RX0 yX0_luckWith yX0_luckWith, Cond.code yX0_luckWith cX0_luckWith 6 (some .int), Cond.fieldLink RX0 13 "TicketCoincidences" "colours" "[I", Cond.methodLink RX0 180 yX0_pointsOfTickets, Cond.static yX0_pointsOfTickets, Cond.code yX0_pointsOfTickets cX0_pointsOfTickets 3 (some .int), Cond.methodLink RX0 166 Lib.Math.abs.name, Cond.static Lib.Math.abs.name]
def wsX0_luckOf_r2 : List Cond := [Cond.initialized "java/lang/Math", Cond.code Lib.Math.abs.name Lib.Math.abs.code 1 (some .int), Cond.methodLink RX0 177 yX0_figureSum, Cond.static yX0_figureSum, Cond.code yX0_figureSum cX0_figureSum 1 (some .int), Cond.methodLink RX0 110 yX0_mirrored, Cond.static yX0_mirrored, Cond.code yX0_mirrored cX0_mirrored 2 (some .boolean), Cond.methodLink RX0 183 yX0_pointsOfColours, Cond.static yX0_pointsOfColours, Cond.code yX0_pointsOfColours cX0_pointsOfColours 2 (some .int)]
def wsX0_luckOf : List Cond := .code yX0_luckOf cX0_luckOf 2 (some .int) :: ((wsX0_luckOf_r1 ++ wsX0_luckOf_r2) ++ wsX00 ++ (vx_atS RX0 161 "java/lang/IndexOutOfBoundsException" ["java/lang/RuntimeException", "java/lang/Exception"]).filter goodWord)
def wsX0_luckiestPair : List Cond := .code yX0_luckiestPair cX0_luckiestPair 6 (some .int) :: ([.fieldLink RX0 22 "TicketCoincidences" "people" "I", .methodLink RX0 107 yX0_pointsOfPair, .instanceMethod yX0_pointsOfPair, .selects RX0 yX0_pointsOfPair yX0_pointsOfPair, .initialized RX0, .code yX0_pointsOfPair cX0_pointsOfPair 3 (some .int), .fieldLink RX0 9 "TicketCoincidences" "tickets" "[I", .fieldLink RX0 13 "TicketCoincidences" "colours" "[I", .methodLink RX0 180 yX0_pointsOfTickets, .static yX0_pointsOfTickets, .code yX0_pointsOfTickets cX0_pointsOfTickets 3 (some .int), .methodLink RX0 166 Lib.Math.abs.name, .static Lib.Math.abs.name, .initialized "java/lang/Math", .code Lib.Math.abs.name Lib.Math.abs.code 1 (some .int), .methodLink RX0 177 yX0_figureSum, .static yX0_figureSum, .code yX0_figureSum cX0_figureSum 1 (some .int), .methodLink RX0 110 yX0_mirrored, .static yX0_mirrored, .code yX0_mirrored cX0_mirrored 2 (some .boolean), .methodLink RX0 183 yX0_pointsOfColours, .static yX0_pointsOfColours, .code yX0_pointsOfColours cX0_pointsOfColours 2 (some .int)] ++ wsX00)
def wsX0_coincidencesIn_r1 : List Cond := [Cond.classLink RX0 51 "java/lang/IllegalArgumentException", Cond.initialized "java/lang/IllegalArgumentException", Cond.methodLink RX0 86 yX0_townBehind, Cond.instanceMethod yX0_townBehind, Cond.selects RX0 yX0_townBehind yX0_townBehind, Cond.initialized RX0, Cond.code yX0_townBehind cX0_townBehind 5 (some .int), Cond.fieldLink RX0 22 "TicketCoincidences" "people" "I", Cond.methodLink RX0 119 yX0_cornerBehind, Cond.instanceMethod yX0_cornerBehind, Cond.selects RX0 yX0_cornerBehind yX0_cornerBehind, Cond.code yX0_cornerBehind cX0_cornerBehind 3 (some .int), Cond.fieldLink RX0 16 "TicketCoincidences" "corners" "[I", Cond.fieldLink RX0 19 "TicketCoincidences" "walks" "[I", Cond.methodLink RX0 107 yX0_pointsOfPair, Cond.instanceMethod yX0_pointsOfPair, Cond.selects RX0 yX0_pointsOfPair yX0_pointsOfPair, Cond.code yX0_pointsOfPair cX0_pointsOfPair 3 (some .int), Cond.fieldLink RX0 9 "TicketCoincidences" "tickets" "[I", Cond.fieldLink RX0 13 "TicketCoincidences" "colours" "[I", Cond.methodLink RX0 180 yX0_pointsOfTickets, Cond.static yX0_pointsOfTickets, Cond.code yX0_pointsOfTickets cX0_pointsOfTickets 3 (some .int), Cond.methodLink RX0 166 Lib.Math.abs.name]
def wsX0_coincidencesIn_r2 : List Cond := [Cond.static Lib.Math.abs.name, Cond.initialized "java/lang/Math", Cond.code Lib.Math.abs.name Lib.Math.abs.code 1 (some .int), Cond.methodLink RX0 177 yX0_figureSum, Cond.static yX0_figureSum, Cond.code yX0_figureSum cX0_figureSum 1 (some .int), Cond.methodLink RX0 110 yX0_mirrored, Cond.static yX0_mirrored, Cond.code yX0_mirrored cX0_mirrored 2 (some .boolean), Cond.methodLink RX0 183 yX0_pointsOfColours, Cond.static yX0_pointsOfColours, Cond.code yX0_pointsOfColours cX0_pointsOfColours 2 (some .int)]
def wsX0_coincidencesIn : List Cond := .code yX0_coincidencesIn cX0_coincidencesIn 2 (some .int) :: ((wsX0_coincidencesIn_r1 ++ wsX0_coincidencesIn_r2) ++ wsX00 ++ (vx_atS RX0 55 "java/lang/IllegalArgumentException" ["java/lang/RuntimeException", "java/lang/Exception"]).filter goodWord)
def wsX0_hoursUntilTogether : List Cond := .code yX0_hoursUntilTogether cX0_hoursUntilTogether 4 (some .int) :: ([.methodLink RX0 80 yX0_requirePair, .instanceMethod yX0_requirePair, .selects RX0 yX0_requirePair yX0_requirePair, .initialized RX0, .code yX0_requirePair cX0_requirePair 3 none, .classLink RX0 51 "java/lang/IllegalArgumentException", .initialized "java/lang/IllegalArgumentException", .methodLink RX0 63 yX0_requireStranger, .instanceMethod yX0_requireStranger, .selects RX0 yX0_requireStranger yX0_requireStranger, .code yX0_requireStranger cX0_requireStranger 2 none, .classLink RX0 157 "java/lang/IndexOutOfBoundsException", .initialized "java/lang/IndexOutOfBoundsException", .fieldLink RX0 22 "TicketCoincidences" "people" "I", .methodLink RX0 119 yX0_cornerBehind, .instanceMethod yX0_cornerBehind, .selects RX0 yX0_cornerBehind yX0_cornerBehind, .code yX0_cornerBehind cX0_cornerBehind 3 (some .int), .fieldLink RX0 16 "TicketCoincidences" "corners" "[I", .fieldLink RX0 19 "TicketCoincidences" "walks" "[I"] ++ wsX00 ++ (vx_atS RX0 55 "java/lang/IllegalArgumentException" ["java/lang/RuntimeException", "java/lang/Exception"]).filter goodWord ++ (vx_atS RX0 161 "java/lang/IndexOutOfBoundsException" ["java/lang/RuntimeException", "java/lang/Exception"]).filter goodWord)
def wsX0_costOfMeeting_r1 : List Cond := [Cond.fieldLink RX0 16 "TicketCoincidences" "corners" "[I", Cond.methodLink RX0 80 yX0_requirePair, Cond.instanceMethod yX0_requirePair, Cond.selects RX0 yX0_requirePair yX0_requirePair, Cond.initialized RX0, Cond.code yX0_requirePair cX0_requirePair 3 none, Cond.classLink RX0 51 "java/lang/IllegalArgumentException", Cond.initialized "java/lang/IllegalArgumentException", Cond.methodLink RX0 63 yX0_requireStranger, Cond.instanceMethod yX0_requireStranger, Cond.selects RX0 yX0_requireStranger yX0_requireStranger, Cond.code yX0_requireStranger cX0_requireStranger 2 none, Cond.classLink RX0 157 "java/lang/IndexOutOfBoundsException", Cond.initialized "java/lang/IndexOutOfBoundsException", Cond.fieldLink RX0 22 "TicketCoincidences" "people" "I", Cond.methodLink RX0 73 yX0_costOfWay, Cond.static yX0_costOfWay, Cond.code yX0_costOfWay cX0_costOfWay 3 (some .int), Cond.methodLink RX0 166 Lib.Math.abs.name, Cond.static Lib.Math.abs.name, Cond.initialized "java/lang/Math", Cond.code Lib.Math.abs.name Lib.Math.abs.code 1 (some .int), Cond.methodLink RX0 171 Lib.Math.min.name, Cond.static Lib.Math.min.name]
def wsX0_costOfMeeting_r2 : List Cond := [Cond.code Lib.Math.min.name Lib.Math.min.code 2 (some .int)]
def wsX0_costOfMeeting : List Cond := .code yX0_costOfMeeting cX0_costOfMeeting 3 (some .int) :: ((wsX0_costOfMeeting_r1 ++ wsX0_costOfMeeting_r2) ++ wsX00 ++ (vx_atS RX0 55 "java/lang/IllegalArgumentException" ["java/lang/RuntimeException", "java/lang/Exception"]).filter goodWord ++ (vx_atS RX0 161 "java/lang/IndexOutOfBoundsException" ["java/lang/RuntimeException", "java/lang/Exception"]).filter goodWord)
def wsX0_bestHour_r1 : List Cond := [Cond.methodLink RX0 86 yX0_townBehind, Cond.instanceMethod yX0_townBehind, Cond.selects RX0 yX0_townBehind yX0_townBehind, Cond.initialized RX0, Cond.code yX0_townBehind cX0_townBehind 5 (some .int), Cond.fieldLink RX0 22 "TicketCoincidences" "people" "I", Cond.methodLink RX0 119 yX0_cornerBehind, Cond.instanceMethod yX0_cornerBehind, Cond.selects RX0 yX0_cornerBehind yX0_cornerBehind, Cond.code yX0_cornerBehind cX0_cornerBehind 3 (some .int), Cond.fieldLink RX0 16 "TicketCoincidences" "corners" "[I", Cond.fieldLink RX0 19 "TicketCoincidences" "walks" "[I", Cond.methodLink RX0 107 yX0_pointsOfPair, Cond.instanceMethod yX0_pointsOfPair, Cond.selects RX0 yX0_pointsOfPair yX0_pointsOfPair, Cond.code yX0_pointsOfPair cX0_pointsOfPair 3 (some .int), Cond.fieldLink RX0 9 "TicketCoincidences" "tickets" "[I", Cond.fieldLink RX0 13 "TicketCoincidences" "colours" "[I", Cond.methodLink RX0 180 yX0_pointsOfTickets, Cond.static yX0_pointsOfTickets, Cond.code yX0_pointsOfTickets cX0_pointsOfTickets 3 (some .int), Cond.methodLink RX0 166 Lib.Math.abs.name, Cond.static Lib.Math.abs.name, Cond.initialized "java/lang/Math"]
def wsX0_bestHour_r2 : List Cond := [Cond.code Lib.Math.abs.name Lib.Math.abs.code 1 (some .int), Cond.methodLink RX0 177 yX0_figureSum, Cond.static yX0_figureSum, Cond.code yX0_figureSum cX0_figureSum 1 (some .int), Cond.methodLink RX0 110 yX0_mirrored, Cond.static yX0_mirrored, Cond.code yX0_mirrored cX0_mirrored 2 (some .boolean), Cond.methodLink RX0 183 yX0_pointsOfColours, Cond.static yX0_pointsOfColours, Cond.code yX0_pointsOfColours cX0_pointsOfColours 2 (some .int)]
def wsX0_bestHour : List Cond := .code yX0_bestHour cX0_bestHour 5 (some .int) :: ((wsX0_bestHour_r1 ++ wsX0_bestHour_r2) ++ wsX00)
def wsX0_bestCorner_r1 : List Cond := [Cond.fieldLink RX0 9 "TicketCoincidences" "tickets" "[I", Cond.methodLink RX0 63 yX0_requireStranger, Cond.instanceMethod yX0_requireStranger, Cond.selects RX0 yX0_requireStranger yX0_requireStranger, Cond.initialized RX0, Cond.code yX0_requireStranger cX0_requireStranger 2 none, Cond.classLink RX0 157 "java/lang/IndexOutOfBoundsException", Cond.initialized "java/lang/IndexOutOfBoundsException", Cond.fieldLink RX0 22 "TicketCoincidences" "people" "I", Cond.methodLink RX0 122 yX0_luckWith, Cond.instanceMethod yX0_luckWith, Cond.selects RX0 yX0_luckWith yX0_luckWith, Cond.code yX0_luckWith cX0_luckWith 6 (some .int), Cond.fieldLink RX0 16 "TicketCoincidences" "corners" "[I", Cond.fieldLink RX0 13 "TicketCoincidences" "colours" "[I", Cond.methodLink RX0 180 yX0_pointsOfTickets, Cond.static yX0_pointsOfTickets, Cond.code yX0_pointsOfTickets cX0_pointsOfTickets 3 (some .int), Cond.methodLink RX0 166 Lib.Math.abs.name, Cond.static Lib.Math.abs.name, Cond.initialized "java/lang/Math", Cond.code Lib.Math.abs.name Lib.Math.abs.code 1 (some .int), Cond.methodLink RX0 177 yX0_figureSum, Cond.static yX0_figureSum]
def wsX0_bestCorner_r2 : List Cond := [Cond.code yX0_figureSum cX0_figureSum 1 (some .int), Cond.methodLink RX0 110 yX0_mirrored, Cond.static yX0_mirrored, Cond.code yX0_mirrored cX0_mirrored 2 (some .boolean), Cond.methodLink RX0 183 yX0_pointsOfColours, Cond.static yX0_pointsOfColours, Cond.code yX0_pointsOfColours cX0_pointsOfColours 2 (some .int)]
def wsX0_bestCorner : List Cond := .code yX0_bestCorner cX0_bestCorner 6 (some .int) :: ((wsX0_bestCorner_r1 ++ wsX0_bestCorner_r2) ++ wsX00 ++ (vx_atS RX0 161 "java/lang/IndexOutOfBoundsException" ["java/lang/RuntimeException", "java/lang/Exception"]).filter goodWord)
def wsX0_townIfSwapped_r1 : List Cond := [Cond.fieldLink RX0 9 "TicketCoincidences" "tickets" "[I", Cond.methodLink RX0 90 yX0_exchange, Cond.static yX0_exchange, Cond.initialized RX0, Cond.code yX0_exchange cX0_exchange 4 none, Cond.methodLink RX0 86 yX0_townBehind, Cond.instanceMethod yX0_townBehind, Cond.selects RX0 yX0_townBehind yX0_townBehind, Cond.code yX0_townBehind cX0_townBehind 5 (some .int), Cond.fieldLink RX0 22 "TicketCoincidences" "people" "I", Cond.methodLink RX0 119 yX0_cornerBehind, Cond.instanceMethod yX0_cornerBehind, Cond.selects RX0 yX0_cornerBehind yX0_cornerBehind, Cond.code yX0_cornerBehind cX0_cornerBehind 3 (some .int), Cond.fieldLink RX0 16 "TicketCoincidences" "corners" "[I", Cond.fieldLink RX0 19 "TicketCoincidences" "walks" "[I", Cond.methodLink RX0 107 yX0_pointsOfPair, Cond.instanceMethod yX0_pointsOfPair, Cond.selects RX0 yX0_pointsOfPair yX0_pointsOfPair, Cond.code yX0_pointsOfPair cX0_pointsOfPair 3 (some .int), Cond.fieldLink RX0 13 "TicketCoincidences" "colours" "[I", Cond.methodLink RX0 180 yX0_pointsOfTickets, Cond.static yX0_pointsOfTickets, Cond.code yX0_pointsOfTickets cX0_pointsOfTickets 3 (some .int)]
def wsX0_townIfSwapped_r2 : List Cond := [Cond.methodLink RX0 166 Lib.Math.abs.name, Cond.static Lib.Math.abs.name, Cond.initialized "java/lang/Math", Cond.code Lib.Math.abs.name Lib.Math.abs.code 1 (some .int), Cond.methodLink RX0 177 yX0_figureSum, Cond.static yX0_figureSum, Cond.code yX0_figureSum cX0_figureSum 1 (some .int), Cond.methodLink RX0 110 yX0_mirrored, Cond.static yX0_mirrored, Cond.code yX0_mirrored cX0_mirrored 2 (some .boolean), Cond.methodLink RX0 183 yX0_pointsOfColours, Cond.static yX0_pointsOfColours, Cond.code yX0_pointsOfColours cX0_pointsOfColours 2 (some .int)]
def wsX0_townIfSwapped : List Cond := .code yX0_townIfSwapped cX0_townIfSwapped 4 (some .int) :: ((wsX0_townIfSwapped_r1 ++ wsX0_townIfSwapped_r2) ++ wsX00)
def wsX0_bestSwap_r1 : List Cond := [Cond.fieldLink RX0 22 "TicketCoincidences" "people" "I", Cond.methodLink RX0 86 yX0_townBehind, Cond.instanceMethod yX0_townBehind, Cond.selects RX0 yX0_townBehind yX0_townBehind, Cond.initialized RX0, Cond.code yX0_townBehind cX0_townBehind 5 (some .int), Cond.methodLink RX0 119 yX0_cornerBehind, Cond.instanceMethod yX0_cornerBehind, Cond.selects RX0 yX0_cornerBehind yX0_cornerBehind, Cond.code yX0_cornerBehind cX0_cornerBehind 3 (some .int), Cond.fieldLink RX0 16 "TicketCoincidences" "corners" "[I", Cond.fieldLink RX0 19 "TicketCoincidences" "walks" "[I", Cond.methodLink RX0 107 yX0_pointsOfPair, Cond.instanceMethod yX0_pointsOfPair, Cond.selects RX0 yX0_pointsOfPair yX0_pointsOfPair, Cond.code yX0_pointsOfPair cX0_pointsOfPair 3 (some .int), Cond.fieldLink RX0 9 "TicketCoincidences" "tickets" "[I", Cond.fieldLink RX0 13 "TicketCoincidences" "colours" "[I", Cond.methodLink RX0 180 yX0_pointsOfTickets, Cond.static yX0_pointsOfTickets, Cond.code yX0_pointsOfTickets cX0_pointsOfTickets 3 (some .int), Cond.methodLink RX0 166 Lib.Math.abs.name, Cond.static Lib.Math.abs.name, Cond.initialized "java/lang/Math"]
def wsX0_bestSwap_r2 : List Cond := [Cond.code Lib.Math.abs.name Lib.Math.abs.code 1 (some .int), Cond.methodLink RX0 177 yX0_figureSum, Cond.static yX0_figureSum, Cond.code yX0_figureSum cX0_figureSum 1 (some .int), Cond.methodLink RX0 110 yX0_mirrored, Cond.static yX0_mirrored, Cond.code yX0_mirrored cX0_mirrored 2 (some .boolean), Cond.methodLink RX0 183 yX0_pointsOfColours, Cond.static yX0_pointsOfColours, Cond.code yX0_pointsOfColours cX0_pointsOfColours 2 (some .int), Cond.methodLink RX0 126 yX0_townIfSwapped, Cond.instanceMethod yX0_townIfSwapped, Cond.selects RX0 yX0_townIfSwapped yX0_townIfSwapped, Cond.code yX0_townIfSwapped cX0_townIfSwapped 4 (some .int), Cond.methodLink RX0 90 yX0_exchange, Cond.static yX0_exchange, Cond.code yX0_exchange cX0_exchange 4 none]
def wsX0_bestSwap : List Cond := .code yX0_bestSwap cX0_bestSwap 6 (some .int) :: ((wsX0_bestSwap_r1 ++ wsX0_bestSwap_r2) ++ wsX00)
def wsX0_bestTicket_r1 : List Cond := [Cond.fieldLink RX0 16 "TicketCoincidences" "corners" "[I", Cond.methodLink RX0 63 yX0_requireStranger, Cond.instanceMethod yX0_requireStranger, Cond.selects RX0 yX0_requireStranger yX0_requireStranger, Cond.initialized RX0, Cond.code yX0_requireStranger cX0_requireStranger 2 none, Cond.classLink RX0 157 "java/lang/IndexOutOfBoundsException", Cond.initialized "java/lang/IndexOutOfBoundsException", Cond.fieldLink RX0 22 "TicketCoincidences" "people" "I", Cond.methodLink RX0 122 yX0_luckWith, Cond.instanceMethod yX0_luckWith, Cond.selects RX0 yX0_luckWith yX0_luckWith, Cond.code yX0_luckWith cX0_luckWith 6 (some .int), Cond.fieldLink RX0 9 "TicketCoincidences" "tickets" "[I", Cond.fieldLink RX0 13 "TicketCoincidences" "colours" "[I", Cond.methodLink RX0 180 yX0_pointsOfTickets, Cond.static yX0_pointsOfTickets, Cond.code yX0_pointsOfTickets cX0_pointsOfTickets 3 (some .int), Cond.methodLink RX0 166 Lib.Math.abs.name, Cond.static Lib.Math.abs.name, Cond.initialized "java/lang/Math", Cond.code Lib.Math.abs.name Lib.Math.abs.code 1 (some .int), Cond.methodLink RX0 177 yX0_figureSum, Cond.static yX0_figureSum]
def wsX0_bestTicket_r2 : List Cond := [Cond.code yX0_figureSum cX0_figureSum 1 (some .int), Cond.methodLink RX0 110 yX0_mirrored, Cond.static yX0_mirrored, Cond.code yX0_mirrored cX0_mirrored 2 (some .boolean), Cond.methodLink RX0 183 yX0_pointsOfColours, Cond.static yX0_pointsOfColours, Cond.code yX0_pointsOfColours cX0_pointsOfColours 2 (some .int)]
def wsX0_bestTicket : List Cond := .code yX0_bestTicket cX0_bestTicket 6 (some .int) :: ((wsX0_bestTicket_r1 ++ wsX0_bestTicket_r2) ++ wsX00 ++ (vx_atS RX0 161 "java/lang/IndexOutOfBoundsException" ["java/lang/RuntimeException", "java/lang/Exception"]).filter goodWord)
def wsX0_meanLuck_r1 : List Cond := [Cond.fieldLink RX0 22 "TicketCoincidences" "people" "I", Cond.methodLink RX0 114 yX0_luckNow, Cond.instanceMethod yX0_luckNow, Cond.selects RX0 yX0_luckNow yX0_luckNow, Cond.initialized RX0, Cond.code yX0_luckNow cX0_luckNow 2 (some .int), Cond.fieldLink RX0 9 "TicketCoincidences" "tickets" "[I", Cond.fieldLink RX0 16 "TicketCoincidences" "corners" "[I", Cond.methodLink RX0 122 yX0_luckWith, Cond.instanceMethod yX0_luckWith, Cond.selects RX0 yX0_luckWith yX0_luckWith, Cond.code yX0_luckWith cX0_luckWith 6 (some .int), Cond.fieldLink RX0 13 "TicketCoincidences" "colours" "[I", Cond.methodLink RX0 180 yX0_pointsOfTickets, Cond.static yX0_pointsOfTickets, Cond.code yX0_pointsOfTickets cX0_pointsOfTickets 3 (some .int), Cond.methodLink RX0 166 Lib.Math.abs.name, Cond.static Lib.Math.abs.name, Cond.initialized "java/lang/Math", Cond.code Lib.Math.abs.name Lib.Math.abs.code 1 (some .int), Cond.methodLink RX0 177 yX0_figureSum, Cond.static yX0_figureSum, Cond.code yX0_figureSum cX0_figureSum 1 (some .int), Cond.methodLink RX0 110 yX0_mirrored]
def wsX0_meanLuck_r2 : List Cond := [Cond.static yX0_mirrored, Cond.code yX0_mirrored cX0_mirrored 2 (some .boolean), Cond.methodLink RX0 183 yX0_pointsOfColours, Cond.static yX0_pointsOfColours, Cond.code yX0_pointsOfColours cX0_pointsOfColours 2 (some .int)]
def wsX0_meanLuck : List Cond := .code yX0_meanLuck cX0_meanLuck 3 (some .double) :: ((wsX0_meanLuck_r1 ++ wsX0_meanLuck_r2) ++ wsX00)
def wsX0_mixed : List Cond := .code yX0_mixed cX0_mixed 4 (some .long) :: ([.constantLong RX0 186 (31)])
def wsX0_digest_r1 : List Cond := [Cond.constantLong RX0 129 (1979), Cond.fieldLink RX0 22 "TicketCoincidences" "people" "I", Cond.fieldLink RX0 26 "TicketCoincidences" "hourNow" "I", Cond.fieldLink RX0 29 "TicketCoincidences" "inStore" "I", Cond.fieldLink RX0 32 "TicketCoincidences" "countedInAll" "I", Cond.fieldLink RX0 35 "TicketCoincidences" "spentInAll" "I", Cond.fieldLink RX0 9 "TicketCoincidences" "tickets" "[I", Cond.fieldLink RX0 13 "TicketCoincidences" "colours" "[I", Cond.fieldLink RX0 16 "TicketCoincidences" "corners" "[I", Cond.fieldLink RX0 19 "TicketCoincidences" "walks" "[I", Cond.methodLink RX0 131 yX0_mixed, Cond.static yX0_mixed, Cond.initialized RX0, Cond.code yX0_mixed cX0_mixed 4 (some .long), Cond.constantLong RX0 186 (31), Cond.methodLink RX0 135 yX0_coincidences, Cond.instanceMethod yX0_coincidences, Cond.selects RX0 yX0_coincidences yX0_coincidences, Cond.code yX0_coincidences cX0_coincidences 1 (some .int), Cond.methodLink RX0 86 yX0_townBehind, Cond.instanceMethod yX0_townBehind, Cond.selects RX0 yX0_townBehind yX0_townBehind, Cond.code yX0_townBehind cX0_townBehind 5 (some .int), Cond.methodLink RX0 119 yX0_cornerBehind]
def wsX0_digest_r2 : List Cond := [Cond.instanceMethod yX0_cornerBehind, Cond.selects RX0 yX0_cornerBehind yX0_cornerBehind, Cond.code yX0_cornerBehind cX0_cornerBehind 3 (some .int), Cond.methodLink RX0 107 yX0_pointsOfPair, Cond.instanceMethod yX0_pointsOfPair, Cond.selects RX0 yX0_pointsOfPair yX0_pointsOfPair, Cond.code yX0_pointsOfPair cX0_pointsOfPair 3 (some .int), Cond.methodLink RX0 180 yX0_pointsOfTickets, Cond.static yX0_pointsOfTickets, Cond.code yX0_pointsOfTickets cX0_pointsOfTickets 3 (some .int), Cond.methodLink RX0 166 Lib.Math.abs.name, Cond.static Lib.Math.abs.name, Cond.initialized "java/lang/Math", Cond.code Lib.Math.abs.name Lib.Math.abs.code 1 (some .int), Cond.methodLink RX0 177 yX0_figureSum, Cond.static yX0_figureSum, Cond.code yX0_figureSum cX0_figureSum 1 (some .int), Cond.methodLink RX0 110 yX0_mirrored, Cond.static yX0_mirrored, Cond.code yX0_mirrored cX0_mirrored 2 (some .boolean), Cond.methodLink RX0 183 yX0_pointsOfColours, Cond.static yX0_pointsOfColours, Cond.code yX0_pointsOfColours cX0_pointsOfColours 2 (some .int), Cond.methodLink RX0 139 yX0_luckiestPair]
def wsX0_digest_r3 : List Cond := [Cond.instanceMethod yX0_luckiestPair, Cond.selects RX0 yX0_luckiestPair yX0_luckiestPair, Cond.code yX0_luckiestPair cX0_luckiestPair 6 (some .int), Cond.methodLink RX0 142 yX0_bestHour, Cond.instanceMethod yX0_bestHour, Cond.selects RX0 yX0_bestHour yX0_bestHour, Cond.code yX0_bestHour cX0_bestHour 5 (some .int), Cond.methodLink RX0 145 yX0_bestSwap, Cond.instanceMethod yX0_bestSwap, Cond.selects RX0 yX0_bestSwap yX0_bestSwap, Cond.code yX0_bestSwap cX0_bestSwap 6 (some .int), Cond.methodLink RX0 126 yX0_townIfSwapped, Cond.instanceMethod yX0_townIfSwapped, Cond.selects RX0 yX0_townIfSwapped yX0_townIfSwapped, Cond.code yX0_townIfSwapped cX0_townIfSwapped 4 (some .int), Cond.methodLink RX0 90 yX0_exchange, Cond.static yX0_exchange, Cond.code yX0_exchange cX0_exchange 4 none, Cond.methodLink RX0 148 yX0_peopleAt, Cond.instanceMethod yX0_peopleAt, Cond.selects RX0 yX0_peopleAt yX0_peopleAt, Cond.code yX0_peopleAt cX0_peopleAt 2 (some .int), Cond.methodLink RX0 101 yX0_requireCorner, Cond.static yX0_requireCorner]
def wsX0_digest_r4 : List Cond := [Cond.code yX0_requireCorner cX0_requireCorner 1 none, Cond.classLink RX0 157 "java/lang/IndexOutOfBoundsException", Cond.initialized "java/lang/IndexOutOfBoundsException", Cond.methodLink RX0 45 yX0_isCorner, Cond.static yX0_isCorner, Cond.code yX0_isCorner cX0_isCorner 1 (some .boolean), Cond.methodLink RX0 104 yX0_crowdAt, Cond.instanceMethod yX0_crowdAt, Cond.selects RX0 yX0_crowdAt yX0_crowdAt, Cond.code yX0_crowdAt cX0_crowdAt 4 (some .int), Cond.methodLink RX0 151 yX0_coincidencesAt, Cond.instanceMethod yX0_coincidencesAt, Cond.selects RX0 yX0_coincidencesAt yX0_coincidencesAt, Cond.code yX0_coincidencesAt cX0_coincidencesAt 5 (some .int), Cond.methodLink RX0 114 yX0_luckNow, Cond.instanceMethod yX0_luckNow, Cond.selects RX0 yX0_luckNow yX0_luckNow, Cond.code yX0_luckNow cX0_luckNow 2 (some .int), Cond.methodLink RX0 122 yX0_luckWith, Cond.instanceMethod yX0_luckWith, Cond.selects RX0 yX0_luckWith yX0_luckWith, Cond.code yX0_luckWith cX0_luckWith 6 (some .int), Cond.methodLink RX0 154 yX0_bestCorner, Cond.instanceMethod yX0_bestCorner]
def wsX0_digest_r5 : List Cond := [Cond.selects RX0 yX0_bestCorner yX0_bestCorner, Cond.code yX0_bestCorner cX0_bestCorner 6 (some .int), Cond.methodLink RX0 63 yX0_requireStranger, Cond.instanceMethod yX0_requireStranger, Cond.selects RX0 yX0_requireStranger yX0_requireStranger, Cond.code yX0_requireStranger cX0_requireStranger 2 none]
def wsX0_digest : List Cond := .code yX0_digest cX0_digest 4 (some .long) :: ((wsX0_digest_r1 ++ (wsX0_digest_r2 ++ (wsX0_digest_r3 ++ (wsX0_digest_r4 ++ wsX0_digest_r5)))) ++ wsX00 ++ (vx_atS RX0 161 "java/lang/IndexOutOfBoundsException" ["java/lang/RuntimeException", "java/lang/Exception"]).filter goodWord)
def wsX1_init : List Cond := .code yX1_init cX1_init 1 none :: ([.methodLink RX1 1 objectInit, .instanceMethod objectInit, .code objectInit ⟨#[0xb1]⟩ 1 none, .arrayClass .int, .fieldLink RX1 9 "TicketCoincidencesModel" "ticket" "[I", .fieldLink RX1 13 "TicketCoincidencesModel" "colour" "[I", .fieldLink RX1 16 "TicketCoincidencesModel" "corner" "[I", .fieldLink RX1 19 "TicketCoincidencesModel" "walk" "[I", .fieldLink RX1 22 "TicketCoincidencesModel" "store" "I"] ++ wsX10)
def wsX1_thrown : List Cond := .code yX1_thrown cX1_thrown 1 (some .int) :: ([.fieldLink RX1 26 "TicketCoincidencesModel" "thrown" "I"] ++ wsX10)
def wsX1_no : List Cond := .code yX1_no cX1_no 2 (some .int) :: ([.fieldLink RX1 26 "TicketCoincidencesModel" "thrown" "I"] ++ wsX10)
def wsX1_ok : List Cond := .code yX1_ok cX1_ok 2 (some .int) :: ([.fieldLink RX1 26 "TicketCoincidencesModel" "thrown" "I"] ++ wsX10)
def wsX1_isIn : List Cond := .code yX1_isIn cX1_isIn 3 (some .boolean) :: ([])
def wsX1_isOne : List Cond := .code yX1_isOne cX1_isOne 2 (some .boolean) :: ([.fieldLink RX1 29 "TicketCoincidencesModel" "people" "I", .methodLink RX1 32 yX1_isIn, .static yX1_isIn, .initialized RX1, .code yX1_isIn cX1_isIn 3 (some .boolean)] ++ wsX10)
def wsX1_isCorner : List Cond := .code yX1_isCorner cX1_isCorner 1 (some .boolean) :: ([.methodLink RX1 32 yX1_isIn, .static yX1_isIn, .initialized RX1, .code yX1_isIn cX1_isIn 3 (some .boolean)])
def wsX1_isMirror : List Cond := .code yX1_isMirror cX1_isMirror 2 (some .boolean) :: ([])
def wsX1_points : List Cond := .code yX1_points cX1_points 6 (some .int) :: ([.fieldLink RX1 9 "TicketCoincidencesModel" "ticket" "[I", .fieldLink RX1 13 "TicketCoincidencesModel" "colour" "[I", .methodLink RX1 36 yX1_isMirror, .static yX1_isMirror, .initialized RX1, .code yX1_isMirror cX1_isMirror 2 (some .boolean)] ++ wsX10)
def wsX1_cornerIn : List Cond := .code yX1_cornerIn cX1_cornerIn 3 (some .int) :: ([.fieldLink RX1 16 "TicketCoincidencesModel" "corner" "[I", .fieldLink RX1 19 "TicketCoincidencesModel" "walk" "[I"] ++ wsX10)
def wsX1_town : List Cond := .code yX1_town cX1_town 6 (some .int) :: ([.fieldLink RX1 29 "TicketCoincidencesModel" "people" "I", .methodLink RX1 40 yX1_cornerIn, .instanceMethod yX1_cornerIn, .selects RX1 yX1_cornerIn yX1_cornerIn, .initialized RX1, .code yX1_cornerIn cX1_cornerIn 3 (some .int), .fieldLink RX1 16 "TicketCoincidencesModel" "corner" "[I", .fieldLink RX1 19 "TicketCoincidencesModel" "walk" "[I", .methodLink RX1 44 yX1_points, .instanceMethod yX1_points, .selects RX1 yX1_points yX1_points, .code yX1_points cX1_points 6 (some .int), .fieldLink RX1 9 "TicketCoincidencesModel" "ticket" "[I", .fieldLink RX1 13 "TicketCoincidencesModel" "colour" "[I", .methodLink RX1 36 yX1_isMirror, .static yX1_isMirror, .code yX1_isMirror cX1_isMirror 2 (some .boolean)] ++ wsX10)
def wsX1_here : List Cond := .code yX1_here cX1_here 1 (some .int) :: ([.methodLink RX1 47 yX1_town, .instanceMethod yX1_town, .selects RX1 yX1_town yX1_town, .initialized RX1, .code yX1_town cX1_town 6 (some .int), .fieldLink RX1 29 "TicketCoincidencesModel" "people" "I", .methodLink RX1 40 yX1_cornerIn, .instanceMethod yX1_cornerIn, .selects RX1 yX1_cornerIn yX1_cornerIn, .code yX1_cornerIn cX1_cornerIn 3 (some .int), .fieldLink RX1 16 "TicketCoincidencesModel" "corner" "[I", .fieldLink RX1 19 "TicketCoincidencesModel" "walk" "[I", .methodLink RX1 44 yX1_points, .instanceMethod yX1_points, .selects RX1 yX1_points yX1_points, .code yX1_points cX1_points 6 (some .int), .fieldLink RX1 9 "TicketCoincidencesModel" "ticket" "[I", .fieldLink RX1 13 "TicketCoincidencesModel" "colour" "[I", .methodLink RX1 36 yX1_isMirror, .static yX1_isMirror, .code yX1_isMirror cX1_isMirror 2 (some .boolean)] ++ wsX10)
def wsX1_luck : List Cond := .code yX1_luck cX1_luck 4 (some .int) :: ([.fieldLink RX1 29 "TicketCoincidencesModel" "people" "I", .fieldLink RX1 16 "TicketCoincidencesModel" "corner" "[I", .methodLink RX1 44 yX1_points, .instanceMethod yX1_points, .selects RX1 yX1_points yX1_points, .initialized RX1, .code yX1_points cX1_points 6 (some .int), .fieldLink RX1 9 "TicketCoincidencesModel" "ticket" "[I", .fieldLink RX1 13 "TicketCoincidencesModel" "colour" "[I", .methodLink RX1 36 yX1_isMirror, .static yX1_isMirror, .code yX1_isMirror cX1_isMirror 2 (some .boolean)] ++ wsX10)
def wsX1_at : List Cond := .code yX1_at cX1_at 4 (some .int) :: ([.fieldLink RX1 29 "TicketCoincidencesModel" "people" "I", .fieldLink RX1 16 "TicketCoincidencesModel" "corner" "[I"] ++ wsX10)
def wsX1_apart : List Cond := .code yX1_apart cX1_apart 3 (some .int) :: ([.methodLink RX1 50 Lib.Math.abs.name, .static Lib.Math.abs.name, .initialized "java/lang/Math", .code Lib.Math.abs.name Lib.Math.abs.code 1 (some .int), .methodLink RX1 56 Lib.Math.min.name, .static Lib.Math.min.name, .code Lib.Math.min.name Lib.Math.min.code 2 (some .int)])
def wsX1_addStranger : List Cond := .code yX1_addStranger cX1_addStranger 5 (some .int) :: ([.fieldLink RX1 26 "TicketCoincidencesModel" "thrown" "I", .fieldLink RX1 29 "TicketCoincidencesModel" "people" "I", .fieldLink RX1 9 "TicketCoincidencesModel" "ticket" "[I", .fieldLink RX1 13 "TicketCoincidencesModel" "colour" "[I", .fieldLink RX1 16 "TicketCoincidencesModel" "corner" "[I", .fieldLink RX1 19 "TicketCoincidencesModel" "walk" "[I", .methodLink RX1 32 yX1_isIn, .static yX1_isIn, .initialized RX1, .code yX1_isIn cX1_isIn 3 (some .boolean), .methodLink RX1 59 yX1_isCorner, .static yX1_isCorner, .code yX1_isCorner cX1_isCorner 1 (some .boolean), .methodLink RX1 63 yX1_no, .instanceMethod yX1_no, .selects RX1 yX1_no yX1_no, .code yX1_no cX1_no 2 (some .int)] ++ wsX10)
def wsX1_setWalk : List Cond := .code yX1_setWalk cX1_setWalk 4 (some .int) :: ([.fieldLink RX1 26 "TicketCoincidencesModel" "thrown" "I", .fieldLink RX1 19 "TicketCoincidencesModel" "walk" "[I", .methodLink RX1 66 yX1_isOne, .instanceMethod yX1_isOne, .selects RX1 yX1_isOne yX1_isOne, .initialized RX1, .code yX1_isOne cX1_isOne 2 (some .boolean), .fieldLink RX1 29 "TicketCoincidencesModel" "people" "I", .methodLink RX1 32 yX1_isIn, .static yX1_isIn, .code yX1_isIn cX1_isIn 3 (some .boolean), .methodLink RX1 63 yX1_no, .instanceMethod yX1_no, .selects RX1 yX1_no yX1_no, .code yX1_no cX1_no 2 (some .int), .methodLink RX1 59 yX1_isCorner, .static yX1_isCorner, .code yX1_isCorner cX1_isCorner 1 (some .boolean)] ++ wsX10)
def wsX1_pay : List Cond := .code yX1_pay cX1_pay 2 (some .int) :: ([.fieldLink RX1 22 "TicketCoincidencesModel" "store" "I", .fieldLink RX1 69 "TicketCoincidencesModel" "spent" "I"] ++ wsX10)
def wsX1_move_r1 : List Cond := [Cond.fieldLink RX1 26 "TicketCoincidencesModel" "thrown" "I", Cond.fieldLink RX1 16 "TicketCoincidencesModel" "corner" "[I", Cond.fieldLink RX1 22 "TicketCoincidencesModel" "store" "I", Cond.methodLink RX1 66 yX1_isOne, Cond.instanceMethod yX1_isOne, Cond.selects RX1 yX1_isOne yX1_isOne, Cond.initialized RX1, Cond.code yX1_isOne cX1_isOne 2 (some .boolean), Cond.fieldLink RX1 29 "TicketCoincidencesModel" "people" "I", Cond.methodLink RX1 32 yX1_isIn, Cond.static yX1_isIn, Cond.code yX1_isIn cX1_isIn 3 (some .boolean), Cond.methodLink RX1 63 yX1_no, Cond.instanceMethod yX1_no, Cond.selects RX1 yX1_no yX1_no, Cond.code yX1_no cX1_no 2 (some .int), Cond.methodLink RX1 59 yX1_isCorner, Cond.static yX1_isCorner, Cond.code yX1_isCorner cX1_isCorner 1 (some .boolean), Cond.methodLink RX1 72 yX1_apart, Cond.static yX1_apart, Cond.code yX1_apart cX1_apart 3 (some .int), Cond.methodLink RX1 50 Lib.Math.abs.name, Cond.static Lib.Math.abs.name]
def wsX1_move_r2 : List Cond := [Cond.initialized "java/lang/Math", Cond.code Lib.Math.abs.name Lib.Math.abs.code 1 (some .int), Cond.methodLink RX1 56 Lib.Math.min.name, Cond.static Lib.Math.min.name, Cond.code Lib.Math.min.name Lib.Math.min.code 2 (some .int), Cond.methodLink RX1 75 yX1_pay, Cond.instanceMethod yX1_pay, Cond.selects RX1 yX1_pay yX1_pay, Cond.code yX1_pay cX1_pay 2 (some .int), Cond.fieldLink RX1 69 "TicketCoincidencesModel" "spent" "I"]
def wsX1_move : List Cond := .code yX1_move cX1_move 4 (some .int) :: ((wsX1_move_r1 ++ wsX1_move_r2) ++ wsX10)
def wsX1_wrongPair : List Cond := .code yX1_wrongPair cX1_wrongPair 3 (some .int) :: ([.methodLink RX1 66 yX1_isOne, .instanceMethod yX1_isOne, .selects RX1 yX1_isOne yX1_isOne, .initialized RX1, .code yX1_isOne cX1_isOne 2 (some .boolean), .fieldLink RX1 29 "TicketCoincidencesModel" "people" "I", .methodLink RX1 32 yX1_isIn, .static yX1_isIn, .code yX1_isIn cX1_isIn 3 (some .boolean)] ++ wsX10)
def wsX1_swap : List Cond := .code yX1_swap cX1_swap 4 none :: ([])
def wsX1_swapped_r1 : List Cond := [Cond.methodLink RX1 78 yX1_here, Cond.instanceMethod yX1_here, Cond.selects RX1 yX1_here yX1_here, Cond.initialized RX1, Cond.code yX1_here cX1_here 1 (some .int), Cond.methodLink RX1 47 yX1_town, Cond.instanceMethod yX1_town, Cond.selects RX1 yX1_town yX1_town, Cond.code yX1_town cX1_town 6 (some .int), Cond.fieldLink RX1 29 "TicketCoincidencesModel" "people" "I", Cond.methodLink RX1 40 yX1_cornerIn, Cond.instanceMethod yX1_cornerIn, Cond.selects RX1 yX1_cornerIn yX1_cornerIn, Cond.code yX1_cornerIn cX1_cornerIn 3 (some .int), Cond.fieldLink RX1 16 "TicketCoincidencesModel" "corner" "[I", Cond.fieldLink RX1 19 "TicketCoincidencesModel" "walk" "[I", Cond.methodLink RX1 44 yX1_points, Cond.instanceMethod yX1_points, Cond.selects RX1 yX1_points yX1_points, Cond.code yX1_points cX1_points 6 (some .int), Cond.fieldLink RX1 9 "TicketCoincidencesModel" "ticket" "[I", Cond.fieldLink RX1 13 "TicketCoincidencesModel" "colour" "[I", Cond.methodLink RX1 36 yX1_isMirror, Cond.static yX1_isMirror]
def wsX1_swapped_r2 : List Cond := [Cond.code yX1_isMirror cX1_isMirror 2 (some .boolean), Cond.methodLink RX1 82 yX1_swap, Cond.static yX1_swap, Cond.code yX1_swap cX1_swap 4 none]
def wsX1_swapped : List Cond := .code yX1_swapped cX1_swapped 5 (some .int) :: ((wsX1_swapped_r1 ++ wsX1_swapped_r2) ++ wsX10)
def wsX1_swapUmbrellas_r1 : List Cond := [Cond.fieldLink RX1 26 "TicketCoincidencesModel" "thrown" "I", Cond.fieldLink RX1 16 "TicketCoincidencesModel" "corner" "[I", Cond.fieldLink RX1 22 "TicketCoincidencesModel" "store" "I", Cond.fieldLink RX1 13 "TicketCoincidencesModel" "colour" "[I", Cond.methodLink RX1 86 yX1_wrongPair, Cond.instanceMethod yX1_wrongPair, Cond.selects RX1 yX1_wrongPair yX1_wrongPair, Cond.initialized RX1, Cond.code yX1_wrongPair cX1_wrongPair 3 (some .int), Cond.methodLink RX1 66 yX1_isOne, Cond.instanceMethod yX1_isOne, Cond.selects RX1 yX1_isOne yX1_isOne, Cond.code yX1_isOne cX1_isOne 2 (some .boolean), Cond.fieldLink RX1 29 "TicketCoincidencesModel" "people" "I", Cond.methodLink RX1 32 yX1_isIn, Cond.static yX1_isIn, Cond.code yX1_isIn cX1_isIn 3 (some .boolean), Cond.methodLink RX1 63 yX1_no, Cond.instanceMethod yX1_no, Cond.selects RX1 yX1_no yX1_no, Cond.code yX1_no cX1_no 2 (some .int), Cond.methodLink RX1 75 yX1_pay, Cond.instanceMethod yX1_pay, Cond.selects RX1 yX1_pay yX1_pay]
def wsX1_swapUmbrellas_r2 : List Cond := [Cond.code yX1_pay cX1_pay 2 (some .int), Cond.fieldLink RX1 69 "TicketCoincidencesModel" "spent" "I", Cond.methodLink RX1 89 yX1_swapped, Cond.instanceMethod yX1_swapped, Cond.selects RX1 yX1_swapped yX1_swapped, Cond.code yX1_swapped cX1_swapped 5 (some .int), Cond.methodLink RX1 78 yX1_here, Cond.instanceMethod yX1_here, Cond.selects RX1 yX1_here yX1_here, Cond.code yX1_here cX1_here 1 (some .int), Cond.methodLink RX1 47 yX1_town, Cond.instanceMethod yX1_town, Cond.selects RX1 yX1_town yX1_town, Cond.code yX1_town cX1_town 6 (some .int), Cond.methodLink RX1 40 yX1_cornerIn, Cond.instanceMethod yX1_cornerIn, Cond.selects RX1 yX1_cornerIn yX1_cornerIn, Cond.code yX1_cornerIn cX1_cornerIn 3 (some .int), Cond.fieldLink RX1 19 "TicketCoincidencesModel" "walk" "[I", Cond.methodLink RX1 44 yX1_points, Cond.instanceMethod yX1_points, Cond.selects RX1 yX1_points yX1_points, Cond.code yX1_points cX1_points 6 (some .int), Cond.fieldLink RX1 9 "TicketCoincidencesModel" "ticket" "[I"]
def wsX1_swapUmbrellas_r3 : List Cond := [Cond.methodLink RX1 36 yX1_isMirror, Cond.static yX1_isMirror, Cond.code yX1_isMirror cX1_isMirror 2 (some .boolean), Cond.methodLink RX1 82 yX1_swap, Cond.static yX1_swap, Cond.code yX1_swap cX1_swap 4 none]
def wsX1_swapUmbrellas : List Cond := .code yX1_swapUmbrellas cX1_swapUmbrellas 3 (some .int) :: ((wsX1_swapUmbrellas_r1 ++ (wsX1_swapUmbrellas_r2 ++ wsX1_swapUmbrellas_r3)) ++ wsX10)
def wsX1_swapTickets_r1 : List Cond := [Cond.fieldLink RX1 26 "TicketCoincidencesModel" "thrown" "I", Cond.fieldLink RX1 22 "TicketCoincidencesModel" "store" "I", Cond.fieldLink RX1 9 "TicketCoincidencesModel" "ticket" "[I", Cond.methodLink RX1 86 yX1_wrongPair, Cond.instanceMethod yX1_wrongPair, Cond.selects RX1 yX1_wrongPair yX1_wrongPair, Cond.initialized RX1, Cond.code yX1_wrongPair cX1_wrongPair 3 (some .int), Cond.methodLink RX1 66 yX1_isOne, Cond.instanceMethod yX1_isOne, Cond.selects RX1 yX1_isOne yX1_isOne, Cond.code yX1_isOne cX1_isOne 2 (some .boolean), Cond.fieldLink RX1 29 "TicketCoincidencesModel" "people" "I", Cond.methodLink RX1 32 yX1_isIn, Cond.static yX1_isIn, Cond.code yX1_isIn cX1_isIn 3 (some .boolean), Cond.methodLink RX1 63 yX1_no, Cond.instanceMethod yX1_no, Cond.selects RX1 yX1_no yX1_no, Cond.code yX1_no cX1_no 2 (some .int), Cond.methodLink RX1 75 yX1_pay, Cond.instanceMethod yX1_pay, Cond.selects RX1 yX1_pay yX1_pay, Cond.code yX1_pay cX1_pay 2 (some .int)]
def wsX1_swapTickets_r2 : List Cond := [Cond.fieldLink RX1 69 "TicketCoincidencesModel" "spent" "I", Cond.methodLink RX1 89 yX1_swapped, Cond.instanceMethod yX1_swapped, Cond.selects RX1 yX1_swapped yX1_swapped, Cond.code yX1_swapped cX1_swapped 5 (some .int), Cond.methodLink RX1 78 yX1_here, Cond.instanceMethod yX1_here, Cond.selects RX1 yX1_here yX1_here, Cond.code yX1_here cX1_here 1 (some .int), Cond.methodLink RX1 47 yX1_town, Cond.instanceMethod yX1_town, Cond.selects RX1 yX1_town yX1_town, Cond.code yX1_town cX1_town 6 (some .int), Cond.methodLink RX1 40 yX1_cornerIn, Cond.instanceMethod yX1_cornerIn, Cond.selects RX1 yX1_cornerIn yX1_cornerIn, Cond.code yX1_cornerIn cX1_cornerIn 3 (some .int), Cond.fieldLink RX1 16 "TicketCoincidencesModel" "corner" "[I", Cond.fieldLink RX1 19 "TicketCoincidencesModel" "walk" "[I", Cond.methodLink RX1 44 yX1_points, Cond.instanceMethod yX1_points, Cond.selects RX1 yX1_points yX1_points, Cond.code yX1_points cX1_points 6 (some .int), Cond.fieldLink RX1 13 "TicketCoincidencesModel" "colour" "[I"]
def wsX1_swapTickets_r3 : List Cond := [Cond.methodLink RX1 36 yX1_isMirror, Cond.static yX1_isMirror, Cond.code yX1_isMirror cX1_isMirror 2 (some .boolean), Cond.methodLink RX1 82 yX1_swap, Cond.static yX1_swap, Cond.code yX1_swap cX1_swap 4 none]
def wsX1_swapTickets : List Cond := .code yX1_swapTickets cX1_swapTickets 3 (some .int) :: ((wsX1_swapTickets_r1 ++ (wsX1_swapTickets_r2 ++ wsX1_swapTickets_r3)) ++ wsX10)
def wsX1_draw : List Cond := .code yX1_draw cX1_draw 4 (some .int) :: ([.fieldLink RX1 26 "TicketCoincidencesModel" "thrown" "I", .fieldLink RX1 22 "TicketCoincidencesModel" "store" "I", .fieldLink RX1 9 "TicketCoincidencesModel" "ticket" "[I", .methodLink RX1 66 yX1_isOne, .instanceMethod yX1_isOne, .selects RX1 yX1_isOne yX1_isOne, .initialized RX1, .code yX1_isOne cX1_isOne 2 (some .boolean), .fieldLink RX1 29 "TicketCoincidencesModel" "people" "I", .methodLink RX1 32 yX1_isIn, .static yX1_isIn, .code yX1_isIn cX1_isIn 3 (some .boolean), .methodLink RX1 63 yX1_no, .instanceMethod yX1_no, .selects RX1 yX1_no yX1_no, .code yX1_no cX1_no 2 (some .int), .methodLink RX1 75 yX1_pay, .instanceMethod yX1_pay, .selects RX1 yX1_pay yX1_pay, .code yX1_pay cX1_pay 2 (some .int), .fieldLink RX1 69 "TicketCoincidencesModel" "spent" "I"] ++ wsX10)
def wsX1_goOn_r1 : List Cond := [Cond.fieldLink RX1 29 "TicketCoincidencesModel" "people" "I", Cond.fieldLink RX1 16 "TicketCoincidencesModel" "corner" "[I", Cond.fieldLink RX1 93 "TicketCoincidencesModel" "counted" "I", Cond.fieldLink RX1 22 "TicketCoincidencesModel" "store" "I", Cond.fieldLink RX1 99 "TicketCoincidencesModel" "hour" "I", Cond.methodLink RX1 40 yX1_cornerIn, Cond.instanceMethod yX1_cornerIn, Cond.selects RX1 yX1_cornerIn yX1_cornerIn, Cond.initialized RX1, Cond.code yX1_cornerIn cX1_cornerIn 3 (some .int), Cond.fieldLink RX1 19 "TicketCoincidencesModel" "walk" "[I", Cond.methodLink RX1 78 yX1_here, Cond.instanceMethod yX1_here, Cond.selects RX1 yX1_here yX1_here, Cond.code yX1_here cX1_here 1 (some .int), Cond.methodLink RX1 47 yX1_town, Cond.instanceMethod yX1_town, Cond.selects RX1 yX1_town yX1_town, Cond.code yX1_town cX1_town 6 (some .int), Cond.methodLink RX1 44 yX1_points, Cond.instanceMethod yX1_points, Cond.selects RX1 yX1_points yX1_points, Cond.code yX1_points cX1_points 6 (some .int), Cond.fieldLink RX1 9 "TicketCoincidencesModel" "ticket" "[I"]
def wsX1_goOn_r2 : List Cond := [Cond.fieldLink RX1 13 "TicketCoincidencesModel" "colour" "[I", Cond.methodLink RX1 36 yX1_isMirror, Cond.static yX1_isMirror, Cond.code yX1_isMirror cX1_isMirror 2 (some .boolean), Cond.methodLink RX1 96 yX1_at, Cond.instanceMethod yX1_at, Cond.selects RX1 yX1_at yX1_at, Cond.code yX1_at cX1_at 4 (some .int)]
def wsX1_goOn : List Cond := .code yX1_goOn cX1_goOn 2 none :: ((wsX1_goOn_r1 ++ wsX1_goOn_r2) ++ wsX10)
def wsX1_pass_r1 : List Cond := [Cond.fieldLink RX1 26 "TicketCoincidencesModel" "thrown" "I", Cond.fieldLink RX1 93 "TicketCoincidencesModel" "counted" "I", Cond.methodLink RX1 32 yX1_isIn, Cond.static yX1_isIn, Cond.initialized RX1, Cond.code yX1_isIn cX1_isIn 3 (some .boolean), Cond.methodLink RX1 63 yX1_no, Cond.instanceMethod yX1_no, Cond.selects RX1 yX1_no yX1_no, Cond.code yX1_no cX1_no 2 (some .int), Cond.methodLink RX1 102 yX1_goOn, Cond.instanceMethod yX1_goOn, Cond.selects RX1 yX1_goOn yX1_goOn, Cond.code yX1_goOn cX1_goOn 2 none, Cond.fieldLink RX1 29 "TicketCoincidencesModel" "people" "I", Cond.fieldLink RX1 16 "TicketCoincidencesModel" "corner" "[I", Cond.fieldLink RX1 22 "TicketCoincidencesModel" "store" "I", Cond.fieldLink RX1 99 "TicketCoincidencesModel" "hour" "I", Cond.methodLink RX1 40 yX1_cornerIn, Cond.instanceMethod yX1_cornerIn, Cond.selects RX1 yX1_cornerIn yX1_cornerIn, Cond.code yX1_cornerIn cX1_cornerIn 3 (some .int), Cond.fieldLink RX1 19 "TicketCoincidencesModel" "walk" "[I", Cond.methodLink RX1 78 yX1_here]
def wsX1_pass_r2 : List Cond := [Cond.instanceMethod yX1_here, Cond.selects RX1 yX1_here yX1_here, Cond.code yX1_here cX1_here 1 (some .int), Cond.methodLink RX1 47 yX1_town, Cond.instanceMethod yX1_town, Cond.selects RX1 yX1_town yX1_town, Cond.code yX1_town cX1_town 6 (some .int), Cond.methodLink RX1 44 yX1_points, Cond.instanceMethod yX1_points, Cond.selects RX1 yX1_points yX1_points, Cond.code yX1_points cX1_points 6 (some .int), Cond.fieldLink RX1 9 "TicketCoincidencesModel" "ticket" "[I", Cond.fieldLink RX1 13 "TicketCoincidencesModel" "colour" "[I", Cond.methodLink RX1 36 yX1_isMirror, Cond.static yX1_isMirror, Cond.code yX1_isMirror cX1_isMirror 2 (some .boolean), Cond.methodLink RX1 96 yX1_at, Cond.instanceMethod yX1_at, Cond.selects RX1 yX1_at yX1_at, Cond.code yX1_at cX1_at 4 (some .int)]
def wsX1_pass : List Cond := .code yX1_pass cX1_pass 4 (some .int) :: ((wsX1_pass_r1 ++ wsX1_pass_r2) ++ wsX10)
def wsX1_strangers : List Cond := .code yX1_strangers cX1_strangers 1 (some .int) :: ([.fieldLink RX1 29 "TicketCoincidencesModel" "people" "I", .methodLink RX1 105 yX1_ok, .instanceMethod yX1_ok, .selects RX1 yX1_ok yX1_ok, .initialized RX1, .code yX1_ok cX1_ok 2 (some .int), .fieldLink RX1 26 "TicketCoincidencesModel" "thrown" "I"] ++ wsX10)
def wsX1_hour : List Cond := .code yX1_hour cX1_hour 1 (some .int) :: ([.fieldLink RX1 99 "TicketCoincidencesModel" "hour" "I", .methodLink RX1 105 yX1_ok, .instanceMethod yX1_ok, .selects RX1 yX1_ok yX1_ok, .initialized RX1, .code yX1_ok cX1_ok 2 (some .int), .fieldLink RX1 26 "TicketCoincidencesModel" "thrown" "I"] ++ wsX10)
def wsX1_store : List Cond := .code yX1_store cX1_store 1 (some .int) :: ([.fieldLink RX1 22 "TicketCoincidencesModel" "store" "I", .methodLink RX1 105 yX1_ok, .instanceMethod yX1_ok, .selects RX1 yX1_ok yX1_ok, .initialized RX1, .code yX1_ok cX1_ok 2 (some .int), .fieldLink RX1 26 "TicketCoincidencesModel" "thrown" "I"] ++ wsX10)
def wsX1_counted : List Cond := .code yX1_counted cX1_counted 1 (some .int) :: ([.fieldLink RX1 93 "TicketCoincidencesModel" "counted" "I", .methodLink RX1 105 yX1_ok, .instanceMethod yX1_ok, .selects RX1 yX1_ok yX1_ok, .initialized RX1, .code yX1_ok cX1_ok 2 (some .int), .fieldLink RX1 26 "TicketCoincidencesModel" "thrown" "I"] ++ wsX10)
def wsX1_spent : List Cond := .code yX1_spent cX1_spent 1 (some .int) :: ([.fieldLink RX1 69 "TicketCoincidencesModel" "spent" "I", .methodLink RX1 105 yX1_ok, .instanceMethod yX1_ok, .selects RX1 yX1_ok yX1_ok, .initialized RX1, .code yX1_ok cX1_ok 2 (some .int), .fieldLink RX1 26 "TicketCoincidencesModel" "thrown" "I"] ++ wsX10)
def wsX1_of : List Cond := .code yX1_of cX1_of 3 (some .int) :: ([.fieldLink RX1 26 "TicketCoincidencesModel" "thrown" "I", .methodLink RX1 66 yX1_isOne, .instanceMethod yX1_isOne, .selects RX1 yX1_isOne yX1_isOne, .initialized RX1, .code yX1_isOne cX1_isOne 2 (some .boolean), .fieldLink RX1 29 "TicketCoincidencesModel" "people" "I", .methodLink RX1 32 yX1_isIn, .static yX1_isIn, .code yX1_isIn cX1_isIn 3 (some .boolean), .methodLink RX1 63 yX1_no, .instanceMethod yX1_no, .selects RX1 yX1_no yX1_no, .code yX1_no cX1_no 2 (some .int)] ++ wsX10)
def wsX1_ticketOf : List Cond := .code yX1_ticketOf cX1_ticketOf 2 (some .int) :: ([.fieldLink RX1 9 "TicketCoincidencesModel" "ticket" "[I", .methodLink RX1 108 yX1_of, .instanceMethod yX1_of, .selects RX1 yX1_of yX1_of, .initialized RX1, .code yX1_of cX1_of 3 (some .int), .fieldLink RX1 26 "TicketCoincidencesModel" "thrown" "I", .methodLink RX1 66 yX1_isOne, .instanceMethod yX1_isOne, .selects RX1 yX1_isOne yX1_isOne, .code yX1_isOne cX1_isOne 2 (some .boolean), .fieldLink RX1 29 "TicketCoincidencesModel" "people" "I", .methodLink RX1 32 yX1_isIn, .static yX1_isIn, .code yX1_isIn cX1_isIn 3 (some .boolean), .methodLink RX1 63 yX1_no, .instanceMethod yX1_no, .selects RX1 yX1_no yX1_no, .code yX1_no cX1_no 2 (some .int)] ++ wsX10)
def wsX1_colourOf : List Cond := .code yX1_colourOf cX1_colourOf 2 (some .int) :: ([.fieldLink RX1 13 "TicketCoincidencesModel" "colour" "[I", .methodLink RX1 108 yX1_of, .instanceMethod yX1_of, .selects RX1 yX1_of yX1_of, .initialized RX1, .code yX1_of cX1_of 3 (some .int), .fieldLink RX1 26 "TicketCoincidencesModel" "thrown" "I", .methodLink RX1 66 yX1_isOne, .instanceMethod yX1_isOne, .selects RX1 yX1_isOne yX1_isOne, .code yX1_isOne cX1_isOne 2 (some .boolean), .fieldLink RX1 29 "TicketCoincidencesModel" "people" "I", .methodLink RX1 32 yX1_isIn, .static yX1_isIn, .code yX1_isIn cX1_isIn 3 (some .boolean), .methodLink RX1 63 yX1_no, .instanceMethod yX1_no, .selects RX1 yX1_no yX1_no, .code yX1_no cX1_no 2 (some .int)] ++ wsX10)
def wsX1_cornerOf : List Cond := .code yX1_cornerOf cX1_cornerOf 2 (some .int) :: ([.fieldLink RX1 16 "TicketCoincidencesModel" "corner" "[I", .methodLink RX1 108 yX1_of, .instanceMethod yX1_of, .selects RX1 yX1_of yX1_of, .initialized RX1, .code yX1_of cX1_of 3 (some .int), .fieldLink RX1 26 "TicketCoincidencesModel" "thrown" "I", .methodLink RX1 66 yX1_isOne, .instanceMethod yX1_isOne, .selects RX1 yX1_isOne yX1_isOne, .code yX1_isOne cX1_isOne 2 (some .boolean), .fieldLink RX1 29 "TicketCoincidencesModel" "people" "I", .methodLink RX1 32 yX1_isIn, .static yX1_isIn, .code yX1_isIn cX1_isIn 3 (some .boolean), .methodLink RX1 63 yX1_no, .instanceMethod yX1_no, .selects RX1 yX1_no yX1_no, .code yX1_no cX1_no 2 (some .int)] ++ wsX10)
def wsX1_walkOf : List Cond := .code yX1_walkOf cX1_walkOf 2 (some .int) :: ([.fieldLink RX1 19 "TicketCoincidencesModel" "walk" "[I", .methodLink RX1 108 yX1_of, .instanceMethod yX1_of, .selects RX1 yX1_of yX1_of, .initialized RX1, .code yX1_of cX1_of 3 (some .int), .fieldLink RX1 26 "TicketCoincidencesModel" "thrown" "I", .methodLink RX1 66 yX1_isOne, .instanceMethod yX1_isOne, .selects RX1 yX1_isOne yX1_isOne, .code yX1_isOne cX1_isOne 2 (some .boolean), .fieldLink RX1 29 "TicketCoincidencesModel" "people" "I", .methodLink RX1 32 yX1_isIn, .static yX1_isIn, .code yX1_isIn cX1_isIn 3 (some .boolean), .methodLink RX1 63 yX1_no, .instanceMethod yX1_no, .selects RX1 yX1_no yX1_no, .code yX1_no cX1_no 2 (some .int)] ++ wsX10)
def wsX1_peopleAt : List Cond := .code yX1_peopleAt cX1_peopleAt 2 (some .int) :: ([.fieldLink RX1 26 "TicketCoincidencesModel" "thrown" "I", .methodLink RX1 59 yX1_isCorner, .static yX1_isCorner, .initialized RX1, .code yX1_isCorner cX1_isCorner 1 (some .boolean), .methodLink RX1 32 yX1_isIn, .static yX1_isIn, .code yX1_isIn cX1_isIn 3 (some .boolean), .methodLink RX1 96 yX1_at, .instanceMethod yX1_at, .selects RX1 yX1_at yX1_at, .code yX1_at cX1_at 4 (some .int), .fieldLink RX1 29 "TicketCoincidencesModel" "people" "I", .fieldLink RX1 16 "TicketCoincidencesModel" "corner" "[I", .methodLink RX1 63 yX1_no, .instanceMethod yX1_no, .selects RX1 yX1_no yX1_no, .code yX1_no cX1_no 2 (some .int)] ++ wsX10)
def wsX1_pointsOf : List Cond := .code yX1_pointsOf cX1_pointsOf 3 (some .int) :: ([.fieldLink RX1 26 "TicketCoincidencesModel" "thrown" "I", .methodLink RX1 86 yX1_wrongPair, .instanceMethod yX1_wrongPair, .selects RX1 yX1_wrongPair yX1_wrongPair, .initialized RX1, .code yX1_wrongPair cX1_wrongPair 3 (some .int), .methodLink RX1 66 yX1_isOne, .instanceMethod yX1_isOne, .selects RX1 yX1_isOne yX1_isOne, .code yX1_isOne cX1_isOne 2 (some .boolean), .fieldLink RX1 29 "TicketCoincidencesModel" "people" "I", .methodLink RX1 32 yX1_isIn, .static yX1_isIn, .code yX1_isIn cX1_isIn 3 (some .boolean), .methodLink RX1 44 yX1_points, .instanceMethod yX1_points, .selects RX1 yX1_points yX1_points, .code yX1_points cX1_points 6 (some .int), .fieldLink RX1 9 "TicketCoincidencesModel" "ticket" "[I", .fieldLink RX1 13 "TicketCoincidencesModel" "colour" "[I", .methodLink RX1 36 yX1_isMirror, .static yX1_isMirror, .code yX1_isMirror cX1_isMirror 2 (some .boolean)] ++ wsX10)
def wsX1_areTogether : List Cond := .code yX1_areTogether cX1_areTogether 3 (some .boolean) :: ([.fieldLink RX1 26 "TicketCoincidencesModel" "thrown" "I", .fieldLink RX1 16 "TicketCoincidencesModel" "corner" "[I", .methodLink RX1 86 yX1_wrongPair, .instanceMethod yX1_wrongPair, .selects RX1 yX1_wrongPair yX1_wrongPair, .initialized RX1, .code yX1_wrongPair cX1_wrongPair 3 (some .int), .methodLink RX1 66 yX1_isOne, .instanceMethod yX1_isOne, .selects RX1 yX1_isOne yX1_isOne, .code yX1_isOne cX1_isOne 2 (some .boolean), .fieldLink RX1 29 "TicketCoincidencesModel" "people" "I", .methodLink RX1 32 yX1_isIn, .static yX1_isIn, .code yX1_isIn cX1_isIn 3 (some .boolean)] ++ wsX10)
def wsX1_areMirrored : List Cond := .code yX1_areMirrored cX1_areMirrored 3 (some .boolean) :: ([.fieldLink RX1 26 "TicketCoincidencesModel" "thrown" "I", .fieldLink RX1 9 "TicketCoincidencesModel" "ticket" "[I", .methodLink RX1 86 yX1_wrongPair, .instanceMethod yX1_wrongPair, .selects RX1 yX1_wrongPair yX1_wrongPair, .initialized RX1, .code yX1_wrongPair cX1_wrongPair 3 (some .int), .methodLink RX1 66 yX1_isOne, .instanceMethod yX1_isOne, .selects RX1 yX1_isOne yX1_isOne, .code yX1_isOne cX1_isOne 2 (some .boolean), .fieldLink RX1 29 "TicketCoincidencesModel" "people" "I", .methodLink RX1 32 yX1_isIn, .static yX1_isIn, .code yX1_isIn cX1_isIn 3 (some .boolean), .methodLink RX1 36 yX1_isMirror, .static yX1_isMirror, .code yX1_isMirror cX1_isMirror 2 (some .boolean)] ++ wsX10)
def wsX1_coincidences_r1 : List Cond := [Cond.methodLink RX1 78 yX1_here, Cond.instanceMethod yX1_here, Cond.selects RX1 yX1_here yX1_here, Cond.initialized RX1, Cond.code yX1_here cX1_here 1 (some .int), Cond.methodLink RX1 47 yX1_town, Cond.instanceMethod yX1_town, Cond.selects RX1 yX1_town yX1_town, Cond.code yX1_town cX1_town 6 (some .int), Cond.fieldLink RX1 29 "TicketCoincidencesModel" "people" "I", Cond.methodLink RX1 40 yX1_cornerIn, Cond.instanceMethod yX1_cornerIn, Cond.selects RX1 yX1_cornerIn yX1_cornerIn, Cond.code yX1_cornerIn cX1_cornerIn 3 (some .int), Cond.fieldLink RX1 16 "TicketCoincidencesModel" "corner" "[I", Cond.fieldLink RX1 19 "TicketCoincidencesModel" "walk" "[I", Cond.methodLink RX1 44 yX1_points, Cond.instanceMethod yX1_points, Cond.selects RX1 yX1_points yX1_points, Cond.code yX1_points cX1_points 6 (some .int), Cond.fieldLink RX1 9 "TicketCoincidencesModel" "ticket" "[I", Cond.fieldLink RX1 13 "TicketCoincidencesModel" "colour" "[I", Cond.methodLink RX1 36 yX1_isMirror, Cond.static yX1_isMirror]
def wsX1_coincidences_r2 : List Cond := [Cond.code yX1_isMirror cX1_isMirror 2 (some .boolean), Cond.methodLink RX1 105 yX1_ok, Cond.instanceMethod yX1_ok, Cond.selects RX1 yX1_ok yX1_ok, Cond.code yX1_ok cX1_ok 2 (some .int), Cond.fieldLink RX1 26 "TicketCoincidencesModel" "thrown" "I"]
def wsX1_coincidences : List Cond := .code yX1_coincidences cX1_coincidences 1 (some .int) :: ((wsX1_coincidences_r1 ++ wsX1_coincidences_r2) ++ wsX10)
def wsX1_coincidencesAt_r1 : List Cond := [Cond.fieldLink RX1 26 "TicketCoincidencesModel" "thrown" "I", Cond.methodLink RX1 59 yX1_isCorner, Cond.static yX1_isCorner, Cond.initialized RX1, Cond.code yX1_isCorner cX1_isCorner 1 (some .boolean), Cond.methodLink RX1 32 yX1_isIn, Cond.static yX1_isIn, Cond.code yX1_isIn cX1_isIn 3 (some .boolean), Cond.methodLink RX1 47 yX1_town, Cond.instanceMethod yX1_town, Cond.selects RX1 yX1_town yX1_town, Cond.code yX1_town cX1_town 6 (some .int), Cond.fieldLink RX1 29 "TicketCoincidencesModel" "people" "I", Cond.methodLink RX1 40 yX1_cornerIn, Cond.instanceMethod yX1_cornerIn, Cond.selects RX1 yX1_cornerIn yX1_cornerIn, Cond.code yX1_cornerIn cX1_cornerIn 3 (some .int), Cond.fieldLink RX1 16 "TicketCoincidencesModel" "corner" "[I", Cond.fieldLink RX1 19 "TicketCoincidencesModel" "walk" "[I", Cond.methodLink RX1 44 yX1_points, Cond.instanceMethod yX1_points, Cond.selects RX1 yX1_points yX1_points, Cond.code yX1_points cX1_points 6 (some .int), Cond.fieldLink RX1 9 "TicketCoincidencesModel" "ticket" "[I"]
def wsX1_coincidencesAt_r2 : List Cond := [Cond.fieldLink RX1 13 "TicketCoincidencesModel" "colour" "[I", Cond.methodLink RX1 36 yX1_isMirror, Cond.static yX1_isMirror, Cond.code yX1_isMirror cX1_isMirror 2 (some .boolean), Cond.methodLink RX1 63 yX1_no, Cond.instanceMethod yX1_no, Cond.selects RX1 yX1_no yX1_no, Cond.code yX1_no cX1_no 2 (some .int)]
def wsX1_coincidencesAt : List Cond := .code yX1_coincidencesAt cX1_coincidencesAt 2 (some .int) :: ((wsX1_coincidencesAt_r1 ++ wsX1_coincidencesAt_r2) ++ wsX10)
def wsX1_luckOf_r1 : List Cond := [Cond.fieldLink RX1 26 "TicketCoincidencesModel" "thrown" "I", Cond.methodLink RX1 66 yX1_isOne, Cond.instanceMethod yX1_isOne, Cond.selects RX1 yX1_isOne yX1_isOne, Cond.initialized RX1, Cond.code yX1_isOne cX1_isOne 2 (some .boolean), Cond.fieldLink RX1 29 "TicketCoincidencesModel" "people" "I", Cond.methodLink RX1 32 yX1_isIn, Cond.static yX1_isIn, Cond.code yX1_isIn cX1_isIn 3 (some .boolean), Cond.methodLink RX1 112 yX1_luck, Cond.instanceMethod yX1_luck, Cond.selects RX1 yX1_luck yX1_luck, Cond.code yX1_luck cX1_luck 4 (some .int), Cond.fieldLink RX1 16 "TicketCoincidencesModel" "corner" "[I", Cond.methodLink RX1 44 yX1_points, Cond.instanceMethod yX1_points, Cond.selects RX1 yX1_points yX1_points, Cond.code yX1_points cX1_points 6 (some .int), Cond.fieldLink RX1 9 "TicketCoincidencesModel" "ticket" "[I", Cond.fieldLink RX1 13 "TicketCoincidencesModel" "colour" "[I", Cond.methodLink RX1 36 yX1_isMirror, Cond.static yX1_isMirror, Cond.code yX1_isMirror cX1_isMirror 2 (some .boolean)]
def wsX1_luckOf_r2 : List Cond := [Cond.methodLink RX1 63 yX1_no, Cond.instanceMethod yX1_no, Cond.selects RX1 yX1_no yX1_no, Cond.code yX1_no cX1_no 2 (some .int)]
def wsX1_luckOf : List Cond := .code yX1_luckOf cX1_luckOf 2 (some .int) :: ((wsX1_luckOf_r1 ++ wsX1_luckOf_r2) ++ wsX10)
def wsX1_luckiest : List Cond := .code yX1_luckiest cX1_luckiest 5 (some .int) :: ([.fieldLink RX1 29 "TicketCoincidencesModel" "people" "I", .methodLink RX1 44 yX1_points, .instanceMethod yX1_points, .selects RX1 yX1_points yX1_points, .initialized RX1, .code yX1_points cX1_points 6 (some .int), .fieldLink RX1 9 "TicketCoincidencesModel" "ticket" "[I", .fieldLink RX1 13 "TicketCoincidencesModel" "colour" "[I", .methodLink RX1 36 yX1_isMirror, .static yX1_isMirror, .code yX1_isMirror cX1_isMirror 2 (some .boolean)] ++ wsX10)
def wsX1_luckiestPair : List Cond := .code yX1_luckiestPair cX1_luckiestPair 1 (some .int) :: ([.methodLink RX1 115 yX1_luckiest, .instanceMethod yX1_luckiest, .selects RX1 yX1_luckiest yX1_luckiest, .initialized RX1, .code yX1_luckiest cX1_luckiest 5 (some .int), .fieldLink RX1 29 "TicketCoincidencesModel" "people" "I", .methodLink RX1 44 yX1_points, .instanceMethod yX1_points, .selects RX1 yX1_points yX1_points, .code yX1_points cX1_points 6 (some .int), .fieldLink RX1 9 "TicketCoincidencesModel" "ticket" "[I", .fieldLink RX1 13 "TicketCoincidencesModel" "colour" "[I", .methodLink RX1 36 yX1_isMirror, .static yX1_isMirror, .code yX1_isMirror cX1_isMirror 2 (some .boolean), .methodLink RX1 105 yX1_ok, .instanceMethod yX1_ok, .selects RX1 yX1_ok yX1_ok, .code yX1_ok cX1_ok 2 (some .int), .fieldLink RX1 26 "TicketCoincidencesModel" "thrown" "I"] ++ wsX10)
def wsX1_coincidencesIn_r1 : List Cond := [Cond.fieldLink RX1 26 "TicketCoincidencesModel" "thrown" "I", Cond.methodLink RX1 32 yX1_isIn, Cond.static yX1_isIn, Cond.initialized RX1, Cond.code yX1_isIn cX1_isIn 3 (some .boolean), Cond.methodLink RX1 47 yX1_town, Cond.instanceMethod yX1_town, Cond.selects RX1 yX1_town yX1_town, Cond.code yX1_town cX1_town 6 (some .int), Cond.fieldLink RX1 29 "TicketCoincidencesModel" "people" "I", Cond.methodLink RX1 40 yX1_cornerIn, Cond.instanceMethod yX1_cornerIn, Cond.selects RX1 yX1_cornerIn yX1_cornerIn, Cond.code yX1_cornerIn cX1_cornerIn 3 (some .int), Cond.fieldLink RX1 16 "TicketCoincidencesModel" "corner" "[I", Cond.fieldLink RX1 19 "TicketCoincidencesModel" "walk" "[I", Cond.methodLink RX1 44 yX1_points, Cond.instanceMethod yX1_points, Cond.selects RX1 yX1_points yX1_points, Cond.code yX1_points cX1_points 6 (some .int), Cond.fieldLink RX1 9 "TicketCoincidencesModel" "ticket" "[I", Cond.fieldLink RX1 13 "TicketCoincidencesModel" "colour" "[I", Cond.methodLink RX1 36 yX1_isMirror, Cond.static yX1_isMirror]
def wsX1_coincidencesIn_r2 : List Cond := [Cond.code yX1_isMirror cX1_isMirror 2 (some .boolean), Cond.methodLink RX1 63 yX1_no, Cond.instanceMethod yX1_no, Cond.selects RX1 yX1_no yX1_no, Cond.code yX1_no cX1_no 2 (some .int)]
def wsX1_coincidencesIn : List Cond := .code yX1_coincidencesIn cX1_coincidencesIn 2 (some .int) :: ((wsX1_coincidencesIn_r1 ++ wsX1_coincidencesIn_r2) ++ wsX10)
def wsX1_untilTogether : List Cond := .code yX1_untilTogether cX1_untilTogether 4 (some .int) :: ([.methodLink RX1 40 yX1_cornerIn, .instanceMethod yX1_cornerIn, .selects RX1 yX1_cornerIn yX1_cornerIn, .initialized RX1, .code yX1_cornerIn cX1_cornerIn 3 (some .int), .fieldLink RX1 16 "TicketCoincidencesModel" "corner" "[I", .fieldLink RX1 19 "TicketCoincidencesModel" "walk" "[I"] ++ wsX10)
def wsX1_hoursUntilTogether : List Cond := .code yX1_hoursUntilTogether cX1_hoursUntilTogether 3 (some .int) :: ([.fieldLink RX1 26 "TicketCoincidencesModel" "thrown" "I", .methodLink RX1 86 yX1_wrongPair, .instanceMethod yX1_wrongPair, .selects RX1 yX1_wrongPair yX1_wrongPair, .initialized RX1, .code yX1_wrongPair cX1_wrongPair 3 (some .int), .methodLink RX1 66 yX1_isOne, .instanceMethod yX1_isOne, .selects RX1 yX1_isOne yX1_isOne, .code yX1_isOne cX1_isOne 2 (some .boolean), .fieldLink RX1 29 "TicketCoincidencesModel" "people" "I", .methodLink RX1 32 yX1_isIn, .static yX1_isIn, .code yX1_isIn cX1_isIn 3 (some .boolean), .methodLink RX1 118 yX1_untilTogether, .instanceMethod yX1_untilTogether, .selects RX1 yX1_untilTogether yX1_untilTogether, .code yX1_untilTogether cX1_untilTogether 4 (some .int), .methodLink RX1 40 yX1_cornerIn, .instanceMethod yX1_cornerIn, .selects RX1 yX1_cornerIn yX1_cornerIn, .code yX1_cornerIn cX1_cornerIn 3 (some .int), .fieldLink RX1 16 "TicketCoincidencesModel" "corner" "[I", .fieldLink RX1 19 "TicketCoincidencesModel" "walk" "[I"] ++ wsX10)
def wsX1_costOfMeeting_r1 : List Cond := [Cond.fieldLink RX1 26 "TicketCoincidencesModel" "thrown" "I", Cond.fieldLink RX1 16 "TicketCoincidencesModel" "corner" "[I", Cond.methodLink RX1 86 yX1_wrongPair, Cond.instanceMethod yX1_wrongPair, Cond.selects RX1 yX1_wrongPair yX1_wrongPair, Cond.initialized RX1, Cond.code yX1_wrongPair cX1_wrongPair 3 (some .int), Cond.methodLink RX1 66 yX1_isOne, Cond.instanceMethod yX1_isOne, Cond.selects RX1 yX1_isOne yX1_isOne, Cond.code yX1_isOne cX1_isOne 2 (some .boolean), Cond.fieldLink RX1 29 "TicketCoincidencesModel" "people" "I", Cond.methodLink RX1 32 yX1_isIn, Cond.static yX1_isIn, Cond.code yX1_isIn cX1_isIn 3 (some .boolean), Cond.methodLink RX1 72 yX1_apart, Cond.static yX1_apart, Cond.code yX1_apart cX1_apart 3 (some .int), Cond.methodLink RX1 50 Lib.Math.abs.name, Cond.static Lib.Math.abs.name, Cond.initialized "java/lang/Math", Cond.code Lib.Math.abs.name Lib.Math.abs.code 1 (some .int), Cond.methodLink RX1 56 Lib.Math.min.name, Cond.static Lib.Math.min.name]
def wsX1_costOfMeeting_r2 : List Cond := [Cond.code Lib.Math.min.name Lib.Math.min.code 2 (some .int)]
def wsX1_costOfMeeting : List Cond := .code yX1_costOfMeeting cX1_costOfMeeting 3 (some .int) :: ((wsX1_costOfMeeting_r1 ++ wsX1_costOfMeeting_r2) ++ wsX10)
def wsX1_hourOfMost : List Cond := .code yX1_hourOfMost cX1_hourOfMost 3 (some .int) :: ([.methodLink RX1 47 yX1_town, .instanceMethod yX1_town, .selects RX1 yX1_town yX1_town, .initialized RX1, .code yX1_town cX1_town 6 (some .int), .fieldLink RX1 29 "TicketCoincidencesModel" "people" "I", .methodLink RX1 40 yX1_cornerIn, .instanceMethod yX1_cornerIn, .selects RX1 yX1_cornerIn yX1_cornerIn, .code yX1_cornerIn cX1_cornerIn 3 (some .int), .fieldLink RX1 16 "TicketCoincidencesModel" "corner" "[I", .fieldLink RX1 19 "TicketCoincidencesModel" "walk" "[I", .methodLink RX1 44 yX1_points, .instanceMethod yX1_points, .selects RX1 yX1_points yX1_points, .code yX1_points cX1_points 6 (some .int), .fieldLink RX1 9 "TicketCoincidencesModel" "ticket" "[I", .fieldLink RX1 13 "TicketCoincidencesModel" "colour" "[I", .methodLink RX1 36 yX1_isMirror, .static yX1_isMirror, .code yX1_isMirror cX1_isMirror 2 (some .boolean)] ++ wsX10)
def wsX1_bestHour_r1 : List Cond := [Cond.methodLink RX1 121 yX1_hourOfMost, Cond.instanceMethod yX1_hourOfMost, Cond.selects RX1 yX1_hourOfMost yX1_hourOfMost, Cond.initialized RX1, Cond.code yX1_hourOfMost cX1_hourOfMost 3 (some .int), Cond.methodLink RX1 47 yX1_town, Cond.instanceMethod yX1_town, Cond.selects RX1 yX1_town yX1_town, Cond.code yX1_town cX1_town 6 (some .int), Cond.fieldLink RX1 29 "TicketCoincidencesModel" "people" "I", Cond.methodLink RX1 40 yX1_cornerIn, Cond.instanceMethod yX1_cornerIn, Cond.selects RX1 yX1_cornerIn yX1_cornerIn, Cond.code yX1_cornerIn cX1_cornerIn 3 (some .int), Cond.fieldLink RX1 16 "TicketCoincidencesModel" "corner" "[I", Cond.fieldLink RX1 19 "TicketCoincidencesModel" "walk" "[I", Cond.methodLink RX1 44 yX1_points, Cond.instanceMethod yX1_points, Cond.selects RX1 yX1_points yX1_points, Cond.code yX1_points cX1_points 6 (some .int), Cond.fieldLink RX1 9 "TicketCoincidencesModel" "ticket" "[I", Cond.fieldLink RX1 13 "TicketCoincidencesModel" "colour" "[I", Cond.methodLink RX1 36 yX1_isMirror, Cond.static yX1_isMirror]
def wsX1_bestHour_r2 : List Cond := [Cond.code yX1_isMirror cX1_isMirror 2 (some .boolean), Cond.methodLink RX1 105 yX1_ok, Cond.instanceMethod yX1_ok, Cond.selects RX1 yX1_ok yX1_ok, Cond.code yX1_ok cX1_ok 2 (some .int), Cond.fieldLink RX1 26 "TicketCoincidencesModel" "thrown" "I"]
def wsX1_bestHour : List Cond := .code yX1_bestHour cX1_bestHour 1 (some .int) :: ((wsX1_bestHour_r1 ++ wsX1_bestHour_r2) ++ wsX10)
def wsX1_bestOf_r1 : List Cond := [Cond.methodLink RX1 78 yX1_here, Cond.instanceMethod yX1_here, Cond.selects RX1 yX1_here yX1_here, Cond.initialized RX1, Cond.code yX1_here cX1_here 1 (some .int), Cond.methodLink RX1 47 yX1_town, Cond.instanceMethod yX1_town, Cond.selects RX1 yX1_town yX1_town, Cond.code yX1_town cX1_town 6 (some .int), Cond.fieldLink RX1 29 "TicketCoincidencesModel" "people" "I", Cond.methodLink RX1 40 yX1_cornerIn, Cond.instanceMethod yX1_cornerIn, Cond.selects RX1 yX1_cornerIn yX1_cornerIn, Cond.code yX1_cornerIn cX1_cornerIn 3 (some .int), Cond.fieldLink RX1 16 "TicketCoincidencesModel" "corner" "[I", Cond.fieldLink RX1 19 "TicketCoincidencesModel" "walk" "[I", Cond.methodLink RX1 44 yX1_points, Cond.instanceMethod yX1_points, Cond.selects RX1 yX1_points yX1_points, Cond.code yX1_points cX1_points 6 (some .int), Cond.fieldLink RX1 9 "TicketCoincidencesModel" "ticket" "[I", Cond.fieldLink RX1 13 "TicketCoincidencesModel" "colour" "[I", Cond.methodLink RX1 36 yX1_isMirror, Cond.static yX1_isMirror]
def wsX1_bestOf_r2 : List Cond := [Cond.code yX1_isMirror cX1_isMirror 2 (some .boolean)]
def wsX1_bestOf : List Cond := .code yX1_bestOf cX1_bestOf 9 (some .int) :: ((wsX1_bestOf_r1 ++ wsX1_bestOf_r2) ++ wsX10)
def wsX1_bestCorner_r1 : List Cond := [Cond.fieldLink RX1 26 "TicketCoincidencesModel" "thrown" "I", Cond.fieldLink RX1 16 "TicketCoincidencesModel" "corner" "[I", Cond.methodLink RX1 66 yX1_isOne, Cond.instanceMethod yX1_isOne, Cond.selects RX1 yX1_isOne yX1_isOne, Cond.initialized RX1, Cond.code yX1_isOne cX1_isOne 2 (some .boolean), Cond.fieldLink RX1 29 "TicketCoincidencesModel" "people" "I", Cond.methodLink RX1 32 yX1_isIn, Cond.static yX1_isIn, Cond.code yX1_isIn cX1_isIn 3 (some .boolean), Cond.methodLink RX1 124 yX1_bestOf, Cond.instanceMethod yX1_bestOf, Cond.selects RX1 yX1_bestOf yX1_bestOf, Cond.code yX1_bestOf cX1_bestOf 9 (some .int), Cond.methodLink RX1 78 yX1_here, Cond.instanceMethod yX1_here, Cond.selects RX1 yX1_here yX1_here, Cond.code yX1_here cX1_here 1 (some .int), Cond.methodLink RX1 47 yX1_town, Cond.instanceMethod yX1_town, Cond.selects RX1 yX1_town yX1_town, Cond.code yX1_town cX1_town 6 (some .int), Cond.methodLink RX1 40 yX1_cornerIn]
def wsX1_bestCorner_r2 : List Cond := [Cond.instanceMethod yX1_cornerIn, Cond.selects RX1 yX1_cornerIn yX1_cornerIn, Cond.code yX1_cornerIn cX1_cornerIn 3 (some .int), Cond.fieldLink RX1 19 "TicketCoincidencesModel" "walk" "[I", Cond.methodLink RX1 44 yX1_points, Cond.instanceMethod yX1_points, Cond.selects RX1 yX1_points yX1_points, Cond.code yX1_points cX1_points 6 (some .int), Cond.fieldLink RX1 9 "TicketCoincidencesModel" "ticket" "[I", Cond.fieldLink RX1 13 "TicketCoincidencesModel" "colour" "[I", Cond.methodLink RX1 36 yX1_isMirror, Cond.static yX1_isMirror, Cond.code yX1_isMirror cX1_isMirror 2 (some .boolean), Cond.methodLink RX1 63 yX1_no, Cond.instanceMethod yX1_no, Cond.selects RX1 yX1_no yX1_no, Cond.code yX1_no cX1_no 2 (some .int)]
def wsX1_bestCorner : List Cond := .code yX1_bestCorner cX1_bestCorner 2 (some .int) :: ((wsX1_bestCorner_r1 ++ wsX1_bestCorner_r2) ++ wsX10)
def wsX1_swapOfMost_r1 : List Cond := [Cond.fieldLink RX1 29 "TicketCoincidencesModel" "people" "I", Cond.fieldLink RX1 9 "TicketCoincidencesModel" "ticket" "[I", Cond.methodLink RX1 78 yX1_here, Cond.instanceMethod yX1_here, Cond.selects RX1 yX1_here yX1_here, Cond.initialized RX1, Cond.code yX1_here cX1_here 1 (some .int), Cond.methodLink RX1 47 yX1_town, Cond.instanceMethod yX1_town, Cond.selects RX1 yX1_town yX1_town, Cond.code yX1_town cX1_town 6 (some .int), Cond.methodLink RX1 40 yX1_cornerIn, Cond.instanceMethod yX1_cornerIn, Cond.selects RX1 yX1_cornerIn yX1_cornerIn, Cond.code yX1_cornerIn cX1_cornerIn 3 (some .int), Cond.fieldLink RX1 16 "TicketCoincidencesModel" "corner" "[I", Cond.fieldLink RX1 19 "TicketCoincidencesModel" "walk" "[I", Cond.methodLink RX1 44 yX1_points, Cond.instanceMethod yX1_points, Cond.selects RX1 yX1_points yX1_points, Cond.code yX1_points cX1_points 6 (some .int), Cond.fieldLink RX1 13 "TicketCoincidencesModel" "colour" "[I", Cond.methodLink RX1 36 yX1_isMirror, Cond.static yX1_isMirror]
def wsX1_swapOfMost_r2 : List Cond := [Cond.code yX1_isMirror cX1_isMirror 2 (some .boolean), Cond.methodLink RX1 82 yX1_swap, Cond.static yX1_swap, Cond.code yX1_swap cX1_swap 4 none]
def wsX1_swapOfMost : List Cond := .code yX1_swapOfMost cX1_swapOfMost 6 (some .int) :: ((wsX1_swapOfMost_r1 ++ wsX1_swapOfMost_r2) ++ wsX10)
def wsX1_bestSwap_r1 : List Cond := [Cond.methodLink RX1 127 yX1_swapOfMost, Cond.instanceMethod yX1_swapOfMost, Cond.selects RX1 yX1_swapOfMost yX1_swapOfMost, Cond.initialized RX1, Cond.code yX1_swapOfMost cX1_swapOfMost 6 (some .int), Cond.fieldLink RX1 29 "TicketCoincidencesModel" "people" "I", Cond.fieldLink RX1 9 "TicketCoincidencesModel" "ticket" "[I", Cond.methodLink RX1 78 yX1_here, Cond.instanceMethod yX1_here, Cond.selects RX1 yX1_here yX1_here, Cond.code yX1_here cX1_here 1 (some .int), Cond.methodLink RX1 47 yX1_town, Cond.instanceMethod yX1_town, Cond.selects RX1 yX1_town yX1_town, Cond.code yX1_town cX1_town 6 (some .int), Cond.methodLink RX1 40 yX1_cornerIn, Cond.instanceMethod yX1_cornerIn, Cond.selects RX1 yX1_cornerIn yX1_cornerIn, Cond.code yX1_cornerIn cX1_cornerIn 3 (some .int), Cond.fieldLink RX1 16 "TicketCoincidencesModel" "corner" "[I", Cond.fieldLink RX1 19 "TicketCoincidencesModel" "walk" "[I", Cond.methodLink RX1 44 yX1_points, Cond.instanceMethod yX1_points, Cond.selects RX1 yX1_points yX1_points]
def wsX1_bestSwap_r2 : List Cond := [Cond.code yX1_points cX1_points 6 (some .int), Cond.fieldLink RX1 13 "TicketCoincidencesModel" "colour" "[I", Cond.methodLink RX1 36 yX1_isMirror, Cond.static yX1_isMirror, Cond.code yX1_isMirror cX1_isMirror 2 (some .boolean), Cond.methodLink RX1 82 yX1_swap, Cond.static yX1_swap, Cond.code yX1_swap cX1_swap 4 none, Cond.methodLink RX1 105 yX1_ok, Cond.instanceMethod yX1_ok, Cond.selects RX1 yX1_ok yX1_ok, Cond.code yX1_ok cX1_ok 2 (some .int), Cond.fieldLink RX1 26 "TicketCoincidencesModel" "thrown" "I"]
def wsX1_bestSwap : List Cond := .code yX1_bestSwap cX1_bestSwap 1 (some .int) :: ((wsX1_bestSwap_r1 ++ wsX1_bestSwap_r2) ++ wsX10)
def wsX1_bestTicket_r1 : List Cond := [Cond.fieldLink RX1 26 "TicketCoincidencesModel" "thrown" "I", Cond.fieldLink RX1 9 "TicketCoincidencesModel" "ticket" "[I", Cond.methodLink RX1 66 yX1_isOne, Cond.instanceMethod yX1_isOne, Cond.selects RX1 yX1_isOne yX1_isOne, Cond.initialized RX1, Cond.code yX1_isOne cX1_isOne 2 (some .boolean), Cond.fieldLink RX1 29 "TicketCoincidencesModel" "people" "I", Cond.methodLink RX1 32 yX1_isIn, Cond.static yX1_isIn, Cond.code yX1_isIn cX1_isIn 3 (some .boolean), Cond.methodLink RX1 124 yX1_bestOf, Cond.instanceMethod yX1_bestOf, Cond.selects RX1 yX1_bestOf yX1_bestOf, Cond.code yX1_bestOf cX1_bestOf 9 (some .int), Cond.methodLink RX1 78 yX1_here, Cond.instanceMethod yX1_here, Cond.selects RX1 yX1_here yX1_here, Cond.code yX1_here cX1_here 1 (some .int), Cond.methodLink RX1 47 yX1_town, Cond.instanceMethod yX1_town, Cond.selects RX1 yX1_town yX1_town, Cond.code yX1_town cX1_town 6 (some .int), Cond.methodLink RX1 40 yX1_cornerIn]
def wsX1_bestTicket_r2 : List Cond := [Cond.instanceMethod yX1_cornerIn, Cond.selects RX1 yX1_cornerIn yX1_cornerIn, Cond.code yX1_cornerIn cX1_cornerIn 3 (some .int), Cond.fieldLink RX1 16 "TicketCoincidencesModel" "corner" "[I", Cond.fieldLink RX1 19 "TicketCoincidencesModel" "walk" "[I", Cond.methodLink RX1 44 yX1_points, Cond.instanceMethod yX1_points, Cond.selects RX1 yX1_points yX1_points, Cond.code yX1_points cX1_points 6 (some .int), Cond.fieldLink RX1 13 "TicketCoincidencesModel" "colour" "[I", Cond.methodLink RX1 36 yX1_isMirror, Cond.static yX1_isMirror, Cond.code yX1_isMirror cX1_isMirror 2 (some .boolean), Cond.methodLink RX1 63 yX1_no, Cond.instanceMethod yX1_no, Cond.selects RX1 yX1_no yX1_no, Cond.code yX1_no cX1_no 2 (some .int)]
def wsX1_bestTicket : List Cond := .code yX1_bestTicket cX1_bestTicket 2 (some .int) :: ((wsX1_bestTicket_r1 ++ wsX1_bestTicket_r2) ++ wsX10)
def wsX1_meanLuck_r1 : List Cond := [Cond.fieldLink RX1 26 "TicketCoincidencesModel" "thrown" "I", Cond.fieldLink RX1 29 "TicketCoincidencesModel" "people" "I", Cond.methodLink RX1 78 yX1_here, Cond.instanceMethod yX1_here, Cond.selects RX1 yX1_here yX1_here, Cond.initialized RX1, Cond.code yX1_here cX1_here 1 (some .int), Cond.methodLink RX1 47 yX1_town, Cond.instanceMethod yX1_town, Cond.selects RX1 yX1_town yX1_town, Cond.code yX1_town cX1_town 6 (some .int), Cond.methodLink RX1 40 yX1_cornerIn, Cond.instanceMethod yX1_cornerIn, Cond.selects RX1 yX1_cornerIn yX1_cornerIn, Cond.code yX1_cornerIn cX1_cornerIn 3 (some .int), Cond.fieldLink RX1 16 "TicketCoincidencesModel" "corner" "[I", Cond.fieldLink RX1 19 "TicketCoincidencesModel" "walk" "[I", Cond.methodLink RX1 44 yX1_points, Cond.instanceMethod yX1_points, Cond.selects RX1 yX1_points yX1_points, Cond.code yX1_points cX1_points 6 (some .int), Cond.fieldLink RX1 9 "TicketCoincidencesModel" "ticket" "[I", Cond.fieldLink RX1 13 "TicketCoincidencesModel" "colour" "[I", Cond.methodLink RX1 36 yX1_isMirror]
def wsX1_meanLuck_r2 : List Cond := [Cond.static yX1_isMirror, Cond.code yX1_isMirror cX1_isMirror 2 (some .boolean)]
def wsX1_meanLuck : List Cond := .code yX1_meanLuck cX1_meanLuck 1 (some .double) :: ((wsX1_meanLuck_r1 ++ wsX1_meanLuck_r2) ++ wsX10)
def wsX1_digest_r1 : List Cond := [Cond.fieldLink RX1 26 "TicketCoincidencesModel" "thrown" "I", Cond.arrayClass .int, Cond.fieldLink RX1 29 "TicketCoincidencesModel" "people" "I", Cond.fieldLink RX1 99 "TicketCoincidencesModel" "hour" "I", Cond.fieldLink RX1 22 "TicketCoincidencesModel" "store" "I", Cond.fieldLink RX1 93 "TicketCoincidencesModel" "counted" "I", Cond.fieldLink RX1 69 "TicketCoincidencesModel" "spent" "I", Cond.constantLong RX1 130 (1979), Cond.constantLong RX1 132 (31), Cond.fieldLink RX1 9 "TicketCoincidencesModel" "ticket" "[I", Cond.fieldLink RX1 13 "TicketCoincidencesModel" "colour" "[I", Cond.fieldLink RX1 16 "TicketCoincidencesModel" "corner" "[I", Cond.fieldLink RX1 19 "TicketCoincidencesModel" "walk" "[I", Cond.methodLink RX1 78 yX1_here, Cond.instanceMethod yX1_here, Cond.selects RX1 yX1_here yX1_here, Cond.initialized RX1, Cond.code yX1_here cX1_here 1 (some .int), Cond.methodLink RX1 47 yX1_town, Cond.instanceMethod yX1_town, Cond.selects RX1 yX1_town yX1_town, Cond.code yX1_town cX1_town 6 (some .int), Cond.methodLink RX1 40 yX1_cornerIn, Cond.instanceMethod yX1_cornerIn]
def wsX1_digest_r2 : List Cond := [Cond.selects RX1 yX1_cornerIn yX1_cornerIn, Cond.code yX1_cornerIn cX1_cornerIn 3 (some .int), Cond.methodLink RX1 44 yX1_points, Cond.instanceMethod yX1_points, Cond.selects RX1 yX1_points yX1_points, Cond.code yX1_points cX1_points 6 (some .int), Cond.methodLink RX1 36 yX1_isMirror, Cond.static yX1_isMirror, Cond.code yX1_isMirror cX1_isMirror 2 (some .boolean), Cond.methodLink RX1 115 yX1_luckiest, Cond.instanceMethod yX1_luckiest, Cond.selects RX1 yX1_luckiest yX1_luckiest, Cond.code yX1_luckiest cX1_luckiest 5 (some .int), Cond.methodLink RX1 121 yX1_hourOfMost, Cond.instanceMethod yX1_hourOfMost, Cond.selects RX1 yX1_hourOfMost yX1_hourOfMost, Cond.code yX1_hourOfMost cX1_hourOfMost 3 (some .int), Cond.methodLink RX1 127 yX1_swapOfMost, Cond.instanceMethod yX1_swapOfMost, Cond.selects RX1 yX1_swapOfMost yX1_swapOfMost, Cond.code yX1_swapOfMost cX1_swapOfMost 6 (some .int), Cond.methodLink RX1 82 yX1_swap, Cond.static yX1_swap, Cond.code yX1_swap cX1_swap 4 none]
def wsX1_digest_r3 : List Cond := [Cond.methodLink RX1 96 yX1_at, Cond.instanceMethod yX1_at, Cond.selects RX1 yX1_at yX1_at, Cond.code yX1_at cX1_at 4 (some .int), Cond.methodLink RX1 112 yX1_luck, Cond.instanceMethod yX1_luck, Cond.selects RX1 yX1_luck yX1_luck, Cond.code yX1_luck cX1_luck 4 (some .int), Cond.methodLink RX1 124 yX1_bestOf, Cond.instanceMethod yX1_bestOf, Cond.selects RX1 yX1_bestOf yX1_bestOf, Cond.code yX1_bestOf cX1_bestOf 9 (some .int)]
def wsX1_digest : List Cond := .code yX1_digest cX1_digest 8 (some .long) :: ((wsX1_digest_r1 ++ (wsX1_digest_r2 ++ wsX1_digest_r3)) ++ wsX10)
def wsJ9_abs_0f7a4 : List Cond := .code yJ9_abs_0f7a4 cJ9_abs_0f7a4 1 (some .int) :: ([])
def wsJ9_min_7cf53 : List Cond := .code yJ9_min_7cf53 cJ9_min_7cf53 2 (some .int) :: ([])
def wsL_addStranger_r1 : List Cond := [Cond.classLink RL 13 "java/lang/IllegalArgumentException", Cond.classLink RL 15 "java/lang/IllegalStateException", Cond.methodLink RL 7 yX0_addStranger, Cond.instanceMethod yX0_addStranger, Cond.selects RX0 yX0_addStranger yX0_addStranger, Cond.initialized RX0, Cond.code yX0_addStranger cX0_addStranger 6 (some .int), Cond.classLink RX0 51 "java/lang/IllegalArgumentException", Cond.initialized "java/lang/IllegalArgumentException", Cond.classLink RX0 58 "java/lang/IllegalStateException", Cond.initialized "java/lang/IllegalStateException", Cond.fieldLink RX0 22 "TicketCoincidences" "people" "I", Cond.fieldLink RX0 9 "TicketCoincidences" "tickets" "[I", Cond.fieldLink RX0 13 "TicketCoincidences" "colours" "[I", Cond.fieldLink RX0 16 "TicketCoincidences" "corners" "[I", Cond.fieldLink RX0 19 "TicketCoincidences" "walks" "[I", Cond.methodLink RX0 38 yX0_isTicket, Cond.static yX0_isTicket, Cond.code yX0_isTicket cX0_isTicket 1 (some .boolean), Cond.methodLink RX0 42 yX0_isColour, Cond.static yX0_isColour, Cond.code yX0_isColour cX0_isColour 1 (some .boolean), Cond.methodLink RX0 45 yX0_isCorner, Cond.static yX0_isCorner]
def wsL_addStranger_r2 : List Cond := [Cond.code yX0_isCorner cX0_isCorner 1 (some .boolean), Cond.methodLink RX0 48 yX0_isWalk, Cond.static yX0_isWalk, Cond.code yX0_isWalk cX0_isWalk 1 (some .boolean)]
def wsL_addStranger : List Cond := .codeWith yL_addStranger cL_addStranger 7 (some .int) [(0, 14, 17, 13), (0, 14, 21, 15)] :: ((wsL_addStranger_r1 ++ wsL_addStranger_r2) ++ wsX00 ++ (vx_atS RX0 55 "java/lang/IllegalArgumentException" ["java/lang/RuntimeException", "java/lang/Exception"]).filter goodWord ++ (vx_atS RX0 62 "java/lang/IllegalStateException" ["java/lang/RuntimeException", "java/lang/Exception"]).filter goodWord)
def wsL_setWalk : List Cond := .codeWith yL_setWalk cL_setWalk 5 (some .int) [(0, 10, 13, 21), (0, 10, 17, 13)] :: ([.classLink RL 21 "java/lang/IndexOutOfBoundsException", .classLink RL 13 "java/lang/IllegalArgumentException", .methodLink RL 17 yX0_setWalk, .instanceMethod yX0_setWalk, .selects RX0 yX0_setWalk yX0_setWalk, .initialized RX0, .code yX0_setWalk cX0_setWalk 4 (some .int), .classLink RX0 51 "java/lang/IllegalArgumentException", .initialized "java/lang/IllegalArgumentException", .fieldLink RX0 19 "TicketCoincidences" "walks" "[I", .methodLink RX0 63 yX0_requireStranger, .instanceMethod yX0_requireStranger, .selects RX0 yX0_requireStranger yX0_requireStranger, .code yX0_requireStranger cX0_requireStranger 2 none, .classLink RX0 157 "java/lang/IndexOutOfBoundsException", .initialized "java/lang/IndexOutOfBoundsException", .fieldLink RX0 22 "TicketCoincidences" "people" "I", .methodLink RX0 48 yX0_isWalk, .static yX0_isWalk, .code yX0_isWalk cX0_isWalk 1 (some .boolean)] ++ wsX00 ++ (vx_atS RX0 55 "java/lang/IllegalArgumentException" ["java/lang/RuntimeException", "java/lang/Exception"]).filter goodWord ++ (vx_atS RX0 161 "java/lang/IndexOutOfBoundsException" ["java/lang/RuntimeException", "java/lang/Exception"]).filter goodWord)
def wsL_move_r1 : List Cond := [Cond.classLink RL 21 "java/lang/IndexOutOfBoundsException", Cond.classLink RL 13 "java/lang/IllegalArgumentException", Cond.classLink RL 15 "java/lang/IllegalStateException", Cond.methodLink RL 23 yX0_move, Cond.instanceMethod yX0_move, Cond.selects RX0 yX0_move yX0_move, Cond.initialized RX0, Cond.code yX0_move cX0_move 4 (some .int), Cond.classLink RX0 51 "java/lang/IllegalArgumentException", Cond.initialized "java/lang/IllegalArgumentException", Cond.classLink RX0 58 "java/lang/IllegalStateException", Cond.initialized "java/lang/IllegalStateException", Cond.fieldLink RX0 16 "TicketCoincidences" "corners" "[I", Cond.methodLink RX0 63 yX0_requireStranger, Cond.instanceMethod yX0_requireStranger, Cond.selects RX0 yX0_requireStranger yX0_requireStranger, Cond.code yX0_requireStranger cX0_requireStranger 2 none, Cond.classLink RX0 157 "java/lang/IndexOutOfBoundsException", Cond.initialized "java/lang/IndexOutOfBoundsException", Cond.fieldLink RX0 22 "TicketCoincidences" "people" "I", Cond.methodLink RX0 45 yX0_isCorner, Cond.static yX0_isCorner, Cond.code yX0_isCorner cX0_isCorner 1 (some .boolean), Cond.methodLink RX0 73 yX0_costOfWay]
def wsL_move_r2 : List Cond := [Cond.static yX0_costOfWay, Cond.code yX0_costOfWay cX0_costOfWay 3 (some .int), Cond.methodLink RX0 166 Lib.Math.abs.name, Cond.static Lib.Math.abs.name, Cond.initialized "java/lang/Math", Cond.code Lib.Math.abs.name Lib.Math.abs.code 1 (some .int), Cond.methodLink RX0 171 Lib.Math.min.name, Cond.static Lib.Math.min.name, Cond.code Lib.Math.min.name Lib.Math.min.code 2 (some .int), Cond.methodLink RX0 77 yX0_pay, Cond.instanceMethod yX0_pay, Cond.selects RX0 yX0_pay yX0_pay, Cond.code yX0_pay cX0_pay 2 none, Cond.fieldLink RX0 29 "TicketCoincidences" "inStore" "I", Cond.fieldLink RX0 35 "TicketCoincidences" "spentInAll" "I"]
def wsL_move : List Cond := .codeWith yL_move cL_move 5 (some .int) [(0, 10, 13, 21), (0, 10, 17, 13), (0, 10, 21, 15)] :: ((wsL_move_r1 ++ wsL_move_r2) ++ wsX00 ++ (vx_atS RX0 55 "java/lang/IllegalArgumentException" ["java/lang/RuntimeException", "java/lang/Exception"]).filter goodWord ++ (vx_atS RX0 62 "java/lang/IllegalStateException" ["java/lang/RuntimeException", "java/lang/Exception"]).filter goodWord ++ (vx_atS RX0 161 "java/lang/IndexOutOfBoundsException" ["java/lang/RuntimeException", "java/lang/Exception"]).filter goodWord)
def wsL_swapUmbrellas_r1 : List Cond := [Cond.classLink RL 21 "java/lang/IndexOutOfBoundsException", Cond.classLink RL 13 "java/lang/IllegalArgumentException", Cond.classLink RL 15 "java/lang/IllegalStateException", Cond.methodLink RL 26 yX0_swapUmbrellas, Cond.instanceMethod yX0_swapUmbrellas, Cond.selects RX0 yX0_swapUmbrellas yX0_swapUmbrellas, Cond.initialized RX0, Cond.code yX0_swapUmbrellas cX0_swapUmbrellas 4 (some .int), Cond.classLink RX0 58 "java/lang/IllegalStateException", Cond.initialized "java/lang/IllegalStateException", Cond.fieldLink RX0 16 "TicketCoincidences" "corners" "[I", Cond.fieldLink RX0 13 "TicketCoincidences" "colours" "[I", Cond.methodLink RX0 80 yX0_requirePair, Cond.instanceMethod yX0_requirePair, Cond.selects RX0 yX0_requirePair yX0_requirePair, Cond.code yX0_requirePair cX0_requirePair 3 none, Cond.classLink RX0 51 "java/lang/IllegalArgumentException", Cond.initialized "java/lang/IllegalArgumentException", Cond.methodLink RX0 63 yX0_requireStranger, Cond.instanceMethod yX0_requireStranger, Cond.selects RX0 yX0_requireStranger yX0_requireStranger, Cond.code yX0_requireStranger cX0_requireStranger 2 none, Cond.classLink RX0 157 "java/lang/IndexOutOfBoundsException", Cond.initialized "java/lang/IndexOutOfBoundsException"]
def wsL_swapUmbrellas_r2 : List Cond := [Cond.fieldLink RX0 22 "TicketCoincidences" "people" "I", Cond.methodLink RX0 77 yX0_pay, Cond.instanceMethod yX0_pay, Cond.selects RX0 yX0_pay yX0_pay, Cond.code yX0_pay cX0_pay 2 none, Cond.fieldLink RX0 29 "TicketCoincidences" "inStore" "I", Cond.fieldLink RX0 35 "TicketCoincidences" "spentInAll" "I", Cond.methodLink RX0 86 yX0_townBehind, Cond.instanceMethod yX0_townBehind, Cond.selects RX0 yX0_townBehind yX0_townBehind, Cond.code yX0_townBehind cX0_townBehind 5 (some .int), Cond.methodLink RX0 119 yX0_cornerBehind, Cond.instanceMethod yX0_cornerBehind, Cond.selects RX0 yX0_cornerBehind yX0_cornerBehind, Cond.code yX0_cornerBehind cX0_cornerBehind 3 (some .int), Cond.fieldLink RX0 19 "TicketCoincidences" "walks" "[I", Cond.methodLink RX0 107 yX0_pointsOfPair, Cond.instanceMethod yX0_pointsOfPair, Cond.selects RX0 yX0_pointsOfPair yX0_pointsOfPair, Cond.code yX0_pointsOfPair cX0_pointsOfPair 3 (some .int), Cond.fieldLink RX0 9 "TicketCoincidences" "tickets" "[I", Cond.methodLink RX0 180 yX0_pointsOfTickets, Cond.static yX0_pointsOfTickets, Cond.code yX0_pointsOfTickets cX0_pointsOfTickets 3 (some .int)]
def wsL_swapUmbrellas_r3 : List Cond := [Cond.methodLink RX0 166 Lib.Math.abs.name, Cond.static Lib.Math.abs.name, Cond.initialized "java/lang/Math", Cond.code Lib.Math.abs.name Lib.Math.abs.code 1 (some .int), Cond.methodLink RX0 177 yX0_figureSum, Cond.static yX0_figureSum, Cond.code yX0_figureSum cX0_figureSum 1 (some .int), Cond.methodLink RX0 110 yX0_mirrored, Cond.static yX0_mirrored, Cond.code yX0_mirrored cX0_mirrored 2 (some .boolean), Cond.methodLink RX0 183 yX0_pointsOfColours, Cond.static yX0_pointsOfColours, Cond.code yX0_pointsOfColours cX0_pointsOfColours 2 (some .int), Cond.methodLink RX0 90 yX0_exchange, Cond.static yX0_exchange, Cond.code yX0_exchange cX0_exchange 4 none]
def wsL_swapUmbrellas : List Cond := .codeWith yL_swapUmbrellas cL_swapUmbrellas 5 (some .int) [(0, 10, 13, 21), (0, 10, 17, 13), (0, 10, 21, 15)] :: ((wsL_swapUmbrellas_r1 ++ (wsL_swapUmbrellas_r2 ++ wsL_swapUmbrellas_r3)) ++ wsX00 ++ (vx_atS RX0 62 "java/lang/IllegalStateException" ["java/lang/RuntimeException", "java/lang/Exception"]).filter goodWord ++ (vx_atS RX0 55 "java/lang/IllegalArgumentException" ["java/lang/RuntimeException", "java/lang/Exception"]).filter goodWord ++ (vx_atS RX0 161 "java/lang/IndexOutOfBoundsException" ["java/lang/RuntimeException", "java/lang/Exception"]).filter goodWord)
def wsL_swapTickets_r1 : List Cond := [Cond.classLink RL 21 "java/lang/IndexOutOfBoundsException", Cond.classLink RL 13 "java/lang/IllegalArgumentException", Cond.classLink RL 15 "java/lang/IllegalStateException", Cond.methodLink RL 29 yX0_swapTickets, Cond.instanceMethod yX0_swapTickets, Cond.selects RX0 yX0_swapTickets yX0_swapTickets, Cond.initialized RX0, Cond.code yX0_swapTickets cX0_swapTickets 4 (some .int), Cond.fieldLink RX0 9 "TicketCoincidences" "tickets" "[I", Cond.methodLink RX0 80 yX0_requirePair, Cond.instanceMethod yX0_requirePair, Cond.selects RX0 yX0_requirePair yX0_requirePair, Cond.code yX0_requirePair cX0_requirePair 3 none, Cond.classLink RX0 51 "java/lang/IllegalArgumentException", Cond.initialized "java/lang/IllegalArgumentException", Cond.methodLink RX0 63 yX0_requireStranger, Cond.instanceMethod yX0_requireStranger, Cond.selects RX0 yX0_requireStranger yX0_requireStranger, Cond.code yX0_requireStranger cX0_requireStranger 2 none, Cond.classLink RX0 157 "java/lang/IndexOutOfBoundsException", Cond.initialized "java/lang/IndexOutOfBoundsException", Cond.fieldLink RX0 22 "TicketCoincidences" "people" "I", Cond.methodLink RX0 77 yX0_pay, Cond.instanceMethod yX0_pay]
def wsL_swapTickets_r2 : List Cond := [Cond.selects RX0 yX0_pay yX0_pay, Cond.code yX0_pay cX0_pay 2 none, Cond.classLink RX0 58 "java/lang/IllegalStateException", Cond.initialized "java/lang/IllegalStateException", Cond.fieldLink RX0 29 "TicketCoincidences" "inStore" "I", Cond.fieldLink RX0 35 "TicketCoincidences" "spentInAll" "I", Cond.methodLink RX0 86 yX0_townBehind, Cond.instanceMethod yX0_townBehind, Cond.selects RX0 yX0_townBehind yX0_townBehind, Cond.code yX0_townBehind cX0_townBehind 5 (some .int), Cond.methodLink RX0 119 yX0_cornerBehind, Cond.instanceMethod yX0_cornerBehind, Cond.selects RX0 yX0_cornerBehind yX0_cornerBehind, Cond.code yX0_cornerBehind cX0_cornerBehind 3 (some .int), Cond.fieldLink RX0 16 "TicketCoincidences" "corners" "[I", Cond.fieldLink RX0 19 "TicketCoincidences" "walks" "[I", Cond.methodLink RX0 107 yX0_pointsOfPair, Cond.instanceMethod yX0_pointsOfPair, Cond.selects RX0 yX0_pointsOfPair yX0_pointsOfPair, Cond.code yX0_pointsOfPair cX0_pointsOfPair 3 (some .int), Cond.fieldLink RX0 13 "TicketCoincidences" "colours" "[I", Cond.methodLink RX0 180 yX0_pointsOfTickets, Cond.static yX0_pointsOfTickets, Cond.code yX0_pointsOfTickets cX0_pointsOfTickets 3 (some .int)]
def wsL_swapTickets_r3 : List Cond := [Cond.methodLink RX0 166 Lib.Math.abs.name, Cond.static Lib.Math.abs.name, Cond.initialized "java/lang/Math", Cond.code Lib.Math.abs.name Lib.Math.abs.code 1 (some .int), Cond.methodLink RX0 177 yX0_figureSum, Cond.static yX0_figureSum, Cond.code yX0_figureSum cX0_figureSum 1 (some .int), Cond.methodLink RX0 110 yX0_mirrored, Cond.static yX0_mirrored, Cond.code yX0_mirrored cX0_mirrored 2 (some .boolean), Cond.methodLink RX0 183 yX0_pointsOfColours, Cond.static yX0_pointsOfColours, Cond.code yX0_pointsOfColours cX0_pointsOfColours 2 (some .int), Cond.methodLink RX0 90 yX0_exchange, Cond.static yX0_exchange, Cond.code yX0_exchange cX0_exchange 4 none]
def wsL_swapTickets : List Cond := .codeWith yL_swapTickets cL_swapTickets 5 (some .int) [(0, 10, 13, 21), (0, 10, 17, 13), (0, 10, 21, 15)] :: ((wsL_swapTickets_r1 ++ (wsL_swapTickets_r2 ++ wsL_swapTickets_r3)) ++ wsX00 ++ (vx_atS RX0 55 "java/lang/IllegalArgumentException" ["java/lang/RuntimeException", "java/lang/Exception"]).filter goodWord ++ (vx_atS RX0 161 "java/lang/IndexOutOfBoundsException" ["java/lang/RuntimeException", "java/lang/Exception"]).filter goodWord ++ (vx_atS RX0 62 "java/lang/IllegalStateException" ["java/lang/RuntimeException", "java/lang/Exception"]).filter goodWord)
def wsL_draw_r1 : List Cond := [Cond.classLink RL 21 "java/lang/IndexOutOfBoundsException", Cond.classLink RL 13 "java/lang/IllegalArgumentException", Cond.classLink RL 15 "java/lang/IllegalStateException", Cond.methodLink RL 32 yX0_draw, Cond.instanceMethod yX0_draw, Cond.selects RX0 yX0_draw yX0_draw, Cond.initialized RX0, Cond.code yX0_draw cX0_draw 4 (some .int), Cond.classLink RX0 51 "java/lang/IllegalArgumentException", Cond.initialized "java/lang/IllegalArgumentException", Cond.fieldLink RX0 9 "TicketCoincidences" "tickets" "[I", Cond.methodLink RX0 63 yX0_requireStranger, Cond.instanceMethod yX0_requireStranger, Cond.selects RX0 yX0_requireStranger yX0_requireStranger, Cond.code yX0_requireStranger cX0_requireStranger 2 none, Cond.classLink RX0 157 "java/lang/IndexOutOfBoundsException", Cond.initialized "java/lang/IndexOutOfBoundsException", Cond.fieldLink RX0 22 "TicketCoincidences" "people" "I", Cond.methodLink RX0 38 yX0_isTicket, Cond.static yX0_isTicket, Cond.code yX0_isTicket cX0_isTicket 1 (some .boolean), Cond.methodLink RX0 77 yX0_pay, Cond.instanceMethod yX0_pay, Cond.selects RX0 yX0_pay yX0_pay]
def wsL_draw_r2 : List Cond := [Cond.code yX0_pay cX0_pay 2 none, Cond.classLink RX0 58 "java/lang/IllegalStateException", Cond.initialized "java/lang/IllegalStateException", Cond.fieldLink RX0 29 "TicketCoincidences" "inStore" "I", Cond.fieldLink RX0 35 "TicketCoincidences" "spentInAll" "I"]
def wsL_draw : List Cond := .codeWith yL_draw cL_draw 5 (some .int) [(0, 10, 13, 21), (0, 10, 17, 13), (0, 10, 21, 15)] :: ((wsL_draw_r1 ++ wsL_draw_r2) ++ wsX00 ++ (vx_atS RX0 55 "java/lang/IllegalArgumentException" ["java/lang/RuntimeException", "java/lang/Exception"]).filter goodWord ++ (vx_atS RX0 161 "java/lang/IndexOutOfBoundsException" ["java/lang/RuntimeException", "java/lang/Exception"]).filter goodWord ++ (vx_atS RX0 62 "java/lang/IllegalStateException" ["java/lang/RuntimeException", "java/lang/Exception"]).filter goodWord)
def wsL_pass_r1 : List Cond := [Cond.classLink RL 13 "java/lang/IllegalArgumentException", Cond.methodLink RL 35 yX0_pass, Cond.instanceMethod yX0_pass, Cond.selects RX0 yX0_pass yX0_pass, Cond.initialized RX0, Cond.code yX0_pass cX0_pass 4 (some .int), Cond.classLink RX0 51 "java/lang/IllegalArgumentException", Cond.initialized "java/lang/IllegalArgumentException", Cond.fieldLink RX0 32 "TicketCoincidences" "countedInAll" "I", Cond.methodLink RX0 98 yX0_passOneHour, Cond.instanceMethod yX0_passOneHour, Cond.selects RX0 yX0_passOneHour yX0_passOneHour, Cond.code yX0_passOneHour cX0_passOneHour 2 none, Cond.fieldLink RX0 22 "TicketCoincidences" "people" "I", Cond.fieldLink RX0 16 "TicketCoincidences" "corners" "[I", Cond.fieldLink RX0 29 "TicketCoincidences" "inStore" "I", Cond.methodLink RX0 171 Lib.Math.min.name, Cond.static Lib.Math.min.name, Cond.initialized "java/lang/Math", Cond.code Lib.Math.min.name Lib.Math.min.code 2 (some .int), Cond.fieldLink RX0 26 "TicketCoincidences" "hourNow" "I", Cond.methodLink RX0 119 yX0_cornerBehind, Cond.instanceMethod yX0_cornerBehind, Cond.selects RX0 yX0_cornerBehind yX0_cornerBehind]
def wsL_pass_r2 : List Cond := [Cond.code yX0_cornerBehind cX0_cornerBehind 3 (some .int), Cond.fieldLink RX0 19 "TicketCoincidences" "walks" "[I", Cond.methodLink RX0 86 yX0_townBehind, Cond.instanceMethod yX0_townBehind, Cond.selects RX0 yX0_townBehind yX0_townBehind, Cond.code yX0_townBehind cX0_townBehind 5 (some .int), Cond.methodLink RX0 107 yX0_pointsOfPair, Cond.instanceMethod yX0_pointsOfPair, Cond.selects RX0 yX0_pointsOfPair yX0_pointsOfPair, Cond.code yX0_pointsOfPair cX0_pointsOfPair 3 (some .int), Cond.fieldLink RX0 9 "TicketCoincidences" "tickets" "[I", Cond.fieldLink RX0 13 "TicketCoincidences" "colours" "[I", Cond.methodLink RX0 180 yX0_pointsOfTickets, Cond.static yX0_pointsOfTickets, Cond.code yX0_pointsOfTickets cX0_pointsOfTickets 3 (some .int), Cond.methodLink RX0 166 Lib.Math.abs.name, Cond.static Lib.Math.abs.name, Cond.code Lib.Math.abs.name Lib.Math.abs.code 1 (some .int), Cond.methodLink RX0 177 yX0_figureSum, Cond.static yX0_figureSum, Cond.code yX0_figureSum cX0_figureSum 1 (some .int), Cond.methodLink RX0 110 yX0_mirrored, Cond.static yX0_mirrored, Cond.code yX0_mirrored cX0_mirrored 2 (some .boolean)]
def wsL_pass_r3 : List Cond := [Cond.methodLink RX0 183 yX0_pointsOfColours, Cond.static yX0_pointsOfColours, Cond.code yX0_pointsOfColours cX0_pointsOfColours 2 (some .int), Cond.methodLink RX0 174 yX0_emptyCorners, Cond.instanceMethod yX0_emptyCorners, Cond.selects RX0 yX0_emptyCorners yX0_emptyCorners, Cond.code yX0_emptyCorners cX0_emptyCorners 3 (some .int), Cond.methodLink RX0 104 yX0_crowdAt, Cond.instanceMethod yX0_crowdAt, Cond.selects RX0 yX0_crowdAt yX0_crowdAt, Cond.code yX0_crowdAt cX0_crowdAt 4 (some .int)]
def wsL_pass : List Cond := .codeWith yL_pass cL_pass 4 (some .int) [(0, 9, 12, 13)] :: ((wsL_pass_r1 ++ (wsL_pass_r2 ++ wsL_pass_r3)) ++ wsX00 ++ (vx_atS RX0 55 "java/lang/IllegalArgumentException" ["java/lang/RuntimeException", "java/lang/Exception"]).filter goodWord)
def wsL_ticketOf : List Cond := .codeWith yL_ticketOf cL_ticketOf 4 (some .int) [(0, 9, 12, 21)] :: ([.classLink RL 21 "java/lang/IndexOutOfBoundsException", .methodLink RL 39 yX0_ticketOf, .instanceMethod yX0_ticketOf, .selects RX0 yX0_ticketOf yX0_ticketOf, .initialized RX0, .code yX0_ticketOf cX0_ticketOf 2 (some .int), .fieldLink RX0 9 "TicketCoincidences" "tickets" "[I", .methodLink RX0 63 yX0_requireStranger, .instanceMethod yX0_requireStranger, .selects RX0 yX0_requireStranger yX0_requireStranger, .code yX0_requireStranger cX0_requireStranger 2 none, .classLink RX0 157 "java/lang/IndexOutOfBoundsException", .initialized "java/lang/IndexOutOfBoundsException", .fieldLink RX0 22 "TicketCoincidences" "people" "I"] ++ wsX00 ++ (vx_atS RX0 161 "java/lang/IndexOutOfBoundsException" ["java/lang/RuntimeException", "java/lang/Exception"]).filter goodWord)
def wsL_colourOf : List Cond := .codeWith yL_colourOf cL_colourOf 4 (some .int) [(0, 9, 12, 21)] :: ([.classLink RL 21 "java/lang/IndexOutOfBoundsException", .methodLink RL 42 yX0_colourOf, .instanceMethod yX0_colourOf, .selects RX0 yX0_colourOf yX0_colourOf, .initialized RX0, .code yX0_colourOf cX0_colourOf 2 (some .int), .fieldLink RX0 13 "TicketCoincidences" "colours" "[I", .methodLink RX0 63 yX0_requireStranger, .instanceMethod yX0_requireStranger, .selects RX0 yX0_requireStranger yX0_requireStranger, .code yX0_requireStranger cX0_requireStranger 2 none, .classLink RX0 157 "java/lang/IndexOutOfBoundsException", .initialized "java/lang/IndexOutOfBoundsException", .fieldLink RX0 22 "TicketCoincidences" "people" "I"] ++ wsX00 ++ (vx_atS RX0 161 "java/lang/IndexOutOfBoundsException" ["java/lang/RuntimeException", "java/lang/Exception"]).filter goodWord)
def wsL_cornerOf : List Cond := .codeWith yL_cornerOf cL_cornerOf 4 (some .int) [(0, 9, 12, 21)] :: ([.classLink RL 21 "java/lang/IndexOutOfBoundsException", .methodLink RL 45 yX0_cornerOf, .instanceMethod yX0_cornerOf, .selects RX0 yX0_cornerOf yX0_cornerOf, .initialized RX0, .code yX0_cornerOf cX0_cornerOf 2 (some .int), .fieldLink RX0 16 "TicketCoincidences" "corners" "[I", .methodLink RX0 63 yX0_requireStranger, .instanceMethod yX0_requireStranger, .selects RX0 yX0_requireStranger yX0_requireStranger, .code yX0_requireStranger cX0_requireStranger 2 none, .classLink RX0 157 "java/lang/IndexOutOfBoundsException", .initialized "java/lang/IndexOutOfBoundsException", .fieldLink RX0 22 "TicketCoincidences" "people" "I"] ++ wsX00 ++ (vx_atS RX0 161 "java/lang/IndexOutOfBoundsException" ["java/lang/RuntimeException", "java/lang/Exception"]).filter goodWord)
def wsL_walkOf : List Cond := .codeWith yL_walkOf cL_walkOf 4 (some .int) [(0, 9, 12, 21)] :: ([.classLink RL 21 "java/lang/IndexOutOfBoundsException", .methodLink RL 48 yX0_walkOf, .instanceMethod yX0_walkOf, .selects RX0 yX0_walkOf yX0_walkOf, .initialized RX0, .code yX0_walkOf cX0_walkOf 2 (some .int), .fieldLink RX0 19 "TicketCoincidences" "walks" "[I", .methodLink RX0 63 yX0_requireStranger, .instanceMethod yX0_requireStranger, .selects RX0 yX0_requireStranger yX0_requireStranger, .code yX0_requireStranger cX0_requireStranger 2 none, .classLink RX0 157 "java/lang/IndexOutOfBoundsException", .initialized "java/lang/IndexOutOfBoundsException", .fieldLink RX0 22 "TicketCoincidences" "people" "I"] ++ wsX00 ++ (vx_atS RX0 161 "java/lang/IndexOutOfBoundsException" ["java/lang/RuntimeException", "java/lang/Exception"]).filter goodWord)
def wsL_peopleAt : List Cond := .codeWith yL_peopleAt cL_peopleAt 4 (some .int) [(0, 9, 12, 21)] :: ([.classLink RL 21 "java/lang/IndexOutOfBoundsException", .methodLink RL 51 yX0_peopleAt, .instanceMethod yX0_peopleAt, .selects RX0 yX0_peopleAt yX0_peopleAt, .initialized RX0, .code yX0_peopleAt cX0_peopleAt 2 (some .int), .methodLink RX0 101 yX0_requireCorner, .static yX0_requireCorner, .code yX0_requireCorner cX0_requireCorner 1 none, .classLink RX0 157 "java/lang/IndexOutOfBoundsException", .initialized "java/lang/IndexOutOfBoundsException", .methodLink RX0 45 yX0_isCorner, .static yX0_isCorner, .code yX0_isCorner cX0_isCorner 1 (some .boolean), .methodLink RX0 104 yX0_crowdAt, .instanceMethod yX0_crowdAt, .selects RX0 yX0_crowdAt yX0_crowdAt, .code yX0_crowdAt cX0_crowdAt 4 (some .int), .fieldLink RX0 22 "TicketCoincidences" "people" "I", .fieldLink RX0 16 "TicketCoincidences" "corners" "[I"] ++ wsX00 ++ (vx_atS RX0 161 "java/lang/IndexOutOfBoundsException" ["java/lang/RuntimeException", "java/lang/Exception"]).filter goodWord)
def wsL_pointsOf_r1 : List Cond := [Cond.classLink RL 21 "java/lang/IndexOutOfBoundsException", Cond.classLink RL 13 "java/lang/IllegalArgumentException", Cond.methodLink RL 54 yX0_pointsOf, Cond.instanceMethod yX0_pointsOf, Cond.selects RX0 yX0_pointsOf yX0_pointsOf, Cond.initialized RX0, Cond.code yX0_pointsOf cX0_pointsOf 3 (some .int), Cond.methodLink RX0 80 yX0_requirePair, Cond.instanceMethod yX0_requirePair, Cond.selects RX0 yX0_requirePair yX0_requirePair, Cond.code yX0_requirePair cX0_requirePair 3 none, Cond.classLink RX0 51 "java/lang/IllegalArgumentException", Cond.initialized "java/lang/IllegalArgumentException", Cond.methodLink RX0 63 yX0_requireStranger, Cond.instanceMethod yX0_requireStranger, Cond.selects RX0 yX0_requireStranger yX0_requireStranger, Cond.code yX0_requireStranger cX0_requireStranger 2 none, Cond.classLink RX0 157 "java/lang/IndexOutOfBoundsException", Cond.initialized "java/lang/IndexOutOfBoundsException", Cond.fieldLink RX0 22 "TicketCoincidences" "people" "I", Cond.methodLink RX0 107 yX0_pointsOfPair, Cond.instanceMethod yX0_pointsOfPair, Cond.selects RX0 yX0_pointsOfPair yX0_pointsOfPair, Cond.code yX0_pointsOfPair cX0_pointsOfPair 3 (some .int)]
def wsL_pointsOf_r2 : List Cond := [Cond.fieldLink RX0 9 "TicketCoincidences" "tickets" "[I", Cond.fieldLink RX0 13 "TicketCoincidences" "colours" "[I", Cond.methodLink RX0 180 yX0_pointsOfTickets, Cond.static yX0_pointsOfTickets, Cond.code yX0_pointsOfTickets cX0_pointsOfTickets 3 (some .int), Cond.methodLink RX0 166 Lib.Math.abs.name, Cond.static Lib.Math.abs.name, Cond.initialized "java/lang/Math", Cond.code Lib.Math.abs.name Lib.Math.abs.code 1 (some .int), Cond.methodLink RX0 177 yX0_figureSum, Cond.static yX0_figureSum, Cond.code yX0_figureSum cX0_figureSum 1 (some .int), Cond.methodLink RX0 110 yX0_mirrored, Cond.static yX0_mirrored, Cond.code yX0_mirrored cX0_mirrored 2 (some .boolean), Cond.methodLink RX0 183 yX0_pointsOfColours, Cond.static yX0_pointsOfColours, Cond.code yX0_pointsOfColours cX0_pointsOfColours 2 (some .int)]
def wsL_pointsOf : List Cond := .codeWith yL_pointsOf cL_pointsOf 5 (some .int) [(0, 10, 13, 21), (0, 10, 17, 13)] :: ((wsL_pointsOf_r1 ++ wsL_pointsOf_r2) ++ wsX00 ++ (vx_atS RX0 55 "java/lang/IllegalArgumentException" ["java/lang/RuntimeException", "java/lang/Exception"]).filter goodWord ++ (vx_atS RX0 161 "java/lang/IndexOutOfBoundsException" ["java/lang/RuntimeException", "java/lang/Exception"]).filter goodWord)
def wsL_areTogether : List Cond := .codeWith yL_areTogether cL_areTogether 5 (some .int) [(0, 17, 20, 21), (0, 17, 24, 13)] :: ([.classLink RL 21 "java/lang/IndexOutOfBoundsException", .classLink RL 13 "java/lang/IllegalArgumentException", .methodLink RL 57 yX0_areTogether, .instanceMethod yX0_areTogether, .selects RX0 yX0_areTogether yX0_areTogether, .initialized RX0, .code yX0_areTogether cX0_areTogether 3 (some .boolean), .fieldLink RX0 16 "TicketCoincidences" "corners" "[I", .methodLink RX0 80 yX0_requirePair, .instanceMethod yX0_requirePair, .selects RX0 yX0_requirePair yX0_requirePair, .code yX0_requirePair cX0_requirePair 3 none, .classLink RX0 51 "java/lang/IllegalArgumentException", .initialized "java/lang/IllegalArgumentException", .methodLink RX0 63 yX0_requireStranger, .instanceMethod yX0_requireStranger, .selects RX0 yX0_requireStranger yX0_requireStranger, .code yX0_requireStranger cX0_requireStranger 2 none, .classLink RX0 157 "java/lang/IndexOutOfBoundsException", .initialized "java/lang/IndexOutOfBoundsException", .fieldLink RX0 22 "TicketCoincidences" "people" "I"] ++ wsX00 ++ (vx_atS RX0 55 "java/lang/IllegalArgumentException" ["java/lang/RuntimeException", "java/lang/Exception"]).filter goodWord ++ (vx_atS RX0 161 "java/lang/IndexOutOfBoundsException" ["java/lang/RuntimeException", "java/lang/Exception"]).filter goodWord)
def wsL_areMirrored : List Cond := .codeWith yL_areMirrored cL_areMirrored 5 (some .int) [(0, 17, 20, 21), (0, 17, 24, 13)] :: ([.classLink RL 21 "java/lang/IndexOutOfBoundsException", .classLink RL 13 "java/lang/IllegalArgumentException", .methodLink RL 61 yX0_areMirrored, .instanceMethod yX0_areMirrored, .selects RX0 yX0_areMirrored yX0_areMirrored, .initialized RX0, .code yX0_areMirrored cX0_areMirrored 3 (some .boolean), .fieldLink RX0 9 "TicketCoincidences" "tickets" "[I", .methodLink RX0 80 yX0_requirePair, .instanceMethod yX0_requirePair, .selects RX0 yX0_requirePair yX0_requirePair, .code yX0_requirePair cX0_requirePair 3 none, .classLink RX0 51 "java/lang/IllegalArgumentException", .initialized "java/lang/IllegalArgumentException", .methodLink RX0 63 yX0_requireStranger, .instanceMethod yX0_requireStranger, .selects RX0 yX0_requireStranger yX0_requireStranger, .code yX0_requireStranger cX0_requireStranger 2 none, .classLink RX0 157 "java/lang/IndexOutOfBoundsException", .initialized "java/lang/IndexOutOfBoundsException", .fieldLink RX0 22 "TicketCoincidences" "people" "I", .methodLink RX0 110 yX0_mirrored, .static yX0_mirrored, .code yX0_mirrored cX0_mirrored 2 (some .boolean)] ++ wsX00 ++ (vx_atS RX0 55 "java/lang/IllegalArgumentException" ["java/lang/RuntimeException", "java/lang/Exception"]).filter goodWord ++ (vx_atS RX0 161 "java/lang/IndexOutOfBoundsException" ["java/lang/RuntimeException", "java/lang/Exception"]).filter goodWord)
def wsL_coincidencesAt_r1 : List Cond := [Cond.classLink RL 21 "java/lang/IndexOutOfBoundsException", Cond.methodLink RL 64 yX0_coincidencesAt, Cond.instanceMethod yX0_coincidencesAt, Cond.selects RX0 yX0_coincidencesAt yX0_coincidencesAt, Cond.initialized RX0, Cond.code yX0_coincidencesAt cX0_coincidencesAt 5 (some .int), Cond.fieldLink RX0 22 "TicketCoincidences" "people" "I", Cond.fieldLink RX0 16 "TicketCoincidences" "corners" "[I", Cond.methodLink RX0 101 yX0_requireCorner, Cond.static yX0_requireCorner, Cond.code yX0_requireCorner cX0_requireCorner 1 none, Cond.classLink RX0 157 "java/lang/IndexOutOfBoundsException", Cond.initialized "java/lang/IndexOutOfBoundsException", Cond.methodLink RX0 45 yX0_isCorner, Cond.static yX0_isCorner, Cond.code yX0_isCorner cX0_isCorner 1 (some .boolean), Cond.methodLink RX0 107 yX0_pointsOfPair, Cond.instanceMethod yX0_pointsOfPair, Cond.selects RX0 yX0_pointsOfPair yX0_pointsOfPair, Cond.code yX0_pointsOfPair cX0_pointsOfPair 3 (some .int), Cond.fieldLink RX0 9 "TicketCoincidences" "tickets" "[I", Cond.fieldLink RX0 13 "TicketCoincidences" "colours" "[I", Cond.methodLink RX0 180 yX0_pointsOfTickets, Cond.static yX0_pointsOfTickets]
def wsL_coincidencesAt_r2 : List Cond := [Cond.code yX0_pointsOfTickets cX0_pointsOfTickets 3 (some .int), Cond.methodLink RX0 166 Lib.Math.abs.name, Cond.static Lib.Math.abs.name, Cond.initialized "java/lang/Math", Cond.code Lib.Math.abs.name Lib.Math.abs.code 1 (some .int), Cond.methodLink RX0 177 yX0_figureSum, Cond.static yX0_figureSum, Cond.code yX0_figureSum cX0_figureSum 1 (some .int), Cond.methodLink RX0 110 yX0_mirrored, Cond.static yX0_mirrored, Cond.code yX0_mirrored cX0_mirrored 2 (some .boolean), Cond.methodLink RX0 183 yX0_pointsOfColours, Cond.static yX0_pointsOfColours, Cond.code yX0_pointsOfColours cX0_pointsOfColours 2 (some .int)]
def wsL_coincidencesAt : List Cond := .codeWith yL_coincidencesAt cL_coincidencesAt 4 (some .int) [(0, 9, 12, 21)] :: ((wsL_coincidencesAt_r1 ++ wsL_coincidencesAt_r2) ++ wsX00 ++ (vx_atS RX0 161 "java/lang/IndexOutOfBoundsException" ["java/lang/RuntimeException", "java/lang/Exception"]).filter goodWord)
def wsL_luckOf_r1 : List Cond := [Cond.classLink RL 21 "java/lang/IndexOutOfBoundsException", Cond.methodLink RL 67 yX0_luckOf, Cond.instanceMethod yX0_luckOf, Cond.selects RX0 yX0_luckOf yX0_luckOf, Cond.initialized RX0, Cond.code yX0_luckOf cX0_luckOf 2 (some .int), Cond.methodLink RX0 63 yX0_requireStranger, Cond.instanceMethod yX0_requireStranger, Cond.selects RX0 yX0_requireStranger yX0_requireStranger, Cond.code yX0_requireStranger cX0_requireStranger 2 none, Cond.classLink RX0 157 "java/lang/IndexOutOfBoundsException", Cond.initialized "java/lang/IndexOutOfBoundsException", Cond.fieldLink RX0 22 "TicketCoincidences" "people" "I", Cond.methodLink RX0 114 yX0_luckNow, Cond.instanceMethod yX0_luckNow, Cond.selects RX0 yX0_luckNow yX0_luckNow, Cond.code yX0_luckNow cX0_luckNow 2 (some .int), Cond.fieldLink RX0 9 "TicketCoincidences" "tickets" "[I", Cond.fieldLink RX0 16 "TicketCoincidences" "corners" "[I", Cond.methodLink RX0 122 yX0_luckWith, Cond.instanceMethod yX0_luckWith, Cond.selects RX0 yX0_luckWith yX0_luckWith, Cond.code yX0_luckWith cX0_luckWith 6 (some .int), Cond.fieldLink RX0 13 "TicketCoincidences" "colours" "[I"]
def wsL_luckOf_r2 : List Cond := [Cond.methodLink RX0 180 yX0_pointsOfTickets, Cond.static yX0_pointsOfTickets, Cond.code yX0_pointsOfTickets cX0_pointsOfTickets 3 (some .int), Cond.methodLink RX0 166 Lib.Math.abs.name, Cond.static Lib.Math.abs.name, Cond.initialized "java/lang/Math", Cond.code Lib.Math.abs.name Lib.Math.abs.code 1 (some .int), Cond.methodLink RX0 177 yX0_figureSum, Cond.static yX0_figureSum, Cond.code yX0_figureSum cX0_figureSum 1 (some .int), Cond.methodLink RX0 110 yX0_mirrored, Cond.static yX0_mirrored, Cond.code yX0_mirrored cX0_mirrored 2 (some .boolean), Cond.methodLink RX0 183 yX0_pointsOfColours, Cond.static yX0_pointsOfColours, Cond.code yX0_pointsOfColours cX0_pointsOfColours 2 (some .int)]
def wsL_luckOf : List Cond := .codeWith yL_luckOf cL_luckOf 4 (some .int) [(0, 9, 12, 21)] :: ((wsL_luckOf_r1 ++ wsL_luckOf_r2) ++ wsX00 ++ (vx_atS RX0 161 "java/lang/IndexOutOfBoundsException" ["java/lang/RuntimeException", "java/lang/Exception"]).filter goodWord)
def wsL_coincidencesIn_r1 : List Cond := [Cond.classLink RL 13 "java/lang/IllegalArgumentException", Cond.methodLink RL 70 yX0_coincidencesIn, Cond.instanceMethod yX0_coincidencesIn, Cond.selects RX0 yX0_coincidencesIn yX0_coincidencesIn, Cond.initialized RX0, Cond.code yX0_coincidencesIn cX0_coincidencesIn 2 (some .int), Cond.classLink RX0 51 "java/lang/IllegalArgumentException", Cond.initialized "java/lang/IllegalArgumentException", Cond.methodLink RX0 86 yX0_townBehind, Cond.instanceMethod yX0_townBehind, Cond.selects RX0 yX0_townBehind yX0_townBehind, Cond.code yX0_townBehind cX0_townBehind 5 (some .int), Cond.fieldLink RX0 22 "TicketCoincidences" "people" "I", Cond.methodLink RX0 119 yX0_cornerBehind, Cond.instanceMethod yX0_cornerBehind, Cond.selects RX0 yX0_cornerBehind yX0_cornerBehind, Cond.code yX0_cornerBehind cX0_cornerBehind 3 (some .int), Cond.fieldLink RX0 16 "TicketCoincidences" "corners" "[I", Cond.fieldLink RX0 19 "TicketCoincidences" "walks" "[I", Cond.methodLink RX0 107 yX0_pointsOfPair, Cond.instanceMethod yX0_pointsOfPair, Cond.selects RX0 yX0_pointsOfPair yX0_pointsOfPair, Cond.code yX0_pointsOfPair cX0_pointsOfPair 3 (some .int), Cond.fieldLink RX0 9 "TicketCoincidences" "tickets" "[I"]
def wsL_coincidencesIn_r2 : List Cond := [Cond.fieldLink RX0 13 "TicketCoincidences" "colours" "[I", Cond.methodLink RX0 180 yX0_pointsOfTickets, Cond.static yX0_pointsOfTickets, Cond.code yX0_pointsOfTickets cX0_pointsOfTickets 3 (some .int), Cond.methodLink RX0 166 Lib.Math.abs.name, Cond.static Lib.Math.abs.name, Cond.initialized "java/lang/Math", Cond.code Lib.Math.abs.name Lib.Math.abs.code 1 (some .int), Cond.methodLink RX0 177 yX0_figureSum, Cond.static yX0_figureSum, Cond.code yX0_figureSum cX0_figureSum 1 (some .int), Cond.methodLink RX0 110 yX0_mirrored, Cond.static yX0_mirrored, Cond.code yX0_mirrored cX0_mirrored 2 (some .boolean), Cond.methodLink RX0 183 yX0_pointsOfColours, Cond.static yX0_pointsOfColours, Cond.code yX0_pointsOfColours cX0_pointsOfColours 2 (some .int)]
def wsL_coincidencesIn : List Cond := .codeWith yL_coincidencesIn cL_coincidencesIn 4 (some .int) [(0, 9, 12, 13)] :: ((wsL_coincidencesIn_r1 ++ wsL_coincidencesIn_r2) ++ wsX00 ++ (vx_atS RX0 55 "java/lang/IllegalArgumentException" ["java/lang/RuntimeException", "java/lang/Exception"]).filter goodWord)
def wsL_hoursUntilTogether_r1 : List Cond := [Cond.classLink RL 21 "java/lang/IndexOutOfBoundsException", Cond.classLink RL 13 "java/lang/IllegalArgumentException", Cond.methodLink RL 73 yX0_hoursUntilTogether, Cond.instanceMethod yX0_hoursUntilTogether, Cond.selects RX0 yX0_hoursUntilTogether yX0_hoursUntilTogether, Cond.initialized RX0, Cond.code yX0_hoursUntilTogether cX0_hoursUntilTogether 4 (some .int), Cond.methodLink RX0 80 yX0_requirePair, Cond.instanceMethod yX0_requirePair, Cond.selects RX0 yX0_requirePair yX0_requirePair, Cond.code yX0_requirePair cX0_requirePair 3 none, Cond.classLink RX0 51 "java/lang/IllegalArgumentException", Cond.initialized "java/lang/IllegalArgumentException", Cond.methodLink RX0 63 yX0_requireStranger, Cond.instanceMethod yX0_requireStranger, Cond.selects RX0 yX0_requireStranger yX0_requireStranger, Cond.code yX0_requireStranger cX0_requireStranger 2 none, Cond.classLink RX0 157 "java/lang/IndexOutOfBoundsException", Cond.initialized "java/lang/IndexOutOfBoundsException", Cond.fieldLink RX0 22 "TicketCoincidences" "people" "I", Cond.methodLink RX0 119 yX0_cornerBehind, Cond.instanceMethod yX0_cornerBehind, Cond.selects RX0 yX0_cornerBehind yX0_cornerBehind, Cond.code yX0_cornerBehind cX0_cornerBehind 3 (some .int)]
def wsL_hoursUntilTogether_r2 : List Cond := [Cond.fieldLink RX0 16 "TicketCoincidences" "corners" "[I", Cond.fieldLink RX0 19 "TicketCoincidences" "walks" "[I"]
def wsL_hoursUntilTogether : List Cond := .codeWith yL_hoursUntilTogether cL_hoursUntilTogether 5 (some .int) [(0, 10, 13, 21), (0, 10, 17, 13)] :: ((wsL_hoursUntilTogether_r1 ++ wsL_hoursUntilTogether_r2) ++ wsX00 ++ (vx_atS RX0 55 "java/lang/IllegalArgumentException" ["java/lang/RuntimeException", "java/lang/Exception"]).filter goodWord ++ (vx_atS RX0 161 "java/lang/IndexOutOfBoundsException" ["java/lang/RuntimeException", "java/lang/Exception"]).filter goodWord)
def wsL_costOfMeeting_r1 : List Cond := [Cond.classLink RL 21 "java/lang/IndexOutOfBoundsException", Cond.classLink RL 13 "java/lang/IllegalArgumentException", Cond.methodLink RL 76 yX0_costOfMeeting, Cond.instanceMethod yX0_costOfMeeting, Cond.selects RX0 yX0_costOfMeeting yX0_costOfMeeting, Cond.initialized RX0, Cond.code yX0_costOfMeeting cX0_costOfMeeting 3 (some .int), Cond.fieldLink RX0 16 "TicketCoincidences" "corners" "[I", Cond.methodLink RX0 80 yX0_requirePair, Cond.instanceMethod yX0_requirePair, Cond.selects RX0 yX0_requirePair yX0_requirePair, Cond.code yX0_requirePair cX0_requirePair 3 none, Cond.classLink RX0 51 "java/lang/IllegalArgumentException", Cond.initialized "java/lang/IllegalArgumentException", Cond.methodLink RX0 63 yX0_requireStranger, Cond.instanceMethod yX0_requireStranger, Cond.selects RX0 yX0_requireStranger yX0_requireStranger, Cond.code yX0_requireStranger cX0_requireStranger 2 none, Cond.classLink RX0 157 "java/lang/IndexOutOfBoundsException", Cond.initialized "java/lang/IndexOutOfBoundsException", Cond.fieldLink RX0 22 "TicketCoincidences" "people" "I", Cond.methodLink RX0 73 yX0_costOfWay, Cond.static yX0_costOfWay, Cond.code yX0_costOfWay cX0_costOfWay 3 (some .int)]
def wsL_costOfMeeting_r2 : List Cond := [Cond.methodLink RX0 166 Lib.Math.abs.name, Cond.static Lib.Math.abs.name, Cond.initialized "java/lang/Math", Cond.code Lib.Math.abs.name Lib.Math.abs.code 1 (some .int), Cond.methodLink RX0 171 Lib.Math.min.name, Cond.static Lib.Math.min.name, Cond.code Lib.Math.min.name Lib.Math.min.code 2 (some .int)]
def wsL_costOfMeeting : List Cond := .codeWith yL_costOfMeeting cL_costOfMeeting 5 (some .int) [(0, 10, 13, 21), (0, 10, 17, 13)] :: ((wsL_costOfMeeting_r1 ++ wsL_costOfMeeting_r2) ++ wsX00 ++ (vx_atS RX0 55 "java/lang/IllegalArgumentException" ["java/lang/RuntimeException", "java/lang/Exception"]).filter goodWord ++ (vx_atS RX0 161 "java/lang/IndexOutOfBoundsException" ["java/lang/RuntimeException", "java/lang/Exception"]).filter goodWord)
def wsL_bestCorner_r1 : List Cond := [Cond.classLink RL 21 "java/lang/IndexOutOfBoundsException", Cond.methodLink RL 79 yX0_bestCorner, Cond.instanceMethod yX0_bestCorner, Cond.selects RX0 yX0_bestCorner yX0_bestCorner, Cond.initialized RX0, Cond.code yX0_bestCorner cX0_bestCorner 6 (some .int), Cond.fieldLink RX0 9 "TicketCoincidences" "tickets" "[I", Cond.methodLink RX0 63 yX0_requireStranger, Cond.instanceMethod yX0_requireStranger, Cond.selects RX0 yX0_requireStranger yX0_requireStranger, Cond.code yX0_requireStranger cX0_requireStranger 2 none, Cond.classLink RX0 157 "java/lang/IndexOutOfBoundsException", Cond.initialized "java/lang/IndexOutOfBoundsException", Cond.fieldLink RX0 22 "TicketCoincidences" "people" "I", Cond.methodLink RX0 122 yX0_luckWith, Cond.instanceMethod yX0_luckWith, Cond.selects RX0 yX0_luckWith yX0_luckWith, Cond.code yX0_luckWith cX0_luckWith 6 (some .int), Cond.fieldLink RX0 16 "TicketCoincidences" "corners" "[I", Cond.fieldLink RX0 13 "TicketCoincidences" "colours" "[I", Cond.methodLink RX0 180 yX0_pointsOfTickets, Cond.static yX0_pointsOfTickets, Cond.code yX0_pointsOfTickets cX0_pointsOfTickets 3 (some .int), Cond.methodLink RX0 166 Lib.Math.abs.name]
def wsL_bestCorner_r2 : List Cond := [Cond.static Lib.Math.abs.name, Cond.initialized "java/lang/Math", Cond.code Lib.Math.abs.name Lib.Math.abs.code 1 (some .int), Cond.methodLink RX0 177 yX0_figureSum, Cond.static yX0_figureSum, Cond.code yX0_figureSum cX0_figureSum 1 (some .int), Cond.methodLink RX0 110 yX0_mirrored, Cond.static yX0_mirrored, Cond.code yX0_mirrored cX0_mirrored 2 (some .boolean), Cond.methodLink RX0 183 yX0_pointsOfColours, Cond.static yX0_pointsOfColours, Cond.code yX0_pointsOfColours cX0_pointsOfColours 2 (some .int)]
def wsL_bestCorner : List Cond := .codeWith yL_bestCorner cL_bestCorner 4 (some .int) [(0, 9, 12, 21)] :: ((wsL_bestCorner_r1 ++ wsL_bestCorner_r2) ++ wsX00 ++ (vx_atS RX0 161 "java/lang/IndexOutOfBoundsException" ["java/lang/RuntimeException", "java/lang/Exception"]).filter goodWord)
def wsL_bestTicket_r1 : List Cond := [Cond.classLink RL 21 "java/lang/IndexOutOfBoundsException", Cond.methodLink RL 82 yX0_bestTicket, Cond.instanceMethod yX0_bestTicket, Cond.selects RX0 yX0_bestTicket yX0_bestTicket, Cond.initialized RX0, Cond.code yX0_bestTicket cX0_bestTicket 6 (some .int), Cond.fieldLink RX0 16 "TicketCoincidences" "corners" "[I", Cond.methodLink RX0 63 yX0_requireStranger, Cond.instanceMethod yX0_requireStranger, Cond.selects RX0 yX0_requireStranger yX0_requireStranger, Cond.code yX0_requireStranger cX0_requireStranger 2 none, Cond.classLink RX0 157 "java/lang/IndexOutOfBoundsException", Cond.initialized "java/lang/IndexOutOfBoundsException", Cond.fieldLink RX0 22 "TicketCoincidences" "people" "I", Cond.methodLink RX0 122 yX0_luckWith, Cond.instanceMethod yX0_luckWith, Cond.selects RX0 yX0_luckWith yX0_luckWith, Cond.code yX0_luckWith cX0_luckWith 6 (some .int), Cond.fieldLink RX0 9 "TicketCoincidences" "tickets" "[I", Cond.fieldLink RX0 13 "TicketCoincidences" "colours" "[I", Cond.methodLink RX0 180 yX0_pointsOfTickets, Cond.static yX0_pointsOfTickets, Cond.code yX0_pointsOfTickets cX0_pointsOfTickets 3 (some .int), Cond.methodLink RX0 166 Lib.Math.abs.name]
def wsL_bestTicket_r2 : List Cond := [Cond.static Lib.Math.abs.name, Cond.initialized "java/lang/Math", Cond.code Lib.Math.abs.name Lib.Math.abs.code 1 (some .int), Cond.methodLink RX0 177 yX0_figureSum, Cond.static yX0_figureSum, Cond.code yX0_figureSum cX0_figureSum 1 (some .int), Cond.methodLink RX0 110 yX0_mirrored, Cond.static yX0_mirrored, Cond.code yX0_mirrored cX0_mirrored 2 (some .boolean), Cond.methodLink RX0 183 yX0_pointsOfColours, Cond.static yX0_pointsOfColours, Cond.code yX0_pointsOfColours cX0_pointsOfColours 2 (some .int)]
def wsL_bestTicket : List Cond := .codeWith yL_bestTicket cL_bestTicket 4 (some .int) [(0, 9, 12, 21)] :: ((wsL_bestTicket_r1 ++ wsL_bestTicket_r2) ++ wsX00 ++ (vx_atS RX0 161 "java/lang/IndexOutOfBoundsException" ["java/lang/RuntimeException", "java/lang/Exception"]).filter goodWord)
def wsL_law0_r1 : List Cond := [Cond.classLink RL 8 RX0, Cond.instantiable RX0 9, Cond.initialized RX0, Cond.classLink RL 86 RX1, Cond.instantiable RX1 10, Cond.initialized RX1, Cond.arrayClass .long, Cond.methodLink RL 85 yX0_init, Cond.instanceMethod yX0_init, Cond.code yX0_init cX0_init 1 none, Cond.methodLink RX0 1 objectInit, Cond.instanceMethod objectInit, Cond.code objectInit ⟨#[0xb1]⟩ 1 none, Cond.arrayClass .int, Cond.fieldLink RX0 9 "TicketCoincidences" "tickets" "[I", Cond.fieldLink RX0 13 "TicketCoincidences" "colours" "[I", Cond.fieldLink RX0 16 "TicketCoincidences" "corners" "[I", Cond.fieldLink RX0 19 "TicketCoincidences" "walks" "[I", Cond.fieldLink RX0 22 "TicketCoincidences" "people" "I", Cond.fieldLink RX0 26 "TicketCoincidences" "hourNow" "I", Cond.fieldLink RX0 29 "TicketCoincidences" "inStore" "I", Cond.fieldLink RX0 32 "TicketCoincidences" "countedInAll" "I", Cond.fieldLink RX0 35 "TicketCoincidences" "spentInAll" "I", Cond.methodLink RL 88 yX1_init]
def wsL_law0_r2 : List Cond := [Cond.instanceMethod yX1_init, Cond.code yX1_init cX1_init 1 none, Cond.methodLink RX1 1 objectInit, Cond.fieldLink RX1 9 "TicketCoincidencesModel" "ticket" "[I", Cond.fieldLink RX1 13 "TicketCoincidencesModel" "colour" "[I", Cond.fieldLink RX1 16 "TicketCoincidencesModel" "corner" "[I", Cond.fieldLink RX1 19 "TicketCoincidencesModel" "walk" "[I", Cond.fieldLink RX1 22 "TicketCoincidencesModel" "store" "I", Cond.methodLink RL 89 yL_addStranger, Cond.static yL_addStranger, Cond.initialized RL, Cond.codeWith yL_addStranger cL_addStranger 7 (some .int) [(0, 14, 17, 13), (0, 14, 21, 15)], Cond.classLink RL 13 "java/lang/IllegalArgumentException", Cond.classLink RL 15 "java/lang/IllegalStateException", Cond.methodLink RL 7 yX0_addStranger, Cond.instanceMethod yX0_addStranger, Cond.selects RX0 yX0_addStranger yX0_addStranger, Cond.code yX0_addStranger cX0_addStranger 6 (some .int), Cond.classLink RX0 51 "java/lang/IllegalArgumentException", Cond.initialized "java/lang/IllegalArgumentException", Cond.classLink RX0 58 "java/lang/IllegalStateException", Cond.initialized "java/lang/IllegalStateException", Cond.methodLink RX0 38 yX0_isTicket, Cond.static yX0_isTicket]
def wsL_law0_r3 : List Cond := [Cond.code yX0_isTicket cX0_isTicket 1 (some .boolean), Cond.methodLink RX0 42 yX0_isColour, Cond.static yX0_isColour, Cond.code yX0_isColour cX0_isColour 1 (some .boolean), Cond.methodLink RX0 45 yX0_isCorner, Cond.static yX0_isCorner, Cond.code yX0_isCorner cX0_isCorner 1 (some .boolean), Cond.methodLink RX0 48 yX0_isWalk, Cond.static yX0_isWalk, Cond.code yX0_isWalk cX0_isWalk 1 (some .boolean), Cond.methodLink RL 94 yX1_addStranger, Cond.instanceMethod yX1_addStranger, Cond.selects RX1 yX1_addStranger yX1_addStranger, Cond.code yX1_addStranger cX1_addStranger 5 (some .int), Cond.fieldLink RX1 26 "TicketCoincidencesModel" "thrown" "I", Cond.fieldLink RX1 29 "TicketCoincidencesModel" "people" "I", Cond.methodLink RX1 32 yX1_isIn, Cond.static yX1_isIn, Cond.code yX1_isIn cX1_isIn 3 (some .boolean), Cond.methodLink RX1 59 yX1_isCorner, Cond.static yX1_isCorner, Cond.code yX1_isCorner cX1_isCorner 1 (some .boolean), Cond.methodLink RX1 63 yX1_no, Cond.instanceMethod yX1_no]
def wsL_law0_r4 : List Cond := [Cond.selects RX1 yX1_no yX1_no, Cond.code yX1_no cX1_no 2 (some .int), Cond.methodLink RL 95 yX1_thrown, Cond.instanceMethod yX1_thrown, Cond.selects RX1 yX1_thrown yX1_thrown, Cond.code yX1_thrown cX1_thrown 1 (some .int), Cond.methodLink RL 99 yL_setWalk, Cond.static yL_setWalk, Cond.codeWith yL_setWalk cL_setWalk 5 (some .int) [(0, 10, 13, 21), (0, 10, 17, 13)], Cond.classLink RL 21 "java/lang/IndexOutOfBoundsException", Cond.methodLink RL 17 yX0_setWalk, Cond.instanceMethod yX0_setWalk, Cond.selects RX0 yX0_setWalk yX0_setWalk, Cond.code yX0_setWalk cX0_setWalk 4 (some .int), Cond.methodLink RX0 63 yX0_requireStranger, Cond.instanceMethod yX0_requireStranger, Cond.selects RX0 yX0_requireStranger yX0_requireStranger, Cond.code yX0_requireStranger cX0_requireStranger 2 none, Cond.classLink RX0 157 "java/lang/IndexOutOfBoundsException", Cond.initialized "java/lang/IndexOutOfBoundsException", Cond.methodLink RL 102 yX1_setWalk, Cond.instanceMethod yX1_setWalk, Cond.selects RX1 yX1_setWalk yX1_setWalk, Cond.code yX1_setWalk cX1_setWalk 4 (some .int)]
def wsL_law0_r5 : List Cond := [Cond.methodLink RX1 66 yX1_isOne, Cond.instanceMethod yX1_isOne, Cond.selects RX1 yX1_isOne yX1_isOne, Cond.code yX1_isOne cX1_isOne 2 (some .boolean), Cond.methodLink RL 103 yL_move, Cond.static yL_move, Cond.codeWith yL_move cL_move 5 (some .int) [(0, 10, 13, 21), (0, 10, 17, 13), (0, 10, 21, 15)], Cond.methodLink RL 23 yX0_move, Cond.instanceMethod yX0_move, Cond.selects RX0 yX0_move yX0_move, Cond.code yX0_move cX0_move 4 (some .int), Cond.methodLink RX0 73 yX0_costOfWay, Cond.static yX0_costOfWay, Cond.code yX0_costOfWay cX0_costOfWay 3 (some .int), Cond.methodLink RX0 166 Lib.Math.abs.name, Cond.static Lib.Math.abs.name, Cond.initialized "java/lang/Math", Cond.code Lib.Math.abs.name Lib.Math.abs.code 1 (some .int), Cond.methodLink RX0 171 Lib.Math.min.name, Cond.static Lib.Math.min.name, Cond.code Lib.Math.min.name Lib.Math.min.code 2 (some .int), Cond.methodLink RX0 77 yX0_pay, Cond.instanceMethod yX0_pay, Cond.selects RX0 yX0_pay yX0_pay]
def wsL_law0_r6 : List Cond := [Cond.code yX0_pay cX0_pay 2 none, Cond.methodLink RL 105 yX1_move, Cond.instanceMethod yX1_move, Cond.selects RX1 yX1_move yX1_move, Cond.code yX1_move cX1_move 4 (some .int), Cond.methodLink RX1 72 yX1_apart, Cond.static yX1_apart, Cond.code yX1_apart cX1_apart 3 (some .int), Cond.methodLink RX1 50 Lib.Math.abs.name, Cond.methodLink RX1 56 Lib.Math.min.name, Cond.methodLink RX1 75 yX1_pay, Cond.instanceMethod yX1_pay, Cond.selects RX1 yX1_pay yX1_pay, Cond.code yX1_pay cX1_pay 2 (some .int), Cond.fieldLink RX1 69 "TicketCoincidencesModel" "spent" "I", Cond.methodLink RL 106 yL_swapUmbrellas, Cond.static yL_swapUmbrellas, Cond.codeWith yL_swapUmbrellas cL_swapUmbrellas 5 (some .int) [(0, 10, 13, 21), (0, 10, 17, 13), (0, 10, 21, 15)], Cond.methodLink RL 26 yX0_swapUmbrellas, Cond.instanceMethod yX0_swapUmbrellas, Cond.selects RX0 yX0_swapUmbrellas yX0_swapUmbrellas, Cond.code yX0_swapUmbrellas cX0_swapUmbrellas 4 (some .int), Cond.methodLink RX0 80 yX0_requirePair, Cond.instanceMethod yX0_requirePair]
def wsL_law0_r7 : List Cond := [Cond.selects RX0 yX0_requirePair yX0_requirePair, Cond.code yX0_requirePair cX0_requirePair 3 none, Cond.methodLink RX0 86 yX0_townBehind, Cond.instanceMethod yX0_townBehind, Cond.selects RX0 yX0_townBehind yX0_townBehind, Cond.code yX0_townBehind cX0_townBehind 5 (some .int), Cond.methodLink RX0 119 yX0_cornerBehind, Cond.instanceMethod yX0_cornerBehind, Cond.selects RX0 yX0_cornerBehind yX0_cornerBehind, Cond.code yX0_cornerBehind cX0_cornerBehind 3 (some .int), Cond.methodLink RX0 107 yX0_pointsOfPair, Cond.instanceMethod yX0_pointsOfPair, Cond.selects RX0 yX0_pointsOfPair yX0_pointsOfPair, Cond.code yX0_pointsOfPair cX0_pointsOfPair 3 (some .int), Cond.methodLink RX0 180 yX0_pointsOfTickets, Cond.static yX0_pointsOfTickets, Cond.code yX0_pointsOfTickets cX0_pointsOfTickets 3 (some .int), Cond.methodLink RX0 177 yX0_figureSum, Cond.static yX0_figureSum, Cond.code yX0_figureSum cX0_figureSum 1 (some .int), Cond.methodLink RX0 110 yX0_mirrored, Cond.static yX0_mirrored, Cond.code yX0_mirrored cX0_mirrored 2 (some .boolean), Cond.methodLink RX0 183 yX0_pointsOfColours]
def wsL_law0_r8 : List Cond := [Cond.static yX0_pointsOfColours, Cond.code yX0_pointsOfColours cX0_pointsOfColours 2 (some .int), Cond.methodLink RX0 90 yX0_exchange, Cond.static yX0_exchange, Cond.code yX0_exchange cX0_exchange 4 none, Cond.methodLink RL 108 yX1_swapUmbrellas, Cond.instanceMethod yX1_swapUmbrellas, Cond.selects RX1 yX1_swapUmbrellas yX1_swapUmbrellas, Cond.code yX1_swapUmbrellas cX1_swapUmbrellas 3 (some .int), Cond.methodLink RX1 86 yX1_wrongPair, Cond.instanceMethod yX1_wrongPair, Cond.selects RX1 yX1_wrongPair yX1_wrongPair, Cond.code yX1_wrongPair cX1_wrongPair 3 (some .int), Cond.methodLink RX1 89 yX1_swapped, Cond.instanceMethod yX1_swapped, Cond.selects RX1 yX1_swapped yX1_swapped, Cond.code yX1_swapped cX1_swapped 5 (some .int), Cond.methodLink RX1 78 yX1_here, Cond.instanceMethod yX1_here, Cond.selects RX1 yX1_here yX1_here, Cond.code yX1_here cX1_here 1 (some .int), Cond.methodLink RX1 47 yX1_town, Cond.instanceMethod yX1_town, Cond.selects RX1 yX1_town yX1_town]
def wsL_law0_r9 : List Cond := [Cond.code yX1_town cX1_town 6 (some .int), Cond.methodLink RX1 40 yX1_cornerIn, Cond.instanceMethod yX1_cornerIn, Cond.selects RX1 yX1_cornerIn yX1_cornerIn, Cond.code yX1_cornerIn cX1_cornerIn 3 (some .int), Cond.methodLink RX1 44 yX1_points, Cond.instanceMethod yX1_points, Cond.selects RX1 yX1_points yX1_points, Cond.code yX1_points cX1_points 6 (some .int), Cond.methodLink RX1 36 yX1_isMirror, Cond.static yX1_isMirror, Cond.code yX1_isMirror cX1_isMirror 2 (some .boolean), Cond.methodLink RX1 82 yX1_swap, Cond.static yX1_swap, Cond.code yX1_swap cX1_swap 4 none, Cond.methodLink RL 109 yL_swapTickets, Cond.static yL_swapTickets, Cond.codeWith yL_swapTickets cL_swapTickets 5 (some .int) [(0, 10, 13, 21), (0, 10, 17, 13), (0, 10, 21, 15)], Cond.methodLink RL 29 yX0_swapTickets, Cond.instanceMethod yX0_swapTickets, Cond.selects RX0 yX0_swapTickets yX0_swapTickets, Cond.code yX0_swapTickets cX0_swapTickets 4 (some .int), Cond.methodLink RL 111 yX1_swapTickets, Cond.instanceMethod yX1_swapTickets]
def wsL_law0_r10 : List Cond := [Cond.selects RX1 yX1_swapTickets yX1_swapTickets, Cond.code yX1_swapTickets cX1_swapTickets 3 (some .int), Cond.methodLink RL 112 yL_draw, Cond.static yL_draw, Cond.codeWith yL_draw cL_draw 5 (some .int) [(0, 10, 13, 21), (0, 10, 17, 13), (0, 10, 21, 15)], Cond.methodLink RL 32 yX0_draw, Cond.instanceMethod yX0_draw, Cond.selects RX0 yX0_draw yX0_draw, Cond.code yX0_draw cX0_draw 4 (some .int), Cond.methodLink RL 114 yX1_draw, Cond.instanceMethod yX1_draw, Cond.selects RX1 yX1_draw yX1_draw, Cond.code yX1_draw cX1_draw 4 (some .int), Cond.methodLink RL 115 yL_pass, Cond.static yL_pass, Cond.codeWith yL_pass cL_pass 4 (some .int) [(0, 9, 12, 13)], Cond.methodLink RL 35 yX0_pass, Cond.instanceMethod yX0_pass, Cond.selects RX0 yX0_pass yX0_pass, Cond.code yX0_pass cX0_pass 4 (some .int), Cond.methodLink RX0 98 yX0_passOneHour, Cond.instanceMethod yX0_passOneHour, Cond.selects RX0 yX0_passOneHour yX0_passOneHour, Cond.code yX0_passOneHour cX0_passOneHour 2 none]
def wsL_law0_r11 : List Cond := [Cond.methodLink RX0 174 yX0_emptyCorners, Cond.instanceMethod yX0_emptyCorners, Cond.selects RX0 yX0_emptyCorners yX0_emptyCorners, Cond.code yX0_emptyCorners cX0_emptyCorners 3 (some .int), Cond.methodLink RX0 104 yX0_crowdAt, Cond.instanceMethod yX0_crowdAt, Cond.selects RX0 yX0_crowdAt yX0_crowdAt, Cond.code yX0_crowdAt cX0_crowdAt 4 (some .int), Cond.methodLink RL 118 yX1_pass, Cond.instanceMethod yX1_pass, Cond.selects RX1 yX1_pass yX1_pass, Cond.code yX1_pass cX1_pass 4 (some .int), Cond.fieldLink RX1 93 "TicketCoincidencesModel" "counted" "I", Cond.methodLink RX1 102 yX1_goOn, Cond.instanceMethod yX1_goOn, Cond.selects RX1 yX1_goOn yX1_goOn, Cond.code yX1_goOn cX1_goOn 2 none, Cond.fieldLink RX1 99 "TicketCoincidencesModel" "hour" "I", Cond.methodLink RX1 96 yX1_at, Cond.instanceMethod yX1_at, Cond.selects RX1 yX1_at yX1_at, Cond.code yX1_at cX1_at 4 (some .int), Cond.methodLink RL 119 yX0_strangers, Cond.instanceMethod yX0_strangers]
def wsL_law0_r12 : List Cond := [Cond.selects RX0 yX0_strangers yX0_strangers, Cond.code yX0_strangers cX0_strangers 1 (some .int), Cond.methodLink RL 122 yX1_strangers, Cond.instanceMethod yX1_strangers, Cond.selects RX1 yX1_strangers yX1_strangers, Cond.code yX1_strangers cX1_strangers 1 (some .int), Cond.methodLink RX1 105 yX1_ok, Cond.instanceMethod yX1_ok, Cond.selects RX1 yX1_ok yX1_ok, Cond.code yX1_ok cX1_ok 2 (some .int), Cond.methodLink RL 123 yX0_hour, Cond.instanceMethod yX0_hour, Cond.selects RX0 yX0_hour yX0_hour, Cond.code yX0_hour cX0_hour 1 (some .int), Cond.methodLink RL 126 yX1_hour, Cond.instanceMethod yX1_hour, Cond.selects RX1 yX1_hour yX1_hour, Cond.code yX1_hour cX1_hour 1 (some .int), Cond.methodLink RL 127 yX0_store, Cond.instanceMethod yX0_store, Cond.selects RX0 yX0_store yX0_store, Cond.code yX0_store cX0_store 1 (some .int), Cond.methodLink RL 130 yX1_store, Cond.instanceMethod yX1_store]
def wsL_law0_r13 : List Cond := [Cond.selects RX1 yX1_store yX1_store, Cond.code yX1_store cX1_store 1 (some .int), Cond.methodLink RL 131 yX0_counted, Cond.instanceMethod yX0_counted, Cond.selects RX0 yX0_counted yX0_counted, Cond.code yX0_counted cX0_counted 1 (some .int), Cond.methodLink RL 134 yX1_counted, Cond.instanceMethod yX1_counted, Cond.selects RX1 yX1_counted yX1_counted, Cond.code yX1_counted cX1_counted 1 (some .int), Cond.methodLink RL 135 yX0_spent, Cond.instanceMethod yX0_spent, Cond.selects RX0 yX0_spent yX0_spent, Cond.code yX0_spent cX0_spent 1 (some .int), Cond.methodLink RL 138 yX1_spent, Cond.instanceMethod yX1_spent, Cond.selects RX1 yX1_spent yX1_spent, Cond.code yX1_spent cX1_spent 1 (some .int), Cond.methodLink RL 139 yL_ticketOf, Cond.static yL_ticketOf, Cond.codeWith yL_ticketOf cL_ticketOf 4 (some .int) [(0, 9, 12, 21)], Cond.methodLink RL 39 yX0_ticketOf, Cond.instanceMethod yX0_ticketOf, Cond.selects RX0 yX0_ticketOf yX0_ticketOf]
def wsL_law0_r14 : List Cond := [Cond.code yX0_ticketOf cX0_ticketOf 2 (some .int), Cond.methodLink RL 141 yX1_ticketOf, Cond.instanceMethod yX1_ticketOf, Cond.selects RX1 yX1_ticketOf yX1_ticketOf, Cond.code yX1_ticketOf cX1_ticketOf 2 (some .int), Cond.methodLink RX1 108 yX1_of, Cond.instanceMethod yX1_of, Cond.selects RX1 yX1_of yX1_of, Cond.code yX1_of cX1_of 3 (some .int), Cond.methodLink RL 142 yL_colourOf, Cond.static yL_colourOf, Cond.codeWith yL_colourOf cL_colourOf 4 (some .int) [(0, 9, 12, 21)], Cond.methodLink RL 42 yX0_colourOf, Cond.instanceMethod yX0_colourOf, Cond.selects RX0 yX0_colourOf yX0_colourOf, Cond.code yX0_colourOf cX0_colourOf 2 (some .int), Cond.methodLink RL 144 yX1_colourOf, Cond.instanceMethod yX1_colourOf, Cond.selects RX1 yX1_colourOf yX1_colourOf, Cond.code yX1_colourOf cX1_colourOf 2 (some .int), Cond.methodLink RL 145 yL_cornerOf, Cond.static yL_cornerOf, Cond.codeWith yL_cornerOf cL_cornerOf 4 (some .int) [(0, 9, 12, 21)], Cond.methodLink RL 45 yX0_cornerOf]
def wsL_law0_r15 : List Cond := [Cond.instanceMethod yX0_cornerOf, Cond.selects RX0 yX0_cornerOf yX0_cornerOf, Cond.code yX0_cornerOf cX0_cornerOf 2 (some .int), Cond.methodLink RL 147 yX1_cornerOf, Cond.instanceMethod yX1_cornerOf, Cond.selects RX1 yX1_cornerOf yX1_cornerOf, Cond.code yX1_cornerOf cX1_cornerOf 2 (some .int), Cond.methodLink RL 148 yL_walkOf, Cond.static yL_walkOf, Cond.codeWith yL_walkOf cL_walkOf 4 (some .int) [(0, 9, 12, 21)], Cond.methodLink RL 48 yX0_walkOf, Cond.instanceMethod yX0_walkOf, Cond.selects RX0 yX0_walkOf yX0_walkOf, Cond.code yX0_walkOf cX0_walkOf 2 (some .int), Cond.methodLink RL 150 yX1_walkOf, Cond.instanceMethod yX1_walkOf, Cond.selects RX1 yX1_walkOf yX1_walkOf, Cond.code yX1_walkOf cX1_walkOf 2 (some .int), Cond.methodLink RL 151 yL_peopleAt, Cond.static yL_peopleAt, Cond.codeWith yL_peopleAt cL_peopleAt 4 (some .int) [(0, 9, 12, 21)], Cond.methodLink RL 51 yX0_peopleAt, Cond.instanceMethod yX0_peopleAt, Cond.selects RX0 yX0_peopleAt yX0_peopleAt]
def wsL_law0_r16 : List Cond := [Cond.code yX0_peopleAt cX0_peopleAt 2 (some .int), Cond.methodLink RX0 101 yX0_requireCorner, Cond.static yX0_requireCorner, Cond.code yX0_requireCorner cX0_requireCorner 1 none, Cond.methodLink RL 153 yX1_peopleAt, Cond.instanceMethod yX1_peopleAt, Cond.selects RX1 yX1_peopleAt yX1_peopleAt, Cond.code yX1_peopleAt cX1_peopleAt 2 (some .int), Cond.methodLink RL 154 yL_pointsOf, Cond.static yL_pointsOf, Cond.codeWith yL_pointsOf cL_pointsOf 5 (some .int) [(0, 10, 13, 21), (0, 10, 17, 13)], Cond.methodLink RL 54 yX0_pointsOf, Cond.instanceMethod yX0_pointsOf, Cond.selects RX0 yX0_pointsOf yX0_pointsOf, Cond.code yX0_pointsOf cX0_pointsOf 3 (some .int), Cond.methodLink RL 156 yX1_pointsOf, Cond.instanceMethod yX1_pointsOf, Cond.selects RX1 yX1_pointsOf yX1_pointsOf, Cond.code yX1_pointsOf cX1_pointsOf 3 (some .int), Cond.methodLink RL 157 yL_areTogether, Cond.static yL_areTogether, Cond.codeWith yL_areTogether cL_areTogether 5 (some .int) [(0, 17, 20, 21), (0, 17, 24, 13)], Cond.methodLink RL 57 yX0_areTogether, Cond.instanceMethod yX0_areTogether]
def wsL_law0_r17 : List Cond := [Cond.selects RX0 yX0_areTogether yX0_areTogether, Cond.code yX0_areTogether cX0_areTogether 3 (some .boolean), Cond.methodLink RL 159 yX1_areTogether, Cond.instanceMethod yX1_areTogether, Cond.selects RX1 yX1_areTogether yX1_areTogether, Cond.code yX1_areTogether cX1_areTogether 3 (some .boolean), Cond.methodLink RL 160 yL_areMirrored, Cond.static yL_areMirrored, Cond.codeWith yL_areMirrored cL_areMirrored 5 (some .int) [(0, 17, 20, 21), (0, 17, 24, 13)], Cond.methodLink RL 61 yX0_areMirrored, Cond.instanceMethod yX0_areMirrored, Cond.selects RX0 yX0_areMirrored yX0_areMirrored, Cond.code yX0_areMirrored cX0_areMirrored 3 (some .boolean), Cond.methodLink RL 162 yX1_areMirrored, Cond.instanceMethod yX1_areMirrored, Cond.selects RX1 yX1_areMirrored yX1_areMirrored, Cond.code yX1_areMirrored cX1_areMirrored 3 (some .boolean), Cond.methodLink RL 163 yX0_coincidences, Cond.instanceMethod yX0_coincidences, Cond.selects RX0 yX0_coincidences yX0_coincidences, Cond.code yX0_coincidences cX0_coincidences 1 (some .int), Cond.methodLink RL 166 yX1_coincidences, Cond.instanceMethod yX1_coincidences, Cond.selects RX1 yX1_coincidences yX1_coincidences]
def wsL_law0_r18 : List Cond := [Cond.code yX1_coincidences cX1_coincidences 1 (some .int), Cond.methodLink RL 167 yL_coincidencesAt, Cond.static yL_coincidencesAt, Cond.codeWith yL_coincidencesAt cL_coincidencesAt 4 (some .int) [(0, 9, 12, 21)], Cond.methodLink RL 64 yX0_coincidencesAt, Cond.instanceMethod yX0_coincidencesAt, Cond.selects RX0 yX0_coincidencesAt yX0_coincidencesAt, Cond.code yX0_coincidencesAt cX0_coincidencesAt 5 (some .int), Cond.methodLink RL 169 yX1_coincidencesAt, Cond.instanceMethod yX1_coincidencesAt, Cond.selects RX1 yX1_coincidencesAt yX1_coincidencesAt, Cond.code yX1_coincidencesAt cX1_coincidencesAt 2 (some .int), Cond.methodLink RL 170 yL_luckOf, Cond.static yL_luckOf, Cond.codeWith yL_luckOf cL_luckOf 4 (some .int) [(0, 9, 12, 21)], Cond.methodLink RL 67 yX0_luckOf, Cond.instanceMethod yX0_luckOf, Cond.selects RX0 yX0_luckOf yX0_luckOf, Cond.code yX0_luckOf cX0_luckOf 2 (some .int), Cond.methodLink RX0 114 yX0_luckNow, Cond.instanceMethod yX0_luckNow, Cond.selects RX0 yX0_luckNow yX0_luckNow, Cond.code yX0_luckNow cX0_luckNow 2 (some .int), Cond.methodLink RX0 122 yX0_luckWith]
def wsL_law0_r19 : List Cond := [Cond.instanceMethod yX0_luckWith, Cond.selects RX0 yX0_luckWith yX0_luckWith, Cond.code yX0_luckWith cX0_luckWith 6 (some .int), Cond.methodLink RL 172 yX1_luckOf, Cond.instanceMethod yX1_luckOf, Cond.selects RX1 yX1_luckOf yX1_luckOf, Cond.code yX1_luckOf cX1_luckOf 2 (some .int), Cond.methodLink RX1 112 yX1_luck, Cond.instanceMethod yX1_luck, Cond.selects RX1 yX1_luck yX1_luck, Cond.code yX1_luck cX1_luck 4 (some .int), Cond.methodLink RL 173 yX0_luckiestPair, Cond.instanceMethod yX0_luckiestPair, Cond.selects RX0 yX0_luckiestPair yX0_luckiestPair, Cond.code yX0_luckiestPair cX0_luckiestPair 6 (some .int), Cond.methodLink RL 176 yX1_luckiestPair, Cond.instanceMethod yX1_luckiestPair, Cond.selects RX1 yX1_luckiestPair yX1_luckiestPair, Cond.code yX1_luckiestPair cX1_luckiestPair 1 (some .int), Cond.methodLink RX1 115 yX1_luckiest, Cond.instanceMethod yX1_luckiest, Cond.selects RX1 yX1_luckiest yX1_luckiest, Cond.code yX1_luckiest cX1_luckiest 5 (some .int), Cond.methodLink RL 177 yL_coincidencesIn]
def wsL_law0_r20 : List Cond := [Cond.static yL_coincidencesIn, Cond.codeWith yL_coincidencesIn cL_coincidencesIn 4 (some .int) [(0, 9, 12, 13)], Cond.methodLink RL 70 yX0_coincidencesIn, Cond.instanceMethod yX0_coincidencesIn, Cond.selects RX0 yX0_coincidencesIn yX0_coincidencesIn, Cond.code yX0_coincidencesIn cX0_coincidencesIn 2 (some .int), Cond.methodLink RL 179 yX1_coincidencesIn, Cond.instanceMethod yX1_coincidencesIn, Cond.selects RX1 yX1_coincidencesIn yX1_coincidencesIn, Cond.code yX1_coincidencesIn cX1_coincidencesIn 2 (some .int), Cond.methodLink RL 180 yL_hoursUntilTogether, Cond.static yL_hoursUntilTogether, Cond.codeWith yL_hoursUntilTogether cL_hoursUntilTogether 5 (some .int) [(0, 10, 13, 21), (0, 10, 17, 13)], Cond.methodLink RL 73 yX0_hoursUntilTogether, Cond.instanceMethod yX0_hoursUntilTogether, Cond.selects RX0 yX0_hoursUntilTogether yX0_hoursUntilTogether, Cond.code yX0_hoursUntilTogether cX0_hoursUntilTogether 4 (some .int), Cond.methodLink RL 182 yX1_hoursUntilTogether, Cond.instanceMethod yX1_hoursUntilTogether, Cond.selects RX1 yX1_hoursUntilTogether yX1_hoursUntilTogether, Cond.code yX1_hoursUntilTogether cX1_hoursUntilTogether 3 (some .int), Cond.methodLink RX1 118 yX1_untilTogether, Cond.instanceMethod yX1_untilTogether, Cond.selects RX1 yX1_untilTogether yX1_untilTogether]
def wsL_law0_r21 : List Cond := [Cond.code yX1_untilTogether cX1_untilTogether 4 (some .int), Cond.methodLink RL 183 yL_costOfMeeting, Cond.static yL_costOfMeeting, Cond.codeWith yL_costOfMeeting cL_costOfMeeting 5 (some .int) [(0, 10, 13, 21), (0, 10, 17, 13)], Cond.methodLink RL 76 yX0_costOfMeeting, Cond.instanceMethod yX0_costOfMeeting, Cond.selects RX0 yX0_costOfMeeting yX0_costOfMeeting, Cond.code yX0_costOfMeeting cX0_costOfMeeting 3 (some .int), Cond.methodLink RL 185 yX1_costOfMeeting, Cond.instanceMethod yX1_costOfMeeting, Cond.selects RX1 yX1_costOfMeeting yX1_costOfMeeting, Cond.code yX1_costOfMeeting cX1_costOfMeeting 3 (some .int), Cond.methodLink RL 186 yX0_bestHour, Cond.instanceMethod yX0_bestHour, Cond.selects RX0 yX0_bestHour yX0_bestHour, Cond.code yX0_bestHour cX0_bestHour 5 (some .int), Cond.methodLink RL 189 yX1_bestHour, Cond.instanceMethod yX1_bestHour, Cond.selects RX1 yX1_bestHour yX1_bestHour, Cond.code yX1_bestHour cX1_bestHour 1 (some .int), Cond.methodLink RX1 121 yX1_hourOfMost, Cond.instanceMethod yX1_hourOfMost, Cond.selects RX1 yX1_hourOfMost yX1_hourOfMost, Cond.code yX1_hourOfMost cX1_hourOfMost 3 (some .int)]
def wsL_law0_r22 : List Cond := [Cond.methodLink RL 190 yL_bestCorner, Cond.static yL_bestCorner, Cond.codeWith yL_bestCorner cL_bestCorner 4 (some .int) [(0, 9, 12, 21)], Cond.methodLink RL 79 yX0_bestCorner, Cond.instanceMethod yX0_bestCorner, Cond.selects RX0 yX0_bestCorner yX0_bestCorner, Cond.code yX0_bestCorner cX0_bestCorner 6 (some .int), Cond.methodLink RL 192 yX1_bestCorner, Cond.instanceMethod yX1_bestCorner, Cond.selects RX1 yX1_bestCorner yX1_bestCorner, Cond.code yX1_bestCorner cX1_bestCorner 2 (some .int), Cond.methodLink RX1 124 yX1_bestOf, Cond.instanceMethod yX1_bestOf, Cond.selects RX1 yX1_bestOf yX1_bestOf, Cond.code yX1_bestOf cX1_bestOf 9 (some .int), Cond.methodLink RL 193 yX0_bestSwap, Cond.instanceMethod yX0_bestSwap, Cond.selects RX0 yX0_bestSwap yX0_bestSwap, Cond.code yX0_bestSwap cX0_bestSwap 6 (some .int), Cond.methodLink RX0 126 yX0_townIfSwapped, Cond.instanceMethod yX0_townIfSwapped, Cond.selects RX0 yX0_townIfSwapped yX0_townIfSwapped, Cond.code yX0_townIfSwapped cX0_townIfSwapped 4 (some .int), Cond.methodLink RL 196 yX1_bestSwap]
def wsL_law0_r23 : List Cond := [Cond.instanceMethod yX1_bestSwap, Cond.selects RX1 yX1_bestSwap yX1_bestSwap, Cond.code yX1_bestSwap cX1_bestSwap 1 (some .int), Cond.methodLink RX1 127 yX1_swapOfMost, Cond.instanceMethod yX1_swapOfMost, Cond.selects RX1 yX1_swapOfMost yX1_swapOfMost, Cond.code yX1_swapOfMost cX1_swapOfMost 6 (some .int), Cond.methodLink RL 197 yL_bestTicket, Cond.static yL_bestTicket, Cond.codeWith yL_bestTicket cL_bestTicket 4 (some .int) [(0, 9, 12, 21)], Cond.methodLink RL 82 yX0_bestTicket, Cond.instanceMethod yX0_bestTicket, Cond.selects RX0 yX0_bestTicket yX0_bestTicket, Cond.code yX0_bestTicket cX0_bestTicket 6 (some .int), Cond.methodLink RL 199 yX1_bestTicket, Cond.instanceMethod yX1_bestTicket, Cond.selects RX1 yX1_bestTicket yX1_bestTicket, Cond.code yX1_bestTicket cX1_bestTicket 2 (some .int), Cond.methodLink RL 200 yX0_meanLuck, Cond.instanceMethod yX0_meanLuck, Cond.selects RX0 yX0_meanLuck yX0_meanLuck, Cond.code yX0_meanLuck cX0_meanLuck 3 (some .double), Cond.methodLink RL 204 yX1_meanLuck, Cond.instanceMethod yX1_meanLuck]
def wsL_law0_r24 : List Cond := [Cond.selects RX1 yX1_meanLuck yX1_meanLuck, Cond.code yX1_meanLuck cX1_meanLuck 1 (some .double), Cond.methodLink RL 205 yX0_digest, Cond.instanceMethod yX0_digest, Cond.selects RX0 yX0_digest yX0_digest, Cond.code yX0_digest cX0_digest 4 (some .long), Cond.constantLong RX0 129 (1979), Cond.methodLink RX0 131 yX0_mixed, Cond.static yX0_mixed, Cond.code yX0_mixed cX0_mixed 4 (some .long), Cond.constantLong RX0 186 (31), Cond.methodLink RX0 135 yX0_coincidences, Cond.methodLink RX0 139 yX0_luckiestPair, Cond.methodLink RX0 142 yX0_bestHour, Cond.methodLink RX0 145 yX0_bestSwap, Cond.methodLink RX0 148 yX0_peopleAt, Cond.methodLink RX0 151 yX0_coincidencesAt, Cond.methodLink RX0 154 yX0_bestCorner, Cond.methodLink RL 209 yX1_digest, Cond.instanceMethod yX1_digest, Cond.selects RX1 yX1_digest yX1_digest, Cond.code yX1_digest cX1_digest 8 (some .long), Cond.constantLong RX1 130 (1979), Cond.constantLong RX1 132 (31)]
def wsL_law0 : List Cond := (wsL_law0_r1 ++ (wsL_law0_r2 ++ (wsL_law0_r3 ++ (wsL_law0_r4 ++ (wsL_law0_r5 ++ (wsL_law0_r6 ++ (wsL_law0_r7 ++ (wsL_law0_r8 ++ (wsL_law0_r9 ++ (wsL_law0_r10 ++ (wsL_law0_r11 ++ (wsL_law0_r12 ++ (wsL_law0_r13 ++ (wsL_law0_r14 ++ (wsL_law0_r15 ++ (wsL_law0_r16 ++ (wsL_law0_r17 ++ (wsL_law0_r18 ++ (wsL_law0_r19 ++ (wsL_law0_r20 ++ (wsL_law0_r21 ++ (wsL_law0_r22 ++ (wsL_law0_r23 ++ wsL_law0_r24))))))))))))))))))))))) ++ wsX00 ++ wsX10 ++ ([] : List Cond)
def wsL_law : List Cond := wsL_law0 ++ (vx_atS RX0 55 "java/lang/IllegalArgumentException" ["java/lang/RuntimeException", "java/lang/Exception"]).filter goodWord ++ (vx_atS RX0 62 "java/lang/IllegalStateException" ["java/lang/RuntimeException", "java/lang/Exception"]).filter goodWord ++ (vx_atS RX0 161 "java/lang/IndexOutOfBoundsException" ["java/lang/RuntimeException", "java/lang/Exception"]).filter goodWord
abbrev vwCl : List vw_C := [(RX0, TX0, 9), (RX1, TX1, 10)]
end
section
/-! my kit: rows over natural numbers, the one form of contract, calls and ends -/
section TCK
variable {p : Program} {l : Launch} {e : Env} {R : Room} {s : State} {m : MethodId} {args : Array Value} {below : List Frame} {meth : Method} {c : Code} {H : Heap} {locs : List Loc} {cells slots : Nat} {Q : State → Prop}
variable {cc : ByteArray} {pc : Nat} {ls : Array Slot} {rest : List Value}
/-- a boolean as a number -/
def b2n (b : Bool) : Nat := if b then 1 else 0
theorem b2n_t : b2n true = 1 := rfl
theorem b2n_f : b2n false = 0 := rfl
/-- one less: -1 for 0 -/
def iM (n : Nat) : Int32 := nI n - 1
theorem iM_s (n : Nat) : iM (n + 1) = nI n := nI_pred n
theorem iM_0 : iM 0 = -1 := by decide
theorem iM_toInt {n : Nat} (h : n < 2 ^ 31) : (iM n).toInt = (n : Int) - 1 := by
  cases n with
  | zero => decide
  | succ k => rw [iM_s, nI_toInt (by omega)]; omega
theorem nI_le_iM {a b : Nat} (ha : a < 2 ^ 31) (hb : b < 2 ^ 31) : nI a ≤ iM b ↔ a + 1 ≤ b := by
  rw [Int32.le_iff_toInt_le, nI_toInt ha, iM_toInt hb]; omega
/-- a number of a kind: 0 to n - 1 -/
def tcIn (x : Int32) (n : Nat) : Bool := decide (0 ≤ x.toInt ∧ x.toInt < (n : Int))
theorem tcIn_lo {x : Int32} {n : Nat} (h : x < 0) : tcIn x n = false := by
  rw [Int32.lt_iff_toInt_lt] at h
  have h0 : (0 : Int32).toInt = 0 := by decide
  unfold tcIn; rw [decide_eq_false_iff_not]; omega
theorem tcIn_hi {x : Int32} {n : Nat} (hn : n < 2 ^ 31) (h : nI n ≤ x) : tcIn x n = false := by
  rw [Int32.le_iff_toInt_le, nI_toInt hn] at h
  unfold tcIn; rw [decide_eq_false_iff_not]; omega
theorem tcIn_hi' {x : Int32} {n : Nat} (hn : n < 2 ^ 31) (h : nI n < x) : tcIn x (n + 1) = false := by
  rw [Int32.lt_iff_toInt_lt, nI_toInt hn] at h
  unfold tcIn; rw [decide_eq_false_iff_not]; omega
theorem tcIn_yes {x : Int32} {n : Nat} (hn : n < 2 ^ 31) (h : ¬ x < 0) (h2 : ¬ nI n ≤ x) : tcIn x n = true := by
  rw [Int32.lt_iff_toInt_lt] at h
  have h0 : (0 : Int32).toInt = 0 := by decide
  rw [Int32.le_iff_toInt_le, nI_toInt hn] at h2
  unfold tcIn; rw [decide_eq_true_iff]; omega
theorem tcIn_yes' {x : Int32} {n : Nat} (hn : n < 2 ^ 31) (h : ¬ x < 0) (h2 : ¬ nI n < x) : tcIn x (n + 1) = true := by
  rw [Int32.lt_iff_toInt_lt] at h
  have h0 : (0 : Int32).toInt = 0 := by decide
  rw [Int32.lt_iff_toInt_lt, nI_toInt hn] at h2
  unfold tcIn; rw [decide_eq_true_iff]; omega
theorem tcIn_nI {x n : Nat} (hx : x < 2 ^ 31) : tcIn (nI x) n = decide (x < n) := by
  unfold tcIn; rw [nI_toInt hx]; rw [decide_eq_decide]; omega
theorem tcIn_of {x : Int32} {n : Nat} (hn : n < 2 ^ 31) (h : tcIn x n = true) : ∃ j : Nat, j < n ∧ x = nI j := by
  unfold tcIn at h; rw [decide_eq_true_iff] at h
  exact vp_in_of (vp_in_iff.mpr h) hn

theorem tc_top {x y : Int32} (h : x = y) (k : W p l e R s m args below meth c H locs cells slots Q (F0 m pc ls (.int y :: rest))) : W p l e R s m args below meth c H locs cells slots Q (F0 m pc ls (.int x :: rest)) := h ▸ k
theorem tn_iadd (hx : p.tables.exec = Jvm.exec) (hb : c.code = cc) {a b : Nat} (hdg : decode cc pc = .ok (.iadd, 1))  (k : W p l e R s m args below meth c H locs cells slots Q (F0 m (pc + 1) ls (.int (nI (a + b)) :: rest))) : W p l e R s m args below meth c H locs cells slots Q (F0 m pc ls (.int (nI b) :: .int (nI a) :: rest)) := lv_iadd hx hb hdg (tc_top (nI_add a b) k)
theorem tn_isub (hx : p.tables.exec = Jvm.exec) (hb : c.code = cc) {a b : Nat} (hdg : decode cc pc = .ok (.isub, 1)) (h : b ≤ a) (k : W p l e R s m args below meth c H locs cells slots Q (F0 m (pc + 1) ls (.int (nI (a - b)) :: rest))) : W p l e R s m args below meth c H locs cells slots Q (F0 m pc ls (.int (nI b) :: .int (nI a) :: rest)) := lv_isub hx hb hdg (tc_top (pk_sub h) k)
theorem tn_imul (hx : p.tables.exec = Jvm.exec) (hb : c.code = cc) {a b : Nat} (hdg : decode cc pc = .ok (.imul, 1))  (k : W p l e R s m args below meth c H locs cells slots Q (F0 m (pc + 1) ls (.int (nI (a * b)) :: rest))) : W p l e R s m args below meth c H locs cells slots Q (F0 m pc ls (.int (nI b) :: .int (nI a) :: rest)) := lv_imul hx hb hdg (tc_top (pk_mul a b) k)
theorem tn_idiv (hx : p.tables.exec = Jvm.exec) (hb : c.code = cc) {a b : Nat} (hdg : decode cc pc = .ok (.idiv, 1)) (ha : a < 2 ^ 31) (h0 : 0 < b) (h2 : b < 2 ^ 31) (k : W p l e R s m args below meth c H locs cells slots Q (F0 m (pc + 1) ls (.int (nI (a / b)) :: rest))) : W p l e R s m args below meth c H locs cells slots Q (F0 m pc ls (.int (nI b) :: .int (nI a) :: rest)) := lv_idiv hx hb hdg (nI_ne0 h0 h2) (tc_top (pk_div ha h0 h2) k)
theorem tn_irem (hx : p.tables.exec = Jvm.exec) (hb : c.code = cc) {a b : Nat} (hdg : decode cc pc = .ok (.irem, 1)) (ha : a < 2 ^ 31) (h0 : 0 < b) (h2 : b < 2 ^ 31) (k : W p l e R s m args below meth c H locs cells slots Q (F0 m (pc + 1) ls (.int (nI (a % b)) :: rest))) : W p l e R s m args below meth c H locs cells slots Q (F0 m pc ls (.int (nI b) :: .int (nI a) :: rest)) := lv_irem hx hb hdg (nI_ne0 h0 h2) (tc_top (pk_rem ha h0 h2) k)
theorem tn_icmp_eq (hx : p.tables.exec = Jvm.exec) (hb : c.code = cc) {a b : Nat} {off : Int} {tgt : Nat} (hdg : decode cc pc = .ok (.if_icmp .eq off, 3)) (ht : (pc : Int) + off = (tgt : Int)) (ha : a < 2 ^ 31) (h2 : b < 2 ^ 31) (kt : a = b → W p l e R s m args below meth c H locs cells slots Q (F0 m tgt ls rest)) (kf : ¬ a = b → W p l e R s m args below meth c H locs cells slots Q (F0 m (pc + 3) ls rest)) : W p l e R s m args below meth c H locs cells slots Q (F0 m pc ls (.int (nI b) :: .int (nI a) :: rest)) := lv_icmp_eq hx hb hdg ht (fun h => kt ((nI_eq ha h2).mp h)) (fun h => kf (fun z => h ((nI_eq ha h2).mpr z)))
theorem tn_icmp_ne (hx : p.tables.exec = Jvm.exec) (hb : c.code = cc) {a b : Nat} {off : Int} {tgt : Nat} (hdg : decode cc pc = .ok (.if_icmp .ne off, 3)) (ht : (pc : Int) + off = (tgt : Int)) (ha : a < 2 ^ 31) (h2 : b < 2 ^ 31) (kt : ¬ a = b → W p l e R s m args below meth c H locs cells slots Q (F0 m tgt ls rest)) (kf : a = b → W p l e R s m args below meth c H locs cells slots Q (F0 m (pc + 3) ls rest)) : W p l e R s m args below meth c H locs cells slots Q (F0 m pc ls (.int (nI b) :: .int (nI a) :: rest)) := lv_icmp_ne hx hb hdg ht (fun h => kt (fun z => h ((nI_eq ha h2).mpr z))) (fun h => kf ((nI_eq ha h2).mp h))
theorem tn_icmp_lt (hx : p.tables.exec = Jvm.exec) (hb : c.code = cc) {a b : Nat} {off : Int} {tgt : Nat} (hdg : decode cc pc = .ok (.if_icmp .lt off, 3)) (ht : (pc : Int) + off = (tgt : Int)) (ha : a < 2 ^ 31) (h2 : b < 2 ^ 31) (kt : a < b → W p l e R s m args below meth c H locs cells slots Q (F0 m tgt ls rest)) (kf : b ≤ a → W p l e R s m args below meth c H locs cells slots Q (F0 m (pc + 3) ls rest)) : W p l e R s m args below meth c H locs cells slots Q (F0 m pc ls (.int (nI b) :: .int (nI a) :: rest)) := lv_icmp_lt hx hb hdg ht (fun h => kt ((nI_ltI ha h2).mp h)) (fun h => kf (Nat.le_of_not_lt (fun z => h ((nI_ltI ha h2).mpr z))))
theorem tn_icmp_ge (hx : p.tables.exec = Jvm.exec) (hb : c.code = cc) {a b : Nat} {off : Int} {tgt : Nat} (hdg : decode cc pc = .ok (.if_icmp .ge off, 3)) (ht : (pc : Int) + off = (tgt : Int)) (ha : a < 2 ^ 31) (h2 : b < 2 ^ 31) (kt : b ≤ a → W p l e R s m args below meth c H locs cells slots Q (F0 m tgt ls rest)) (kf : a < b → W p l e R s m args below meth c H locs cells slots Q (F0 m (pc + 3) ls rest)) : W p l e R s m args below meth c H locs cells slots Q (F0 m pc ls (.int (nI b) :: .int (nI a) :: rest)) := lv_icmp_ge hx hb hdg ht (fun h => kt ((nI_leI h2 ha).mp h)) (fun h => kf (Nat.lt_of_not_le (fun z => h ((nI_leI h2 ha).mpr z))))
theorem tn_icmp_gt (hx : p.tables.exec = Jvm.exec) (hb : c.code = cc) {a b : Nat} {off : Int} {tgt : Nat} (hdg : decode cc pc = .ok (.if_icmp .gt off, 3)) (ht : (pc : Int) + off = (tgt : Int)) (ha : a < 2 ^ 31) (h2 : b < 2 ^ 31) (kt : b < a → W p l e R s m args below meth c H locs cells slots Q (F0 m tgt ls rest)) (kf : a ≤ b → W p l e R s m args below meth c H locs cells slots Q (F0 m (pc + 3) ls rest)) : W p l e R s m args below meth c H locs cells slots Q (F0 m pc ls (.int (nI b) :: .int (nI a) :: rest)) := lv_icmp_gt hx hb hdg ht (fun h => kt ((nI_ltI h2 ha).mp h)) (fun h => kf (Nat.le_of_not_lt (fun z => h ((nI_ltI h2 ha).mpr z))))
theorem tn_icmp_le (hx : p.tables.exec = Jvm.exec) (hb : c.code = cc) {a b : Nat} {off : Int} {tgt : Nat} (hdg : decode cc pc = .ok (.if_icmp .le off, 3)) (ht : (pc : Int) + off = (tgt : Int)) (ha : a < 2 ^ 31) (h2 : b < 2 ^ 31) (kt : a ≤ b → W p l e R s m args below meth c H locs cells slots Q (F0 m tgt ls rest)) (kf : b < a → W p l e R s m args below meth c H locs cells slots Q (F0 m (pc + 3) ls rest)) : W p l e R s m args below meth c H locs cells slots Q (F0 m pc ls (.int (nI b) :: .int (nI a) :: rest)) := lv_icmp_le hx hb hdg ht (fun h => kt ((nI_leI ha h2).mp h)) (fun h => kf (Nat.lt_of_not_le (fun z => h ((nI_leI ha h2).mpr z))))
theorem tn_if_eq (hx : p.tables.exec = Jvm.exec) (hb : c.code = cc) {a : Nat} {off : Int} {tgt : Nat} (hdg : decode cc pc = .ok (.ifCond .eq off, 3)) (ht : (pc : Int) + off = (tgt : Int)) (ha : a < 2 ^ 31) (kt : a = 0 → W p l e R s m args below meth c H locs cells slots Q (F0 m tgt ls rest)) (kf : 0 < a → W p l e R s m args below meth c H locs cells slots Q (F0 m (pc + 3) ls rest)) : W p l e R s m args below meth c H locs cells slots Q (F0 m pc ls (.int (nI a) :: rest)) := lv_if_eq hx hb hdg ht (fun h => kt (Nat.eq_zero_of_not_pos (fun z => nI_ne0 z ha h))) (fun h => kf (Nat.pos_of_ne_zero (fun z => h (by rw [z]; rfl))))
theorem tn_if_ne (hx : p.tables.exec = Jvm.exec) (hb : c.code = cc) {a : Nat} {off : Int} {tgt : Nat} (hdg : decode cc pc = .ok (.ifCond .ne off, 3)) (ht : (pc : Int) + off = (tgt : Int)) (ha : a < 2 ^ 31) (kt : 0 < a → W p l e R s m args below meth c H locs cells slots Q (F0 m tgt ls rest)) (kf : a = 0 → W p l e R s m args below meth c H locs cells slots Q (F0 m (pc + 3) ls rest)) : W p l e R s m args below meth c H locs cells slots Q (F0 m pc ls (.int (nI a) :: rest)) := lv_if_ne hx hb hdg ht (fun h => kt (Nat.pos_of_ne_zero (fun z => h (by rw [z]; rfl)))) (fun h => kf (Nat.eq_zero_of_not_pos (fun z => nI_ne0 z ha h)))
theorem tn_if_gt (hx : p.tables.exec = Jvm.exec) (hb : c.code = cc) {a : Nat} {off : Int} {tgt : Nat} (hdg : decode cc pc = .ok (.ifCond .gt off, 3)) (ht : (pc : Int) + off = (tgt : Int)) (ha : a < 2 ^ 31) (kt : 0 < a → W p l e R s m args below meth c H locs cells slots Q (F0 m tgt ls rest)) (kf : a = 0 → W p l e R s m args below meth c H locs cells slots Q (F0 m (pc + 3) ls rest)) : W p l e R s m args below meth c H locs cells slots Q (F0 m pc ls (.int (nI a) :: rest)) := lv_if_gt hx hb hdg ht (fun h => kt ((nI_ltI (by decide) ha).mp h)) (fun h => kf (Nat.eq_zero_of_not_pos (fun z => h ((nI_ltI (by decide) ha).mpr z))))
theorem tn_if_le (hx : p.tables.exec = Jvm.exec) (hb : c.code = cc) {a : Nat} {off : Int} {tgt : Nat} (hdg : decode cc pc = .ok (.ifCond .le off, 3)) (ht : (pc : Int) + off = (tgt : Int)) (ha : a < 2 ^ 31) (kt : a = 0 → W p l e R s m args below meth c H locs cells slots Q (F0 m tgt ls rest)) (kf : 0 < a → W p l e R s m args below meth c H locs cells slots Q (F0 m (pc + 3) ls rest)) : W p l e R s m args below meth c H locs cells slots Q (F0 m pc ls (.int (nI a) :: rest)) := lv_if_le hx hb hdg ht (fun h => kt (Nat.le_zero.mp ((nI_leI ha (by decide)).mp h))) (fun h => kf (Nat.pos_of_ne_zero (fun z => h ((nI_leI ha (by decide)).mpr (Nat.le_zero.mpr z)))))
theorem b2n_z {b : Bool} : nI (b2n b) = 0 ↔ b = false := by cases b <;> decide
theorem b2n_nz {b : Bool} : ¬ nI (b2n b) = 0 ↔ b = true := by cases b <;> decide
theorem tb_if_eq (hx : p.tables.exec = Jvm.exec) (hb : c.code = cc) {b : Bool} {off : Int} {tgt : Nat} (hdg : decode cc pc = .ok (.ifCond .eq off, 3)) (ht : (pc : Int) + off = (tgt : Int)) (kt : b = false → W p l e R s m args below meth c H locs cells slots Q (F0 m tgt ls rest)) (kf : b = true → W p l e R s m args below meth c H locs cells slots Q (F0 m (pc + 3) ls rest)) : W p l e R s m args below meth c H locs cells slots Q (F0 m pc ls (.int (nI (b2n b)) :: rest)) := lv_if_eq hx hb hdg ht (fun h => kt (b2n_z.mp h)) (fun h => kf (b2n_nz.mp h))
theorem tb_if_ne (hx : p.tables.exec = Jvm.exec) (hb : c.code = cc) {b : Bool} {off : Int} {tgt : Nat} (hdg : decode cc pc = .ok (.ifCond .ne off, 3)) (ht : (pc : Int) + off = (tgt : Int)) (kt : b = true → W p l e R s m args below meth c H locs cells slots Q (F0 m tgt ls rest)) (kf : b = false → W p l e R s m args below meth c H locs cells slots Q (F0 m (pc + 3) ls rest)) : W p l e R s m args below meth c H locs cells slots Q (F0 m pc ls (.int (nI (b2n b)) :: rest)) := lv_if_ne hx hb hdg ht (fun h => kt (b2n_nz.mp h)) (fun h => kf (b2n_z.mp h))
theorem tm_icmp_le (hx : p.tables.exec = Jvm.exec) (hb : c.code = cc) {a b : Nat} {off : Int} {tgt : Nat} (hdg : decode cc pc = .ok (.if_icmp .le off, 3)) (ht : (pc : Int) + off = (tgt : Int)) (ha : a < 2 ^ 31) (h2 : b < 2 ^ 31) (kt : a < b → W p l e R s m args below meth c H locs cells slots Q (F0 m tgt ls rest)) (kf : b ≤ a → W p l e R s m args below meth c H locs cells slots Q (F0 m (pc + 3) ls rest)) : W p l e R s m args below meth c H locs cells slots Q (F0 m pc ls (.int (iM b) :: .int (nI a) :: rest)) := lv_icmp_le hx hb hdg ht (fun h => kt ((nI_le_iM ha h2).mp h)) (fun h => kf (Nat.le_of_not_lt (fun z => h ((nI_le_iM ha h2).mpr z))))
theorem tn_iinc (hx : p.tables.exec = Jvm.exec) (hb : c.code = cc) {i nL k t : Nat} {lv lv' : List (Nat × Value)} (hdg : decode cc pc = .ok (.iinc i 1, 3)) (h : lv_has ls nL lv) (hk : lv[k]? = some (i, .int (nI t))) (hn : i < nL) (hl : (i, Value.int (nI (t + 1))) :: lv.filter (fun q => !(q.1 == i) && !(q.1 + 1 == i && q.2.category == 2)) = lv') (kk : ∀ ls' : Array Slot, lv_has ls' nL lv' → W p l e R s m args below meth c H locs cells slots Q (F0 m (pc + 3) ls' rest)) : W p l e R s m args below meth c H locs cells slots Q (F0 m pc ls rest) := lv_iinc hx hb hdg h hk (nI_1 t) hn hl kk
end TCK
end
section
/-! the one form of contract: a world over one base N0, code numbers of what is thrown -/
abbrev tcA (N0 : Nat) : Nat → Prop := fun q => N0 ≤ q
def tcStr : List (Nat × String) := [(117, "hours are 0 to 60"), (159, "there is no such stranger"), (162, "both are the same"), (164, "it costs too much"), (53, "no such ticket, colour, corner or walk"), (60, "there are 12 strangers"), (67, "a walk is 0 to 5"), (69, "a corner is 0 to 5"), (71, "this one stands there"), (84, "they do not stand at one corner"), (94, "a ticket is 0 to 99"), (96, "hours are 1 to 60")]
def tcEx (N0 : Nat) (U : State) (H : Heap) : Prop := vx_Zq Bundle.tN "UNASSIGNED_STACK" Bundle.steD (tcA N0) U H ∧ vx_Zq Bundle.tN "SUPPRESSED_SENTINEL" Bundle.listD (tcA N0) U H ∧ ∀ q ∈ tcStr, ∃ sa : Nat, vk_R RX0 q.1 q.2 sa U
def tcTy (cI cJ : ClassId) : List (ClassId × FieldType) := [(cI, .int), (cJ, .long)]
def tcG (D : va_G) (cI cJ : ClassId) (N0 : Nat) (ws : va_W) (U : State) (H : Heap) : Prop := va_P D vwCl ws H ∧ va_K D vwCl (tcTy cI cJ) U ∧ va_D (tcA N0) ws ∧ N0 ≤ H.size ∧ tcEx N0 U H
def tc_P (As : List Value) (D : va_G) (cI cJ : ClassId) (N0 : Nat) (ws : va_W) : Array Value → State → Prop := fun a U => a = As.toArray ∧ tcG D cI cJ N0 ws U U.heap
def tc_Q (C : Prop) (v : Option Value) (D : va_G) (N0 : Nat) (ws : va_W) : Array Value → State → Outcome → State → Prop := fun _ st o t => C ∧ o = .returned v ∧ va_P D vwCl ws t.heap ∧ va_D (tcA N0) ws ∧ va_F (tcA N0) st t
def tc_X (es : List String) (cd : Nat) (D : va_G) (N0 : Nat) (ws : va_W) : String → State → State → Prop := fun E st t => (∃ i : Nat, es[i]? = some E ∧ cd = i + 1) ∧ va_P D vwCl ws t.heap ∧ va_F (tcA N0) st t
/-- THE CONTRACT of y with the arguments As, in the world ws: where cd = 0 it returns v, and the world is ws'; where cd = i + 1 it throws es[i], and the world is as before -/
def tcM (l : Launch) (y : MethodName) (wsY : List Cond) (rm : Room) (es : List String) (cd : Nat) (As : List Value) (D : va_G) (cI cJ : ClassId) (N0 : Nat) (ws : va_W) (v : Option Value) (ws' : va_W) (mc ms : Nat) : Prop := vx_Met l y wsY rm (tc_P As D cI cJ N0 ws) (tc_Q (cd = 0) v D N0 ws') (tc_X es cd D N0 ws) mc ms (tcA N0)
/-- what a body owes at its end -/
def tcE (below : List Frame) (es : List String) (cd : Nat) (D : va_G) (N0 : Nat) (ws : va_W) (v : Option Value) (ws' : va_W) (args : Array Value) (s : State) (mc ms : Nat) : State → Prop := vx_MQ below (tc_Q (cd = 0) v D N0 ws') (tc_X es cd D N0 ws) args s mc ms (tcA N0)
theorem tcEx.warm {N0 : Nat} {s U : State} {H : Heap} (hW : s.WarmedH U.vm) (h : tcEx N0 s H) : tcEx N0 U H := ⟨vx_Zq.moved hW.alike h.1, vx_Zq.moved hW.alike h.2.1, fun q hq => (h.2.2 q hq).imp fun _ z => vk_R.warm hW z⟩
theorem tcG.warm {D : va_G} {cI cJ : ClassId} {N0 : Nat} {ws : va_W} {s U : State} {H : Heap} (hW : s.WarmedH U.vm) (h : tcG D cI cJ N0 ws s H) : tcG D cI cJ N0 ws U H := ⟨h.1, va_K.moved hW.alike h.2.1, h.2.2.1, h.2.2.2.1, h.2.2.2.2.warm hW⟩
theorem tcG.same {D : va_G} {cI cJ : ClassId} {N0 : Nat} {ws : va_W} {s U : State} {H : Heap} (hv : U.vm = s.vm) (h : tcG D cI cJ N0 ws s H) : tcG D cI cJ N0 ws U H := by
  have ha : s.vm.Alike U.vm := by rw [hv]; exact Vm.Alike.refl _
  exact ⟨h.1, va_K.moved ha h.2.1, h.2.2.1, h.2.2.2.1, vx_Zq.moved ha h.2.2.2.2.1, vx_Zq.moved ha h.2.2.2.2.2.1, fun q hq => (h.2.2.2.2.2.2 q hq).imp fun _ z => vk_R.same hv z⟩
theorem tcG.next {D : va_G} {cI cJ : ClassId} {N0 : Nat} {ws ws' : va_W} {s : State} {H H1 : Heap} (h : tcG D cI cJ N0 ws s H) (hP : va_P D vwCl ws' H1) (hD : va_D (tcA N0) ws') (hz : H.size ≤ H1.size) (hk : ∀ q : Nat, q < H.size → ¬ tcA N0 q → H1[q]? = H[q]?) : tcG D cI cJ N0 ws' s H1 :=
  ⟨hP, h.2.1, hD, Nat.le_trans h.2.2.2.1 hz, vx_Zq.kept h.2.2.2.2.1 hk, vx_Zq.kept h.2.2.2.2.2.1 hk, h.2.2.2.2.2.2⟩
theorem tcG.eq {D : va_G} {cI cJ : ClassId} {N0 : Nat} {ws ws' : va_W} {s : State} {H : Heap} (e : ws = ws') (h : tcG D cI cJ N0 ws s H) : tcG D cI cJ N0 ws' s H := e ▸ h
theorem tcG.sub {D : va_G} {cI cJ : ClassId} {N0 : Nat} {ws ws' : va_W} {s : State} {H : Heap} (h : tcG D cI cJ N0 ws s H) (is : List Nat) (hn : va_nd is = true) (e1 : is.filterMap (fun i => ws[i]?) = ws') (e2 : is.map (fun i => ws[i]?) = ws'.map some) : tcG D cI cJ N0 ws' s H := ⟨h.1.sub is e1, h.2.1, h.2.2.1.sub is hn e2, h.2.2.2.1, h.2.2.2.2⟩
theorem tc_blind {As : List Value} {D : va_G} {cI cJ : ClassId} {N0 : Nat} {ws : va_W} : FrameBlind (tc_P As D cI cJ N0 ws) := fun _ U _ _ h => ⟨h.1, h.2.same (U := _) rfl⟩
theorem tc_pre {As : List Value} {D : va_G} {cI cJ : ClassId} {N0 : Nat} {ws : va_W} {s U : State} {H : Heap} (hG : tcG D cI cJ N0 ws s H) (hU : U.heap = H) (hW : s.WarmedH U.vm) : tc_P As D cI cJ N0 ws As.toArray U := ⟨rfl, by rw [hU]; exact hG.warm hW⟩
section TCF
variable {p : Program} {l : Launch} {e : Env} {R : Room} {s : State} {m : MethodId} {args : Array Value} {below : List Frame} {meth : Method} {c : Code} {H : Heap} {locs : List Loc} {cells slots : Nat} {Q : State → Prop}
variable {cc : ByteArray} {pc : Nat} {ls : Array Slot} {rest st0 : List Value} {D : va_G} {cI cJ : ClassId} {N0 : Nat} {ws ws' : va_W} {es : List String} {cd mc ms nL : Nat} {v : Option Value} {As : List Value} {own : String} {Ts : List Cond}
/-- from the walk of the body to the contract -/
theorem tcM.of {y : MethodName} {wsY ws0 : List Cond} {rm : Room} {maxL : Nat} {ret : Option FieldType} (hy : plainName y.cls = true) (hw : wsY = Cond.code y cc maxL ret :: ws0) (hlen : (lg_sl As).length ≤ maxL)
    (body : ∀ (p : Program) (e : Env) (s : State) (m : MethodId) (args : Array Value) (below : List Frame) (meth : Method) (c : Code), CallFix p m c cc maxL s args wsY y.cls → meth.sig.returnType = ret → meth.locks = false → (∀ x ∈ c.exceptionTable.toList, False) → meth.name = y.name → tcG D cI cJ N0 ws s s.heap →
      ∀ ls : Array Slot, lv_has ls maxL (lv_args 0 As) → W p l e rm s m args below meth c s.heap [] 0 0 (tcE below es cd D N0 ws v ws' args s mc ms) (F0 m 0 ls [])) : tcM l y wsY rm es cd As D cI cJ N0 ws v ws' mc ms := by
  refine vx_ofW (cc := cc) (maxL := maxL) (ret := ret) hy hw ?_
  intro p e s m args below meth c s₁ B hml ht hv
  obtain ⟨rfl, hG⟩ := hv
  have hts := atoms_spec (ws := wsY) B.pre
  have hown : s.vm.findClass y.cls = some m.cls := findClass_of_methodNamed B.named
  rw [lg_entry_eq]
  exact body p e s m _ below meth c ⟨B.exec, B.bytes, hml, hown, hts⟩ B.returns B.notSynchronized ht (name_of_methodNamed B.named B.method).1 hG _ (lv_entry As hlen)
theorem tc_keepG {st₀ t T' : State} {L : List Loc} (h0 : st₀.heap = H) (e1 : T'.heap = t.heap) (hG : tcG D cI cJ N0 ws s H) (hS : va_S (tcA N0) s.heap H locs) (hL : ∀ q ∈ L, tcA N0 q.base) (hF : va_F (tcA N0) st₀ t) (hP : va_P D vwCl ws' t.heap) (hD : va_D (tcA N0) ws') : tcG D cI cJ N0 ws' s T'.heap ∧ va_S (tcA N0) s.heap T'.heap (locs ++ L) := by
  obtain ⟨k1, k2, k3⟩ := vx_keep h0 e1 hS (fun _ _ z => z) (fun _ z => z) hL hF
  exact ⟨hG.next (by rw [e1]; exact hP) hD k1 k2, k3⟩
theorem tc_run (hr : vx_Run p l e R s m args below meth c H locs cells slots mc ms (F0 m pc ls st0) rest (tc_Q (cd = 0) v D N0 ws' As.toArray) (tc_X es cd D N0 ws) (tcA N0)) (hG : tcG D cI cJ N0 ws s H) (hS : va_S (tcA N0) s.heap H locs)
    (kx : ∀ (i : Nat) (E : String) (q9 : Addr) (ce : Cell) (H1 : Heap) (locs1 : List Loc), es[i]? = some E → cd = i + 1 → tcG D cI cJ N0 ws s H1 → va_S (tcA N0) s.heap H1 locs1 → H1[q9]? = some ce → ce.vm = .none → s.vm.findClass E = some ce.cls → vx_W p l e R s m args below meth c H1 locs1 (cells + mc) (slots + ms) Q (F0 m pc ls rest) q9)
    (kk : cd = 0 → ∀ (H1 : Heap) (locs1 : List Loc), tcG D cI cJ N0 ws' s H1 → va_S (tcA N0) s.heap H1 locs1 → W p l e R s m args below meth c H1 locs1 (cells + mc) (slots + ms) Q (F0 m (pc + 3) ls (v.toList ++ rest))) : W p l e R s m args below meth c H locs cells slots Q (F0 m pc ls st0) := by
  intro T hT X
  rcases hr T hT X with ⟨v1, st₀, t, T', L, h0, X', hL, e1, e2, ⟨hC, hv, hP, hD, hF⟩, st⟩ | ⟨q, st₀, t, T', L, E, ce, h0, X', hL, e1, e2, ⟨⟨i, hi, hcd⟩, hP, hF⟩, hce, hcv, hcl, st⟩
  · cases hv
    obtain ⟨k1, k2⟩ := tc_keepG h0 e1 hG hS hL hF hP hD
    obtain ⟨t2, a1, b1⟩ := kk hC T'.heap (locs ++ L) k1 k2 T' rfl X'
    exact ⟨t2, st t2 a1, b1⟩
  · obtain ⟨k1, k2⟩ := tc_keepG h0 e1 hG hS hL hF hP hG.2.2.1
    obtain ⟨t2, a1, b1⟩ := kx i E q ce T'.heap (locs ++ L) hi hcd k1 k2 (by rw [e1]; exact hce) hcv hcl T' rfl X'
    exact ⟨t2, st.trans a1, b1⟩
theorem tc_cat {st : List Value} (h : (st.map fun v => v.category).sum ≤ 8) : 2 * (F0 m pc ls st0).monitorRoom + (st.map fun v => v.category).sum ≤ 8 := lv_room h
/-- a call of an instance's method -/
theorem tc_callVx {C : String} {T : u_T} {N ci q0 b index maxL n : Nat} {fs : List Value} {y : MethodName} {bytes : ByteArray} {ret : Option FieldType} {wsY : List Cond} {rm : Room} {lv : List (Nat × Value)}
    (C0 : CallFix p m c cc nL s args Ts own) (hG : tcG D cI cJ N0 ws s H) (hS : va_S (tcA N0) s.heap H locs) (he : ws[q0]? = some (b, .inr (ci, fs))) (hc : vwCl[ci]? = some (C, T, N)) (hM : tcM l y wsY rm es cd (.ref b :: As) D cI cJ N0 ws v ws' mc ms) (cw : CallW R s args own C index y bytes maxL ret wsY rm mc ms n) (hn : As.length = n) (hl : lv_has ls nL lv) (hst : st0 = As.reverse ++ .ref b :: rest) (hcat : (rest.map fun v => v.category).sum ≤ 8) (hdg : decode cc pc = .ok (.invokevirtual index, 3)) (hf : cells + mc ≤ R.cells ∧ slots + ms ≤ R.slots)
    (kx : ∀ (i : Nat) (E : String) (q9 : Addr) (ce : Cell) (H1 : Heap) (locs1 : List Loc), es[i]? = some E → cd = i + 1 → tcG D cI cJ N0 ws s H1 → va_S (tcA N0) s.heap H1 locs1 → H1[q9]? = some ce → ce.vm = .none → s.vm.findClass E = some ce.cls → vx_W p l e R s m args below meth c H1 locs1 (cells + mc) (slots + ms) Q (F0 m pc ls rest) q9)
    (kk : cd = 0 → ∀ (H1 : Heap) (locs1 : List Loc), tcG D cI cJ N0 ws' s H1 → va_S (tcA N0) s.heap H1 locs1 → W p l e R s m args below meth c H1 locs1 (cells + mc) (slots + ms) Q (F0 m (pc + 3) ls (v.toList ++ rest))) : W p l e R s m args below meth c H locs cells slots Q (F0 m pc ls st0) := by
  subst hst
  exact tc_run (vx_runV (As := As) (rest := rest) (g := F0 m pc ls (As.reverse ++ .ref b :: rest)) C0 hM cw ⟨tc_blind, va_recv (q := (C, T, N)) hG.2.1 hG.1 hc he, fun U hU hW => tc_pre hG hU hW⟩ rfl hn hl.1 rfl (tc_cat hcat) hdg hf) hG hS kx kk
/-- a call of a static method -/
theorem tc_callSx {index maxL n : Nat} {y : MethodName} {bytes : ByteArray} {ret : Option FieldType} {wsY : List Cond} {rm : Room} {lv : List (Nat × Value)}
    (C0 : CallFix p m c cc nL s args Ts own) (hG : tcG D cI cJ N0 ws s H) (hS : va_S (tcA N0) s.heap H locs) (hM : tcM l y wsY rm es cd As D cI cJ N0 ws v ws' mc ms) (cw : CallB R s args own index y bytes maxL ret wsY rm mc ms n ∧ (Cond.static y).before args s = true) (hn : As.length = n) (hl : lv_has ls nL lv) (hst : st0 = As.reverse ++ rest) (hcat : (rest.map fun v => v.category).sum ≤ 8) (hdg : decode cc pc = .ok (.invokestatic index, 3)) (hf : cells + mc ≤ R.cells ∧ slots + ms ≤ R.slots)
    (kx : ∀ (i : Nat) (E : String) (q9 : Addr) (ce : Cell) (H1 : Heap) (locs1 : List Loc), es[i]? = some E → cd = i + 1 → tcG D cI cJ N0 ws s H1 → va_S (tcA N0) s.heap H1 locs1 → H1[q9]? = some ce → ce.vm = .none → s.vm.findClass E = some ce.cls → vx_W p l e R s m args below meth c H1 locs1 (cells + mc) (slots + ms) Q (F0 m pc ls rest) q9)
    (kk : cd = 0 → ∀ (H1 : Heap) (locs1 : List Loc), tcG D cI cJ N0 ws' s H1 → va_S (tcA N0) s.heap H1 locs1 → W p l e R s m args below meth c H1 locs1 (cells + mc) (slots + ms) Q (F0 m (pc + 3) ls (v.toList ++ rest))) : W p l e R s m args below meth c H locs cells slots Q (F0 m pc ls st0) := by
  subst hst
  exact tc_run (vx_runS (As := As) (rest := rest) (g := F0 m pc ls (As.reverse ++ rest)) C0 hM cw ⟨tc_blind, fun U hU hW => tc_pre hG hU hW⟩ rfl hn hl.1 rfl (tc_cat hcat) hdg hf) hG hS kx kk
/-- .. that doesn't throw -/
theorem tc_callV {C : String} {T : u_T} {N ci q0 b index maxL n : Nat} {fs : List Value} {y : MethodName} {bytes : ByteArray} {ret : Option FieldType} {wsY : List Cond} {rm : Room} {lv : List (Nat × Value)} {r : Value}
    (C0 : CallFix p m c cc nL s args Ts own) (hG : tcG D cI cJ N0 ws s H) (hS : va_S (tcA N0) s.heap H locs) (he : ws[q0]? = some (b, .inr (ci, fs))) (hc : vwCl[ci]? = some (C, T, N)) (hM : tcM l y wsY rm [] 0 (.ref b :: As) D cI cJ N0 ws (some r) ws' mc ms) (cw : CallW R s args own C index y bytes maxL ret wsY rm mc ms n) (hn : As.length = n) (hl : lv_has ls nL lv) (hst : st0 = As.reverse ++ .ref b :: rest) (hcat : (rest.map fun v => v.category).sum ≤ 8) (hdg : decode cc pc = .ok (.invokevirtual index, 3)) (hf : cells + mc ≤ R.cells ∧ slots + ms ≤ R.slots)
    (kk : ∀ (H1 : Heap) (locs1 : List Loc), tcG D cI cJ N0 ws' s H1 → va_S (tcA N0) s.heap H1 locs1 → W p l e R s m args below meth c H1 locs1 (cells + mc) (slots + ms) Q (F0 m (pc + 3) ls (r :: rest))) : W p l e R s m args below meth c H locs cells slots Q (F0 m pc ls st0) :=
  tc_callVx C0 hG hS he hc hM cw hn hl hst hcat hdg hf (fun i E q9 ce H1 locs1 h => by cases h) (fun _ => kk)
theorem tc_callVv {C : String} {T : u_T} {N ci q0 b index maxL n : Nat} {fs : List Value} {y : MethodName} {bytes : ByteArray} {ret : Option FieldType} {wsY : List Cond} {rm : Room} {lv : List (Nat × Value)}
    (C0 : CallFix p m c cc nL s args Ts own) (hG : tcG D cI cJ N0 ws s H) (hS : va_S (tcA N0) s.heap H locs) (he : ws[q0]? = some (b, .inr (ci, fs))) (hc : vwCl[ci]? = some (C, T, N)) (hM : tcM l y wsY rm [] 0 (.ref b :: As) D cI cJ N0 ws none ws' mc ms) (cw : CallW R s args own C index y bytes maxL ret wsY rm mc ms n) (hn : As.length = n) (hl : lv_has ls nL lv) (hst : st0 = As.reverse ++ .ref b :: rest) (hcat : (rest.map fun v => v.category).sum ≤ 8) (hdg : decode cc pc = .ok (.invokevirtual index, 3)) (hf : cells + mc ≤ R.cells ∧ slots + ms ≤ R.slots)
    (kk : ∀ (H1 : Heap) (locs1 : List Loc), tcG D cI cJ N0 ws' s H1 → va_S (tcA N0) s.heap H1 locs1 → W p l e R s m args below meth c H1 locs1 (cells + mc) (slots + ms) Q (F0 m (pc + 3) ls rest)) : W p l e R s m args below meth c H locs cells slots Q (F0 m pc ls st0) :=
  tc_callVx C0 hG hS he hc hM cw hn hl hst hcat hdg hf (fun i E q9 ce H1 locs1 h => by cases h) (fun _ => kk)
theorem tc_callS {index maxL n : Nat} {y : MethodName} {bytes : ByteArray} {ret : Option FieldType} {wsY : List Cond} {rm : Room} {lv : List (Nat × Value)} {r : Value}
    (C0 : CallFix p m c cc nL s args Ts own) (hG : tcG D cI cJ N0 ws s H) (hS : va_S (tcA N0) s.heap H locs) (hM : tcM l y wsY rm [] 0 As D cI cJ N0 ws (some r) ws' mc ms) (cw : CallB R s args own index y bytes maxL ret wsY rm mc ms n ∧ (Cond.static y).before args s = true) (hn : As.length = n) (hl : lv_has ls nL lv) (hst : st0 = As.reverse ++ rest) (hcat : (rest.map fun v => v.category).sum ≤ 8) (hdg : decode cc pc = .ok (.invokestatic index, 3)) (hf : cells + mc ≤ R.cells ∧ slots + ms ≤ R.slots)
    (kk : ∀ (H1 : Heap) (locs1 : List Loc), tcG D cI cJ N0 ws' s H1 → va_S (tcA N0) s.heap H1 locs1 → W p l e R s m args below meth c H1 locs1 (cells + mc) (slots + ms) Q (F0 m (pc + 3) ls (r :: rest))) : W p l e R s m args below meth c H locs cells slots Q (F0 m pc ls st0) :=
  tc_callSx C0 hG hS hM cw hn hl hst hcat hdg hf (fun i E q9 ce H1 locs1 h => by cases h) (fun _ => kk)
theorem tc_callSv {index maxL n : Nat} {y : MethodName} {bytes : ByteArray} {ret : Option FieldType} {wsY : List Cond} {rm : Room} {lv : List (Nat × Value)}
    (C0 : CallFix p m c cc nL s args Ts own) (hG : tcG D cI cJ N0 ws s H) (hS : va_S (tcA N0) s.heap H locs) (hM : tcM l y wsY rm [] 0 As D cI cJ N0 ws none ws' mc ms) (cw : CallB R s args own index y bytes maxL ret wsY rm mc ms n ∧ (Cond.static y).before args s = true) (hn : As.length = n) (hl : lv_has ls nL lv) (hst : st0 = As.reverse ++ rest) (hcat : (rest.map fun v => v.category).sum ≤ 8) (hdg : decode cc pc = .ok (.invokestatic index, 3)) (hf : cells + mc ≤ R.cells ∧ slots + ms ≤ R.slots)
    (kk : ∀ (H1 : Heap) (locs1 : List Loc), tcG D cI cJ N0 ws' s H1 → va_S (tcA N0) s.heap H1 locs1 → W p l e R s m args below meth c H1 locs1 (cells + mc) (slots + ms) Q (F0 m (pc + 3) ls rest)) : W p l e R s m args below meth c H locs cells slots Q (F0 m pc ls st0) :=
  tc_callSx C0 hG hS hM cw hn hl hst hcat hdg hf (fun i E q9 ce H1 locs1 h => by cases h) (fun _ => kk)
/-- not caught here -/
theorem tc_out {i : Nat} {E : String} {q9 : Addr} {ce : Cell} (ht : ∀ x ∈ c.exceptionTable.toList, False) (hlk : meth.locks = false) (hG : tcG D cI cJ N0 ws s H) (hS : va_S (tcA N0) s.heap H locs) (hce : H[q9]? = some ce) (hcv : ce.vm = .none) (hcl : s.vm.findClass E = some ce.cls) (hi : es[i]? = some E) (hcd : cd = i + 1) (hc : cells ≤ mc) (hs : slots ≤ ms) : vx_W p l e R s m args below meth c H locs cells slots (tcE below es cd D N0 ws v ws' args s mc ms) (F0 m pc ls rest) q9 :=
  vx_out (fun x hx => (ht x hx).elim) hlk hce hcv hcl (fun t h1 _ => ⟨⟨i, hi, hcd⟩, by rw [h1]; exact hG.1, hS.F h1⟩) hS.2.2 hc hs
/-- 'throw new E("text")' in the class -/
theorem tc_throw {lv : List (Nat × Value)} {i ik is ic : Nat} {cls text : String} (C0 : CallFix p m c cc nL s args Ts RX0) (hlf : l.stackTraces = false) (ht : ∀ x ∈ c.exceptionTable.toList, False) (hlk : meth.locks = false) (hG : tcG D cI cJ N0 ws s s.heap) (hl : lv_has ls nL lv) (htx : (is, text) ∈ tcStr) (hcls : Bundle.fit cls = true)
    (hk : Cond.classLink RX0 ik cls ∈ Ts) (hini : Cond.initialized cls ∈ Ts) (hat : ∀ w ∈ vx_atS RX0 ic cls ["java/lang/RuntimeException", "java/lang/Exception"], w ∈ Ts ∧ vx_ot w = true)
    (d0 : decode cc pc = .ok (.new ik, 3)) (d3 : decode cc (pc + 3) = .ok (.dup, 1)) (d4 : decode cc (pc + 4) = .ok (.ldc is, 2)) (d6 : decode cc (pc + 6) = .ok (.invokespecial ic, 3)) (d9 : decode cc (pc + 9) = .ok (.athrow, 1))
    (hR1 : 5 < R.frames) (hR2 : (rest.map fun v => v.category).sum + 82 ≤ R.locals) (hf : cells + 1 ≤ R.cells ∧ slots + 6 ≤ R.slots) (hi : es[i]? = some cls) (hcd : cd = i + 1) (hc : cells + 1 ≤ mc) (hs : slots + 6 ≤ ms) :
    W p l e R s m args below meth c s.heap [] cells slots (tcE below es cd D N0 ws v ws' args s mc ms) (F0 m pc ls rest) := by
  obtain ⟨hx, hb, hml, hown, hts⟩ := C0
  obtain ⟨sa, hsa⟩ := hG.2.2.2.2.2.2 _ htx
  refine vx_throwS hx hb hlf (names := ["java/lang/RuntimeException", "java/lang/Exception"]) (A := tcA N0) hown hcls (by decide +kernel) (hts _ hk) (hts _ hini) hsa (fun w hw => hts w (hat w hw).1) ?_ hG.2.2.2.2.1 hG.2.2.2.2.2.1 va_S.rf (hl.1.trans hml.symm) d0 d3 d4 d6 d9 (fun x hx => (ht x hx).elim) hR1 hR2 hf.1 hf.2 hlk ?_ (fun z hz => by cases hz) hc hs
  · intro w hw
    rcases List.mem_cons.mp hw with rfl | hw
    · rfl
    · rcases List.mem_cons.mp hw with rfl | hw
      · rfl
      · exact (hat w hw).2
  · intro t _ h2 h3
    exact ⟨⟨i, hi, hcd⟩, fun k q hq => (hG.1 k q hq).kept (h3 q.1 (hG.1 k q hq).lt), ⟨h2, fun q h _ => h3 q h⟩⟩
end TCF
end
