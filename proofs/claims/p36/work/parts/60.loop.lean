/-! the law: its loop, its start -/
set_option maxHeartbeats 4000000 in
set_option maxRecDepth 100000 in
theorem law_loop {p : Program} {l : Launch} {e : Env} {s : State} {m : MethodId} {below : List Frame} {meth : Method} {c : Code} {b L : Nat} {xs : Nat → Int32} (hlf : l.stackTraces = false) (hr : meth.sig.returnType = ret) (hlk : meth.locks = false) (C0 : CallFix p m c cL_law 25 s #[Value.ref b] wsL_law RL) (hX : va_X b L xs s s.heap) (hbl : b < s.heap.size) (hL : L ≤ 260) {D : va_G} {cI cJ : ClassId} (hG0 : tcG D cI cJ s.heap.size [] s s.heap) {h r1 r2 r3 r4 g : Nat} :
    ∀ (kf t : Nat) (_ : 10 ≤ t + kf) (_ : t ≤ 9) (tk co cn wk : Nat → Nat) (n st : Nat) (ho ct : Int32) (sq ra : Nat) (rw : Nat → Nat) (f : Nat → Nat → Nat), tOk tk co cn wk n st → tSy tk co cn wk n f → 0 < n → sq ≤ 24 * t → ∀ (ls : Array Slot), lv_has ls 25 [(0, .ref b), (1, .ref h), (2, .ref g), (3, .int (nI (t)))] → ∀ (H : Heap) (locs : List Loc), tcG D cI cJ s.heap.size (wB h r1 r2 r3 r4 cI tk co cn wk n ho st ct (nI sq) g ra rw cJ ho st ct (nI sq) n f []) s H → va_S (tcA s.heap.size) s.heap H locs → W p l e room_1 s m #[Value.ref b] below meth c H locs (0 + (40 + 4 * t)) (0 + (300 + 24 * t)) (lw_Z below #[Value.ref b] s) (F0 m 22 ls []) := by
  intro kf
  induction kf with
  | zero => intro t hm ht; exact absurd hm (by omega)
  | succ kf ih =>
    intro t hm ht tk co cn wk n st ho ct sq ra rw f hk hy hn0 hsq ls hl H locs hG hS
    refine lv_iload_n C0.1 C0.2.1 dL_law_22 rfl (lv_at hl 3 rfl) ?_
    refine lv_bipush (v := nI 9) C0.1 C0.2.1 dL_law_23 (by decide) ?_
    refine tn_icmp_ge (tgt := 1200) C0.1 C0.2.1 dL_law_25 (by decide) (by omega) (by omega) (fun c_25 => ?_) (fun c_25 => ?_)
    · refine lv_aload_n C0.1 C0.2.1 dL_law_1200 rfl (lv_at hl 2 rfl) ?_
      refine lv_aload_n C0.1 C0.2.1 dL_law_1201 rfl (lv_at hl 1 rfl) ?_
      refine tc_callV (q0 := 5) C0 hG hS rfl rfl (kX1_isSame hlf hk hy) (cwV 1 C0.2.2.2.2 gL_law_X1_isSame rfl rfl rfl (by decide +kernel) ⟨(Nat.le_of_ble_eq_true rfl), (Nat.le_of_ble_eq_true rfl)⟩) rfl hl rfl (Nat.le_of_ble_eq_true rfl) dL_law_1202 ⟨by dsimp only [room_1]; omega, by dsimp only [room_1]; omega⟩ (fun H locs hG hS => ?_)
      refine tc_top (y := 1) (by decide) ?_
      refine va_forget (fun q hq => hS.2.2 q hq) ?_
      refine W.widen (k := room_1.cells) (n := room_1.slots) (by dsimp only [room_1]; omega) (by dsimp only [room_1]; omega) ?_
      exact lw_ret (d0 := s.drawn) (Drawn.sameBut.refl s.drawn lw_cs) C0.1 C0.2.1 hr hlk dL_law_1205
    · refine law_28 hlf C0 hG0 hk hy hn0 (by omega) c_25 hX hbl (Nat.le_refl _) hL hl hG hS ?_
      intro v tk co cn wk n st ho ct sq2 ra rw f hk hy hn0 hsq2 ls hl H locs hG hS
      refine law_128 hlf C0 hG0 hk hy hn0 (by omega) c_25 hl hG hS ?_
      intro ls hl H locs hG hS
      refine law_193 hlf C0 hG0 hk hy hn0 (by omega) c_25 hl hG hS ?_
      intro ls hl H locs hG hS
      refine law_460 hlf C0 hG0 hk hy hn0 (by omega) c_25 hl hG hS ?_
      intro ls hl H locs hG hS
      refine law_519 hlf C0 hG0 hk hy hn0 (by omega) c_25 hl hG hS ?_
      intro ls hl H locs hG hS
      refine law_598 hlf C0 hG0 hk hy hn0 (by omega) c_25 hl hG hS ?_
      intro ls hl H locs hG hS
      refine law_708 hlf C0 hG0 hk hy hn0 (by omega) c_25 hl hG hS ?_
      intro tk co cn st sq3 f one hk hy hsq3 ho1 ls hl H locs hG hS
      refine law_1008 hlf C0 hG0 hk hy hn0 (by omega) c_25 ho1 hl hG hS ?_
      intro cx hx sx cy fx hkx hyx ls hl H locs hG hS
      exact ih (t + 1) (by omega) (by omega) tk co cx wk n sx hx cy sq3 ra rw fx hkx hyx hn0 (by omega) ls hl H locs hG hS
