/-! the law from 598 -/
set_option maxHeartbeats 4000000 in
set_option maxRecDepth 100000 in
theorem law_598 {p : Program} {l : Launch} {e : Env} {s : State} {m : MethodId} {args : Array Value} {below : List Frame} {meth : Method} {c : Code} {Q : State → Prop} (hlf : l.stackTraces = false) (C0 : CallFix p m c cL_law 25 s args wsL_law RL) {D : va_G} {cI cJ : ClassId} {N0 : Nat} (hG0 : tcG D cI cJ N0 [] s s.heap) {b h r1 r2 r3 r4 g : Nat} {tk co cn wk : Nat → Nat} {n st : Nat} {ho ct : Int32} {sq ra : Nat} {rw : Nat → Nat} {f : Nat → Nat → Nat} (hk : tOk tk co cn wk n st) (hy : tSy tk co cn wk n f) (hn0 : 0 < n) (hsq : sq ≤ 1000) {t : Nat} (ht9 : t < 9) {v : Int32} {ls : Array Slot} (hl : lv_has ls 25 [(0, .ref b), (1, .ref h), (2, .ref g), (3, .int (nI (t))), (4, .int (v)), (8, .long (dgst tk co cn wk n ho st ct (nI sq))), (10, .int (nI (n))), (11, .int (nI (tw tk co cn wk 0 n)))]) {H : Heap} {locs : List Loc} (hG : tcG D cI cJ N0 (wB h r1 r2 r3 r4 cI tk co cn wk n ho st ct (nI sq) g ra rw cJ ho st ct (nI sq) n f ([])) s H) (hS : va_S (tcA N0) s.heap H locs) (cut_708 : ∀ (ls : Array Slot), lv_has ls 25 [(0, .ref b), (1, .ref h), (2, .ref g), (3, .int (nI (t))), (4, .int (v)), (10, .int (nI (n))), (11, .int (nI (tw tk co cn wk 0 n))), (17, .int (iM (bestSw tk co cn wk n)))] → ∀ (H : Heap) (locs : List Loc), tcG D cI cJ N0 (wB h r1 r2 r3 r4 cI tk co cn wk n ho st ct (nI sq) g ra rw cJ ho st ct (nI sq) n f ([])) s H → va_S (tcA N0) s.heap H locs → W p l e room_1 s m args below meth c H locs (0 + (40 + 4 * (t + 1))) (0 + (300 + 24 * (t + 1))) Q (F0 m 708 ls [])) : W p l e room_1 s m args below meth c H locs (0 + (40 + 4 * (t + 1))) (0 + (300 + 24 * (t + 1))) Q (F0 m 598 ls []) := by
  obtain ⟨hk1, hk2, hk3, hk4, hn12, hst⟩ := id hk
  have hLb := (luckiest_P tk co hn12).1
  have hL : (n < 2 ∧ luckiest tk co n = 0) ∨ (2 ≤ n ∧ 0 < luckiest tk co n) := by
    rcases Nat.lt_or_ge n 2 with h2 | h2
    · exact Or.inl ⟨h2, luckiest_0 h2⟩
    · obtain ⟨x, y, _, _, h5, _⟩ := luckiest_1 (tk := tk) (co := co) hn12 h2
      exact Or.inr ⟨h2, by omega⟩
  refine lv_aload_n C0.1 C0.2.1 dL_law_598 rfl (lv_at hl 1 rfl) ?_
  refine tc_callV (q0 := 0) C0 hG hS rfl rfl (kX0_luckiestPair hlf hk   ) (cwV 0 C0.2.2.2.2 gL_law_X0_luckiestPair rfl rfl rfl (by decide +kernel) ⟨(Nat.le_of_ble_eq_true rfl), (Nat.le_of_ble_eq_true rfl)⟩) rfl hl rfl (Nat.le_of_ble_eq_true rfl) dL_law_599 ⟨by dsimp only [room_1]; omega, by dsimp only [room_1]; omega⟩ (fun H locs hG hS => ?_)
  refine lv_istore (lv' := [(16, .int (iM (luckiest tk co n))), (0, .ref b), (1, .ref h), (2, .ref g), (3, .int (nI (t))), (4, .int (v)), (8, .long (dgst tk co cn wk n ho st ct (nI sq))), (10, .int (nI (n))), (11, .int (nI (tw tk co cn wk 0 n)))]) C0.1 C0.2.1 dL_law_602 hl (by decide) rfl (fun ls hl => ?_)
  refine lv_aload_n C0.1 C0.2.1 dL_law_604 rfl (lv_at hl 2 rfl) ?_
  refine tc_callV (q0 := 0) C0 hG hS rfl rfl (kX0_bestSwap hlf hk   ) (cwV 0 C0.2.2.2.2 gL_law_X0_bestSwap rfl rfl rfl (by decide +kernel) ⟨(Nat.le_of_ble_eq_true rfl), (Nat.le_of_ble_eq_true rfl)⟩) rfl hl rfl (Nat.le_of_ble_eq_true rfl) dL_law_605 ⟨by dsimp only [room_1]; omega, by dsimp only [room_1]; omega⟩ (fun H locs hG hS => ?_)
  refine lv_istore (lv' := [(17, .int (iM (bestSw tk co cn wk n))), (16, .int (iM (luckiest tk co n))), (0, .ref b), (1, .ref h), (2, .ref g), (3, .int (nI (t))), (4, .int (v)), (8, .long (dgst tk co cn wk n ho st ct (nI sq))), (10, .int (nI (n))), (11, .int (nI (tw tk co cn wk 0 n)))]) C0.1 C0.2.1 dL_law_608 hl (by decide) rfl (fun ls hl => ?_)
  refine lv_iload C0.1 C0.2.1 dL_law_610 (lv_at hl 1 rfl) ?_
  refine tmz_if_ge (tgt := 619) C0.1 C0.2.1 dL_law_612 (by decide) (by omega) (fun c_612 => ?_) (fun c_612 => ?_)
  · refine lv_iconst (v := nI 0) C0.1 C0.2.1 dL_law_619 (by decide) ?_
    refine lv_iload C0.1 C0.2.1 dL_law_620 (lv_at hl 8 rfl) ?_
    refine lv_iconst (v := nI 2) C0.1 C0.2.1 dL_law_622 (by decide) ?_
    refine tn_icmp_ge (tgt := 630) C0.1 C0.2.1 dL_law_623 (by decide) (by omega) (by omega) (fun c_623 => ?_) (fun c_623 => ?_)
    · refine lv_iconst (v := nI 0) C0.1 C0.2.1 dL_law_630 (by decide) ?_
      refine tn_icmp_ne (tgt := 644) C0.1 C0.2.1 dL_law_631 (by decide) (by omega) (by omega) (fun c_631 => ?_) (fun c_631 => ?_)
      · exact absurd (by omega) c_631
      · refine lv_aload_n C0.1 C0.2.1 dL_law_634 rfl (lv_at hl 3 rfl) ?_
        refine tc_callV (q0 := 0) C0 hG hS rfl rfl (kX0_digest hlf hk   ) (cwV 0 C0.2.2.2.2 gL_law_X0_digest rfl rfl rfl (by decide +kernel) ⟨(Nat.le_of_ble_eq_true rfl), (Nat.le_of_ble_eq_true rfl)⟩) rfl hl rfl (Nat.le_of_ble_eq_true rfl) dL_law_635 ⟨by dsimp only [room_1]; omega, by dsimp only [room_1]; omega⟩ (fun H locs hG hS => ?_)
        refine lv_lload C0.1 C0.2.1 dL_law_638 (lv_at hl 7 rfl) ?_
        refine W.lcmp C0.1 C0.2.1 dL_law_640 ?_
        refine tc_top (lg_self _) ?_
        refine tn_if_eq (tgt := 646) C0.1 C0.2.1 dL_law_641 (by decide) (by omega) (fun c_641 => ?_) (fun c_641 => ?_)
        · obtain ⟨pr, epr, hpr⟩ : ∃ pr : Int32, iM (luckiest tk co n) = pr ∧ (n < 2 ∨ ∃ x y, x < y ∧ y < n ∧ pr = nI (100 * x + y) ∧ ∀ a b, a < b → b < n → pts tk co a b ≤ pts tk co x y) := by
            refine ⟨_, rfl, ?_⟩
            rcases Nat.lt_or_ge n 2 with h2 | h2
            · exact Or.inl h2
            · obtain ⟨x, y, h3, h4, h5, h6⟩ := luckiest_1 (tk := tk) (co := co) hn12 h2
              exact Or.inr ⟨x, y, h3, h4, by rw [h5, iM_s], h6⟩
          rw [epr] at hl
          refine lv_iconst (v := nI 0) C0.1 C0.2.1 dL_law_646 (by decide) ?_
          refine lv_istore (lv' := [(18, .int (nI (0))), (17, .int (iM (bestSw tk co cn wk n))), (16, .int (pr)), (0, .ref b), (1, .ref h), (2, .ref g), (3, .int (nI (t))), (4, .int (v)), (8, .long (dgst tk co cn wk n ho st ct (nI sq))), (10, .int (nI (n))), (11, .int (nI (tw tk co cn wk 0 n)))]) C0.1 C0.2.1 dL_law_647 hl (by decide) rfl (fun ls hl => ?_)
          have cut_649 : ∀ (kf : Nat) (a : Nat) (ha : a ≤ n) (hm : n + 1 ≤ a + kf), ∀ (ls : Array Slot), lv_has ls 25 [(18, .int (nI (a))), (17, .int (iM (bestSw tk co cn wk n))), (16, .int (pr)), (0, .ref b), (1, .ref h), (2, .ref g), (3, .int (nI (t))), (4, .int (v)), (10, .int (nI (n))), (11, .int (nI (tw tk co cn wk 0 n)))] → ∀ (H : Heap) (locs : List Loc), tcG D cI cJ N0 (wB h r1 r2 r3 r4 cI tk co cn wk n ho st ct (nI sq) g ra rw cJ ho st ct (nI sq) n f ([])) s H → va_S (tcA N0) s.heap H locs → W p l e room_1 s m args below meth c H locs (0 + (40 + 4 * (t + 1))) (0 + (300 + 24 * (t + 1))) Q (F0 m 649 ls []) := by
            intro kf
            induction kf with
            | zero => intro a ha hm; exact absurd hm (by omega)
            | succ kf ih_649 =>
              intro a ha hm ls hl H locs hG hS
              refine lv_iload C0.1 C0.2.1 dL_law_649 (lv_at hl 0 rfl) ?_
              refine lv_iload C0.1 C0.2.1 dL_law_651 (lv_at hl 8 rfl) ?_
              refine tn_icmp_ge (tgt := 708) C0.1 C0.2.1 dL_law_653 (by decide) (by omega) (by omega) (fun c_653 => ?_) (fun c_653 => ?_)
              · exact cut_708   ls (lv_sub hl [3, 4, 5, 6, 7, 8, 9, 1] rfl) _ _ hG hS
              · refine lv_iload C0.1 C0.2.1 dL_law_656 (lv_at hl 0 rfl) ?_
                refine lv_iconst (v := nI 1) C0.1 C0.2.1 dL_law_658 (by decide) ?_
                refine tn_iadd C0.1 C0.2.1 dL_law_659 ?_
                refine lv_istore (lv' := [(19, .int (nI (a + 1))), (18, .int (nI (a))), (17, .int (iM (bestSw tk co cn wk n))), (16, .int (pr)), (0, .ref b), (1, .ref h), (2, .ref g), (3, .int (nI (t))), (4, .int (v)), (10, .int (nI (n))), (11, .int (nI (tw tk co cn wk 0 n)))]) C0.1 C0.2.1 dL_law_660 hl (by decide) rfl (fun ls hl => ?_)
                have cut_662 : ∀ (kf : Nat) (k : Nat) (hk9 : k ≤ n) (hak : a < k) (hm : n + 1 ≤ k + kf), ∀ (ls : Array Slot), lv_has ls 25 [(19, .int (nI (k))), (18, .int (nI (a))), (17, .int (iM (bestSw tk co cn wk n))), (16, .int (pr)), (0, .ref b), (1, .ref h), (2, .ref g), (3, .int (nI (t))), (4, .int (v)), (10, .int (nI (n))), (11, .int (nI (tw tk co cn wk 0 n)))] → ∀ (H : Heap) (locs : List Loc), tcG D cI cJ N0 (wB h r1 r2 r3 r4 cI tk co cn wk n ho st ct (nI sq) g ra rw cJ ho st ct (nI sq) n f ([])) s H → va_S (tcA N0) s.heap H locs → W p l e room_1 s m args below meth c H locs (0 + (40 + 4 * (t + 1))) (0 + (300 + 24 * (t + 1))) Q (F0 m 662 ls []) := by
                  intro kf
                  induction kf with
                  | zero => intro k hk9 hak hm; exact absurd hm (by omega)
                  | succ kf ih_662 =>
                    intro k hk9 hak hm ls hl H locs hG hS
                    refine lv_iload C0.1 C0.2.1 dL_law_662 (lv_at hl 0 rfl) ?_
                    refine lv_iload C0.1 C0.2.1 dL_law_664 (lv_at hl 9 rfl) ?_
                    refine tn_icmp_ge (tgt := 702) C0.1 C0.2.1 dL_law_666 (by decide) (by omega) (by omega) (fun c_666 => ?_) (fun c_666 => ?_)
                    · refine tn_iinc (lv' := [(18, .int (nI (a + 1))), (19, .int (nI (k))), (17, .int (iM (bestSw tk co cn wk n))), (16, .int (pr)), (0, .ref b), (1, .ref h), (2, .ref g), (3, .int (nI (t))), (4, .int (v)), (10, .int (nI (n))), (11, .int (nI (tw tk co cn wk 0 n)))]) C0.1 C0.2.1 dL_law_702 hl (k := 1) rfl (by decide) rfl (fun ls hl => ?_)
                      refine lv_goto (tgt := 649) C0.1 C0.2.1 dL_law_705 (by decide) ?_
                      exact ih_649 (a + 1) (by omega) (by omega) ls (lv_sub hl [0, 2, 3, 4, 5, 6, 7, 8, 9, 10] rfl) _ _ hG hS
                    · obtain ⟨x, y, hxy, hyn, epr2, hmax⟩ := hpr.resolve_left (by omega)
                      have hmx := hmax a k hak (by omega)
                      have hpb := pts_le tk co a k
                      refine lv_aload_n C0.1 C0.2.1 dL_law_669 rfl (lv_at hl 5 rfl) ?_
                      refine lv_iload C0.1 C0.2.1 dL_law_670 (lv_at hl 1 rfl) ?_
                      refine lv_iload C0.1 C0.2.1 dL_law_672 (lv_at hl 0 rfl) ?_
                      refine tc_callV (q0 := 0) C0 hG hS rfl rfl (kX0_pointsOf_in hlf hk  (a) (k) (by omega) (by omega) (by omega)) (cwV 2 C0.2.2.2.2 gL_law_X0_pointsOf rfl rfl rfl (by decide +kernel) ⟨(Nat.le_of_ble_eq_true rfl), (Nat.le_of_ble_eq_true rfl)⟩) rfl hl rfl (Nat.le_of_ble_eq_true rfl) dL_law_674 ⟨by dsimp only [room_1]; omega, by dsimp only [room_1]; omega⟩ (fun H locs hG hS => ?_)
                      have b_674 := pts_le tk co a k
                      refine lv_aload_n C0.1 C0.2.1 dL_law_677 rfl (lv_at hl 5 rfl) ?_
                      refine lv_iload C0.1 C0.2.1 dL_law_678 (lv_at hl 3 rfl) ?_
                      refine tc_top epr2 ?_
                      refine lv_bipush (v := nI 100) C0.1 C0.2.1 dL_law_680 (by decide) ?_
                      refine tn_idiv C0.1 C0.2.1 dL_law_682 (by omega) (by decide) (by decide) ?_
                      refine tc_top (y := nI x) (congrArg nI (by omega)) ?_
                      refine lv_iload C0.1 C0.2.1 dL_law_683 (lv_at hl 3 rfl) ?_
                      refine tc_top epr2 ?_
                      refine lv_bipush (v := nI 100) C0.1 C0.2.1 dL_law_685 (by decide) ?_
                      refine tn_irem C0.1 C0.2.1 dL_law_687 (by omega) (by decide) (by decide) ?_
                      refine tc_top (y := nI y) (congrArg nI (by omega)) ?_
                      refine tc_callV (q0 := 0) C0 hG hS rfl rfl (kX0_pointsOf_in hlf hk  (x) (y) (by omega) (by omega) (by omega)) (cwV 2 C0.2.2.2.2 gL_law_X0_pointsOf rfl rfl rfl (by decide +kernel) ⟨(Nat.le_of_ble_eq_true rfl), (Nat.le_of_ble_eq_true rfl)⟩) rfl hl rfl (Nat.le_of_ble_eq_true rfl) dL_law_688 ⟨by dsimp only [room_1]; omega, by dsimp only [room_1]; omega⟩ (fun H locs hG hS => ?_)
                      have b_688 := pts_le tk co x y
                      refine tn_icmp_le (tgt := 696) C0.1 C0.2.1 dL_law_691 (by decide) (by omega) (by omega) (fun c_691 => ?_) (fun c_691 => ?_)
                      · refine tn_iinc (lv' := [(19, .int (nI (k + 1))), (18, .int (nI (a))), (17, .int (iM (bestSw tk co cn wk n))), (16, .int (pr)), (0, .ref b), (1, .ref h), (2, .ref g), (3, .int (nI (t))), (4, .int (v)), (10, .int (nI (n))), (11, .int (nI (tw tk co cn wk 0 n)))]) C0.1 C0.2.1 dL_law_696 hl (k := 0) rfl (by decide) rfl (fun ls hl => ?_)
                        refine lv_goto (tgt := 662) C0.1 C0.2.1 dL_law_699 (by decide) ?_
                        exact ih_662 (k + 1) (by omega) (by omega) (by omega) ls (lv_sub hl [0, 1, 2, 3, 4, 5, 6, 7, 8, 9, 10] rfl) _ _ hG hS
                      · exact absurd c_691 (by omega)
                exact cut_662 (n + 1) (a + 1) (by omega) (by omega) (by omega) ls (lv_sub hl [0, 1, 2, 3, 4, 5, 6, 7, 8, 9, 10] rfl) _ _ hG hS
          exact cut_649 (n + 1) (0) (by omega) (by omega) ls (lv_sub hl [0, 1, 2, 3, 4, 5, 6, 7, 9, 10] rfl) _ _ hG hS
        · exact absurd c_641 (by decide)
    · refine lv_iconst (v := nI 1) C0.1 C0.2.1 dL_law_626 (by decide) ?_
      refine lv_goto (tgt := 631) C0.1 C0.2.1 dL_law_627 (by decide) ?_
      refine tn_icmp_ne (tgt := 644) C0.1 C0.2.1 dL_law_631 (by decide) (by omega) (by omega) (fun c_631 => ?_) (fun c_631 => ?_)
      · exact absurd (by omega) c_631
      · refine lv_aload_n C0.1 C0.2.1 dL_law_634 rfl (lv_at hl 3 rfl) ?_
        refine tc_callV (q0 := 0) C0 hG hS rfl rfl (kX0_digest hlf hk   ) (cwV 0 C0.2.2.2.2 gL_law_X0_digest rfl rfl rfl (by decide +kernel) ⟨(Nat.le_of_ble_eq_true rfl), (Nat.le_of_ble_eq_true rfl)⟩) rfl hl rfl (Nat.le_of_ble_eq_true rfl) dL_law_635 ⟨by dsimp only [room_1]; omega, by dsimp only [room_1]; omega⟩ (fun H locs hG hS => ?_)
        refine lv_lload C0.1 C0.2.1 dL_law_638 (lv_at hl 7 rfl) ?_
        refine W.lcmp C0.1 C0.2.1 dL_law_640 ?_
        refine tc_top (lg_self _) ?_
        refine tn_if_eq (tgt := 646) C0.1 C0.2.1 dL_law_641 (by decide) (by omega) (fun c_641 => ?_) (fun c_641 => ?_)
        · obtain ⟨pr, epr, hpr⟩ : ∃ pr : Int32, iM (luckiest tk co n) = pr ∧ (n < 2 ∨ ∃ x y, x < y ∧ y < n ∧ pr = nI (100 * x + y) ∧ ∀ a b, a < b → b < n → pts tk co a b ≤ pts tk co x y) := by
            refine ⟨_, rfl, ?_⟩
            rcases Nat.lt_or_ge n 2 with h2 | h2
            · exact Or.inl h2
            · obtain ⟨x, y, h3, h4, h5, h6⟩ := luckiest_1 (tk := tk) (co := co) hn12 h2
              exact Or.inr ⟨x, y, h3, h4, by rw [h5, iM_s], h6⟩
          rw [epr] at hl
          refine lv_iconst (v := nI 0) C0.1 C0.2.1 dL_law_646 (by decide) ?_
          refine lv_istore (lv' := [(18, .int (nI (0))), (17, .int (iM (bestSw tk co cn wk n))), (16, .int (pr)), (0, .ref b), (1, .ref h), (2, .ref g), (3, .int (nI (t))), (4, .int (v)), (8, .long (dgst tk co cn wk n ho st ct (nI sq))), (10, .int (nI (n))), (11, .int (nI (tw tk co cn wk 0 n)))]) C0.1 C0.2.1 dL_law_647 hl (by decide) rfl (fun ls hl => ?_)
          have cut_649 : ∀ (kf : Nat) (a : Nat) (ha : a ≤ n) (hm : n + 1 ≤ a + kf), ∀ (ls : Array Slot), lv_has ls 25 [(18, .int (nI (a))), (17, .int (iM (bestSw tk co cn wk n))), (16, .int (pr)), (0, .ref b), (1, .ref h), (2, .ref g), (3, .int (nI (t))), (4, .int (v)), (10, .int (nI (n))), (11, .int (nI (tw tk co cn wk 0 n)))] → ∀ (H : Heap) (locs : List Loc), tcG D cI cJ N0 (wB h r1 r2 r3 r4 cI tk co cn wk n ho st ct (nI sq) g ra rw cJ ho st ct (nI sq) n f ([])) s H → va_S (tcA N0) s.heap H locs → W p l e room_1 s m args below meth c H locs (0 + (40 + 4 * (t + 1))) (0 + (300 + 24 * (t + 1))) Q (F0 m 649 ls []) := by
            intro kf
            induction kf with
            | zero => intro a ha hm; exact absurd hm (by omega)
            | succ kf ih_649 =>
              intro a ha hm ls hl H locs hG hS
              refine lv_iload C0.1 C0.2.1 dL_law_649 (lv_at hl 0 rfl) ?_
              refine lv_iload C0.1 C0.2.1 dL_law_651 (lv_at hl 8 rfl) ?_
              refine tn_icmp_ge (tgt := 708) C0.1 C0.2.1 dL_law_653 (by decide) (by omega) (by omega) (fun c_653 => ?_) (fun c_653 => ?_)
              · exact cut_708   ls (lv_sub hl [3, 4, 5, 6, 7, 8, 9, 1] rfl) _ _ hG hS
              · refine lv_iload C0.1 C0.2.1 dL_law_656 (lv_at hl 0 rfl) ?_
                refine lv_iconst (v := nI 1) C0.1 C0.2.1 dL_law_658 (by decide) ?_
                refine tn_iadd C0.1 C0.2.1 dL_law_659 ?_
                refine lv_istore (lv' := [(19, .int (nI (a + 1))), (18, .int (nI (a))), (17, .int (iM (bestSw tk co cn wk n))), (16, .int (pr)), (0, .ref b), (1, .ref h), (2, .ref g), (3, .int (nI (t))), (4, .int (v)), (10, .int (nI (n))), (11, .int (nI (tw tk co cn wk 0 n)))]) C0.1 C0.2.1 dL_law_660 hl (by decide) rfl (fun ls hl => ?_)
                have cut_662 : ∀ (kf : Nat) (k : Nat) (hk9 : k ≤ n) (hak : a < k) (hm : n + 1 ≤ k + kf), ∀ (ls : Array Slot), lv_has ls 25 [(19, .int (nI (k))), (18, .int (nI (a))), (17, .int (iM (bestSw tk co cn wk n))), (16, .int (pr)), (0, .ref b), (1, .ref h), (2, .ref g), (3, .int (nI (t))), (4, .int (v)), (10, .int (nI (n))), (11, .int (nI (tw tk co cn wk 0 n)))] → ∀ (H : Heap) (locs : List Loc), tcG D cI cJ N0 (wB h r1 r2 r3 r4 cI tk co cn wk n ho st ct (nI sq) g ra rw cJ ho st ct (nI sq) n f ([])) s H → va_S (tcA N0) s.heap H locs → W p l e room_1 s m args below meth c H locs (0 + (40 + 4 * (t + 1))) (0 + (300 + 24 * (t + 1))) Q (F0 m 662 ls []) := by
                  intro kf
                  induction kf with
                  | zero => intro k hk9 hak hm; exact absurd hm (by omega)
                  | succ kf ih_662 =>
                    intro k hk9 hak hm ls hl H locs hG hS
                    refine lv_iload C0.1 C0.2.1 dL_law_662 (lv_at hl 0 rfl) ?_
                    refine lv_iload C0.1 C0.2.1 dL_law_664 (lv_at hl 9 rfl) ?_
                    refine tn_icmp_ge (tgt := 702) C0.1 C0.2.1 dL_law_666 (by decide) (by omega) (by omega) (fun c_666 => ?_) (fun c_666 => ?_)
                    · refine tn_iinc (lv' := [(18, .int (nI (a + 1))), (19, .int (nI (k))), (17, .int (iM (bestSw tk co cn wk n))), (16, .int (pr)), (0, .ref b), (1, .ref h), (2, .ref g), (3, .int (nI (t))), (4, .int (v)), (10, .int (nI (n))), (11, .int (nI (tw tk co cn wk 0 n)))]) C0.1 C0.2.1 dL_law_702 hl (k := 1) rfl (by decide) rfl (fun ls hl => ?_)
                      refine lv_goto (tgt := 649) C0.1 C0.2.1 dL_law_705 (by decide) ?_
                      exact ih_649 (a + 1) (by omega) (by omega) ls (lv_sub hl [0, 2, 3, 4, 5, 6, 7, 8, 9, 10] rfl) _ _ hG hS
                    · obtain ⟨x, y, hxy, hyn, epr2, hmax⟩ := hpr.resolve_left (by omega)
                      have hmx := hmax a k hak (by omega)
                      have hpb := pts_le tk co a k
                      refine lv_aload_n C0.1 C0.2.1 dL_law_669 rfl (lv_at hl 5 rfl) ?_
                      refine lv_iload C0.1 C0.2.1 dL_law_670 (lv_at hl 1 rfl) ?_
                      refine lv_iload C0.1 C0.2.1 dL_law_672 (lv_at hl 0 rfl) ?_
                      refine tc_callV (q0 := 0) C0 hG hS rfl rfl (kX0_pointsOf_in hlf hk  (a) (k) (by omega) (by omega) (by omega)) (cwV 2 C0.2.2.2.2 gL_law_X0_pointsOf rfl rfl rfl (by decide +kernel) ⟨(Nat.le_of_ble_eq_true rfl), (Nat.le_of_ble_eq_true rfl)⟩) rfl hl rfl (Nat.le_of_ble_eq_true rfl) dL_law_674 ⟨by dsimp only [room_1]; omega, by dsimp only [room_1]; omega⟩ (fun H locs hG hS => ?_)
                      have b_674 := pts_le tk co a k
                      refine lv_aload_n C0.1 C0.2.1 dL_law_677 rfl (lv_at hl 5 rfl) ?_
                      refine lv_iload C0.1 C0.2.1 dL_law_678 (lv_at hl 3 rfl) ?_
                      refine tc_top epr2 ?_
                      refine lv_bipush (v := nI 100) C0.1 C0.2.1 dL_law_680 (by decide) ?_
                      refine tn_idiv C0.1 C0.2.1 dL_law_682 (by omega) (by decide) (by decide) ?_
                      refine tc_top (y := nI x) (congrArg nI (by omega)) ?_
                      refine lv_iload C0.1 C0.2.1 dL_law_683 (lv_at hl 3 rfl) ?_
                      refine tc_top epr2 ?_
                      refine lv_bipush (v := nI 100) C0.1 C0.2.1 dL_law_685 (by decide) ?_
                      refine tn_irem C0.1 C0.2.1 dL_law_687 (by omega) (by decide) (by decide) ?_
                      refine tc_top (y := nI y) (congrArg nI (by omega)) ?_
                      refine tc_callV (q0 := 0) C0 hG hS rfl rfl (kX0_pointsOf_in hlf hk  (x) (y) (by omega) (by omega) (by omega)) (cwV 2 C0.2.2.2.2 gL_law_X0_pointsOf rfl rfl rfl (by decide +kernel) ⟨(Nat.le_of_ble_eq_true rfl), (Nat.le_of_ble_eq_true rfl)⟩) rfl hl rfl (Nat.le_of_ble_eq_true rfl) dL_law_688 ⟨by dsimp only [room_1]; omega, by dsimp only [room_1]; omega⟩ (fun H locs hG hS => ?_)
                      have b_688 := pts_le tk co x y
                      refine tn_icmp_le (tgt := 696) C0.1 C0.2.1 dL_law_691 (by decide) (by omega) (by omega) (fun c_691 => ?_) (fun c_691 => ?_)
                      · refine tn_iinc (lv' := [(19, .int (nI (k + 1))), (18, .int (nI (a))), (17, .int (iM (bestSw tk co cn wk n))), (16, .int (pr)), (0, .ref b), (1, .ref h), (2, .ref g), (3, .int (nI (t))), (4, .int (v)), (10, .int (nI (n))), (11, .int (nI (tw tk co cn wk 0 n)))]) C0.1 C0.2.1 dL_law_696 hl (k := 0) rfl (by decide) rfl (fun ls hl => ?_)
                        refine lv_goto (tgt := 662) C0.1 C0.2.1 dL_law_699 (by decide) ?_
                        exact ih_662 (k + 1) (by omega) (by omega) (by omega) ls (lv_sub hl [0, 1, 2, 3, 4, 5, 6, 7, 8, 9, 10] rfl) _ _ hG hS
                      · exact absurd c_691 (by omega)
                exact cut_662 (n + 1) (a + 1) (by omega) (by omega) (by omega) ls (lv_sub hl [0, 1, 2, 3, 4, 5, 6, 7, 8, 9, 10] rfl) _ _ hG hS
          exact cut_649 (n + 1) (0) (by omega) (by omega) ls (lv_sub hl [0, 1, 2, 3, 4, 5, 6, 7, 9, 10] rfl) _ _ hG hS
        · exact absurd c_641 (by decide)
  · refine lv_iconst (v := nI 1) C0.1 C0.2.1 dL_law_615 (by decide) ?_
    refine lv_goto (tgt := 620) C0.1 C0.2.1 dL_law_616 (by decide) ?_
    refine lv_iload C0.1 C0.2.1 dL_law_620 (lv_at hl 8 rfl) ?_
    refine lv_iconst (v := nI 2) C0.1 C0.2.1 dL_law_622 (by decide) ?_
    refine tn_icmp_ge (tgt := 630) C0.1 C0.2.1 dL_law_623 (by decide) (by omega) (by omega) (fun c_623 => ?_) (fun c_623 => ?_)
    · refine lv_iconst (v := nI 0) C0.1 C0.2.1 dL_law_630 (by decide) ?_
      refine tn_icmp_ne (tgt := 644) C0.1 C0.2.1 dL_law_631 (by decide) (by omega) (by omega) (fun c_631 => ?_) (fun c_631 => ?_)
      · exact absurd (by omega) c_631
      · refine lv_aload_n C0.1 C0.2.1 dL_law_634 rfl (lv_at hl 3 rfl) ?_
        refine tc_callV (q0 := 0) C0 hG hS rfl rfl (kX0_digest hlf hk   ) (cwV 0 C0.2.2.2.2 gL_law_X0_digest rfl rfl rfl (by decide +kernel) ⟨(Nat.le_of_ble_eq_true rfl), (Nat.le_of_ble_eq_true rfl)⟩) rfl hl rfl (Nat.le_of_ble_eq_true rfl) dL_law_635 ⟨by dsimp only [room_1]; omega, by dsimp only [room_1]; omega⟩ (fun H locs hG hS => ?_)
        refine lv_lload C0.1 C0.2.1 dL_law_638 (lv_at hl 7 rfl) ?_
        refine W.lcmp C0.1 C0.2.1 dL_law_640 ?_
        refine tc_top (lg_self _) ?_
        refine tn_if_eq (tgt := 646) C0.1 C0.2.1 dL_law_641 (by decide) (by omega) (fun c_641 => ?_) (fun c_641 => ?_)
        · obtain ⟨pr, epr, hpr⟩ : ∃ pr : Int32, iM (luckiest tk co n) = pr ∧ (n < 2 ∨ ∃ x y, x < y ∧ y < n ∧ pr = nI (100 * x + y) ∧ ∀ a b, a < b → b < n → pts tk co a b ≤ pts tk co x y) := by
            refine ⟨_, rfl, ?_⟩
            rcases Nat.lt_or_ge n 2 with h2 | h2
            · exact Or.inl h2
            · obtain ⟨x, y, h3, h4, h5, h6⟩ := luckiest_1 (tk := tk) (co := co) hn12 h2
              exact Or.inr ⟨x, y, h3, h4, by rw [h5, iM_s], h6⟩
          rw [epr] at hl
          refine lv_iconst (v := nI 0) C0.1 C0.2.1 dL_law_646 (by decide) ?_
          refine lv_istore (lv' := [(18, .int (nI (0))), (17, .int (iM (bestSw tk co cn wk n))), (16, .int (pr)), (0, .ref b), (1, .ref h), (2, .ref g), (3, .int (nI (t))), (4, .int (v)), (8, .long (dgst tk co cn wk n ho st ct (nI sq))), (10, .int (nI (n))), (11, .int (nI (tw tk co cn wk 0 n)))]) C0.1 C0.2.1 dL_law_647 hl (by decide) rfl (fun ls hl => ?_)
          have cut_649 : ∀ (kf : Nat) (a : Nat) (ha : a ≤ n) (hm : n + 1 ≤ a + kf), ∀ (ls : Array Slot), lv_has ls 25 [(18, .int (nI (a))), (17, .int (iM (bestSw tk co cn wk n))), (16, .int (pr)), (0, .ref b), (1, .ref h), (2, .ref g), (3, .int (nI (t))), (4, .int (v)), (10, .int (nI (n))), (11, .int (nI (tw tk co cn wk 0 n)))] → ∀ (H : Heap) (locs : List Loc), tcG D cI cJ N0 (wB h r1 r2 r3 r4 cI tk co cn wk n ho st ct (nI sq) g ra rw cJ ho st ct (nI sq) n f ([])) s H → va_S (tcA N0) s.heap H locs → W p l e room_1 s m args below meth c H locs (0 + (40 + 4 * (t + 1))) (0 + (300 + 24 * (t + 1))) Q (F0 m 649 ls []) := by
            intro kf
            induction kf with
            | zero => intro a ha hm; exact absurd hm (by omega)
            | succ kf ih_649 =>
              intro a ha hm ls hl H locs hG hS
              refine lv_iload C0.1 C0.2.1 dL_law_649 (lv_at hl 0 rfl) ?_
              refine lv_iload C0.1 C0.2.1 dL_law_651 (lv_at hl 8 rfl) ?_
              refine tn_icmp_ge (tgt := 708) C0.1 C0.2.1 dL_law_653 (by decide) (by omega) (by omega) (fun c_653 => ?_) (fun c_653 => ?_)
              · exact cut_708   ls (lv_sub hl [3, 4, 5, 6, 7, 8, 9, 1] rfl) _ _ hG hS
              · refine lv_iload C0.1 C0.2.1 dL_law_656 (lv_at hl 0 rfl) ?_
                refine lv_iconst (v := nI 1) C0.1 C0.2.1 dL_law_658 (by decide) ?_
                refine tn_iadd C0.1 C0.2.1 dL_law_659 ?_
                refine lv_istore (lv' := [(19, .int (nI (a + 1))), (18, .int (nI (a))), (17, .int (iM (bestSw tk co cn wk n))), (16, .int (pr)), (0, .ref b), (1, .ref h), (2, .ref g), (3, .int (nI (t))), (4, .int (v)), (10, .int (nI (n))), (11, .int (nI (tw tk co cn wk 0 n)))]) C0.1 C0.2.1 dL_law_660 hl (by decide) rfl (fun ls hl => ?_)
                have cut_662 : ∀ (kf : Nat) (k : Nat) (hk9 : k ≤ n) (hak : a < k) (hm : n + 1 ≤ k + kf), ∀ (ls : Array Slot), lv_has ls 25 [(19, .int (nI (k))), (18, .int (nI (a))), (17, .int (iM (bestSw tk co cn wk n))), (16, .int (pr)), (0, .ref b), (1, .ref h), (2, .ref g), (3, .int (nI (t))), (4, .int (v)), (10, .int (nI (n))), (11, .int (nI (tw tk co cn wk 0 n)))] → ∀ (H : Heap) (locs : List Loc), tcG D cI cJ N0 (wB h r1 r2 r3 r4 cI tk co cn wk n ho st ct (nI sq) g ra rw cJ ho st ct (nI sq) n f ([])) s H → va_S (tcA N0) s.heap H locs → W p l e room_1 s m args below meth c H locs (0 + (40 + 4 * (t + 1))) (0 + (300 + 24 * (t + 1))) Q (F0 m 662 ls []) := by
                  intro kf
                  induction kf with
                  | zero => intro k hk9 hak hm; exact absurd hm (by omega)
                  | succ kf ih_662 =>
                    intro k hk9 hak hm ls hl H locs hG hS
                    refine lv_iload C0.1 C0.2.1 dL_law_662 (lv_at hl 0 rfl) ?_
                    refine lv_iload C0.1 C0.2.1 dL_law_664 (lv_at hl 9 rfl) ?_
                    refine tn_icmp_ge (tgt := 702) C0.1 C0.2.1 dL_law_666 (by decide) (by omega) (by omega) (fun c_666 => ?_) (fun c_666 => ?_)
                    · refine tn_iinc (lv' := [(18, .int (nI (a + 1))), (19, .int (nI (k))), (17, .int (iM (bestSw tk co cn wk n))), (16, .int (pr)), (0, .ref b), (1, .ref h), (2, .ref g), (3, .int (nI (t))), (4, .int (v)), (10, .int (nI (n))), (11, .int (nI (tw tk co cn wk 0 n)))]) C0.1 C0.2.1 dL_law_702 hl (k := 1) rfl (by decide) rfl (fun ls hl => ?_)
                      refine lv_goto (tgt := 649) C0.1 C0.2.1 dL_law_705 (by decide) ?_
                      exact ih_649 (a + 1) (by omega) (by omega) ls (lv_sub hl [0, 2, 3, 4, 5, 6, 7, 8, 9, 10] rfl) _ _ hG hS
                    · obtain ⟨x, y, hxy, hyn, epr2, hmax⟩ := hpr.resolve_left (by omega)
                      have hmx := hmax a k hak (by omega)
                      have hpb := pts_le tk co a k
                      refine lv_aload_n C0.1 C0.2.1 dL_law_669 rfl (lv_at hl 5 rfl) ?_
                      refine lv_iload C0.1 C0.2.1 dL_law_670 (lv_at hl 1 rfl) ?_
                      refine lv_iload C0.1 C0.2.1 dL_law_672 (lv_at hl 0 rfl) ?_
                      refine tc_callV (q0 := 0) C0 hG hS rfl rfl (kX0_pointsOf_in hlf hk  (a) (k) (by omega) (by omega) (by omega)) (cwV 2 C0.2.2.2.2 gL_law_X0_pointsOf rfl rfl rfl (by decide +kernel) ⟨(Nat.le_of_ble_eq_true rfl), (Nat.le_of_ble_eq_true rfl)⟩) rfl hl rfl (Nat.le_of_ble_eq_true rfl) dL_law_674 ⟨by dsimp only [room_1]; omega, by dsimp only [room_1]; omega⟩ (fun H locs hG hS => ?_)
                      have b_674 := pts_le tk co a k
                      refine lv_aload_n C0.1 C0.2.1 dL_law_677 rfl (lv_at hl 5 rfl) ?_
                      refine lv_iload C0.1 C0.2.1 dL_law_678 (lv_at hl 3 rfl) ?_
                      refine tc_top epr2 ?_
                      refine lv_bipush (v := nI 100) C0.1 C0.2.1 dL_law_680 (by decide) ?_
                      refine tn_idiv C0.1 C0.2.1 dL_law_682 (by omega) (by decide) (by decide) ?_
                      refine tc_top (y := nI x) (congrArg nI (by omega)) ?_
                      refine lv_iload C0.1 C0.2.1 dL_law_683 (lv_at hl 3 rfl) ?_
                      refine tc_top epr2 ?_
                      refine lv_bipush (v := nI 100) C0.1 C0.2.1 dL_law_685 (by decide) ?_
                      refine tn_irem C0.1 C0.2.1 dL_law_687 (by omega) (by decide) (by decide) ?_
                      refine tc_top (y := nI y) (congrArg nI (by omega)) ?_
                      refine tc_callV (q0 := 0) C0 hG hS rfl rfl (kX0_pointsOf_in hlf hk  (x) (y) (by omega) (by omega) (by omega)) (cwV 2 C0.2.2.2.2 gL_law_X0_pointsOf rfl rfl rfl (by decide +kernel) ⟨(Nat.le_of_ble_eq_true rfl), (Nat.le_of_ble_eq_true rfl)⟩) rfl hl rfl (Nat.le_of_ble_eq_true rfl) dL_law_688 ⟨by dsimp only [room_1]; omega, by dsimp only [room_1]; omega⟩ (fun H locs hG hS => ?_)
                      have b_688 := pts_le tk co x y
                      refine tn_icmp_le (tgt := 696) C0.1 C0.2.1 dL_law_691 (by decide) (by omega) (by omega) (fun c_691 => ?_) (fun c_691 => ?_)
                      · refine tn_iinc (lv' := [(19, .int (nI (k + 1))), (18, .int (nI (a))), (17, .int (iM (bestSw tk co cn wk n))), (16, .int (pr)), (0, .ref b), (1, .ref h), (2, .ref g), (3, .int (nI (t))), (4, .int (v)), (10, .int (nI (n))), (11, .int (nI (tw tk co cn wk 0 n)))]) C0.1 C0.2.1 dL_law_696 hl (k := 0) rfl (by decide) rfl (fun ls hl => ?_)
                        refine lv_goto (tgt := 662) C0.1 C0.2.1 dL_law_699 (by decide) ?_
                        exact ih_662 (k + 1) (by omega) (by omega) (by omega) ls (lv_sub hl [0, 1, 2, 3, 4, 5, 6, 7, 8, 9, 10] rfl) _ _ hG hS
                      · exact absurd c_691 (by omega)
                exact cut_662 (n + 1) (a + 1) (by omega) (by omega) (by omega) ls (lv_sub hl [0, 1, 2, 3, 4, 5, 6, 7, 8, 9, 10] rfl) _ _ hG hS
          exact cut_649 (n + 1) (0) (by omega) (by omega) ls (lv_sub hl [0, 1, 2, 3, 4, 5, 6, 7, 9, 10] rfl) _ _ hG hS
        · exact absurd c_641 (by decide)
    · refine lv_iconst (v := nI 1) C0.1 C0.2.1 dL_law_626 (by decide) ?_
      refine lv_goto (tgt := 631) C0.1 C0.2.1 dL_law_627 (by decide) ?_
      refine tn_icmp_ne (tgt := 644) C0.1 C0.2.1 dL_law_631 (by decide) (by omega) (by omega) (fun c_631 => ?_) (fun c_631 => ?_)
      · exact absurd (by omega) c_631
      · refine lv_aload_n C0.1 C0.2.1 dL_law_634 rfl (lv_at hl 3 rfl) ?_
        refine tc_callV (q0 := 0) C0 hG hS rfl rfl (kX0_digest hlf hk   ) (cwV 0 C0.2.2.2.2 gL_law_X0_digest rfl rfl rfl (by decide +kernel) ⟨(Nat.le_of_ble_eq_true rfl), (Nat.le_of_ble_eq_true rfl)⟩) rfl hl rfl (Nat.le_of_ble_eq_true rfl) dL_law_635 ⟨by dsimp only [room_1]; omega, by dsimp only [room_1]; omega⟩ (fun H locs hG hS => ?_)
        refine lv_lload C0.1 C0.2.1 dL_law_638 (lv_at hl 7 rfl) ?_
        refine W.lcmp C0.1 C0.2.1 dL_law_640 ?_
        refine tc_top (lg_self _) ?_
        refine tn_if_eq (tgt := 646) C0.1 C0.2.1 dL_law_641 (by decide) (by omega) (fun c_641 => ?_) (fun c_641 => ?_)
        · obtain ⟨pr, epr, hpr⟩ : ∃ pr : Int32, iM (luckiest tk co n) = pr ∧ (n < 2 ∨ ∃ x y, x < y ∧ y < n ∧ pr = nI (100 * x + y) ∧ ∀ a b, a < b → b < n → pts tk co a b ≤ pts tk co x y) := by
            refine ⟨_, rfl, ?_⟩
            rcases Nat.lt_or_ge n 2 with h2 | h2
            · exact Or.inl h2
            · obtain ⟨x, y, h3, h4, h5, h6⟩ := luckiest_1 (tk := tk) (co := co) hn12 h2
              exact Or.inr ⟨x, y, h3, h4, by rw [h5, iM_s], h6⟩
          rw [epr] at hl
          refine lv_iconst (v := nI 0) C0.1 C0.2.1 dL_law_646 (by decide) ?_
          refine lv_istore (lv' := [(18, .int (nI (0))), (17, .int (iM (bestSw tk co cn wk n))), (16, .int (pr)), (0, .ref b), (1, .ref h), (2, .ref g), (3, .int (nI (t))), (4, .int (v)), (8, .long (dgst tk co cn wk n ho st ct (nI sq))), (10, .int (nI (n))), (11, .int (nI (tw tk co cn wk 0 n)))]) C0.1 C0.2.1 dL_law_647 hl (by decide) rfl (fun ls hl => ?_)
          have cut_649 : ∀ (kf : Nat) (a : Nat) (ha : a ≤ n) (hm : n + 1 ≤ a + kf), ∀ (ls : Array Slot), lv_has ls 25 [(18, .int (nI (a))), (17, .int (iM (bestSw tk co cn wk n))), (16, .int (pr)), (0, .ref b), (1, .ref h), (2, .ref g), (3, .int (nI (t))), (4, .int (v)), (10, .int (nI (n))), (11, .int (nI (tw tk co cn wk 0 n)))] → ∀ (H : Heap) (locs : List Loc), tcG D cI cJ N0 (wB h r1 r2 r3 r4 cI tk co cn wk n ho st ct (nI sq) g ra rw cJ ho st ct (nI sq) n f ([])) s H → va_S (tcA N0) s.heap H locs → W p l e room_1 s m args below meth c H locs (0 + (40 + 4 * (t + 1))) (0 + (300 + 24 * (t + 1))) Q (F0 m 649 ls []) := by
            intro kf
            induction kf with
            | zero => intro a ha hm; exact absurd hm (by omega)
            | succ kf ih_649 =>
              intro a ha hm ls hl H locs hG hS
              refine lv_iload C0.1 C0.2.1 dL_law_649 (lv_at hl 0 rfl) ?_
              refine lv_iload C0.1 C0.2.1 dL_law_651 (lv_at hl 8 rfl) ?_
              refine tn_icmp_ge (tgt := 708) C0.1 C0.2.1 dL_law_653 (by decide) (by omega) (by omega) (fun c_653 => ?_) (fun c_653 => ?_)
              · exact cut_708   ls (lv_sub hl [3, 4, 5, 6, 7, 8, 9, 1] rfl) _ _ hG hS
              · refine lv_iload C0.1 C0.2.1 dL_law_656 (lv_at hl 0 rfl) ?_
                refine lv_iconst (v := nI 1) C0.1 C0.2.1 dL_law_658 (by decide) ?_
                refine tn_iadd C0.1 C0.2.1 dL_law_659 ?_
                refine lv_istore (lv' := [(19, .int (nI (a + 1))), (18, .int (nI (a))), (17, .int (iM (bestSw tk co cn wk n))), (16, .int (pr)), (0, .ref b), (1, .ref h), (2, .ref g), (3, .int (nI (t))), (4, .int (v)), (10, .int (nI (n))), (11, .int (nI (tw tk co cn wk 0 n)))]) C0.1 C0.2.1 dL_law_660 hl (by decide) rfl (fun ls hl => ?_)
                have cut_662 : ∀ (kf : Nat) (k : Nat) (hk9 : k ≤ n) (hak : a < k) (hm : n + 1 ≤ k + kf), ∀ (ls : Array Slot), lv_has ls 25 [(19, .int (nI (k))), (18, .int (nI (a))), (17, .int (iM (bestSw tk co cn wk n))), (16, .int (pr)), (0, .ref b), (1, .ref h), (2, .ref g), (3, .int (nI (t))), (4, .int (v)), (10, .int (nI (n))), (11, .int (nI (tw tk co cn wk 0 n)))] → ∀ (H : Heap) (locs : List Loc), tcG D cI cJ N0 (wB h r1 r2 r3 r4 cI tk co cn wk n ho st ct (nI sq) g ra rw cJ ho st ct (nI sq) n f ([])) s H → va_S (tcA N0) s.heap H locs → W p l e room_1 s m args below meth c H locs (0 + (40 + 4 * (t + 1))) (0 + (300 + 24 * (t + 1))) Q (F0 m 662 ls []) := by
                  intro kf
                  induction kf with
                  | zero => intro k hk9 hak hm; exact absurd hm (by omega)
                  | succ kf ih_662 =>
                    intro k hk9 hak hm ls hl H locs hG hS
                    refine lv_iload C0.1 C0.2.1 dL_law_662 (lv_at hl 0 rfl) ?_
                    refine lv_iload C0.1 C0.2.1 dL_law_664 (lv_at hl 9 rfl) ?_
                    refine tn_icmp_ge (tgt := 702) C0.1 C0.2.1 dL_law_666 (by decide) (by omega) (by omega) (fun c_666 => ?_) (fun c_666 => ?_)
                    · refine tn_iinc (lv' := [(18, .int (nI (a + 1))), (19, .int (nI (k))), (17, .int (iM (bestSw tk co cn wk n))), (16, .int (pr)), (0, .ref b), (1, .ref h), (2, .ref g), (3, .int (nI (t))), (4, .int (v)), (10, .int (nI (n))), (11, .int (nI (tw tk co cn wk 0 n)))]) C0.1 C0.2.1 dL_law_702 hl (k := 1) rfl (by decide) rfl (fun ls hl => ?_)
                      refine lv_goto (tgt := 649) C0.1 C0.2.1 dL_law_705 (by decide) ?_
                      exact ih_649 (a + 1) (by omega) (by omega) ls (lv_sub hl [0, 2, 3, 4, 5, 6, 7, 8, 9, 10] rfl) _ _ hG hS
                    · obtain ⟨x, y, hxy, hyn, epr2, hmax⟩ := hpr.resolve_left (by omega)
                      have hmx := hmax a k hak (by omega)
                      have hpb := pts_le tk co a k
                      refine lv_aload_n C0.1 C0.2.1 dL_law_669 rfl (lv_at hl 5 rfl) ?_
                      refine lv_iload C0.1 C0.2.1 dL_law_670 (lv_at hl 1 rfl) ?_
                      refine lv_iload C0.1 C0.2.1 dL_law_672 (lv_at hl 0 rfl) ?_
                      refine tc_callV (q0 := 0) C0 hG hS rfl rfl (kX0_pointsOf_in hlf hk  (a) (k) (by omega) (by omega) (by omega)) (cwV 2 C0.2.2.2.2 gL_law_X0_pointsOf rfl rfl rfl (by decide +kernel) ⟨(Nat.le_of_ble_eq_true rfl), (Nat.le_of_ble_eq_true rfl)⟩) rfl hl rfl (Nat.le_of_ble_eq_true rfl) dL_law_674 ⟨by dsimp only [room_1]; omega, by dsimp only [room_1]; omega⟩ (fun H locs hG hS => ?_)
                      have b_674 := pts_le tk co a k
                      refine lv_aload_n C0.1 C0.2.1 dL_law_677 rfl (lv_at hl 5 rfl) ?_
                      refine lv_iload C0.1 C0.2.1 dL_law_678 (lv_at hl 3 rfl) ?_
                      refine tc_top epr2 ?_
                      refine lv_bipush (v := nI 100) C0.1 C0.2.1 dL_law_680 (by decide) ?_
                      refine tn_idiv C0.1 C0.2.1 dL_law_682 (by omega) (by decide) (by decide) ?_
                      refine tc_top (y := nI x) (congrArg nI (by omega)) ?_
                      refine lv_iload C0.1 C0.2.1 dL_law_683 (lv_at hl 3 rfl) ?_
                      refine tc_top epr2 ?_
                      refine lv_bipush (v := nI 100) C0.1 C0.2.1 dL_law_685 (by decide) ?_
                      refine tn_irem C0.1 C0.2.1 dL_law_687 (by omega) (by decide) (by decide) ?_
                      refine tc_top (y := nI y) (congrArg nI (by omega)) ?_
                      refine tc_callV (q0 := 0) C0 hG hS rfl rfl (kX0_pointsOf_in hlf hk  (x) (y) (by omega) (by omega) (by omega)) (cwV 2 C0.2.2.2.2 gL_law_X0_pointsOf rfl rfl rfl (by decide +kernel) ⟨(Nat.le_of_ble_eq_true rfl), (Nat.le_of_ble_eq_true rfl)⟩) rfl hl rfl (Nat.le_of_ble_eq_true rfl) dL_law_688 ⟨by dsimp only [room_1]; omega, by dsimp only [room_1]; omega⟩ (fun H locs hG hS => ?_)
                      have b_688 := pts_le tk co x y
                      refine tn_icmp_le (tgt := 696) C0.1 C0.2.1 dL_law_691 (by decide) (by omega) (by omega) (fun c_691 => ?_) (fun c_691 => ?_)
                      · refine tn_iinc (lv' := [(19, .int (nI (k + 1))), (18, .int (nI (a))), (17, .int (iM (bestSw tk co cn wk n))), (16, .int (pr)), (0, .ref b), (1, .ref h), (2, .ref g), (3, .int (nI (t))), (4, .int (v)), (10, .int (nI (n))), (11, .int (nI (tw tk co cn wk 0 n)))]) C0.1 C0.2.1 dL_law_696 hl (k := 0) rfl (by decide) rfl (fun ls hl => ?_)
                        refine lv_goto (tgt := 662) C0.1 C0.2.1 dL_law_699 (by decide) ?_
                        exact ih_662 (k + 1) (by omega) (by omega) (by omega) ls (lv_sub hl [0, 1, 2, 3, 4, 5, 6, 7, 8, 9, 10] rfl) _ _ hG hS
                      · exact absurd c_691 (by omega)
                exact cut_662 (n + 1) (a + 1) (by omega) (by omega) (by omega) ls (lv_sub hl [0, 1, 2, 3, 4, 5, 6, 7, 8, 9, 10] rfl) _ _ hG hS
          exact cut_649 (n + 1) (0) (by omega) (by omega) ls (lv_sub hl [0, 1, 2, 3, 4, 5, 6, 7, 9, 10] rfl) _ _ hG hS
        · exact absurd c_641 (by decide)
