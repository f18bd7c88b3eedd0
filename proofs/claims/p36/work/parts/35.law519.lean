/-! the law from 519 -/
set_option maxHeartbeats 4000000 in
set_option maxRecDepth 100000 in
theorem law_519 {p : Program} {l : Launch} {e : Env} {s : State} {m : MethodId} {args : Array Value} {below : List Frame} {meth : Method} {c : Code} {Q : State → Prop} (hlf : l.stackTraces = false) (C0 : CallFix p m c cL_law 25 s args wsL_law RL) {D : va_G} {cI cJ : ClassId} {N0 : Nat} (hG0 : tcG D cI cJ N0 [] s s.heap) {b h r1 r2 r3 r4 g : Nat} {tk co cn wk : Nat → Nat} {n st : Nat} {ho ct : Int32} {sq ra : Nat} {rw : Nat → Nat} {f : Nat → Nat → Nat} (hk : tOk tk co cn wk n st) (hy : tSy tk co cn wk n f) (hn0 : 0 < n) (hsq : sq ≤ 1000) {t : Nat} (ht9 : t < 9) {v : Int32} {ls : Array Slot} (hl : lv_has ls 25 [(0, .ref b), (1, .ref h), (2, .ref g), (3, .int (nI (t))), (4, .int (v)), (8, .long (dgst tk co cn wk n ho st ct (nI sq))), (10, .int (nI (n))), (11, .int (nI (tw tk co cn wk 0 n)))]) {H : Heap} {locs : List Loc} (hG : tcG D cI cJ N0 (wB h r1 r2 r3 r4 cI tk co cn wk n ho st ct (nI sq) g ra rw cJ ho st ct (nI sq) n f ([])) s H) (hS : va_S (tcA N0) s.heap H locs) (cut_598 : ∀ (ls : Array Slot), lv_has ls 25 [(0, .ref b), (1, .ref h), (2, .ref g), (3, .int (nI (t))), (4, .int (v)), (8, .long (dgst tk co cn wk n ho st ct (nI sq))), (10, .int (nI (n))), (11, .int (nI (tw tk co cn wk 0 n)))] → ∀ (H : Heap) (locs : List Loc), tcG D cI cJ N0 (wB h r1 r2 r3 r4 cI tk co cn wk n ho st ct (nI sq) g ra rw cJ ho st ct (nI sq) n f ([])) s H → va_S (tcA N0) s.heap H locs → W p l e room_1 s m args below meth c H locs (0 + (40 + 4 * (t + 1))) (0 + (300 + 24 * (t + 1))) Q (F0 m 598 ls [])) : W p l e room_1 s m args below meth c H locs (0 + (40 + 4 * (t + 1))) (0 + (300 + 24 * (t + 1))) Q (F0 m 519 ls []) := by
  obtain ⟨hk1, hk2, hk3, hk4, hn12, hst⟩ := id hk
  obtain ⟨hbh, hbP⟩ := bestHr_P tk co cn wk n
  refine lv_aload_n C0.1 C0.2.1 dL_law_519 rfl (lv_at hl 1 rfl) ?_
  refine tc_callV (q0 := 0) C0 hG hS rfl rfl (kX0_bestHour hlf hk   ) (cwV 0 C0.2.2.2.2 gL_law_X0_bestHour rfl rfl rfl (by decide +kernel) ⟨(Nat.le_of_ble_eq_true rfl), (Nat.le_of_ble_eq_true rfl)⟩) rfl hl rfl (Nat.le_of_ble_eq_true rfl) dL_law_520 ⟨by dsimp only [room_1]; omega, by dsimp only [room_1]; omega⟩ (fun H locs hG hS => ?_)
  refine lv_istore (lv' := [(15, .int (nI (bestHr tk co cn wk n))), (0, .ref b), (1, .ref h), (2, .ref g), (3, .int (nI (t))), (4, .int (v)), (8, .long (dgst tk co cn wk n ho st ct (nI sq))), (10, .int (nI (n))), (11, .int (nI (tw tk co cn wk 0 n)))]) C0.1 C0.2.1 dL_law_523 hl (by decide) rfl (fun ls hl => ?_)
  refine lv_iconst (v := nI 1) C0.1 C0.2.1 dL_law_525 (by decide) ?_
  refine lv_istore (lv' := [(16, .int (nI (1))), (15, .int (nI (bestHr tk co cn wk n))), (0, .ref b), (1, .ref h), (2, .ref g), (3, .int (nI (t))), (4, .int (v)), (8, .long (dgst tk co cn wk n ho st ct (nI sq))), (10, .int (nI (n))), (11, .int (nI (tw tk co cn wk 0 n)))]) C0.1 C0.2.1 dL_law_526 hl (by decide) rfl (fun ls hl => ?_)
  have cut_528 : ∀ (kf : Nat) (i : Nat) (hi1 : 1 ≤ i) (hi7 : i ≤ 7) (hm : 7 + 1 ≤ i + kf), ∀ (ls : Array Slot), lv_has ls 25 [(16, .int (nI (i))), (15, .int (nI (bestHr tk co cn wk n))), (0, .ref b), (1, .ref h), (2, .ref g), (3, .int (nI (t))), (4, .int (v)), (8, .long (dgst tk co cn wk n ho st ct (nI sq))), (10, .int (nI (n))), (11, .int (nI (tw tk co cn wk 0 n)))] → ∀ (H : Heap) (locs : List Loc), tcG D cI cJ N0 (wB h r1 r2 r3 r4 cI tk co cn wk n ho st ct (nI sq) g ra rw cJ ho st ct (nI sq) n f ([])) s H → va_S (tcA N0) s.heap H locs → W p l e room_1 s m args below meth c H locs (0 + (40 + 4 * (t + 1))) (0 + (300 + 24 * (t + 1))) Q (F0 m 528 ls []) := by
    intro kf
    induction kf with
    | zero => intro i hi1 hi7 hm; exact absurd hm (by omega)
    | succ kf ih_528 =>
      intro i hi1 hi7 hm ls hl H locs hG hS
      refine lv_iload C0.1 C0.2.1 dL_law_528 (lv_at hl 0 rfl) ?_
      refine lv_bipush (v := nI 7) C0.1 C0.2.1 dL_law_530 (by decide) ?_
      refine tn_icmp_ge (tgt := 598) C0.1 C0.2.1 dL_law_532 (by decide) (by omega) (by omega) (fun c_532 => ?_) (fun c_532 => ?_)
      · exact cut_598   ls (lv_sub hl [2, 3, 4, 5, 6, 7, 8, 9] rfl) _ _ hG hS
      · have hb9 := hbP i hi1 (by omega)
        refine lv_aload_n C0.1 C0.2.1 dL_law_535 rfl (lv_at hl 3 rfl) ?_
        refine lv_iload C0.1 C0.2.1 dL_law_536 (lv_at hl 0 rfl) ?_
        refine tc_callV (q0 := 0) C0 hG hS rfl rfl (kX0_coincidencesIn_in hlf hk  (i) (by omega)) (cwV 1 C0.2.2.2.2 gL_law_X0_coincidencesIn rfl rfl rfl (by decide +kernel) ⟨(Nat.le_of_ble_eq_true rfl), (Nat.le_of_ble_eq_true rfl)⟩) rfl hl rfl (Nat.le_of_ble_eq_true rfl) dL_law_538 ⟨by dsimp only [room_1]; omega, by dsimp only [room_1]; omega⟩ (fun H locs hG hS => ?_)
        have b_538 := tw_le tk co cn wk i hk.2.2.2.2.1
        refine lv_aload_n C0.1 C0.2.1 dL_law_541 rfl (lv_at hl 3 rfl) ?_
        refine lv_iload C0.1 C0.2.1 dL_law_542 (lv_at hl 1 rfl) ?_
        refine tc_callV (q0 := 0) C0 hG hS rfl rfl (kX0_coincidencesIn_in hlf hk  (bestHr tk co cn wk n) (by omega)) (cwV 1 C0.2.2.2.2 gL_law_X0_coincidencesIn rfl rfl rfl (by decide +kernel) ⟨(Nat.le_of_ble_eq_true rfl), (Nat.le_of_ble_eq_true rfl)⟩) rfl hl rfl (Nat.le_of_ble_eq_true rfl) dL_law_544 ⟨by dsimp only [room_1]; omega, by dsimp only [room_1]; omega⟩ (fun H locs hG hS => ?_)
        have b_544 := tw_le tk co cn wk (bestHr tk co cn wk n) hk.2.2.2.2.1
        refine tn_icmp_gt (tgt := 590) C0.1 C0.2.1 dL_law_547 (by decide) (by omega) (by omega) (fun c_547 => ?_) (fun c_547 => ?_)
        · exact absurd c_547 (by omega)
        · refine lv_iload C0.1 C0.2.1 dL_law_550 (lv_at hl 0 rfl) ?_
          refine lv_iload C0.1 C0.2.1 dL_law_552 (lv_at hl 1 rfl) ?_
          refine tn_icmp_ge (tgt := 572) C0.1 C0.2.1 dL_law_554 (by decide) (by omega) (by omega) (fun c_554 => ?_) (fun c_554 => ?_)
          · refine lv_aload_n C0.1 C0.2.1 dL_law_572 rfl (lv_at hl 3 rfl) ?_
            refine lv_iload C0.1 C0.2.1 dL_law_573 (lv_at hl 0 rfl) ?_
            refine tc_callV (q0 := 0) C0 hG hS rfl rfl (kX0_coincidencesIn_in hlf hk  (i) (by omega)) (cwV 1 C0.2.2.2.2 gL_law_X0_coincidencesIn rfl rfl rfl (by decide +kernel) ⟨(Nat.le_of_ble_eq_true rfl), (Nat.le_of_ble_eq_true rfl)⟩) rfl hl rfl (Nat.le_of_ble_eq_true rfl) dL_law_575 ⟨by dsimp only [room_1]; omega, by dsimp only [room_1]; omega⟩ (fun H locs hG hS => ?_)
            have b_575 := tw_le tk co cn wk i hk.2.2.2.2.1
            refine lv_aload_n C0.1 C0.2.1 dL_law_578 rfl (lv_at hl 3 rfl) ?_
            refine lv_iload C0.1 C0.2.1 dL_law_579 (lv_at hl 0 rfl) ?_
            refine lv_bipush (v := nI 6) C0.1 C0.2.1 dL_law_581 (by decide) ?_
            refine tn_iadd C0.1 C0.2.1 dL_law_583 ?_
            refine tc_callV (q0 := 0) C0 hG hS rfl rfl (kX0_coincidencesIn_in hlf hk  (i + 6) (by omega)) (cwV 1 C0.2.2.2.2 gL_law_X0_coincidencesIn rfl rfl rfl (by decide +kernel) ⟨(Nat.le_of_ble_eq_true rfl), (Nat.le_of_ble_eq_true rfl)⟩) rfl hl rfl (Nat.le_of_ble_eq_true rfl) dL_law_584 ⟨by dsimp only [room_1]; omega, by dsimp only [room_1]; omega⟩ (fun H locs hG hS => ?_)
            have b_584 := tw_le tk co cn wk (i + 6) hk.2.2.2.2.1
            refine tn_icmp_eq (tgt := 592) C0.1 C0.2.1 dL_law_587 (by decide) (by omega) (by omega) (fun c_587 => ?_) (fun c_587 => ?_)
            · refine tn_iinc (lv' := [(16, .int (nI (i + 1))), (15, .int (nI (bestHr tk co cn wk n))), (0, .ref b), (1, .ref h), (2, .ref g), (3, .int (nI (t))), (4, .int (v)), (8, .long (dgst tk co cn wk n ho st ct (nI sq))), (10, .int (nI (n))), (11, .int (nI (tw tk co cn wk 0 n)))]) C0.1 C0.2.1 dL_law_592 hl (k := 0) rfl (by decide) rfl (fun ls hl => ?_)
              refine lv_goto (tgt := 528) C0.1 C0.2.1 dL_law_595 (by decide) ?_
              exact ih_528 (i + 1) (by omega) (by omega) (by omega) ls (lv_sub hl [0, 1, 2, 3, 4, 5, 6, 7, 8, 9] rfl) _ _ hG hS
            · exact absurd (tw_6 tk co cn wk i n).symm c_587
          · refine lv_aload_n C0.1 C0.2.1 dL_law_557 rfl (lv_at hl 3 rfl) ?_
            refine lv_iload C0.1 C0.2.1 dL_law_558 (lv_at hl 0 rfl) ?_
            refine tc_callV (q0 := 0) C0 hG hS rfl rfl (kX0_coincidencesIn_in hlf hk  (i) (by omega)) (cwV 1 C0.2.2.2.2 gL_law_X0_coincidencesIn rfl rfl rfl (by decide +kernel) ⟨(Nat.le_of_ble_eq_true rfl), (Nat.le_of_ble_eq_true rfl)⟩) rfl hl rfl (Nat.le_of_ble_eq_true rfl) dL_law_560 ⟨by dsimp only [room_1]; omega, by dsimp only [room_1]; omega⟩ (fun H locs hG hS => ?_)
            have b_560 := tw_le tk co cn wk i hk.2.2.2.2.1
            refine lv_aload_n C0.1 C0.2.1 dL_law_563 rfl (lv_at hl 3 rfl) ?_
            refine lv_iload C0.1 C0.2.1 dL_law_564 (lv_at hl 1 rfl) ?_
            refine tc_callV (q0 := 0) C0 hG hS rfl rfl (kX0_coincidencesIn_in hlf hk  (bestHr tk co cn wk n) (by omega)) (cwV 1 C0.2.2.2.2 gL_law_X0_coincidencesIn rfl rfl rfl (by decide +kernel) ⟨(Nat.le_of_ble_eq_true rfl), (Nat.le_of_ble_eq_true rfl)⟩) rfl hl rfl (Nat.le_of_ble_eq_true rfl) dL_law_566 ⟨by dsimp only [room_1]; omega, by dsimp only [room_1]; omega⟩ (fun H locs hG hS => ?_)
            have b_566 := tw_le tk co cn wk (bestHr tk co cn wk n) hk.2.2.2.2.1
            refine tn_icmp_eq (tgt := 590) C0.1 C0.2.1 dL_law_569 (by decide) (by omega) (by omega) (fun c_569 => ?_) (fun c_569 => ?_)
            · exact absurd c_569 (hb9.2 (by omega))
            · refine lv_aload_n C0.1 C0.2.1 dL_law_572 rfl (lv_at hl 3 rfl) ?_
              refine lv_iload C0.1 C0.2.1 dL_law_573 (lv_at hl 0 rfl) ?_
              refine tc_callV (q0 := 0) C0 hG hS rfl rfl (kX0_coincidencesIn_in hlf hk  (i) (by omega)) (cwV 1 C0.2.2.2.2 gL_law_X0_coincidencesIn rfl rfl rfl (by decide +kernel) ⟨(Nat.le_of_ble_eq_true rfl), (Nat.le_of_ble_eq_true rfl)⟩) rfl hl rfl (Nat.le_of_ble_eq_true rfl) dL_law_575 ⟨by dsimp only [room_1]; omega, by dsimp only [room_1]; omega⟩ (fun H locs hG hS => ?_)
              have b_575 := tw_le tk co cn wk i hk.2.2.2.2.1
              refine lv_aload_n C0.1 C0.2.1 dL_law_578 rfl (lv_at hl 3 rfl) ?_
              refine lv_iload C0.1 C0.2.1 dL_law_579 (lv_at hl 0 rfl) ?_
              refine lv_bipush (v := nI 6) C0.1 C0.2.1 dL_law_581 (by decide) ?_
              refine tn_iadd C0.1 C0.2.1 dL_law_583 ?_
              refine tc_callV (q0 := 0) C0 hG hS rfl rfl (kX0_coincidencesIn_in hlf hk  (i + 6) (by omega)) (cwV 1 C0.2.2.2.2 gL_law_X0_coincidencesIn rfl rfl rfl (by decide +kernel) ⟨(Nat.le_of_ble_eq_true rfl), (Nat.le_of_ble_eq_true rfl)⟩) rfl hl rfl (Nat.le_of_ble_eq_true rfl) dL_law_584 ⟨by dsimp only [room_1]; omega, by dsimp only [room_1]; omega⟩ (fun H locs hG hS => ?_)
              have b_584 := tw_le tk co cn wk (i + 6) hk.2.2.2.2.1
              refine tn_icmp_eq (tgt := 592) C0.1 C0.2.1 dL_law_587 (by decide) (by omega) (by omega) (fun c_587 => ?_) (fun c_587 => ?_)
              · refine tn_iinc (lv' := [(16, .int (nI (i + 1))), (15, .int (nI (bestHr tk co cn wk n))), (0, .ref b), (1, .ref h), (2, .ref g), (3, .int (nI (t))), (4, .int (v)), (8, .long (dgst tk co cn wk n ho st ct (nI sq))), (10, .int (nI (n))), (11, .int (nI (tw tk co cn wk 0 n)))]) C0.1 C0.2.1 dL_law_592 hl (k := 0) rfl (by decide) rfl (fun ls hl => ?_)
                refine lv_goto (tgt := 528) C0.1 C0.2.1 dL_law_595 (by decide) ?_
                exact ih_528 (i + 1) (by omega) (by omega) (by omega) ls (lv_sub hl [0, 1, 2, 3, 4, 5, 6, 7, 8, 9] rfl) _ _ hG hS
              · exact absurd (tw_6 tk co cn wk i n).symm c_587
  exact cut_528 (7 + 1) (1) (by omega) (by omega) (by omega) ls (lv_sub hl [0, 1, 2, 3, 4, 5, 6, 7, 8, 9] rfl) _ _ hG hS
