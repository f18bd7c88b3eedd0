/-! the law from 460 -/
set_option maxHeartbeats 4000000 in
set_option maxRecDepth 100000 in
theorem law_460 {p : Program} {l : Launch} {e : Env} {s : State} {m : MethodId} {args : Array Value} {below : List Frame} {meth : Method} {c : Code} {Q : State → Prop} (hlf : l.stackTraces = false) (C0 : CallFix p m c cL_law 25 s args wsL_law RL) {D : va_G} {cI cJ : ClassId} {N0 : Nat} (hG0 : tcG D cI cJ N0 [] s s.heap) {b h r1 r2 r3 r4 g : Nat} {tk co cn wk : Nat → Nat} {n st : Nat} {ho ct : Int32} {sq ra : Nat} {rw : Nat → Nat} {f : Nat → Nat → Nat} (hk : tOk tk co cn wk n st) (hy : tSy tk co cn wk n f) (hn0 : 0 < n) (hsq : sq ≤ 1000) {t : Nat} (ht9 : t < 9) {v : Int32} {ls : Array Slot} (hl : lv_has ls 25 [(0, .ref b), (1, .ref h), (2, .ref g), (3, .int (nI (t))), (4, .int (v)), (8, .long (dgst tk co cn wk n ho st ct (nI sq))), (10, .int (nI (n))), (11, .int (nI (tw tk co cn wk 0 n))), (12, .int (nI (2 * tw tk co cn wk 0 n))), (13, .int (nI (tw tk co cn wk 0 n))), (14, .int (nI (n)))]) {H : Heap} {locs : List Loc} (hG : tcG D cI cJ N0 (wB h r1 r2 r3 r4 cI tk co cn wk n ho st ct (nI sq) g ra rw cJ ho st ct (nI sq) n f ([])) s H) (hS : va_S (tcA N0) s.heap H locs) (cut_519 : ∀ (ls : Array Slot), lv_has ls 25 [(0, .ref b), (1, .ref h), (2, .ref g), (3, .int (nI (t))), (4, .int (v)), (8, .long (dgst tk co cn wk n ho st ct (nI sq))), (10, .int (nI (n))), (11, .int (nI (tw tk co cn wk 0 n)))] → ∀ (H : Heap) (locs : List Loc), tcG D cI cJ N0 (wB h r1 r2 r3 r4 cI tk co cn wk n ho st ct (nI sq) g ra rw cJ ho st ct (nI sq) n f ([])) s H → va_S (tcA N0) s.heap H locs → W p l e room_1 s m args below meth c H locs (0 + (40 + 4 * (t + 1))) (0 + (300 + 24 * (t + 1))) Q (F0 m 519 ls [])) : W p l e room_1 s m args below meth c H locs (0 + (40 + 4 * (t + 1))) (0 + (300 + 24 * (t + 1))) Q (F0 m 460 ls []) := by
  obtain ⟨hk1, hk2, hk3, hk4, hn12, hst⟩ := id hk
  have htw := tw_le tk co cn wk 0 hn12
  refine lv_iload C0.1 C0.2.1 dL_law_460 (lv_at hl 9 rfl) ?_
  refine lv_iload C0.1 C0.2.1 dL_law_462 (lv_at hl 7 rfl) ?_
  refine tn_icmp_ne (tgt := 517) C0.1 C0.2.1 dL_law_464 (by decide) (by omega) (by omega) (fun c_464 => ?_) (fun c_464 => ?_)
  · exact absurd rfl c_464
  · refine lv_iload C0.1 C0.2.1 dL_law_467 (lv_at hl 10 rfl) ?_
    refine lv_iload C0.1 C0.2.1 dL_law_469 (lv_at hl 6 rfl) ?_
    refine tn_icmp_ne (tgt := 517) C0.1 C0.2.1 dL_law_471 (by decide) (by omega) (by omega) (fun c_471 => ?_) (fun c_471 => ?_)
    · exact absurd rfl c_471
    · refine lv_iload C0.1 C0.2.1 dL_law_474 (lv_at hl 8 rfl) ?_
      refine lv_iconst (v := nI 2) C0.1 C0.2.1 dL_law_476 (by decide) ?_
      refine lv_iload C0.1 C0.2.1 dL_law_477 (lv_at hl 7 rfl) ?_
      refine tn_imul C0.1 C0.2.1 dL_law_479 ?_
      refine tn_icmp_ne (tgt := 517) C0.1 C0.2.1 dL_law_480 (by decide) (by omega) (by omega) (fun c_480 => ?_) (fun c_480 => ?_)
      · exact absurd rfl c_480
      · refine lv_aload_n C0.1 C0.2.1 dL_law_483 rfl (lv_at hl 1 rfl) ?_
        refine lv_iconst (v := nI 0) C0.1 C0.2.1 dL_law_484 (by decide) ?_
        refine tc_callV (q0 := 0) C0 hG hS rfl rfl (kX0_coincidencesIn_in hlf hk  (0) (by omega)) (cwV 1 C0.2.2.2.2 gL_law_X0_coincidencesIn rfl rfl rfl (by decide +kernel) ⟨(Nat.le_of_ble_eq_true rfl), (Nat.le_of_ble_eq_true rfl)⟩) rfl hl rfl (Nat.le_of_ble_eq_true rfl) dL_law_485 ⟨by dsimp only [room_1]; omega, by dsimp only [room_1]; omega⟩ (fun H locs hG hS => ?_)
        have b_485 := tw_le tk co cn wk 0 hk.2.2.2.2.1
        refine lv_iload C0.1 C0.2.1 dL_law_488 (lv_at hl 7 rfl) ?_
        refine tn_icmp_ne (tgt := 517) C0.1 C0.2.1 dL_law_490 (by decide) (by omega) (by omega) (fun c_490 => ?_) (fun c_490 => ?_)
        · exact absurd rfl c_490
        · refine lv_aload_n C0.1 C0.2.1 dL_law_493 rfl (lv_at hl 1 rfl) ?_
          refine tc_callV (q0 := 0) C0 hG hS rfl rfl (kX0_meanLuck hlf hk   ) (cwV 0 C0.2.2.2.2 gL_law_X0_meanLuck rfl rfl rfl (by decide +kernel) ⟨(Nat.le_of_ble_eq_true rfl), (Nat.le_of_ble_eq_true rfl)⟩) rfl hl rfl (Nat.le_of_ble_eq_true rfl) dL_law_494 ⟨by dsimp only [room_1]; omega, by dsimp only [room_1]; omega⟩ (fun H locs hG hS => ?_)
          refine lv_iload C0.1 C0.2.1 dL_law_497 (lv_at hl 6 rfl) ?_
          refine tn_if_ne (tgt := 506) C0.1 C0.2.1 dL_law_499 (by decide) (by omega) (fun c_499 => ?_) (fun c_499 => ?_)
          · refine lv_iload C0.1 C0.2.1 dL_law_506 (lv_at hl 8 rfl) ?_
            refine lv_i2d C0.1 C0.2.1 dL_law_508 ?_
            refine lv_iload C0.1 C0.2.1 dL_law_509 (lv_at hl 6 rfl) ?_
            refine lv_i2d C0.1 C0.2.1 dL_law_511 ?_
            refine lv_ddiv C0.1 C0.2.1 dL_law_512 (ml_ok (by omega) hn12 (tw_tri tk co cn wk 0 n)).1 ?_
            refine lv_dcmp C0.1 C0.2.1 dL_law_513 ?_
            refine tc_top (y := nI 0) (by rw [show FP.ddiv (FP.i2d (nI (2 * tw tk co cn wk 0 n))) (FP.i2d (nI n)) = mlk tk co cn wk n from (if_neg (by omega)).symm, mlk_self (tk := tk) (co := co) (cn := cn) (wk := wk) hn12]; rfl) ?_
            refine tn_if_eq (tgt := 519) C0.1 C0.2.1 dL_law_514 (by decide) (by omega) (fun c_514 => ?_) (fun c_514 => ?_)
            · exact cut_519   ls (lv_sub hl [0, 1, 2, 3, 4, 5, 6, 7] rfl) _ _ hG hS
            · exact absurd c_514 (by omega)
          · exact absurd c_499 (by omega)
