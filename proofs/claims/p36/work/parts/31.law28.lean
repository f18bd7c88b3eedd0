/-! the law from 28 -/
set_option maxHeartbeats 4000000 in
set_option maxRecDepth 100000 in
theorem law_28 {p : Program} {l : Launch} {e : Env} {s : State} {m : MethodId} {args : Array Value} {below : List Frame} {meth : Method} {c : Code} {Q : State → Prop} (hlf : l.stackTraces = false) (C0 : CallFix p m c cL_law 25 s args wsL_law RL) {D : va_G} {cI cJ : ClassId} {N0 : Nat} (hG0 : tcG D cI cJ N0 [] s s.heap) {b h r1 r2 r3 r4 g : Nat} {tk co cn wk : Nat → Nat} {n st : Nat} {ho ct : Int32} {sq ra : Nat} {rw : Nat → Nat} {f : Nat → Nat → Nat} (hk : tOk tk co cn wk n st) (hy : tSy tk co cn wk n f) (hn0 : 0 < n) (hsq : sq ≤ 1000) {t : Nat} (ht9 : t < 9) {L : Nat} {xs : Nat → Int32} (hX : va_X b L xs s s.heap) (hbN : b < N0) (hN0 : N0 ≤ s.heap.size) (hL : L ≤ 260) {ls : Array Slot} (hl : lv_has ls 25 [(0, .ref b), (1, .ref h), (2, .ref g), (3, .int (nI (t)))]) {H : Heap} {locs : List Loc} (hG : tcG D cI cJ N0 (wB h r1 r2 r3 r4 cI tk co cn wk n ho st ct (nI sq) g ra rw cJ ho st ct (nI sq) n f ([])) s H) (hS : va_S (tcA N0) s.heap H locs) (cut_128 : ∀ (v : Int32) (tk : Nat → Nat) (co : Nat → Nat) (cn : Nat → Nat) (wk : Nat → Nat) (n : Nat) (st : Nat) (ho : Int32) (ct : Int32) (sq2 : Nat) (ra : Nat) (rw : Nat → Nat) (f : Nat → Nat → Nat) (hk : tOk tk co cn wk n st) (hy : tSy tk co cn wk n f) (hn0 : 0 < n) (hsq2 : sq2 ≤ sq + 12), ∀ (ls : Array Slot), lv_has ls 25 [(0, .ref b), (1, .ref h), (2, .ref g), (3, .int (nI (t))), (4, .int (v))] → ∀ (H : Heap) (locs : List Loc), tcG D cI cJ N0 (wB h r1 r2 r3 r4 cI tk co cn wk n ho st ct (nI sq2) g ra rw cJ ho st ct (nI sq2) n f ([])) s H → va_S (tcA N0) s.heap H locs → W p l e room_1 s m args below meth c H locs (0 + (40 + 4 * (t + 1))) (0 + (300 + 24 * (t + 1))) Q (F0 m 128 ls [])) : W p l e room_1 s m args below meth c H locs (0 + (40 + 4 * t)) (0 + (300 + 24 * t)) Q (F0 m 28 ls []) := by
  obtain ⟨hk1, hk2, hk3, hk4, hn12, hst⟩ := id hk
  refine lv_aload_n C0.1 C0.2.1 dL_law_28 rfl (lv_at hl 0 rfl) ?_
  refine lv_iconst (v := nI 2) C0.1 C0.2.1 dL_law_29 (by decide) ?_
  refine lv_iload_n C0.1 C0.2.1 dL_law_30 rfl (lv_at hl 3 rfl) ?_
  refine tn_iadd C0.1 C0.2.1 dL_law_31 ?_
  refine tcs_callS C0 hX hbN hG hN0 hS (kL_cell hL (2 + t) (by omega)) (va_cwS 2 C0.2.2.2.2 gL_law_L_cell rfl rfl rfl (by decide +kernel) ⟨(Nat.le_of_ble_eq_true rfl), (Nat.le_of_ble_eq_true rfl)⟩) rfl hl rfl (Nat.le_of_ble_eq_true rfl) dL_law_32 ⟨by dsimp only [room_1]; omega, by dsimp only [room_1]; omega⟩ (fun v9 ws9 H locs hP9 hG hS => ?_)
  obtain ⟨⟨y32, rfl⟩, rfl⟩ := hP9
  refine W.eq (g2 := F0 m 35 ls [.int (y32)]) rfl ?_
  have hG : tcG D cI cJ N0 (wB h r1 r2 r3 r4 cI tk co cn wk n ho st ct (nI sq) g ra rw cJ ho st ct (nI sq) n f ([])) s H := hG
  refine lv_iconst (v := nI 1) C0.1 C0.2.1 dL_law_35 (by decide) ?_
  refine lv_ishr C0.1 C0.2.1 dL_law_36 ?_
  refine tc_any (fun x36 => ?_)
  refine lv_sipush (v := nI 263) C0.1 C0.2.1 dL_law_37 (by decide) ?_
  refine lv_iload_n C0.1 C0.2.1 dL_law_40 rfl (lv_at hl 3 rfl) ?_
  refine tn_imul C0.1 C0.2.1 dL_law_41 ?_
  refine lv_iadd C0.1 C0.2.1 dL_law_42 ?_
  refine lv_istore (lv' := [(4, .int ((x36) + nI (263 * t))), (0, .ref b), (1, .ref h), (2, .ref g), (3, .int (nI (t)))]) C0.1 C0.2.1 dL_law_43 hl (by decide) rfl (fun ls hl => ?_)
  refine lv_aload_n C0.1 C0.2.1 dL_law_45 rfl (lv_at hl 2 rfl) ?_
  refine tc_callV (q0 := 0) C0 hG hS rfl rfl (kX0_store hlf hk   ) (cwV 0 C0.2.2.2.2 gL_law_X0_store rfl rfl rfl (by decide +kernel) ⟨(Nat.le_of_ble_eq_true rfl), (Nat.le_of_ble_eq_true rfl)⟩) rfl hl rfl (Nat.le_of_ble_eq_true rfl) dL_law_46 ⟨by dsimp only [room_1]; omega, by dsimp only [room_1]; omega⟩ (fun H locs hG hS => ?_)
  refine lv_istore (lv' := [(5, .int (nI (st))), (4, .int ((x36) + nI (263 * t))), (0, .ref b), (1, .ref h), (2, .ref g), (3, .int (nI (t)))]) C0.1 C0.2.1 dL_law_49 hl (by decide) rfl (fun ls hl => ?_)
  refine lv_aload_n C0.1 C0.2.1 dL_law_51 rfl (lv_at hl 3 rfl) ?_
  refine tc_callV (q0 := 0) C0 hG hS rfl rfl (kX0_spent hlf hk   ) (cwV 0 C0.2.2.2.2 gL_law_X0_spent rfl rfl rfl (by decide +kernel) ⟨(Nat.le_of_ble_eq_true rfl), (Nat.le_of_ble_eq_true rfl)⟩) rfl hl rfl (Nat.le_of_ble_eq_true rfl) dL_law_52 ⟨by dsimp only [room_1]; omega, by dsimp only [room_1]; omega⟩ (fun H locs hG hS => ?_)
  refine lv_istore (lv' := [(6, .int (nI (sq))), (5, .int (nI (st))), (4, .int ((x36) + nI (263 * t))), (0, .ref b), (1, .ref h), (2, .ref g), (3, .int (nI (t)))]) C0.1 C0.2.1 dL_law_55 hl (by decide) rfl (fun ls hl => ?_)
  refine lv_aload_n C0.1 C0.2.1 dL_law_57 rfl (lv_at hl 4 rfl) ?_
  refine tc_callV (q0 := 0) C0 hG hS rfl rfl (kX0_hour hlf hk   ) (cwV 0 C0.2.2.2.2 gL_law_X0_hour rfl rfl rfl (by decide +kernel) ⟨(Nat.le_of_ble_eq_true rfl), (Nat.le_of_ble_eq_true rfl)⟩) rfl hl rfl (Nat.le_of_ble_eq_true rfl) dL_law_58 ⟨by dsimp only [room_1]; omega, by dsimp only [room_1]; omega⟩ (fun H locs hG hS => ?_)
  refine lv_istore (lv' := [(7, .int (ho)), (6, .int (nI (sq))), (5, .int (nI (st))), (4, .int ((x36) + nI (263 * t))), (0, .ref b), (1, .ref h), (2, .ref g), (3, .int (nI (t)))]) C0.1 C0.2.1 dL_law_61 hl (by decide) rfl (fun ls hl => ?_)
  refine lv_aload_n C0.1 C0.2.1 dL_law_63 rfl (lv_at hl 5 rfl) ?_
  refine lv_aload_n C0.1 C0.2.1 dL_law_64 rfl (lv_at hl 6 rfl) ?_
  refine lv_iload C0.1 C0.2.1 dL_law_65 (lv_at hl 3 rfl) ?_
  refine tce_callSW C0 hG hS (kL_act hlf hk hy  ((x36) + nI (263 * t)) (by omega)) (vx_cwSW 3 C0.2.2.2.2 gL_law_L_act rfl rfl rfl (by decide +kernel) ⟨(Nat.le_of_ble_eq_true rfl), (Nat.le_of_ble_eq_true rfl)⟩) rfl hl rfl (Nat.le_of_ble_eq_true rfl) dL_law_67 ⟨by dsimp only [room_1]; omega, by dsimp only [room_1]; omega⟩ (fun v9 ws9 H locs hP9 hG hS => ?_)
  obtain ⟨rfl, ra', rw', tk', co', cn', wk', n', ho', st', ct', d, f', hn0', hk', hy', hd12, hor, rfl⟩ := hP9
  rw [show nI sq + nI d = nI (sq + d) from nI_add sq d] at hG
  refine W.eq (g2 := F0 m 70 ls [.int (nI (b2n (true)))]) rfl ?_
  have hst' := hk'.2.2.2.2.2
  have hG : tcG D cI cJ N0 (wB h r1 r2 r3 r4 cI tk' co' cn' wk' n' ho' st' ct' (nI (sq + d)) g ra' rw' cJ ho' st' ct' (nI (sq + d)) n' f' ([])) s H := hG
  refine tb_if_ne (tgt := 75) C0.1 C0.2.1 dL_law_70 (by decide) (fun c_70 => ?_) (fun c_70 => ?_)
  · refine lv_aload_n C0.1 C0.2.1 dL_law_75 rfl (lv_at hl 5 rfl) ?_
    refine tc_callV (q0 := 0) C0 hG hS rfl rfl (kX0_hour hlf hk'   ) (cwV 0 C0.2.2.2.2 gL_law_X0_hour rfl rfl rfl (by decide +kernel) ⟨(Nat.le_of_ble_eq_true rfl), (Nat.le_of_ble_eq_true rfl)⟩) rfl hl rfl (Nat.le_of_ble_eq_true rfl) dL_law_76 ⟨by dsimp only [room_1]; omega, by dsimp only [room_1]; omega⟩ (fun H locs hG hS => ?_)
    refine lv_iload C0.1 C0.2.1 dL_law_79 (lv_at hl 0 rfl) ?_
    refine lv_icmp_ne (tgt := 101) C0.1 C0.2.1 dL_law_81 (by decide) (fun c_81 => ?_) (fun c_81 => ?_)
    · refine lv_aload_n C0.1 C0.2.1 dL_law_101 rfl (lv_at hl 5 rfl) ?_
      refine tc_callV (q0 := 0) C0 hG hS rfl rfl (kX0_spent hlf hk'   ) (cwV 0 C0.2.2.2.2 gL_law_X0_spent rfl rfl rfl (by decide +kernel) ⟨(Nat.le_of_ble_eq_true rfl), (Nat.le_of_ble_eq_true rfl)⟩) rfl hl rfl (Nat.le_of_ble_eq_true rfl) dL_law_102 ⟨by dsimp only [room_1]; omega, by dsimp only [room_1]; omega⟩ (fun H locs hG hS => ?_)
      refine lv_iload C0.1 C0.2.1 dL_law_105 (lv_at hl 1 rfl) ?_
      refine tn_icmp_lt (tgt := 126) C0.1 C0.2.1 dL_law_107 (by decide) (by omega) (by omega) (fun c_107 => ?_) (fun c_107 => ?_)
      · exact absurd c_107 (by omega)
      · refine lv_aload_n C0.1 C0.2.1 dL_law_110 rfl (lv_at hl 5 rfl) ?_
        refine tc_callV (q0 := 0) C0 hG hS rfl rfl (kX0_store hlf hk'   ) (cwV 0 C0.2.2.2.2 gL_law_X0_store rfl rfl rfl (by decide +kernel) ⟨(Nat.le_of_ble_eq_true rfl), (Nat.le_of_ble_eq_true rfl)⟩) rfl hl rfl (Nat.le_of_ble_eq_true rfl) dL_law_111 ⟨by dsimp only [room_1]; omega, by dsimp only [room_1]; omega⟩ (fun H locs hG hS => ?_)
        refine tn_if_lt (tgt := 126) C0.1 C0.2.1 dL_law_114 (by decide) (by omega) ?_
        refine lv_aload_n C0.1 C0.2.1 dL_law_117 rfl (lv_at hl 5 rfl) ?_
        refine tc_callV (q0 := 0) C0 hG hS rfl rfl (kX0_store hlf hk'   ) (cwV 0 C0.2.2.2.2 gL_law_X0_store rfl rfl rfl (by decide +kernel) ⟨(Nat.le_of_ble_eq_true rfl), (Nat.le_of_ble_eq_true rfl)⟩) rfl hl rfl (Nat.le_of_ble_eq_true rfl) dL_law_118 ⟨by dsimp only [room_1]; omega, by dsimp only [room_1]; omega⟩ (fun H locs hG hS => ?_)
        refine lv_bipush (v := nI 100) C0.1 C0.2.1 dL_law_121 (by decide) ?_
        refine tn_icmp_le (tgt := 128) C0.1 C0.2.1 dL_law_123 (by decide) (by omega) (by omega) (fun c_123 => ?_) (fun c_123 => ?_)
        · refine W.widen (k := 0 + (40 + 4 * (t + 1))) (n := 0 + (300 + 24 * (t + 1))) (by omega) (by omega) ?_
          exact cut_128 ((x36) + nI (263 * t)) (tk') (co') (cn') (wk') (n') (st') (ho') (ct') (sq + d) (ra') (rw') (f') hk' hy' hn0' (by omega) ls (lv_sub hl [4, 5, 6, 7, 3] rfl) _ _ hG hS
        · exact absurd c_123 (by omega)
    · refine lv_iload C0.1 C0.2.1 dL_law_84 (lv_at hl 2 rfl) ?_
      refine lv_aload_n C0.1 C0.2.1 dL_law_86 rfl (lv_at hl 5 rfl) ?_
      refine tc_callV (q0 := 0) C0 hG hS rfl rfl (kX0_store hlf hk'   ) (cwV 0 C0.2.2.2.2 gL_law_X0_store rfl rfl rfl (by decide +kernel) ⟨(Nat.le_of_ble_eq_true rfl), (Nat.le_of_ble_eq_true rfl)⟩) rfl hl rfl (Nat.le_of_ble_eq_true rfl) dL_law_87 ⟨by dsimp only [room_1]; omega, by dsimp only [room_1]; omega⟩ (fun H locs hG hS => ?_)
      refine lv_isub C0.1 C0.2.1 dL_law_90 ?_
      refine lv_aload_n C0.1 C0.2.1 dL_law_91 rfl (lv_at hl 5 rfl) ?_
      refine tc_callV (q0 := 0) C0 hG hS rfl rfl (kX0_spent hlf hk'   ) (cwV 0 C0.2.2.2.2 gL_law_X0_spent rfl rfl rfl (by decide +kernel) ⟨(Nat.le_of_ble_eq_true rfl), (Nat.le_of_ble_eq_true rfl)⟩) rfl hl rfl (Nat.le_of_ble_eq_true rfl) dL_law_92 ⟨by dsimp only [room_1]; omega, by dsimp only [room_1]; omega⟩ (fun H locs hG hS => ?_)
      refine lv_iload C0.1 C0.2.1 dL_law_95 (lv_at hl 1 rfl) ?_
      refine lv_isub C0.1 C0.2.1 dL_law_97 ?_
      refine lv_icmp_ne (tgt := 126) C0.1 C0.2.1 dL_law_98 (by decide) (fun c_98 => ?_) (fun c_98 => ?_)
      · exact absurd (hor.elim (fun z => sp_eq z.2 hst) (fun z => by obtain ⟨_, j, j1, j2, e9⟩ := z; exact absurd (e9.symm.trans c_81) (ho_ne j1 j2))) c_98
      · refine lv_aload_n C0.1 C0.2.1 dL_law_101 rfl (lv_at hl 5 rfl) ?_
        refine tc_callV (q0 := 0) C0 hG hS rfl rfl (kX0_spent hlf hk'   ) (cwV 0 C0.2.2.2.2 gL_law_X0_spent rfl rfl rfl (by decide +kernel) ⟨(Nat.le_of_ble_eq_true rfl), (Nat.le_of_ble_eq_true rfl)⟩) rfl hl rfl (Nat.le_of_ble_eq_true rfl) dL_law_102 ⟨by dsimp only [room_1]; omega, by dsimp only [room_1]; omega⟩ (fun H locs hG hS => ?_)
        refine lv_iload C0.1 C0.2.1 dL_law_105 (lv_at hl 1 rfl) ?_
        refine tn_icmp_lt (tgt := 126) C0.1 C0.2.1 dL_law_107 (by decide) (by omega) (by omega) (fun c_107 => ?_) (fun c_107 => ?_)
        · exact absurd c_107 (by omega)
        · refine lv_aload_n C0.1 C0.2.1 dL_law_110 rfl (lv_at hl 5 rfl) ?_
          refine tc_callV (q0 := 0) C0 hG hS rfl rfl (kX0_store hlf hk'   ) (cwV 0 C0.2.2.2.2 gL_law_X0_store rfl rfl rfl (by decide +kernel) ⟨(Nat.le_of_ble_eq_true rfl), (Nat.le_of_ble_eq_true rfl)⟩) rfl hl rfl (Nat.le_of_ble_eq_true rfl) dL_law_111 ⟨by dsimp only [room_1]; omega, by dsimp only [room_1]; omega⟩ (fun H locs hG hS => ?_)
          refine tn_if_lt (tgt := 126) C0.1 C0.2.1 dL_law_114 (by decide) (by omega) ?_
          refine lv_aload_n C0.1 C0.2.1 dL_law_117 rfl (lv_at hl 5 rfl) ?_
          refine tc_callV (q0 := 0) C0 hG hS rfl rfl (kX0_store hlf hk'   ) (cwV 0 C0.2.2.2.2 gL_law_X0_store rfl rfl rfl (by decide +kernel) ⟨(Nat.le_of_ble_eq_true rfl), (Nat.le_of_ble_eq_true rfl)⟩) rfl hl rfl (Nat.le_of_ble_eq_true rfl) dL_law_118 ⟨by dsimp only [room_1]; omega, by dsimp only [room_1]; omega⟩ (fun H locs hG hS => ?_)
          refine lv_bipush (v := nI 100) C0.1 C0.2.1 dL_law_121 (by decide) ?_
          refine tn_icmp_le (tgt := 128) C0.1 C0.2.1 dL_law_123 (by decide) (by omega) (by omega) (fun c_123 => ?_) (fun c_123 => ?_)
          · refine W.widen (k := 0 + (40 + 4 * (t + 1))) (n := 0 + (300 + 24 * (t + 1))) (by omega) (by omega) ?_
            exact cut_128 ((x36) + nI (263 * t)) (tk') (co') (cn') (wk') (n') (st') (ho') (ct') (sq + d) (ra') (rw') (f') hk' hy' hn0' (by omega) ls (lv_sub hl [4, 5, 6, 7, 3] rfl) _ _ hG hS
          · exact absurd c_123 (by omega)
  · exact absurd c_70 (by decide)
