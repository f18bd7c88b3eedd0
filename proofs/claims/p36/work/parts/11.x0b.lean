/-! the class: what throws, what reads -/
theorem way_le (x y : Nat) (h1 : x < 6) (h2 : y < 6) : way x y ≤ 6 := by
  unfold way adist
  split <;> omega
set_option maxHeartbeats 4000000 in
set_option maxRecDepth 100000 in
theorem kX0_exchange {l : Launch} (hlf : l.stackTraces = false) {D : va_G} {cI cJ : ClassId} {N0 : Nat} {ws : va_W} {q0 : Nat} {f : Nat → Nat} (r : Nat) (x : Nat) (y : Nat) (h1 : x < 12) (h2 : y < 12) (hf : ws[q0]? = some (r, tcArr cI f)) : tcM l yX0_exchange wsX0_exchange { frames := 0, cells := 0, slots := 0, locals := 0 } [] 0 [.ref r, .int (nI (x)), .int (nI (y))] D cI cJ N0 (ws) none (ws.set q0 (r, tcArr cI (swp f x y))) 0 0 := by
  refine tcM.of (cc := cX0_exchange) (maxL := 4) (ret := none) (by decide) rfl (Nat.le_of_ble_eq_true rfl) ?_
  intro p e s m args below meth c C0 hr hlk ht hmn hG ls hl
  have hl : lv_has ls 4 [(0, .ref r), (1, .int (nI (x))), (2, .int (nI (y)))] := hl
  have hG0 := hG
  have hS : va_S (tcA N0) s.heap s.heap [] := va_S.rf
  refine lv_aload_n C0.1 C0.2.1 dX0_exchange_0 rfl (lv_at hl 0 rfl) ?_
  refine lv_iload_n C0.1 C0.2.1 dX0_exchange_1 rfl (lv_at hl 1 rfl) ?_
  refine tc_ald (q0 := q0) C0 hG hf (by omega) dX0_exchange_2 ?_
  refine lv_istore_n (lv' := [(3, .int (nI (f (x)))), (0, .ref r), (1, .int (nI (x))), (2, .int (nI (y)))]) C0.1 C0.2.1 dX0_exchange_3 rfl hl (by decide) rfl (fun ls hl => ?_)
  refine lv_aload_n C0.1 C0.2.1 dX0_exchange_4 rfl (lv_at hl 1 rfl) ?_
  refine lv_iload_n C0.1 C0.2.1 dX0_exchange_5 rfl (lv_at hl 2 rfl) ?_
  refine lv_aload_n C0.1 C0.2.1 dX0_exchange_6 rfl (lv_at hl 1 rfl) ?_
  refine lv_iload_n C0.1 C0.2.1 dX0_exchange_7 rfl (lv_at hl 3 rfl) ?_
  refine tc_ald (q0 := q0) C0 hG hf (by omega) dX0_exchange_8 ?_
  refine tc_ast (q0 := q0) C0 hG0 hG hS hf (by omega) dX0_exchange_9 (fun H locs hG hS => ?_)
  have hf := tc_set_get hf (y := (r, tcArr cI (va_up f (x) (f (y)))))
  refine lv_aload_n C0.1 C0.2.1 dX0_exchange_10 rfl (lv_at hl 1 rfl) ?_
  refine lv_iload_n C0.1 C0.2.1 dX0_exchange_11 rfl (lv_at hl 3 rfl) ?_
  refine lv_iload_n C0.1 C0.2.1 dX0_exchange_12 rfl (lv_at hl 0 rfl) ?_
  refine tc_ast (q0 := q0) C0 hG0 hG hS hf (by omega) dX0_exchange_13 (fun H locs hG hS => ?_)
  have hf := tc_set_get hf (y := (r, tcArr cI (va_up ((va_up f (x) (f (y)))) (y) (f (x)))))
  rw [List.set_set] at hG
  exact tc_vret C0 hr hlk hG hS rfl (Nat.le_of_ble_eq_true rfl) (Nat.le_of_ble_eq_true rfl) dX0_exchange_14
set_option maxHeartbeats 4000000 in
set_option maxRecDepth 100000 in
theorem kX0_townIfSwapped {l : Launch} (hlf : l.stackTraces = false) {D : va_G} {cI cJ : ClassId} {N0 : Nat} {h r1 r2 r3 r4 : Nat} {tk co cn wk : Nat → Nat} {n st : Nat} {ho ct sp : Int32} {Z : va_W} (hk : tOk tk co cn wk n st) (x : Nat) (y : Nat) (h1 : x < 12) (h2 : y < 12) : tcM l yX0_townIfSwapped wsX0_townIfSwapped { frames := 4, cells := 0, slots := 0, locals := 89 } [] 0 [.ref h, .int (nI (x)), .int (nI (y))] D cI cJ N0 (wT h r1 r2 r3 r4 cI tk co cn wk n ho st ct sp Z) (some (.int (nI (swt tk co cn wk n x y)))) (wT h r1 r2 r3 r4 cI tk co cn wk n ho st ct sp Z) 0 0 := by
  refine tcM.of (cc := cX0_townIfSwapped) (maxL := 4) (ret := (some .int)) (by decide) rfl (Nat.le_of_ble_eq_true rfl) ?_
  intro p e s m args below meth c C0 hr hlk ht hmn hG ls hl
  have hl : lv_has ls 4 [(0, .ref h), (1, .int (nI (x))), (2, .int (nI (y)))] := hl
  obtain ⟨hk1, hk2, hk3, hk4, hn12, hst⟩ := id hk
  have hG0 := hG
  have hS : va_S (tcA N0) s.heap s.heap [] := va_S.rf
  have hF : ∀ w ∈ wsX00, w ∈ wsX0_townIfSwapped := by decide +kernel
  have w_tickets : Cond.fieldLink RX0 9 "TicketCoincidences" "tickets" "[I" ∈ wsX0_townIfSwapped := by decide +kernel
  refine lv_aload_n C0.1 C0.2.1 dX0_townIfSwapped_0 rfl (lv_at hl 0 rfl) ?_
  refine tgX0_tickets C0 hF hG w_tickets dX0_townIfSwapped_1 ?_
  refine lv_iload_n C0.1 C0.2.1 dX0_townIfSwapped_4 rfl (lv_at hl 1 rfl) ?_
  refine lv_iload_n C0.1 C0.2.1 dX0_townIfSwapped_5 rfl (lv_at hl 2 rfl) ?_
  refine tc_callSv C0 hG hS (kX0_exchange hlf (q0 := 1) (f := tk)  (r1) (x) (y) (by omega) (by omega) rfl) (va_cwS 3 C0.2.2.2.2 gX0_townIfSwapped_X0_exchange rfl rfl rfl (by decide +kernel) ⟨(Nat.le_of_ble_eq_true rfl), (Nat.le_of_ble_eq_true rfl)⟩) rfl hl rfl (Nat.le_of_ble_eq_true rfl) dX0_townIfSwapped_6 ⟨(Nat.le_of_ble_eq_true rfl), (Nat.le_of_ble_eq_true rfl)⟩ (fun H locs hG hS => ?_)
  have hG : tcG D cI cJ N0 (wT h r1 r2 r3 r4 cI (swp tk x y) co cn wk n ho st ct sp Z) s H := hG
  have hk_s := hk.tk (swp_lt hk1 x y)
  refine lv_aload_n C0.1 C0.2.1 dX0_townIfSwapped_9 rfl (lv_at hl 0 rfl) ?_
  refine lv_iconst (v := nI 0) C0.1 C0.2.1 dX0_townIfSwapped_10 (by decide) ?_
  refine tc_callV (q0 := 0) C0 hG hS rfl rfl (kX0_townBehind hlf hk_s  (0) (by omega)) (cwV 1 C0.2.2.2.2 gX0_townIfSwapped_X0_townBehind rfl rfl rfl (by decide +kernel) ⟨(Nat.le_of_ble_eq_true rfl), (Nat.le_of_ble_eq_true rfl)⟩) rfl hl rfl (Nat.le_of_ble_eq_true rfl) dX0_townIfSwapped_11 ⟨(Nat.le_of_ble_eq_true rfl), (Nat.le_of_ble_eq_true rfl)⟩ (fun H locs hG hS => ?_)
  have b_11 := tw_le (swp tk x y) co cn wk 0 hk_s.2.2.2.2.1
  refine lv_istore_n (lv' := [(3, .int (nI (tw (swp tk x y) co cn wk 0 n))), (0, .ref h), (1, .int (nI (x))), (2, .int (nI (y)))]) C0.1 C0.2.1 dX0_townIfSwapped_14 rfl hl (by decide) rfl (fun ls hl => ?_)
  refine lv_aload_n C0.1 C0.2.1 dX0_townIfSwapped_15 rfl (lv_at hl 1 rfl) ?_
  refine tgX0_tickets C0 hF hG w_tickets dX0_townIfSwapped_16 ?_
  refine lv_iload_n C0.1 C0.2.1 dX0_townIfSwapped_19 rfl (lv_at hl 2 rfl) ?_
  refine lv_iload_n C0.1 C0.2.1 dX0_townIfSwapped_20 rfl (lv_at hl 3 rfl) ?_
  refine tc_callSv C0 hG hS (kX0_exchange hlf (q0 := 1) (f := swp tk x y)  (r1) (x) (y) (by omega) (by omega) rfl) (va_cwS 3 C0.2.2.2.2 gX0_townIfSwapped_X0_exchange rfl rfl rfl (by decide +kernel) ⟨(Nat.le_of_ble_eq_true rfl), (Nat.le_of_ble_eq_true rfl)⟩) rfl hl rfl (Nat.le_of_ble_eq_true rfl) dX0_townIfSwapped_21 ⟨(Nat.le_of_ble_eq_true rfl), (Nat.le_of_ble_eq_true rfl)⟩ (fun H locs hG hS => ?_)
  have hG : tcG D cI cJ N0 (wT h r1 r2 r3 r4 cI (swp (swp tk x y) x y) co cn wk n ho st ct sp Z) s H := hG
  refine lv_iload_n C0.1 C0.2.1 dX0_townIfSwapped_24 rfl (lv_at hl 0 rfl) ?_
  exact tc_iret C0 hr hlk (tcG.eq (by rw [swp_swp]) hG) hS rfl rfl (Nat.le_of_ble_eq_true rfl) (Nat.le_of_ble_eq_true rfl) dX0_townIfSwapped_25
set_option maxHeartbeats 4000000 in
set_option maxRecDepth 100000 in
theorem kX0_requireStranger {l : Launch} (hlf : l.stackTraces = false) {D : va_G} {cI cJ : ClassId} {N0 : Nat} {h r1 r2 r3 r4 : Nat} {tk co cn wk : Nat → Nat} {n st : Nat} {ho ct sp : Int32} {Z : va_W} (hk : tOk tk co cn wk n st) (x : Int32)  : tcM l yX0_requireStranger wsX0_requireStranger { frames := 6, cells := 1, slots := 6, locals := 90 } tcEs (cdS x n) [.ref h, .int (x)] D cI cJ N0 (wT h r1 r2 r3 r4 cI tk co cn wk n ho st ct sp Z) none (wT h r1 r2 r3 r4 cI tk co cn wk n ho st ct sp Z) 1 6 := by
  refine tcM.of (cc := cX0_requireStranger) (maxL := 2) (ret := none) (by decide) rfl (Nat.le_of_ble_eq_true rfl) ?_
  intro p e s m args below meth c C0 hr hlk ht hmn hG ls hl
  have hl : lv_has ls 2 [(0, .ref h), (1, .int (x))] := hl
  obtain ⟨hk1, hk2, hk3, hk4, hn12, hst⟩ := id hk
  have hG0 := hG
  have hS : va_S (tcA N0) s.heap s.heap [] := va_S.rf
  have hF : ∀ w ∈ wsX00, w ∈ wsX0_requireStranger := by decide +kernel
  have w_people : Cond.fieldLink RX0 22 "TicketCoincidences" "people" "I" ∈ wsX0_requireStranger := by decide +kernel
  refine lv_iload_n C0.1 C0.2.1 dX0_requireStranger_0 rfl (lv_at hl 1 rfl) ?_
  refine lv_if_lt (tgt := 12) C0.1 C0.2.1 dX0_requireStranger_1 (by decide) (fun c_1 => ?_) (fun c_1 => ?_)
  · exact tc_thr (is := 159) (text := "there is no such stranger") (cls := "java/lang/IndexOutOfBoundsException") (ic := 161) (i := 0) C0 hlf ht hlk hG0 hG hS hl (by decide +kernel) (by decide +kernel) (by decide +kernel) (by decide +kernel) (by decide +kernel) (by decide +kernel) dX0_requireStranger_12 dX0_requireStranger_15 dX0_requireStranger_16 dX0_requireStranger_18 dX0_requireStranger_21 (Nat.le_of_ble_eq_true rfl) (Nat.le_of_ble_eq_true rfl) ⟨(Nat.le_of_ble_eq_true rfl), (Nat.le_of_ble_eq_true rfl)⟩ rfl (by first | exact cdS_n (tcIn_lo c_1) | exact cdS_n (tcIn_hi (by omega) (Int32.not_lt.mp c_9))) (Nat.le_of_ble_eq_true rfl) (Nat.le_of_ble_eq_true rfl)
  · refine lv_iload_n C0.1 C0.2.1 dX0_requireStranger_4 rfl (lv_at hl 1 rfl) ?_
    refine lv_aload_n C0.1 C0.2.1 dX0_requireStranger_5 rfl (lv_at hl 0 rfl) ?_
    refine tgX0_people C0 hF hG w_people dX0_requireStranger_6 ?_
    refine lv_icmp_lt (tgt := 22) C0.1 C0.2.1 dX0_requireStranger_9 (by decide) (fun c_9 => ?_) (fun c_9 => ?_)
    · exact tc_vret C0 hr hlk hG hS (cdS_y (tcIn_yes (by omega) c_1 (Int32.not_le.mpr c_9))) (Nat.le_of_ble_eq_true rfl) (Nat.le_of_ble_eq_true rfl) dX0_requireStranger_22
    · exact tc_thr (is := 159) (text := "there is no such stranger") (cls := "java/lang/IndexOutOfBoundsException") (ic := 161) (i := 0) C0 hlf ht hlk hG0 hG hS hl (by decide +kernel) (by decide +kernel) (by decide +kernel) (by decide +kernel) (by decide +kernel) (by decide +kernel) dX0_requireStranger_12 dX0_requireStranger_15 dX0_requireStranger_16 dX0_requireStranger_18 dX0_requireStranger_21 (Nat.le_of_ble_eq_true rfl) (Nat.le_of_ble_eq_true rfl) ⟨(Nat.le_of_ble_eq_true rfl), (Nat.le_of_ble_eq_true rfl)⟩ rfl (by first | exact cdS_n (tcIn_lo c_1) | exact cdS_n (tcIn_hi (by omega) (Int32.not_lt.mp c_9))) (Nat.le_of_ble_eq_true rfl) (Nat.le_of_ble_eq_true rfl)
set_option maxHeartbeats 4000000 in
set_option maxRecDepth 100000 in
theorem kX0_requirePair {l : Launch} (hlf : l.stackTraces = false) {D : va_G} {cI cJ : ClassId} {N0 : Nat} {h r1 r2 r3 r4 : Nat} {tk co cn wk : Nat → Nat} {n st : Nat} {ho ct sp : Int32} {Z : va_W} (hk : tOk tk co cn wk n st) (x : Int32) (y : Int32)  : tcM l yX0_requirePair wsX0_requirePair { frames := 7, cells := 3, slots := 18, locals := 111 } tcEs (cdP x y n) [.ref h, .int (x), .int (y)] D cI cJ N0 (wT h r1 r2 r3 r4 cI tk co cn wk n ho st ct sp Z) none (wT h r1 r2 r3 r4 cI tk co cn wk n ho st ct sp Z) 3 18 := by
  refine tcM.of (cc := cX0_requirePair) (maxL := 3) (ret := none) (by decide) rfl (Nat.le_of_ble_eq_true rfl) ?_
  intro p e s m args below meth c C0 hr hlk ht hmn hG ls hl
  have hl : lv_has ls 3 [(0, .ref h), (1, .int (x)), (2, .int (y))] := hl
  obtain ⟨hk1, hk2, hk3, hk4, hn12, hst⟩ := id hk
  have hG0 := hG
  have hS : va_S (tcA N0) s.heap s.heap [] := va_S.rf
  refine lv_aload_n C0.1 C0.2.1 dX0_requirePair_0 rfl (lv_at hl 0 rfl) ?_
  refine lv_iload_n C0.1 C0.2.1 dX0_requirePair_1 rfl (lv_at hl 1 rfl) ?_
  refine tc_callVx (q0 := 0) C0 hG hS rfl rfl (kX0_requireStranger hlf hk  (x) ) (cwV 1 C0.2.2.2.2 gX0_requirePair_X0_requireStranger rfl rfl rfl (by decide +kernel) ⟨(Nat.le_of_ble_eq_true rfl), (Nat.le_of_ble_eq_true rfl)⟩) rfl hl rfl (Nat.le_of_ble_eq_true rfl) dX0_requirePair_2 ⟨(Nat.le_of_ble_eq_true rfl), (Nat.le_of_ble_eq_true rfl)⟩ (fun i E q9 ce H locs hi hcd hG hS hce hcv hcl => by exact tc_out ht hlk hG hS hce hcv hcl (i := i) hi (by obtain ⟨hz, rfl⟩ := cdS_1 hcd; exact cdP_1 hz) (Nat.le_of_ble_eq_true rfl) (Nat.le_of_ble_eq_true rfl)) (fun c_2 H locs hG hS => ?_)
  refine W.eq (g2 := F0 m 5 ls []) rfl ?_
  refine lv_aload_n C0.1 C0.2.1 dX0_requirePair_5 rfl (lv_at hl 0 rfl) ?_
  refine lv_iload_n C0.1 C0.2.1 dX0_requirePair_6 rfl (lv_at hl 2 rfl) ?_
  refine tc_callVx (q0 := 0) C0 hG hS rfl rfl (kX0_requireStranger hlf hk  (y) ) (cwV 1 C0.2.2.2.2 gX0_requirePair_X0_requireStranger rfl rfl rfl (by decide +kernel) ⟨(Nat.le_of_ble_eq_true rfl), (Nat.le_of_ble_eq_true rfl)⟩) rfl hl rfl (Nat.le_of_ble_eq_true rfl) dX0_requirePair_7 ⟨(Nat.le_of_ble_eq_true rfl), (Nat.le_of_ble_eq_true rfl)⟩ (fun i E q9 ce H locs hi hcd hG hS hce hcv hcl => by exact tc_out ht hlk hG hS hce hcv hcl (i := i) hi (by obtain ⟨hz, rfl⟩ := cdS_1 hcd; exact cdP_2 hz) (Nat.le_of_ble_eq_true rfl) (Nat.le_of_ble_eq_true rfl)) (fun c_7 H locs hG hS => ?_)
  refine W.eq (g2 := F0 m 10 ls []) rfl ?_
  refine lv_iload_n C0.1 C0.2.1 dX0_requirePair_10 rfl (lv_at hl 1 rfl) ?_
  refine lv_iload_n C0.1 C0.2.1 dX0_requirePair_11 rfl (lv_at hl 2 rfl) ?_
  refine lv_icmp_ne (tgt := 25) C0.1 C0.2.1 dX0_requirePair_12 (by decide) (fun c_12 => ?_) (fun c_12 => ?_)
  · exact tc_vret C0 hr hlk hG hS (cdP_0 (cdS_0 c_2) (cdS_0 c_7) c_12) (Nat.le_of_ble_eq_true rfl) (Nat.le_of_ble_eq_true rfl) dX0_requirePair_25
  · exact tc_thr (is := 162) (text := "both are the same") (cls := "java/lang/IllegalArgumentException") (ic := 55) (i := 1) C0 hlf ht hlk hG0 hG hS hl (by decide +kernel) (by decide +kernel) (by decide +kernel) (by decide +kernel) (by decide +kernel) (by decide +kernel) dX0_requirePair_15 dX0_requirePair_18 dX0_requirePair_19 dX0_requirePair_21 dX0_requirePair_24 (Nat.le_of_ble_eq_true rfl) (Nat.le_of_ble_eq_true rfl) ⟨(Nat.le_of_ble_eq_true rfl), (Nat.le_of_ble_eq_true rfl)⟩ rfl (cdP_3 (cdS_0 c_2) (cdS_0 c_7) c_12) (Nat.le_of_ble_eq_true rfl) (Nat.le_of_ble_eq_true rfl)
set_option maxHeartbeats 4000000 in
set_option maxRecDepth 100000 in
theorem kX0_requireCorner {l : Launch} (hlf : l.stackTraces = false) {D : va_G} {cI cJ : ClassId} {N0 : Nat} {ws : va_W} (x : Int32)  : tcM l yX0_requireCorner wsX0_requireCorner { frames := 6, cells := 1, slots := 6, locals := 90 } tcEs (cdS x 6) [.int (x)] D cI cJ N0 (ws) none (ws) 1 6 := by
  refine tcM.of (cc := cX0_requireCorner) (maxL := 1) (ret := none) (by decide) rfl (Nat.le_of_ble_eq_true rfl) ?_
  intro p e s m args below meth c C0 hr hlk ht hmn hG ls hl
  have hl : lv_has ls 1 [(0, .int (x))] := hl
  have hG0 := hG
  have hS : va_S (tcA N0) s.heap s.heap [] := va_S.rf
  refine lv_iload_n C0.1 C0.2.1 dX0_requireCorner_0 rfl (lv_at hl 0 rfl) ?_
  refine tc_callS C0 hG hS (kX0_isCorner hlf  (x) ) (va_cwS 1 C0.2.2.2.2 gX0_requireCorner_X0_isCorner rfl rfl rfl (by decide +kernel) ⟨(Nat.le_of_ble_eq_true rfl), (Nat.le_of_ble_eq_true rfl)⟩) rfl hl rfl (Nat.le_of_ble_eq_true rfl) dX0_requireCorner_1 ⟨(Nat.le_of_ble_eq_true rfl), (Nat.le_of_ble_eq_true rfl)⟩ (fun H locs hG hS => ?_)
  refine tb_if_ne (tgt := 17) C0.1 C0.2.1 dX0_requireCorner_4 (by decide) (fun c_4 => ?_) (fun c_4 => ?_)
  · exact tc_vret C0 hr hlk hG hS (cdS_y c_4) (Nat.le_of_ble_eq_true rfl) (Nat.le_of_ble_eq_true rfl) dX0_requireCorner_17
  · exact tc_thr (is := 69) (text := "a corner is 0 to 5") (cls := "java/lang/IndexOutOfBoundsException") (ic := 161) (i := 0) C0 hlf ht hlk hG0 hG hS hl (by decide +kernel) (by decide +kernel) (by decide +kernel) (by decide +kernel) (by decide +kernel) (by decide +kernel) dX0_requireCorner_7 dX0_requireCorner_10 dX0_requireCorner_11 dX0_requireCorner_13 dX0_requireCorner_16 (Nat.le_of_ble_eq_true rfl) (Nat.le_of_ble_eq_true rfl) ⟨(Nat.le_of_ble_eq_true rfl), (Nat.le_of_ble_eq_true rfl)⟩ rfl (cdS_n c_4) (Nat.le_of_ble_eq_true rfl) (Nat.le_of_ble_eq_true rfl)
set_option maxHeartbeats 4000000 in
set_option maxRecDepth 100000 in
theorem kX0_pay {l : Launch} (hlf : l.stackTraces = false) {D : va_G} {cI cJ : ClassId} {N0 : Nat} {h r1 r2 r3 r4 : Nat} {tk co cn wk : Nat → Nat} {n st : Nat} {ho ct sp : Int32} {Z : va_W} (hk : tOk tk co cn wk n st) (x : Nat) (h1 : x ≤ 100) : tcM l yX0_pay wsX0_pay { frames := 6, cells := 1, slots := 6, locals := 90 } tcEs (cdC x st) [.ref h, .int (nI (x))] D cI cJ N0 (wT h r1 r2 r3 r4 cI tk co cn wk n ho st ct sp Z) none (wT h r1 r2 r3 r4 cI tk co cn wk n ho (st - x) ct (sp + nI x) Z) 1 6 := by
  refine tcM.of (cc := cX0_pay) (maxL := 2) (ret := none) (by decide) rfl (Nat.le_of_ble_eq_true rfl) ?_
  intro p e s m args below meth c C0 hr hlk ht hmn hG ls hl
  have hl : lv_has ls 2 [(0, .ref h), (1, .int (nI (x)))] := hl
  obtain ⟨hk1, hk2, hk3, hk4, hn12, hst⟩ := id hk
  have hG0 := hG
  have hS : va_S (tcA N0) s.heap s.heap [] := va_S.rf
  have hF : ∀ w ∈ wsX00, w ∈ wsX0_pay := by decide +kernel
  have w_inStore : Cond.fieldLink RX0 29 "TicketCoincidences" "inStore" "I" ∈ wsX0_pay := by decide +kernel
  have w_spentInAll : Cond.fieldLink RX0 35 "TicketCoincidences" "spentInAll" "I" ∈ wsX0_pay := by decide +kernel
  refine lv_iload_n C0.1 C0.2.1 dX0_pay_0 rfl (lv_at hl 1 rfl) ?_
  refine lv_aload_n C0.1 C0.2.1 dX0_pay_1 rfl (lv_at hl 0 rfl) ?_
  refine tgX0_inStore C0 hF hG w_inStore dX0_pay_2 ?_
  refine tn_icmp_le (tgt := 18) C0.1 C0.2.1 dX0_pay_5 (by decide) (by omega) (by omega) (fun c_5 => ?_) (fun c_5 => ?_)
  · refine lv_aload_n C0.1 C0.2.1 dX0_pay_18 rfl (lv_at hl 0 rfl) ?_
    refine lv_dup C0.1 C0.2.1 dX0_pay_19 rfl ?_
    refine tgX0_inStore C0 hF hG w_inStore dX0_pay_20 ?_
    refine lv_iload_n C0.1 C0.2.1 dX0_pay_23 rfl (lv_at hl 1 rfl) ?_
    refine tn_isub C0.1 C0.2.1 dX0_pay_24 (by omega) ?_
    refine tpX0_inStore C0 hF hG0 hG hS w_inStore dX0_pay_25 (fun H locs hG hS => ?_)
    refine lv_aload_n C0.1 C0.2.1 dX0_pay_28 rfl (lv_at hl 0 rfl) ?_
    refine lv_dup C0.1 C0.2.1 dX0_pay_29 rfl ?_
    refine tgX0_spentInAll C0 hF hG w_spentInAll dX0_pay_30 ?_
    refine lv_iload_n C0.1 C0.2.1 dX0_pay_33 rfl (lv_at hl 1 rfl) ?_
    refine lv_iadd C0.1 C0.2.1 dX0_pay_34 ?_
    refine tpX0_spentInAll C0 hF hG0 hG hS w_spentInAll dX0_pay_35 (fun H locs hG hS => ?_)
    exact tc_vret C0 hr hlk hG hS (cdC_y c_5) (Nat.le_of_ble_eq_true rfl) (Nat.le_of_ble_eq_true rfl) dX0_pay_38
  · exact tc_thr (is := 164) (text := "it costs too much") (cls := "java/lang/IllegalStateException") (ic := 62) (i := 2) C0 hlf ht hlk hG0 hG hS hl (by decide +kernel) (by decide +kernel) (by decide +kernel) (by decide +kernel) (by decide +kernel) (by decide +kernel) dX0_pay_8 dX0_pay_11 dX0_pay_12 dX0_pay_14 dX0_pay_17 (Nat.le_of_ble_eq_true rfl) (Nat.le_of_ble_eq_true rfl) ⟨(Nat.le_of_ble_eq_true rfl), (Nat.le_of_ble_eq_true rfl)⟩ rfl (cdC_n (by omega)) (Nat.le_of_ble_eq_true rfl) (Nat.le_of_ble_eq_true rfl)
set_option maxHeartbeats 4000000 in
set_option maxRecDepth 100000 in
theorem kX0_costOfWay {l : Launch} (hlf : l.stackTraces = false) {D : va_G} {cI cJ : ClassId} {N0 : Nat} {ws : va_W} (x : Nat) (y : Nat) (h1 : x < 6) (h2 : y < 6) : tcM l yX0_costOfWay wsX0_costOfWay { frames := 1, cells := 0, slots := 0, locals := 21 } [] 0 [.int (nI (x)), .int (nI (y))] D cI cJ N0 (ws) (some (.int (nI (way x y)))) (ws) 0 0 := by
  refine tcM.of (cc := cX0_costOfWay) (maxL := 3) (ret := (some .int)) (by decide) rfl (Nat.le_of_ble_eq_true rfl) ?_
  intro p e s m args below meth c C0 hr hlk ht hmn hG ls hl
  have hl : lv_has ls 3 [(0, .int (nI (x))), (1, .int (nI (y)))] := hl
  have hG0 := hG
  have hS : va_S (tcA N0) s.heap s.heap [] := va_S.rf
  refine lv_iload_n C0.1 C0.2.1 dX0_costOfWay_0 rfl (lv_at hl 0 rfl) ?_
  refine lv_iload_n C0.1 C0.2.1 dX0_costOfWay_1 rfl (lv_at hl 1 rfl) ?_
  refine lv_isub C0.1 C0.2.1 dX0_costOfWay_2 ?_
  refine va_mabs C0.1 C0.2.1 (C0.2.2.1.trans hl.1.symm) C0.2.2.2.1 (C0.2.2.2.2 (.methodLink RX0 166 Lib.Math.abs.name) (by decide +kernel)) (C0.2.2.2.2 (.static Lib.Math.abs.name) (by decide +kernel)) (C0.2.2.2.2 (.initialized "java/lang/Math") (by decide +kernel)) (C0.2.2.2.2 (.code Lib.Math.abs.name Lib.Math.abs.code 1 (some .int)) (by decide +kernel)) (Nat.le_of_ble_eq_true rfl) (Nat.le_of_ble_eq_true rfl) (Nat.le_of_ble_eq_true rfl) (Nat.le_of_ble_eq_true rfl) dX0_costOfWay_3 ?_
  refine tc_top (tc_abs (a := x) (b := y) (by omega) (by omega)) ?_
  refine lv_istore_n (lv' := [(2, .int (nI (adist (x) (y)))), (0, .int (nI (x))), (1, .int (nI (y)))]) C0.1 C0.2.1 dX0_costOfWay_6 rfl hl (by decide) rfl (fun ls hl => ?_)
  have b_ad := adist_le (a := x) (b := y) (k := 5) (by omega) (by omega)
  refine lv_iconst (v := nI 2) C0.1 C0.2.1 dX0_costOfWay_7 (by decide) ?_
  refine lv_iload_n C0.1 C0.2.1 dX0_costOfWay_8 rfl (lv_at hl 0 rfl) ?_
  refine lv_bipush (v := nI 6) C0.1 C0.2.1 dX0_costOfWay_9 (by decide) ?_
  refine lv_iload_n C0.1 C0.2.1 dX0_costOfWay_11 rfl (lv_at hl 0 rfl) ?_
  refine tn_isub C0.1 C0.2.1 dX0_costOfWay_12 (by omega) ?_
  refine va_mmin C0.1 C0.2.1 (C0.2.2.1.trans hl.1.symm) C0.2.2.2.1 (C0.2.2.2.2 (.methodLink RX0 171 Lib.Math.min.name) (by decide +kernel)) (C0.2.2.2.2 (.static Lib.Math.min.name) (by decide +kernel)) (C0.2.2.2.2 (.initialized "java/lang/Math") (by decide +kernel)) (C0.2.2.2.2 (.code Lib.Math.min.name Lib.Math.min.code 2 (some .int)) (by decide +kernel)) (Nat.le_of_ble_eq_true rfl) (Nat.le_of_ble_eq_true rfl) (Nat.le_of_ble_eq_true rfl) (Nat.le_of_ble_eq_true rfl) dX0_costOfWay_13 ?_
  refine tc_top (tc_min (by omega) (by omega)) ?_
  refine tn_imul C0.1 C0.2.1 dX0_costOfWay_16 ?_
  exact tc_iret C0 hr hlk hG hS rfl rfl (Nat.le_of_ble_eq_true rfl) (Nat.le_of_ble_eq_true rfl) dX0_costOfWay_17
set_option maxHeartbeats 4000000 in
set_option maxRecDepth 100000 in
theorem kX0_strangers {l : Launch} (hlf : l.stackTraces = false) {D : va_G} {cI cJ : ClassId} {N0 : Nat} {h r1 r2 r3 r4 : Nat} {tk co cn wk : Nat → Nat} {n st : Nat} {ho ct sp : Int32} {Z : va_W} (hk : tOk tk co cn wk n st)   : tcM l yX0_strangers wsX0_strangers { frames := 0, cells := 0, slots := 0, locals := 0 } [] 0 [.ref h] D cI cJ N0 (wT h r1 r2 r3 r4 cI tk co cn wk n ho st ct sp Z) (some (.int (nI (n)))) (wT h r1 r2 r3 r4 cI tk co cn wk n ho st ct sp Z) 0 0 := by
  refine tcM.of (cc := cX0_strangers) (maxL := 1) (ret := (some .int)) (by decide) rfl (Nat.le_of_ble_eq_true rfl) ?_
  intro p e s m args below meth c C0 hr hlk ht hmn hG ls hl
  have hl : lv_has ls 1 [(0, .ref h)] := hl
  obtain ⟨hk1, hk2, hk3, hk4, hn12, hst⟩ := id hk
  have hG0 := hG
  have hS : va_S (tcA N0) s.heap s.heap [] := va_S.rf
  have hF : ∀ w ∈ wsX00, w ∈ wsX0_strangers := by decide +kernel
  have w_people : Cond.fieldLink RX0 22 "TicketCoincidences" "people" "I" ∈ wsX0_strangers := by decide +kernel
  refine lv_aload_n C0.1 C0.2.1 dX0_strangers_0 rfl (lv_at hl 0 rfl) ?_
  refine tgX0_people C0 hF hG w_people dX0_strangers_1 ?_
  exact tc_iret C0 hr hlk hG hS rfl rfl (Nat.le_of_ble_eq_true rfl) (Nat.le_of_ble_eq_true rfl) dX0_strangers_4
set_option maxHeartbeats 4000000 in
set_option maxRecDepth 100000 in
theorem kX0_hour {l : Launch} (hlf : l.stackTraces = false) {D : va_G} {cI cJ : ClassId} {N0 : Nat} {h r1 r2 r3 r4 : Nat} {tk co cn wk : Nat → Nat} {n st : Nat} {ho ct sp : Int32} {Z : va_W} (hk : tOk tk co cn wk n st)   : tcM l yX0_hour wsX0_hour { frames := 0, cells := 0, slots := 0, locals := 0 } [] 0 [.ref h] D cI cJ N0 (wT h r1 r2 r3 r4 cI tk co cn wk n ho st ct sp Z) (some (.int (ho))) (wT h r1 r2 r3 r4 cI tk co cn wk n ho st ct sp Z) 0 0 := by
  refine tcM.of (cc := cX0_hour) (maxL := 1) (ret := (some .int)) (by decide) rfl (Nat.le_of_ble_eq_true rfl) ?_
  intro p e s m args below meth c C0 hr hlk ht hmn hG ls hl
  have hl : lv_has ls 1 [(0, .ref h)] := hl
  obtain ⟨hk1, hk2, hk3, hk4, hn12, hst⟩ := id hk
  have hG0 := hG
  have hS : va_S (tcA N0) s.heap s.heap [] := va_S.rf
  have hF : ∀ w ∈ wsX00, w ∈ wsX0_hour := by decide +kernel
  have w_hourNow : Cond.fieldLink RX0 26 "TicketCoincidences" "hourNow" "I" ∈ wsX0_hour := by decide +kernel
  refine lv_aload_n C0.1 C0.2.1 dX0_hour_0 rfl (lv_at hl 0 rfl) ?_
  refine tgX0_hourNow C0 hF hG w_hourNow dX0_hour_1 ?_
  exact tc_iret C0 hr hlk hG hS rfl rfl (Nat.le_of_ble_eq_true rfl) (Nat.le_of_ble_eq_true rfl) dX0_hour_4
set_option maxHeartbeats 4000000 in
set_option maxRecDepth 100000 in
theorem kX0_store {l : Launch} (hlf : l.stackTraces = false) {D : va_G} {cI cJ : ClassId} {N0 : Nat} {h r1 r2 r3 r4 : Nat} {tk co cn wk : Nat → Nat} {n st : Nat} {ho ct sp : Int32} {Z : va_W} (hk : tOk tk co cn wk n st)   : tcM l yX0_store wsX0_store { frames := 0, cells := 0, slots := 0, locals := 0 } [] 0 [.ref h] D cI cJ N0 (wT h r1 r2 r3 r4 cI tk co cn wk n ho st ct sp Z) (some (.int (nI (st)))) (wT h r1 r2 r3 r4 cI tk co cn wk n ho st ct sp Z) 0 0 := by
  refine tcM.of (cc := cX0_store) (maxL := 1) (ret := (some .int)) (by decide) rfl (Nat.le_of_ble_eq_true rfl) ?_
  intro p e s m args below meth c C0 hr hlk ht hmn hG ls hl
  have hl : lv_has ls 1 [(0, .ref h)] := hl
  obtain ⟨hk1, hk2, hk3, hk4, hn12, hst⟩ := id hk
  have hG0 := hG
  have hS : va_S (tcA N0) s.heap s.heap [] := va_S.rf
  have hF : ∀ w ∈ wsX00, w ∈ wsX0_store := by decide +kernel
  have w_inStore : Cond.fieldLink RX0 29 "TicketCoincidences" "inStore" "I" ∈ wsX0_store := by decide +kernel
  refine lv_aload_n C0.1 C0.2.1 dX0_store_0 rfl (lv_at hl 0 rfl) ?_
  refine tgX0_inStore C0 hF hG w_inStore dX0_store_1 ?_
  exact tc_iret C0 hr hlk hG hS rfl rfl (Nat.le_of_ble_eq_true rfl) (Nat.le_of_ble_eq_true rfl) dX0_store_4
set_option maxHeartbeats 4000000 in
set_option maxRecDepth 100000 in
theorem kX0_counted {l : Launch} (hlf : l.stackTraces = false) {D : va_G} {cI cJ : ClassId} {N0 : Nat} {h r1 r2 r3 r4 : Nat} {tk co cn wk : Nat → Nat} {n st : Nat} {ho ct sp : Int32} {Z : va_W} (hk : tOk tk co cn wk n st)   : tcM l yX0_counted wsX0_counted { frames := 0, cells := 0, slots := 0, locals := 0 } [] 0 [.ref h] D cI cJ N0 (wT h r1 r2 r3 r4 cI tk co cn wk n ho st ct sp Z) (some (.int (ct))) (wT h r1 r2 r3 r4 cI tk co cn wk n ho st ct sp Z) 0 0 := by
  refine tcM.of (cc := cX0_counted) (maxL := 1) (ret := (some .int)) (by decide) rfl (Nat.le_of_ble_eq_true rfl) ?_
  intro p e s m args below meth c C0 hr hlk ht hmn hG ls hl
  have hl : lv_has ls 1 [(0, .ref h)] := hl
  obtain ⟨hk1, hk2, hk3, hk4, hn12, hst⟩ := id hk
  have hG0 := hG
  have hS : va_S (tcA N0) s.heap s.heap [] := va_S.rf
  have hF : ∀ w ∈ wsX00, w ∈ wsX0_counted := by decide +kernel
  have w_countedInAll : Cond.fieldLink RX0 32 "TicketCoincidences" "countedInAll" "I" ∈ wsX0_counted := by decide +kernel
  refine lv_aload_n C0.1 C0.2.1 dX0_counted_0 rfl (lv_at hl 0 rfl) ?_
  refine tgX0_countedInAll C0 hF hG w_countedInAll dX0_counted_1 ?_
  exact tc_iret C0 hr hlk hG hS rfl rfl (Nat.le_of_ble_eq_true rfl) (Nat.le_of_ble_eq_true rfl) dX0_counted_4
set_option maxHeartbeats 4000000 in
set_option maxRecDepth 100000 in
theorem kX0_spent {l : Launch} (hlf : l.stackTraces = false) {D : va_G} {cI cJ : ClassId} {N0 : Nat} {h r1 r2 r3 r4 : Nat} {tk co cn wk : Nat → Nat} {n st : Nat} {ho ct sp : Int32} {Z : va_W} (hk : tOk tk co cn wk n st)   : tcM l yX0_spent wsX0_spent { frames := 0, cells := 0, slots := 0, locals := 0 } [] 0 [.ref h] D cI cJ N0 (wT h r1 r2 r3 r4 cI tk co cn wk n ho st ct sp Z) (some (.int (sp))) (wT h r1 r2 r3 r4 cI tk co cn wk n ho st ct sp Z) 0 0 := by
  refine tcM.of (cc := cX0_spent) (maxL := 1) (ret := (some .int)) (by decide) rfl (Nat.le_of_ble_eq_true rfl) ?_
  intro p e s m args below meth c C0 hr hlk ht hmn hG ls hl
  have hl : lv_has ls 1 [(0, .ref h)] := hl
  obtain ⟨hk1, hk2, hk3, hk4, hn12, hst⟩ := id hk
  have hG0 := hG
  have hS : va_S (tcA N0) s.heap s.heap [] := va_S.rf
  have hF : ∀ w ∈ wsX00, w ∈ wsX0_spent := by decide +kernel
  have w_spentInAll : Cond.fieldLink RX0 35 "TicketCoincidences" "spentInAll" "I" ∈ wsX0_spent := by decide +kernel
  refine lv_aload_n C0.1 C0.2.1 dX0_spent_0 rfl (lv_at hl 0 rfl) ?_
  refine tgX0_spentInAll C0 hF hG w_spentInAll dX0_spent_1 ?_
  exact tc_iret C0 hr hlk hG hS rfl rfl (Nat.le_of_ble_eq_true rfl) (Nat.le_of_ble_eq_true rfl) dX0_spent_4
set_option maxHeartbeats 4000000 in
set_option maxRecDepth 100000 in
theorem kX0_ticketOf {l : Launch} (hlf : l.stackTraces = false) {D : va_G} {cI cJ : ClassId} {N0 : Nat} {h r1 r2 r3 r4 : Nat} {tk co cn wk : Nat → Nat} {n st : Nat} {ho ct sp : Int32} {Z : va_W} (hk : tOk tk co cn wk n st) (x : Int32)  : tcM l yX0_ticketOf wsX0_ticketOf { frames := 7, cells := 1, slots := 6, locals := 111 } tcEs (cdS x n) [.ref h, .int (x)] D cI cJ N0 (wT h r1 r2 r3 r4 cI tk co cn wk n ho st ct sp Z) (some (.int (nI (tk (ix x))))) (wT h r1 r2 r3 r4 cI tk co cn wk n ho st ct sp Z) 1 6 := by
  refine tcM.of (cc := cX0_ticketOf) (maxL := 2) (ret := (some .int)) (by decide) rfl (Nat.le_of_ble_eq_true rfl) ?_
  intro p e s m args below meth c C0 hr hlk ht hmn hG ls hl
  have hl : lv_has ls 2 [(0, .ref h), (1, .int (x))] := hl
  obtain ⟨hk1, hk2, hk3, hk4, hn12, hst⟩ := id hk
  have hG0 := hG
  have hS : va_S (tcA N0) s.heap s.heap [] := va_S.rf
  have hF : ∀ w ∈ wsX00, w ∈ wsX0_ticketOf := by decide +kernel
  have w_tickets : Cond.fieldLink RX0 9 "TicketCoincidences" "tickets" "[I" ∈ wsX0_ticketOf := by decide +kernel
  refine lv_aload_n C0.1 C0.2.1 dX0_ticketOf_0 rfl (lv_at hl 0 rfl) ?_
  refine lv_iload_n C0.1 C0.2.1 dX0_ticketOf_1 rfl (lv_at hl 1 rfl) ?_
  refine tc_callVx (q0 := 0) C0 hG hS rfl rfl (kX0_requireStranger hlf hk  (x) ) (cwV 1 C0.2.2.2.2 gX0_ticketOf_X0_requireStranger rfl rfl rfl (by decide +kernel) ⟨(Nat.le_of_ble_eq_true rfl), (Nat.le_of_ble_eq_true rfl)⟩) rfl hl rfl (Nat.le_of_ble_eq_true rfl) dX0_ticketOf_2 ⟨(Nat.le_of_ble_eq_true rfl), (Nat.le_of_ble_eq_true rfl)⟩ (fun i E q9 ce H locs hi hcd hG hS hce hcv hcl => by exact tc_out ht hlk hG hS hce hcv hcl (i := i) hi hcd (Nat.le_of_ble_eq_true rfl) (Nat.le_of_ble_eq_true rfl)) (fun c_2 H locs hG hS => ?_)
  refine W.eq (g2 := F0 m 5 ls []) rfl ?_
  obtain ⟨jx, hjx, rfl⟩ := tcIn_of (by omega) (cdS_0 c_2)
  try simp only [ix_nI (show jx < 2 ^ 31 by omega)]
  refine lv_aload_n C0.1 C0.2.1 dX0_ticketOf_5 rfl (lv_at hl 0 rfl) ?_
  refine tgX0_tickets C0 hF hG w_tickets dX0_ticketOf_6 ?_
  refine lv_iload_n C0.1 C0.2.1 dX0_ticketOf_9 rfl (lv_at hl 1 rfl) ?_
  refine tc_ald (q0 := 1) C0 hG rfl (by omega) dX0_ticketOf_10 ?_
  have b_10 := hk1 (jx)
  exact tc_iret C0 hr hlk hG hS c_2 rfl (Nat.le_of_ble_eq_true rfl) (Nat.le_of_ble_eq_true rfl) dX0_ticketOf_11
set_option maxHeartbeats 4000000 in
set_option maxRecDepth 100000 in
theorem kX0_colourOf {l : Launch} (hlf : l.stackTraces = false) {D : va_G} {cI cJ : ClassId} {N0 : Nat} {h r1 r2 r3 r4 : Nat} {tk co cn wk : Nat → Nat} {n st : Nat} {ho ct sp : Int32} {Z : va_W} (hk : tOk tk co cn wk n st) (x : Int32)  : tcM l yX0_colourOf wsX0_colourOf { frames := 7, cells := 1, slots := 6, locals := 111 } tcEs (cdS x n) [.ref h, .int (x)] D cI cJ N0 (wT h r1 r2 r3 r4 cI tk co cn wk n ho st ct sp Z) (some (.int (nI (co (ix x))))) (wT h r1 r2 r3 r4 cI tk co cn wk n ho st ct sp Z) 1 6 := by
  refine tcM.of (cc := cX0_colourOf) (maxL := 2) (ret := (some .int)) (by decide) rfl (Nat.le_of_ble_eq_true rfl) ?_
  intro p e s m args below meth c C0 hr hlk ht hmn hG ls hl
  have hl : lv_has ls 2 [(0, .ref h), (1, .int (x))] := hl
  obtain ⟨hk1, hk2, hk3, hk4, hn12, hst⟩ := id hk
  have hG0 := hG
  have hS : va_S (tcA N0) s.heap s.heap [] := va_S.rf
  have hF : ∀ w ∈ wsX00, w ∈ wsX0_colourOf := by decide +kernel
  have w_colours : Cond.fieldLink RX0 13 "TicketCoincidences" "colours" "[I" ∈ wsX0_colourOf := by decide +kernel
  refine lv_aload_n C0.1 C0.2.1 dX0_colourOf_0 rfl (lv_at hl 0 rfl) ?_
  refine lv_iload_n C0.1 C0.2.1 dX0_colourOf_1 rfl (lv_at hl 1 rfl) ?_
  refine tc_callVx (q0 := 0) C0 hG hS rfl rfl (kX0_requireStranger hlf hk  (x) ) (cwV 1 C0.2.2.2.2 gX0_colourOf_X0_requireStranger rfl rfl rfl (by decide +kernel) ⟨(Nat.le_of_ble_eq_true rfl), (Nat.le_of_ble_eq_true rfl)⟩) rfl hl rfl (Nat.le_of_ble_eq_true rfl) dX0_colourOf_2 ⟨(Nat.le_of_ble_eq_true rfl), (Nat.le_of_ble_eq_true rfl)⟩ (fun i E q9 ce H locs hi hcd hG hS hce hcv hcl => by exact tc_out ht hlk hG hS hce hcv hcl (i := i) hi hcd (Nat.le_of_ble_eq_true rfl) (Nat.le_of_ble_eq_true rfl)) (fun c_2 H locs hG hS => ?_)
  refine W.eq (g2 := F0 m 5 ls []) rfl ?_
  obtain ⟨jx, hjx, rfl⟩ := tcIn_of (by omega) (cdS_0 c_2)
  try simp only [ix_nI (show jx < 2 ^ 31 by omega)]
  refine lv_aload_n C0.1 C0.2.1 dX0_colourOf_5 rfl (lv_at hl 0 rfl) ?_
  refine tgX0_colours C0 hF hG w_colours dX0_colourOf_6 ?_
  refine lv_iload_n C0.1 C0.2.1 dX0_colourOf_9 rfl (lv_at hl 1 rfl) ?_
  refine tc_ald (q0 := 2) C0 hG rfl (by omega) dX0_colourOf_10 ?_
  have b_10 := hk2 (jx)
  exact tc_iret C0 hr hlk hG hS c_2 rfl (Nat.le_of_ble_eq_true rfl) (Nat.le_of_ble_eq_true rfl) dX0_colourOf_11
set_option maxHeartbeats 4000000 in
set_option maxRecDepth 100000 in
theorem kX0_cornerOf {l : Launch} (hlf : l.stackTraces = false) {D : va_G} {cI cJ : ClassId} {N0 : Nat} {h r1 r2 r3 r4 : Nat} {tk co cn wk : Nat → Nat} {n st : Nat} {ho ct sp : Int32} {Z : va_W} (hk : tOk tk co cn wk n st) (x : Int32)  : tcM l yX0_cornerOf wsX0_cornerOf { frames := 7, cells := 1, slots := 6, locals := 111 } tcEs (cdS x n) [.ref h, .int (x)] D cI cJ N0 (wT h r1 r2 r3 r4 cI tk co cn wk n ho st ct sp Z) (some (.int (nI (cn (ix x))))) (wT h r1 r2 r3 r4 cI tk co cn wk n ho st ct sp Z) 1 6 := by
  refine tcM.of (cc := cX0_cornerOf) (maxL := 2) (ret := (some .int)) (by decide) rfl (Nat.le_of_ble_eq_true rfl) ?_
  intro p e s m args below meth c C0 hr hlk ht hmn hG ls hl
  have hl : lv_has ls 2 [(0, .ref h), (1, .int (x))] := hl
  obtain ⟨hk1, hk2, hk3, hk4, hn12, hst⟩ := id hk
  have hG0 := hG
  have hS : va_S (tcA N0) s.heap s.heap [] := va_S.rf
  have hF : ∀ w ∈ wsX00, w ∈ wsX0_cornerOf := by decide +kernel
  have w_corners : Cond.fieldLink RX0 16 "TicketCoincidences" "corners" "[I" ∈ wsX0_cornerOf := by decide +kernel
  refine lv_aload_n C0.1 C0.2.1 dX0_cornerOf_0 rfl (lv_at hl 0 rfl) ?_
  refine lv_iload_n C0.1 C0.2.1 dX0_cornerOf_1 rfl (lv_at hl 1 rfl) ?_
  refine tc_callVx (q0 := 0) C0 hG hS rfl rfl (kX0_requireStranger hlf hk  (x) ) (cwV 1 C0.2.2.2.2 gX0_cornerOf_X0_requireStranger rfl rfl rfl (by decide +kernel) ⟨(Nat.le_of_ble_eq_true rfl), (Nat.le_of_ble_eq_true rfl)⟩) rfl hl rfl (Nat.le_of_ble_eq_true rfl) dX0_cornerOf_2 ⟨(Nat.le_of_ble_eq_true rfl), (Nat.le_of_ble_eq_true rfl)⟩ (fun i E q9 ce H locs hi hcd hG hS hce hcv hcl => by exact tc_out ht hlk hG hS hce hcv hcl (i := i) hi hcd (Nat.le_of_ble_eq_true rfl) (Nat.le_of_ble_eq_true rfl)) (fun c_2 H locs hG hS => ?_)
  refine W.eq (g2 := F0 m 5 ls []) rfl ?_
  obtain ⟨jx, hjx, rfl⟩ := tcIn_of (by omega) (cdS_0 c_2)
  try simp only [ix_nI (show jx < 2 ^ 31 by omega)]
  refine lv_aload_n C0.1 C0.2.1 dX0_cornerOf_5 rfl (lv_at hl 0 rfl) ?_
  refine tgX0_corners C0 hF hG w_corners dX0_cornerOf_6 ?_
  refine lv_iload_n C0.1 C0.2.1 dX0_cornerOf_9 rfl (lv_at hl 1 rfl) ?_
  refine tc_ald (q0 := 3) C0 hG rfl (by omega) dX0_cornerOf_10 ?_
  have b_10 := hk3 (jx)
  exact tc_iret C0 hr hlk hG hS c_2 rfl (Nat.le_of_ble_eq_true rfl) (Nat.le_of_ble_eq_true rfl) dX0_cornerOf_11
set_option maxHeartbeats 4000000 in
set_option maxRecDepth 100000 in
theorem kX0_walkOf {l : Launch} (hlf : l.stackTraces = false) {D : va_G} {cI cJ : ClassId} {N0 : Nat} {h r1 r2 r3 r4 : Nat} {tk co cn wk : Nat → Nat} {n st : Nat} {ho ct sp : Int32} {Z : va_W} (hk : tOk tk co cn wk n st) (x : Int32)  : tcM l yX0_walkOf wsX0_walkOf { frames := 7, cells := 1, slots := 6, locals := 111 } tcEs (cdS x n) [.ref h, .int (x)] D cI cJ N0 (wT h r1 r2 r3 r4 cI tk co cn wk n ho st ct sp Z) (some (.int (nI (wk (ix x))))) (wT h r1 r2 r3 r4 cI tk co cn wk n ho st ct sp Z) 1 6 := by
  refine tcM.of (cc := cX0_walkOf) (maxL := 2) (ret := (some .int)) (by decide) rfl (Nat.le_of_ble_eq_true rfl) ?_
  intro p e s m args below meth c C0 hr hlk ht hmn hG ls hl
  have hl : lv_has ls 2 [(0, .ref h), (1, .int (x))] := hl
  obtain ⟨hk1, hk2, hk3, hk4, hn12, hst⟩ := id hk
  have hG0 := hG
  have hS : va_S (tcA N0) s.heap s.heap [] := va_S.rf
  have hF : ∀ w ∈ wsX00, w ∈ wsX0_walkOf := by decide +kernel
  have w_walks : Cond.fieldLink RX0 19 "TicketCoincidences" "walks" "[I" ∈ wsX0_walkOf := by decide +kernel
  refine lv_aload_n C0.1 C0.2.1 dX0_walkOf_0 rfl (lv_at hl 0 rfl) ?_
  refine lv_iload_n C0.1 C0.2.1 dX0_walkOf_1 rfl (lv_at hl 1 rfl) ?_
  refine tc_callVx (q0 := 0) C0 hG hS rfl rfl (kX0_requireStranger hlf hk  (x) ) (cwV 1 C0.2.2.2.2 gX0_walkOf_X0_requireStranger rfl rfl rfl (by decide +kernel) ⟨(Nat.le_of_ble_eq_true rfl), (Nat.le_of_ble_eq_true rfl)⟩) rfl hl rfl (Nat.le_of_ble_eq_true rfl) dX0_walkOf_2 ⟨(Nat.le_of_ble_eq_true rfl), (Nat.le_of_ble_eq_true rfl)⟩ (fun i E q9 ce H locs hi hcd hG hS hce hcv hcl => by exact tc_out ht hlk hG hS hce hcv hcl (i := i) hi hcd (Nat.le_of_ble_eq_true rfl) (Nat.le_of_ble_eq_true rfl)) (fun c_2 H locs hG hS => ?_)
  refine W.eq (g2 := F0 m 5 ls []) rfl ?_
  obtain ⟨jx, hjx, rfl⟩ := tcIn_of (by omega) (cdS_0 c_2)
  try simp only [ix_nI (show jx < 2 ^ 31 by omega)]
  refine lv_aload_n C0.1 C0.2.1 dX0_walkOf_5 rfl (lv_at hl 0 rfl) ?_
  refine tgX0_walks C0 hF hG w_walks dX0_walkOf_6 ?_
  refine lv_iload_n C0.1 C0.2.1 dX0_walkOf_9 rfl (lv_at hl 1 rfl) ?_
  refine tc_ald (q0 := 4) C0 hG rfl (by omega) dX0_walkOf_10 ?_
  have b_10 := hk4 (jx)
  exact tc_iret C0 hr hlk hG hS c_2 rfl (Nat.le_of_ble_eq_true rfl) (Nat.le_of_ble_eq_true rfl) dX0_walkOf_11
set_option maxHeartbeats 4000000 in
set_option maxRecDepth 100000 in
theorem kX0_peopleAt {l : Launch} (hlf : l.stackTraces = false) {D : va_G} {cI cJ : ClassId} {N0 : Nat} {h r1 r2 r3 r4 : Nat} {tk co cn wk : Nat → Nat} {n st : Nat} {ho ct sp : Int32} {Z : va_W} (hk : tOk tk co cn wk n st) (x : Int32)  : tcM l yX0_peopleAt wsX0_peopleAt { frames := 7, cells := 1, slots := 6, locals := 110 } tcEs (cdS x 6) [.ref h, .int (x)] D cI cJ N0 (wT h r1 r2 r3 r4 cI tk co cn wk n ho st ct sp Z) (some (.int (nI (crowd cn (ix x) n)))) (wT h r1 r2 r3 r4 cI tk co cn wk n ho st ct sp Z) 1 6 := by
  refine tcM.of (cc := cX0_peopleAt) (maxL := 2) (ret := (some .int)) (by decide) rfl (Nat.le_of_ble_eq_true rfl) ?_
  intro p e s m args below meth c C0 hr hlk ht hmn hG ls hl
  have hl : lv_has ls 2 [(0, .ref h), (1, .int (x))] := hl
  obtain ⟨hk1, hk2, hk3, hk4, hn12, hst⟩ := id hk
  have hG0 := hG
  have hS : va_S (tcA N0) s.heap s.heap [] := va_S.rf
  refine lv_iload_n C0.1 C0.2.1 dX0_peopleAt_0 rfl (lv_at hl 1 rfl) ?_
  refine tc_callSx C0 hG hS (kX0_requireCorner hlf  (x) ) (va_cwS 1 C0.2.2.2.2 gX0_peopleAt_X0_requireCorner rfl rfl rfl (by decide +kernel) ⟨(Nat.le_of_ble_eq_true rfl), (Nat.le_of_ble_eq_true rfl)⟩) rfl hl rfl (Nat.le_of_ble_eq_true rfl) dX0_peopleAt_1 ⟨(Nat.le_of_ble_eq_true rfl), (Nat.le_of_ble_eq_true rfl)⟩ (fun i E q9 ce H locs hi hcd hG hS hce hcv hcl => by exact tc_out ht hlk hG hS hce hcv hcl (i := i) hi hcd (Nat.le_of_ble_eq_true rfl) (Nat.le_of_ble_eq_true rfl)) (fun c_1 H locs hG hS => ?_)
  refine W.eq (g2 := F0 m 4 ls []) rfl ?_
  obtain ⟨jx, hjx, rfl⟩ := tcIn_of (by omega) (cdS_0 c_1)
  try simp only [ix_nI (show jx < 2 ^ 31 by omega)]
  refine lv_aload_n C0.1 C0.2.1 dX0_peopleAt_4 rfl (lv_at hl 0 rfl) ?_
  refine lv_iload_n C0.1 C0.2.1 dX0_peopleAt_5 rfl (lv_at hl 1 rfl) ?_
  refine tc_callV (q0 := 0) C0 hG hS rfl rfl (kX0_crowdAt hlf hk  (jx) (by omega)) (cwV 1 C0.2.2.2.2 gX0_peopleAt_X0_crowdAt rfl rfl rfl (by decide +kernel) ⟨(Nat.le_of_ble_eq_true rfl), (Nat.le_of_ble_eq_true rfl)⟩) rfl hl rfl (Nat.le_of_ble_eq_true rfl) dX0_peopleAt_6 ⟨(Nat.le_of_ble_eq_true rfl), (Nat.le_of_ble_eq_true rfl)⟩ (fun H locs hG hS => ?_)
  have b_6 := crowd_le cn jx hk.2.2.2.2.1
  exact tc_iret C0 hr hlk hG hS c_1 rfl (Nat.le_of_ble_eq_true rfl) (Nat.le_of_ble_eq_true rfl) dX0_peopleAt_9
set_option maxHeartbeats 4000000 in
set_option maxRecDepth 100000 in
theorem kX0_pointsOf {l : Launch} (hlf : l.stackTraces = false) {D : va_G} {cI cJ : ClassId} {N0 : Nat} {h r1 r2 r3 r4 : Nat} {tk co cn wk : Nat → Nat} {n st : Nat} {ho ct sp : Int32} {Z : va_W} (hk : tOk tk co cn wk n st) (x : Int32) (y : Int32)  : tcM l yX0_pointsOf wsX0_pointsOf { frames := 8, cells := 3, slots := 18, locals := 133 } tcEs (cdP x y n) [.ref h, .int (x), .int (y)] D cI cJ N0 (wT h r1 r2 r3 r4 cI tk co cn wk n ho st ct sp Z) (some (.int (nI (pts tk co (ix x) (ix y))))) (wT h r1 r2 r3 r4 cI tk co cn wk n ho st ct sp Z) 3 18 := by
  refine tcM.of (cc := cX0_pointsOf) (maxL := 3) (ret := (some .int)) (by decide) rfl (Nat.le_of_ble_eq_true rfl) ?_
  intro p e s m args below meth c C0 hr hlk ht hmn hG ls hl
  have hl : lv_has ls 3 [(0, .ref h), (1, .int (x)), (2, .int (y))] := hl
  obtain ⟨hk1, hk2, hk3, hk4, hn12, hst⟩ := id hk
  have hG0 := hG
  have hS : va_S (tcA N0) s.heap s.heap [] := va_S.rf
  refine lv_aload_n C0.1 C0.2.1 dX0_pointsOf_0 rfl (lv_at hl 0 rfl) ?_
  refine lv_iload_n C0.1 C0.2.1 dX0_pointsOf_1 rfl (lv_at hl 1 rfl) ?_
  refine lv_iload_n C0.1 C0.2.1 dX0_pointsOf_2 rfl (lv_at hl 2 rfl) ?_
  refine tc_callVx (q0 := 0) C0 hG hS rfl rfl (kX0_requirePair hlf hk  (x) (y) ) (cwV 2 C0.2.2.2.2 gX0_pointsOf_X0_requirePair rfl rfl rfl (by decide +kernel) ⟨(Nat.le_of_ble_eq_true rfl), (Nat.le_of_ble_eq_true rfl)⟩) rfl hl rfl (Nat.le_of_ble_eq_true rfl) dX0_pointsOf_3 ⟨(Nat.le_of_ble_eq_true rfl), (Nat.le_of_ble_eq_true rfl)⟩ (fun i E q9 ce H locs hi hcd hG hS hce hcv hcl => by exact tc_out ht hlk hG hS hce hcv hcl (i := i) hi hcd (Nat.le_of_ble_eq_true rfl) (Nat.le_of_ble_eq_true rfl)) (fun c_3 H locs hG hS => ?_)
  refine W.eq (g2 := F0 m 6 ls []) rfl ?_
  obtain ⟨pa, pb, pn⟩ := cdP_ok c_3
  obtain ⟨jx, hjx, rfl⟩ := tcIn_of (by omega) pa
  try simp only [ix_nI (show jx < 2 ^ 31 by omega)]
  obtain ⟨jy, hjy, rfl⟩ := tcIn_of (by omega) pb
  try simp only [ix_nI (show jy < 2 ^ 31 by omega)]
  refine lv_aload_n C0.1 C0.2.1 dX0_pointsOf_6 rfl (lv_at hl 0 rfl) ?_
  refine lv_iload_n C0.1 C0.2.1 dX0_pointsOf_7 rfl (lv_at hl 1 rfl) ?_
  refine lv_iload_n C0.1 C0.2.1 dX0_pointsOf_8 rfl (lv_at hl 2 rfl) ?_
  refine tc_callV (q0 := 0) C0 hG hS rfl rfl (kX0_pointsOfPair hlf hk  (jx) (jy) (by omega) (by omega)) (cwV 2 C0.2.2.2.2 gX0_pointsOf_X0_pointsOfPair rfl rfl rfl (by decide +kernel) ⟨(Nat.le_of_ble_eq_true rfl), (Nat.le_of_ble_eq_true rfl)⟩) rfl hl rfl (Nat.le_of_ble_eq_true rfl) dX0_pointsOf_9 ⟨(Nat.le_of_ble_eq_true rfl), (Nat.le_of_ble_eq_true rfl)⟩ (fun H locs hG hS => ?_)
  have b_9 := pts_le tk co jx jy
  exact tc_iret C0 hr hlk hG hS c_3 rfl (Nat.le_of_ble_eq_true rfl) (Nat.le_of_ble_eq_true rfl) dX0_pointsOf_12
set_option maxHeartbeats 4000000 in
set_option maxRecDepth 100000 in
theorem kX0_areTogether {l : Launch} (hlf : l.stackTraces = false) {D : va_G} {cI cJ : ClassId} {N0 : Nat} {h r1 r2 r3 r4 : Nat} {tk co cn wk : Nat → Nat} {n st : Nat} {ho ct sp : Int32} {Z : va_W} (hk : tOk tk co cn wk n st) (x : Int32) (y : Int32)  : tcM l yX0_areTogether wsX0_areTogether { frames := 8, cells := 3, slots := 18, locals := 133 } tcEs (cdP x y n) [.ref h, .int (x), .int (y)] D cI cJ N0 (wT h r1 r2 r3 r4 cI tk co cn wk n ho st ct sp Z) (some (.int (nI (b2n (decide (cn (ix x) = cn (ix y))))))) (wT h r1 r2 r3 r4 cI tk co cn wk n ho st ct sp Z) 3 18 := by
  refine tcM.of (cc := cX0_areTogether) (maxL := 3) (ret := (some .boolean)) (by decide) rfl (Nat.le_of_ble_eq_true rfl) ?_
  intro p e s m args below meth c C0 hr hlk ht hmn hG ls hl
  have hl : lv_has ls 3 [(0, .ref h), (1, .int (x)), (2, .int (y))] := hl
  obtain ⟨hk1, hk2, hk3, hk4, hn12, hst⟩ := id hk
  have hG0 := hG
  have hS : va_S (tcA N0) s.heap s.heap [] := va_S.rf
  have hF : ∀ w ∈ wsX00, w ∈ wsX0_areTogether := by decide +kernel
  have w_corners : Cond.fieldLink RX0 16 "TicketCoincidences" "corners" "[I" ∈ wsX0_areTogether := by decide +kernel
  refine lv_aload_n C0.1 C0.2.1 dX0_areTogether_0 rfl (lv_at hl 0 rfl) ?_
  refine lv_iload_n C0.1 C0.2.1 dX0_areTogether_1 rfl (lv_at hl 1 rfl) ?_
  refine lv_iload_n C0.1 C0.2.1 dX0_areTogether_2 rfl (lv_at hl 2 rfl) ?_
  refine tc_callVx (q0 := 0) C0 hG hS rfl rfl (kX0_requirePair hlf hk  (x) (y) ) (cwV 2 C0.2.2.2.2 gX0_areTogether_X0_requirePair rfl rfl rfl (by decide +kernel) ⟨(Nat.le_of_ble_eq_true rfl), (Nat.le_of_ble_eq_true rfl)⟩) rfl hl rfl (Nat.le_of_ble_eq_true rfl) dX0_areTogether_3 ⟨(Nat.le_of_ble_eq_true rfl), (Nat.le_of_ble_eq_true rfl)⟩ (fun i E q9 ce H locs hi hcd hG hS hce hcv hcl => by exact tc_out ht hlk hG hS hce hcv hcl (i := i) hi hcd (Nat.le_of_ble_eq_true rfl) (Nat.le_of_ble_eq_true rfl)) (fun c_3 H locs hG hS => ?_)
  refine W.eq (g2 := F0 m 6 ls []) rfl ?_
  obtain ⟨pa, pb, pn⟩ := cdP_ok c_3
  obtain ⟨jx, hjx, rfl⟩ := tcIn_of (by omega) pa
  try simp only [ix_nI (show jx < 2 ^ 31 by omega)]
  obtain ⟨jy, hjy, rfl⟩ := tcIn_of (by omega) pb
  try simp only [ix_nI (show jy < 2 ^ 31 by omega)]
  refine lv_aload_n C0.1 C0.2.1 dX0_areTogether_6 rfl (lv_at hl 0 rfl) ?_
  refine tgX0_corners C0 hF hG w_corners dX0_areTogether_7 ?_
  refine lv_iload_n C0.1 C0.2.1 dX0_areTogether_10 rfl (lv_at hl 1 rfl) ?_
  refine tc_ald (q0 := 3) C0 hG rfl (by omega) dX0_areTogether_11 ?_
  have b_11 := hk3 (jx)
  refine lv_aload_n C0.1 C0.2.1 dX0_areTogether_12 rfl (lv_at hl 0 rfl) ?_
  refine tgX0_corners C0 hF hG w_corners dX0_areTogether_13 ?_
  refine lv_iload_n C0.1 C0.2.1 dX0_areTogether_16 rfl (lv_at hl 2 rfl) ?_
  refine tc_ald (q0 := 3) C0 hG rfl (by omega) dX0_areTogether_17 ?_
  have b_17 := hk3 (jy)
  refine tn_icmp_ne (tgt := 25) C0.1 C0.2.1 dX0_areTogether_18 (by decide) (by omega) (by omega) (fun c_18 => ?_) (fun c_18 => ?_)
  · refine lv_iconst (v := nI 0) C0.1 C0.2.1 dX0_areTogether_25 (by decide) ?_
    exact tc_zret C0 hr hlk hG hS c_3 (by first | (rw [decide_eq_true c_18]; rfl) | (rw [decide_eq_false c_18]; rfl)) (Nat.le_of_ble_eq_true rfl) (Nat.le_of_ble_eq_true rfl) dX0_areTogether_26
  · refine lv_iconst (v := nI 1) C0.1 C0.2.1 dX0_areTogether_21 (by decide) ?_
    refine lv_goto (tgt := 26) C0.1 C0.2.1 dX0_areTogether_22 (by decide) ?_
    exact tc_zret C0 hr hlk hG hS c_3 (by first | (rw [decide_eq_true c_18]; rfl) | (rw [decide_eq_false c_18]; rfl)) (Nat.le_of_ble_eq_true rfl) (Nat.le_of_ble_eq_true rfl) dX0_areTogether_26
set_option maxHeartbeats 4000000 in
set_option maxRecDepth 100000 in
theorem kX0_areMirrored {l : Launch} (hlf : l.stackTraces = false) {D : va_G} {cI cJ : ClassId} {N0 : Nat} {h r1 r2 r3 r4 : Nat} {tk co cn wk : Nat → Nat} {n st : Nat} {ho ct sp : Int32} {Z : va_W} (hk : tOk tk co cn wk n st) (x : Int32) (y : Int32)  : tcM l yX0_areMirrored wsX0_areMirrored { frames := 8, cells := 3, slots := 18, locals := 133 } tcEs (cdP x y n) [.ref h, .int (x), .int (y)] D cI cJ N0 (wT h r1 r2 r3 r4 cI tk co cn wk n ho st ct sp Z) (some (.int (nI (b2n (mir (tk (ix x)) (tk (ix y))))))) (wT h r1 r2 r3 r4 cI tk co cn wk n ho st ct sp Z) 3 18 := by
  refine tcM.of (cc := cX0_areMirrored) (maxL := 3) (ret := (some .boolean)) (by decide) rfl (Nat.le_of_ble_eq_true rfl) ?_
  intro p e s m args below meth c C0 hr hlk ht hmn hG ls hl
  have hl : lv_has ls 3 [(0, .ref h), (1, .int (x)), (2, .int (y))] := hl
  obtain ⟨hk1, hk2, hk3, hk4, hn12, hst⟩ := id hk
  have hG0 := hG
  have hS : va_S (tcA N0) s.heap s.heap [] := va_S.rf
  have hF : ∀ w ∈ wsX00, w ∈ wsX0_areMirrored := by decide +kernel
  have w_tickets : Cond.fieldLink RX0 9 "TicketCoincidences" "tickets" "[I" ∈ wsX0_areMirrored := by decide +kernel
  refine lv_aload_n C0.1 C0.2.1 dX0_areMirrored_0 rfl (lv_at hl 0 rfl) ?_
  refine lv_iload_n C0.1 C0.2.1 dX0_areMirrored_1 rfl (lv_at hl 1 rfl) ?_
  refine lv_iload_n C0.1 C0.2.1 dX0_areMirrored_2 rfl (lv_at hl 2 rfl) ?_
  refine tc_callVx (q0 := 0) C0 hG hS rfl rfl (kX0_requirePair hlf hk  (x) (y) ) (cwV 2 C0.2.2.2.2 gX0_areMirrored_X0_requirePair rfl rfl rfl (by decide +kernel) ⟨(Nat.le_of_ble_eq_true rfl), (Nat.le_of_ble_eq_true rfl)⟩) rfl hl rfl (Nat.le_of_ble_eq_true rfl) dX0_areMirrored_3 ⟨(Nat.le_of_ble_eq_true rfl), (Nat.le_of_ble_eq_true rfl)⟩ (fun i E q9 ce H locs hi hcd hG hS hce hcv hcl => by exact tc_out ht hlk hG hS hce hcv hcl (i := i) hi hcd (Nat.le_of_ble_eq_true rfl) (Nat.le_of_ble_eq_true rfl)) (fun c_3 H locs hG hS => ?_)
  refine W.eq (g2 := F0 m 6 ls []) rfl ?_
  obtain ⟨pa, pb, pn⟩ := cdP_ok c_3
  obtain ⟨jx, hjx, rfl⟩ := tcIn_of (by omega) pa
  try simp only [ix_nI (show jx < 2 ^ 31 by omega)]
  obtain ⟨jy, hjy, rfl⟩ := tcIn_of (by omega) pb
  try simp only [ix_nI (show jy < 2 ^ 31 by omega)]
  refine lv_aload_n C0.1 C0.2.1 dX0_areMirrored_6 rfl (lv_at hl 0 rfl) ?_
  refine tgX0_tickets C0 hF hG w_tickets dX0_areMirrored_7 ?_
  refine lv_iload_n C0.1 C0.2.1 dX0_areMirrored_10 rfl (lv_at hl 1 rfl) ?_
  refine tc_ald (q0 := 1) C0 hG rfl (by omega) dX0_areMirrored_11 ?_
  have b_11 := hk1 (jx)
  refine lv_aload_n C0.1 C0.2.1 dX0_areMirrored_12 rfl (lv_at hl 0 rfl) ?_
  refine tgX0_tickets C0 hF hG w_tickets dX0_areMirrored_13 ?_
  refine lv_iload_n C0.1 C0.2.1 dX0_areMirrored_16 rfl (lv_at hl 2 rfl) ?_
  refine tc_ald (q0 := 1) C0 hG rfl (by omega) dX0_areMirrored_17 ?_
  have b_17 := hk1 (jy)
  refine tc_callS C0 hG hS (kX0_mirrored hlf  (tk (jx)) (tk (jy)) (by omega) (by omega)) (va_cwS 2 C0.2.2.2.2 gX0_areMirrored_X0_mirrored rfl rfl rfl (by decide +kernel) ⟨(Nat.le_of_ble_eq_true rfl), (Nat.le_of_ble_eq_true rfl)⟩) rfl hl rfl (Nat.le_of_ble_eq_true rfl) dX0_areMirrored_18 ⟨(Nat.le_of_ble_eq_true rfl), (Nat.le_of_ble_eq_true rfl)⟩ (fun H locs hG hS => ?_)
  exact tc_zret C0 hr hlk hG hS c_3 rfl (Nat.le_of_ble_eq_true rfl) (Nat.le_of_ble_eq_true rfl) dX0_areMirrored_21
set_option maxHeartbeats 4000000 in
set_option maxRecDepth 100000 in
theorem kX0_coincidences {l : Launch} (hlf : l.stackTraces = false) {D : va_G} {cI cJ : ClassId} {N0 : Nat} {h r1 r2 r3 r4 : Nat} {tk co cn wk : Nat → Nat} {n st : Nat} {ho ct sp : Int32} {Z : va_W} (hk : tOk tk co cn wk n st)   : tcM l yX0_coincidences wsX0_coincidences { frames := 4, cells := 0, slots := 0, locals := 89 } [] 0 [.ref h] D cI cJ N0 (wT h r1 r2 r3 r4 cI tk co cn wk n ho st ct sp Z) (some (.int (nI (tw tk co cn wk 0 n)))) (wT h r1 r2 r3 r4 cI tk co cn wk n ho st ct sp Z) 0 0 := by
  refine tcM.of (cc := cX0_coincidences) (maxL := 1) (ret := (some .int)) (by decide) rfl (Nat.le_of_ble_eq_true rfl) ?_
  intro p e s m args below meth c C0 hr hlk ht hmn hG ls hl
  have hl : lv_has ls 1 [(0, .ref h)] := hl
  obtain ⟨hk1, hk2, hk3, hk4, hn12, hst⟩ := id hk
  have hG0 := hG
  have hS : va_S (tcA N0) s.heap s.heap [] := va_S.rf
  refine lv_aload_n C0.1 C0.2.1 dX0_coincidences_0 rfl (lv_at hl 0 rfl) ?_
  refine lv_iconst (v := nI 0) C0.1 C0.2.1 dX0_coincidences_1 (by decide) ?_
  refine tc_callV (q0 := 0) C0 hG hS rfl rfl (kX0_townBehind hlf hk  (0) (by omega)) (cwV 1 C0.2.2.2.2 gX0_coincidences_X0_townBehind rfl rfl rfl (by decide +kernel) ⟨(Nat.le_of_ble_eq_true rfl), (Nat.le_of_ble_eq_true rfl)⟩) rfl hl rfl (Nat.le_of_ble_eq_true rfl) dX0_coincidences_2 ⟨(Nat.le_of_ble_eq_true rfl), (Nat.le_of_ble_eq_true rfl)⟩ (fun H locs hG hS => ?_)
  have b_2 := tw_le tk co cn wk 0 hk.2.2.2.2.1
  exact tc_iret C0 hr hlk hG hS rfl rfl (Nat.le_of_ble_eq_true rfl) (Nat.le_of_ble_eq_true rfl) dX0_coincidences_5
set_option maxHeartbeats 4000000 in
set_option maxRecDepth 100000 in
theorem kX0_luckOf {l : Launch} (hlf : l.stackTraces = false) {D : va_G} {cI cJ : ClassId} {N0 : Nat} {h r1 r2 r3 r4 : Nat} {tk co cn wk : Nat → Nat} {n st : Nat} {ho ct sp : Int32} {Z : va_W} (hk : tOk tk co cn wk n st) (x : Int32)  : tcM l yX0_luckOf wsX0_luckOf { frames := 7, cells := 1, slots := 6, locals := 111 } tcEs (cdS x n) [.ref h, .int (x)] D cI cJ N0 (wT h r1 r2 r3 r4 cI tk co cn wk n ho st ct sp Z) (some (.int (nI (lkn tk co cn (ix x) n)))) (wT h r1 r2 r3 r4 cI tk co cn wk n ho st ct sp Z) 1 6 := by
  refine tcM.of (cc := cX0_luckOf) (maxL := 2) (ret := (some .int)) (by decide) rfl (Nat.le_of_ble_eq_true rfl) ?_
  intro p e s m args below meth c C0 hr hlk ht hmn hG ls hl
  have hl : lv_has ls 2 [(0, .ref h), (1, .int (x))] := hl
  obtain ⟨hk1, hk2, hk3, hk4, hn12, hst⟩ := id hk
  have hG0 := hG
  have hS : va_S (tcA N0) s.heap s.heap [] := va_S.rf
  refine lv_aload_n C0.1 C0.2.1 dX0_luckOf_0 rfl (lv_at hl 0 rfl) ?_
  refine lv_iload_n C0.1 C0.2.1 dX0_luckOf_1 rfl (lv_at hl 1 rfl) ?_
  refine tc_callVx (q0 := 0) C0 hG hS rfl rfl (kX0_requireStranger hlf hk  (x) ) (cwV 1 C0.2.2.2.2 gX0_luckOf_X0_requireStranger rfl rfl rfl (by decide +kernel) ⟨(Nat.le_of_ble_eq_true rfl), (Nat.le_of_ble_eq_true rfl)⟩) rfl hl rfl (Nat.le_of_ble_eq_true rfl) dX0_luckOf_2 ⟨(Nat.le_of_ble_eq_true rfl), (Nat.le_of_ble_eq_true rfl)⟩ (fun i E q9 ce H locs hi hcd hG hS hce hcv hcl => by exact tc_out ht hlk hG hS hce hcv hcl (i := i) hi hcd (Nat.le_of_ble_eq_true rfl) (Nat.le_of_ble_eq_true rfl)) (fun c_2 H locs hG hS => ?_)
  refine W.eq (g2 := F0 m 5 ls []) rfl ?_
  obtain ⟨jx, hjx, rfl⟩ := tcIn_of (by omega) (cdS_0 c_2)
  try simp only [ix_nI (show jx < 2 ^ 31 by omega)]
  refine lv_aload_n C0.1 C0.2.1 dX0_luckOf_5 rfl (lv_at hl 0 rfl) ?_
  refine lv_iload_n C0.1 C0.2.1 dX0_luckOf_6 rfl (lv_at hl 1 rfl) ?_
  refine tc_callV (q0 := 0) C0 hG hS rfl rfl (kX0_luckNow hlf hk  (jx) (by omega)) (cwV 1 C0.2.2.2.2 gX0_luckOf_X0_luckNow rfl rfl rfl (by decide +kernel) ⟨(Nat.le_of_ble_eq_true rfl), (Nat.le_of_ble_eq_true rfl)⟩) rfl hl rfl (Nat.le_of_ble_eq_true rfl) dX0_luckOf_7 ⟨(Nat.le_of_ble_eq_true rfl), (Nat.le_of_ble_eq_true rfl)⟩ (fun H locs hG hS => ?_)
  have b_7 := (show lkn tk co cn jx n ≤ 156 from lw_le tk co cn jx (tk jx) (cn jx) hk.2.2.2.2.1)
  exact tc_iret C0 hr hlk hG hS c_2 rfl (Nat.le_of_ble_eq_true rfl) (Nat.le_of_ble_eq_true rfl) dX0_luckOf_10
set_option maxHeartbeats 4000000 in
set_option maxRecDepth 100000 in
theorem kX0_coincidencesIn {l : Launch} (hlf : l.stackTraces = false) {D : va_G} {cI cJ : ClassId} {N0 : Nat} {h r1 r2 r3 r4 : Nat} {tk co cn wk : Nat → Nat} {n st : Nat} {ho ct sp : Int32} {Z : va_W} (hk : tOk tk co cn wk n st) (x : Int32)  : tcM l yX0_coincidencesIn wsX0_coincidencesIn { frames := 6, cells := 1, slots := 6, locals := 90 } tcEa (cdS x 61) [.ref h, .int (x)] D cI cJ N0 (wT h r1 r2 r3 r4 cI tk co cn wk n ho st ct sp Z) (some (.int (nI (tw tk co cn wk (ix x) n)))) (wT h r1 r2 r3 r4 cI tk co cn wk n ho st ct sp Z) 1 6 := by
  refine tcM.of (cc := cX0_coincidencesIn) (maxL := 2) (ret := (some .int)) (by decide) rfl (Nat.le_of_ble_eq_true rfl) ?_
  intro p e s m args below meth c C0 hr hlk ht hmn hG ls hl
  have hl : lv_has ls 2 [(0, .ref h), (1, .int (x))] := hl
  obtain ⟨hk1, hk2, hk3, hk4, hn12, hst⟩ := id hk
  have hG0 := hG
  have hS : va_S (tcA N0) s.heap s.heap [] := va_S.rf
  refine lv_iload_n C0.1 C0.2.1 dX0_coincidencesIn_0 rfl (lv_at hl 1 rfl) ?_
  refine lv_if_lt (tgt := 10) C0.1 C0.2.1 dX0_coincidencesIn_1 (by decide) (fun c_1 => ?_) (fun c_1 => ?_)
  · exact tc_thr (is := 117) (text := "hours are 0 to 60") (cls := "java/lang/IllegalArgumentException") (ic := 55) (i := 0) C0 hlf ht hlk hG0 hG hS hl (by decide +kernel) (by decide +kernel) (by decide +kernel) (by decide +kernel) (by decide +kernel) (by decide +kernel) dX0_coincidencesIn_10 dX0_coincidencesIn_13 dX0_coincidencesIn_14 dX0_coincidencesIn_16 dX0_coincidencesIn_19 (Nat.le_of_ble_eq_true rfl) (Nat.le_of_ble_eq_true rfl) ⟨(Nat.le_of_ble_eq_true rfl), (Nat.le_of_ble_eq_true rfl)⟩ rfl (by first | exact cdS_n (tcIn_lo c_1) | exact cdS_n (tcIn_hi' (n := 60) (by decide) (Int32.not_le.mp c_7))) (Nat.le_of_ble_eq_true rfl) (Nat.le_of_ble_eq_true rfl)
  · refine lv_iload_n C0.1 C0.2.1 dX0_coincidencesIn_4 rfl (lv_at hl 1 rfl) ?_
    refine lv_bipush (v := nI 60) C0.1 C0.2.1 dX0_coincidencesIn_5 (by decide) ?_
    refine lv_icmp_le (tgt := 20) C0.1 C0.2.1 dX0_coincidencesIn_7 (by decide) (fun c_7 => ?_) (fun c_7 => ?_)
    · have hcd0 := cdS_y (tcIn_yes' (n := 60) (by decide) c_1 (Int32.not_lt.mpr c_7))
      obtain ⟨jx, hjx, rfl⟩ := tcIn_of (by decide) (cdS_0 hcd0)
      try simp only [ix_nI (show jx < 2 ^ 31 by omega)]
      refine lv_aload_n C0.1 C0.2.1 dX0_coincidencesIn_20 rfl (lv_at hl 0 rfl) ?_
      refine lv_iload_n C0.1 C0.2.1 dX0_coincidencesIn_21 rfl (lv_at hl 1 rfl) ?_
      refine tc_callV (q0 := 0) C0 hG hS rfl rfl (kX0_townBehind hlf hk  (jx) (by omega)) (cwV 1 C0.2.2.2.2 gX0_coincidencesIn_X0_townBehind rfl rfl rfl (by decide +kernel) ⟨(Nat.le_of_ble_eq_true rfl), (Nat.le_of_ble_eq_true rfl)⟩) rfl hl rfl (Nat.le_of_ble_eq_true rfl) dX0_coincidencesIn_22 ⟨(Nat.le_of_ble_eq_true rfl), (Nat.le_of_ble_eq_true rfl)⟩ (fun H locs hG hS => ?_)
      have b_22 := tw_le tk co cn wk jx hk.2.2.2.2.1
      exact tc_iret C0 hr hlk hG hS hcd0 rfl (Nat.le_of_ble_eq_true rfl) (Nat.le_of_ble_eq_true rfl) dX0_coincidencesIn_25
    · exact tc_thr (is := 117) (text := "hours are 0 to 60") (cls := "java/lang/IllegalArgumentException") (ic := 55) (i := 0) C0 hlf ht hlk hG0 hG hS hl (by decide +kernel) (by decide +kernel) (by decide +kernel) (by decide +kernel) (by decide +kernel) (by decide +kernel) dX0_coincidencesIn_10 dX0_coincidencesIn_13 dX0_coincidencesIn_14 dX0_coincidencesIn_16 dX0_coincidencesIn_19 (Nat.le_of_ble_eq_true rfl) (Nat.le_of_ble_eq_true rfl) ⟨(Nat.le_of_ble_eq_true rfl), (Nat.le_of_ble_eq_true rfl)⟩ rfl (by first | exact cdS_n (tcIn_lo c_1) | exact cdS_n (tcIn_hi' (n := 60) (by decide) (Int32.not_le.mp c_7))) (Nat.le_of_ble_eq_true rfl) (Nat.le_of_ble_eq_true rfl)
set_option maxHeartbeats 4000000 in
set_option maxRecDepth 100000 in
theorem kX0_costOfMeeting {l : Launch} (hlf : l.stackTraces = false) {D : va_G} {cI cJ : ClassId} {N0 : Nat} {h r1 r2 r3 r4 : Nat} {tk co cn wk : Nat → Nat} {n st : Nat} {ho ct sp : Int32} {Z : va_W} (hk : tOk tk co cn wk n st) (x : Int32) (y : Int32)  : tcM l yX0_costOfMeeting wsX0_costOfMeeting { frames := 8, cells := 3, slots := 18, locals := 133 } tcEs (cdP x y n) [.ref h, .int (x), .int (y)] D cI cJ N0 (wT h r1 r2 r3 r4 cI tk co cn wk n ho st ct sp Z) (some (.int (nI (way (cn (ix x)) (cn (ix y)))))) (wT h r1 r2 r3 r4 cI tk co cn wk n ho st ct sp Z) 3 18 := by
  refine tcM.of (cc := cX0_costOfMeeting) (maxL := 3) (ret := (some .int)) (by decide) rfl (Nat.le_of_ble_eq_true rfl) ?_
  intro p e s m args below meth c C0 hr hlk ht hmn hG ls hl
  have hl : lv_has ls 3 [(0, .ref h), (1, .int (x)), (2, .int (y))] := hl
  obtain ⟨hk1, hk2, hk3, hk4, hn12, hst⟩ := id hk
  have hG0 := hG
  have hS : va_S (tcA N0) s.heap s.heap [] := va_S.rf
  have hF : ∀ w ∈ wsX00, w ∈ wsX0_costOfMeeting := by decide +kernel
  have w_corners : Cond.fieldLink RX0 16 "TicketCoincidences" "corners" "[I" ∈ wsX0_costOfMeeting := by decide +kernel
  refine lv_aload_n C0.1 C0.2.1 dX0_costOfMeeting_0 rfl (lv_at hl 0 rfl) ?_
  refine lv_iload_n C0.1 C0.2.1 dX0_costOfMeeting_1 rfl (lv_at hl 1 rfl) ?_
  refine lv_iload_n C0.1 C0.2.1 dX0_costOfMeeting_2 rfl (lv_at hl 2 rfl) ?_
  refine tc_callVx (q0 := 0) C0 hG hS rfl rfl (kX0_requirePair hlf hk  (x) (y) ) (cwV 2 C0.2.2.2.2 gX0_costOfMeeting_X0_requirePair rfl rfl rfl (by decide +kernel) ⟨(Nat.le_of_ble_eq_true rfl), (Nat.le_of_ble_eq_true rfl)⟩) rfl hl rfl (Nat.le_of_ble_eq_true rfl) dX0_costOfMeeting_3 ⟨(Nat.le_of_ble_eq_true rfl), (Nat.le_of_ble_eq_true rfl)⟩ (fun i E q9 ce H locs hi hcd hG hS hce hcv hcl => by exact tc_out ht hlk hG hS hce hcv hcl (i := i) hi hcd (Nat.le_of_ble_eq_true rfl) (Nat.le_of_ble_eq_true rfl)) (fun c_3 H locs hG hS => ?_)
  refine W.eq (g2 := F0 m 6 ls []) rfl ?_
  obtain ⟨pa, pb, pn⟩ := cdP_ok c_3
  obtain ⟨jx, hjx, rfl⟩ := tcIn_of (by omega) pa
  try simp only [ix_nI (show jx < 2 ^ 31 by omega)]
  obtain ⟨jy, hjy, rfl⟩ := tcIn_of (by omega) pb
  try simp only [ix_nI (show jy < 2 ^ 31 by omega)]
  refine lv_aload_n C0.1 C0.2.1 dX0_costOfMeeting_6 rfl (lv_at hl 0 rfl) ?_
  refine tgX0_corners C0 hF hG w_corners dX0_costOfMeeting_7 ?_
  refine lv_iload_n C0.1 C0.2.1 dX0_costOfMeeting_10 rfl (lv_at hl 1 rfl) ?_
  refine tc_ald (q0 := 3) C0 hG rfl (by omega) dX0_costOfMeeting_11 ?_
  have b_11 := hk3 (jx)
  refine lv_aload_n C0.1 C0.2.1 dX0_costOfMeeting_12 rfl (lv_at hl 0 rfl) ?_
  refine tgX0_corners C0 hF hG w_corners dX0_costOfMeeting_13 ?_
  refine lv_iload_n C0.1 C0.2.1 dX0_costOfMeeting_16 rfl (lv_at hl 2 rfl) ?_
  refine tc_ald (q0 := 3) C0 hG rfl (by omega) dX0_costOfMeeting_17 ?_
  have b_17 := hk3 (jy)
  refine tc_callS C0 hG hS (kX0_costOfWay hlf  (cn (jx)) (cn (jy)) (by omega) (by omega)) (va_cwS 2 C0.2.2.2.2 gX0_costOfMeeting_X0_costOfWay rfl rfl rfl (by decide +kernel) ⟨(Nat.le_of_ble_eq_true rfl), (Nat.le_of_ble_eq_true rfl)⟩) rfl hl rfl (Nat.le_of_ble_eq_true rfl) dX0_costOfMeeting_18 ⟨(Nat.le_of_ble_eq_true rfl), (Nat.le_of_ble_eq_true rfl)⟩ (fun H locs hG hS => ?_)
  have b_18 := way_le (cn (jx)) (cn (jy)) (by omega) (by omega)
  exact tc_iret C0 hr hlk hG hS c_3 rfl (Nat.le_of_ble_eq_true rfl) (Nat.le_of_ble_eq_true rfl) dX0_costOfMeeting_21
