/-! the mean, the digest, of both -/
set_option maxHeartbeats 4000000 in
set_option maxRecDepth 100000 in
theorem kX0_meanLuck {l : Launch} (hlf : l.stackTraces = false) {D : va_G} {cI cJ : ClassId} {N0 : Nat} {h r1 r2 r3 r4 : Nat} {tk co cn wk : Nat → Nat} {n st : Nat} {ho ct sp : Int32} {Z : va_W} (hk : tOk tk co cn wk n st)   : tcM l yX0_meanLuck wsX0_meanLuck { frames := 4, cells := 0, slots := 0, locals := 89 } [] 0 [.ref h] D cI cJ N0 (wT h r1 r2 r3 r4 cI tk co cn wk n ho st ct sp Z) (some (.double (mlk tk co cn wk n))) (wT h r1 r2 r3 r4 cI tk co cn wk n ho st ct sp Z) 0 0 := by
  refine tcM.of (cc := cX0_meanLuck) (maxL := 3) (ret := (some .double)) (by decide) rfl (Nat.le_of_ble_eq_true rfl) ?_
  intro p e s m args below meth c C0 hr hlk ht hmn hG ls hl
  have hl : lv_has ls 3 [(0, .ref h)] := hl
  obtain ⟨hk1, hk2, hk3, hk4, hn12, hst⟩ := id hk
  have hG0 := hG
  have hS : va_S (tcA N0) s.heap s.heap [] := va_S.rf
  have hF : ∀ w ∈ wsX00, w ∈ wsX0_meanLuck := by decide +kernel
  have w_people : Cond.fieldLink RX0 22 "TicketCoincidences" "people" "I" ∈ wsX0_meanLuck := by decide +kernel
  refine lv_aload_n C0.1 C0.2.1 dX0_meanLuck_0 rfl (lv_at hl 0 rfl) ?_
  refine tgX0_people C0 hF hG w_people dX0_meanLuck_1 ?_
  refine tn_if_ne (tgt := 9) C0.1 C0.2.1 dX0_meanLuck_4 (by decide) (by omega) (fun c_4 => ?_) (fun c_4 => ?_)
  · refine lv_iconst (v := nI 0) C0.1 C0.2.1 dX0_meanLuck_9 (by decide) ?_
    refine lv_istore_n (lv' := [(1, .int (nI (0))), (0, .ref h)]) C0.1 C0.2.1 dX0_meanLuck_10 rfl hl (by decide) rfl (fun ls hl => ?_)
    refine lv_iconst (v := nI 0) C0.1 C0.2.1 dX0_meanLuck_11 (by decide) ?_
    refine lv_istore_n (lv' := [(2, .int (nI (0))), (1, .int (nI (0))), (0, .ref h)]) C0.1 C0.2.1 dX0_meanLuck_12 rfl hl (by decide) rfl (fun ls hl => ?_)
    refine tc_nameQ (fun zQg zhQ => ?_)
    have cut_13 : ∀ (kf : Nat) (q : Nat) (i : Nat) (hi : i ≤ n) (hq : q = sm (fun k => lkn tk co cn k n) i) (hm : n + 1 ≤ i + kf), ∀ (ls : Array Slot), lv_has ls 3 [(2, .int (nI (i))), (1, .int (nI (q))), (0, .ref h)] → ∀ (H : Heap) (locs : List Loc), tcG D cI cJ N0 (wT h r1 r2 r3 r4 cI tk co cn wk n ho st ct sp Z) s H → va_S (tcA N0) s.heap H locs → W p l e ({ frames := 4, cells := 0, slots := 0, locals := 89 } : Room) s m args below meth c H locs (0) (0) zQg (F0 m 13 ls []) := by
      intro kf
      induction kf with
      | zero => intro q i hi hq hm; exact absurd hm (by omega)
      | succ kf ih_13 =>
        intro q i hi hq hm ls hl H locs hG hS
        refine lv_iload_n C0.1 C0.2.1 dX0_meanLuck_13 rfl (lv_at hl 0 rfl) ?_
        refine lv_aload_n C0.1 C0.2.1 dX0_meanLuck_14 rfl (lv_at hl 2 rfl) ?_
        refine tgX0_people C0 hF hG w_people dX0_meanLuck_15 ?_
        refine tn_icmp_ge (tgt := 35) C0.1 C0.2.1 dX0_meanLuck_18 (by decide) (by omega) (by omega) (fun c_18 => ?_) (fun c_18 => ?_)
        · have hq9 : q = 2 * tw tk co cn wk 0 n := by rw [hq, show i = n by omega]; exact lkn_sum wk n hk3
          refine lv_iload_n C0.1 C0.2.1 dX0_meanLuck_35 rfl (lv_at hl 1 rfl) ?_
          refine lv_i2d C0.1 C0.2.1 dX0_meanLuck_36 ?_
          refine lv_aload_n C0.1 C0.2.1 dX0_meanLuck_37 rfl (lv_at hl 2 rfl) ?_
          refine tgX0_people C0 hF hG w_people dX0_meanLuck_38 ?_
          refine lv_i2d C0.1 C0.2.1 dX0_meanLuck_41 ?_
          refine lv_ddiv C0.1 C0.2.1 dX0_meanLuck_42 (by rw [hq9]; exact (ml_ok (by omega) hn12 (tw_tri tk co cn wk 0 n)).1) ?_
          subst zhQ
          exact tc_dret C0 hr hlk hG hS rfl (by rw [hq9]; unfold mlk; rw [if_neg (by omega)]) (Nat.le_of_ble_eq_true rfl) (Nat.le_of_ble_eq_true rfl) dX0_meanLuck_43
        · refine lv_iload_n C0.1 C0.2.1 dX0_meanLuck_21 rfl (lv_at hl 1 rfl) ?_
          refine lv_aload_n C0.1 C0.2.1 dX0_meanLuck_22 rfl (lv_at hl 2 rfl) ?_
          refine lv_iload_n C0.1 C0.2.1 dX0_meanLuck_23 rfl (lv_at hl 0 rfl) ?_
          refine tc_callV (q0 := 0) C0 hG hS rfl rfl (kX0_luckNow hlf hk  (i) (by omega)) (cwV 1 C0.2.2.2.2 gX0_meanLuck_X0_luckNow rfl rfl rfl (by decide +kernel) ⟨(Nat.le_of_ble_eq_true rfl), (Nat.le_of_ble_eq_true rfl)⟩) rfl hl rfl (Nat.le_of_ble_eq_true rfl) dX0_meanLuck_24 ⟨(Nat.le_of_ble_eq_true rfl), (Nat.le_of_ble_eq_true rfl)⟩ (fun H locs hG hS => ?_)
          have b_24 := (show lkn tk co cn i n ≤ 156 from lw_le tk co cn i (tk i) (cn i) hk.2.2.2.2.1)
          refine tn_iadd C0.1 C0.2.1 dX0_meanLuck_27 ?_
          refine lv_istore_n (lv' := [(1, .int (nI (q + (lkn tk co cn i n)))), (2, .int (nI (i))), (0, .ref h)]) C0.1 C0.2.1 dX0_meanLuck_28 rfl hl (by decide) rfl (fun ls hl => ?_)
          refine tn_iinc (lv' := [(2, .int (nI (i + 1))), (1, .int (nI (q + (lkn tk co cn i n)))), (0, .ref h)]) C0.1 C0.2.1 dX0_meanLuck_29 hl (k := 1) rfl (by decide) rfl (fun ls hl => ?_)
          refine lv_goto (tgt := 13) C0.1 C0.2.1 dX0_meanLuck_32 (by decide) ?_
          exact ih_13 (q + (lkn tk co cn i n)) (i + 1) (by omega) (sm_step hq rfl) (by omega) ls (lv_sub hl [0, 1, 2] rfl) _ _ hG hS
    exact cut_13 (n + 1) (0) (0) (by omega) rfl (by omega) ls (lv_sub hl [0, 1, 2] rfl) _ _ hG hS
  · refine lv_dconst0 C0.1 C0.2.1 dX0_meanLuck_7 ?_
    exact tc_dret C0 hr hlk hG hS rfl (by unfold mlk; rw [if_pos c_4]; rfl) (Nat.le_of_ble_eq_true rfl) (Nat.le_of_ble_eq_true rfl) dX0_meanLuck_8
set_option maxHeartbeats 4000000 in
set_option maxRecDepth 100000 in
theorem kX1_meanLuck {l : Launch} (hlf : l.stackTraces = false) {D : va_G} {cI cJ : ClassId} {N0 : Nat} {h r1 r2 r3 r4 : Nat} {tk co cn wk : Nat → Nat} {n st : Nat} {ho ct sp : Int32} {Z : va_W} {th : Int32} (hk : tOk tk co cn wk n st)   : tcM l yX1_meanLuck wsX1_meanLuck { frames := 4, cells := 0, slots := 0, locals := 91 } [] 0 [.ref h] D cI cJ N0 (wM h r1 r2 r3 r4 cI th tk co cn wk n ho st ct sp Z) (some (.double (mlk tk co cn wk n))) (wM h r1 r2 r3 r4 cI (nI 0) tk co cn wk n ho st ct sp Z) 0 0 := by
  refine tcM.of (cc := cX1_meanLuck) (maxL := 1) (ret := (some .double)) (by decide) rfl (Nat.le_of_ble_eq_true rfl) ?_
  intro p e s m args below meth c C0 hr hlk ht hmn hG ls hl
  have hl : lv_has ls 1 [(0, .ref h)] := hl
  obtain ⟨hk1, hk2, hk3, hk4, hn12, hst⟩ := id hk
  have hG0 := hG
  have hS : va_S (tcA N0) s.heap s.heap [] := va_S.rf
  have hF : ∀ w ∈ wsX10, w ∈ wsX1_meanLuck := by decide +kernel
  have w_people : Cond.fieldLink RX1 29 "TicketCoincidencesModel" "people" "I" ∈ wsX1_meanLuck := by decide +kernel
  have w_thrown : Cond.fieldLink RX1 26 "TicketCoincidencesModel" "thrown" "I" ∈ wsX1_meanLuck := by decide +kernel
  refine lv_aload_n C0.1 C0.2.1 dX1_meanLuck_0 rfl (lv_at hl 0 rfl) ?_
  refine lv_iconst (v := nI 0) C0.1 C0.2.1 dX1_meanLuck_1 (by decide) ?_
  refine tpX1_thrown C0 hF hG0 hG hS w_thrown dX1_meanLuck_2 (fun H locs hG hS => ?_)
  refine lv_aload_n C0.1 C0.2.1 dX1_meanLuck_5 rfl (lv_at hl 0 rfl) ?_
  refine tgX1_people C0 hF hG w_people dX1_meanLuck_6 ?_
  refine tn_if_ne (tgt := 16) C0.1 C0.2.1 dX1_meanLuck_9 (by decide) (by omega) (fun c_9 => ?_) (fun c_9 => ?_)
  · refine lv_iconst (v := nI 2) C0.1 C0.2.1 dX1_meanLuck_16 (by decide) ?_
    refine lv_aload_n C0.1 C0.2.1 dX1_meanLuck_17 rfl (lv_at hl 0 rfl) ?_
    refine tc_callV (q0 := 0) C0 hG hS rfl rfl (kX1_here hlf hk   ) (cwV 0 C0.2.2.2.2 gX1_meanLuck_X1_here rfl rfl rfl (by decide +kernel) ⟨(Nat.le_of_ble_eq_true rfl), (Nat.le_of_ble_eq_true rfl)⟩) rfl hl rfl (Nat.le_of_ble_eq_true rfl) dX1_meanLuck_18 ⟨(Nat.le_of_ble_eq_true rfl), (Nat.le_of_ble_eq_true rfl)⟩ (fun H locs hG hS => ?_)
    have b_18 := tw_le tk co cn wk 0 hk.2.2.2.2.1
    refine tn_imul C0.1 C0.2.1 dX1_meanLuck_21 ?_
    refine lv_i2d C0.1 C0.2.1 dX1_meanLuck_22 ?_
    refine lv_aload_n C0.1 C0.2.1 dX1_meanLuck_23 rfl (lv_at hl 0 rfl) ?_
    refine tgX1_people C0 hF hG w_people dX1_meanLuck_24 ?_
    refine lv_i2d C0.1 C0.2.1 dX1_meanLuck_27 ?_
    refine lv_ddiv C0.1 C0.2.1 dX1_meanLuck_28 ((ml_ok (by omega) hn12 (tw_tri tk co cn wk 0 n)).1) ?_
    exact tc_dret C0 hr hlk hG hS rfl (by unfold mlk; first | (rw [if_pos c_9]; rfl) | rw [if_neg (by omega)]) (Nat.le_of_ble_eq_true rfl) (Nat.le_of_ble_eq_true rfl) dX1_meanLuck_29
  · refine lv_dconst0 C0.1 C0.2.1 dX1_meanLuck_12 ?_
    refine lv_goto (tgt := 29) C0.1 C0.2.1 dX1_meanLuck_13 (by decide) ?_
    exact tc_dret C0 hr hlk hG hS rfl (by unfold mlk; first | (rw [if_pos c_9]; rfl) | rw [if_neg (by omega)]) (Nat.le_of_ble_eq_true rfl) (Nat.le_of_ble_eq_true rfl) dX1_meanLuck_29
set_option maxHeartbeats 4000000 in
set_option maxRecDepth 100000 in
theorem kX0_requireCorner_in {l : Launch} (hlf : l.stackTraces = false) {D : va_G} {cI cJ : ClassId} {N0 : Nat} {ws : va_W} (x : Nat) (h1 : x < 6) : tcM l yX0_requireCorner wsX0_requireCorner { frames := 1, cells := 0, slots := 0, locals := 20 } [] 0 [.int (nI (x))] D cI cJ N0 (ws) none (ws) 0 0 := by
  refine tcM.of (cc := cX0_requireCorner) (maxL := 1) (ret := none) (by decide) rfl (Nat.le_of_ble_eq_true rfl) ?_
  intro p e s m args below meth c C0 hr hlk ht hmn hG ls hl
  have hl : lv_has ls 1 [(0, .int (nI (x)))] := hl
  have hG0 := hG
  have hS : va_S (tcA N0) s.heap s.heap [] := va_S.rf
  refine lv_iload_n C0.1 C0.2.1 dX0_requireCorner_0 rfl (lv_at hl 0 rfl) ?_
  refine tc_callS C0 hG hS (kX0_isCorner hlf  (nI (x)) ) (va_cwS 1 C0.2.2.2.2 gX0_requireCorner_X0_isCorner rfl rfl rfl (by decide +kernel) ⟨(Nat.le_of_ble_eq_true rfl), (Nat.le_of_ble_eq_true rfl)⟩) rfl hl rfl (Nat.le_of_ble_eq_true rfl) dX0_requireCorner_1 ⟨(Nat.le_of_ble_eq_true rfl), (Nat.le_of_ble_eq_true rfl)⟩ (fun H locs hG hS => ?_)
  refine tb_if_ne (tgt := 17) C0.1 C0.2.1 dX0_requireCorner_4 (by decide) (fun c_4 => ?_) (fun c_4 => ?_)
  · exact tc_vret C0 hr hlk hG hS rfl (Nat.le_of_ble_eq_true rfl) (Nat.le_of_ble_eq_true rfl) dX0_requireCorner_17
  · exact absurd (tcIn_in h1 (by decide)) (by rw [c_4]; decide)
set_option maxHeartbeats 4000000 in
set_option maxRecDepth 100000 in
theorem kX0_requireStranger_in {l : Launch} (hlf : l.stackTraces = false) {D : va_G} {cI cJ : ClassId} {N0 : Nat} {h r1 r2 r3 r4 : Nat} {tk co cn wk : Nat → Nat} {n st : Nat} {ho ct sp : Int32} {Z : va_W} (hk : tOk tk co cn wk n st) (x : Nat) (h1 : x < n) : tcM l yX0_requireStranger wsX0_requireStranger { frames := 0, cells := 0, slots := 0, locals := 0 } [] 0 [.ref h, .int (nI (x))] D cI cJ N0 (wT h r1 r2 r3 r4 cI tk co cn wk n ho st ct sp Z) none (wT h r1 r2 r3 r4 cI tk co cn wk n ho st ct sp Z) 0 0 := by
  refine tcM.of (cc := cX0_requireStranger) (maxL := 2) (ret := none) (by decide) rfl (Nat.le_of_ble_eq_true rfl) ?_
  intro p e s m args below meth c C0 hr hlk ht hmn hG ls hl
  have hl : lv_has ls 2 [(0, .ref h), (1, .int (nI (x)))] := hl
  obtain ⟨hk1, hk2, hk3, hk4, hn12, hst⟩ := id hk
  have hG0 := hG
  have hS : va_S (tcA N0) s.heap s.heap [] := va_S.rf
  have hF : ∀ w ∈ wsX00, w ∈ wsX0_requireStranger := by decide +kernel
  have w_people : Cond.fieldLink RX0 22 "TicketCoincidences" "people" "I" ∈ wsX0_requireStranger := by decide +kernel
  refine lv_iload_n C0.1 C0.2.1 dX0_requireStranger_0 rfl (lv_at hl 1 rfl) ?_
  refine lv_if_lt (tgt := 12) C0.1 C0.2.1 dX0_requireStranger_1 (by decide) (fun c_1 => ?_) (fun c_1 => ?_)
  · exact absurd c_1 (nI_pos (by omega))
  · refine lv_iload_n C0.1 C0.2.1 dX0_requireStranger_4 rfl (lv_at hl 1 rfl) ?_
    refine lv_aload_n C0.1 C0.2.1 dX0_requireStranger_5 rfl (lv_at hl 0 rfl) ?_
    refine tgX0_people C0 hF hG w_people dX0_requireStranger_6 ?_
    refine tn_icmp_lt (tgt := 22) C0.1 C0.2.1 dX0_requireStranger_9 (by decide) (by omega) (by omega) (fun c_9 => ?_) (fun c_9 => ?_)
    · exact tc_vret C0 hr hlk hG hS rfl (Nat.le_of_ble_eq_true rfl) (Nat.le_of_ble_eq_true rfl) dX0_requireStranger_22
    · exact absurd h1 (by omega)
set_option maxHeartbeats 4000000 in
set_option maxRecDepth 100000 in
theorem kX0_peopleAt_in {l : Launch} (hlf : l.stackTraces = false) {D : va_G} {cI cJ : ClassId} {N0 : Nat} {h r1 r2 r3 r4 : Nat} {tk co cn wk : Nat → Nat} {n st : Nat} {ho ct sp : Int32} {Z : va_W} (hk : tOk tk co cn wk n st) (x : Nat) (h1 : x < 6) : tcM l yX0_peopleAt wsX0_peopleAt { frames := 2, cells := 0, slots := 0, locals := 40 } [] 0 [.ref h, .int (nI (x))] D cI cJ N0 (wT h r1 r2 r3 r4 cI tk co cn wk n ho st ct sp Z) (some (.int (nI (crowd cn x n)))) (wT h r1 r2 r3 r4 cI tk co cn wk n ho st ct sp Z) 0 0 := by
  refine tcM.of (cc := cX0_peopleAt) (maxL := 2) (ret := (some .int)) (by decide) rfl (Nat.le_of_ble_eq_true rfl) ?_
  intro p e s m args below meth c C0 hr hlk ht hmn hG ls hl
  have hl : lv_has ls 2 [(0, .ref h), (1, .int (nI (x)))] := hl
  obtain ⟨hk1, hk2, hk3, hk4, hn12, hst⟩ := id hk
  have hG0 := hG
  have hS : va_S (tcA N0) s.heap s.heap [] := va_S.rf
  refine lv_iload_n C0.1 C0.2.1 dX0_peopleAt_0 rfl (lv_at hl 1 rfl) ?_
  refine tc_callSv C0 hG hS (kX0_requireCorner_in hlf  (x) (by omega)) (va_cwS 1 C0.2.2.2.2 gX0_peopleAt_X0_requireCorner rfl rfl rfl (by decide +kernel) ⟨(Nat.le_of_ble_eq_true rfl), (Nat.le_of_ble_eq_true rfl)⟩) rfl hl rfl (Nat.le_of_ble_eq_true rfl) dX0_peopleAt_1 ⟨(Nat.le_of_ble_eq_true rfl), (Nat.le_of_ble_eq_true rfl)⟩ (fun H locs hG hS => ?_)
  refine lv_aload_n C0.1 C0.2.1 dX0_peopleAt_4 rfl (lv_at hl 0 rfl) ?_
  refine lv_iload_n C0.1 C0.2.1 dX0_peopleAt_5 rfl (lv_at hl 1 rfl) ?_
  refine tc_callV (q0 := 0) C0 hG hS rfl rfl (kX0_crowdAt hlf hk  (x) (by omega)) (cwV 1 C0.2.2.2.2 gX0_peopleAt_X0_crowdAt rfl rfl rfl (by decide +kernel) ⟨(Nat.le_of_ble_eq_true rfl), (Nat.le_of_ble_eq_true rfl)⟩) rfl hl rfl (Nat.le_of_ble_eq_true rfl) dX0_peopleAt_6 ⟨(Nat.le_of_ble_eq_true rfl), (Nat.le_of_ble_eq_true rfl)⟩ (fun H locs hG hS => ?_)
  have b_6 := crowd_le cn x hk.2.2.2.2.1
  exact tc_iret C0 hr hlk hG hS rfl rfl (Nat.le_of_ble_eq_true rfl) (Nat.le_of_ble_eq_true rfl) dX0_peopleAt_9
set_option maxHeartbeats 4000000 in
set_option maxRecDepth 100000 in
theorem kX0_coincidencesAt_in {l : Launch} (hlf : l.stackTraces = false) {D : va_G} {cI cJ : ClassId} {N0 : Nat} {h r1 r2 r3 r4 : Nat} {tk co cn wk : Nat → Nat} {n st : Nat} {ho ct sp : Int32} {Z : va_W} (hk : tOk tk co cn wk n st) (x : Nat) (h1 : x < 6) : tcM l yX0_coincidencesAt wsX0_coincidencesAt { frames := 3, cells := 0, slots := 0, locals := 65 } [] 0 [.ref h, .int (nI (x))] D cI cJ N0 (wT h r1 r2 r3 r4 cI tk co cn wk n ho st ct sp Z) (some (.int (nI (cAt tk co cn x n)))) (wT h r1 r2 r3 r4 cI tk co cn wk n ho st ct sp Z) 0 0 := by
  refine tcM.of (cc := cX0_coincidencesAt) (maxL := 5) (ret := (some .int)) (by decide) rfl (Nat.le_of_ble_eq_true rfl) ?_
  intro p e s m args below meth c C0 hr hlk ht hmn hG ls hl
  have hl : lv_has ls 5 [(0, .ref h), (1, .int (nI (x)))] := hl
  obtain ⟨hk1, hk2, hk3, hk4, hn12, hst⟩ := id hk
  have hG0 := hG
  have hS : va_S (tcA N0) s.heap s.heap [] := va_S.rf
  have hF : ∀ w ∈ wsX00, w ∈ wsX0_coincidencesAt := by decide +kernel
  have w_corners : Cond.fieldLink RX0 16 "TicketCoincidences" "corners" "[I" ∈ wsX0_coincidencesAt := by decide +kernel
  have w_people : Cond.fieldLink RX0 22 "TicketCoincidences" "people" "I" ∈ wsX0_coincidencesAt := by decide +kernel
  refine lv_iload_n C0.1 C0.2.1 dX0_coincidencesAt_0 rfl (lv_at hl 1 rfl) ?_
  refine tc_callSv C0 hG hS (kX0_requireCorner_in hlf  (x) (by omega)) (va_cwS 1 C0.2.2.2.2 gX0_coincidencesAt_X0_requireCorner rfl rfl rfl (by decide +kernel) ⟨(Nat.le_of_ble_eq_true rfl), (Nat.le_of_ble_eq_true rfl)⟩) rfl hl rfl (Nat.le_of_ble_eq_true rfl) dX0_coincidencesAt_1 ⟨(Nat.le_of_ble_eq_true rfl), (Nat.le_of_ble_eq_true rfl)⟩ (fun H locs hG hS => ?_)
  refine lv_iconst (v := nI 0) C0.1 C0.2.1 dX0_coincidencesAt_4 (by decide) ?_
  refine lv_istore_n (lv' := [(2, .int (nI (0))), (0, .ref h), (1, .int (nI (x)))]) C0.1 C0.2.1 dX0_coincidencesAt_5 rfl hl (by decide) rfl (fun ls hl => ?_)
  refine lv_iconst (v := nI 0) C0.1 C0.2.1 dX0_coincidencesAt_6 (by decide) ?_
  refine lv_istore_n (lv' := [(3, .int (nI (0))), (2, .int (nI (0))), (0, .ref h), (1, .int (nI (x)))]) C0.1 C0.2.1 dX0_coincidencesAt_7 rfl hl (by decide) rfl (fun ls hl => ?_)
  refine tc_nameQ (fun zQg zhQ => ?_)
  have cut_8 : ∀ (kf : Nat) (q : Nat) (a : Nat) (ha : a ≤ n) (hq : q = sm (fun a => sm (fun b => if a < b then cag tk co cn x a b else 0) n) a) (hm : n + 1 ≤ a + kf), ∀ (ls : Array Slot), lv_has ls 5 [(3, .int (nI (a))), (2, .int (nI (q))), (0, .ref h), (1, .int (nI (x)))] → ∀ (H : Heap) (locs : List Loc), tcG D cI cJ N0 (wT h r1 r2 r3 r4 cI tk co cn wk n ho st ct sp Z) s H → va_S (tcA N0) s.heap H locs → W p l e ({ frames := 3, cells := 0, slots := 0, locals := 65 } : Room) s m args below meth c H locs (0) (0) zQg (F0 m 8 ls []) := by
    intro kf
    induction kf with
    | zero => intro q a ha hq hm; exact absurd hm (by omega)
    | succ kf ih_8 =>
      intro q a ha hq hm ls hl H locs hG hS
      refine lv_iload_n C0.1 C0.2.1 dX0_coincidencesAt_8 rfl (lv_at hl 0 rfl) ?_
      refine lv_aload_n C0.1 C0.2.1 dX0_coincidencesAt_9 rfl (lv_at hl 2 rfl) ?_
      refine tgX0_people C0 hF hG w_people dX0_coincidencesAt_10 ?_
      refine tn_icmp_ge (tgt := 73) C0.1 C0.2.1 dX0_coincidencesAt_13 (by decide) (by omega) (by omega) (fun c_13 => ?_) (fun c_13 => ?_)
      · refine lv_iload_n C0.1 C0.2.1 dX0_coincidencesAt_73 rfl (lv_at hl 1 rfl) ?_
        subst zhQ
        exact tc_iret C0 hr hlk hG hS rfl (by rw [hq, show a = n by omega]; exact congrArg nI (pt_pm (cag_sym tk co cn x) n)) (Nat.le_of_ble_eq_true rfl) (Nat.le_of_ble_eq_true rfl) dX0_coincidencesAt_74
      · refine lv_iload_n C0.1 C0.2.1 dX0_coincidencesAt_16 rfl (lv_at hl 0 rfl) ?_
        refine lv_iconst (v := nI 1) C0.1 C0.2.1 dX0_coincidencesAt_17 (by decide) ?_
        refine tn_iadd C0.1 C0.2.1 dX0_coincidencesAt_18 ?_
        refine lv_istore (lv' := [(4, .int (nI (a + 1))), (3, .int (nI (a))), (2, .int (nI (q))), (0, .ref h), (1, .int (nI (x)))]) C0.1 C0.2.1 dX0_coincidencesAt_19 hl (by decide) rfl (fun ls hl => ?_)
        have cut_21 : ∀ (kf : Nat) (q2 : Nat) (b : Nat) (hb : b ≤ n) (hab : a < b) (hq2 : q2 = q + sm (fun b => if a < b then cag tk co cn x a b else 0) b) (hm : n + 1 ≤ b + kf), ∀ (ls : Array Slot), lv_has ls 5 [(4, .int (nI (b))), (3, .int (nI (a))), (2, .int (nI (q2))), (0, .ref h), (1, .int (nI (x)))] → ∀ (H : Heap) (locs : List Loc), tcG D cI cJ N0 (wT h r1 r2 r3 r4 cI tk co cn wk n ho st ct sp Z) s H → va_S (tcA N0) s.heap H locs → W p l e ({ frames := 3, cells := 0, slots := 0, locals := 65 } : Room) s m args below meth c H locs (0) (0) zQg (F0 m 21 ls []) := by
          intro kf
          induction kf with
          | zero => intro q2 b hb hab hq2 hm; exact absurd hm (by omega)
          | succ kf ih_21 =>
            intro q2 b hb hab hq2 hm ls hl H locs hG hS
            refine lv_iload C0.1 C0.2.1 dX0_coincidencesAt_21 (lv_at hl 0 rfl) ?_
            refine lv_aload_n C0.1 C0.2.1 dX0_coincidencesAt_23 rfl (lv_at hl 3 rfl) ?_
            refine tgX0_people C0 hF hG w_people dX0_coincidencesAt_24 ?_
            refine tn_icmp_ge (tgt := 67) C0.1 C0.2.1 dX0_coincidencesAt_27 (by decide) (by omega) (by omega) (fun c_27 => ?_) (fun c_27 => ?_)
            · refine tn_iinc (lv' := [(3, .int (nI (a + 1))), (4, .int (nI (b))), (2, .int (nI (q2))), (0, .ref h), (1, .int (nI (x)))]) C0.1 C0.2.1 dX0_coincidencesAt_67 hl (k := 1) rfl (by decide) rfl (fun ls hl => ?_)
              refine lv_goto (tgt := 8) C0.1 C0.2.1 dX0_coincidencesAt_70 (by decide) ?_
              exact ih_8 (q2) (a + 1) (by omega) (by have hz : b = n := (by omega); rw [sm_s, ← hq, hq2, hz]) (by omega) ls (lv_sub hl [0, 2, 3, 4] rfl) _ _ hG hS
            · refine lv_aload_n C0.1 C0.2.1 dX0_coincidencesAt_30 rfl (lv_at hl 3 rfl) ?_
              refine tgX0_corners C0 hF hG w_corners dX0_coincidencesAt_31 ?_
              refine lv_iload_n C0.1 C0.2.1 dX0_coincidencesAt_34 rfl (lv_at hl 1 rfl) ?_
              refine tc_ald (q0 := 3) C0 hG rfl (by omega) dX0_coincidencesAt_35 ?_
              have b_35 := hk3 (a)
              refine lv_iload_n C0.1 C0.2.1 dX0_coincidencesAt_36 rfl (lv_at hl 4 rfl) ?_
              refine tn_icmp_ne (tgt := 61) C0.1 C0.2.1 dX0_coincidencesAt_37 (by decide) (by omega) (by omega) (fun c_37 => ?_) (fun c_37 => ?_)
              · refine tn_iinc (lv' := [(4, .int (nI (b + 1))), (3, .int (nI (a))), (2, .int (nI (q2))), (0, .ref h), (1, .int (nI (x)))]) C0.1 C0.2.1 dX0_coincidencesAt_61 hl (k := 0) rfl (by decide) rfl (fun ls hl => ?_)
                refine lv_goto (tgt := 21) C0.1 C0.2.1 dX0_coincidencesAt_64 (by decide) ?_
                exact ih_21 (q2) (b + 1) (by omega) (by omega) (by first | exact sm_step2 hq2 ((if_pos hab).trans (if_pos ⟨c_37, c_48⟩)) | exact sm_skip2 hq2 ((if_pos hab).trans (if_neg (fun q => c_37 q.1))) | exact sm_skip2 hq2 ((if_pos hab).trans (if_neg (fun q => c_48 q.2)))) (by omega) ls (lv_sub hl [0, 1, 2, 3, 4] rfl) _ _ hG hS
              · refine lv_aload_n C0.1 C0.2.1 dX0_coincidencesAt_40 rfl (lv_at hl 3 rfl) ?_
                refine tgX0_corners C0 hF hG w_corners dX0_coincidencesAt_41 ?_
                refine lv_iload C0.1 C0.2.1 dX0_coincidencesAt_44 (lv_at hl 0 rfl) ?_
                refine tc_ald (q0 := 3) C0 hG rfl (by omega) dX0_coincidencesAt_46 ?_
                have b_46 := hk3 (b)
                refine lv_iload_n C0.1 C0.2.1 dX0_coincidencesAt_47 rfl (lv_at hl 4 rfl) ?_
                refine tn_icmp_ne (tgt := 61) C0.1 C0.2.1 dX0_coincidencesAt_48 (by decide) (by omega) (by omega) (fun c_48 => ?_) (fun c_48 => ?_)
                · refine tn_iinc (lv' := [(4, .int (nI (b + 1))), (3, .int (nI (a))), (2, .int (nI (q2))), (0, .ref h), (1, .int (nI (x)))]) C0.1 C0.2.1 dX0_coincidencesAt_61 hl (k := 0) rfl (by decide) rfl (fun ls hl => ?_)
                  refine lv_goto (tgt := 21) C0.1 C0.2.1 dX0_coincidencesAt_64 (by decide) ?_
                  exact ih_21 (q2) (b + 1) (by omega) (by omega) (by first | exact sm_step2 hq2 ((if_pos hab).trans (if_pos ⟨c_37, c_48⟩)) | exact sm_skip2 hq2 ((if_pos hab).trans (if_neg (fun q => c_37 q.1))) | exact sm_skip2 hq2 ((if_pos hab).trans (if_neg (fun q => c_48 q.2)))) (by omega) ls (lv_sub hl [0, 1, 2, 3, 4] rfl) _ _ hG hS
                · refine lv_iload_n C0.1 C0.2.1 dX0_coincidencesAt_51 rfl (lv_at hl 2 rfl) ?_
                  refine lv_aload_n C0.1 C0.2.1 dX0_coincidencesAt_52 rfl (lv_at hl 3 rfl) ?_
                  refine lv_iload_n C0.1 C0.2.1 dX0_coincidencesAt_53 rfl (lv_at hl 1 rfl) ?_
                  refine lv_iload C0.1 C0.2.1 dX0_coincidencesAt_54 (lv_at hl 0 rfl) ?_
                  refine tc_callV (q0 := 0) C0 hG hS rfl rfl (kX0_pointsOfPair hlf hk  (a) (b) (by omega) (by omega)) (cwV 2 C0.2.2.2.2 gX0_coincidencesAt_X0_pointsOfPair rfl rfl rfl (by decide +kernel) ⟨(Nat.le_of_ble_eq_true rfl), (Nat.le_of_ble_eq_true rfl)⟩) rfl hl rfl (Nat.le_of_ble_eq_true rfl) dX0_coincidencesAt_56 ⟨(Nat.le_of_ble_eq_true rfl), (Nat.le_of_ble_eq_true rfl)⟩ (fun H locs hG hS => ?_)
                  have b_56 := pts_le tk co a b
                  refine tn_iadd C0.1 C0.2.1 dX0_coincidencesAt_59 ?_
                  refine lv_istore_n (lv' := [(2, .int (nI (q2 + (pts tk co a b)))), (4, .int (nI (b))), (3, .int (nI (a))), (0, .ref h), (1, .int (nI (x)))]) C0.1 C0.2.1 dX0_coincidencesAt_60 rfl hl (by decide) rfl (fun ls hl => ?_)
                  refine tn_iinc (lv' := [(4, .int (nI (b + 1))), (2, .int (nI (q2 + (pts tk co a b)))), (3, .int (nI (a))), (0, .ref h), (1, .int (nI (x)))]) C0.1 C0.2.1 dX0_coincidencesAt_61 hl (k := 1) rfl (by decide) rfl (fun ls hl => ?_)
                  refine lv_goto (tgt := 21) C0.1 C0.2.1 dX0_coincidencesAt_64 (by decide) ?_
                  exact ih_21 (q2 + (pts tk co a b)) (b + 1) (by omega) (by omega) (by first | exact sm_step2 hq2 ((if_pos hab).trans (if_pos ⟨c_37, c_48⟩)) | exact sm_skip2 hq2 ((if_pos hab).trans (if_neg (fun q => c_37 q.1))) | exact sm_skip2 hq2 ((if_pos hab).trans (if_neg (fun q => c_48 q.2)))) (by omega) ls (lv_sub hl [0, 2, 1, 3, 4] rfl) _ _ hG hS
        exact cut_21 (n + 1) (q) (a + 1) (by omega) (by omega) (sm_start2 (fun k hk => if_neg (by omega))) (by omega) ls (lv_sub hl [0, 1, 2, 3, 4] rfl) _ _ hG hS
  exact cut_8 (n + 1) (0) (0) (by omega) rfl (by omega) ls (lv_sub hl [0, 1, 2, 3] rfl) _ _ hG hS
set_option maxHeartbeats 4000000 in
set_option maxRecDepth 100000 in
theorem kX0_bestCorner_in {l : Launch} (hlf : l.stackTraces = false) {D : va_G} {cI cJ : ClassId} {N0 : Nat} {h r1 r2 r3 r4 : Nat} {tk co cn wk : Nat → Nat} {n st : Nat} {ho ct sp : Int32} {Z : va_W} (hk : tOk tk co cn wk n st) (x : Nat) (h1 : x < n) : tcM l yX0_bestCorner wsX0_bestCorner { frames := 3, cells := 0, slots := 0, locals := 68 } [] 0 [.ref h, .int (nI (x))] D cI cJ N0 (wT h r1 r2 r3 r4 cI tk co cn wk n ho st ct sp Z) (some (.int (nI (bestCn tk co cn x n)))) (wT h r1 r2 r3 r4 cI tk co cn wk n ho st ct sp Z) 0 0 := by
  refine tcM.of (cc := cX0_bestCorner) (maxL := 6) (ret := (some .int)) (by decide) rfl (Nat.le_of_ble_eq_true rfl) ?_
  intro p e s m args below meth c C0 hr hlk ht hmn hG ls hl
  have hl : lv_has ls 6 [(0, .ref h), (1, .int (nI (x)))] := hl
  obtain ⟨hk1, hk2, hk3, hk4, hn12, hst⟩ := id hk
  have hG0 := hG
  have hS : va_S (tcA N0) s.heap s.heap [] := va_S.rf
  have hF : ∀ w ∈ wsX00, w ∈ wsX0_bestCorner := by decide +kernel
  have w_tickets : Cond.fieldLink RX0 9 "TicketCoincidences" "tickets" "[I" ∈ wsX0_bestCorner := by decide +kernel
  refine lv_aload_n C0.1 C0.2.1 dX0_bestCorner_0 rfl (lv_at hl 0 rfl) ?_
  refine lv_iload_n C0.1 C0.2.1 dX0_bestCorner_1 rfl (lv_at hl 1 rfl) ?_
  refine tc_callVv (q0 := 0) C0 hG hS rfl rfl (kX0_requireStranger_in hlf hk  (x) (by omega)) (cwV 1 C0.2.2.2.2 gX0_bestCorner_X0_requireStranger rfl rfl rfl (by decide +kernel) ⟨(Nat.le_of_ble_eq_true rfl), (Nat.le_of_ble_eq_true rfl)⟩) rfl hl rfl (Nat.le_of_ble_eq_true rfl) dX0_bestCorner_2 ⟨(Nat.le_of_ble_eq_true rfl), (Nat.le_of_ble_eq_true rfl)⟩ (fun H locs hG hS => ?_)
  refine lv_iconst (v := nI 0) C0.1 C0.2.1 dX0_bestCorner_5 (by decide) ?_
  refine lv_istore_n (lv' := [(2, .int (nI (0))), (0, .ref h), (1, .int (nI (x)))]) C0.1 C0.2.1 dX0_bestCorner_6 rfl hl (by decide) rfl (fun ls hl => ?_)
  refine lv_iconst (v := iM 0) C0.1 C0.2.1 dX0_bestCorner_7 (by decide) ?_
  refine lv_istore_n (lv' := [(3, .int (iM (0))), (2, .int (nI (0))), (0, .ref h), (1, .int (nI (x)))]) C0.1 C0.2.1 dX0_bestCorner_8 rfl hl (by decide) rfl (fun ls hl => ?_)
  refine lv_iconst (v := nI 0) C0.1 C0.2.1 dX0_bestCorner_9 (by decide) ?_
  refine lv_istore (lv' := [(4, .int (nI (0))), (3, .int (iM (0))), (2, .int (nI (0))), (0, .ref h), (1, .int (nI (x)))]) C0.1 C0.2.1 dX0_bestCorner_10 hl (by decide) rfl (fun ls hl => ?_)
  refine tc_nameQ (fun zQg zhQ => ?_)
  have cut_12 : ∀ (kf : Nat) (s1 : Nat) (s2 : Nat) (v : Nat) (hv : v ≤ 6) (hs2 : s2 ≤ 157) (hs : (s2, s1) = am (fun v => lw tk co cn x (tk x) v n) v) (hm : 6 + 1 ≤ v + kf), ∀ (ls : Array Slot), lv_has ls 6 [(4, .int (nI (v))), (3, .int (iM (s2))), (2, .int (nI (s1))), (0, .ref h), (1, .int (nI (x)))] → ∀ (H : Heap) (locs : List Loc), tcG D cI cJ N0 (wT h r1 r2 r3 r4 cI tk co cn wk n ho st ct sp Z) s H → va_S (tcA N0) s.heap H locs → W p l e ({ frames := 3, cells := 0, slots := 0, locals := 68 } : Room) s m args below meth c H locs (0) (0) zQg (F0 m 12 ls []) := by
    intro kf
    induction kf with
    | zero => intro s1 s2 v hv hs2 hs hm; exact absurd hm (by omega)
    | succ kf ih_12 =>
      intro s1 s2 v hv hs2 hs hm ls hl H locs hG hS
      refine lv_iload C0.1 C0.2.1 dX0_bestCorner_12 (lv_at hl 0 rfl) ?_
      refine lv_bipush (v := nI 6) C0.1 C0.2.1 dX0_bestCorner_14 (by decide) ?_
      refine tn_icmp_ge (tgt := 52) C0.1 C0.2.1 dX0_bestCorner_16 (by decide) (by omega) (by omega) (fun c_16 => ?_) (fun c_16 => ?_)
      · refine lv_iload_n C0.1 C0.2.1 dX0_bestCorner_52 rfl (lv_at hl 2 rfl) ?_
        subst zhQ
        exact tc_iret C0 hr hlk hG hS rfl (by have hz : v = 6 := (by omega); subst hz; unfold bestCn; rw [← hs]) (Nat.le_of_ble_eq_true rfl) (Nat.le_of_ble_eq_true rfl) dX0_bestCorner_53
      · refine lv_aload_n C0.1 C0.2.1 dX0_bestCorner_19 rfl (lv_at hl 3 rfl) ?_
        refine lv_iload_n C0.1 C0.2.1 dX0_bestCorner_20 rfl (lv_at hl 4 rfl) ?_
        refine lv_aload_n C0.1 C0.2.1 dX0_bestCorner_21 rfl (lv_at hl 3 rfl) ?_
        refine tgX0_tickets C0 hF hG w_tickets dX0_bestCorner_22 ?_
        refine lv_iload_n C0.1 C0.2.1 dX0_bestCorner_25 rfl (lv_at hl 4 rfl) ?_
        refine tc_ald (q0 := 1) C0 hG rfl (by omega) dX0_bestCorner_26 ?_
        have b_26 := hk1 (x)
        refine lv_iload C0.1 C0.2.1 dX0_bestCorner_27 (lv_at hl 0 rfl) ?_
        refine tc_callV (q0 := 0) C0 hG hS rfl rfl (kX0_luckWith hlf hk  (x) (tk (x)) (v) (by omega) (by omega) (by omega)) (cwV 3 C0.2.2.2.2 gX0_bestCorner_X0_luckWith rfl rfl rfl (by decide +kernel) ⟨(Nat.le_of_ble_eq_true rfl), (Nat.le_of_ble_eq_true rfl)⟩) rfl hl rfl (Nat.le_of_ble_eq_true rfl) dX0_bestCorner_29 ⟨(Nat.le_of_ble_eq_true rfl), (Nat.le_of_ble_eq_true rfl)⟩ (fun H locs hG hS => ?_)
        have b_29 := lw_le tk co cn x (tk (x)) v hk.2.2.2.2.1
        refine lv_istore (lv' := [(5, .int (nI (lw tk co cn x (tk (x)) v n))), (4, .int (nI (v))), (3, .int (iM (s2))), (2, .int (nI (s1))), (0, .ref h), (1, .int (nI (x)))]) C0.1 C0.2.1 dX0_bestCorner_32 hl (by decide) rfl (fun ls hl => ?_)
        refine lv_iload C0.1 C0.2.1 dX0_bestCorner_34 (lv_at hl 0 rfl) ?_
        refine lv_iload_n C0.1 C0.2.1 dX0_bestCorner_36 rfl (lv_at hl 2 rfl) ?_
        refine tm_icmp_le (tgt := 46) C0.1 C0.2.1 dX0_bestCorner_37 (by decide) (by omega) (by omega) (fun c_37 => ?_) (fun c_37 => ?_)
        · refine tn_iinc (lv' := [(4, .int (nI (v + 1))), (5, .int (nI (lw tk co cn x (tk (x)) v n))), (3, .int (iM (s2))), (2, .int (nI (s1))), (0, .ref h), (1, .int (nI (x)))]) C0.1 C0.2.1 dX0_bestCorner_46 hl (k := 1) rfl (by decide) rfl (fun ls hl => ?_)
          refine lv_goto (tgt := 12) C0.1 C0.2.1 dX0_bestCorner_49 (by decide) ?_
          exact ih_12 (s1) (s2) (v + 1) (by omega) (by omega) (by first | exact am_n' hs c_37 | exact am_y' hs c_37) (by omega) ls (lv_sub hl [0, 2, 3, 4, 5] rfl) _ _ hG hS
        · refine lv_iload C0.1 C0.2.1 dX0_bestCorner_40 (lv_at hl 0 rfl) ?_
          refine tc_top (iM_s (lw tk co cn x (tk (x)) v n)).symm ?_
          refine lv_istore_n (lv' := [(3, .int (iM (lw tk co cn x (tk (x)) v n + 1))), (5, .int (nI (lw tk co cn x (tk (x)) v n))), (4, .int (nI (v))), (2, .int (nI (s1))), (0, .ref h), (1, .int (nI (x)))]) C0.1 C0.2.1 dX0_bestCorner_42 rfl hl (by decide) rfl (fun ls hl => ?_)
          refine lv_iload C0.1 C0.2.1 dX0_bestCorner_43 (lv_at hl 2 rfl) ?_
          refine lv_istore_n (lv' := [(2, .int (nI (v))), (3, .int (iM (lw tk co cn x (tk (x)) v n + 1))), (5, .int (nI (lw tk co cn x (tk (x)) v n))), (4, .int (nI (v))), (0, .ref h), (1, .int (nI (x)))]) C0.1 C0.2.1 dX0_bestCorner_45 rfl hl (by decide) rfl (fun ls hl => ?_)
          refine tn_iinc (lv' := [(4, .int (nI (v + 1))), (2, .int (nI (v))), (3, .int (iM (lw tk co cn x (tk (x)) v n + 1))), (5, .int (nI (lw tk co cn x (tk (x)) v n))), (0, .ref h), (1, .int (nI (x)))]) C0.1 C0.2.1 dX0_bestCorner_46 hl (k := 3) rfl (by decide) rfl (fun ls hl => ?_)
          refine lv_goto (tgt := 12) C0.1 C0.2.1 dX0_bestCorner_49 (by decide) ?_
          exact ih_12 (v) (lw tk co cn x (tk (x)) v n + 1) (v + 1) (by omega) (by omega) (by first | exact am_n' hs c_37 | exact am_y' hs c_37) (by omega) ls (lv_sub hl [0, 2, 1, 4, 5] rfl) _ _ hG hS
  exact cut_12 (6 + 1) (0) (0) (0) (by omega) (by omega) rfl (by omega) ls (lv_sub hl [0, 1, 2, 3, 4] rfl) _ _ hG hS
set_option maxHeartbeats 4000000 in
set_option maxRecDepth 100000 in
theorem kX0_digest {l : Launch} (hlf : l.stackTraces = false) {D : va_G} {cI cJ : ClassId} {N0 : Nat} {h r1 r2 r3 r4 : Nat} {tk co cn wk : Nat → Nat} {n st : Nat} {ho ct sp : Int32} {Z : va_W} (hk : tOk tk co cn wk n st)   : tcM l yX0_digest wsX0_digest { frames := 6, cells := 0, slots := 0, locals := 137 } [] 0 [.ref h] D cI cJ N0 (wT h r1 r2 r3 r4 cI tk co cn wk n ho st ct sp Z) (some (.long (dgst tk co cn wk n ho st ct sp))) (wT h r1 r2 r3 r4 cI tk co cn wk n ho st ct sp Z) 0 0 := by
  refine tcM.of (cc := cX0_digest) (maxL := 4) (ret := (some .long)) (by decide) rfl (Nat.le_of_ble_eq_true rfl) ?_
  intro p e s m args below meth c C0 hr hlk ht hmn hG ls hl
  have hl : lv_has ls 4 [(0, .ref h)] := hl
  obtain ⟨hk1, hk2, hk3, hk4, hn12, hst⟩ := id hk
  have hG0 := hG
  have hS : va_S (tcA N0) s.heap s.heap [] := va_S.rf
  have hF : ∀ w ∈ wsX00, w ∈ wsX0_digest := by decide +kernel
  have w_colours : Cond.fieldLink RX0 13 "TicketCoincidences" "colours" "[I" ∈ wsX0_digest := by decide +kernel
  have w_corners : Cond.fieldLink RX0 16 "TicketCoincidences" "corners" "[I" ∈ wsX0_digest := by decide +kernel
  have w_countedInAll : Cond.fieldLink RX0 32 "TicketCoincidences" "countedInAll" "I" ∈ wsX0_digest := by decide +kernel
  have w_hourNow : Cond.fieldLink RX0 26 "TicketCoincidences" "hourNow" "I" ∈ wsX0_digest := by decide +kernel
  have w_inStore : Cond.fieldLink RX0 29 "TicketCoincidences" "inStore" "I" ∈ wsX0_digest := by decide +kernel
  have w_people : Cond.fieldLink RX0 22 "TicketCoincidences" "people" "I" ∈ wsX0_digest := by decide +kernel
  have w_spentInAll : Cond.fieldLink RX0 35 "TicketCoincidences" "spentInAll" "I" ∈ wsX0_digest := by decide +kernel
  have w_tickets : Cond.fieldLink RX0 9 "TicketCoincidences" "tickets" "[I" ∈ wsX0_digest := by decide +kernel
  have w_walks : Cond.fieldLink RX0 19 "TicketCoincidences" "walks" "[I" ∈ wsX0_digest := by decide +kernel
  refine lv_ldc2 (v := 1979) C0.1 C0.2.1 C0.2.2.2.1 (C0.2.2.2.2 (.constantLong RX0 129 1979) (by decide +kernel)) dX0_digest_0 ?_
  refine lv_lstore_n (lv' := [(1, .long (1979)), (0, .ref h)]) C0.1 C0.2.1 dX0_digest_3 rfl hl (by decide) rfl (fun ls hl => ?_)
  refine lv_lload_n C0.1 C0.2.1 dX0_digest_4 rfl (lv_at hl 0 rfl) ?_
  refine lv_aload_n C0.1 C0.2.1 dX0_digest_5 rfl (lv_at hl 1 rfl) ?_
  refine tgX0_people C0 hF hG w_people dX0_digest_6 ?_
  refine lv_i2l C0.1 C0.2.1 dX0_digest_9 rfl ?_
  refine tc_callS C0 hG hS (kX0_mixed hlf  (1979) ((nI (n)).toInt64) ) (va_cwS 2 C0.2.2.2.2 gX0_digest_X0_mixed rfl rfl rfl (by decide +kernel) ⟨(Nat.le_of_ble_eq_true rfl), (Nat.le_of_ble_eq_true rfl)⟩) rfl hl rfl (Nat.le_of_ble_eq_true rfl) dX0_digest_10 ⟨(Nat.le_of_ble_eq_true rfl), (Nat.le_of_ble_eq_true rfl)⟩ (fun H locs hG hS => ?_)
  refine lv_lstore_n (lv' := [(1, .long (dg 1979 ((nI (n)).toInt64))), (0, .ref h)]) C0.1 C0.2.1 dX0_digest_13 rfl hl (by decide) rfl (fun ls hl => ?_)
  refine lv_lload_n C0.1 C0.2.1 dX0_digest_14 rfl (lv_at hl 0 rfl) ?_
  refine lv_aload_n C0.1 C0.2.1 dX0_digest_15 rfl (lv_at hl 1 rfl) ?_
  refine tgX0_hourNow C0 hF hG w_hourNow dX0_digest_16 ?_
  refine lv_i2l C0.1 C0.2.1 dX0_digest_19 rfl ?_
  refine tc_callS C0 hG hS (kX0_mixed hlf  (dg 1979 ((nI (n)).toInt64)) (((ho)).toInt64) ) (va_cwS 2 C0.2.2.2.2 gX0_digest_X0_mixed rfl rfl rfl (by decide +kernel) ⟨(Nat.le_of_ble_eq_true rfl), (Nat.le_of_ble_eq_true rfl)⟩) rfl hl rfl (Nat.le_of_ble_eq_true rfl) dX0_digest_20 ⟨(Nat.le_of_ble_eq_true rfl), (Nat.le_of_ble_eq_true rfl)⟩ (fun H locs hG hS => ?_)
  refine lv_lstore_n (lv' := [(1, .long (dg (dg 1979 ((nI (n)).toInt64)) (((ho)).toInt64))), (0, .ref h)]) C0.1 C0.2.1 dX0_digest_23 rfl hl (by decide) rfl (fun ls hl => ?_)
  refine lv_lload_n C0.1 C0.2.1 dX0_digest_24 rfl (lv_at hl 0 rfl) ?_
  refine lv_aload_n C0.1 C0.2.1 dX0_digest_25 rfl (lv_at hl 1 rfl) ?_
  refine tgX0_inStore C0 hF hG w_inStore dX0_digest_26 ?_
  refine lv_i2l C0.1 C0.2.1 dX0_digest_29 rfl ?_
  refine tc_callS C0 hG hS (kX0_mixed hlf  (dg (dg 1979 ((nI (n)).toInt64)) (((ho)).toInt64)) ((nI (st)).toInt64) ) (va_cwS 2 C0.2.2.2.2 gX0_digest_X0_mixed rfl rfl rfl (by decide +kernel) ⟨(Nat.le_of_ble_eq_true rfl), (Nat.le_of_ble_eq_true rfl)⟩) rfl hl rfl (Nat.le_of_ble_eq_true rfl) dX0_digest_30 ⟨(Nat.le_of_ble_eq_true rfl), (Nat.le_of_ble_eq_true rfl)⟩ (fun H locs hG hS => ?_)
  refine lv_lstore_n (lv' := [(1, .long (dg (dg (dg 1979 ((nI (n)).toInt64)) (((ho)).toInt64)) ((nI (st)).toInt64))), (0, .ref h)]) C0.1 C0.2.1 dX0_digest_33 rfl hl (by decide) rfl (fun ls hl => ?_)
  refine lv_lload_n C0.1 C0.2.1 dX0_digest_34 rfl (lv_at hl 0 rfl) ?_
  refine lv_aload_n C0.1 C0.2.1 dX0_digest_35 rfl (lv_at hl 1 rfl) ?_
  refine tgX0_countedInAll C0 hF hG w_countedInAll dX0_digest_36 ?_
  refine lv_i2l C0.1 C0.2.1 dX0_digest_39 rfl ?_
  refine tc_callS C0 hG hS (kX0_mixed hlf  (dg (dg (dg 1979 ((nI (n)).toInt64)) (((ho)).toInt64)) ((nI (st)).toInt64)) (((ct)).toInt64) ) (va_cwS 2 C0.2.2.2.2 gX0_digest_X0_mixed rfl rfl rfl (by decide +kernel) ⟨(Nat.le_of_ble_eq_true rfl), (Nat.le_of_ble_eq_true rfl)⟩) rfl hl rfl (Nat.le_of_ble_eq_true rfl) dX0_digest_40 ⟨(Nat.le_of_ble_eq_true rfl), (Nat.le_of_ble_eq_true rfl)⟩ (fun H locs hG hS => ?_)
  refine lv_lstore_n (lv' := [(1, .long (dg (dg (dg (dg 1979 ((nI (n)).toInt64)) (((ho)).toInt64)) ((nI (st)).toInt64)) (((ct)).toInt64))), (0, .ref h)]) C0.1 C0.2.1 dX0_digest_43 rfl hl (by decide) rfl (fun ls hl => ?_)
  refine lv_lload_n C0.1 C0.2.1 dX0_digest_44 rfl (lv_at hl 0 rfl) ?_
  refine lv_aload_n C0.1 C0.2.1 dX0_digest_45 rfl (lv_at hl 1 rfl) ?_
  refine tgX0_spentInAll C0 hF hG w_spentInAll dX0_digest_46 ?_
  refine lv_i2l C0.1 C0.2.1 dX0_digest_49 rfl ?_
  refine tc_callS C0 hG hS (kX0_mixed hlf  (dg (dg (dg (dg 1979 ((nI (n)).toInt64)) (((ho)).toInt64)) ((nI (st)).toInt64)) (((ct)).toInt64)) (((sp)).toInt64) ) (va_cwS 2 C0.2.2.2.2 gX0_digest_X0_mixed rfl rfl rfl (by decide +kernel) ⟨(Nat.le_of_ble_eq_true rfl), (Nat.le_of_ble_eq_true rfl)⟩) rfl hl rfl (Nat.le_of_ble_eq_true rfl) dX0_digest_50 ⟨(Nat.le_of_ble_eq_true rfl), (Nat.le_of_ble_eq_true rfl)⟩ (fun H locs hG hS => ?_)
  refine lv_lstore_n (lv' := [(1, .long (dg (dg (dg (dg (dg 1979 ((nI (n)).toInt64)) (((ho)).toInt64)) ((nI (st)).toInt64)) (((ct)).toInt64)) (((sp)).toInt64))), (0, .ref h)]) C0.1 C0.2.1 dX0_digest_53 rfl hl (by decide) rfl (fun ls hl => ?_)
  refine lv_lload_n C0.1 C0.2.1 dX0_digest_54 rfl (lv_at hl 0 rfl) ?_
  refine lv_aload_n C0.1 C0.2.1 dX0_digest_55 rfl (lv_at hl 1 rfl) ?_
  refine tc_callV (q0 := 0) C0 hG hS rfl rfl (kX0_coincidences hlf hk   ) (cwV 0 C0.2.2.2.2 gX0_digest_X0_coincidences rfl rfl rfl (by decide +kernel) ⟨(Nat.le_of_ble_eq_true rfl), (Nat.le_of_ble_eq_true rfl)⟩) rfl hl rfl (Nat.le_of_ble_eq_true rfl) dX0_digest_56 ⟨(Nat.le_of_ble_eq_true rfl), (Nat.le_of_ble_eq_true rfl)⟩ (fun H locs hG hS => ?_)
  have b_56 := tw_le tk co cn wk 0 hk.2.2.2.2.1
  refine lv_i2l C0.1 C0.2.1 dX0_digest_59 rfl ?_
  refine tc_callS C0 hG hS (kX0_mixed hlf  (dg (dg (dg (dg (dg 1979 ((nI (n)).toInt64)) (((ho)).toInt64)) ((nI (st)).toInt64)) (((ct)).toInt64)) (((sp)).toInt64)) ((nI (tw tk co cn wk 0 n)).toInt64) ) (va_cwS 2 C0.2.2.2.2 gX0_digest_X0_mixed rfl rfl rfl (by decide +kernel) ⟨(Nat.le_of_ble_eq_true rfl), (Nat.le_of_ble_eq_true rfl)⟩) rfl hl rfl (Nat.le_of_ble_eq_true rfl) dX0_digest_60 ⟨(Nat.le_of_ble_eq_true rfl), (Nat.le_of_ble_eq_true rfl)⟩ (fun H locs hG hS => ?_)
  refine lv_lstore_n (lv' := [(1, .long (dg (dg (dg (dg (dg (dg 1979 ((nI (n)).toInt64)) (((ho)).toInt64)) ((nI (st)).toInt64)) (((ct)).toInt64)) (((sp)).toInt64)) ((nI (tw tk co cn wk 0 n)).toInt64))), (0, .ref h)]) C0.1 C0.2.1 dX0_digest_63 rfl hl (by decide) rfl (fun ls hl => ?_)
  refine lv_lload_n C0.1 C0.2.1 dX0_digest_64 rfl (lv_at hl 0 rfl) ?_
  refine lv_aload_n C0.1 C0.2.1 dX0_digest_65 rfl (lv_at hl 1 rfl) ?_
  refine tc_callV (q0 := 0) C0 hG hS rfl rfl (kX0_luckiestPair hlf hk   ) (cwV 0 C0.2.2.2.2 gX0_digest_X0_luckiestPair rfl rfl rfl (by decide +kernel) ⟨(Nat.le_of_ble_eq_true rfl), (Nat.le_of_ble_eq_true rfl)⟩) rfl hl rfl (Nat.le_of_ble_eq_true rfl) dX0_digest_66 ⟨(Nat.le_of_ble_eq_true rfl), (Nat.le_of_ble_eq_true rfl)⟩ (fun H locs hG hS => ?_)
  refine lv_i2l C0.1 C0.2.1 dX0_digest_69 rfl ?_
  refine tc_callS C0 hG hS (kX0_mixed hlf  (dg (dg (dg (dg (dg (dg 1979 ((nI (n)).toInt64)) (((ho)).toInt64)) ((nI (st)).toInt64)) (((ct)).toInt64)) (((sp)).toInt64)) ((nI (tw tk co cn wk 0 n)).toInt64)) ((iM (luckiest tk co n)).toInt64) ) (va_cwS 2 C0.2.2.2.2 gX0_digest_X0_mixed rfl rfl rfl (by decide +kernel) ⟨(Nat.le_of_ble_eq_true rfl), (Nat.le_of_ble_eq_true rfl)⟩) rfl hl rfl (Nat.le_of_ble_eq_true rfl) dX0_digest_70 ⟨(Nat.le_of_ble_eq_true rfl), (Nat.le_of_ble_eq_true rfl)⟩ (fun H locs hG hS => ?_)
  refine lv_lstore_n (lv' := [(1, .long (dg (dg (dg (dg (dg (dg (dg 1979 ((nI (n)).toInt64)) (((ho)).toInt64)) ((nI (st)).toInt64)) (((ct)).toInt64)) (((sp)).toInt64)) ((nI (tw tk co cn wk 0 n)).toInt64)) ((iM (luckiest tk co n)).toInt64))), (0, .ref h)]) C0.1 C0.2.1 dX0_digest_73 rfl hl (by decide) rfl (fun ls hl => ?_)
  refine lv_lload_n C0.1 C0.2.1 dX0_digest_74 rfl (lv_at hl 0 rfl) ?_
  refine lv_aload_n C0.1 C0.2.1 dX0_digest_75 rfl (lv_at hl 1 rfl) ?_
  refine tc_callV (q0 := 0) C0 hG hS rfl rfl (kX0_bestHour hlf hk   ) (cwV 0 C0.2.2.2.2 gX0_digest_X0_bestHour rfl rfl rfl (by decide +kernel) ⟨(Nat.le_of_ble_eq_true rfl), (Nat.le_of_ble_eq_true rfl)⟩) rfl hl rfl (Nat.le_of_ble_eq_true rfl) dX0_digest_76 ⟨(Nat.le_of_ble_eq_true rfl), (Nat.le_of_ble_eq_true rfl)⟩ (fun H locs hG hS => ?_)
  refine lv_i2l C0.1 C0.2.1 dX0_digest_79 rfl ?_
  refine tc_callS C0 hG hS (kX0_mixed hlf  (dg (dg (dg (dg (dg (dg (dg 1979 ((nI (n)).toInt64)) (((ho)).toInt64)) ((nI (st)).toInt64)) (((ct)).toInt64)) (((sp)).toInt64)) ((nI (tw tk co cn wk 0 n)).toInt64)) ((iM (luckiest tk co n)).toInt64)) ((nI (bestHr tk co cn wk n)).toInt64) ) (va_cwS 2 C0.2.2.2.2 gX0_digest_X0_mixed rfl rfl rfl (by decide +kernel) ⟨(Nat.le_of_ble_eq_true rfl), (Nat.le_of_ble_eq_true rfl)⟩) rfl hl rfl (Nat.le_of_ble_eq_true rfl) dX0_digest_80 ⟨(Nat.le_of_ble_eq_true rfl), (Nat.le_of_ble_eq_true rfl)⟩ (fun H locs hG hS => ?_)
  refine lv_lstore_n (lv' := [(1, .long (dg (dg (dg (dg (dg (dg (dg (dg 1979 ((nI (n)).toInt64)) (((ho)).toInt64)) ((nI (st)).toInt64)) (((ct)).toInt64)) (((sp)).toInt64)) ((nI (tw tk co cn wk 0 n)).toInt64)) ((iM (luckiest tk co n)).toInt64)) ((nI (bestHr tk co cn wk n)).toInt64))), (0, .ref h)]) C0.1 C0.2.1 dX0_digest_83 rfl hl (by decide) rfl (fun ls hl => ?_)
  refine lv_lload_n C0.1 C0.2.1 dX0_digest_84 rfl (lv_at hl 0 rfl) ?_
  refine lv_aload_n C0.1 C0.2.1 dX0_digest_85 rfl (lv_at hl 1 rfl) ?_
  refine tc_callV (q0 := 0) C0 hG hS rfl rfl (kX0_bestSwap hlf hk   ) (cwV 0 C0.2.2.2.2 gX0_digest_X0_bestSwap rfl rfl rfl (by decide +kernel) ⟨(Nat.le_of_ble_eq_true rfl), (Nat.le_of_ble_eq_true rfl)⟩) rfl hl rfl (Nat.le_of_ble_eq_true rfl) dX0_digest_86 ⟨(Nat.le_of_ble_eq_true rfl), (Nat.le_of_ble_eq_true rfl)⟩ (fun H locs hG hS => ?_)
  refine lv_i2l C0.1 C0.2.1 dX0_digest_89 rfl ?_
  refine tc_callS C0 hG hS (kX0_mixed hlf  (dg (dg (dg (dg (dg (dg (dg (dg 1979 ((nI (n)).toInt64)) (((ho)).toInt64)) ((nI (st)).toInt64)) (((ct)).toInt64)) (((sp)).toInt64)) ((nI (tw tk co cn wk 0 n)).toInt64)) ((iM (luckiest tk co n)).toInt64)) ((nI (bestHr tk co cn wk n)).toInt64)) ((iM (bestSw tk co cn wk n)).toInt64) ) (va_cwS 2 C0.2.2.2.2 gX0_digest_X0_mixed rfl rfl rfl (by decide +kernel) ⟨(Nat.le_of_ble_eq_true rfl), (Nat.le_of_ble_eq_true rfl)⟩) rfl hl rfl (Nat.le_of_ble_eq_true rfl) dX0_digest_90 ⟨(Nat.le_of_ble_eq_true rfl), (Nat.le_of_ble_eq_true rfl)⟩ (fun H locs hG hS => ?_)
  refine lv_lstore_n (lv' := [(1, .long (dg (dg (dg (dg (dg (dg (dg (dg (dg 1979 ((nI (n)).toInt64)) (((ho)).toInt64)) ((nI (st)).toInt64)) (((ct)).toInt64)) (((sp)).toInt64)) ((nI (tw tk co cn wk 0 n)).toInt64)) ((iM (luckiest tk co n)).toInt64)) ((nI (bestHr tk co cn wk n)).toInt64)) ((iM (bestSw tk co cn wk n)).toInt64))), (0, .ref h)]) C0.1 C0.2.1 dX0_digest_93 rfl hl (by decide) rfl (fun ls hl => ?_)
  refine lv_iconst (v := nI 0) C0.1 C0.2.1 dX0_digest_94 (by decide) ?_
  refine lv_istore_n (lv' := [(3, .int (nI (0))), (1, .long (dg (dg (dg (dg (dg (dg (dg (dg (dg 1979 ((nI (n)).toInt64)) (((ho)).toInt64)) ((nI (st)).toInt64)) (((ct)).toInt64)) (((sp)).toInt64)) ((nI (tw tk co cn wk 0 n)).toInt64)) ((iM (luckiest tk co n)).toInt64)) ((nI (bestHr tk co cn wk n)).toInt64)) ((iM (bestSw tk co cn wk n)).toInt64))), (0, .ref h)]) C0.1 C0.2.1 dX0_digest_95 rfl hl (by decide) rfl (fun ls hl => ?_)
  refine tc_nameQ (fun zQg zhQ => ?_)
  have cut_96 : ∀ (kf : Nat) (d1 : Int64) (c9 : Nat) (hc9 : c9 ≤ 6) (hd1 : d1 = dgC tk co cn n (dgB tk co cn wk n ho st ct sp) c9) (hm : 6 + 1 ≤ c9 + kf), ∀ (ls : Array Slot), lv_has ls 4 [(3, .int (nI (c9))), (1, .long (d1)), (0, .ref h)] → ∀ (H : Heap) (locs : List Loc), tcG D cI cJ N0 (wT h r1 r2 r3 r4 cI tk co cn wk n ho st ct sp Z) s H → va_S (tcA N0) s.heap H locs → W p l e ({ frames := 6, cells := 0, slots := 0, locals := 137 } : Room) s m args below meth c H locs (0) (0) zQg (F0 m 96 ls []) := by
    intro kf
    induction kf with
    | zero => intro d1 c9 hc9 hd1 hm; exact absurd hm (by omega)
    | succ kf ih_96 =>
      intro d1 c9 hc9 hd1 hm ls hl H locs hG hS
      refine lv_iload_n C0.1 C0.2.1 dX0_digest_96 rfl (lv_at hl 0 rfl) ?_
      refine lv_bipush (v := nI 6) C0.1 C0.2.1 dX0_digest_97 (by decide) ?_
      refine tn_icmp_ge (tgt := 130) C0.1 C0.2.1 dX0_digest_99 (by decide) (by omega) (by omega) (fun c_99 => ?_) (fun c_99 => ?_)
      · refine lv_iconst (v := nI 0) C0.1 C0.2.1 dX0_digest_130 (by decide) ?_
        refine lv_istore_n (lv' := [(3, .int (nI (0))), (1, .long (d1)), (0, .ref h)]) C0.1 C0.2.1 dX0_digest_131 rfl hl (by decide) rfl (fun ls hl => ?_)
        have cut_132 : ∀ (kf : Nat) (d2 : Int64) (k9 : Nat) (hk9 : k9 ≤ n) (hd2 : d2 = dgK tk co cn wk n (dgC tk co cn n (dgB tk co cn wk n ho st ct sp) 6) k9) (hm : n + 1 ≤ k9 + kf), ∀ (ls : Array Slot), lv_has ls 4 [(3, .int (nI (k9))), (1, .long (d2)), (0, .ref h)] → ∀ (H : Heap) (locs : List Loc), tcG D cI cJ N0 (wT h r1 r2 r3 r4 cI tk co cn wk n ho st ct sp Z) s H → va_S (tcA N0) s.heap H locs → W p l e ({ frames := 6, cells := 0, slots := 0, locals := 137 } : Room) s m args below meth c H locs (0) (0) zQg (F0 m 132 ls []) := by
          intro kf
          induction kf with
          | zero => intro d2 k9 hk9 hd2 hm; exact absurd hm (by omega)
          | succ kf ih_132 =>
            intro d2 k9 hk9 hd2 hm ls hl H locs hG hS
            refine lv_iload_n C0.1 C0.2.1 dX0_digest_132 rfl (lv_at hl 0 rfl) ?_
            refine lv_aload_n C0.1 C0.2.1 dX0_digest_133 rfl (lv_at hl 2 rfl) ?_
            refine tgX0_people C0 hF hG w_people dX0_digest_134 ?_
            refine tn_icmp_ge (tgt := 216) C0.1 C0.2.1 dX0_digest_137 (by decide) (by omega) (by omega) (fun c_137 => ?_) (fun c_137 => ?_)
            · refine lv_lload_n C0.1 C0.2.1 dX0_digest_216 rfl (lv_at hl 1 rfl) ?_
              subst zhQ
              exact tc_lret C0 hr hlk hG hS rfl (by rw [hd2, show k9 = n by omega]; rfl) (Nat.le_of_ble_eq_true rfl) (Nat.le_of_ble_eq_true rfl) dX0_digest_217
            · refine lv_lload_n C0.1 C0.2.1 dX0_digest_140 rfl (lv_at hl 1 rfl) ?_
              refine lv_aload_n C0.1 C0.2.1 dX0_digest_141 rfl (lv_at hl 2 rfl) ?_
              refine tgX0_tickets C0 hF hG w_tickets dX0_digest_142 ?_
              refine lv_iload_n C0.1 C0.2.1 dX0_digest_145 rfl (lv_at hl 0 rfl) ?_
              refine tc_ald (q0 := 1) C0 hG rfl (by omega) dX0_digest_146 ?_
              have b_146 := hk1 (k9)
              refine lv_i2l C0.1 C0.2.1 dX0_digest_147 rfl ?_
              refine tc_callS C0 hG hS (kX0_mixed hlf  (d2) ((nI (tk (k9))).toInt64) ) (va_cwS 2 C0.2.2.2.2 gX0_digest_X0_mixed rfl rfl rfl (by decide +kernel) ⟨(Nat.le_of_ble_eq_true rfl), (Nat.le_of_ble_eq_true rfl)⟩) rfl hl rfl (Nat.le_of_ble_eq_true rfl) dX0_digest_148 ⟨(Nat.le_of_ble_eq_true rfl), (Nat.le_of_ble_eq_true rfl)⟩ (fun H locs hG hS => ?_)
              refine lv_lstore_n (lv' := [(1, .long (dg d2 ((nI (tk (k9))).toInt64))), (3, .int (nI (k9))), (0, .ref h)]) C0.1 C0.2.1 dX0_digest_151 rfl hl (by decide) rfl (fun ls hl => ?_)
              refine lv_lload_n C0.1 C0.2.1 dX0_digest_152 rfl (lv_at hl 0 rfl) ?_
              refine lv_aload_n C0.1 C0.2.1 dX0_digest_153 rfl (lv_at hl 2 rfl) ?_
              refine tgX0_colours C0 hF hG w_colours dX0_digest_154 ?_
              refine lv_iload_n C0.1 C0.2.1 dX0_digest_157 rfl (lv_at hl 1 rfl) ?_
              refine tc_ald (q0 := 2) C0 hG rfl (by omega) dX0_digest_158 ?_
              have b_158 := hk2 (k9)
              refine lv_i2l C0.1 C0.2.1 dX0_digest_159 rfl ?_
              refine tc_callS C0 hG hS (kX0_mixed hlf  (dg d2 ((nI (tk (k9))).toInt64)) ((nI (co (k9))).toInt64) ) (va_cwS 2 C0.2.2.2.2 gX0_digest_X0_mixed rfl rfl rfl (by decide +kernel) ⟨(Nat.le_of_ble_eq_true rfl), (Nat.le_of_ble_eq_true rfl)⟩) rfl hl rfl (Nat.le_of_ble_eq_true rfl) dX0_digest_160 ⟨(Nat.le_of_ble_eq_true rfl), (Nat.le_of_ble_eq_true rfl)⟩ (fun H locs hG hS => ?_)
              refine lv_lstore_n (lv' := [(1, .long (dg (dg d2 ((nI (tk (k9))).toInt64)) ((nI (co (k9))).toInt64))), (3, .int (nI (k9))), (0, .ref h)]) C0.1 C0.2.1 dX0_digest_163 rfl hl (by decide) rfl (fun ls hl => ?_)
              refine lv_lload_n C0.1 C0.2.1 dX0_digest_164 rfl (lv_at hl 0 rfl) ?_
              refine lv_aload_n C0.1 C0.2.1 dX0_digest_165 rfl (lv_at hl 2 rfl) ?_
              refine tgX0_corners C0 hF hG w_corners dX0_digest_166 ?_
              refine lv_iload_n C0.1 C0.2.1 dX0_digest_169 rfl (lv_at hl 1 rfl) ?_
              refine tc_ald (q0 := 3) C0 hG rfl (by omega) dX0_digest_170 ?_
              have b_170 := hk3 (k9)
              refine lv_i2l C0.1 C0.2.1 dX0_digest_171 rfl ?_
              refine tc_callS C0 hG hS (kX0_mixed hlf  (dg (dg d2 ((nI (tk (k9))).toInt64)) ((nI (co (k9))).toInt64)) ((nI (cn (k9))).toInt64) ) (va_cwS 2 C0.2.2.2.2 gX0_digest_X0_mixed rfl rfl rfl (by decide +kernel) ⟨(Nat.le_of_ble_eq_true rfl), (Nat.le_of_ble_eq_true rfl)⟩) rfl hl rfl (Nat.le_of_ble_eq_true rfl) dX0_digest_172 ⟨(Nat.le_of_ble_eq_true rfl), (Nat.le_of_ble_eq_true rfl)⟩ (fun H locs hG hS => ?_)
              refine lv_lstore_n (lv' := [(1, .long (dg (dg (dg d2 ((nI (tk (k9))).toInt64)) ((nI (co (k9))).toInt64)) ((nI (cn (k9))).toInt64))), (3, .int (nI (k9))), (0, .ref h)]) C0.1 C0.2.1 dX0_digest_175 rfl hl (by decide) rfl (fun ls hl => ?_)
              refine lv_lload_n C0.1 C0.2.1 dX0_digest_176 rfl (lv_at hl 0 rfl) ?_
              refine lv_aload_n C0.1 C0.2.1 dX0_digest_177 rfl (lv_at hl 2 rfl) ?_
              refine tgX0_walks C0 hF hG w_walks dX0_digest_178 ?_
              refine lv_iload_n C0.1 C0.2.1 dX0_digest_181 rfl (lv_at hl 1 rfl) ?_
              refine tc_ald (q0 := 4) C0 hG rfl (by omega) dX0_digest_182 ?_
              have b_182 := hk4 (k9)
              refine lv_i2l C0.1 C0.2.1 dX0_digest_183 rfl ?_
              refine tc_callS C0 hG hS (kX0_mixed hlf  (dg (dg (dg d2 ((nI (tk (k9))).toInt64)) ((nI (co (k9))).toInt64)) ((nI (cn (k9))).toInt64)) ((nI (wk (k9))).toInt64) ) (va_cwS 2 C0.2.2.2.2 gX0_digest_X0_mixed rfl rfl rfl (by decide +kernel) ⟨(Nat.le_of_ble_eq_true rfl), (Nat.le_of_ble_eq_true rfl)⟩) rfl hl rfl (Nat.le_of_ble_eq_true rfl) dX0_digest_184 ⟨(Nat.le_of_ble_eq_true rfl), (Nat.le_of_ble_eq_true rfl)⟩ (fun H locs hG hS => ?_)
              refine lv_lstore_n (lv' := [(1, .long (dg (dg (dg (dg d2 ((nI (tk (k9))).toInt64)) ((nI (co (k9))).toInt64)) ((nI (cn (k9))).toInt64)) ((nI (wk (k9))).toInt64))), (3, .int (nI (k9))), (0, .ref h)]) C0.1 C0.2.1 dX0_digest_187 rfl hl (by decide) rfl (fun ls hl => ?_)
              refine lv_lload_n C0.1 C0.2.1 dX0_digest_188 rfl (lv_at hl 0 rfl) ?_
              refine lv_aload_n C0.1 C0.2.1 dX0_digest_189 rfl (lv_at hl 2 rfl) ?_
              refine lv_iload_n C0.1 C0.2.1 dX0_digest_190 rfl (lv_at hl 1 rfl) ?_
              refine tc_callV (q0 := 0) C0 hG hS rfl rfl (kX0_luckNow hlf hk  (k9) (by omega)) (cwV 1 C0.2.2.2.2 gX0_digest_X0_luckNow rfl rfl rfl (by decide +kernel) ⟨(Nat.le_of_ble_eq_true rfl), (Nat.le_of_ble_eq_true rfl)⟩) rfl hl rfl (Nat.le_of_ble_eq_true rfl) dX0_digest_191 ⟨(Nat.le_of_ble_eq_true rfl), (Nat.le_of_ble_eq_true rfl)⟩ (fun H locs hG hS => ?_)
              have b_191 := (show lkn tk co cn k9 n ≤ 156 from lw_le tk co cn k9 (tk k9) (cn k9) hk.2.2.2.2.1)
              refine lv_i2l C0.1 C0.2.1 dX0_digest_194 rfl ?_
              refine tc_callS C0 hG hS (kX0_mixed hlf  (dg (dg (dg (dg d2 ((nI (tk (k9))).toInt64)) ((nI (co (k9))).toInt64)) ((nI (cn (k9))).toInt64)) ((nI (wk (k9))).toInt64)) ((nI (lkn tk co cn k9 n)).toInt64) ) (va_cwS 2 C0.2.2.2.2 gX0_digest_X0_mixed rfl rfl rfl (by decide +kernel) ⟨(Nat.le_of_ble_eq_true rfl), (Nat.le_of_ble_eq_true rfl)⟩) rfl hl rfl (Nat.le_of_ble_eq_true rfl) dX0_digest_195 ⟨(Nat.le_of_ble_eq_true rfl), (Nat.le_of_ble_eq_true rfl)⟩ (fun H locs hG hS => ?_)
              refine lv_lstore_n (lv' := [(1, .long (dg (dg (dg (dg (dg d2 ((nI (tk (k9))).toInt64)) ((nI (co (k9))).toInt64)) ((nI (cn (k9))).toInt64)) ((nI (wk (k9))).toInt64)) ((nI (lkn tk co cn k9 n)).toInt64))), (3, .int (nI (k9))), (0, .ref h)]) C0.1 C0.2.1 dX0_digest_198 rfl hl (by decide) rfl (fun ls hl => ?_)
              refine lv_lload_n C0.1 C0.2.1 dX0_digest_199 rfl (lv_at hl 0 rfl) ?_
              refine lv_aload_n C0.1 C0.2.1 dX0_digest_200 rfl (lv_at hl 2 rfl) ?_
              refine lv_iload_n C0.1 C0.2.1 dX0_digest_201 rfl (lv_at hl 1 rfl) ?_
              refine tc_callV (q0 := 0) C0 hG hS rfl rfl (kX0_bestCorner_in hlf hk  (k9) (by omega)) (cwV 1 C0.2.2.2.2 gX0_digest_X0_bestCorner rfl rfl rfl (by decide +kernel) ⟨(Nat.le_of_ble_eq_true rfl), (Nat.le_of_ble_eq_true rfl)⟩) rfl hl rfl (Nat.le_of_ble_eq_true rfl) dX0_digest_202 ⟨(Nat.le_of_ble_eq_true rfl), (Nat.le_of_ble_eq_true rfl)⟩ (fun H locs hG hS => ?_)
              refine lv_i2l C0.1 C0.2.1 dX0_digest_205 rfl ?_
              refine tc_callS C0 hG hS (kX0_mixed hlf  (dg (dg (dg (dg (dg d2 ((nI (tk (k9))).toInt64)) ((nI (co (k9))).toInt64)) ((nI (cn (k9))).toInt64)) ((nI (wk (k9))).toInt64)) ((nI (lkn tk co cn k9 n)).toInt64)) ((nI (bestCn tk co cn k9 n)).toInt64) ) (va_cwS 2 C0.2.2.2.2 gX0_digest_X0_mixed rfl rfl rfl (by decide +kernel) ⟨(Nat.le_of_ble_eq_true rfl), (Nat.le_of_ble_eq_true rfl)⟩) rfl hl rfl (Nat.le_of_ble_eq_true rfl) dX0_digest_206 ⟨(Nat.le_of_ble_eq_true rfl), (Nat.le_of_ble_eq_true rfl)⟩ (fun H locs hG hS => ?_)
              refine lv_lstore_n (lv' := [(1, .long (dg (dg (dg (dg (dg (dg d2 ((nI (tk (k9))).toInt64)) ((nI (co (k9))).toInt64)) ((nI (cn (k9))).toInt64)) ((nI (wk (k9))).toInt64)) ((nI (lkn tk co cn k9 n)).toInt64)) ((nI (bestCn tk co cn k9 n)).toInt64))), (3, .int (nI (k9))), (0, .ref h)]) C0.1 C0.2.1 dX0_digest_209 rfl hl (by decide) rfl (fun ls hl => ?_)
              refine tn_iinc (lv' := [(3, .int (nI (k9 + 1))), (1, .long (dg (dg (dg (dg (dg (dg d2 ((nI (tk (k9))).toInt64)) ((nI (co (k9))).toInt64)) ((nI (cn (k9))).toInt64)) ((nI (wk (k9))).toInt64)) ((nI (lkn tk co cn k9 n)).toInt64)) ((nI (bestCn tk co cn k9 n)).toInt64))), (0, .ref h)]) C0.1 C0.2.1 dX0_digest_210 hl (k := 1) rfl (by decide) rfl (fun ls hl => ?_)
              refine lv_goto (tgt := 132) C0.1 C0.2.1 dX0_digest_213 (by decide) ?_
              exact ih_132 (dg (dg (dg (dg (dg (dg d2 ((nI (tk (k9))).toInt64)) ((nI (co (k9))).toInt64)) ((nI (cn (k9))).toInt64)) ((nI (wk (k9))).toInt64)) ((nI (lkn tk co cn k9 n)).toInt64)) ((nI (bestCn tk co cn k9 n)).toInt64)) (k9 + 1) (by omega) (by rw [hd2]; rfl) (by omega) ls (lv_sub hl [0, 1, 2] rfl) _ _ hG hS
        exact cut_132 (n + 1) (d1) (0) (by omega) (by rw [hd1, show c9 = 6 by omega]; rfl) (by omega) ls (lv_sub hl [0, 1, 2] rfl) _ _ hG hS
      · refine lv_lload_n C0.1 C0.2.1 dX0_digest_102 rfl (lv_at hl 1 rfl) ?_
        refine lv_aload_n C0.1 C0.2.1 dX0_digest_103 rfl (lv_at hl 2 rfl) ?_
        refine lv_iload_n C0.1 C0.2.1 dX0_digest_104 rfl (lv_at hl 0 rfl) ?_
        refine tc_callV (q0 := 0) C0 hG hS rfl rfl (kX0_peopleAt_in hlf hk  (c9) (by omega)) (cwV 1 C0.2.2.2.2 gX0_digest_X0_peopleAt rfl rfl rfl (by decide +kernel) ⟨(Nat.le_of_ble_eq_true rfl), (Nat.le_of_ble_eq_true rfl)⟩) rfl hl rfl (Nat.le_of_ble_eq_true rfl) dX0_digest_105 ⟨(Nat.le_of_ble_eq_true rfl), (Nat.le_of_ble_eq_true rfl)⟩ (fun H locs hG hS => ?_)
        refine lv_i2l C0.1 C0.2.1 dX0_digest_108 rfl ?_
        refine tc_callS C0 hG hS (kX0_mixed hlf  (d1) ((nI (crowd cn c9 n)).toInt64) ) (va_cwS 2 C0.2.2.2.2 gX0_digest_X0_mixed rfl rfl rfl (by decide +kernel) ⟨(Nat.le_of_ble_eq_true rfl), (Nat.le_of_ble_eq_true rfl)⟩) rfl hl rfl (Nat.le_of_ble_eq_true rfl) dX0_digest_109 ⟨(Nat.le_of_ble_eq_true rfl), (Nat.le_of_ble_eq_true rfl)⟩ (fun H locs hG hS => ?_)
        refine lv_lstore_n (lv' := [(1, .long (dg d1 ((nI (crowd cn c9 n)).toInt64))), (3, .int (nI (c9))), (0, .ref h)]) C0.1 C0.2.1 dX0_digest_112 rfl hl (by decide) rfl (fun ls hl => ?_)
        refine lv_lload_n C0.1 C0.2.1 dX0_digest_113 rfl (lv_at hl 0 rfl) ?_
        refine lv_aload_n C0.1 C0.2.1 dX0_digest_114 rfl (lv_at hl 2 rfl) ?_
        refine lv_iload_n C0.1 C0.2.1 dX0_digest_115 rfl (lv_at hl 1 rfl) ?_
        refine tc_callV (q0 := 0) C0 hG hS rfl rfl (kX0_coincidencesAt_in hlf hk  (c9) (by omega)) (cwV 1 C0.2.2.2.2 gX0_digest_X0_coincidencesAt rfl rfl rfl (by decide +kernel) ⟨(Nat.le_of_ble_eq_true rfl), (Nat.le_of_ble_eq_true rfl)⟩) rfl hl rfl (Nat.le_of_ble_eq_true rfl) dX0_digest_116 ⟨(Nat.le_of_ble_eq_true rfl), (Nat.le_of_ble_eq_true rfl)⟩ (fun H locs hG hS => ?_)
        refine lv_i2l C0.1 C0.2.1 dX0_digest_119 rfl ?_
        refine tc_callS C0 hG hS (kX0_mixed hlf  (dg d1 ((nI (crowd cn c9 n)).toInt64)) ((nI (cAt tk co cn c9 n)).toInt64) ) (va_cwS 2 C0.2.2.2.2 gX0_digest_X0_mixed rfl rfl rfl (by decide +kernel) ⟨(Nat.le_of_ble_eq_true rfl), (Nat.le_of_ble_eq_true rfl)⟩) rfl hl rfl (Nat.le_of_ble_eq_true rfl) dX0_digest_120 ⟨(Nat.le_of_ble_eq_true rfl), (Nat.le_of_ble_eq_true rfl)⟩ (fun H locs hG hS => ?_)
        refine lv_lstore_n (lv' := [(1, .long (dg (dg d1 ((nI (crowd cn c9 n)).toInt64)) ((nI (cAt tk co cn c9 n)).toInt64))), (3, .int (nI (c9))), (0, .ref h)]) C0.1 C0.2.1 dX0_digest_123 rfl hl (by decide) rfl (fun ls hl => ?_)
        refine tn_iinc (lv' := [(3, .int (nI (c9 + 1))), (1, .long (dg (dg d1 ((nI (crowd cn c9 n)).toInt64)) ((nI (cAt tk co cn c9 n)).toInt64))), (0, .ref h)]) C0.1 C0.2.1 dX0_digest_124 hl (k := 1) rfl (by decide) rfl (fun ls hl => ?_)
        refine lv_goto (tgt := 96) C0.1 C0.2.1 dX0_digest_127 (by decide) ?_
        exact ih_96 (dg (dg d1 ((nI (crowd cn c9 n)).toInt64)) ((nI (cAt tk co cn c9 n)).toInt64)) (c9 + 1) (by omega) (by rw [hd1]; rfl) (by omega) ls (lv_sub hl [0, 1, 2] rfl) _ _ hG hS
  exact cut_96 (6 + 1) (dg (dg (dg (dg (dg (dg (dg (dg (dg 1979 ((nI (n)).toInt64)) (((ho)).toInt64)) ((nI (st)).toInt64)) (((ct)).toInt64)) (((sp)).toInt64)) ((nI (tw tk co cn wk 0 n)).toInt64)) ((iM (luckiest tk co n)).toInt64)) ((nI (bestHr tk co cn wk n)).toInt64)) ((iM (bestSw tk co cn wk n)).toInt64)) (0) (by omega) rfl (by omega) ls (lv_sub hl [0, 1, 2] rfl) _ _ hG hS
set_option maxHeartbeats 4000000 in
set_option maxRecDepth 100000 in
theorem kX1_digest {l : Launch} (hlf : l.stackTraces = false) {D : va_G} {cI cJ : ClassId} {N0 : Nat} {h r1 r2 r3 r4 : Nat} {tk co cn wk : Nat → Nat} {n st : Nat} {ho ct sp : Int32} {Z : va_W} {th : Int32} (hk : tOk tk co cn wk n st)   : tcM l yX1_digest wsX1_digest { frames := 5, cells := 1, slots := 9, locals := 119 } [] 0 [.ref h] D cI cJ N0 (wM h r1 r2 r3 r4 cI th tk co cn wk n ho st ct sp Z) (some (.long (dgst tk co cn wk n ho st ct sp))) (wM h r1 r2 r3 r4 cI (nI 0) tk co cn wk n ho st ct sp Z) 1 9 := by
  refine tcM.of (cc := cX1_digest) (maxL := 8) (ret := (some .long)) (by decide) rfl (Nat.le_of_ble_eq_true rfl) ?_
  intro p e s m args below meth c C0 hr hlk ht hmn hG ls hl
  have hl : lv_has ls 8 [(0, .ref h)] := hl
  obtain ⟨hk1, hk2, hk3, hk4, hn12, hst⟩ := id hk
  have hG0 := hG
  have hS : va_S (tcA N0) s.heap s.heap [] := va_S.rf
  have hF : ∀ w ∈ wsX10, w ∈ wsX1_digest := by decide +kernel
  have w_colour : Cond.fieldLink RX1 13 "TicketCoincidencesModel" "colour" "[I" ∈ wsX1_digest := by decide +kernel
  have w_corner : Cond.fieldLink RX1 16 "TicketCoincidencesModel" "corner" "[I" ∈ wsX1_digest := by decide +kernel
  have w_counted : Cond.fieldLink RX1 93 "TicketCoincidencesModel" "counted" "I" ∈ wsX1_digest := by decide +kernel
  have w_hour : Cond.fieldLink RX1 99 "TicketCoincidencesModel" "hour" "I" ∈ wsX1_digest := by decide +kernel
  have w_people : Cond.fieldLink RX1 29 "TicketCoincidencesModel" "people" "I" ∈ wsX1_digest := by decide +kernel
  have w_spent : Cond.fieldLink RX1 69 "TicketCoincidencesModel" "spent" "I" ∈ wsX1_digest := by decide +kernel
  have w_store : Cond.fieldLink RX1 22 "TicketCoincidencesModel" "store" "I" ∈ wsX1_digest := by decide +kernel
  have w_thrown : Cond.fieldLink RX1 26 "TicketCoincidencesModel" "thrown" "I" ∈ wsX1_digest := by decide +kernel
  have w_ticket : Cond.fieldLink RX1 9 "TicketCoincidencesModel" "ticket" "[I" ∈ wsX1_digest := by decide +kernel
  have w_walk : Cond.fieldLink RX1 19 "TicketCoincidencesModel" "walk" "[I" ∈ wsX1_digest := by decide +kernel
  refine lv_aload_n C0.1 C0.2.1 dX1_digest_0 rfl (lv_at hl 0 rfl) ?_
  refine lv_iconst (v := nI 0) C0.1 C0.2.1 dX1_digest_1 (by decide) ?_
  refine tpX1_thrown C0 hF hG0 hG hS w_thrown dX1_digest_2 (fun H locs hG hS => ?_)
  refine lv_bipush (v := nI 9) C0.1 C0.2.1 dX1_digest_5 (by decide) ?_
  refine tc_newa C0 (by decide +kernel) hG0 hG hS (by decide) ⟨(Nat.le_of_ble_eq_true rfl), (Nat.le_of_ble_eq_true rfl)⟩ dX1_digest_7 (fun qa H locs hG hS => ?_)
  have hG : tcG D cI cJ N0 (wM h r1 r2 r3 r4 cI (nI (0)) tk co cn wk n ho st ct sp (Z ++ [(qa, .inl (cI, 9, .inl (fun _ => 0)))])) s H := hG
  refine lv_dup C0.1 C0.2.1 dX1_digest_9 rfl ?_
  refine lv_iconst (v := nI 0) C0.1 C0.2.1 dX1_digest_10 (by decide) ?_
  refine lv_aload_n C0.1 C0.2.1 dX1_digest_11 rfl (lv_at hl 0 rfl) ?_
  refine tgX1_people C0 hF hG w_people dX1_digest_12 ?_
  refine tcz_ast (Y := wM h r1 r2 r3 r4 cI (nI (0)) tk co cn wk n ho st ct sp Z) (f := (fun _ => 0)) C0 hG0 hG hS (by decide) (by decide) dX1_digest_15 (fun H locs hG hS => ?_)
  have hG : tcG D cI cJ N0 (wM h r1 r2 r3 r4 cI (nI (0)) tk co cn wk n ho st ct sp (Z ++ [(qa, .inl (cI, 9, .inl (upd (fun _ => 0) 0 (nI (n)))))])) s H := hG
  refine lv_dup C0.1 C0.2.1 dX1_digest_16 rfl ?_
  refine lv_iconst (v := nI 1) C0.1 C0.2.1 dX1_digest_17 (by decide) ?_
  refine lv_aload_n C0.1 C0.2.1 dX1_digest_18 rfl (lv_at hl 0 rfl) ?_
  refine tgX1_hour C0 hF hG w_hour dX1_digest_19 ?_
  refine tcz_ast (Y := wM h r1 r2 r3 r4 cI (nI (0)) tk co cn wk n ho st ct sp Z) (f := (upd (fun _ => 0) 0 (nI (n)))) C0 hG0 hG hS (by decide) (by decide) dX1_digest_22 (fun H locs hG hS => ?_)
  have hG : tcG D cI cJ N0 (wM h r1 r2 r3 r4 cI (nI (0)) tk co cn wk n ho st ct sp (Z ++ [(qa, .inl (cI, 9, .inl (upd (upd (fun _ => 0) 0 (nI (n))) 1 ((ho)))))])) s H := hG
  refine lv_dup C0.1 C0.2.1 dX1_digest_23 rfl ?_
  refine lv_iconst (v := nI 2) C0.1 C0.2.1 dX1_digest_24 (by decide) ?_
  refine lv_aload_n C0.1 C0.2.1 dX1_digest_25 rfl (lv_at hl 0 rfl) ?_
  refine tgX1_store C0 hF hG w_store dX1_digest_26 ?_
  refine tcz_ast (Y := wM h r1 r2 r3 r4 cI (nI (0)) tk co cn wk n ho st ct sp Z) (f := (upd (upd (fun _ => 0) 0 (nI (n))) 1 ((ho)))) C0 hG0 hG hS (by decide) (by decide) dX1_digest_29 (fun H locs hG hS => ?_)
  have hG : tcG D cI cJ N0 (wM h r1 r2 r3 r4 cI (nI (0)) tk co cn wk n ho st ct sp (Z ++ [(qa, .inl (cI, 9, .inl (upd (upd (upd (fun _ => 0) 0 (nI (n))) 1 ((ho))) 2 (nI (st)))))])) s H := hG
  refine lv_dup C0.1 C0.2.1 dX1_digest_30 rfl ?_
  refine lv_iconst (v := nI 3) C0.1 C0.2.1 dX1_digest_31 (by decide) ?_
  refine lv_aload_n C0.1 C0.2.1 dX1_digest_32 rfl (lv_at hl 0 rfl) ?_
  refine tgX1_counted C0 hF hG w_counted dX1_digest_33 ?_
  refine tcz_ast (Y := wM h r1 r2 r3 r4 cI (nI (0)) tk co cn wk n ho st ct sp Z) (f := (upd (upd (upd (fun _ => 0) 0 (nI (n))) 1 ((ho))) 2 (nI (st)))) C0 hG0 hG hS (by decide) (by decide) dX1_digest_36 (fun H locs hG hS => ?_)
  have hG : tcG D cI cJ N0 (wM h r1 r2 r3 r4 cI (nI (0)) tk co cn wk n ho st ct sp (Z ++ [(qa, .inl (cI, 9, .inl (upd (upd (upd (upd (fun _ => 0) 0 (nI (n))) 1 ((ho))) 2 (nI (st))) 3 ((ct)))))])) s H := hG
  refine lv_dup C0.1 C0.2.1 dX1_digest_37 rfl ?_
  refine lv_iconst (v := nI 4) C0.1 C0.2.1 dX1_digest_38 (by decide) ?_
  refine lv_aload_n C0.1 C0.2.1 dX1_digest_39 rfl (lv_at hl 0 rfl) ?_
  refine tgX1_spent C0 hF hG w_spent dX1_digest_40 ?_
  refine tcz_ast (Y := wM h r1 r2 r3 r4 cI (nI (0)) tk co cn wk n ho st ct sp Z) (f := (upd (upd (upd (upd (fun _ => 0) 0 (nI (n))) 1 ((ho))) 2 (nI (st))) 3 ((ct)))) C0 hG0 hG hS (by decide) (by decide) dX1_digest_43 (fun H locs hG hS => ?_)
  have hG : tcG D cI cJ N0 (wM h r1 r2 r3 r4 cI (nI (0)) tk co cn wk n ho st ct sp (Z ++ [(qa, .inl (cI, 9, .inl (upd (upd (upd (upd (upd (fun _ => 0) 0 (nI (n))) 1 ((ho))) 2 (nI (st))) 3 ((ct))) 4 ((sp)))))])) s H := hG
  refine lv_dup C0.1 C0.2.1 dX1_digest_44 rfl ?_
  refine lv_iconst (v := nI 5) C0.1 C0.2.1 dX1_digest_45 (by decide) ?_
  refine lv_aload_n C0.1 C0.2.1 dX1_digest_46 rfl (lv_at hl 0 rfl) ?_
  refine tc_callV (q0 := 0) C0 hG hS rfl rfl (kX1_here hlf hk   ) (cwV 0 C0.2.2.2.2 gX1_digest_X1_here rfl rfl rfl (by decide +kernel) ⟨(Nat.le_of_ble_eq_true rfl), (Nat.le_of_ble_eq_true rfl)⟩) rfl hl rfl (Nat.le_of_ble_eq_true rfl) dX1_digest_47 ⟨(Nat.le_of_ble_eq_true rfl), (Nat.le_of_ble_eq_true rfl)⟩ (fun H locs hG hS => ?_)
  have b_47 := tw_le tk co cn wk 0 hk.2.2.2.2.1
  refine tcz_ast (Y := wM h r1 r2 r3 r4 cI (nI (0)) tk co cn wk n ho st ct sp Z) (f := (upd (upd (upd (upd (upd (fun _ => 0) 0 (nI (n))) 1 ((ho))) 2 (nI (st))) 3 ((ct))) 4 ((sp)))) C0 hG0 hG hS (by decide) (by decide) dX1_digest_50 (fun H locs hG hS => ?_)
  have hG : tcG D cI cJ N0 (wM h r1 r2 r3 r4 cI (nI (0)) tk co cn wk n ho st ct sp (Z ++ [(qa, .inl (cI, 9, .inl (upd (upd (upd (upd (upd (upd (fun _ => 0) 0 (nI (n))) 1 ((ho))) 2 (nI (st))) 3 ((ct))) 4 ((sp))) 5 (nI (tw tk co cn wk 0 n)))))])) s H := hG
  refine lv_dup C0.1 C0.2.1 dX1_digest_51 rfl ?_
  refine lv_bipush (v := nI 6) C0.1 C0.2.1 dX1_digest_52 (by decide) ?_
  refine lv_aload_n C0.1 C0.2.1 dX1_digest_54 rfl (lv_at hl 0 rfl) ?_
  refine tc_callV (q0 := 0) C0 hG hS rfl rfl (kX1_luckiest hlf hk   ) (cwV 0 C0.2.2.2.2 gX1_digest_X1_luckiest rfl rfl rfl (by decide +kernel) ⟨(Nat.le_of_ble_eq_true rfl), (Nat.le_of_ble_eq_true rfl)⟩) rfl hl rfl (Nat.le_of_ble_eq_true rfl) dX1_digest_55 ⟨(Nat.le_of_ble_eq_true rfl), (Nat.le_of_ble_eq_true rfl)⟩ (fun H locs hG hS => ?_)
  have b_55 := luckiest_le tk co hk.2.2.2.2.1
  refine tcz_ast (Y := wM h r1 r2 r3 r4 cI (nI (0)) tk co cn wk n ho st ct sp Z) (f := (upd (upd (upd (upd (upd (upd (fun _ => 0) 0 (nI (n))) 1 ((ho))) 2 (nI (st))) 3 ((ct))) 4 ((sp))) 5 (nI (tw tk co cn wk 0 n)))) C0 hG0 hG hS (by decide) (by decide) dX1_digest_58 (fun H locs hG hS => ?_)
  have hG : tcG D cI cJ N0 (wM h r1 r2 r3 r4 cI (nI (0)) tk co cn wk n ho st ct sp (Z ++ [(qa, .inl (cI, 9, .inl (upd (upd (upd (upd (upd (upd (upd (fun _ => 0) 0 (nI (n))) 1 ((ho))) 2 (nI (st))) 3 ((ct))) 4 ((sp))) 5 (nI (tw tk co cn wk 0 n))) 6 (iM (luckiest tk co n)))))])) s H := hG
  refine lv_dup C0.1 C0.2.1 dX1_digest_59 rfl ?_
  refine lv_bipush (v := nI 7) C0.1 C0.2.1 dX1_digest_60 (by decide) ?_
  refine lv_aload_n C0.1 C0.2.1 dX1_digest_62 rfl (lv_at hl 0 rfl) ?_
  refine tc_callV (q0 := 0) C0 hG hS rfl rfl (kX1_hourOfMost hlf hk   ) (cwV 0 C0.2.2.2.2 gX1_digest_X1_hourOfMost rfl rfl rfl (by decide +kernel) ⟨(Nat.le_of_ble_eq_true rfl), (Nat.le_of_ble_eq_true rfl)⟩) rfl hl rfl (Nat.le_of_ble_eq_true rfl) dX1_digest_63 ⟨(Nat.le_of_ble_eq_true rfl), (Nat.le_of_ble_eq_true rfl)⟩ (fun H locs hG hS => ?_)
  refine tcz_ast (Y := wM h r1 r2 r3 r4 cI (nI (0)) tk co cn wk n ho st ct sp Z) (f := (upd (upd (upd (upd (upd (upd (upd (fun _ => 0) 0 (nI (n))) 1 ((ho))) 2 (nI (st))) 3 ((ct))) 4 ((sp))) 5 (nI (tw tk co cn wk 0 n))) 6 (iM (luckiest tk co n)))) C0 hG0 hG hS (by decide) (by decide) dX1_digest_66 (fun H locs hG hS => ?_)
  have hG : tcG D cI cJ N0 (wM h r1 r2 r3 r4 cI (nI (0)) tk co cn wk n ho st ct sp (Z ++ [(qa, .inl (cI, 9, .inl (upd (upd (upd (upd (upd (upd (upd (upd (fun _ => 0) 0 (nI (n))) 1 ((ho))) 2 (nI (st))) 3 ((ct))) 4 ((sp))) 5 (nI (tw tk co cn wk 0 n))) 6 (iM (luckiest tk co n))) 7 (nI (bestHr tk co cn wk n)))))])) s H := hG
  refine lv_dup C0.1 C0.2.1 dX1_digest_67 rfl ?_
  refine lv_bipush (v := nI 8) C0.1 C0.2.1 dX1_digest_68 (by decide) ?_
  refine lv_aload_n C0.1 C0.2.1 dX1_digest_70 rfl (lv_at hl 0 rfl) ?_
  refine tc_callV (q0 := 0) C0 hG hS rfl rfl (kX1_swapOfMost hlf hk   ) (cwV 0 C0.2.2.2.2 gX1_digest_X1_swapOfMost rfl rfl rfl (by decide +kernel) ⟨(Nat.le_of_ble_eq_true rfl), (Nat.le_of_ble_eq_true rfl)⟩) rfl hl rfl (Nat.le_of_ble_eq_true rfl) dX1_digest_71 ⟨(Nat.le_of_ble_eq_true rfl), (Nat.le_of_ble_eq_true rfl)⟩ (fun H locs hG hS => ?_)
  refine tcz_ast (Y := wM h r1 r2 r3 r4 cI (nI (0)) tk co cn wk n ho st ct sp Z) (f := (upd (upd (upd (upd (upd (upd (upd (upd (fun _ => 0) 0 (nI (n))) 1 ((ho))) 2 (nI (st))) 3 ((ct))) 4 ((sp))) 5 (nI (tw tk co cn wk 0 n))) 6 (iM (luckiest tk co n))) 7 (nI (bestHr tk co cn wk n)))) C0 hG0 hG hS (by decide) (by decide) dX1_digest_74 (fun H locs hG hS => ?_)
  have hG : tcG D cI cJ N0 (wM h r1 r2 r3 r4 cI (nI (0)) tk co cn wk n ho st ct sp (Z ++ [(qa, .inl (cI, 9, .inl (upd (upd (upd (upd (upd (upd (upd (upd (upd (fun _ => 0) 0 (nI (n))) 1 ((ho))) 2 (nI (st))) 3 ((ct))) 4 ((sp))) 5 (nI (tw tk co cn wk 0 n))) 6 (iM (luckiest tk co n))) 7 (nI (bestHr tk co cn wk n))) 8 (iM (bestSw tk co cn wk n)))))])) s H := hG
  refine lv_astore_n (lv' := [(1, .ref qa), (0, .ref h)]) C0.1 C0.2.1 dX1_digest_75 rfl hl (by decide) rfl (fun ls hl => ?_)
  refine lv_ldc2 (v := 1979) C0.1 C0.2.1 C0.2.2.2.1 (C0.2.2.2.2 (.constantLong RX1 130 1979) (by decide +kernel)) dX1_digest_76 ?_
  refine lv_lstore_n (lv' := [(2, .long (1979)), (1, .ref qa), (0, .ref h)]) C0.1 C0.2.1 dX1_digest_79 rfl hl (by decide) rfl (fun ls hl => ?_)
  refine lv_aload_n C0.1 C0.2.1 dX1_digest_80 rfl (lv_at hl 1 rfl) ?_
  refine lv_astore (lv' := [(4, .ref qa), (2, .long (1979)), (1, .ref qa), (0, .ref h)]) C0.1 C0.2.1 dX1_digest_81 hl (by decide) rfl (fun ls hl => ?_)
  refine lv_aload C0.1 C0.2.1 dX1_digest_83 (lv_at hl 0 rfl) ?_
  refine va_alen C0.1 C0.2.1 hG.2.1 hG.1 (List.length (wM h r1 r2 r3 r4 cI (nI (0)) tk co cn wk n ho st ct sp Z)) 0 (tcz_get (Y := wM h r1 r2 r3 r4 cI (nI (0)) tk co cn wk n ho st ct sp Z)) rfl (v := nI 9) rfl dX1_digest_85 ?_
  refine lv_istore (lv' := [(5, .int (nI (9))), (4, .ref qa), (2, .long (1979)), (1, .ref qa), (0, .ref h)]) C0.1 C0.2.1 dX1_digest_86 hl (by decide) rfl (fun ls hl => ?_)
  refine lv_iconst (v := nI 0) C0.1 C0.2.1 dX1_digest_88 (by decide) ?_
  refine lv_istore (lv' := [(6, .int (nI (0))), (5, .int (nI (9))), (4, .ref qa), (2, .long (1979)), (1, .ref qa), (0, .ref h)]) C0.1 C0.2.1 dX1_digest_89 hl (by decide) rfl (fun ls hl => ?_)
  refine tc_nameQ (fun zQg zhQ => ?_)
  have cut_91 : ∀ (kf : Nat) (d0 : Int64) (i9 : Nat) (hi9 : i9 ≤ 9) (hd0 : d0 = dfo (upd (upd (upd (upd (upd (upd (upd (upd (upd (fun _ => 0) 0 (nI (n))) 1 ((ho))) 2 (nI (st))) 3 ((ct))) 4 ((sp))) 5 (nI (tw tk co cn wk 0 n))) 6 (iM (luckiest tk co n))) 7 (nI (bestHr tk co cn wk n))) 8 (iM (bestSw tk co cn wk n))) i9) (hm : 9 + 1 ≤ i9 + kf), ∀ (ls : Array Slot), lv_has ls 8 [(6, .int (nI (i9))), (5, .int (nI (9))), (4, .ref qa), (2, .long (d0)), (1, .ref qa), (0, .ref h)] → ∀ (H : Heap) (locs : List Loc), tcG D cI cJ N0 (wM h r1 r2 r3 r4 cI (nI (0)) tk co cn wk n ho st ct sp (Z ++ [(qa, .inl (cI, 9, .inl (upd (upd (upd (upd (upd (upd (upd (upd (upd (fun _ => 0) 0 (nI (n))) 1 ((ho))) 2 (nI (st))) 3 ((ct))) 4 ((sp))) 5 (nI (tw tk co cn wk 0 n))) 6 (iM (luckiest tk co n))) 7 (nI (bestHr tk co cn wk n))) 8 (iM (bestSw tk co cn wk n)))))])) s H → va_S (tcA N0) s.heap H locs → W p l e ({ frames := 5, cells := 1, slots := 9, locals := 119 } : Room) s m args below meth c H locs (0 + 1) (0 + 9) zQg (F0 m 91 ls []) := by
    intro kf
    induction kf with
    | zero => intro d0 i9 hi9 hd0 hm; exact absurd hm (by omega)
    | succ kf ih_91 =>
      intro d0 i9 hi9 hd0 hm ls hl H locs hG hS
      refine lv_iload C0.1 C0.2.1 dX1_digest_91 (lv_at hl 0 rfl) ?_
      refine lv_iload C0.1 C0.2.1 dX1_digest_93 (lv_at hl 1 rfl) ?_
      refine tn_icmp_ge (tgt := 121) C0.1 C0.2.1 dX1_digest_95 (by decide) (by omega) (by omega) (fun c_95 => ?_) (fun c_95 => ?_)
      · refine lv_iconst (v := nI 0) C0.1 C0.2.1 dX1_digest_121 (by decide) ?_
        refine lv_istore (lv' := [(4, .int (nI (0))), (6, .int (nI (i9))), (5, .int (nI (9))), (2, .long (d0)), (1, .ref qa), (0, .ref h)]) C0.1 C0.2.1 dX1_digest_122 hl (by decide) rfl (fun ls hl => ?_)
        have cut_124 : ∀ (kf : Nat) (d1 : Int64) (c9 : Nat) (hc9 : c9 ≤ 6) (hd1 : d1 = dgC tk co cn n (dgB tk co cn wk n ho st ct sp) c9) (hm : 6 + 1 ≤ c9 + kf), ∀ (ls : Array Slot), lv_has ls 8 [(4, .int (nI (c9))), (2, .long (d1)), (1, .ref qa), (0, .ref h)] → ∀ (H : Heap) (locs : List Loc), tcG D cI cJ N0 (wM h r1 r2 r3 r4 cI (nI (0)) tk co cn wk n ho st ct sp (Z ++ [(qa, .inl (cI, 9, .inl (upd (upd (upd (upd (upd (upd (upd (upd (upd (fun _ => 0) 0 (nI (n))) 1 ((ho))) 2 (nI (st))) 3 ((ct))) 4 ((sp))) 5 (nI (tw tk co cn wk 0 n))) 6 (iM (luckiest tk co n))) 7 (nI (bestHr tk co cn wk n))) 8 (iM (bestSw tk co cn wk n)))))])) s H → va_S (tcA N0) s.heap H locs → W p l e ({ frames := 5, cells := 1, slots := 9, locals := 119 } : Room) s m args below meth c H locs (0 + 1) (0 + 9) zQg (F0 m 124 ls []) := by
          intro kf
          induction kf with
          | zero => intro d1 c9 hc9 hd1 hm; exact absurd hm (by omega)
          | succ kf ih_124 =>
            intro d1 c9 hc9 hd1 hm ls hl H locs hG hS
            refine lv_iload C0.1 C0.2.1 dX1_digest_124 (lv_at hl 0 rfl) ?_
            refine lv_bipush (v := nI 6) C0.1 C0.2.1 dX1_digest_126 (by decide) ?_
            refine tn_icmp_ge (tgt := 164) C0.1 C0.2.1 dX1_digest_128 (by decide) (by omega) (by omega) (fun c_128 => ?_) (fun c_128 => ?_)
            · refine lv_iconst (v := nI 0) C0.1 C0.2.1 dX1_digest_164 (by decide) ?_
              refine lv_istore (lv' := [(4, .int (nI (0))), (2, .long (d1)), (1, .ref qa), (0, .ref h)]) C0.1 C0.2.1 dX1_digest_165 hl (by decide) rfl (fun ls hl => ?_)
              have cut_167 : ∀ (kf : Nat) (d2 : Int64) (k9 : Nat) (hk9 : k9 ≤ n) (hd2 : d2 = dgK tk co cn wk n (dgC tk co cn n (dgB tk co cn wk n ho st ct sp) 6) k9) (hm : n + 1 ≤ k9 + kf), ∀ (ls : Array Slot), lv_has ls 8 [(4, .int (nI (k9))), (2, .long (d2)), (1, .ref qa), (0, .ref h)] → ∀ (H : Heap) (locs : List Loc), tcG D cI cJ N0 (wM h r1 r2 r3 r4 cI (nI (0)) tk co cn wk n ho st ct sp (Z ++ [(qa, .inl (cI, 9, .inl (upd (upd (upd (upd (upd (upd (upd (upd (upd (fun _ => 0) 0 (nI (n))) 1 ((ho))) 2 (nI (st))) 3 ((ct))) 4 ((sp))) 5 (nI (tw tk co cn wk 0 n))) 6 (iM (luckiest tk co n))) 7 (nI (bestHr tk co cn wk n))) 8 (iM (bestSw tk co cn wk n)))))])) s H → va_S (tcA N0) s.heap H locs → W p l e ({ frames := 5, cells := 1, slots := 9, locals := 119 } : Room) s m args below meth c H locs (0 + 1) (0 + 9) zQg (F0 m 167 ls []) := by
                intro kf
                induction kf with
                | zero => intro d2 k9 hk9 hd2 hm; exact absurd hm (by omega)
                | succ kf ih_167 =>
                  intro d2 k9 hk9 hd2 hm ls hl H locs hG hS
                  refine lv_iload C0.1 C0.2.1 dX1_digest_167 (lv_at hl 0 rfl) ?_
                  refine lv_aload_n C0.1 C0.2.1 dX1_digest_169 rfl (lv_at hl 3 rfl) ?_
                  refine tgX1_people C0 hF hG w_people dX1_digest_170 ?_
                  refine tn_icmp_ge (tgt := 270) C0.1 C0.2.1 dX1_digest_173 (by decide) (by omega) (by omega) (fun c_173 => ?_) (fun c_173 => ?_)
                  · refine lv_lload_n C0.1 C0.2.1 dX1_digest_270 rfl (lv_at hl 1 rfl) ?_
                    subst zhQ
                    exact tc_lret C0 hr hlk (tcG.init (Y := wM h r1 r2 r3 r4 cI (nI 0) tk co cn wk n ho st ct sp Z) hG) hS rfl (by rw [hd2, show k9 = n by omega]; rfl) (Nat.le_of_ble_eq_true rfl) (Nat.le_of_ble_eq_true rfl) dX1_digest_271
                  · refine lv_lload_n C0.1 C0.2.1 dX1_digest_176 rfl (lv_at hl 1 rfl) ?_
                    refine lv_ldc2 (v := 31) C0.1 C0.2.1 C0.2.2.2.1 (C0.2.2.2.2 (.constantLong RX1 132 31) (by decide +kernel)) dX1_digest_177 ?_
                    refine lv_lmul C0.1 C0.2.1 dX1_digest_180 ?_
                    refine lv_aload_n C0.1 C0.2.1 dX1_digest_181 rfl (lv_at hl 3 rfl) ?_
                    refine tgX1_ticket C0 hF hG w_ticket dX1_digest_182 ?_
                    refine lv_iload C0.1 C0.2.1 dX1_digest_185 (lv_at hl 0 rfl) ?_
                    refine tc_ald (q0 := 1) C0 hG rfl (by omega) dX1_digest_187 ?_
                    have b_187 := hk1 (k9)
                    refine lv_i2l C0.1 C0.2.1 dX1_digest_188 rfl ?_
                    refine lv_ladd C0.1 C0.2.1 dX1_digest_189 ?_
                    refine lv_ldc2 (v := 31) C0.1 C0.2.1 C0.2.2.2.1 (C0.2.2.2.2 (.constantLong RX1 132 31) (by decide +kernel)) dX1_digest_190 ?_
                    refine lv_lmul C0.1 C0.2.1 dX1_digest_193 ?_
                    refine lv_aload_n C0.1 C0.2.1 dX1_digest_194 rfl (lv_at hl 3 rfl) ?_
                    refine tgX1_colour C0 hF hG w_colour dX1_digest_195 ?_
                    refine lv_iload C0.1 C0.2.1 dX1_digest_198 (lv_at hl 0 rfl) ?_
                    refine tc_ald (q0 := 2) C0 hG rfl (by omega) dX1_digest_200 ?_
                    have b_200 := hk2 (k9)
                    refine lv_i2l C0.1 C0.2.1 dX1_digest_201 rfl ?_
                    refine lv_ladd C0.1 C0.2.1 dX1_digest_202 ?_
                    refine lv_lstore_n (lv' := [(2, .long (((((d2) * (31)) + ((nI (tk (k9))).toInt64)) * (31)) + ((nI (co (k9))).toInt64))), (4, .int (nI (k9))), (1, .ref qa), (0, .ref h)]) C0.1 C0.2.1 dX1_digest_203 rfl hl (by decide) rfl (fun ls hl => ?_)
                    refine lv_lload_n C0.1 C0.2.1 dX1_digest_204 rfl (lv_at hl 0 rfl) ?_
                    refine lv_ldc2 (v := 31) C0.1 C0.2.1 C0.2.2.2.1 (C0.2.2.2.2 (.constantLong RX1 132 31) (by decide +kernel)) dX1_digest_205 ?_
                    refine lv_lmul C0.1 C0.2.1 dX1_digest_208 ?_
                    refine lv_aload_n C0.1 C0.2.1 dX1_digest_209 rfl (lv_at hl 3 rfl) ?_
                    refine tgX1_corner C0 hF hG w_corner dX1_digest_210 ?_
                    refine lv_iload C0.1 C0.2.1 dX1_digest_213 (lv_at hl 1 rfl) ?_
                    refine tc_ald (q0 := 3) C0 hG rfl (by omega) dX1_digest_215 ?_
                    have b_215 := hk3 (k9)
                    refine lv_i2l C0.1 C0.2.1 dX1_digest_216 rfl ?_
                    refine lv_ladd C0.1 C0.2.1 dX1_digest_217 ?_
                    refine lv_ldc2 (v := 31) C0.1 C0.2.1 C0.2.2.2.1 (C0.2.2.2.2 (.constantLong RX1 132 31) (by decide +kernel)) dX1_digest_218 ?_
                    refine lv_lmul C0.1 C0.2.1 dX1_digest_221 ?_
                    refine lv_aload_n C0.1 C0.2.1 dX1_digest_222 rfl (lv_at hl 3 rfl) ?_
                    refine tgX1_walk C0 hF hG w_walk dX1_digest_223 ?_
                    refine lv_iload C0.1 C0.2.1 dX1_digest_226 (lv_at hl 1 rfl) ?_
                    refine tc_ald (q0 := 4) C0 hG rfl (by omega) dX1_digest_228 ?_
                    have b_228 := hk4 (k9)
                    refine lv_i2l C0.1 C0.2.1 dX1_digest_229 rfl ?_
                    refine lv_ladd C0.1 C0.2.1 dX1_digest_230 ?_
                    refine lv_lstore_n (lv' := [(2, .long (((((((((d2) * (31)) + ((nI (tk (k9))).toInt64)) * (31)) + ((nI (co (k9))).toInt64)) * (31)) + ((nI (cn (k9))).toInt64)) * (31)) + ((nI (wk (k9))).toInt64))), (4, .int (nI (k9))), (1, .ref qa), (0, .ref h)]) C0.1 C0.2.1 dX1_digest_231 rfl hl (by decide) rfl (fun ls hl => ?_)
                    refine lv_lload_n C0.1 C0.2.1 dX1_digest_232 rfl (lv_at hl 0 rfl) ?_
                    refine lv_ldc2 (v := 31) C0.1 C0.2.1 C0.2.2.2.1 (C0.2.2.2.2 (.constantLong RX1 132 31) (by decide +kernel)) dX1_digest_233 ?_
                    refine lv_lmul C0.1 C0.2.1 dX1_digest_236 ?_
                    refine lv_aload_n C0.1 C0.2.1 dX1_digest_237 rfl (lv_at hl 3 rfl) ?_
                    refine lv_iload C0.1 C0.2.1 dX1_digest_238 (lv_at hl 1 rfl) ?_
                    refine tc_callV (q0 := 0) C0 hG hS rfl rfl (kX1_luck hlf hk  (k9) (by omega)) (cwV 1 C0.2.2.2.2 gX1_digest_X1_luck rfl rfl rfl (by decide +kernel) ⟨(Nat.le_of_ble_eq_true rfl), (Nat.le_of_ble_eq_true rfl)⟩) rfl hl rfl (Nat.le_of_ble_eq_true rfl) dX1_digest_240 ⟨(Nat.le_of_ble_eq_true rfl), (Nat.le_of_ble_eq_true rfl)⟩ (fun H locs hG hS => ?_)
                    have b_240 := (show lkn tk co cn k9 n ≤ 156 from lw_le tk co cn k9 (tk k9) (cn k9) hk.2.2.2.2.1)
                    refine lv_i2l C0.1 C0.2.1 dX1_digest_243 rfl ?_
                    refine lv_ladd C0.1 C0.2.1 dX1_digest_244 ?_
                    refine lv_ldc2 (v := 31) C0.1 C0.2.1 C0.2.2.2.1 (C0.2.2.2.2 (.constantLong RX1 132 31) (by decide +kernel)) dX1_digest_245 ?_
                    refine lv_lmul C0.1 C0.2.1 dX1_digest_248 ?_
                    refine lv_aload_n C0.1 C0.2.1 dX1_digest_249 rfl (lv_at hl 3 rfl) ?_
                    refine lv_aload_n C0.1 C0.2.1 dX1_digest_250 rfl (lv_at hl 3 rfl) ?_
                    refine tgX1_corner C0 hF hG w_corner dX1_digest_251 ?_
                    refine lv_iload C0.1 C0.2.1 dX1_digest_254 (lv_at hl 1 rfl) ?_
                    refine lv_bipush (v := nI 6) C0.1 C0.2.1 dX1_digest_256 (by decide) ?_
                    refine tc_callV (q0 := 0) C0 hG hS rfl rfl (kX1_bestOf_cn hlf hk  (k9) (6) (by omega) rfl) (cwV 3 C0.2.2.2.2 gX1_digest_X1_bestOf rfl rfl rfl (by decide +kernel) ⟨(Nat.le_of_ble_eq_true rfl), (Nat.le_of_ble_eq_true rfl)⟩) rfl hl rfl (Nat.le_of_ble_eq_true rfl) dX1_digest_258 ⟨(Nat.le_of_ble_eq_true rfl), (Nat.le_of_ble_eq_true rfl)⟩ (fun H locs hG hS => ?_)
                    refine lv_i2l C0.1 C0.2.1 dX1_digest_261 rfl ?_
                    refine lv_ladd C0.1 C0.2.1 dX1_digest_262 ?_
                    refine lv_lstore_n (lv' := [(2, .long (((((((((((((d2) * (31)) + ((nI (tk (k9))).toInt64)) * (31)) + ((nI (co (k9))).toInt64)) * (31)) + ((nI (cn (k9))).toInt64)) * (31)) + ((nI (wk (k9))).toInt64)) * (31)) + ((nI (lkn tk co cn k9 n)).toInt64)) * (31)) + ((nI (bestCn tk co cn k9 n)).toInt64))), (4, .int (nI (k9))), (1, .ref qa), (0, .ref h)]) C0.1 C0.2.1 dX1_digest_263 rfl hl (by decide) rfl (fun ls hl => ?_)
                    refine tn_iinc (lv' := [(4, .int (nI (k9 + 1))), (2, .long (((((((((((((d2) * (31)) + ((nI (tk (k9))).toInt64)) * (31)) + ((nI (co (k9))).toInt64)) * (31)) + ((nI (cn (k9))).toInt64)) * (31)) + ((nI (wk (k9))).toInt64)) * (31)) + ((nI (lkn tk co cn k9 n)).toInt64)) * (31)) + ((nI (bestCn tk co cn k9 n)).toInt64))), (1, .ref qa), (0, .ref h)]) C0.1 C0.2.1 dX1_digest_264 hl (k := 1) rfl (by decide) rfl (fun ls hl => ?_)
                    refine lv_goto (tgt := 167) C0.1 C0.2.1 dX1_digest_267 (by decide) ?_
                    exact ih_167 (((((((((((((d2) * (31)) + ((nI (tk (k9))).toInt64)) * (31)) + ((nI (co (k9))).toInt64)) * (31)) + ((nI (cn (k9))).toInt64)) * (31)) + ((nI (wk (k9))).toInt64)) * (31)) + ((nI (lkn tk co cn k9 n)).toInt64)) * (31)) + ((nI (bestCn tk co cn k9 n)).toInt64)) (k9 + 1) (by omega) (by rw [hd2]; rfl) (by omega) ls (lv_sub hl [0, 1, 2, 3] rfl) _ _ hG hS
              exact cut_167 (n + 1) (d1) (0) (by omega) (by rw [hd1, show c9 = 6 by omega]; rfl) (by omega) ls (lv_sub hl [0, 1, 2, 3] rfl) _ _ hG hS
            · refine lv_lload_n C0.1 C0.2.1 dX1_digest_131 rfl (lv_at hl 1 rfl) ?_
              refine lv_ldc2 (v := 31) C0.1 C0.2.1 C0.2.2.2.1 (C0.2.2.2.2 (.constantLong RX1 132 31) (by decide +kernel)) dX1_digest_132 ?_
              refine lv_lmul C0.1 C0.2.1 dX1_digest_135 ?_
              refine lv_aload_n C0.1 C0.2.1 dX1_digest_136 rfl (lv_at hl 3 rfl) ?_
              refine lv_iload C0.1 C0.2.1 dX1_digest_137 (lv_at hl 0 rfl) ?_
              refine tc_callV (q0 := 0) C0 hG hS rfl rfl (kX1_at hlf hk  (c9) (by omega)) (cwV 1 C0.2.2.2.2 gX1_digest_X1_at rfl rfl rfl (by decide +kernel) ⟨(Nat.le_of_ble_eq_true rfl), (Nat.le_of_ble_eq_true rfl)⟩) rfl hl rfl (Nat.le_of_ble_eq_true rfl) dX1_digest_139 ⟨(Nat.le_of_ble_eq_true rfl), (Nat.le_of_ble_eq_true rfl)⟩ (fun H locs hG hS => ?_)
              have b_139 := crowd_le cn c9 hk.2.2.2.2.1
              refine lv_i2l C0.1 C0.2.1 dX1_digest_142 rfl ?_
              refine lv_ladd C0.1 C0.2.1 dX1_digest_143 ?_
              refine lv_ldc2 (v := 31) C0.1 C0.2.1 C0.2.2.2.1 (C0.2.2.2.2 (.constantLong RX1 132 31) (by decide +kernel)) dX1_digest_144 ?_
              refine lv_lmul C0.1 C0.2.1 dX1_digest_147 ?_
              refine lv_aload_n C0.1 C0.2.1 dX1_digest_148 rfl (lv_at hl 3 rfl) ?_
              refine lv_iconst (v := nI 0) C0.1 C0.2.1 dX1_digest_149 (by decide) ?_
              refine lv_iload C0.1 C0.2.1 dX1_digest_150 (lv_at hl 0 rfl) ?_
              refine tc_top (iM_s (c9)).symm ?_
              refine tc_callV (q0 := 0) C0 hG hS rfl rfl (kX1_town hlf hk  (0) (c9 + 1) (by omega) (by omega)) (cwV 2 C0.2.2.2.2 gX1_digest_X1_town rfl rfl rfl (by decide +kernel) ⟨(Nat.le_of_ble_eq_true rfl), (Nat.le_of_ble_eq_true rfl)⟩) rfl hl rfl (Nat.le_of_ble_eq_true rfl) dX1_digest_152 ⟨(Nat.le_of_ble_eq_true rfl), (Nat.le_of_ble_eq_true rfl)⟩ (fun H locs hG hS => ?_)
              have b_152 := twm_le tk co cn wk 0 (c9 + 1) hk.2.2.2.2.1
              refine lv_i2l C0.1 C0.2.1 dX1_digest_155 rfl ?_
              refine lv_ladd C0.1 C0.2.1 dX1_digest_156 ?_
              refine lv_lstore_n (lv' := [(2, .long (((((d1) * (31)) + ((nI (crowd cn c9 n)).toInt64)) * (31)) + ((nI (twm tk co cn wk 0 (c9 + 1) n)).toInt64))), (4, .int (nI (c9))), (1, .ref qa), (0, .ref h)]) C0.1 C0.2.1 dX1_digest_157 rfl hl (by decide) rfl (fun ls hl => ?_)
              refine tn_iinc (lv' := [(4, .int (nI (c9 + 1))), (2, .long (((((d1) * (31)) + ((nI (crowd cn c9 n)).toInt64)) * (31)) + ((nI (twm tk co cn wk 0 (c9 + 1) n)).toInt64))), (1, .ref qa), (0, .ref h)]) C0.1 C0.2.1 dX1_digest_158 hl (k := 1) rfl (by decide) rfl (fun ls hl => ?_)
              refine lv_goto (tgt := 124) C0.1 C0.2.1 dX1_digest_161 (by decide) ?_
              exact ih_124 (((((d1) * (31)) + ((nI (crowd cn c9 n)).toInt64)) * (31)) + ((nI (twm tk co cn wk 0 (c9 + 1) n)).toInt64)) (c9 + 1) (by omega) (by rw [hd1, twm_at wk c9 n hk3]; rfl) (by omega) ls (lv_sub hl [0, 1, 2, 3] rfl) _ _ hG hS
        exact cut_124 (6 + 1) (d0) (0) (by omega) (by rw [hd0, show i9 = 9 by omega]; rfl) (by omega) ls (lv_sub hl [0, 3, 4, 5] rfl) _ _ hG hS
      · refine lv_aload C0.1 C0.2.1 dX1_digest_98 (lv_at hl 2 rfl) ?_
        refine lv_iload C0.1 C0.2.1 dX1_digest_100 (lv_at hl 0 rfl) ?_
        refine tcz_ald (Y := wM h r1 r2 r3 r4 cI (nI (0)) tk co cn wk n ho st ct sp Z) C0 hG (by omega) (by decide) dX1_digest_102 ?_
        refine lv_istore (lv' := [(7, .int ((upd (upd (upd (upd (upd (upd (upd (upd (upd (fun _ => 0) 0 (nI (n))) 1 ((ho))) 2 (nI (st))) 3 ((ct))) 4 ((sp))) 5 (nI (tw tk co cn wk 0 n))) 6 (iM (luckiest tk co n))) 7 (nI (bestHr tk co cn wk n))) 8 (iM (bestSw tk co cn wk n))) (i9))), (6, .int (nI (i9))), (5, .int (nI (9))), (4, .ref qa), (2, .long (d0)), (1, .ref qa), (0, .ref h)]) C0.1 C0.2.1 dX1_digest_103 hl (by decide) rfl (fun ls hl => ?_)
        refine lv_lload_n C0.1 C0.2.1 dX1_digest_105 rfl (lv_at hl 4 rfl) ?_
        refine lv_ldc2 (v := 31) C0.1 C0.2.1 C0.2.2.2.1 (C0.2.2.2.2 (.constantLong RX1 132 31) (by decide +kernel)) dX1_digest_106 ?_
        refine lv_lmul C0.1 C0.2.1 dX1_digest_109 ?_
        refine lv_iload C0.1 C0.2.1 dX1_digest_110 (lv_at hl 0 rfl) ?_
        refine lv_i2l C0.1 C0.2.1 dX1_digest_112 rfl ?_
        refine lv_ladd C0.1 C0.2.1 dX1_digest_113 ?_
        refine lv_lstore_n (lv' := [(2, .long (((d0) * (31)) + ((((upd (upd (upd (upd (upd (upd (upd (upd (upd (fun _ => 0) 0 (nI (n))) 1 ((ho))) 2 (nI (st))) 3 ((ct))) 4 ((sp))) 5 (nI (tw tk co cn wk 0 n))) 6 (iM (luckiest tk co n))) 7 (nI (bestHr tk co cn wk n))) 8 (iM (bestSw tk co cn wk n))) (i9))).toInt64))), (7, .int ((upd (upd (upd (upd (upd (upd (upd (upd (upd (fun _ => 0) 0 (nI (n))) 1 ((ho))) 2 (nI (st))) 3 ((ct))) 4 ((sp))) 5 (nI (tw tk co cn wk 0 n))) 6 (iM (luckiest tk co n))) 7 (nI (bestHr tk co cn wk n))) 8 (iM (bestSw tk co cn wk n))) (i9))), (6, .int (nI (i9))), (5, .int (nI (9))), (4, .ref qa), (1, .ref qa), (0, .ref h)]) C0.1 C0.2.1 dX1_digest_114 rfl hl (by decide) rfl (fun ls hl => ?_)
        refine tn_iinc (lv' := [(6, .int (nI (i9 + 1))), (2, .long (((d0) * (31)) + ((((upd (upd (upd (upd (upd (upd (upd (upd (upd (fun _ => 0) 0 (nI (n))) 1 ((ho))) 2 (nI (st))) 3 ((ct))) 4 ((sp))) 5 (nI (tw tk co cn wk 0 n))) 6 (iM (luckiest tk co n))) 7 (nI (bestHr tk co cn wk n))) 8 (iM (bestSw tk co cn wk n))) (i9))).toInt64))), (7, .int ((upd (upd (upd (upd (upd (upd (upd (upd (upd (fun _ => 0) 0 (nI (n))) 1 ((ho))) 2 (nI (st))) 3 ((ct))) 4 ((sp))) 5 (nI (tw tk co cn wk 0 n))) 6 (iM (luckiest tk co n))) 7 (nI (bestHr tk co cn wk n))) 8 (iM (bestSw tk co cn wk n))) (i9))), (5, .int (nI (9))), (4, .ref qa), (1, .ref qa), (0, .ref h)]) C0.1 C0.2.1 dX1_digest_115 hl (k := 2) rfl (by decide) rfl (fun ls hl => ?_)
        refine lv_goto (tgt := 91) C0.1 C0.2.1 dX1_digest_118 (by decide) ?_
        exact ih_91 (((d0) * (31)) + ((((upd (upd (upd (upd (upd (upd (upd (upd (upd (fun _ => 0) 0 (nI (n))) 1 ((ho))) 2 (nI (st))) 3 ((ct))) 4 ((sp))) 5 (nI (tw tk co cn wk 0 n))) 6 (iM (luckiest tk co n))) 7 (nI (bestHr tk co cn wk n))) 8 (iM (bestSw tk co cn wk n))) (i9))).toInt64)) (i9 + 1) (by omega) (by rw [hd0]; rfl) (by omega) ls (lv_sub hl [0, 3, 4, 1, 5, 6] rfl) _ _ hG hS
  exact cut_91 (9 + 1) (1979) (0) (by omega) rfl (by omega) ls (lv_sub hl [0, 1, 2, 3, 4, 5] rfl) _ _ hG hS
