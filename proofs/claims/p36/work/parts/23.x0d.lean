/-! the class where it does not throw -/
set_option maxHeartbeats 4000000 in
set_option maxRecDepth 100000 in
theorem kX0_meanLuck {l : Launch} (hlf : l.stackTraces = false) {D : va_G} {cI cJ : ClassId} {N0 : Nat} {h r1 r2 r3 r4 : Nat} {tk co cn wk : Nat → Nat} {n st : Nat} {ho ct sp : Int32} {Z : va_W} (hk : tOk tk co cn wk n st)   : tcM l yX0_meanLuck wsX0_meanLuck { frames := 4, cells := 0, slots := 0, locals := 89 } [] 0 [.ref h] D cI cJ N0 (wT h r1 r2 r3 r4 cI tk co cn wk n ho st ct sp Z) (some (.double (mlk tk co cn wk n))) (wT h r1 r2 r3 r4 cI tk co cn wk n ho st ct sp Z) 0 0 := by
  refine tcM.of (cc := cX0_meanLuck) (maxL := 3) (ret := (some .double)) (by decide) rfl (Nat.le_of_ble_eq_true rfl) ?_
  intro p e s m args below meth c C0 hr hlk ht hmn hG ls hl
  have hl : lv_has ls 3 [(0, .ref h)] := hl
  obtain ⟨hk1, hk2, hk3, hk4, hn12, hst⟩ := id hk
  have hG0 := hG
  have hS : va_S (tcA N0) s.heap s.heap [] := va_S.rf
  have hF : ∀ w ∈ wsX00, w ∈ wsX0_meanLuck := by decide +kernel
  have w_people : Cond.fieldLink RX0 22 "TicketCoincidences" "people" "I" ∈ wsX0_meanLuck := by decide +kernel
  refine lv_aload_n C0.1 C0.2.1 dX0_meanLuck_0 rfl (lv_at hl 0 rfl) ?_
  refine tgX0_people C0 hF hG w_people dX0_meanLuck_1 ?_
  refine tn_if_ne (tgt := 9) C0.1 C0.2.1 dX0_meanLuck_4 (by decide) (by omega) (fun c_4 => ?_) (fun c_4 => ?_)
  · refine lv_iconst (v := nI 0) C0.1 C0.2.1 dX0_meanLuck_9 (by decide) ?_
    refine lv_istore_n (lv' := [(1, .int (nI (0))), (0, .ref h)]) C0.1 C0.2.1 dX0_meanLuck_10 rfl hl (by decide) rfl (fun ls hl => ?_)
    refine lv_iconst (v := nI 0) C0.1 C0.2.1 dX0_meanLuck_11 (by decide) ?_
    refine lv_istore_n (lv' := [(2, .int (nI (0))), (1, .int (nI (0))), (0, .ref h)]) C0.1 C0.2.1 dX0_meanLuck_12 rfl hl (by decide) rfl (fun ls hl => ?_)
    refine tc_nameQ (fun zQg zhQ => ?_)
    have cut_13 : ∀ (kf : Nat) (q : Nat) (i : Nat) (hi : i ≤ n) (hq : q = sm (fun k => lkn tk co cn k n) i) (hm : n + 1 ≤ i + kf), ∀ (ls : Array Slot), lv_has ls 3 [(2, .int (nI (i))), (1, .int (nI (q))), (0, .ref h)] → ∀ (H : Heap) (locs : List Loc), tcG D cI cJ N0 (wT h r1 r2 r3 r4 cI tk co cn wk n ho st ct sp Z) s H → va_S (tcA N0) s.heap H locs → W p l e ({ frames := 4, cells := 0, slots := 0, locals := 89 } : Room) s m args below meth c H locs (0) (0) zQg (F0 m 13 ls []) := by
      intro kf
      induction kf with
      | zero => intro q i hi hq hm; exact absurd hm (by omega)
      | succ kf ih_13 =>
        intro q i hi hq hm ls hl H locs hG hS
        refine lv_iload_n C0.1 C0.2.1 dX0_meanLuck_13 rfl (lv_at hl 0 rfl) ?_
        refine lv_aload_n C0.1 C0.2.1 dX0_meanLuck_14 rfl (lv_at hl 2 rfl) ?_
        refine tgX0_people C0 hF hG w_people dX0_meanLuck_15 ?_
        refine tn_icmp_ge (tgt := 35) C0.1 C0.2.1 dX0_meanLuck_18 (by decide) (by omega) (by omega) (fun c_18 => ?_) (fun c_18 => ?_)
        · have hq9 : q = 2 * tw tk co cn wk 0 n := by rw [hq, show i = n by omega]; exact lkn_sum wk n hk3
          refine lv_iload_n C0.1 C0.2.1 dX0_meanLuck_35 rfl (lv_at hl 1 rfl) ?_
          refine lv_i2d C0.1 C0.2.1 dX0_meanLuck_36 ?_
          refine lv_aload_n C0.1 C0.2.1 dX0_meanLuck_37 rfl (lv_at hl 2 rfl) ?_
          refine tgX0_people C0 hF hG w_people dX0_meanLuck_38 ?_
          refine lv_i2d C0.1 C0.2.1 dX0_meanLuck_41 ?_
          refine lv_ddiv C0.1 C0.2.1 dX0_meanLuck_42 (by rw [hq9]; exact (ml_ok (by omega) hn12 (tw_tri tk co cn wk 0 n)).1) ?_
          subst zhQ
          exact tc_dret C0 hr hlk hG hS rfl (by rw [hq9]; unfold mlk; rw [if_neg (by omega)]) (Nat.le_of_ble_eq_true rfl) (Nat.le_of_ble_eq_true rfl) dX0_meanLuck_43
        · refine lv_iload_n C0.1 C0.2.1 dX0_meanLuck_21 rfl (lv_at hl 1 rfl) ?_
          refine lv_aload_n C0.1 C0.2.1 dX0_meanLuck_22 rfl (lv_at hl 2 rfl) ?_
          refine lv_iload_n C0.1 C0.2.1 dX0_meanLuck_23 rfl (lv_at hl 0 rfl) ?_
          refine tc_callV (q0 := 0) C0 hG hS rfl rfl (kX0_luckNow hlf hk  (i) (by omega)) (cwV 1 C0.2.2.2.2 gX0_meanLuck_X0_luckNow rfl rfl rfl (by decide +kernel) ⟨(Nat.le_of_ble_eq_true rfl), (Nat.le_of_ble_eq_true rfl)⟩) rfl hl rfl (Nat.le_of_ble_eq_true rfl) dX0_meanLuck_24 ⟨(Nat.le_of_ble_eq_true rfl), (Nat.le_of_ble_eq_true rfl)⟩ (fun H locs hG hS => ?_)
          have b_24 := (show lkn tk co cn i n ≤ 156 from lw_le tk co cn i (tk i) (cn i) hk.2.2.2.2.1)
          refine tn_iadd C0.1 C0.2.1 dX0_meanLuck_27 ?_
          refine lv_istore_n (lv' := [(1, .int (nI (q + (lkn tk co cn i n)))), (2, .int (nI (i))), (0, .ref h)]) C0.1 C0.2.1 dX0_meanLuck_28 rfl hl (by decide) rfl (fun ls hl => ?_)
          refine tn_iinc (lv' := [(2, .int (nI (i + 1))), (1, .int (nI (q + (lkn tk co cn i n)))), (0, .ref h)]) C0.1 C0.2.1 dX0_meanLuck_29 hl (k := 1) rfl (by decide) rfl (fun ls hl => ?_)
          refine lv_goto (tgt := 13) C0.1 C0.2.1 dX0_meanLuck_32 (by decide) ?_
          exact ih_13 (q + (lkn tk co cn i n)) (i + 1) (by omega) (sm_step hq rfl) (by omega) ls (lv_sub hl [0, 1, 2] rfl) _ _ hG hS
    exact cut_13 (n + 1) (0) (0) (by omega) rfl (by omega) ls (lv_sub hl [0, 1, 2] rfl) _ _ hG hS
  · refine lv_dconst0 C0.1 C0.2.1 dX0_meanLuck_7 ?_
    exact tc_dret C0 hr hlk hG hS rfl (by unfold mlk; rw [if_pos c_4]; rfl) (Nat.le_of_ble_eq_true rfl) (Nat.le_of_ble_eq_true rfl) dX0_meanLuck_8
set_option maxHeartbeats 4000000 in
set_option maxRecDepth 100000 in
theorem kX0_requireCorner_in {l : Launch} (hlf : l.stackTraces = false) {D : va_G} {cI cJ : ClassId} {N0 : Nat} {ws : va_W} (x : Nat) (h1 : x < 6) : tcM l yX0_requireCorner wsX0_requireCorner { frames := 1, cells := 0, slots := 0, locals := 20 } [] 0 [.int (nI (x))] D cI cJ N0 (ws) none (ws) 0 0 := by
  refine tcM.of (cc := cX0_requireCorner) (maxL := 1) (ret := none) (by decide) rfl (Nat.le_of_ble_eq_true rfl) ?_
  intro p e s m args below meth c C0 hr hlk ht hmn hG ls hl
  have hl : lv_has ls 1 [(0, .int (nI (x)))] := hl
  have hG0 := hG
  have hS : va_S (tcA N0) s.heap s.heap [] := va_S.rf
  refine lv_iload_n C0.1 C0.2.1 dX0_requireCorner_0 rfl (lv_at hl 0 rfl) ?_
  refine tc_callS C0 hG hS (kX0_isCorner hlf  (nI (x)) ) (va_cwS 1 C0.2.2.2.2 gX0_requireCorner_X0_isCorner rfl rfl rfl (by decide +kernel) ⟨(Nat.le_of_ble_eq_true rfl), (Nat.le_of_ble_eq_true rfl)⟩) rfl hl rfl (Nat.le_of_ble_eq_true rfl) dX0_requireCorner_1 ⟨(Nat.le_of_ble_eq_true rfl), (Nat.le_of_ble_eq_true rfl)⟩ (fun H locs hG hS => ?_)
  refine tb_if_ne (tgt := 17) C0.1 C0.2.1 dX0_requireCorner_4 (by decide) (fun c_4 => ?_) (fun c_4 => ?_)
  · exact tc_vret C0 hr hlk hG hS rfl (Nat.le_of_ble_eq_true rfl) (Nat.le_of_ble_eq_true rfl) dX0_requireCorner_17
  · exact absurd (tcIn_in h1 (by decide)) (by rw [c_4]; decide)
set_option maxHeartbeats 4000000 in
set_option maxRecDepth 100000 in
theorem kX0_requireStranger_in {l : Launch} (hlf : l.stackTraces = false) {D : va_G} {cI cJ : ClassId} {N0 : Nat} {h r1 r2 r3 r4 : Nat} {tk co cn wk : Nat → Nat} {n st : Nat} {ho ct sp : Int32} {Z : va_W} (hk : tOk tk co cn wk n st) (x : Nat) (h1 : x < n) : tcM l yX0_requireStranger wsX0_requireStranger { frames := 0, cells := 0, slots := 0, locals := 0 } [] 0 [.ref h, .int (nI (x))] D cI cJ N0 (wT h r1 r2 r3 r4 cI tk co cn wk n ho st ct sp Z) none (wT h r1 r2 r3 r4 cI tk co cn wk n ho st ct sp Z) 0 0 := by
  refine tcM.of (cc := cX0_requireStranger) (maxL := 2) (ret := none) (by decide) rfl (Nat.le_of_ble_eq_true rfl) ?_
  intro p e s m args below meth c C0 hr hlk ht hmn hG ls hl
  have hl : lv_has ls 2 [(0, .ref h), (1, .int (nI (x)))] := hl
  obtain ⟨hk1, hk2, hk3, hk4, hn12, hst⟩ := id hk
  have hG0 := hG
  have hS : va_S (tcA N0) s.heap s.heap [] := va_S.rf
  have hF : ∀ w ∈ wsX00, w ∈ wsX0_requireStranger := by decide +kernel
  have w_people : Cond.fieldLink RX0 22 "TicketCoincidences" "people" "I" ∈ wsX0_requireStranger := by decide +kernel
  refine lv_iload_n C0.1 C0.2.1 dX0_requireStranger_0 rfl (lv_at hl 1 rfl) ?_
  refine lv_if_lt (tgt := 12) C0.1 C0.2.1 dX0_requireStranger_1 (by decide) (fun c_1 => ?_) (fun c_1 => ?_)
  · exact absurd c_1 (nI_pos (by omega))
  · refine lv_iload_n C0.1 C0.2.1 dX0_requireStranger_4 rfl (lv_at hl 1 rfl) ?_
    refine lv_aload_n C0.1 C0.2.1 dX0_requireStranger_5 rfl (lv_at hl 0 rfl) ?_
    refine tgX0_people C0 hF hG w_people dX0_requireStranger_6 ?_
    refine tn_icmp_lt (tgt := 22) C0.1 C0.2.1 dX0_requireStranger_9 (by decide) (by omega) (by omega) (fun c_9 => ?_) (fun c_9 => ?_)
    · exact tc_vret C0 hr hlk hG hS rfl (Nat.le_of_ble_eq_true rfl) (Nat.le_of_ble_eq_true rfl) dX0_requireStranger_22
    · exact absurd h1 (by omega)
set_option maxHeartbeats 4000000 in
set_option maxRecDepth 100000 in
theorem kX0_peopleAt_in {l : Launch} (hlf : l.stackTraces = false) {D : va_G} {cI cJ : ClassId} {N0 : Nat} {h r1 r2 r3 r4 : Nat} {tk co cn wk : Nat → Nat} {n st : Nat} {ho ct sp : Int32} {Z : va_W} (hk : tOk tk co cn wk n st) (x : Nat) (h1 : x < 6) : tcM l yX0_peopleAt wsX0_peopleAt { frames := 2, cells := 0, slots := 0, locals := 40 } [] 0 [.ref h, .int (nI (x))] D cI cJ N0 (wT h r1 r2 r3 r4 cI tk co cn wk n ho st ct sp Z) (some (.int (nI (crowd cn x n)))) (wT h r1 r2 r3 r4 cI tk co cn wk n ho st ct sp Z) 0 0 := by
  refine tcM.of (cc := cX0_peopleAt) (maxL := 2) (ret := (some .int)) (by decide) rfl (Nat.le_of_ble_eq_true rfl) ?_
  intro p e s m args below meth c C0 hr hlk ht hmn hG ls hl
  have hl : lv_has ls 2 [(0, .ref h), (1, .int (nI (x)))] := hl
  obtain ⟨hk1, hk2, hk3, hk4, hn12, hst⟩ := id hk
  have hG0 := hG
  have hS : va_S (tcA N0) s.heap s.heap [] := va_S.rf
  refine lv_iload_n C0.1 C0.2.1 dX0_peopleAt_0 rfl (lv_at hl 1 rfl) ?_
  refine tc_callSv C0 hG hS (kX0_requireCorner_in hlf  (x) (by omega)) (va_cwS 1 C0.2.2.2.2 gX0_peopleAt_X0_requireCorner rfl rfl rfl (by decide +kernel) ⟨(Nat.le_of_ble_eq_true rfl), (Nat.le_of_ble_eq_true rfl)⟩) rfl hl rfl (Nat.le_of_ble_eq_true rfl) dX0_peopleAt_1 ⟨(Nat.le_of_ble_eq_true rfl), (Nat.le_of_ble_eq_true rfl)⟩ (fun H locs hG hS => ?_)
  refine lv_aload_n C0.1 C0.2.1 dX0_peopleAt_4 rfl (lv_at hl 0 rfl) ?_
  refine lv_iload_n C0.1 C0.2.1 dX0_peopleAt_5 rfl (lv_at hl 1 rfl) ?_
  refine tc_callV (q0 := 0) C0 hG hS rfl rfl (kX0_crowdAt hlf hk  (x) (by omega)) (cwV 1 C0.2.2.2.2 gX0_peopleAt_X0_crowdAt rfl rfl rfl (by decide +kernel) ⟨(Nat.le_of_ble_eq_true rfl), (Nat.le_of_ble_eq_true rfl)⟩) rfl hl rfl (Nat.le_of_ble_eq_true rfl) dX0_peopleAt_6 ⟨(Nat.le_of_ble_eq_true rfl), (Nat.le_of_ble_eq_true rfl)⟩ (fun H locs hG hS => ?_)
  have b_6 := crowd_le cn x hk.2.2.2.2.1
  exact tc_iret C0 hr hlk hG hS rfl rfl (Nat.le_of_ble_eq_true rfl) (Nat.le_of_ble_eq_true rfl) dX0_peopleAt_9
set_option maxHeartbeats 4000000 in
set_option maxRecDepth 100000 in
theorem kX0_coincidencesAt_in {l : Launch} (hlf : l.stackTraces = false) {D : va_G} {cI cJ : ClassId} {N0 : Nat} {h r1 r2 r3 r4 : Nat} {tk co cn wk : Nat → Nat} {n st : Nat} {ho ct sp : Int32} {Z : va_W} (hk : tOk tk co cn wk n st) (x : Nat) (h1 : x < 6) : tcM l yX0_coincidencesAt wsX0_coincidencesAt { frames := 3, cells := 0, slots := 0, locals := 65 } [] 0 [.ref h, .int (nI (x))] D cI cJ N0 (wT h r1 r2 r3 r4 cI tk co cn wk n ho st ct sp Z) (some (.int (nI (cAt tk co cn x n)))) (wT h r1 r2 r3 r4 cI tk co cn wk n ho st ct sp Z) 0 0 := by
  refine tcM.of (cc := cX0_coincidencesAt) (maxL := 5) (ret := (some .int)) (by decide) rfl (Nat.le_of_ble_eq_true rfl) ?_
  intro p e s m args below meth c C0 hr hlk ht hmn hG ls hl
  have hl : lv_has ls 5 [(0, .ref h), (1, .int (nI (x)))] := hl
  obtain ⟨hk1, hk2, hk3, hk4, hn12, hst⟩ := id hk
  have hG0 := hG
  have hS : va_S (tcA N0) s.heap s.heap [] := va_S.rf
  have hF : ∀ w ∈ wsX00, w ∈ wsX0_coincidencesAt := by decide +kernel
  have w_corners : Cond.fieldLink RX0 16 "TicketCoincidences" "corners" "[I" ∈ wsX0_coincidencesAt := by decide +kernel
  have w_people : Cond.fieldLink RX0 22 "TicketCoincidences" "people" "I" ∈ wsX0_coincidencesAt := by decide +kernel
  refine lv_iload_n C0.1 C0.2.1 dX0_coincidencesAt_0 rfl (lv_at hl 1 rfl) ?_
  refine tc_callSv C0 hG hS (kX0_requireCorner_in hlf  (x) (by omega)) (va_cwS 1 C0.2.2.2.2 gX0_coincidencesAt_X0_requireCorner rfl rfl rfl (by decide +kernel) ⟨(Nat.le_of_ble_eq_true rfl), (Nat.le_of_ble_eq_true rfl)⟩) rfl hl rfl (Nat.le_of_ble_eq_true rfl) dX0_coincidencesAt_1 ⟨(Nat.le_of_ble_eq_true rfl), (Nat.le_of_ble_eq_true rfl)⟩ (fun H locs hG hS => ?_)
  refine lv_iconst (v := nI 0) C0.1 C0.2.1 dX0_coincidencesAt_4 (by decide) ?_
  refine lv_istore_n (lv' := [(2, .int (nI (0))), (0, .ref h), (1, .int (nI (x)))]) C0.1 C0.2.1 dX0_coincidencesAt_5 rfl hl (by decide) rfl (fun ls hl => ?_)
  refine lv_iconst (v := nI 0) C0.1 C0.2.1 dX0_coincidencesAt_6 (by decide) ?_
  refine lv_istore_n (lv' := [(3, .int (nI (0))), (2, .int (nI (0))), (0, .ref h), (1, .int (nI (x)))]) C0.1 C0.2.1 dX0_coincidencesAt_7 rfl hl (by decide) rfl (fun ls hl => ?_)
  refine tc_nameQ (fun zQg zhQ => ?_)
  have cut_8 : ∀ (kf : Nat) (q : Nat) (a : Nat) (ha : a ≤ n) (hq : q = sm (fun a => sm (fun b => if a < b then cag tk co cn x a b else 0) n) a) (hm : n + 1 ≤ a + kf), ∀ (ls : Array Slot), lv_has ls 5 [(3, .int (nI (a))), (2, .int (nI (q))), (0, .ref h), (1, .int (nI (x)))] → ∀ (H : Heap) (locs : List Loc), tcG D cI cJ N0 (wT h r1 r2 r3 r4 cI tk co cn wk n ho st ct sp Z) s H → va_S (tcA N0) s.heap H locs → W p l e ({ frames := 3, cells := 0, slots := 0, locals := 65 } : Room) s m args below meth c H locs (0) (0) zQg (F0 m 8 ls []) := by
    intro kf
    induction kf with
    | zero => intro q a ha hq hm; exact absurd hm (by omega)
    | succ kf ih_8 =>
      intro q a ha hq hm ls hl H locs hG hS
      refine lv_iload_n C0.1 C0.2.1 dX0_coincidencesAt_8 rfl (lv_at hl 0 rfl) ?_
      refine lv_aload_n C0.1 C0.2.1 dX0_coincidencesAt_9 rfl (lv_at hl 2 rfl) ?_
      refine tgX0_people C0 hF hG w_people dX0_coincidencesAt_10 ?_
      refine tn_icmp_ge (tgt := 73) C0.1 C0.2.1 dX0_coincidencesAt_13 (by decide) (by omega) (by omega) (fun c_13 => ?_) (fun c_13 => ?_)
      · refine lv_iload_n C0.1 C0.2.1 dX0_coincidencesAt_73 rfl (lv_at hl 1 rfl) ?_
        subst zhQ
        exact tc_iret C0 hr hlk hG hS rfl (by rw [hq, show a = n by omega]; exact congrArg nI (pt_pm (cag_sym tk co cn x) n)) (Nat.le_of_ble_eq_true rfl) (Nat.le_of_ble_eq_true rfl) dX0_coincidencesAt_74
      · refine lv_iload_n C0.1 C0.2.1 dX0_coincidencesAt_16 rfl (lv_at hl 0 rfl) ?_
        refine lv_iconst (v := nI 1) C0.1 C0.2.1 dX0_coincidencesAt_17 (by decide) ?_
        refine tn_iadd C0.1 C0.2.1 dX0_coincidencesAt_18 ?_
        refine lv_istore (lv' := [(4, .int (nI (a + 1))), (3, .int (nI (a))), (2, .int (nI (q))), (0, .ref h), (1, .int (nI (x)))]) C0.1 C0.2.1 dX0_coincidencesAt_19 hl (by decide) rfl (fun ls hl => ?_)
        have cut_21 : ∀ (kf : Nat) (q2 : Nat) (b : Nat) (hb : b ≤ n) (hab : a < b) (hq2 : q2 = q + sm (fun b => if a < b then cag tk co cn x a b else 0) b) (hm : n + 1 ≤ b + kf), ∀ (ls : Array Slot), lv_has ls 5 [(4, .int (nI (b))), (3, .int (nI (a))), (2, .int (nI (q2))), (0, .ref h), (1, .int (nI (x)))] → ∀ (H : Heap) (locs : List Loc), tcG D cI cJ N0 (wT h r1 r2 r3 r4 cI tk co cn wk n ho st ct sp Z) s H → va_S (tcA N0) s.heap H locs → W p l e ({ frames := 3, cells := 0, slots := 0, locals := 65 } : Room) s m args below meth c H locs (0) (0) zQg (F0 m 21 ls []) := by
          intro kf
          induction kf with
          | zero => intro q2 b hb hab hq2 hm; exact absurd hm (by omega)
          | succ kf ih_21 =>
            intro q2 b hb hab hq2 hm ls hl H locs hG hS
            refine lv_iload C0.1 C0.2.1 dX0_coincidencesAt_21 (lv_at hl 0 rfl) ?_
            refine lv_aload_n C0.1 C0.2.1 dX0_coincidencesAt_23 rfl (lv_at hl 3 rfl) ?_
            refine tgX0_people C0 hF hG w_people dX0_coincidencesAt_24 ?_
            refine tn_icmp_ge (tgt := 67) C0.1 C0.2.1 dX0_coincidencesAt_27 (by decide) (by omega) (by omega) (fun c_27 => ?_) (fun c_27 => ?_)
            · refine tn_iinc (lv' := [(3, .int (nI (a + 1))), (4, .int (nI (b))), (2, .int (nI (q2))), (0, .ref h), (1, .int (nI (x)))]) C0.1 C0.2.1 dX0_coincidencesAt_67 hl (k := 1) rfl (by decide) rfl (fun ls hl => ?_)
              refine lv_goto (tgt := 8) C0.1 C0.2.1 dX0_coincidencesAt_70 (by decide) ?_
              exact ih_8 (q2) (a + 1) (by omega) (by have hz : b = n := (by omega); rw [sm_s, ← hq, hq2, hz]) (by omega) ls (lv_sub hl [0, 2, 3, 4] rfl) _ _ hG hS
            · refine lv_aload_n C0.1 C0.2.1 dX0_coincidencesAt_30 rfl (lv_at hl 3 rfl) ?_
              refine tgX0_corners C0 hF hG w_corners dX0_coincidencesAt_31 ?_
              refine lv_iload_n C0.1 C0.2.1 dX0_coincidencesAt_34 rfl (lv_at hl 1 rfl) ?_
              refine tc_ald (q0 := 3) C0 hG rfl (by omega) dX0_coincidencesAt_35 ?_
              have b_35 := hk3 (a)
              refine lv_iload_n C0.1 C0.2.1 dX0_coincidencesAt_36 rfl (lv_at hl 4 rfl) ?_
              refine tn_icmp_ne (tgt := 61) C0.1 C0.2.1 dX0_coincidencesAt_37 (by decide) (by omega) (by omega) (fun c_37 => ?_) (fun c_37 => ?_)
              · refine tn_iinc (lv' := [(4, .int (nI (b + 1))), (3, .int (nI (a))), (2, .int (nI (q2))), (0, .ref h), (1, .int (nI (x)))]) C0.1 C0.2.1 dX0_coincidencesAt_61 hl (k := 0) rfl (by decide) rfl (fun ls hl => ?_)
                refine lv_goto (tgt := 21) C0.1 C0.2.1 dX0_coincidencesAt_64 (by decide) ?_
                exact ih_21 (q2) (b + 1) (by omega) (by omega) (by first | exact sm_step2 hq2 ((if_pos hab).trans (if_pos ⟨c_37, c_48⟩)) | exact sm_skip2 hq2 ((if_pos hab).trans (if_neg (fun q => c_37 q.1))) | exact sm_skip2 hq2 ((if_pos hab).trans (if_neg (fun q => c_48 q.2)))) (by omega) ls (lv_sub hl [0, 1, 2, 3, 4] rfl) _ _ hG hS
              · refine lv_aload_n C0.1 C0.2.1 dX0_coincidencesAt_40 rfl (lv_at hl 3 rfl) ?_
                refine tgX0_corners C0 hF hG w_corners dX0_coincidencesAt_41 ?_
                refine lv_iload C0.1 C0.2.1 dX0_coincidencesAt_44 (lv_at hl 0 rfl) ?_
                refine tc_ald (q0 := 3) C0 hG rfl (by omega) dX0_coincidencesAt_46 ?_
                have b_46 := hk3 (b)
                refine lv_iload_n C0.1 C0.2.1 dX0_coincidencesAt_47 rfl (lv_at hl 4 rfl) ?_
                refine tn_icmp_ne (tgt := 61) C0.1 C0.2.1 dX0_coincidencesAt_48 (by decide) (by omega) (by omega) (fun c_48 => ?_) (fun c_48 => ?_)
                · refine tn_iinc (lv' := [(4, .int (nI (b + 1))), (3, .int (nI (a))), (2, .int (nI (q2))), (0, .ref h), (1, .int (nI (x)))]) C0.1 C0.2.1 dX0_coincidencesAt_61 hl (k := 0) rfl (by decide) rfl (fun ls hl => ?_)
                  refine lv_goto (tgt := 21) C0.1 C0.2.1 dX0_coincidencesAt_64 (by decide) ?_
                  exact ih_21 (q2) (b + 1) (by omega) (by omega) (by first | exact sm_step2 hq2 ((if_pos hab).trans (if_pos ⟨c_37, c_48⟩)) | exact sm_skip2 hq2 ((if_pos hab).trans (if_neg (fun q => c_37 q.1))) | exact sm_skip2 hq2 ((if_pos hab).trans (if_neg (fun q => c_48 q.2)))) (by omega) ls (lv_sub hl [0, 1, 2, 3, 4] rfl) _ _ hG hS
                · refine lv_iload_n C0.1 C0.2.1 dX0_coincidencesAt_51 rfl (lv_at hl 2 rfl) ?_
                  refine lv_aload_n C0.1 C0.2.1 dX0_coincidencesAt_52 rfl (lv_at hl 3 rfl) ?_
                  refine lv_iload_n C0.1 C0.2.1 dX0_coincidencesAt_53 rfl (lv_at hl 1 rfl) ?_
                  refine lv_iload C0.1 C0.2.1 dX0_coincidencesAt_54 (lv_at hl 0 rfl) ?_
                  refine tc_callV (q0 := 0) C0 hG hS rfl rfl (kX0_pointsOfPair hlf hk  (a) (b) (by omega) (by omega)) (cwV 2 C0.2.2.2.2 gX0_coincidencesAt_X0_pointsOfPair rfl rfl rfl (by decide +kernel) ⟨(Nat.le_of_ble_eq_true rfl), (Nat.le_of_ble_eq_true rfl)⟩) rfl hl rfl (Nat.le_of_ble_eq_true rfl) dX0_coincidencesAt_56 ⟨(Nat.le_of_ble_eq_true rfl), (Nat.le_of_ble_eq_true rfl)⟩ (fun H locs hG hS => ?_)
                  have b_56 := pts_le tk co a b
                  refine tn_iadd C0.1 C0.2.1 dX0_coincidencesAt_59 ?_
                  refine lv_istore_n (lv' := [(2, .int (nI (q2 + (pts tk co a b)))), (4, .int (nI (b))), (3, .int (nI (a))), (0, .ref h), (1, .int (nI (x)))]) C0.1 C0.2.1 dX0_coincidencesAt_60 rfl hl (by decide) rfl (fun ls hl => ?_)
                  refine tn_iinc (lv' := [(4, .int (nI (b + 1))), (2, .int (nI (q2 + (pts tk co a b)))), (3, .int (nI (a))), (0, .ref h), (1, .int (nI (x)))]) C0.1 C0.2.1 dX0_coincidencesAt_61 hl (k := 1) rfl (by decide) rfl (fun ls hl => ?_)
                  refine lv_goto (tgt := 21) C0.1 C0.2.1 dX0_coincidencesAt_64 (by decide) ?_
                  exact ih_21 (q2 + (pts tk co a b)) (b + 1) (by omega) (by omega) (by first | exact sm_step2 hq2 ((if_pos hab).trans (if_pos ⟨c_37, c_48⟩)) | exact sm_skip2 hq2 ((if_pos hab).trans (if_neg (fun q => c_37 q.1))) | exact sm_skip2 hq2 ((if_pos hab).trans (if_neg (fun q => c_48 q.2)))) (by omega) ls (lv_sub hl [0, 2, 1, 3, 4] rfl) _ _ hG hS
        exact cut_21 (n + 1) (q) (a + 1) (by omega) (by omega) (sm_start2 (fun k hk => if_neg (by omega))) (by omega) ls (lv_sub hl [0, 1, 2, 3, 4] rfl) _ _ hG hS
  exact cut_8 (n + 1) (0) (0) (by omega) rfl (by omega) ls (lv_sub hl [0, 1, 2, 3] rfl) _ _ hG hS
set_option maxHeartbeats 4000000 in
set_option maxRecDepth 100000 in
theorem kX0_bestCorner_in {l : Launch} (hlf : l.stackTraces = false) {D : va_G} {cI cJ : ClassId} {N0 : Nat} {h r1 r2 r3 r4 : Nat} {tk co cn wk : Nat → Nat} {n st : Nat} {ho ct sp : Int32} {Z : va_W} (hk : tOk tk co cn wk n st) (x : Nat) (h1 : x < n) : tcM l yX0_bestCorner wsX0_bestCorner { frames := 3, cells := 0, slots := 0, locals := 68 } [] 0 [.ref h, .int (nI (x))] D cI cJ N0 (wT h r1 r2 r3 r4 cI tk co cn wk n ho st ct sp Z) (some (.int (nI (bestCn tk co cn x n)))) (wT h r1 r2 r3 r4 cI tk co cn wk n ho st ct sp Z) 0 0 := by
  refine tcM.of (cc := cX0_bestCorner) (maxL := 6) (ret := (some .int)) (by decide) rfl (Nat.le_of_ble_eq_true rfl) ?_
  intro p e s m args below meth c C0 hr hlk ht hmn hG ls hl
  have hl : lv_has ls 6 [(0, .ref h), (1, .int (nI (x)))] := hl
  obtain ⟨hk1, hk2, hk3, hk4, hn12, hst⟩ := id hk
  have hG0 := hG
  have hS : va_S (tcA N0) s.heap s.heap [] := va_S.rf
  have hF : ∀ w ∈ wsX00, w ∈ wsX0_bestCorner := by decide +kernel
  have w_tickets : Cond.fieldLink RX0 9 "TicketCoincidences" "tickets" "[I" ∈ wsX0_bestCorner := by decide +kernel
  refine lv_aload_n C0.1 C0.2.1 dX0_bestCorner_0 rfl (lv_at hl 0 rfl) ?_
  refine lv_iload_n C0.1 C0.2.1 dX0_bestCorner_1 rfl (lv_at hl 1 rfl) ?_
  refine tc_callVv (q0 := 0) C0 hG hS rfl rfl (kX0_requireStranger_in hlf hk  (x) (by omega)) (cwV 1 C0.2.2.2.2 gX0_bestCorner_X0_requireStranger rfl rfl rfl (by decide +kernel) ⟨(Nat.le_of_ble_eq_true rfl), (Nat.le_of_ble_eq_true rfl)⟩) rfl hl rfl (Nat.le_of_ble_eq_true rfl) dX0_bestCorner_2 ⟨(Nat.le_of_ble_eq_true rfl), (Nat.le_of_ble_eq_true rfl)⟩ (fun H locs hG hS => ?_)
  refine lv_iconst (v := nI 0) C0.1 C0.2.1 dX0_bestCorner_5 (by decide) ?_
  refine lv_istore_n (lv' := [(2, .int (nI (0))), (0, .ref h), (1, .int (nI (x)))]) C0.1 C0.2.1 dX0_bestCorner_6 rfl hl (by decide) rfl (fun ls hl => ?_)
  refine lv_iconst (v := iM 0) C0.1 C0.2.1 dX0_bestCorner_7 (by decide) ?_
  refine lv_istore_n (lv' := [(3, .int (iM (0))), (2, .int (nI (0))), (0, .ref h), (1, .int (nI (x)))]) C0.1 C0.2.1 dX0_bestCorner_8 rfl hl (by decide) rfl (fun ls hl => ?_)
  refine lv_iconst (v := nI 0) C0.1 C0.2.1 dX0_bestCorner_9 (by decide) ?_
  refine lv_istore (lv' := [(4, .int (nI (0))), (3, .int (iM (0))), (2, .int (nI (0))), (0, .ref h), (1, .int (nI (x)))]) C0.1 C0.2.1 dX0_bestCorner_10 hl (by decide) rfl (fun ls hl => ?_)
  refine tc_nameQ (fun zQg zhQ => ?_)
  have cut_12 : ∀ (kf : Nat) (s1 : Nat) (s2 : Nat) (v : Nat) (hv : v ≤ 6) (hs2 : s2 ≤ 157) (hs : (s2, s1) = am (fun v => lw tk co cn x (tk x) v n) v) (hm : 6 + 1 ≤ v + kf), ∀ (ls : Array Slot), lv_has ls 6 [(4, .int (nI (v))), (3, .int (iM (s2))), (2, .int (nI (s1))), (0, .ref h), (1, .int (nI (x)))] → ∀ (H : Heap) (locs : List Loc), tcG D cI cJ N0 (wT h r1 r2 r3 r4 cI tk co cn wk n ho st ct sp Z) s H → va_S (tcA N0) s.heap H locs → W p l e ({ frames := 3, cells := 0, slots := 0, locals := 68 } : Room) s m args below meth c H locs (0) (0) zQg (F0 m 12 ls []) := by
    intro kf
    induction kf with
    | zero => intro s1 s2 v hv hs2 hs hm; exact absurd hm (by omega)
    | succ kf ih_12 =>
      intro s1 s2 v hv hs2 hs hm ls hl H locs hG hS
      refine lv_iload C0.1 C0.2.1 dX0_bestCorner_12 (lv_at hl 0 rfl) ?_
      refine lv_bipush (v := nI 6) C0.1 C0.2.1 dX0_bestCorner_14 (by decide) ?_
      refine tn_icmp_ge (tgt := 52) C0.1 C0.2.1 dX0_bestCorner_16 (by decide) (by omega) (by omega) (fun c_16 => ?_) (fun c_16 => ?_)
      · refine lv_iload_n C0.1 C0.2.1 dX0_bestCorner_52 rfl (lv_at hl 2 rfl) ?_
        subst zhQ
        exact tc_iret C0 hr hlk hG hS rfl (by have hz : v = 6 := (by omega); subst hz; unfold bestCn; rw [← hs]) (Nat.le_of_ble_eq_true rfl) (Nat.le_of_ble_eq_true rfl) dX0_bestCorner_53
      · refine lv_aload_n C0.1 C0.2.1 dX0_bestCorner_19 rfl (lv_at hl 3 rfl) ?_
        refine lv_iload_n C0.1 C0.2.1 dX0_bestCorner_20 rfl (lv_at hl 4 rfl) ?_
        refine lv_aload_n C0.1 C0.2.1 dX0_bestCorner_21 rfl (lv_at hl 3 rfl) ?_
        refine tgX0_tickets C0 hF hG w_tickets dX0_bestCorner_22 ?_
        refine lv_iload_n C0.1 C0.2.1 dX0_bestCorner_25 rfl (lv_at hl 4 rfl) ?_
        refine tc_ald (q0 := 1) C0 hG rfl (by omega) dX0_bestCorner_26 ?_
        have b_26 := hk1 (x)
        refine lv_iload C0.1 C0.2.1 dX0_bestCorner_27 (lv_at hl 0 rfl) ?_
        refine tc_callV (q0 := 0) C0 hG hS rfl rfl (kX0_luckWith hlf hk  (x) (tk (x)) (v) (by omega) (by omega) (by omega)) (cwV 3 C0.2.2.2.2 gX0_bestCorner_X0_luckWith rfl rfl rfl (by decide +kernel) ⟨(Nat.le_of_ble_eq_true rfl), (Nat.le_of_ble_eq_true rfl)⟩) rfl hl rfl (Nat.le_of_ble_eq_true rfl) dX0_bestCorner_29 ⟨(Nat.le_of_ble_eq_true rfl), (Nat.le_of_ble_eq_true rfl)⟩ (fun H locs hG hS => ?_)
        have b_29 := lw_le tk co cn x (tk (x)) v hk.2.2.2.2.1
        refine lv_istore (lv' := [(5, .int (nI (lw tk co cn x (tk (x)) v n))), (4, .int (nI (v))), (3, .int (iM (s2))), (2, .int (nI (s1))), (0, .ref h), (1, .int (nI (x)))]) C0.1 C0.2.1 dX0_bestCorner_32 hl (by decide) rfl (fun ls hl => ?_)
        refine lv_iload C0.1 C0.2.1 dX0_bestCorner_34 (lv_at hl 0 rfl) ?_
        refine lv_iload_n C0.1 C0.2.1 dX0_bestCorner_36 rfl (lv_at hl 2 rfl) ?_
        refine tm_icmp_le (tgt := 46) C0.1 C0.2.1 dX0_bestCorner_37 (by decide) (by omega) (by omega) (fun c_37 => ?_) (fun c_37 => ?_)
        · refine tn_iinc (lv' := [(4, .int (nI (v + 1))), (5, .int (nI (lw tk co cn x (tk (x)) v n))), (3, .int (iM (s2))), (2, .int (nI (s1))), (0, .ref h), (1, .int (nI (x)))]) C0.1 C0.2.1 dX0_bestCorner_46 hl (k := 1) rfl (by decide) rfl (fun ls hl => ?_)
          refine lv_goto (tgt := 12) C0.1 C0.2.1 dX0_bestCorner_49 (by decide) ?_
          exact ih_12 (s1) (s2) (v + 1) (by omega) (by omega) (by first | exact am_n' hs c_37 | exact am_y' hs c_37) (by omega) ls (lv_sub hl [0, 2, 3, 4, 5] rfl) _ _ hG hS
        · refine lv_iload C0.1 C0.2.1 dX0_bestCorner_40 (lv_at hl 0 rfl) ?_
          refine tc_top (iM_s (lw tk co cn x (tk (x)) v n)).symm ?_
          refine lv_istore_n (lv' := [(3, .int (iM (lw tk co cn x (tk (x)) v n + 1))), (5, .int (nI (lw tk co cn x (tk (x)) v n))), (4, .int (nI (v))), (2, .int (nI (s1))), (0, .ref h), (1, .int (nI (x)))]) C0.1 C0.2.1 dX0_bestCorner_42 rfl hl (by decide) rfl (fun ls hl => ?_)
          refine lv_iload C0.1 C0.2.1 dX0_bestCorner_43 (lv_at hl 2 rfl) ?_
          refine lv_istore_n (lv' := [(2, .int (nI (v))), (3, .int (iM (lw tk co cn x (tk (x)) v n + 1))), (5, .int (nI (lw tk co cn x (tk (x)) v n))), (4, .int (nI (v))), (0, .ref h), (1, .int (nI (x)))]) C0.1 C0.2.1 dX0_bestCorner_45 rfl hl (by decide) rfl (fun ls hl => ?_)
          refine tn_iinc (lv' := [(4, .int (nI (v + 1))), (2, .int (nI (v))), (3, .int (iM (lw tk co cn x (tk (x)) v n + 1))), (5, .int (nI (lw tk co cn x (tk (x)) v n))), (0, .ref h), (1, .int (nI (x)))]) C0.1 C0.2.1 dX0_bestCorner_46 hl (k := 3) rfl (by decide) rfl (fun ls hl => ?_)
          refine lv_goto (tgt := 12) C0.1 C0.2.1 dX0_bestCorner_49 (by decide) ?_
          exact ih_12 (v) (lw tk co cn x (tk (x)) v n + 1) (v + 1) (by omega) (by omega) (by first | exact am_n' hs c_37 | exact am_y' hs c_37) (by omega) ls (lv_sub hl [0, 2, 1, 4, 5] rfl) _ _ hG hS
  exact cut_12 (6 + 1) (0) (0) (0) (by omega) (by omega) rfl (by omega) ls (lv_sub hl [0, 1, 2, 3, 4] rfl) _ _ hG hS
set_option maxHeartbeats 4000000 in
set_option maxRecDepth 100000 in
theorem kX0_digest {l : Launch} (hlf : l.stackTraces = false) {D : va_G} {cI cJ : ClassId} {N0 : Nat} {h r1 r2 r3 r4 : Nat} {tk co cn wk : Nat → Nat} {n st : Nat} {ho ct sp : Int32} {Z : va_W} (hk : tOk tk co cn wk n st)   : tcM l yX0_digest wsX0_digest { frames := 6, cells := 0, slots := 0, locals := 137 } [] 0 [.ref h] D cI cJ N0 (wT h r1 r2 r3 r4 cI tk co cn wk n ho st ct sp Z) (some (.long (dgst tk co cn wk n ho st ct sp))) (wT h r1 r2 r3 r4 cI tk co cn wk n ho st ct sp Z) 0 0 := by
  refine tcM.of (cc := cX0_digest) (maxL := 4) (ret := (some .long)) (by decide) rfl (Nat.le_of_ble_eq_true rfl) ?_
  intro p e s m args below meth c C0 hr hlk ht hmn hG ls hl
  have hl : lv_has ls 4 [(0, .ref h)] := hl
  obtain ⟨hk1, hk2, hk3, hk4, hn12, hst⟩ := id hk
  have hG0 := hG
  have hS : va_S (tcA N0) s.heap s.heap [] := va_S.rf
  have hF : ∀ w ∈ wsX00, w ∈ wsX0_digest := by decide +kernel
  have w_colours : Cond.fieldLink RX0 13 "TicketCoincidences" "colours" "[I" ∈ wsX0_digest := by decide +kernel
  have w_corners : Cond.fieldLink RX0 16 "TicketCoincidences" "corners" "[I" ∈ wsX0_digest := by decide +kernel
  have w_countedInAll : Cond.fieldLink RX0 32 "TicketCoincidences" "countedInAll" "I" ∈ wsX0_digest := by decide +kernel
  have w_hourNow : Cond.fieldLink RX0 26 "TicketCoincidences" "hourNow" "I" ∈ wsX0_digest := by decide +kernel
  have w_inStore : Cond.fieldLink RX0 29 "TicketCoincidences" "inStore" "I" ∈ wsX0_digest := by decide +kernel
  have w_people : Cond.fieldLink RX0 22 "TicketCoincidences" "people" "I" ∈ wsX0_digest := by decide +kernel
  have w_spentInAll : Cond.fieldLink RX0 35 "TicketCoincidences" "spentInAll" "I" ∈ wsX0_digest := by decide +kernel
  have w_tickets : Cond.fieldLink RX0 9 "TicketCoincidences" "tickets" "[I" ∈ wsX0_digest := by decide +kernel
  have w_walks : Cond.fieldLink RX0 19 "TicketCoincidences" "walks" "[I" ∈ wsX0_digest := by decide +kernel
  refine lv_ldc2 (v := 1979) C0.1 C0.2.1 C0.2.2.2.1 (C0.2.2.2.2 (.constantLong RX0 129 1979) (by decide +kernel)) dX0_digest_0 ?_
  refine lv_lstore_n (lv' := [(1, .long (1979)), (0, .ref h)]) C0.1 C0.2.1 dX0_digest_3 rfl hl (by decide) rfl (fun ls hl => ?_)
  refine lv_lload_n C0.1 C0.2.1 dX0_digest_4 rfl (lv_at hl 0 rfl) ?_
  refine lv_aload_n C0.1 C0.2.1 dX0_digest_5 rfl (lv_at hl 1 rfl) ?_
  refine tgX0_people C0 hF hG w_people dX0_digest_6 ?_
  refine lv_i2l C0.1 C0.2.1 dX0_digest_9 rfl ?_
  refine tc_callS C0 hG hS (kX0_mixed hlf  (1979) ((nI (n)).toInt64) ) (va_cwS 2 C0.2.2.2.2 gX0_digest_X0_mixed rfl rfl rfl (by decide +kernel) ⟨(Nat.le_of_ble_eq_true rfl), (Nat.le_of_ble_eq_true rfl)⟩) rfl hl rfl (Nat.le_of_ble_eq_true rfl) dX0_digest_10 ⟨(Nat.le_of_ble_eq_true rfl), (Nat.le_of_ble_eq_true rfl)⟩ (fun H locs hG hS => ?_)
  refine lv_lstore_n (lv' := [(1, .long (dg 1979 ((nI (n)).toInt64))), (0, .ref h)]) C0.1 C0.2.1 dX0_digest_13 rfl hl (by decide) rfl (fun ls hl => ?_)
  refine lv_lload_n C0.1 C0.2.1 dX0_digest_14 rfl (lv_at hl 0 rfl) ?_
  refine lv_aload_n C0.1 C0.2.1 dX0_digest_15 rfl (lv_at hl 1 rfl) ?_
  refine tgX0_hourNow C0 hF hG w_hourNow dX0_digest_16 ?_
  refine lv_i2l C0.1 C0.2.1 dX0_digest_19 rfl ?_
  refine tc_callS C0 hG hS (kX0_mixed hlf  (dg 1979 ((nI (n)).toInt64)) (((ho)).toInt64) ) (va_cwS 2 C0.2.2.2.2 gX0_digest_X0_mixed rfl rfl rfl (by decide +kernel) ⟨(Nat.le_of_ble_eq_true rfl), (Nat.le_of_ble_eq_true rfl)⟩) rfl hl rfl (Nat.le_of_ble_eq_true rfl) dX0_digest_20 ⟨(Nat.le_of_ble_eq_true rfl), (Nat.le_of_ble_eq_true rfl)⟩ (fun H locs hG hS => ?_)
  refine lv_lstore_n (lv' := [(1, .long (dg (dg 1979 ((nI (n)).toInt64)) (((ho)).toInt64))), (0, .ref h)]) C0.1 C0.2.1 dX0_digest_23 rfl hl (by decide) rfl (fun ls hl => ?_)
  refine lv_lload_n C0.1 C0.2.1 dX0_digest_24 rfl (lv_at hl 0 rfl) ?_
  refine lv_aload_n C0.1 C0.2.1 dX0_digest_25 rfl (lv_at hl 1 rfl) ?_
  refine tgX0_inStore C0 hF hG w_inStore dX0_digest_26 ?_
  refine lv_i2l C0.1 C0.2.1 dX0_digest_29 rfl ?_
  refine tc_callS C0 hG hS (kX0_mixed hlf  (dg (dg 1979 ((nI (n)).toInt64)) (((ho)).toInt64)) ((nI (st)).toInt64) ) (va_cwS 2 C0.2.2.2.2 gX0_digest_X0_mixed rfl rfl rfl (by decide +kernel) ⟨(Nat.le_of_ble_eq_true rfl), (Nat.le_of_ble_eq_true rfl)⟩) rfl hl rfl (Nat.le_of_ble_eq_true rfl) dX0_digest_30 ⟨(Nat.le_of_ble_eq_true rfl), (Nat.le_of_ble_eq_true rfl)⟩ (fun H locs hG hS => ?_)
  refine lv_lstore_n (lv' := [(1, .long (dg (dg (dg 1979 ((nI (n)).toInt64)) (((ho)).toInt64)) ((nI (st)).toInt64))), (0, .ref h)]) C0.1 C0.2.1 dX0_digest_33 rfl hl (by decide) rfl (fun ls hl => ?_)
  refine lv_lload_n C0.1 C0.2.1 dX0_digest_34 rfl (lv_at hl 0 rfl) ?_
  refine lv_aload_n C0.1 C0.2.1 dX0_digest_35 rfl (lv_at hl 1 rfl) ?_
  refine tgX0_countedInAll C0 hF hG w_countedInAll dX0_digest_36 ?_
  refine lv_i2l C0.1 C0.2.1 dX0_digest_39 rfl ?_
  refine tc_callS C0 hG hS (kX0_mixed hlf  (dg (dg (dg 1979 ((nI (n)).toInt64)) (((ho)).toInt64)) ((nI (st)).toInt64)) (((ct)).toInt64) ) (va_cwS 2 C0.2.2.2.2 gX0_digest_X0_mixed rfl rfl rfl (by decide +kernel) ⟨(Nat.le_of_ble_eq_true rfl), (Nat.le_of_ble_eq_true rfl)⟩) rfl hl rfl (Nat.le_of_ble_eq_true rfl) dX0_digest_40 ⟨(Nat.le_of_ble_eq_true rfl), (Nat.le_of_ble_eq_true rfl)⟩ (fun H locs hG hS => ?_)
  refine lv_lstore_n (lv' := [(1, .long (dg (dg (dg (dg 1979 ((nI (n)).toInt64)) (((ho)).toInt64)) ((nI (st)).toInt64)) (((ct)).toInt64))), (0, .ref h)]) C0.1 C0.2.1 dX0_digest_43 rfl hl (by decide) rfl (fun ls hl => ?_)
  refine lv_lload_n C0.1 C0.2.1 dX0_digest_44 rfl (lv_at hl 0 rfl) ?_
  refine lv_aload_n C0.1 C0.2.1 dX0_digest_45 rfl (lv_at hl 1 rfl) ?_
  refine tgX0_spentInAll C0 hF hG w_spentInAll dX0_digest_46 ?_
  refine lv_i2l C0.1 C0.2.1 dX0_digest_49 rfl ?_
  refine tc_callS C0 hG hS (kX0_mixed hlf  (dg (dg (dg (dg 1979 ((nI (n)).toInt64)) (((ho)).toInt64)) ((nI (st)).toInt64)) (((ct)).toInt64)) (((sp)).toInt64) ) (va_cwS 2 C0.2.2.2.2 gX0_digest_X0_mixed rfl rfl rfl (by decide +kernel) ⟨(Nat.le_of_ble_eq_true rfl), (Nat.le_of_ble_eq_true rfl)⟩) rfl hl rfl (Nat.le_of_ble_eq_true rfl) dX0_digest_50 ⟨(Nat.le_of_ble_eq_true rfl), (Nat.le_of_ble_eq_true rfl)⟩ (fun H locs hG hS => ?_)
  refine lv_lstore_n (lv' := [(1, .long (dg (dg (dg (dg (dg 1979 ((nI (n)).toInt64)) (((ho)).toInt64)) ((nI (st)).toInt64)) (((ct)).toInt64)) (((sp)).toInt64))), (0, .ref h)]) C0.1 C0.2.1 dX0_digest_53 rfl hl (by decide) rfl (fun ls hl => ?_)
  refine lv_lload_n C0.1 C0.2.1 dX0_digest_54 rfl (lv_at hl 0 rfl) ?_
  refine lv_aload_n C0.1 C0.2.1 dX0_digest_55 rfl (lv_at hl 1 rfl) ?_
  refine tc_callV (q0 := 0) C0 hG hS rfl rfl (kX0_coincidences hlf hk   ) (cwV 0 C0.2.2.2.2 gX0_digest_X0_coincidences rfl rfl rfl (by decide +kernel) ⟨(Nat.le_of_ble_eq_true rfl), (Nat.le_of_ble_eq_true rfl)⟩) rfl hl rfl (Nat.le_of_ble_eq_true rfl) dX0_digest_56 ⟨(Nat.le_of_ble_eq_true rfl), (Nat.le_of_ble_eq_true rfl)⟩ (fun H locs hG hS => ?_)
  have b_56 := tw_le tk co cn wk 0 hk.2.2.2.2.1
  refine lv_i2l C0.1 C0.2.1 dX0_digest_59 rfl ?_
  refine tc_callS C0 hG hS (kX0_mixed hlf  (dg (dg (dg (dg (dg 1979 ((nI (n)).toInt64)) (((ho)).toInt64)) ((nI (st)).toInt64)) (((ct)).toInt64)) (((sp)).toInt64)) ((nI (tw tk co cn wk 0 n)).toInt64) ) (va_cwS 2 C0.2.2.2.2 gX0_digest_X0_mixed rfl rfl rfl (by decide +kernel) ⟨(Nat.le_of_ble_eq_true rfl), (Nat.le_of_ble_eq_true rfl)⟩) rfl hl rfl (Nat.le_of_ble_eq_true rfl) dX0_digest_60 ⟨(Nat.le_of_ble_eq_true rfl), (Nat.le_of_ble_eq_true rfl)⟩ (fun H locs hG hS => ?_)
  refine lv_lstore_n (lv' := [(1, .long (dg (dg (dg (dg (dg (dg 1979 ((nI (n)).toInt64)) (((ho)).toInt64)) ((nI (st)).toInt64)) (((ct)).toInt64)) (((sp)).toInt64)) ((nI (tw tk co cn wk 0 n)).toInt64))), (0, .ref h)]) C0.1 C0.2.1 dX0_digest_63 rfl hl (by decide) rfl (fun ls hl => ?_)
  refine lv_lload_n C0.1 C0.2.1 dX0_digest_64 rfl (lv_at hl 0 rfl) ?_
  refine lv_aload_n C0.1 C0.2.1 dX0_digest_65 rfl (lv_at hl 1 rfl) ?_
  refine tc_callV (q0 := 0) C0 hG hS rfl rfl (kX0_luckiestPair hlf hk   ) (cwV 0 C0.2.2.2.2 gX0_digest_X0_luckiestPair rfl rfl rfl (by decide +kernel) ⟨(Nat.le_of_ble_eq_true rfl), (Nat.le_of_ble_eq_true rfl)⟩) rfl hl rfl (Nat.le_of_ble_eq_true rfl) dX0_digest_66 ⟨(Nat.le_of_ble_eq_true rfl), (Nat.le_of_ble_eq_true rfl)⟩ (fun H locs hG hS => ?_)
  refine lv_i2l C0.1 C0.2.1 dX0_digest_69 rfl ?_
  refine tc_callS C0 hG hS (kX0_mixed hlf  (dg (dg (dg (dg (dg (dg 1979 ((nI (n)).toInt64)) (((ho)).toInt64)) ((nI (st)).toInt64)) (((ct)).toInt64)) (((sp)).toInt64)) ((nI (tw tk co cn wk 0 n)).toInt64)) ((iM (luckiest tk co n)).toInt64) ) (va_cwS 2 C0.2.2.2.2 gX0_digest_X0_mixed rfl rfl rfl (by decide +kernel) ⟨(Nat.le_of_ble_eq_true rfl), (Nat.le_of_ble_eq_true rfl)⟩) rfl hl rfl (Nat.le_of_ble_eq_true rfl) dX0_digest_70 ⟨(Nat.le_of_ble_eq_true rfl), (Nat.le_of_ble_eq_true rfl)⟩ (fun H locs hG hS => ?_)
  refine lv_lstore_n (lv' := [(1, .long (dg (dg (dg (dg (dg (dg (dg 1979 ((nI (n)).toInt64)) (((ho)).toInt64)) ((nI (st)).toInt64)) (((ct)).toInt64)) (((sp)).toInt64)) ((nI (tw tk co cn wk 0 n)).toInt64)) ((iM (luckiest tk co n)).toInt64))), (0, .ref h)]) C0.1 C0.2.1 dX0_digest_73 rfl hl (by decide) rfl (fun ls hl => ?_)
  refine lv_lload_n C0.1 C0.2.1 dX0_digest_74 rfl (lv_at hl 0 rfl) ?_
  refine lv_aload_n C0.1 C0.2.1 dX0_digest_75 rfl (lv_at hl 1 rfl) ?_
  refine tc_callV (q0 := 0) C0 hG hS rfl rfl (kX0_bestHour hlf hk   ) (cwV 0 C0.2.2.2.2 gX0_digest_X0_bestHour rfl rfl rfl (by decide +kernel) ⟨(Nat.le_of_ble_eq_true rfl), (Nat.le_of_ble_eq_true rfl)⟩) rfl hl rfl (Nat.le_of_ble_eq_true rfl) dX0_digest_76 ⟨(Nat.le_of_ble_eq_true rfl), (Nat.le_of_ble_eq_true rfl)⟩ (fun H locs hG hS => ?_)
  refine lv_i2l C0.1 C0.2.1 dX0_digest_79 rfl ?_
  refine tc_callS C0 hG hS (kX0_mixed hlf  (dg (dg (dg (dg (dg (dg (dg 1979 ((nI (n)).toInt64)) (((ho)).toInt64)) ((nI (st)).toInt64)) (((ct)).toInt64)) (((sp)).toInt64)) ((nI (tw tk co cn wk 0 n)).toInt64)) ((iM (luckiest tk co n)).toInt64)) ((nI (bestHr tk co cn wk n)).toInt64) ) (va_cwS 2 C0.2.2.2.2 gX0_digest_X0_mixed rfl rfl rfl (by decide +kernel) ⟨(Nat.le_of_ble_eq_true rfl), (Nat.le_of_ble_eq_true rfl)⟩) rfl hl rfl (Nat.le_of_ble_eq_true rfl) dX0_digest_80 ⟨(Nat.le_of_ble_eq_true rfl), (Nat.le_of_ble_eq_true rfl)⟩ (fun H locs hG hS => ?_)
  refine lv_lstore_n (lv' := [(1, .long (dg (dg (dg (dg (dg (dg (dg (dg 1979 ((nI (n)).toInt64)) (((ho)).toInt64)) ((nI (st)).toInt64)) (((ct)).toInt64)) (((sp)).toInt64)) ((nI (tw tk co cn wk 0 n)).toInt64)) ((iM (luckiest tk co n)).toInt64)) ((nI (bestHr tk co cn wk n)).toInt64))), (0, .ref h)]) C0.1 C0.2.1 dX0_digest_83 rfl hl (by decide) rfl (fun ls hl => ?_)
  refine lv_lload_n C0.1 C0.2.1 dX0_digest_84 rfl (lv_at hl 0 rfl) ?_
  refine lv_aload_n C0.1 C0.2.1 dX0_digest_85 rfl (lv_at hl 1 rfl) ?_
  refine tc_callV (q0 := 0) C0 hG hS rfl rfl (kX0_bestSwap hlf hk   ) (cwV 0 C0.2.2.2.2 gX0_digest_X0_bestSwap rfl rfl rfl (by decide +kernel) ⟨(Nat.le_of_ble_eq_true rfl), (Nat.le_of_ble_eq_true rfl)⟩) rfl hl rfl (Nat.le_of_ble_eq_true rfl) dX0_digest_86 ⟨(Nat.le_of_ble_eq_true rfl), (Nat.le_of_ble_eq_true rfl)⟩ (fun H locs hG hS => ?_)
  refine lv_i2l C0.1 C0.2.1 dX0_digest_89 rfl ?_
  refine tc_callS C0 hG hS (kX0_mixed hlf  (dg (dg (dg (dg (dg (dg (dg (dg 1979 ((nI (n)).toInt64)) (((ho)).toInt64)) ((nI (st)).toInt64)) (((ct)).toInt64)) (((sp)).toInt64)) ((nI (tw tk co cn wk 0 n)).toInt64)) ((iM (luckiest tk co n)).toInt64)) ((nI (bestHr tk co cn wk n)).toInt64)) ((iM (bestSw tk co cn wk n)).toInt64) ) (va_cwS 2 C0.2.2.2.2 gX0_digest_X0_mixed rfl rfl rfl (by decide +kernel) ⟨(Nat.le_of_ble_eq_true rfl), (Nat.le_of_ble_eq_true rfl)⟩) rfl hl rfl (Nat.le_of_ble_eq_true rfl) dX0_digest_90 ⟨(Nat.le_of_ble_eq_true rfl), (Nat.le_of_ble_eq_true rfl)⟩ (fun H locs hG hS => ?_)
  refine lv_lstore_n (lv' := [(1, .long (dg (dg (dg (dg (dg (dg (dg (dg (dg 1979 ((nI (n)).toInt64)) (((ho)).toInt64)) ((nI (st)).toInt64)) (((ct)).toInt64)) (((sp)).toInt64)) ((nI (tw tk co cn wk 0 n)).toInt64)) ((iM (luckiest tk co n)).toInt64)) ((nI (bestHr tk co cn wk n)).toInt64)) ((iM (bestSw tk co cn wk n)).toInt64))), (0, .ref h)]) C0.1 C0.2.1 dX0_digest_93 rfl hl (by decide) rfl (fun ls hl => ?_)
  refine lv_iconst (v := nI 0) C0.1 C0.2.1 dX0_digest_94 (by decide) ?_
  refine lv_istore_n (lv' := [(3, .int (nI (0))), (1, .long (dg (dg (dg (dg (dg (dg (dg (dg (dg 1979 ((nI (n)).toInt64)) (((ho)).toInt64)) ((nI (st)).toInt64)) (((ct)).toInt64)) (((sp)).toInt64)) ((nI (tw tk co cn wk 0 n)).toInt64)) ((iM (luckiest tk co n)).toInt64)) ((nI (bestHr tk co cn wk n)).toInt64)) ((iM (bestSw tk co cn wk n)).toInt64))), (0, .ref h)]) C0.1 C0.2.1 dX0_digest_95 rfl hl (by decide) rfl (fun ls hl => ?_)
  refine tc_nameQ (fun zQg zhQ => ?_)
  have cut_96 : ∀ (kf : Nat) (d1 : Int64) (c9 : Nat) (hc9 : c9 ≤ 6) (hd1 : d1 = dgC tk co cn n (dgB tk co cn wk n ho st ct sp) c9) (hm : 6 + 1 ≤ c9 + kf), ∀ (ls : Array Slot), lv_has ls 4 [(3, .int (nI (c9))), (1, .long (d1)), (0, .ref h)] → ∀ (H : Heap) (locs : List Loc), tcG D cI cJ N0 (wT h r1 r2 r3 r4 cI tk co cn wk n ho st ct sp Z) s H → va_S (tcA N0) s.heap H locs → W p l e ({ frames := 6, cells := 0, slots := 0, locals := 137 } : Room) s m args below meth c H locs (0) (0) zQg (F0 m 96 ls []) := by
    intro kf
    induction kf with
    | zero => intro d1 c9 hc9 hd1 hm; exact absurd hm (by omega)
    | succ kf ih_96 =>
      intro d1 c9 hc9 hd1 hm ls hl H locs hG hS
      refine lv_iload_n C0.1 C0.2.1 dX0_digest_96 rfl (lv_at hl 0 rfl) ?_
      refine lv_bipush (v := nI 6) C0.1 C0.2.1 dX0_digest_97 (by decide) ?_
      refine tn_icmp_ge (tgt := 130) C0.1 C0.2.1 dX0_digest_99 (by decide) (by omega) (by omega) (fun c_99 => ?_) (fun c_99 => ?_)
      · refine lv_iconst (v := nI 0) C0.1 C0.2.1 dX0_digest_130 (by decide) ?_
        refine lv_istore_n (lv' := [(3, .int (nI (0))), (1, .long (d1)), (0, .ref h)]) C0.1 C0.2.1 dX0_digest_131 rfl hl (by decide) rfl (fun ls hl => ?_)
        have cut_132 : ∀ (kf : Nat) (d2 : Int64) (k9 : Nat) (hk9 : k9 ≤ n) (hd2 : d2 = dgK tk co cn wk n (dgC tk co cn n (dgB tk co cn wk n ho st ct sp) 6) k9) (hm : n + 1 ≤ k9 + kf), ∀ (ls : Array Slot), lv_has ls 4 [(3, .int (nI (k9))), (1, .long (d2)), (0, .ref h)] → ∀ (H : Heap) (locs : List Loc), tcG D cI cJ N0 (wT h r1 r2 r3 r4 cI tk co cn wk n ho st ct sp Z) s H → va_S (tcA N0) s.heap H locs → W p l e ({ frames := 6, cells := 0, slots := 0, locals := 137 } : Room) s m args below meth c H locs (0) (0) zQg (F0 m 132 ls []) := by
          intro kf
          induction kf with
          | zero => intro d2 k9 hk9 hd2 hm; exact absurd hm (by omega)
          | succ kf ih_132 =>
            intro d2 k9 hk9 hd2 hm ls hl H locs hG hS
            refine lv_iload_n C0.1 C0.2.1 dX0_digest_132 rfl (lv_at hl 0 rfl) ?_
            refine lv_aload_n C0.1 C0.2.1 dX0_digest_133 rfl (lv_at hl 2 rfl) ?_
            refine tgX0_people C0 hF hG w_people dX0_digest_134 ?_
            refine tn_icmp_ge (tgt := 216) C0.1 C0.2.1 dX0_digest_137 (by decide) (by omega) (by omega) (fun c_137 => ?_) (fun c_137 => ?_)
            · refine lv_lload_n C0.1 C0.2.1 dX0_digest_216 rfl (lv_at hl 1 rfl) ?_
              subst zhQ
              exact tc_lret C0 hr hlk hG hS rfl (by rw [hd2, show k9 = n by omega]; rfl) (Nat.le_of_ble_eq_true rfl) (Nat.le_of_ble_eq_true rfl) dX0_digest_217
            · refine lv_lload_n C0.1 C0.2.1 dX0_digest_140 rfl (lv_at hl 1 rfl) ?_
              refine lv_aload_n C0.1 C0.2.1 dX0_digest_141 rfl (lv_at hl 2 rfl) ?_
              refine tgX0_tickets C0 hF hG w_tickets dX0_digest_142 ?_
              refine lv_iload_n C0.1 C0.2.1 dX0_digest_145 rfl (lv_at hl 0 rfl) ?_
              refine tc_ald (q0 := 1) C0 hG rfl (by omega) dX0_digest_146 ?_
              have b_146 := hk1 (k9)
              refine lv_i2l C0.1 C0.2.1 dX0_digest_147 rfl ?_
              refine tc_callS C0 hG hS (kX0_mixed hlf  (d2) ((nI (tk (k9))).toInt64) ) (va_cwS 2 C0.2.2.2.2 gX0_digest_X0_mixed rfl rfl rfl (by decide +kernel) ⟨(Nat.le_of_ble_eq_true rfl), (Nat.le_of_ble_eq_true rfl)⟩) rfl hl rfl (Nat.le_of_ble_eq_true rfl) dX0_digest_148 ⟨(Nat.le_of_ble_eq_true rfl), (Nat.le_of_ble_eq_true rfl)⟩ (fun H locs hG hS => ?_)
              refine lv_lstore_n (lv' := [(1, .long (dg d2 ((nI (tk (k9))).toInt64))), (3, .int (nI (k9))), (0, .ref h)]) C0.1 C0.2.1 dX0_digest_151 rfl hl (by decide) rfl (fun ls hl => ?_)
              refine lv_lload_n C0.1 C0.2.1 dX0_digest_152 rfl (lv_at hl 0 rfl) ?_
              refine lv_aload_n C0.1 C0.2.1 dX0_digest_153 rfl (lv_at hl 2 rfl) ?_
              refine tgX0_colours C0 hF hG w_colours dX0_digest_154 ?_
              refine lv_iload_n C0.1 C0.2.1 dX0_digest_157 rfl (lv_at hl 1 rfl) ?_
              refine tc_ald (q0 := 2) C0 hG rfl (by omega) dX0_digest_158 ?_
              have b_158 := hk2 (k9)
              refine lv_i2l C0.1 C0.2.1 dX0_digest_159 rfl ?_
              refine tc_callS C0 hG hS (kX0_mixed hlf  (dg d2 ((nI (tk (k9))).toInt64)) ((nI (co (k9))).toInt64) ) (va_cwS 2 C0.2.2.2.2 gX0_digest_X0_mixed rfl rfl rfl (by decide +kernel) ⟨(Nat.le_of_ble_eq_true rfl), (Nat.le_of_ble_eq_true rfl)⟩) rfl hl rfl (Nat.le_of_ble_eq_true rfl) dX0_digest_160 ⟨(Nat.le_of_ble_eq_true rfl), (Nat.le_of_ble_eq_true rfl)⟩ (fun H locs hG hS => ?_)
              refine lv_lstore_n (lv' := [(1, .long (dg (dg d2 ((nI (tk (k9))).toInt64)) ((nI (co (k9))).toInt64))), (3, .int (nI (k9))), (0, .ref h)]) C0.1 C0.2.1 dX0_digest_163 rfl hl (by decide) rfl (fun ls hl => ?_)
              refine lv_lload_n C0.1 C0.2.1 dX0_digest_164 rfl (lv_at hl 0 rfl) ?_
              refine lv_aload_n C0.1 C0.2.1 dX0_digest_165 rfl (lv_at hl 2 rfl) ?_
              refine tgX0_corners C0 hF hG w_corners dX0_digest_166 ?_
              refine lv_iload_n C0.1 C0.2.1 dX0_digest_169 rfl (lv_at hl 1 rfl) ?_
              refine tc_ald (q0 := 3) C0 hG rfl (by omega) dX0_digest_170 ?_
              have b_170 := hk3 (k9)
              refine lv_i2l C0.1 C0.2.1 dX0_digest_171 rfl ?_
              refine tc_callS C0 hG hS (kX0_mixed hlf  (dg (dg d2 ((nI (tk (k9))).toInt64)) ((nI (co (k9))).toInt64)) ((nI (cn (k9))).toInt64) ) (va_cwS 2 C0.2.2.2.2 gX0_digest_X0_mixed rfl rfl rfl (by decide +kernel) ⟨(Nat.le_of_ble_eq_true rfl), (Nat.le_of_ble_eq_true rfl)⟩) rfl hl rfl (Nat.le_of_ble_eq_true rfl) dX0_digest_172 ⟨(Nat.le_of_ble_eq_true rfl), (Nat.le_of_ble_eq_true rfl)⟩ (fun H locs hG hS => ?_)
              refine lv_lstore_n (lv' := [(1, .long (dg (dg (dg d2 ((nI (tk (k9))).toInt64)) ((nI (co (k9))).toInt64)) ((nI (cn (k9))).toInt64))), (3, .int (nI (k9))), (0, .ref h)]) C0.1 C0.2.1 dX0_digest_175 rfl hl (by decide) rfl (fun ls hl => ?_)
              refine lv_lload_n C0.1 C0.2.1 dX0_digest_176 rfl (lv_at hl 0 rfl) ?_
              refine lv_aload_n C0.1 C0.2.1 dX0_digest_177 rfl (lv_at hl 2 rfl) ?_
              refine tgX0_walks C0 hF hG w_walks dX0_digest_178 ?_
              refine lv_iload_n C0.1 C0.2.1 dX0_digest_181 rfl (lv_at hl 1 rfl) ?_
              refine tc_ald (q0 := 4) C0 hG rfl (by omega) dX0_digest_182 ?_
              have b_182 := hk4 (k9)
              refine lv_i2l C0.1 C0.2.1 dX0_digest_183 rfl ?_
              refine tc_callS C0 hG hS (kX0_mixed hlf  (dg (dg (dg d2 ((nI (tk (k9))).toInt64)) ((nI (co (k9))).toInt64)) ((nI (cn (k9))).toInt64)) ((nI (wk (k9))).toInt64) ) (va_cwS 2 C0.2.2.2.2 gX0_digest_X0_mixed rfl rfl rfl (by decide +kernel) ⟨(Nat.le_of_ble_eq_true rfl), (Nat.le_of_ble_eq_true rfl)⟩) rfl hl rfl (Nat.le_of_ble_eq_true rfl) dX0_digest_184 ⟨(Nat.le_of_ble_eq_true rfl), (Nat.le_of_ble_eq_true rfl)⟩ (fun H locs hG hS => ?_)
              refine lv_lstore_n (lv' := [(1, .long (dg (dg (dg (dg d2 ((nI (tk (k9))).toInt64)) ((nI (co (k9))).toInt64)) ((nI (cn (k9))).toInt64)) ((nI (wk (k9))).toInt64))), (3, .int (nI (k9))), (0, .ref h)]) C0.1 C0.2.1 dX0_digest_187 rfl hl (by decide) rfl (fun ls hl => ?_)
              refine lv_lload_n C0.1 C0.2.1 dX0_digest_188 rfl (lv_at hl 0 rfl) ?_
              refine lv_aload_n C0.1 C0.2.1 dX0_digest_189 rfl (lv_at hl 2 rfl) ?_
              refine lv_iload_n C0.1 C0.2.1 dX0_digest_190 rfl (lv_at hl 1 rfl) ?_
              refine tc_callV (q0 := 0) C0 hG hS rfl rfl (kX0_luckNow hlf hk  (k9) (by omega)) (cwV 1 C0.2.2.2.2 gX0_digest_X0_luckNow rfl rfl rfl (by decide +kernel) ⟨(Nat.le_of_ble_eq_true rfl), (Nat.le_of_ble_eq_true rfl)⟩) rfl hl rfl (Nat.le_of_ble_eq_true rfl) dX0_digest_191 ⟨(Nat.le_of_ble_eq_true rfl), (Nat.le_of_ble_eq_true rfl)⟩ (fun H locs hG hS => ?_)
              have b_191 := (show lkn tk co cn k9 n ≤ 156 from lw_le tk co cn k9 (tk k9) (cn k9) hk.2.2.2.2.1)
              refine lv_i2l C0.1 C0.2.1 dX0_digest_194 rfl ?_
              refine tc_callS C0 hG hS (kX0_mixed hlf  (dg (dg (dg (dg d2 ((nI (tk (k9))).toInt64)) ((nI (co (k9))).toInt64)) ((nI (cn (k9))).toInt64)) ((nI (wk (k9))).toInt64)) ((nI (lkn tk co cn k9 n)).toInt64) ) (va_cwS 2 C0.2.2.2.2 gX0_digest_X0_mixed rfl rfl rfl (by decide +kernel) ⟨(Nat.le_of_ble_eq_true rfl), (Nat.le_of_ble_eq_true rfl)⟩) rfl hl rfl (Nat.le_of_ble_eq_true rfl) dX0_digest_195 ⟨(Nat.le_of_ble_eq_true rfl), (Nat.le_of_ble_eq_true rfl)⟩ (fun H locs hG hS => ?_)
              refine lv_lstore_n (lv' := [(1, .long (dg (dg (dg (dg (dg d2 ((nI (tk (k9))).toInt64)) ((nI (co (k9))).toInt64)) ((nI (cn (k9))).toInt64)) ((nI (wk (k9))).toInt64)) ((nI (lkn tk co cn k9 n)).toInt64))), (3, .int (nI (k9))), (0, .ref h)]) C0.1 C0.2.1 dX0_digest_198 rfl hl (by decide) rfl (fun ls hl => ?_)
              refine lv_lload_n C0.1 C0.2.1 dX0_digest_199 rfl (lv_at hl 0 rfl) ?_
              refine lv_aload_n C0.1 C0.2.1 dX0_digest_200 rfl (lv_at hl 2 rfl) ?_
              refine lv_iload_n C0.1 C0.2.1 dX0_digest_201 rfl (lv_at hl 1 rfl) ?_
              refine tc_callV (q0 := 0) C0 hG hS rfl rfl (kX0_bestCorner_in hlf hk  (k9) (by omega)) (cwV 1 C0.2.2.2.2 gX0_digest_X0_bestCorner rfl rfl rfl (by decide +kernel) ⟨(Nat.le_of_ble_eq_true rfl), (Nat.le_of_ble_eq_true rfl)⟩) rfl hl rfl (Nat.le_of_ble_eq_true rfl) dX0_digest_202 ⟨(Nat.le_of_ble_eq_true rfl), (Nat.le_of_ble_eq_true rfl)⟩ (fun H locs hG hS => ?_)
              refine lv_i2l C0.1 C0.2.1 dX0_digest_205 rfl ?_
              refine tc_callS C0 hG hS (kX0_mixed hlf  (dg (dg (dg (dg (dg d2 ((nI (tk (k9))).toInt64)) ((nI (co (k9))).toInt64)) ((nI (cn (k9))).toInt64)) ((nI (wk (k9))).toInt64)) ((nI (lkn tk co cn k9 n)).toInt64)) ((nI (bestCn tk co cn k9 n)).toInt64) ) (va_cwS 2 C0.2.2.2.2 gX0_digest_X0_mixed rfl rfl rfl (by decide +kernel) ⟨(Nat.le_of_ble_eq_true rfl), (Nat.le_of_ble_eq_true rfl)⟩) rfl hl rfl (Nat.le_of_ble_eq_true rfl) dX0_digest_206 ⟨(Nat.le_of_ble_eq_true rfl), (Nat.le_of_ble_eq_true rfl)⟩ (fun H locs hG hS => ?_)
              refine lv_lstore_n (lv' := [(1, .long (dg (dg (dg (dg (dg (dg d2 ((nI (tk (k9))).toInt64)) ((nI (co (k9))).toInt64)) ((nI (cn (k9))).toInt64)) ((nI (wk (k9))).toInt64)) ((nI (lkn tk co cn k9 n)).toInt64)) ((nI (bestCn tk co cn k9 n)).toInt64))), (3, .int (nI (k9))), (0, .ref h)]) C0.1 C0.2.1 dX0_digest_209 rfl hl (by decide) rfl (fun ls hl => ?_)
              refine tn_iinc (lv' := [(3, .int (nI (k9 + 1))), (1, .long (dg (dg (dg (dg (dg (dg d2 ((nI (tk (k9))).toInt64)) ((nI (co (k9))).toInt64)) ((nI (cn (k9))).toInt64)) ((nI (wk (k9))).toInt64)) ((nI (lkn tk co cn k9 n)).toInt64)) ((nI (bestCn tk co cn k9 n)).toInt64))), (0, .ref h)]) C0.1 C0.2.1 dX0_digest_210 hl (k := 1) rfl (by decide) rfl (fun ls hl => ?_)
              refine lv_goto (tgt := 132) C0.1 C0.2.1 dX0_digest_213 (by decide) ?_
              exact ih_132 (dg (dg (dg (dg (dg (dg d2 ((nI (tk (k9))).toInt64)) ((nI (co (k9))).toInt64)) ((nI (cn (k9))).toInt64)) ((nI (wk (k9))).toInt64)) ((nI (lkn tk co cn k9 n)).toInt64)) ((nI (bestCn tk co cn k9 n)).toInt64)) (k9 + 1) (by omega) (by rw [hd2]; rfl) (by omega) ls (lv_sub hl [0, 1, 2] rfl) _ _ hG hS
        exact cut_132 (n + 1) (d1) (0) (by omega) (by rw [hd1, show c9 = 6 by omega]; rfl) (by omega) ls (lv_sub hl [0, 1, 2] rfl) _ _ hG hS
      · refine lv_lload_n C0.1 C0.2.1 dX0_digest_102 rfl (lv_at hl 1 rfl) ?_
        refine lv_aload_n C0.1 C0.2.1 dX0_digest_103 rfl (lv_at hl 2 rfl) ?_
        refine lv_iload_n C0.1 C0.2.1 dX0_digest_104 rfl (lv_at hl 0 rfl) ?_
        refine tc_callV (q0 := 0) C0 hG hS rfl rfl (kX0_peopleAt_in hlf hk  (c9) (by omega)) (cwV 1 C0.2.2.2.2 gX0_digest_X0_peopleAt rfl rfl rfl (by decide +kernel) ⟨(Nat.le_of_ble_eq_true rfl), (Nat.le_of_ble_eq_true rfl)⟩) rfl hl rfl (Nat.le_of_ble_eq_true rfl) dX0_digest_105 ⟨(Nat.le_of_ble_eq_true rfl), (Nat.le_of_ble_eq_true rfl)⟩ (fun H locs hG hS => ?_)
        refine lv_i2l C0.1 C0.2.1 dX0_digest_108 rfl ?_
        refine tc_callS C0 hG hS (kX0_mixed hlf  (d1) ((nI (crowd cn c9 n)).toInt64) ) (va_cwS 2 C0.2.2.2.2 gX0_digest_X0_mixed rfl rfl rfl (by decide +kernel) ⟨(Nat.le_of_ble_eq_true rfl), (Nat.le_of_ble_eq_true rfl)⟩) rfl hl rfl (Nat.le_of_ble_eq_true rfl) dX0_digest_109 ⟨(Nat.le_of_ble_eq_true rfl), (Nat.le_of_ble_eq_true rfl)⟩ (fun H locs hG hS => ?_)
        refine lv_lstore_n (lv' := [(1, .long (dg d1 ((nI (crowd cn c9 n)).toInt64))), (3, .int (nI (c9))), (0, .ref h)]) C0.1 C0.2.1 dX0_digest_112 rfl hl (by decide) rfl (fun ls hl => ?_)
        refine lv_lload_n C0.1 C0.2.1 dX0_digest_113 rfl (lv_at hl 0 rfl) ?_
        refine lv_aload_n C0.1 C0.2.1 dX0_digest_114 rfl (lv_at hl 2 rfl) ?_
        refine lv_iload_n C0.1 C0.2.1 dX0_digest_115 rfl (lv_at hl 1 rfl) ?_
        refine tc_callV (q0 := 0) C0 hG hS rfl rfl (kX0_coincidencesAt_in hlf hk  (c9) (by omega)) (cwV 1 C0.2.2.2.2 gX0_digest_X0_coincidencesAt rfl rfl rfl (by decide +kernel) ⟨(Nat.le_of_ble_eq_true rfl), (Nat.le_of_ble_eq_true rfl)⟩) rfl hl rfl (Nat.le_of_ble_eq_true rfl) dX0_digest_116 ⟨(Nat.le_of_ble_eq_true rfl), (Nat.le_of_ble_eq_true rfl)⟩ (fun H locs hG hS => ?_)
        refine lv_i2l C0.1 C0.2.1 dX0_digest_119 rfl ?_
        refine tc_callS C0 hG hS (kX0_mixed hlf  (dg d1 ((nI (crowd cn c9 n)).toInt64)) ((nI (cAt tk co cn c9 n)).toInt64) ) (va_cwS 2 C0.2.2.2.2 gX0_digest_X0_mixed rfl rfl rfl (by decide +kernel) ⟨(Nat.le_of_ble_eq_true rfl), (Nat.le_of_ble_eq_true rfl)⟩) rfl hl rfl (Nat.le_of_ble_eq_true rfl) dX0_digest_120 ⟨(Nat.le_of_ble_eq_true rfl), (Nat.le_of_ble_eq_true rfl)⟩ (fun H locs hG hS => ?_)
        refine lv_lstore_n (lv' := [(1, .long (dg (dg d1 ((nI (crowd cn c9 n)).toInt64)) ((nI (cAt tk co cn c9 n)).toInt64))), (3, .int (nI (c9))), (0, .ref h)]) C0.1 C0.2.1 dX0_digest_123 rfl hl (by decide) rfl (fun ls hl => ?_)
        refine tn_iinc (lv' := [(3, .int (nI (c9 + 1))), (1, .long (dg (dg d1 ((nI (crowd cn c9 n)).toInt64)) ((nI (cAt tk co cn c9 n)).toInt64))), (0, .ref h)]) C0.1 C0.2.1 dX0_digest_124 hl (k := 1) rfl (by decide) rfl (fun ls hl => ?_)
        refine lv_goto (tgt := 96) C0.1 C0.2.1 dX0_digest_127 (by decide) ?_
        exact ih_96 (dg (dg d1 ((nI (crowd cn c9 n)).toInt64)) ((nI (cAt tk co cn c9 n)).toInt64)) (c9 + 1) (by omega) (by rw [hd1]; rfl) (by omega) ls (lv_sub hl [0, 1, 2] rfl) _ _ hG hS
  exact cut_96 (6 + 1) (dg (dg (dg (dg (dg (dg (dg (dg (dg 1979 ((nI (n)).toInt64)) (((ho)).toInt64)) ((nI (st)).toInt64)) (((ct)).toInt64)) (((sp)).toInt64)) ((nI (tw tk co cn wk 0 n)).toInt64)) ((iM (luckiest tk co n)).toInt64)) ((nI (bestHr tk co cn wk n)).toInt64)) ((iM (bestSw tk co cn wk n)).toInt64)) (0) (by omega) rfl (by omega) ls (lv_sub hl [0, 1, 2] rfl) _ _ hG hS
set_option maxHeartbeats 4000000 in
set_option maxRecDepth 100000 in
theorem kX0_requirePair_in {l : Launch} (hlf : l.stackTraces = false) {D : va_G} {cI cJ : ClassId} {N0 : Nat} {h r1 r2 r3 r4 : Nat} {tk co cn wk : Nat → Nat} {n st : Nat} {ho ct sp : Int32} {Z : va_W} (hk : tOk tk co cn wk n st) (x : Nat) (y : Nat) (h1 : x < n) (h2 : y < n) (h3 : x ≠ y) : tcM l yX0_requirePair wsX0_requirePair { frames := 1, cells := 0, slots := 0, locals := 21 } [] 0 [.ref h, .int (nI (x)), .int (nI (y))] D cI cJ N0 (wT h r1 r2 r3 r4 cI tk co cn wk n ho st ct sp Z) none (wT h r1 r2 r3 r4 cI tk co cn wk n ho st ct sp Z) 0 0 := by
  refine tcM.of (cc := cX0_requirePair) (maxL := 3) (ret := none) (by decide) rfl (Nat.le_of_ble_eq_true rfl) ?_
  intro p e s m args below meth c C0 hr hlk ht hmn hG ls hl
  have hl : lv_has ls 3 [(0, .ref h), (1, .int (nI (x))), (2, .int (nI (y)))] := hl
  obtain ⟨hk1, hk2, hk3, hk4, hn12, hst⟩ := id hk
  have hG0 := hG
  have hS : va_S (tcA N0) s.heap s.heap [] := va_S.rf
  refine lv_aload_n C0.1 C0.2.1 dX0_requirePair_0 rfl (lv_at hl 0 rfl) ?_
  refine lv_iload_n C0.1 C0.2.1 dX0_requirePair_1 rfl (lv_at hl 1 rfl) ?_
  refine tc_callVv (q0 := 0) C0 hG hS rfl rfl (kX0_requireStranger_in hlf hk  (x) (by omega)) (cwV 1 C0.2.2.2.2 gX0_requirePair_X0_requireStranger rfl rfl rfl (by decide +kernel) ⟨(Nat.le_of_ble_eq_true rfl), (Nat.le_of_ble_eq_true rfl)⟩) rfl hl rfl (Nat.le_of_ble_eq_true rfl) dX0_requirePair_2 ⟨(Nat.le_of_ble_eq_true rfl), (Nat.le_of_ble_eq_true rfl)⟩ (fun H locs hG hS => ?_)
  refine lv_aload_n C0.1 C0.2.1 dX0_requirePair_5 rfl (lv_at hl 0 rfl) ?_
  refine lv_iload_n C0.1 C0.2.1 dX0_requirePair_6 rfl (lv_at hl 2 rfl) ?_
  refine tc_callVv (q0 := 0) C0 hG hS rfl rfl (kX0_requireStranger_in hlf hk  (y) (by omega)) (cwV 1 C0.2.2.2.2 gX0_requirePair_X0_requireStranger rfl rfl rfl (by decide +kernel) ⟨(Nat.le_of_ble_eq_true rfl), (Nat.le_of_ble_eq_true rfl)⟩) rfl hl rfl (Nat.le_of_ble_eq_true rfl) dX0_requirePair_7 ⟨(Nat.le_of_ble_eq_true rfl), (Nat.le_of_ble_eq_true rfl)⟩ (fun H locs hG hS => ?_)
  refine lv_iload_n C0.1 C0.2.1 dX0_requirePair_10 rfl (lv_at hl 1 rfl) ?_
  refine lv_iload_n C0.1 C0.2.1 dX0_requirePair_11 rfl (lv_at hl 2 rfl) ?_
  refine tn_icmp_ne (tgt := 25) C0.1 C0.2.1 dX0_requirePair_12 (by decide) (by omega) (by omega) (fun c_12 => ?_) (fun c_12 => ?_)
  · exact tc_vret C0 hr hlk hG hS rfl (Nat.le_of_ble_eq_true rfl) (Nat.le_of_ble_eq_true rfl) dX0_requirePair_25
  · exact absurd c_12 h3
set_option maxHeartbeats 4000000 in
set_option maxRecDepth 100000 in
theorem kX0_pay_in {l : Launch} (hlf : l.stackTraces = false) {D : va_G} {cI cJ : ClassId} {N0 : Nat} {h r1 r2 r3 r4 : Nat} {tk co cn wk : Nat → Nat} {n st : Nat} {ho ct sp : Int32} {Z : va_W} (hk : tOk tk co cn wk n st) (x : Nat) (h1 : x ≤ st) : tcM l yX0_pay wsX0_pay { frames := 0, cells := 0, slots := 0, locals := 0 } [] 0 [.ref h, .int (nI (x))] D cI cJ N0 (wT h r1 r2 r3 r4 cI tk co cn wk n ho st ct sp Z) none (wT h r1 r2 r3 r4 cI tk co cn wk n ho (st - x) ct (sp + nI x) Z) 0 0 := by
  refine tcM.of (cc := cX0_pay) (maxL := 2) (ret := none) (by decide) rfl (Nat.le_of_ble_eq_true rfl) ?_
  intro p e s m args below meth c C0 hr hlk ht hmn hG ls hl
  have hl : lv_has ls 2 [(0, .ref h), (1, .int (nI (x)))] := hl
  obtain ⟨hk1, hk2, hk3, hk4, hn12, hst⟩ := id hk
  have hG0 := hG
  have hS : va_S (tcA N0) s.heap s.heap [] := va_S.rf
  have hF : ∀ w ∈ wsX00, w ∈ wsX0_pay := by decide +kernel
  have w_inStore : Cond.fieldLink RX0 29 "TicketCoincidences" "inStore" "I" ∈ wsX0_pay := by decide +kernel
  have w_spentInAll : Cond.fieldLink RX0 35 "TicketCoincidences" "spentInAll" "I" ∈ wsX0_pay := by decide +kernel
  refine lv_iload_n C0.1 C0.2.1 dX0_pay_0 rfl (lv_at hl 1 rfl) ?_
  refine lv_aload_n C0.1 C0.2.1 dX0_pay_1 rfl (lv_at hl 0 rfl) ?_
  refine tgX0_inStore C0 hF hG w_inStore dX0_pay_2 ?_
  refine tn_icmp_le (tgt := 18) C0.1 C0.2.1 dX0_pay_5 (by decide) (by omega) (by omega) (fun c_5 => ?_) (fun c_5 => ?_)
  · refine lv_aload_n C0.1 C0.2.1 dX0_pay_18 rfl (lv_at hl 0 rfl) ?_
    refine lv_dup C0.1 C0.2.1 dX0_pay_19 rfl ?_
    refine tgX0_inStore C0 hF hG w_inStore dX0_pay_20 ?_
    refine lv_iload_n C0.1 C0.2.1 dX0_pay_23 rfl (lv_at hl 1 rfl) ?_
    refine tn_isub C0.1 C0.2.1 dX0_pay_24 (by omega) ?_
    refine tpX0_inStore C0 hF hG0 hG hS w_inStore dX0_pay_25 (fun H locs hG hS => ?_)
    refine lv_aload_n C0.1 C0.2.1 dX0_pay_28 rfl (lv_at hl 0 rfl) ?_
    refine lv_dup C0.1 C0.2.1 dX0_pay_29 rfl ?_
    refine tgX0_spentInAll C0 hF hG w_spentInAll dX0_pay_30 ?_
    refine lv_iload_n C0.1 C0.2.1 dX0_pay_33 rfl (lv_at hl 1 rfl) ?_
    refine lv_iadd C0.1 C0.2.1 dX0_pay_34 ?_
    refine tpX0_spentInAll C0 hF hG0 hG hS w_spentInAll dX0_pay_35 (fun H locs hG hS => ?_)
    exact tc_vret C0 hr hlk hG hS rfl (Nat.le_of_ble_eq_true rfl) (Nat.le_of_ble_eq_true rfl) dX0_pay_38
  · exact absurd h1 (by omega)
set_option maxHeartbeats 4000000 in
set_option maxRecDepth 100000 in
theorem kX0_ticketOf_in {l : Launch} (hlf : l.stackTraces = false) {D : va_G} {cI cJ : ClassId} {N0 : Nat} {h r1 r2 r3 r4 : Nat} {tk co cn wk : Nat → Nat} {n st : Nat} {ho ct sp : Int32} {Z : va_W} (hk : tOk tk co cn wk n st) (x : Nat) (h1 : x < n) : tcM l yX0_ticketOf wsX0_ticketOf { frames := 1, cells := 0, slots := 0, locals := 21 } [] 0 [.ref h, .int (nI (x))] D cI cJ N0 (wT h r1 r2 r3 r4 cI tk co cn wk n ho st ct sp Z) (some (.int (nI (tk x)))) (wT h r1 r2 r3 r4 cI tk co cn wk n ho st ct sp Z) 0 0 := by
  refine tcM.of (cc := cX0_ticketOf) (maxL := 2) (ret := (some .int)) (by decide) rfl (Nat.le_of_ble_eq_true rfl) ?_
  intro p e s m args below meth c C0 hr hlk ht hmn hG ls hl
  have hl : lv_has ls 2 [(0, .ref h), (1, .int (nI (x)))] := hl
  obtain ⟨hk1, hk2, hk3, hk4, hn12, hst⟩ := id hk
  have hG0 := hG
  have hS : va_S (tcA N0) s.heap s.heap [] := va_S.rf
  have hF : ∀ w ∈ wsX00, w ∈ wsX0_ticketOf := by decide +kernel
  have w_tickets : Cond.fieldLink RX0 9 "TicketCoincidences" "tickets" "[I" ∈ wsX0_ticketOf := by decide +kernel
  refine lv_aload_n C0.1 C0.2.1 dX0_ticketOf_0 rfl (lv_at hl 0 rfl) ?_
  refine lv_iload_n C0.1 C0.2.1 dX0_ticketOf_1 rfl (lv_at hl 1 rfl) ?_
  refine tc_callVv (q0 := 0) C0 hG hS rfl rfl (kX0_requireStranger_in hlf hk  (x) (by omega)) (cwV 1 C0.2.2.2.2 gX0_ticketOf_X0_requireStranger rfl rfl rfl (by decide +kernel) ⟨(Nat.le_of_ble_eq_true rfl), (Nat.le_of_ble_eq_true rfl)⟩) rfl hl rfl (Nat.le_of_ble_eq_true rfl) dX0_ticketOf_2 ⟨(Nat.le_of_ble_eq_true rfl), (Nat.le_of_ble_eq_true rfl)⟩ (fun H locs hG hS => ?_)
  refine lv_aload_n C0.1 C0.2.1 dX0_ticketOf_5 rfl (lv_at hl 0 rfl) ?_
  refine tgX0_tickets C0 hF hG w_tickets dX0_ticketOf_6 ?_
  refine lv_iload_n C0.1 C0.2.1 dX0_ticketOf_9 rfl (lv_at hl 1 rfl) ?_
  refine tc_ald (q0 := 1) C0 hG rfl (by omega) dX0_ticketOf_10 ?_
  have b_10 := hk1 (x)
  exact tc_iret C0 hr hlk hG hS rfl rfl (Nat.le_of_ble_eq_true rfl) (Nat.le_of_ble_eq_true rfl) dX0_ticketOf_11
set_option maxHeartbeats 4000000 in
set_option maxRecDepth 100000 in
theorem kX0_colourOf_in {l : Launch} (hlf : l.stackTraces = false) {D : va_G} {cI cJ : ClassId} {N0 : Nat} {h r1 r2 r3 r4 : Nat} {tk co cn wk : Nat → Nat} {n st : Nat} {ho ct sp : Int32} {Z : va_W} (hk : tOk tk co cn wk n st) (x : Nat) (h1 : x < n) : tcM l yX0_colourOf wsX0_colourOf { frames := 1, cells := 0, slots := 0, locals := 21 } [] 0 [.ref h, .int (nI (x))] D cI cJ N0 (wT h r1 r2 r3 r4 cI tk co cn wk n ho st ct sp Z) (some (.int (nI (co x)))) (wT h r1 r2 r3 r4 cI tk co cn wk n ho st ct sp Z) 0 0 := by
  refine tcM.of (cc := cX0_colourOf) (maxL := 2) (ret := (some .int)) (by decide) rfl (Nat.le_of_ble_eq_true rfl) ?_
  intro p e s m args below meth c C0 hr hlk ht hmn hG ls hl
  have hl : lv_has ls 2 [(0, .ref h), (1, .int (nI (x)))] := hl
  obtain ⟨hk1, hk2, hk3, hk4, hn12, hst⟩ := id hk
  have hG0 := hG
  have hS : va_S (tcA N0) s.heap s.heap [] := va_S.rf
  have hF : ∀ w ∈ wsX00, w ∈ wsX0_colourOf := by decide +kernel
  have w_colours : Cond.fieldLink RX0 13 "TicketCoincidences" "colours" "[I" ∈ wsX0_colourOf := by decide +kernel
  refine lv_aload_n C0.1 C0.2.1 dX0_colourOf_0 rfl (lv_at hl 0 rfl) ?_
  refine lv_iload_n C0.1 C0.2.1 dX0_colourOf_1 rfl (lv_at hl 1 rfl) ?_
  refine tc_callVv (q0 := 0) C0 hG hS rfl rfl (kX0_requireStranger_in hlf hk  (x) (by omega)) (cwV 1 C0.2.2.2.2 gX0_colourOf_X0_requireStranger rfl rfl rfl (by decide +kernel) ⟨(Nat.le_of_ble_eq_true rfl), (Nat.le_of_ble_eq_true rfl)⟩) rfl hl rfl (Nat.le_of_ble_eq_true rfl) dX0_colourOf_2 ⟨(Nat.le_of_ble_eq_true rfl), (Nat.le_of_ble_eq_true rfl)⟩ (fun H locs hG hS => ?_)
  refine lv_aload_n C0.1 C0.2.1 dX0_colourOf_5 rfl (lv_at hl 0 rfl) ?_
  refine tgX0_colours C0 hF hG w_colours dX0_colourOf_6 ?_
  refine lv_iload_n C0.1 C0.2.1 dX0_colourOf_9 rfl (lv_at hl 1 rfl) ?_
  refine tc_ald (q0 := 2) C0 hG rfl (by omega) dX0_colourOf_10 ?_
  have b_10 := hk2 (x)
  exact tc_iret C0 hr hlk hG hS rfl rfl (Nat.le_of_ble_eq_true rfl) (Nat.le_of_ble_eq_true rfl) dX0_colourOf_11
set_option maxHeartbeats 4000000 in
set_option maxRecDepth 100000 in
theorem kX0_cornerOf_in {l : Launch} (hlf : l.stackTraces = false) {D : va_G} {cI cJ : ClassId} {N0 : Nat} {h r1 r2 r3 r4 : Nat} {tk co cn wk : Nat → Nat} {n st : Nat} {ho ct sp : Int32} {Z : va_W} (hk : tOk tk co cn wk n st) (x : Nat) (h1 : x < n) : tcM l yX0_cornerOf wsX0_cornerOf { frames := 1, cells := 0, slots := 0, locals := 21 } [] 0 [.ref h, .int (nI (x))] D cI cJ N0 (wT h r1 r2 r3 r4 cI tk co cn wk n ho st ct sp Z) (some (.int (nI (cn x)))) (wT h r1 r2 r3 r4 cI tk co cn wk n ho st ct sp Z) 0 0 := by
  refine tcM.of (cc := cX0_cornerOf) (maxL := 2) (ret := (some .int)) (by decide) rfl (Nat.le_of_ble_eq_true rfl) ?_
  intro p e s m args below meth c C0 hr hlk ht hmn hG ls hl
  have hl : lv_has ls 2 [(0, .ref h), (1, .int (nI (x)))] := hl
  obtain ⟨hk1, hk2, hk3, hk4, hn12, hst⟩ := id hk
  have hG0 := hG
  have hS : va_S (tcA N0) s.heap s.heap [] := va_S.rf
  have hF : ∀ w ∈ wsX00, w ∈ wsX0_cornerOf := by decide +kernel
  have w_corners : Cond.fieldLink RX0 16 "TicketCoincidences" "corners" "[I" ∈ wsX0_cornerOf := by decide +kernel
  refine lv_aload_n C0.1 C0.2.1 dX0_cornerOf_0 rfl (lv_at hl 0 rfl) ?_
  refine lv_iload_n C0.1 C0.2.1 dX0_cornerOf_1 rfl (lv_at hl 1 rfl) ?_
  refine tc_callVv (q0 := 0) C0 hG hS rfl rfl (kX0_requireStranger_in hlf hk  (x) (by omega)) (cwV 1 C0.2.2.2.2 gX0_cornerOf_X0_requireStranger rfl rfl rfl (by decide +kernel) ⟨(Nat.le_of_ble_eq_true rfl), (Nat.le_of_ble_eq_true rfl)⟩) rfl hl rfl (Nat.le_of_ble_eq_true rfl) dX0_cornerOf_2 ⟨(Nat.le_of_ble_eq_true rfl), (Nat.le_of_ble_eq_true rfl)⟩ (fun H locs hG hS => ?_)
  refine lv_aload_n C0.1 C0.2.1 dX0_cornerOf_5 rfl (lv_at hl 0 rfl) ?_
  refine tgX0_corners C0 hF hG w_corners dX0_cornerOf_6 ?_
  refine lv_iload_n C0.1 C0.2.1 dX0_cornerOf_9 rfl (lv_at hl 1 rfl) ?_
  refine tc_ald (q0 := 3) C0 hG rfl (by omega) dX0_cornerOf_10 ?_
  have b_10 := hk3 (x)
  exact tc_iret C0 hr hlk hG hS rfl rfl (Nat.le_of_ble_eq_true rfl) (Nat.le_of_ble_eq_true rfl) dX0_cornerOf_11
set_option maxHeartbeats 4000000 in
set_option maxRecDepth 100000 in
theorem kX0_walkOf_in {l : Launch} (hlf : l.stackTraces = false) {D : va_G} {cI cJ : ClassId} {N0 : Nat} {h r1 r2 r3 r4 : Nat} {tk co cn wk : Nat → Nat} {n st : Nat} {ho ct sp : Int32} {Z : va_W} (hk : tOk tk co cn wk n st) (x : Nat) (h1 : x < n) : tcM l yX0_walkOf wsX0_walkOf { frames := 1, cells := 0, slots := 0, locals := 21 } [] 0 [.ref h, .int (nI (x))] D cI cJ N0 (wT h r1 r2 r3 r4 cI tk co cn wk n ho st ct sp Z) (some (.int (nI (wk x)))) (wT h r1 r2 r3 r4 cI tk co cn wk n ho st ct sp Z) 0 0 := by
  refine tcM.of (cc := cX0_walkOf) (maxL := 2) (ret := (some .int)) (by decide) rfl (Nat.le_of_ble_eq_true rfl) ?_
  intro p e s m args below meth c C0 hr hlk ht hmn hG ls hl
  have hl : lv_has ls 2 [(0, .ref h), (1, .int (nI (x)))] := hl
  obtain ⟨hk1, hk2, hk3, hk4, hn12, hst⟩ := id hk
  have hG0 := hG
  have hS : va_S (tcA N0) s.heap s.heap [] := va_S.rf
  have hF : ∀ w ∈ wsX00, w ∈ wsX0_walkOf := by decide +kernel
  have w_walks : Cond.fieldLink RX0 19 "TicketCoincidences" "walks" "[I" ∈ wsX0_walkOf := by decide +kernel
  refine lv_aload_n C0.1 C0.2.1 dX0_walkOf_0 rfl (lv_at hl 0 rfl) ?_
  refine lv_iload_n C0.1 C0.2.1 dX0_walkOf_1 rfl (lv_at hl 1 rfl) ?_
  refine tc_callVv (q0 := 0) C0 hG hS rfl rfl (kX0_requireStranger_in hlf hk  (x) (by omega)) (cwV 1 C0.2.2.2.2 gX0_walkOf_X0_requireStranger rfl rfl rfl (by decide +kernel) ⟨(Nat.le_of_ble_eq_true rfl), (Nat.le_of_ble_eq_true rfl)⟩) rfl hl rfl (Nat.le_of_ble_eq_true rfl) dX0_walkOf_2 ⟨(Nat.le_of_ble_eq_true rfl), (Nat.le_of_ble_eq_true rfl)⟩ (fun H locs hG hS => ?_)
  refine lv_aload_n C0.1 C0.2.1 dX0_walkOf_5 rfl (lv_at hl 0 rfl) ?_
  refine tgX0_walks C0 hF hG w_walks dX0_walkOf_6 ?_
  refine lv_iload_n C0.1 C0.2.1 dX0_walkOf_9 rfl (lv_at hl 1 rfl) ?_
  refine tc_ald (q0 := 4) C0 hG rfl (by omega) dX0_walkOf_10 ?_
  have b_10 := hk4 (x)
  exact tc_iret C0 hr hlk hG hS rfl rfl (Nat.le_of_ble_eq_true rfl) (Nat.le_of_ble_eq_true rfl) dX0_walkOf_11
set_option maxHeartbeats 4000000 in
set_option maxRecDepth 100000 in
theorem kX0_luckOf_in {l : Launch} (hlf : l.stackTraces = false) {D : va_G} {cI cJ : ClassId} {N0 : Nat} {h r1 r2 r3 r4 : Nat} {tk co cn wk : Nat → Nat} {n st : Nat} {ho ct sp : Int32} {Z : va_W} (hk : tOk tk co cn wk n st) (x : Nat) (h1 : x < n) : tcM l yX0_luckOf wsX0_luckOf { frames := 4, cells := 0, slots := 0, locals := 89 } [] 0 [.ref h, .int (nI (x))] D cI cJ N0 (wT h r1 r2 r3 r4 cI tk co cn wk n ho st ct sp Z) (some (.int (nI (lkn tk co cn x n)))) (wT h r1 r2 r3 r4 cI tk co cn wk n ho st ct sp Z) 0 0 := by
  refine tcM.of (cc := cX0_luckOf) (maxL := 2) (ret := (some .int)) (by decide) rfl (Nat.le_of_ble_eq_true rfl) ?_
  intro p e s m args below meth c C0 hr hlk ht hmn hG ls hl
  have hl : lv_has ls 2 [(0, .ref h), (1, .int (nI (x)))] := hl
  obtain ⟨hk1, hk2, hk3, hk4, hn12, hst⟩ := id hk
  have hG0 := hG
  have hS : va_S (tcA N0) s.heap s.heap [] := va_S.rf
  refine lv_aload_n C0.1 C0.2.1 dX0_luckOf_0 rfl (lv_at hl 0 rfl) ?_
  refine lv_iload_n C0.1 C0.2.1 dX0_luckOf_1 rfl (lv_at hl 1 rfl) ?_
  refine tc_callVv (q0 := 0) C0 hG hS rfl rfl (kX0_requireStranger_in hlf hk  (x) (by omega)) (cwV 1 C0.2.2.2.2 gX0_luckOf_X0_requireStranger rfl rfl rfl (by decide +kernel) ⟨(Nat.le_of_ble_eq_true rfl), (Nat.le_of_ble_eq_true rfl)⟩) rfl hl rfl (Nat.le_of_ble_eq_true rfl) dX0_luckOf_2 ⟨(Nat.le_of_ble_eq_true rfl), (Nat.le_of_ble_eq_true rfl)⟩ (fun H locs hG hS => ?_)
  refine lv_aload_n C0.1 C0.2.1 dX0_luckOf_5 rfl (lv_at hl 0 rfl) ?_
  refine lv_iload_n C0.1 C0.2.1 dX0_luckOf_6 rfl (lv_at hl 1 rfl) ?_
  refine tc_callV (q0 := 0) C0 hG hS rfl rfl (kX0_luckNow hlf hk  (x) (by omega)) (cwV 1 C0.2.2.2.2 gX0_luckOf_X0_luckNow rfl rfl rfl (by decide +kernel) ⟨(Nat.le_of_ble_eq_true rfl), (Nat.le_of_ble_eq_true rfl)⟩) rfl hl rfl (Nat.le_of_ble_eq_true rfl) dX0_luckOf_7 ⟨(Nat.le_of_ble_eq_true rfl), (Nat.le_of_ble_eq_true rfl)⟩ (fun H locs hG hS => ?_)
  have b_7 := (show lkn tk co cn x n ≤ 156 from lw_le tk co cn x (tk x) (cn x) hk.2.2.2.2.1)
  exact tc_iret C0 hr hlk hG hS rfl rfl (Nat.le_of_ble_eq_true rfl) (Nat.le_of_ble_eq_true rfl) dX0_luckOf_10
set_option maxHeartbeats 4000000 in
set_option maxRecDepth 100000 in
theorem kX0_pointsOf_in {l : Launch} (hlf : l.stackTraces = false) {D : va_G} {cI cJ : ClassId} {N0 : Nat} {h r1 r2 r3 r4 : Nat} {tk co cn wk : Nat → Nat} {n st : Nat} {ho ct sp : Int32} {Z : va_W} (hk : tOk tk co cn wk n st) (x : Nat) (y : Nat) (h1 : x < n) (h2 : y < n) (h3 : x ≠ y) : tcM l yX0_pointsOf wsX0_pointsOf { frames := 3, cells := 0, slots := 0, locals := 65 } [] 0 [.ref h, .int (nI (x)), .int (nI (y))] D cI cJ N0 (wT h r1 r2 r3 r4 cI tk co cn wk n ho st ct sp Z) (some (.int (nI (pts tk co x y)))) (wT h r1 r2 r3 r4 cI tk co cn wk n ho st ct sp Z) 0 0 := by
  refine tcM.of (cc := cX0_pointsOf) (maxL := 3) (ret := (some .int)) (by decide) rfl (Nat.le_of_ble_eq_true rfl) ?_
  intro p e s m args below meth c C0 hr hlk ht hmn hG ls hl
  have hl : lv_has ls 3 [(0, .ref h), (1, .int (nI (x))), (2, .int (nI (y)))] := hl
  obtain ⟨hk1, hk2, hk3, hk4, hn12, hst⟩ := id hk
  have hG0 := hG
  have hS : va_S (tcA N0) s.heap s.heap [] := va_S.rf
  refine lv_aload_n C0.1 C0.2.1 dX0_pointsOf_0 rfl (lv_at hl 0 rfl) ?_
  refine lv_iload_n C0.1 C0.2.1 dX0_pointsOf_1 rfl (lv_at hl 1 rfl) ?_
  refine lv_iload_n C0.1 C0.2.1 dX0_pointsOf_2 rfl (lv_at hl 2 rfl) ?_
  refine tc_callVv (q0 := 0) C0 hG hS rfl rfl (kX0_requirePair_in hlf hk  (x) (y) (by omega) (by omega) (by omega)) (cwV 2 C0.2.2.2.2 gX0_pointsOf_X0_requirePair rfl rfl rfl (by decide +kernel) ⟨(Nat.le_of_ble_eq_true rfl), (Nat.le_of_ble_eq_true rfl)⟩) rfl hl rfl (Nat.le_of_ble_eq_true rfl) dX0_pointsOf_3 ⟨(Nat.le_of_ble_eq_true rfl), (Nat.le_of_ble_eq_true rfl)⟩ (fun H locs hG hS => ?_)
  refine lv_aload_n C0.1 C0.2.1 dX0_pointsOf_6 rfl (lv_at hl 0 rfl) ?_
  refine lv_iload_n C0.1 C0.2.1 dX0_pointsOf_7 rfl (lv_at hl 1 rfl) ?_
  refine lv_iload_n C0.1 C0.2.1 dX0_pointsOf_8 rfl (lv_at hl 2 rfl) ?_
  refine tc_callV (q0 := 0) C0 hG hS rfl rfl (kX0_pointsOfPair hlf hk  (x) (y) (by omega) (by omega)) (cwV 2 C0.2.2.2.2 gX0_pointsOf_X0_pointsOfPair rfl rfl rfl (by decide +kernel) ⟨(Nat.le_of_ble_eq_true rfl), (Nat.le_of_ble_eq_true rfl)⟩) rfl hl rfl (Nat.le_of_ble_eq_true rfl) dX0_pointsOf_9 ⟨(Nat.le_of_ble_eq_true rfl), (Nat.le_of_ble_eq_true rfl)⟩ (fun H locs hG hS => ?_)
  have b_9 := pts_le tk co x y
  exact tc_iret C0 hr hlk hG hS rfl rfl (Nat.le_of_ble_eq_true rfl) (Nat.le_of_ble_eq_true rfl) dX0_pointsOf_12
set_option maxHeartbeats 4000000 in
set_option maxRecDepth 100000 in
theorem kX0_areTogether_in {l : Launch} (hlf : l.stackTraces = false) {D : va_G} {cI cJ : ClassId} {N0 : Nat} {h r1 r2 r3 r4 : Nat} {tk co cn wk : Nat → Nat} {n st : Nat} {ho ct sp : Int32} {Z : va_W} (hk : tOk tk co cn wk n st) (x : Nat) (y : Nat) (h1 : x < n) (h2 : y < n) (h3 : x ≠ y) : tcM l yX0_areTogether wsX0_areTogether { frames := 2, cells := 0, slots := 0, locals := 43 } [] 0 [.ref h, .int (nI (x)), .int (nI (y))] D cI cJ N0 (wT h r1 r2 r3 r4 cI tk co cn wk n ho st ct sp Z) (some (.int (nI (b2n (decide (cn x = cn y)))))) (wT h r1 r2 r3 r4 cI tk co cn wk n ho st ct sp Z) 0 0 := by
  refine tcM.of (cc := cX0_areTogether) (maxL := 3) (ret := (some .boolean)) (by decide) rfl (Nat.le_of_ble_eq_true rfl) ?_
  intro p e s m args below meth c C0 hr hlk ht hmn hG ls hl
  have hl : lv_has ls 3 [(0, .ref h), (1, .int (nI (x))), (2, .int (nI (y)))] := hl
  obtain ⟨hk1, hk2, hk3, hk4, hn12, hst⟩ := id hk
  have hG0 := hG
  have hS : va_S (tcA N0) s.heap s.heap [] := va_S.rf
  have hF : ∀ w ∈ wsX00, w ∈ wsX0_areTogether := by decide +kernel
  have w_corners : Cond.fieldLink RX0 16 "TicketCoincidences" "corners" "[I" ∈ wsX0_areTogether := by decide +kernel
  refine lv_aload_n C0.1 C0.2.1 dX0_areTogether_0 rfl (lv_at hl 0 rfl) ?_
  refine lv_iload_n C0.1 C0.2.1 dX0_areTogether_1 rfl (lv_at hl 1 rfl) ?_
  refine lv_iload_n C0.1 C0.2.1 dX0_areTogether_2 rfl (lv_at hl 2 rfl) ?_
  refine tc_callVv (q0 := 0) C0 hG hS rfl rfl (kX0_requirePair_in hlf hk  (x) (y) (by omega) (by omega) (by omega)) (cwV 2 C0.2.2.2.2 gX0_areTogether_X0_requirePair rfl rfl rfl (by decide +kernel) ⟨(Nat.le_of_ble_eq_true rfl), (Nat.le_of_ble_eq_true rfl)⟩) rfl hl rfl (Nat.le_of_ble_eq_true rfl) dX0_areTogether_3 ⟨(Nat.le_of_ble_eq_true rfl), (Nat.le_of_ble_eq_true rfl)⟩ (fun H locs hG hS => ?_)
  refine lv_aload_n C0.1 C0.2.1 dX0_areTogether_6 rfl (lv_at hl 0 rfl) ?_
  refine tgX0_corners C0 hF hG w_corners dX0_areTogether_7 ?_
  refine lv_iload_n C0.1 C0.2.1 dX0_areTogether_10 rfl (lv_at hl 1 rfl) ?_
  refine tc_ald (q0 := 3) C0 hG rfl (by omega) dX0_areTogether_11 ?_
  have b_11 := hk3 (x)
  refine lv_aload_n C0.1 C0.2.1 dX0_areTogether_12 rfl (lv_at hl 0 rfl) ?_
  refine tgX0_corners C0 hF hG w_corners dX0_areTogether_13 ?_
  refine lv_iload_n C0.1 C0.2.1 dX0_areTogether_16 rfl (lv_at hl 2 rfl) ?_
  refine tc_ald (q0 := 3) C0 hG rfl (by omega) dX0_areTogether_17 ?_
  have b_17 := hk3 (y)
  refine tn_icmp_ne (tgt := 25) C0.1 C0.2.1 dX0_areTogether_18 (by decide) (by omega) (by omega) (fun c_18 => ?_) (fun c_18 => ?_)
  · refine lv_iconst (v := nI 0) C0.1 C0.2.1 dX0_areTogether_25 (by decide) ?_
    exact tc_zret C0 hr hlk hG hS rfl (by first | (rw [decide_eq_true c_18]; rfl) | (rw [decide_eq_false c_18]; rfl)) (Nat.le_of_ble_eq_true rfl) (Nat.le_of_ble_eq_true rfl) dX0_areTogether_26
  · refine lv_iconst (v := nI 1) C0.1 C0.2.1 dX0_areTogether_21 (by decide) ?_
    refine lv_goto (tgt := 26) C0.1 C0.2.1 dX0_areTogether_22 (by decide) ?_
    exact tc_zret C0 hr hlk hG hS rfl (by first | (rw [decide_eq_true c_18]; rfl) | (rw [decide_eq_false c_18]; rfl)) (Nat.le_of_ble_eq_true rfl) (Nat.le_of_ble_eq_true rfl) dX0_areTogether_26
set_option maxHeartbeats 4000000 in
set_option maxRecDepth 100000 in
theorem kX0_areMirrored_in {l : Launch} (hlf : l.stackTraces = false) {D : va_G} {cI cJ : ClassId} {N0 : Nat} {h r1 r2 r3 r4 : Nat} {tk co cn wk : Nat → Nat} {n st : Nat} {ho ct sp : Int32} {Z : va_W} (hk : tOk tk co cn wk n st) (x : Nat) (y : Nat) (h1 : x < n) (h2 : y < n) (h3 : x ≠ y) : tcM l yX0_areMirrored wsX0_areMirrored { frames := 2, cells := 0, slots := 0, locals := 43 } [] 0 [.ref h, .int (nI (x)), .int (nI (y))] D cI cJ N0 (wT h r1 r2 r3 r4 cI tk co cn wk n ho st ct sp Z) (some (.int (nI (b2n (mir (tk x) (tk y)))))) (wT h r1 r2 r3 r4 cI tk co cn wk n ho st ct sp Z) 0 0 := by
  refine tcM.of (cc := cX0_areMirrored) (maxL := 3) (ret := (some .boolean)) (by decide) rfl (Nat.le_of_ble_eq_true rfl) ?_
  intro p e s m args below meth c C0 hr hlk ht hmn hG ls hl
  have hl : lv_has ls 3 [(0, .ref h), (1, .int (nI (x))), (2, .int (nI (y)))] := hl
  obtain ⟨hk1, hk2, hk3, hk4, hn12, hst⟩ := id hk
  have hG0 := hG
  have hS : va_S (tcA N0) s.heap s.heap [] := va_S.rf
  have hF : ∀ w ∈ wsX00, w ∈ wsX0_areMirrored := by decide +kernel
  have w_tickets : Cond.fieldLink RX0 9 "TicketCoincidences" "tickets" "[I" ∈ wsX0_areMirrored := by decide +kernel
  refine lv_aload_n C0.1 C0.2.1 dX0_areMirrored_0 rfl (lv_at hl 0 rfl) ?_
  refine lv_iload_n C0.1 C0.2.1 dX0_areMirrored_1 rfl (lv_at hl 1 rfl) ?_
  refine lv_iload_n C0.1 C0.2.1 dX0_areMirrored_2 rfl (lv_at hl 2 rfl) ?_
  refine tc_callVv (q0 := 0) C0 hG hS rfl rfl (kX0_requirePair_in hlf hk  (x) (y) (by omega) (by omega) (by omega)) (cwV 2 C0.2.2.2.2 gX0_areMirrored_X0_requirePair rfl rfl rfl (by decide +kernel) ⟨(Nat.le_of_ble_eq_true rfl), (Nat.le_of_ble_eq_true rfl)⟩) rfl hl rfl (Nat.le_of_ble_eq_true rfl) dX0_areMirrored_3 ⟨(Nat.le_of_ble_eq_true rfl), (Nat.le_of_ble_eq_true rfl)⟩ (fun H locs hG hS => ?_)
  refine lv_aload_n C0.1 C0.2.1 dX0_areMirrored_6 rfl (lv_at hl 0 rfl) ?_
  refine tgX0_tickets C0 hF hG w_tickets dX0_areMirrored_7 ?_
  refine lv_iload_n C0.1 C0.2.1 dX0_areMirrored_10 rfl (lv_at hl 1 rfl) ?_
  refine tc_ald (q0 := 1) C0 hG rfl (by omega) dX0_areMirrored_11 ?_
  have b_11 := hk1 (x)
  refine lv_aload_n C0.1 C0.2.1 dX0_areMirrored_12 rfl (lv_at hl 0 rfl) ?_
  refine tgX0_tickets C0 hF hG w_tickets dX0_areMirrored_13 ?_
  refine lv_iload_n C0.1 C0.2.1 dX0_areMirrored_16 rfl (lv_at hl 2 rfl) ?_
  refine tc_ald (q0 := 1) C0 hG rfl (by omega) dX0_areMirrored_17 ?_
  have b_17 := hk1 (y)
  refine tc_callS C0 hG hS (kX0_mirrored hlf  (tk (x)) (tk (y)) (by omega) (by omega)) (va_cwS 2 C0.2.2.2.2 gX0_areMirrored_X0_mirrored rfl rfl rfl (by decide +kernel) ⟨(Nat.le_of_ble_eq_true rfl), (Nat.le_of_ble_eq_true rfl)⟩) rfl hl rfl (Nat.le_of_ble_eq_true rfl) dX0_areMirrored_18 ⟨(Nat.le_of_ble_eq_true rfl), (Nat.le_of_ble_eq_true rfl)⟩ (fun H locs hG hS => ?_)
  exact tc_zret C0 hr hlk hG hS rfl rfl (Nat.le_of_ble_eq_true rfl) (Nat.le_of_ble_eq_true rfl) dX0_areMirrored_21
set_option maxHeartbeats 4000000 in
set_option maxRecDepth 100000 in
theorem kX0_costOfMeeting_in {l : Launch} (hlf : l.stackTraces = false) {D : va_G} {cI cJ : ClassId} {N0 : Nat} {h r1 r2 r3 r4 : Nat} {tk co cn wk : Nat → Nat} {n st : Nat} {ho ct sp : Int32} {Z : va_W} (hk : tOk tk co cn wk n st) (x : Nat) (y : Nat) (h1 : x < n) (h2 : y < n) (h3 : x ≠ y) : tcM l yX0_costOfMeeting wsX0_costOfMeeting { frames := 2, cells := 0, slots := 0, locals := 43 } [] 0 [.ref h, .int (nI (x)), .int (nI (y))] D cI cJ N0 (wT h r1 r2 r3 r4 cI tk co cn wk n ho st ct sp Z) (some (.int (nI (way (cn x) (cn y))))) (wT h r1 r2 r3 r4 cI tk co cn wk n ho st ct sp Z) 0 0 := by
  refine tcM.of (cc := cX0_costOfMeeting) (maxL := 3) (ret := (some .int)) (by decide) rfl (Nat.le_of_ble_eq_true rfl) ?_
  intro p e s m args below meth c C0 hr hlk ht hmn hG ls hl
  have hl : lv_has ls 3 [(0, .ref h), (1, .int (nI (x))), (2, .int (nI (y)))] := hl
  obtain ⟨hk1, hk2, hk3, hk4, hn12, hst⟩ := id hk
  have hG0 := hG
  have hS : va_S (tcA N0) s.heap s.heap [] := va_S.rf
  have hF : ∀ w ∈ wsX00, w ∈ wsX0_costOfMeeting := by decide +kernel
  have w_corners : Cond.fieldLink RX0 16 "TicketCoincidences" "corners" "[I" ∈ wsX0_costOfMeeting := by decide +kernel
  refine lv_aload_n C0.1 C0.2.1 dX0_costOfMeeting_0 rfl (lv_at hl 0 rfl) ?_
  refine lv_iload_n C0.1 C0.2.1 dX0_costOfMeeting_1 rfl (lv_at hl 1 rfl) ?_
  refine lv_iload_n C0.1 C0.2.1 dX0_costOfMeeting_2 rfl (lv_at hl 2 rfl) ?_
  refine tc_callVv (q0 := 0) C0 hG hS rfl rfl (kX0_requirePair_in hlf hk  (x) (y) (by omega) (by omega) (by omega)) (cwV 2 C0.2.2.2.2 gX0_costOfMeeting_X0_requirePair rfl rfl rfl (by decide +kernel) ⟨(Nat.le_of_ble_eq_true rfl), (Nat.le_of_ble_eq_true rfl)⟩) rfl hl rfl (Nat.le_of_ble_eq_true rfl) dX0_costOfMeeting_3 ⟨(Nat.le_of_ble_eq_true rfl), (Nat.le_of_ble_eq_true rfl)⟩ (fun H locs hG hS => ?_)
  refine lv_aload_n C0.1 C0.2.1 dX0_costOfMeeting_6 rfl (lv_at hl 0 rfl) ?_
  refine tgX0_corners C0 hF hG w_corners dX0_costOfMeeting_7 ?_
  refine lv_iload_n C0.1 C0.2.1 dX0_costOfMeeting_10 rfl (lv_at hl 1 rfl) ?_
  refine tc_ald (q0 := 3) C0 hG rfl (by omega) dX0_costOfMeeting_11 ?_
  have b_11 := hk3 (x)
  refine lv_aload_n C0.1 C0.2.1 dX0_costOfMeeting_12 rfl (lv_at hl 0 rfl) ?_
  refine tgX0_corners C0 hF hG w_corners dX0_costOfMeeting_13 ?_
  refine lv_iload_n C0.1 C0.2.1 dX0_costOfMeeting_16 rfl (lv_at hl 2 rfl) ?_
  refine tc_ald (q0 := 3) C0 hG rfl (by omega) dX0_costOfMeeting_17 ?_
  have b_17 := hk3 (y)
  refine tc_callS C0 hG hS (kX0_costOfWay hlf  (cn (x)) (cn (y)) (by omega) (by omega)) (va_cwS 2 C0.2.2.2.2 gX0_costOfMeeting_X0_costOfWay rfl rfl rfl (by decide +kernel) ⟨(Nat.le_of_ble_eq_true rfl), (Nat.le_of_ble_eq_true rfl)⟩) rfl hl rfl (Nat.le_of_ble_eq_true rfl) dX0_costOfMeeting_18 ⟨(Nat.le_of_ble_eq_true rfl), (Nat.le_of_ble_eq_true rfl)⟩ (fun H locs hG hS => ?_)
  have b_18 := way_le (cn (x)) (cn (y)) (by omega) (by omega)
  exact tc_iret C0 hr hlk hG hS rfl rfl (Nat.le_of_ble_eq_true rfl) (Nat.le_of_ble_eq_true rfl) dX0_costOfMeeting_21
set_option maxHeartbeats 4000000 in
set_option maxRecDepth 100000 in
theorem kX0_hoursUntilTogether_in {l : Launch} (hlf : l.stackTraces = false) {D : va_G} {cI cJ : ClassId} {N0 : Nat} {h r1 r2 r3 r4 : Nat} {tk co cn wk : Nat → Nat} {n st : Nat} {ho ct sp : Int32} {Z : va_W} (hk : tOk tk co cn wk n st) (x : Nat) (y : Nat) (h1 : x < n) (h2 : y < n) (h3 : x ≠ y) : tcM l yX0_hoursUntilTogether wsX0_hoursUntilTogether { frames := 2, cells := 0, slots := 0, locals := 43 } [] 0 [.ref h, .int (nI (x)), .int (nI (y))] D cI cJ N0 (wT h r1 r2 r3 r4 cI tk co cn wk n ho st ct sp Z) (some (.int (iM (meet cn wk x y)))) (wT h r1 r2 r3 r4 cI tk co cn wk n ho st ct sp Z) 0 0 := by
  refine tcM.of (cc := cX0_hoursUntilTogether) (maxL := 4) (ret := (some .int)) (by decide) rfl (Nat.le_of_ble_eq_true rfl) ?_
  intro p e s m args below meth c C0 hr hlk ht hmn hG ls hl
  have hl : lv_has ls 4 [(0, .ref h), (1, .int (nI (x))), (2, .int (nI (y)))] := hl
  obtain ⟨hk1, hk2, hk3, hk4, hn12, hst⟩ := id hk
  have hG0 := hG
  have hS : va_S (tcA N0) s.heap s.heap [] := va_S.rf
  refine lv_aload_n C0.1 C0.2.1 dX0_hoursUntilTogether_0 rfl (lv_at hl 0 rfl) ?_
  refine lv_iload_n C0.1 C0.2.1 dX0_hoursUntilTogether_1 rfl (lv_at hl 1 rfl) ?_
  refine lv_iload_n C0.1 C0.2.1 dX0_hoursUntilTogether_2 rfl (lv_at hl 2 rfl) ?_
  refine tc_callVv (q0 := 0) C0 hG hS rfl rfl (kX0_requirePair_in hlf hk  (x) (y) (by omega) (by omega) (by omega)) (cwV 2 C0.2.2.2.2 gX0_hoursUntilTogether_X0_requirePair rfl rfl rfl (by decide +kernel) ⟨(Nat.le_of_ble_eq_true rfl), (Nat.le_of_ble_eq_true rfl)⟩) rfl hl rfl (Nat.le_of_ble_eq_true rfl) dX0_hoursUntilTogether_3 ⟨(Nat.le_of_ble_eq_true rfl), (Nat.le_of_ble_eq_true rfl)⟩ (fun H locs hG hS => ?_)
  refine lv_iconst (v := nI 0) C0.1 C0.2.1 dX0_hoursUntilTogether_6 (by decide) ?_
  refine lv_istore_n (lv' := [(3, .int (nI (0))), (0, .ref h), (1, .int (nI (x))), (2, .int (nI (y)))]) C0.1 C0.2.1 dX0_hoursUntilTogether_7 rfl hl (by decide) rfl (fun ls hl => ?_)
  refine tc_nameQ (fun zQg zhQ => ?_)
  have cut_8 : ∀ (kf : Nat) (k : Nat) (hk6 : k ≤ 6) (hmt : meet cn wk x y = untl cn wk x y (6 - k) k) (hm : 6 + 1 ≤ k + kf), ∀ (ls : Array Slot), lv_has ls 4 [(3, .int (nI (k))), (0, .ref h), (1, .int (nI (x))), (2, .int (nI (y)))] → ∀ (H : Heap) (locs : List Loc), tcG D cI cJ N0 (wT h r1 r2 r3 r4 cI tk co cn wk n ho st ct sp Z) s H → va_S (tcA N0) s.heap H locs → W p l e ({ frames := 2, cells := 0, slots := 0, locals := 43 } : Room) s m args below meth c H locs (0) (0) zQg (F0 m 8 ls []) := by
    intro kf
    induction kf with
    | zero => intro k hk6 hmt hm; exact absurd hm (by omega)
    | succ kf ih_8 =>
      intro k hk6 hmt hm ls hl H locs hG hS
      refine lv_iload_n C0.1 C0.2.1 dX0_hoursUntilTogether_8 rfl (lv_at hl 0 rfl) ?_
      refine lv_bipush (v := nI 6) C0.1 C0.2.1 dX0_hoursUntilTogether_9 (by decide) ?_
      refine tn_icmp_ge (tgt := 37) C0.1 C0.2.1 dX0_hoursUntilTogether_11 (by decide) (by omega) (by omega) (fun c_11 => ?_) (fun c_11 => ?_)
      · refine lv_iconst (v := iM 0) C0.1 C0.2.1 dX0_hoursUntilTogether_37 (by decide) ?_
        subst zhQ
        exact tc_iret C0 hr hlk hG hS rfl (by rw [hmt, show k = 6 by omega]; rfl) (Nat.le_of_ble_eq_true rfl) (Nat.le_of_ble_eq_true rfl) dX0_hoursUntilTogether_38
      · refine lv_aload_n C0.1 C0.2.1 dX0_hoursUntilTogether_14 rfl (lv_at hl 1 rfl) ?_
        refine lv_iload_n C0.1 C0.2.1 dX0_hoursUntilTogether_15 rfl (lv_at hl 2 rfl) ?_
        refine lv_iload_n C0.1 C0.2.1 dX0_hoursUntilTogether_16 rfl (lv_at hl 0 rfl) ?_
        refine tc_callV (q0 := 0) C0 hG hS rfl rfl (kX0_cornerBehind hlf hk  (x) (k) (by omega) (by omega)) (cwV 2 C0.2.2.2.2 gX0_hoursUntilTogether_X0_cornerBehind rfl rfl rfl (by decide +kernel) ⟨(Nat.le_of_ble_eq_true rfl), (Nat.le_of_ble_eq_true rfl)⟩) rfl hl rfl (Nat.le_of_ble_eq_true rfl) dX0_hoursUntilTogether_17 ⟨(Nat.le_of_ble_eq_true rfl), (Nat.le_of_ble_eq_true rfl)⟩ (fun H locs hG hS => ?_)
        have b_17 := cnr_lt cn wk k x
        refine lv_aload_n C0.1 C0.2.1 dX0_hoursUntilTogether_20 rfl (lv_at hl 1 rfl) ?_
        refine lv_iload_n C0.1 C0.2.1 dX0_hoursUntilTogether_21 rfl (lv_at hl 3 rfl) ?_
        refine lv_iload_n C0.1 C0.2.1 dX0_hoursUntilTogether_22 rfl (lv_at hl 0 rfl) ?_
        refine tc_callV (q0 := 0) C0 hG hS rfl rfl (kX0_cornerBehind hlf hk  (y) (k) (by omega) (by omega)) (cwV 2 C0.2.2.2.2 gX0_hoursUntilTogether_X0_cornerBehind rfl rfl rfl (by decide +kernel) ⟨(Nat.le_of_ble_eq_true rfl), (Nat.le_of_ble_eq_true rfl)⟩) rfl hl rfl (Nat.le_of_ble_eq_true rfl) dX0_hoursUntilTogether_23 ⟨(Nat.le_of_ble_eq_true rfl), (Nat.le_of_ble_eq_true rfl)⟩ (fun H locs hG hS => ?_)
        have b_23 := cnr_lt cn wk k y
        refine tn_icmp_ne (tgt := 31) C0.1 C0.2.1 dX0_hoursUntilTogether_26 (by decide) (by omega) (by omega) (fun c_26 => ?_) (fun c_26 => ?_)
        · refine tn_iinc (lv' := [(3, .int (nI (k + 1))), (0, .ref h), (1, .int (nI (x))), (2, .int (nI (y)))]) C0.1 C0.2.1 dX0_hoursUntilTogether_31 hl (k := 0) rfl (by decide) rfl (fun ls hl => ?_)
          refine lv_goto (tgt := 8) C0.1 C0.2.1 dX0_hoursUntilTogether_34 (by decide) ?_
          exact ih_8 (k + 1) (by omega) (hmt.trans (untl_n (by omega) c_26)) (by omega) ls (lv_sub hl [0, 1, 2, 3] rfl) _ _ hG hS
        · refine lv_iload_n C0.1 C0.2.1 dX0_hoursUntilTogether_29 rfl (lv_at hl 0 rfl) ?_
          subst zhQ
          exact tc_iret C0 hr hlk hG hS rfl (by rw [hmt, untl_y (by omega) c_26, iM_s]) (Nat.le_of_ble_eq_true rfl) (Nat.le_of_ble_eq_true rfl) dX0_hoursUntilTogether_30
  exact cut_8 (6 + 1) (0) (by omega) rfl (by omega) ls (lv_sub hl [0, 1, 2, 3] rfl) _ _ hG hS
set_option maxHeartbeats 4000000 in
set_option maxRecDepth 100000 in
theorem kX0_coincidencesIn_in {l : Launch} (hlf : l.stackTraces = false) {D : va_G} {cI cJ : ClassId} {N0 : Nat} {h r1 r2 r3 r4 : Nat} {tk co cn wk : Nat → Nat} {n st : Nat} {ho ct sp : Int32} {Z : va_W} (hk : tOk tk co cn wk n st) (x : Nat) (h1 : x ≤ 60) : tcM l yX0_coincidencesIn wsX0_coincidencesIn { frames := 4, cells := 0, slots := 0, locals := 89 } [] 0 [.ref h, .int (nI (x))] D cI cJ N0 (wT h r1 r2 r3 r4 cI tk co cn wk n ho st ct sp Z) (some (.int (nI (tw tk co cn wk x n)))) (wT h r1 r2 r3 r4 cI tk co cn wk n ho st ct sp Z) 0 0 := by
  refine tcM.of (cc := cX0_coincidencesIn) (maxL := 2) (ret := (some .int)) (by decide) rfl (Nat.le_of_ble_eq_true rfl) ?_
  intro p e s m args below meth c C0 hr hlk ht hmn hG ls hl
  have hl : lv_has ls 2 [(0, .ref h), (1, .int (nI (x)))] := hl
  obtain ⟨hk1, hk2, hk3, hk4, hn12, hst⟩ := id hk
  have hG0 := hG
  have hS : va_S (tcA N0) s.heap s.heap [] := va_S.rf
  refine lv_iload_n C0.1 C0.2.1 dX0_coincidencesIn_0 rfl (lv_at hl 1 rfl) ?_
  refine lv_if_lt (tgt := 10) C0.1 C0.2.1 dX0_coincidencesIn_1 (by decide) (fun c_1 => ?_) (fun c_1 => ?_)
  · exact absurd c_1 (nI_pos (by omega))
  · refine lv_iload_n C0.1 C0.2.1 dX0_coincidencesIn_4 rfl (lv_at hl 1 rfl) ?_
    refine lv_bipush (v := nI 60) C0.1 C0.2.1 dX0_coincidencesIn_5 (by decide) ?_
    refine tn_icmp_le (tgt := 20) C0.1 C0.2.1 dX0_coincidencesIn_7 (by decide) (by omega) (by omega) (fun c_7 => ?_) (fun c_7 => ?_)
    · refine lv_aload_n C0.1 C0.2.1 dX0_coincidencesIn_20 rfl (lv_at hl 0 rfl) ?_
      refine lv_iload_n C0.1 C0.2.1 dX0_coincidencesIn_21 rfl (lv_at hl 1 rfl) ?_
      refine tc_callV (q0 := 0) C0 hG hS rfl rfl (kX0_townBehind hlf hk  (x) (by omega)) (cwV 1 C0.2.2.2.2 gX0_coincidencesIn_X0_townBehind rfl rfl rfl (by decide +kernel) ⟨(Nat.le_of_ble_eq_true rfl), (Nat.le_of_ble_eq_true rfl)⟩) rfl hl rfl (Nat.le_of_ble_eq_true rfl) dX0_coincidencesIn_22 ⟨(Nat.le_of_ble_eq_true rfl), (Nat.le_of_ble_eq_true rfl)⟩ (fun H locs hG hS => ?_)
      have b_22 := tw_le tk co cn wk x hk.2.2.2.2.1
      exact tc_iret C0 hr hlk hG hS rfl rfl (Nat.le_of_ble_eq_true rfl) (Nat.le_of_ble_eq_true rfl) dX0_coincidencesIn_25
    · exact absurd h1 (by omega)
set_option maxHeartbeats 4000000 in
set_option maxRecDepth 100000 in
theorem kX0_bestTicket_in {l : Launch} (hlf : l.stackTraces = false) {D : va_G} {cI cJ : ClassId} {N0 : Nat} {h r1 r2 r3 r4 : Nat} {tk co cn wk : Nat → Nat} {n st : Nat} {ho ct sp : Int32} {Z : va_W} (hk : tOk tk co cn wk n st) (x : Nat) (h1 : x < n) : tcM l yX0_bestTicket wsX0_bestTicket { frames := 3, cells := 0, slots := 0, locals := 68 } [] 0 [.ref h, .int (nI (x))] D cI cJ N0 (wT h r1 r2 r3 r4 cI tk co cn wk n ho st ct sp Z) (some (.int (nI (bestTk tk co cn x n)))) (wT h r1 r2 r3 r4 cI tk co cn wk n ho st ct sp Z) 0 0 := by
  refine tcM.of (cc := cX0_bestTicket) (maxL := 6) (ret := (some .int)) (by decide) rfl (Nat.le_of_ble_eq_true rfl) ?_
  intro p e s m args below meth c C0 hr hlk ht hmn hG ls hl
  have hl : lv_has ls 6 [(0, .ref h), (1, .int (nI (x)))] := hl
  obtain ⟨hk1, hk2, hk3, hk4, hn12, hst⟩ := id hk
  have hG0 := hG
  have hS : va_S (tcA N0) s.heap s.heap [] := va_S.rf
  have hF : ∀ w ∈ wsX00, w ∈ wsX0_bestTicket := by decide +kernel
  have w_corners : Cond.fieldLink RX0 16 "TicketCoincidences" "corners" "[I" ∈ wsX0_bestTicket := by decide +kernel
  refine lv_aload_n C0.1 C0.2.1 dX0_bestTicket_0 rfl (lv_at hl 0 rfl) ?_
  refine lv_iload_n C0.1 C0.2.1 dX0_bestTicket_1 rfl (lv_at hl 1 rfl) ?_
  refine tc_callVv (q0 := 0) C0 hG hS rfl rfl (kX0_requireStranger_in hlf hk  (x) (by omega)) (cwV 1 C0.2.2.2.2 gX0_bestTicket_X0_requireStranger rfl rfl rfl (by decide +kernel) ⟨(Nat.le_of_ble_eq_true rfl), (Nat.le_of_ble_eq_true rfl)⟩) rfl hl rfl (Nat.le_of_ble_eq_true rfl) dX0_bestTicket_2 ⟨(Nat.le_of_ble_eq_true rfl), (Nat.le_of_ble_eq_true rfl)⟩ (fun H locs hG hS => ?_)
  refine lv_iconst (v := nI 0) C0.1 C0.2.1 dX0_bestTicket_5 (by decide) ?_
  refine lv_istore_n (lv' := [(2, .int (nI (0))), (0, .ref h), (1, .int (nI (x)))]) C0.1 C0.2.1 dX0_bestTicket_6 rfl hl (by decide) rfl (fun ls hl => ?_)
  refine lv_iconst (v := iM 0) C0.1 C0.2.1 dX0_bestTicket_7 (by decide) ?_
  refine lv_istore_n (lv' := [(3, .int (iM (0))), (2, .int (nI (0))), (0, .ref h), (1, .int (nI (x)))]) C0.1 C0.2.1 dX0_bestTicket_8 rfl hl (by decide) rfl (fun ls hl => ?_)
  refine lv_iconst (v := nI 0) C0.1 C0.2.1 dX0_bestTicket_9 (by decide) ?_
  refine lv_istore (lv' := [(4, .int (nI (0))), (3, .int (iM (0))), (2, .int (nI (0))), (0, .ref h), (1, .int (nI (x)))]) C0.1 C0.2.1 dX0_bestTicket_10 hl (by decide) rfl (fun ls hl => ?_)
  refine tc_nameQ (fun zQg zhQ => ?_)
  have cut_12 : ∀ (kf : Nat) (s1 : Nat) (s2 : Nat) (v : Nat) (hv : v ≤ 100) (hs2 : s2 ≤ 157) (hs : (s2, s1) = am (fun v => lw tk co cn x v (cn x) n) v) (hm : 100 + 1 ≤ v + kf), ∀ (ls : Array Slot), lv_has ls 6 [(4, .int (nI (v))), (3, .int (iM (s2))), (2, .int (nI (s1))), (0, .ref h), (1, .int (nI (x)))] → ∀ (H : Heap) (locs : List Loc), tcG D cI cJ N0 (wT h r1 r2 r3 r4 cI tk co cn wk n ho st ct sp Z) s H → va_S (tcA N0) s.heap H locs → W p l e ({ frames := 3, cells := 0, slots := 0, locals := 68 } : Room) s m args below meth c H locs (0) (0) zQg (F0 m 12 ls []) := by
    intro kf
    induction kf with
    | zero => intro s1 s2 v hv hs2 hs hm; exact absurd hm (by omega)
    | succ kf ih_12 =>
      intro s1 s2 v hv hs2 hs hm ls hl H locs hG hS
      refine lv_iload C0.1 C0.2.1 dX0_bestTicket_12 (lv_at hl 0 rfl) ?_
      refine lv_bipush (v := nI 100) C0.1 C0.2.1 dX0_bestTicket_14 (by decide) ?_
      refine tn_icmp_ge (tgt := 52) C0.1 C0.2.1 dX0_bestTicket_16 (by decide) (by omega) (by omega) (fun c_16 => ?_) (fun c_16 => ?_)
      · refine lv_iload_n C0.1 C0.2.1 dX0_bestTicket_52 rfl (lv_at hl 2 rfl) ?_
        subst zhQ
        exact tc_iret C0 hr hlk hG hS rfl (by have hz : v = 100 := (by omega); subst hz; unfold bestTk; rw [← hs]) (Nat.le_of_ble_eq_true rfl) (Nat.le_of_ble_eq_true rfl) dX0_bestTicket_53
      · refine lv_aload_n C0.1 C0.2.1 dX0_bestTicket_19 rfl (lv_at hl 3 rfl) ?_
        refine lv_iload_n C0.1 C0.2.1 dX0_bestTicket_20 rfl (lv_at hl 4 rfl) ?_
        refine lv_iload C0.1 C0.2.1 dX0_bestTicket_21 (lv_at hl 0 rfl) ?_
        refine lv_aload_n C0.1 C0.2.1 dX0_bestTicket_23 rfl (lv_at hl 3 rfl) ?_
        refine tgX0_corners C0 hF hG w_corners dX0_bestTicket_24 ?_
        refine lv_iload_n C0.1 C0.2.1 dX0_bestTicket_27 rfl (lv_at hl 4 rfl) ?_
        refine tc_ald (q0 := 3) C0 hG rfl (by omega) dX0_bestTicket_28 ?_
        have b_28 := hk3 (x)
        refine tc_callV (q0 := 0) C0 hG hS rfl rfl (kX0_luckWith hlf hk  (x) (v) (cn (x)) (by omega) (by omega) (by omega)) (cwV 3 C0.2.2.2.2 gX0_bestTicket_X0_luckWith rfl rfl rfl (by decide +kernel) ⟨(Nat.le_of_ble_eq_true rfl), (Nat.le_of_ble_eq_true rfl)⟩) rfl hl rfl (Nat.le_of_ble_eq_true rfl) dX0_bestTicket_29 ⟨(Nat.le_of_ble_eq_true rfl), (Nat.le_of_ble_eq_true rfl)⟩ (fun H locs hG hS => ?_)
        have b_29 := lw_le tk co cn x v (cn (x)) hk.2.2.2.2.1
        refine lv_istore (lv' := [(5, .int (nI (lw tk co cn x v (cn (x)) n))), (4, .int (nI (v))), (3, .int (iM (s2))), (2, .int (nI (s1))), (0, .ref h), (1, .int (nI (x)))]) C0.1 C0.2.1 dX0_bestTicket_32 hl (by decide) rfl (fun ls hl => ?_)
        refine lv_iload C0.1 C0.2.1 dX0_bestTicket_34 (lv_at hl 0 rfl) ?_
        refine lv_iload_n C0.1 C0.2.1 dX0_bestTicket_36 rfl (lv_at hl 2 rfl) ?_
        refine tm_icmp_le (tgt := 46) C0.1 C0.2.1 dX0_bestTicket_37 (by decide) (by omega) (by omega) (fun c_37 => ?_) (fun c_37 => ?_)
        · refine tn_iinc (lv' := [(4, .int (nI (v + 1))), (5, .int (nI (lw tk co cn x v (cn (x)) n))), (3, .int (iM (s2))), (2, .int (nI (s1))), (0, .ref h), (1, .int (nI (x)))]) C0.1 C0.2.1 dX0_bestTicket_46 hl (k := 1) rfl (by decide) rfl (fun ls hl => ?_)
          refine lv_goto (tgt := 12) C0.1 C0.2.1 dX0_bestTicket_49 (by decide) ?_
          exact ih_12 (s1) (s2) (v + 1) (by omega) (by omega) (by first | exact am_n' hs c_37 | exact am_y' hs c_37) (by omega) ls (lv_sub hl [0, 2, 3, 4, 5] rfl) _ _ hG hS
        · refine lv_iload C0.1 C0.2.1 dX0_bestTicket_40 (lv_at hl 0 rfl) ?_
          refine tc_top (iM_s (lw tk co cn x v (cn (x)) n)).symm ?_
          refine lv_istore_n (lv' := [(3, .int (iM (lw tk co cn x v (cn (x)) n + 1))), (5, .int (nI (lw tk co cn x v (cn (x)) n))), (4, .int (nI (v))), (2, .int (nI (s1))), (0, .ref h), (1, .int (nI (x)))]) C0.1 C0.2.1 dX0_bestTicket_42 rfl hl (by decide) rfl (fun ls hl => ?_)
          refine lv_iload C0.1 C0.2.1 dX0_bestTicket_43 (lv_at hl 2 rfl) ?_
          refine lv_istore_n (lv' := [(2, .int (nI (v))), (3, .int (iM (lw tk co cn x v (cn (x)) n + 1))), (5, .int (nI (lw tk co cn x v (cn (x)) n))), (4, .int (nI (v))), (0, .ref h), (1, .int (nI (x)))]) C0.1 C0.2.1 dX0_bestTicket_45 rfl hl (by decide) rfl (fun ls hl => ?_)
          refine tn_iinc (lv' := [(4, .int (nI (v + 1))), (2, .int (nI (v))), (3, .int (iM (lw tk co cn x v (cn (x)) n + 1))), (5, .int (nI (lw tk co cn x v (cn (x)) n))), (0, .ref h), (1, .int (nI (x)))]) C0.1 C0.2.1 dX0_bestTicket_46 hl (k := 3) rfl (by decide) rfl (fun ls hl => ?_)
          refine lv_goto (tgt := 12) C0.1 C0.2.1 dX0_bestTicket_49 (by decide) ?_
          exact ih_12 (v) (lw tk co cn x v (cn (x)) n + 1) (v + 1) (by omega) (by omega) (by first | exact am_n' hs c_37 | exact am_y' hs c_37) (by omega) ls (lv_sub hl [0, 2, 1, 4, 5] rfl) _ _ hG hS
  exact cut_12 (100 + 1) (0) (0) (0) (by omega) (by omega) rfl (by omega) ls (lv_sub hl [0, 1, 2, 3, 4] rfl) _ _ hG hS
set_option maxHeartbeats 4000000 in
set_option maxRecDepth 100000 in
theorem kX0_pass_in {l : Launch} (hlf : l.stackTraces = false) {D : va_G} {cI cJ : ClassId} {N0 : Nat} {h r1 r2 r3 r4 : Nat} {tk co cn wk : Nat → Nat} {n st : Nat} {ho ct sp : Int32} {Z : va_W} (hk : tOk tk co cn wk n st) (x : Nat) (h1 : 1 ≤ x) (h2 : x ≤ 60) : tcM l yX0_pass wsX0_pass { frames := 5, cells := 0, slots := 0, locals := 110 } [] 0 [.ref h, .int (nI (x))] D cI cJ N0 (wT h r1 r2 r3 r4 cI tk co cn wk n ho st ct sp Z) (some (.int ((hrs tk co wk n cn ct st x).2.1 - ct))) (wT h r1 r2 r3 r4 cI tk co ((hrs tk co wk n cn ct st x).1) wk n (ho + nI x) ((hrs tk co wk n cn ct st x).2.2) ((hrs tk co wk n cn ct st x).2.1) sp Z) 0 0 := by
  refine tcM.of (cc := cX0_pass) (maxL := 4) (ret := (some .int)) (by decide) rfl (Nat.le_of_ble_eq_true rfl) ?_
  intro p e s m args below meth c C0 hr hlk ht hmn hG ls hl
  have hl : lv_has ls 4 [(0, .ref h), (1, .int (nI (x)))] := hl
  obtain ⟨hk1, hk2, hk3, hk4, hn12, hst⟩ := id hk
  have hG0 := hG
  have hS : va_S (tcA N0) s.heap s.heap [] := va_S.rf
  have hF : ∀ w ∈ wsX00, w ∈ wsX0_pass := by decide +kernel
  have w_countedInAll : Cond.fieldLink RX0 32 "TicketCoincidences" "countedInAll" "I" ∈ wsX0_pass := by decide +kernel
  refine lv_iload_n C0.1 C0.2.1 dX0_pass_0 rfl (lv_at hl 1 rfl) ?_
  refine lv_iconst (v := nI 1) C0.1 C0.2.1 dX0_pass_1 (by decide) ?_
  refine tn_icmp_lt (tgt := 11) C0.1 C0.2.1 dX0_pass_2 (by decide) (by omega) (by omega) (fun c_2 => ?_) (fun c_2 => ?_)
  · exact absurd c_2 (by omega)
  · refine lv_iload_n C0.1 C0.2.1 dX0_pass_5 rfl (lv_at hl 1 rfl) ?_
    refine lv_bipush (v := nI 60) C0.1 C0.2.1 dX0_pass_6 (by decide) ?_
    refine tn_icmp_le (tgt := 21) C0.1 C0.2.1 dX0_pass_8 (by decide) (by omega) (by omega) (fun c_8 => ?_) (fun c_8 => ?_)
    · refine lv_aload_n C0.1 C0.2.1 dX0_pass_21 rfl (lv_at hl 0 rfl) ?_
      refine tgX0_countedInAll C0 hF hG w_countedInAll dX0_pass_22 ?_
      refine lv_istore_n (lv' := [(2, .int (ct)), (0, .ref h), (1, .int (nI (x)))]) C0.1 C0.2.1 dX0_pass_25 rfl hl (by decide) rfl (fun ls hl => ?_)
      refine lv_iconst (v := nI 0) C0.1 C0.2.1 dX0_pass_26 (by decide) ?_
      refine lv_istore_n (lv' := [(3, .int (nI (0))), (2, .int (ct)), (0, .ref h), (1, .int (nI (x)))]) C0.1 C0.2.1 dX0_pass_27 rfl hl (by decide) rfl (fun ls hl => ?_)
      refine tc_nameQ (fun zQg zhQ => ?_)
      have cut_28 : ∀ (kf : Nat) (i : Nat) (hi : i ≤ x) (hm : x + 1 ≤ i + kf), ∀ (ls : Array Slot), lv_has ls 4 [(3, .int (nI (i))), (2, .int (ct)), (0, .ref h), (1, .int (nI (x)))] → ∀ (H : Heap) (locs : List Loc), tcG D cI cJ N0 (wT h r1 r2 r3 r4 cI tk co ((hrs tk co wk n cn ct st i).1) wk n (ho + nI i) ((hrs tk co wk n cn ct st i).2.2) ((hrs tk co wk n cn ct st i).2.1) sp Z) s H → va_S (tcA N0) s.heap H locs → W p l e ({ frames := 5, cells := 0, slots := 0, locals := 110 } : Room) s m args below meth c H locs (0) (0) zQg (F0 m 28 ls []) := by
        intro kf
        induction kf with
        | zero => intro i hi hm; exact absurd hm (by omega)
        | succ kf ih_28 =>
          intro i hi hm ls hl H locs hG hS
          have hk_i := (hk.cn (hrs_lt (tk := tk) (co := co) (wk := wk) (n := n) (ct := ct) hk3 hst i).1).st (hrs_lt (tk := tk) (co := co) (wk := wk) (n := n) (ct := ct) hk3 hst i).2
          refine lv_iload_n C0.1 C0.2.1 dX0_pass_28 rfl (lv_at hl 0 rfl) ?_
          refine lv_iload_n C0.1 C0.2.1 dX0_pass_29 rfl (lv_at hl 3 rfl) ?_
          refine tn_icmp_ge (tgt := 43) C0.1 C0.2.1 dX0_pass_30 (by decide) (by omega) (by omega) (fun c_30 => ?_) (fun c_30 => ?_)
          · refine lv_aload_n C0.1 C0.2.1 dX0_pass_43 rfl (lv_at hl 2 rfl) ?_
            refine tgX0_countedInAll C0 hF hG w_countedInAll dX0_pass_44 ?_
            refine lv_iload_n C0.1 C0.2.1 dX0_pass_47 rfl (lv_at hl 1 rfl) ?_
            refine lv_isub C0.1 C0.2.1 dX0_pass_48 ?_
            subst zhQ
            have hin : i = x := by omega
            rw [hin] at hG
            exact tc_iret C0 hr hlk hG hS rfl (by rw [hin]) (Nat.le_of_ble_eq_true rfl) (Nat.le_of_ble_eq_true rfl) dX0_pass_49
          · refine lv_aload_n C0.1 C0.2.1 dX0_pass_33 rfl (lv_at hl 2 rfl) ?_
            refine tc_callVv (q0 := 0) C0 hG hS rfl rfl (kX0_passOneHour hlf hk_i   ) (cwV 0 C0.2.2.2.2 gX0_pass_X0_passOneHour rfl rfl rfl (by decide +kernel) ⟨(Nat.le_of_ble_eq_true rfl), (Nat.le_of_ble_eq_true rfl)⟩) rfl hl rfl (Nat.le_of_ble_eq_true rfl) dX0_pass_34 ⟨(Nat.le_of_ble_eq_true rfl), (Nat.le_of_ble_eq_true rfl)⟩ (fun H locs hG hS => ?_)
            have hG : tcG D cI cJ N0 (wT h r1 r2 r3 r4 cI tk co (pcn ((hrs tk co wk n cn ct st i).1) wk n) wk n ((ho + nI i) + nI 1) (stn ((hrs tk co wk n cn ct st i).2.2) (emp (pcn ((hrs tk co wk n cn ct st i).1) wk n) n)) (((hrs tk co wk n cn ct st i).2.1) + nI (tw tk co (pcn ((hrs tk co wk n cn ct st i).1) wk n) wk 0 n)) sp Z) s H := hG
            refine tn_iinc (lv' := [(3, .int (nI (i + 1))), (2, .int (ct)), (0, .ref h), (1, .int (nI (x)))]) C0.1 C0.2.1 dX0_pass_37 hl (k := 0) rfl (by decide) rfl (fun ls hl => ?_)
            refine lv_goto (tgt := 28) C0.1 C0.2.1 dX0_pass_40 (by decide) ?_
            exact ih_28 (i + 1) (by omega) (by omega) ls (lv_sub hl [0, 1, 2, 3] rfl) _ _ (tcG.eq (by rw [show ho + nI (i + 1) = ho + nI i + nI 1 by rw [Int32.add_assoc, nI_add]] <;> rfl) hG) hS
      exact cut_28 (x + 1) (0) (by omega) (by omega) ls (lv_sub hl [0, 1, 2, 3] rfl) _ _ (tcG.eq (by rw [show ho + nI 0 = ho from Int32.add_zero ho] <;> rfl) hG) hS
    · exact absurd c_8 (by omega)
set_option maxHeartbeats 4000000 in
set_option maxRecDepth 100000 in
theorem kX0_setWalk_in {l : Launch} (hlf : l.stackTraces = false) {D : va_G} {cI cJ : ClassId} {N0 : Nat} {h r1 r2 r3 r4 : Nat} {tk co cn wk : Nat → Nat} {n st : Nat} {ho ct sp : Int32} {Z : va_W} (hk : tOk tk co cn wk n st) (x : Nat) (y : Nat) (h1 : x < n) (h2 : y < 6) : tcM l yX0_setWalk wsX0_setWalk { frames := 1, cells := 0, slots := 0, locals := 21 } [] 0 [.ref h, .int (nI (x)), .int (nI (y))] D cI cJ N0 (wT h r1 r2 r3 r4 cI tk co cn wk n ho st ct sp Z) (some (.int (nI (wk x)))) (wT h r1 r2 r3 r4 cI tk co cn (va_up wk x y) n ho st ct sp Z) 0 0 := by
  refine tcM.of (cc := cX0_setWalk) (maxL := 4) (ret := (some .int)) (by decide) rfl (Nat.le_of_ble_eq_true rfl) ?_
  intro p e s m args below meth c C0 hr hlk ht hmn hG ls hl
  have hl : lv_has ls 4 [(0, .ref h), (1, .int (nI (x))), (2, .int (nI (y)))] := hl
  obtain ⟨hk1, hk2, hk3, hk4, hn12, hst⟩ := id hk
  have hG0 := hG
  have hS : va_S (tcA N0) s.heap s.heap [] := va_S.rf
  have hF : ∀ w ∈ wsX00, w ∈ wsX0_setWalk := by decide +kernel
  have w_walks : Cond.fieldLink RX0 19 "TicketCoincidences" "walks" "[I" ∈ wsX0_setWalk := by decide +kernel
  refine lv_aload_n C0.1 C0.2.1 dX0_setWalk_0 rfl (lv_at hl 0 rfl) ?_
  refine lv_iload_n C0.1 C0.2.1 dX0_setWalk_1 rfl (lv_at hl 1 rfl) ?_
  refine tc_callVv (q0 := 0) C0 hG hS rfl rfl (kX0_requireStranger_in hlf hk  (x) (by omega)) (cwV 1 C0.2.2.2.2 gX0_setWalk_X0_requireStranger rfl rfl rfl (by decide +kernel) ⟨(Nat.le_of_ble_eq_true rfl), (Nat.le_of_ble_eq_true rfl)⟩) rfl hl rfl (Nat.le_of_ble_eq_true rfl) dX0_setWalk_2 ⟨(Nat.le_of_ble_eq_true rfl), (Nat.le_of_ble_eq_true rfl)⟩ (fun H locs hG hS => ?_)
  refine lv_iload_n C0.1 C0.2.1 dX0_setWalk_5 rfl (lv_at hl 2 rfl) ?_
  refine tc_callS C0 hG hS (kX0_isWalk hlf  (nI (y)) ) (va_cwS 1 C0.2.2.2.2 gX0_setWalk_X0_isWalk rfl rfl rfl (by decide +kernel) ⟨(Nat.le_of_ble_eq_true rfl), (Nat.le_of_ble_eq_true rfl)⟩) rfl hl rfl (Nat.le_of_ble_eq_true rfl) dX0_setWalk_6 ⟨(Nat.le_of_ble_eq_true rfl), (Nat.le_of_ble_eq_true rfl)⟩ (fun H locs hG hS => ?_)
  refine tb_if_ne (tgt := 22) C0.1 C0.2.1 dX0_setWalk_9 (by decide) (fun c_9 => ?_) (fun c_9 => ?_)
  · refine lv_aload_n C0.1 C0.2.1 dX0_setWalk_22 rfl (lv_at hl 0 rfl) ?_
    refine tgX0_walks C0 hF hG w_walks dX0_setWalk_23 ?_
    refine lv_iload_n C0.1 C0.2.1 dX0_setWalk_26 rfl (lv_at hl 1 rfl) ?_
    refine tc_ald (q0 := 4) C0 hG rfl (by omega) dX0_setWalk_27 ?_
    have b_27 := hk4 (x)
    refine lv_istore_n (lv' := [(3, .int (nI (wk (x)))), (0, .ref h), (1, .int (nI (x))), (2, .int (nI (y)))]) C0.1 C0.2.1 dX0_setWalk_28 rfl hl (by decide) rfl (fun ls hl => ?_)
    refine lv_aload_n C0.1 C0.2.1 dX0_setWalk_29 rfl (lv_at hl 1 rfl) ?_
    refine tgX0_walks C0 hF hG w_walks dX0_setWalk_30 ?_
    refine lv_iload_n C0.1 C0.2.1 dX0_setWalk_33 rfl (lv_at hl 2 rfl) ?_
    refine lv_iload_n C0.1 C0.2.1 dX0_setWalk_34 rfl (lv_at hl 3 rfl) ?_
    refine tc_ast (q0 := 4) C0 hG0 hG hS rfl (by omega) dX0_setWalk_35 (fun H locs hG hS => ?_)
    have hG : tcG D cI cJ N0 (wT h r1 r2 r3 r4 cI tk co cn (va_up wk (x) (y)) n ho st ct sp Z) s H := hG
    refine lv_iload_n C0.1 C0.2.1 dX0_setWalk_36 rfl (lv_at hl 0 rfl) ?_
    exact tc_iret C0 hr hlk hG hS rfl rfl (Nat.le_of_ble_eq_true rfl) (Nat.le_of_ble_eq_true rfl) dX0_setWalk_37
  · exact absurd (tcIn_in h2 (by decide)) (by rw [c_9]; decide)
set_option maxHeartbeats 4000000 in
set_option maxRecDepth 100000 in
theorem kX0_move_in {l : Launch} (hlf : l.stackTraces = false) {D : va_G} {cI cJ : ClassId} {N0 : Nat} {h r1 r2 r3 r4 : Nat} {tk co cn wk : Nat → Nat} {n st : Nat} {ho ct sp : Int32} {Z : va_W} (hk : tOk tk co cn wk n st) (x : Nat) (y : Nat) (h1 : x < n) (h2 : y < 6) (h3 : ¬ cn x = y) (h4 : way (cn x) y ≤ st) : tcM l yX0_move wsX0_move { frames := 2, cells := 0, slots := 0, locals := 43 } [] 0 [.ref h, .int (nI (x)), .int (nI (y))] D cI cJ N0 (wT h r1 r2 r3 r4 cI tk co cn wk n ho st ct sp Z) (some (.int (nI (way (cn x) y)))) (wT h r1 r2 r3 r4 cI tk co (va_up cn x y) wk n ho (st - way (cn x) y) ct (sp + nI (way (cn x) y)) Z) 0 0 := by
  refine tcM.of (cc := cX0_move) (maxL := 4) (ret := (some .int)) (by decide) rfl (Nat.le_of_ble_eq_true rfl) ?_
  intro p e s m args below meth c C0 hr hlk ht hmn hG ls hl
  have hl : lv_has ls 4 [(0, .ref h), (1, .int (nI (x))), (2, .int (nI (y)))] := hl
  obtain ⟨hk1, hk2, hk3, hk4, hn12, hst⟩ := id hk
  have hG0 := hG
  have hS : va_S (tcA N0) s.heap s.heap [] := va_S.rf
  have hF : ∀ w ∈ wsX00, w ∈ wsX0_move := by decide +kernel
  have w_corners : Cond.fieldLink RX0 16 "TicketCoincidences" "corners" "[I" ∈ wsX0_move := by decide +kernel
  refine lv_aload_n C0.1 C0.2.1 dX0_move_0 rfl (lv_at hl 0 rfl) ?_
  refine lv_iload_n C0.1 C0.2.1 dX0_move_1 rfl (lv_at hl 1 rfl) ?_
  refine tc_callVv (q0 := 0) C0 hG hS rfl rfl (kX0_requireStranger_in hlf hk  (x) (by omega)) (cwV 1 C0.2.2.2.2 gX0_move_X0_requireStranger rfl rfl rfl (by decide +kernel) ⟨(Nat.le_of_ble_eq_true rfl), (Nat.le_of_ble_eq_true rfl)⟩) rfl hl rfl (Nat.le_of_ble_eq_true rfl) dX0_move_2 ⟨(Nat.le_of_ble_eq_true rfl), (Nat.le_of_ble_eq_true rfl)⟩ (fun H locs hG hS => ?_)
  refine lv_iload_n C0.1 C0.2.1 dX0_move_5 rfl (lv_at hl 2 rfl) ?_
  refine tc_callS C0 hG hS (kX0_isCorner hlf  (nI (y)) ) (va_cwS 1 C0.2.2.2.2 gX0_move_X0_isCorner rfl rfl rfl (by decide +kernel) ⟨(Nat.le_of_ble_eq_true rfl), (Nat.le_of_ble_eq_true rfl)⟩) rfl hl rfl (Nat.le_of_ble_eq_true rfl) dX0_move_6 ⟨(Nat.le_of_ble_eq_true rfl), (Nat.le_of_ble_eq_true rfl)⟩ (fun H locs hG hS => ?_)
  refine tb_if_ne (tgt := 22) C0.1 C0.2.1 dX0_move_9 (by decide) (fun c_9 => ?_) (fun c_9 => ?_)
  · refine lv_aload_n C0.1 C0.2.1 dX0_move_22 rfl (lv_at hl 0 rfl) ?_
    refine tgX0_corners C0 hF hG w_corners dX0_move_23 ?_
    refine lv_iload_n C0.1 C0.2.1 dX0_move_26 rfl (lv_at hl 1 rfl) ?_
    refine tc_ald (q0 := 3) C0 hG rfl (by omega) dX0_move_27 ?_
    have b_27 := hk3 (x)
    refine lv_iload_n C0.1 C0.2.1 dX0_move_28 rfl (lv_at hl 2 rfl) ?_
    refine tn_icmp_ne (tgt := 42) C0.1 C0.2.1 dX0_move_29 (by decide) (by omega) (by omega) (fun c_29 => ?_) (fun c_29 => ?_)
    · refine lv_aload_n C0.1 C0.2.1 dX0_move_42 rfl (lv_at hl 0 rfl) ?_
      refine tgX0_corners C0 hF hG w_corners dX0_move_43 ?_
      refine lv_iload_n C0.1 C0.2.1 dX0_move_46 rfl (lv_at hl 1 rfl) ?_
      refine tc_ald (q0 := 3) C0 hG rfl (by omega) dX0_move_47 ?_
      have b_47 := hk3 (x)
      refine lv_iload_n C0.1 C0.2.1 dX0_move_48 rfl (lv_at hl 2 rfl) ?_
      refine tc_callS C0 hG hS (kX0_costOfWay hlf  (cn (x)) (y) (by omega) (by omega)) (va_cwS 2 C0.2.2.2.2 gX0_move_X0_costOfWay rfl rfl rfl (by decide +kernel) ⟨(Nat.le_of_ble_eq_true rfl), (Nat.le_of_ble_eq_true rfl)⟩) rfl hl rfl (Nat.le_of_ble_eq_true rfl) dX0_move_49 ⟨(Nat.le_of_ble_eq_true rfl), (Nat.le_of_ble_eq_true rfl)⟩ (fun H locs hG hS => ?_)
      have b_49 := way_le (cn (x)) y (by omega) (by omega)
      refine lv_istore_n (lv' := [(3, .int (nI (way (cn (x)) y))), (0, .ref h), (1, .int (nI (x))), (2, .int (nI (y)))]) C0.1 C0.2.1 dX0_move_52 rfl hl (by decide) rfl (fun ls hl => ?_)
      refine lv_aload_n C0.1 C0.2.1 dX0_move_53 rfl (lv_at hl 1 rfl) ?_
      refine lv_iload_n C0.1 C0.2.1 dX0_move_54 rfl (lv_at hl 0 rfl) ?_
      refine tc_callVv (q0 := 0) C0 hG hS rfl rfl (kX0_pay_in hlf hk  (way (cn (x)) y) (by omega)) (cwV 1 C0.2.2.2.2 gX0_move_X0_pay rfl rfl rfl (by decide +kernel) ⟨(Nat.le_of_ble_eq_true rfl), (Nat.le_of_ble_eq_true rfl)⟩) rfl hl rfl (Nat.le_of_ble_eq_true rfl) dX0_move_55 ⟨(Nat.le_of_ble_eq_true rfl), (Nat.le_of_ble_eq_true rfl)⟩ (fun H locs hG hS => ?_)
      have hG : tcG D cI cJ N0 (wT h r1 r2 r3 r4 cI tk co cn wk n ho (st - (way (cn (x)) y)) ct (sp + nI (way (cn (x)) y)) Z) s H := hG
      refine lv_aload_n C0.1 C0.2.1 dX0_move_58 rfl (lv_at hl 1 rfl) ?_
      refine tgX0_corners C0 hF hG w_corners dX0_move_59 ?_
      refine lv_iload_n C0.1 C0.2.1 dX0_move_62 rfl (lv_at hl 2 rfl) ?_
      refine lv_iload_n C0.1 C0.2.1 dX0_move_63 rfl (lv_at hl 3 rfl) ?_
      refine tc_ast (q0 := 3) C0 hG0 hG hS rfl (by omega) dX0_move_64 (fun H locs hG hS => ?_)
      have hG : tcG D cI cJ N0 (wT h r1 r2 r3 r4 cI tk co (va_up cn (x) (y)) wk n ho (st - (way (cn (x)) y)) ct (sp + nI (way (cn (x)) y)) Z) s H := hG
      refine lv_iload_n C0.1 C0.2.1 dX0_move_65 rfl (lv_at hl 0 rfl) ?_
      exact tc_iret C0 hr hlk hG hS rfl rfl (Nat.le_of_ble_eq_true rfl) (Nat.le_of_ble_eq_true rfl) dX0_move_66
    · exact absurd c_29 h3
  · exact absurd (tcIn_in h2 (by decide)) (by rw [c_9]; decide)
set_option maxHeartbeats 4000000 in
set_option maxRecDepth 100000 in
theorem kX0_draw_in {l : Launch} (hlf : l.stackTraces = false) {D : va_G} {cI cJ : ClassId} {N0 : Nat} {h r1 r2 r3 r4 : Nat} {tk co cn wk : Nat → Nat} {n st : Nat} {ho ct sp : Int32} {Z : va_W} (hk : tOk tk co cn wk n st) (x : Nat) (y : Nat) (h1 : x < n) (h2 : y < 100) (h4 : 12 ≤ st) : tcM l yX0_draw wsX0_draw { frames := 1, cells := 0, slots := 0, locals := 21 } [] 0 [.ref h, .int (nI (x)), .int (nI (y))] D cI cJ N0 (wT h r1 r2 r3 r4 cI tk co cn wk n ho st ct sp Z) (some (.int (nI (tk x)))) (wT h r1 r2 r3 r4 cI (va_up tk x y) co cn wk n ho (st - 12) ct (sp + nI 12) Z) 0 0 := by
  refine tcM.of (cc := cX0_draw) (maxL := 4) (ret := (some .int)) (by decide) rfl (Nat.le_of_ble_eq_true rfl) ?_
  intro p e s m args below meth c C0 hr hlk ht hmn hG ls hl
  have hl : lv_has ls 4 [(0, .ref h), (1, .int (nI (x))), (2, .int (nI (y)))] := hl
  obtain ⟨hk1, hk2, hk3, hk4, hn12, hst⟩ := id hk
  have hG0 := hG
  have hS : va_S (tcA N0) s.heap s.heap [] := va_S.rf
  have hF : ∀ w ∈ wsX00, w ∈ wsX0_draw := by decide +kernel
  have w_tickets : Cond.fieldLink RX0 9 "TicketCoincidences" "tickets" "[I" ∈ wsX0_draw := by decide +kernel
  refine lv_aload_n C0.1 C0.2.1 dX0_draw_0 rfl (lv_at hl 0 rfl) ?_
  refine lv_iload_n C0.1 C0.2.1 dX0_draw_1 rfl (lv_at hl 1 rfl) ?_
  refine tc_callVv (q0 := 0) C0 hG hS rfl rfl (kX0_requireStranger_in hlf hk  (x) (by omega)) (cwV 1 C0.2.2.2.2 gX0_draw_X0_requireStranger rfl rfl rfl (by decide +kernel) ⟨(Nat.le_of_ble_eq_true rfl), (Nat.le_of_ble_eq_true rfl)⟩) rfl hl rfl (Nat.le_of_ble_eq_true rfl) dX0_draw_2 ⟨(Nat.le_of_ble_eq_true rfl), (Nat.le_of_ble_eq_true rfl)⟩ (fun H locs hG hS => ?_)
  refine lv_iload_n C0.1 C0.2.1 dX0_draw_5 rfl (lv_at hl 2 rfl) ?_
  refine tc_callS C0 hG hS (kX0_isTicket hlf  (nI (y)) ) (va_cwS 1 C0.2.2.2.2 gX0_draw_X0_isTicket rfl rfl rfl (by decide +kernel) ⟨(Nat.le_of_ble_eq_true rfl), (Nat.le_of_ble_eq_true rfl)⟩) rfl hl rfl (Nat.le_of_ble_eq_true rfl) dX0_draw_6 ⟨(Nat.le_of_ble_eq_true rfl), (Nat.le_of_ble_eq_true rfl)⟩ (fun H locs hG hS => ?_)
  refine tb_if_ne (tgt := 22) C0.1 C0.2.1 dX0_draw_9 (by decide) (fun c_9 => ?_) (fun c_9 => ?_)
  · refine lv_aload_n C0.1 C0.2.1 dX0_draw_22 rfl (lv_at hl 0 rfl) ?_
    refine lv_bipush (v := nI 12) C0.1 C0.2.1 dX0_draw_23 (by decide) ?_
    refine tc_callVv (q0 := 0) C0 hG hS rfl rfl (kX0_pay_in hlf hk  (12) (by omega)) (cwV 1 C0.2.2.2.2 gX0_draw_X0_pay rfl rfl rfl (by decide +kernel) ⟨(Nat.le_of_ble_eq_true rfl), (Nat.le_of_ble_eq_true rfl)⟩) rfl hl rfl (Nat.le_of_ble_eq_true rfl) dX0_draw_25 ⟨(Nat.le_of_ble_eq_true rfl), (Nat.le_of_ble_eq_true rfl)⟩ (fun H locs hG hS => ?_)
    have hG : tcG D cI cJ N0 (wT h r1 r2 r3 r4 cI tk co cn wk n ho (st - 12) ct (sp + nI 12) Z) s H := hG
    refine lv_aload_n C0.1 C0.2.1 dX0_draw_28 rfl (lv_at hl 0 rfl) ?_
    refine tgX0_tickets C0 hF hG w_tickets dX0_draw_29 ?_
    refine lv_iload_n C0.1 C0.2.1 dX0_draw_32 rfl (lv_at hl 1 rfl) ?_
    refine tc_ald (q0 := 1) C0 hG rfl (by omega) dX0_draw_33 ?_
    have b_33 := hk1 (x)
    refine lv_istore_n (lv' := [(3, .int (nI (tk (x)))), (0, .ref h), (1, .int (nI (x))), (2, .int (nI (y)))]) C0.1 C0.2.1 dX0_draw_34 rfl hl (by decide) rfl (fun ls hl => ?_)
    refine lv_aload_n C0.1 C0.2.1 dX0_draw_35 rfl (lv_at hl 1 rfl) ?_
    refine tgX0_tickets C0 hF hG w_tickets dX0_draw_36 ?_
    refine lv_iload_n C0.1 C0.2.1 dX0_draw_39 rfl (lv_at hl 2 rfl) ?_
    refine lv_iload_n C0.1 C0.2.1 dX0_draw_40 rfl (lv_at hl 3 rfl) ?_
    refine tc_ast (q0 := 1) C0 hG0 hG hS rfl (by omega) dX0_draw_41 (fun H locs hG hS => ?_)
    have hG : tcG D cI cJ N0 (wT h r1 r2 r3 r4 cI (va_up tk (x) (y)) co cn wk n ho (st - 12) ct (sp + nI 12) Z) s H := hG
    refine lv_iload_n C0.1 C0.2.1 dX0_draw_42 rfl (lv_at hl 0 rfl) ?_
    exact tc_iret C0 hr hlk hG hS rfl rfl (Nat.le_of_ble_eq_true rfl) (Nat.le_of_ble_eq_true rfl) dX0_draw_43
  · exact absurd (tcIn_in h2 (by decide)) (by rw [c_9]; decide)
set_option maxHeartbeats 4000000 in
set_option maxRecDepth 100000 in
theorem kX0_swapTickets_in {l : Launch} (hlf : l.stackTraces = false) {D : va_G} {cI cJ : ClassId} {N0 : Nat} {h r1 r2 r3 r4 : Nat} {tk co cn wk : Nat → Nat} {n st : Nat} {ho ct sp : Int32} {Z : va_W} (hk : tOk tk co cn wk n st) (x : Nat) (y : Nat) (h1 : x < n) (h2 : y < n) (h3 : x ≠ y) (h4 : 8 ≤ st) : tcM l yX0_swapTickets wsX0_swapTickets { frames := 4, cells := 0, slots := 0, locals := 89 } [] 0 [.ref h, .int (nI (x)), .int (nI (y))] D cI cJ N0 (wT h r1 r2 r3 r4 cI tk co cn wk n ho st ct sp Z) (some (.int (nI (tw (swp tk x y) co cn wk 0 n) - nI (tw tk co cn wk 0 n)))) (wT h r1 r2 r3 r4 cI (swp tk x y) co cn wk n ho (st - 8) ct (sp + nI 8) Z) 0 0 := by
  refine tcM.of (cc := cX0_swapTickets) (maxL := 4) (ret := (some .int)) (by decide) rfl (Nat.le_of_ble_eq_true rfl) ?_
  intro p e s m args below meth c C0 hr hlk ht hmn hG ls hl
  have hl : lv_has ls 4 [(0, .ref h), (1, .int (nI (x))), (2, .int (nI (y)))] := hl
  obtain ⟨hk1, hk2, hk3, hk4, hn12, hst⟩ := id hk
  have hG0 := hG
  have hS : va_S (tcA N0) s.heap s.heap [] := va_S.rf
  have hF : ∀ w ∈ wsX00, w ∈ wsX0_swapTickets := by decide +kernel
  have w_tickets : Cond.fieldLink RX0 9 "TicketCoincidences" "tickets" "[I" ∈ wsX0_swapTickets := by decide +kernel
  refine lv_aload_n C0.1 C0.2.1 dX0_swapTickets_0 rfl (lv_at hl 0 rfl) ?_
  refine lv_iload_n C0.1 C0.2.1 dX0_swapTickets_1 rfl (lv_at hl 1 rfl) ?_
  refine lv_iload_n C0.1 C0.2.1 dX0_swapTickets_2 rfl (lv_at hl 2 rfl) ?_
  refine tc_callVv (q0 := 0) C0 hG hS rfl rfl (kX0_requirePair_in hlf hk  (x) (y) (by omega) (by omega) (by omega)) (cwV 2 C0.2.2.2.2 gX0_swapTickets_X0_requirePair rfl rfl rfl (by decide +kernel) ⟨(Nat.le_of_ble_eq_true rfl), (Nat.le_of_ble_eq_true rfl)⟩) rfl hl rfl (Nat.le_of_ble_eq_true rfl) dX0_swapTickets_3 ⟨(Nat.le_of_ble_eq_true rfl), (Nat.le_of_ble_eq_true rfl)⟩ (fun H locs hG hS => ?_)
  refine lv_aload_n C0.1 C0.2.1 dX0_swapTickets_6 rfl (lv_at hl 0 rfl) ?_
  refine lv_bipush (v := nI 8) C0.1 C0.2.1 dX0_swapTickets_7 (by decide) ?_
  refine tc_callVv (q0 := 0) C0 hG hS rfl rfl (kX0_pay_in hlf hk  (8) (by omega)) (cwV 1 C0.2.2.2.2 gX0_swapTickets_X0_pay rfl rfl rfl (by decide +kernel) ⟨(Nat.le_of_ble_eq_true rfl), (Nat.le_of_ble_eq_true rfl)⟩) rfl hl rfl (Nat.le_of_ble_eq_true rfl) dX0_swapTickets_9 ⟨(Nat.le_of_ble_eq_true rfl), (Nat.le_of_ble_eq_true rfl)⟩ (fun H locs hG hS => ?_)
  have hG : tcG D cI cJ N0 (wT h r1 r2 r3 r4 cI tk co cn wk n ho (st - 8) ct (sp + nI 8) Z) s H := hG
  have hk_p := hk.st (show st - 8 ≤ 100 by omega)
  refine lv_aload_n C0.1 C0.2.1 dX0_swapTickets_12 rfl (lv_at hl 0 rfl) ?_
  refine lv_iconst (v := nI 0) C0.1 C0.2.1 dX0_swapTickets_13 (by decide) ?_
  refine tc_callV (q0 := 0) C0 hG hS rfl rfl (kX0_townBehind hlf hk_p  (0) (by omega)) (cwV 1 C0.2.2.2.2 gX0_swapTickets_X0_townBehind rfl rfl rfl (by decide +kernel) ⟨(Nat.le_of_ble_eq_true rfl), (Nat.le_of_ble_eq_true rfl)⟩) rfl hl rfl (Nat.le_of_ble_eq_true rfl) dX0_swapTickets_14 ⟨(Nat.le_of_ble_eq_true rfl), (Nat.le_of_ble_eq_true rfl)⟩ (fun H locs hG hS => ?_)
  have b_14 := tw_le tk co cn wk 0 hk_p.2.2.2.2.1
  refine lv_istore_n (lv' := [(3, .int (nI (tw tk co cn wk 0 n))), (0, .ref h), (1, .int (nI (x))), (2, .int (nI (y)))]) C0.1 C0.2.1 dX0_swapTickets_17 rfl hl (by decide) rfl (fun ls hl => ?_)
  refine lv_aload_n C0.1 C0.2.1 dX0_swapTickets_18 rfl (lv_at hl 1 rfl) ?_
  refine tgX0_tickets C0 hF hG w_tickets dX0_swapTickets_19 ?_
  refine lv_iload_n C0.1 C0.2.1 dX0_swapTickets_22 rfl (lv_at hl 2 rfl) ?_
  refine lv_iload_n C0.1 C0.2.1 dX0_swapTickets_23 rfl (lv_at hl 3 rfl) ?_
  refine tc_callSv C0 hG hS (kX0_exchange hlf (q0 := 1) (f := tk)  (r1) (x) (y) (by omega) (by omega) rfl) (va_cwS 3 C0.2.2.2.2 gX0_swapTickets_X0_exchange rfl rfl rfl (by decide +kernel) ⟨(Nat.le_of_ble_eq_true rfl), (Nat.le_of_ble_eq_true rfl)⟩) rfl hl rfl (Nat.le_of_ble_eq_true rfl) dX0_swapTickets_24 ⟨(Nat.le_of_ble_eq_true rfl), (Nat.le_of_ble_eq_true rfl)⟩ (fun H locs hG hS => ?_)
  have hG : tcG D cI cJ N0 (wT h r1 r2 r3 r4 cI (swp tk x y) co cn wk n ho (st - 8) ct (sp + nI 8) Z) s H := hG
  have hk_q := hk_p.tk (swp_lt hk1 x y)
  refine lv_aload_n C0.1 C0.2.1 dX0_swapTickets_27 rfl (lv_at hl 1 rfl) ?_
  refine lv_iconst (v := nI 0) C0.1 C0.2.1 dX0_swapTickets_28 (by decide) ?_
  refine tc_callV (q0 := 0) C0 hG hS rfl rfl (kX0_townBehind hlf hk_q  (0) (by omega)) (cwV 1 C0.2.2.2.2 gX0_swapTickets_X0_townBehind rfl rfl rfl (by decide +kernel) ⟨(Nat.le_of_ble_eq_true rfl), (Nat.le_of_ble_eq_true rfl)⟩) rfl hl rfl (Nat.le_of_ble_eq_true rfl) dX0_swapTickets_29 ⟨(Nat.le_of_ble_eq_true rfl), (Nat.le_of_ble_eq_true rfl)⟩ (fun H locs hG hS => ?_)
  have b_29 := tw_le (swp tk x y) co cn wk 0 hk_q.2.2.2.2.1
  refine lv_iload_n C0.1 C0.2.1 dX0_swapTickets_32 rfl (lv_at hl 0 rfl) ?_
  refine lv_isub C0.1 C0.2.1 dX0_swapTickets_33 ?_
  exact tc_iret C0 hr hlk hG hS rfl rfl (Nat.le_of_ble_eq_true rfl) (Nat.le_of_ble_eq_true rfl) dX0_swapTickets_34
set_option maxHeartbeats 4000000 in
set_option maxRecDepth 100000 in
theorem kX0_addStranger_in {l : Launch} (hlf : l.stackTraces = false) {D : va_G} {cI cJ : ClassId} {N0 : Nat} {h r1 r2 r3 r4 : Nat} {tk co cn wk : Nat → Nat} {n st : Nat} {ho ct sp : Int32} {Z : va_W} (hk : tOk tk co cn wk n st) (xt : Nat) (xc : Nat) (xk : Nat) (xw : Nat) (h1 : xt < 100) (h2 : xc < 5) (h3 : xk < 6) (h4 : xw < 6) (h5 : n < 12) : tcM l yX0_addStranger wsX0_addStranger { frames := 1, cells := 0, slots := 0, locals := 20 } [] 0 [.ref h, .int (nI (xt)), .int (nI (xc)), .int (nI (xk)), .int (nI (xw))] D cI cJ N0 (wT h r1 r2 r3 r4 cI tk co cn wk n ho st ct sp Z) (some (.int (nI (n)))) (wT h r1 r2 r3 r4 cI (va_up tk n xt) (va_up co n xc) (va_up cn n xk) (va_up wk n xw) (n + 1) ho st ct sp Z) 0 0 := by
  refine tcM.of (cc := cX0_addStranger) (maxL := 6) (ret := (some .int)) (by decide) rfl (Nat.le_of_ble_eq_true rfl) ?_
  intro p e s m args below meth c C0 hr hlk ht hmn hG ls hl
  have hl : lv_has ls 6 [(0, .ref h), (1, .int (nI (xt))), (2, .int (nI (xc))), (3, .int (nI (xk))), (4, .int (nI (xw)))] := hl
  obtain ⟨hk1, hk2, hk3, hk4, hn12, hst⟩ := id hk
  have hG0 := hG
  have hS : va_S (tcA N0) s.heap s.heap [] := va_S.rf
  have hF : ∀ w ∈ wsX00, w ∈ wsX0_addStranger := by decide +kernel
  have w_colours : Cond.fieldLink RX0 13 "TicketCoincidences" "colours" "[I" ∈ wsX0_addStranger := by decide +kernel
  have w_corners : Cond.fieldLink RX0 16 "TicketCoincidences" "corners" "[I" ∈ wsX0_addStranger := by decide +kernel
  have w_people : Cond.fieldLink RX0 22 "TicketCoincidences" "people" "I" ∈ wsX0_addStranger := by decide +kernel
  have w_tickets : Cond.fieldLink RX0 9 "TicketCoincidences" "tickets" "[I" ∈ wsX0_addStranger := by decide +kernel
  have w_walks : Cond.fieldLink RX0 19 "TicketCoincidences" "walks" "[I" ∈ wsX0_addStranger := by decide +kernel
  refine lv_iload_n C0.1 C0.2.1 dX0_addStranger_0 rfl (lv_at hl 1 rfl) ?_
  refine tc_callS C0 hG hS (kX0_isTicket hlf  (nI (xt)) ) (va_cwS 1 C0.2.2.2.2 gX0_addStranger_X0_isTicket rfl rfl rfl (by decide +kernel) ⟨(Nat.le_of_ble_eq_true rfl), (Nat.le_of_ble_eq_true rfl)⟩) rfl hl rfl (Nat.le_of_ble_eq_true rfl) dX0_addStranger_1 ⟨(Nat.le_of_ble_eq_true rfl), (Nat.le_of_ble_eq_true rfl)⟩ (fun H locs hG hS => ?_)
  refine tb_if_eq (tgt := 29) C0.1 C0.2.1 dX0_addStranger_4 (by decide) (fun c_4 => ?_) (fun c_4 => ?_)
  · exact absurd (tcIn_in h1 (by decide)) (by rw [c_4]; decide)
  · refine lv_iload_n C0.1 C0.2.1 dX0_addStranger_7 rfl (lv_at hl 2 rfl) ?_
    refine tc_callS C0 hG hS (kX0_isColour hlf  (nI (xc)) ) (va_cwS 1 C0.2.2.2.2 gX0_addStranger_X0_isColour rfl rfl rfl (by decide +kernel) ⟨(Nat.le_of_ble_eq_true rfl), (Nat.le_of_ble_eq_true rfl)⟩) rfl hl rfl (Nat.le_of_ble_eq_true rfl) dX0_addStranger_8 ⟨(Nat.le_of_ble_eq_true rfl), (Nat.le_of_ble_eq_true rfl)⟩ (fun H locs hG hS => ?_)
    refine tb_if_eq (tgt := 29) C0.1 C0.2.1 dX0_addStranger_11 (by decide) (fun c_11 => ?_) (fun c_11 => ?_)
    · exact absurd (tcIn_in h2 (by decide)) (by rw [c_11]; decide)
    · refine lv_iload_n C0.1 C0.2.1 dX0_addStranger_14 rfl (lv_at hl 3 rfl) ?_
      refine tc_callS C0 hG hS (kX0_isCorner hlf  (nI (xk)) ) (va_cwS 1 C0.2.2.2.2 gX0_addStranger_X0_isCorner rfl rfl rfl (by decide +kernel) ⟨(Nat.le_of_ble_eq_true rfl), (Nat.le_of_ble_eq_true rfl)⟩) rfl hl rfl (Nat.le_of_ble_eq_true rfl) dX0_addStranger_15 ⟨(Nat.le_of_ble_eq_true rfl), (Nat.le_of_ble_eq_true rfl)⟩ (fun H locs hG hS => ?_)
      refine tb_if_eq (tgt := 29) C0.1 C0.2.1 dX0_addStranger_18 (by decide) (fun c_18 => ?_) (fun c_18 => ?_)
      · exact absurd (tcIn_in h3 (by decide)) (by rw [c_18]; decide)
      · refine lv_iload C0.1 C0.2.1 dX0_addStranger_21 (lv_at hl 4 rfl) ?_
        refine tc_callS C0 hG hS (kX0_isWalk hlf  (nI (xw)) ) (va_cwS 1 C0.2.2.2.2 gX0_addStranger_X0_isWalk rfl rfl rfl (by decide +kernel) ⟨(Nat.le_of_ble_eq_true rfl), (Nat.le_of_ble_eq_true rfl)⟩) rfl hl rfl (Nat.le_of_ble_eq_true rfl) dX0_addStranger_23 ⟨(Nat.le_of_ble_eq_true rfl), (Nat.le_of_ble_eq_true rfl)⟩ (fun H locs hG hS => ?_)
        refine tb_if_ne (tgt := 39) C0.1 C0.2.1 dX0_addStranger_26 (by decide) (fun c_26 => ?_) (fun c_26 => ?_)
        · refine lv_aload_n C0.1 C0.2.1 dX0_addStranger_39 rfl (lv_at hl 0 rfl) ?_
          refine tgX0_people C0 hF hG w_people dX0_addStranger_40 ?_
          refine lv_bipush (v := nI 12) C0.1 C0.2.1 dX0_addStranger_43 (by decide) ?_
          refine tn_icmp_lt (tgt := 58) C0.1 C0.2.1 dX0_addStranger_45 (by decide) (by omega) (by omega) (fun c_45 => ?_) (fun c_45 => ?_)
          · refine lv_aload_n C0.1 C0.2.1 dX0_addStranger_58 rfl (lv_at hl 0 rfl) ?_
            refine tgX0_people C0 hF hG w_people dX0_addStranger_59 ?_
            refine lv_istore (lv' := [(5, .int (nI (n))), (0, .ref h), (1, .int (nI (xt))), (2, .int (nI (xc))), (3, .int (nI (xk))), (4, .int (nI (xw)))]) C0.1 C0.2.1 dX0_addStranger_62 hl (by decide) rfl (fun ls hl => ?_)
            refine lv_aload_n C0.1 C0.2.1 dX0_addStranger_64 rfl (lv_at hl 1 rfl) ?_
            refine tgX0_tickets C0 hF hG w_tickets dX0_addStranger_65 ?_
            refine lv_iload C0.1 C0.2.1 dX0_addStranger_68 (lv_at hl 0 rfl) ?_
            refine lv_iload_n C0.1 C0.2.1 dX0_addStranger_70 rfl (lv_at hl 2 rfl) ?_
            refine tc_ast (q0 := 1) C0 hG0 hG hS rfl (by omega) dX0_addStranger_71 (fun H locs hG hS => ?_)
            have hG : tcG D cI cJ N0 (wT h r1 r2 r3 r4 cI (va_up tk (n) (xt)) co cn wk n ho st ct sp Z) s H := hG
            refine lv_aload_n C0.1 C0.2.1 dX0_addStranger_72 rfl (lv_at hl 1 rfl) ?_
            refine tgX0_colours C0 hF hG w_colours dX0_addStranger_73 ?_
            refine lv_iload C0.1 C0.2.1 dX0_addStranger_76 (lv_at hl 0 rfl) ?_
            refine lv_iload_n C0.1 C0.2.1 dX0_addStranger_78 rfl (lv_at hl 3 rfl) ?_
            refine tc_ast (q0 := 2) C0 hG0 hG hS rfl (by omega) dX0_addStranger_79 (fun H locs hG hS => ?_)
            have hG : tcG D cI cJ N0 (wT h r1 r2 r3 r4 cI (va_up tk (n) (xt)) (va_up co (n) (xc)) cn wk n ho st ct sp Z) s H := hG
            refine lv_aload_n C0.1 C0.2.1 dX0_addStranger_80 rfl (lv_at hl 1 rfl) ?_
            refine tgX0_corners C0 hF hG w_corners dX0_addStranger_81 ?_
            refine lv_iload C0.1 C0.2.1 dX0_addStranger_84 (lv_at hl 0 rfl) ?_
            refine lv_iload_n C0.1 C0.2.1 dX0_addStranger_86 rfl (lv_at hl 4 rfl) ?_
            refine tc_ast (q0 := 3) C0 hG0 hG hS rfl (by omega) dX0_addStranger_87 (fun H locs hG hS => ?_)
            have hG : tcG D cI cJ N0 (wT h r1 r2 r3 r4 cI (va_up tk (n) (xt)) (va_up co (n) (xc)) (va_up cn (n) (xk)) wk n ho st ct sp Z) s H := hG
            refine lv_aload_n C0.1 C0.2.1 dX0_addStranger_88 rfl (lv_at hl 1 rfl) ?_
            refine tgX0_walks C0 hF hG w_walks dX0_addStranger_89 ?_
            refine lv_iload C0.1 C0.2.1 dX0_addStranger_92 (lv_at hl 0 rfl) ?_
            refine lv_iload C0.1 C0.2.1 dX0_addStranger_94 (lv_at hl 5 rfl) ?_
            refine tc_ast (q0 := 4) C0 hG0 hG hS rfl (by omega) dX0_addStranger_96 (fun H locs hG hS => ?_)
            have hG : tcG D cI cJ N0 (wT h r1 r2 r3 r4 cI (va_up tk (n) (xt)) (va_up co (n) (xc)) (va_up cn (n) (xk)) (va_up wk (n) (xw)) n ho st ct sp Z) s H := hG
            refine lv_aload_n C0.1 C0.2.1 dX0_addStranger_97 rfl (lv_at hl 1 rfl) ?_
            refine lv_iload C0.1 C0.2.1 dX0_addStranger_98 (lv_at hl 0 rfl) ?_
            refine lv_iconst (v := nI 1) C0.1 C0.2.1 dX0_addStranger_100 (by decide) ?_
            refine tn_iadd C0.1 C0.2.1 dX0_addStranger_101 ?_
            refine tpX0_people C0 hF hG0 hG hS w_people dX0_addStranger_102 (fun H locs hG hS => ?_)
            refine lv_iload C0.1 C0.2.1 dX0_addStranger_105 (lv_at hl 0 rfl) ?_
            exact tc_iret C0 hr hlk hG hS rfl rfl (Nat.le_of_ble_eq_true rfl) (Nat.le_of_ble_eq_true rfl) dX0_addStranger_107
          · exact absurd h5 (by omega)
        · exact absurd (tcIn_in h4 (by decide)) (by rw [c_26]; decide)
