/-! the Sim, method by method -/
set_option maxHeartbeats 4000000 in
set_option maxRecDepth 100000 in
theorem kX1_ticket {l : Launch} (hlf : l.stackTraces = false) {D : va_G} {cI cJ : ClassId} {N0 : Nat} {h r1 r2 r3 r4 : Nat} {tk co cn wk : Nat → Nat} {n st : Nat} {ho ct sp : Int32} {g ra : Nat} {rw : Nat → Nat} {sh sc sq : Int32} {ss nn : Nat} {f : Nat → Nat → Nat} {Z : va_W} {ak ao an aw : Nat → Nat} (hks : tOk ak ao an aw nn ss) (hy : tSy ak ao an aw nn f) (x : Nat) (h1 : x < nn) : tcM l yX1_ticket wsX1_ticket { frames := 0, cells := 0, slots := 0, locals := 0 } [] 0 [.ref g, .int (nI (x))] D cI cJ N0 (wB h r1 r2 r3 r4 cI tk co cn wk n ho st ct sp g ra rw cJ sh ss sc sq nn f Z) (some (.int (nI (ak x)))) (wB h r1 r2 r3 r4 cI tk co cn wk n ho st ct sp g ra rw cJ sh ss sc sq nn f Z) 0 0 := by
  refine tcg_of (cc := cX1_ticket) (maxL := 2) (ret := (some .int)) (by decide) rfl (Nat.le_of_ble_eq_true rfl) ?_
  intro p e s m args below meth c C0 hr hlk hmn hG ls hl
  show W p l e _ s m args below meth c s.heap [] 0 0 (tcE below [] 0 D N0 _ _ _ args s _ _) _
  have hl : lv_has ls 2 [(0, .ref g), (1, .int (nI (x)))] := hl
  have hG0 := hG
  have hS : va_S (tcA N0) s.heap s.heap [] := va_S.rf
  have hF : ∀ w ∈ wsX10, w ∈ wsX1_ticket := by decide +kernel
  have w_all : Cond.fieldLink RX1 15 "TicketCoincidencesLaw$Sim" "all" "[[I" ∈ wsX1_ticket := by decide +kernel
  obtain ⟨hk1, hk2, hk3, hk4, hn12, hst⟩ := id hks
  refine lv_bipush (v := nI 10) C0.1 C0.2.1 dX1_ticket_0 (by decide) ?_
  refine lv_aload_n C0.1 C0.2.1 dX1_ticket_2 rfl (lv_at hl 0 rfl) ?_
  refine tgX1_all C0 hF hG w_all dX1_ticket_3 ?_
  refine lv_iload_n C0.1 C0.2.1 dX1_ticket_6 rfl (lv_at hl 1 rfl) ?_
  refine ts_aald (k := x) C0 hG (by omega) (by omega) dX1_ticket_7 ?_
  refine lv_iconst (v := nI 0) C0.1 C0.2.1 dX1_ticket_8 (by decide) ?_
  refine ts_ald (k := x) (j := 0) C0 hG (by omega) (by decide) dX1_ticket_9 ?_
  refine tc_top (y := nI (ak (x) / 10)) (congrArg nI (hy (x) (by omega)).1) ?_
  have b_9 := hks.1 (x)
  refine tn_imul C0.1 C0.2.1 dX1_ticket_10 ?_
  refine lv_aload_n C0.1 C0.2.1 dX1_ticket_11 rfl (lv_at hl 0 rfl) ?_
  refine tgX1_all C0 hF hG w_all dX1_ticket_12 ?_
  refine lv_iload_n C0.1 C0.2.1 dX1_ticket_15 rfl (lv_at hl 1 rfl) ?_
  refine ts_aald (k := x) C0 hG (by omega) (by omega) dX1_ticket_16 ?_
  refine lv_iconst (v := nI 1) C0.1 C0.2.1 dX1_ticket_17 (by decide) ?_
  refine ts_ald (k := x) (j := 1) C0 hG (by omega) (by decide) dX1_ticket_18 ?_
  refine tc_top (y := nI (ak (x) % 10)) (congrArg nI (hy (x) (by omega)).2.1) ?_
  have b_18 := hks.1 (x)
  refine tn_iadd C0.1 C0.2.1 dX1_ticket_19 ?_
  exact tc_iret C0 hr hlk hG hS rfl (by congr 1; omega) (Nat.le_of_ble_eq_true rfl) (Nat.le_of_ble_eq_true rfl) dX1_ticket_20
set_option maxHeartbeats 4000000 in
set_option maxRecDepth 100000 in
theorem kX1_set {l : Launch} (hlf : l.stackTraces = false) {D : va_G} {cI cJ : ClassId} {N0 : Nat} {h r1 r2 r3 r4 : Nat} {tk co cn wk : Nat → Nat} {n st : Nat} {ho ct sp : Int32} {g ra : Nat} {rw : Nat → Nat} {sh sc sq : Int32} {ss nn : Nat} {f : Nat → Nat → Nat} {Z : va_W} {ak ao an aw : Nat → Nat} (hks : tOk ak ao an aw nn ss) (hy : tSy ak ao an aw nn f) (x : Nat) (t : Nat) (h1 : x < nn) (h2 : t < 100) : tcM l yX1_set wsX1_set { frames := 0, cells := 0, slots := 0, locals := 0 } [] 0 [.ref g, .int (nI (x)), .int (nI (t))] D cI cJ N0 (wB h r1 r2 r3 r4 cI tk co cn wk n ho st ct sp g ra rw cJ sh ss sc sq nn f Z) none (wB h r1 r2 r3 r4 cI tk co cn wk n ho st ct sp g ra rw cJ sh ss sc sq nn (upR (upR f x 0 (t / 10)) x 1 (t % 10)) Z) 0 0 := by
  refine tcg_of (cc := cX1_set) (maxL := 3) (ret := none) (by decide) rfl (Nat.le_of_ble_eq_true rfl) ?_
  intro p e s m args below meth c C0 hr hlk hmn hG ls hl
  show W p l e _ s m args below meth c s.heap [] 0 0 (tcE below [] 0 D N0 _ _ _ args s _ _) _
  have hl : lv_has ls 3 [(0, .ref g), (1, .int (nI (x))), (2, .int (nI (t)))] := hl
  have hG0 := hG
  have hS : va_S (tcA N0) s.heap s.heap [] := va_S.rf
  have hF : ∀ w ∈ wsX10, w ∈ wsX1_set := by decide +kernel
  have w_all : Cond.fieldLink RX1 15 "TicketCoincidencesLaw$Sim" "all" "[[I" ∈ wsX1_set := by decide +kernel
  obtain ⟨hk1, hk2, hk3, hk4, hn12, hst⟩ := id hks
  refine lv_aload_n C0.1 C0.2.1 dX1_set_0 rfl (lv_at hl 0 rfl) ?_
  refine tgX1_all C0 hF hG w_all dX1_set_1 ?_
  refine lv_iload_n C0.1 C0.2.1 dX1_set_4 rfl (lv_at hl 1 rfl) ?_
  refine ts_aald (k := x) C0 hG (by omega) (by omega) dX1_set_5 ?_
  refine lv_iconst (v := nI 0) C0.1 C0.2.1 dX1_set_6 (by decide) ?_
  refine lv_iload_n C0.1 C0.2.1 dX1_set_7 rfl (lv_at hl 2 rfl) ?_
  refine lv_bipush (v := nI 10) C0.1 C0.2.1 dX1_set_8 (by decide) ?_
  refine tn_idiv C0.1 C0.2.1 dX1_set_10 (by omega) (by decide) (by decide) ?_
  refine ts_ast (k := x) (j := 0) (x := t / 10) C0 hG0 hG hS (by omega) (by decide) dX1_set_11 (fun H locs hG hS => ?_)
  have hG : tcG D cI cJ N0 (wB h r1 r2 r3 r4 cI tk co cn wk n ho st ct sp g ra rw cJ sh ss sc sq nn (upR f x 0 (t / 10)) Z) s H := hG
  refine lv_aload_n C0.1 C0.2.1 dX1_set_12 rfl (lv_at hl 0 rfl) ?_
  refine tgX1_all C0 hF hG w_all dX1_set_13 ?_
  refine lv_iload_n C0.1 C0.2.1 dX1_set_16 rfl (lv_at hl 1 rfl) ?_
  refine ts_aald (k := x) C0 hG (by omega) (by omega) dX1_set_17 ?_
  refine lv_iconst (v := nI 1) C0.1 C0.2.1 dX1_set_18 (by decide) ?_
  refine lv_iload_n C0.1 C0.2.1 dX1_set_19 rfl (lv_at hl 2 rfl) ?_
  refine lv_bipush (v := nI 10) C0.1 C0.2.1 dX1_set_20 (by decide) ?_
  refine tn_irem C0.1 C0.2.1 dX1_set_22 (by omega) (by decide) (by decide) ?_
  refine ts_ast (k := x) (j := 1) (x := t % 10) C0 hG0 hG hS (by omega) (by decide) dX1_set_23 (fun H locs hG hS => ?_)
  have hG : tcG D cI cJ N0 (wB h r1 r2 r3 r4 cI tk co cn wk n ho st ct sp g ra rw cJ sh ss sc sq nn (upR (upR f x 0 (t / 10)) x 1 (t % 10)) Z) s H := hG
  exact tc_vret C0 hr hlk hG hS rfl (Nat.le_of_ble_eq_true rfl) (Nat.le_of_ble_eq_true rfl) dX1_set_24
set_option maxHeartbeats 4000000 in
set_option maxRecDepth 100000 in
theorem kX1_isMirror {l : Launch} (hlf : l.stackTraces = false) {D : va_G} {cI cJ : ClassId} {N0 : Nat} {h r1 r2 r3 r4 : Nat} {tk co cn wk : Nat → Nat} {n st : Nat} {ho ct sp : Int32} {g ra : Nat} {rw : Nat → Nat} {sh sc sq : Int32} {ss nn : Nat} {f : Nat → Nat → Nat} {Z : va_W} {ak ao an aw : Nat → Nat} (hks : tOk ak ao an aw nn ss) (hy : tSy ak ao an aw nn f) (x : Nat) (y : Nat) (h1 : x < nn) (h2 : y < nn) : tcM l yX1_isMirror wsX1_isMirror { frames := 0, cells := 0, slots := 0, locals := 0 } [] 0 [.ref (rw (x)), .ref (rw (y))] D cI cJ N0 (wB h r1 r2 r3 r4 cI tk co cn wk n ho st ct sp g ra rw cJ sh ss sc sq nn f Z) (some (.int (nI (b2n (mir (ak x) (ak y)))))) (wB h r1 r2 r3 r4 cI tk co cn wk n ho st ct sp g ra rw cJ sh ss sc sq nn f Z) 0 0 := by
  refine tcg_of (cc := cX1_isMirror) (maxL := 2) (ret := (some .boolean)) (by decide) rfl (Nat.le_of_ble_eq_true rfl) ?_
  intro p e s m args below meth c C0 hr hlk hmn hG ls hl
  show W p l e _ s m args below meth c s.heap [] 0 0 (tcE below [] 0 D N0 _ _ _ args s _ _) _
  have hl : lv_has ls 2 [(0, .ref (rw (x))), (1, .ref (rw (y)))] := hl
  have hG0 := hG
  have hS : va_S (tcA N0) s.heap s.heap [] := va_S.rf
  obtain ⟨hk1, hk2, hk3, hk4, hn12, hst⟩ := id hks
  refine lv_aload_n C0.1 C0.2.1 dX1_isMirror_0 rfl (lv_at hl 0 rfl) ?_
  refine lv_iconst (v := nI 0) C0.1 C0.2.1 dX1_isMirror_1 (by decide) ?_
  refine ts_ald (k := x) (j := 0) C0 hG (by omega) (by decide) dX1_isMirror_2 ?_
  refine tc_top (y := nI (ak (x) / 10)) (congrArg nI (hy (x) (by omega)).1) ?_
  have b_2 := hks.1 (x)
  refine lv_aload_n C0.1 C0.2.1 dX1_isMirror_3 rfl (lv_at hl 1 rfl) ?_
  refine lv_iconst (v := nI 1) C0.1 C0.2.1 dX1_isMirror_4 (by decide) ?_
  refine ts_ald (k := y) (j := 1) C0 hG (by omega) (by decide) dX1_isMirror_5 ?_
  refine tc_top (y := nI (ak (y) % 10)) (congrArg nI (hy (y) (by omega)).2.1) ?_
  have b_5 := hks.1 (y)
  refine tn_icmp_ne (tgt := 22) C0.1 C0.2.1 dX1_isMirror_6 (by decide) (by omega) (by omega) (fun c_6 => ?_) (fun c_6 => ?_)
  · refine lv_iconst (v := nI 0) C0.1 C0.2.1 dX1_isMirror_22 (by decide) ?_
    exact tc_zret C0 hr hlk hG hS rfl (by first | (rw [show mir (ak x) (ak y) = true from decide_eq_true ⟨c_6, c_15⟩]; rfl) | (rw [show mir (ak x) (ak y) = false from decide_eq_false (fun z => c_6 z.1)]; rfl) | (rw [show mir (ak x) (ak y) = false from decide_eq_false (fun z => c_15 z.2)]; rfl)) (Nat.le_of_ble_eq_true rfl) (Nat.le_of_ble_eq_true rfl) dX1_isMirror_23
  · refine lv_aload_n C0.1 C0.2.1 dX1_isMirror_9 rfl (lv_at hl 0 rfl) ?_
    refine lv_iconst (v := nI 1) C0.1 C0.2.1 dX1_isMirror_10 (by decide) ?_
    refine ts_ald (k := x) (j := 1) C0 hG (by omega) (by decide) dX1_isMirror_11 ?_
    refine tc_top (y := nI (ak (x) % 10)) (congrArg nI (hy (x) (by omega)).2.1) ?_
    have b_11 := hks.1 (x)
    refine lv_aload_n C0.1 C0.2.1 dX1_isMirror_12 rfl (lv_at hl 1 rfl) ?_
    refine lv_iconst (v := nI 0) C0.1 C0.2.1 dX1_isMirror_13 (by decide) ?_
    refine ts_ald (k := y) (j := 0) C0 hG (by omega) (by decide) dX1_isMirror_14 ?_
    refine tc_top (y := nI (ak (y) / 10)) (congrArg nI (hy (y) (by omega)).1) ?_
    have b_14 := hks.1 (y)
    refine tn_icmp_ne (tgt := 22) C0.1 C0.2.1 dX1_isMirror_15 (by decide) (by omega) (by omega) (fun c_15 => ?_) (fun c_15 => ?_)
    · refine lv_iconst (v := nI 0) C0.1 C0.2.1 dX1_isMirror_22 (by decide) ?_
      exact tc_zret C0 hr hlk hG hS rfl (by first | (rw [show mir (ak x) (ak y) = true from decide_eq_true ⟨c_6, c_15⟩]; rfl) | (rw [show mir (ak x) (ak y) = false from decide_eq_false (fun z => c_6 z.1)]; rfl) | (rw [show mir (ak x) (ak y) = false from decide_eq_false (fun z => c_15 z.2)]; rfl)) (Nat.le_of_ble_eq_true rfl) (Nat.le_of_ble_eq_true rfl) dX1_isMirror_23
    · refine lv_iconst (v := nI 1) C0.1 C0.2.1 dX1_isMirror_18 (by decide) ?_
      refine lv_goto (tgt := 23) C0.1 C0.2.1 dX1_isMirror_19 (by decide) ?_
      exact tc_zret C0 hr hlk hG hS rfl (by first | (rw [show mir (ak x) (ak y) = true from decide_eq_true ⟨c_6, c_15⟩]; rfl) | (rw [show mir (ak x) (ak y) = false from decide_eq_false (fun z => c_6 z.1)]; rfl) | (rw [show mir (ak x) (ak y) = false from decide_eq_false (fun z => c_15 z.2)]; rfl)) (Nat.le_of_ble_eq_true rfl) (Nat.le_of_ble_eq_true rfl) dX1_isMirror_23
set_option maxHeartbeats 4000000 in
set_option maxRecDepth 100000 in
theorem kX1_points {l : Launch} (hlf : l.stackTraces = false) {D : va_G} {cI cJ : ClassId} {N0 : Nat} {h r1 r2 r3 r4 : Nat} {tk co cn wk : Nat → Nat} {n st : Nat} {ho ct sp : Int32} {g ra : Nat} {rw : Nat → Nat} {sh sc sq : Int32} {ss nn : Nat} {f : Nat → Nat → Nat} {Z : va_W} {ak ao an aw : Nat → Nat} (hks : tOk ak ao an aw nn ss) (hy : tSy ak ao an aw nn f) (x : Nat) (y : Nat) (h1 : x < nn) (h2 : y < nn) : tcM l yX1_points wsX1_points { frames := 1, cells := 0, slots := 0, locals := 21 } [] 0 [.ref g, .ref (rw (x)), .ref (rw (y))] D cI cJ N0 (wB h r1 r2 r3 r4 cI tk co cn wk n ho st ct sp g ra rw cJ sh ss sc sq nn f Z) (some (.int (nI (pts ak ao x y)))) (wB h r1 r2 r3 r4 cI tk co cn wk n ho st ct sp g ra rw cJ sh ss sc sq nn f Z) 0 0 := by
  refine tcg_of (cc := cX1_points) (maxL := 4) (ret := (some .int)) (by decide) rfl (Nat.le_of_ble_eq_true rfl) ?_
  intro p e s m args below meth c C0 hr hlk hmn hG ls hl
  show W p l e _ s m args below meth c s.heap [] 0 0 (tcE below [] 0 D N0 _ _ _ args s _ _) _
  have hl : lv_has ls 4 [(0, .ref g), (1, .ref (rw (x))), (2, .ref (rw (y)))] := hl
  have hG0 := hG
  have hS : va_S (tcA N0) s.heap s.heap [] := va_S.rf
  obtain ⟨hk1, hk2, hk3, hk4, hn12, hst⟩ := id hks
  refine lv_iconst (v := nI 0) C0.1 C0.2.1 dX1_points_0 (by decide) ?_
  refine lv_istore_n (lv' := [(3, .int (nI (0))), (0, .ref g), (1, .ref (rw (x))), (2, .ref (rw (y)))]) C0.1 C0.2.1 dX1_points_1 rfl hl (by decide) rfl (fun ls hl => ?_)
  refine tc_nameQ (fun zQg zhQ => ?_)
  have cut_14 : ∀ (q1 : Nat) (hq1 : q1 = if ak x % 10 = ak y % 10 then 1 else 0), ∀ (ls : Array Slot), lv_has ls 4 [(3, .int (nI (q1))), (0, .ref g), (1, .ref (rw (x))), (2, .ref (rw (y)))] → ∀ (H : Heap) (locs : List Loc), tcG D cI cJ N0 (wB h r1 r2 r3 r4 cI tk co cn wk n ho st ct sp g ra rw cJ sh ss sc sq nn f Z) s H → va_S (tcA N0) s.heap H locs → W p l e ({ frames := 1, cells := 0, slots := 0, locals := 21 } : Room) s m args below meth c H locs (0) (0) zQg (F0 m 14 ls []) := by
    intro q1 hq1 ls hl H locs hG hS
    have cut_34 : ∀ (q2 : Nat) (hq2 : q2 = q1 + if ak x / 10 + ak x % 10 = ak y / 10 + ak y % 10 then 2 else 0), ∀ (ls : Array Slot), lv_has ls 4 [(3, .int (nI (q2))), (0, .ref g), (1, .ref (rw (x))), (2, .ref (rw (y)))] → ∀ (H : Heap) (locs : List Loc), tcG D cI cJ N0 (wB h r1 r2 r3 r4 cI tk co cn wk n ho st ct sp g ra rw cJ sh ss sc sq nn f Z) s H → va_S (tcA N0) s.heap H locs → W p l e ({ frames := 1, cells := 0, slots := 0, locals := 21 } : Room) s m args below meth c H locs (0) (0) zQg (F0 m 34 ls []) := by
      intro q2 hq2 ls hl H locs hG hS
      have cut_65 : ∀ (q3 : Nat) (hq3 : q3 = q2 + if adist (ak x) (ak y) = 1 then 3 else 0), ∀ (ls : Array Slot), lv_has ls 4 [(3, .int (nI (q3))), (0, .ref g), (1, .ref (rw (x))), (2, .ref (rw (y)))] → ∀ (H : Heap) (locs : List Loc), tcG D cI cJ N0 (wB h r1 r2 r3 r4 cI tk co cn wk n ho st ct sp g ra rw cJ sh ss sc sq nn f Z) s H → va_S (tcA N0) s.heap H locs → W p l e ({ frames := 1, cells := 0, slots := 0, locals := 21 } : Room) s m args below meth c H locs (0) (0) zQg (F0 m 65 ls []) := by
        intro q3 hq3 ls hl H locs hG hS
        have cut_76 : ∀ (q4 : Nat) (hq4 : q4 = ptk (ak x) (ak y)), ∀ (ls : Array Slot), lv_has ls 4 [(3, .int (nI (q4))), (0, .ref g), (1, .ref (rw (x))), (2, .ref (rw (y)))] → ∀ (H : Heap) (locs : List Loc), tcG D cI cJ N0 (wB h r1 r2 r3 r4 cI tk co cn wk n ho st ct sp g ra rw cJ sh ss sc sq nn f Z) s H → va_S (tcA N0) s.heap H locs → W p l e ({ frames := 1, cells := 0, slots := 0, locals := 21 } : Room) s m args below meth c H locs (0) (0) zQg (F0 m 76 ls []) := by
          intro q4 hq4 ls hl H locs hG hS
          have b_pt := ptk_le (ak x) (ak y)
          refine lv_aload_n C0.1 C0.2.1 dX1_points_76 rfl (lv_at hl 2 rfl) ?_
          refine lv_iconst (v := nI 2) C0.1 C0.2.1 dX1_points_77 (by decide) ?_
          refine ts_ald (k := x) (j := 2) C0 hG (by omega) (by decide) dX1_points_78 ?_
          refine tc_top (y := nI (ao (x))) (congrArg nI (hy (x) (by omega)).2.2.1) ?_
          have b_78 := hks.2.1 (x)
          refine lv_aload_n C0.1 C0.2.1 dX1_points_79 rfl (lv_at hl 3 rfl) ?_
          refine lv_iconst (v := nI 2) C0.1 C0.2.1 dX1_points_80 (by decide) ?_
          refine ts_ald (k := y) (j := 2) C0 hG (by omega) (by decide) dX1_points_81 ?_
          refine tc_top (y := nI (ao (y))) (congrArg nI (hy (y) (by omega)).2.2.1) ?_
          have b_81 := hks.2.1 (y)
          refine tn_icmp_ne (tgt := 88) C0.1 C0.2.1 dX1_points_82 (by decide) (by omega) (by omega) (fun c_82 => ?_) (fun c_82 => ?_)
          · refine lv_iload_n C0.1 C0.2.1 dX1_points_88 rfl (lv_at hl 0 rfl) ?_
            subst zhQ
            exact tc_iret C0 hr hlk hG hS rfl (by congr 1; unfold pts pco; rw [hq4]; first | (rw [if_neg c_82]; rfl) | (rw [if_pos c_82]; rfl) | (rw [if_neg c_82]; done) | rw [if_pos c_82]) (Nat.le_of_ble_eq_true rfl) (Nat.le_of_ble_eq_true rfl) dX1_points_89
          · refine lv_iinc (v := nI (q4 + 2)) (lv' := [(3, .int (nI (q4 + 2))), (0, .ref g), (1, .ref (rw (x))), (2, .ref (rw (y)))]) C0.1 C0.2.1 dX1_points_85 hl (k := 0) rfl (nI_add (q4) 2) (by decide) rfl (fun ls hl => ?_)
            refine lv_iload_n C0.1 C0.2.1 dX1_points_88 rfl (lv_at hl 0 rfl) ?_
            subst zhQ
            exact tc_iret C0 hr hlk hG hS rfl (by congr 1; unfold pts pco; rw [hq4]; first | (rw [if_neg c_82]; rfl) | (rw [if_pos c_82]; rfl) | (rw [if_neg c_82]; done) | rw [if_pos c_82]) (Nat.le_of_ble_eq_true rfl) (Nat.le_of_ble_eq_true rfl) dX1_points_89
        refine lv_aload_n C0.1 C0.2.1 dX1_points_65 rfl (lv_at hl 2 rfl) ?_
        refine lv_aload_n C0.1 C0.2.1 dX1_points_66 rfl (lv_at hl 3 rfl) ?_
        refine tc_callS C0 hG hS (kX1_isMirror hlf hks hy  (x) (y) (by omega) (by omega)) (va_cwS 2 C0.2.2.2.2 gX1_points_X1_isMirror rfl rfl rfl (by decide +kernel) ⟨(Nat.le_of_ble_eq_true rfl), (Nat.le_of_ble_eq_true rfl)⟩) rfl hl rfl (Nat.le_of_ble_eq_true rfl) dX1_points_67 ⟨(Nat.le_of_ble_eq_true rfl), (Nat.le_of_ble_eq_true rfl)⟩ (fun H locs hG hS => ?_)
        refine tb_if_eq (tgt := 76) C0.1 C0.2.1 dX1_points_70 (by decide) (fun c_70 => ?_) (fun c_70 => ?_)
        · exact cut_76 (q3) (by unfold ptk; rw [hq3, hq2, hq1]; first | (rw [if_neg (by rw [c_70]; decide)]; rfl) | (rw [if_pos c_70]; rfl) | rw [if_pos c_70] | simp [c_70]) ls (lv_sub hl [0, 1, 2, 3] rfl) _ _ hG hS
        · refine lv_iinc (v := nI (q3 + 5)) (lv' := [(3, .int (nI (q3 + 5))), (0, .ref g), (1, .ref (rw (x))), (2, .ref (rw (y)))]) C0.1 C0.2.1 dX1_points_73 hl (k := 0) rfl (nI_add (q3) 5) (by decide) rfl (fun ls hl => ?_)
          exact cut_76 (q3 + 5) (by unfold ptk; rw [hq3, hq2, hq1]; first | (rw [if_neg (by rw [c_70]; decide)]; rfl) | (rw [if_pos c_70]; rfl) | rw [if_pos c_70] | simp [c_70]) ls (lv_sub hl [0, 1, 2, 3] rfl) _ _ hG hS
      refine lv_bipush (v := nI 10) C0.1 C0.2.1 dX1_points_34 (by decide) ?_
      refine lv_aload_n C0.1 C0.2.1 dX1_points_36 rfl (lv_at hl 2 rfl) ?_
      refine lv_iconst (v := nI 0) C0.1 C0.2.1 dX1_points_37 (by decide) ?_
      refine ts_ald (k := x) (j := 0) C0 hG (by omega) (by decide) dX1_points_38 ?_
      refine tc_top (y := nI (ak (x) / 10)) (congrArg nI (hy (x) (by omega)).1) ?_
      have b_38 := hks.1 (x)
      refine tn_imul C0.1 C0.2.1 dX1_points_39 ?_
      refine lv_aload_n C0.1 C0.2.1 dX1_points_40 rfl (lv_at hl 2 rfl) ?_
      refine lv_iconst (v := nI 1) C0.1 C0.2.1 dX1_points_41 (by decide) ?_
      refine ts_ald (k := x) (j := 1) C0 hG (by omega) (by decide) dX1_points_42 ?_
      refine tc_top (y := nI (ak (x) % 10)) (congrArg nI (hy (x) (by omega)).2.1) ?_
      have b_42 := hks.1 (x)
      refine tn_iadd C0.1 C0.2.1 dX1_points_43 ?_
      refine lv_bipush (v := nI 10) C0.1 C0.2.1 dX1_points_44 (by decide) ?_
      refine lv_aload_n C0.1 C0.2.1 dX1_points_46 rfl (lv_at hl 3 rfl) ?_
      refine lv_iconst (v := nI 0) C0.1 C0.2.1 dX1_points_47 (by decide) ?_
      refine ts_ald (k := y) (j := 0) C0 hG (by omega) (by decide) dX1_points_48 ?_
      refine tc_top (y := nI (ak (y) / 10)) (congrArg nI (hy (y) (by omega)).1) ?_
      have b_48 := hks.1 (y)
      refine tn_imul C0.1 C0.2.1 dX1_points_49 ?_
      refine lv_isub C0.1 C0.2.1 dX1_points_50 ?_
      refine lv_aload_n C0.1 C0.2.1 dX1_points_51 rfl (lv_at hl 3 rfl) ?_
      refine lv_iconst (v := nI 1) C0.1 C0.2.1 dX1_points_52 (by decide) ?_
      refine ts_ald (k := y) (j := 1) C0 hG (by omega) (by decide) dX1_points_53 ?_
      refine tc_top (y := nI (ak (y) % 10)) (congrArg nI (hy (y) (by omega)).2.1) ?_
      have b_53 := hks.1 (y)
      refine lv_isub C0.1 C0.2.1 dX1_points_54 ?_
      refine tc_top (dig_sub (ak x) (ak y)) ?_
      have b_ad := adist_le (a := ak x) (b := ak y) (k := 100) (by have := hk1 x; omega) (by have := hk1 y; omega)
      refine va_mabs C0.1 C0.2.1 (C0.2.2.1.trans hl.1.symm) C0.2.2.2.1 (C0.2.2.2.2 (.methodLink RX1 33 Lib.Math.abs.name) (by decide +kernel)) (C0.2.2.2.2 (.static Lib.Math.abs.name) (by decide +kernel)) (C0.2.2.2.2 (.initialized "java/lang/Math") (by decide +kernel)) (C0.2.2.2.2 (.code Lib.Math.abs.name Lib.Math.abs.code 1 (some .int)) (by decide +kernel)) (Nat.le_of_ble_eq_true rfl) (Nat.le_of_ble_eq_true rfl) (Nat.le_of_ble_eq_true rfl) (Nat.le_of_ble_eq_true rfl) dX1_points_55 ?_
      refine tc_top (tc_abs (a := ak x) (b := ak y) (by have := hk1 x; omega) (by have := hk1 y; omega)) ?_
      refine lv_iconst (v := nI 1) C0.1 C0.2.1 dX1_points_58 (by decide) ?_
      refine tn_icmp_ne (tgt := 65) C0.1 C0.2.1 dX1_points_59 (by decide) (by omega) (by omega) (fun c_59 => ?_) (fun c_59 => ?_)
      · exact cut_65 (q2) (by first | (rw [if_neg c_59]; done) | (rw [if_pos c_59]; done) | (rw [if_neg c_59]; rfl) | (rw [if_pos c_59]; rfl)) ls (lv_sub hl [0, 1, 2, 3] rfl) _ _ hG hS
      · refine lv_iinc (v := nI (q2 + 3)) (lv' := [(3, .int (nI (q2 + 3))), (0, .ref g), (1, .ref (rw (x))), (2, .ref (rw (y)))]) C0.1 C0.2.1 dX1_points_62 hl (k := 0) rfl (nI_add (q2) 3) (by decide) rfl (fun ls hl => ?_)
        exact cut_65 (q2 + 3) (by first | (rw [if_neg c_59]; done) | (rw [if_pos c_59]; done) | (rw [if_neg c_59]; rfl) | (rw [if_pos c_59]; rfl)) ls (lv_sub hl [0, 1, 2, 3] rfl) _ _ hG hS
    refine lv_aload_n C0.1 C0.2.1 dX1_points_14 rfl (lv_at hl 2 rfl) ?_
    refine lv_iconst (v := nI 0) C0.1 C0.2.1 dX1_points_15 (by decide) ?_
    refine ts_ald (k := x) (j := 0) C0 hG (by omega) (by decide) dX1_points_16 ?_
    refine tc_top (y := nI (ak (x) / 10)) (congrArg nI (hy (x) (by omega)).1) ?_
    have b_16 := hks.1 (x)
    refine lv_aload_n C0.1 C0.2.1 dX1_points_17 rfl (lv_at hl 2 rfl) ?_
    refine lv_iconst (v := nI 1) C0.1 C0.2.1 dX1_points_18 (by decide) ?_
    refine ts_ald (k := x) (j := 1) C0 hG (by omega) (by decide) dX1_points_19 ?_
    refine tc_top (y := nI (ak (x) % 10)) (congrArg nI (hy (x) (by omega)).2.1) ?_
    have b_19 := hks.1 (x)
    refine tn_iadd C0.1 C0.2.1 dX1_points_20 ?_
    refine lv_aload_n C0.1 C0.2.1 dX1_points_21 rfl (lv_at hl 3 rfl) ?_
    refine lv_iconst (v := nI 0) C0.1 C0.2.1 dX1_points_22 (by decide) ?_
    refine ts_ald (k := y) (j := 0) C0 hG (by omega) (by decide) dX1_points_23 ?_
    refine tc_top (y := nI (ak (y) / 10)) (congrArg nI (hy (y) (by omega)).1) ?_
    have b_23 := hks.1 (y)
    refine lv_aload_n C0.1 C0.2.1 dX1_points_24 rfl (lv_at hl 3 rfl) ?_
    refine lv_iconst (v := nI 1) C0.1 C0.2.1 dX1_points_25 (by decide) ?_
    refine ts_ald (k := y) (j := 1) C0 hG (by omega) (by decide) dX1_points_26 ?_
    refine tc_top (y := nI (ak (y) % 10)) (congrArg nI (hy (y) (by omega)).2.1) ?_
    have b_26 := hks.1 (y)
    refine tn_iadd C0.1 C0.2.1 dX1_points_27 ?_
    refine tn_icmp_ne (tgt := 34) C0.1 C0.2.1 dX1_points_28 (by decide) (by omega) (by omega) (fun c_28 => ?_) (fun c_28 => ?_)
    · exact cut_34 (q1) (by first | (rw [if_neg c_28]; done) | (rw [if_pos c_28]; done) | (rw [if_neg c_28]; rfl) | (rw [if_pos c_28]; rfl)) ls (lv_sub hl [0, 1, 2, 3] rfl) _ _ hG hS
    · refine lv_iinc (v := nI (q1 + 2)) (lv' := [(3, .int (nI (q1 + 2))), (0, .ref g), (1, .ref (rw (x))), (2, .ref (rw (y)))]) C0.1 C0.2.1 dX1_points_31 hl (k := 0) rfl (nI_add (q1) 2) (by decide) rfl (fun ls hl => ?_)
      exact cut_34 (q1 + 2) (by first | (rw [if_neg c_28]; done) | (rw [if_pos c_28]; done) | (rw [if_neg c_28]; rfl) | (rw [if_pos c_28]; rfl)) ls (lv_sub hl [0, 1, 2, 3] rfl) _ _ hG hS
  refine lv_aload_n C0.1 C0.2.1 dX1_points_2 rfl (lv_at hl 2 rfl) ?_
  refine lv_iconst (v := nI 1) C0.1 C0.2.1 dX1_points_3 (by decide) ?_
  refine ts_ald (k := x) (j := 1) C0 hG (by omega) (by decide) dX1_points_4 ?_
  refine tc_top (y := nI (ak (x) % 10)) (congrArg nI (hy (x) (by omega)).2.1) ?_
  have b_4 := hks.1 (x)
  refine lv_aload_n C0.1 C0.2.1 dX1_points_5 rfl (lv_at hl 3 rfl) ?_
  refine lv_iconst (v := nI 1) C0.1 C0.2.1 dX1_points_6 (by decide) ?_
  refine ts_ald (k := y) (j := 1) C0 hG (by omega) (by decide) dX1_points_7 ?_
  refine tc_top (y := nI (ak (y) % 10)) (congrArg nI (hy (y) (by omega)).2.1) ?_
  have b_7 := hks.1 (y)
  refine tn_icmp_ne (tgt := 14) C0.1 C0.2.1 dX1_points_8 (by decide) (by omega) (by omega) (fun c_8 => ?_) (fun c_8 => ?_)
  · exact cut_14 (0) (by first | rw [if_neg c_8] | rw [if_pos c_8]) ls (lv_sub hl [0, 1, 2, 3] rfl) _ _ hG hS
  · refine tn_iinc (lv' := [(3, .int (nI (0 + 1))), (0, .ref g), (1, .ref (rw (x))), (2, .ref (rw (y)))]) C0.1 C0.2.1 dX1_points_11 hl (k := 0) rfl (by decide) rfl (fun ls hl => ?_)
    exact cut_14 (0 + 1) (by first | rw [if_neg c_8] | rw [if_pos c_8]) ls (lv_sub hl [0, 1, 2, 3] rfl) _ _ hG hS
set_option maxHeartbeats 4000000 in
set_option maxRecDepth 100000 in
theorem kX1_luck {l : Launch} (hlf : l.stackTraces = false) {D : va_G} {cI cJ : ClassId} {N0 : Nat} {h r1 r2 r3 r4 : Nat} {tk co cn wk : Nat → Nat} {n st : Nat} {ho ct sp : Int32} {g ra : Nat} {rw : Nat → Nat} {sh sc sq : Int32} {ss nn : Nat} {f : Nat → Nat → Nat} {Z : va_W} {ak ao an aw : Nat → Nat} (hks : tOk ak ao an aw nn ss) (hy : tSy ak ao an aw nn f) (x : Nat) (h1 : x < nn) : tcM l yX1_luck wsX1_luck { frames := 2, cells := 0, slots := 0, locals := 44 } [] 0 [.ref g, .int (nI (x))] D cI cJ N0 (wB h r1 r2 r3 r4 cI tk co cn wk n ho st ct sp g ra rw cJ sh ss sc sq nn f Z) (some (.int (nI (lkn ak ao an x nn)))) (wB h r1 r2 r3 r4 cI tk co cn wk n ho st ct sp g ra rw cJ sh ss sc sq nn f Z) 0 0 := by
  refine tcg_of (cc := cX1_luck) (maxL := 4) (ret := (some .int)) (by decide) rfl (Nat.le_of_ble_eq_true rfl) ?_
  intro p e s m args below meth c C0 hr hlk hmn hG ls hl
  show W p l e _ s m args below meth c s.heap [] 0 0 (tcE below [] 0 D N0 _ _ _ args s _ _) _
  have hl : lv_has ls 4 [(0, .ref g), (1, .int (nI (x)))] := hl
  have hG0 := hG
  have hS : va_S (tcA N0) s.heap s.heap [] := va_S.rf
  have hF : ∀ w ∈ wsX10, w ∈ wsX1_luck := by decide +kernel
  have w_all : Cond.fieldLink RX1 15 "TicketCoincidencesLaw$Sim" "all" "[[I" ∈ wsX1_luck := by decide +kernel
  obtain ⟨hk1, hk2, hk3, hk4, hn12, hst⟩ := id hks
  refine lv_iconst (v := nI 0) C0.1 C0.2.1 dX1_luck_0 (by decide) ?_
  refine lv_istore_n (lv' := [(2, .int (nI (0))), (0, .ref g), (1, .int (nI (x)))]) C0.1 C0.2.1 dX1_luck_1 rfl hl (by decide) rfl (fun ls hl => ?_)
  refine lv_iconst (v := nI 0) C0.1 C0.2.1 dX1_luck_2 (by decide) ?_
  refine lv_istore_n (lv' := [(3, .int (nI (0))), (2, .int (nI (0))), (0, .ref g), (1, .int (nI (x)))]) C0.1 C0.2.1 dX1_luck_3 rfl hl (by decide) rfl (fun ls hl => ?_)
  refine tc_nameQ (fun zQg zhQ => ?_)
  have cut_4 : ∀ (kf : Nat) (q : Nat) (i : Nat) (hi : i ≤ nn) (hq : q = sm (lwg ak ao an x (ak x) (an x)) i) (hm : nn + 1 ≤ i + kf), ∀ (ls : Array Slot), lv_has ls 4 [(3, .int (nI (i))), (2, .int (nI (q))), (0, .ref g), (1, .int (nI (x)))] → ∀ (H : Heap) (locs : List Loc), tcG D cI cJ N0 (wB h r1 r2 r3 r4 cI tk co cn wk n ho st ct sp g ra rw cJ sh ss sc sq nn f Z) s H → va_S (tcA N0) s.heap H locs → W p l e ({ frames := 2, cells := 0, slots := 0, locals := 44 } : Room) s m args below meth c H locs (0) (0) zQg (F0 m 4 ls []) := by
    intro kf
    induction kf with
    | zero => intro q i hi hq hm; exact absurd hm (by omega)
    | succ kf ih_4 =>
      intro q i hi hq hm ls hl H locs hG hS
      refine lv_iload_n C0.1 C0.2.1 dX1_luck_4 rfl (lv_at hl 0 rfl) ?_
      refine lv_aload_n C0.1 C0.2.1 dX1_luck_5 rfl (lv_at hl 2 rfl) ?_
      refine tgX1_all C0 hF hG w_all dX1_luck_6 ?_
      refine ts_alen C0 hG dX1_luck_9 ?_
      refine tn_icmp_ge (tgt := 62) C0.1 C0.2.1 dX1_luck_10 (by decide) (by omega) (by omega) (fun c_10 => ?_) (fun c_10 => ?_)
      · refine lv_iload_n C0.1 C0.2.1 dX1_luck_62 rfl (lv_at hl 1 rfl) ?_
        subst zhQ
        exact tc_iret C0 hr hlk hG hS rfl (by rw [hq, show i = nn by omega]; rfl) (Nat.le_of_ble_eq_true rfl) (Nat.le_of_ble_eq_true rfl) dX1_luck_63
      · have cut_56 : ∀ (q2 : Nat) (hq2 : q2 = sm (lwg ak ao an x (ak x) (an x)) (i + 1)), ∀ (ls : Array Slot), lv_has ls 4 [(3, .int (nI (i))), (2, .int (nI (q2))), (0, .ref g), (1, .int (nI (x)))] → ∀ (H : Heap) (locs : List Loc), tcG D cI cJ N0 (wB h r1 r2 r3 r4 cI tk co cn wk n ho st ct sp g ra rw cJ sh ss sc sq nn f Z) s H → va_S (tcA N0) s.heap H locs → W p l e ({ frames := 2, cells := 0, slots := 0, locals := 44 } : Room) s m args below meth c H locs (0) (0) zQg (F0 m 56 ls []) := by
          intro q2 hq2 ls hl H locs hG hS
          refine tn_iinc (lv' := [(3, .int (nI (i + 1))), (2, .int (nI (q2))), (0, .ref g), (1, .int (nI (x)))]) C0.1 C0.2.1 dX1_luck_56 hl (k := 0) rfl (by decide) rfl (fun ls hl => ?_)
          refine lv_goto (tgt := 4) C0.1 C0.2.1 dX1_luck_59 (by decide) ?_
          exact ih_4 (q2) (i + 1) (by omega) (by omega) (by omega) ls (lv_sub hl [0, 1, 2, 3] rfl) _ _ hG hS
        refine lv_iload_n C0.1 C0.2.1 dX1_luck_13 rfl (lv_at hl 0 rfl) ?_
        refine lv_iload_n C0.1 C0.2.1 dX1_luck_14 rfl (lv_at hl 3 rfl) ?_
        refine tn_icmp_eq (tgt := 56) C0.1 C0.2.1 dX1_luck_15 (by decide) (by omega) (by omega) (fun c_15 => ?_) (fun c_15 => ?_)
        · exact cut_56 (q) (by first | exact sm_step hq (lwg_1 c_15 c_34) | exact sm_skip hq (lwg_0 c_15) | exact sm_skip hq (lwg_2 c_34)) ls (lv_sub hl [0, 1, 2, 3] rfl) _ _ hG hS
        · refine lv_aload_n C0.1 C0.2.1 dX1_luck_18 rfl (lv_at hl 2 rfl) ?_
          refine tgX1_all C0 hF hG w_all dX1_luck_19 ?_
          refine lv_iload_n C0.1 C0.2.1 dX1_luck_22 rfl (lv_at hl 0 rfl) ?_
          refine ts_aald (k := i) C0 hG (by omega) (by omega) dX1_luck_23 ?_
          refine lv_iconst (v := nI 3) C0.1 C0.2.1 dX1_luck_24 (by decide) ?_
          refine ts_ald (k := i) (j := 3) C0 hG (by omega) (by decide) dX1_luck_25 ?_
          refine tc_top (y := nI (an (i))) (congrArg nI (hy (i) (by omega)).2.2.2.1) ?_
          have b_25 := hks.2.2.1 (i)
          refine lv_aload_n C0.1 C0.2.1 dX1_luck_26 rfl (lv_at hl 2 rfl) ?_
          refine tgX1_all C0 hF hG w_all dX1_luck_27 ?_
          refine lv_iload_n C0.1 C0.2.1 dX1_luck_30 rfl (lv_at hl 3 rfl) ?_
          refine ts_aald (k := x) C0 hG (by omega) (by omega) dX1_luck_31 ?_
          refine lv_iconst (v := nI 3) C0.1 C0.2.1 dX1_luck_32 (by decide) ?_
          refine ts_ald (k := x) (j := 3) C0 hG (by omega) (by decide) dX1_luck_33 ?_
          refine tc_top (y := nI (an (x))) (congrArg nI (hy (x) (by omega)).2.2.2.1) ?_
          have b_33 := hks.2.2.1 (x)
          refine tn_icmp_ne (tgt := 56) C0.1 C0.2.1 dX1_luck_34 (by decide) (by omega) (by omega) (fun c_34 => ?_) (fun c_34 => ?_)
          · exact cut_56 (q) (by first | exact sm_step hq (lwg_1 c_15 c_34) | exact sm_skip hq (lwg_0 c_15) | exact sm_skip hq (lwg_2 c_34)) ls (lv_sub hl [0, 1, 2, 3] rfl) _ _ hG hS
          · refine lv_iload_n C0.1 C0.2.1 dX1_luck_37 rfl (lv_at hl 1 rfl) ?_
            refine lv_aload_n C0.1 C0.2.1 dX1_luck_38 rfl (lv_at hl 2 rfl) ?_
            refine lv_aload_n C0.1 C0.2.1 dX1_luck_39 rfl (lv_at hl 2 rfl) ?_
            refine tgX1_all C0 hF hG w_all dX1_luck_40 ?_
            refine lv_iload_n C0.1 C0.2.1 dX1_luck_43 rfl (lv_at hl 3 rfl) ?_
            refine ts_aald (k := x) C0 hG (by omega) (by omega) dX1_luck_44 ?_
            refine lv_aload_n C0.1 C0.2.1 dX1_luck_45 rfl (lv_at hl 2 rfl) ?_
            refine tgX1_all C0 hF hG w_all dX1_luck_46 ?_
            refine lv_iload_n C0.1 C0.2.1 dX1_luck_49 rfl (lv_at hl 0 rfl) ?_
            refine ts_aald (k := i) C0 hG (by omega) (by omega) dX1_luck_50 ?_
            refine tc_callV (q0 := 5) C0 hG hS rfl rfl (kX1_points hlf hks hy  (x) (i) (by omega) (by omega)) (cwV 2 C0.2.2.2.2 gX1_luck_X1_points rfl rfl rfl (by decide +kernel) ⟨(Nat.le_of_ble_eq_true rfl), (Nat.le_of_ble_eq_true rfl)⟩) rfl hl rfl (Nat.le_of_ble_eq_true rfl) dX1_luck_51 ⟨(Nat.le_of_ble_eq_true rfl), (Nat.le_of_ble_eq_true rfl)⟩ (fun H locs hG hS => ?_)
            have b_51 := pts_le ak ao x i
            refine tn_iadd C0.1 C0.2.1 dX1_luck_54 ?_
            refine lv_istore_n (lv' := [(2, .int (nI (q + (pts ak ao x i)))), (3, .int (nI (i))), (0, .ref g), (1, .int (nI (x)))]) C0.1 C0.2.1 dX1_luck_55 rfl hl (by decide) rfl (fun ls hl => ?_)
            exact cut_56 (q + (pts ak ao x i)) (by first | exact sm_step hq (lwg_1 c_15 c_34) | exact sm_skip hq (lwg_0 c_15) | exact sm_skip hq (lwg_2 c_34)) ls (lv_sub hl [1, 0, 2, 3] rfl) _ _ hG hS
  exact cut_4 (nn + 1) (0) (0) (by omega) rfl (by omega) ls (lv_sub hl [0, 1, 2, 3] rfl) _ _ hG hS
set_option maxHeartbeats 4000000 in
set_option maxRecDepth 100000 in
theorem kX1_at {l : Launch} (hlf : l.stackTraces = false) {D : va_G} {cI cJ : ClassId} {N0 : Nat} {h r1 r2 r3 r4 : Nat} {tk co cn wk : Nat → Nat} {n st : Nat} {ho ct sp : Int32} {g ra : Nat} {rw : Nat → Nat} {sh sc sq : Int32} {ss nn : Nat} {f : Nat → Nat → Nat} {Z : va_W} {ak ao an aw : Nat → Nat} (hks : tOk ak ao an aw nn ss) (hy : tSy ak ao an aw nn f) (x : Nat) (h1 : x < 6) : tcM l yX1_at wsX1_at { frames := 3, cells := 0, slots := 0, locals := 67 } [] 0 [.ref g, .int (nI (x))] D cI cJ N0 (wB h r1 r2 r3 r4 cI tk co cn wk n ho st ct sp g ra rw cJ sh ss sc sq nn f Z) (some (.int (nI (cAt ak ao an x nn)))) (wB h r1 r2 r3 r4 cI tk co cn wk n ho st ct sp g ra rw cJ sh ss sc sq nn f Z) 0 0 := by
  refine tcg_of (cc := cX1_at) (maxL := 4) (ret := (some .int)) (by decide) rfl (Nat.le_of_ble_eq_true rfl) ?_
  intro p e s m args below meth c C0 hr hlk hmn hG ls hl
  show W p l e _ s m args below meth c s.heap [] 0 0 (tcE below [] 0 D N0 _ _ _ args s _ _) _
  have hl : lv_has ls 4 [(0, .ref g), (1, .int (nI (x)))] := hl
  have hG0 := hG
  have hS : va_S (tcA N0) s.heap s.heap [] := va_S.rf
  have hF : ∀ w ∈ wsX10, w ∈ wsX1_at := by decide +kernel
  have w_all : Cond.fieldLink RX1 15 "TicketCoincidencesLaw$Sim" "all" "[[I" ∈ wsX1_at := by decide +kernel
  obtain ⟨hk1, hk2, hk3, hk4, hn12, hst⟩ := id hks
  refine lv_iconst (v := nI 0) C0.1 C0.2.1 dX1_at_0 (by decide) ?_
  refine lv_istore_n (lv' := [(2, .int (nI (0))), (0, .ref g), (1, .int (nI (x)))]) C0.1 C0.2.1 dX1_at_1 rfl hl (by decide) rfl (fun ls hl => ?_)
  refine lv_iconst (v := nI 0) C0.1 C0.2.1 dX1_at_2 (by decide) ?_
  refine lv_istore_n (lv' := [(3, .int (nI (0))), (2, .int (nI (0))), (0, .ref g), (1, .int (nI (x)))]) C0.1 C0.2.1 dX1_at_3 rfl hl (by decide) rfl (fun ls hl => ?_)
  refine tc_nameQ (fun zQg zhQ => ?_)
  have cut_4 : ∀ (kf : Nat) (q : Nat) (i : Nat) (hi : i ≤ nn) (hqb : q ≤ 156 * i) (hq : q = sm (fun k => if an k = x then lkn ak ao an k nn else 0) i) (hm : nn + 1 ≤ i + kf), ∀ (ls : Array Slot), lv_has ls 4 [(3, .int (nI (i))), (2, .int (nI (q))), (0, .ref g), (1, .int (nI (x)))] → ∀ (H : Heap) (locs : List Loc), tcG D cI cJ N0 (wB h r1 r2 r3 r4 cI tk co cn wk n ho st ct sp g ra rw cJ sh ss sc sq nn f Z) s H → va_S (tcA N0) s.heap H locs → W p l e ({ frames := 3, cells := 0, slots := 0, locals := 67 } : Room) s m args below meth c H locs (0) (0) zQg (F0 m 4 ls []) := by
    intro kf
    induction kf with
    | zero => intro q i hi hqb hq hm; exact absurd hm (by omega)
    | succ kf ih_4 =>
      intro q i hi hqb hq hm ls hl H locs hG hS
      refine lv_iload_n C0.1 C0.2.1 dX1_at_4 rfl (lv_at hl 0 rfl) ?_
      refine lv_aload_n C0.1 C0.2.1 dX1_at_5 rfl (lv_at hl 2 rfl) ?_
      refine tgX1_all C0 hF hG w_all dX1_at_6 ?_
      refine ts_alen C0 hG dX1_at_9 ?_
      refine tn_icmp_ge (tgt := 39) C0.1 C0.2.1 dX1_at_10 (by decide) (by omega) (by omega) (fun c_10 => ?_) (fun c_10 => ?_)
      · refine lv_iload_n C0.1 C0.2.1 dX1_at_39 rfl (lv_at hl 1 rfl) ?_
        refine lv_iconst (v := nI 2) C0.1 C0.2.1 dX1_at_40 (by decide) ?_
        refine tn_idiv C0.1 C0.2.1 dX1_at_41 (by have hz9 := hi; omega) (by decide) (by decide) ?_
        subst zhQ
        exact tc_iret C0 hr hlk hG hS rfl (by have hz9 : i = nn := (by omega); rw [hq, hz9, at_sum, Nat.mul_div_cancel_left _ (by decide)]) (Nat.le_of_ble_eq_true rfl) (Nat.le_of_ble_eq_true rfl) dX1_at_42
      · refine lv_aload_n C0.1 C0.2.1 dX1_at_13 rfl (lv_at hl 2 rfl) ?_
        refine tgX1_all C0 hF hG w_all dX1_at_14 ?_
        refine lv_iload_n C0.1 C0.2.1 dX1_at_17 rfl (lv_at hl 0 rfl) ?_
        refine ts_aald (k := i) C0 hG (by omega) (by omega) dX1_at_18 ?_
        refine lv_iconst (v := nI 3) C0.1 C0.2.1 dX1_at_19 (by decide) ?_
        refine ts_ald (k := i) (j := 3) C0 hG (by omega) (by decide) dX1_at_20 ?_
        refine tc_top (y := nI (an (i))) (congrArg nI (hy (i) (by omega)).2.2.2.1) ?_
        have b_20 := hks.2.2.1 (i)
        refine lv_iload_n C0.1 C0.2.1 dX1_at_21 rfl (lv_at hl 3 rfl) ?_
        refine tn_icmp_ne (tgt := 33) C0.1 C0.2.1 dX1_at_22 (by decide) (by omega) (by omega) (fun c_22 => ?_) (fun c_22 => ?_)
        · refine tn_iinc (lv' := [(3, .int (nI (i + 1))), (2, .int (nI (q))), (0, .ref g), (1, .int (nI (x)))]) C0.1 C0.2.1 dX1_at_33 hl (k := 0) rfl (by decide) rfl (fun ls hl => ?_)
          refine lv_goto (tgt := 4) C0.1 C0.2.1 dX1_at_36 (by decide) ?_
          exact ih_4 (q) (i + 1) (by omega) (by omega) (by first | exact sm_step hq (if_pos c_22) | exact sm_skip hq (if_neg c_22)) (by omega) ls (lv_sub hl [0, 1, 2, 3] rfl) _ _ hG hS
        · refine lv_iload_n C0.1 C0.2.1 dX1_at_25 rfl (lv_at hl 1 rfl) ?_
          refine lv_aload_n C0.1 C0.2.1 dX1_at_26 rfl (lv_at hl 2 rfl) ?_
          refine lv_iload_n C0.1 C0.2.1 dX1_at_27 rfl (lv_at hl 0 rfl) ?_
          refine tc_callV (q0 := 5) C0 hG hS rfl rfl (kX1_luck hlf hks hy  (i) (by omega)) (cwV 1 C0.2.2.2.2 gX1_at_X1_luck rfl rfl rfl (by decide +kernel) ⟨(Nat.le_of_ble_eq_true rfl), (Nat.le_of_ble_eq_true rfl)⟩) rfl hl rfl (Nat.le_of_ble_eq_true rfl) dX1_at_28 ⟨(Nat.le_of_ble_eq_true rfl), (Nat.le_of_ble_eq_true rfl)⟩ (fun H locs hG hS => ?_)
          have b_28 := (show lkn ak ao an i nn ≤ 156 from lw_le ak ao an i (ak i) (an i) hks.2.2.2.2.1)
          refine tn_iadd C0.1 C0.2.1 dX1_at_31 ?_
          refine lv_istore_n (lv' := [(2, .int (nI (q + (lkn ak ao an i nn)))), (3, .int (nI (i))), (0, .ref g), (1, .int (nI (x)))]) C0.1 C0.2.1 dX1_at_32 rfl hl (by decide) rfl (fun ls hl => ?_)
          refine tn_iinc (lv' := [(3, .int (nI (i + 1))), (2, .int (nI (q + (lkn ak ao an i nn)))), (0, .ref g), (1, .int (nI (x)))]) C0.1 C0.2.1 dX1_at_33 hl (k := 1) rfl (by decide) rfl (fun ls hl => ?_)
          refine lv_goto (tgt := 4) C0.1 C0.2.1 dX1_at_36 (by decide) ?_
          exact ih_4 (q + (lkn ak ao an i nn)) (i + 1) (by omega) (by omega) (by first | exact sm_step hq (if_pos c_22) | exact sm_skip hq (if_neg c_22)) (by omega) ls (lv_sub hl [0, 1, 2, 3] rfl) _ _ hG hS
  exact cut_4 (nn + 1) (0) (0) (by omega) (by omega) rfl (by omega) ls (lv_sub hl [0, 1, 2, 3] rfl) _ _ hG hS
set_option maxHeartbeats 4000000 in
set_option maxRecDepth 100000 in
theorem kX1_town {l : Launch} (hlf : l.stackTraces = false) {D : va_G} {cI cJ : ClassId} {N0 : Nat} {h r1 r2 r3 r4 : Nat} {tk co cn wk : Nat → Nat} {n st : Nat} {ho ct sp : Int32} {g ra : Nat} {rw : Nat → Nat} {sh sc sq : Int32} {ss nn : Nat} {f : Nat → Nat → Nat} {Z : va_W} {ak ao an aw : Nat → Nat} (hks : tOk ak ao an aw nn ss) (hy : tSy ak ao an aw nn f)   : tcM l yX1_town wsX1_town { frames := 4, cells := 0, slots := 0, locals := 90 } [] 0 [.ref g] D cI cJ N0 (wB h r1 r2 r3 r4 cI tk co cn wk n ho st ct sp g ra rw cJ sh ss sc sq nn f Z) (some (.int (nI (tw ak ao an aw 0 nn)))) (wB h r1 r2 r3 r4 cI tk co cn wk n ho st ct sp g ra rw cJ sh ss sc sq nn f Z) 0 0 := by
  refine tcg_of (cc := cX1_town) (maxL := 3) (ret := (some .int)) (by decide) rfl (Nat.le_of_ble_eq_true rfl) ?_
  intro p e s m args below meth c C0 hr hlk hmn hG ls hl
  show W p l e _ s m args below meth c s.heap [] 0 0 (tcE below [] 0 D N0 _ _ _ args s _ _) _
  have hl : lv_has ls 3 [(0, .ref g)] := hl
  have hG0 := hG
  have hS : va_S (tcA N0) s.heap s.heap [] := va_S.rf
  obtain ⟨hk1, hk2, hk3, hk4, hn12, hst⟩ := id hks
  refine lv_iconst (v := nI 0) C0.1 C0.2.1 dX1_town_0 (by decide) ?_
  refine lv_istore_n (lv' := [(1, .int (nI (0))), (0, .ref g)]) C0.1 C0.2.1 dX1_town_1 rfl hl (by decide) rfl (fun ls hl => ?_)
  refine lv_iconst (v := nI 0) C0.1 C0.2.1 dX1_town_2 (by decide) ?_
  refine lv_istore_n (lv' := [(2, .int (nI (0))), (1, .int (nI (0))), (0, .ref g)]) C0.1 C0.2.1 dX1_town_3 rfl hl (by decide) rfl (fun ls hl => ?_)
  refine tc_nameQ (fun zQg zhQ => ?_)
  have cut_4 : ∀ (kf : Nat) (q : Nat) (i : Nat) (hi : i ≤ 6) (hq : q = sm (fun c => cAt ak ao an c nn) i) (hm : 6 + 1 ≤ i + kf), ∀ (ls : Array Slot), lv_has ls 3 [(2, .int (nI (i))), (1, .int (nI (q))), (0, .ref g)] → ∀ (H : Heap) (locs : List Loc), tcG D cI cJ N0 (wB h r1 r2 r3 r4 cI tk co cn wk n ho st ct sp g ra rw cJ sh ss sc sq nn f Z) s H → va_S (tcA N0) s.heap H locs → W p l e ({ frames := 4, cells := 0, slots := 0, locals := 90 } : Room) s m args below meth c H locs (0) (0) zQg (F0 m 4 ls []) := by
    intro kf
    induction kf with
    | zero => intro q i hi hq hm; exact absurd hm (by omega)
    | succ kf ih_4 =>
      intro q i hi hq hm ls hl H locs hG hS
      refine lv_iload_n C0.1 C0.2.1 dX1_town_4 rfl (lv_at hl 0 rfl) ?_
      refine lv_bipush (v := nI 6) C0.1 C0.2.1 dX1_town_5 (by decide) ?_
      refine tn_icmp_ge (tgt := 24) C0.1 C0.2.1 dX1_town_7 (by decide) (by omega) (by omega) (fun c_7 => ?_) (fun c_7 => ?_)
      · refine lv_iload_n C0.1 C0.2.1 dX1_town_24 rfl (lv_at hl 1 rfl) ?_
        subst zhQ
        exact tc_iret C0 hr hlk hG hS rfl (by rw [hq, show i = 6 by omega, town_sum aw nn hk3]) (Nat.le_of_ble_eq_true rfl) (Nat.le_of_ble_eq_true rfl) dX1_town_25
      · refine lv_iload_n C0.1 C0.2.1 dX1_town_10 rfl (lv_at hl 1 rfl) ?_
        refine lv_aload_n C0.1 C0.2.1 dX1_town_11 rfl (lv_at hl 2 rfl) ?_
        refine lv_iload_n C0.1 C0.2.1 dX1_town_12 rfl (lv_at hl 0 rfl) ?_
        refine tc_callV (q0 := 5) C0 hG hS rfl rfl (kX1_at hlf hks hy  (i) (by omega)) (cwV 1 C0.2.2.2.2 gX1_town_X1_at rfl rfl rfl (by decide +kernel) ⟨(Nat.le_of_ble_eq_true rfl), (Nat.le_of_ble_eq_true rfl)⟩) rfl hl rfl (Nat.le_of_ble_eq_true rfl) dX1_town_13 ⟨(Nat.le_of_ble_eq_true rfl), (Nat.le_of_ble_eq_true rfl)⟩ (fun H locs hG hS => ?_)
        refine tn_iadd C0.1 C0.2.1 dX1_town_16 ?_
        refine lv_istore_n (lv' := [(1, .int (nI (q + (cAt ak ao an i nn)))), (2, .int (nI (i))), (0, .ref g)]) C0.1 C0.2.1 dX1_town_17 rfl hl (by decide) rfl (fun ls hl => ?_)
        refine tn_iinc (lv' := [(2, .int (nI (i + 1))), (1, .int (nI (q + (cAt ak ao an i nn)))), (0, .ref g)]) C0.1 C0.2.1 dX1_town_18 hl (k := 1) rfl (by decide) rfl (fun ls hl => ?_)
        refine lv_goto (tgt := 4) C0.1 C0.2.1 dX1_town_21 (by decide) ?_
        exact ih_4 (q + (cAt ak ao an i nn)) (i + 1) (by omega) (sm_step hq rfl) (by omega) ls (lv_sub hl [0, 1, 2] rfl) _ _ hG hS
  exact cut_4 (6 + 1) (0) (0) (by omega) rfl (by omega) ls (lv_sub hl [0, 1, 2] rfl) _ _ hG hS
set_option maxHeartbeats 4000000 in
set_option maxRecDepth 100000 in
theorem kX1_people {l : Launch} (hlf : l.stackTraces = false) {D : va_G} {cI cJ : ClassId} {N0 : Nat} {h r1 r2 r3 r4 : Nat} {tk co cn wk : Nat → Nat} {n st : Nat} {ho ct sp : Int32} {g ra : Nat} {rw : Nat → Nat} {sh sc sq : Int32} {ss nn : Nat} {f : Nat → Nat → Nat} {Z : va_W} {ak ao an aw : Nat → Nat} (hks : tOk ak ao an aw nn ss) (hy : tSy ak ao an aw nn f) (x : Nat) (h1 : x < 6) : tcM l yX1_people wsX1_people { frames := 0, cells := 0, slots := 0, locals := 0 } [] 0 [.ref g, .int (nI (x))] D cI cJ N0 (wB h r1 r2 r3 r4 cI tk co cn wk n ho st ct sp g ra rw cJ sh ss sc sq nn f Z) (some (.int (nI (crowd an x nn)))) (wB h r1 r2 r3 r4 cI tk co cn wk n ho st ct sp g ra rw cJ sh ss sc sq nn f Z) 0 0 := by
  refine tcg_of (cc := cX1_people) (maxL := 7) (ret := (some .int)) (by decide) rfl (Nat.le_of_ble_eq_true rfl) ?_
  intro p e s m args below meth c C0 hr hlk hmn hG ls hl
  show W p l e _ s m args below meth c s.heap [] 0 0 (tcE below [] 0 D N0 _ _ _ args s _ _) _
  have hl : lv_has ls 7 [(0, .ref g), (1, .int (nI (x)))] := hl
  have hG0 := hG
  have hS : va_S (tcA N0) s.heap s.heap [] := va_S.rf
  have hF : ∀ w ∈ wsX10, w ∈ wsX1_people := by decide +kernel
  have w_all : Cond.fieldLink RX1 15 "TicketCoincidencesLaw$Sim" "all" "[[I" ∈ wsX1_people := by decide +kernel
  obtain ⟨hk1, hk2, hk3, hk4, hn12, hst⟩ := id hks
  refine lv_iconst (v := nI 0) C0.1 C0.2.1 dX1_people_0 (by decide) ?_
  refine lv_istore_n (lv' := [(2, .int (nI (0))), (0, .ref g), (1, .int (nI (x)))]) C0.1 C0.2.1 dX1_people_1 rfl hl (by decide) rfl (fun ls hl => ?_)
  refine lv_aload_n C0.1 C0.2.1 dX1_people_2 rfl (lv_at hl 1 rfl) ?_
  refine tgX1_all C0 hF hG w_all dX1_people_3 ?_
  refine lv_astore_n (lv' := [(3, .ref ra), (2, .int (nI (0))), (0, .ref g), (1, .int (nI (x)))]) C0.1 C0.2.1 dX1_people_6 rfl hl (by decide) rfl (fun ls hl => ?_)
  refine lv_aload_n C0.1 C0.2.1 dX1_people_7 rfl (lv_at hl 0 rfl) ?_
  refine ts_alen C0 hG dX1_people_8 ?_
  refine lv_istore (lv' := [(4, .int (nI (nn))), (3, .ref ra), (2, .int (nI (0))), (0, .ref g), (1, .int (nI (x)))]) C0.1 C0.2.1 dX1_people_9 hl (by decide) rfl (fun ls hl => ?_)
  refine lv_iconst (v := nI 0) C0.1 C0.2.1 dX1_people_11 (by decide) ?_
  refine lv_istore (lv' := [(5, .int (nI (0))), (4, .int (nI (nn))), (3, .ref ra), (2, .int (nI (0))), (0, .ref g), (1, .int (nI (x)))]) C0.1 C0.2.1 dX1_people_12 hl (by decide) rfl (fun ls hl => ?_)
  refine tc_nameQ (fun zQg zhQ => ?_)
  have cut_14 : ∀ (kf : Nat) (q : Nat) (i : Nat) (hi : i ≤ nn) (hq : q = sm (fun i => if an i = x then 1 else 0) i) (hm : nn + 1 ≤ i + kf), ∀ (ls : Array Slot), lv_has ls 7 [(5, .int (nI (i))), (4, .int (nI (nn))), (3, .ref ra), (2, .int (nI (q))), (0, .ref g), (1, .int (nI (x)))] → ∀ (H : Heap) (locs : List Loc), tcG D cI cJ N0 (wB h r1 r2 r3 r4 cI tk co cn wk n ho st ct sp g ra rw cJ sh ss sc sq nn f Z) s H → va_S (tcA N0) s.heap H locs → W p l e ({ frames := 0, cells := 0, slots := 0, locals := 0 } : Room) s m args below meth c H locs (0) (0) zQg (F0 m 14 ls []) := by
    intro kf
    induction kf with
    | zero => intro q i hi hq hm; exact absurd hm (by omega)
    | succ kf ih_14 =>
      intro q i hi hq hm ls hl H locs hG hS
      refine lv_iload C0.1 C0.2.1 dX1_people_14 (lv_at hl 0 rfl) ?_
      refine lv_iload C0.1 C0.2.1 dX1_people_16 (lv_at hl 1 rfl) ?_
      refine tn_icmp_ge (tgt := 49) C0.1 C0.2.1 dX1_people_18 (by decide) (by omega) (by omega) (fun c_18 => ?_) (fun c_18 => ?_)
      · refine lv_iload_n C0.1 C0.2.1 dX1_people_49 rfl (lv_at hl 3 rfl) ?_
        subst zhQ
        exact tc_iret C0 hr hlk hG hS rfl (by rw [hq, show i = nn by omega]; rfl) (Nat.le_of_ble_eq_true rfl) (Nat.le_of_ble_eq_true rfl) dX1_people_50
      · refine lv_aload_n C0.1 C0.2.1 dX1_people_21 rfl (lv_at hl 2 rfl) ?_
        refine lv_iload C0.1 C0.2.1 dX1_people_22 (lv_at hl 0 rfl) ?_
        refine ts_aald (k := i) C0 hG (by omega) (by omega) dX1_people_24 ?_
        refine lv_astore (lv' := [(6, .ref (rw (i))), (5, .int (nI (i))), (4, .int (nI (nn))), (3, .ref ra), (2, .int (nI (q))), (0, .ref g), (1, .int (nI (x)))]) C0.1 C0.2.1 dX1_people_25 hl (by decide) rfl (fun ls hl => ?_)
        refine lv_iload_n C0.1 C0.2.1 dX1_people_27 rfl (lv_at hl 4 rfl) ?_
        refine lv_aload C0.1 C0.2.1 dX1_people_28 (lv_at hl 0 rfl) ?_
        refine lv_iconst (v := nI 3) C0.1 C0.2.1 dX1_people_30 (by decide) ?_
        refine ts_ald (k := i) (j := 3) C0 hG (by omega) (by decide) dX1_people_31 ?_
        refine tc_top (y := nI (an (i))) (congrArg nI (hy (i) (by omega)).2.2.2.1) ?_
        have b_31 := hks.2.2.1 (i)
        refine lv_iload_n C0.1 C0.2.1 dX1_people_32 rfl (lv_at hl 6 rfl) ?_
        refine tn_icmp_ne (tgt := 40) C0.1 C0.2.1 dX1_people_33 (by decide) (by omega) (by omega) (fun c_33 => ?_) (fun c_33 => ?_)
        · refine lv_iconst (v := nI 0) C0.1 C0.2.1 dX1_people_40 (by decide) ?_
          refine tn_iadd C0.1 C0.2.1 dX1_people_41 ?_
          refine lv_istore_n (lv' := [(2, .int (nI (q + 0))), (6, .ref (rw (i))), (5, .int (nI (i))), (4, .int (nI (nn))), (3, .ref ra), (0, .ref g), (1, .int (nI (x)))]) C0.1 C0.2.1 dX1_people_42 rfl hl (by decide) rfl (fun ls hl => ?_)
          refine tn_iinc (lv' := [(5, .int (nI (i + 1))), (2, .int (nI (q + 0))), (6, .ref (rw (i))), (4, .int (nI (nn))), (3, .ref ra), (0, .ref g), (1, .int (nI (x)))]) C0.1 C0.2.1 dX1_people_43 hl (k := 2) rfl (by decide) rfl (fun ls hl => ?_)
          refine lv_goto (tgt := 14) C0.1 C0.2.1 dX1_people_46 (by decide) ?_
          exact ih_14 (q + 0) (i + 1) (by omega) (by first | exact sm_step hq (if_pos c_33) | exact sm_step hq (if_neg c_33)) (by omega) ls (lv_sub hl [0, 3, 4, 1, 5, 6] rfl) _ _ hG hS
        · refine lv_iconst (v := nI 1) C0.1 C0.2.1 dX1_people_36 (by decide) ?_
          refine lv_goto (tgt := 41) C0.1 C0.2.1 dX1_people_37 (by decide) ?_
          refine tn_iadd C0.1 C0.2.1 dX1_people_41 ?_
          refine lv_istore_n (lv' := [(2, .int (nI (q + 1))), (6, .ref (rw (i))), (5, .int (nI (i))), (4, .int (nI (nn))), (3, .ref ra), (0, .ref g), (1, .int (nI (x)))]) C0.1 C0.2.1 dX1_people_42 rfl hl (by decide) rfl (fun ls hl => ?_)
          refine tn_iinc (lv' := [(5, .int (nI (i + 1))), (2, .int (nI (q + 1))), (6, .ref (rw (i))), (4, .int (nI (nn))), (3, .ref ra), (0, .ref g), (1, .int (nI (x)))]) C0.1 C0.2.1 dX1_people_43 hl (k := 2) rfl (by decide) rfl (fun ls hl => ?_)
          refine lv_goto (tgt := 14) C0.1 C0.2.1 dX1_people_46 (by decide) ?_
          exact ih_14 (q + 1) (i + 1) (by omega) (by first | exact sm_step hq (if_pos c_33) | exact sm_step hq (if_neg c_33)) (by omega) ls (lv_sub hl [0, 3, 4, 1, 5, 6] rfl) _ _ hG hS
  exact cut_14 (nn + 1) (0) (0) (by omega) rfl (by omega) ls (lv_sub hl [0, 1, 2, 3, 4, 5] rfl) _ _ hG hS
set_option maxHeartbeats 4000000 in
set_option maxRecDepth 100000 in
theorem kX1_cost {l : Launch} (hlf : l.stackTraces = false) {D : va_G} {cI cJ : ClassId} {N0 : Nat} {h r1 r2 r3 r4 : Nat} {tk co cn wk : Nat → Nat} {n st : Nat} {ho ct sp : Int32} {g ra : Nat} {rw : Nat → Nat} {sh sc sq : Int32} {ss nn : Nat} {f : Nat → Nat → Nat} {Z : va_W} {ak ao an aw : Nat → Nat} (hks : tOk ak ao an aw nn ss) (hy : tSy ak ao an aw nn f) (x : Nat) (y : Nat) (h1 : x < 6) (h2 : y < 6) : tcM l yX1_cost wsX1_cost { frames := 0, cells := 0, slots := 0, locals := 0 } [] 0 [.int (nI (x)), .int (nI (y))] D cI cJ N0 (wB h r1 r2 r3 r4 cI tk co cn wk n ho st ct sp g ra rw cJ sh ss sc sq nn f Z) (some (.int (nI (way x y)))) (wB h r1 r2 r3 r4 cI tk co cn wk n ho st ct sp g ra rw cJ sh ss sc sq nn f Z) 0 0 := by
  refine tcg_of (cc := cX1_cost) (maxL := 3) (ret := (some .int)) (by decide) rfl (Nat.le_of_ble_eq_true rfl) ?_
  intro p e s m args below meth c C0 hr hlk hmn hG ls hl
  show W p l e _ s m args below meth c s.heap [] 0 0 (tcE below [] 0 D N0 _ _ _ args s _ _) _
  have hl : lv_has ls 3 [(0, .int (nI (x))), (1, .int (nI (y)))] := hl
  have hG0 := hG
  have hS : va_S (tcA N0) s.heap s.heap [] := va_S.rf
  obtain ⟨hk1, hk2, hk3, hk4, hn12, hst⟩ := id hks
  refine lv_iconst (v := nI 0) C0.1 C0.2.1 dX1_cost_0 (by decide) ?_
  refine lv_istore_n (lv' := [(2, .int (nI (0))), (0, .int (nI (x))), (1, .int (nI (y)))]) C0.1 C0.2.1 dX1_cost_1 rfl hl (by decide) rfl (fun ls hl => ?_)
  refine tc_nameQ (fun zQg zhQ => ?_)
  have cut_2 : ∀ (kf : Nat) (i : Nat) (hi : i ≤ min (adist x y) (6 - adist x y)) (hm : 4 + 1 ≤ i + kf), ∀ (ls : Array Slot), lv_has ls 3 [(2, .int (nI (i))), (0, .int (nI (x))), (1, .int (nI (y)))] → ∀ (H : Heap) (locs : List Loc), tcG D cI cJ N0 (wB h r1 r2 r3 r4 cI tk co cn wk n ho st ct sp g ra rw cJ sh ss sc sq nn f Z) s H → va_S (tcA N0) s.heap H locs → W p l e ({ frames := 0, cells := 0, slots := 0, locals := 0 } : Room) s m args below meth c H locs (0) (0) zQg (F0 m 2 ls []) := by
    intro kf
    induction kf with
    | zero => intro i hi hm; exact absurd hm (by omega)
    | succ kf ih_2 =>
      intro i hi hm ls hl H locs hG hS
      have hi3 : i ≤ 3 := by omega
      refine lv_iload_n C0.1 C0.2.1 dX1_cost_2 rfl (lv_at hl 1 rfl) ?_
      refine lv_iload_n C0.1 C0.2.1 dX1_cost_3 rfl (lv_at hl 0 rfl) ?_
      refine tn_iadd C0.1 C0.2.1 dX1_cost_4 ?_
      refine lv_bipush (v := nI 6) C0.1 C0.2.1 dX1_cost_5 (by decide) ?_
      refine tn_irem C0.1 C0.2.1 dX1_cost_7 (by omega) (by decide) (by decide) ?_
      refine lv_iload_n C0.1 C0.2.1 dX1_cost_8 rfl (lv_at hl 2 rfl) ?_
      refine tn_icmp_eq (tgt := 28) C0.1 C0.2.1 dX1_cost_9 (by decide) (by omega) (by omega) (fun c_9 => ?_) (fun c_9 => ?_)
      · refine lv_iconst (v := nI 2) C0.1 C0.2.1 dX1_cost_28 (by decide) ?_
        refine lv_iload_n C0.1 C0.2.1 dX1_cost_29 rfl (lv_at hl 0 rfl) ?_
        refine tn_imul C0.1 C0.2.1 dX1_cost_30 ?_
        subst zhQ
        exact tc_iret C0 hr hlk hG hS rfl (by congr 1; first | exact way_y h1 h2 hi (Or.inl c_9) | exact way_y h1 h2 hi (Or.inr c_19)) (Nat.le_of_ble_eq_true rfl) (Nat.le_of_ble_eq_true rfl) dX1_cost_31
      · refine lv_iload_n C0.1 C0.2.1 dX1_cost_12 rfl (lv_at hl 2 rfl) ?_
        refine lv_iload_n C0.1 C0.2.1 dX1_cost_13 rfl (lv_at hl 0 rfl) ?_
        refine tn_iadd C0.1 C0.2.1 dX1_cost_14 ?_
        refine lv_bipush (v := nI 6) C0.1 C0.2.1 dX1_cost_15 (by decide) ?_
        refine tn_irem C0.1 C0.2.1 dX1_cost_17 (by omega) (by decide) (by decide) ?_
        refine lv_iload_n C0.1 C0.2.1 dX1_cost_18 rfl (lv_at hl 1 rfl) ?_
        refine tn_icmp_eq (tgt := 28) C0.1 C0.2.1 dX1_cost_19 (by decide) (by omega) (by omega) (fun c_19 => ?_) (fun c_19 => ?_)
        · refine lv_iconst (v := nI 2) C0.1 C0.2.1 dX1_cost_28 (by decide) ?_
          refine lv_iload_n C0.1 C0.2.1 dX1_cost_29 rfl (lv_at hl 0 rfl) ?_
          refine tn_imul C0.1 C0.2.1 dX1_cost_30 ?_
          subst zhQ
          exact tc_iret C0 hr hlk hG hS rfl (by congr 1; first | exact way_y h1 h2 hi (Or.inl c_9) | exact way_y h1 h2 hi (Or.inr c_19)) (Nat.le_of_ble_eq_true rfl) (Nat.le_of_ble_eq_true rfl) dX1_cost_31
        · refine tn_iinc (lv' := [(2, .int (nI (i + 1))), (0, .int (nI (x))), (1, .int (nI (y)))]) C0.1 C0.2.1 dX1_cost_22 hl (k := 0) rfl (by decide) rfl (fun ls hl => ?_)
          refine lv_goto (tgt := 2) C0.1 C0.2.1 dX1_cost_25 (by decide) ?_
          exact ih_2 (i + 1) (way_n h1 h2 hi c_9 c_19) (by omega) ls (lv_sub hl [0, 1, 2] rfl) _ _ hG hS
  exact cut_2 (4 + 1) (0) (Nat.zero_le _) (by omega) ls (lv_sub hl [0, 1, 2] rfl) _ _ hG hS
set_option maxHeartbeats 4000000 in
set_option maxRecDepth 100000 in
theorem kX1_pay {l : Launch} (hlf : l.stackTraces = false) {D : va_G} {cI cJ : ClassId} {N0 : Nat} {h r1 r2 r3 r4 : Nat} {tk co cn wk : Nat → Nat} {n st : Nat} {ho ct sp : Int32} {g ra : Nat} {rw : Nat → Nat} {sh sc sq : Int32} {ss nn : Nat} {f : Nat → Nat → Nat} {Z : va_W} {ak ao an aw : Nat → Nat} (hks : tOk ak ao an aw nn ss) (hy : tSy ak ao an aw nn f) (x : Nat) (h1 : x ≤ ss) : tcM l yX1_pay wsX1_pay { frames := 0, cells := 0, slots := 0, locals := 0 } [] 0 [.ref g, .int (nI (x))] D cI cJ N0 (wB h r1 r2 r3 r4 cI tk co cn wk n ho st ct sp g ra rw cJ sh ss sc sq nn f Z) none (wB h r1 r2 r3 r4 cI tk co cn wk n ho st ct sp g ra rw cJ sh (ss - x) sc (sq + nI x) nn f Z) 0 0 := by
  refine tcg_of (cc := cX1_pay) (maxL := 2) (ret := none) (by decide) rfl (Nat.le_of_ble_eq_true rfl) ?_
  intro p e s m args below meth c C0 hr hlk hmn hG ls hl
  show W p l e _ s m args below meth c s.heap [] 0 0 (tcE below [] 0 D N0 _ _ _ args s _ _) _
  have hl : lv_has ls 2 [(0, .ref g), (1, .int (nI (x)))] := hl
  have hG0 := hG
  have hS : va_S (tcA N0) s.heap s.heap [] := va_S.rf
  have hF : ∀ w ∈ wsX10, w ∈ wsX1_pay := by decide +kernel
  have w_spent : Cond.fieldLink RX1 26 "TicketCoincidencesLaw$Sim" "spent" "I" ∈ wsX1_pay := by decide +kernel
  have w_store : Cond.fieldLink RX1 7 "TicketCoincidencesLaw$Sim" "store" "I" ∈ wsX1_pay := by decide +kernel
  obtain ⟨hk1, hk2, hk3, hk4, hn12, hst⟩ := id hks
  refine lv_aload_n C0.1 C0.2.1 dX1_pay_0 rfl (lv_at hl 0 rfl) ?_
  refine lv_dup C0.1 C0.2.1 dX1_pay_1 rfl ?_
  refine tgX1_store C0 hF hG w_store dX1_pay_2 ?_
  refine lv_iload_n C0.1 C0.2.1 dX1_pay_5 rfl (lv_at hl 1 rfl) ?_
  refine tn_isub C0.1 C0.2.1 dX1_pay_6 (by omega) ?_
  refine tpX1_store C0 hF hG0 hG hS w_store dX1_pay_7 (fun H locs hG hS => ?_)
  have hG : tcG D cI cJ N0 (wB h r1 r2 r3 r4 cI tk co cn wk n ho st ct sp g ra rw cJ sh (ss - x) sc sq nn f Z) s H := hG
  refine lv_aload_n C0.1 C0.2.1 dX1_pay_10 rfl (lv_at hl 0 rfl) ?_
  refine lv_dup C0.1 C0.2.1 dX1_pay_11 rfl ?_
  refine tgX1_spent C0 hF hG w_spent dX1_pay_12 ?_
  refine lv_iload_n C0.1 C0.2.1 dX1_pay_15 rfl (lv_at hl 1 rfl) ?_
  refine lv_iadd C0.1 C0.2.1 dX1_pay_16 ?_
  refine tpX1_spent C0 hF hG0 hG hS w_spent dX1_pay_17 (fun H locs hG hS => ?_)
  have hG : tcG D cI cJ N0 (wB h r1 r2 r3 r4 cI tk co cn wk n ho st ct sp g ra rw cJ sh (ss - x) sc (((sq) + nI (x))) nn f Z) s H := hG
  exact tc_vret C0 hr hlk hG hS rfl (Nat.le_of_ble_eq_true rfl) (Nat.le_of_ble_eq_true rfl) dX1_pay_20
set_option maxHeartbeats 4000000 in
set_option maxRecDepth 100000 in
theorem kX1_pass {l : Launch} (hlf : l.stackTraces = false) {D : va_G} {cI cJ : ClassId} {N0 : Nat} {h r1 r2 r3 r4 : Nat} {tk co cn wk : Nat → Nat} {n st : Nat} {ho ct sp : Int32} {g ra : Nat} {rw : Nat → Nat} {sh sc sq : Int32} {ss nn : Nat} {f : Nat → Nat → Nat} {Z : va_W} {ak ao an aw : Nat → Nat} (hks : tOk ak ao an aw nn ss) (hy : tSy ak ao an aw nn f) (x : Nat) (h1 : x ≤ 60) : tcMe l yX1_pass wsX1_pass { frames := 5, cells := 0, slots := 0, locals := 112 } [.ref g, .int (nI (x))] D cI cJ N0 (wB h r1 r2 r3 r4 cI tk co cn wk n ho st ct sp g ra rw cJ sh ss sc sq nn f Z) (fun v ws' => ∃ f' : Nat → Nat → Nat, tSy ak ao (hrs ak ao aw nn an sc ss x).1 aw nn f' ∧ v = some (.int ((hrs ak ao aw nn an sc ss x).2.1 - sc)) ∧ ws' = wB h r1 r2 r3 r4 cI tk co cn wk n ho st ct sp g ra rw cJ (sh + nI x) (hrs ak ao aw nn an sc ss x).2.2 (hrs ak ao aw nn an sc ss x).2.1 sq nn f' Z) 0 0 := by
  refine tcg_of (cc := cX1_pass) (maxL := 9) (ret := (some .int)) (by decide) rfl (Nat.le_of_ble_eq_true rfl) ?_
  intro p e s m args below meth c C0 hr hlk hmn hG ls hl
  show W p l e _ s m args below meth c s.heap [] 0 0 (tcEe below _ D N0 args s _ _) _
  have hl : lv_has ls 9 [(0, .ref g), (1, .int (nI (x)))] := hl
  have hG0 := hG
  have hS : va_S (tcA N0) s.heap s.heap [] := va_S.rf
  have hF : ∀ w ∈ wsX10, w ∈ wsX1_pass := by decide +kernel
  have w_all : Cond.fieldLink RX1 15 "TicketCoincidencesLaw$Sim" "all" "[[I" ∈ wsX1_pass := by decide +kernel
  have w_counted : Cond.fieldLink RX1 23 "TicketCoincidencesLaw$Sim" "counted" "I" ∈ wsX1_pass := by decide +kernel
  have w_hour : Cond.fieldLink RX1 20 "TicketCoincidencesLaw$Sim" "hour" "I" ∈ wsX1_pass := by decide +kernel
  have w_store : Cond.fieldLink RX1 7 "TicketCoincidencesLaw$Sim" "store" "I" ∈ wsX1_pass := by decide +kernel
  obtain ⟨hk1, hk2, hk3, hk4, hn12, hst⟩ := id hks
  refine lv_aload_n C0.1 C0.2.1 dX1_pass_0 rfl (lv_at hl 0 rfl) ?_
  refine tgX1_counted C0 hF hG w_counted dX1_pass_1 ?_
  refine lv_istore_n (lv' := [(2, .int (sc)), (0, .ref g), (1, .int (nI (x)))]) C0.1 C0.2.1 dX1_pass_4 rfl hl (by decide) rfl (fun ls hl => ?_)
  refine lv_iconst (v := nI 0) C0.1 C0.2.1 dX1_pass_5 (by decide) ?_
  refine lv_istore_n (lv' := [(3, .int (nI (0))), (2, .int (sc)), (0, .ref g), (1, .int (nI (x)))]) C0.1 C0.2.1 dX1_pass_6 rfl hl (by decide) rfl (fun ls hl => ?_)
  refine tc_nameQ (fun zQg zhQ => ?_)
  have cut_7 : ∀ (kf : Nat) (i : Nat) (f1 : Nat → Nat → Nat) (hi : i ≤ x) (hy1 : tSy ak ao (hrs ak ao aw nn an sc ss i).1 aw nn f1) (hm : x + 1 ≤ i + kf), ∀ (ls : Array Slot), lv_has ls 9 [(3, .int (nI (i))), (2, .int (sc)), (0, .ref g), (1, .int (nI (x)))] → ∀ (H : Heap) (locs : List Loc), tcG D cI cJ N0 (wB h r1 r2 r3 r4 cI tk co cn wk n ho st ct sp g ra rw cJ (sh + nI i) ((hrs ak ao aw nn an sc ss i).2.2) ((hrs ak ao aw nn an sc ss i).2.1) sq nn f1 Z) s H → va_S (tcA N0) s.heap H locs → W p l e ({ frames := 5, cells := 0, slots := 0, locals := 112 } : Room) s m args below meth c H locs (0) (0) zQg (F0 m 7 ls []) := by
    intro kf
    induction kf with
    | zero => intro i f1 hi hy1 hm; exact absurd hm (by omega)
    | succ kf ih_7 =>
      intro i f1 hi hy1 hm ls hl H locs hG hS
      have hl_i := hrs_lt (tk := ak) (co := ao) (wk := aw) (n := nn) (ct := sc) hk3 hst i
      have hk_i := (hks.cn hl_i.1).st hl_i.2
      refine lv_iload_n C0.1 C0.2.1 dX1_pass_7 rfl (lv_at hl 0 rfl) ?_
      refine lv_iload_n C0.1 C0.2.1 dX1_pass_8 rfl (lv_at hl 3 rfl) ?_
      refine tn_icmp_ge (tgt := 169) C0.1 C0.2.1 dX1_pass_9 (by decide) (by omega) (by omega) (fun c_9 => ?_) (fun c_9 => ?_)
      · have hzx : i = x := by omega
        refine lv_aload_n C0.1 C0.2.1 dX1_pass_169 rfl (lv_at hl 2 rfl) ?_
        refine tgX1_counted C0 hF hG w_counted dX1_pass_170 ?_
        refine lv_iload_n C0.1 C0.2.1 dX1_pass_173 rfl (lv_at hl 1 rfl) ?_
        refine lv_isub C0.1 C0.2.1 dX1_pass_174 ?_
        subst zhQ
        exact tce_iret C0 hr hlk hG hS ⟨f1, hzx ▸ hy1, by rw [hzx], by rw [hzx]⟩ (Nat.le_of_ble_eq_true rfl) (Nat.le_of_ble_eq_true rfl) dX1_pass_175
      · refine lv_aload_n C0.1 C0.2.1 dX1_pass_12 rfl (lv_at hl 2 rfl) ?_
        refine tgX1_all C0 hF hG w_all dX1_pass_13 ?_
        refine lv_astore (lv' := [(4, .ref ra), (3, .int (nI (i))), (2, .int (sc)), (0, .ref g), (1, .int (nI (x)))]) C0.1 C0.2.1 dX1_pass_16 hl (by decide) rfl (fun ls hl => ?_)
        refine lv_aload C0.1 C0.2.1 dX1_pass_18 (lv_at hl 0 rfl) ?_
        refine ts_alen C0 hG dX1_pass_20 ?_
        refine lv_istore (lv' := [(5, .int (nI (nn))), (4, .ref ra), (3, .int (nI (i))), (2, .int (sc)), (0, .ref g), (1, .int (nI (x)))]) C0.1 C0.2.1 dX1_pass_21 hl (by decide) rfl (fun ls hl => ?_)
        refine lv_iconst (v := nI 0) C0.1 C0.2.1 dX1_pass_23 (by decide) ?_
        refine lv_istore (lv' := [(6, .int (nI (0))), (5, .int (nI (nn))), (4, .ref ra), (3, .int (nI (i))), (2, .int (sc)), (0, .ref g), (1, .int (nI (x)))]) C0.1 C0.2.1 dX1_pass_24 hl (by decide) rfl (fun ls hl => ?_)
        have cut_26 : ∀ (kf : Nat) (k : Nat) (f2 : Nat → Nat → Nat) (hk9 : k ≤ nn) (hy2 : tSy ak ao (pcn (hrs ak ao aw nn an sc ss i).1 aw k) aw nn f2) (hm : nn + 1 ≤ k + kf), ∀ (ls : Array Slot), lv_has ls 9 [(6, .int (nI (k))), (5, .int (nI (nn))), (4, .ref ra), (3, .int (nI (i))), (2, .int (sc)), (0, .ref g), (1, .int (nI (x)))] → ∀ (H : Heap) (locs : List Loc), tcG D cI cJ N0 (wB h r1 r2 r3 r4 cI tk co cn wk n ho st ct sp g ra rw cJ (sh + nI i) ((hrs ak ao aw nn an sc ss i).2.2) ((hrs ak ao aw nn an sc ss i).2.1) sq nn f2 Z) s H → va_S (tcA N0) s.heap H locs → W p l e ({ frames := 5, cells := 0, slots := 0, locals := 112 } : Room) s m args below meth c H locs (0) (0) zQg (F0 m 26 ls []) := by
          intro kf
          induction kf with
          | zero => intro k f2 hk9 hy2 hm; exact absurd hm (by omega)
          | succ kf ih_26 =>
            intro k f2 hk9 hy2 hm ls hl H locs hG hS
            have hk_k := hk_i.cn (pcn_lt aw k hl_i.1)
            refine lv_iload C0.1 C0.2.1 dX1_pass_26 (lv_at hl 0 rfl) ?_
            refine lv_iload C0.1 C0.2.1 dX1_pass_28 (lv_at hl 1 rfl) ?_
            refine tn_icmp_ge (tgt := 86) C0.1 C0.2.1 dX1_pass_30 (by decide) (by omega) (by omega) (fun c_30 => ?_) (fun c_30 => ?_)
            · have hz9 : k = nn := by omega
              rw [hz9] at hy2 hk_k
              refine lv_aload_n C0.1 C0.2.1 dX1_pass_86 rfl (lv_at hl 5 rfl) ?_
              refine lv_dup C0.1 C0.2.1 dX1_pass_87 rfl ?_
              refine tgX1_counted C0 hF hG w_counted dX1_pass_88 ?_
              refine lv_aload_n C0.1 C0.2.1 dX1_pass_91 rfl (lv_at hl 5 rfl) ?_
              refine tc_callV (q0 := 5) C0 hG hS rfl rfl (kX1_town hlf hk_k hy2   ) (cwV 0 C0.2.2.2.2 gX1_pass_X1_town rfl rfl rfl (by decide +kernel) ⟨(Nat.le_of_ble_eq_true rfl), (Nat.le_of_ble_eq_true rfl)⟩) rfl hl rfl (Nat.le_of_ble_eq_true rfl) dX1_pass_92 ⟨(Nat.le_of_ble_eq_true rfl), (Nat.le_of_ble_eq_true rfl)⟩ (fun H locs hG hS => ?_)
              have b_92 := tw_le ak ao (pcn (hrs ak ao aw nn an sc ss i).1 aw nn) aw 0 hk_k.2.2.2.2.1
              refine lv_iadd C0.1 C0.2.1 dX1_pass_95 ?_
              refine tpX1_counted C0 hF hG0 hG hS w_counted dX1_pass_96 (fun H locs hG hS => ?_)
              have hG : tcG D cI cJ N0 (wB h r1 r2 r3 r4 cI tk co cn wk n ho st ct sp g ra rw cJ (sh + nI i) ((hrs ak ao aw nn an sc ss i).2.2) ((((hrs ak ao aw nn an sc ss i).2.1) + nI (tw ak ao (pcn (hrs ak ao aw nn an sc ss i).1 aw nn) aw 0 nn))) sq nn f2 Z) s H := hG
              refine lv_iconst (v := nI 0) C0.1 C0.2.1 dX1_pass_99 (by decide) ?_
              refine lv_istore (lv' := [(4, .int (nI (0))), (6, .int (nI (k))), (5, .int (nI (nn))), (3, .int (nI (i))), (2, .int (sc)), (0, .ref g), (1, .int (nI (x)))]) C0.1 C0.2.1 dX1_pass_100 hl (by decide) rfl (fun ls hl => ?_)
              refine lv_iconst (v := nI 0) C0.1 C0.2.1 dX1_pass_102 (by decide) ?_
              refine lv_istore (lv' := [(5, .int (nI (0))), (4, .int (nI (0))), (6, .int (nI (k))), (3, .int (nI (i))), (2, .int (sc)), (0, .ref g), (1, .int (nI (x)))]) C0.1 C0.2.1 dX1_pass_103 hl (by decide) rfl (fun ls hl => ?_)
              have cut_105 : ∀ (kf : Nat) (q : Nat) (c9 : Nat) (hc9 : c9 ≤ 6) (hq : q = sm (fun c => if crowd (pcn (hrs ak ao aw nn an sc ss i).1 aw nn) c nn = 0 then 1 else 0) c9) (hqb : q ≤ c9) (hm : 6 + 1 ≤ c9 + kf), ∀ (ls : Array Slot), lv_has ls 9 [(5, .int (nI (c9))), (4, .int (nI (q))), (3, .int (nI (i))), (2, .int (sc)), (0, .ref g), (1, .int (nI (x)))] → ∀ (H : Heap) (locs : List Loc), tcG D cI cJ N0 (wB h r1 r2 r3 r4 cI tk co cn wk n ho st ct sp g ra rw cJ (sh + nI i) ((hrs ak ao aw nn an sc ss i).2.2) ((((hrs ak ao aw nn an sc ss i).2.1) + nI (tw ak ao (pcn (hrs ak ao aw nn an sc ss i).1 aw nn) aw 0 nn))) sq nn f2 Z) s H → va_S (tcA N0) s.heap H locs → W p l e ({ frames := 5, cells := 0, slots := 0, locals := 112 } : Room) s m args below meth c H locs (0) (0) zQg (F0 m 105 ls []) := by
                intro kf
                induction kf with
                | zero => intro q c9 hc9 hq hqb hm; exact absurd hm (by omega)
                | succ kf ih_105 =>
                  intro q c9 hc9 hq hqb hm ls hl H locs hG hS
                  refine lv_iload C0.1 C0.2.1 dX1_pass_105 (lv_at hl 0 rfl) ?_
                  refine lv_bipush (v := nI 6) C0.1 C0.2.1 dX1_pass_107 (by decide) ?_
                  refine tn_icmp_ge (tgt := 137) C0.1 C0.2.1 dX1_pass_109 (by decide) (by omega) (by omega) (fun c_109 => ?_) (fun c_109 => ?_)
                  · have hz6 : c9 = 6 := by omega
                    have hst9 := hl_i.2
                    have hqe : q = emp (pcn (hrs ak ao aw nn an sc ss i).1 aw nn) nn := by rw [hq, hz6]; rfl
                    have hqb9 := emp_le (pcn (hrs ak ao aw nn an sc ss i).1 aw nn) nn
                    refine lv_aload_n C0.1 C0.2.1 dX1_pass_137 rfl (lv_at hl 4 rfl) ?_
                    refine lv_bipush (v := nI 100) C0.1 C0.2.1 dX1_pass_138 (by decide) ?_
                    refine lv_aload_n C0.1 C0.2.1 dX1_pass_140 rfl (lv_at hl 4 rfl) ?_
                    refine tgX1_store C0 hF hG w_store dX1_pass_141 ?_
                    refine lv_iload C0.1 C0.2.1 dX1_pass_144 (lv_at hl 1 rfl) ?_
                    refine tn_iadd C0.1 C0.2.1 dX1_pass_146 ?_
                    refine va_mmin C0.1 C0.2.1 (C0.2.2.1.trans hl.1.symm) C0.2.2.2.1 (C0.2.2.2.2 (.methodLink RX1 60 Lib.Math.min.name) (by decide +kernel)) (C0.2.2.2.2 (.static Lib.Math.min.name) (by decide +kernel)) (C0.2.2.2.2 (.initialized "java/lang/Math") (by decide +kernel)) (C0.2.2.2.2 (.code Lib.Math.min.name Lib.Math.min.code 2 (some .int)) (by decide +kernel)) (Nat.le_of_ble_eq_true rfl) (Nat.le_of_ble_eq_true rfl) (Nat.le_of_ble_eq_true rfl) (Nat.le_of_ble_eq_true rfl) dX1_pass_147 ?_
                    refine tc_top (tc_min (by omega) (by omega)) ?_
                    refine tpX1_store C0 hF hG0 hG hS w_store dX1_pass_150 (fun H locs hG hS => ?_)
                    have hG : tcG D cI cJ N0 (wB h r1 r2 r3 r4 cI tk co cn wk n ho st ct sp g ra rw cJ (sh + nI i) (min (100) ((hrs ak ao aw nn an sc ss i).2.2 + q)) ((((hrs ak ao aw nn an sc ss i).2.1) + nI (tw ak ao (pcn (hrs ak ao aw nn an sc ss i).1 aw nn) aw 0 nn))) sq nn f2 Z) s H := hG
                    refine lv_aload_n C0.1 C0.2.1 dX1_pass_153 rfl (lv_at hl 4 rfl) ?_
                    refine lv_dup C0.1 C0.2.1 dX1_pass_154 rfl ?_
                    refine tgX1_hour C0 hF hG w_hour dX1_pass_155 ?_
                    refine lv_iconst (v := nI 1) C0.1 C0.2.1 dX1_pass_158 (by decide) ?_
                    refine lv_iadd C0.1 C0.2.1 dX1_pass_159 ?_
                    refine tpX1_hour C0 hF hG0 hG hS w_hour dX1_pass_160 (fun H locs hG hS => ?_)
                    have hG : tcG D cI cJ N0 (wB h r1 r2 r3 r4 cI tk co cn wk n ho st ct sp g ra rw cJ (((sh + nI i) + nI (1))) (min (100) ((hrs ak ao aw nn an sc ss i).2.2 + q)) ((((hrs ak ao aw nn an sc ss i).2.1) + nI (tw ak ao (pcn (hrs ak ao aw nn an sc ss i).1 aw nn) aw 0 nn))) sq nn f2 Z) s H := hG
                    refine tn_iinc (lv' := [(3, .int (nI (i + 1))), (5, .int (nI (c9))), (4, .int (nI (q))), (2, .int (sc)), (0, .ref g), (1, .int (nI (x)))]) C0.1 C0.2.1 dX1_pass_163 hl (k := 2) rfl (by decide) rfl (fun ls hl => ?_)
                    refine lv_goto (tgt := 7) C0.1 C0.2.1 dX1_pass_166 (by decide) ?_
                    exact ih_7 (i + 1) (f2) (by omega) hy2 (by omega) ls (lv_sub hl [0, 3, 4, 5] rfl) _ _ (tcG.eq (by rw [show sh + nI (i + 1) = sh + nI i + nI 1 by rw [Int32.add_assoc, nI_add], hqe] <;> rfl) hG) hS
                  · refine lv_iload C0.1 C0.2.1 dX1_pass_112 (lv_at hl 1 rfl) ?_
                    refine lv_aload_n C0.1 C0.2.1 dX1_pass_114 rfl (lv_at hl 4 rfl) ?_
                    refine lv_iload C0.1 C0.2.1 dX1_pass_115 (lv_at hl 0 rfl) ?_
                    refine tc_callV (q0 := 5) C0 hG hS rfl rfl (kX1_people hlf hk_k hy2  (c9) (by omega)) (cwV 1 C0.2.2.2.2 gX1_pass_X1_people rfl rfl rfl (by decide +kernel) ⟨(Nat.le_of_ble_eq_true rfl), (Nat.le_of_ble_eq_true rfl)⟩) rfl hl rfl (Nat.le_of_ble_eq_true rfl) dX1_pass_117 ⟨(Nat.le_of_ble_eq_true rfl), (Nat.le_of_ble_eq_true rfl)⟩ (fun H locs hG hS => ?_)
                    have b_117 := crowd_le (pcn (hrs ak ao aw nn an sc ss i).1 aw nn) c9 hk_k.2.2.2.2.1
                    refine tn_if_ne (tgt := 127) C0.1 C0.2.1 dX1_pass_120 (by decide) (by omega) (fun c_120 => ?_) (fun c_120 => ?_)
                    · refine lv_iconst (v := nI 0) C0.1 C0.2.1 dX1_pass_127 (by decide) ?_
                      refine tn_iadd C0.1 C0.2.1 dX1_pass_128 ?_
                      refine lv_istore (lv' := [(4, .int (nI (q + 0))), (5, .int (nI (c9))), (3, .int (nI (i))), (2, .int (sc)), (0, .ref g), (1, .int (nI (x)))]) C0.1 C0.2.1 dX1_pass_129 hl (by decide) rfl (fun ls hl => ?_)
                      refine tn_iinc (lv' := [(5, .int (nI (c9 + 1))), (4, .int (nI (q + 0))), (3, .int (nI (i))), (2, .int (sc)), (0, .ref g), (1, .int (nI (x)))]) C0.1 C0.2.1 dX1_pass_131 hl (k := 1) rfl (by decide) rfl (fun ls hl => ?_)
                      refine lv_goto (tgt := 105) C0.1 C0.2.1 dX1_pass_134 (by decide) ?_
                      exact ih_105 (q + 0) (c9 + 1) (by omega) (by first | exact sm_step hq (if_pos c_120) | exact sm_step hq (if_neg (by omega))) (by omega) (by omega) ls (lv_sub hl [0, 1, 2, 3, 4, 5] rfl) _ _ hG hS
                    · refine lv_iconst (v := nI 1) C0.1 C0.2.1 dX1_pass_123 (by decide) ?_
                      refine lv_goto (tgt := 128) C0.1 C0.2.1 dX1_pass_124 (by decide) ?_
                      refine tn_iadd C0.1 C0.2.1 dX1_pass_128 ?_
                      refine lv_istore (lv' := [(4, .int (nI (q + 1))), (5, .int (nI (c9))), (3, .int (nI (i))), (2, .int (sc)), (0, .ref g), (1, .int (nI (x)))]) C0.1 C0.2.1 dX1_pass_129 hl (by decide) rfl (fun ls hl => ?_)
                      refine tn_iinc (lv' := [(5, .int (nI (c9 + 1))), (4, .int (nI (q + 1))), (3, .int (nI (i))), (2, .int (sc)), (0, .ref g), (1, .int (nI (x)))]) C0.1 C0.2.1 dX1_pass_131 hl (k := 1) rfl (by decide) rfl (fun ls hl => ?_)
                      refine lv_goto (tgt := 105) C0.1 C0.2.1 dX1_pass_134 (by decide) ?_
                      exact ih_105 (q + 1) (c9 + 1) (by omega) (by first | exact sm_step hq (if_pos c_120) | exact sm_step hq (if_neg (by omega))) (by omega) (by omega) ls (lv_sub hl [0, 1, 2, 3, 4, 5] rfl) _ _ hG hS
              exact cut_105 (6 + 1) (0) (0) (by omega) rfl (by omega) (by omega) ls (lv_sub hl [0, 1, 3, 4, 5, 6] rfl) _ _ hG hS
            · refine lv_aload C0.1 C0.2.1 dX1_pass_33 (lv_at hl 2 rfl) ?_
              refine lv_iload C0.1 C0.2.1 dX1_pass_35 (lv_at hl 0 rfl) ?_
              refine ts_aald (k := k) C0 hG (by omega) (by omega) dX1_pass_37 ?_
              refine lv_astore (lv' := [(7, .ref (rw (k))), (6, .int (nI (k))), (5, .int (nI (nn))), (4, .ref ra), (3, .int (nI (i))), (2, .int (sc)), (0, .ref g), (1, .int (nI (x)))]) C0.1 C0.2.1 dX1_pass_38 hl (by decide) rfl (fun ls hl => ?_)
              refine lv_iconst (v := nI 0) C0.1 C0.2.1 dX1_pass_40 (by decide) ?_
              refine lv_istore (lv' := [(8, .int (nI (0))), (7, .ref (rw (k))), (6, .int (nI (k))), (5, .int (nI (nn))), (4, .ref ra), (3, .int (nI (i))), (2, .int (sc)), (0, .ref g), (1, .int (nI (x)))]) C0.1 C0.2.1 dX1_pass_41 hl (by decide) rfl (fun ls hl => ?_)
              have cut_43 : ∀ (kf : Nat) (j : Nat) (f3 : Nat → Nat → Nat) (hj : j ≤ aw k) (hy3 : tSy ak ao (va_up (pcn (hrs ak ao aw nn an sc ss i).1 aw k) k (((hrs ak ao aw nn an sc ss i).1 k + j) % 6)) aw nn f3) (hm : aw k + 1 ≤ j + kf), ∀ (ls : Array Slot), lv_has ls 9 [(8, .int (nI (j))), (7, .ref (rw (k))), (6, .int (nI (k))), (5, .int (nI (nn))), (4, .ref ra), (3, .int (nI (i))), (2, .int (sc)), (0, .ref g), (1, .int (nI (x)))] → ∀ (H : Heap) (locs : List Loc), tcG D cI cJ N0 (wB h r1 r2 r3 r4 cI tk co cn wk n ho st ct sp g ra rw cJ (sh + nI i) ((hrs ak ao aw nn an sc ss i).2.2) ((hrs ak ao aw nn an sc ss i).2.1) sq nn f3 Z) s H → va_S (tcA N0) s.heap H locs → W p l e ({ frames := 5, cells := 0, slots := 0, locals := 112 } : Room) s m args below meth c H locs (0) (0) zQg (F0 m 43 ls []) := by
                intro kf
                induction kf with
                | zero => intro j f3 hj hy3 hm; exact absurd hm (by omega)
                | succ kf ih_43 =>
                  intro j f3 hj hy3 hm ls hl H locs hG hS
                  have hw9 := hk4 k
                  have hm9 := Nat.mod_lt ((hrs ak ao aw nn an sc ss i).1 k + j) (show 0 < 6 by decide)
                  have hk_j := hk_k.cn (up_lt (x := ((hrs ak ao aw nn an sc ss i).1 k + j) % 6) hk_k.2.2.1 hm9 k)
                  refine lv_iload C0.1 C0.2.1 dX1_pass_43 (lv_at hl 0 rfl) ?_
                  refine lv_aload C0.1 C0.2.1 dX1_pass_45 (lv_at hl 1 rfl) ?_
                  refine lv_iconst (v := nI 4) C0.1 C0.2.1 dX1_pass_47 (by decide) ?_
                  refine ts_ald (k := k) (j := 4) C0 hG (by omega) (by decide) dX1_pass_48 ?_
                  refine tc_top (y := nI (aw (k))) (congrArg nI (hy3 (k) (by omega)).2.2.2.2) ?_
                  have b_48 := hk_j.2.2.2.1 (k)
                  have hj6 : j < 6 ∨ 6 ≤ j := Nat.lt_or_ge j 6
                  refine tn_icmp_ge (tgt := 80) C0.1 C0.2.1 dX1_pass_49 (by decide) (by omega) (by omega) (fun c_49 => ?_) (fun c_49 => ?_)
                  · refine tn_iinc (lv' := [(6, .int (nI (k + 1))), (8, .int (nI (j))), (7, .ref (rw (k))), (5, .int (nI (nn))), (4, .ref ra), (3, .int (nI (i))), (2, .int (sc)), (0, .ref g), (1, .int (nI (x)))]) C0.1 C0.2.1 dX1_pass_80 hl (k := 2) rfl (by decide) rfl (fun ls hl => ?_)
                    refine lv_goto (tgt := 26) C0.1 C0.2.1 dX1_pass_83 (by decide) ?_
                    exact ih_26 (k + 1) (f3) (by omega) (by have hz : j = aw k := (by omega); rw [hz] at hy3; rw [← pcn_up]; exact hy3) (by omega) ls (lv_sub hl [0, 3, 4, 5, 6, 7, 8] rfl) _ _ hG hS
                  · have cut_73 : ∀ (u : Nat) (hu : u = ((hrs ak ao aw nn an sc ss i).1 k + (j + 1)) % 6) (hu6 : u < 6), ∀ (ls : Array Slot), lv_has ls 9 [(8, .int (nI (j))), (7, .ref (rw (k))), (6, .int (nI (k))), (5, .int (nI (nn))), (4, .ref ra), (3, .int (nI (i))), (2, .int (sc)), (0, .ref g), (1, .int (nI (x)))] → ∀ (H : Heap) (locs : List Loc), tcG D cI cJ N0 (wB h r1 r2 r3 r4 cI tk co cn wk n ho st ct sp g ra rw cJ (sh + nI i) ((hrs ak ao aw nn an sc ss i).2.2) ((hrs ak ao aw nn an sc ss i).2.1) sq nn f3 Z) s H → va_S (tcA N0) s.heap H locs → W p l e ({ frames := 5, cells := 0, slots := 0, locals := 112 } : Room) s m args below meth c H locs (0) (0) zQg (F0 m 73 ls [.int (nI (u)), .int (nI (3)), .ref (rw (k))]) := by
                      intro u hu hu6 ls hl H locs hG hS
                      refine ts_ast (k := k) (j := 3) (x := u) C0 hG0 hG hS (by omega) (by decide) dX1_pass_73 (fun H locs hG hS => ?_)
                      have hG : tcG D cI cJ N0 (wB h r1 r2 r3 r4 cI tk co cn wk n ho st ct sp g ra rw cJ (sh + nI i) ((hrs ak ao aw nn an sc ss i).2.2) ((hrs ak ao aw nn an sc ss i).2.1) sq nn (upR f3 k 3 u) Z) s H := hG
                      have hy_73 := tSy.c3 (k := k) (x := u) hy3
                      have hk_73 := hk_j.cn (up_lt (x := u) hk_j.2.2.1 (by omega) (k))
                      refine tn_iinc (lv' := [(8, .int (nI (j + 1))), (7, .ref (rw (k))), (6, .int (nI (k))), (5, .int (nI (nn))), (4, .ref ra), (3, .int (nI (i))), (2, .int (sc)), (0, .ref g), (1, .int (nI (x)))]) C0.1 C0.2.1 dX1_pass_74 hl (k := 0) rfl (by decide) rfl (fun ls hl => ?_)
                      refine lv_goto (tgt := 43) C0.1 C0.2.1 dX1_pass_77 (by decide) ?_
                      exact ih_43 (j + 1) (upR f3 k 3 u) (by omega) (tSy.cn (by rw [va_up_up, hu]) hy_73) (by omega) ls (lv_sub hl [0, 1, 2, 3, 4, 5, 6, 7, 8] rfl) _ _ hG hS
                    refine lv_aload C0.1 C0.2.1 dX1_pass_52 (lv_at hl 1 rfl) ?_
                    refine lv_iconst (v := nI 3) C0.1 C0.2.1 dX1_pass_54 (by decide) ?_
                    refine lv_aload C0.1 C0.2.1 dX1_pass_55 (lv_at hl 1 rfl) ?_
                    refine lv_iconst (v := nI 3) C0.1 C0.2.1 dX1_pass_57 (by decide) ?_
                    refine ts_ald (k := k) (j := 3) C0 hG (by omega) (by decide) dX1_pass_58 ?_
                    refine tc_top (y := nI ((va_up (pcn (hrs ak ao aw nn an sc ss i).1 aw k) k (((hrs ak ao aw nn an sc ss i).1 k + j) % 6)) (k))) (congrArg nI (hy3 (k) (by omega)).2.2.2.1) ?_
                    have b_58 := hk_j.2.2.1 (k)
                    refine tc_top (congrArg nI (va_up_at (pcn (hrs ak ao aw nn an sc ss i).1 aw k) k (((hrs ak ao aw nn an sc ss i).1 k + j) % 6))) ?_
                    refine lv_iconst (v := nI 5) C0.1 C0.2.1 dX1_pass_59 (by decide) ?_
                    refine tn_icmp_ne (tgt := 67) C0.1 C0.2.1 dX1_pass_60 (by decide) (by omega) (by omega) (fun c_60 => ?_) (fun c_60 => ?_)
                    · refine lv_aload C0.1 C0.2.1 dX1_pass_67 (lv_at hl 1 rfl) ?_
                      refine lv_iconst (v := nI 3) C0.1 C0.2.1 dX1_pass_69 (by decide) ?_
                      refine ts_ald (k := k) (j := 3) C0 hG (by omega) (by decide) dX1_pass_70 ?_
                      refine tc_top (y := nI ((va_up (pcn (hrs ak ao aw nn an sc ss i).1 aw k) k (((hrs ak ao aw nn an sc ss i).1 k + j) % 6)) (k))) (congrArg nI (hy3 (k) (by omega)).2.2.2.1) ?_
                      have b_70 := hk_j.2.2.1 (k)
                      refine tc_top (congrArg nI (va_up_at (pcn (hrs ak ao aw nn an sc ss i).1 aw k) k (((hrs ak ao aw nn an sc ss i).1 k + j) % 6))) ?_
                      refine lv_iconst (v := nI 1) C0.1 C0.2.1 dX1_pass_71 (by decide) ?_
                      refine tn_iadd C0.1 C0.2.1 dX1_pass_72 ?_
                      exact cut_73 (((hrs ak ao aw nn an sc ss i).1 k + j) % 6 + 1) (by first | exact mod_5 c_60 | exact mod_n c_60) (by omega) ls (lv_sub hl [0, 1, 2, 3, 4, 5, 6, 7, 8] rfl) _ _ hG hS
                    · refine lv_iconst (v := nI 0) C0.1 C0.2.1 dX1_pass_63 (by decide) ?_
                      refine lv_goto (tgt := 73) C0.1 C0.2.1 dX1_pass_64 (by decide) ?_
                      exact cut_73 (0) (by first | exact mod_5 c_60 | exact mod_n c_60) (by omega) ls (lv_sub hl [0, 1, 2, 3, 4, 5, 6, 7, 8] rfl) _ _ hG hS
              exact cut_43 (aw k + 1) (0) (f2) (by omega) (tSy.cn (va_up_id (by rw [pcn_k, Nat.add_zero, Nat.mod_eq_of_lt (hl_i.1 k)])).symm hy2) (by omega) ls (lv_sub hl [0, 1, 2, 3, 4, 5, 6, 7, 8] rfl) _ _ hG hS
        exact cut_26 (nn + 1) (0) (f1) (by omega) hy1 (by omega) ls (lv_sub hl [0, 1, 2, 3, 4, 5, 6] rfl) _ _ hG hS
  exact cut_7 (x + 1) (0) (f) (by omega) hy (by omega) ls (lv_sub hl [0, 1, 2, 3] rfl) _ _ (tcG.eq (by rw [show sh + nI 0 = sh from Int32.add_zero sh] <;> rfl) hG) hS
