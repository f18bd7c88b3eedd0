/-! the law, case by case: what reads -/
set_option maxHeartbeats 4000000 in
set_option maxRecDepth 100000 in
theorem law_case_7 {p : Program} {l : Launch} {e : Env} {s : State} {m : MethodId} {below : List Frame} {meth : Method} {c : Code} {b L : Nat} {xs : Nat → Int32} (hlf : l.stackTraces = false) (C0 : CallFix p m c cL_law 9 s #[Value.ref b] wsL_law RL) (hX : va_X b L xs s s.heap) (hbl : b < s.heap.size) (hL : L ≤ 2560) {D : va_G} {cI cJ : ClassId} {h r1 r2 r3 r4 o g q1 q2 q3 q4 : Nat} {tk co cn wk : Nat → Nat} {n st : Nat} {ho ct sp th : Int32} {fo : Nat → Int64} (hk : tOk tk co cn wk n st) {i : Nat} (hi : i + 5 ≤ L) {H : Heap} {locs : List Loc} {ls : Array Slot} (hG : tcG D cI cJ s.heap.size (wT h r1 r2 r3 r4 cI tk co cn wk n ho st ct sp ((o, tcO cJ fo) :: wM g q1 q2 q3 q4 cI th tk co cn wk n ho st ct sp [])) s H) (hS : va_S (tcA s.heap.size) s.heap H locs) (hl : lv_has ls 9 [(0, .ref b), (1, .ref h), (2, .ref g), (3, .ref o), (4, .int (nI i))])
    (back : ∀ (tk co cn wk : Nat → Nat) (n : Nat) (ho : Int32) (st : Nat) (ct sp th : Int32) (fo : Nat → Int64), tOk tk co cn wk n st → ∀ (H : Heap) (locs : List Loc) (ls : Array Slot), tcG D cI cJ s.heap.size (wT h r1 r2 r3 r4 cI tk co cn wk n ho st ct sp ((o, tcO cJ fo) :: wM g q1 q2 q3 q4 cI th tk co cn wk n ho st ct sp [])) s H → va_S (tcA s.heap.size) s.heap H locs → lv_has ls 9 [(0, .ref b), (1, .ref h), (2, .ref g), (3, .ref o), (4, .int (nI (i + 5)))] → W p l e room_1 s m #[Value.ref b] below meth c H locs (11 + (i + 5)) (128 + 5 * (i + 5)) (lw_Z below #[Value.ref b] s) (F0 m 23 ls [])) : W p l e room_1 s m #[Value.ref b] below meth c H locs (11 + i) (128 + 5 * i) (lw_Z below #[Value.ref b] s) (F0 m 672 ls []) := by
  refine lv_aload_n C0.1 C0.2.1 dL_law_672 rfl (lv_at hl 1 rfl) ?_
  refine tc_callV (q0 := 0) (rest := []) C0 hG hS rfl rfl (kX0_strangers hlf hk) (cwV 0 C0.2.2.2.2 gL_law_X0_strangers rfl rfl rfl (by decide +kernel) ⟨(Nat.le_of_ble_eq_true rfl), (Nat.le_of_ble_eq_true rfl)⟩) rfl hl rfl (Nat.le_of_ble_eq_true rfl) dL_law_673 ⟨(by dsimp only [room_1]; omega), (by dsimp only [room_1]; omega)⟩ (fun H locs hG hS => ?_)
  refine lv_aload_n C0.1 C0.2.1 dL_law_676 rfl (lv_at hl 2 rfl) ?_
  have hG := hG.sub (ws' := wM g q1 q2 q3 q4 cI th tk co cn wk n ho st ct sp (wT h r1 r2 r3 r4 cI tk co cn wk n ho st ct sp [(o, tcO cJ fo)])) [6, 7, 8, 9, 10, 0, 1, 2, 3, 4, 5] (by decide) rfl rfl
  refine tc_callV (q0 := 0) (rest := [.int (nI (n))]) C0 hG hS rfl rfl (kX1_strangers hlf hk ) (cwV 0 C0.2.2.2.2 gL_law_X1_strangers rfl rfl rfl (by decide +kernel) ⟨(Nat.le_of_ble_eq_true rfl), (Nat.le_of_ble_eq_true rfl)⟩) rfl hl rfl (Nat.le_of_ble_eq_true rfl) dL_law_677 ⟨(by dsimp only [room_1]; omega), (by dsimp only [room_1]; omega)⟩ (fun H locs hG hS => ?_)
  have hG : tcG D cI cJ s.heap.size (wM g q1 q2 q3 q4 cI (nI 0) tk co cn wk n ho st ct sp (wT h r1 r2 r3 r4 cI tk co cn wk n ho st ct sp [(o, tcO cJ fo)])) s H := hG
  refine lv_icmp_eq (tgt := 1758) C0.1 C0.2.1 dL_law_680 (by decide) (fun c_a => ?_) (fun c_a => absurd rfl c_a)
  refine lv_iinc (v := nI (i + 5)) (lv' := [(4, .int (nI (i + 5))), (0, .ref b), (1, .ref h), (2, .ref g), (3, .ref o)]) C0.1 C0.2.1 dL_law_1758 hl (k := 4) rfl (nI_add i 5) (by decide) rfl (fun ls hl => ?_)
  refine lv_goto (tgt := 23) C0.1 C0.2.1 dL_law_1761 (by decide) ?_
  refine W.widen (k := 11 + (i + 5)) (n := 128 + 5 * (i + 5)) (by omega) (by omega) ?_
  have hG := hG.sub (ws' := wT h r1 r2 r3 r4 cI tk co cn wk n ho st ct sp ((o, tcO cJ fo) :: wM g q1 q2 q3 q4 cI (nI 0) tk co cn wk n ho st ct sp [])) [5, 6, 7, 8, 9, 10, 0, 1, 2, 3, 4] (by decide) rfl rfl
  exact back tk co cn wk n ho st ct sp (nI 0) fo hk _ _ _ hG hS (lv_sub hl [1, 2, 3, 4, 0] rfl)
set_option maxHeartbeats 4000000 in
set_option maxRecDepth 100000 in
theorem law_case_8 {p : Program} {l : Launch} {e : Env} {s : State} {m : MethodId} {below : List Frame} {meth : Method} {c : Code} {b L : Nat} {xs : Nat → Int32} (hlf : l.stackTraces = false) (C0 : CallFix p m c cL_law 9 s #[Value.ref b] wsL_law RL) (hX : va_X b L xs s s.heap) (hbl : b < s.heap.size) (hL : L ≤ 2560) {D : va_G} {cI cJ : ClassId} {h r1 r2 r3 r4 o g q1 q2 q3 q4 : Nat} {tk co cn wk : Nat → Nat} {n st : Nat} {ho ct sp th : Int32} {fo : Nat → Int64} (hk : tOk tk co cn wk n st) {i : Nat} (hi : i + 5 ≤ L) {H : Heap} {locs : List Loc} {ls : Array Slot} (hG : tcG D cI cJ s.heap.size (wT h r1 r2 r3 r4 cI tk co cn wk n ho st ct sp ((o, tcO cJ fo) :: wM g q1 q2 q3 q4 cI th tk co cn wk n ho st ct sp [])) s H) (hS : va_S (tcA s.heap.size) s.heap H locs) (hl : lv_has ls 9 [(0, .ref b), (1, .ref h), (2, .ref g), (3, .ref o), (4, .int (nI i))])
    (back : ∀ (tk co cn wk : Nat → Nat) (n : Nat) (ho : Int32) (st : Nat) (ct sp th : Int32) (fo : Nat → Int64), tOk tk co cn wk n st → ∀ (H : Heap) (locs : List Loc) (ls : Array Slot), tcG D cI cJ s.heap.size (wT h r1 r2 r3 r4 cI tk co cn wk n ho st ct sp ((o, tcO cJ fo) :: wM g q1 q2 q3 q4 cI th tk co cn wk n ho st ct sp [])) s H → va_S (tcA s.heap.size) s.heap H locs → lv_has ls 9 [(0, .ref b), (1, .ref h), (2, .ref g), (3, .ref o), (4, .int (nI (i + 5)))] → W p l e room_1 s m #[Value.ref b] below meth c H locs (11 + (i + 5)) (128 + 5 * (i + 5)) (lw_Z below #[Value.ref b] s) (F0 m 23 ls [])) : W p l e room_1 s m #[Value.ref b] below meth c H locs (11 + i) (128 + 5 * i) (lw_Z below #[Value.ref b] s) (F0 m 685 ls []) := by
  refine lv_aload_n C0.1 C0.2.1 dL_law_685 rfl (lv_at hl 1 rfl) ?_
  refine tc_callV (q0 := 0) (rest := []) C0 hG hS rfl rfl (kX0_hour hlf hk) (cwV 0 C0.2.2.2.2 gL_law_X0_hour rfl rfl rfl (by decide +kernel) ⟨(Nat.le_of_ble_eq_true rfl), (Nat.le_of_ble_eq_true rfl)⟩) rfl hl rfl (Nat.le_of_ble_eq_true rfl) dL_law_686 ⟨(by dsimp only [room_1]; omega), (by dsimp only [room_1]; omega)⟩ (fun H locs hG hS => ?_)
  refine lv_aload_n C0.1 C0.2.1 dL_law_689 rfl (lv_at hl 2 rfl) ?_
  have hG := hG.sub (ws' := wM g q1 q2 q3 q4 cI th tk co cn wk n ho st ct sp (wT h r1 r2 r3 r4 cI tk co cn wk n ho st ct sp [(o, tcO cJ fo)])) [6, 7, 8, 9, 10, 0, 1, 2, 3, 4, 5] (by decide) rfl rfl
  refine tc_callV (q0 := 0) (rest := [.int (ho)]) C0 hG hS rfl rfl (kX1_hour hlf hk ) (cwV 0 C0.2.2.2.2 gL_law_X1_hour rfl rfl rfl (by decide +kernel) ⟨(Nat.le_of_ble_eq_true rfl), (Nat.le_of_ble_eq_true rfl)⟩) rfl hl rfl (Nat.le_of_ble_eq_true rfl) dL_law_690 ⟨(by dsimp only [room_1]; omega), (by dsimp only [room_1]; omega)⟩ (fun H locs hG hS => ?_)
  have hG : tcG D cI cJ s.heap.size (wM g q1 q2 q3 q4 cI (nI 0) tk co cn wk n ho st ct sp (wT h r1 r2 r3 r4 cI tk co cn wk n ho st ct sp [(o, tcO cJ fo)])) s H := hG
  refine lv_icmp_eq (tgt := 1758) C0.1 C0.2.1 dL_law_693 (by decide) (fun c_a => ?_) (fun c_a => absurd rfl c_a)
  refine lv_iinc (v := nI (i + 5)) (lv' := [(4, .int (nI (i + 5))), (0, .ref b), (1, .ref h), (2, .ref g), (3, .ref o)]) C0.1 C0.2.1 dL_law_1758 hl (k := 4) rfl (nI_add i 5) (by decide) rfl (fun ls hl => ?_)
  refine lv_goto (tgt := 23) C0.1 C0.2.1 dL_law_1761 (by decide) ?_
  refine W.widen (k := 11 + (i + 5)) (n := 128 + 5 * (i + 5)) (by omega) (by omega) ?_
  have hG := hG.sub (ws' := wT h r1 r2 r3 r4 cI tk co cn wk n ho st ct sp ((o, tcO cJ fo) :: wM g q1 q2 q3 q4 cI (nI 0) tk co cn wk n ho st ct sp [])) [5, 6, 7, 8, 9, 10, 0, 1, 2, 3, 4] (by decide) rfl rfl
  exact back tk co cn wk n ho st ct sp (nI 0) fo hk _ _ _ hG hS (lv_sub hl [1, 2, 3, 4, 0] rfl)
set_option maxHeartbeats 4000000 in
set_option maxRecDepth 100000 in
theorem law_case_9 {p : Program} {l : Launch} {e : Env} {s : State} {m : MethodId} {below : List Frame} {meth : Method} {c : Code} {b L : Nat} {xs : Nat → Int32} (hlf : l.stackTraces = false) (C0 : CallFix p m c cL_law 9 s #[Value.ref b] wsL_law RL) (hX : va_X b L xs s s.heap) (hbl : b < s.heap.size) (hL : L ≤ 2560) {D : va_G} {cI cJ : ClassId} {h r1 r2 r3 r4 o g q1 q2 q3 q4 : Nat} {tk co cn wk : Nat → Nat} {n st : Nat} {ho ct sp th : Int32} {fo : Nat → Int64} (hk : tOk tk co cn wk n st) {i : Nat} (hi : i + 5 ≤ L) {H : Heap} {locs : List Loc} {ls : Array Slot} (hG : tcG D cI cJ s.heap.size (wT h r1 r2 r3 r4 cI tk co cn wk n ho st ct sp ((o, tcO cJ fo) :: wM g q1 q2 q3 q4 cI th tk co cn wk n ho st ct sp [])) s H) (hS : va_S (tcA s.heap.size) s.heap H locs) (hl : lv_has ls 9 [(0, .ref b), (1, .ref h), (2, .ref g), (3, .ref o), (4, .int (nI i))])
    (back : ∀ (tk co cn wk : Nat → Nat) (n : Nat) (ho : Int32) (st : Nat) (ct sp th : Int32) (fo : Nat → Int64), tOk tk co cn wk n st → ∀ (H : Heap) (locs : List Loc) (ls : Array Slot), tcG D cI cJ s.heap.size (wT h r1 r2 r3 r4 cI tk co cn wk n ho st ct sp ((o, tcO cJ fo) :: wM g q1 q2 q3 q4 cI th tk co cn wk n ho st ct sp [])) s H → va_S (tcA s.heap.size) s.heap H locs → lv_has ls 9 [(0, .ref b), (1, .ref h), (2, .ref g), (3, .ref o), (4, .int (nI (i + 5)))] → W p l e room_1 s m #[Value.ref b] below meth c H locs (11 + (i + 5)) (128 + 5 * (i + 5)) (lw_Z below #[Value.ref b] s) (F0 m 23 ls [])) : W p l e room_1 s m #[Value.ref b] below meth c H locs (11 + i) (128 + 5 * i) (lw_Z below #[Value.ref b] s) (F0 m 698 ls []) := by
  refine lv_aload_n C0.1 C0.2.1 dL_law_698 rfl (lv_at hl 1 rfl) ?_
  refine tc_callV (q0 := 0) (rest := []) C0 hG hS rfl rfl (kX0_store hlf hk) (cwV 0 C0.2.2.2.2 gL_law_X0_store rfl rfl rfl (by decide +kernel) ⟨(Nat.le_of_ble_eq_true rfl), (Nat.le_of_ble_eq_true rfl)⟩) rfl hl rfl (Nat.le_of_ble_eq_true rfl) dL_law_699 ⟨(by dsimp only [room_1]; omega), (by dsimp only [room_1]; omega)⟩ (fun H locs hG hS => ?_)
  refine lv_aload_n C0.1 C0.2.1 dL_law_702 rfl (lv_at hl 2 rfl) ?_
  have hG := hG.sub (ws' := wM g q1 q2 q3 q4 cI th tk co cn wk n ho st ct sp (wT h r1 r2 r3 r4 cI tk co cn wk n ho st ct sp [(o, tcO cJ fo)])) [6, 7, 8, 9, 10, 0, 1, 2, 3, 4, 5] (by decide) rfl rfl
  refine tc_callV (q0 := 0) (rest := [.int (nI (st))]) C0 hG hS rfl rfl (kX1_store hlf hk ) (cwV 0 C0.2.2.2.2 gL_law_X1_store rfl rfl rfl (by decide +kernel) ⟨(Nat.le_of_ble_eq_true rfl), (Nat.le_of_ble_eq_true rfl)⟩) rfl hl rfl (Nat.le_of_ble_eq_true rfl) dL_law_703 ⟨(by dsimp only [room_1]; omega), (by dsimp only [room_1]; omega)⟩ (fun H locs hG hS => ?_)
  have hG : tcG D cI cJ s.heap.size (wM g q1 q2 q3 q4 cI (nI 0) tk co cn wk n ho st ct sp (wT h r1 r2 r3 r4 cI tk co cn wk n ho st ct sp [(o, tcO cJ fo)])) s H := hG
  refine lv_icmp_eq (tgt := 1758) C0.1 C0.2.1 dL_law_706 (by decide) (fun c_a => ?_) (fun c_a => absurd rfl c_a)
  refine lv_iinc (v := nI (i + 5)) (lv' := [(4, .int (nI (i + 5))), (0, .ref b), (1, .ref h), (2, .ref g), (3, .ref o)]) C0.1 C0.2.1 dL_law_1758 hl (k := 4) rfl (nI_add i 5) (by decide) rfl (fun ls hl => ?_)
  refine lv_goto (tgt := 23) C0.1 C0.2.1 dL_law_1761 (by decide) ?_
  refine W.widen (k := 11 + (i + 5)) (n := 128 + 5 * (i + 5)) (by omega) (by omega) ?_
  have hG := hG.sub (ws' := wT h r1 r2 r3 r4 cI tk co cn wk n ho st ct sp ((o, tcO cJ fo) :: wM g q1 q2 q3 q4 cI (nI 0) tk co cn wk n ho st ct sp [])) [5, 6, 7, 8, 9, 10, 0, 1, 2, 3, 4] (by decide) rfl rfl
  exact back tk co cn wk n ho st ct sp (nI 0) fo hk _ _ _ hG hS (lv_sub hl [1, 2, 3, 4, 0] rfl)
set_option maxHeartbeats 4000000 in
set_option maxRecDepth 100000 in
theorem law_case_10 {p : Program} {l : Launch} {e : Env} {s : State} {m : MethodId} {below : List Frame} {meth : Method} {c : Code} {b L : Nat} {xs : Nat → Int32} (hlf : l.stackTraces = false) (C0 : CallFix p m c cL_law 9 s #[Value.ref b] wsL_law RL) (hX : va_X b L xs s s.heap) (hbl : b < s.heap.size) (hL : L ≤ 2560) {D : va_G} {cI cJ : ClassId} {h r1 r2 r3 r4 o g q1 q2 q3 q4 : Nat} {tk co cn wk : Nat → Nat} {n st : Nat} {ho ct sp th : Int32} {fo : Nat → Int64} (hk : tOk tk co cn wk n st) {i : Nat} (hi : i + 5 ≤ L) {H : Heap} {locs : List Loc} {ls : Array Slot} (hG : tcG D cI cJ s.heap.size (wT h r1 r2 r3 r4 cI tk co cn wk n ho st ct sp ((o, tcO cJ fo) :: wM g q1 q2 q3 q4 cI th tk co cn wk n ho st ct sp [])) s H) (hS : va_S (tcA s.heap.size) s.heap H locs) (hl : lv_has ls 9 [(0, .ref b), (1, .ref h), (2, .ref g), (3, .ref o), (4, .int (nI i))])
    (back : ∀ (tk co cn wk : Nat → Nat) (n : Nat) (ho : Int32) (st : Nat) (ct sp th : Int32) (fo : Nat → Int64), tOk tk co cn wk n st → ∀ (H : Heap) (locs : List Loc) (ls : Array Slot), tcG D cI cJ s.heap.size (wT h r1 r2 r3 r4 cI tk co cn wk n ho st ct sp ((o, tcO cJ fo) :: wM g q1 q2 q3 q4 cI th tk co cn wk n ho st ct sp [])) s H → va_S (tcA s.heap.size) s.heap H locs → lv_has ls 9 [(0, .ref b), (1, .ref h), (2, .ref g), (3, .ref o), (4, .int (nI (i + 5)))] → W p l e room_1 s m #[Value.ref b] below meth c H locs (11 + (i + 5)) (128 + 5 * (i + 5)) (lw_Z below #[Value.ref b] s) (F0 m 23 ls [])) : W p l e room_1 s m #[Value.ref b] below meth c H locs (11 + i) (128 + 5 * i) (lw_Z below #[Value.ref b] s) (F0 m 711 ls []) := by
  refine lv_aload_n C0.1 C0.2.1 dL_law_711 rfl (lv_at hl 1 rfl) ?_
  refine tc_callV (q0 := 0) (rest := []) C0 hG hS rfl rfl (kX0_counted hlf hk) (cwV 0 C0.2.2.2.2 gL_law_X0_counted rfl rfl rfl (by decide +kernel) ⟨(Nat.le_of_ble_eq_true rfl), (Nat.le_of_ble_eq_true rfl)⟩) rfl hl rfl (Nat.le_of_ble_eq_true rfl) dL_law_712 ⟨(by dsimp only [room_1]; omega), (by dsimp only [room_1]; omega)⟩ (fun H locs hG hS => ?_)
  refine lv_aload_n C0.1 C0.2.1 dL_law_715 rfl (lv_at hl 2 rfl) ?_
  have hG := hG.sub (ws' := wM g q1 q2 q3 q4 cI th tk co cn wk n ho st ct sp (wT h r1 r2 r3 r4 cI tk co cn wk n ho st ct sp [(o, tcO cJ fo)])) [6, 7, 8, 9, 10, 0, 1, 2, 3, 4, 5] (by decide) rfl rfl
  refine tc_callV (q0 := 0) (rest := [.int (ct)]) C0 hG hS rfl rfl (kX1_counted hlf hk ) (cwV 0 C0.2.2.2.2 gL_law_X1_counted rfl rfl rfl (by decide +kernel) ⟨(Nat.le_of_ble_eq_true rfl), (Nat.le_of_ble_eq_true rfl)⟩) rfl hl rfl (Nat.le_of_ble_eq_true rfl) dL_law_716 ⟨(by dsimp only [room_1]; omega), (by dsimp only [room_1]; omega)⟩ (fun H locs hG hS => ?_)
  have hG : tcG D cI cJ s.heap.size (wM g q1 q2 q3 q4 cI (nI 0) tk co cn wk n ho st ct sp (wT h r1 r2 r3 r4 cI tk co cn wk n ho st ct sp [(o, tcO cJ fo)])) s H := hG
  refine lv_icmp_eq (tgt := 1758) C0.1 C0.2.1 dL_law_719 (by decide) (fun c_a => ?_) (fun c_a => absurd rfl c_a)
  refine lv_iinc (v := nI (i + 5)) (lv' := [(4, .int (nI (i + 5))), (0, .ref b), (1, .ref h), (2, .ref g), (3, .ref o)]) C0.1 C0.2.1 dL_law_1758 hl (k := 4) rfl (nI_add i 5) (by decide) rfl (fun ls hl => ?_)
  refine lv_goto (tgt := 23) C0.1 C0.2.1 dL_law_1761 (by decide) ?_
  refine W.widen (k := 11 + (i + 5)) (n := 128 + 5 * (i + 5)) (by omega) (by omega) ?_
  have hG := hG.sub (ws' := wT h r1 r2 r3 r4 cI tk co cn wk n ho st ct sp ((o, tcO cJ fo) :: wM g q1 q2 q3 q4 cI (nI 0) tk co cn wk n ho st ct sp [])) [5, 6, 7, 8, 9, 10, 0, 1, 2, 3, 4] (by decide) rfl rfl
  exact back tk co cn wk n ho st ct sp (nI 0) fo hk _ _ _ hG hS (lv_sub hl [1, 2, 3, 4, 0] rfl)
set_option maxHeartbeats 4000000 in
set_option maxRecDepth 100000 in
theorem law_case_11 {p : Program} {l : Launch} {e : Env} {s : State} {m : MethodId} {below : List Frame} {meth : Method} {c : Code} {b L : Nat} {xs : Nat → Int32} (hlf : l.stackTraces = false) (C0 : CallFix p m c cL_law 9 s #[Value.ref b] wsL_law RL) (hX : va_X b L xs s s.heap) (hbl : b < s.heap.size) (hL : L ≤ 2560) {D : va_G} {cI cJ : ClassId} {h r1 r2 r3 r4 o g q1 q2 q3 q4 : Nat} {tk co cn wk : Nat → Nat} {n st : Nat} {ho ct sp th : Int32} {fo : Nat → Int64} (hk : tOk tk co cn wk n st) {i : Nat} (hi : i + 5 ≤ L) {H : Heap} {locs : List Loc} {ls : Array Slot} (hG : tcG D cI cJ s.heap.size (wT h r1 r2 r3 r4 cI tk co cn wk n ho st ct sp ((o, tcO cJ fo) :: wM g q1 q2 q3 q4 cI th tk co cn wk n ho st ct sp [])) s H) (hS : va_S (tcA s.heap.size) s.heap H locs) (hl : lv_has ls 9 [(0, .ref b), (1, .ref h), (2, .ref g), (3, .ref o), (4, .int (nI i))])
    (back : ∀ (tk co cn wk : Nat → Nat) (n : Nat) (ho : Int32) (st : Nat) (ct sp th : Int32) (fo : Nat → Int64), tOk tk co cn wk n st → ∀ (H : Heap) (locs : List Loc) (ls : Array Slot), tcG D cI cJ s.heap.size (wT h r1 r2 r3 r4 cI tk co cn wk n ho st ct sp ((o, tcO cJ fo) :: wM g q1 q2 q3 q4 cI th tk co cn wk n ho st ct sp [])) s H → va_S (tcA s.heap.size) s.heap H locs → lv_has ls 9 [(0, .ref b), (1, .ref h), (2, .ref g), (3, .ref o), (4, .int (nI (i + 5)))] → W p l e room_1 s m #[Value.ref b] below meth c H locs (11 + (i + 5)) (128 + 5 * (i + 5)) (lw_Z below #[Value.ref b] s) (F0 m 23 ls [])) : W p l e room_1 s m #[Value.ref b] below meth c H locs (11 + i) (128 + 5 * i) (lw_Z below #[Value.ref b] s) (F0 m 724 ls []) := by
  refine lv_aload_n C0.1 C0.2.1 dL_law_724 rfl (lv_at hl 1 rfl) ?_
  refine tc_callV (q0 := 0) (rest := []) C0 hG hS rfl rfl (kX0_spent hlf hk) (cwV 0 C0.2.2.2.2 gL_law_X0_spent rfl rfl rfl (by decide +kernel) ⟨(Nat.le_of_ble_eq_true rfl), (Nat.le_of_ble_eq_true rfl)⟩) rfl hl rfl (Nat.le_of_ble_eq_true rfl) dL_law_725 ⟨(by dsimp only [room_1]; omega), (by dsimp only [room_1]; omega)⟩ (fun H locs hG hS => ?_)
  refine lv_aload_n C0.1 C0.2.1 dL_law_728 rfl (lv_at hl 2 rfl) ?_
  have hG := hG.sub (ws' := wM g q1 q2 q3 q4 cI th tk co cn wk n ho st ct sp (wT h r1 r2 r3 r4 cI tk co cn wk n ho st ct sp [(o, tcO cJ fo)])) [6, 7, 8, 9, 10, 0, 1, 2, 3, 4, 5] (by decide) rfl rfl
  refine tc_callV (q0 := 0) (rest := [.int (sp)]) C0 hG hS rfl rfl (kX1_spent hlf hk ) (cwV 0 C0.2.2.2.2 gL_law_X1_spent rfl rfl rfl (by decide +kernel) ⟨(Nat.le_of_ble_eq_true rfl), (Nat.le_of_ble_eq_true rfl)⟩) rfl hl rfl (Nat.le_of_ble_eq_true rfl) dL_law_729 ⟨(by dsimp only [room_1]; omega), (by dsimp only [room_1]; omega)⟩ (fun H locs hG hS => ?_)
  have hG : tcG D cI cJ s.heap.size (wM g q1 q2 q3 q4 cI (nI 0) tk co cn wk n ho st ct sp (wT h r1 r2 r3 r4 cI tk co cn wk n ho st ct sp [(o, tcO cJ fo)])) s H := hG
  refine lv_icmp_eq (tgt := 1758) C0.1 C0.2.1 dL_law_732 (by decide) (fun c_a => ?_) (fun c_a => absurd rfl c_a)
  refine lv_iinc (v := nI (i + 5)) (lv' := [(4, .int (nI (i + 5))), (0, .ref b), (1, .ref h), (2, .ref g), (3, .ref o)]) C0.1 C0.2.1 dL_law_1758 hl (k := 4) rfl (nI_add i 5) (by decide) rfl (fun ls hl => ?_)
  refine lv_goto (tgt := 23) C0.1 C0.2.1 dL_law_1761 (by decide) ?_
  refine W.widen (k := 11 + (i + 5)) (n := 128 + 5 * (i + 5)) (by omega) (by omega) ?_
  have hG := hG.sub (ws' := wT h r1 r2 r3 r4 cI tk co cn wk n ho st ct sp ((o, tcO cJ fo) :: wM g q1 q2 q3 q4 cI (nI 0) tk co cn wk n ho st ct sp [])) [5, 6, 7, 8, 9, 10, 0, 1, 2, 3, 4] (by decide) rfl rfl
  exact back tk co cn wk n ho st ct sp (nI 0) fo hk _ _ _ hG hS (lv_sub hl [1, 2, 3, 4, 0] rfl)
set_option maxHeartbeats 4000000 in
set_option maxRecDepth 100000 in
theorem law_case_12 {p : Program} {l : Launch} {e : Env} {s : State} {m : MethodId} {below : List Frame} {meth : Method} {c : Code} {b L : Nat} {xs : Nat → Int32} (hlf : l.stackTraces = false) (C0 : CallFix p m c cL_law 9 s #[Value.ref b] wsL_law RL) (hX : va_X b L xs s s.heap) (hbl : b < s.heap.size) (hL : L ≤ 2560) {D : va_G} {cI cJ : ClassId} {h r1 r2 r3 r4 o g q1 q2 q3 q4 : Nat} {tk co cn wk : Nat → Nat} {n st : Nat} {ho ct sp th : Int32} {fo : Nat → Int64} (hk : tOk tk co cn wk n st) {i : Nat} (hi : i + 5 ≤ L) {H : Heap} {locs : List Loc} {ls : Array Slot} (hG : tcG D cI cJ s.heap.size (wT h r1 r2 r3 r4 cI tk co cn wk n ho st ct sp ((o, tcO cJ fo) :: wM g q1 q2 q3 q4 cI th tk co cn wk n ho st ct sp [])) s H) (hS : va_S (tcA s.heap.size) s.heap H locs) (hl : lv_has ls 9 [(0, .ref b), (1, .ref h), (2, .ref g), (3, .ref o), (4, .int (nI i))])
    (back : ∀ (tk co cn wk : Nat → Nat) (n : Nat) (ho : Int32) (st : Nat) (ct sp th : Int32) (fo : Nat → Int64), tOk tk co cn wk n st → ∀ (H : Heap) (locs : List Loc) (ls : Array Slot), tcG D cI cJ s.heap.size (wT h r1 r2 r3 r4 cI tk co cn wk n ho st ct sp ((o, tcO cJ fo) :: wM g q1 q2 q3 q4 cI th tk co cn wk n ho st ct sp [])) s H → va_S (tcA s.heap.size) s.heap H locs → lv_has ls 9 [(0, .ref b), (1, .ref h), (2, .ref g), (3, .ref o), (4, .int (nI (i + 5)))] → W p l e room_1 s m #[Value.ref b] below meth c H locs (11 + (i + 5)) (128 + 5 * (i + 5)) (lw_Z below #[Value.ref b] s) (F0 m 23 ls [])) : W p l e room_1 s m #[Value.ref b] below meth c H locs (11 + i) (128 + 5 * i) (lw_Z below #[Value.ref b] s) (F0 m 737 ls []) := by
  obtain ⟨x1, ex1⟩ : ∃ y, y = xs (i + 1) := ⟨_, rfl⟩
  refine lv_aload_n C0.1 C0.2.1 dL_law_737 rfl (lv_at hl 1 rfl) ?_
  refine lv_aload_n C0.1 C0.2.1 dL_law_738 rfl (lv_at hl 0 rfl) ?_
  refine lv_iload C0.1 C0.2.1 dL_law_739 (lv_at hl 4 rfl) ?_
  refine lv_iconst (v := nI 1) C0.1 C0.2.1 dL_law_741 (by decide) ?_
  refine tn_iadd C0.1 C0.2.1 dL_law_742 ?_
  refine tc_sld C0 hX hbl hS (by omega) hL ex1 dL_law_743 ?_
  refine lv_aload_n C0.1 C0.2.1 dL_law_744 rfl (lv_at hl 3 rfl) ?_
  refine tc_callSW (rest := []) C0 hG hS (kL_ticketOf hlf hk x1) (vx_cwSW 3 C0.2.2.2.2 gL_law_L_ticketOf rfl rfl rfl (by decide +kernel) ⟨(Nat.le_of_ble_eq_true rfl), (Nat.le_of_ble_eq_true rfl)⟩) rfl hl rfl (Nat.le_of_ble_eq_true rfl) dL_law_745 ⟨(by dsimp only [room_1]; omega), (by dsimp only [room_1]; omega)⟩ (fun H locs hG hS => ?_)
  refine lv_istore (lv' := [(5, .int (nI (cdS x1 n))), (0, .ref b), (1, .ref h), (2, .ref g), (3, .ref o), (4, .int (nI i))]) C0.1 C0.2.1 dL_law_748 hl (by decide) rfl (fun ls hl => ?_)
  by_cases hcd : cdS x1 n = 0
  · rw [if_pos hcd] at hG
    refine lv_aload_n C0.1 C0.2.1 dL_law_750 rfl (lv_at hl 3 rfl) ?_
    refine lv_aload_n C0.1 C0.2.1 dL_law_751 rfl (lv_at hl 1 rfl) ?_
    refine lv_iload C0.1 C0.2.1 dL_law_752 (lv_at hl 5 rfl) ?_
    refine lv_iconst (v := nI 1) C0.1 C0.2.1 dL_law_754 (by decide) ?_
    refine tn_iadd C0.1 C0.2.1 dL_law_755 ?_
    refine tc_sld C0 hX hbl hS (by omega) hL ex1 dL_law_756 ?_
    have hG := hG.sub (ws' := wM g q1 q2 q3 q4 cI th tk co cn wk n ho st ct sp (wT h r1 r2 r3 r4 cI tk co cn wk n ho st ct sp [(o, tcO cJ (vp_updL fo 0 ((nI (tk (ix x1))).toInt64)))])) [6, 7, 8, 9, 10, 0, 1, 2, 3, 4, 5] (by decide) rfl rfl
    refine tc_callV (q0 := 0) (rest := []) C0 hG hS rfl rfl (kX1_ticketOf hlf hk x1) (cwV 1 C0.2.2.2.2 gL_law_X1_ticketOf rfl rfl rfl (by decide +kernel) ⟨(Nat.le_of_ble_eq_true rfl), (Nat.le_of_ble_eq_true rfl)⟩) rfl hl rfl (Nat.le_of_ble_eq_true rfl) dL_law_757 ⟨(by dsimp only [room_1]; omega), (by dsimp only [room_1]; omega)⟩ (fun H locs hG hS => ?_)
    have hG : tcG D cI cJ s.heap.size (wM g q1 q2 q3 q4 cI (nI (cdS x1 n)) tk co cn wk n ho st ct sp (wT h r1 r2 r3 r4 cI tk co cn wk n ho st ct sp [(o, tcO cJ (vp_updL fo 0 ((nI (tk (ix x1))).toInt64)))])) s H := hG
    refine tc_top (y := nI (tk (ix x1))) (if_pos hcd) ?_
    refine lv_istore (lv' := [(6, .int (nI (tk (ix x1)))), (5, .int (nI (cdS x1 n))), (0, .ref b), (1, .ref h), (2, .ref g), (3, .ref o), (4, .int (nI i))]) C0.1 C0.2.1 dL_law_760 hl (by decide) rfl (fun ls hl => ?_)
    refine lv_aload_n C0.1 C0.2.1 dL_law_762 rfl (lv_at hl 4 rfl) ?_
    refine tc_callV (q0 := 0) (rest := []) C0 hG hS rfl rfl (kX1_thrown hlf hk ) (cwV 0 C0.2.2.2.2 gL_law_X1_thrown rfl rfl rfl (by decide +kernel) ⟨(Nat.le_of_ble_eq_true rfl), (Nat.le_of_ble_eq_true rfl)⟩) rfl hl rfl (Nat.le_of_ble_eq_true rfl) dL_law_763 ⟨(by dsimp only [room_1]; omega), (by dsimp only [room_1]; omega)⟩ (fun H locs hG hS => ?_)
    refine lv_iload C0.1 C0.2.1 dL_law_766 (lv_at hl 1 rfl) ?_
    refine lv_icmp_eq (tgt := 773) C0.1 C0.2.1 dL_law_768 (by decide) (fun c_a => ?_) (fun c_a => ?_)
    · refine lv_iload C0.1 C0.2.1 dL_law_773 (lv_at hl 1 rfl) ?_
      refine tn_if_ne (tgt := 790) C0.1 C0.2.1 dL_law_775 (by decide) (by have hcm := cdS_le x1 n; omega) (fun c_c => ?_) (fun c_c => ?_)
      · exact absurd hcd (Nat.ne_of_gt c_c)
      · refine lv_aload_n C0.1 C0.2.1 dL_law_778 rfl (lv_at hl 5 rfl) ?_
        refine lv_iconst (v := nI 0) C0.1 C0.2.1 dL_law_779 (by decide) ?_
        refine tc_lald0 (q0 := 10) C0 hG rfl dL_law_780 ?_
        refine lv_topl (fun y8 e8 => ?_)
        have e9 : y8 = (nI (tk (ix x1))).toInt64 := e8.trans pk_uLs
        subst e9
        refine lv_iload C0.1 C0.2.1 dL_law_781 (lv_at hl 0 rfl) ?_
        refine lv_i2l C0.1 C0.2.1 dL_law_783 (v := (nI (tk (ix x1))).toInt64) rfl ?_
        refine W.lcmp C0.1 C0.2.1 dL_law_784 ?_
        refine tc_top (lg_self _) ?_
        refine tn_if_eq (tgt := 790) C0.1 C0.2.1 dL_law_785 (by decide) (by decide) (fun c_d => ?_) (fun c_d => absurd c_d (by decide))
        refine lv_goto (tgt := 1758) C0.1 C0.2.1 dL_law_790 (by decide) ?_
        refine lv_iinc (v := nI (i + 5)) (lv' := [(4, .int (nI (i + 5))), (6, .int (nI (tk (ix x1)))), (5, .int (nI (cdS x1 n))), (0, .ref b), (1, .ref h), (2, .ref g), (3, .ref o)]) C0.1 C0.2.1 dL_law_1758 hl (k := 6) rfl (nI_add i 5) (by decide) rfl (fun ls hl => ?_)
        refine lv_goto (tgt := 23) C0.1 C0.2.1 dL_law_1761 (by decide) ?_
        refine W.widen (k := 11 + (i + 5)) (n := 128 + 5 * (i + 5)) (by omega) (by omega) ?_
        have hG := hG.sub (ws' := wT h r1 r2 r3 r4 cI tk co cn wk n ho st ct sp ((o, tcO cJ (vp_updL fo 0 ((nI (tk (ix x1))).toInt64))) :: wM g q1 q2 q3 q4 cI (nI (cdS x1 n)) tk co cn wk n ho st ct sp [])) [5, 6, 7, 8, 9, 10, 0, 1, 2, 3, 4] (by decide) rfl rfl
        exact back tk co cn wk n ho st ct sp (nI (cdS x1 n)) (vp_updL fo 0 ((nI (tk (ix x1))).toInt64)) hk _ _ _ hG hS (lv_sub hl [3, 4, 5, 6, 0] rfl)
    · exact absurd rfl c_a
  · rw [if_neg hcd] at hG
    refine lv_aload_n C0.1 C0.2.1 dL_law_750 rfl (lv_at hl 3 rfl) ?_
    refine lv_aload_n C0.1 C0.2.1 dL_law_751 rfl (lv_at hl 1 rfl) ?_
    refine lv_iload C0.1 C0.2.1 dL_law_752 (lv_at hl 5 rfl) ?_
    refine lv_iconst (v := nI 1) C0.1 C0.2.1 dL_law_754 (by decide) ?_
    refine tn_iadd C0.1 C0.2.1 dL_law_755 ?_
    refine tc_sld C0 hX hbl hS (by omega) hL ex1 dL_law_756 ?_
    have hG := hG.sub (ws' := wM g q1 q2 q3 q4 cI th tk co cn wk n ho st ct sp (wT h r1 r2 r3 r4 cI tk co cn wk n ho st ct sp [(o, tcO cJ fo)])) [6, 7, 8, 9, 10, 0, 1, 2, 3, 4, 5] (by decide) rfl rfl
    refine tc_callV (q0 := 0) (rest := []) C0 hG hS rfl rfl (kX1_ticketOf hlf hk x1) (cwV 1 C0.2.2.2.2 gL_law_X1_ticketOf rfl rfl rfl (by decide +kernel) ⟨(Nat.le_of_ble_eq_true rfl), (Nat.le_of_ble_eq_true rfl)⟩) rfl hl rfl (Nat.le_of_ble_eq_true rfl) dL_law_757 ⟨(by dsimp only [room_1]; omega), (by dsimp only [room_1]; omega)⟩ (fun H locs hG hS => ?_)
    have hG : tcG D cI cJ s.heap.size (wM g q1 q2 q3 q4 cI (nI (cdS x1 n)) tk co cn wk n ho st ct sp (wT h r1 r2 r3 r4 cI tk co cn wk n ho st ct sp [(o, tcO cJ fo)])) s H := hG
    refine tc_top (y := nI 0) (if_neg hcd) ?_
    refine lv_istore (lv' := [(6, .int (nI 0)), (5, .int (nI (cdS x1 n))), (0, .ref b), (1, .ref h), (2, .ref g), (3, .ref o), (4, .int (nI i))]) C0.1 C0.2.1 dL_law_760 hl (by decide) rfl (fun ls hl => ?_)
    refine lv_aload_n C0.1 C0.2.1 dL_law_762 rfl (lv_at hl 4 rfl) ?_
    refine tc_callV (q0 := 0) (rest := []) C0 hG hS rfl rfl (kX1_thrown hlf hk ) (cwV 0 C0.2.2.2.2 gL_law_X1_thrown rfl rfl rfl (by decide +kernel) ⟨(Nat.le_of_ble_eq_true rfl), (Nat.le_of_ble_eq_true rfl)⟩) rfl hl rfl (Nat.le_of_ble_eq_true rfl) dL_law_763 ⟨(by dsimp only [room_1]; omega), (by dsimp only [room_1]; omega)⟩ (fun H locs hG hS => ?_)
    refine lv_iload C0.1 C0.2.1 dL_law_766 (lv_at hl 1 rfl) ?_
    refine lv_icmp_eq (tgt := 773) C0.1 C0.2.1 dL_law_768 (by decide) (fun c_a => ?_) (fun c_a => ?_)
    · refine lv_iload C0.1 C0.2.1 dL_law_773 (lv_at hl 1 rfl) ?_
      refine tn_if_ne (tgt := 790) C0.1 C0.2.1 dL_law_775 (by decide) (by have hcm := cdS_le x1 n; omega) (fun c_c => ?_) (fun c_c => ?_)
      · refine lv_goto (tgt := 1758) C0.1 C0.2.1 dL_law_790 (by decide) ?_
        refine lv_iinc (v := nI (i + 5)) (lv' := [(4, .int (nI (i + 5))), (6, .int (nI 0)), (5, .int (nI (cdS x1 n))), (0, .ref b), (1, .ref h), (2, .ref g), (3, .ref o)]) C0.1 C0.2.1 dL_law_1758 hl (k := 6) rfl (nI_add i 5) (by decide) rfl (fun ls hl => ?_)
        refine lv_goto (tgt := 23) C0.1 C0.2.1 dL_law_1761 (by decide) ?_
        refine W.widen (k := 11 + (i + 5)) (n := 128 + 5 * (i + 5)) (by omega) (by omega) ?_
        have hG := hG.sub (ws' := wT h r1 r2 r3 r4 cI tk co cn wk n ho st ct sp ((o, tcO cJ fo) :: wM g q1 q2 q3 q4 cI (nI (cdS x1 n)) tk co cn wk n ho st ct sp [])) [5, 6, 7, 8, 9, 10, 0, 1, 2, 3, 4] (by decide) rfl rfl
        exact back tk co cn wk n ho st ct sp (nI (cdS x1 n)) fo hk _ _ _ hG hS (lv_sub hl [3, 4, 5, 6, 0] rfl)
      · exact absurd c_c hcd
    · exact absurd rfl c_a
set_option maxHeartbeats 4000000 in
set_option maxRecDepth 100000 in
theorem law_case_13 {p : Program} {l : Launch} {e : Env} {s : State} {m : MethodId} {below : List Frame} {meth : Method} {c : Code} {b L : Nat} {xs : Nat → Int32} (hlf : l.stackTraces = false) (C0 : CallFix p m c cL_law 9 s #[Value.ref b] wsL_law RL) (hX : va_X b L xs s s.heap) (hbl : b < s.heap.size) (hL : L ≤ 2560) {D : va_G} {cI cJ : ClassId} {h r1 r2 r3 r4 o g q1 q2 q3 q4 : Nat} {tk co cn wk : Nat → Nat} {n st : Nat} {ho ct sp th : Int32} {fo : Nat → Int64} (hk : tOk tk co cn wk n st) {i : Nat} (hi : i + 5 ≤ L) {H : Heap} {locs : List Loc} {ls : Array Slot} (hG : tcG D cI cJ s.heap.size (wT h r1 r2 r3 r4 cI tk co cn wk n ho st ct sp ((o, tcO cJ fo) :: wM g q1 q2 q3 q4 cI th tk co cn wk n ho st ct sp [])) s H) (hS : va_S (tcA s.heap.size) s.heap H locs) (hl : lv_has ls 9 [(0, .ref b), (1, .ref h), (2, .ref g), (3, .ref o), (4, .int (nI i))])
    (back : ∀ (tk co cn wk : Nat → Nat) (n : Nat) (ho : Int32) (st : Nat) (ct sp th : Int32) (fo : Nat → Int64), tOk tk co cn wk n st → ∀ (H : Heap) (locs : List Loc) (ls : Array Slot), tcG D cI cJ s.heap.size (wT h r1 r2 r3 r4 cI tk co cn wk n ho st ct sp ((o, tcO cJ fo) :: wM g q1 q2 q3 q4 cI th tk co cn wk n ho st ct sp [])) s H → va_S (tcA s.heap.size) s.heap H locs → lv_has ls 9 [(0, .ref b), (1, .ref h), (2, .ref g), (3, .ref o), (4, .int (nI (i + 5)))] → W p l e room_1 s m #[Value.ref b] below meth c H locs (11 + (i + 5)) (128 + 5 * (i + 5)) (lw_Z below #[Value.ref b] s) (F0 m 23 ls [])) : W p l e room_1 s m #[Value.ref b] below meth c H locs (11 + i) (128 + 5 * i) (lw_Z below #[Value.ref b] s) (F0 m 793 ls []) := by
  obtain ⟨x1, ex1⟩ : ∃ y, y = xs (i + 1) := ⟨_, rfl⟩
  refine lv_aload_n C0.1 C0.2.1 dL_law_793 rfl (lv_at hl 1 rfl) ?_
  refine lv_aload_n C0.1 C0.2.1 dL_law_794 rfl (lv_at hl 0 rfl) ?_
  refine lv_iload C0.1 C0.2.1 dL_law_795 (lv_at hl 4 rfl) ?_
  refine lv_iconst (v := nI 1) C0.1 C0.2.1 dL_law_797 (by decide) ?_
  refine tn_iadd C0.1 C0.2.1 dL_law_798 ?_
  refine tc_sld C0 hX hbl hS (by omega) hL ex1 dL_law_799 ?_
  refine lv_aload_n C0.1 C0.2.1 dL_law_800 rfl (lv_at hl 3 rfl) ?_
  refine tc_callSW (rest := []) C0 hG hS (kL_colourOf hlf hk x1) (vx_cwSW 3 C0.2.2.2.2 gL_law_L_colourOf rfl rfl rfl (by decide +kernel) ⟨(Nat.le_of_ble_eq_true rfl), (Nat.le_of_ble_eq_true rfl)⟩) rfl hl rfl (Nat.le_of_ble_eq_true rfl) dL_law_801 ⟨(by dsimp only [room_1]; omega), (by dsimp only [room_1]; omega)⟩ (fun H locs hG hS => ?_)
  refine lv_istore (lv' := [(5, .int (nI (cdS x1 n))), (0, .ref b), (1, .ref h), (2, .ref g), (3, .ref o), (4, .int (nI i))]) C0.1 C0.2.1 dL_law_804 hl (by decide) rfl (fun ls hl => ?_)
  by_cases hcd : cdS x1 n = 0
  · rw [if_pos hcd] at hG
    refine lv_aload_n C0.1 C0.2.1 dL_law_806 rfl (lv_at hl 3 rfl) ?_
    refine lv_aload_n C0.1 C0.2.1 dL_law_807 rfl (lv_at hl 1 rfl) ?_
    refine lv_iload C0.1 C0.2.1 dL_law_808 (lv_at hl 5 rfl) ?_
    refine lv_iconst (v := nI 1) C0.1 C0.2.1 dL_law_810 (by decide) ?_
    refine tn_iadd C0.1 C0.2.1 dL_law_811 ?_
    refine tc_sld C0 hX hbl hS (by omega) hL ex1 dL_law_812 ?_
    have hG := hG.sub (ws' := wM g q1 q2 q3 q4 cI th tk co cn wk n ho st ct sp (wT h r1 r2 r3 r4 cI tk co cn wk n ho st ct sp [(o, tcO cJ (vp_updL fo 0 ((nI (co (ix x1))).toInt64)))])) [6, 7, 8, 9, 10, 0, 1, 2, 3, 4, 5] (by decide) rfl rfl
    refine tc_callV (q0 := 0) (rest := []) C0 hG hS rfl rfl (kX1_colourOf hlf hk x1) (cwV 1 C0.2.2.2.2 gL_law_X1_colourOf rfl rfl rfl (by decide +kernel) ⟨(Nat.le_of_ble_eq_true rfl), (Nat.le_of_ble_eq_true rfl)⟩) rfl hl rfl (Nat.le_of_ble_eq_true rfl) dL_law_813 ⟨(by dsimp only [room_1]; omega), (by dsimp only [room_1]; omega)⟩ (fun H locs hG hS => ?_)
    have hG : tcG D cI cJ s.heap.size (wM g q1 q2 q3 q4 cI (nI (cdS x1 n)) tk co cn wk n ho st ct sp (wT h r1 r2 r3 r4 cI tk co cn wk n ho st ct sp [(o, tcO cJ (vp_updL fo 0 ((nI (co (ix x1))).toInt64)))])) s H := hG
    refine tc_top (y := nI (co (ix x1))) (if_pos hcd) ?_
    refine lv_istore (lv' := [(6, .int (nI (co (ix x1)))), (5, .int (nI (cdS x1 n))), (0, .ref b), (1, .ref h), (2, .ref g), (3, .ref o), (4, .int (nI i))]) C0.1 C0.2.1 dL_law_816 hl (by decide) rfl (fun ls hl => ?_)
    refine lv_aload_n C0.1 C0.2.1 dL_law_818 rfl (lv_at hl 4 rfl) ?_
    refine tc_callV (q0 := 0) (rest := []) C0 hG hS rfl rfl (kX1_thrown hlf hk ) (cwV 0 C0.2.2.2.2 gL_law_X1_thrown rfl rfl rfl (by decide +kernel) ⟨(Nat.le_of_ble_eq_true rfl), (Nat.le_of_ble_eq_true rfl)⟩) rfl hl rfl (Nat.le_of_ble_eq_true rfl) dL_law_819 ⟨(by dsimp only [room_1]; omega), (by dsimp only [room_1]; omega)⟩ (fun H locs hG hS => ?_)
    refine lv_iload C0.1 C0.2.1 dL_law_822 (lv_at hl 1 rfl) ?_
    refine lv_icmp_eq (tgt := 829) C0.1 C0.2.1 dL_law_824 (by decide) (fun c_a => ?_) (fun c_a => ?_)
    · refine lv_iload C0.1 C0.2.1 dL_law_829 (lv_at hl 1 rfl) ?_
      refine tn_if_ne (tgt := 846) C0.1 C0.2.1 dL_law_831 (by decide) (by have hcm := cdS_le x1 n; omega) (fun c_c => ?_) (fun c_c => ?_)
      · exact absurd hcd (Nat.ne_of_gt c_c)
      · refine lv_aload_n C0.1 C0.2.1 dL_law_834 rfl (lv_at hl 5 rfl) ?_
        refine lv_iconst (v := nI 0) C0.1 C0.2.1 dL_law_835 (by decide) ?_
        refine tc_lald0 (q0 := 10) C0 hG rfl dL_law_836 ?_
        refine lv_topl (fun y8 e8 => ?_)
        have e9 : y8 = (nI (co (ix x1))).toInt64 := e8.trans pk_uLs
        subst e9
        refine lv_iload C0.1 C0.2.1 dL_law_837 (lv_at hl 0 rfl) ?_
        refine lv_i2l C0.1 C0.2.1 dL_law_839 (v := (nI (co (ix x1))).toInt64) rfl ?_
        refine W.lcmp C0.1 C0.2.1 dL_law_840 ?_
        refine tc_top (lg_self _) ?_
        refine tn_if_eq (tgt := 846) C0.1 C0.2.1 dL_law_841 (by decide) (by decide) (fun c_d => ?_) (fun c_d => absurd c_d (by decide))
        refine lv_goto (tgt := 1758) C0.1 C0.2.1 dL_law_846 (by decide) ?_
        refine lv_iinc (v := nI (i + 5)) (lv' := [(4, .int (nI (i + 5))), (6, .int (nI (co (ix x1)))), (5, .int (nI (cdS x1 n))), (0, .ref b), (1, .ref h), (2, .ref g), (3, .ref o)]) C0.1 C0.2.1 dL_law_1758 hl (k := 6) rfl (nI_add i 5) (by decide) rfl (fun ls hl => ?_)
        refine lv_goto (tgt := 23) C0.1 C0.2.1 dL_law_1761 (by decide) ?_
        refine W.widen (k := 11 + (i + 5)) (n := 128 + 5 * (i + 5)) (by omega) (by omega) ?_
        have hG := hG.sub (ws' := wT h r1 r2 r3 r4 cI tk co cn wk n ho st ct sp ((o, tcO cJ (vp_updL fo 0 ((nI (co (ix x1))).toInt64))) :: wM g q1 q2 q3 q4 cI (nI (cdS x1 n)) tk co cn wk n ho st ct sp [])) [5, 6, 7, 8, 9, 10, 0, 1, 2, 3, 4] (by decide) rfl rfl
        exact back tk co cn wk n ho st ct sp (nI (cdS x1 n)) (vp_updL fo 0 ((nI (co (ix x1))).toInt64)) hk _ _ _ hG hS (lv_sub hl [3, 4, 5, 6, 0] rfl)
    · exact absurd rfl c_a
  · rw [if_neg hcd] at hG
    refine lv_aload_n C0.1 C0.2.1 dL_law_806 rfl (lv_at hl 3 rfl) ?_
    refine lv_aload_n C0.1 C0.2.1 dL_law_807 rfl (lv_at hl 1 rfl) ?_
    refine lv_iload C0.1 C0.2.1 dL_law_808 (lv_at hl 5 rfl) ?_
    refine lv_iconst (v := nI 1) C0.1 C0.2.1 dL_law_810 (by decide) ?_
    refine tn_iadd C0.1 C0.2.1 dL_law_811 ?_
    refine tc_sld C0 hX hbl hS (by omega) hL ex1 dL_law_812 ?_
    have hG := hG.sub (ws' := wM g q1 q2 q3 q4 cI th tk co cn wk n ho st ct sp (wT h r1 r2 r3 r4 cI tk co cn wk n ho st ct sp [(o, tcO cJ fo)])) [6, 7, 8, 9, 10, 0, 1, 2, 3, 4, 5] (by decide) rfl rfl
    refine tc_callV (q0 := 0) (rest := []) C0 hG hS rfl rfl (kX1_colourOf hlf hk x1) (cwV 1 C0.2.2.2.2 gL_law_X1_colourOf rfl rfl rfl (by decide +kernel) ⟨(Nat.le_of_ble_eq_true rfl), (Nat.le_of_ble_eq_true rfl)⟩) rfl hl rfl (Nat.le_of_ble_eq_true rfl) dL_law_813 ⟨(by dsimp only [room_1]; omega), (by dsimp only [room_1]; omega)⟩ (fun H locs hG hS => ?_)
    have hG : tcG D cI cJ s.heap.size (wM g q1 q2 q3 q4 cI (nI (cdS x1 n)) tk co cn wk n ho st ct sp (wT h r1 r2 r3 r4 cI tk co cn wk n ho st ct sp [(o, tcO cJ fo)])) s H := hG
    refine tc_top (y := nI 0) (if_neg hcd) ?_
    refine lv_istore (lv' := [(6, .int (nI 0)), (5, .int (nI (cdS x1 n))), (0, .ref b), (1, .ref h), (2, .ref g), (3, .ref o), (4, .int (nI i))]) C0.1 C0.2.1 dL_law_816 hl (by decide) rfl (fun ls hl => ?_)
    refine lv_aload_n C0.1 C0.2.1 dL_law_818 rfl (lv_at hl 4 rfl) ?_
    refine tc_callV (q0 := 0) (rest := []) C0 hG hS rfl rfl (kX1_thrown hlf hk ) (cwV 0 C0.2.2.2.2 gL_law_X1_thrown rfl rfl rfl (by decide +kernel) ⟨(Nat.le_of_ble_eq_true rfl), (Nat.le_of_ble_eq_true rfl)⟩) rfl hl rfl (Nat.le_of_ble_eq_true rfl) dL_law_819 ⟨(by dsimp only [room_1]; omega), (by dsimp only [room_1]; omega)⟩ (fun H locs hG hS => ?_)
    refine lv_iload C0.1 C0.2.1 dL_law_822 (lv_at hl 1 rfl) ?_
    refine lv_icmp_eq (tgt := 829) C0.1 C0.2.1 dL_law_824 (by decide) (fun c_a => ?_) (fun c_a => ?_)
    · refine lv_iload C0.1 C0.2.1 dL_law_829 (lv_at hl 1 rfl) ?_
      refine tn_if_ne (tgt := 846) C0.1 C0.2.1 dL_law_831 (by decide) (by have hcm := cdS_le x1 n; omega) (fun c_c => ?_) (fun c_c => ?_)
      · refine lv_goto (tgt := 1758) C0.1 C0.2.1 dL_law_846 (by decide) ?_
        refine lv_iinc (v := nI (i + 5)) (lv' := [(4, .int (nI (i + 5))), (6, .int (nI 0)), (5, .int (nI (cdS x1 n))), (0, .ref b), (1, .ref h), (2, .ref g), (3, .ref o)]) C0.1 C0.2.1 dL_law_1758 hl (k := 6) rfl (nI_add i 5) (by decide) rfl (fun ls hl => ?_)
        refine lv_goto (tgt := 23) C0.1 C0.2.1 dL_law_1761 (by decide) ?_
        refine W.widen (k := 11 + (i + 5)) (n := 128 + 5 * (i + 5)) (by omega) (by omega) ?_
        have hG := hG.sub (ws' := wT h r1 r2 r3 r4 cI tk co cn wk n ho st ct sp ((o, tcO cJ fo) :: wM g q1 q2 q3 q4 cI (nI (cdS x1 n)) tk co cn wk n ho st ct sp [])) [5, 6, 7, 8, 9, 10, 0, 1, 2, 3, 4] (by decide) rfl rfl
        exact back tk co cn wk n ho st ct sp (nI (cdS x1 n)) fo hk _ _ _ hG hS (lv_sub hl [3, 4, 5, 6, 0] rfl)
      · exact absurd c_c hcd
    · exact absurd rfl c_a
set_option maxHeartbeats 4000000 in
set_option maxRecDepth 100000 in
theorem law_case_14 {p : Program} {l : Launch} {e : Env} {s : State} {m : MethodId} {below : List Frame} {meth : Method} {c : Code} {b L : Nat} {xs : Nat → Int32} (hlf : l.stackTraces = false) (C0 : CallFix p m c cL_law 9 s #[Value.ref b] wsL_law RL) (hX : va_X b L xs s s.heap) (hbl : b < s.heap.size) (hL : L ≤ 2560) {D : va_G} {cI cJ : ClassId} {h r1 r2 r3 r4 o g q1 q2 q3 q4 : Nat} {tk co cn wk : Nat → Nat} {n st : Nat} {ho ct sp th : Int32} {fo : Nat → Int64} (hk : tOk tk co cn wk n st) {i : Nat} (hi : i + 5 ≤ L) {H : Heap} {locs : List Loc} {ls : Array Slot} (hG : tcG D cI cJ s.heap.size (wT h r1 r2 r3 r4 cI tk co cn wk n ho st ct sp ((o, tcO cJ fo) :: wM g q1 q2 q3 q4 cI th tk co cn wk n ho st ct sp [])) s H) (hS : va_S (tcA s.heap.size) s.heap H locs) (hl : lv_has ls 9 [(0, .ref b), (1, .ref h), (2, .ref g), (3, .ref o), (4, .int (nI i))])
    (back : ∀ (tk co cn wk : Nat → Nat) (n : Nat) (ho : Int32) (st : Nat) (ct sp th : Int32) (fo : Nat → Int64), tOk tk co cn wk n st → ∀ (H : Heap) (locs : List Loc) (ls : Array Slot), tcG D cI cJ s.heap.size (wT h r1 r2 r3 r4 cI tk co cn wk n ho st ct sp ((o, tcO cJ fo) :: wM g q1 q2 q3 q4 cI th tk co cn wk n ho st ct sp [])) s H → va_S (tcA s.heap.size) s.heap H locs → lv_has ls 9 [(0, .ref b), (1, .ref h), (2, .ref g), (3, .ref o), (4, .int (nI (i + 5)))] → W p l e room_1 s m #[Value.ref b] below meth c H locs (11 + (i + 5)) (128 + 5 * (i + 5)) (lw_Z below #[Value.ref b] s) (F0 m 23 ls [])) : W p l e room_1 s m #[Value.ref b] below meth c H locs (11 + i) (128 + 5 * i) (lw_Z below #[Value.ref b] s) (F0 m 849 ls []) := by
  obtain ⟨x1, ex1⟩ : ∃ y, y = xs (i + 1) := ⟨_, rfl⟩
  refine lv_aload_n C0.1 C0.2.1 dL_law_849 rfl (lv_at hl 1 rfl) ?_
  refine lv_aload_n C0.1 C0.2.1 dL_law_850 rfl (lv_at hl 0 rfl) ?_
  refine lv_iload C0.1 C0.2.1 dL_law_851 (lv_at hl 4 rfl) ?_
  refine lv_iconst (v := nI 1) C0.1 C0.2.1 dL_law_853 (by decide) ?_
  refine tn_iadd C0.1 C0.2.1 dL_law_854 ?_
  refine tc_sld C0 hX hbl hS (by omega) hL ex1 dL_law_855 ?_
  refine lv_aload_n C0.1 C0.2.1 dL_law_856 rfl (lv_at hl 3 rfl) ?_
  refine tc_callSW (rest := []) C0 hG hS (kL_cornerOf hlf hk x1) (vx_cwSW 3 C0.2.2.2.2 gL_law_L_cornerOf rfl rfl rfl (by decide +kernel) ⟨(Nat.le_of_ble_eq_true rfl), (Nat.le_of_ble_eq_true rfl)⟩) rfl hl rfl (Nat.le_of_ble_eq_true rfl) dL_law_857 ⟨(by dsimp only [room_1]; omega), (by dsimp only [room_1]; omega)⟩ (fun H locs hG hS => ?_)
  refine lv_istore (lv' := [(5, .int (nI (cdS x1 n))), (0, .ref b), (1, .ref h), (2, .ref g), (3, .ref o), (4, .int (nI i))]) C0.1 C0.2.1 dL_law_860 hl (by decide) rfl (fun ls hl => ?_)
  by_cases hcd : cdS x1 n = 0
  · rw [if_pos hcd] at hG
    refine lv_aload_n C0.1 C0.2.1 dL_law_862 rfl (lv_at hl 3 rfl) ?_
    refine lv_aload_n C0.1 C0.2.1 dL_law_863 rfl (lv_at hl 1 rfl) ?_
    refine lv_iload C0.1 C0.2.1 dL_law_864 (lv_at hl 5 rfl) ?_
    refine lv_iconst (v := nI 1) C0.1 C0.2.1 dL_law_866 (by decide) ?_
    refine tn_iadd C0.1 C0.2.1 dL_law_867 ?_
    refine tc_sld C0 hX hbl hS (by omega) hL ex1 dL_law_868 ?_
    have hG := hG.sub (ws' := wM g q1 q2 q3 q4 cI th tk co cn wk n ho st ct sp (wT h r1 r2 r3 r4 cI tk co cn wk n ho st ct sp [(o, tcO cJ (vp_updL fo 0 ((nI (cn (ix x1))).toInt64)))])) [6, 7, 8, 9, 10, 0, 1, 2, 3, 4, 5] (by decide) rfl rfl
    refine tc_callV (q0 := 0) (rest := []) C0 hG hS rfl rfl (kX1_cornerOf hlf hk x1) (cwV 1 C0.2.2.2.2 gL_law_X1_cornerOf rfl rfl rfl (by decide +kernel) ⟨(Nat.le_of_ble_eq_true rfl), (Nat.le_of_ble_eq_true rfl)⟩) rfl hl rfl (Nat.le_of_ble_eq_true rfl) dL_law_869 ⟨(by dsimp only [room_1]; omega), (by dsimp only [room_1]; omega)⟩ (fun H locs hG hS => ?_)
    have hG : tcG D cI cJ s.heap.size (wM g q1 q2 q3 q4 cI (nI (cdS x1 n)) tk co cn wk n ho st ct sp (wT h r1 r2 r3 r4 cI tk co cn wk n ho st ct sp [(o, tcO cJ (vp_updL fo 0 ((nI (cn (ix x1))).toInt64)))])) s H := hG
    refine tc_top (y := nI (cn (ix x1))) (if_pos hcd) ?_
    refine lv_istore (lv' := [(6, .int (nI (cn (ix x1)))), (5, .int (nI (cdS x1 n))), (0, .ref b), (1, .ref h), (2, .ref g), (3, .ref o), (4, .int (nI i))]) C0.1 C0.2.1 dL_law_872 hl (by decide) rfl (fun ls hl => ?_)
    refine lv_aload_n C0.1 C0.2.1 dL_law_874 rfl (lv_at hl 4 rfl) ?_
    refine tc_callV (q0 := 0) (rest := []) C0 hG hS rfl rfl (kX1_thrown hlf hk ) (cwV 0 C0.2.2.2.2 gL_law_X1_thrown rfl rfl rfl (by decide +kernel) ⟨(Nat.le_of_ble_eq_true rfl), (Nat.le_of_ble_eq_true rfl)⟩) rfl hl rfl (Nat.le_of_ble_eq_true rfl) dL_law_875 ⟨(by dsimp only [room_1]; omega), (by dsimp only [room_1]; omega)⟩ (fun H locs hG hS => ?_)
    refine lv_iload C0.1 C0.2.1 dL_law_878 (lv_at hl 1 rfl) ?_
    refine lv_icmp_eq (tgt := 885) C0.1 C0.2.1 dL_law_880 (by decide) (fun c_a => ?_) (fun c_a => ?_)
    · refine lv_iload C0.1 C0.2.1 dL_law_885 (lv_at hl 1 rfl) ?_
      refine tn_if_ne (tgt := 902) C0.1 C0.2.1 dL_law_887 (by decide) (by have hcm := cdS_le x1 n; omega) (fun c_c => ?_) (fun c_c => ?_)
      · exact absurd hcd (Nat.ne_of_gt c_c)
      · refine lv_aload_n C0.1 C0.2.1 dL_law_890 rfl (lv_at hl 5 rfl) ?_
        refine lv_iconst (v := nI 0) C0.1 C0.2.1 dL_law_891 (by decide) ?_
        refine tc_lald0 (q0 := 10) C0 hG rfl dL_law_892 ?_
        refine lv_topl (fun y8 e8 => ?_)
        have e9 : y8 = (nI (cn (ix x1))).toInt64 := e8.trans pk_uLs
        subst e9
        refine lv_iload C0.1 C0.2.1 dL_law_893 (lv_at hl 0 rfl) ?_
        refine lv_i2l C0.1 C0.2.1 dL_law_895 (v := (nI (cn (ix x1))).toInt64) rfl ?_
        refine W.lcmp C0.1 C0.2.1 dL_law_896 ?_
        refine tc_top (lg_self _) ?_
        refine tn_if_eq (tgt := 902) C0.1 C0.2.1 dL_law_897 (by decide) (by decide) (fun c_d => ?_) (fun c_d => absurd c_d (by decide))
        refine lv_goto (tgt := 1758) C0.1 C0.2.1 dL_law_902 (by decide) ?_
        refine lv_iinc (v := nI (i + 5)) (lv' := [(4, .int (nI (i + 5))), (6, .int (nI (cn (ix x1)))), (5, .int (nI (cdS x1 n))), (0, .ref b), (1, .ref h), (2, .ref g), (3, .ref o)]) C0.1 C0.2.1 dL_law_1758 hl (k := 6) rfl (nI_add i 5) (by decide) rfl (fun ls hl => ?_)
        refine lv_goto (tgt := 23) C0.1 C0.2.1 dL_law_1761 (by decide) ?_
        refine W.widen (k := 11 + (i + 5)) (n := 128 + 5 * (i + 5)) (by omega) (by omega) ?_
        have hG := hG.sub (ws' := wT h r1 r2 r3 r4 cI tk co cn wk n ho st ct sp ((o, tcO cJ (vp_updL fo 0 ((nI (cn (ix x1))).toInt64))) :: wM g q1 q2 q3 q4 cI (nI (cdS x1 n)) tk co cn wk n ho st ct sp [])) [5, 6, 7, 8, 9, 10, 0, 1, 2, 3, 4] (by decide) rfl rfl
        exact back tk co cn wk n ho st ct sp (nI (cdS x1 n)) (vp_updL fo 0 ((nI (cn (ix x1))).toInt64)) hk _ _ _ hG hS (lv_sub hl [3, 4, 5, 6, 0] rfl)
    · exact absurd rfl c_a
  · rw [if_neg hcd] at hG
    refine lv_aload_n C0.1 C0.2.1 dL_law_862 rfl (lv_at hl 3 rfl) ?_
    refine lv_aload_n C0.1 C0.2.1 dL_law_863 rfl (lv_at hl 1 rfl) ?_
    refine lv_iload C0.1 C0.2.1 dL_law_864 (lv_at hl 5 rfl) ?_
    refine lv_iconst (v := nI 1) C0.1 C0.2.1 dL_law_866 (by decide) ?_
    refine tn_iadd C0.1 C0.2.1 dL_law_867 ?_
    refine tc_sld C0 hX hbl hS (by omega) hL ex1 dL_law_868 ?_
    have hG := hG.sub (ws' := wM g q1 q2 q3 q4 cI th tk co cn wk n ho st ct sp (wT h r1 r2 r3 r4 cI tk co cn wk n ho st ct sp [(o, tcO cJ fo)])) [6, 7, 8, 9, 10, 0, 1, 2, 3, 4, 5] (by decide) rfl rfl
    refine tc_callV (q0 := 0) (rest := []) C0 hG hS rfl rfl (kX1_cornerOf hlf hk x1) (cwV 1 C0.2.2.2.2 gL_law_X1_cornerOf rfl rfl rfl (by decide +kernel) ⟨(Nat.le_of_ble_eq_true rfl), (Nat.le_of_ble_eq_true rfl)⟩) rfl hl rfl (Nat.le_of_ble_eq_true rfl) dL_law_869 ⟨(by dsimp only [room_1]; omega), (by dsimp only [room_1]; omega)⟩ (fun H locs hG hS => ?_)
    have hG : tcG D cI cJ s.heap.size (wM g q1 q2 q3 q4 cI (nI (cdS x1 n)) tk co cn wk n ho st ct sp (wT h r1 r2 r3 r4 cI tk co cn wk n ho st ct sp [(o, tcO cJ fo)])) s H := hG
    refine tc_top (y := nI 0) (if_neg hcd) ?_
    refine lv_istore (lv' := [(6, .int (nI 0)), (5, .int (nI (cdS x1 n))), (0, .ref b), (1, .ref h), (2, .ref g), (3, .ref o), (4, .int (nI i))]) C0.1 C0.2.1 dL_law_872 hl (by decide) rfl (fun ls hl => ?_)
    refine lv_aload_n C0.1 C0.2.1 dL_law_874 rfl (lv_at hl 4 rfl) ?_
    refine tc_callV (q0 := 0) (rest := []) C0 hG hS rfl rfl (kX1_thrown hlf hk ) (cwV 0 C0.2.2.2.2 gL_law_X1_thrown rfl rfl rfl (by decide +kernel) ⟨(Nat.le_of_ble_eq_true rfl), (Nat.le_of_ble_eq_true rfl)⟩) rfl hl rfl (Nat.le_of_ble_eq_true rfl) dL_law_875 ⟨(by dsimp only [room_1]; omega), (by dsimp only [room_1]; omega)⟩ (fun H locs hG hS => ?_)
    refine lv_iload C0.1 C0.2.1 dL_law_878 (lv_at hl 1 rfl) ?_
    refine lv_icmp_eq (tgt := 885) C0.1 C0.2.1 dL_law_880 (by decide) (fun c_a => ?_) (fun c_a => ?_)
    · refine lv_iload C0.1 C0.2.1 dL_law_885 (lv_at hl 1 rfl) ?_
      refine tn_if_ne (tgt := 902) C0.1 C0.2.1 dL_law_887 (by decide) (by have hcm := cdS_le x1 n; omega) (fun c_c => ?_) (fun c_c => ?_)
      · refine lv_goto (tgt := 1758) C0.1 C0.2.1 dL_law_902 (by decide) ?_
        refine lv_iinc (v := nI (i + 5)) (lv' := [(4, .int (nI (i + 5))), (6, .int (nI 0)), (5, .int (nI (cdS x1 n))), (0, .ref b), (1, .ref h), (2, .ref g), (3, .ref o)]) C0.1 C0.2.1 dL_law_1758 hl (k := 6) rfl (nI_add i 5) (by decide) rfl (fun ls hl => ?_)
        refine lv_goto (tgt := 23) C0.1 C0.2.1 dL_law_1761 (by decide) ?_
        refine W.widen (k := 11 + (i + 5)) (n := 128 + 5 * (i + 5)) (by omega) (by omega) ?_
        have hG := hG.sub (ws' := wT h r1 r2 r3 r4 cI tk co cn wk n ho st ct sp ((o, tcO cJ fo) :: wM g q1 q2 q3 q4 cI (nI (cdS x1 n)) tk co cn wk n ho st ct sp [])) [5, 6, 7, 8, 9, 10, 0, 1, 2, 3, 4] (by decide) rfl rfl
        exact back tk co cn wk n ho st ct sp (nI (cdS x1 n)) fo hk _ _ _ hG hS (lv_sub hl [3, 4, 5, 6, 0] rfl)
      · exact absurd c_c hcd
    · exact absurd rfl c_a
set_option maxHeartbeats 4000000 in
set_option maxRecDepth 100000 in
theorem law_case_15 {p : Program} {l : Launch} {e : Env} {s : State} {m : MethodId} {below : List Frame} {meth : Method} {c : Code} {b L : Nat} {xs : Nat → Int32} (hlf : l.stackTraces = false) (C0 : CallFix p m c cL_law 9 s #[Value.ref b] wsL_law RL) (hX : va_X b L xs s s.heap) (hbl : b < s.heap.size) (hL : L ≤ 2560) {D : va_G} {cI cJ : ClassId} {h r1 r2 r3 r4 o g q1 q2 q3 q4 : Nat} {tk co cn wk : Nat → Nat} {n st : Nat} {ho ct sp th : Int32} {fo : Nat → Int64} (hk : tOk tk co cn wk n st) {i : Nat} (hi : i + 5 ≤ L) {H : Heap} {locs : List Loc} {ls : Array Slot} (hG : tcG D cI cJ s.heap.size (wT h r1 r2 r3 r4 cI tk co cn wk n ho st ct sp ((o, tcO cJ fo) :: wM g q1 q2 q3 q4 cI th tk co cn wk n ho st ct sp [])) s H) (hS : va_S (tcA s.heap.size) s.heap H locs) (hl : lv_has ls 9 [(0, .ref b), (1, .ref h), (2, .ref g), (3, .ref o), (4, .int (nI i))])
    (back : ∀ (tk co cn wk : Nat → Nat) (n : Nat) (ho : Int32) (st : Nat) (ct sp th : Int32) (fo : Nat → Int64), tOk tk co cn wk n st → ∀ (H : Heap) (locs : List Loc) (ls : Array Slot), tcG D cI cJ s.heap.size (wT h r1 r2 r3 r4 cI tk co cn wk n ho st ct sp ((o, tcO cJ fo) :: wM g q1 q2 q3 q4 cI th tk co cn wk n ho st ct sp [])) s H → va_S (tcA s.heap.size) s.heap H locs → lv_has ls 9 [(0, .ref b), (1, .ref h), (2, .ref g), (3, .ref o), (4, .int (nI (i + 5)))] → W p l e room_1 s m #[Value.ref b] below meth c H locs (11 + (i + 5)) (128 + 5 * (i + 5)) (lw_Z below #[Value.ref b] s) (F0 m 23 ls [])) : W p l e room_1 s m #[Value.ref b] below meth c H locs (11 + i) (128 + 5 * i) (lw_Z below #[Value.ref b] s) (F0 m 905 ls []) := by
  obtain ⟨x1, ex1⟩ : ∃ y, y = xs (i + 1) := ⟨_, rfl⟩
  refine lv_aload_n C0.1 C0.2.1 dL_law_905 rfl (lv_at hl 1 rfl) ?_
  refine lv_aload_n C0.1 C0.2.1 dL_law_906 rfl (lv_at hl 0 rfl) ?_
  refine lv_iload C0.1 C0.2.1 dL_law_907 (lv_at hl 4 rfl) ?_
  refine lv_iconst (v := nI 1) C0.1 C0.2.1 dL_law_909 (by decide) ?_
  refine tn_iadd C0.1 C0.2.1 dL_law_910 ?_
  refine tc_sld C0 hX hbl hS (by omega) hL ex1 dL_law_911 ?_
  refine lv_aload_n C0.1 C0.2.1 dL_law_912 rfl (lv_at hl 3 rfl) ?_
  refine tc_callSW (rest := []) C0 hG hS (kL_walkOf hlf hk x1) (vx_cwSW 3 C0.2.2.2.2 gL_law_L_walkOf rfl rfl rfl (by decide +kernel) ⟨(Nat.le_of_ble_eq_true rfl), (Nat.le_of_ble_eq_true rfl)⟩) rfl hl rfl (Nat.le_of_ble_eq_true rfl) dL_law_913 ⟨(by dsimp only [room_1]; omega), (by dsimp only [room_1]; omega)⟩ (fun H locs hG hS => ?_)
  refine lv_istore (lv' := [(5, .int (nI (cdS x1 n))), (0, .ref b), (1, .ref h), (2, .ref g), (3, .ref o), (4, .int (nI i))]) C0.1 C0.2.1 dL_law_916 hl (by decide) rfl (fun ls hl => ?_)
  by_cases hcd : cdS x1 n = 0
  · rw [if_pos hcd] at hG
    refine lv_aload_n C0.1 C0.2.1 dL_law_918 rfl (lv_at hl 3 rfl) ?_
    refine lv_aload_n C0.1 C0.2.1 dL_law_919 rfl (lv_at hl 1 rfl) ?_
    refine lv_iload C0.1 C0.2.1 dL_law_920 (lv_at hl 5 rfl) ?_
    refine lv_iconst (v := nI 1) C0.1 C0.2.1 dL_law_922 (by decide) ?_
    refine tn_iadd C0.1 C0.2.1 dL_law_923 ?_
    refine tc_sld C0 hX hbl hS (by omega) hL ex1 dL_law_924 ?_
    have hG := hG.sub (ws' := wM g q1 q2 q3 q4 cI th tk co cn wk n ho st ct sp (wT h r1 r2 r3 r4 cI tk co cn wk n ho st ct sp [(o, tcO cJ (vp_updL fo 0 ((nI (wk (ix x1))).toInt64)))])) [6, 7, 8, 9, 10, 0, 1, 2, 3, 4, 5] (by decide) rfl rfl
    refine tc_callV (q0 := 0) (rest := []) C0 hG hS rfl rfl (kX1_walkOf hlf hk x1) (cwV 1 C0.2.2.2.2 gL_law_X1_walkOf rfl rfl rfl (by decide +kernel) ⟨(Nat.le_of_ble_eq_true rfl), (Nat.le_of_ble_eq_true rfl)⟩) rfl hl rfl (Nat.le_of_ble_eq_true rfl) dL_law_925 ⟨(by dsimp only [room_1]; omega), (by dsimp only [room_1]; omega)⟩ (fun H locs hG hS => ?_)
    have hG : tcG D cI cJ s.heap.size (wM g q1 q2 q3 q4 cI (nI (cdS x1 n)) tk co cn wk n ho st ct sp (wT h r1 r2 r3 r4 cI tk co cn wk n ho st ct sp [(o, tcO cJ (vp_updL fo 0 ((nI (wk (ix x1))).toInt64)))])) s H := hG
    refine tc_top (y := nI (wk (ix x1))) (if_pos hcd) ?_
    refine lv_istore (lv' := [(6, .int (nI (wk (ix x1)))), (5, .int (nI (cdS x1 n))), (0, .ref b), (1, .ref h), (2, .ref g), (3, .ref o), (4, .int (nI i))]) C0.1 C0.2.1 dL_law_928 hl (by decide) rfl (fun ls hl => ?_)
    refine lv_aload_n C0.1 C0.2.1 dL_law_930 rfl (lv_at hl 4 rfl) ?_
    refine tc_callV (q0 := 0) (rest := []) C0 hG hS rfl rfl (kX1_thrown hlf hk ) (cwV 0 C0.2.2.2.2 gL_law_X1_thrown rfl rfl rfl (by decide +kernel) ⟨(Nat.le_of_ble_eq_true rfl), (Nat.le_of_ble_eq_true rfl)⟩) rfl hl rfl (Nat.le_of_ble_eq_true rfl) dL_law_931 ⟨(by dsimp only [room_1]; omega), (by dsimp only [room_1]; omega)⟩ (fun H locs hG hS => ?_)
    refine lv_iload C0.1 C0.2.1 dL_law_934 (lv_at hl 1 rfl) ?_
    refine lv_icmp_eq (tgt := 941) C0.1 C0.2.1 dL_law_936 (by decide) (fun c_a => ?_) (fun c_a => ?_)
    · refine lv_iload C0.1 C0.2.1 dL_law_941 (lv_at hl 1 rfl) ?_
      refine tn_if_ne (tgt := 958) C0.1 C0.2.1 dL_law_943 (by decide) (by have hcm := cdS_le x1 n; omega) (fun c_c => ?_) (fun c_c => ?_)
      · exact absurd hcd (Nat.ne_of_gt c_c)
      · refine lv_aload_n C0.1 C0.2.1 dL_law_946 rfl (lv_at hl 5 rfl) ?_
        refine lv_iconst (v := nI 0) C0.1 C0.2.1 dL_law_947 (by decide) ?_
        refine tc_lald0 (q0 := 10) C0 hG rfl dL_law_948 ?_
        refine lv_topl (fun y8 e8 => ?_)
        have e9 : y8 = (nI (wk (ix x1))).toInt64 := e8.trans pk_uLs
        subst e9
        refine lv_iload C0.1 C0.2.1 dL_law_949 (lv_at hl 0 rfl) ?_
        refine lv_i2l C0.1 C0.2.1 dL_law_951 (v := (nI (wk (ix x1))).toInt64) rfl ?_
        refine W.lcmp C0.1 C0.2.1 dL_law_952 ?_
        refine tc_top (lg_self _) ?_
        refine tn_if_eq (tgt := 958) C0.1 C0.2.1 dL_law_953 (by decide) (by decide) (fun c_d => ?_) (fun c_d => absurd c_d (by decide))
        refine lv_goto (tgt := 1758) C0.1 C0.2.1 dL_law_958 (by decide) ?_
        refine lv_iinc (v := nI (i + 5)) (lv' := [(4, .int (nI (i + 5))), (6, .int (nI (wk (ix x1)))), (5, .int (nI (cdS x1 n))), (0, .ref b), (1, .ref h), (2, .ref g), (3, .ref o)]) C0.1 C0.2.1 dL_law_1758 hl (k := 6) rfl (nI_add i 5) (by decide) rfl (fun ls hl => ?_)
        refine lv_goto (tgt := 23) C0.1 C0.2.1 dL_law_1761 (by decide) ?_
        refine W.widen (k := 11 + (i + 5)) (n := 128 + 5 * (i + 5)) (by omega) (by omega) ?_
        have hG := hG.sub (ws' := wT h r1 r2 r3 r4 cI tk co cn wk n ho st ct sp ((o, tcO cJ (vp_updL fo 0 ((nI (wk (ix x1))).toInt64))) :: wM g q1 q2 q3 q4 cI (nI (cdS x1 n)) tk co cn wk n ho st ct sp [])) [5, 6, 7, 8, 9, 10, 0, 1, 2, 3, 4] (by decide) rfl rfl
        exact back tk co cn wk n ho st ct sp (nI (cdS x1 n)) (vp_updL fo 0 ((nI (wk (ix x1))).toInt64)) hk _ _ _ hG hS (lv_sub hl [3, 4, 5, 6, 0] rfl)
    · exact absurd rfl c_a
  · rw [if_neg hcd] at hG
    refine lv_aload_n C0.1 C0.2.1 dL_law_918 rfl (lv_at hl 3 rfl) ?_
    refine lv_aload_n C0.1 C0.2.1 dL_law_919 rfl (lv_at hl 1 rfl) ?_
    refine lv_iload C0.1 C0.2.1 dL_law_920 (lv_at hl 5 rfl) ?_
    refine lv_iconst (v := nI 1) C0.1 C0.2.1 dL_law_922 (by decide) ?_
    refine tn_iadd C0.1 C0.2.1 dL_law_923 ?_
    refine tc_sld C0 hX hbl hS (by omega) hL ex1 dL_law_924 ?_
    have hG := hG.sub (ws' := wM g q1 q2 q3 q4 cI th tk co cn wk n ho st ct sp (wT h r1 r2 r3 r4 cI tk co cn wk n ho st ct sp [(o, tcO cJ fo)])) [6, 7, 8, 9, 10, 0, 1, 2, 3, 4, 5] (by decide) rfl rfl
    refine tc_callV (q0 := 0) (rest := []) C0 hG hS rfl rfl (kX1_walkOf hlf hk x1) (cwV 1 C0.2.2.2.2 gL_law_X1_walkOf rfl rfl rfl (by decide +kernel) ⟨(Nat.le_of_ble_eq_true rfl), (Nat.le_of_ble_eq_true rfl)⟩) rfl hl rfl (Nat.le_of_ble_eq_true rfl) dL_law_925 ⟨(by dsimp only [room_1]; omega), (by dsimp only [room_1]; omega)⟩ (fun H locs hG hS => ?_)
    have hG : tcG D cI cJ s.heap.size (wM g q1 q2 q3 q4 cI (nI (cdS x1 n)) tk co cn wk n ho st ct sp (wT h r1 r2 r3 r4 cI tk co cn wk n ho st ct sp [(o, tcO cJ fo)])) s H := hG
    refine tc_top (y := nI 0) (if_neg hcd) ?_
    refine lv_istore (lv' := [(6, .int (nI 0)), (5, .int (nI (cdS x1 n))), (0, .ref b), (1, .ref h), (2, .ref g), (3, .ref o), (4, .int (nI i))]) C0.1 C0.2.1 dL_law_928 hl (by decide) rfl (fun ls hl => ?_)
    refine lv_aload_n C0.1 C0.2.1 dL_law_930 rfl (lv_at hl 4 rfl) ?_
    refine tc_callV (q0 := 0) (rest := []) C0 hG hS rfl rfl (kX1_thrown hlf hk ) (cwV 0 C0.2.2.2.2 gL_law_X1_thrown rfl rfl rfl (by decide +kernel) ⟨(Nat.le_of_ble_eq_true rfl), (Nat.le_of_ble_eq_true rfl)⟩) rfl hl rfl (Nat.le_of_ble_eq_true rfl) dL_law_931 ⟨(by dsimp only [room_1]; omega), (by dsimp only [room_1]; omega)⟩ (fun H locs hG hS => ?_)
    refine lv_iload C0.1 C0.2.1 dL_law_934 (lv_at hl 1 rfl) ?_
    refine lv_icmp_eq (tgt := 941) C0.1 C0.2.1 dL_law_936 (by decide) (fun c_a => ?_) (fun c_a => ?_)
    · refine lv_iload C0.1 C0.2.1 dL_law_941 (lv_at hl 1 rfl) ?_
      refine tn_if_ne (tgt := 958) C0.1 C0.2.1 dL_law_943 (by decide) (by have hcm := cdS_le x1 n; omega) (fun c_c => ?_) (fun c_c => ?_)
      · refine lv_goto (tgt := 1758) C0.1 C0.2.1 dL_law_958 (by decide) ?_
        refine lv_iinc (v := nI (i + 5)) (lv' := [(4, .int (nI (i + 5))), (6, .int (nI 0)), (5, .int (nI (cdS x1 n))), (0, .ref b), (1, .ref h), (2, .ref g), (3, .ref o)]) C0.1 C0.2.1 dL_law_1758 hl (k := 6) rfl (nI_add i 5) (by decide) rfl (fun ls hl => ?_)
        refine lv_goto (tgt := 23) C0.1 C0.2.1 dL_law_1761 (by decide) ?_
        refine W.widen (k := 11 + (i + 5)) (n := 128 + 5 * (i + 5)) (by omega) (by omega) ?_
        have hG := hG.sub (ws' := wT h r1 r2 r3 r4 cI tk co cn wk n ho st ct sp ((o, tcO cJ fo) :: wM g q1 q2 q3 q4 cI (nI (cdS x1 n)) tk co cn wk n ho st ct sp [])) [5, 6, 7, 8, 9, 10, 0, 1, 2, 3, 4] (by decide) rfl rfl
        exact back tk co cn wk n ho st ct sp (nI (cdS x1 n)) fo hk _ _ _ hG hS (lv_sub hl [3, 4, 5, 6, 0] rfl)
      · exact absurd c_c hcd
    · exact absurd rfl c_a
set_option maxHeartbeats 4000000 in
set_option maxRecDepth 100000 in
theorem law_case_16 {p : Program} {l : Launch} {e : Env} {s : State} {m : MethodId} {below : List Frame} {meth : Method} {c : Code} {b L : Nat} {xs : Nat → Int32} (hlf : l.stackTraces = false) (C0 : CallFix p m c cL_law 9 s #[Value.ref b] wsL_law RL) (hX : va_X b L xs s s.heap) (hbl : b < s.heap.size) (hL : L ≤ 2560) {D : va_G} {cI cJ : ClassId} {h r1 r2 r3 r4 o g q1 q2 q3 q4 : Nat} {tk co cn wk : Nat → Nat} {n st : Nat} {ho ct sp th : Int32} {fo : Nat → Int64} (hk : tOk tk co cn wk n st) {i : Nat} (hi : i + 5 ≤ L) {H : Heap} {locs : List Loc} {ls : Array Slot} (hG : tcG D cI cJ s.heap.size (wT h r1 r2 r3 r4 cI tk co cn wk n ho st ct sp ((o, tcO cJ fo) :: wM g q1 q2 q3 q4 cI th tk co cn wk n ho st ct sp [])) s H) (hS : va_S (tcA s.heap.size) s.heap H locs) (hl : lv_has ls 9 [(0, .ref b), (1, .ref h), (2, .ref g), (3, .ref o), (4, .int (nI i))])
    (back : ∀ (tk co cn wk : Nat → Nat) (n : Nat) (ho : Int32) (st : Nat) (ct sp th : Int32) (fo : Nat → Int64), tOk tk co cn wk n st → ∀ (H : Heap) (locs : List Loc) (ls : Array Slot), tcG D cI cJ s.heap.size (wT h r1 r2 r3 r4 cI tk co cn wk n ho st ct sp ((o, tcO cJ fo) :: wM g q1 q2 q3 q4 cI th tk co cn wk n ho st ct sp [])) s H → va_S (tcA s.heap.size) s.heap H locs → lv_has ls 9 [(0, .ref b), (1, .ref h), (2, .ref g), (3, .ref o), (4, .int (nI (i + 5)))] → W p l e room_1 s m #[Value.ref b] below meth c H locs (11 + (i + 5)) (128 + 5 * (i + 5)) (lw_Z below #[Value.ref b] s) (F0 m 23 ls [])) : W p l e room_1 s m #[Value.ref b] below meth c H locs (11 + i) (128 + 5 * i) (lw_Z below #[Value.ref b] s) (F0 m 961 ls []) := by
  obtain ⟨x1, ex1⟩ : ∃ y, y = xs (i + 1) := ⟨_, rfl⟩
  refine lv_aload_n C0.1 C0.2.1 dL_law_961 rfl (lv_at hl 1 rfl) ?_
  refine lv_aload_n C0.1 C0.2.1 dL_law_962 rfl (lv_at hl 0 rfl) ?_
  refine lv_iload C0.1 C0.2.1 dL_law_963 (lv_at hl 4 rfl) ?_
  refine lv_iconst (v := nI 1) C0.1 C0.2.1 dL_law_965 (by decide) ?_
  refine tn_iadd C0.1 C0.2.1 dL_law_966 ?_
  refine tc_sld C0 hX hbl hS (by omega) hL ex1 dL_law_967 ?_
  refine lv_aload_n C0.1 C0.2.1 dL_law_968 rfl (lv_at hl 3 rfl) ?_
  refine tc_callSW (rest := []) C0 hG hS (kL_peopleAt hlf hk x1) (vx_cwSW 3 C0.2.2.2.2 gL_law_L_peopleAt rfl rfl rfl (by decide +kernel) ⟨(Nat.le_of_ble_eq_true rfl), (Nat.le_of_ble_eq_true rfl)⟩) rfl hl rfl (Nat.le_of_ble_eq_true rfl) dL_law_969 ⟨(by dsimp only [room_1]; omega), (by dsimp only [room_1]; omega)⟩ (fun H locs hG hS => ?_)
  refine lv_istore (lv' := [(5, .int (nI (cdS x1 6))), (0, .ref b), (1, .ref h), (2, .ref g), (3, .ref o), (4, .int (nI i))]) C0.1 C0.2.1 dL_law_972 hl (by decide) rfl (fun ls hl => ?_)
  by_cases hcd : cdS x1 6 = 0
  · rw [if_pos hcd] at hG
    refine lv_aload_n C0.1 C0.2.1 dL_law_974 rfl (lv_at hl 3 rfl) ?_
    refine lv_aload_n C0.1 C0.2.1 dL_law_975 rfl (lv_at hl 1 rfl) ?_
    refine lv_iload C0.1 C0.2.1 dL_law_976 (lv_at hl 5 rfl) ?_
    refine lv_iconst (v := nI 1) C0.1 C0.2.1 dL_law_978 (by decide) ?_
    refine tn_iadd C0.1 C0.2.1 dL_law_979 ?_
    refine tc_sld C0 hX hbl hS (by omega) hL ex1 dL_law_980 ?_
    have hG := hG.sub (ws' := wM g q1 q2 q3 q4 cI th tk co cn wk n ho st ct sp (wT h r1 r2 r3 r4 cI tk co cn wk n ho st ct sp [(o, tcO cJ (vp_updL fo 0 ((nI (crowd cn (ix x1) n)).toInt64)))])) [6, 7, 8, 9, 10, 0, 1, 2, 3, 4, 5] (by decide) rfl rfl
    refine tc_callV (q0 := 0) (rest := []) C0 hG hS rfl rfl (kX1_peopleAt hlf hk x1) (cwV 1 C0.2.2.2.2 gL_law_X1_peopleAt rfl rfl rfl (by decide +kernel) ⟨(Nat.le_of_ble_eq_true rfl), (Nat.le_of_ble_eq_true rfl)⟩) rfl hl rfl (Nat.le_of_ble_eq_true rfl) dL_law_981 ⟨(by dsimp only [room_1]; omega), (by dsimp only [room_1]; omega)⟩ (fun H locs hG hS => ?_)
    have hG : tcG D cI cJ s.heap.size (wM g q1 q2 q3 q4 cI (nI (cdS x1 6)) tk co cn wk n ho st ct sp (wT h r1 r2 r3 r4 cI tk co cn wk n ho st ct sp [(o, tcO cJ (vp_updL fo 0 ((nI (crowd cn (ix x1) n)).toInt64)))])) s H := hG
    refine tc_top (y := nI (crowd cn (ix x1) n)) (if_pos hcd) ?_
    refine lv_istore (lv' := [(6, .int (nI (crowd cn (ix x1) n))), (5, .int (nI (cdS x1 6))), (0, .ref b), (1, .ref h), (2, .ref g), (3, .ref o), (4, .int (nI i))]) C0.1 C0.2.1 dL_law_984 hl (by decide) rfl (fun ls hl => ?_)
    refine lv_aload_n C0.1 C0.2.1 dL_law_986 rfl (lv_at hl 4 rfl) ?_
    refine tc_callV (q0 := 0) (rest := []) C0 hG hS rfl rfl (kX1_thrown hlf hk ) (cwV 0 C0.2.2.2.2 gL_law_X1_thrown rfl rfl rfl (by decide +kernel) ⟨(Nat.le_of_ble_eq_true rfl), (Nat.le_of_ble_eq_true rfl)⟩) rfl hl rfl (Nat.le_of_ble_eq_true rfl) dL_law_987 ⟨(by dsimp only [room_1]; omega), (by dsimp only [room_1]; omega)⟩ (fun H locs hG hS => ?_)
    refine lv_iload C0.1 C0.2.1 dL_law_990 (lv_at hl 1 rfl) ?_
    refine lv_icmp_eq (tgt := 997) C0.1 C0.2.1 dL_law_992 (by decide) (fun c_a => ?_) (fun c_a => ?_)
    · refine lv_iload C0.1 C0.2.1 dL_law_997 (lv_at hl 1 rfl) ?_
      refine tn_if_ne (tgt := 1014) C0.1 C0.2.1 dL_law_999 (by decide) (by have hcm := cdS_le x1 6; omega) (fun c_c => ?_) (fun c_c => ?_)
      · exact absurd hcd (Nat.ne_of_gt c_c)
      · refine lv_aload_n C0.1 C0.2.1 dL_law_1002 rfl (lv_at hl 5 rfl) ?_
        refine lv_iconst (v := nI 0) C0.1 C0.2.1 dL_law_1003 (by decide) ?_
        refine tc_lald0 (q0 := 10) C0 hG rfl dL_law_1004 ?_
        refine lv_topl (fun y8 e8 => ?_)
        have e9 : y8 = (nI (crowd cn (ix x1) n)).toInt64 := e8.trans pk_uLs
        subst e9
        refine lv_iload C0.1 C0.2.1 dL_law_1005 (lv_at hl 0 rfl) ?_
        refine lv_i2l C0.1 C0.2.1 dL_law_1007 (v := (nI (crowd cn (ix x1) n)).toInt64) rfl ?_
        refine W.lcmp C0.1 C0.2.1 dL_law_1008 ?_
        refine tc_top (lg_self _) ?_
        refine tn_if_eq (tgt := 1014) C0.1 C0.2.1 dL_law_1009 (by decide) (by decide) (fun c_d => ?_) (fun c_d => absurd c_d (by decide))
        refine lv_goto (tgt := 1758) C0.1 C0.2.1 dL_law_1014 (by decide) ?_
        refine lv_iinc (v := nI (i + 5)) (lv' := [(4, .int (nI (i + 5))), (6, .int (nI (crowd cn (ix x1) n))), (5, .int (nI (cdS x1 6))), (0, .ref b), (1, .ref h), (2, .ref g), (3, .ref o)]) C0.1 C0.2.1 dL_law_1758 hl (k := 6) rfl (nI_add i 5) (by decide) rfl (fun ls hl => ?_)
        refine lv_goto (tgt := 23) C0.1 C0.2.1 dL_law_1761 (by decide) ?_
        refine W.widen (k := 11 + (i + 5)) (n := 128 + 5 * (i + 5)) (by omega) (by omega) ?_
        have hG := hG.sub (ws' := wT h r1 r2 r3 r4 cI tk co cn wk n ho st ct sp ((o, tcO cJ (vp_updL fo 0 ((nI (crowd cn (ix x1) n)).toInt64))) :: wM g q1 q2 q3 q4 cI (nI (cdS x1 6)) tk co cn wk n ho st ct sp [])) [5, 6, 7, 8, 9, 10, 0, 1, 2, 3, 4] (by decide) rfl rfl
        exact back tk co cn wk n ho st ct sp (nI (cdS x1 6)) (vp_updL fo 0 ((nI (crowd cn (ix x1) n)).toInt64)) hk _ _ _ hG hS (lv_sub hl [3, 4, 5, 6, 0] rfl)
    · exact absurd rfl c_a
  · rw [if_neg hcd] at hG
    refine lv_aload_n C0.1 C0.2.1 dL_law_974 rfl (lv_at hl 3 rfl) ?_
    refine lv_aload_n C0.1 C0.2.1 dL_law_975 rfl (lv_at hl 1 rfl) ?_
    refine lv_iload C0.1 C0.2.1 dL_law_976 (lv_at hl 5 rfl) ?_
    refine lv_iconst (v := nI 1) C0.1 C0.2.1 dL_law_978 (by decide) ?_
    refine tn_iadd C0.1 C0.2.1 dL_law_979 ?_
    refine tc_sld C0 hX hbl hS (by omega) hL ex1 dL_law_980 ?_
    have hG := hG.sub (ws' := wM g q1 q2 q3 q4 cI th tk co cn wk n ho st ct sp (wT h r1 r2 r3 r4 cI tk co cn wk n ho st ct sp [(o, tcO cJ fo)])) [6, 7, 8, 9, 10, 0, 1, 2, 3, 4, 5] (by decide) rfl rfl
    refine tc_callV (q0 := 0) (rest := []) C0 hG hS rfl rfl (kX1_peopleAt hlf hk x1) (cwV 1 C0.2.2.2.2 gL_law_X1_peopleAt rfl rfl rfl (by decide +kernel) ⟨(Nat.le_of_ble_eq_true rfl), (Nat.le_of_ble_eq_true rfl)⟩) rfl hl rfl (Nat.le_of_ble_eq_true rfl) dL_law_981 ⟨(by dsimp only [room_1]; omega), (by dsimp only [room_1]; omega)⟩ (fun H locs hG hS => ?_)
    have hG : tcG D cI cJ s.heap.size (wM g q1 q2 q3 q4 cI (nI (cdS x1 6)) tk co cn wk n ho st ct sp (wT h r1 r2 r3 r4 cI tk co cn wk n ho st ct sp [(o, tcO cJ fo)])) s H := hG
    refine tc_top (y := nI 0) (if_neg hcd) ?_
    refine lv_istore (lv' := [(6, .int (nI 0)), (5, .int (nI (cdS x1 6))), (0, .ref b), (1, .ref h), (2, .ref g), (3, .ref o), (4, .int (nI i))]) C0.1 C0.2.1 dL_law_984 hl (by decide) rfl (fun ls hl => ?_)
    refine lv_aload_n C0.1 C0.2.1 dL_law_986 rfl (lv_at hl 4 rfl) ?_
    refine tc_callV (q0 := 0) (rest := []) C0 hG hS rfl rfl (kX1_thrown hlf hk ) (cwV 0 C0.2.2.2.2 gL_law_X1_thrown rfl rfl rfl (by decide +kernel) ⟨(Nat.le_of_ble_eq_true rfl), (Nat.le_of_ble_eq_true rfl)⟩) rfl hl rfl (Nat.le_of_ble_eq_true rfl) dL_law_987 ⟨(by dsimp only [room_1]; omega), (by dsimp only [room_1]; omega)⟩ (fun H locs hG hS => ?_)
    refine lv_iload C0.1 C0.2.1 dL_law_990 (lv_at hl 1 rfl) ?_
    refine lv_icmp_eq (tgt := 997) C0.1 C0.2.1 dL_law_992 (by decide) (fun c_a => ?_) (fun c_a => ?_)
    · refine lv_iload C0.1 C0.2.1 dL_law_997 (lv_at hl 1 rfl) ?_
      refine tn_if_ne (tgt := 1014) C0.1 C0.2.1 dL_law_999 (by decide) (by have hcm := cdS_le x1 6; omega) (fun c_c => ?_) (fun c_c => ?_)
      · refine lv_goto (tgt := 1758) C0.1 C0.2.1 dL_law_1014 (by decide) ?_
        refine lv_iinc (v := nI (i + 5)) (lv' := [(4, .int (nI (i + 5))), (6, .int (nI 0)), (5, .int (nI (cdS x1 6))), (0, .ref b), (1, .ref h), (2, .ref g), (3, .ref o)]) C0.1 C0.2.1 dL_law_1758 hl (k := 6) rfl (nI_add i 5) (by decide) rfl (fun ls hl => ?_)
        refine lv_goto (tgt := 23) C0.1 C0.2.1 dL_law_1761 (by decide) ?_
        refine W.widen (k := 11 + (i + 5)) (n := 128 + 5 * (i + 5)) (by omega) (by omega) ?_
        have hG := hG.sub (ws' := wT h r1 r2 r3 r4 cI tk co cn wk n ho st ct sp ((o, tcO cJ fo) :: wM g q1 q2 q3 q4 cI (nI (cdS x1 6)) tk co cn wk n ho st ct sp [])) [5, 6, 7, 8, 9, 10, 0, 1, 2, 3, 4] (by decide) rfl rfl
        exact back tk co cn wk n ho st ct sp (nI (cdS x1 6)) fo hk _ _ _ hG hS (lv_sub hl [3, 4, 5, 6, 0] rfl)
      · exact absurd c_c hcd
    · exact absurd rfl c_a
set_option maxHeartbeats 4000000 in
set_option maxRecDepth 100000 in
theorem law_case_17 {p : Program} {l : Launch} {e : Env} {s : State} {m : MethodId} {below : List Frame} {meth : Method} {c : Code} {b L : Nat} {xs : Nat → Int32} (hlf : l.stackTraces = false) (C0 : CallFix p m c cL_law 9 s #[Value.ref b] wsL_law RL) (hX : va_X b L xs s s.heap) (hbl : b < s.heap.size) (hL : L ≤ 2560) {D : va_G} {cI cJ : ClassId} {h r1 r2 r3 r4 o g q1 q2 q3 q4 : Nat} {tk co cn wk : Nat → Nat} {n st : Nat} {ho ct sp th : Int32} {fo : Nat → Int64} (hk : tOk tk co cn wk n st) {i : Nat} (hi : i + 5 ≤ L) {H : Heap} {locs : List Loc} {ls : Array Slot} (hG : tcG D cI cJ s.heap.size (wT h r1 r2 r3 r4 cI tk co cn wk n ho st ct sp ((o, tcO cJ fo) :: wM g q1 q2 q3 q4 cI th tk co cn wk n ho st ct sp [])) s H) (hS : va_S (tcA s.heap.size) s.heap H locs) (hl : lv_has ls 9 [(0, .ref b), (1, .ref h), (2, .ref g), (3, .ref o), (4, .int (nI i))])
    (back : ∀ (tk co cn wk : Nat → Nat) (n : Nat) (ho : Int32) (st : Nat) (ct sp th : Int32) (fo : Nat → Int64), tOk tk co cn wk n st → ∀ (H : Heap) (locs : List Loc) (ls : Array Slot), tcG D cI cJ s.heap.size (wT h r1 r2 r3 r4 cI tk co cn wk n ho st ct sp ((o, tcO cJ fo) :: wM g q1 q2 q3 q4 cI th tk co cn wk n ho st ct sp [])) s H → va_S (tcA s.heap.size) s.heap H locs → lv_has ls 9 [(0, .ref b), (1, .ref h), (2, .ref g), (3, .ref o), (4, .int (nI (i + 5)))] → W p l e room_1 s m #[Value.ref b] below meth c H locs (11 + (i + 5)) (128 + 5 * (i + 5)) (lw_Z below #[Value.ref b] s) (F0 m 23 ls [])) : W p l e room_1 s m #[Value.ref b] below meth c H locs (11 + i) (128 + 5 * i) (lw_Z below #[Value.ref b] s) (F0 m 1017 ls []) := by
  obtain ⟨x1, ex1⟩ : ∃ y, y = xs (i + 1) := ⟨_, rfl⟩
  obtain ⟨x2, ex2⟩ : ∃ y, y = xs (i + 2) := ⟨_, rfl⟩
  refine lv_aload_n C0.1 C0.2.1 dL_law_1017 rfl (lv_at hl 1 rfl) ?_
  refine lv_aload_n C0.1 C0.2.1 dL_law_1018 rfl (lv_at hl 0 rfl) ?_
  refine lv_iload C0.1 C0.2.1 dL_law_1019 (lv_at hl 4 rfl) ?_
  refine lv_iconst (v := nI 1) C0.1 C0.2.1 dL_law_1021 (by decide) ?_
  refine tn_iadd C0.1 C0.2.1 dL_law_1022 ?_
  refine tc_sld C0 hX hbl hS (by omega) hL ex1 dL_law_1023 ?_
  refine lv_aload_n C0.1 C0.2.1 dL_law_1024 rfl (lv_at hl 0 rfl) ?_
  refine lv_iload C0.1 C0.2.1 dL_law_1025 (lv_at hl 4 rfl) ?_
  refine lv_iconst (v := nI 2) C0.1 C0.2.1 dL_law_1027 (by decide) ?_
  refine tn_iadd C0.1 C0.2.1 dL_law_1028 ?_
  refine tc_sld C0 hX hbl hS (by omega) hL ex2 dL_law_1029 ?_
  refine lv_aload_n C0.1 C0.2.1 dL_law_1030 rfl (lv_at hl 3 rfl) ?_
  refine tc_callSW (rest := []) C0 hG hS (kL_pointsOf hlf hk x1 x2) (vx_cwSW 4 C0.2.2.2.2 gL_law_L_pointsOf rfl rfl rfl (by decide +kernel) ⟨(Nat.le_of_ble_eq_true rfl), (Nat.le_of_ble_eq_true rfl)⟩) rfl hl rfl (Nat.le_of_ble_eq_true rfl) dL_law_1031 ⟨(by dsimp only [room_1]; omega), (by dsimp only [room_1]; omega)⟩ (fun H locs hG hS => ?_)
  refine lv_istore (lv' := [(5, .int (nI (cdP x1 x2 n))), (0, .ref b), (1, .ref h), (2, .ref g), (3, .ref o), (4, .int (nI i))]) C0.1 C0.2.1 dL_law_1034 hl (by decide) rfl (fun ls hl => ?_)
  by_cases hcd : cdP x1 x2 n = 0
  · rw [if_pos hcd] at hG
    refine lv_aload_n C0.1 C0.2.1 dL_law_1036 rfl (lv_at hl 3 rfl) ?_
    refine lv_aload_n C0.1 C0.2.1 dL_law_1037 rfl (lv_at hl 1 rfl) ?_
    refine lv_iload C0.1 C0.2.1 dL_law_1038 (lv_at hl 5 rfl) ?_
    refine lv_iconst (v := nI 1) C0.1 C0.2.1 dL_law_1040 (by decide) ?_
    refine tn_iadd C0.1 C0.2.1 dL_law_1041 ?_
    refine tc_sld C0 hX hbl hS (by omega) hL ex1 dL_law_1042 ?_
    refine lv_aload_n C0.1 C0.2.1 dL_law_1043 rfl (lv_at hl 1 rfl) ?_
    refine lv_iload C0.1 C0.2.1 dL_law_1044 (lv_at hl 5 rfl) ?_
    refine lv_iconst (v := nI 2) C0.1 C0.2.1 dL_law_1046 (by decide) ?_
    refine tn_iadd C0.1 C0.2.1 dL_law_1047 ?_
    refine tc_sld C0 hX hbl hS (by omega) hL ex2 dL_law_1048 ?_
    have hG := hG.sub (ws' := wM g q1 q2 q3 q4 cI th tk co cn wk n ho st ct sp (wT h r1 r2 r3 r4 cI tk co cn wk n ho st ct sp [(o, tcO cJ (vp_updL fo 0 ((nI (pts tk co (ix x1) (ix x2))).toInt64)))])) [6, 7, 8, 9, 10, 0, 1, 2, 3, 4, 5] (by decide) rfl rfl
    refine tc_callV (q0 := 0) (rest := []) C0 hG hS rfl rfl (kX1_pointsOf hlf hk x1 x2) (cwV 2 C0.2.2.2.2 gL_law_X1_pointsOf rfl rfl rfl (by decide +kernel) ⟨(Nat.le_of_ble_eq_true rfl), (Nat.le_of_ble_eq_true rfl)⟩) rfl hl rfl (Nat.le_of_ble_eq_true rfl) dL_law_1049 ⟨(by dsimp only [room_1]; omega), (by dsimp only [room_1]; omega)⟩ (fun H locs hG hS => ?_)
    have hG : tcG D cI cJ s.heap.size (wM g q1 q2 q3 q4 cI (nI (cdP x1 x2 n)) tk co cn wk n ho st ct sp (wT h r1 r2 r3 r4 cI tk co cn wk n ho st ct sp [(o, tcO cJ (vp_updL fo 0 ((nI (pts tk co (ix x1) (ix x2))).toInt64)))])) s H := hG
    refine tc_top (y := nI (pts tk co (ix x1) (ix x2))) (if_pos hcd) ?_
    refine lv_istore (lv' := [(6, .int (nI (pts tk co (ix x1) (ix x2)))), (5, .int (nI (cdP x1 x2 n))), (0, .ref b), (1, .ref h), (2, .ref g), (3, .ref o), (4, .int (nI i))]) C0.1 C0.2.1 dL_law_1052 hl (by decide) rfl (fun ls hl => ?_)
    refine lv_aload_n C0.1 C0.2.1 dL_law_1054 rfl (lv_at hl 4 rfl) ?_
    refine tc_callV (q0 := 0) (rest := []) C0 hG hS rfl rfl (kX1_thrown hlf hk ) (cwV 0 C0.2.2.2.2 gL_law_X1_thrown rfl rfl rfl (by decide +kernel) ⟨(Nat.le_of_ble_eq_true rfl), (Nat.le_of_ble_eq_true rfl)⟩) rfl hl rfl (Nat.le_of_ble_eq_true rfl) dL_law_1055 ⟨(by dsimp only [room_1]; omega), (by dsimp only [room_1]; omega)⟩ (fun H locs hG hS => ?_)
    refine lv_iload C0.1 C0.2.1 dL_law_1058 (lv_at hl 1 rfl) ?_
    refine lv_icmp_eq (tgt := 1065) C0.1 C0.2.1 dL_law_1060 (by decide) (fun c_a => ?_) (fun c_a => ?_)
    · refine lv_iload C0.1 C0.2.1 dL_law_1065 (lv_at hl 1 rfl) ?_
      refine tn_if_ne (tgt := 1082) C0.1 C0.2.1 dL_law_1067 (by decide) (by have hcm := cdP_le x1 x2 n; omega) (fun c_c => ?_) (fun c_c => ?_)
      · exact absurd hcd (Nat.ne_of_gt c_c)
      · refine lv_aload_n C0.1 C0.2.1 dL_law_1070 rfl (lv_at hl 5 rfl) ?_
        refine lv_iconst (v := nI 0) C0.1 C0.2.1 dL_law_1071 (by decide) ?_
        refine tc_lald0 (q0 := 10) C0 hG rfl dL_law_1072 ?_
        refine lv_topl (fun y8 e8 => ?_)
        have e9 : y8 = (nI (pts tk co (ix x1) (ix x2))).toInt64 := e8.trans pk_uLs
        subst e9
        refine lv_iload C0.1 C0.2.1 dL_law_1073 (lv_at hl 0 rfl) ?_
        refine lv_i2l C0.1 C0.2.1 dL_law_1075 (v := (nI (pts tk co (ix x1) (ix x2))).toInt64) rfl ?_
        refine W.lcmp C0.1 C0.2.1 dL_law_1076 ?_
        refine tc_top (lg_self _) ?_
        refine tn_if_eq (tgt := 1082) C0.1 C0.2.1 dL_law_1077 (by decide) (by decide) (fun c_d => ?_) (fun c_d => absurd c_d (by decide))
        refine lv_goto (tgt := 1758) C0.1 C0.2.1 dL_law_1082 (by decide) ?_
        refine lv_iinc (v := nI (i + 5)) (lv' := [(4, .int (nI (i + 5))), (6, .int (nI (pts tk co (ix x1) (ix x2)))), (5, .int (nI (cdP x1 x2 n))), (0, .ref b), (1, .ref h), (2, .ref g), (3, .ref o)]) C0.1 C0.2.1 dL_law_1758 hl (k := 6) rfl (nI_add i 5) (by decide) rfl (fun ls hl => ?_)
        refine lv_goto (tgt := 23) C0.1 C0.2.1 dL_law_1761 (by decide) ?_
        refine W.widen (k := 11 + (i + 5)) (n := 128 + 5 * (i + 5)) (by omega) (by omega) ?_
        have hG := hG.sub (ws' := wT h r1 r2 r3 r4 cI tk co cn wk n ho st ct sp ((o, tcO cJ (vp_updL fo 0 ((nI (pts tk co (ix x1) (ix x2))).toInt64))) :: wM g q1 q2 q3 q4 cI (nI (cdP x1 x2 n)) tk co cn wk n ho st ct sp [])) [5, 6, 7, 8, 9, 10, 0, 1, 2, 3, 4] (by decide) rfl rfl
        exact back tk co cn wk n ho st ct sp (nI (cdP x1 x2 n)) (vp_updL fo 0 ((nI (pts tk co (ix x1) (ix x2))).toInt64)) hk _ _ _ hG hS (lv_sub hl [3, 4, 5, 6, 0] rfl)
    · exact absurd rfl c_a
  · rw [if_neg hcd] at hG
    refine lv_aload_n C0.1 C0.2.1 dL_law_1036 rfl (lv_at hl 3 rfl) ?_
    refine lv_aload_n C0.1 C0.2.1 dL_law_1037 rfl (lv_at hl 1 rfl) ?_
    refine lv_iload C0.1 C0.2.1 dL_law_1038 (lv_at hl 5 rfl) ?_
    refine lv_iconst (v := nI 1) C0.1 C0.2.1 dL_law_1040 (by decide) ?_
    refine tn_iadd C0.1 C0.2.1 dL_law_1041 ?_
    refine tc_sld C0 hX hbl hS (by omega) hL ex1 dL_law_1042 ?_
    refine lv_aload_n C0.1 C0.2.1 dL_law_1043 rfl (lv_at hl 1 rfl) ?_
    refine lv_iload C0.1 C0.2.1 dL_law_1044 (lv_at hl 5 rfl) ?_
    refine lv_iconst (v := nI 2) C0.1 C0.2.1 dL_law_1046 (by decide) ?_
    refine tn_iadd C0.1 C0.2.1 dL_law_1047 ?_
    refine tc_sld C0 hX hbl hS (by omega) hL ex2 dL_law_1048 ?_
    have hG := hG.sub (ws' := wM g q1 q2 q3 q4 cI th tk co cn wk n ho st ct sp (wT h r1 r2 r3 r4 cI tk co cn wk n ho st ct sp [(o, tcO cJ fo)])) [6, 7, 8, 9, 10, 0, 1, 2, 3, 4, 5] (by decide) rfl rfl
    refine tc_callV (q0 := 0) (rest := []) C0 hG hS rfl rfl (kX1_pointsOf hlf hk x1 x2) (cwV 2 C0.2.2.2.2 gL_law_X1_pointsOf rfl rfl rfl (by decide +kernel) ⟨(Nat.le_of_ble_eq_true rfl), (Nat.le_of_ble_eq_true rfl)⟩) rfl hl rfl (Nat.le_of_ble_eq_true rfl) dL_law_1049 ⟨(by dsimp only [room_1]; omega), (by dsimp only [room_1]; omega)⟩ (fun H locs hG hS => ?_)
    have hG : tcG D cI cJ s.heap.size (wM g q1 q2 q3 q4 cI (nI (cdP x1 x2 n)) tk co cn wk n ho st ct sp (wT h r1 r2 r3 r4 cI tk co cn wk n ho st ct sp [(o, tcO cJ fo)])) s H := hG
    refine tc_top (y := nI 0) (if_neg hcd) ?_
    refine lv_istore (lv' := [(6, .int (nI 0)), (5, .int (nI (cdP x1 x2 n))), (0, .ref b), (1, .ref h), (2, .ref g), (3, .ref o), (4, .int (nI i))]) C0.1 C0.2.1 dL_law_1052 hl (by decide) rfl (fun ls hl => ?_)
    refine lv_aload_n C0.1 C0.2.1 dL_law_1054 rfl (lv_at hl 4 rfl) ?_
    refine tc_callV (q0 := 0) (rest := []) C0 hG hS rfl rfl (kX1_thrown hlf hk ) (cwV 0 C0.2.2.2.2 gL_law_X1_thrown rfl rfl rfl (by decide +kernel) ⟨(Nat.le_of_ble_eq_true rfl), (Nat.le_of_ble_eq_true rfl)⟩) rfl hl rfl (Nat.le_of_ble_eq_true rfl) dL_law_1055 ⟨(by dsimp only [room_1]; omega), (by dsimp only [room_1]; omega)⟩ (fun H locs hG hS => ?_)
    refine lv_iload C0.1 C0.2.1 dL_law_1058 (lv_at hl 1 rfl) ?_
    refine lv_icmp_eq (tgt := 1065) C0.1 C0.2.1 dL_law_1060 (by decide) (fun c_a => ?_) (fun c_a => ?_)
    · refine lv_iload C0.1 C0.2.1 dL_law_1065 (lv_at hl 1 rfl) ?_
      refine tn_if_ne (tgt := 1082) C0.1 C0.2.1 dL_law_1067 (by decide) (by have hcm := cdP_le x1 x2 n; omega) (fun c_c => ?_) (fun c_c => ?_)
      · refine lv_goto (tgt := 1758) C0.1 C0.2.1 dL_law_1082 (by decide) ?_
        refine lv_iinc (v := nI (i + 5)) (lv' := [(4, .int (nI (i + 5))), (6, .int (nI 0)), (5, .int (nI (cdP x1 x2 n))), (0, .ref b), (1, .ref h), (2, .ref g), (3, .ref o)]) C0.1 C0.2.1 dL_law_1758 hl (k := 6) rfl (nI_add i 5) (by decide) rfl (fun ls hl => ?_)
        refine lv_goto (tgt := 23) C0.1 C0.2.1 dL_law_1761 (by decide) ?_
        refine W.widen (k := 11 + (i + 5)) (n := 128 + 5 * (i + 5)) (by omega) (by omega) ?_
        have hG := hG.sub (ws' := wT h r1 r2 r3 r4 cI tk co cn wk n ho st ct sp ((o, tcO cJ fo) :: wM g q1 q2 q3 q4 cI (nI (cdP x1 x2 n)) tk co cn wk n ho st ct sp [])) [5, 6, 7, 8, 9, 10, 0, 1, 2, 3, 4] (by decide) rfl rfl
        exact back tk co cn wk n ho st ct sp (nI (cdP x1 x2 n)) fo hk _ _ _ hG hS (lv_sub hl [3, 4, 5, 6, 0] rfl)
      · exact absurd c_c hcd
    · exact absurd rfl c_a
set_option maxHeartbeats 4000000 in
set_option maxRecDepth 100000 in
theorem law_case_18 {p : Program} {l : Launch} {e : Env} {s : State} {m : MethodId} {below : List Frame} {meth : Method} {c : Code} {b L : Nat} {xs : Nat → Int32} (hlf : l.stackTraces = false) (C0 : CallFix p m c cL_law 9 s #[Value.ref b] wsL_law RL) (hX : va_X b L xs s s.heap) (hbl : b < s.heap.size) (hL : L ≤ 2560) {D : va_G} {cI cJ : ClassId} {h r1 r2 r3 r4 o g q1 q2 q3 q4 : Nat} {tk co cn wk : Nat → Nat} {n st : Nat} {ho ct sp th : Int32} {fo : Nat → Int64} (hk : tOk tk co cn wk n st) {i : Nat} (hi : i + 5 ≤ L) {H : Heap} {locs : List Loc} {ls : Array Slot} (hG : tcG D cI cJ s.heap.size (wT h r1 r2 r3 r4 cI tk co cn wk n ho st ct sp ((o, tcO cJ fo) :: wM g q1 q2 q3 q4 cI th tk co cn wk n ho st ct sp [])) s H) (hS : va_S (tcA s.heap.size) s.heap H locs) (hl : lv_has ls 9 [(0, .ref b), (1, .ref h), (2, .ref g), (3, .ref o), (4, .int (nI i))])
    (back : ∀ (tk co cn wk : Nat → Nat) (n : Nat) (ho : Int32) (st : Nat) (ct sp th : Int32) (fo : Nat → Int64), tOk tk co cn wk n st → ∀ (H : Heap) (locs : List Loc) (ls : Array Slot), tcG D cI cJ s.heap.size (wT h r1 r2 r3 r4 cI tk co cn wk n ho st ct sp ((o, tcO cJ fo) :: wM g q1 q2 q3 q4 cI th tk co cn wk n ho st ct sp [])) s H → va_S (tcA s.heap.size) s.heap H locs → lv_has ls 9 [(0, .ref b), (1, .ref h), (2, .ref g), (3, .ref o), (4, .int (nI (i + 5)))] → W p l e room_1 s m #[Value.ref b] below meth c H locs (11 + (i + 5)) (128 + 5 * (i + 5)) (lw_Z below #[Value.ref b] s) (F0 m 23 ls [])) : W p l e room_1 s m #[Value.ref b] below meth c H locs (11 + i) (128 + 5 * i) (lw_Z below #[Value.ref b] s) (F0 m 1085 ls []) := by
  obtain ⟨x1, ex1⟩ : ∃ y, y = xs (i + 1) := ⟨_, rfl⟩
  obtain ⟨x2, ex2⟩ : ∃ y, y = xs (i + 2) := ⟨_, rfl⟩
  refine lv_aload_n C0.1 C0.2.1 dL_law_1085 rfl (lv_at hl 1 rfl) ?_
  refine lv_aload_n C0.1 C0.2.1 dL_law_1086 rfl (lv_at hl 0 rfl) ?_
  refine lv_iload C0.1 C0.2.1 dL_law_1087 (lv_at hl 4 rfl) ?_
  refine lv_iconst (v := nI 1) C0.1 C0.2.1 dL_law_1089 (by decide) ?_
  refine tn_iadd C0.1 C0.2.1 dL_law_1090 ?_
  refine tc_sld C0 hX hbl hS (by omega) hL ex1 dL_law_1091 ?_
  refine lv_aload_n C0.1 C0.2.1 dL_law_1092 rfl (lv_at hl 0 rfl) ?_
  refine lv_iload C0.1 C0.2.1 dL_law_1093 (lv_at hl 4 rfl) ?_
  refine lv_iconst (v := nI 2) C0.1 C0.2.1 dL_law_1095 (by decide) ?_
  refine tn_iadd C0.1 C0.2.1 dL_law_1096 ?_
  refine tc_sld C0 hX hbl hS (by omega) hL ex2 dL_law_1097 ?_
  refine lv_aload_n C0.1 C0.2.1 dL_law_1098 rfl (lv_at hl 3 rfl) ?_
  refine tc_callSW (rest := []) C0 hG hS (kL_areTogether hlf hk x1 x2) (vx_cwSW 4 C0.2.2.2.2 gL_law_L_areTogether rfl rfl rfl (by decide +kernel) ⟨(Nat.le_of_ble_eq_true rfl), (Nat.le_of_ble_eq_true rfl)⟩) rfl hl rfl (Nat.le_of_ble_eq_true rfl) dL_law_1099 ⟨(by dsimp only [room_1]; omega), (by dsimp only [room_1]; omega)⟩ (fun H locs hG hS => ?_)
  refine lv_istore (lv' := [(5, .int (nI (cdP x1 x2 n))), (0, .ref b), (1, .ref h), (2, .ref g), (3, .ref o), (4, .int (nI i))]) C0.1 C0.2.1 dL_law_1102 hl (by decide) rfl (fun ls hl => ?_)
  by_cases hcd : cdP x1 x2 n = 0
  · rw [if_pos hcd] at hG
    refine lv_aload_n C0.1 C0.2.1 dL_law_1104 rfl (lv_at hl 3 rfl) ?_
    refine lv_aload_n C0.1 C0.2.1 dL_law_1105 rfl (lv_at hl 1 rfl) ?_
    refine lv_iload C0.1 C0.2.1 dL_law_1106 (lv_at hl 5 rfl) ?_
    refine lv_iconst (v := nI 1) C0.1 C0.2.1 dL_law_1108 (by decide) ?_
    refine tn_iadd C0.1 C0.2.1 dL_law_1109 ?_
    refine tc_sld C0 hX hbl hS (by omega) hL ex1 dL_law_1110 ?_
    refine lv_aload_n C0.1 C0.2.1 dL_law_1111 rfl (lv_at hl 1 rfl) ?_
    refine lv_iload C0.1 C0.2.1 dL_law_1112 (lv_at hl 5 rfl) ?_
    refine lv_iconst (v := nI 2) C0.1 C0.2.1 dL_law_1114 (by decide) ?_
    refine tn_iadd C0.1 C0.2.1 dL_law_1115 ?_
    refine tc_sld C0 hX hbl hS (by omega) hL ex2 dL_law_1116 ?_
    have hG := hG.sub (ws' := wM g q1 q2 q3 q4 cI th tk co cn wk n ho st ct sp (wT h r1 r2 r3 r4 cI tk co cn wk n ho st ct sp [(o, tcO cJ (vp_updL fo 0 (lB (decide (cn (ix x1) = cn (ix x2))))))])) [6, 7, 8, 9, 10, 0, 1, 2, 3, 4, 5] (by decide) rfl rfl
    refine tc_callV (q0 := 0) (rest := []) C0 hG hS rfl rfl (kX1_areTogether hlf hk x1 x2) (cwV 2 C0.2.2.2.2 gL_law_X1_areTogether rfl rfl rfl (by decide +kernel) ⟨(Nat.le_of_ble_eq_true rfl), (Nat.le_of_ble_eq_true rfl)⟩) rfl hl rfl (Nat.le_of_ble_eq_true rfl) dL_law_1117 ⟨(by dsimp only [room_1]; omega), (by dsimp only [room_1]; omega)⟩ (fun H locs hG hS => ?_)
    have hG : tcG D cI cJ s.heap.size (wM g q1 q2 q3 q4 cI (nI (cdP x1 x2 n)) tk co cn wk n ho st ct sp (wT h r1 r2 r3 r4 cI tk co cn wk n ho st ct sp [(o, tcO cJ (vp_updL fo 0 (lB (decide (cn (ix x1) = cn (ix x2))))))])) s H := hG
    refine lv_istore (lv' := [(6, .int (nI (b2n (decide (cdP x1 x2 n = 0 ∧ cn (ix x1) = cn (ix x2)))))), (5, .int (nI (cdP x1 x2 n))), (0, .ref b), (1, .ref h), (2, .ref g), (3, .ref o), (4, .int (nI i))]) C0.1 C0.2.1 dL_law_1120 hl (by decide) rfl (fun ls hl => ?_)
    refine lv_aload_n C0.1 C0.2.1 dL_law_1122 rfl (lv_at hl 4 rfl) ?_
    refine tc_callV (q0 := 0) (rest := []) C0 hG hS rfl rfl (kX1_thrown hlf hk ) (cwV 0 C0.2.2.2.2 gL_law_X1_thrown rfl rfl rfl (by decide +kernel) ⟨(Nat.le_of_ble_eq_true rfl), (Nat.le_of_ble_eq_true rfl)⟩) rfl hl rfl (Nat.le_of_ble_eq_true rfl) dL_law_1123 ⟨(by dsimp only [room_1]; omega), (by dsimp only [room_1]; omega)⟩ (fun H locs hG hS => ?_)
    refine lv_iload C0.1 C0.2.1 dL_law_1126 (lv_at hl 1 rfl) ?_
    refine lv_icmp_eq (tgt := 1133) C0.1 C0.2.1 dL_law_1128 (by decide) (fun c_a => ?_) (fun c_a => ?_)
    · refine lv_iload C0.1 C0.2.1 dL_law_1133 (lv_at hl 1 rfl) ?_
      refine tn_if_ne (tgt := 1157) C0.1 C0.2.1 dL_law_1135 (by decide) (by have hcm := cdP_le x1 x2 n; omega) (fun c_c => ?_) (fun c_c => ?_)
      · exact absurd hcd (Nat.ne_of_gt c_c)
      · refine lv_aload_n C0.1 C0.2.1 dL_law_1138 rfl (lv_at hl 5 rfl) ?_
        refine lv_iconst (v := nI 0) C0.1 C0.2.1 dL_law_1139 (by decide) ?_
        refine tc_lald0 (q0 := 10) C0 hG rfl dL_law_1140 ?_
        refine lv_topl (fun y8 e8 => ?_)
        have e9 : y8 = lB (decide (cn (ix x1) = cn (ix x2))) := e8.trans pk_uLs
        subst e9
        refine lv_iload C0.1 C0.2.1 dL_law_1141 (lv_at hl 0 rfl) ?_
        refine tb_if_eq (tgt := 1150) C0.1 C0.2.1 dL_law_1143 (by decide) (fun c_b => ?_) (fun c_b => ?_)
        · refine lv_lconst C0.1 C0.2.1 dL_law_1150 (v := lB (decide (cn (ix x1) = cn (ix x2)))) (by unfold lB; first | (rw [if_neg (lb_neg c_b hcd)]; decide) | (rw [if_neg (lbm_neg c_b hcd)]; decide)) ?_
          refine W.lcmp C0.1 C0.2.1 dL_law_1151 ?_
          refine tc_top (lg_self _) ?_
          refine tn_if_eq (tgt := 1157) C0.1 C0.2.1 dL_law_1152 (by decide) (by decide) (fun c_d => ?_) (fun c_d => absurd c_d (by decide))
          refine lv_goto (tgt := 1758) C0.1 C0.2.1 dL_law_1157 (by decide) ?_
          refine lv_iinc (v := nI (i + 5)) (lv' := [(4, .int (nI (i + 5))), (6, .int (nI (b2n (decide (cdP x1 x2 n = 0 ∧ cn (ix x1) = cn (ix x2)))))), (5, .int (nI (cdP x1 x2 n))), (0, .ref b), (1, .ref h), (2, .ref g), (3, .ref o)]) C0.1 C0.2.1 dL_law_1758 hl (k := 6) rfl (nI_add i 5) (by decide) rfl (fun ls hl => ?_)
          refine lv_goto (tgt := 23) C0.1 C0.2.1 dL_law_1761 (by decide) ?_
          refine W.widen (k := 11 + (i + 5)) (n := 128 + 5 * (i + 5)) (by omega) (by omega) ?_
          have hG := hG.sub (ws' := wT h r1 r2 r3 r4 cI tk co cn wk n ho st ct sp ((o, tcO cJ (vp_updL fo 0 (lB (decide (cn (ix x1) = cn (ix x2)))))) :: wM g q1 q2 q3 q4 cI (nI (cdP x1 x2 n)) tk co cn wk n ho st ct sp [])) [5, 6, 7, 8, 9, 10, 0, 1, 2, 3, 4] (by decide) rfl rfl
          exact back tk co cn wk n ho st ct sp (nI (cdP x1 x2 n)) (vp_updL fo 0 (lB (decide (cn (ix x1) = cn (ix x2))))) hk _ _ _ hG hS (lv_sub hl [3, 4, 5, 6, 0] rfl)
        · refine lv_lconst C0.1 C0.2.1 dL_law_1146 (v := lB (decide (cn (ix x1) = cn (ix x2)))) (by unfold lB; first | (rw [if_pos (lb_pos c_b)]; decide) | (rw [if_pos (lbm_pos c_b)]; decide)) ?_
          refine lv_goto (tgt := 1151) C0.1 C0.2.1 dL_law_1147 (by decide) ?_
          refine W.lcmp C0.1 C0.2.1 dL_law_1151 ?_
          refine tc_top (lg_self _) ?_
          refine tn_if_eq (tgt := 1157) C0.1 C0.2.1 dL_law_1152 (by decide) (by decide) (fun c_d => ?_) (fun c_d => absurd c_d (by decide))
          refine lv_goto (tgt := 1758) C0.1 C0.2.1 dL_law_1157 (by decide) ?_
          refine lv_iinc (v := nI (i + 5)) (lv' := [(4, .int (nI (i + 5))), (6, .int (nI (b2n (decide (cdP x1 x2 n = 0 ∧ cn (ix x1) = cn (ix x2)))))), (5, .int (nI (cdP x1 x2 n))), (0, .ref b), (1, .ref h), (2, .ref g), (3, .ref o)]) C0.1 C0.2.1 dL_law_1758 hl (k := 6) rfl (nI_add i 5) (by decide) rfl (fun ls hl => ?_)
          refine lv_goto (tgt := 23) C0.1 C0.2.1 dL_law_1761 (by decide) ?_
          refine W.widen (k := 11 + (i + 5)) (n := 128 + 5 * (i + 5)) (by omega) (by omega) ?_
          have hG := hG.sub (ws' := wT h r1 r2 r3 r4 cI tk co cn wk n ho st ct sp ((o, tcO cJ (vp_updL fo 0 (lB (decide (cn (ix x1) = cn (ix x2)))))) :: wM g q1 q2 q3 q4 cI (nI (cdP x1 x2 n)) tk co cn wk n ho st ct sp [])) [5, 6, 7, 8, 9, 10, 0, 1, 2, 3, 4] (by decide) rfl rfl
          exact back tk co cn wk n ho st ct sp (nI (cdP x1 x2 n)) (vp_updL fo 0 (lB (decide (cn (ix x1) = cn (ix x2))))) hk _ _ _ hG hS (lv_sub hl [3, 4, 5, 6, 0] rfl)
    · exact absurd rfl c_a
  · rw [if_neg hcd] at hG
    refine lv_aload_n C0.1 C0.2.1 dL_law_1104 rfl (lv_at hl 3 rfl) ?_
    refine lv_aload_n C0.1 C0.2.1 dL_law_1105 rfl (lv_at hl 1 rfl) ?_
    refine lv_iload C0.1 C0.2.1 dL_law_1106 (lv_at hl 5 rfl) ?_
    refine lv_iconst (v := nI 1) C0.1 C0.2.1 dL_law_1108 (by decide) ?_
    refine tn_iadd C0.1 C0.2.1 dL_law_1109 ?_
    refine tc_sld C0 hX hbl hS (by omega) hL ex1 dL_law_1110 ?_
    refine lv_aload_n C0.1 C0.2.1 dL_law_1111 rfl (lv_at hl 1 rfl) ?_
    refine lv_iload C0.1 C0.2.1 dL_law_1112 (lv_at hl 5 rfl) ?_
    refine lv_iconst (v := nI 2) C0.1 C0.2.1 dL_law_1114 (by decide) ?_
    refine tn_iadd C0.1 C0.2.1 dL_law_1115 ?_
    refine tc_sld C0 hX hbl hS (by omega) hL ex2 dL_law_1116 ?_
    have hG := hG.sub (ws' := wM g q1 q2 q3 q4 cI th tk co cn wk n ho st ct sp (wT h r1 r2 r3 r4 cI tk co cn wk n ho st ct sp [(o, tcO cJ fo)])) [6, 7, 8, 9, 10, 0, 1, 2, 3, 4, 5] (by decide) rfl rfl
    refine tc_callV (q0 := 0) (rest := []) C0 hG hS rfl rfl (kX1_areTogether hlf hk x1 x2) (cwV 2 C0.2.2.2.2 gL_law_X1_areTogether rfl rfl rfl (by decide +kernel) ⟨(Nat.le_of_ble_eq_true rfl), (Nat.le_of_ble_eq_true rfl)⟩) rfl hl rfl (Nat.le_of_ble_eq_true rfl) dL_law_1117 ⟨(by dsimp only [room_1]; omega), (by dsimp only [room_1]; omega)⟩ (fun H locs hG hS => ?_)
    have hG : tcG D cI cJ s.heap.size (wM g q1 q2 q3 q4 cI (nI (cdP x1 x2 n)) tk co cn wk n ho st ct sp (wT h r1 r2 r3 r4 cI tk co cn wk n ho st ct sp [(o, tcO cJ fo)])) s H := hG
    refine lv_istore (lv' := [(6, .int (nI (b2n (decide (cdP x1 x2 n = 0 ∧ cn (ix x1) = cn (ix x2)))))), (5, .int (nI (cdP x1 x2 n))), (0, .ref b), (1, .ref h), (2, .ref g), (3, .ref o), (4, .int (nI i))]) C0.1 C0.2.1 dL_law_1120 hl (by decide) rfl (fun ls hl => ?_)
    refine lv_aload_n C0.1 C0.2.1 dL_law_1122 rfl (lv_at hl 4 rfl) ?_
    refine tc_callV (q0 := 0) (rest := []) C0 hG hS rfl rfl (kX1_thrown hlf hk ) (cwV 0 C0.2.2.2.2 gL_law_X1_thrown rfl rfl rfl (by decide +kernel) ⟨(Nat.le_of_ble_eq_true rfl), (Nat.le_of_ble_eq_true rfl)⟩) rfl hl rfl (Nat.le_of_ble_eq_true rfl) dL_law_1123 ⟨(by dsimp only [room_1]; omega), (by dsimp only [room_1]; omega)⟩ (fun H locs hG hS => ?_)
    refine lv_iload C0.1 C0.2.1 dL_law_1126 (lv_at hl 1 rfl) ?_
    refine lv_icmp_eq (tgt := 1133) C0.1 C0.2.1 dL_law_1128 (by decide) (fun c_a => ?_) (fun c_a => ?_)
    · refine lv_iload C0.1 C0.2.1 dL_law_1133 (lv_at hl 1 rfl) ?_
      refine tn_if_ne (tgt := 1157) C0.1 C0.2.1 dL_law_1135 (by decide) (by have hcm := cdP_le x1 x2 n; omega) (fun c_c => ?_) (fun c_c => ?_)
      · refine lv_goto (tgt := 1758) C0.1 C0.2.1 dL_law_1157 (by decide) ?_
        refine lv_iinc (v := nI (i + 5)) (lv' := [(4, .int (nI (i + 5))), (6, .int (nI (b2n (decide (cdP x1 x2 n = 0 ∧ cn (ix x1) = cn (ix x2)))))), (5, .int (nI (cdP x1 x2 n))), (0, .ref b), (1, .ref h), (2, .ref g), (3, .ref o)]) C0.1 C0.2.1 dL_law_1758 hl (k := 6) rfl (nI_add i 5) (by decide) rfl (fun ls hl => ?_)
        refine lv_goto (tgt := 23) C0.1 C0.2.1 dL_law_1761 (by decide) ?_
        refine W.widen (k := 11 + (i + 5)) (n := 128 + 5 * (i + 5)) (by omega) (by omega) ?_
        have hG := hG.sub (ws' := wT h r1 r2 r3 r4 cI tk co cn wk n ho st ct sp ((o, tcO cJ fo) :: wM g q1 q2 q3 q4 cI (nI (cdP x1 x2 n)) tk co cn wk n ho st ct sp [])) [5, 6, 7, 8, 9, 10, 0, 1, 2, 3, 4] (by decide) rfl rfl
        exact back tk co cn wk n ho st ct sp (nI (cdP x1 x2 n)) fo hk _ _ _ hG hS (lv_sub hl [3, 4, 5, 6, 0] rfl)
      · exact absurd c_c hcd
    · exact absurd rfl c_a
set_option maxHeartbeats 4000000 in
set_option maxRecDepth 100000 in
theorem law_case_19 {p : Program} {l : Launch} {e : Env} {s : State} {m : MethodId} {below : List Frame} {meth : Method} {c : Code} {b L : Nat} {xs : Nat → Int32} (hlf : l.stackTraces = false) (C0 : CallFix p m c cL_law 9 s #[Value.ref b] wsL_law RL) (hX : va_X b L xs s s.heap) (hbl : b < s.heap.size) (hL : L ≤ 2560) {D : va_G} {cI cJ : ClassId} {h r1 r2 r3 r4 o g q1 q2 q3 q4 : Nat} {tk co cn wk : Nat → Nat} {n st : Nat} {ho ct sp th : Int32} {fo : Nat → Int64} (hk : tOk tk co cn wk n st) {i : Nat} (hi : i + 5 ≤ L) {H : Heap} {locs : List Loc} {ls : Array Slot} (hG : tcG D cI cJ s.heap.size (wT h r1 r2 r3 r4 cI tk co cn wk n ho st ct sp ((o, tcO cJ fo) :: wM g q1 q2 q3 q4 cI th tk co cn wk n ho st ct sp [])) s H) (hS : va_S (tcA s.heap.size) s.heap H locs) (hl : lv_has ls 9 [(0, .ref b), (1, .ref h), (2, .ref g), (3, .ref o), (4, .int (nI i))])
    (back : ∀ (tk co cn wk : Nat → Nat) (n : Nat) (ho : Int32) (st : Nat) (ct sp th : Int32) (fo : Nat → Int64), tOk tk co cn wk n st → ∀ (H : Heap) (locs : List Loc) (ls : Array Slot), tcG D cI cJ s.heap.size (wT h r1 r2 r3 r4 cI tk co cn wk n ho st ct sp ((o, tcO cJ fo) :: wM g q1 q2 q3 q4 cI th tk co cn wk n ho st ct sp [])) s H → va_S (tcA s.heap.size) s.heap H locs → lv_has ls 9 [(0, .ref b), (1, .ref h), (2, .ref g), (3, .ref o), (4, .int (nI (i + 5)))] → W p l e room_1 s m #[Value.ref b] below meth c H locs (11 + (i + 5)) (128 + 5 * (i + 5)) (lw_Z below #[Value.ref b] s) (F0 m 23 ls [])) : W p l e room_1 s m #[Value.ref b] below meth c H locs (11 + i) (128 + 5 * i) (lw_Z below #[Value.ref b] s) (F0 m 1160 ls []) := by
  obtain ⟨x1, ex1⟩ : ∃ y, y = xs (i + 1) := ⟨_, rfl⟩
  obtain ⟨x2, ex2⟩ : ∃ y, y = xs (i + 2) := ⟨_, rfl⟩
  refine lv_aload_n C0.1 C0.2.1 dL_law_1160 rfl (lv_at hl 1 rfl) ?_
  refine lv_aload_n C0.1 C0.2.1 dL_law_1161 rfl (lv_at hl 0 rfl) ?_
  refine lv_iload C0.1 C0.2.1 dL_law_1162 (lv_at hl 4 rfl) ?_
  refine lv_iconst (v := nI 1) C0.1 C0.2.1 dL_law_1164 (by decide) ?_
  refine tn_iadd C0.1 C0.2.1 dL_law_1165 ?_
  refine tc_sld C0 hX hbl hS (by omega) hL ex1 dL_law_1166 ?_
  refine lv_aload_n C0.1 C0.2.1 dL_law_1167 rfl (lv_at hl 0 rfl) ?_
  refine lv_iload C0.1 C0.2.1 dL_law_1168 (lv_at hl 4 rfl) ?_
  refine lv_iconst (v := nI 2) C0.1 C0.2.1 dL_law_1170 (by decide) ?_
  refine tn_iadd C0.1 C0.2.1 dL_law_1171 ?_
  refine tc_sld C0 hX hbl hS (by omega) hL ex2 dL_law_1172 ?_
  refine lv_aload_n C0.1 C0.2.1 dL_law_1173 rfl (lv_at hl 3 rfl) ?_
  refine tc_callSW (rest := []) C0 hG hS (kL_areMirrored hlf hk x1 x2) (vx_cwSW 4 C0.2.2.2.2 gL_law_L_areMirrored rfl rfl rfl (by decide +kernel) ⟨(Nat.le_of_ble_eq_true rfl), (Nat.le_of_ble_eq_true rfl)⟩) rfl hl rfl (Nat.le_of_ble_eq_true rfl) dL_law_1174 ⟨(by dsimp only [room_1]; omega), (by dsimp only [room_1]; omega)⟩ (fun H locs hG hS => ?_)
  refine lv_istore (lv' := [(5, .int (nI (cdP x1 x2 n))), (0, .ref b), (1, .ref h), (2, .ref g), (3, .ref o), (4, .int (nI i))]) C0.1 C0.2.1 dL_law_1177 hl (by decide) rfl (fun ls hl => ?_)
  by_cases hcd : cdP x1 x2 n = 0
  · rw [if_pos hcd] at hG
    refine lv_aload_n C0.1 C0.2.1 dL_law_1179 rfl (lv_at hl 3 rfl) ?_
    refine lv_aload_n C0.1 C0.2.1 dL_law_1180 rfl (lv_at hl 1 rfl) ?_
    refine lv_iload C0.1 C0.2.1 dL_law_1181 (lv_at hl 5 rfl) ?_
    refine lv_iconst (v := nI 1) C0.1 C0.2.1 dL_law_1183 (by decide) ?_
    refine tn_iadd C0.1 C0.2.1 dL_law_1184 ?_
    refine tc_sld C0 hX hbl hS (by omega) hL ex1 dL_law_1185 ?_
    refine lv_aload_n C0.1 C0.2.1 dL_law_1186 rfl (lv_at hl 1 rfl) ?_
    refine lv_iload C0.1 C0.2.1 dL_law_1187 (lv_at hl 5 rfl) ?_
    refine lv_iconst (v := nI 2) C0.1 C0.2.1 dL_law_1189 (by decide) ?_
    refine tn_iadd C0.1 C0.2.1 dL_law_1190 ?_
    refine tc_sld C0 hX hbl hS (by omega) hL ex2 dL_law_1191 ?_
    have hG := hG.sub (ws' := wM g q1 q2 q3 q4 cI th tk co cn wk n ho st ct sp (wT h r1 r2 r3 r4 cI tk co cn wk n ho st ct sp [(o, tcO cJ (vp_updL fo 0 (lB (mir (tk (ix x1)) (tk (ix x2))))))])) [6, 7, 8, 9, 10, 0, 1, 2, 3, 4, 5] (by decide) rfl rfl
    refine tc_callV (q0 := 0) (rest := []) C0 hG hS rfl rfl (kX1_areMirrored hlf hk x1 x2) (cwV 2 C0.2.2.2.2 gL_law_X1_areMirrored rfl rfl rfl (by decide +kernel) ⟨(Nat.le_of_ble_eq_true rfl), (Nat.le_of_ble_eq_true rfl)⟩) rfl hl rfl (Nat.le_of_ble_eq_true rfl) dL_law_1192 ⟨(by dsimp only [room_1]; omega), (by dsimp only [room_1]; omega)⟩ (fun H locs hG hS => ?_)
    have hG : tcG D cI cJ s.heap.size (wM g q1 q2 q3 q4 cI (nI (cdP x1 x2 n)) tk co cn wk n ho st ct sp (wT h r1 r2 r3 r4 cI tk co cn wk n ho st ct sp [(o, tcO cJ (vp_updL fo 0 (lB (mir (tk (ix x1)) (tk (ix x2))))))])) s H := hG
    refine lv_istore (lv' := [(6, .int (nI (b2n (decide (cdP x1 x2 n = 0 ∧ mir (tk (ix x1)) (tk (ix x2)) = true))))), (5, .int (nI (cdP x1 x2 n))), (0, .ref b), (1, .ref h), (2, .ref g), (3, .ref o), (4, .int (nI i))]) C0.1 C0.2.1 dL_law_1195 hl (by decide) rfl (fun ls hl => ?_)
    refine lv_aload_n C0.1 C0.2.1 dL_law_1197 rfl (lv_at hl 4 rfl) ?_
    refine tc_callV (q0 := 0) (rest := []) C0 hG hS rfl rfl (kX1_thrown hlf hk ) (cwV 0 C0.2.2.2.2 gL_law_X1_thrown rfl rfl rfl (by decide +kernel) ⟨(Nat.le_of_ble_eq_true rfl), (Nat.le_of_ble_eq_true rfl)⟩) rfl hl rfl (Nat.le_of_ble_eq_true rfl) dL_law_1198 ⟨(by dsimp only [room_1]; omega), (by dsimp only [room_1]; omega)⟩ (fun H locs hG hS => ?_)
    refine lv_iload C0.1 C0.2.1 dL_law_1201 (lv_at hl 1 rfl) ?_
    refine lv_icmp_eq (tgt := 1208) C0.1 C0.2.1 dL_law_1203 (by decide) (fun c_a => ?_) (fun c_a => ?_)
    · refine lv_iload C0.1 C0.2.1 dL_law_1208 (lv_at hl 1 rfl) ?_
      refine tn_if_ne (tgt := 1232) C0.1 C0.2.1 dL_law_1210 (by decide) (by have hcm := cdP_le x1 x2 n; omega) (fun c_c => ?_) (fun c_c => ?_)
      · exact absurd hcd (Nat.ne_of_gt c_c)
      · refine lv_aload_n C0.1 C0.2.1 dL_law_1213 rfl (lv_at hl 5 rfl) ?_
        refine lv_iconst (v := nI 0) C0.1 C0.2.1 dL_law_1214 (by decide) ?_
        refine tc_lald0 (q0 := 10) C0 hG rfl dL_law_1215 ?_
        refine lv_topl (fun y8 e8 => ?_)
        have e9 : y8 = lB (mir (tk (ix x1)) (tk (ix x2))) := e8.trans pk_uLs
        subst e9
        refine lv_iload C0.1 C0.2.1 dL_law_1216 (lv_at hl 0 rfl) ?_
        refine tb_if_eq (tgt := 1225) C0.1 C0.2.1 dL_law_1218 (by decide) (fun c_b => ?_) (fun c_b => ?_)
        · refine lv_lconst C0.1 C0.2.1 dL_law_1225 (v := lB (mir (tk (ix x1)) (tk (ix x2)))) (by unfold lB; first | (rw [if_neg (lb_neg c_b hcd)]; decide) | (rw [if_neg (lbm_neg c_b hcd)]; decide)) ?_
          refine W.lcmp C0.1 C0.2.1 dL_law_1226 ?_
          refine tc_top (lg_self _) ?_
          refine tn_if_eq (tgt := 1232) C0.1 C0.2.1 dL_law_1227 (by decide) (by decide) (fun c_d => ?_) (fun c_d => absurd c_d (by decide))
          refine lv_goto (tgt := 1758) C0.1 C0.2.1 dL_law_1232 (by decide) ?_
          refine lv_iinc (v := nI (i + 5)) (lv' := [(4, .int (nI (i + 5))), (6, .int (nI (b2n (decide (cdP x1 x2 n = 0 ∧ mir (tk (ix x1)) (tk (ix x2)) = true))))), (5, .int (nI (cdP x1 x2 n))), (0, .ref b), (1, .ref h), (2, .ref g), (3, .ref o)]) C0.1 C0.2.1 dL_law_1758 hl (k := 6) rfl (nI_add i 5) (by decide) rfl (fun ls hl => ?_)
          refine lv_goto (tgt := 23) C0.1 C0.2.1 dL_law_1761 (by decide) ?_
          refine W.widen (k := 11 + (i + 5)) (n := 128 + 5 * (i + 5)) (by omega) (by omega) ?_
          have hG := hG.sub (ws' := wT h r1 r2 r3 r4 cI tk co cn wk n ho st ct sp ((o, tcO cJ (vp_updL fo 0 (lB (mir (tk (ix x1)) (tk (ix x2)))))) :: wM g q1 q2 q3 q4 cI (nI (cdP x1 x2 n)) tk co cn wk n ho st ct sp [])) [5, 6, 7, 8, 9, 10, 0, 1, 2, 3, 4] (by decide) rfl rfl
          exact back tk co cn wk n ho st ct sp (nI (cdP x1 x2 n)) (vp_updL fo 0 (lB (mir (tk (ix x1)) (tk (ix x2))))) hk _ _ _ hG hS (lv_sub hl [3, 4, 5, 6, 0] rfl)
        · refine lv_lconst C0.1 C0.2.1 dL_law_1221 (v := lB (mir (tk (ix x1)) (tk (ix x2)))) (by unfold lB; first | (rw [if_pos (lb_pos c_b)]; decide) | (rw [if_pos (lbm_pos c_b)]; decide)) ?_
          refine lv_goto (tgt := 1226) C0.1 C0.2.1 dL_law_1222 (by decide) ?_
          refine W.lcmp C0.1 C0.2.1 dL_law_1226 ?_
          refine tc_top (lg_self _) ?_
          refine tn_if_eq (tgt := 1232) C0.1 C0.2.1 dL_law_1227 (by decide) (by decide) (fun c_d => ?_) (fun c_d => absurd c_d (by decide))
          refine lv_goto (tgt := 1758) C0.1 C0.2.1 dL_law_1232 (by decide) ?_
          refine lv_iinc (v := nI (i + 5)) (lv' := [(4, .int (nI (i + 5))), (6, .int (nI (b2n (decide (cdP x1 x2 n = 0 ∧ mir (tk (ix x1)) (tk (ix x2)) = true))))), (5, .int (nI (cdP x1 x2 n))), (0, .ref b), (1, .ref h), (2, .ref g), (3, .ref o)]) C0.1 C0.2.1 dL_law_1758 hl (k := 6) rfl (nI_add i 5) (by decide) rfl (fun ls hl => ?_)
          refine lv_goto (tgt := 23) C0.1 C0.2.1 dL_law_1761 (by decide) ?_
          refine W.widen (k := 11 + (i + 5)) (n := 128 + 5 * (i + 5)) (by omega) (by omega) ?_
          have hG := hG.sub (ws' := wT h r1 r2 r3 r4 cI tk co cn wk n ho st ct sp ((o, tcO cJ (vp_updL fo 0 (lB (mir (tk (ix x1)) (tk (ix x2)))))) :: wM g q1 q2 q3 q4 cI (nI (cdP x1 x2 n)) tk co cn wk n ho st ct sp [])) [5, 6, 7, 8, 9, 10, 0, 1, 2, 3, 4] (by decide) rfl rfl
          exact back tk co cn wk n ho st ct sp (nI (cdP x1 x2 n)) (vp_updL fo 0 (lB (mir (tk (ix x1)) (tk (ix x2))))) hk _ _ _ hG hS (lv_sub hl [3, 4, 5, 6, 0] rfl)
    · exact absurd rfl c_a
  · rw [if_neg hcd] at hG
    refine lv_aload_n C0.1 C0.2.1 dL_law_1179 rfl (lv_at hl 3 rfl) ?_
    refine lv_aload_n C0.1 C0.2.1 dL_law_1180 rfl (lv_at hl 1 rfl) ?_
    refine lv_iload C0.1 C0.2.1 dL_law_1181 (lv_at hl 5 rfl) ?_
    refine lv_iconst (v := nI 1) C0.1 C0.2.1 dL_law_1183 (by decide) ?_
    refine tn_iadd C0.1 C0.2.1 dL_law_1184 ?_
    refine tc_sld C0 hX hbl hS (by omega) hL ex1 dL_law_1185 ?_
    refine lv_aload_n C0.1 C0.2.1 dL_law_1186 rfl (lv_at hl 1 rfl) ?_
    refine lv_iload C0.1 C0.2.1 dL_law_1187 (lv_at hl 5 rfl) ?_
    refine lv_iconst (v := nI 2) C0.1 C0.2.1 dL_law_1189 (by decide) ?_
    refine tn_iadd C0.1 C0.2.1 dL_law_1190 ?_
    refine tc_sld C0 hX hbl hS (by omega) hL ex2 dL_law_1191 ?_
    have hG := hG.sub (ws' := wM g q1 q2 q3 q4 cI th tk co cn wk n ho st ct sp (wT h r1 r2 r3 r4 cI tk co cn wk n ho st ct sp [(o, tcO cJ fo)])) [6, 7, 8, 9, 10, 0, 1, 2, 3, 4, 5] (by decide) rfl rfl
    refine tc_callV (q0 := 0) (rest := []) C0 hG hS rfl rfl (kX1_areMirrored hlf hk x1 x2) (cwV 2 C0.2.2.2.2 gL_law_X1_areMirrored rfl rfl rfl (by decide +kernel) ⟨(Nat.le_of_ble_eq_true rfl), (Nat.le_of_ble_eq_true rfl)⟩) rfl hl rfl (Nat.le_of_ble_eq_true rfl) dL_law_1192 ⟨(by dsimp only [room_1]; omega), (by dsimp only [room_1]; omega)⟩ (fun H locs hG hS => ?_)
    have hG : tcG D cI cJ s.heap.size (wM g q1 q2 q3 q4 cI (nI (cdP x1 x2 n)) tk co cn wk n ho st ct sp (wT h r1 r2 r3 r4 cI tk co cn wk n ho st ct sp [(o, tcO cJ fo)])) s H := hG
    refine lv_istore (lv' := [(6, .int (nI (b2n (decide (cdP x1 x2 n = 0 ∧ mir (tk (ix x1)) (tk (ix x2)) = true))))), (5, .int (nI (cdP x1 x2 n))), (0, .ref b), (1, .ref h), (2, .ref g), (3, .ref o), (4, .int (nI i))]) C0.1 C0.2.1 dL_law_1195 hl (by decide) rfl (fun ls hl => ?_)
    refine lv_aload_n C0.1 C0.2.1 dL_law_1197 rfl (lv_at hl 4 rfl) ?_
    refine tc_callV (q0 := 0) (rest := []) C0 hG hS rfl rfl (kX1_thrown hlf hk ) (cwV 0 C0.2.2.2.2 gL_law_X1_thrown rfl rfl rfl (by decide +kernel) ⟨(Nat.le_of_ble_eq_true rfl), (Nat.le_of_ble_eq_true rfl)⟩) rfl hl rfl (Nat.le_of_ble_eq_true rfl) dL_law_1198 ⟨(by dsimp only [room_1]; omega), (by dsimp only [room_1]; omega)⟩ (fun H locs hG hS => ?_)
    refine lv_iload C0.1 C0.2.1 dL_law_1201 (lv_at hl 1 rfl) ?_
    refine lv_icmp_eq (tgt := 1208) C0.1 C0.2.1 dL_law_1203 (by decide) (fun c_a => ?_) (fun c_a => ?_)
    · refine lv_iload C0.1 C0.2.1 dL_law_1208 (lv_at hl 1 rfl) ?_
      refine tn_if_ne (tgt := 1232) C0.1 C0.2.1 dL_law_1210 (by decide) (by have hcm := cdP_le x1 x2 n; omega) (fun c_c => ?_) (fun c_c => ?_)
      · refine lv_goto (tgt := 1758) C0.1 C0.2.1 dL_law_1232 (by decide) ?_
        refine lv_iinc (v := nI (i + 5)) (lv' := [(4, .int (nI (i + 5))), (6, .int (nI (b2n (decide (cdP x1 x2 n = 0 ∧ mir (tk (ix x1)) (tk (ix x2)) = true))))), (5, .int (nI (cdP x1 x2 n))), (0, .ref b), (1, .ref h), (2, .ref g), (3, .ref o)]) C0.1 C0.2.1 dL_law_1758 hl (k := 6) rfl (nI_add i 5) (by decide) rfl (fun ls hl => ?_)
        refine lv_goto (tgt := 23) C0.1 C0.2.1 dL_law_1761 (by decide) ?_
        refine W.widen (k := 11 + (i + 5)) (n := 128 + 5 * (i + 5)) (by omega) (by omega) ?_
        have hG := hG.sub (ws' := wT h r1 r2 r3 r4 cI tk co cn wk n ho st ct sp ((o, tcO cJ fo) :: wM g q1 q2 q3 q4 cI (nI (cdP x1 x2 n)) tk co cn wk n ho st ct sp [])) [5, 6, 7, 8, 9, 10, 0, 1, 2, 3, 4] (by decide) rfl rfl
        exact back tk co cn wk n ho st ct sp (nI (cdP x1 x2 n)) fo hk _ _ _ hG hS (lv_sub hl [3, 4, 5, 6, 0] rfl)
      · exact absurd c_c hcd
    · exact absurd rfl c_a
set_option maxHeartbeats 4000000 in
set_option maxRecDepth 100000 in
theorem law_case_20 {p : Program} {l : Launch} {e : Env} {s : State} {m : MethodId} {below : List Frame} {meth : Method} {c : Code} {b L : Nat} {xs : Nat → Int32} (hlf : l.stackTraces = false) (C0 : CallFix p m c cL_law 9 s #[Value.ref b] wsL_law RL) (hX : va_X b L xs s s.heap) (hbl : b < s.heap.size) (hL : L ≤ 2560) {D : va_G} {cI cJ : ClassId} {h r1 r2 r3 r4 o g q1 q2 q3 q4 : Nat} {tk co cn wk : Nat → Nat} {n st : Nat} {ho ct sp th : Int32} {fo : Nat → Int64} (hk : tOk tk co cn wk n st) {i : Nat} (hi : i + 5 ≤ L) {H : Heap} {locs : List Loc} {ls : Array Slot} (hG : tcG D cI cJ s.heap.size (wT h r1 r2 r3 r4 cI tk co cn wk n ho st ct sp ((o, tcO cJ fo) :: wM g q1 q2 q3 q4 cI th tk co cn wk n ho st ct sp [])) s H) (hS : va_S (tcA s.heap.size) s.heap H locs) (hl : lv_has ls 9 [(0, .ref b), (1, .ref h), (2, .ref g), (3, .ref o), (4, .int (nI i))])
    (back : ∀ (tk co cn wk : Nat → Nat) (n : Nat) (ho : Int32) (st : Nat) (ct sp th : Int32) (fo : Nat → Int64), tOk tk co cn wk n st → ∀ (H : Heap) (locs : List Loc) (ls : Array Slot), tcG D cI cJ s.heap.size (wT h r1 r2 r3 r4 cI tk co cn wk n ho st ct sp ((o, tcO cJ fo) :: wM g q1 q2 q3 q4 cI th tk co cn wk n ho st ct sp [])) s H → va_S (tcA s.heap.size) s.heap H locs → lv_has ls 9 [(0, .ref b), (1, .ref h), (2, .ref g), (3, .ref o), (4, .int (nI (i + 5)))] → W p l e room_1 s m #[Value.ref b] below meth c H locs (11 + (i + 5)) (128 + 5 * (i + 5)) (lw_Z below #[Value.ref b] s) (F0 m 23 ls [])) : W p l e room_1 s m #[Value.ref b] below meth c H locs (11 + i) (128 + 5 * i) (lw_Z below #[Value.ref b] s) (F0 m 1235 ls []) := by
  refine lv_aload_n C0.1 C0.2.1 dL_law_1235 rfl (lv_at hl 1 rfl) ?_
  refine tc_callV (q0 := 0) (rest := []) C0 hG hS rfl rfl (kX0_coincidences hlf hk) (cwV 0 C0.2.2.2.2 gL_law_X0_coincidences rfl rfl rfl (by decide +kernel) ⟨(Nat.le_of_ble_eq_true rfl), (Nat.le_of_ble_eq_true rfl)⟩) rfl hl rfl (Nat.le_of_ble_eq_true rfl) dL_law_1236 ⟨(by dsimp only [room_1]; omega), (by dsimp only [room_1]; omega)⟩ (fun H locs hG hS => ?_)
  refine lv_aload_n C0.1 C0.2.1 dL_law_1239 rfl (lv_at hl 2 rfl) ?_
  have hG := hG.sub (ws' := wM g q1 q2 q3 q4 cI th tk co cn wk n ho st ct sp (wT h r1 r2 r3 r4 cI tk co cn wk n ho st ct sp [(o, tcO cJ fo)])) [6, 7, 8, 9, 10, 0, 1, 2, 3, 4, 5] (by decide) rfl rfl
  refine tc_callV (q0 := 0) (rest := [.int (nI (tw tk co cn wk 0 n))]) C0 hG hS rfl rfl (kX1_coincidences hlf hk ) (cwV 0 C0.2.2.2.2 gL_law_X1_coincidences rfl rfl rfl (by decide +kernel) ⟨(Nat.le_of_ble_eq_true rfl), (Nat.le_of_ble_eq_true rfl)⟩) rfl hl rfl (Nat.le_of_ble_eq_true rfl) dL_law_1240 ⟨(by dsimp only [room_1]; omega), (by dsimp only [room_1]; omega)⟩ (fun H locs hG hS => ?_)
  have hG : tcG D cI cJ s.heap.size (wM g q1 q2 q3 q4 cI (nI 0) tk co cn wk n ho st ct sp (wT h r1 r2 r3 r4 cI tk co cn wk n ho st ct sp [(o, tcO cJ fo)])) s H := hG
  refine lv_icmp_eq (tgt := 1758) C0.1 C0.2.1 dL_law_1243 (by decide) (fun c_a => ?_) (fun c_a => absurd rfl c_a)
  refine lv_iinc (v := nI (i + 5)) (lv' := [(4, .int (nI (i + 5))), (0, .ref b), (1, .ref h), (2, .ref g), (3, .ref o)]) C0.1 C0.2.1 dL_law_1758 hl (k := 4) rfl (nI_add i 5) (by decide) rfl (fun ls hl => ?_)
  refine lv_goto (tgt := 23) C0.1 C0.2.1 dL_law_1761 (by decide) ?_
  refine W.widen (k := 11 + (i + 5)) (n := 128 + 5 * (i + 5)) (by omega) (by omega) ?_
  have hG := hG.sub (ws' := wT h r1 r2 r3 r4 cI tk co cn wk n ho st ct sp ((o, tcO cJ fo) :: wM g q1 q2 q3 q4 cI (nI 0) tk co cn wk n ho st ct sp [])) [5, 6, 7, 8, 9, 10, 0, 1, 2, 3, 4] (by decide) rfl rfl
  exact back tk co cn wk n ho st ct sp (nI 0) fo hk _ _ _ hG hS (lv_sub hl [1, 2, 3, 4, 0] rfl)
set_option maxHeartbeats 4000000 in
set_option maxRecDepth 100000 in
theorem law_case_21 {p : Program} {l : Launch} {e : Env} {s : State} {m : MethodId} {below : List Frame} {meth : Method} {c : Code} {b L : Nat} {xs : Nat → Int32} (hlf : l.stackTraces = false) (C0 : CallFix p m c cL_law 9 s #[Value.ref b] wsL_law RL) (hX : va_X b L xs s s.heap) (hbl : b < s.heap.size) (hL : L ≤ 2560) {D : va_G} {cI cJ : ClassId} {h r1 r2 r3 r4 o g q1 q2 q3 q4 : Nat} {tk co cn wk : Nat → Nat} {n st : Nat} {ho ct sp th : Int32} {fo : Nat → Int64} (hk : tOk tk co cn wk n st) {i : Nat} (hi : i + 5 ≤ L) {H : Heap} {locs : List Loc} {ls : Array Slot} (hG : tcG D cI cJ s.heap.size (wT h r1 r2 r3 r4 cI tk co cn wk n ho st ct sp ((o, tcO cJ fo) :: wM g q1 q2 q3 q4 cI th tk co cn wk n ho st ct sp [])) s H) (hS : va_S (tcA s.heap.size) s.heap H locs) (hl : lv_has ls 9 [(0, .ref b), (1, .ref h), (2, .ref g), (3, .ref o), (4, .int (nI i))])
    (back : ∀ (tk co cn wk : Nat → Nat) (n : Nat) (ho : Int32) (st : Nat) (ct sp th : Int32) (fo : Nat → Int64), tOk tk co cn wk n st → ∀ (H : Heap) (locs : List Loc) (ls : Array Slot), tcG D cI cJ s.heap.size (wT h r1 r2 r3 r4 cI tk co cn wk n ho st ct sp ((o, tcO cJ fo) :: wM g q1 q2 q3 q4 cI th tk co cn wk n ho st ct sp [])) s H → va_S (tcA s.heap.size) s.heap H locs → lv_has ls 9 [(0, .ref b), (1, .ref h), (2, .ref g), (3, .ref o), (4, .int (nI (i + 5)))] → W p l e room_1 s m #[Value.ref b] below meth c H locs (11 + (i + 5)) (128 + 5 * (i + 5)) (lw_Z below #[Value.ref b] s) (F0 m 23 ls [])) : W p l e room_1 s m #[Value.ref b] below meth c H locs (11 + i) (128 + 5 * i) (lw_Z below #[Value.ref b] s) (F0 m 1248 ls []) := by
  obtain ⟨x1, ex1⟩ : ∃ y, y = xs (i + 1) := ⟨_, rfl⟩
  refine lv_aload_n C0.1 C0.2.1 dL_law_1248 rfl (lv_at hl 1 rfl) ?_
  refine lv_aload_n C0.1 C0.2.1 dL_law_1249 rfl (lv_at hl 0 rfl) ?_
  refine lv_iload C0.1 C0.2.1 dL_law_1250 (lv_at hl 4 rfl) ?_
  refine lv_iconst (v := nI 1) C0.1 C0.2.1 dL_law_1252 (by decide) ?_
  refine tn_iadd C0.1 C0.2.1 dL_law_1253 ?_
  refine tc_sld C0 hX hbl hS (by omega) hL ex1 dL_law_1254 ?_
  refine lv_aload_n C0.1 C0.2.1 dL_law_1255 rfl (lv_at hl 3 rfl) ?_
  refine tc_callSW (rest := []) C0 hG hS (kL_coincidencesAt hlf hk x1) (vx_cwSW 3 C0.2.2.2.2 gL_law_L_coincidencesAt rfl rfl rfl (by decide +kernel) ⟨(Nat.le_of_ble_eq_true rfl), (Nat.le_of_ble_eq_true rfl)⟩) rfl hl rfl (Nat.le_of_ble_eq_true rfl) dL_law_1256 ⟨(by dsimp only [room_1]; omega), (by dsimp only [room_1]; omega)⟩ (fun H locs hG hS => ?_)
  refine lv_istore (lv' := [(5, .int (nI (cdS x1 6))), (0, .ref b), (1, .ref h), (2, .ref g), (3, .ref o), (4, .int (nI i))]) C0.1 C0.2.1 dL_law_1259 hl (by decide) rfl (fun ls hl => ?_)
  by_cases hcd : cdS x1 6 = 0
  · rw [if_pos hcd] at hG
    refine lv_aload_n C0.1 C0.2.1 dL_law_1261 rfl (lv_at hl 3 rfl) ?_
    refine lv_aload_n C0.1 C0.2.1 dL_law_1262 rfl (lv_at hl 1 rfl) ?_
    refine lv_iload C0.1 C0.2.1 dL_law_1263 (lv_at hl 5 rfl) ?_
    refine lv_iconst (v := nI 1) C0.1 C0.2.1 dL_law_1265 (by decide) ?_
    refine tn_iadd C0.1 C0.2.1 dL_law_1266 ?_
    refine tc_sld C0 hX hbl hS (by omega) hL ex1 dL_law_1267 ?_
    have hG := hG.sub (ws' := wM g q1 q2 q3 q4 cI th tk co cn wk n ho st ct sp (wT h r1 r2 r3 r4 cI tk co cn wk n ho st ct sp [(o, tcO cJ (vp_updL fo 0 ((nI (cAt tk co cn (ix x1) n)).toInt64)))])) [6, 7, 8, 9, 10, 0, 1, 2, 3, 4, 5] (by decide) rfl rfl
    refine tc_callV (q0 := 0) (rest := []) C0 hG hS rfl rfl (kX1_coincidencesAt hlf hk x1) (cwV 1 C0.2.2.2.2 gL_law_X1_coincidencesAt rfl rfl rfl (by decide +kernel) ⟨(Nat.le_of_ble_eq_true rfl), (Nat.le_of_ble_eq_true rfl)⟩) rfl hl rfl (Nat.le_of_ble_eq_true rfl) dL_law_1268 ⟨(by dsimp only [room_1]; omega), (by dsimp only [room_1]; omega)⟩ (fun H locs hG hS => ?_)
    have hG : tcG D cI cJ s.heap.size (wM g q1 q2 q3 q4 cI (nI (cdS x1 6)) tk co cn wk n ho st ct sp (wT h r1 r2 r3 r4 cI tk co cn wk n ho st ct sp [(o, tcO cJ (vp_updL fo 0 ((nI (cAt tk co cn (ix x1) n)).toInt64)))])) s H := hG
    refine tc_top (y := nI (cAt tk co cn (ix x1) n)) (if_pos hcd) ?_
    refine lv_istore (lv' := [(6, .int (nI (cAt tk co cn (ix x1) n))), (5, .int (nI (cdS x1 6))), (0, .ref b), (1, .ref h), (2, .ref g), (3, .ref o), (4, .int (nI i))]) C0.1 C0.2.1 dL_law_1271 hl (by decide) rfl (fun ls hl => ?_)
    refine lv_aload_n C0.1 C0.2.1 dL_law_1273 rfl (lv_at hl 4 rfl) ?_
    refine tc_callV (q0 := 0) (rest := []) C0 hG hS rfl rfl (kX1_thrown hlf hk ) (cwV 0 C0.2.2.2.2 gL_law_X1_thrown rfl rfl rfl (by decide +kernel) ⟨(Nat.le_of_ble_eq_true rfl), (Nat.le_of_ble_eq_true rfl)⟩) rfl hl rfl (Nat.le_of_ble_eq_true rfl) dL_law_1274 ⟨(by dsimp only [room_1]; omega), (by dsimp only [room_1]; omega)⟩ (fun H locs hG hS => ?_)
    refine lv_iload C0.1 C0.2.1 dL_law_1277 (lv_at hl 1 rfl) ?_
    refine lv_icmp_eq (tgt := 1284) C0.1 C0.2.1 dL_law_1279 (by decide) (fun c_a => ?_) (fun c_a => ?_)
    · refine lv_iload C0.1 C0.2.1 dL_law_1284 (lv_at hl 1 rfl) ?_
      refine tn_if_ne (tgt := 1301) C0.1 C0.2.1 dL_law_1286 (by decide) (by have hcm := cdS_le x1 6; omega) (fun c_c => ?_) (fun c_c => ?_)
      · exact absurd hcd (Nat.ne_of_gt c_c)
      · refine lv_aload_n C0.1 C0.2.1 dL_law_1289 rfl (lv_at hl 5 rfl) ?_
        refine lv_iconst (v := nI 0) C0.1 C0.2.1 dL_law_1290 (by decide) ?_
        refine tc_lald0 (q0 := 10) C0 hG rfl dL_law_1291 ?_
        refine lv_topl (fun y8 e8 => ?_)
        have e9 : y8 = (nI (cAt tk co cn (ix x1) n)).toInt64 := e8.trans pk_uLs
        subst e9
        refine lv_iload C0.1 C0.2.1 dL_law_1292 (lv_at hl 0 rfl) ?_
        refine lv_i2l C0.1 C0.2.1 dL_law_1294 (v := (nI (cAt tk co cn (ix x1) n)).toInt64) rfl ?_
        refine W.lcmp C0.1 C0.2.1 dL_law_1295 ?_
        refine tc_top (lg_self _) ?_
        refine tn_if_eq (tgt := 1301) C0.1 C0.2.1 dL_law_1296 (by decide) (by decide) (fun c_d => ?_) (fun c_d => absurd c_d (by decide))
        refine lv_goto (tgt := 1758) C0.1 C0.2.1 dL_law_1301 (by decide) ?_
        refine lv_iinc (v := nI (i + 5)) (lv' := [(4, .int (nI (i + 5))), (6, .int (nI (cAt tk co cn (ix x1) n))), (5, .int (nI (cdS x1 6))), (0, .ref b), (1, .ref h), (2, .ref g), (3, .ref o)]) C0.1 C0.2.1 dL_law_1758 hl (k := 6) rfl (nI_add i 5) (by decide) rfl (fun ls hl => ?_)
        refine lv_goto (tgt := 23) C0.1 C0.2.1 dL_law_1761 (by decide) ?_
        refine W.widen (k := 11 + (i + 5)) (n := 128 + 5 * (i + 5)) (by omega) (by omega) ?_
        have hG := hG.sub (ws' := wT h r1 r2 r3 r4 cI tk co cn wk n ho st ct sp ((o, tcO cJ (vp_updL fo 0 ((nI (cAt tk co cn (ix x1) n)).toInt64))) :: wM g q1 q2 q3 q4 cI (nI (cdS x1 6)) tk co cn wk n ho st ct sp [])) [5, 6, 7, 8, 9, 10, 0, 1, 2, 3, 4] (by decide) rfl rfl
        exact back tk co cn wk n ho st ct sp (nI (cdS x1 6)) (vp_updL fo 0 ((nI (cAt tk co cn (ix x1) n)).toInt64)) hk _ _ _ hG hS (lv_sub hl [3, 4, 5, 6, 0] rfl)
    · exact absurd rfl c_a
  · rw [if_neg hcd] at hG
    refine lv_aload_n C0.1 C0.2.1 dL_law_1261 rfl (lv_at hl 3 rfl) ?_
    refine lv_aload_n C0.1 C0.2.1 dL_law_1262 rfl (lv_at hl 1 rfl) ?_
    refine lv_iload C0.1 C0.2.1 dL_law_1263 (lv_at hl 5 rfl) ?_
    refine lv_iconst (v := nI 1) C0.1 C0.2.1 dL_law_1265 (by decide) ?_
    refine tn_iadd C0.1 C0.2.1 dL_law_1266 ?_
    refine tc_sld C0 hX hbl hS (by omega) hL ex1 dL_law_1267 ?_
    have hG := hG.sub (ws' := wM g q1 q2 q3 q4 cI th tk co cn wk n ho st ct sp (wT h r1 r2 r3 r4 cI tk co cn wk n ho st ct sp [(o, tcO cJ fo)])) [6, 7, 8, 9, 10, 0, 1, 2, 3, 4, 5] (by decide) rfl rfl
    refine tc_callV (q0 := 0) (rest := []) C0 hG hS rfl rfl (kX1_coincidencesAt hlf hk x1) (cwV 1 C0.2.2.2.2 gL_law_X1_coincidencesAt rfl rfl rfl (by decide +kernel) ⟨(Nat.le_of_ble_eq_true rfl), (Nat.le_of_ble_eq_true rfl)⟩) rfl hl rfl (Nat.le_of_ble_eq_true rfl) dL_law_1268 ⟨(by dsimp only [room_1]; omega), (by dsimp only [room_1]; omega)⟩ (fun H locs hG hS => ?_)
    have hG : tcG D cI cJ s.heap.size (wM g q1 q2 q3 q4 cI (nI (cdS x1 6)) tk co cn wk n ho st ct sp (wT h r1 r2 r3 r4 cI tk co cn wk n ho st ct sp [(o, tcO cJ fo)])) s H := hG
    refine tc_top (y := nI 0) (if_neg hcd) ?_
    refine lv_istore (lv' := [(6, .int (nI 0)), (5, .int (nI (cdS x1 6))), (0, .ref b), (1, .ref h), (2, .ref g), (3, .ref o), (4, .int (nI i))]) C0.1 C0.2.1 dL_law_1271 hl (by decide) rfl (fun ls hl => ?_)
    refine lv_aload_n C0.1 C0.2.1 dL_law_1273 rfl (lv_at hl 4 rfl) ?_
    refine tc_callV (q0 := 0) (rest := []) C0 hG hS rfl rfl (kX1_thrown hlf hk ) (cwV 0 C0.2.2.2.2 gL_law_X1_thrown rfl rfl rfl (by decide +kernel) ⟨(Nat.le_of_ble_eq_true rfl), (Nat.le_of_ble_eq_true rfl)⟩) rfl hl rfl (Nat.le_of_ble_eq_true rfl) dL_law_1274 ⟨(by dsimp only [room_1]; omega), (by dsimp only [room_1]; omega)⟩ (fun H locs hG hS => ?_)
    refine lv_iload C0.1 C0.2.1 dL_law_1277 (lv_at hl 1 rfl) ?_
    refine lv_icmp_eq (tgt := 1284) C0.1 C0.2.1 dL_law_1279 (by decide) (fun c_a => ?_) (fun c_a => ?_)
    · refine lv_iload C0.1 C0.2.1 dL_law_1284 (lv_at hl 1 rfl) ?_
      refine tn_if_ne (tgt := 1301) C0.1 C0.2.1 dL_law_1286 (by decide) (by have hcm := cdS_le x1 6; omega) (fun c_c => ?_) (fun c_c => ?_)
      · refine lv_goto (tgt := 1758) C0.1 C0.2.1 dL_law_1301 (by decide) ?_
        refine lv_iinc (v := nI (i + 5)) (lv' := [(4, .int (nI (i + 5))), (6, .int (nI 0)), (5, .int (nI (cdS x1 6))), (0, .ref b), (1, .ref h), (2, .ref g), (3, .ref o)]) C0.1 C0.2.1 dL_law_1758 hl (k := 6) rfl (nI_add i 5) (by decide) rfl (fun ls hl => ?_)
        refine lv_goto (tgt := 23) C0.1 C0.2.1 dL_law_1761 (by decide) ?_
        refine W.widen (k := 11 + (i + 5)) (n := 128 + 5 * (i + 5)) (by omega) (by omega) ?_
        have hG := hG.sub (ws' := wT h r1 r2 r3 r4 cI tk co cn wk n ho st ct sp ((o, tcO cJ fo) :: wM g q1 q2 q3 q4 cI (nI (cdS x1 6)) tk co cn wk n ho st ct sp [])) [5, 6, 7, 8, 9, 10, 0, 1, 2, 3, 4] (by decide) rfl rfl
        exact back tk co cn wk n ho st ct sp (nI (cdS x1 6)) fo hk _ _ _ hG hS (lv_sub hl [3, 4, 5, 6, 0] rfl)
      · exact absurd c_c hcd
    · exact absurd rfl c_a
set_option maxHeartbeats 4000000 in
set_option maxRecDepth 100000 in
theorem law_case_22 {p : Program} {l : Launch} {e : Env} {s : State} {m : MethodId} {below : List Frame} {meth : Method} {c : Code} {b L : Nat} {xs : Nat → Int32} (hlf : l.stackTraces = false) (C0 : CallFix p m c cL_law 9 s #[Value.ref b] wsL_law RL) (hX : va_X b L xs s s.heap) (hbl : b < s.heap.size) (hL : L ≤ 2560) {D : va_G} {cI cJ : ClassId} {h r1 r2 r3 r4 o g q1 q2 q3 q4 : Nat} {tk co cn wk : Nat → Nat} {n st : Nat} {ho ct sp th : Int32} {fo : Nat → Int64} (hk : tOk tk co cn wk n st) {i : Nat} (hi : i + 5 ≤ L) {H : Heap} {locs : List Loc} {ls : Array Slot} (hG : tcG D cI cJ s.heap.size (wT h r1 r2 r3 r4 cI tk co cn wk n ho st ct sp ((o, tcO cJ fo) :: wM g q1 q2 q3 q4 cI th tk co cn wk n ho st ct sp [])) s H) (hS : va_S (tcA s.heap.size) s.heap H locs) (hl : lv_has ls 9 [(0, .ref b), (1, .ref h), (2, .ref g), (3, .ref o), (4, .int (nI i))])
    (back : ∀ (tk co cn wk : Nat → Nat) (n : Nat) (ho : Int32) (st : Nat) (ct sp th : Int32) (fo : Nat → Int64), tOk tk co cn wk n st → ∀ (H : Heap) (locs : List Loc) (ls : Array Slot), tcG D cI cJ s.heap.size (wT h r1 r2 r3 r4 cI tk co cn wk n ho st ct sp ((o, tcO cJ fo) :: wM g q1 q2 q3 q4 cI th tk co cn wk n ho st ct sp [])) s H → va_S (tcA s.heap.size) s.heap H locs → lv_has ls 9 [(0, .ref b), (1, .ref h), (2, .ref g), (3, .ref o), (4, .int (nI (i + 5)))] → W p l e room_1 s m #[Value.ref b] below meth c H locs (11 + (i + 5)) (128 + 5 * (i + 5)) (lw_Z below #[Value.ref b] s) (F0 m 23 ls [])) : W p l e room_1 s m #[Value.ref b] below meth c H locs (11 + i) (128 + 5 * i) (lw_Z below #[Value.ref b] s) (F0 m 1304 ls []) := by
  obtain ⟨x1, ex1⟩ : ∃ y, y = xs (i + 1) := ⟨_, rfl⟩
  refine lv_aload_n C0.1 C0.2.1 dL_law_1304 rfl (lv_at hl 1 rfl) ?_
  refine lv_aload_n C0.1 C0.2.1 dL_law_1305 rfl (lv_at hl 0 rfl) ?_
  refine lv_iload C0.1 C0.2.1 dL_law_1306 (lv_at hl 4 rfl) ?_
  refine lv_iconst (v := nI 1) C0.1 C0.2.1 dL_law_1308 (by decide) ?_
  refine tn_iadd C0.1 C0.2.1 dL_law_1309 ?_
  refine tc_sld C0 hX hbl hS (by omega) hL ex1 dL_law_1310 ?_
  refine lv_aload_n C0.1 C0.2.1 dL_law_1311 rfl (lv_at hl 3 rfl) ?_
  refine tc_callSW (rest := []) C0 hG hS (kL_luckOf hlf hk x1) (vx_cwSW 3 C0.2.2.2.2 gL_law_L_luckOf rfl rfl rfl (by decide +kernel) ⟨(Nat.le_of_ble_eq_true rfl), (Nat.le_of_ble_eq_true rfl)⟩) rfl hl rfl (Nat.le_of_ble_eq_true rfl) dL_law_1312 ⟨(by dsimp only [room_1]; omega), (by dsimp only [room_1]; omega)⟩ (fun H locs hG hS => ?_)
  refine lv_istore (lv' := [(5, .int (nI (cdS x1 n))), (0, .ref b), (1, .ref h), (2, .ref g), (3, .ref o), (4, .int (nI i))]) C0.1 C0.2.1 dL_law_1315 hl (by decide) rfl (fun ls hl => ?_)
  by_cases hcd : cdS x1 n = 0
  · rw [if_pos hcd] at hG
    refine lv_aload_n C0.1 C0.2.1 dL_law_1317 rfl (lv_at hl 3 rfl) ?_
    refine lv_aload_n C0.1 C0.2.1 dL_law_1318 rfl (lv_at hl 1 rfl) ?_
    refine lv_iload C0.1 C0.2.1 dL_law_1319 (lv_at hl 5 rfl) ?_
    refine lv_iconst (v := nI 1) C0.1 C0.2.1 dL_law_1321 (by decide) ?_
    refine tn_iadd C0.1 C0.2.1 dL_law_1322 ?_
    refine tc_sld C0 hX hbl hS (by omega) hL ex1 dL_law_1323 ?_
    have hG := hG.sub (ws' := wM g q1 q2 q3 q4 cI th tk co cn wk n ho st ct sp (wT h r1 r2 r3 r4 cI tk co cn wk n ho st ct sp [(o, tcO cJ (vp_updL fo 0 ((nI (lkn tk co cn (ix x1) n)).toInt64)))])) [6, 7, 8, 9, 10, 0, 1, 2, 3, 4, 5] (by decide) rfl rfl
    refine tc_callV (q0 := 0) (rest := []) C0 hG hS rfl rfl (kX1_luckOf hlf hk x1) (cwV 1 C0.2.2.2.2 gL_law_X1_luckOf rfl rfl rfl (by decide +kernel) ⟨(Nat.le_of_ble_eq_true rfl), (Nat.le_of_ble_eq_true rfl)⟩) rfl hl rfl (Nat.le_of_ble_eq_true rfl) dL_law_1324 ⟨(by dsimp only [room_1]; omega), (by dsimp only [room_1]; omega)⟩ (fun H locs hG hS => ?_)
    have hG : tcG D cI cJ s.heap.size (wM g q1 q2 q3 q4 cI (nI (cdS x1 n)) tk co cn wk n ho st ct sp (wT h r1 r2 r3 r4 cI tk co cn wk n ho st ct sp [(o, tcO cJ (vp_updL fo 0 ((nI (lkn tk co cn (ix x1) n)).toInt64)))])) s H := hG
    refine tc_top (y := nI (lkn tk co cn (ix x1) n)) (if_pos hcd) ?_
    refine lv_istore (lv' := [(6, .int (nI (lkn tk co cn (ix x1) n))), (5, .int (nI (cdS x1 n))), (0, .ref b), (1, .ref h), (2, .ref g), (3, .ref o), (4, .int (nI i))]) C0.1 C0.2.1 dL_law_1327 hl (by decide) rfl (fun ls hl => ?_)
    refine lv_aload_n C0.1 C0.2.1 dL_law_1329 rfl (lv_at hl 4 rfl) ?_
    refine tc_callV (q0 := 0) (rest := []) C0 hG hS rfl rfl (kX1_thrown hlf hk ) (cwV 0 C0.2.2.2.2 gL_law_X1_thrown rfl rfl rfl (by decide +kernel) ⟨(Nat.le_of_ble_eq_true rfl), (Nat.le_of_ble_eq_true rfl)⟩) rfl hl rfl (Nat.le_of_ble_eq_true rfl) dL_law_1330 ⟨(by dsimp only [room_1]; omega), (by dsimp only [room_1]; omega)⟩ (fun H locs hG hS => ?_)
    refine lv_iload C0.1 C0.2.1 dL_law_1333 (lv_at hl 1 rfl) ?_
    refine lv_icmp_eq (tgt := 1340) C0.1 C0.2.1 dL_law_1335 (by decide) (fun c_a => ?_) (fun c_a => ?_)
    · refine lv_iload C0.1 C0.2.1 dL_law_1340 (lv_at hl 1 rfl) ?_
      refine tn_if_ne (tgt := 1357) C0.1 C0.2.1 dL_law_1342 (by decide) (by have hcm := cdS_le x1 n; omega) (fun c_c => ?_) (fun c_c => ?_)
      · exact absurd hcd (Nat.ne_of_gt c_c)
      · refine lv_aload_n C0.1 C0.2.1 dL_law_1345 rfl (lv_at hl 5 rfl) ?_
        refine lv_iconst (v := nI 0) C0.1 C0.2.1 dL_law_1346 (by decide) ?_
        refine tc_lald0 (q0 := 10) C0 hG rfl dL_law_1347 ?_
        refine lv_topl (fun y8 e8 => ?_)
        have e9 : y8 = (nI (lkn tk co cn (ix x1) n)).toInt64 := e8.trans pk_uLs
        subst e9
        refine lv_iload C0.1 C0.2.1 dL_law_1348 (lv_at hl 0 rfl) ?_
        refine lv_i2l C0.1 C0.2.1 dL_law_1350 (v := (nI (lkn tk co cn (ix x1) n)).toInt64) rfl ?_
        refine W.lcmp C0.1 C0.2.1 dL_law_1351 ?_
        refine tc_top (lg_self _) ?_
        refine tn_if_eq (tgt := 1357) C0.1 C0.2.1 dL_law_1352 (by decide) (by decide) (fun c_d => ?_) (fun c_d => absurd c_d (by decide))
        refine lv_goto (tgt := 1758) C0.1 C0.2.1 dL_law_1357 (by decide) ?_
        refine lv_iinc (v := nI (i + 5)) (lv' := [(4, .int (nI (i + 5))), (6, .int (nI (lkn tk co cn (ix x1) n))), (5, .int (nI (cdS x1 n))), (0, .ref b), (1, .ref h), (2, .ref g), (3, .ref o)]) C0.1 C0.2.1 dL_law_1758 hl (k := 6) rfl (nI_add i 5) (by decide) rfl (fun ls hl => ?_)
        refine lv_goto (tgt := 23) C0.1 C0.2.1 dL_law_1761 (by decide) ?_
        refine W.widen (k := 11 + (i + 5)) (n := 128 + 5 * (i + 5)) (by omega) (by omega) ?_
        have hG := hG.sub (ws' := wT h r1 r2 r3 r4 cI tk co cn wk n ho st ct sp ((o, tcO cJ (vp_updL fo 0 ((nI (lkn tk co cn (ix x1) n)).toInt64))) :: wM g q1 q2 q3 q4 cI (nI (cdS x1 n)) tk co cn wk n ho st ct sp [])) [5, 6, 7, 8, 9, 10, 0, 1, 2, 3, 4] (by decide) rfl rfl
        exact back tk co cn wk n ho st ct sp (nI (cdS x1 n)) (vp_updL fo 0 ((nI (lkn tk co cn (ix x1) n)).toInt64)) hk _ _ _ hG hS (lv_sub hl [3, 4, 5, 6, 0] rfl)
    · exact absurd rfl c_a
  · rw [if_neg hcd] at hG
    refine lv_aload_n C0.1 C0.2.1 dL_law_1317 rfl (lv_at hl 3 rfl) ?_
    refine lv_aload_n C0.1 C0.2.1 dL_law_1318 rfl (lv_at hl 1 rfl) ?_
    refine lv_iload C0.1 C0.2.1 dL_law_1319 (lv_at hl 5 rfl) ?_
    refine lv_iconst (v := nI 1) C0.1 C0.2.1 dL_law_1321 (by decide) ?_
    refine tn_iadd C0.1 C0.2.1 dL_law_1322 ?_
    refine tc_sld C0 hX hbl hS (by omega) hL ex1 dL_law_1323 ?_
    have hG := hG.sub (ws' := wM g q1 q2 q3 q4 cI th tk co cn wk n ho st ct sp (wT h r1 r2 r3 r4 cI tk co cn wk n ho st ct sp [(o, tcO cJ fo)])) [6, 7, 8, 9, 10, 0, 1, 2, 3, 4, 5] (by decide) rfl rfl
    refine tc_callV (q0 := 0) (rest := []) C0 hG hS rfl rfl (kX1_luckOf hlf hk x1) (cwV 1 C0.2.2.2.2 gL_law_X1_luckOf rfl rfl rfl (by decide +kernel) ⟨(Nat.le_of_ble_eq_true rfl), (Nat.le_of_ble_eq_true rfl)⟩) rfl hl rfl (Nat.le_of_ble_eq_true rfl) dL_law_1324 ⟨(by dsimp only [room_1]; omega), (by dsimp only [room_1]; omega)⟩ (fun H locs hG hS => ?_)
    have hG : tcG D cI cJ s.heap.size (wM g q1 q2 q3 q4 cI (nI (cdS x1 n)) tk co cn wk n ho st ct sp (wT h r1 r2 r3 r4 cI tk co cn wk n ho st ct sp [(o, tcO cJ fo)])) s H := hG
    refine tc_top (y := nI 0) (if_neg hcd) ?_
    refine lv_istore (lv' := [(6, .int (nI 0)), (5, .int (nI (cdS x1 n))), (0, .ref b), (1, .ref h), (2, .ref g), (3, .ref o), (4, .int (nI i))]) C0.1 C0.2.1 dL_law_1327 hl (by decide) rfl (fun ls hl => ?_)
    refine lv_aload_n C0.1 C0.2.1 dL_law_1329 rfl (lv_at hl 4 rfl) ?_
    refine tc_callV (q0 := 0) (rest := []) C0 hG hS rfl rfl (kX1_thrown hlf hk ) (cwV 0 C0.2.2.2.2 gL_law_X1_thrown rfl rfl rfl (by decide +kernel) ⟨(Nat.le_of_ble_eq_true rfl), (Nat.le_of_ble_eq_true rfl)⟩) rfl hl rfl (Nat.le_of_ble_eq_true rfl) dL_law_1330 ⟨(by dsimp only [room_1]; omega), (by dsimp only [room_1]; omega)⟩ (fun H locs hG hS => ?_)
    refine lv_iload C0.1 C0.2.1 dL_law_1333 (lv_at hl 1 rfl) ?_
    refine lv_icmp_eq (tgt := 1340) C0.1 C0.2.1 dL_law_1335 (by decide) (fun c_a => ?_) (fun c_a => ?_)
    · refine lv_iload C0.1 C0.2.1 dL_law_1340 (lv_at hl 1 rfl) ?_
      refine tn_if_ne (tgt := 1357) C0.1 C0.2.1 dL_law_1342 (by decide) (by have hcm := cdS_le x1 n; omega) (fun c_c => ?_) (fun c_c => ?_)
      · refine lv_goto (tgt := 1758) C0.1 C0.2.1 dL_law_1357 (by decide) ?_
        refine lv_iinc (v := nI (i + 5)) (lv' := [(4, .int (nI (i + 5))), (6, .int (nI 0)), (5, .int (nI (cdS x1 n))), (0, .ref b), (1, .ref h), (2, .ref g), (3, .ref o)]) C0.1 C0.2.1 dL_law_1758 hl (k := 6) rfl (nI_add i 5) (by decide) rfl (fun ls hl => ?_)
        refine lv_goto (tgt := 23) C0.1 C0.2.1 dL_law_1761 (by decide) ?_
        refine W.widen (k := 11 + (i + 5)) (n := 128 + 5 * (i + 5)) (by omega) (by omega) ?_
        have hG := hG.sub (ws' := wT h r1 r2 r3 r4 cI tk co cn wk n ho st ct sp ((o, tcO cJ fo) :: wM g q1 q2 q3 q4 cI (nI (cdS x1 n)) tk co cn wk n ho st ct sp [])) [5, 6, 7, 8, 9, 10, 0, 1, 2, 3, 4] (by decide) rfl rfl
        exact back tk co cn wk n ho st ct sp (nI (cdS x1 n)) fo hk _ _ _ hG hS (lv_sub hl [3, 4, 5, 6, 0] rfl)
      · exact absurd c_c hcd
    · exact absurd rfl c_a
set_option maxHeartbeats 4000000 in
set_option maxRecDepth 100000 in
theorem law_case_23 {p : Program} {l : Launch} {e : Env} {s : State} {m : MethodId} {below : List Frame} {meth : Method} {c : Code} {b L : Nat} {xs : Nat → Int32} (hlf : l.stackTraces = false) (C0 : CallFix p m c cL_law 9 s #[Value.ref b] wsL_law RL) (hX : va_X b L xs s s.heap) (hbl : b < s.heap.size) (hL : L ≤ 2560) {D : va_G} {cI cJ : ClassId} {h r1 r2 r3 r4 o g q1 q2 q3 q4 : Nat} {tk co cn wk : Nat → Nat} {n st : Nat} {ho ct sp th : Int32} {fo : Nat → Int64} (hk : tOk tk co cn wk n st) {i : Nat} (hi : i + 5 ≤ L) {H : Heap} {locs : List Loc} {ls : Array Slot} (hG : tcG D cI cJ s.heap.size (wT h r1 r2 r3 r4 cI tk co cn wk n ho st ct sp ((o, tcO cJ fo) :: wM g q1 q2 q3 q4 cI th tk co cn wk n ho st ct sp [])) s H) (hS : va_S (tcA s.heap.size) s.heap H locs) (hl : lv_has ls 9 [(0, .ref b), (1, .ref h), (2, .ref g), (3, .ref o), (4, .int (nI i))])
    (back : ∀ (tk co cn wk : Nat → Nat) (n : Nat) (ho : Int32) (st : Nat) (ct sp th : Int32) (fo : Nat → Int64), tOk tk co cn wk n st → ∀ (H : Heap) (locs : List Loc) (ls : Array Slot), tcG D cI cJ s.heap.size (wT h r1 r2 r3 r4 cI tk co cn wk n ho st ct sp ((o, tcO cJ fo) :: wM g q1 q2 q3 q4 cI th tk co cn wk n ho st ct sp [])) s H → va_S (tcA s.heap.size) s.heap H locs → lv_has ls 9 [(0, .ref b), (1, .ref h), (2, .ref g), (3, .ref o), (4, .int (nI (i + 5)))] → W p l e room_1 s m #[Value.ref b] below meth c H locs (11 + (i + 5)) (128 + 5 * (i + 5)) (lw_Z below #[Value.ref b] s) (F0 m 23 ls [])) : W p l e room_1 s m #[Value.ref b] below meth c H locs (11 + i) (128 + 5 * i) (lw_Z below #[Value.ref b] s) (F0 m 1360 ls []) := by
  refine lv_aload_n C0.1 C0.2.1 dL_law_1360 rfl (lv_at hl 1 rfl) ?_
  refine tc_callV (q0 := 0) (rest := []) C0 hG hS rfl rfl (kX0_luckiestPair hlf hk) (cwV 0 C0.2.2.2.2 gL_law_X0_luckiestPair rfl rfl rfl (by decide +kernel) ⟨(Nat.le_of_ble_eq_true rfl), (Nat.le_of_ble_eq_true rfl)⟩) rfl hl rfl (Nat.le_of_ble_eq_true rfl) dL_law_1361 ⟨(by dsimp only [room_1]; omega), (by dsimp only [room_1]; omega)⟩ (fun H locs hG hS => ?_)
  refine lv_aload_n C0.1 C0.2.1 dL_law_1364 rfl (lv_at hl 2 rfl) ?_
  have hG := hG.sub (ws' := wM g q1 q2 q3 q4 cI th tk co cn wk n ho st ct sp (wT h r1 r2 r3 r4 cI tk co cn wk n ho st ct sp [(o, tcO cJ fo)])) [6, 7, 8, 9, 10, 0, 1, 2, 3, 4, 5] (by decide) rfl rfl
  refine tc_callV (q0 := 0) (rest := [.int (iM (luckiest tk co n))]) C0 hG hS rfl rfl (kX1_luckiestPair hlf hk ) (cwV 0 C0.2.2.2.2 gL_law_X1_luckiestPair rfl rfl rfl (by decide +kernel) ⟨(Nat.le_of_ble_eq_true rfl), (Nat.le_of_ble_eq_true rfl)⟩) rfl hl rfl (Nat.le_of_ble_eq_true rfl) dL_law_1365 ⟨(by dsimp only [room_1]; omega), (by dsimp only [room_1]; omega)⟩ (fun H locs hG hS => ?_)
  have hG : tcG D cI cJ s.heap.size (wM g q1 q2 q3 q4 cI (nI 0) tk co cn wk n ho st ct sp (wT h r1 r2 r3 r4 cI tk co cn wk n ho st ct sp [(o, tcO cJ fo)])) s H := hG
  refine lv_icmp_eq (tgt := 1758) C0.1 C0.2.1 dL_law_1368 (by decide) (fun c_a => ?_) (fun c_a => absurd rfl c_a)
  refine lv_iinc (v := nI (i + 5)) (lv' := [(4, .int (nI (i + 5))), (0, .ref b), (1, .ref h), (2, .ref g), (3, .ref o)]) C0.1 C0.2.1 dL_law_1758 hl (k := 4) rfl (nI_add i 5) (by decide) rfl (fun ls hl => ?_)
  refine lv_goto (tgt := 23) C0.1 C0.2.1 dL_law_1761 (by decide) ?_
  refine W.widen (k := 11 + (i + 5)) (n := 128 + 5 * (i + 5)) (by omega) (by omega) ?_
  have hG := hG.sub (ws' := wT h r1 r2 r3 r4 cI tk co cn wk n ho st ct sp ((o, tcO cJ fo) :: wM g q1 q2 q3 q4 cI (nI 0) tk co cn wk n ho st ct sp [])) [5, 6, 7, 8, 9, 10, 0, 1, 2, 3, 4] (by decide) rfl rfl
  exact back tk co cn wk n ho st ct sp (nI 0) fo hk _ _ _ hG hS (lv_sub hl [1, 2, 3, 4, 0] rfl)
set_option maxHeartbeats 4000000 in
set_option maxRecDepth 100000 in
theorem law_case_24 {p : Program} {l : Launch} {e : Env} {s : State} {m : MethodId} {below : List Frame} {meth : Method} {c : Code} {b L : Nat} {xs : Nat → Int32} (hlf : l.stackTraces = false) (C0 : CallFix p m c cL_law 9 s #[Value.ref b] wsL_law RL) (hX : va_X b L xs s s.heap) (hbl : b < s.heap.size) (hL : L ≤ 2560) {D : va_G} {cI cJ : ClassId} {h r1 r2 r3 r4 o g q1 q2 q3 q4 : Nat} {tk co cn wk : Nat → Nat} {n st : Nat} {ho ct sp th : Int32} {fo : Nat → Int64} (hk : tOk tk co cn wk n st) {i : Nat} (hi : i + 5 ≤ L) {H : Heap} {locs : List Loc} {ls : Array Slot} (hG : tcG D cI cJ s.heap.size (wT h r1 r2 r3 r4 cI tk co cn wk n ho st ct sp ((o, tcO cJ fo) :: wM g q1 q2 q3 q4 cI th tk co cn wk n ho st ct sp [])) s H) (hS : va_S (tcA s.heap.size) s.heap H locs) (hl : lv_has ls 9 [(0, .ref b), (1, .ref h), (2, .ref g), (3, .ref o), (4, .int (nI i))])
    (back : ∀ (tk co cn wk : Nat → Nat) (n : Nat) (ho : Int32) (st : Nat) (ct sp th : Int32) (fo : Nat → Int64), tOk tk co cn wk n st → ∀ (H : Heap) (locs : List Loc) (ls : Array Slot), tcG D cI cJ s.heap.size (wT h r1 r2 r3 r4 cI tk co cn wk n ho st ct sp ((o, tcO cJ fo) :: wM g q1 q2 q3 q4 cI th tk co cn wk n ho st ct sp [])) s H → va_S (tcA s.heap.size) s.heap H locs → lv_has ls 9 [(0, .ref b), (1, .ref h), (2, .ref g), (3, .ref o), (4, .int (nI (i + 5)))] → W p l e room_1 s m #[Value.ref b] below meth c H locs (11 + (i + 5)) (128 + 5 * (i + 5)) (lw_Z below #[Value.ref b] s) (F0 m 23 ls [])) : W p l e room_1 s m #[Value.ref b] below meth c H locs (11 + i) (128 + 5 * i) (lw_Z below #[Value.ref b] s) (F0 m 1373 ls []) := by
  obtain ⟨x1, ex1⟩ : ∃ y, y = xs (i + 1) := ⟨_, rfl⟩
  refine lv_aload_n C0.1 C0.2.1 dL_law_1373 rfl (lv_at hl 1 rfl) ?_
  refine lv_aload_n C0.1 C0.2.1 dL_law_1374 rfl (lv_at hl 0 rfl) ?_
  refine lv_iload C0.1 C0.2.1 dL_law_1375 (lv_at hl 4 rfl) ?_
  refine lv_iconst (v := nI 1) C0.1 C0.2.1 dL_law_1377 (by decide) ?_
  refine tn_iadd C0.1 C0.2.1 dL_law_1378 ?_
  refine tc_sld C0 hX hbl hS (by omega) hL ex1 dL_law_1379 ?_
  refine lv_aload_n C0.1 C0.2.1 dL_law_1380 rfl (lv_at hl 3 rfl) ?_
  refine tc_callSW (rest := []) C0 hG hS (kL_coincidencesIn hlf hk x1) (vx_cwSW 3 C0.2.2.2.2 gL_law_L_coincidencesIn rfl rfl rfl (by decide +kernel) ⟨(Nat.le_of_ble_eq_true rfl), (Nat.le_of_ble_eq_true rfl)⟩) rfl hl rfl (Nat.le_of_ble_eq_true rfl) dL_law_1381 ⟨(by dsimp only [room_1]; omega), (by dsimp only [room_1]; omega)⟩ (fun H locs hG hS => ?_)
  refine lv_istore (lv' := [(5, .int (nI (cdS x1 61))), (0, .ref b), (1, .ref h), (2, .ref g), (3, .ref o), (4, .int (nI i))]) C0.1 C0.2.1 dL_law_1384 hl (by decide) rfl (fun ls hl => ?_)
  by_cases hcd : cdS x1 61 = 0
  · rw [if_pos hcd] at hG
    refine lv_aload_n C0.1 C0.2.1 dL_law_1386 rfl (lv_at hl 3 rfl) ?_
    refine lv_aload_n C0.1 C0.2.1 dL_law_1387 rfl (lv_at hl 1 rfl) ?_
    refine lv_iload C0.1 C0.2.1 dL_law_1388 (lv_at hl 5 rfl) ?_
    refine lv_iconst (v := nI 1) C0.1 C0.2.1 dL_law_1390 (by decide) ?_
    refine tn_iadd C0.1 C0.2.1 dL_law_1391 ?_
    refine tc_sld C0 hX hbl hS (by omega) hL ex1 dL_law_1392 ?_
    have hG := hG.sub (ws' := wM g q1 q2 q3 q4 cI th tk co cn wk n ho st ct sp (wT h r1 r2 r3 r4 cI tk co cn wk n ho st ct sp [(o, tcO cJ (vp_updL fo 0 ((nI (tw tk co cn wk (ix x1) n)).toInt64)))])) [6, 7, 8, 9, 10, 0, 1, 2, 3, 4, 5] (by decide) rfl rfl
    refine tc_callV (q0 := 0) (rest := []) C0 hG hS rfl rfl (kX1_coincidencesIn hlf hk x1) (cwV 1 C0.2.2.2.2 gL_law_X1_coincidencesIn rfl rfl rfl (by decide +kernel) ⟨(Nat.le_of_ble_eq_true rfl), (Nat.le_of_ble_eq_true rfl)⟩) rfl hl rfl (Nat.le_of_ble_eq_true rfl) dL_law_1393 ⟨(by dsimp only [room_1]; omega), (by dsimp only [room_1]; omega)⟩ (fun H locs hG hS => ?_)
    have hG : tcG D cI cJ s.heap.size (wM g q1 q2 q3 q4 cI (nI (cdS x1 61)) tk co cn wk n ho st ct sp (wT h r1 r2 r3 r4 cI tk co cn wk n ho st ct sp [(o, tcO cJ (vp_updL fo 0 ((nI (tw tk co cn wk (ix x1) n)).toInt64)))])) s H := hG
    refine tc_top (y := nI (tw tk co cn wk (ix x1) n)) (if_pos hcd) ?_
    refine lv_istore (lv' := [(6, .int (nI (tw tk co cn wk (ix x1) n))), (5, .int (nI (cdS x1 61))), (0, .ref b), (1, .ref h), (2, .ref g), (3, .ref o), (4, .int (nI i))]) C0.1 C0.2.1 dL_law_1396 hl (by decide) rfl (fun ls hl => ?_)
    refine lv_aload_n C0.1 C0.2.1 dL_law_1398 rfl (lv_at hl 4 rfl) ?_
    refine tc_callV (q0 := 0) (rest := []) C0 hG hS rfl rfl (kX1_thrown hlf hk ) (cwV 0 C0.2.2.2.2 gL_law_X1_thrown rfl rfl rfl (by decide +kernel) ⟨(Nat.le_of_ble_eq_true rfl), (Nat.le_of_ble_eq_true rfl)⟩) rfl hl rfl (Nat.le_of_ble_eq_true rfl) dL_law_1399 ⟨(by dsimp only [room_1]; omega), (by dsimp only [room_1]; omega)⟩ (fun H locs hG hS => ?_)
    refine lv_iload C0.1 C0.2.1 dL_law_1402 (lv_at hl 1 rfl) ?_
    refine lv_icmp_eq (tgt := 1409) C0.1 C0.2.1 dL_law_1404 (by decide) (fun c_a => ?_) (fun c_a => ?_)
    · refine lv_iload C0.1 C0.2.1 dL_law_1409 (lv_at hl 1 rfl) ?_
      refine tn_if_ne (tgt := 1426) C0.1 C0.2.1 dL_law_1411 (by decide) (by have hcm := cdS_le x1 61; omega) (fun c_c => ?_) (fun c_c => ?_)
      · exact absurd hcd (Nat.ne_of_gt c_c)
      · refine lv_aload_n C0.1 C0.2.1 dL_law_1414 rfl (lv_at hl 5 rfl) ?_
        refine lv_iconst (v := nI 0) C0.1 C0.2.1 dL_law_1415 (by decide) ?_
        refine tc_lald0 (q0 := 10) C0 hG rfl dL_law_1416 ?_
        refine lv_topl (fun y8 e8 => ?_)
        have e9 : y8 = (nI (tw tk co cn wk (ix x1) n)).toInt64 := e8.trans pk_uLs
        subst e9
        refine lv_iload C0.1 C0.2.1 dL_law_1417 (lv_at hl 0 rfl) ?_
        refine lv_i2l C0.1 C0.2.1 dL_law_1419 (v := (nI (tw tk co cn wk (ix x1) n)).toInt64) rfl ?_
        refine W.lcmp C0.1 C0.2.1 dL_law_1420 ?_
        refine tc_top (lg_self _) ?_
        refine tn_if_eq (tgt := 1426) C0.1 C0.2.1 dL_law_1421 (by decide) (by decide) (fun c_d => ?_) (fun c_d => absurd c_d (by decide))
        refine lv_goto (tgt := 1758) C0.1 C0.2.1 dL_law_1426 (by decide) ?_
        refine lv_iinc (v := nI (i + 5)) (lv' := [(4, .int (nI (i + 5))), (6, .int (nI (tw tk co cn wk (ix x1) n))), (5, .int (nI (cdS x1 61))), (0, .ref b), (1, .ref h), (2, .ref g), (3, .ref o)]) C0.1 C0.2.1 dL_law_1758 hl (k := 6) rfl (nI_add i 5) (by decide) rfl (fun ls hl => ?_)
        refine lv_goto (tgt := 23) C0.1 C0.2.1 dL_law_1761 (by decide) ?_
        refine W.widen (k := 11 + (i + 5)) (n := 128 + 5 * (i + 5)) (by omega) (by omega) ?_
        have hG := hG.sub (ws' := wT h r1 r2 r3 r4 cI tk co cn wk n ho st ct sp ((o, tcO cJ (vp_updL fo 0 ((nI (tw tk co cn wk (ix x1) n)).toInt64))) :: wM g q1 q2 q3 q4 cI (nI (cdS x1 61)) tk co cn wk n ho st ct sp [])) [5, 6, 7, 8, 9, 10, 0, 1, 2, 3, 4] (by decide) rfl rfl
        exact back tk co cn wk n ho st ct sp (nI (cdS x1 61)) (vp_updL fo 0 ((nI (tw tk co cn wk (ix x1) n)).toInt64)) hk _ _ _ hG hS (lv_sub hl [3, 4, 5, 6, 0] rfl)
    · exact absurd rfl c_a
  · rw [if_neg hcd] at hG
    refine lv_aload_n C0.1 C0.2.1 dL_law_1386 rfl (lv_at hl 3 rfl) ?_
    refine lv_aload_n C0.1 C0.2.1 dL_law_1387 rfl (lv_at hl 1 rfl) ?_
    refine lv_iload C0.1 C0.2.1 dL_law_1388 (lv_at hl 5 rfl) ?_
    refine lv_iconst (v := nI 1) C0.1 C0.2.1 dL_law_1390 (by decide) ?_
    refine tn_iadd C0.1 C0.2.1 dL_law_1391 ?_
    refine tc_sld C0 hX hbl hS (by omega) hL ex1 dL_law_1392 ?_
    have hG := hG.sub (ws' := wM g q1 q2 q3 q4 cI th tk co cn wk n ho st ct sp (wT h r1 r2 r3 r4 cI tk co cn wk n ho st ct sp [(o, tcO cJ fo)])) [6, 7, 8, 9, 10, 0, 1, 2, 3, 4, 5] (by decide) rfl rfl
    refine tc_callV (q0 := 0) (rest := []) C0 hG hS rfl rfl (kX1_coincidencesIn hlf hk x1) (cwV 1 C0.2.2.2.2 gL_law_X1_coincidencesIn rfl rfl rfl (by decide +kernel) ⟨(Nat.le_of_ble_eq_true rfl), (Nat.le_of_ble_eq_true rfl)⟩) rfl hl rfl (Nat.le_of_ble_eq_true rfl) dL_law_1393 ⟨(by dsimp only [room_1]; omega), (by dsimp only [room_1]; omega)⟩ (fun H locs hG hS => ?_)
    have hG : tcG D cI cJ s.heap.size (wM g q1 q2 q3 q4 cI (nI (cdS x1 61)) tk co cn wk n ho st ct sp (wT h r1 r2 r3 r4 cI tk co cn wk n ho st ct sp [(o, tcO cJ fo)])) s H := hG
    refine tc_top (y := nI 0) (if_neg hcd) ?_
    refine lv_istore (lv' := [(6, .int (nI 0)), (5, .int (nI (cdS x1 61))), (0, .ref b), (1, .ref h), (2, .ref g), (3, .ref o), (4, .int (nI i))]) C0.1 C0.2.1 dL_law_1396 hl (by decide) rfl (fun ls hl => ?_)
    refine lv_aload_n C0.1 C0.2.1 dL_law_1398 rfl (lv_at hl 4 rfl) ?_
    refine tc_callV (q0 := 0) (rest := []) C0 hG hS rfl rfl (kX1_thrown hlf hk ) (cwV 0 C0.2.2.2.2 gL_law_X1_thrown rfl rfl rfl (by decide +kernel) ⟨(Nat.le_of_ble_eq_true rfl), (Nat.le_of_ble_eq_true rfl)⟩) rfl hl rfl (Nat.le_of_ble_eq_true rfl) dL_law_1399 ⟨(by dsimp only [room_1]; omega), (by dsimp only [room_1]; omega)⟩ (fun H locs hG hS => ?_)
    refine lv_iload C0.1 C0.2.1 dL_law_1402 (lv_at hl 1 rfl) ?_
    refine lv_icmp_eq (tgt := 1409) C0.1 C0.2.1 dL_law_1404 (by decide) (fun c_a => ?_) (fun c_a => ?_)
    · refine lv_iload C0.1 C0.2.1 dL_law_1409 (lv_at hl 1 rfl) ?_
      refine tn_if_ne (tgt := 1426) C0.1 C0.2.1 dL_law_1411 (by decide) (by have hcm := cdS_le x1 61; omega) (fun c_c => ?_) (fun c_c => ?_)
      · refine lv_goto (tgt := 1758) C0.1 C0.2.1 dL_law_1426 (by decide) ?_
        refine lv_iinc (v := nI (i + 5)) (lv' := [(4, .int (nI (i + 5))), (6, .int (nI 0)), (5, .int (nI (cdS x1 61))), (0, .ref b), (1, .ref h), (2, .ref g), (3, .ref o)]) C0.1 C0.2.1 dL_law_1758 hl (k := 6) rfl (nI_add i 5) (by decide) rfl (fun ls hl => ?_)
        refine lv_goto (tgt := 23) C0.1 C0.2.1 dL_law_1761 (by decide) ?_
        refine W.widen (k := 11 + (i + 5)) (n := 128 + 5 * (i + 5)) (by omega) (by omega) ?_
        have hG := hG.sub (ws' := wT h r1 r2 r3 r4 cI tk co cn wk n ho st ct sp ((o, tcO cJ fo) :: wM g q1 q2 q3 q4 cI (nI (cdS x1 61)) tk co cn wk n ho st ct sp [])) [5, 6, 7, 8, 9, 10, 0, 1, 2, 3, 4] (by decide) rfl rfl
        exact back tk co cn wk n ho st ct sp (nI (cdS x1 61)) fo hk _ _ _ hG hS (lv_sub hl [3, 4, 5, 6, 0] rfl)
      · exact absurd c_c hcd
    · exact absurd rfl c_a
set_option maxHeartbeats 4000000 in
set_option maxRecDepth 100000 in
theorem law_case_25 {p : Program} {l : Launch} {e : Env} {s : State} {m : MethodId} {below : List Frame} {meth : Method} {c : Code} {b L : Nat} {xs : Nat → Int32} (hlf : l.stackTraces = false) (C0 : CallFix p m c cL_law 9 s #[Value.ref b] wsL_law RL) (hX : va_X b L xs s s.heap) (hbl : b < s.heap.size) (hL : L ≤ 2560) {D : va_G} {cI cJ : ClassId} {h r1 r2 r3 r4 o g q1 q2 q3 q4 : Nat} {tk co cn wk : Nat → Nat} {n st : Nat} {ho ct sp th : Int32} {fo : Nat → Int64} (hk : tOk tk co cn wk n st) {i : Nat} (hi : i + 5 ≤ L) {H : Heap} {locs : List Loc} {ls : Array Slot} (hG : tcG D cI cJ s.heap.size (wT h r1 r2 r3 r4 cI tk co cn wk n ho st ct sp ((o, tcO cJ fo) :: wM g q1 q2 q3 q4 cI th tk co cn wk n ho st ct sp [])) s H) (hS : va_S (tcA s.heap.size) s.heap H locs) (hl : lv_has ls 9 [(0, .ref b), (1, .ref h), (2, .ref g), (3, .ref o), (4, .int (nI i))])
    (back : ∀ (tk co cn wk : Nat → Nat) (n : Nat) (ho : Int32) (st : Nat) (ct sp th : Int32) (fo : Nat → Int64), tOk tk co cn wk n st → ∀ (H : Heap) (locs : List Loc) (ls : Array Slot), tcG D cI cJ s.heap.size (wT h r1 r2 r3 r4 cI tk co cn wk n ho st ct sp ((o, tcO cJ fo) :: wM g q1 q2 q3 q4 cI th tk co cn wk n ho st ct sp [])) s H → va_S (tcA s.heap.size) s.heap H locs → lv_has ls 9 [(0, .ref b), (1, .ref h), (2, .ref g), (3, .ref o), (4, .int (nI (i + 5)))] → W p l e room_1 s m #[Value.ref b] below meth c H locs (11 + (i + 5)) (128 + 5 * (i + 5)) (lw_Z below #[Value.ref b] s) (F0 m 23 ls [])) : W p l e room_1 s m #[Value.ref b] below meth c H locs (11 + i) (128 + 5 * i) (lw_Z below #[Value.ref b] s) (F0 m 1429 ls []) := by
  obtain ⟨x1, ex1⟩ : ∃ y, y = xs (i + 1) := ⟨_, rfl⟩
  obtain ⟨x2, ex2⟩ : ∃ y, y = xs (i + 2) := ⟨_, rfl⟩
  refine lv_aload_n C0.1 C0.2.1 dL_law_1429 rfl (lv_at hl 1 rfl) ?_
  refine lv_aload_n C0.1 C0.2.1 dL_law_1430 rfl (lv_at hl 0 rfl) ?_
  refine lv_iload C0.1 C0.2.1 dL_law_1431 (lv_at hl 4 rfl) ?_
  refine lv_iconst (v := nI 1) C0.1 C0.2.1 dL_law_1433 (by decide) ?_
  refine tn_iadd C0.1 C0.2.1 dL_law_1434 ?_
  refine tc_sld C0 hX hbl hS (by omega) hL ex1 dL_law_1435 ?_
  refine lv_aload_n C0.1 C0.2.1 dL_law_1436 rfl (lv_at hl 0 rfl) ?_
  refine lv_iload C0.1 C0.2.1 dL_law_1437 (lv_at hl 4 rfl) ?_
  refine lv_iconst (v := nI 2) C0.1 C0.2.1 dL_law_1439 (by decide) ?_
  refine tn_iadd C0.1 C0.2.1 dL_law_1440 ?_
  refine tc_sld C0 hX hbl hS (by omega) hL ex2 dL_law_1441 ?_
  refine lv_aload_n C0.1 C0.2.1 dL_law_1442 rfl (lv_at hl 3 rfl) ?_
  refine tc_callSW (rest := []) C0 hG hS (kL_hoursUntilTogether hlf hk x1 x2) (vx_cwSW 4 C0.2.2.2.2 gL_law_L_hoursUntilTogether rfl rfl rfl (by decide +kernel) ⟨(Nat.le_of_ble_eq_true rfl), (Nat.le_of_ble_eq_true rfl)⟩) rfl hl rfl (Nat.le_of_ble_eq_true rfl) dL_law_1443 ⟨(by dsimp only [room_1]; omega), (by dsimp only [room_1]; omega)⟩ (fun H locs hG hS => ?_)
  refine lv_istore (lv' := [(5, .int (nI (cdP x1 x2 n))), (0, .ref b), (1, .ref h), (2, .ref g), (3, .ref o), (4, .int (nI i))]) C0.1 C0.2.1 dL_law_1446 hl (by decide) rfl (fun ls hl => ?_)
  by_cases hcd : cdP x1 x2 n = 0
  · rw [if_pos hcd] at hG
    refine lv_aload_n C0.1 C0.2.1 dL_law_1448 rfl (lv_at hl 3 rfl) ?_
    refine lv_aload_n C0.1 C0.2.1 dL_law_1449 rfl (lv_at hl 1 rfl) ?_
    refine lv_iload C0.1 C0.2.1 dL_law_1450 (lv_at hl 5 rfl) ?_
    refine lv_iconst (v := nI 1) C0.1 C0.2.1 dL_law_1452 (by decide) ?_
    refine tn_iadd C0.1 C0.2.1 dL_law_1453 ?_
    refine tc_sld C0 hX hbl hS (by omega) hL ex1 dL_law_1454 ?_
    refine lv_aload_n C0.1 C0.2.1 dL_law_1455 rfl (lv_at hl 1 rfl) ?_
    refine lv_iload C0.1 C0.2.1 dL_law_1456 (lv_at hl 5 rfl) ?_
    refine lv_iconst (v := nI 2) C0.1 C0.2.1 dL_law_1458 (by decide) ?_
    refine tn_iadd C0.1 C0.2.1 dL_law_1459 ?_
    refine tc_sld C0 hX hbl hS (by omega) hL ex2 dL_law_1460 ?_
    have hG := hG.sub (ws' := wM g q1 q2 q3 q4 cI th tk co cn wk n ho st ct sp (wT h r1 r2 r3 r4 cI tk co cn wk n ho st ct sp [(o, tcO cJ (vp_updL fo 0 ((iM (meet cn wk (ix x1) (ix x2))).toInt64)))])) [6, 7, 8, 9, 10, 0, 1, 2, 3, 4, 5] (by decide) rfl rfl
    refine tc_callV (q0 := 0) (rest := []) C0 hG hS rfl rfl (kX1_hoursUntilTogether hlf hk x1 x2) (cwV 2 C0.2.2.2.2 gL_law_X1_hoursUntilTogether rfl rfl rfl (by decide +kernel) ⟨(Nat.le_of_ble_eq_true rfl), (Nat.le_of_ble_eq_true rfl)⟩) rfl hl rfl (Nat.le_of_ble_eq_true rfl) dL_law_1461 ⟨(by dsimp only [room_1]; omega), (by dsimp only [room_1]; omega)⟩ (fun H locs hG hS => ?_)
    have hG : tcG D cI cJ s.heap.size (wM g q1 q2 q3 q4 cI (nI (cdP x1 x2 n)) tk co cn wk n ho st ct sp (wT h r1 r2 r3 r4 cI tk co cn wk n ho st ct sp [(o, tcO cJ (vp_updL fo 0 ((iM (meet cn wk (ix x1) (ix x2))).toInt64)))])) s H := hG
    refine tc_top (y := iM (meet cn wk (ix x1) (ix x2))) (if_pos hcd) ?_
    refine lv_istore (lv' := [(6, .int (iM (meet cn wk (ix x1) (ix x2)))), (5, .int (nI (cdP x1 x2 n))), (0, .ref b), (1, .ref h), (2, .ref g), (3, .ref o), (4, .int (nI i))]) C0.1 C0.2.1 dL_law_1464 hl (by decide) rfl (fun ls hl => ?_)
    refine lv_aload_n C0.1 C0.2.1 dL_law_1466 rfl (lv_at hl 4 rfl) ?_
    refine tc_callV (q0 := 0) (rest := []) C0 hG hS rfl rfl (kX1_thrown hlf hk ) (cwV 0 C0.2.2.2.2 gL_law_X1_thrown rfl rfl rfl (by decide +kernel) ⟨(Nat.le_of_ble_eq_true rfl), (Nat.le_of_ble_eq_true rfl)⟩) rfl hl rfl (Nat.le_of_ble_eq_true rfl) dL_law_1467 ⟨(by dsimp only [room_1]; omega), (by dsimp only [room_1]; omega)⟩ (fun H locs hG hS => ?_)
    refine lv_iload C0.1 C0.2.1 dL_law_1470 (lv_at hl 1 rfl) ?_
    refine lv_icmp_eq (tgt := 1477) C0.1 C0.2.1 dL_law_1472 (by decide) (fun c_a => ?_) (fun c_a => ?_)
    · refine lv_iload C0.1 C0.2.1 dL_law_1477 (lv_at hl 1 rfl) ?_
      refine tn_if_ne (tgt := 1494) C0.1 C0.2.1 dL_law_1479 (by decide) (by have hcm := cdP_le x1 x2 n; omega) (fun c_c => ?_) (fun c_c => ?_)
      · exact absurd hcd (Nat.ne_of_gt c_c)
      · refine lv_aload_n C0.1 C0.2.1 dL_law_1482 rfl (lv_at hl 5 rfl) ?_
        refine lv_iconst (v := nI 0) C0.1 C0.2.1 dL_law_1483 (by decide) ?_
        refine tc_lald0 (q0 := 10) C0 hG rfl dL_law_1484 ?_
        refine lv_topl (fun y8 e8 => ?_)
        have e9 : y8 = (iM (meet cn wk (ix x1) (ix x2))).toInt64 := e8.trans pk_uLs
        subst e9
        refine lv_iload C0.1 C0.2.1 dL_law_1485 (lv_at hl 0 rfl) ?_
        refine lv_i2l C0.1 C0.2.1 dL_law_1487 (v := (iM (meet cn wk (ix x1) (ix x2))).toInt64) rfl ?_
        refine W.lcmp C0.1 C0.2.1 dL_law_1488 ?_
        refine tc_top (lg_self _) ?_
        refine tn_if_eq (tgt := 1494) C0.1 C0.2.1 dL_law_1489 (by decide) (by decide) (fun c_d => ?_) (fun c_d => absurd c_d (by decide))
        refine lv_goto (tgt := 1758) C0.1 C0.2.1 dL_law_1494 (by decide) ?_
        refine lv_iinc (v := nI (i + 5)) (lv' := [(4, .int (nI (i + 5))), (6, .int (iM (meet cn wk (ix x1) (ix x2)))), (5, .int (nI (cdP x1 x2 n))), (0, .ref b), (1, .ref h), (2, .ref g), (3, .ref o)]) C0.1 C0.2.1 dL_law_1758 hl (k := 6) rfl (nI_add i 5) (by decide) rfl (fun ls hl => ?_)
        refine lv_goto (tgt := 23) C0.1 C0.2.1 dL_law_1761 (by decide) ?_
        refine W.widen (k := 11 + (i + 5)) (n := 128 + 5 * (i + 5)) (by omega) (by omega) ?_
        have hG := hG.sub (ws' := wT h r1 r2 r3 r4 cI tk co cn wk n ho st ct sp ((o, tcO cJ (vp_updL fo 0 ((iM (meet cn wk (ix x1) (ix x2))).toInt64))) :: wM g q1 q2 q3 q4 cI (nI (cdP x1 x2 n)) tk co cn wk n ho st ct sp [])) [5, 6, 7, 8, 9, 10, 0, 1, 2, 3, 4] (by decide) rfl rfl
        exact back tk co cn wk n ho st ct sp (nI (cdP x1 x2 n)) (vp_updL fo 0 ((iM (meet cn wk (ix x1) (ix x2))).toInt64)) hk _ _ _ hG hS (lv_sub hl [3, 4, 5, 6, 0] rfl)
    · exact absurd rfl c_a
  · rw [if_neg hcd] at hG
    refine lv_aload_n C0.1 C0.2.1 dL_law_1448 rfl (lv_at hl 3 rfl) ?_
    refine lv_aload_n C0.1 C0.2.1 dL_law_1449 rfl (lv_at hl 1 rfl) ?_
    refine lv_iload C0.1 C0.2.1 dL_law_1450 (lv_at hl 5 rfl) ?_
    refine lv_iconst (v := nI 1) C0.1 C0.2.1 dL_law_1452 (by decide) ?_
    refine tn_iadd C0.1 C0.2.1 dL_law_1453 ?_
    refine tc_sld C0 hX hbl hS (by omega) hL ex1 dL_law_1454 ?_
    refine lv_aload_n C0.1 C0.2.1 dL_law_1455 rfl (lv_at hl 1 rfl) ?_
    refine lv_iload C0.1 C0.2.1 dL_law_1456 (lv_at hl 5 rfl) ?_
    refine lv_iconst (v := nI 2) C0.1 C0.2.1 dL_law_1458 (by decide) ?_
    refine tn_iadd C0.1 C0.2.1 dL_law_1459 ?_
    refine tc_sld C0 hX hbl hS (by omega) hL ex2 dL_law_1460 ?_
    have hG := hG.sub (ws' := wM g q1 q2 q3 q4 cI th tk co cn wk n ho st ct sp (wT h r1 r2 r3 r4 cI tk co cn wk n ho st ct sp [(o, tcO cJ fo)])) [6, 7, 8, 9, 10, 0, 1, 2, 3, 4, 5] (by decide) rfl rfl
    refine tc_callV (q0 := 0) (rest := []) C0 hG hS rfl rfl (kX1_hoursUntilTogether hlf hk x1 x2) (cwV 2 C0.2.2.2.2 gL_law_X1_hoursUntilTogether rfl rfl rfl (by decide +kernel) ⟨(Nat.le_of_ble_eq_true rfl), (Nat.le_of_ble_eq_true rfl)⟩) rfl hl rfl (Nat.le_of_ble_eq_true rfl) dL_law_1461 ⟨(by dsimp only [room_1]; omega), (by dsimp only [room_1]; omega)⟩ (fun H locs hG hS => ?_)
    have hG : tcG D cI cJ s.heap.size (wM g q1 q2 q3 q4 cI (nI (cdP x1 x2 n)) tk co cn wk n ho st ct sp (wT h r1 r2 r3 r4 cI tk co cn wk n ho st ct sp [(o, tcO cJ fo)])) s H := hG
    refine tc_top (y := nI 0) (if_neg hcd) ?_
    refine lv_istore (lv' := [(6, .int (nI 0)), (5, .int (nI (cdP x1 x2 n))), (0, .ref b), (1, .ref h), (2, .ref g), (3, .ref o), (4, .int (nI i))]) C0.1 C0.2.1 dL_law_1464 hl (by decide) rfl (fun ls hl => ?_)
    refine lv_aload_n C0.1 C0.2.1 dL_law_1466 rfl (lv_at hl 4 rfl) ?_
    refine tc_callV (q0 := 0) (rest := []) C0 hG hS rfl rfl (kX1_thrown hlf hk ) (cwV 0 C0.2.2.2.2 gL_law_X1_thrown rfl rfl rfl (by decide +kernel) ⟨(Nat.le_of_ble_eq_true rfl), (Nat.le_of_ble_eq_true rfl)⟩) rfl hl rfl (Nat.le_of_ble_eq_true rfl) dL_law_1467 ⟨(by dsimp only [room_1]; omega), (by dsimp only [room_1]; omega)⟩ (fun H locs hG hS => ?_)
    refine lv_iload C0.1 C0.2.1 dL_law_1470 (lv_at hl 1 rfl) ?_
    refine lv_icmp_eq (tgt := 1477) C0.1 C0.2.1 dL_law_1472 (by decide) (fun c_a => ?_) (fun c_a => ?_)
    · refine lv_iload C0.1 C0.2.1 dL_law_1477 (lv_at hl 1 rfl) ?_
      refine tn_if_ne (tgt := 1494) C0.1 C0.2.1 dL_law_1479 (by decide) (by have hcm := cdP_le x1 x2 n; omega) (fun c_c => ?_) (fun c_c => ?_)
      · refine lv_goto (tgt := 1758) C0.1 C0.2.1 dL_law_1494 (by decide) ?_
        refine lv_iinc (v := nI (i + 5)) (lv' := [(4, .int (nI (i + 5))), (6, .int (nI 0)), (5, .int (nI (cdP x1 x2 n))), (0, .ref b), (1, .ref h), (2, .ref g), (3, .ref o)]) C0.1 C0.2.1 dL_law_1758 hl (k := 6) rfl (nI_add i 5) (by decide) rfl (fun ls hl => ?_)
        refine lv_goto (tgt := 23) C0.1 C0.2.1 dL_law_1761 (by decide) ?_
        refine W.widen (k := 11 + (i + 5)) (n := 128 + 5 * (i + 5)) (by omega) (by omega) ?_
        have hG := hG.sub (ws' := wT h r1 r2 r3 r4 cI tk co cn wk n ho st ct sp ((o, tcO cJ fo) :: wM g q1 q2 q3 q4 cI (nI (cdP x1 x2 n)) tk co cn wk n ho st ct sp [])) [5, 6, 7, 8, 9, 10, 0, 1, 2, 3, 4] (by decide) rfl rfl
        exact back tk co cn wk n ho st ct sp (nI (cdP x1 x2 n)) fo hk _ _ _ hG hS (lv_sub hl [3, 4, 5, 6, 0] rfl)
      · exact absurd c_c hcd
    · exact absurd rfl c_a
set_option maxHeartbeats 4000000 in
set_option maxRecDepth 100000 in
theorem law_case_26 {p : Program} {l : Launch} {e : Env} {s : State} {m : MethodId} {below : List Frame} {meth : Method} {c : Code} {b L : Nat} {xs : Nat → Int32} (hlf : l.stackTraces = false) (C0 : CallFix p m c cL_law 9 s #[Value.ref b] wsL_law RL) (hX : va_X b L xs s s.heap) (hbl : b < s.heap.size) (hL : L ≤ 2560) {D : va_G} {cI cJ : ClassId} {h r1 r2 r3 r4 o g q1 q2 q3 q4 : Nat} {tk co cn wk : Nat → Nat} {n st : Nat} {ho ct sp th : Int32} {fo : Nat → Int64} (hk : tOk tk co cn wk n st) {i : Nat} (hi : i + 5 ≤ L) {H : Heap} {locs : List Loc} {ls : Array Slot} (hG : tcG D cI cJ s.heap.size (wT h r1 r2 r3 r4 cI tk co cn wk n ho st ct sp ((o, tcO cJ fo) :: wM g q1 q2 q3 q4 cI th tk co cn wk n ho st ct sp [])) s H) (hS : va_S (tcA s.heap.size) s.heap H locs) (hl : lv_has ls 9 [(0, .ref b), (1, .ref h), (2, .ref g), (3, .ref o), (4, .int (nI i))])
    (back : ∀ (tk co cn wk : Nat → Nat) (n : Nat) (ho : Int32) (st : Nat) (ct sp th : Int32) (fo : Nat → Int64), tOk tk co cn wk n st → ∀ (H : Heap) (locs : List Loc) (ls : Array Slot), tcG D cI cJ s.heap.size (wT h r1 r2 r3 r4 cI tk co cn wk n ho st ct sp ((o, tcO cJ fo) :: wM g q1 q2 q3 q4 cI th tk co cn wk n ho st ct sp [])) s H → va_S (tcA s.heap.size) s.heap H locs → lv_has ls 9 [(0, .ref b), (1, .ref h), (2, .ref g), (3, .ref o), (4, .int (nI (i + 5)))] → W p l e room_1 s m #[Value.ref b] below meth c H locs (11 + (i + 5)) (128 + 5 * (i + 5)) (lw_Z below #[Value.ref b] s) (F0 m 23 ls [])) : W p l e room_1 s m #[Value.ref b] below meth c H locs (11 + i) (128 + 5 * i) (lw_Z below #[Value.ref b] s) (F0 m 1497 ls []) := by
  obtain ⟨x1, ex1⟩ : ∃ y, y = xs (i + 1) := ⟨_, rfl⟩
  obtain ⟨x2, ex2⟩ : ∃ y, y = xs (i + 2) := ⟨_, rfl⟩
  refine lv_aload_n C0.1 C0.2.1 dL_law_1497 rfl (lv_at hl 1 rfl) ?_
  refine lv_aload_n C0.1 C0.2.1 dL_law_1498 rfl (lv_at hl 0 rfl) ?_
  refine lv_iload C0.1 C0.2.1 dL_law_1499 (lv_at hl 4 rfl) ?_
  refine lv_iconst (v := nI 1) C0.1 C0.2.1 dL_law_1501 (by decide) ?_
  refine tn_iadd C0.1 C0.2.1 dL_law_1502 ?_
  refine tc_sld C0 hX hbl hS (by omega) hL ex1 dL_law_1503 ?_
  refine lv_aload_n C0.1 C0.2.1 dL_law_1504 rfl (lv_at hl 0 rfl) ?_
  refine lv_iload C0.1 C0.2.1 dL_law_1505 (lv_at hl 4 rfl) ?_
  refine lv_iconst (v := nI 2) C0.1 C0.2.1 dL_law_1507 (by decide) ?_
  refine tn_iadd C0.1 C0.2.1 dL_law_1508 ?_
  refine tc_sld C0 hX hbl hS (by omega) hL ex2 dL_law_1509 ?_
  refine lv_aload_n C0.1 C0.2.1 dL_law_1510 rfl (lv_at hl 3 rfl) ?_
  refine tc_callSW (rest := []) C0 hG hS (kL_costOfMeeting hlf hk x1 x2) (vx_cwSW 4 C0.2.2.2.2 gL_law_L_costOfMeeting rfl rfl rfl (by decide +kernel) ⟨(Nat.le_of_ble_eq_true rfl), (Nat.le_of_ble_eq_true rfl)⟩) rfl hl rfl (Nat.le_of_ble_eq_true rfl) dL_law_1511 ⟨(by dsimp only [room_1]; omega), (by dsimp only [room_1]; omega)⟩ (fun H locs hG hS => ?_)
  refine lv_istore (lv' := [(5, .int (nI (cdP x1 x2 n))), (0, .ref b), (1, .ref h), (2, .ref g), (3, .ref o), (4, .int (nI i))]) C0.1 C0.2.1 dL_law_1514 hl (by decide) rfl (fun ls hl => ?_)
  by_cases hcd : cdP x1 x2 n = 0
  · rw [if_pos hcd] at hG
    refine lv_aload_n C0.1 C0.2.1 dL_law_1516 rfl (lv_at hl 3 rfl) ?_
    refine lv_aload_n C0.1 C0.2.1 dL_law_1517 rfl (lv_at hl 1 rfl) ?_
    refine lv_iload C0.1 C0.2.1 dL_law_1518 (lv_at hl 5 rfl) ?_
    refine lv_iconst (v := nI 1) C0.1 C0.2.1 dL_law_1520 (by decide) ?_
    refine tn_iadd C0.1 C0.2.1 dL_law_1521 ?_
    refine tc_sld C0 hX hbl hS (by omega) hL ex1 dL_law_1522 ?_
    refine lv_aload_n C0.1 C0.2.1 dL_law_1523 rfl (lv_at hl 1 rfl) ?_
    refine lv_iload C0.1 C0.2.1 dL_law_1524 (lv_at hl 5 rfl) ?_
    refine lv_iconst (v := nI 2) C0.1 C0.2.1 dL_law_1526 (by decide) ?_
    refine tn_iadd C0.1 C0.2.1 dL_law_1527 ?_
    refine tc_sld C0 hX hbl hS (by omega) hL ex2 dL_law_1528 ?_
    have hG := hG.sub (ws' := wM g q1 q2 q3 q4 cI th tk co cn wk n ho st ct sp (wT h r1 r2 r3 r4 cI tk co cn wk n ho st ct sp [(o, tcO cJ (vp_updL fo 0 ((nI (way (cn (ix x1)) (cn (ix x2)))).toInt64)))])) [6, 7, 8, 9, 10, 0, 1, 2, 3, 4, 5] (by decide) rfl rfl
    refine tc_callV (q0 := 0) (rest := []) C0 hG hS rfl rfl (kX1_costOfMeeting hlf hk x1 x2) (cwV 2 C0.2.2.2.2 gL_law_X1_costOfMeeting rfl rfl rfl (by decide +kernel) ⟨(Nat.le_of_ble_eq_true rfl), (Nat.le_of_ble_eq_true rfl)⟩) rfl hl rfl (Nat.le_of_ble_eq_true rfl) dL_law_1529 ⟨(by dsimp only [room_1]; omega), (by dsimp only [room_1]; omega)⟩ (fun H locs hG hS => ?_)
    have hG : tcG D cI cJ s.heap.size (wM g q1 q2 q3 q4 cI (nI (cdP x1 x2 n)) tk co cn wk n ho st ct sp (wT h r1 r2 r3 r4 cI tk co cn wk n ho st ct sp [(o, tcO cJ (vp_updL fo 0 ((nI (way (cn (ix x1)) (cn (ix x2)))).toInt64)))])) s H := hG
    refine tc_top (y := nI (way (cn (ix x1)) (cn (ix x2)))) (if_pos hcd) ?_
    refine lv_istore (lv' := [(6, .int (nI (way (cn (ix x1)) (cn (ix x2))))), (5, .int (nI (cdP x1 x2 n))), (0, .ref b), (1, .ref h), (2, .ref g), (3, .ref o), (4, .int (nI i))]) C0.1 C0.2.1 dL_law_1532 hl (by decide) rfl (fun ls hl => ?_)
    refine lv_aload_n C0.1 C0.2.1 dL_law_1534 rfl (lv_at hl 4 rfl) ?_
    refine tc_callV (q0 := 0) (rest := []) C0 hG hS rfl rfl (kX1_thrown hlf hk ) (cwV 0 C0.2.2.2.2 gL_law_X1_thrown rfl rfl rfl (by decide +kernel) ⟨(Nat.le_of_ble_eq_true rfl), (Nat.le_of_ble_eq_true rfl)⟩) rfl hl rfl (Nat.le_of_ble_eq_true rfl) dL_law_1535 ⟨(by dsimp only [room_1]; omega), (by dsimp only [room_1]; omega)⟩ (fun H locs hG hS => ?_)
    refine lv_iload C0.1 C0.2.1 dL_law_1538 (lv_at hl 1 rfl) ?_
    refine lv_icmp_eq (tgt := 1545) C0.1 C0.2.1 dL_law_1540 (by decide) (fun c_a => ?_) (fun c_a => ?_)
    · refine lv_iload C0.1 C0.2.1 dL_law_1545 (lv_at hl 1 rfl) ?_
      refine tn_if_ne (tgt := 1562) C0.1 C0.2.1 dL_law_1547 (by decide) (by have hcm := cdP_le x1 x2 n; omega) (fun c_c => ?_) (fun c_c => ?_)
      · exact absurd hcd (Nat.ne_of_gt c_c)
      · refine lv_aload_n C0.1 C0.2.1 dL_law_1550 rfl (lv_at hl 5 rfl) ?_
        refine lv_iconst (v := nI 0) C0.1 C0.2.1 dL_law_1551 (by decide) ?_
        refine tc_lald0 (q0 := 10) C0 hG rfl dL_law_1552 ?_
        refine lv_topl (fun y8 e8 => ?_)
        have e9 : y8 = (nI (way (cn (ix x1)) (cn (ix x2)))).toInt64 := e8.trans pk_uLs
        subst e9
        refine lv_iload C0.1 C0.2.1 dL_law_1553 (lv_at hl 0 rfl) ?_
        refine lv_i2l C0.1 C0.2.1 dL_law_1555 (v := (nI (way (cn (ix x1)) (cn (ix x2)))).toInt64) rfl ?_
        refine W.lcmp C0.1 C0.2.1 dL_law_1556 ?_
        refine tc_top (lg_self _) ?_
        refine tn_if_eq (tgt := 1562) C0.1 C0.2.1 dL_law_1557 (by decide) (by decide) (fun c_d => ?_) (fun c_d => absurd c_d (by decide))
        refine lv_goto (tgt := 1758) C0.1 C0.2.1 dL_law_1562 (by decide) ?_
        refine lv_iinc (v := nI (i + 5)) (lv' := [(4, .int (nI (i + 5))), (6, .int (nI (way (cn (ix x1)) (cn (ix x2))))), (5, .int (nI (cdP x1 x2 n))), (0, .ref b), (1, .ref h), (2, .ref g), (3, .ref o)]) C0.1 C0.2.1 dL_law_1758 hl (k := 6) rfl (nI_add i 5) (by decide) rfl (fun ls hl => ?_)
        refine lv_goto (tgt := 23) C0.1 C0.2.1 dL_law_1761 (by decide) ?_
        refine W.widen (k := 11 + (i + 5)) (n := 128 + 5 * (i + 5)) (by omega) (by omega) ?_
        have hG := hG.sub (ws' := wT h r1 r2 r3 r4 cI tk co cn wk n ho st ct sp ((o, tcO cJ (vp_updL fo 0 ((nI (way (cn (ix x1)) (cn (ix x2)))).toInt64))) :: wM g q1 q2 q3 q4 cI (nI (cdP x1 x2 n)) tk co cn wk n ho st ct sp [])) [5, 6, 7, 8, 9, 10, 0, 1, 2, 3, 4] (by decide) rfl rfl
        exact back tk co cn wk n ho st ct sp (nI (cdP x1 x2 n)) (vp_updL fo 0 ((nI (way (cn (ix x1)) (cn (ix x2)))).toInt64)) hk _ _ _ hG hS (lv_sub hl [3, 4, 5, 6, 0] rfl)
    · exact absurd rfl c_a
  · rw [if_neg hcd] at hG
    refine lv_aload_n C0.1 C0.2.1 dL_law_1516 rfl (lv_at hl 3 rfl) ?_
    refine lv_aload_n C0.1 C0.2.1 dL_law_1517 rfl (lv_at hl 1 rfl) ?_
    refine lv_iload C0.1 C0.2.1 dL_law_1518 (lv_at hl 5 rfl) ?_
    refine lv_iconst (v := nI 1) C0.1 C0.2.1 dL_law_1520 (by decide) ?_
    refine tn_iadd C0.1 C0.2.1 dL_law_1521 ?_
    refine tc_sld C0 hX hbl hS (by omega) hL ex1 dL_law_1522 ?_
    refine lv_aload_n C0.1 C0.2.1 dL_law_1523 rfl (lv_at hl 1 rfl) ?_
    refine lv_iload C0.1 C0.2.1 dL_law_1524 (lv_at hl 5 rfl) ?_
    refine lv_iconst (v := nI 2) C0.1 C0.2.1 dL_law_1526 (by decide) ?_
    refine tn_iadd C0.1 C0.2.1 dL_law_1527 ?_
    refine tc_sld C0 hX hbl hS (by omega) hL ex2 dL_law_1528 ?_
    have hG := hG.sub (ws' := wM g q1 q2 q3 q4 cI th tk co cn wk n ho st ct sp (wT h r1 r2 r3 r4 cI tk co cn wk n ho st ct sp [(o, tcO cJ fo)])) [6, 7, 8, 9, 10, 0, 1, 2, 3, 4, 5] (by decide) rfl rfl
    refine tc_callV (q0 := 0) (rest := []) C0 hG hS rfl rfl (kX1_costOfMeeting hlf hk x1 x2) (cwV 2 C0.2.2.2.2 gL_law_X1_costOfMeeting rfl rfl rfl (by decide +kernel) ⟨(Nat.le_of_ble_eq_true rfl), (Nat.le_of_ble_eq_true rfl)⟩) rfl hl rfl (Nat.le_of_ble_eq_true rfl) dL_law_1529 ⟨(by dsimp only [room_1]; omega), (by dsimp only [room_1]; omega)⟩ (fun H locs hG hS => ?_)
    have hG : tcG D cI cJ s.heap.size (wM g q1 q2 q3 q4 cI (nI (cdP x1 x2 n)) tk co cn wk n ho st ct sp (wT h r1 r2 r3 r4 cI tk co cn wk n ho st ct sp [(o, tcO cJ fo)])) s H := hG
    refine tc_top (y := nI 0) (if_neg hcd) ?_
    refine lv_istore (lv' := [(6, .int (nI 0)), (5, .int (nI (cdP x1 x2 n))), (0, .ref b), (1, .ref h), (2, .ref g), (3, .ref o), (4, .int (nI i))]) C0.1 C0.2.1 dL_law_1532 hl (by decide) rfl (fun ls hl => ?_)
    refine lv_aload_n C0.1 C0.2.1 dL_law_1534 rfl (lv_at hl 4 rfl) ?_
    refine tc_callV (q0 := 0) (rest := []) C0 hG hS rfl rfl (kX1_thrown hlf hk ) (cwV 0 C0.2.2.2.2 gL_law_X1_thrown rfl rfl rfl (by decide +kernel) ⟨(Nat.le_of_ble_eq_true rfl), (Nat.le_of_ble_eq_true rfl)⟩) rfl hl rfl (Nat.le_of_ble_eq_true rfl) dL_law_1535 ⟨(by dsimp only [room_1]; omega), (by dsimp only [room_1]; omega)⟩ (fun H locs hG hS => ?_)
    refine lv_iload C0.1 C0.2.1 dL_law_1538 (lv_at hl 1 rfl) ?_
    refine lv_icmp_eq (tgt := 1545) C0.1 C0.2.1 dL_law_1540 (by decide) (fun c_a => ?_) (fun c_a => ?_)
    · refine lv_iload C0.1 C0.2.1 dL_law_1545 (lv_at hl 1 rfl) ?_
      refine tn_if_ne (tgt := 1562) C0.1 C0.2.1 dL_law_1547 (by decide) (by have hcm := cdP_le x1 x2 n; omega) (fun c_c => ?_) (fun c_c => ?_)
      · refine lv_goto (tgt := 1758) C0.1 C0.2.1 dL_law_1562 (by decide) ?_
        refine lv_iinc (v := nI (i + 5)) (lv' := [(4, .int (nI (i + 5))), (6, .int (nI 0)), (5, .int (nI (cdP x1 x2 n))), (0, .ref b), (1, .ref h), (2, .ref g), (3, .ref o)]) C0.1 C0.2.1 dL_law_1758 hl (k := 6) rfl (nI_add i 5) (by decide) rfl (fun ls hl => ?_)
        refine lv_goto (tgt := 23) C0.1 C0.2.1 dL_law_1761 (by decide) ?_
        refine W.widen (k := 11 + (i + 5)) (n := 128 + 5 * (i + 5)) (by omega) (by omega) ?_
        have hG := hG.sub (ws' := wT h r1 r2 r3 r4 cI tk co cn wk n ho st ct sp ((o, tcO cJ fo) :: wM g q1 q2 q3 q4 cI (nI (cdP x1 x2 n)) tk co cn wk n ho st ct sp [])) [5, 6, 7, 8, 9, 10, 0, 1, 2, 3, 4] (by decide) rfl rfl
        exact back tk co cn wk n ho st ct sp (nI (cdP x1 x2 n)) fo hk _ _ _ hG hS (lv_sub hl [3, 4, 5, 6, 0] rfl)
      · exact absurd c_c hcd
    · exact absurd rfl c_a
set_option maxHeartbeats 4000000 in
set_option maxRecDepth 100000 in
theorem law_case_27 {p : Program} {l : Launch} {e : Env} {s : State} {m : MethodId} {below : List Frame} {meth : Method} {c : Code} {b L : Nat} {xs : Nat → Int32} (hlf : l.stackTraces = false) (C0 : CallFix p m c cL_law 9 s #[Value.ref b] wsL_law RL) (hX : va_X b L xs s s.heap) (hbl : b < s.heap.size) (hL : L ≤ 2560) {D : va_G} {cI cJ : ClassId} {h r1 r2 r3 r4 o g q1 q2 q3 q4 : Nat} {tk co cn wk : Nat → Nat} {n st : Nat} {ho ct sp th : Int32} {fo : Nat → Int64} (hk : tOk tk co cn wk n st) {i : Nat} (hi : i + 5 ≤ L) {H : Heap} {locs : List Loc} {ls : Array Slot} (hG : tcG D cI cJ s.heap.size (wT h r1 r2 r3 r4 cI tk co cn wk n ho st ct sp ((o, tcO cJ fo) :: wM g q1 q2 q3 q4 cI th tk co cn wk n ho st ct sp [])) s H) (hS : va_S (tcA s.heap.size) s.heap H locs) (hl : lv_has ls 9 [(0, .ref b), (1, .ref h), (2, .ref g), (3, .ref o), (4, .int (nI i))])
    (back : ∀ (tk co cn wk : Nat → Nat) (n : Nat) (ho : Int32) (st : Nat) (ct sp th : Int32) (fo : Nat → Int64), tOk tk co cn wk n st → ∀ (H : Heap) (locs : List Loc) (ls : Array Slot), tcG D cI cJ s.heap.size (wT h r1 r2 r3 r4 cI tk co cn wk n ho st ct sp ((o, tcO cJ fo) :: wM g q1 q2 q3 q4 cI th tk co cn wk n ho st ct sp [])) s H → va_S (tcA s.heap.size) s.heap H locs → lv_has ls 9 [(0, .ref b), (1, .ref h), (2, .ref g), (3, .ref o), (4, .int (nI (i + 5)))] → W p l e room_1 s m #[Value.ref b] below meth c H locs (11 + (i + 5)) (128 + 5 * (i + 5)) (lw_Z below #[Value.ref b] s) (F0 m 23 ls [])) : W p l e room_1 s m #[Value.ref b] below meth c H locs (11 + i) (128 + 5 * i) (lw_Z below #[Value.ref b] s) (F0 m 1565 ls []) := by
  refine lv_aload_n C0.1 C0.2.1 dL_law_1565 rfl (lv_at hl 1 rfl) ?_
  refine tc_callV (q0 := 0) (rest := []) C0 hG hS rfl rfl (kX0_bestHour hlf hk) (cwV 0 C0.2.2.2.2 gL_law_X0_bestHour rfl rfl rfl (by decide +kernel) ⟨(Nat.le_of_ble_eq_true rfl), (Nat.le_of_ble_eq_true rfl)⟩) rfl hl rfl (Nat.le_of_ble_eq_true rfl) dL_law_1566 ⟨(by dsimp only [room_1]; omega), (by dsimp only [room_1]; omega)⟩ (fun H locs hG hS => ?_)
  refine lv_aload_n C0.1 C0.2.1 dL_law_1569 rfl (lv_at hl 2 rfl) ?_
  have hG := hG.sub (ws' := wM g q1 q2 q3 q4 cI th tk co cn wk n ho st ct sp (wT h r1 r2 r3 r4 cI tk co cn wk n ho st ct sp [(o, tcO cJ fo)])) [6, 7, 8, 9, 10, 0, 1, 2, 3, 4, 5] (by decide) rfl rfl
  refine tc_callV (q0 := 0) (rest := [.int (nI (bestHr tk co cn wk n))]) C0 hG hS rfl rfl (kX1_bestHour hlf hk ) (cwV 0 C0.2.2.2.2 gL_law_X1_bestHour rfl rfl rfl (by decide +kernel) ⟨(Nat.le_of_ble_eq_true rfl), (Nat.le_of_ble_eq_true rfl)⟩) rfl hl rfl (Nat.le_of_ble_eq_true rfl) dL_law_1570 ⟨(by dsimp only [room_1]; omega), (by dsimp only [room_1]; omega)⟩ (fun H locs hG hS => ?_)
  have hG : tcG D cI cJ s.heap.size (wM g q1 q2 q3 q4 cI (nI 0) tk co cn wk n ho st ct sp (wT h r1 r2 r3 r4 cI tk co cn wk n ho st ct sp [(o, tcO cJ fo)])) s H := hG
  refine lv_icmp_eq (tgt := 1758) C0.1 C0.2.1 dL_law_1573 (by decide) (fun c_a => ?_) (fun c_a => absurd rfl c_a)
  refine lv_iinc (v := nI (i + 5)) (lv' := [(4, .int (nI (i + 5))), (0, .ref b), (1, .ref h), (2, .ref g), (3, .ref o)]) C0.1 C0.2.1 dL_law_1758 hl (k := 4) rfl (nI_add i 5) (by decide) rfl (fun ls hl => ?_)
  refine lv_goto (tgt := 23) C0.1 C0.2.1 dL_law_1761 (by decide) ?_
  refine W.widen (k := 11 + (i + 5)) (n := 128 + 5 * (i + 5)) (by omega) (by omega) ?_
  have hG := hG.sub (ws' := wT h r1 r2 r3 r4 cI tk co cn wk n ho st ct sp ((o, tcO cJ fo) :: wM g q1 q2 q3 q4 cI (nI 0) tk co cn wk n ho st ct sp [])) [5, 6, 7, 8, 9, 10, 0, 1, 2, 3, 4] (by decide) rfl rfl
  exact back tk co cn wk n ho st ct sp (nI 0) fo hk _ _ _ hG hS (lv_sub hl [1, 2, 3, 4, 0] rfl)
set_option maxHeartbeats 4000000 in
set_option maxRecDepth 100000 in
theorem law_case_28 {p : Program} {l : Launch} {e : Env} {s : State} {m : MethodId} {below : List Frame} {meth : Method} {c : Code} {b L : Nat} {xs : Nat → Int32} (hlf : l.stackTraces = false) (C0 : CallFix p m c cL_law 9 s #[Value.ref b] wsL_law RL) (hX : va_X b L xs s s.heap) (hbl : b < s.heap.size) (hL : L ≤ 2560) {D : va_G} {cI cJ : ClassId} {h r1 r2 r3 r4 o g q1 q2 q3 q4 : Nat} {tk co cn wk : Nat → Nat} {n st : Nat} {ho ct sp th : Int32} {fo : Nat → Int64} (hk : tOk tk co cn wk n st) {i : Nat} (hi : i + 5 ≤ L) {H : Heap} {locs : List Loc} {ls : Array Slot} (hG : tcG D cI cJ s.heap.size (wT h r1 r2 r3 r4 cI tk co cn wk n ho st ct sp ((o, tcO cJ fo) :: wM g q1 q2 q3 q4 cI th tk co cn wk n ho st ct sp [])) s H) (hS : va_S (tcA s.heap.size) s.heap H locs) (hl : lv_has ls 9 [(0, .ref b), (1, .ref h), (2, .ref g), (3, .ref o), (4, .int (nI i))])
    (back : ∀ (tk co cn wk : Nat → Nat) (n : Nat) (ho : Int32) (st : Nat) (ct sp th : Int32) (fo : Nat → Int64), tOk tk co cn wk n st → ∀ (H : Heap) (locs : List Loc) (ls : Array Slot), tcG D cI cJ s.heap.size (wT h r1 r2 r3 r4 cI tk co cn wk n ho st ct sp ((o, tcO cJ fo) :: wM g q1 q2 q3 q4 cI th tk co cn wk n ho st ct sp [])) s H → va_S (tcA s.heap.size) s.heap H locs → lv_has ls 9 [(0, .ref b), (1, .ref h), (2, .ref g), (3, .ref o), (4, .int (nI (i + 5)))] → W p l e room_1 s m #[Value.ref b] below meth c H locs (11 + (i + 5)) (128 + 5 * (i + 5)) (lw_Z below #[Value.ref b] s) (F0 m 23 ls [])) : W p l e room_1 s m #[Value.ref b] below meth c H locs (11 + i) (128 + 5 * i) (lw_Z below #[Value.ref b] s) (F0 m 1578 ls []) := by
  obtain ⟨x1, ex1⟩ : ∃ y, y = xs (i + 1) := ⟨_, rfl⟩
  refine lv_aload_n C0.1 C0.2.1 dL_law_1578 rfl (lv_at hl 1 rfl) ?_
  refine lv_aload_n C0.1 C0.2.1 dL_law_1579 rfl (lv_at hl 0 rfl) ?_
  refine lv_iload C0.1 C0.2.1 dL_law_1580 (lv_at hl 4 rfl) ?_
  refine lv_iconst (v := nI 1) C0.1 C0.2.1 dL_law_1582 (by decide) ?_
  refine tn_iadd C0.1 C0.2.1 dL_law_1583 ?_
  refine tc_sld C0 hX hbl hS (by omega) hL ex1 dL_law_1584 ?_
  refine lv_aload_n C0.1 C0.2.1 dL_law_1585 rfl (lv_at hl 3 rfl) ?_
  refine tc_callSW (rest := []) C0 hG hS (kL_bestCorner hlf hk x1) (vx_cwSW 3 C0.2.2.2.2 gL_law_L_bestCorner rfl rfl rfl (by decide +kernel) ⟨(Nat.le_of_ble_eq_true rfl), (Nat.le_of_ble_eq_true rfl)⟩) rfl hl rfl (Nat.le_of_ble_eq_true rfl) dL_law_1586 ⟨(by dsimp only [room_1]; omega), (by dsimp only [room_1]; omega)⟩ (fun H locs hG hS => ?_)
  refine lv_istore (lv' := [(5, .int (nI (cdS x1 n))), (0, .ref b), (1, .ref h), (2, .ref g), (3, .ref o), (4, .int (nI i))]) C0.1 C0.2.1 dL_law_1589 hl (by decide) rfl (fun ls hl => ?_)
  by_cases hcd : cdS x1 n = 0
  · rw [if_pos hcd] at hG
    refine lv_aload_n C0.1 C0.2.1 dL_law_1591 rfl (lv_at hl 3 rfl) ?_
    refine lv_aload_n C0.1 C0.2.1 dL_law_1592 rfl (lv_at hl 1 rfl) ?_
    refine lv_iload C0.1 C0.2.1 dL_law_1593 (lv_at hl 5 rfl) ?_
    refine lv_iconst (v := nI 1) C0.1 C0.2.1 dL_law_1595 (by decide) ?_
    refine tn_iadd C0.1 C0.2.1 dL_law_1596 ?_
    refine tc_sld C0 hX hbl hS (by omega) hL ex1 dL_law_1597 ?_
    have hG := hG.sub (ws' := wM g q1 q2 q3 q4 cI th tk co cn wk n ho st ct sp (wT h r1 r2 r3 r4 cI tk co cn wk n ho st ct sp [(o, tcO cJ (vp_updL fo 0 ((nI (bestCn tk co cn (ix x1) n)).toInt64)))])) [6, 7, 8, 9, 10, 0, 1, 2, 3, 4, 5] (by decide) rfl rfl
    refine tc_callV (q0 := 0) (rest := []) C0 hG hS rfl rfl (kX1_bestCorner hlf hk x1) (cwV 1 C0.2.2.2.2 gL_law_X1_bestCorner rfl rfl rfl (by decide +kernel) ⟨(Nat.le_of_ble_eq_true rfl), (Nat.le_of_ble_eq_true rfl)⟩) rfl hl rfl (Nat.le_of_ble_eq_true rfl) dL_law_1598 ⟨(by dsimp only [room_1]; omega), (by dsimp only [room_1]; omega)⟩ (fun H locs hG hS => ?_)
    have hG : tcG D cI cJ s.heap.size (wM g q1 q2 q3 q4 cI (nI (cdS x1 n)) tk co cn wk n ho st ct sp (wT h r1 r2 r3 r4 cI tk co cn wk n ho st ct sp [(o, tcO cJ (vp_updL fo 0 ((nI (bestCn tk co cn (ix x1) n)).toInt64)))])) s H := hG
    refine tc_top (y := nI (bestCn tk co cn (ix x1) n)) (if_pos hcd) ?_
    refine lv_istore (lv' := [(6, .int (nI (bestCn tk co cn (ix x1) n))), (5, .int (nI (cdS x1 n))), (0, .ref b), (1, .ref h), (2, .ref g), (3, .ref o), (4, .int (nI i))]) C0.1 C0.2.1 dL_law_1601 hl (by decide) rfl (fun ls hl => ?_)
    refine lv_aload_n C0.1 C0.2.1 dL_law_1603 rfl (lv_at hl 4 rfl) ?_
    refine tc_callV (q0 := 0) (rest := []) C0 hG hS rfl rfl (kX1_thrown hlf hk ) (cwV 0 C0.2.2.2.2 gL_law_X1_thrown rfl rfl rfl (by decide +kernel) ⟨(Nat.le_of_ble_eq_true rfl), (Nat.le_of_ble_eq_true rfl)⟩) rfl hl rfl (Nat.le_of_ble_eq_true rfl) dL_law_1604 ⟨(by dsimp only [room_1]; omega), (by dsimp only [room_1]; omega)⟩ (fun H locs hG hS => ?_)
    refine lv_iload C0.1 C0.2.1 dL_law_1607 (lv_at hl 1 rfl) ?_
    refine lv_icmp_eq (tgt := 1614) C0.1 C0.2.1 dL_law_1609 (by decide) (fun c_a => ?_) (fun c_a => ?_)
    · refine lv_iload C0.1 C0.2.1 dL_law_1614 (lv_at hl 1 rfl) ?_
      refine tn_if_ne (tgt := 1631) C0.1 C0.2.1 dL_law_1616 (by decide) (by have hcm := cdS_le x1 n; omega) (fun c_c => ?_) (fun c_c => ?_)
      · exact absurd hcd (Nat.ne_of_gt c_c)
      · refine lv_aload_n C0.1 C0.2.1 dL_law_1619 rfl (lv_at hl 5 rfl) ?_
        refine lv_iconst (v := nI 0) C0.1 C0.2.1 dL_law_1620 (by decide) ?_
        refine tc_lald0 (q0 := 10) C0 hG rfl dL_law_1621 ?_
        refine lv_topl (fun y8 e8 => ?_)
        have e9 : y8 = (nI (bestCn tk co cn (ix x1) n)).toInt64 := e8.trans pk_uLs
        subst e9
        refine lv_iload C0.1 C0.2.1 dL_law_1622 (lv_at hl 0 rfl) ?_
        refine lv_i2l C0.1 C0.2.1 dL_law_1624 (v := (nI (bestCn tk co cn (ix x1) n)).toInt64) rfl ?_
        refine W.lcmp C0.1 C0.2.1 dL_law_1625 ?_
        refine tc_top (lg_self _) ?_
        refine tn_if_eq (tgt := 1631) C0.1 C0.2.1 dL_law_1626 (by decide) (by decide) (fun c_d => ?_) (fun c_d => absurd c_d (by decide))
        refine lv_goto (tgt := 1758) C0.1 C0.2.1 dL_law_1631 (by decide) ?_
        refine lv_iinc (v := nI (i + 5)) (lv' := [(4, .int (nI (i + 5))), (6, .int (nI (bestCn tk co cn (ix x1) n))), (5, .int (nI (cdS x1 n))), (0, .ref b), (1, .ref h), (2, .ref g), (3, .ref o)]) C0.1 C0.2.1 dL_law_1758 hl (k := 6) rfl (nI_add i 5) (by decide) rfl (fun ls hl => ?_)
        refine lv_goto (tgt := 23) C0.1 C0.2.1 dL_law_1761 (by decide) ?_
        refine W.widen (k := 11 + (i + 5)) (n := 128 + 5 * (i + 5)) (by omega) (by omega) ?_
        have hG := hG.sub (ws' := wT h r1 r2 r3 r4 cI tk co cn wk n ho st ct sp ((o, tcO cJ (vp_updL fo 0 ((nI (bestCn tk co cn (ix x1) n)).toInt64))) :: wM g q1 q2 q3 q4 cI (nI (cdS x1 n)) tk co cn wk n ho st ct sp [])) [5, 6, 7, 8, 9, 10, 0, 1, 2, 3, 4] (by decide) rfl rfl
        exact back tk co cn wk n ho st ct sp (nI (cdS x1 n)) (vp_updL fo 0 ((nI (bestCn tk co cn (ix x1) n)).toInt64)) hk _ _ _ hG hS (lv_sub hl [3, 4, 5, 6, 0] rfl)
    · exact absurd rfl c_a
  · rw [if_neg hcd] at hG
    refine lv_aload_n C0.1 C0.2.1 dL_law_1591 rfl (lv_at hl 3 rfl) ?_
    refine lv_aload_n C0.1 C0.2.1 dL_law_1592 rfl (lv_at hl 1 rfl) ?_
    refine lv_iload C0.1 C0.2.1 dL_law_1593 (lv_at hl 5 rfl) ?_
    refine lv_iconst (v := nI 1) C0.1 C0.2.1 dL_law_1595 (by decide) ?_
    refine tn_iadd C0.1 C0.2.1 dL_law_1596 ?_
    refine tc_sld C0 hX hbl hS (by omega) hL ex1 dL_law_1597 ?_
    have hG := hG.sub (ws' := wM g q1 q2 q3 q4 cI th tk co cn wk n ho st ct sp (wT h r1 r2 r3 r4 cI tk co cn wk n ho st ct sp [(o, tcO cJ fo)])) [6, 7, 8, 9, 10, 0, 1, 2, 3, 4, 5] (by decide) rfl rfl
    refine tc_callV (q0 := 0) (rest := []) C0 hG hS rfl rfl (kX1_bestCorner hlf hk x1) (cwV 1 C0.2.2.2.2 gL_law_X1_bestCorner rfl rfl rfl (by decide +kernel) ⟨(Nat.le_of_ble_eq_true rfl), (Nat.le_of_ble_eq_true rfl)⟩) rfl hl rfl (Nat.le_of_ble_eq_true rfl) dL_law_1598 ⟨(by dsimp only [room_1]; omega), (by dsimp only [room_1]; omega)⟩ (fun H locs hG hS => ?_)
    have hG : tcG D cI cJ s.heap.size (wM g q1 q2 q3 q4 cI (nI (cdS x1 n)) tk co cn wk n ho st ct sp (wT h r1 r2 r3 r4 cI tk co cn wk n ho st ct sp [(o, tcO cJ fo)])) s H := hG
    refine tc_top (y := nI 0) (if_neg hcd) ?_
    refine lv_istore (lv' := [(6, .int (nI 0)), (5, .int (nI (cdS x1 n))), (0, .ref b), (1, .ref h), (2, .ref g), (3, .ref o), (4, .int (nI i))]) C0.1 C0.2.1 dL_law_1601 hl (by decide) rfl (fun ls hl => ?_)
    refine lv_aload_n C0.1 C0.2.1 dL_law_1603 rfl (lv_at hl 4 rfl) ?_
    refine tc_callV (q0 := 0) (rest := []) C0 hG hS rfl rfl (kX1_thrown hlf hk ) (cwV 0 C0.2.2.2.2 gL_law_X1_thrown rfl rfl rfl (by decide +kernel) ⟨(Nat.le_of_ble_eq_true rfl), (Nat.le_of_ble_eq_true rfl)⟩) rfl hl rfl (Nat.le_of_ble_eq_true rfl) dL_law_1604 ⟨(by dsimp only [room_1]; omega), (by dsimp only [room_1]; omega)⟩ (fun H locs hG hS => ?_)
    refine lv_iload C0.1 C0.2.1 dL_law_1607 (lv_at hl 1 rfl) ?_
    refine lv_icmp_eq (tgt := 1614) C0.1 C0.2.1 dL_law_1609 (by decide) (fun c_a => ?_) (fun c_a => ?_)
    · refine lv_iload C0.1 C0.2.1 dL_law_1614 (lv_at hl 1 rfl) ?_
      refine tn_if_ne (tgt := 1631) C0.1 C0.2.1 dL_law_1616 (by decide) (by have hcm := cdS_le x1 n; omega) (fun c_c => ?_) (fun c_c => ?_)
      · refine lv_goto (tgt := 1758) C0.1 C0.2.1 dL_law_1631 (by decide) ?_
        refine lv_iinc (v := nI (i + 5)) (lv' := [(4, .int (nI (i + 5))), (6, .int (nI 0)), (5, .int (nI (cdS x1 n))), (0, .ref b), (1, .ref h), (2, .ref g), (3, .ref o)]) C0.1 C0.2.1 dL_law_1758 hl (k := 6) rfl (nI_add i 5) (by decide) rfl (fun ls hl => ?_)
        refine lv_goto (tgt := 23) C0.1 C0.2.1 dL_law_1761 (by decide) ?_
        refine W.widen (k := 11 + (i + 5)) (n := 128 + 5 * (i + 5)) (by omega) (by omega) ?_
        have hG := hG.sub (ws' := wT h r1 r2 r3 r4 cI tk co cn wk n ho st ct sp ((o, tcO cJ fo) :: wM g q1 q2 q3 q4 cI (nI (cdS x1 n)) tk co cn wk n ho st ct sp [])) [5, 6, 7, 8, 9, 10, 0, 1, 2, 3, 4] (by decide) rfl rfl
        exact back tk co cn wk n ho st ct sp (nI (cdS x1 n)) fo hk _ _ _ hG hS (lv_sub hl [3, 4, 5, 6, 0] rfl)
      · exact absurd c_c hcd
    · exact absurd rfl c_a
set_option maxHeartbeats 4000000 in
set_option maxRecDepth 100000 in
theorem law_case_29 {p : Program} {l : Launch} {e : Env} {s : State} {m : MethodId} {below : List Frame} {meth : Method} {c : Code} {b L : Nat} {xs : Nat → Int32} (hlf : l.stackTraces = false) (C0 : CallFix p m c cL_law 9 s #[Value.ref b] wsL_law RL) (hX : va_X b L xs s s.heap) (hbl : b < s.heap.size) (hL : L ≤ 2560) {D : va_G} {cI cJ : ClassId} {h r1 r2 r3 r4 o g q1 q2 q3 q4 : Nat} {tk co cn wk : Nat → Nat} {n st : Nat} {ho ct sp th : Int32} {fo : Nat → Int64} (hk : tOk tk co cn wk n st) {i : Nat} (hi : i + 5 ≤ L) {H : Heap} {locs : List Loc} {ls : Array Slot} (hG : tcG D cI cJ s.heap.size (wT h r1 r2 r3 r4 cI tk co cn wk n ho st ct sp ((o, tcO cJ fo) :: wM g q1 q2 q3 q4 cI th tk co cn wk n ho st ct sp [])) s H) (hS : va_S (tcA s.heap.size) s.heap H locs) (hl : lv_has ls 9 [(0, .ref b), (1, .ref h), (2, .ref g), (3, .ref o), (4, .int (nI i))])
    (back : ∀ (tk co cn wk : Nat → Nat) (n : Nat) (ho : Int32) (st : Nat) (ct sp th : Int32) (fo : Nat → Int64), tOk tk co cn wk n st → ∀ (H : Heap) (locs : List Loc) (ls : Array Slot), tcG D cI cJ s.heap.size (wT h r1 r2 r3 r4 cI tk co cn wk n ho st ct sp ((o, tcO cJ fo) :: wM g q1 q2 q3 q4 cI th tk co cn wk n ho st ct sp [])) s H → va_S (tcA s.heap.size) s.heap H locs → lv_has ls 9 [(0, .ref b), (1, .ref h), (2, .ref g), (3, .ref o), (4, .int (nI (i + 5)))] → W p l e room_1 s m #[Value.ref b] below meth c H locs (11 + (i + 5)) (128 + 5 * (i + 5)) (lw_Z below #[Value.ref b] s) (F0 m 23 ls [])) : W p l e room_1 s m #[Value.ref b] below meth c H locs (11 + i) (128 + 5 * i) (lw_Z below #[Value.ref b] s) (F0 m 1634 ls []) := by
  refine lv_aload_n C0.1 C0.2.1 dL_law_1634 rfl (lv_at hl 1 rfl) ?_
  refine tc_callV (q0 := 0) (rest := []) C0 hG hS rfl rfl (kX0_bestSwap hlf hk) (cwV 0 C0.2.2.2.2 gL_law_X0_bestSwap rfl rfl rfl (by decide +kernel) ⟨(Nat.le_of_ble_eq_true rfl), (Nat.le_of_ble_eq_true rfl)⟩) rfl hl rfl (Nat.le_of_ble_eq_true rfl) dL_law_1635 ⟨(by dsimp only [room_1]; omega), (by dsimp only [room_1]; omega)⟩ (fun H locs hG hS => ?_)
  refine lv_aload_n C0.1 C0.2.1 dL_law_1638 rfl (lv_at hl 2 rfl) ?_
  have hG := hG.sub (ws' := wM g q1 q2 q3 q4 cI th tk co cn wk n ho st ct sp (wT h r1 r2 r3 r4 cI tk co cn wk n ho st ct sp [(o, tcO cJ fo)])) [6, 7, 8, 9, 10, 0, 1, 2, 3, 4, 5] (by decide) rfl rfl
  refine tc_callV (q0 := 0) (rest := [.int (iM (bestSw tk co cn wk n))]) C0 hG hS rfl rfl (kX1_bestSwap hlf hk ) (cwV 0 C0.2.2.2.2 gL_law_X1_bestSwap rfl rfl rfl (by decide +kernel) ⟨(Nat.le_of_ble_eq_true rfl), (Nat.le_of_ble_eq_true rfl)⟩) rfl hl rfl (Nat.le_of_ble_eq_true rfl) dL_law_1639 ⟨(by dsimp only [room_1]; omega), (by dsimp only [room_1]; omega)⟩ (fun H locs hG hS => ?_)
  have hG : tcG D cI cJ s.heap.size (wM g q1 q2 q3 q4 cI (nI 0) tk co cn wk n ho st ct sp (wT h r1 r2 r3 r4 cI tk co cn wk n ho st ct sp [(o, tcO cJ fo)])) s H := hG
  refine lv_icmp_eq (tgt := 1758) C0.1 C0.2.1 dL_law_1642 (by decide) (fun c_a => ?_) (fun c_a => absurd rfl c_a)
  refine lv_iinc (v := nI (i + 5)) (lv' := [(4, .int (nI (i + 5))), (0, .ref b), (1, .ref h), (2, .ref g), (3, .ref o)]) C0.1 C0.2.1 dL_law_1758 hl (k := 4) rfl (nI_add i 5) (by decide) rfl (fun ls hl => ?_)
  refine lv_goto (tgt := 23) C0.1 C0.2.1 dL_law_1761 (by decide) ?_
  refine W.widen (k := 11 + (i + 5)) (n := 128 + 5 * (i + 5)) (by omega) (by omega) ?_
  have hG := hG.sub (ws' := wT h r1 r2 r3 r4 cI tk co cn wk n ho st ct sp ((o, tcO cJ fo) :: wM g q1 q2 q3 q4 cI (nI 0) tk co cn wk n ho st ct sp [])) [5, 6, 7, 8, 9, 10, 0, 1, 2, 3, 4] (by decide) rfl rfl
  exact back tk co cn wk n ho st ct sp (nI 0) fo hk _ _ _ hG hS (lv_sub hl [1, 2, 3, 4, 0] rfl)
set_option maxHeartbeats 4000000 in
set_option maxRecDepth 100000 in
theorem law_case_30 {p : Program} {l : Launch} {e : Env} {s : State} {m : MethodId} {below : List Frame} {meth : Method} {c : Code} {b L : Nat} {xs : Nat → Int32} (hlf : l.stackTraces = false) (C0 : CallFix p m c cL_law 9 s #[Value.ref b] wsL_law RL) (hX : va_X b L xs s s.heap) (hbl : b < s.heap.size) (hL : L ≤ 2560) {D : va_G} {cI cJ : ClassId} {h r1 r2 r3 r4 o g q1 q2 q3 q4 : Nat} {tk co cn wk : Nat → Nat} {n st : Nat} {ho ct sp th : Int32} {fo : Nat → Int64} (hk : tOk tk co cn wk n st) {i : Nat} (hi : i + 5 ≤ L) {H : Heap} {locs : List Loc} {ls : Array Slot} (hG : tcG D cI cJ s.heap.size (wT h r1 r2 r3 r4 cI tk co cn wk n ho st ct sp ((o, tcO cJ fo) :: wM g q1 q2 q3 q4 cI th tk co cn wk n ho st ct sp [])) s H) (hS : va_S (tcA s.heap.size) s.heap H locs) (hl : lv_has ls 9 [(0, .ref b), (1, .ref h), (2, .ref g), (3, .ref o), (4, .int (nI i))])
    (back : ∀ (tk co cn wk : Nat → Nat) (n : Nat) (ho : Int32) (st : Nat) (ct sp th : Int32) (fo : Nat → Int64), tOk tk co cn wk n st → ∀ (H : Heap) (locs : List Loc) (ls : Array Slot), tcG D cI cJ s.heap.size (wT h r1 r2 r3 r4 cI tk co cn wk n ho st ct sp ((o, tcO cJ fo) :: wM g q1 q2 q3 q4 cI th tk co cn wk n ho st ct sp [])) s H → va_S (tcA s.heap.size) s.heap H locs → lv_has ls 9 [(0, .ref b), (1, .ref h), (2, .ref g), (3, .ref o), (4, .int (nI (i + 5)))] → W p l e room_1 s m #[Value.ref b] below meth c H locs (11 + (i + 5)) (128 + 5 * (i + 5)) (lw_Z below #[Value.ref b] s) (F0 m 23 ls [])) : W p l e room_1 s m #[Value.ref b] below meth c H locs (11 + i) (128 + 5 * i) (lw_Z below #[Value.ref b] s) (F0 m 1647 ls []) := by
  obtain ⟨x1, ex1⟩ : ∃ y, y = xs (i + 1) := ⟨_, rfl⟩
  refine lv_aload_n C0.1 C0.2.1 dL_law_1647 rfl (lv_at hl 1 rfl) ?_
  refine lv_aload_n C0.1 C0.2.1 dL_law_1648 rfl (lv_at hl 0 rfl) ?_
  refine lv_iload C0.1 C0.2.1 dL_law_1649 (lv_at hl 4 rfl) ?_
  refine lv_iconst (v := nI 1) C0.1 C0.2.1 dL_law_1651 (by decide) ?_
  refine tn_iadd C0.1 C0.2.1 dL_law_1652 ?_
  refine tc_sld C0 hX hbl hS (by omega) hL ex1 dL_law_1653 ?_
  refine lv_aload_n C0.1 C0.2.1 dL_law_1654 rfl (lv_at hl 3 rfl) ?_
  refine tc_callSW (rest := []) C0 hG hS (kL_bestTicket hlf hk x1) (vx_cwSW 3 C0.2.2.2.2 gL_law_L_bestTicket rfl rfl rfl (by decide +kernel) ⟨(Nat.le_of_ble_eq_true rfl), (Nat.le_of_ble_eq_true rfl)⟩) rfl hl rfl (Nat.le_of_ble_eq_true rfl) dL_law_1655 ⟨(by dsimp only [room_1]; omega), (by dsimp only [room_1]; omega)⟩ (fun H locs hG hS => ?_)
  refine lv_istore (lv' := [(5, .int (nI (cdS x1 n))), (0, .ref b), (1, .ref h), (2, .ref g), (3, .ref o), (4, .int (nI i))]) C0.1 C0.2.1 dL_law_1658 hl (by decide) rfl (fun ls hl => ?_)
  by_cases hcd : cdS x1 n = 0
  · rw [if_pos hcd] at hG
    refine lv_aload_n C0.1 C0.2.1 dL_law_1660 rfl (lv_at hl 3 rfl) ?_
    refine lv_aload_n C0.1 C0.2.1 dL_law_1661 rfl (lv_at hl 1 rfl) ?_
    refine lv_iload C0.1 C0.2.1 dL_law_1662 (lv_at hl 5 rfl) ?_
    refine lv_iconst (v := nI 1) C0.1 C0.2.1 dL_law_1664 (by decide) ?_
    refine tn_iadd C0.1 C0.2.1 dL_law_1665 ?_
    refine tc_sld C0 hX hbl hS (by omega) hL ex1 dL_law_1666 ?_
    have hG := hG.sub (ws' := wM g q1 q2 q3 q4 cI th tk co cn wk n ho st ct sp (wT h r1 r2 r3 r4 cI tk co cn wk n ho st ct sp [(o, tcO cJ (vp_updL fo 0 ((nI (bestTk tk co cn (ix x1) n)).toInt64)))])) [6, 7, 8, 9, 10, 0, 1, 2, 3, 4, 5] (by decide) rfl rfl
    refine tc_callV (q0 := 0) (rest := []) C0 hG hS rfl rfl (kX1_bestTicket hlf hk x1) (cwV 1 C0.2.2.2.2 gL_law_X1_bestTicket rfl rfl rfl (by decide +kernel) ⟨(Nat.le_of_ble_eq_true rfl), (Nat.le_of_ble_eq_true rfl)⟩) rfl hl rfl (Nat.le_of_ble_eq_true rfl) dL_law_1667 ⟨(by dsimp only [room_1]; omega), (by dsimp only [room_1]; omega)⟩ (fun H locs hG hS => ?_)
    have hG : tcG D cI cJ s.heap.size (wM g q1 q2 q3 q4 cI (nI (cdS x1 n)) tk co cn wk n ho st ct sp (wT h r1 r2 r3 r4 cI tk co cn wk n ho st ct sp [(o, tcO cJ (vp_updL fo 0 ((nI (bestTk tk co cn (ix x1) n)).toInt64)))])) s H := hG
    refine tc_top (y := nI (bestTk tk co cn (ix x1) n)) (if_pos hcd) ?_
    refine lv_istore (lv' := [(6, .int (nI (bestTk tk co cn (ix x1) n))), (5, .int (nI (cdS x1 n))), (0, .ref b), (1, .ref h), (2, .ref g), (3, .ref o), (4, .int (nI i))]) C0.1 C0.2.1 dL_law_1670 hl (by decide) rfl (fun ls hl => ?_)
    refine lv_aload_n C0.1 C0.2.1 dL_law_1672 rfl (lv_at hl 4 rfl) ?_
    refine tc_callV (q0 := 0) (rest := []) C0 hG hS rfl rfl (kX1_thrown hlf hk ) (cwV 0 C0.2.2.2.2 gL_law_X1_thrown rfl rfl rfl (by decide +kernel) ⟨(Nat.le_of_ble_eq_true rfl), (Nat.le_of_ble_eq_true rfl)⟩) rfl hl rfl (Nat.le_of_ble_eq_true rfl) dL_law_1673 ⟨(by dsimp only [room_1]; omega), (by dsimp only [room_1]; omega)⟩ (fun H locs hG hS => ?_)
    refine lv_iload C0.1 C0.2.1 dL_law_1676 (lv_at hl 1 rfl) ?_
    refine lv_icmp_eq (tgt := 1683) C0.1 C0.2.1 dL_law_1678 (by decide) (fun c_a => ?_) (fun c_a => ?_)
    · refine lv_iload C0.1 C0.2.1 dL_law_1683 (lv_at hl 1 rfl) ?_
      refine tn_if_ne (tgt := 1700) C0.1 C0.2.1 dL_law_1685 (by decide) (by have hcm := cdS_le x1 n; omega) (fun c_c => ?_) (fun c_c => ?_)
      · exact absurd hcd (Nat.ne_of_gt c_c)
      · refine lv_aload_n C0.1 C0.2.1 dL_law_1688 rfl (lv_at hl 5 rfl) ?_
        refine lv_iconst (v := nI 0) C0.1 C0.2.1 dL_law_1689 (by decide) ?_
        refine tc_lald0 (q0 := 10) C0 hG rfl dL_law_1690 ?_
        refine lv_topl (fun y8 e8 => ?_)
        have e9 : y8 = (nI (bestTk tk co cn (ix x1) n)).toInt64 := e8.trans pk_uLs
        subst e9
        refine lv_iload C0.1 C0.2.1 dL_law_1691 (lv_at hl 0 rfl) ?_
        refine lv_i2l C0.1 C0.2.1 dL_law_1693 (v := (nI (bestTk tk co cn (ix x1) n)).toInt64) rfl ?_
        refine W.lcmp C0.1 C0.2.1 dL_law_1694 ?_
        refine tc_top (lg_self _) ?_
        refine tn_if_eq (tgt := 1700) C0.1 C0.2.1 dL_law_1695 (by decide) (by decide) (fun c_d => ?_) (fun c_d => absurd c_d (by decide))
        refine lv_goto (tgt := 1758) C0.1 C0.2.1 dL_law_1700 (by decide) ?_
        refine lv_iinc (v := nI (i + 5)) (lv' := [(4, .int (nI (i + 5))), (6, .int (nI (bestTk tk co cn (ix x1) n))), (5, .int (nI (cdS x1 n))), (0, .ref b), (1, .ref h), (2, .ref g), (3, .ref o)]) C0.1 C0.2.1 dL_law_1758 hl (k := 6) rfl (nI_add i 5) (by decide) rfl (fun ls hl => ?_)
        refine lv_goto (tgt := 23) C0.1 C0.2.1 dL_law_1761 (by decide) ?_
        refine W.widen (k := 11 + (i + 5)) (n := 128 + 5 * (i + 5)) (by omega) (by omega) ?_
        have hG := hG.sub (ws' := wT h r1 r2 r3 r4 cI tk co cn wk n ho st ct sp ((o, tcO cJ (vp_updL fo 0 ((nI (bestTk tk co cn (ix x1) n)).toInt64))) :: wM g q1 q2 q3 q4 cI (nI (cdS x1 n)) tk co cn wk n ho st ct sp [])) [5, 6, 7, 8, 9, 10, 0, 1, 2, 3, 4] (by decide) rfl rfl
        exact back tk co cn wk n ho st ct sp (nI (cdS x1 n)) (vp_updL fo 0 ((nI (bestTk tk co cn (ix x1) n)).toInt64)) hk _ _ _ hG hS (lv_sub hl [3, 4, 5, 6, 0] rfl)
    · exact absurd rfl c_a
  · rw [if_neg hcd] at hG
    refine lv_aload_n C0.1 C0.2.1 dL_law_1660 rfl (lv_at hl 3 rfl) ?_
    refine lv_aload_n C0.1 C0.2.1 dL_law_1661 rfl (lv_at hl 1 rfl) ?_
    refine lv_iload C0.1 C0.2.1 dL_law_1662 (lv_at hl 5 rfl) ?_
    refine lv_iconst (v := nI 1) C0.1 C0.2.1 dL_law_1664 (by decide) ?_
    refine tn_iadd C0.1 C0.2.1 dL_law_1665 ?_
    refine tc_sld C0 hX hbl hS (by omega) hL ex1 dL_law_1666 ?_
    have hG := hG.sub (ws' := wM g q1 q2 q3 q4 cI th tk co cn wk n ho st ct sp (wT h r1 r2 r3 r4 cI tk co cn wk n ho st ct sp [(o, tcO cJ fo)])) [6, 7, 8, 9, 10, 0, 1, 2, 3, 4, 5] (by decide) rfl rfl
    refine tc_callV (q0 := 0) (rest := []) C0 hG hS rfl rfl (kX1_bestTicket hlf hk x1) (cwV 1 C0.2.2.2.2 gL_law_X1_bestTicket rfl rfl rfl (by decide +kernel) ⟨(Nat.le_of_ble_eq_true rfl), (Nat.le_of_ble_eq_true rfl)⟩) rfl hl rfl (Nat.le_of_ble_eq_true rfl) dL_law_1667 ⟨(by dsimp only [room_1]; omega), (by dsimp only [room_1]; omega)⟩ (fun H locs hG hS => ?_)
    have hG : tcG D cI cJ s.heap.size (wM g q1 q2 q3 q4 cI (nI (cdS x1 n)) tk co cn wk n ho st ct sp (wT h r1 r2 r3 r4 cI tk co cn wk n ho st ct sp [(o, tcO cJ fo)])) s H := hG
    refine tc_top (y := nI 0) (if_neg hcd) ?_
    refine lv_istore (lv' := [(6, .int (nI 0)), (5, .int (nI (cdS x1 n))), (0, .ref b), (1, .ref h), (2, .ref g), (3, .ref o), (4, .int (nI i))]) C0.1 C0.2.1 dL_law_1670 hl (by decide) rfl (fun ls hl => ?_)
    refine lv_aload_n C0.1 C0.2.1 dL_law_1672 rfl (lv_at hl 4 rfl) ?_
    refine tc_callV (q0 := 0) (rest := []) C0 hG hS rfl rfl (kX1_thrown hlf hk ) (cwV 0 C0.2.2.2.2 gL_law_X1_thrown rfl rfl rfl (by decide +kernel) ⟨(Nat.le_of_ble_eq_true rfl), (Nat.le_of_ble_eq_true rfl)⟩) rfl hl rfl (Nat.le_of_ble_eq_true rfl) dL_law_1673 ⟨(by dsimp only [room_1]; omega), (by dsimp only [room_1]; omega)⟩ (fun H locs hG hS => ?_)
    refine lv_iload C0.1 C0.2.1 dL_law_1676 (lv_at hl 1 rfl) ?_
    refine lv_icmp_eq (tgt := 1683) C0.1 C0.2.1 dL_law_1678 (by decide) (fun c_a => ?_) (fun c_a => ?_)
    · refine lv_iload C0.1 C0.2.1 dL_law_1683 (lv_at hl 1 rfl) ?_
      refine tn_if_ne (tgt := 1700) C0.1 C0.2.1 dL_law_1685 (by decide) (by have hcm := cdS_le x1 n; omega) (fun c_c => ?_) (fun c_c => ?_)
      · refine lv_goto (tgt := 1758) C0.1 C0.2.1 dL_law_1700 (by decide) ?_
        refine lv_iinc (v := nI (i + 5)) (lv' := [(4, .int (nI (i + 5))), (6, .int (nI 0)), (5, .int (nI (cdS x1 n))), (0, .ref b), (1, .ref h), (2, .ref g), (3, .ref o)]) C0.1 C0.2.1 dL_law_1758 hl (k := 6) rfl (nI_add i 5) (by decide) rfl (fun ls hl => ?_)
        refine lv_goto (tgt := 23) C0.1 C0.2.1 dL_law_1761 (by decide) ?_
        refine W.widen (k := 11 + (i + 5)) (n := 128 + 5 * (i + 5)) (by omega) (by omega) ?_
        have hG := hG.sub (ws' := wT h r1 r2 r3 r4 cI tk co cn wk n ho st ct sp ((o, tcO cJ fo) :: wM g q1 q2 q3 q4 cI (nI (cdS x1 n)) tk co cn wk n ho st ct sp [])) [5, 6, 7, 8, 9, 10, 0, 1, 2, 3, 4] (by decide) rfl rfl
        exact back tk co cn wk n ho st ct sp (nI (cdS x1 n)) fo hk _ _ _ hG hS (lv_sub hl [3, 4, 5, 6, 0] rfl)
      · exact absurd c_c hcd
    · exact absurd rfl c_a
set_option maxHeartbeats 4000000 in
set_option maxRecDepth 100000 in
theorem law_case_31 {p : Program} {l : Launch} {e : Env} {s : State} {m : MethodId} {below : List Frame} {meth : Method} {c : Code} {b L : Nat} {xs : Nat → Int32} (hlf : l.stackTraces = false) (C0 : CallFix p m c cL_law 9 s #[Value.ref b] wsL_law RL) (hX : va_X b L xs s s.heap) (hbl : b < s.heap.size) (hL : L ≤ 2560) {D : va_G} {cI cJ : ClassId} {h r1 r2 r3 r4 o g q1 q2 q3 q4 : Nat} {tk co cn wk : Nat → Nat} {n st : Nat} {ho ct sp th : Int32} {fo : Nat → Int64} (hk : tOk tk co cn wk n st) {i : Nat} (hi : i + 5 ≤ L) {H : Heap} {locs : List Loc} {ls : Array Slot} (hG : tcG D cI cJ s.heap.size (wT h r1 r2 r3 r4 cI tk co cn wk n ho st ct sp ((o, tcO cJ fo) :: wM g q1 q2 q3 q4 cI th tk co cn wk n ho st ct sp [])) s H) (hS : va_S (tcA s.heap.size) s.heap H locs) (hl : lv_has ls 9 [(0, .ref b), (1, .ref h), (2, .ref g), (3, .ref o), (4, .int (nI i))])
    (back : ∀ (tk co cn wk : Nat → Nat) (n : Nat) (ho : Int32) (st : Nat) (ct sp th : Int32) (fo : Nat → Int64), tOk tk co cn wk n st → ∀ (H : Heap) (locs : List Loc) (ls : Array Slot), tcG D cI cJ s.heap.size (wT h r1 r2 r3 r4 cI tk co cn wk n ho st ct sp ((o, tcO cJ fo) :: wM g q1 q2 q3 q4 cI th tk co cn wk n ho st ct sp [])) s H → va_S (tcA s.heap.size) s.heap H locs → lv_has ls 9 [(0, .ref b), (1, .ref h), (2, .ref g), (3, .ref o), (4, .int (nI (i + 5)))] → W p l e room_1 s m #[Value.ref b] below meth c H locs (11 + (i + 5)) (128 + 5 * (i + 5)) (lw_Z below #[Value.ref b] s) (F0 m 23 ls [])) : W p l e room_1 s m #[Value.ref b] below meth c H locs (11 + i) (128 + 5 * i) (lw_Z below #[Value.ref b] s) (F0 m 1703 ls []) := by
  refine lv_aload_n C0.1 C0.2.1 dL_law_1703 rfl (lv_at hl 1 rfl) ?_
  refine tc_callV (q0 := 0) (rest := []) C0 hG hS rfl rfl (kX0_meanLuck hlf hk) (cwV 0 C0.2.2.2.2 gL_law_X0_meanLuck rfl rfl rfl (by decide +kernel) ⟨(Nat.le_of_ble_eq_true rfl), (Nat.le_of_ble_eq_true rfl)⟩) rfl hl rfl (Nat.le_of_ble_eq_true rfl) dL_law_1704 ⟨(by dsimp only [room_1]; omega), (by dsimp only [room_1]; omega)⟩ (fun H locs hG hS => ?_)
  refine lv_dstore (lv' := [(5, .double (mlk tk co cn wk n)), (0, .ref b), (1, .ref h), (2, .ref g), (3, .ref o), (4, .int (nI i))]) C0.1 C0.2.1 dL_law_1707 hl (by decide) rfl (fun ls hl => ?_)
  refine lv_aload_n C0.1 C0.2.1 dL_law_1709 rfl (lv_at hl 3 rfl) ?_
  have hG := hG.sub (ws' := wM g q1 q2 q3 q4 cI th tk co cn wk n ho st ct sp (wT h r1 r2 r3 r4 cI tk co cn wk n ho st ct sp [(o, tcO cJ fo)])) [6, 7, 8, 9, 10, 0, 1, 2, 3, 4, 5] (by decide) rfl rfl
  refine tc_callV (q0 := 0) (rest := []) C0 hG hS rfl rfl (kX1_meanLuck hlf hk ) (cwV 0 C0.2.2.2.2 gL_law_X1_meanLuck rfl rfl rfl (by decide +kernel) ⟨(Nat.le_of_ble_eq_true rfl), (Nat.le_of_ble_eq_true rfl)⟩) rfl hl rfl (Nat.le_of_ble_eq_true rfl) dL_law_1710 ⟨(by dsimp only [room_1]; omega), (by dsimp only [room_1]; omega)⟩ (fun H locs hG hS => ?_)
  have hG : tcG D cI cJ s.heap.size (wM g q1 q2 q3 q4 cI (nI 0) tk co cn wk n ho st ct sp (wT h r1 r2 r3 r4 cI tk co cn wk n ho st ct sp [(o, tcO cJ fo)])) s H := hG
  refine lv_dstore (lv' := [(7, .double (mlk tk co cn wk n)), (5, .double (mlk tk co cn wk n)), (0, .ref b), (1, .ref h), (2, .ref g), (3, .ref o), (4, .int (nI i))]) C0.1 C0.2.1 dL_law_1713 hl (by decide) rfl (fun ls hl => ?_)
  refine lv_dload C0.1 C0.2.1 dL_law_1715 (lv_at hl 1 rfl) ?_
  refine lv_dload C0.1 C0.2.1 dL_law_1717 (lv_at hl 0 rfl) ?_
  refine lv_dcmp C0.1 C0.2.1 dL_law_1719 ?_
  refine tc_top (y := nI 0) (by rw [mlk_eq hk.2.2.2.2.1]; decide) ?_
  refine tn_if_eq (tgt := 1741) C0.1 C0.2.1 dL_law_1720 (by decide) (by decide) (fun c_d => ?_) (fun c_d => absurd c_d (by decide))
  refine lv_goto (tgt := 1758) C0.1 C0.2.1 dL_law_1741 (by decide) ?_
  refine lv_iinc (v := nI (i + 5)) (lv' := [(4, .int (nI (i + 5))), (7, .double (mlk tk co cn wk n)), (5, .double (mlk tk co cn wk n)), (0, .ref b), (1, .ref h), (2, .ref g), (3, .ref o)]) C0.1 C0.2.1 dL_law_1758 hl (k := 6) rfl (nI_add i 5) (by decide) rfl (fun ls hl => ?_)
  refine lv_goto (tgt := 23) C0.1 C0.2.1 dL_law_1761 (by decide) ?_
  refine W.widen (k := 11 + (i + 5)) (n := 128 + 5 * (i + 5)) (by omega) (by omega) ?_
  have hG := hG.sub (ws' := wT h r1 r2 r3 r4 cI tk co cn wk n ho st ct sp ((o, tcO cJ fo) :: wM g q1 q2 q3 q4 cI (nI 0) tk co cn wk n ho st ct sp [])) [5, 6, 7, 8, 9, 10, 0, 1, 2, 3, 4] (by decide) rfl rfl
  exact back tk co cn wk n ho st ct sp (nI 0) fo hk _ _ _ hG hS (lv_sub hl [3, 4, 5, 6, 0] rfl)
set_option maxHeartbeats 4000000 in
set_option maxRecDepth 100000 in
theorem law_case_32 {p : Program} {l : Launch} {e : Env} {s : State} {m : MethodId} {below : List Frame} {meth : Method} {c : Code} {b L : Nat} {xs : Nat → Int32} (hlf : l.stackTraces = false) (C0 : CallFix p m c cL_law 9 s #[Value.ref b] wsL_law RL) (hX : va_X b L xs s s.heap) (hbl : b < s.heap.size) (hL : L ≤ 2560) {D : va_G} {cI cJ : ClassId} {h r1 r2 r3 r4 o g q1 q2 q3 q4 : Nat} {tk co cn wk : Nat → Nat} {n st : Nat} {ho ct sp th : Int32} {fo : Nat → Int64} (hk : tOk tk co cn wk n st) {i : Nat} (hi : i + 5 ≤ L) {H : Heap} {locs : List Loc} {ls : Array Slot} (hG : tcG D cI cJ s.heap.size (wT h r1 r2 r3 r4 cI tk co cn wk n ho st ct sp ((o, tcO cJ fo) :: wM g q1 q2 q3 q4 cI th tk co cn wk n ho st ct sp [])) s H) (hS : va_S (tcA s.heap.size) s.heap H locs) (hl : lv_has ls 9 [(0, .ref b), (1, .ref h), (2, .ref g), (3, .ref o), (4, .int (nI i))])
    (back : ∀ (tk co cn wk : Nat → Nat) (n : Nat) (ho : Int32) (st : Nat) (ct sp th : Int32) (fo : Nat → Int64), tOk tk co cn wk n st → ∀ (H : Heap) (locs : List Loc) (ls : Array Slot), tcG D cI cJ s.heap.size (wT h r1 r2 r3 r4 cI tk co cn wk n ho st ct sp ((o, tcO cJ fo) :: wM g q1 q2 q3 q4 cI th tk co cn wk n ho st ct sp [])) s H → va_S (tcA s.heap.size) s.heap H locs → lv_has ls 9 [(0, .ref b), (1, .ref h), (2, .ref g), (3, .ref o), (4, .int (nI (i + 5)))] → W p l e room_1 s m #[Value.ref b] below meth c H locs (11 + (i + 5)) (128 + 5 * (i + 5)) (lw_Z below #[Value.ref b] s) (F0 m 23 ls [])) : W p l e room_1 s m #[Value.ref b] below meth c H locs (11 + i) (128 + 5 * i) (lw_Z below #[Value.ref b] s) (F0 m 1744 ls []) := by
  refine lv_aload_n C0.1 C0.2.1 dL_law_1744 rfl (lv_at hl 1 rfl) ?_
  refine tc_callV (q0 := 0) (rest := []) C0 hG hS rfl rfl (kX0_digest hlf hk) (cwV 0 C0.2.2.2.2 gL_law_X0_digest rfl rfl rfl (by decide +kernel) ⟨(Nat.le_of_ble_eq_true rfl), (Nat.le_of_ble_eq_true rfl)⟩) rfl hl rfl (Nat.le_of_ble_eq_true rfl) dL_law_1745 ⟨(by dsimp only [room_1]; omega), (by dsimp only [room_1]; omega)⟩ (fun H locs hG hS => ?_)
  refine lv_aload_n C0.1 C0.2.1 dL_law_1748 rfl (lv_at hl 2 rfl) ?_
  have hG := hG.sub (ws' := wM g q1 q2 q3 q4 cI th tk co cn wk n ho st ct sp (wT h r1 r2 r3 r4 cI tk co cn wk n ho st ct sp [(o, tcO cJ fo)])) [6, 7, 8, 9, 10, 0, 1, 2, 3, 4, 5] (by decide) rfl rfl
  refine tc_callV (q0 := 0) (rest := [.long (dgst tk co cn wk n ho st ct sp)]) C0 hG hS rfl rfl (kX1_digest hlf hk ) (cwV 0 C0.2.2.2.2 gL_law_X1_digest rfl rfl rfl (by decide +kernel) ⟨(Nat.le_of_ble_eq_true rfl), (Nat.le_of_ble_eq_true rfl)⟩) rfl hl rfl (Nat.le_of_ble_eq_true rfl) dL_law_1749 ⟨(by dsimp only [room_1]; omega), (by dsimp only [room_1]; omega)⟩ (fun H locs hG hS => ?_)
  have hG : tcG D cI cJ s.heap.size (wM g q1 q2 q3 q4 cI (nI 0) tk co cn wk n ho st ct sp (wT h r1 r2 r3 r4 cI tk co cn wk n ho st ct sp [(o, tcO cJ fo)])) s H := hG
  refine W.lcmp C0.1 C0.2.1 dL_law_1752 ?_
  refine tc_top (lg_self _) ?_
  refine tn_if_eq (tgt := 1758) C0.1 C0.2.1 dL_law_1753 (by decide) (by decide) (fun c_d => ?_) (fun c_d => absurd c_d (by decide))
  refine lv_iinc (v := nI (i + 5)) (lv' := [(4, .int (nI (i + 5))), (0, .ref b), (1, .ref h), (2, .ref g), (3, .ref o)]) C0.1 C0.2.1 dL_law_1758 hl (k := 4) rfl (nI_add i 5) (by decide) rfl (fun ls hl => ?_)
  refine lv_goto (tgt := 23) C0.1 C0.2.1 dL_law_1761 (by decide) ?_
  refine W.widen (k := 11 + (i + 5)) (n := 128 + 5 * (i + 5)) (by omega) (by omega) ?_
  have hG := hG.sub (ws' := wT h r1 r2 r3 r4 cI tk co cn wk n ho st ct sp ((o, tcO cJ fo) :: wM g q1 q2 q3 q4 cI (nI 0) tk co cn wk n ho st ct sp [])) [5, 6, 7, 8, 9, 10, 0, 1, 2, 3, 4] (by decide) rfl rfl
  exact back tk co cn wk n ho st ct sp (nI 0) fo hk _ _ _ hG hS (lv_sub hl [1, 2, 3, 4, 0] rfl)
