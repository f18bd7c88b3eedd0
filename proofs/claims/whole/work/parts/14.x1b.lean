/-! the model: what others call -/
theorem cdP_le (x y : Int32) (n : Nat) : cdP x y n ≤ 2 := by
  unfold cdP; split
  · split
    · split <;> omega
    · omega
  · omega
theorem apd_0 {a b : Nat} (ha : a < 6) (hb : b < 6) (h : 2 * apd a b = 0) : a = b := by
  unfold apd adist at h
  split at h <;> omega
theorem apd_ne {a b : Nat} (ha : a < 6) (hb : b < 6) (h : ¬ 2 * apd a b = 0) (e : a = b) : False := by
  apply h
  unfold apd adist
  split <;> omega
set_option maxHeartbeats 4000000 in
set_option maxRecDepth 100000 in
theorem kX1_strangers {l : Launch} (hlf : l.stackTraces = false) {D : va_G} {cI cJ : ClassId} {N0 : Nat} {h r1 r2 r3 r4 : Nat} {tk co cn wk : Nat → Nat} {n st : Nat} {ho ct sp : Int32} {Z : va_W} {th : Int32} (hk : tOk tk co cn wk n st)   : tcM l yX1_strangers wsX1_strangers { frames := 1, cells := 0, slots := 0, locals := 21 } [] 0 [.ref h] D cI cJ N0 (wM h r1 r2 r3 r4 cI th tk co cn wk n ho st ct sp Z) (some (.int (nI n))) (wM h r1 r2 r3 r4 cI (nI 0) tk co cn wk n ho st ct sp Z) 0 0 := by
  refine tcM.of (cc := cX1_strangers) (maxL := 1) (ret := (some .int)) (by decide) rfl (Nat.le_of_ble_eq_true rfl) ?_
  intro p e s m args below meth c C0 hr hlk ht hmn hG ls hl
  have hl : lv_has ls 1 [(0, .ref h)] := hl
  obtain ⟨hk1, hk2, hk3, hk4, hn12, hst⟩ := id hk
  have hG0 := hG
  have hS : va_S (tcA N0) s.heap s.heap [] := va_S.rf
  have hF : ∀ w ∈ wsX10, w ∈ wsX1_strangers := by decide +kernel
  have w_people : Cond.fieldLink RX1 29 "TicketCoincidencesModel" "people" "I" ∈ wsX1_strangers := by decide +kernel
  refine lv_aload_n C0.1 C0.2.1 dX1_strangers_0 rfl (lv_at hl 0 rfl) ?_
  refine lv_aload_n C0.1 C0.2.1 dX1_strangers_1 rfl (lv_at hl 0 rfl) ?_
  refine tgX1_people C0 hF hG w_people dX1_strangers_2 ?_
  refine tc_callV (q0 := 0) C0 hG hS rfl rfl (kX1_ok hlf hk  (nI (n)) ) (cwV 1 C0.2.2.2.2 gX1_strangers_X1_ok rfl rfl rfl (by decide +kernel) ⟨(Nat.le_of_ble_eq_true rfl), (Nat.le_of_ble_eq_true rfl)⟩) rfl hl rfl (Nat.le_of_ble_eq_true rfl) dX1_strangers_5 ⟨(Nat.le_of_ble_eq_true rfl), (Nat.le_of_ble_eq_true rfl)⟩ (fun H locs hG hS => ?_)
  have hG : tcG D cI cJ N0 (wM h r1 r2 r3 r4 cI (nI 0) tk co cn wk n ho st ct sp Z) s H := hG
  exact tc_iret C0 hr hlk hG hS rfl rfl (Nat.le_of_ble_eq_true rfl) (Nat.le_of_ble_eq_true rfl) dX1_strangers_8
set_option maxHeartbeats 4000000 in
set_option maxRecDepth 100000 in
theorem kX1_hour {l : Launch} (hlf : l.stackTraces = false) {D : va_G} {cI cJ : ClassId} {N0 : Nat} {h r1 r2 r3 r4 : Nat} {tk co cn wk : Nat → Nat} {n st : Nat} {ho ct sp : Int32} {Z : va_W} {th : Int32} (hk : tOk tk co cn wk n st)   : tcM l yX1_hour wsX1_hour { frames := 1, cells := 0, slots := 0, locals := 21 } [] 0 [.ref h] D cI cJ N0 (wM h r1 r2 r3 r4 cI th tk co cn wk n ho st ct sp Z) (some (.int (ho))) (wM h r1 r2 r3 r4 cI (nI 0) tk co cn wk n ho st ct sp Z) 0 0 := by
  refine tcM.of (cc := cX1_hour) (maxL := 1) (ret := (some .int)) (by decide) rfl (Nat.le_of_ble_eq_true rfl) ?_
  intro p e s m args below meth c C0 hr hlk ht hmn hG ls hl
  have hl : lv_has ls 1 [(0, .ref h)] := hl
  obtain ⟨hk1, hk2, hk3, hk4, hn12, hst⟩ := id hk
  have hG0 := hG
  have hS : va_S (tcA N0) s.heap s.heap [] := va_S.rf
  have hF : ∀ w ∈ wsX10, w ∈ wsX1_hour := by decide +kernel
  have w_hour : Cond.fieldLink RX1 99 "TicketCoincidencesModel" "hour" "I" ∈ wsX1_hour := by decide +kernel
  refine lv_aload_n C0.1 C0.2.1 dX1_hour_0 rfl (lv_at hl 0 rfl) ?_
  refine lv_aload_n C0.1 C0.2.1 dX1_hour_1 rfl (lv_at hl 0 rfl) ?_
  refine tgX1_hour C0 hF hG w_hour dX1_hour_2 ?_
  refine tc_callV (q0 := 0) C0 hG hS rfl rfl (kX1_ok hlf hk  (ho) ) (cwV 1 C0.2.2.2.2 gX1_hour_X1_ok rfl rfl rfl (by decide +kernel) ⟨(Nat.le_of_ble_eq_true rfl), (Nat.le_of_ble_eq_true rfl)⟩) rfl hl rfl (Nat.le_of_ble_eq_true rfl) dX1_hour_5 ⟨(Nat.le_of_ble_eq_true rfl), (Nat.le_of_ble_eq_true rfl)⟩ (fun H locs hG hS => ?_)
  have hG : tcG D cI cJ N0 (wM h r1 r2 r3 r4 cI (nI 0) tk co cn wk n ho st ct sp Z) s H := hG
  exact tc_iret C0 hr hlk hG hS rfl rfl (Nat.le_of_ble_eq_true rfl) (Nat.le_of_ble_eq_true rfl) dX1_hour_8
set_option maxHeartbeats 4000000 in
set_option maxRecDepth 100000 in
theorem kX1_store {l : Launch} (hlf : l.stackTraces = false) {D : va_G} {cI cJ : ClassId} {N0 : Nat} {h r1 r2 r3 r4 : Nat} {tk co cn wk : Nat → Nat} {n st : Nat} {ho ct sp : Int32} {Z : va_W} {th : Int32} (hk : tOk tk co cn wk n st)   : tcM l yX1_store wsX1_store { frames := 1, cells := 0, slots := 0, locals := 21 } [] 0 [.ref h] D cI cJ N0 (wM h r1 r2 r3 r4 cI th tk co cn wk n ho st ct sp Z) (some (.int (nI st))) (wM h r1 r2 r3 r4 cI (nI 0) tk co cn wk n ho st ct sp Z) 0 0 := by
  refine tcM.of (cc := cX1_store) (maxL := 1) (ret := (some .int)) (by decide) rfl (Nat.le_of_ble_eq_true rfl) ?_
  intro p e s m args below meth c C0 hr hlk ht hmn hG ls hl
  have hl : lv_has ls 1 [(0, .ref h)] := hl
  obtain ⟨hk1, hk2, hk3, hk4, hn12, hst⟩ := id hk
  have hG0 := hG
  have hS : va_S (tcA N0) s.heap s.heap [] := va_S.rf
  have hF : ∀ w ∈ wsX10, w ∈ wsX1_store := by decide +kernel
  have w_store : Cond.fieldLink RX1 22 "TicketCoincidencesModel" "store" "I" ∈ wsX1_store := by decide +kernel
  refine lv_aload_n C0.1 C0.2.1 dX1_store_0 rfl (lv_at hl 0 rfl) ?_
  refine lv_aload_n C0.1 C0.2.1 dX1_store_1 rfl (lv_at hl 0 rfl) ?_
  refine tgX1_store C0 hF hG w_store dX1_store_2 ?_
  refine tc_callV (q0 := 0) C0 hG hS rfl rfl (kX1_ok hlf hk  (nI (st)) ) (cwV 1 C0.2.2.2.2 gX1_store_X1_ok rfl rfl rfl (by decide +kernel) ⟨(Nat.le_of_ble_eq_true rfl), (Nat.le_of_ble_eq_true rfl)⟩) rfl hl rfl (Nat.le_of_ble_eq_true rfl) dX1_store_5 ⟨(Nat.le_of_ble_eq_true rfl), (Nat.le_of_ble_eq_true rfl)⟩ (fun H locs hG hS => ?_)
  have hG : tcG D cI cJ N0 (wM h r1 r2 r3 r4 cI (nI 0) tk co cn wk n ho st ct sp Z) s H := hG
  exact tc_iret C0 hr hlk hG hS rfl rfl (Nat.le_of_ble_eq_true rfl) (Nat.le_of_ble_eq_true rfl) dX1_store_8
set_option maxHeartbeats 4000000 in
set_option maxRecDepth 100000 in
theorem kX1_counted {l : Launch} (hlf : l.stackTraces = false) {D : va_G} {cI cJ : ClassId} {N0 : Nat} {h r1 r2 r3 r4 : Nat} {tk co cn wk : Nat → Nat} {n st : Nat} {ho ct sp : Int32} {Z : va_W} {th : Int32} (hk : tOk tk co cn wk n st)   : tcM l yX1_counted wsX1_counted { frames := 1, cells := 0, slots := 0, locals := 21 } [] 0 [.ref h] D cI cJ N0 (wM h r1 r2 r3 r4 cI th tk co cn wk n ho st ct sp Z) (some (.int (ct))) (wM h r1 r2 r3 r4 cI (nI 0) tk co cn wk n ho st ct sp Z) 0 0 := by
  refine tcM.of (cc := cX1_counted) (maxL := 1) (ret := (some .int)) (by decide) rfl (Nat.le_of_ble_eq_true rfl) ?_
  intro p e s m args below meth c C0 hr hlk ht hmn hG ls hl
  have hl : lv_has ls 1 [(0, .ref h)] := hl
  obtain ⟨hk1, hk2, hk3, hk4, hn12, hst⟩ := id hk
  have hG0 := hG
  have hS : va_S (tcA N0) s.heap s.heap [] := va_S.rf
  have hF : ∀ w ∈ wsX10, w ∈ wsX1_counted := by decide +kernel
  have w_counted : Cond.fieldLink RX1 93 "TicketCoincidencesModel" "counted" "I" ∈ wsX1_counted := by decide +kernel
  refine lv_aload_n C0.1 C0.2.1 dX1_counted_0 rfl (lv_at hl 0 rfl) ?_
  refine lv_aload_n C0.1 C0.2.1 dX1_counted_1 rfl (lv_at hl 0 rfl) ?_
  refine tgX1_counted C0 hF hG w_counted dX1_counted_2 ?_
  refine tc_callV (q0 := 0) C0 hG hS rfl rfl (kX1_ok hlf hk  (ct) ) (cwV 1 C0.2.2.2.2 gX1_counted_X1_ok rfl rfl rfl (by decide +kernel) ⟨(Nat.le_of_ble_eq_true rfl), (Nat.le_of_ble_eq_true rfl)⟩) rfl hl rfl (Nat.le_of_ble_eq_true rfl) dX1_counted_5 ⟨(Nat.le_of_ble_eq_true rfl), (Nat.le_of_ble_eq_true rfl)⟩ (fun H locs hG hS => ?_)
  have hG : tcG D cI cJ N0 (wM h r1 r2 r3 r4 cI (nI 0) tk co cn wk n ho st ct sp Z) s H := hG
  exact tc_iret C0 hr hlk hG hS rfl rfl (Nat.le_of_ble_eq_true rfl) (Nat.le_of_ble_eq_true rfl) dX1_counted_8
set_option maxHeartbeats 4000000 in
set_option maxRecDepth 100000 in
theorem kX1_spent {l : Launch} (hlf : l.stackTraces = false) {D : va_G} {cI cJ : ClassId} {N0 : Nat} {h r1 r2 r3 r4 : Nat} {tk co cn wk : Nat → Nat} {n st : Nat} {ho ct sp : Int32} {Z : va_W} {th : Int32} (hk : tOk tk co cn wk n st)   : tcM l yX1_spent wsX1_spent { frames := 1, cells := 0, slots := 0, locals := 21 } [] 0 [.ref h] D cI cJ N0 (wM h r1 r2 r3 r4 cI th tk co cn wk n ho st ct sp Z) (some (.int (sp))) (wM h r1 r2 r3 r4 cI (nI 0) tk co cn wk n ho st ct sp Z) 0 0 := by
  refine tcM.of (cc := cX1_spent) (maxL := 1) (ret := (some .int)) (by decide) rfl (Nat.le_of_ble_eq_true rfl) ?_
  intro p e s m args below meth c C0 hr hlk ht hmn hG ls hl
  have hl : lv_has ls 1 [(0, .ref h)] := hl
  obtain ⟨hk1, hk2, hk3, hk4, hn12, hst⟩ := id hk
  have hG0 := hG
  have hS : va_S (tcA N0) s.heap s.heap [] := va_S.rf
  have hF : ∀ w ∈ wsX10, w ∈ wsX1_spent := by decide +kernel
  have w_spent : Cond.fieldLink RX1 69 "TicketCoincidencesModel" "spent" "I" ∈ wsX1_spent := by decide +kernel
  refine lv_aload_n C0.1 C0.2.1 dX1_spent_0 rfl (lv_at hl 0 rfl) ?_
  refine lv_aload_n C0.1 C0.2.1 dX1_spent_1 rfl (lv_at hl 0 rfl) ?_
  refine tgX1_spent C0 hF hG w_spent dX1_spent_2 ?_
  refine tc_callV (q0 := 0) C0 hG hS rfl rfl (kX1_ok hlf hk  (sp) ) (cwV 1 C0.2.2.2.2 gX1_spent_X1_ok rfl rfl rfl (by decide +kernel) ⟨(Nat.le_of_ble_eq_true rfl), (Nat.le_of_ble_eq_true rfl)⟩) rfl hl rfl (Nat.le_of_ble_eq_true rfl) dX1_spent_5 ⟨(Nat.le_of_ble_eq_true rfl), (Nat.le_of_ble_eq_true rfl)⟩ (fun H locs hG hS => ?_)
  have hG : tcG D cI cJ N0 (wM h r1 r2 r3 r4 cI (nI 0) tk co cn wk n ho st ct sp Z) s H := hG
  exact tc_iret C0 hr hlk hG hS rfl rfl (Nat.le_of_ble_eq_true rfl) (Nat.le_of_ble_eq_true rfl) dX1_spent_8
set_option maxHeartbeats 4000000 in
set_option maxRecDepth 100000 in
theorem kX1_of_tk {l : Launch} (hlf : l.stackTraces = false) {D : va_G} {cI cJ : ClassId} {N0 : Nat} {h r1 r2 r3 r4 : Nat} {tk co cn wk : Nat → Nat} {n st : Nat} {ho ct sp : Int32} {Z : va_W} {th : Int32} (hk : tOk tk co cn wk n st) (x : Int32)  : tcM l yX1_of wsX1_of { frames := 2, cells := 0, slots := 0, locals := 43 } [] 0 [.ref h, .int (x), .ref r1] D cI cJ N0 (wM h r1 r2 r3 r4 cI th tk co cn wk n ho st ct sp Z) (some (.int (if cdS x n = 0 then nI (tk (ix x)) else nI 0))) (wM h r1 r2 r3 r4 cI (nI (cdS x n)) tk co cn wk n ho st ct sp Z) 0 0 := by
  refine tcM.of (cc := cX1_of) (maxL := 3) (ret := (some .int)) (by decide) rfl (Nat.le_of_ble_eq_true rfl) ?_
  intro p e s m args below meth c C0 hr hlk ht hmn hG ls hl
  have hl : lv_has ls 3 [(0, .ref h), (1, .int (x)), (2, .ref r1)] := hl
  obtain ⟨hk1, hk2, hk3, hk4, hn12, hst⟩ := id hk
  have hG0 := hG
  have hS : va_S (tcA N0) s.heap s.heap [] := va_S.rf
  have hF : ∀ w ∈ wsX10, w ∈ wsX1_of := by decide +kernel
  have w_thrown : Cond.fieldLink RX1 26 "TicketCoincidencesModel" "thrown" "I" ∈ wsX1_of := by decide +kernel
  refine lv_aload_n C0.1 C0.2.1 dX1_of_0 rfl (lv_at hl 0 rfl) ?_
  refine lv_iconst (v := nI 0) C0.1 C0.2.1 dX1_of_1 (by decide) ?_
  refine tpX1_thrown C0 hF hG0 hG hS w_thrown dX1_of_2 (fun H locs hG hS => ?_)
  refine lv_aload_n C0.1 C0.2.1 dX1_of_5 rfl (lv_at hl 0 rfl) ?_
  refine lv_iload_n C0.1 C0.2.1 dX1_of_6 rfl (lv_at hl 1 rfl) ?_
  refine tc_callV (q0 := 0) C0 hG hS rfl rfl (kX1_isOne hlf hk  (x) ) (cwV 1 C0.2.2.2.2 gX1_of_X1_isOne rfl rfl rfl (by decide +kernel) ⟨(Nat.le_of_ble_eq_true rfl), (Nat.le_of_ble_eq_true rfl)⟩) rfl hl rfl (Nat.le_of_ble_eq_true rfl) dX1_of_7 ⟨(Nat.le_of_ble_eq_true rfl), (Nat.le_of_ble_eq_true rfl)⟩ (fun H locs hG hS => ?_)
  refine tb_if_eq (tgt := 19) C0.1 C0.2.1 dX1_of_10 (by decide) (fun c_10 => ?_) (fun c_10 => ?_)
  · have hcd1 := cdS_n c_10
    refine lv_aload_n C0.1 C0.2.1 dX1_of_19 rfl (lv_at hl 0 rfl) ?_
    refine lv_iconst (v := nI 1) C0.1 C0.2.1 dX1_of_20 (by decide) ?_
    refine tc_callV (q0 := 0) C0 hG hS rfl rfl (kX1_no hlf hk  (nI (1)) ) (cwV 1 C0.2.2.2.2 gX1_of_X1_no rfl rfl rfl (by decide +kernel) ⟨(Nat.le_of_ble_eq_true rfl), (Nat.le_of_ble_eq_true rfl)⟩) rfl hl rfl (Nat.le_of_ble_eq_true rfl) dX1_of_21 ⟨(Nat.le_of_ble_eq_true rfl), (Nat.le_of_ble_eq_true rfl)⟩ (fun H locs hG hS => ?_)
    have hG : tcG D cI cJ N0 (wM h r1 r2 r3 r4 cI ((nI (1))) tk co cn wk n ho st ct sp Z) s H := hG
    exact tc_iret C0 hr hlk (by first | exact tcG.eq (by rw [hcd0]) hG | exact tcG.eq (by rw [hcd1]) hG) hS rfl (by first | rw [if_pos hcd0] | rw [if_neg (by rw [hcd1]; decide)]) (Nat.le_of_ble_eq_true rfl) (Nat.le_of_ble_eq_true rfl) dX1_of_24
  · have hcd0 := cdS_y c_10
    obtain ⟨jx, hjx, rfl⟩ := tcIn_of (by omega) c_10
    try simp only [ix_nI (show jx < 2 ^ 31 by omega)]
    refine lv_aload_n C0.1 C0.2.1 dX1_of_13 rfl (lv_at hl 2 rfl) ?_
    refine lv_iload_n C0.1 C0.2.1 dX1_of_14 rfl (lv_at hl 1 rfl) ?_
    refine tc_ald (q0 := 1) C0 hG rfl (by omega) dX1_of_15 ?_
    have b_15 := hk1 (jx)
    refine lv_goto (tgt := 24) C0.1 C0.2.1 dX1_of_16 (by decide) ?_
    exact tc_iret C0 hr hlk (by first | exact tcG.eq (by rw [hcd0]) hG | exact tcG.eq (by rw [hcd1]) hG) hS rfl (by first | rw [if_pos hcd0] | rw [if_neg (by rw [hcd1]; decide)]) (Nat.le_of_ble_eq_true rfl) (Nat.le_of_ble_eq_true rfl) dX1_of_24
set_option maxHeartbeats 4000000 in
set_option maxRecDepth 100000 in
theorem kX1_of_co {l : Launch} (hlf : l.stackTraces = false) {D : va_G} {cI cJ : ClassId} {N0 : Nat} {h r1 r2 r3 r4 : Nat} {tk co cn wk : Nat → Nat} {n st : Nat} {ho ct sp : Int32} {Z : va_W} {th : Int32} (hk : tOk tk co cn wk n st) (x : Int32)  : tcM l yX1_of wsX1_of { frames := 2, cells := 0, slots := 0, locals := 43 } [] 0 [.ref h, .int (x), .ref r2] D cI cJ N0 (wM h r1 r2 r3 r4 cI th tk co cn wk n ho st ct sp Z) (some (.int (if cdS x n = 0 then nI (co (ix x)) else nI 0))) (wM h r1 r2 r3 r4 cI (nI (cdS x n)) tk co cn wk n ho st ct sp Z) 0 0 := by
  refine tcM.of (cc := cX1_of) (maxL := 3) (ret := (some .int)) (by decide) rfl (Nat.le_of_ble_eq_true rfl) ?_
  intro p e s m args below meth c C0 hr hlk ht hmn hG ls hl
  have hl : lv_has ls 3 [(0, .ref h), (1, .int (x)), (2, .ref r2)] := hl
  obtain ⟨hk1, hk2, hk3, hk4, hn12, hst⟩ := id hk
  have hG0 := hG
  have hS : va_S (tcA N0) s.heap s.heap [] := va_S.rf
  have hF : ∀ w ∈ wsX10, w ∈ wsX1_of := by decide +kernel
  have w_thrown : Cond.fieldLink RX1 26 "TicketCoincidencesModel" "thrown" "I" ∈ wsX1_of := by decide +kernel
  refine lv_aload_n C0.1 C0.2.1 dX1_of_0 rfl (lv_at hl 0 rfl) ?_
  refine lv_iconst (v := nI 0) C0.1 C0.2.1 dX1_of_1 (by decide) ?_
  refine tpX1_thrown C0 hF hG0 hG hS w_thrown dX1_of_2 (fun H locs hG hS => ?_)
  refine lv_aload_n C0.1 C0.2.1 dX1_of_5 rfl (lv_at hl 0 rfl) ?_
  refine lv_iload_n C0.1 C0.2.1 dX1_of_6 rfl (lv_at hl 1 rfl) ?_
  refine tc_callV (q0 := 0) C0 hG hS rfl rfl (kX1_isOne hlf hk  (x) ) (cwV 1 C0.2.2.2.2 gX1_of_X1_isOne rfl rfl rfl (by decide +kernel) ⟨(Nat.le_of_ble_eq_true rfl), (Nat.le_of_ble_eq_true rfl)⟩) rfl hl rfl (Nat.le_of_ble_eq_true rfl) dX1_of_7 ⟨(Nat.le_of_ble_eq_true rfl), (Nat.le_of_ble_eq_true rfl)⟩ (fun H locs hG hS => ?_)
  refine tb_if_eq (tgt := 19) C0.1 C0.2.1 dX1_of_10 (by decide) (fun c_10 => ?_) (fun c_10 => ?_)
  · have hcd1 := cdS_n c_10
    refine lv_aload_n C0.1 C0.2.1 dX1_of_19 rfl (lv_at hl 0 rfl) ?_
    refine lv_iconst (v := nI 1) C0.1 C0.2.1 dX1_of_20 (by decide) ?_
    refine tc_callV (q0 := 0) C0 hG hS rfl rfl (kX1_no hlf hk  (nI (1)) ) (cwV 1 C0.2.2.2.2 gX1_of_X1_no rfl rfl rfl (by decide +kernel) ⟨(Nat.le_of_ble_eq_true rfl), (Nat.le_of_ble_eq_true rfl)⟩) rfl hl rfl (Nat.le_of_ble_eq_true rfl) dX1_of_21 ⟨(Nat.le_of_ble_eq_true rfl), (Nat.le_of_ble_eq_true rfl)⟩ (fun H locs hG hS => ?_)
    have hG : tcG D cI cJ N0 (wM h r1 r2 r3 r4 cI ((nI (1))) tk co cn wk n ho st ct sp Z) s H := hG
    exact tc_iret C0 hr hlk (by first | exact tcG.eq (by rw [hcd0]) hG | exact tcG.eq (by rw [hcd1]) hG) hS rfl (by first | rw [if_pos hcd0] | rw [if_neg (by rw [hcd1]; decide)]) (Nat.le_of_ble_eq_true rfl) (Nat.le_of_ble_eq_true rfl) dX1_of_24
  · have hcd0 := cdS_y c_10
    obtain ⟨jx, hjx, rfl⟩ := tcIn_of (by omega) c_10
    try simp only [ix_nI (show jx < 2 ^ 31 by omega)]
    refine lv_aload_n C0.1 C0.2.1 dX1_of_13 rfl (lv_at hl 2 rfl) ?_
    refine lv_iload_n C0.1 C0.2.1 dX1_of_14 rfl (lv_at hl 1 rfl) ?_
    refine tc_ald (q0 := 2) C0 hG rfl (by omega) dX1_of_15 ?_
    have b_15 := hk2 (jx)
    refine lv_goto (tgt := 24) C0.1 C0.2.1 dX1_of_16 (by decide) ?_
    exact tc_iret C0 hr hlk (by first | exact tcG.eq (by rw [hcd0]) hG | exact tcG.eq (by rw [hcd1]) hG) hS rfl (by first | rw [if_pos hcd0] | rw [if_neg (by rw [hcd1]; decide)]) (Nat.le_of_ble_eq_true rfl) (Nat.le_of_ble_eq_true rfl) dX1_of_24
set_option maxHeartbeats 4000000 in
set_option maxRecDepth 100000 in
theorem kX1_of_cn {l : Launch} (hlf : l.stackTraces = false) {D : va_G} {cI cJ : ClassId} {N0 : Nat} {h r1 r2 r3 r4 : Nat} {tk co cn wk : Nat → Nat} {n st : Nat} {ho ct sp : Int32} {Z : va_W} {th : Int32} (hk : tOk tk co cn wk n st) (x : Int32)  : tcM l yX1_of wsX1_of { frames := 2, cells := 0, slots := 0, locals := 43 } [] 0 [.ref h, .int (x), .ref r3] D cI cJ N0 (wM h r1 r2 r3 r4 cI th tk co cn wk n ho st ct sp Z) (some (.int (if cdS x n = 0 then nI (cn (ix x)) else nI 0))) (wM h r1 r2 r3 r4 cI (nI (cdS x n)) tk co cn wk n ho st ct sp Z) 0 0 := by
  refine tcM.of (cc := cX1_of) (maxL := 3) (ret := (some .int)) (by decide) rfl (Nat.le_of_ble_eq_true rfl) ?_
  intro p e s m args below meth c C0 hr hlk ht hmn hG ls hl
  have hl : lv_has ls 3 [(0, .ref h), (1, .int (x)), (2, .ref r3)] := hl
  obtain ⟨hk1, hk2, hk3, hk4, hn12, hst⟩ := id hk
  have hG0 := hG
  have hS : va_S (tcA N0) s.heap s.heap [] := va_S.rf
  have hF : ∀ w ∈ wsX10, w ∈ wsX1_of := by decide +kernel
  have w_thrown : Cond.fieldLink RX1 26 "TicketCoincidencesModel" "thrown" "I" ∈ wsX1_of := by decide +kernel
  refine lv_aload_n C0.1 C0.2.1 dX1_of_0 rfl (lv_at hl 0 rfl) ?_
  refine lv_iconst (v := nI 0) C0.1 C0.2.1 dX1_of_1 (by decide) ?_
  refine tpX1_thrown C0 hF hG0 hG hS w_thrown dX1_of_2 (fun H locs hG hS => ?_)
  refine lv_aload_n C0.1 C0.2.1 dX1_of_5 rfl (lv_at hl 0 rfl) ?_
  refine lv_iload_n C0.1 C0.2.1 dX1_of_6 rfl (lv_at hl 1 rfl) ?_
  refine tc_callV (q0 := 0) C0 hG hS rfl rfl (kX1_isOne hlf hk  (x) ) (cwV 1 C0.2.2.2.2 gX1_of_X1_isOne rfl rfl rfl (by decide +kernel) ⟨(Nat.le_of_ble_eq_true rfl), (Nat.le_of_ble_eq_true rfl)⟩) rfl hl rfl (Nat.le_of_ble_eq_true rfl) dX1_of_7 ⟨(Nat.le_of_ble_eq_true rfl), (Nat.le_of_ble_eq_true rfl)⟩ (fun H locs hG hS => ?_)
  refine tb_if_eq (tgt := 19) C0.1 C0.2.1 dX1_of_10 (by decide) (fun c_10 => ?_) (fun c_10 => ?_)
  · have hcd1 := cdS_n c_10
    refine lv_aload_n C0.1 C0.2.1 dX1_of_19 rfl (lv_at hl 0 rfl) ?_
    refine lv_iconst (v := nI 1) C0.1 C0.2.1 dX1_of_20 (by decide) ?_
    refine tc_callV (q0 := 0) C0 hG hS rfl rfl (kX1_no hlf hk  (nI (1)) ) (cwV 1 C0.2.2.2.2 gX1_of_X1_no rfl rfl rfl (by decide +kernel) ⟨(Nat.le_of_ble_eq_true rfl), (Nat.le_of_ble_eq_true rfl)⟩) rfl hl rfl (Nat.le_of_ble_eq_true rfl) dX1_of_21 ⟨(Nat.le_of_ble_eq_true rfl), (Nat.le_of_ble_eq_true rfl)⟩ (fun H locs hG hS => ?_)
    have hG : tcG D cI cJ N0 (wM h r1 r2 r3 r4 cI ((nI (1))) tk co cn wk n ho st ct sp Z) s H := hG
    exact tc_iret C0 hr hlk (by first | exact tcG.eq (by rw [hcd0]) hG | exact tcG.eq (by rw [hcd1]) hG) hS rfl (by first | rw [if_pos hcd0] | rw [if_neg (by rw [hcd1]; decide)]) (Nat.le_of_ble_eq_true rfl) (Nat.le_of_ble_eq_true rfl) dX1_of_24
  · have hcd0 := cdS_y c_10
    obtain ⟨jx, hjx, rfl⟩ := tcIn_of (by omega) c_10
    try simp only [ix_nI (show jx < 2 ^ 31 by omega)]
    refine lv_aload_n C0.1 C0.2.1 dX1_of_13 rfl (lv_at hl 2 rfl) ?_
    refine lv_iload_n C0.1 C0.2.1 dX1_of_14 rfl (lv_at hl 1 rfl) ?_
    refine tc_ald (q0 := 3) C0 hG rfl (by omega) dX1_of_15 ?_
    have b_15 := hk3 (jx)
    refine lv_goto (tgt := 24) C0.1 C0.2.1 dX1_of_16 (by decide) ?_
    exact tc_iret C0 hr hlk (by first | exact tcG.eq (by rw [hcd0]) hG | exact tcG.eq (by rw [hcd1]) hG) hS rfl (by first | rw [if_pos hcd0] | rw [if_neg (by rw [hcd1]; decide)]) (Nat.le_of_ble_eq_true rfl) (Nat.le_of_ble_eq_true rfl) dX1_of_24
set_option maxHeartbeats 4000000 in
set_option maxRecDepth 100000 in
theorem kX1_of_wk {l : Launch} (hlf : l.stackTraces = false) {D : va_G} {cI cJ : ClassId} {N0 : Nat} {h r1 r2 r3 r4 : Nat} {tk co cn wk : Nat → Nat} {n st : Nat} {ho ct sp : Int32} {Z : va_W} {th : Int32} (hk : tOk tk co cn wk n st) (x : Int32)  : tcM l yX1_of wsX1_of { frames := 2, cells := 0, slots := 0, locals := 43 } [] 0 [.ref h, .int (x), .ref r4] D cI cJ N0 (wM h r1 r2 r3 r4 cI th tk co cn wk n ho st ct sp Z) (some (.int (if cdS x n = 0 then nI (wk (ix x)) else nI 0))) (wM h r1 r2 r3 r4 cI (nI (cdS x n)) tk co cn wk n ho st ct sp Z) 0 0 := by
  refine tcM.of (cc := cX1_of) (maxL := 3) (ret := (some .int)) (by decide) rfl (Nat.le_of_ble_eq_true rfl) ?_
  intro p e s m args below meth c C0 hr hlk ht hmn hG ls hl
  have hl : lv_has ls 3 [(0, .ref h), (1, .int (x)), (2, .ref r4)] := hl
  obtain ⟨hk1, hk2, hk3, hk4, hn12, hst⟩ := id hk
  have hG0 := hG
  have hS : va_S (tcA N0) s.heap s.heap [] := va_S.rf
  have hF : ∀ w ∈ wsX10, w ∈ wsX1_of := by decide +kernel
  have w_thrown : Cond.fieldLink RX1 26 "TicketCoincidencesModel" "thrown" "I" ∈ wsX1_of := by decide +kernel
  refine lv_aload_n C0.1 C0.2.1 dX1_of_0 rfl (lv_at hl 0 rfl) ?_
  refine lv_iconst (v := nI 0) C0.1 C0.2.1 dX1_of_1 (by decide) ?_
  refine tpX1_thrown C0 hF hG0 hG hS w_thrown dX1_of_2 (fun H locs hG hS => ?_)
  refine lv_aload_n C0.1 C0.2.1 dX1_of_5 rfl (lv_at hl 0 rfl) ?_
  refine lv_iload_n C0.1 C0.2.1 dX1_of_6 rfl (lv_at hl 1 rfl) ?_
  refine tc_callV (q0 := 0) C0 hG hS rfl rfl (kX1_isOne hlf hk  (x) ) (cwV 1 C0.2.2.2.2 gX1_of_X1_isOne rfl rfl rfl (by decide +kernel) ⟨(Nat.le_of_ble_eq_true rfl), (Nat.le_of_ble_eq_true rfl)⟩) rfl hl rfl (Nat.le_of_ble_eq_true rfl) dX1_of_7 ⟨(Nat.le_of_ble_eq_true rfl), (Nat.le_of_ble_eq_true rfl)⟩ (fun H locs hG hS => ?_)
  refine tb_if_eq (tgt := 19) C0.1 C0.2.1 dX1_of_10 (by decide) (fun c_10 => ?_) (fun c_10 => ?_)
  · have hcd1 := cdS_n c_10
    refine lv_aload_n C0.1 C0.2.1 dX1_of_19 rfl (lv_at hl 0 rfl) ?_
    refine lv_iconst (v := nI 1) C0.1 C0.2.1 dX1_of_20 (by decide) ?_
    refine tc_callV (q0 := 0) C0 hG hS rfl rfl (kX1_no hlf hk  (nI (1)) ) (cwV 1 C0.2.2.2.2 gX1_of_X1_no rfl rfl rfl (by decide +kernel) ⟨(Nat.le_of_ble_eq_true rfl), (Nat.le_of_ble_eq_true rfl)⟩) rfl hl rfl (Nat.le_of_ble_eq_true rfl) dX1_of_21 ⟨(Nat.le_of_ble_eq_true rfl), (Nat.le_of_ble_eq_true rfl)⟩ (fun H locs hG hS => ?_)
    have hG : tcG D cI cJ N0 (wM h r1 r2 r3 r4 cI ((nI (1))) tk co cn wk n ho st ct sp Z) s H := hG
    exact tc_iret C0 hr hlk (by first | exact tcG.eq (by rw [hcd0]) hG | exact tcG.eq (by rw [hcd1]) hG) hS rfl (by first | rw [if_pos hcd0] | rw [if_neg (by rw [hcd1]; decide)]) (Nat.le_of_ble_eq_true rfl) (Nat.le_of_ble_eq_true rfl) dX1_of_24
  · have hcd0 := cdS_y c_10
    obtain ⟨jx, hjx, rfl⟩ := tcIn_of (by omega) c_10
    try simp only [ix_nI (show jx < 2 ^ 31 by omega)]
    refine lv_aload_n C0.1 C0.2.1 dX1_of_13 rfl (lv_at hl 2 rfl) ?_
    refine lv_iload_n C0.1 C0.2.1 dX1_of_14 rfl (lv_at hl 1 rfl) ?_
    refine tc_ald (q0 := 4) C0 hG rfl (by omega) dX1_of_15 ?_
    have b_15 := hk4 (jx)
    refine lv_goto (tgt := 24) C0.1 C0.2.1 dX1_of_16 (by decide) ?_
    exact tc_iret C0 hr hlk (by first | exact tcG.eq (by rw [hcd0]) hG | exact tcG.eq (by rw [hcd1]) hG) hS rfl (by first | rw [if_pos hcd0] | rw [if_neg (by rw [hcd1]; decide)]) (Nat.le_of_ble_eq_true rfl) (Nat.le_of_ble_eq_true rfl) dX1_of_24
set_option maxHeartbeats 4000000 in
set_option maxRecDepth 100000 in
theorem kX1_ticketOf {l : Launch} (hlf : l.stackTraces = false) {D : va_G} {cI cJ : ClassId} {N0 : Nat} {h r1 r2 r3 r4 : Nat} {tk co cn wk : Nat → Nat} {n st : Nat} {ho ct sp : Int32} {Z : va_W} {th : Int32} (hk : tOk tk co cn wk n st) (x : Int32)  : tcM l yX1_ticketOf wsX1_ticketOf { frames := 3, cells := 0, slots := 0, locals := 65 } [] 0 [.ref h, .int (x)] D cI cJ N0 (wM h r1 r2 r3 r4 cI th tk co cn wk n ho st ct sp Z) (some (.int (if cdS x n = 0 then nI (tk (ix x)) else nI 0))) (wM h r1 r2 r3 r4 cI (nI (cdS x n)) tk co cn wk n ho st ct sp Z) 0 0 := by
  refine tcM.of (cc := cX1_ticketOf) (maxL := 2) (ret := (some .int)) (by decide) rfl (Nat.le_of_ble_eq_true rfl) ?_
  intro p e s m args below meth c C0 hr hlk ht hmn hG ls hl
  have hl : lv_has ls 2 [(0, .ref h), (1, .int (x))] := hl
  obtain ⟨hk1, hk2, hk3, hk4, hn12, hst⟩ := id hk
  have hG0 := hG
  have hS : va_S (tcA N0) s.heap s.heap [] := va_S.rf
  have hF : ∀ w ∈ wsX10, w ∈ wsX1_ticketOf := by decide +kernel
  have w_ticket : Cond.fieldLink RX1 9 "TicketCoincidencesModel" "ticket" "[I" ∈ wsX1_ticketOf := by decide +kernel
  refine lv_aload_n C0.1 C0.2.1 dX1_ticketOf_0 rfl (lv_at hl 0 rfl) ?_
  refine lv_iload_n C0.1 C0.2.1 dX1_ticketOf_1 rfl (lv_at hl 1 rfl) ?_
  refine lv_aload_n C0.1 C0.2.1 dX1_ticketOf_2 rfl (lv_at hl 0 rfl) ?_
  refine tgX1_ticket C0 hF hG w_ticket dX1_ticketOf_3 ?_
  refine tc_callV (q0 := 0) C0 hG hS rfl rfl (kX1_of_tk hlf hk  (x) ) (cwV 2 C0.2.2.2.2 gX1_ticketOf_X1_of rfl rfl rfl (by decide +kernel) ⟨(Nat.le_of_ble_eq_true rfl), (Nat.le_of_ble_eq_true rfl)⟩) rfl hl rfl (Nat.le_of_ble_eq_true rfl) dX1_ticketOf_6 ⟨(Nat.le_of_ble_eq_true rfl), (Nat.le_of_ble_eq_true rfl)⟩ (fun H locs hG hS => ?_)
  have hG : tcG D cI cJ N0 (wM h r1 r2 r3 r4 cI (nI (cdS x n)) tk co cn wk n ho st ct sp Z) s H := hG
  exact tc_iret C0 hr hlk hG hS rfl rfl (Nat.le_of_ble_eq_true rfl) (Nat.le_of_ble_eq_true rfl) dX1_ticketOf_9
set_option maxHeartbeats 4000000 in
set_option maxRecDepth 100000 in
theorem kX1_colourOf {l : Launch} (hlf : l.stackTraces = false) {D : va_G} {cI cJ : ClassId} {N0 : Nat} {h r1 r2 r3 r4 : Nat} {tk co cn wk : Nat → Nat} {n st : Nat} {ho ct sp : Int32} {Z : va_W} {th : Int32} (hk : tOk tk co cn wk n st) (x : Int32)  : tcM l yX1_colourOf wsX1_colourOf { frames := 3, cells := 0, slots := 0, locals := 65 } [] 0 [.ref h, .int (x)] D cI cJ N0 (wM h r1 r2 r3 r4 cI th tk co cn wk n ho st ct sp Z) (some (.int (if cdS x n = 0 then nI (co (ix x)) else nI 0))) (wM h r1 r2 r3 r4 cI (nI (cdS x n)) tk co cn wk n ho st ct sp Z) 0 0 := by
  refine tcM.of (cc := cX1_colourOf) (maxL := 2) (ret := (some .int)) (by decide) rfl (Nat.le_of_ble_eq_true rfl) ?_
  intro p e s m args below meth c C0 hr hlk ht hmn hG ls hl
  have hl : lv_has ls 2 [(0, .ref h), (1, .int (x))] := hl
  obtain ⟨hk1, hk2, hk3, hk4, hn12, hst⟩ := id hk
  have hG0 := hG
  have hS : va_S (tcA N0) s.heap s.heap [] := va_S.rf
  have hF : ∀ w ∈ wsX10, w ∈ wsX1_colourOf := by decide +kernel
  have w_colour : Cond.fieldLink RX1 13 "TicketCoincidencesModel" "colour" "[I" ∈ wsX1_colourOf := by decide +kernel
  refine lv_aload_n C0.1 C0.2.1 dX1_colourOf_0 rfl (lv_at hl 0 rfl) ?_
  refine lv_iload_n C0.1 C0.2.1 dX1_colourOf_1 rfl (lv_at hl 1 rfl) ?_
  refine lv_aload_n C0.1 C0.2.1 dX1_colourOf_2 rfl (lv_at hl 0 rfl) ?_
  refine tgX1_colour C0 hF hG w_colour dX1_colourOf_3 ?_
  refine tc_callV (q0 := 0) C0 hG hS rfl rfl (kX1_of_co hlf hk  (x) ) (cwV 2 C0.2.2.2.2 gX1_colourOf_X1_of rfl rfl rfl (by decide +kernel) ⟨(Nat.le_of_ble_eq_true rfl), (Nat.le_of_ble_eq_true rfl)⟩) rfl hl rfl (Nat.le_of_ble_eq_true rfl) dX1_colourOf_6 ⟨(Nat.le_of_ble_eq_true rfl), (Nat.le_of_ble_eq_true rfl)⟩ (fun H locs hG hS => ?_)
  have hG : tcG D cI cJ N0 (wM h r1 r2 r3 r4 cI (nI (cdS x n)) tk co cn wk n ho st ct sp Z) s H := hG
  exact tc_iret C0 hr hlk hG hS rfl rfl (Nat.le_of_ble_eq_true rfl) (Nat.le_of_ble_eq_true rfl) dX1_colourOf_9
set_option maxHeartbeats 4000000 in
set_option maxRecDepth 100000 in
theorem kX1_cornerOf {l : Launch} (hlf : l.stackTraces = false) {D : va_G} {cI cJ : ClassId} {N0 : Nat} {h r1 r2 r3 r4 : Nat} {tk co cn wk : Nat → Nat} {n st : Nat} {ho ct sp : Int32} {Z : va_W} {th : Int32} (hk : tOk tk co cn wk n st) (x : Int32)  : tcM l yX1_cornerOf wsX1_cornerOf { frames := 3, cells := 0, slots := 0, locals := 65 } [] 0 [.ref h, .int (x)] D cI cJ N0 (wM h r1 r2 r3 r4 cI th tk co cn wk n ho st ct sp Z) (some (.int (if cdS x n = 0 then nI (cn (ix x)) else nI 0))) (wM h r1 r2 r3 r4 cI (nI (cdS x n)) tk co cn wk n ho st ct sp Z) 0 0 := by
  refine tcM.of (cc := cX1_cornerOf) (maxL := 2) (ret := (some .int)) (by decide) rfl (Nat.le_of_ble_eq_true rfl) ?_
  intro p e s m args below meth c C0 hr hlk ht hmn hG ls hl
  have hl : lv_has ls 2 [(0, .ref h), (1, .int (x))] := hl
  obtain ⟨hk1, hk2, hk3, hk4, hn12, hst⟩ := id hk
  have hG0 := hG
  have hS : va_S (tcA N0) s.heap s.heap [] := va_S.rf
  have hF : ∀ w ∈ wsX10, w ∈ wsX1_cornerOf := by decide +kernel
  have w_corner : Cond.fieldLink RX1 16 "TicketCoincidencesModel" "corner" "[I" ∈ wsX1_cornerOf := by decide +kernel
  refine lv_aload_n C0.1 C0.2.1 dX1_cornerOf_0 rfl (lv_at hl 0 rfl) ?_
  refine lv_iload_n C0.1 C0.2.1 dX1_cornerOf_1 rfl (lv_at hl 1 rfl) ?_
  refine lv_aload_n C0.1 C0.2.1 dX1_cornerOf_2 rfl (lv_at hl 0 rfl) ?_
  refine tgX1_corner C0 hF hG w_corner dX1_cornerOf_3 ?_
  refine tc_callV (q0 := 0) C0 hG hS rfl rfl (kX1_of_cn hlf hk  (x) ) (cwV 2 C0.2.2.2.2 gX1_cornerOf_X1_of rfl rfl rfl (by decide +kernel) ⟨(Nat.le_of_ble_eq_true rfl), (Nat.le_of_ble_eq_true rfl)⟩) rfl hl rfl (Nat.le_of_ble_eq_true rfl) dX1_cornerOf_6 ⟨(Nat.le_of_ble_eq_true rfl), (Nat.le_of_ble_eq_true rfl)⟩ (fun H locs hG hS => ?_)
  have hG : tcG D cI cJ N0 (wM h r1 r2 r3 r4 cI (nI (cdS x n)) tk co cn wk n ho st ct sp Z) s H := hG
  exact tc_iret C0 hr hlk hG hS rfl rfl (Nat.le_of_ble_eq_true rfl) (Nat.le_of_ble_eq_true rfl) dX1_cornerOf_9
set_option maxHeartbeats 4000000 in
set_option maxRecDepth 100000 in
theorem kX1_walkOf {l : Launch} (hlf : l.stackTraces = false) {D : va_G} {cI cJ : ClassId} {N0 : Nat} {h r1 r2 r3 r4 : Nat} {tk co cn wk : Nat → Nat} {n st : Nat} {ho ct sp : Int32} {Z : va_W} {th : Int32} (hk : tOk tk co cn wk n st) (x : Int32)  : tcM l yX1_walkOf wsX1_walkOf { frames := 3, cells := 0, slots := 0, locals := 65 } [] 0 [.ref h, .int (x)] D cI cJ N0 (wM h r1 r2 r3 r4 cI th tk co cn wk n ho st ct sp Z) (some (.int (if cdS x n = 0 then nI (wk (ix x)) else nI 0))) (wM h r1 r2 r3 r4 cI (nI (cdS x n)) tk co cn wk n ho st ct sp Z) 0 0 := by
  refine tcM.of (cc := cX1_walkOf) (maxL := 2) (ret := (some .int)) (by decide) rfl (Nat.le_of_ble_eq_true rfl) ?_
  intro p e s m args below meth c C0 hr hlk ht hmn hG ls hl
  have hl : lv_has ls 2 [(0, .ref h), (1, .int (x))] := hl
  obtain ⟨hk1, hk2, hk3, hk4, hn12, hst⟩ := id hk
  have hG0 := hG
  have hS : va_S (tcA N0) s.heap s.heap [] := va_S.rf
  have hF : ∀ w ∈ wsX10, w ∈ wsX1_walkOf := by decide +kernel
  have w_walk : Cond.fieldLink RX1 19 "TicketCoincidencesModel" "walk" "[I" ∈ wsX1_walkOf := by decide +kernel
  refine lv_aload_n C0.1 C0.2.1 dX1_walkOf_0 rfl (lv_at hl 0 rfl) ?_
  refine lv_iload_n C0.1 C0.2.1 dX1_walkOf_1 rfl (lv_at hl 1 rfl) ?_
  refine lv_aload_n C0.1 C0.2.1 dX1_walkOf_2 rfl (lv_at hl 0 rfl) ?_
  refine tgX1_walk C0 hF hG w_walk dX1_walkOf_3 ?_
  refine tc_callV (q0 := 0) C0 hG hS rfl rfl (kX1_of_wk hlf hk  (x) ) (cwV 2 C0.2.2.2.2 gX1_walkOf_X1_of rfl rfl rfl (by decide +kernel) ⟨(Nat.le_of_ble_eq_true rfl), (Nat.le_of_ble_eq_true rfl)⟩) rfl hl rfl (Nat.le_of_ble_eq_true rfl) dX1_walkOf_6 ⟨(Nat.le_of_ble_eq_true rfl), (Nat.le_of_ble_eq_true rfl)⟩ (fun H locs hG hS => ?_)
  have hG : tcG D cI cJ N0 (wM h r1 r2 r3 r4 cI (nI (cdS x n)) tk co cn wk n ho st ct sp Z) s H := hG
  exact tc_iret C0 hr hlk hG hS rfl rfl (Nat.le_of_ble_eq_true rfl) (Nat.le_of_ble_eq_true rfl) dX1_walkOf_9
set_option maxHeartbeats 4000000 in
set_option maxRecDepth 100000 in
theorem kX1_peopleAt {l : Launch} (hlf : l.stackTraces = false) {D : va_G} {cI cJ : ClassId} {N0 : Nat} {h r1 r2 r3 r4 : Nat} {tk co cn wk : Nat → Nat} {n st : Nat} {ho ct sp : Int32} {Z : va_W} {th : Int32} (hk : tOk tk co cn wk n st) (x : Int32)  : tcM l yX1_peopleAt wsX1_peopleAt { frames := 2, cells := 0, slots := 0, locals := 42 } [] 0 [.ref h, .int (x)] D cI cJ N0 (wM h r1 r2 r3 r4 cI th tk co cn wk n ho st ct sp Z) (some (.int (if cdS x 6 = 0 then nI (crowd cn (ix x) n) else nI 0))) (wM h r1 r2 r3 r4 cI (nI (cdS x 6)) tk co cn wk n ho st ct sp Z) 0 0 := by
  refine tcM.of (cc := cX1_peopleAt) (maxL := 2) (ret := (some .int)) (by decide) rfl (Nat.le_of_ble_eq_true rfl) ?_
  intro p e s m args below meth c C0 hr hlk ht hmn hG ls hl
  have hl : lv_has ls 2 [(0, .ref h), (1, .int (x))] := hl
  obtain ⟨hk1, hk2, hk3, hk4, hn12, hst⟩ := id hk
  have hG0 := hG
  have hS : va_S (tcA N0) s.heap s.heap [] := va_S.rf
  have hF : ∀ w ∈ wsX10, w ∈ wsX1_peopleAt := by decide +kernel
  have w_thrown : Cond.fieldLink RX1 26 "TicketCoincidencesModel" "thrown" "I" ∈ wsX1_peopleAt := by decide +kernel
  refine lv_aload_n C0.1 C0.2.1 dX1_peopleAt_0 rfl (lv_at hl 0 rfl) ?_
  refine lv_iconst (v := nI 0) C0.1 C0.2.1 dX1_peopleAt_1 (by decide) ?_
  refine tpX1_thrown C0 hF hG0 hG hS w_thrown dX1_peopleAt_2 (fun H locs hG hS => ?_)
  refine lv_iload_n C0.1 C0.2.1 dX1_peopleAt_5 rfl (lv_at hl 1 rfl) ?_
  refine tc_callS C0 hG hS (kX1_isCorner hlf  (x) ) (va_cwS 1 C0.2.2.2.2 gX1_peopleAt_X1_isCorner rfl rfl rfl (by decide +kernel) ⟨(Nat.le_of_ble_eq_true rfl), (Nat.le_of_ble_eq_true rfl)⟩) rfl hl rfl (Nat.le_of_ble_eq_true rfl) dX1_peopleAt_6 ⟨(Nat.le_of_ble_eq_true rfl), (Nat.le_of_ble_eq_true rfl)⟩ (fun H locs hG hS => ?_)
  refine tb_if_eq (tgt := 20) C0.1 C0.2.1 dX1_peopleAt_9 (by decide) (fun c_9 => ?_) (fun c_9 => ?_)
  · have hcd1 := cdS_n c_9
    refine lv_aload_n C0.1 C0.2.1 dX1_peopleAt_20 rfl (lv_at hl 0 rfl) ?_
    refine lv_iconst (v := nI 1) C0.1 C0.2.1 dX1_peopleAt_21 (by decide) ?_
    refine tc_callV (q0 := 0) C0 hG hS rfl rfl (kX1_no hlf hk  (nI (1)) ) (cwV 1 C0.2.2.2.2 gX1_peopleAt_X1_no rfl rfl rfl (by decide +kernel) ⟨(Nat.le_of_ble_eq_true rfl), (Nat.le_of_ble_eq_true rfl)⟩) rfl hl rfl (Nat.le_of_ble_eq_true rfl) dX1_peopleAt_22 ⟨(Nat.le_of_ble_eq_true rfl), (Nat.le_of_ble_eq_true rfl)⟩ (fun H locs hG hS => ?_)
    have hG : tcG D cI cJ N0 (wM h r1 r2 r3 r4 cI ((nI (1))) tk co cn wk n ho st ct sp Z) s H := hG
    exact tc_iret C0 hr hlk (by first | exact tcG.eq (by rw [hcd0]) hG | exact tcG.eq (by rw [hcd1]) hG) hS rfl (by first | rw [if_pos hcd0] | rw [if_neg (by rw [hcd1]; decide)]) (Nat.le_of_ble_eq_true rfl) (Nat.le_of_ble_eq_true rfl) dX1_peopleAt_25
  · have hcd0 := cdS_y c_9
    obtain ⟨jx, hjx, rfl⟩ := tcIn_of (by decide) c_9
    try simp only [ix_nI (show jx < 2 ^ 31 by omega)]
    refine lv_aload_n C0.1 C0.2.1 dX1_peopleAt_12 rfl (lv_at hl 0 rfl) ?_
    refine lv_iload_n C0.1 C0.2.1 dX1_peopleAt_13 rfl (lv_at hl 1 rfl) ?_
    refine tc_callV (q0 := 0) C0 hG hS rfl rfl (kX1_at hlf hk  (jx) (by omega)) (cwV 1 C0.2.2.2.2 gX1_peopleAt_X1_at rfl rfl rfl (by decide +kernel) ⟨(Nat.le_of_ble_eq_true rfl), (Nat.le_of_ble_eq_true rfl)⟩) rfl hl rfl (Nat.le_of_ble_eq_true rfl) dX1_peopleAt_14 ⟨(Nat.le_of_ble_eq_true rfl), (Nat.le_of_ble_eq_true rfl)⟩ (fun H locs hG hS => ?_)
    have b_14 := crowd_le cn jx hk.2.2.2.2.1
    refine lv_goto (tgt := 25) C0.1 C0.2.1 dX1_peopleAt_17 (by decide) ?_
    exact tc_iret C0 hr hlk (by first | exact tcG.eq (by rw [hcd0]) hG | exact tcG.eq (by rw [hcd1]) hG) hS rfl (by first | rw [if_pos hcd0] | rw [if_neg (by rw [hcd1]; decide)]) (Nat.le_of_ble_eq_true rfl) (Nat.le_of_ble_eq_true rfl) dX1_peopleAt_25
set_option maxHeartbeats 4000000 in
set_option maxRecDepth 100000 in
theorem kX1_pointsOf {l : Launch} (hlf : l.stackTraces = false) {D : va_G} {cI cJ : ClassId} {N0 : Nat} {h r1 r2 r3 r4 : Nat} {tk co cn wk : Nat → Nat} {n st : Nat} {ho ct sp : Int32} {Z : va_W} {th : Int32} (hk : tOk tk co cn wk n st) (x : Int32) (y : Int32)  : tcM l yX1_pointsOf wsX1_pointsOf { frames := 3, cells := 0, slots := 0, locals := 65 } [] 0 [.ref h, .int (x), .int (y)] D cI cJ N0 (wM h r1 r2 r3 r4 cI th tk co cn wk n ho st ct sp Z) (some (.int (if cdP x y n = 0 then nI (pts tk co (ix x) (ix y)) else nI 0))) (wM h r1 r2 r3 r4 cI (nI (cdP x y n)) tk co cn wk n ho st ct sp Z) 0 0 := by
  refine tcM.of (cc := cX1_pointsOf) (maxL := 3) (ret := (some .int)) (by decide) rfl (Nat.le_of_ble_eq_true rfl) ?_
  intro p e s m args below meth c C0 hr hlk ht hmn hG ls hl
  have hl : lv_has ls 3 [(0, .ref h), (1, .int (x)), (2, .int (y))] := hl
  obtain ⟨hk1, hk2, hk3, hk4, hn12, hst⟩ := id hk
  have hG0 := hG
  have hS : va_S (tcA N0) s.heap s.heap [] := va_S.rf
  have hF : ∀ w ∈ wsX10, w ∈ wsX1_pointsOf := by decide +kernel
  have w_thrown : Cond.fieldLink RX1 26 "TicketCoincidencesModel" "thrown" "I" ∈ wsX1_pointsOf := by decide +kernel
  refine lv_aload_n C0.1 C0.2.1 dX1_pointsOf_0 rfl (lv_at hl 0 rfl) ?_
  refine lv_aload_n C0.1 C0.2.1 dX1_pointsOf_1 rfl (lv_at hl 0 rfl) ?_
  refine lv_iload_n C0.1 C0.2.1 dX1_pointsOf_2 rfl (lv_at hl 1 rfl) ?_
  refine lv_iload_n C0.1 C0.2.1 dX1_pointsOf_3 rfl (lv_at hl 2 rfl) ?_
  refine tc_callV (q0 := 0) C0 hG hS rfl rfl (kX1_wrongPair hlf hk  (x) (y) ) (cwV 2 C0.2.2.2.2 gX1_pointsOf_X1_wrongPair rfl rfl rfl (by decide +kernel) ⟨(Nat.le_of_ble_eq_true rfl), (Nat.le_of_ble_eq_true rfl)⟩) rfl hl rfl (Nat.le_of_ble_eq_true rfl) dX1_pointsOf_4 ⟨(Nat.le_of_ble_eq_true rfl), (Nat.le_of_ble_eq_true rfl)⟩ (fun H locs hG hS => ?_)
  refine tpX1_thrown C0 hF hG0 hG hS w_thrown dX1_pointsOf_7 (fun H locs hG hS => ?_)
  refine lv_aload_n C0.1 C0.2.1 dX1_pointsOf_10 rfl (lv_at hl 0 rfl) ?_
  refine tgX1_thrown C0 hF hG w_thrown dX1_pointsOf_11 ?_
  have b_cd := cdP_le x y n
  refine tn_if_le (tgt := 21) C0.1 C0.2.1 dX1_pointsOf_14 (by decide) (by omega) (fun c_14 => ?_) (fun c_14 => ?_)
  · obtain ⟨pa, pb, pn⟩ := cdP_ok c_14
    obtain ⟨jx, hjx, rfl⟩ := tcIn_of (by omega) pa
    try simp only [ix_nI (show jx < 2 ^ 31 by omega)]
    obtain ⟨jy, hjy, rfl⟩ := tcIn_of (by omega) pb
    try simp only [ix_nI (show jy < 2 ^ 31 by omega)]
    refine lv_aload_n C0.1 C0.2.1 dX1_pointsOf_21 rfl (lv_at hl 0 rfl) ?_
    refine lv_iload_n C0.1 C0.2.1 dX1_pointsOf_22 rfl (lv_at hl 1 rfl) ?_
    refine lv_iload_n C0.1 C0.2.1 dX1_pointsOf_23 rfl (lv_at hl 2 rfl) ?_
    refine tc_callV (q0 := 0) C0 hG hS rfl rfl (kX1_points hlf hk  (jx) (jy) (by omega) (by omega)) (cwV 2 C0.2.2.2.2 gX1_pointsOf_X1_points rfl rfl rfl (by decide +kernel) ⟨(Nat.le_of_ble_eq_true rfl), (Nat.le_of_ble_eq_true rfl)⟩) rfl hl rfl (Nat.le_of_ble_eq_true rfl) dX1_pointsOf_24 ⟨(Nat.le_of_ble_eq_true rfl), (Nat.le_of_ble_eq_true rfl)⟩ (fun H locs hG hS => ?_)
    have b_24 := pts_le tk co jx jy
    exact tc_iret C0 hr hlk hG hS rfl (by first | rw [if_pos c_14] | rw [if_neg (by omega)]) (Nat.le_of_ble_eq_true rfl) (Nat.le_of_ble_eq_true rfl) dX1_pointsOf_27
  · refine lv_iconst (v := nI 0) C0.1 C0.2.1 dX1_pointsOf_17 (by decide) ?_
    refine lv_goto (tgt := 27) C0.1 C0.2.1 dX1_pointsOf_18 (by decide) ?_
    exact tc_iret C0 hr hlk hG hS rfl (by first | rw [if_pos c_14] | rw [if_neg (by omega)]) (Nat.le_of_ble_eq_true rfl) (Nat.le_of_ble_eq_true rfl) dX1_pointsOf_27
set_option maxHeartbeats 4000000 in
set_option maxRecDepth 100000 in
theorem kX1_hoursUntilTogether {l : Launch} (hlf : l.stackTraces = false) {D : va_G} {cI cJ : ClassId} {N0 : Nat} {h r1 r2 r3 r4 : Nat} {tk co cn wk : Nat → Nat} {n st : Nat} {ho ct sp : Int32} {Z : va_W} {th : Int32} (hk : tOk tk co cn wk n st) (x : Int32) (y : Int32)  : tcM l yX1_hoursUntilTogether wsX1_hoursUntilTogether { frames := 3, cells := 0, slots := 0, locals := 65 } [] 0 [.ref h, .int (x), .int (y)] D cI cJ N0 (wM h r1 r2 r3 r4 cI th tk co cn wk n ho st ct sp Z) (some (.int (if cdP x y n = 0 then iM (meet cn wk (ix x) (ix y)) else nI 0))) (wM h r1 r2 r3 r4 cI (nI (cdP x y n)) tk co cn wk n ho st ct sp Z) 0 0 := by
  refine tcM.of (cc := cX1_hoursUntilTogether) (maxL := 3) (ret := (some .int)) (by decide) rfl (Nat.le_of_ble_eq_true rfl) ?_
  intro p e s m args below meth c C0 hr hlk ht hmn hG ls hl
  have hl : lv_has ls 3 [(0, .ref h), (1, .int (x)), (2, .int (y))] := hl
  obtain ⟨hk1, hk2, hk3, hk4, hn12, hst⟩ := id hk
  have hG0 := hG
  have hS : va_S (tcA N0) s.heap s.heap [] := va_S.rf
  have hF : ∀ w ∈ wsX10, w ∈ wsX1_hoursUntilTogether := by decide +kernel
  have w_thrown : Cond.fieldLink RX1 26 "TicketCoincidencesModel" "thrown" "I" ∈ wsX1_hoursUntilTogether := by decide +kernel
  refine lv_aload_n C0.1 C0.2.1 dX1_hoursUntilTogether_0 rfl (lv_at hl 0 rfl) ?_
  refine lv_aload_n C0.1 C0.2.1 dX1_hoursUntilTogether_1 rfl (lv_at hl 0 rfl) ?_
  refine lv_iload_n C0.1 C0.2.1 dX1_hoursUntilTogether_2 rfl (lv_at hl 1 rfl) ?_
  refine lv_iload_n C0.1 C0.2.1 dX1_hoursUntilTogether_3 rfl (lv_at hl 2 rfl) ?_
  refine tc_callV (q0 := 0) C0 hG hS rfl rfl (kX1_wrongPair hlf hk  (x) (y) ) (cwV 2 C0.2.2.2.2 gX1_hoursUntilTogether_X1_wrongPair rfl rfl rfl (by decide +kernel) ⟨(Nat.le_of_ble_eq_true rfl), (Nat.le_of_ble_eq_true rfl)⟩) rfl hl rfl (Nat.le_of_ble_eq_true rfl) dX1_hoursUntilTogether_4 ⟨(Nat.le_of_ble_eq_true rfl), (Nat.le_of_ble_eq_true rfl)⟩ (fun H locs hG hS => ?_)
  refine tpX1_thrown C0 hF hG0 hG hS w_thrown dX1_hoursUntilTogether_7 (fun H locs hG hS => ?_)
  refine lv_aload_n C0.1 C0.2.1 dX1_hoursUntilTogether_10 rfl (lv_at hl 0 rfl) ?_
  refine tgX1_thrown C0 hF hG w_thrown dX1_hoursUntilTogether_11 ?_
  have b_cd := cdP_le x y n
  refine tn_if_le (tgt := 21) C0.1 C0.2.1 dX1_hoursUntilTogether_14 (by decide) (by omega) (fun c_14 => ?_) (fun c_14 => ?_)
  · obtain ⟨pa, pb, pn⟩ := cdP_ok c_14
    obtain ⟨jx, hjx, rfl⟩ := tcIn_of (by omega) pa
    try simp only [ix_nI (show jx < 2 ^ 31 by omega)]
    obtain ⟨jy, hjy, rfl⟩ := tcIn_of (by omega) pb
    try simp only [ix_nI (show jy < 2 ^ 31 by omega)]
    refine lv_aload_n C0.1 C0.2.1 dX1_hoursUntilTogether_21 rfl (lv_at hl 0 rfl) ?_
    refine lv_iload_n C0.1 C0.2.1 dX1_hoursUntilTogether_22 rfl (lv_at hl 1 rfl) ?_
    refine lv_iload_n C0.1 C0.2.1 dX1_hoursUntilTogether_23 rfl (lv_at hl 2 rfl) ?_
    refine tc_callV (q0 := 0) C0 hG hS rfl rfl (kX1_untilTogether hlf hk  (jx) (jy) (by omega) (by omega)) (cwV 2 C0.2.2.2.2 gX1_hoursUntilTogether_X1_untilTogether rfl rfl rfl (by decide +kernel) ⟨(Nat.le_of_ble_eq_true rfl), (Nat.le_of_ble_eq_true rfl)⟩) rfl hl rfl (Nat.le_of_ble_eq_true rfl) dX1_hoursUntilTogether_24 ⟨(Nat.le_of_ble_eq_true rfl), (Nat.le_of_ble_eq_true rfl)⟩ (fun H locs hG hS => ?_)
    exact tc_iret C0 hr hlk hG hS rfl (by first | rw [if_pos c_14] | rw [if_neg (by omega)]) (Nat.le_of_ble_eq_true rfl) (Nat.le_of_ble_eq_true rfl) dX1_hoursUntilTogether_27
  · refine lv_iconst (v := nI 0) C0.1 C0.2.1 dX1_hoursUntilTogether_17 (by decide) ?_
    refine lv_goto (tgt := 27) C0.1 C0.2.1 dX1_hoursUntilTogether_18 (by decide) ?_
    exact tc_iret C0 hr hlk hG hS rfl (by first | rw [if_pos c_14] | rw [if_neg (by omega)]) (Nat.le_of_ble_eq_true rfl) (Nat.le_of_ble_eq_true rfl) dX1_hoursUntilTogether_27
set_option maxHeartbeats 4000000 in
set_option maxRecDepth 100000 in
theorem kX1_costOfMeeting {l : Launch} (hlf : l.stackTraces = false) {D : va_G} {cI cJ : ClassId} {N0 : Nat} {h r1 r2 r3 r4 : Nat} {tk co cn wk : Nat → Nat} {n st : Nat} {ho ct sp : Int32} {Z : va_W} {th : Int32} (hk : tOk tk co cn wk n st) (x : Int32) (y : Int32)  : tcM l yX1_costOfMeeting wsX1_costOfMeeting { frames := 3, cells := 0, slots := 0, locals := 65 } [] 0 [.ref h, .int (x), .int (y)] D cI cJ N0 (wM h r1 r2 r3 r4 cI th tk co cn wk n ho st ct sp Z) (some (.int (if cdP x y n = 0 then nI (way (cn (ix x)) (cn (ix y))) else nI 0))) (wM h r1 r2 r3 r4 cI (nI (cdP x y n)) tk co cn wk n ho st ct sp Z) 0 0 := by
  refine tcM.of (cc := cX1_costOfMeeting) (maxL := 3) (ret := (some .int)) (by decide) rfl (Nat.le_of_ble_eq_true rfl) ?_
  intro p e s m args below meth c C0 hr hlk ht hmn hG ls hl
  have hl : lv_has ls 3 [(0, .ref h), (1, .int (x)), (2, .int (y))] := hl
  obtain ⟨hk1, hk2, hk3, hk4, hn12, hst⟩ := id hk
  have hG0 := hG
  have hS : va_S (tcA N0) s.heap s.heap [] := va_S.rf
  have hF : ∀ w ∈ wsX10, w ∈ wsX1_costOfMeeting := by decide +kernel
  have w_corner : Cond.fieldLink RX1 16 "TicketCoincidencesModel" "corner" "[I" ∈ wsX1_costOfMeeting := by decide +kernel
  have w_thrown : Cond.fieldLink RX1 26 "TicketCoincidencesModel" "thrown" "I" ∈ wsX1_costOfMeeting := by decide +kernel
  refine lv_aload_n C0.1 C0.2.1 dX1_costOfMeeting_0 rfl (lv_at hl 0 rfl) ?_
  refine lv_aload_n C0.1 C0.2.1 dX1_costOfMeeting_1 rfl (lv_at hl 0 rfl) ?_
  refine lv_iload_n C0.1 C0.2.1 dX1_costOfMeeting_2 rfl (lv_at hl 1 rfl) ?_
  refine lv_iload_n C0.1 C0.2.1 dX1_costOfMeeting_3 rfl (lv_at hl 2 rfl) ?_
  refine tc_callV (q0 := 0) C0 hG hS rfl rfl (kX1_wrongPair hlf hk  (x) (y) ) (cwV 2 C0.2.2.2.2 gX1_costOfMeeting_X1_wrongPair rfl rfl rfl (by decide +kernel) ⟨(Nat.le_of_ble_eq_true rfl), (Nat.le_of_ble_eq_true rfl)⟩) rfl hl rfl (Nat.le_of_ble_eq_true rfl) dX1_costOfMeeting_4 ⟨(Nat.le_of_ble_eq_true rfl), (Nat.le_of_ble_eq_true rfl)⟩ (fun H locs hG hS => ?_)
  refine tpX1_thrown C0 hF hG0 hG hS w_thrown dX1_costOfMeeting_7 (fun H locs hG hS => ?_)
  refine lv_aload_n C0.1 C0.2.1 dX1_costOfMeeting_10 rfl (lv_at hl 0 rfl) ?_
  refine tgX1_thrown C0 hF hG w_thrown dX1_costOfMeeting_11 ?_
  have b_cd := cdP_le x y n
  refine tn_if_le (tgt := 21) C0.1 C0.2.1 dX1_costOfMeeting_14 (by decide) (by omega) (fun c_14 => ?_) (fun c_14 => ?_)
  · obtain ⟨pa, pb, pn⟩ := cdP_ok c_14
    obtain ⟨jx, hjx, rfl⟩ := tcIn_of (by omega) pa
    try simp only [ix_nI (show jx < 2 ^ 31 by omega)]
    obtain ⟨jy, hjy, rfl⟩ := tcIn_of (by omega) pb
    try simp only [ix_nI (show jy < 2 ^ 31 by omega)]
    refine lv_iconst (v := nI 2) C0.1 C0.2.1 dX1_costOfMeeting_21 (by decide) ?_
    refine lv_aload_n C0.1 C0.2.1 dX1_costOfMeeting_22 rfl (lv_at hl 0 rfl) ?_
    refine tgX1_corner C0 hF hG w_corner dX1_costOfMeeting_23 ?_
    refine lv_iload_n C0.1 C0.2.1 dX1_costOfMeeting_26 rfl (lv_at hl 1 rfl) ?_
    refine tc_ald (q0 := 3) C0 hG rfl (by omega) dX1_costOfMeeting_27 ?_
    have b_27 := hk3 (jx)
    refine lv_aload_n C0.1 C0.2.1 dX1_costOfMeeting_28 rfl (lv_at hl 0 rfl) ?_
    refine tgX1_corner C0 hF hG w_corner dX1_costOfMeeting_29 ?_
    refine lv_iload_n C0.1 C0.2.1 dX1_costOfMeeting_32 rfl (lv_at hl 2 rfl) ?_
    refine tc_ald (q0 := 3) C0 hG rfl (by omega) dX1_costOfMeeting_33 ?_
    have b_33 := hk3 (jy)
    refine tc_callS C0 hG hS (kX1_apart hlf  (cn (jx)) (cn (jy)) (by omega) (by omega)) (va_cwS 2 C0.2.2.2.2 gX1_costOfMeeting_X1_apart rfl rfl rfl (by decide +kernel) ⟨(Nat.le_of_ble_eq_true rfl), (Nat.le_of_ble_eq_true rfl)⟩) rfl hl rfl (Nat.le_of_ble_eq_true rfl) dX1_costOfMeeting_34 ⟨(Nat.le_of_ble_eq_true rfl), (Nat.le_of_ble_eq_true rfl)⟩ (fun H locs hG hS => ?_)
    have b_34 := apd_le (cn (jx)) (cn (jy)) (by omega) (by omega)
    refine tn_imul C0.1 C0.2.1 dX1_costOfMeeting_37 ?_
    exact tc_iret C0 hr hlk hG hS rfl (by first | rw [if_pos c_14] <;> rfl | rw [if_pos c_14] | rw [if_neg (by omega)]) (Nat.le_of_ble_eq_true rfl) (Nat.le_of_ble_eq_true rfl) dX1_costOfMeeting_38
  · refine lv_iconst (v := nI 0) C0.1 C0.2.1 dX1_costOfMeeting_17 (by decide) ?_
    refine lv_goto (tgt := 38) C0.1 C0.2.1 dX1_costOfMeeting_18 (by decide) ?_
    exact tc_iret C0 hr hlk hG hS rfl (by first | rw [if_pos c_14] <;> rfl | rw [if_pos c_14] | rw [if_neg (by omega)]) (Nat.le_of_ble_eq_true rfl) (Nat.le_of_ble_eq_true rfl) dX1_costOfMeeting_38
set_option maxHeartbeats 4000000 in
set_option maxRecDepth 100000 in
theorem kX1_areTogether {l : Launch} (hlf : l.stackTraces = false) {D : va_G} {cI cJ : ClassId} {N0 : Nat} {h r1 r2 r3 r4 : Nat} {tk co cn wk : Nat → Nat} {n st : Nat} {ho ct sp : Int32} {Z : va_W} {th : Int32} (hk : tOk tk co cn wk n st) (x : Int32) (y : Int32)  : tcM l yX1_areTogether wsX1_areTogether { frames := 3, cells := 0, slots := 0, locals := 65 } [] 0 [.ref h, .int (x), .int (y)] D cI cJ N0 (wM h r1 r2 r3 r4 cI th tk co cn wk n ho st ct sp Z) (some (.int (nI (b2n (decide (cdP x y n = 0 ∧ cn (ix x) = cn (ix y))))))) (wM h r1 r2 r3 r4 cI (nI (cdP x y n)) tk co cn wk n ho st ct sp Z) 0 0 := by
  refine tcM.of (cc := cX1_areTogether) (maxL := 3) (ret := (some .boolean)) (by decide) rfl (Nat.le_of_ble_eq_true rfl) ?_
  intro p e s m args below meth c C0 hr hlk ht hmn hG ls hl
  have hl : lv_has ls 3 [(0, .ref h), (1, .int (x)), (2, .int (y))] := hl
  obtain ⟨hk1, hk2, hk3, hk4, hn12, hst⟩ := id hk
  have hG0 := hG
  have hS : va_S (tcA N0) s.heap s.heap [] := va_S.rf
  have hF : ∀ w ∈ wsX10, w ∈ wsX1_areTogether := by decide +kernel
  have w_corner : Cond.fieldLink RX1 16 "TicketCoincidencesModel" "corner" "[I" ∈ wsX1_areTogether := by decide +kernel
  have w_thrown : Cond.fieldLink RX1 26 "TicketCoincidencesModel" "thrown" "I" ∈ wsX1_areTogether := by decide +kernel
  refine lv_aload_n C0.1 C0.2.1 dX1_areTogether_0 rfl (lv_at hl 0 rfl) ?_
  refine lv_aload_n C0.1 C0.2.1 dX1_areTogether_1 rfl (lv_at hl 0 rfl) ?_
  refine lv_iload_n C0.1 C0.2.1 dX1_areTogether_2 rfl (lv_at hl 1 rfl) ?_
  refine lv_iload_n C0.1 C0.2.1 dX1_areTogether_3 rfl (lv_at hl 2 rfl) ?_
  refine tc_callV (q0 := 0) C0 hG hS rfl rfl (kX1_wrongPair hlf hk  (x) (y) ) (cwV 2 C0.2.2.2.2 gX1_areTogether_X1_wrongPair rfl rfl rfl (by decide +kernel) ⟨(Nat.le_of_ble_eq_true rfl), (Nat.le_of_ble_eq_true rfl)⟩) rfl hl rfl (Nat.le_of_ble_eq_true rfl) dX1_areTogether_4 ⟨(Nat.le_of_ble_eq_true rfl), (Nat.le_of_ble_eq_true rfl)⟩ (fun H locs hG hS => ?_)
  refine tpX1_thrown C0 hF hG0 hG hS w_thrown dX1_areTogether_7 (fun H locs hG hS => ?_)
  refine lv_aload_n C0.1 C0.2.1 dX1_areTogether_10 rfl (lv_at hl 0 rfl) ?_
  refine tgX1_thrown C0 hF hG w_thrown dX1_areTogether_11 ?_
  have b_cd := cdP_le x y n
  refine tn_if_ne (tgt := 36) C0.1 C0.2.1 dX1_areTogether_14 (by decide) (by omega) (fun c_14 => ?_) (fun c_14 => ?_)
  · refine lv_iconst (v := nI 0) C0.1 C0.2.1 dX1_areTogether_36 (by decide) ?_
    exact tc_zret C0 hr hlk hG hS rfl (by first | (rw [decide_eq_true (And.intro c_14 c_29)]; rfl) | (rw [decide_eq_false (fun q => c_29 q.2)]; rfl) | (rw [decide_eq_false (fun q => absurd q.1 (by omega))]; rfl)) (Nat.le_of_ble_eq_true rfl) (Nat.le_of_ble_eq_true rfl) dX1_areTogether_37
  · obtain ⟨pa, pb, pn⟩ := cdP_ok c_14
    obtain ⟨jx, hjx, rfl⟩ := tcIn_of (by omega) pa
    try simp only [ix_nI (show jx < 2 ^ 31 by omega)]
    obtain ⟨jy, hjy, rfl⟩ := tcIn_of (by omega) pb
    try simp only [ix_nI (show jy < 2 ^ 31 by omega)]
    refine lv_aload_n C0.1 C0.2.1 dX1_areTogether_17 rfl (lv_at hl 0 rfl) ?_
    refine tgX1_corner C0 hF hG w_corner dX1_areTogether_18 ?_
    refine lv_iload_n C0.1 C0.2.1 dX1_areTogether_21 rfl (lv_at hl 1 rfl) ?_
    refine tc_ald (q0 := 3) C0 hG rfl (by omega) dX1_areTogether_22 ?_
    have b_22 := hk3 (jx)
    refine lv_aload_n C0.1 C0.2.1 dX1_areTogether_23 rfl (lv_at hl 0 rfl) ?_
    refine tgX1_corner C0 hF hG w_corner dX1_areTogether_24 ?_
    refine lv_iload_n C0.1 C0.2.1 dX1_areTogether_27 rfl (lv_at hl 2 rfl) ?_
    refine tc_ald (q0 := 3) C0 hG rfl (by omega) dX1_areTogether_28 ?_
    have b_28 := hk3 (jy)
    refine tn_icmp_ne (tgt := 36) C0.1 C0.2.1 dX1_areTogether_29 (by decide) (by omega) (by omega) (fun c_29 => ?_) (fun c_29 => ?_)
    · refine lv_iconst (v := nI 0) C0.1 C0.2.1 dX1_areTogether_36 (by decide) ?_
      exact tc_zret C0 hr hlk hG hS rfl (by first | (rw [decide_eq_true (And.intro c_14 c_29)]; rfl) | (rw [decide_eq_false (fun q => c_29 q.2)]; rfl) | (rw [decide_eq_false (fun q => absurd q.1 (by omega))]; rfl)) (Nat.le_of_ble_eq_true rfl) (Nat.le_of_ble_eq_true rfl) dX1_areTogether_37
    · refine lv_iconst (v := nI 1) C0.1 C0.2.1 dX1_areTogether_32 (by decide) ?_
      refine lv_goto (tgt := 37) C0.1 C0.2.1 dX1_areTogether_33 (by decide) ?_
      exact tc_zret C0 hr hlk hG hS rfl (by first | (rw [decide_eq_true (And.intro c_14 c_29)]; rfl) | (rw [decide_eq_false (fun q => c_29 q.2)]; rfl) | (rw [decide_eq_false (fun q => absurd q.1 (by omega))]; rfl)) (Nat.le_of_ble_eq_true rfl) (Nat.le_of_ble_eq_true rfl) dX1_areTogether_37
set_option maxHeartbeats 4000000 in
set_option maxRecDepth 100000 in
theorem kX1_areMirrored {l : Launch} (hlf : l.stackTraces = false) {D : va_G} {cI cJ : ClassId} {N0 : Nat} {h r1 r2 r3 r4 : Nat} {tk co cn wk : Nat → Nat} {n st : Nat} {ho ct sp : Int32} {Z : va_W} {th : Int32} (hk : tOk tk co cn wk n st) (x : Int32) (y : Int32)  : tcM l yX1_areMirrored wsX1_areMirrored { frames := 3, cells := 0, slots := 0, locals := 65 } [] 0 [.ref h, .int (x), .int (y)] D cI cJ N0 (wM h r1 r2 r3 r4 cI th tk co cn wk n ho st ct sp Z) (some (.int (nI (b2n (decide (cdP x y n = 0 ∧ mir (tk (ix x)) (tk (ix y)) = true)))))) (wM h r1 r2 r3 r4 cI (nI (cdP x y n)) tk co cn wk n ho st ct sp Z) 0 0 := by
  refine tcM.of (cc := cX1_areMirrored) (maxL := 3) (ret := (some .boolean)) (by decide) rfl (Nat.le_of_ble_eq_true rfl) ?_
  intro p e s m args below meth c C0 hr hlk ht hmn hG ls hl
  have hl : lv_has ls 3 [(0, .ref h), (1, .int (x)), (2, .int (y))] := hl
  obtain ⟨hk1, hk2, hk3, hk4, hn12, hst⟩ := id hk
  have hG0 := hG
  have hS : va_S (tcA N0) s.heap s.heap [] := va_S.rf
  have hF : ∀ w ∈ wsX10, w ∈ wsX1_areMirrored := by decide +kernel
  have w_thrown : Cond.fieldLink RX1 26 "TicketCoincidencesModel" "thrown" "I" ∈ wsX1_areMirrored := by decide +kernel
  have w_ticket : Cond.fieldLink RX1 9 "TicketCoincidencesModel" "ticket" "[I" ∈ wsX1_areMirrored := by decide +kernel
  refine lv_aload_n C0.1 C0.2.1 dX1_areMirrored_0 rfl (lv_at hl 0 rfl) ?_
  refine lv_aload_n C0.1 C0.2.1 dX1_areMirrored_1 rfl (lv_at hl 0 rfl) ?_
  refine lv_iload_n C0.1 C0.2.1 dX1_areMirrored_2 rfl (lv_at hl 1 rfl) ?_
  refine lv_iload_n C0.1 C0.2.1 dX1_areMirrored_3 rfl (lv_at hl 2 rfl) ?_
  refine tc_callV (q0 := 0) C0 hG hS rfl rfl (kX1_wrongPair hlf hk  (x) (y) ) (cwV 2 C0.2.2.2.2 gX1_areMirrored_X1_wrongPair rfl rfl rfl (by decide +kernel) ⟨(Nat.le_of_ble_eq_true rfl), (Nat.le_of_ble_eq_true rfl)⟩) rfl hl rfl (Nat.le_of_ble_eq_true rfl) dX1_areMirrored_4 ⟨(Nat.le_of_ble_eq_true rfl), (Nat.le_of_ble_eq_true rfl)⟩ (fun H locs hG hS => ?_)
  refine tpX1_thrown C0 hF hG0 hG hS w_thrown dX1_areMirrored_7 (fun H locs hG hS => ?_)
  refine lv_aload_n C0.1 C0.2.1 dX1_areMirrored_10 rfl (lv_at hl 0 rfl) ?_
  refine tgX1_thrown C0 hF hG w_thrown dX1_areMirrored_11 ?_
  have b_cd := cdP_le x y n
  refine tn_if_ne (tgt := 39) C0.1 C0.2.1 dX1_areMirrored_14 (by decide) (by omega) (fun c_14 => ?_) (fun c_14 => ?_)
  · refine lv_iconst (v := nI 0) C0.1 C0.2.1 dX1_areMirrored_39 (by decide) ?_
    exact tc_zret C0 hr hlk hG hS rfl (by first | (rw [decide_eq_true (And.intro c_14 c_32)]; rfl) | (rw [decide_eq_false (fun q => ts_nf1 c_32 q.2)]; rfl) | (rw [decide_eq_false (fun q => absurd q.1 (by omega))]; rfl)) (Nat.le_of_ble_eq_true rfl) (Nat.le_of_ble_eq_true rfl) dX1_areMirrored_40
  · obtain ⟨pa, pb, pn⟩ := cdP_ok c_14
    obtain ⟨jx, hjx, rfl⟩ := tcIn_of (by omega) pa
    try simp only [ix_nI (show jx < 2 ^ 31 by omega)]
    obtain ⟨jy, hjy, rfl⟩ := tcIn_of (by omega) pb
    try simp only [ix_nI (show jy < 2 ^ 31 by omega)]
    refine lv_aload_n C0.1 C0.2.1 dX1_areMirrored_17 rfl (lv_at hl 0 rfl) ?_
    refine tgX1_ticket C0 hF hG w_ticket dX1_areMirrored_18 ?_
    refine lv_iload_n C0.1 C0.2.1 dX1_areMirrored_21 rfl (lv_at hl 1 rfl) ?_
    refine tc_ald (q0 := 1) C0 hG rfl (by omega) dX1_areMirrored_22 ?_
    have b_22 := hk1 (jx)
    refine lv_aload_n C0.1 C0.2.1 dX1_areMirrored_23 rfl (lv_at hl 0 rfl) ?_
    refine tgX1_ticket C0 hF hG w_ticket dX1_areMirrored_24 ?_
    refine lv_iload_n C0.1 C0.2.1 dX1_areMirrored_27 rfl (lv_at hl 2 rfl) ?_
    refine tc_ald (q0 := 1) C0 hG rfl (by omega) dX1_areMirrored_28 ?_
    have b_28 := hk1 (jy)
    refine tc_callS C0 hG hS (kX1_isMirror hlf  (tk (jx)) (tk (jy)) (by omega) (by omega)) (va_cwS 2 C0.2.2.2.2 gX1_areMirrored_X1_isMirror rfl rfl rfl (by decide +kernel) ⟨(Nat.le_of_ble_eq_true rfl), (Nat.le_of_ble_eq_true rfl)⟩) rfl hl rfl (Nat.le_of_ble_eq_true rfl) dX1_areMirrored_29 ⟨(Nat.le_of_ble_eq_true rfl), (Nat.le_of_ble_eq_true rfl)⟩ (fun H locs hG hS => ?_)
    refine tb_if_eq (tgt := 39) C0.1 C0.2.1 dX1_areMirrored_32 (by decide) (fun c_32 => ?_) (fun c_32 => ?_)
    · refine lv_iconst (v := nI 0) C0.1 C0.2.1 dX1_areMirrored_39 (by decide) ?_
      exact tc_zret C0 hr hlk hG hS rfl (by first | (rw [decide_eq_true (And.intro c_14 c_32)]; rfl) | (rw [decide_eq_false (fun q => ts_nf1 c_32 q.2)]; rfl) | (rw [decide_eq_false (fun q => absurd q.1 (by omega))]; rfl)) (Nat.le_of_ble_eq_true rfl) (Nat.le_of_ble_eq_true rfl) dX1_areMirrored_40
    · refine lv_iconst (v := nI 1) C0.1 C0.2.1 dX1_areMirrored_35 (by decide) ?_
      refine lv_goto (tgt := 40) C0.1 C0.2.1 dX1_areMirrored_36 (by decide) ?_
      exact tc_zret C0 hr hlk hG hS rfl (by first | (rw [decide_eq_true (And.intro c_14 c_32)]; rfl) | (rw [decide_eq_false (fun q => ts_nf1 c_32 q.2)]; rfl) | (rw [decide_eq_false (fun q => absurd q.1 (by omega))]; rfl)) (Nat.le_of_ble_eq_true rfl) (Nat.le_of_ble_eq_true rfl) dX1_areMirrored_40
set_option maxHeartbeats 4000000 in
set_option maxRecDepth 100000 in
theorem kX1_coincidences {l : Launch} (hlf : l.stackTraces = false) {D : va_G} {cI cJ : ClassId} {N0 : Nat} {h r1 r2 r3 r4 : Nat} {tk co cn wk : Nat → Nat} {n st : Nat} {ho ct sp : Int32} {Z : va_W} {th : Int32} (hk : tOk tk co cn wk n st)   : tcM l yX1_coincidences wsX1_coincidences { frames := 4, cells := 0, slots := 0, locals := 91 } [] 0 [.ref h] D cI cJ N0 (wM h r1 r2 r3 r4 cI th tk co cn wk n ho st ct sp Z) (some (.int (nI (tw tk co cn wk 0 n)))) (wM h r1 r2 r3 r4 cI (nI 0) tk co cn wk n ho st ct sp Z) 0 0 := by
  refine tcM.of (cc := cX1_coincidences) (maxL := 1) (ret := (some .int)) (by decide) rfl (Nat.le_of_ble_eq_true rfl) ?_
  intro p e s m args below meth c C0 hr hlk ht hmn hG ls hl
  have hl : lv_has ls 1 [(0, .ref h)] := hl
  obtain ⟨hk1, hk2, hk3, hk4, hn12, hst⟩ := id hk
  have hG0 := hG
  have hS : va_S (tcA N0) s.heap s.heap [] := va_S.rf
  refine lv_aload_n C0.1 C0.2.1 dX1_coincidences_0 rfl (lv_at hl 0 rfl) ?_
  refine lv_aload_n C0.1 C0.2.1 dX1_coincidences_1 rfl (lv_at hl 0 rfl) ?_
  refine tc_callV (q0 := 0) C0 hG hS rfl rfl (kX1_here hlf hk   ) (cwV 0 C0.2.2.2.2 gX1_coincidences_X1_here rfl rfl rfl (by decide +kernel) ⟨(Nat.le_of_ble_eq_true rfl), (Nat.le_of_ble_eq_true rfl)⟩) rfl hl rfl (Nat.le_of_ble_eq_true rfl) dX1_coincidences_2 ⟨(Nat.le_of_ble_eq_true rfl), (Nat.le_of_ble_eq_true rfl)⟩ (fun H locs hG hS => ?_)
  have b_2 := tw_le tk co cn wk 0 hk.2.2.2.2.1
  refine tc_callV (q0 := 0) C0 hG hS rfl rfl (kX1_ok hlf hk  (nI (tw tk co cn wk 0 n)) ) (cwV 1 C0.2.2.2.2 gX1_coincidences_X1_ok rfl rfl rfl (by decide +kernel) ⟨(Nat.le_of_ble_eq_true rfl), (Nat.le_of_ble_eq_true rfl)⟩) rfl hl rfl (Nat.le_of_ble_eq_true rfl) dX1_coincidences_5 ⟨(Nat.le_of_ble_eq_true rfl), (Nat.le_of_ble_eq_true rfl)⟩ (fun H locs hG hS => ?_)
  have hG : tcG D cI cJ N0 (wM h r1 r2 r3 r4 cI (nI 0) tk co cn wk n ho st ct sp Z) s H := hG
  exact tc_iret C0 hr hlk hG hS rfl rfl (Nat.le_of_ble_eq_true rfl) (Nat.le_of_ble_eq_true rfl) dX1_coincidences_8
set_option maxHeartbeats 4000000 in
set_option maxRecDepth 100000 in
theorem kX1_coincidencesAt {l : Launch} (hlf : l.stackTraces = false) {D : va_G} {cI cJ : ClassId} {N0 : Nat} {h r1 r2 r3 r4 : Nat} {tk co cn wk : Nat → Nat} {n st : Nat} {ho ct sp : Int32} {Z : va_W} {th : Int32} (hk : tOk tk co cn wk n st) (x : Int32)  : tcM l yX1_coincidencesAt wsX1_coincidencesAt { frames := 3, cells := 0, slots := 0, locals := 71 } [] 0 [.ref h, .int (x)] D cI cJ N0 (wM h r1 r2 r3 r4 cI th tk co cn wk n ho st ct sp Z) (some (.int (if cdS x 6 = 0 then nI (cAt tk co cn (ix x) n) else nI 0))) (wM h r1 r2 r3 r4 cI (nI (cdS x 6)) tk co cn wk n ho st ct sp Z) 0 0 := by
  refine tcM.of (cc := cX1_coincidencesAt) (maxL := 2) (ret := (some .int)) (by decide) rfl (Nat.le_of_ble_eq_true rfl) ?_
  intro p e s m args below meth c C0 hr hlk ht hmn hG ls hl
  have hl : lv_has ls 2 [(0, .ref h), (1, .int (x))] := hl
  obtain ⟨hk1, hk2, hk3, hk4, hn12, hst⟩ := id hk
  have hG0 := hG
  have hS : va_S (tcA N0) s.heap s.heap [] := va_S.rf
  have hF : ∀ w ∈ wsX10, w ∈ wsX1_coincidencesAt := by decide +kernel
  have w_thrown : Cond.fieldLink RX1 26 "TicketCoincidencesModel" "thrown" "I" ∈ wsX1_coincidencesAt := by decide +kernel
  refine lv_aload_n C0.1 C0.2.1 dX1_coincidencesAt_0 rfl (lv_at hl 0 rfl) ?_
  refine lv_iconst (v := nI 0) C0.1 C0.2.1 dX1_coincidencesAt_1 (by decide) ?_
  refine tpX1_thrown C0 hF hG0 hG hS w_thrown dX1_coincidencesAt_2 (fun H locs hG hS => ?_)
  refine lv_iload_n C0.1 C0.2.1 dX1_coincidencesAt_5 rfl (lv_at hl 1 rfl) ?_
  refine tc_callS C0 hG hS (kX1_isCorner hlf  (x) ) (va_cwS 1 C0.2.2.2.2 gX1_coincidencesAt_X1_isCorner rfl rfl rfl (by decide +kernel) ⟨(Nat.le_of_ble_eq_true rfl), (Nat.le_of_ble_eq_true rfl)⟩) rfl hl rfl (Nat.le_of_ble_eq_true rfl) dX1_coincidencesAt_6 ⟨(Nat.le_of_ble_eq_true rfl), (Nat.le_of_ble_eq_true rfl)⟩ (fun H locs hG hS => ?_)
  refine tb_if_eq (tgt := 21) C0.1 C0.2.1 dX1_coincidencesAt_9 (by decide) (fun c_9 => ?_) (fun c_9 => ?_)
  · have hcd1 := cdS_n c_9
    refine lv_aload_n C0.1 C0.2.1 dX1_coincidencesAt_21 rfl (lv_at hl 0 rfl) ?_
    refine lv_iconst (v := nI 1) C0.1 C0.2.1 dX1_coincidencesAt_22 (by decide) ?_
    refine tc_callV (q0 := 0) C0 hG hS rfl rfl (kX1_no hlf hk  (nI (1)) ) (cwV 1 C0.2.2.2.2 gX1_coincidencesAt_X1_no rfl rfl rfl (by decide +kernel) ⟨(Nat.le_of_ble_eq_true rfl), (Nat.le_of_ble_eq_true rfl)⟩) rfl hl rfl (Nat.le_of_ble_eq_true rfl) dX1_coincidencesAt_23 ⟨(Nat.le_of_ble_eq_true rfl), (Nat.le_of_ble_eq_true rfl)⟩ (fun H locs hG hS => ?_)
    have hG : tcG D cI cJ N0 (wM h r1 r2 r3 r4 cI ((nI (1))) tk co cn wk n ho st ct sp Z) s H := hG
    exact tc_iret C0 hr hlk (by first | exact tcG.eq (by rw [hcd0]) hG | exact tcG.eq (by rw [hcd1]) hG) hS rfl (by first | rw [if_pos hcd0, twm_at wk jx n hk3] | rw [if_neg (by rw [hcd1]; decide)]) (Nat.le_of_ble_eq_true rfl) (Nat.le_of_ble_eq_true rfl) dX1_coincidencesAt_26
  · have hcd0 := cdS_y c_9
    obtain ⟨jx, hjx, rfl⟩ := tcIn_of (by decide) c_9
    try simp only [ix_nI (show jx < 2 ^ 31 by omega)]
    refine lv_aload_n C0.1 C0.2.1 dX1_coincidencesAt_12 rfl (lv_at hl 0 rfl) ?_
    refine lv_iconst (v := nI 0) C0.1 C0.2.1 dX1_coincidencesAt_13 (by decide) ?_
    refine lv_iload_n C0.1 C0.2.1 dX1_coincidencesAt_14 rfl (lv_at hl 1 rfl) ?_
    refine tc_top (iM_s (jx)).symm ?_
    refine tc_callV (q0 := 0) C0 hG hS rfl rfl (kX1_town hlf hk  (0) (jx + 1) (by omega) (by omega)) (cwV 2 C0.2.2.2.2 gX1_coincidencesAt_X1_town rfl rfl rfl (by decide +kernel) ⟨(Nat.le_of_ble_eq_true rfl), (Nat.le_of_ble_eq_true rfl)⟩) rfl hl rfl (Nat.le_of_ble_eq_true rfl) dX1_coincidencesAt_15 ⟨(Nat.le_of_ble_eq_true rfl), (Nat.le_of_ble_eq_true rfl)⟩ (fun H locs hG hS => ?_)
    have b_15 := twm_le tk co cn wk 0 (jx + 1) hk.2.2.2.2.1
    refine lv_goto (tgt := 26) C0.1 C0.2.1 dX1_coincidencesAt_18 (by decide) ?_
    exact tc_iret C0 hr hlk (by first | exact tcG.eq (by rw [hcd0]) hG | exact tcG.eq (by rw [hcd1]) hG) hS rfl (by first | rw [if_pos hcd0, twm_at wk jx n hk3] | rw [if_neg (by rw [hcd1]; decide)]) (Nat.le_of_ble_eq_true rfl) (Nat.le_of_ble_eq_true rfl) dX1_coincidencesAt_26
set_option maxHeartbeats 4000000 in
set_option maxRecDepth 100000 in
theorem kX1_luckOf {l : Launch} (hlf : l.stackTraces = false) {D : va_G} {cI cJ : ClassId} {N0 : Nat} {h r1 r2 r3 r4 : Nat} {tk co cn wk : Nat → Nat} {n st : Nat} {ho ct sp : Int32} {Z : va_W} {th : Int32} (hk : tOk tk co cn wk n st) (x : Int32)  : tcM l yX1_luckOf wsX1_luckOf { frames := 3, cells := 0, slots := 0, locals := 69 } [] 0 [.ref h, .int (x)] D cI cJ N0 (wM h r1 r2 r3 r4 cI th tk co cn wk n ho st ct sp Z) (some (.int (if cdS x n = 0 then nI (lkn tk co cn (ix x) n) else nI 0))) (wM h r1 r2 r3 r4 cI (nI (cdS x n)) tk co cn wk n ho st ct sp Z) 0 0 := by
  refine tcM.of (cc := cX1_luckOf) (maxL := 2) (ret := (some .int)) (by decide) rfl (Nat.le_of_ble_eq_true rfl) ?_
  intro p e s m args below meth c C0 hr hlk ht hmn hG ls hl
  have hl : lv_has ls 2 [(0, .ref h), (1, .int (x))] := hl
  obtain ⟨hk1, hk2, hk3, hk4, hn12, hst⟩ := id hk
  have hG0 := hG
  have hS : va_S (tcA N0) s.heap s.heap [] := va_S.rf
  have hF : ∀ w ∈ wsX10, w ∈ wsX1_luckOf := by decide +kernel
  have w_thrown : Cond.fieldLink RX1 26 "TicketCoincidencesModel" "thrown" "I" ∈ wsX1_luckOf := by decide +kernel
  refine lv_aload_n C0.1 C0.2.1 dX1_luckOf_0 rfl (lv_at hl 0 rfl) ?_
  refine lv_iconst (v := nI 0) C0.1 C0.2.1 dX1_luckOf_1 (by decide) ?_
  refine tpX1_thrown C0 hF hG0 hG hS w_thrown dX1_luckOf_2 (fun H locs hG hS => ?_)
  refine lv_aload_n C0.1 C0.2.1 dX1_luckOf_5 rfl (lv_at hl 0 rfl) ?_
  refine lv_iload_n C0.1 C0.2.1 dX1_luckOf_6 rfl (lv_at hl 1 rfl) ?_
  refine tc_callV (q0 := 0) C0 hG hS rfl rfl (kX1_isOne hlf hk  (x) ) (cwV 1 C0.2.2.2.2 gX1_luckOf_X1_isOne rfl rfl rfl (by decide +kernel) ⟨(Nat.le_of_ble_eq_true rfl), (Nat.le_of_ble_eq_true rfl)⟩) rfl hl rfl (Nat.le_of_ble_eq_true rfl) dX1_luckOf_7 ⟨(Nat.le_of_ble_eq_true rfl), (Nat.le_of_ble_eq_true rfl)⟩ (fun H locs hG hS => ?_)
  refine tb_if_eq (tgt := 21) C0.1 C0.2.1 dX1_luckOf_10 (by decide) (fun c_10 => ?_) (fun c_10 => ?_)
  · have hcd1 := cdS_n c_10
    refine lv_aload_n C0.1 C0.2.1 dX1_luckOf_21 rfl (lv_at hl 0 rfl) ?_
    refine lv_iconst (v := nI 1) C0.1 C0.2.1 dX1_luckOf_22 (by decide) ?_
    refine tc_callV (q0 := 0) C0 hG hS rfl rfl (kX1_no hlf hk  (nI (1)) ) (cwV 1 C0.2.2.2.2 gX1_luckOf_X1_no rfl rfl rfl (by decide +kernel) ⟨(Nat.le_of_ble_eq_true rfl), (Nat.le_of_ble_eq_true rfl)⟩) rfl hl rfl (Nat.le_of_ble_eq_true rfl) dX1_luckOf_23 ⟨(Nat.le_of_ble_eq_true rfl), (Nat.le_of_ble_eq_true rfl)⟩ (fun H locs hG hS => ?_)
    have hG : tcG D cI cJ N0 (wM h r1 r2 r3 r4 cI ((nI (1))) tk co cn wk n ho st ct sp Z) s H := hG
    exact tc_iret C0 hr hlk (by first | exact tcG.eq (by rw [hcd0]) hG | exact tcG.eq (by rw [hcd1]) hG) hS rfl (by first | rw [if_pos hcd0] | rw [if_neg (by rw [hcd1]; decide)]) (Nat.le_of_ble_eq_true rfl) (Nat.le_of_ble_eq_true rfl) dX1_luckOf_26
  · have hcd0 := cdS_y c_10
    obtain ⟨jx, hjx, rfl⟩ := tcIn_of (by omega) c_10
    try simp only [ix_nI (show jx < 2 ^ 31 by omega)]
    refine lv_aload_n C0.1 C0.2.1 dX1_luckOf_13 rfl (lv_at hl 0 rfl) ?_
    refine lv_iload_n C0.1 C0.2.1 dX1_luckOf_14 rfl (lv_at hl 1 rfl) ?_
    refine tc_callV (q0 := 0) C0 hG hS rfl rfl (kX1_luck hlf hk  (jx) (by omega)) (cwV 1 C0.2.2.2.2 gX1_luckOf_X1_luck rfl rfl rfl (by decide +kernel) ⟨(Nat.le_of_ble_eq_true rfl), (Nat.le_of_ble_eq_true rfl)⟩) rfl hl rfl (Nat.le_of_ble_eq_true rfl) dX1_luckOf_15 ⟨(Nat.le_of_ble_eq_true rfl), (Nat.le_of_ble_eq_true rfl)⟩ (fun H locs hG hS => ?_)
    have b_15 := (show lkn tk co cn jx n ≤ 156 from lw_le tk co cn jx (tk jx) (cn jx) hk.2.2.2.2.1)
    refine lv_goto (tgt := 26) C0.1 C0.2.1 dX1_luckOf_18 (by decide) ?_
    exact tc_iret C0 hr hlk (by first | exact tcG.eq (by rw [hcd0]) hG | exact tcG.eq (by rw [hcd1]) hG) hS rfl (by first | rw [if_pos hcd0] | rw [if_neg (by rw [hcd1]; decide)]) (Nat.le_of_ble_eq_true rfl) (Nat.le_of_ble_eq_true rfl) dX1_luckOf_26
set_option maxHeartbeats 4000000 in
set_option maxRecDepth 100000 in
theorem kX1_luckiestPair {l : Launch} (hlf : l.stackTraces = false) {D : va_G} {cI cJ : ClassId} {N0 : Nat} {h r1 r2 r3 r4 : Nat} {tk co cn wk : Nat → Nat} {n st : Nat} {ho ct sp : Int32} {Z : va_W} {th : Int32} (hk : tOk tk co cn wk n st)   : tcM l yX1_luckiestPair wsX1_luckiestPair { frames := 3, cells := 0, slots := 0, locals := 70 } [] 0 [.ref h] D cI cJ N0 (wM h r1 r2 r3 r4 cI th tk co cn wk n ho st ct sp Z) (some (.int (iM (luckiest tk co n)))) (wM h r1 r2 r3 r4 cI (nI 0) tk co cn wk n ho st ct sp Z) 0 0 := by
  refine tcM.of (cc := cX1_luckiestPair) (maxL := 1) (ret := (some .int)) (by decide) rfl (Nat.le_of_ble_eq_true rfl) ?_
  intro p e s m args below meth c C0 hr hlk ht hmn hG ls hl
  have hl : lv_has ls 1 [(0, .ref h)] := hl
  obtain ⟨hk1, hk2, hk3, hk4, hn12, hst⟩ := id hk
  have hG0 := hG
  have hS : va_S (tcA N0) s.heap s.heap [] := va_S.rf
  refine lv_aload_n C0.1 C0.2.1 dX1_luckiestPair_0 rfl (lv_at hl 0 rfl) ?_
  refine lv_aload_n C0.1 C0.2.1 dX1_luckiestPair_1 rfl (lv_at hl 0 rfl) ?_
  refine tc_callV (q0 := 0) C0 hG hS rfl rfl (kX1_luckiest hlf hk   ) (cwV 0 C0.2.2.2.2 gX1_luckiestPair_X1_luckiest rfl rfl rfl (by decide +kernel) ⟨(Nat.le_of_ble_eq_true rfl), (Nat.le_of_ble_eq_true rfl)⟩) rfl hl rfl (Nat.le_of_ble_eq_true rfl) dX1_luckiestPair_2 ⟨(Nat.le_of_ble_eq_true rfl), (Nat.le_of_ble_eq_true rfl)⟩ (fun H locs hG hS => ?_)
  have b_2 := luckiest_le tk co hk.2.2.2.2.1
  refine tc_callV (q0 := 0) C0 hG hS rfl rfl (kX1_ok hlf hk  (iM (luckiest tk co n)) ) (cwV 1 C0.2.2.2.2 gX1_luckiestPair_X1_ok rfl rfl rfl (by decide +kernel) ⟨(Nat.le_of_ble_eq_true rfl), (Nat.le_of_ble_eq_true rfl)⟩) rfl hl rfl (Nat.le_of_ble_eq_true rfl) dX1_luckiestPair_5 ⟨(Nat.le_of_ble_eq_true rfl), (Nat.le_of_ble_eq_true rfl)⟩ (fun H locs hG hS => ?_)
  have hG : tcG D cI cJ N0 (wM h r1 r2 r3 r4 cI (nI 0) tk co cn wk n ho st ct sp Z) s H := hG
  exact tc_iret C0 hr hlk hG hS rfl rfl (Nat.le_of_ble_eq_true rfl) (Nat.le_of_ble_eq_true rfl) dX1_luckiestPair_8
set_option maxHeartbeats 4000000 in
set_option maxRecDepth 100000 in
theorem kX1_coincidencesIn {l : Launch} (hlf : l.stackTraces = false) {D : va_G} {cI cJ : ClassId} {N0 : Nat} {h r1 r2 r3 r4 : Nat} {tk co cn wk : Nat → Nat} {n st : Nat} {ho ct sp : Int32} {Z : va_W} {th : Int32} (hk : tOk tk co cn wk n st) (x : Int32)  : tcM l yX1_coincidencesIn wsX1_coincidencesIn { frames := 3, cells := 0, slots := 0, locals := 71 } [] 0 [.ref h, .int (x)] D cI cJ N0 (wM h r1 r2 r3 r4 cI th tk co cn wk n ho st ct sp Z) (some (.int (if cdS x 61 = 0 then nI (tw tk co cn wk (ix x) n) else nI 0))) (wM h r1 r2 r3 r4 cI (nI (cdS x 61)) tk co cn wk n ho st ct sp Z) 0 0 := by
  refine tcM.of (cc := cX1_coincidencesIn) (maxL := 2) (ret := (some .int)) (by decide) rfl (Nat.le_of_ble_eq_true rfl) ?_
  intro p e s m args below meth c C0 hr hlk ht hmn hG ls hl
  have hl : lv_has ls 2 [(0, .ref h), (1, .int (x))] := hl
  obtain ⟨hk1, hk2, hk3, hk4, hn12, hst⟩ := id hk
  have hG0 := hG
  have hS : va_S (tcA N0) s.heap s.heap [] := va_S.rf
  have hF : ∀ w ∈ wsX10, w ∈ wsX1_coincidencesIn := by decide +kernel
  have w_thrown : Cond.fieldLink RX1 26 "TicketCoincidencesModel" "thrown" "I" ∈ wsX1_coincidencesIn := by decide +kernel
  refine lv_aload_n C0.1 C0.2.1 dX1_coincidencesIn_0 rfl (lv_at hl 0 rfl) ?_
  refine lv_iconst (v := nI 0) C0.1 C0.2.1 dX1_coincidencesIn_1 (by decide) ?_
  refine tpX1_thrown C0 hF hG0 hG hS w_thrown dX1_coincidencesIn_2 (fun H locs hG hS => ?_)
  refine lv_iload_n C0.1 C0.2.1 dX1_coincidencesIn_5 rfl (lv_at hl 1 rfl) ?_
  refine lv_iconst (v := nI 0) C0.1 C0.2.1 dX1_coincidencesIn_6 (by decide) ?_
  refine lv_bipush (v := nI 60) C0.1 C0.2.1 dX1_coincidencesIn_7 (by decide) ?_
  refine tc_callS C0 hG hS (kX1_isIn hlf  (x) (nI (0)) (nI (60)) ) (va_cwS 3 C0.2.2.2.2 gX1_coincidencesIn_X1_isIn rfl rfl rfl (by decide +kernel) ⟨(Nat.le_of_ble_eq_true rfl), (Nat.le_of_ble_eq_true rfl)⟩) rfl hl rfl (Nat.le_of_ble_eq_true rfl) dX1_coincidencesIn_9 ⟨(Nat.le_of_ble_eq_true rfl), (Nat.le_of_ble_eq_true rfl)⟩ (fun H locs hG hS => ?_)
  refine tc_top (x := nI (b2n (isInb x (nI (0)) (nI (60))))) (y := nI (b2n (tcIn x 61))) (congrArg (fun b => nI (b2n b)) (show isInb x (nI 0) (nI 60) = tcIn x 61 from isInb_M (n := 61) (by decide))) ?_
  refine tb_if_eq (tgt := 24) C0.1 C0.2.1 dX1_coincidencesIn_12 (by decide) (fun c_12 => ?_) (fun c_12 => ?_)
  · have hcd1 := cdS_n c_12
    refine lv_aload_n C0.1 C0.2.1 dX1_coincidencesIn_24 rfl (lv_at hl 0 rfl) ?_
    refine lv_iconst (v := nI 1) C0.1 C0.2.1 dX1_coincidencesIn_25 (by decide) ?_
    refine tc_callV (q0 := 0) C0 hG hS rfl rfl (kX1_no hlf hk  (nI (1)) ) (cwV 1 C0.2.2.2.2 gX1_coincidencesIn_X1_no rfl rfl rfl (by decide +kernel) ⟨(Nat.le_of_ble_eq_true rfl), (Nat.le_of_ble_eq_true rfl)⟩) rfl hl rfl (Nat.le_of_ble_eq_true rfl) dX1_coincidencesIn_26 ⟨(Nat.le_of_ble_eq_true rfl), (Nat.le_of_ble_eq_true rfl)⟩ (fun H locs hG hS => ?_)
    have hG : tcG D cI cJ N0 (wM h r1 r2 r3 r4 cI ((nI (1))) tk co cn wk n ho st ct sp Z) s H := hG
    exact tc_iret C0 hr hlk (by first | exact tcG.eq (by rw [hcd0]) hG | exact tcG.eq (by rw [hcd1]) hG) hS rfl (by first | rw [if_pos hcd0, twm_0] | rw [if_neg (by rw [hcd1]; decide)]) (Nat.le_of_ble_eq_true rfl) (Nat.le_of_ble_eq_true rfl) dX1_coincidencesIn_29
  · have hcd0 := cdS_y c_12
    obtain ⟨jx, hjx, rfl⟩ := tcIn_of (by decide) c_12
    try simp only [ix_nI (show jx < 2 ^ 31 by omega)]
    refine lv_aload_n C0.1 C0.2.1 dX1_coincidencesIn_15 rfl (lv_at hl 0 rfl) ?_
    refine lv_iload_n C0.1 C0.2.1 dX1_coincidencesIn_16 rfl (lv_at hl 1 rfl) ?_
    refine lv_iconst (v := iM 0) C0.1 C0.2.1 dX1_coincidencesIn_17 (by decide) ?_
    refine tc_callV (q0 := 0) C0 hG hS rfl rfl (kX1_town hlf hk  (jx) (0) (by omega) (by omega)) (cwV 2 C0.2.2.2.2 gX1_coincidencesIn_X1_town rfl rfl rfl (by decide +kernel) ⟨(Nat.le_of_ble_eq_true rfl), (Nat.le_of_ble_eq_true rfl)⟩) rfl hl rfl (Nat.le_of_ble_eq_true rfl) dX1_coincidencesIn_18 ⟨(Nat.le_of_ble_eq_true rfl), (Nat.le_of_ble_eq_true rfl)⟩ (fun H locs hG hS => ?_)
    have b_18 := twm_le tk co cn wk jx 0 hk.2.2.2.2.1
    refine lv_goto (tgt := 29) C0.1 C0.2.1 dX1_coincidencesIn_21 (by decide) ?_
    exact tc_iret C0 hr hlk (by first | exact tcG.eq (by rw [hcd0]) hG | exact tcG.eq (by rw [hcd1]) hG) hS rfl (by first | rw [if_pos hcd0, twm_0] | rw [if_neg (by rw [hcd1]; decide)]) (Nat.le_of_ble_eq_true rfl) (Nat.le_of_ble_eq_true rfl) dX1_coincidencesIn_29
set_option maxHeartbeats 4000000 in
set_option maxRecDepth 100000 in
theorem kX1_bestHour {l : Launch} (hlf : l.stackTraces = false) {D : va_G} {cI cJ : ClassId} {N0 : Nat} {h r1 r2 r3 r4 : Nat} {tk co cn wk : Nat → Nat} {n st : Nat} {ho ct sp : Int32} {Z : va_W} {th : Int32} (hk : tOk tk co cn wk n st)   : tcM l yX1_bestHour wsX1_bestHour { frames := 4, cells := 0, slots := 0, locals := 93 } [] 0 [.ref h] D cI cJ N0 (wM h r1 r2 r3 r4 cI th tk co cn wk n ho st ct sp Z) (some (.int (nI (bestHr tk co cn wk n)))) (wM h r1 r2 r3 r4 cI (nI 0) tk co cn wk n ho st ct sp Z) 0 0 := by
  refine tcM.of (cc := cX1_bestHour) (maxL := 1) (ret := (some .int)) (by decide) rfl (Nat.le_of_ble_eq_true rfl) ?_
  intro p e s m args below meth c C0 hr hlk ht hmn hG ls hl
  have hl : lv_has ls 1 [(0, .ref h)] := hl
  obtain ⟨hk1, hk2, hk3, hk4, hn12, hst⟩ := id hk
  have hG0 := hG
  have hS : va_S (tcA N0) s.heap s.heap [] := va_S.rf
  refine lv_aload_n C0.1 C0.2.1 dX1_bestHour_0 rfl (lv_at hl 0 rfl) ?_
  refine lv_aload_n C0.1 C0.2.1 dX1_bestHour_1 rfl (lv_at hl 0 rfl) ?_
  refine tc_callV (q0 := 0) C0 hG hS rfl rfl (kX1_hourOfMost hlf hk   ) (cwV 0 C0.2.2.2.2 gX1_bestHour_X1_hourOfMost rfl rfl rfl (by decide +kernel) ⟨(Nat.le_of_ble_eq_true rfl), (Nat.le_of_ble_eq_true rfl)⟩) rfl hl rfl (Nat.le_of_ble_eq_true rfl) dX1_bestHour_2 ⟨(Nat.le_of_ble_eq_true rfl), (Nat.le_of_ble_eq_true rfl)⟩ (fun H locs hG hS => ?_)
  refine tc_callV (q0 := 0) C0 hG hS rfl rfl (kX1_ok hlf hk  (nI (bestHr tk co cn wk n)) ) (cwV 1 C0.2.2.2.2 gX1_bestHour_X1_ok rfl rfl rfl (by decide +kernel) ⟨(Nat.le_of_ble_eq_true rfl), (Nat.le_of_ble_eq_true rfl)⟩) rfl hl rfl (Nat.le_of_ble_eq_true rfl) dX1_bestHour_5 ⟨(Nat.le_of_ble_eq_true rfl), (Nat.le_of_ble_eq_true rfl)⟩ (fun H locs hG hS => ?_)
  have hG : tcG D cI cJ N0 (wM h r1 r2 r3 r4 cI (nI 0) tk co cn wk n ho st ct sp Z) s H := hG
  exact tc_iret C0 hr hlk hG hS rfl rfl (Nat.le_of_ble_eq_true rfl) (Nat.le_of_ble_eq_true rfl) dX1_bestHour_8
set_option maxHeartbeats 4000000 in
set_option maxRecDepth 100000 in
theorem kX1_bestCorner {l : Launch} (hlf : l.stackTraces = false) {D : va_G} {cI cJ : ClassId} {N0 : Nat} {h r1 r2 r3 r4 : Nat} {tk co cn wk : Nat → Nat} {n st : Nat} {ho ct sp : Int32} {Z : va_W} {th : Int32} (hk : tOk tk co cn wk n st) (x : Int32)  : tcM l yX1_bestCorner wsX1_bestCorner { frames := 5, cells := 0, slots := 0, locals := 119 } [] 0 [.ref h, .int (x)] D cI cJ N0 (wM h r1 r2 r3 r4 cI th tk co cn wk n ho st ct sp Z) (some (.int (if cdS x n = 0 then nI (bestCn tk co cn (ix x) n) else nI 0))) (wM h r1 r2 r3 r4 cI (nI (cdS x n)) tk co cn wk n ho st ct sp Z) 0 0 := by
  refine tcM.of (cc := cX1_bestCorner) (maxL := 2) (ret := (some .int)) (by decide) rfl (Nat.le_of_ble_eq_true rfl) ?_
  intro p e s m args below meth c C0 hr hlk ht hmn hG ls hl
  have hl : lv_has ls 2 [(0, .ref h), (1, .int (x))] := hl
  obtain ⟨hk1, hk2, hk3, hk4, hn12, hst⟩ := id hk
  have hG0 := hG
  have hS : va_S (tcA N0) s.heap s.heap [] := va_S.rf
  have hF : ∀ w ∈ wsX10, w ∈ wsX1_bestCorner := by decide +kernel
  have w_corner : Cond.fieldLink RX1 16 "TicketCoincidencesModel" "corner" "[I" ∈ wsX1_bestCorner := by decide +kernel
  have w_thrown : Cond.fieldLink RX1 26 "TicketCoincidencesModel" "thrown" "I" ∈ wsX1_bestCorner := by decide +kernel
  refine lv_aload_n C0.1 C0.2.1 dX1_bestCorner_0 rfl (lv_at hl 0 rfl) ?_
  refine lv_iconst (v := nI 0) C0.1 C0.2.1 dX1_bestCorner_1 (by decide) ?_
  refine tpX1_thrown C0 hF hG0 hG hS w_thrown dX1_bestCorner_2 (fun H locs hG hS => ?_)
  refine lv_aload_n C0.1 C0.2.1 dX1_bestCorner_5 rfl (lv_at hl 0 rfl) ?_
  refine lv_iload_n C0.1 C0.2.1 dX1_bestCorner_6 rfl (lv_at hl 1 rfl) ?_
  refine tc_callV (q0 := 0) C0 hG hS rfl rfl (kX1_isOne hlf hk  (x) ) (cwV 1 C0.2.2.2.2 gX1_bestCorner_X1_isOne rfl rfl rfl (by decide +kernel) ⟨(Nat.le_of_ble_eq_true rfl), (Nat.le_of_ble_eq_true rfl)⟩) rfl hl rfl (Nat.le_of_ble_eq_true rfl) dX1_bestCorner_7 ⟨(Nat.le_of_ble_eq_true rfl), (Nat.le_of_ble_eq_true rfl)⟩ (fun H locs hG hS => ?_)
  refine tb_if_eq (tgt := 27) C0.1 C0.2.1 dX1_bestCorner_10 (by decide) (fun c_10 => ?_) (fun c_10 => ?_)
  · have hcd1 := cdS_n c_10
    refine lv_aload_n C0.1 C0.2.1 dX1_bestCorner_27 rfl (lv_at hl 0 rfl) ?_
    refine lv_iconst (v := nI 1) C0.1 C0.2.1 dX1_bestCorner_28 (by decide) ?_
    refine tc_callV (q0 := 0) C0 hG hS rfl rfl (kX1_no hlf hk  (nI (1)) ) (cwV 1 C0.2.2.2.2 gX1_bestCorner_X1_no rfl rfl rfl (by decide +kernel) ⟨(Nat.le_of_ble_eq_true rfl), (Nat.le_of_ble_eq_true rfl)⟩) rfl hl rfl (Nat.le_of_ble_eq_true rfl) dX1_bestCorner_29 ⟨(Nat.le_of_ble_eq_true rfl), (Nat.le_of_ble_eq_true rfl)⟩ (fun H locs hG hS => ?_)
    have hG : tcG D cI cJ N0 (wM h r1 r2 r3 r4 cI ((nI (1))) tk co cn wk n ho st ct sp Z) s H := hG
    exact tc_iret C0 hr hlk (by first | exact tcG.eq (by rw [hcd0]) hG | exact tcG.eq (by rw [hcd1]) hG) hS rfl (by first | rw [if_pos hcd0] | rw [if_neg (by rw [hcd1]; decide)]) (Nat.le_of_ble_eq_true rfl) (Nat.le_of_ble_eq_true rfl) dX1_bestCorner_32
  · have hcd0 := cdS_y c_10
    obtain ⟨jx, hjx, rfl⟩ := tcIn_of (by omega) c_10
    try simp only [ix_nI (show jx < 2 ^ 31 by omega)]
    refine lv_aload_n C0.1 C0.2.1 dX1_bestCorner_13 rfl (lv_at hl 0 rfl) ?_
    refine lv_aload_n C0.1 C0.2.1 dX1_bestCorner_14 rfl (lv_at hl 0 rfl) ?_
    refine tgX1_corner C0 hF hG w_corner dX1_bestCorner_15 ?_
    refine lv_iload_n C0.1 C0.2.1 dX1_bestCorner_18 rfl (lv_at hl 1 rfl) ?_
    refine lv_bipush (v := nI 6) C0.1 C0.2.1 dX1_bestCorner_19 (by decide) ?_
    refine tc_callV (q0 := 0) C0 hG hS rfl rfl (kX1_bestOf_cn hlf hk  (jx) (6) (by omega) rfl) (cwV 3 C0.2.2.2.2 gX1_bestCorner_X1_bestOf rfl rfl rfl (by decide +kernel) ⟨(Nat.le_of_ble_eq_true rfl), (Nat.le_of_ble_eq_true rfl)⟩) rfl hl rfl (Nat.le_of_ble_eq_true rfl) dX1_bestCorner_21 ⟨(Nat.le_of_ble_eq_true rfl), (Nat.le_of_ble_eq_true rfl)⟩ (fun H locs hG hS => ?_)
    refine lv_goto (tgt := 32) C0.1 C0.2.1 dX1_bestCorner_24 (by decide) ?_
    exact tc_iret C0 hr hlk (by first | exact tcG.eq (by rw [hcd0]) hG | exact tcG.eq (by rw [hcd1]) hG) hS rfl (by first | rw [if_pos hcd0] | rw [if_neg (by rw [hcd1]; decide)]) (Nat.le_of_ble_eq_true rfl) (Nat.le_of_ble_eq_true rfl) dX1_bestCorner_32
set_option maxHeartbeats 4000000 in
set_option maxRecDepth 100000 in
theorem kX1_bestSwap {l : Launch} (hlf : l.stackTraces = false) {D : va_G} {cI cJ : ClassId} {N0 : Nat} {h r1 r2 r3 r4 : Nat} {tk co cn wk : Nat → Nat} {n st : Nat} {ho ct sp : Int32} {Z : va_W} {th : Int32} (hk : tOk tk co cn wk n st)   : tcM l yX1_bestSwap wsX1_bestSwap { frames := 5, cells := 0, slots := 0, locals := 116 } [] 0 [.ref h] D cI cJ N0 (wM h r1 r2 r3 r4 cI th tk co cn wk n ho st ct sp Z) (some (.int (iM (bestSw tk co cn wk n)))) (wM h r1 r2 r3 r4 cI (nI 0) tk co cn wk n ho st ct sp Z) 0 0 := by
  refine tcM.of (cc := cX1_bestSwap) (maxL := 1) (ret := (some .int)) (by decide) rfl (Nat.le_of_ble_eq_true rfl) ?_
  intro p e s m args below meth c C0 hr hlk ht hmn hG ls hl
  have hl : lv_has ls 1 [(0, .ref h)] := hl
  obtain ⟨hk1, hk2, hk3, hk4, hn12, hst⟩ := id hk
  have hG0 := hG
  have hS : va_S (tcA N0) s.heap s.heap [] := va_S.rf
  refine lv_aload_n C0.1 C0.2.1 dX1_bestSwap_0 rfl (lv_at hl 0 rfl) ?_
  refine lv_aload_n C0.1 C0.2.1 dX1_bestSwap_1 rfl (lv_at hl 0 rfl) ?_
  refine tc_callV (q0 := 0) C0 hG hS rfl rfl (kX1_swapOfMost hlf hk   ) (cwV 0 C0.2.2.2.2 gX1_bestSwap_X1_swapOfMost rfl rfl rfl (by decide +kernel) ⟨(Nat.le_of_ble_eq_true rfl), (Nat.le_of_ble_eq_true rfl)⟩) rfl hl rfl (Nat.le_of_ble_eq_true rfl) dX1_bestSwap_2 ⟨(Nat.le_of_ble_eq_true rfl), (Nat.le_of_ble_eq_true rfl)⟩ (fun H locs hG hS => ?_)
  refine tc_callV (q0 := 0) C0 hG hS rfl rfl (kX1_ok hlf hk  (iM (bestSw tk co cn wk n)) ) (cwV 1 C0.2.2.2.2 gX1_bestSwap_X1_ok rfl rfl rfl (by decide +kernel) ⟨(Nat.le_of_ble_eq_true rfl), (Nat.le_of_ble_eq_true rfl)⟩) rfl hl rfl (Nat.le_of_ble_eq_true rfl) dX1_bestSwap_5 ⟨(Nat.le_of_ble_eq_true rfl), (Nat.le_of_ble_eq_true rfl)⟩ (fun H locs hG hS => ?_)
  have hG : tcG D cI cJ N0 (wM h r1 r2 r3 r4 cI (nI 0) tk co cn wk n ho st ct sp Z) s H := hG
  exact tc_iret C0 hr hlk hG hS rfl rfl (Nat.le_of_ble_eq_true rfl) (Nat.le_of_ble_eq_true rfl) dX1_bestSwap_8
set_option maxHeartbeats 4000000 in
set_option maxRecDepth 100000 in
theorem kX1_bestTicket {l : Launch} (hlf : l.stackTraces = false) {D : va_G} {cI cJ : ClassId} {N0 : Nat} {h r1 r2 r3 r4 : Nat} {tk co cn wk : Nat → Nat} {n st : Nat} {ho ct sp : Int32} {Z : va_W} {th : Int32} (hk : tOk tk co cn wk n st) (x : Int32)  : tcM l yX1_bestTicket wsX1_bestTicket { frames := 5, cells := 0, slots := 0, locals := 119 } [] 0 [.ref h, .int (x)] D cI cJ N0 (wM h r1 r2 r3 r4 cI th tk co cn wk n ho st ct sp Z) (some (.int (if cdS x n = 0 then nI (bestTk tk co cn (ix x) n) else nI 0))) (wM h r1 r2 r3 r4 cI (nI (cdS x n)) tk co cn wk n ho st ct sp Z) 0 0 := by
  refine tcM.of (cc := cX1_bestTicket) (maxL := 2) (ret := (some .int)) (by decide) rfl (Nat.le_of_ble_eq_true rfl) ?_
  intro p e s m args below meth c C0 hr hlk ht hmn hG ls hl
  have hl : lv_has ls 2 [(0, .ref h), (1, .int (x))] := hl
  obtain ⟨hk1, hk2, hk3, hk4, hn12, hst⟩ := id hk
  have hG0 := hG
  have hS : va_S (tcA N0) s.heap s.heap [] := va_S.rf
  have hF : ∀ w ∈ wsX10, w ∈ wsX1_bestTicket := by decide +kernel
  have w_thrown : Cond.fieldLink RX1 26 "TicketCoincidencesModel" "thrown" "I" ∈ wsX1_bestTicket := by decide +kernel
  have w_ticket : Cond.fieldLink RX1 9 "TicketCoincidencesModel" "ticket" "[I" ∈ wsX1_bestTicket := by decide +kernel
  refine lv_aload_n C0.1 C0.2.1 dX1_bestTicket_0 rfl (lv_at hl 0 rfl) ?_
  refine lv_iconst (v := nI 0) C0.1 C0.2.1 dX1_bestTicket_1 (by decide) ?_
  refine tpX1_thrown C0 hF hG0 hG hS w_thrown dX1_bestTicket_2 (fun H locs hG hS => ?_)
  refine lv_aload_n C0.1 C0.2.1 dX1_bestTicket_5 rfl (lv_at hl 0 rfl) ?_
  refine lv_iload_n C0.1 C0.2.1 dX1_bestTicket_6 rfl (lv_at hl 1 rfl) ?_
  refine tc_callV (q0 := 0) C0 hG hS rfl rfl (kX1_isOne hlf hk  (x) ) (cwV 1 C0.2.2.2.2 gX1_bestTicket_X1_isOne rfl rfl rfl (by decide +kernel) ⟨(Nat.le_of_ble_eq_true rfl), (Nat.le_of_ble_eq_true rfl)⟩) rfl hl rfl (Nat.le_of_ble_eq_true rfl) dX1_bestTicket_7 ⟨(Nat.le_of_ble_eq_true rfl), (Nat.le_of_ble_eq_true rfl)⟩ (fun H locs hG hS => ?_)
  refine tb_if_eq (tgt := 27) C0.1 C0.2.1 dX1_bestTicket_10 (by decide) (fun c_10 => ?_) (fun c_10 => ?_)
  · have hcd1 := cdS_n c_10
    refine lv_aload_n C0.1 C0.2.1 dX1_bestTicket_27 rfl (lv_at hl 0 rfl) ?_
    refine lv_iconst (v := nI 1) C0.1 C0.2.1 dX1_bestTicket_28 (by decide) ?_
    refine tc_callV (q0 := 0) C0 hG hS rfl rfl (kX1_no hlf hk  (nI (1)) ) (cwV 1 C0.2.2.2.2 gX1_bestTicket_X1_no rfl rfl rfl (by decide +kernel) ⟨(Nat.le_of_ble_eq_true rfl), (Nat.le_of_ble_eq_true rfl)⟩) rfl hl rfl (Nat.le_of_ble_eq_true rfl) dX1_bestTicket_29 ⟨(Nat.le_of_ble_eq_true rfl), (Nat.le_of_ble_eq_true rfl)⟩ (fun H locs hG hS => ?_)
    have hG : tcG D cI cJ N0 (wM h r1 r2 r3 r4 cI ((nI (1))) tk co cn wk n ho st ct sp Z) s H := hG
    exact tc_iret C0 hr hlk (by first | exact tcG.eq (by rw [hcd0]) hG | exact tcG.eq (by rw [hcd1]) hG) hS rfl (by first | rw [if_pos hcd0] | rw [if_neg (by rw [hcd1]; decide)]) (Nat.le_of_ble_eq_true rfl) (Nat.le_of_ble_eq_true rfl) dX1_bestTicket_32
  · have hcd0 := cdS_y c_10
    obtain ⟨jx, hjx, rfl⟩ := tcIn_of (by omega) c_10
    try simp only [ix_nI (show jx < 2 ^ 31 by omega)]
    refine lv_aload_n C0.1 C0.2.1 dX1_bestTicket_13 rfl (lv_at hl 0 rfl) ?_
    refine lv_aload_n C0.1 C0.2.1 dX1_bestTicket_14 rfl (lv_at hl 0 rfl) ?_
    refine tgX1_ticket C0 hF hG w_ticket dX1_bestTicket_15 ?_
    refine lv_iload_n C0.1 C0.2.1 dX1_bestTicket_18 rfl (lv_at hl 1 rfl) ?_
    refine lv_bipush (v := nI 100) C0.1 C0.2.1 dX1_bestTicket_19 (by decide) ?_
    refine tc_callV (q0 := 0) C0 hG hS rfl rfl (kX1_bestOf_tk hlf hk  (jx) (100) (by omega) rfl) (cwV 3 C0.2.2.2.2 gX1_bestTicket_X1_bestOf rfl rfl rfl (by decide +kernel) ⟨(Nat.le_of_ble_eq_true rfl), (Nat.le_of_ble_eq_true rfl)⟩) rfl hl rfl (Nat.le_of_ble_eq_true rfl) dX1_bestTicket_21 ⟨(Nat.le_of_ble_eq_true rfl), (Nat.le_of_ble_eq_true rfl)⟩ (fun H locs hG hS => ?_)
    refine lv_goto (tgt := 32) C0.1 C0.2.1 dX1_bestTicket_24 (by decide) ?_
    exact tc_iret C0 hr hlk (by first | exact tcG.eq (by rw [hcd0]) hG | exact tcG.eq (by rw [hcd1]) hG) hS rfl (by first | rw [if_pos hcd0] | rw [if_neg (by rw [hcd1]; decide)]) (Nat.le_of_ble_eq_true rfl) (Nat.le_of_ble_eq_true rfl) dX1_bestTicket_32
set_option maxHeartbeats 4000000 in
set_option maxRecDepth 100000 in
theorem kX1_addStranger {l : Launch} (hlf : l.stackTraces = false) {D : va_G} {cI cJ : ClassId} {N0 : Nat} {h r1 r2 r3 r4 : Nat} {tk co cn wk : Nat → Nat} {n st : Nat} {ho ct sp : Int32} {Z : va_W} {th : Int32} (hk : tOk tk co cn wk n st) (xt : Int32) (xc : Int32) (xk : Int32) (xw : Int32)  : tcM l yX1_addStranger wsX1_addStranger { frames := 2, cells := 0, slots := 0, locals := 42 } [] 0 [.ref h, .int (xt), .int (xc), .int (xk), .int (xw)] D cI cJ N0 (wM h r1 r2 r3 r4 cI th tk co cn wk n ho st ct sp Z) (some (.int (if cdA xt xc xk xw n = 0 then nI n else nI 0))) (if cdA xt xc xk xw n = 0 then wM h r1 r2 r3 r4 cI (nI 0) (va_up tk n (ix xt)) (va_up co n (ix xc)) (va_up cn n (ix xk)) (va_up wk n (ix xw)) (n + 1) ho st ct sp Z else wM h r1 r2 r3 r4 cI (nI (cdA xt xc xk xw n)) tk co cn wk n ho st ct sp Z) 0 0 := by
  refine tcM.of (cc := cX1_addStranger) (maxL := 5) (ret := (some .int)) (by decide) rfl (Nat.le_of_ble_eq_true rfl) ?_
  intro p e s m args below meth c C0 hr hlk ht hmn hG ls hl
  have hl : lv_has ls 5 [(0, .ref h), (1, .int (xt)), (2, .int (xc)), (3, .int (xk)), (4, .int (xw))] := hl
  obtain ⟨hk1, hk2, hk3, hk4, hn12, hst⟩ := id hk
  have hG0 := hG
  have hS : va_S (tcA N0) s.heap s.heap [] := va_S.rf
  have hF : ∀ w ∈ wsX10, w ∈ wsX1_addStranger := by decide +kernel
  have w_colour : Cond.fieldLink RX1 13 "TicketCoincidencesModel" "colour" "[I" ∈ wsX1_addStranger := by decide +kernel
  have w_corner : Cond.fieldLink RX1 16 "TicketCoincidencesModel" "corner" "[I" ∈ wsX1_addStranger := by decide +kernel
  have w_people : Cond.fieldLink RX1 29 "TicketCoincidencesModel" "people" "I" ∈ wsX1_addStranger := by decide +kernel
  have w_thrown : Cond.fieldLink RX1 26 "TicketCoincidencesModel" "thrown" "I" ∈ wsX1_addStranger := by decide +kernel
  have w_ticket : Cond.fieldLink RX1 9 "TicketCoincidencesModel" "ticket" "[I" ∈ wsX1_addStranger := by decide +kernel
  have w_walk : Cond.fieldLink RX1 19 "TicketCoincidencesModel" "walk" "[I" ∈ wsX1_addStranger := by decide +kernel
  refine lv_aload_n C0.1 C0.2.1 dX1_addStranger_0 rfl (lv_at hl 0 rfl) ?_
  refine lv_iconst (v := nI 0) C0.1 C0.2.1 dX1_addStranger_1 (by decide) ?_
  refine tpX1_thrown C0 hF hG0 hG hS w_thrown dX1_addStranger_2 (fun H locs hG hS => ?_)
  refine lv_iload_n C0.1 C0.2.1 dX1_addStranger_5 rfl (lv_at hl 1 rfl) ?_
  refine lv_iconst (v := nI 0) C0.1 C0.2.1 dX1_addStranger_6 (by decide) ?_
  refine lv_bipush (v := nI 99) C0.1 C0.2.1 dX1_addStranger_7 (by decide) ?_
  refine tc_callS C0 hG hS (kX1_isIn hlf  (xt) (nI (0)) (nI (99)) ) (va_cwS 3 C0.2.2.2.2 gX1_addStranger_X1_isIn rfl rfl rfl (by decide +kernel) ⟨(Nat.le_of_ble_eq_true rfl), (Nat.le_of_ble_eq_true rfl)⟩) rfl hl rfl (Nat.le_of_ble_eq_true rfl) dX1_addStranger_9 ⟨(Nat.le_of_ble_eq_true rfl), (Nat.le_of_ble_eq_true rfl)⟩ (fun H locs hG hS => ?_)
  refine tc_top (x := nI (b2n (isInb xt (nI (0)) (nI (99))))) (y := nI (b2n (tcIn xt 100))) (congrArg (fun b => nI (b2n b)) (show isInb xt (nI 0) (nI 99) = tcIn xt 100 from isInb_M (n := 100) (by decide))) ?_
  refine tb_if_eq (tgt := 39) C0.1 C0.2.1 dX1_addStranger_12 (by decide) (fun c_12 => ?_) (fun c_12 => ?_)
  · refine lv_aload_n C0.1 C0.2.1 dX1_addStranger_39 rfl (lv_at hl 0 rfl) ?_
    refine lv_iconst (v := nI 1) C0.1 C0.2.1 dX1_addStranger_40 (by decide) ?_
    refine tc_callV (q0 := 0) C0 hG hS rfl rfl (kX1_no hlf hk  (nI (1)) ) (cwV 1 C0.2.2.2.2 gX1_addStranger_X1_no rfl rfl rfl (by decide +kernel) ⟨(Nat.le_of_ble_eq_true rfl), (Nat.le_of_ble_eq_true rfl)⟩) rfl hl rfl (Nat.le_of_ble_eq_true rfl) dX1_addStranger_41 ⟨(Nat.le_of_ble_eq_true rfl), (Nat.le_of_ble_eq_true rfl)⟩ (fun H locs hG hS => ?_)
    have hG : tcG D cI cJ N0 (wM h r1 r2 r3 r4 cI ((nI (1))) tk co cn wk n ho st ct sp Z) s H := hG
    have hcd1 : cdA xt xc xk xw n = 1 := by first | exact cdA_t c_12 | exact cdA_c c_21 | exact cdA_k c_28 | exact cdA_w c_36
    exact tc_iret C0 hr hlk (tcG.eq (by rw [if_neg (by rw [hcd1]; decide), hcd1]) hG) hS rfl (by rw [if_neg (by rw [hcd1]; decide)]) (Nat.le_of_ble_eq_true rfl) (Nat.le_of_ble_eq_true rfl) dX1_addStranger_44
  · refine lv_iload_n C0.1 C0.2.1 dX1_addStranger_15 rfl (lv_at hl 2 rfl) ?_
    refine lv_iconst (v := nI 0) C0.1 C0.2.1 dX1_addStranger_16 (by decide) ?_
    refine lv_iconst (v := nI 4) C0.1 C0.2.1 dX1_addStranger_17 (by decide) ?_
    refine tc_callS C0 hG hS (kX1_isIn hlf  (xc) (nI (0)) (nI (4)) ) (va_cwS 3 C0.2.2.2.2 gX1_addStranger_X1_isIn rfl rfl rfl (by decide +kernel) ⟨(Nat.le_of_ble_eq_true rfl), (Nat.le_of_ble_eq_true rfl)⟩) rfl hl rfl (Nat.le_of_ble_eq_true rfl) dX1_addStranger_18 ⟨(Nat.le_of_ble_eq_true rfl), (Nat.le_of_ble_eq_true rfl)⟩ (fun H locs hG hS => ?_)
    refine tc_top (x := nI (b2n (isInb xc (nI (0)) (nI (4))))) (y := nI (b2n (tcIn xc 5))) (congrArg (fun b => nI (b2n b)) (show isInb xc (nI 0) (nI 4) = tcIn xc 5 from isInb_M (n := 5) (by decide))) ?_
    refine tb_if_eq (tgt := 39) C0.1 C0.2.1 dX1_addStranger_21 (by decide) (fun c_21 => ?_) (fun c_21 => ?_)
    · refine lv_aload_n C0.1 C0.2.1 dX1_addStranger_39 rfl (lv_at hl 0 rfl) ?_
      refine lv_iconst (v := nI 1) C0.1 C0.2.1 dX1_addStranger_40 (by decide) ?_
      refine tc_callV (q0 := 0) C0 hG hS rfl rfl (kX1_no hlf hk  (nI (1)) ) (cwV 1 C0.2.2.2.2 gX1_addStranger_X1_no rfl rfl rfl (by decide +kernel) ⟨(Nat.le_of_ble_eq_true rfl), (Nat.le_of_ble_eq_true rfl)⟩) rfl hl rfl (Nat.le_of_ble_eq_true rfl) dX1_addStranger_41 ⟨(Nat.le_of_ble_eq_true rfl), (Nat.le_of_ble_eq_true rfl)⟩ (fun H locs hG hS => ?_)
      have hG : tcG D cI cJ N0 (wM h r1 r2 r3 r4 cI ((nI (1))) tk co cn wk n ho st ct sp Z) s H := hG
      have hcd1 : cdA xt xc xk xw n = 1 := by first | exact cdA_t c_12 | exact cdA_c c_21 | exact cdA_k c_28 | exact cdA_w c_36
      exact tc_iret C0 hr hlk (tcG.eq (by rw [if_neg (by rw [hcd1]; decide), hcd1]) hG) hS rfl (by rw [if_neg (by rw [hcd1]; decide)]) (Nat.le_of_ble_eq_true rfl) (Nat.le_of_ble_eq_true rfl) dX1_addStranger_44
    · refine lv_iload_n C0.1 C0.2.1 dX1_addStranger_24 rfl (lv_at hl 3 rfl) ?_
      refine tc_callS C0 hG hS (kX1_isCorner hlf  (xk) ) (va_cwS 1 C0.2.2.2.2 gX1_addStranger_X1_isCorner rfl rfl rfl (by decide +kernel) ⟨(Nat.le_of_ble_eq_true rfl), (Nat.le_of_ble_eq_true rfl)⟩) rfl hl rfl (Nat.le_of_ble_eq_true rfl) dX1_addStranger_25 ⟨(Nat.le_of_ble_eq_true rfl), (Nat.le_of_ble_eq_true rfl)⟩ (fun H locs hG hS => ?_)
      refine tb_if_eq (tgt := 39) C0.1 C0.2.1 dX1_addStranger_28 (by decide) (fun c_28 => ?_) (fun c_28 => ?_)
      · refine lv_aload_n C0.1 C0.2.1 dX1_addStranger_39 rfl (lv_at hl 0 rfl) ?_
        refine lv_iconst (v := nI 1) C0.1 C0.2.1 dX1_addStranger_40 (by decide) ?_
        refine tc_callV (q0 := 0) C0 hG hS rfl rfl (kX1_no hlf hk  (nI (1)) ) (cwV 1 C0.2.2.2.2 gX1_addStranger_X1_no rfl rfl rfl (by decide +kernel) ⟨(Nat.le_of_ble_eq_true rfl), (Nat.le_of_ble_eq_true rfl)⟩) rfl hl rfl (Nat.le_of_ble_eq_true rfl) dX1_addStranger_41 ⟨(Nat.le_of_ble_eq_true rfl), (Nat.le_of_ble_eq_true rfl)⟩ (fun H locs hG hS => ?_)
        have hG : tcG D cI cJ N0 (wM h r1 r2 r3 r4 cI ((nI (1))) tk co cn wk n ho st ct sp Z) s H := hG
        have hcd1 : cdA xt xc xk xw n = 1 := by first | exact cdA_t c_12 | exact cdA_c c_21 | exact cdA_k c_28 | exact cdA_w c_36
        exact tc_iret C0 hr hlk (tcG.eq (by rw [if_neg (by rw [hcd1]; decide), hcd1]) hG) hS rfl (by rw [if_neg (by rw [hcd1]; decide)]) (Nat.le_of_ble_eq_true rfl) (Nat.le_of_ble_eq_true rfl) dX1_addStranger_44
      · refine lv_iload C0.1 C0.2.1 dX1_addStranger_31 (lv_at hl 4 rfl) ?_
        refine tc_callS C0 hG hS (kX1_isCorner hlf  (xw) ) (va_cwS 1 C0.2.2.2.2 gX1_addStranger_X1_isCorner rfl rfl rfl (by decide +kernel) ⟨(Nat.le_of_ble_eq_true rfl), (Nat.le_of_ble_eq_true rfl)⟩) rfl hl rfl (Nat.le_of_ble_eq_true rfl) dX1_addStranger_33 ⟨(Nat.le_of_ble_eq_true rfl), (Nat.le_of_ble_eq_true rfl)⟩ (fun H locs hG hS => ?_)
        refine tb_if_ne (tgt := 45) C0.1 C0.2.1 dX1_addStranger_36 (by decide) (fun c_36 => ?_) (fun c_36 => ?_)
        · refine lv_aload_n C0.1 C0.2.1 dX1_addStranger_45 rfl (lv_at hl 0 rfl) ?_
          refine tgX1_people C0 hF hG w_people dX1_addStranger_46 ?_
          refine lv_bipush (v := nI 12) C0.1 C0.2.1 dX1_addStranger_49 (by decide) ?_
          refine tn_icmp_ne (tgt := 60) C0.1 C0.2.1 dX1_addStranger_51 (by decide) (by omega) (by omega) (fun c_51 => ?_) (fun c_51 => ?_)
          · have hcd0 := cdA_0 c_12 c_21 c_28 c_36 (show n < 12 by omega)
            obtain ⟨jt, hjt, rfl⟩ := tcIn_of (by decide) c_12
            try simp only [ix_nI (show jt < 2 ^ 31 by omega)]
            obtain ⟨jc, hjc, rfl⟩ := tcIn_of (by decide) c_21
            try simp only [ix_nI (show jc < 2 ^ 31 by omega)]
            obtain ⟨jk, hjk, rfl⟩ := tcIn_of (by decide) c_28
            try simp only [ix_nI (show jk < 2 ^ 31 by omega)]
            obtain ⟨jw, hjw, rfl⟩ := tcIn_of (by decide) c_36
            try simp only [ix_nI (show jw < 2 ^ 31 by omega)]
            refine lv_aload_n C0.1 C0.2.1 dX1_addStranger_60 rfl (lv_at hl 0 rfl) ?_
            refine tgX1_ticket C0 hF hG w_ticket dX1_addStranger_61 ?_
            refine lv_aload_n C0.1 C0.2.1 dX1_addStranger_64 rfl (lv_at hl 0 rfl) ?_
            refine tgX1_people C0 hF hG w_people dX1_addStranger_65 ?_
            refine lv_iload_n C0.1 C0.2.1 dX1_addStranger_68 rfl (lv_at hl 1 rfl) ?_
            refine tc_ast (q0 := 1) C0 hG0 hG hS rfl (by omega) dX1_addStranger_69 (fun H locs hG hS => ?_)
            have hG : tcG D cI cJ N0 (wM h r1 r2 r3 r4 cI (nI (0)) (va_up tk (n) (jt)) co cn wk n ho st ct sp Z) s H := hG
            refine lv_aload_n C0.1 C0.2.1 dX1_addStranger_70 rfl (lv_at hl 0 rfl) ?_
            refine tgX1_colour C0 hF hG w_colour dX1_addStranger_71 ?_
            refine lv_aload_n C0.1 C0.2.1 dX1_addStranger_74 rfl (lv_at hl 0 rfl) ?_
            refine tgX1_people C0 hF hG w_people dX1_addStranger_75 ?_
            refine lv_iload_n C0.1 C0.2.1 dX1_addStranger_78 rfl (lv_at hl 2 rfl) ?_
            refine tc_ast (q0 := 2) C0 hG0 hG hS rfl (by omega) dX1_addStranger_79 (fun H locs hG hS => ?_)
            have hG : tcG D cI cJ N0 (wM h r1 r2 r3 r4 cI (nI (0)) (va_up tk (n) (jt)) (va_up co (n) (jc)) cn wk n ho st ct sp Z) s H := hG
            refine lv_aload_n C0.1 C0.2.1 dX1_addStranger_80 rfl (lv_at hl 0 rfl) ?_
            refine tgX1_corner C0 hF hG w_corner dX1_addStranger_81 ?_
            refine lv_aload_n C0.1 C0.2.1 dX1_addStranger_84 rfl (lv_at hl 0 rfl) ?_
            refine tgX1_people C0 hF hG w_people dX1_addStranger_85 ?_
            refine lv_iload_n C0.1 C0.2.1 dX1_addStranger_88 rfl (lv_at hl 3 rfl) ?_
            refine tc_ast (q0 := 3) C0 hG0 hG hS rfl (by omega) dX1_addStranger_89 (fun H locs hG hS => ?_)
            have hG : tcG D cI cJ N0 (wM h r1 r2 r3 r4 cI (nI (0)) (va_up tk (n) (jt)) (va_up co (n) (jc)) (va_up cn (n) (jk)) wk n ho st ct sp Z) s H := hG
            refine lv_aload_n C0.1 C0.2.1 dX1_addStranger_90 rfl (lv_at hl 0 rfl) ?_
            refine tgX1_walk C0 hF hG w_walk dX1_addStranger_91 ?_
            refine lv_aload_n C0.1 C0.2.1 dX1_addStranger_94 rfl (lv_at hl 0 rfl) ?_
            refine tgX1_people C0 hF hG w_people dX1_addStranger_95 ?_
            refine lv_iload C0.1 C0.2.1 dX1_addStranger_98 (lv_at hl 4 rfl) ?_
            refine tc_ast (q0 := 4) C0 hG0 hG hS rfl (by omega) dX1_addStranger_100 (fun H locs hG hS => ?_)
            have hG : tcG D cI cJ N0 (wM h r1 r2 r3 r4 cI (nI (0)) (va_up tk (n) (jt)) (va_up co (n) (jc)) (va_up cn (n) (jk)) (va_up wk (n) (jw)) n ho st ct sp Z) s H := hG
            refine lv_aload_n C0.1 C0.2.1 dX1_addStranger_101 rfl (lv_at hl 0 rfl) ?_
            refine lv_dup C0.1 C0.2.1 dX1_addStranger_102 rfl ?_
            refine tgX1_people C0 hF hG w_people dX1_addStranger_103 ?_
            refine lv_iconst (v := nI 1) C0.1 C0.2.1 dX1_addStranger_106 (by decide) ?_
            refine tn_iadd C0.1 C0.2.1 dX1_addStranger_107 ?_
            refine tpX1_people C0 hF hG0 hG hS w_people dX1_addStranger_108 (fun H locs hG hS => ?_)
            refine lv_aload_n C0.1 C0.2.1 dX1_addStranger_111 rfl (lv_at hl 0 rfl) ?_
            refine tgX1_people C0 hF hG w_people dX1_addStranger_112 ?_
            refine lv_iconst (v := nI 1) C0.1 C0.2.1 dX1_addStranger_115 (by decide) ?_
            refine lv_isub C0.1 C0.2.1 dX1_addStranger_116 ?_
            refine tc_top (y := iM (n + 1)) rfl ?_
            exact tc_iret C0 hr hlk (tcG.eq (by rw [if_pos hcd0]) hG) hS rfl (by rw [if_pos hcd0, iM_s]) (Nat.le_of_ble_eq_true rfl) (Nat.le_of_ble_eq_true rfl) dX1_addStranger_117
          · have hcd1 := cdA_2 c_12 c_21 c_28 c_36 (show 12 ≤ n by omega)
            refine lv_aload_n C0.1 C0.2.1 dX1_addStranger_54 rfl (lv_at hl 0 rfl) ?_
            refine lv_iconst (v := nI 2) C0.1 C0.2.1 dX1_addStranger_55 (by decide) ?_
            refine tc_callV (q0 := 0) C0 hG hS rfl rfl (kX1_no hlf hk  (nI (2)) ) (cwV 1 C0.2.2.2.2 gX1_addStranger_X1_no rfl rfl rfl (by decide +kernel) ⟨(Nat.le_of_ble_eq_true rfl), (Nat.le_of_ble_eq_true rfl)⟩) rfl hl rfl (Nat.le_of_ble_eq_true rfl) dX1_addStranger_56 ⟨(Nat.le_of_ble_eq_true rfl), (Nat.le_of_ble_eq_true rfl)⟩ (fun H locs hG hS => ?_)
            have hG : tcG D cI cJ N0 (wM h r1 r2 r3 r4 cI ((nI (2))) tk co cn wk n ho st ct sp Z) s H := hG
            exact tc_iret C0 hr hlk (tcG.eq (by rw [if_neg (by rw [hcd1]; decide), hcd1]) hG) hS rfl (by rw [if_neg (by rw [hcd1]; decide)]) (Nat.le_of_ble_eq_true rfl) (Nat.le_of_ble_eq_true rfl) dX1_addStranger_59
        · refine lv_aload_n C0.1 C0.2.1 dX1_addStranger_39 rfl (lv_at hl 0 rfl) ?_
          refine lv_iconst (v := nI 1) C0.1 C0.2.1 dX1_addStranger_40 (by decide) ?_
          refine tc_callV (q0 := 0) C0 hG hS rfl rfl (kX1_no hlf hk  (nI (1)) ) (cwV 1 C0.2.2.2.2 gX1_addStranger_X1_no rfl rfl rfl (by decide +kernel) ⟨(Nat.le_of_ble_eq_true rfl), (Nat.le_of_ble_eq_true rfl)⟩) rfl hl rfl (Nat.le_of_ble_eq_true rfl) dX1_addStranger_41 ⟨(Nat.le_of_ble_eq_true rfl), (Nat.le_of_ble_eq_true rfl)⟩ (fun H locs hG hS => ?_)
          have hG : tcG D cI cJ N0 (wM h r1 r2 r3 r4 cI ((nI (1))) tk co cn wk n ho st ct sp Z) s H := hG
          have hcd1 : cdA xt xc xk xw n = 1 := by first | exact cdA_t c_12 | exact cdA_c c_21 | exact cdA_k c_28 | exact cdA_w c_36
          exact tc_iret C0 hr hlk (tcG.eq (by rw [if_neg (by rw [hcd1]; decide), hcd1]) hG) hS rfl (by rw [if_neg (by rw [hcd1]; decide)]) (Nat.le_of_ble_eq_true rfl) (Nat.le_of_ble_eq_true rfl) dX1_addStranger_44
set_option maxHeartbeats 4000000 in
set_option maxRecDepth 100000 in
theorem kX1_setWalk {l : Launch} (hlf : l.stackTraces = false) {D : va_G} {cI cJ : ClassId} {N0 : Nat} {h r1 r2 r3 r4 : Nat} {tk co cn wk : Nat → Nat} {n st : Nat} {ho ct sp : Int32} {Z : va_W} {th : Int32} (hk : tOk tk co cn wk n st) (x : Int32) (y : Int32)  : tcM l yX1_setWalk wsX1_setWalk { frames := 2, cells := 0, slots := 0, locals := 43 } [] 0 [.ref h, .int (x), .int (y)] D cI cJ N0 (wM h r1 r2 r3 r4 cI th tk co cn wk n ho st ct sp Z) (some (.int (if cdK x n y 6 = 0 then nI (wk (ix x)) else nI 0))) (if cdK x n y 6 = 0 then wM h r1 r2 r3 r4 cI (nI 0) tk co cn (va_up wk (ix x) (ix y)) n ho st ct sp Z else wM h r1 r2 r3 r4 cI (nI (cdK x n y 6)) tk co cn wk n ho st ct sp Z) 0 0 := by
  refine tcM.of (cc := cX1_setWalk) (maxL := 4) (ret := (some .int)) (by decide) rfl (Nat.le_of_ble_eq_true rfl) ?_
  intro p e s m args below meth c C0 hr hlk ht hmn hG ls hl
  have hl : lv_has ls 4 [(0, .ref h), (1, .int (x)), (2, .int (y))] := hl
  obtain ⟨hk1, hk2, hk3, hk4, hn12, hst⟩ := id hk
  have hG0 := hG
  have hS : va_S (tcA N0) s.heap s.heap [] := va_S.rf
  have hF : ∀ w ∈ wsX10, w ∈ wsX1_setWalk := by decide +kernel
  have w_thrown : Cond.fieldLink RX1 26 "TicketCoincidencesModel" "thrown" "I" ∈ wsX1_setWalk := by decide +kernel
  have w_walk : Cond.fieldLink RX1 19 "TicketCoincidencesModel" "walk" "[I" ∈ wsX1_setWalk := by decide +kernel
  refine lv_aload_n C0.1 C0.2.1 dX1_setWalk_0 rfl (lv_at hl 0 rfl) ?_
  refine lv_iconst (v := nI 0) C0.1 C0.2.1 dX1_setWalk_1 (by decide) ?_
  refine tpX1_thrown C0 hF hG0 hG hS w_thrown dX1_setWalk_2 (fun H locs hG hS => ?_)
  refine lv_aload_n C0.1 C0.2.1 dX1_setWalk_5 rfl (lv_at hl 0 rfl) ?_
  refine lv_iload_n C0.1 C0.2.1 dX1_setWalk_6 rfl (lv_at hl 1 rfl) ?_
  refine tc_callV (q0 := 0) C0 hG hS rfl rfl (kX1_isOne hlf hk  (x) ) (cwV 1 C0.2.2.2.2 gX1_setWalk_X1_isOne rfl rfl rfl (by decide +kernel) ⟨(Nat.le_of_ble_eq_true rfl), (Nat.le_of_ble_eq_true rfl)⟩) rfl hl rfl (Nat.le_of_ble_eq_true rfl) dX1_setWalk_7 ⟨(Nat.le_of_ble_eq_true rfl), (Nat.le_of_ble_eq_true rfl)⟩ (fun H locs hG hS => ?_)
  refine tb_if_ne (tgt := 19) C0.1 C0.2.1 dX1_setWalk_10 (by decide) (fun c_10 => ?_) (fun c_10 => ?_)
  · refine lv_iload_n C0.1 C0.2.1 dX1_setWalk_19 rfl (lv_at hl 2 rfl) ?_
    refine tc_callS C0 hG hS (kX1_isCorner hlf  (y) ) (va_cwS 1 C0.2.2.2.2 gX1_setWalk_X1_isCorner rfl rfl rfl (by decide +kernel) ⟨(Nat.le_of_ble_eq_true rfl), (Nat.le_of_ble_eq_true rfl)⟩) rfl hl rfl (Nat.le_of_ble_eq_true rfl) dX1_setWalk_20 ⟨(Nat.le_of_ble_eq_true rfl), (Nat.le_of_ble_eq_true rfl)⟩ (fun H locs hG hS => ?_)
    refine tb_if_ne (tgt := 32) C0.1 C0.2.1 dX1_setWalk_23 (by decide) (fun c_23 => ?_) (fun c_23 => ?_)
    · have hcd0 := cdK_0 c_10 c_23
      obtain ⟨jy, hjy, rfl⟩ := tcIn_of (by decide) c_23
      try simp only [ix_nI (show jy < 2 ^ 31 by omega)]
      obtain ⟨jx, hjx, rfl⟩ := tcIn_of (by omega) c_10
      try simp only [ix_nI (show jx < 2 ^ 31 by omega)]
      refine lv_aload_n C0.1 C0.2.1 dX1_setWalk_32 rfl (lv_at hl 0 rfl) ?_
      refine tgX1_walk C0 hF hG w_walk dX1_setWalk_33 ?_
      refine lv_iload_n C0.1 C0.2.1 dX1_setWalk_36 rfl (lv_at hl 1 rfl) ?_
      refine tc_ald (q0 := 4) C0 hG rfl (by omega) dX1_setWalk_37 ?_
      have b_37 := hk4 (jx)
      refine lv_istore_n (lv' := [(3, .int (nI (wk (jx)))), (0, .ref h), (1, .int (nI (jx))), (2, .int (nI (jy)))]) C0.1 C0.2.1 dX1_setWalk_38 rfl hl (by decide) rfl (fun ls hl => ?_)
      refine lv_aload_n C0.1 C0.2.1 dX1_setWalk_39 rfl (lv_at hl 1 rfl) ?_
      refine tgX1_walk C0 hF hG w_walk dX1_setWalk_40 ?_
      refine lv_iload_n C0.1 C0.2.1 dX1_setWalk_43 rfl (lv_at hl 2 rfl) ?_
      refine lv_iload_n C0.1 C0.2.1 dX1_setWalk_44 rfl (lv_at hl 3 rfl) ?_
      refine tc_ast (q0 := 4) C0 hG0 hG hS rfl (by omega) dX1_setWalk_45 (fun H locs hG hS => ?_)
      have hG : tcG D cI cJ N0 (wM h r1 r2 r3 r4 cI (nI (0)) tk co cn (va_up wk (jx) (jy)) n ho st ct sp Z) s H := hG
      refine lv_iload_n C0.1 C0.2.1 dX1_setWalk_46 rfl (lv_at hl 0 rfl) ?_
      exact tc_iret C0 hr hlk (tcG.eq (by rw [if_pos hcd0]) hG) hS rfl (by rw [if_pos hcd0]) (Nat.le_of_ble_eq_true rfl) (Nat.le_of_ble_eq_true rfl) dX1_setWalk_47
    · have hcd1 := cdK_2 c_10 c_23
      refine lv_aload_n C0.1 C0.2.1 dX1_setWalk_26 rfl (lv_at hl 0 rfl) ?_
      refine lv_iconst (v := nI 2) C0.1 C0.2.1 dX1_setWalk_27 (by decide) ?_
      refine tc_callV (q0 := 0) C0 hG hS rfl rfl (kX1_no hlf hk  (nI (2)) ) (cwV 1 C0.2.2.2.2 gX1_setWalk_X1_no rfl rfl rfl (by decide +kernel) ⟨(Nat.le_of_ble_eq_true rfl), (Nat.le_of_ble_eq_true rfl)⟩) rfl hl rfl (Nat.le_of_ble_eq_true rfl) dX1_setWalk_28 ⟨(Nat.le_of_ble_eq_true rfl), (Nat.le_of_ble_eq_true rfl)⟩ (fun H locs hG hS => ?_)
      have hG : tcG D cI cJ N0 (wM h r1 r2 r3 r4 cI ((nI (2))) tk co cn wk n ho st ct sp Z) s H := hG
      exact tc_iret C0 hr hlk (tcG.eq (by rw [if_neg (by rw [hcd1]; decide), hcd1]) hG) hS rfl (by rw [if_neg (by rw [hcd1]; decide)]) (Nat.le_of_ble_eq_true rfl) (Nat.le_of_ble_eq_true rfl) dX1_setWalk_31
  · have hcd1 := cdK_1 (x := y) (m := 6) c_10
    refine lv_aload_n C0.1 C0.2.1 dX1_setWalk_13 rfl (lv_at hl 0 rfl) ?_
    refine lv_iconst (v := nI 1) C0.1 C0.2.1 dX1_setWalk_14 (by decide) ?_
    refine tc_callV (q0 := 0) C0 hG hS rfl rfl (kX1_no hlf hk  (nI (1)) ) (cwV 1 C0.2.2.2.2 gX1_setWalk_X1_no rfl rfl rfl (by decide +kernel) ⟨(Nat.le_of_ble_eq_true rfl), (Nat.le_of_ble_eq_true rfl)⟩) rfl hl rfl (Nat.le_of_ble_eq_true rfl) dX1_setWalk_15 ⟨(Nat.le_of_ble_eq_true rfl), (Nat.le_of_ble_eq_true rfl)⟩ (fun H locs hG hS => ?_)
    have hG : tcG D cI cJ N0 (wM h r1 r2 r3 r4 cI ((nI (1))) tk co cn wk n ho st ct sp Z) s H := hG
    exact tc_iret C0 hr hlk (tcG.eq (by rw [if_neg (by rw [hcd1]; decide), hcd1]) hG) hS rfl (by rw [if_neg (by rw [hcd1]; decide)]) (Nat.le_of_ble_eq_true rfl) (Nat.le_of_ble_eq_true rfl) dX1_setWalk_18
set_option maxHeartbeats 4000000 in
set_option maxRecDepth 100000 in
theorem kX1_move {l : Launch} (hlf : l.stackTraces = false) {D : va_G} {cI cJ : ClassId} {N0 : Nat} {h r1 r2 r3 r4 : Nat} {tk co cn wk : Nat → Nat} {n st : Nat} {ho ct sp : Int32} {Z : va_W} {th : Int32} (hk : tOk tk co cn wk n st) (x : Int32) (y : Int32)  : tcM l yX1_move wsX1_move { frames := 2, cells := 0, slots := 0, locals := 43 } [] 0 [.ref h, .int (x), .int (y)] D cI cJ N0 (wM h r1 r2 r3 r4 cI th tk co cn wk n ho st ct sp Z) (some (.int (if cdMv x y cn n st = 0 then nI (way (cn (ix x)) (ix y)) else nI 0))) (if cdMv x y cn n st = 0 then wM h r1 r2 r3 r4 cI (nI 0) tk co (va_up cn (ix x) (ix y)) wk n ho (st - way (cn (ix x)) (ix y)) ct (sp + nI (way (cn (ix x)) (ix y))) Z else wM h r1 r2 r3 r4 cI (nI (cdMv x y cn n st)) tk co cn wk n ho st ct sp Z) 0 0 := by
  refine tcM.of (cc := cX1_move) (maxL := 4) (ret := (some .int)) (by decide) rfl (Nat.le_of_ble_eq_true rfl) ?_
  intro p e s m args below meth c C0 hr hlk ht hmn hG ls hl
  have hl : lv_has ls 4 [(0, .ref h), (1, .int (x)), (2, .int (y))] := hl
  obtain ⟨hk1, hk2, hk3, hk4, hn12, hst⟩ := id hk
  have hG0 := hG
  have hS : va_S (tcA N0) s.heap s.heap [] := va_S.rf
  have hF : ∀ w ∈ wsX10, w ∈ wsX1_move := by decide +kernel
  have w_corner : Cond.fieldLink RX1 16 "TicketCoincidencesModel" "corner" "[I" ∈ wsX1_move := by decide +kernel
  have w_store : Cond.fieldLink RX1 22 "TicketCoincidencesModel" "store" "I" ∈ wsX1_move := by decide +kernel
  have w_thrown : Cond.fieldLink RX1 26 "TicketCoincidencesModel" "thrown" "I" ∈ wsX1_move := by decide +kernel
  refine lv_aload_n C0.1 C0.2.1 dX1_move_0 rfl (lv_at hl 0 rfl) ?_
  refine lv_iconst (v := nI 0) C0.1 C0.2.1 dX1_move_1 (by decide) ?_
  refine tpX1_thrown C0 hF hG0 hG hS w_thrown dX1_move_2 (fun H locs hG hS => ?_)
  refine lv_aload_n C0.1 C0.2.1 dX1_move_5 rfl (lv_at hl 0 rfl) ?_
  refine lv_iload_n C0.1 C0.2.1 dX1_move_6 rfl (lv_at hl 1 rfl) ?_
  refine tc_callV (q0 := 0) C0 hG hS rfl rfl (kX1_isOne hlf hk  (x) ) (cwV 1 C0.2.2.2.2 gX1_move_X1_isOne rfl rfl rfl (by decide +kernel) ⟨(Nat.le_of_ble_eq_true rfl), (Nat.le_of_ble_eq_true rfl)⟩) rfl hl rfl (Nat.le_of_ble_eq_true rfl) dX1_move_7 ⟨(Nat.le_of_ble_eq_true rfl), (Nat.le_of_ble_eq_true rfl)⟩ (fun H locs hG hS => ?_)
  refine tb_if_ne (tgt := 19) C0.1 C0.2.1 dX1_move_10 (by decide) (fun c_10 => ?_) (fun c_10 => ?_)
  · refine lv_iload_n C0.1 C0.2.1 dX1_move_19 rfl (lv_at hl 2 rfl) ?_
    refine tc_callS C0 hG hS (kX1_isCorner hlf  (y) ) (va_cwS 1 C0.2.2.2.2 gX1_move_X1_isCorner rfl rfl rfl (by decide +kernel) ⟨(Nat.le_of_ble_eq_true rfl), (Nat.le_of_ble_eq_true rfl)⟩) rfl hl rfl (Nat.le_of_ble_eq_true rfl) dX1_move_20 ⟨(Nat.le_of_ble_eq_true rfl), (Nat.le_of_ble_eq_true rfl)⟩ (fun H locs hG hS => ?_)
    refine tb_if_ne (tgt := 32) C0.1 C0.2.1 dX1_move_23 (by decide) (fun c_23 => ?_) (fun c_23 => ?_)
    · have hcdK := cdK_0 c_10 c_23
      obtain ⟨jy, hjy, rfl⟩ := tcIn_of (by decide) c_23
      try simp only [ix_nI (show jy < 2 ^ 31 by omega)]
      obtain ⟨jx, hjx, rfl⟩ := tcIn_of (by omega) c_10
      try simp only [ix_nI (show jx < 2 ^ 31 by omega)]
      refine lv_iconst (v := nI 2) C0.1 C0.2.1 dX1_move_32 (by decide) ?_
      refine lv_aload_n C0.1 C0.2.1 dX1_move_33 rfl (lv_at hl 0 rfl) ?_
      refine tgX1_corner C0 hF hG w_corner dX1_move_34 ?_
      refine lv_iload_n C0.1 C0.2.1 dX1_move_37 rfl (lv_at hl 1 rfl) ?_
      refine tc_ald (q0 := 3) C0 hG rfl (by omega) dX1_move_38 ?_
      have b_38 := hk3 (jx)
      refine lv_iload_n C0.1 C0.2.1 dX1_move_39 rfl (lv_at hl 2 rfl) ?_
      refine tc_callS C0 hG hS (kX1_apart hlf  (cn (jx)) (jy) (by omega) (by omega)) (va_cwS 2 C0.2.2.2.2 gX1_move_X1_apart rfl rfl rfl (by decide +kernel) ⟨(Nat.le_of_ble_eq_true rfl), (Nat.le_of_ble_eq_true rfl)⟩) rfl hl rfl (Nat.le_of_ble_eq_true rfl) dX1_move_40 ⟨(Nat.le_of_ble_eq_true rfl), (Nat.le_of_ble_eq_true rfl)⟩ (fun H locs hG hS => ?_)
      have b_40 := apd_le (cn (jx)) jy (by omega) (by omega)
      refine tn_imul C0.1 C0.2.1 dX1_move_43 ?_
      refine lv_istore_n (lv' := [(3, .int (nI (2 * (apd (cn (jx)) jy)))), (0, .ref h), (1, .int (nI (jx))), (2, .int (nI (jy)))]) C0.1 C0.2.1 dX1_move_44 rfl hl (by decide) rfl (fun ls hl => ?_)
      refine lv_iload_n C0.1 C0.2.1 dX1_move_45 rfl (lv_at hl 0 rfl) ?_
      refine tn_if_eq (tgt := 57) C0.1 C0.2.1 dX1_move_46 (by decide) (by omega) (fun c_46 => ?_) (fun c_46 => ?_)
      · have hcd1 := cdMv_3 (st := st) hcdK (by omega) (by omega) (Or.inl (apd_0 (hk3 jx) hjy c_46))
        refine lv_aload_n C0.1 C0.2.1 dX1_move_57 rfl (lv_at hl 1 rfl) ?_
        refine lv_iconst (v := nI 3) C0.1 C0.2.1 dX1_move_58 (by decide) ?_
        refine tc_callV (q0 := 0) C0 hG hS rfl rfl (kX1_no hlf hk  (nI (3)) ) (cwV 1 C0.2.2.2.2 gX1_move_X1_no rfl rfl rfl (by decide +kernel) ⟨(Nat.le_of_ble_eq_true rfl), (Nat.le_of_ble_eq_true rfl)⟩) rfl hl rfl (Nat.le_of_ble_eq_true rfl) dX1_move_59 ⟨(Nat.le_of_ble_eq_true rfl), (Nat.le_of_ble_eq_true rfl)⟩ (fun H locs hG hS => ?_)
        have hG : tcG D cI cJ N0 (wM h r1 r2 r3 r4 cI ((nI (3))) tk co cn wk n ho st ct sp Z) s H := hG
        exact tc_iret C0 hr hlk (tcG.eq (by rw [if_neg (by rw [hcd1]; decide), hcd1]) hG) hS rfl (by rw [if_neg (by rw [hcd1]; decide)]) (Nat.le_of_ble_eq_true rfl) (Nat.le_of_ble_eq_true rfl) dX1_move_62
      · refine lv_iload_n C0.1 C0.2.1 dX1_move_49 rfl (lv_at hl 0 rfl) ?_
        refine lv_aload_n C0.1 C0.2.1 dX1_move_50 rfl (lv_at hl 1 rfl) ?_
        refine tgX1_store C0 hF hG w_store dX1_move_51 ?_
        refine tn_icmp_le (tgt := 63) C0.1 C0.2.1 dX1_move_54 (by decide) (by omega) (by omega) (fun c_54 => ?_) (fun c_54 => ?_)
        · have hcd0 := cdMv_0 hcdK (by omega) (by omega) (fun q => apd_ne (hk3 jx) hjy (Nat.ne_of_gt c_46) q) (show way (cn jx) jy ≤ st from c_54)
          refine lv_aload_n C0.1 C0.2.1 dX1_move_63 rfl (lv_at hl 1 rfl) ?_
          refine tgX1_corner C0 hF hG w_corner dX1_move_64 ?_
          refine lv_iload_n C0.1 C0.2.1 dX1_move_67 rfl (lv_at hl 2 rfl) ?_
          refine lv_iload_n C0.1 C0.2.1 dX1_move_68 rfl (lv_at hl 3 rfl) ?_
          refine tc_ast (q0 := 3) C0 hG0 hG hS rfl (by omega) dX1_move_69 (fun H locs hG hS => ?_)
          have hG : tcG D cI cJ N0 (wM h r1 r2 r3 r4 cI (nI (0)) tk co (va_up cn (jx) (jy)) wk n ho st ct sp Z) s H := hG
          have hk_c := hk.cn (up_lt (x := jy) hk3 hjy jx)
          refine lv_aload_n C0.1 C0.2.1 dX1_move_70 rfl (lv_at hl 1 rfl) ?_
          refine lv_iload_n C0.1 C0.2.1 dX1_move_71 rfl (lv_at hl 0 rfl) ?_
          refine tc_callV (q0 := 0) C0 hG hS rfl rfl (kX1_pay hlf hk_c  (2 * (apd (cn (jx)) jy)) (by omega)) (cwV 1 C0.2.2.2.2 gX1_move_X1_pay rfl rfl rfl (by decide +kernel) ⟨(Nat.le_of_ble_eq_true rfl), (Nat.le_of_ble_eq_true rfl)⟩) rfl hl rfl (Nat.le_of_ble_eq_true rfl) dX1_move_72 ⟨(Nat.le_of_ble_eq_true rfl), (Nat.le_of_ble_eq_true rfl)⟩ (fun H locs hG hS => ?_)
          have hG : tcG D cI cJ N0 (wM h r1 r2 r3 r4 cI (nI (0)) tk co (va_up cn (jx) (jy)) wk n ho (st - (2 * (apd (cn (jx)) jy))) ct (sp + nI (2 * (apd (cn (jx)) jy))) Z) s H := hG
          exact tc_iret C0 hr hlk (tcG.eq (by rw [if_pos hcd0] <;> rfl) hG) hS rfl (by rw [if_pos hcd0] <;> rfl) (Nat.le_of_ble_eq_true rfl) (Nat.le_of_ble_eq_true rfl) dX1_move_75
        · have hcd1 := cdMv_3 hcdK (by omega) (by omega) (Or.inr (show st < way (cn jx) jy from c_54))
          refine lv_aload_n C0.1 C0.2.1 dX1_move_57 rfl (lv_at hl 1 rfl) ?_
          refine lv_iconst (v := nI 3) C0.1 C0.2.1 dX1_move_58 (by decide) ?_
          refine tc_callV (q0 := 0) C0 hG hS rfl rfl (kX1_no hlf hk  (nI (3)) ) (cwV 1 C0.2.2.2.2 gX1_move_X1_no rfl rfl rfl (by decide +kernel) ⟨(Nat.le_of_ble_eq_true rfl), (Nat.le_of_ble_eq_true rfl)⟩) rfl hl rfl (Nat.le_of_ble_eq_true rfl) dX1_move_59 ⟨(Nat.le_of_ble_eq_true rfl), (Nat.le_of_ble_eq_true rfl)⟩ (fun H locs hG hS => ?_)
          have hG : tcG D cI cJ N0 (wM h r1 r2 r3 r4 cI ((nI (3))) tk co cn wk n ho st ct sp Z) s H := hG
          exact tc_iret C0 hr hlk (tcG.eq (by rw [if_neg (by rw [hcd1]; decide), hcd1]) hG) hS rfl (by rw [if_neg (by rw [hcd1]; decide)]) (Nat.le_of_ble_eq_true rfl) (Nat.le_of_ble_eq_true rfl) dX1_move_62
    · have hcd1 : cdMv x y cn n st = 2 := cd_out (i := 1) (cdK_2 c_10 c_23)
      refine lv_aload_n C0.1 C0.2.1 dX1_move_26 rfl (lv_at hl 0 rfl) ?_
      refine lv_iconst (v := nI 2) C0.1 C0.2.1 dX1_move_27 (by decide) ?_
      refine tc_callV (q0 := 0) C0 hG hS rfl rfl (kX1_no hlf hk  (nI (2)) ) (cwV 1 C0.2.2.2.2 gX1_move_X1_no rfl rfl rfl (by decide +kernel) ⟨(Nat.le_of_ble_eq_true rfl), (Nat.le_of_ble_eq_true rfl)⟩) rfl hl rfl (Nat.le_of_ble_eq_true rfl) dX1_move_28 ⟨(Nat.le_of_ble_eq_true rfl), (Nat.le_of_ble_eq_true rfl)⟩ (fun H locs hG hS => ?_)
      have hG : tcG D cI cJ N0 (wM h r1 r2 r3 r4 cI ((nI (2))) tk co cn wk n ho st ct sp Z) s H := hG
      exact tc_iret C0 hr hlk (tcG.eq (by rw [if_neg (by rw [hcd1]; decide), hcd1]) hG) hS rfl (by rw [if_neg (by rw [hcd1]; decide)]) (Nat.le_of_ble_eq_true rfl) (Nat.le_of_ble_eq_true rfl) dX1_move_31
  · have hcd1 : cdMv x y cn n st = 1 := cd_out (i := 0) (cdK_1 c_10)
    refine lv_aload_n C0.1 C0.2.1 dX1_move_13 rfl (lv_at hl 0 rfl) ?_
    refine lv_iconst (v := nI 1) C0.1 C0.2.1 dX1_move_14 (by decide) ?_
    refine tc_callV (q0 := 0) C0 hG hS rfl rfl (kX1_no hlf hk  (nI (1)) ) (cwV 1 C0.2.2.2.2 gX1_move_X1_no rfl rfl rfl (by decide +kernel) ⟨(Nat.le_of_ble_eq_true rfl), (Nat.le_of_ble_eq_true rfl)⟩) rfl hl rfl (Nat.le_of_ble_eq_true rfl) dX1_move_15 ⟨(Nat.le_of_ble_eq_true rfl), (Nat.le_of_ble_eq_true rfl)⟩ (fun H locs hG hS => ?_)
    have hG : tcG D cI cJ N0 (wM h r1 r2 r3 r4 cI ((nI (1))) tk co cn wk n ho st ct sp Z) s H := hG
    exact tc_iret C0 hr hlk (tcG.eq (by rw [if_neg (by rw [hcd1]; decide), hcd1]) hG) hS rfl (by rw [if_neg (by rw [hcd1]; decide)]) (Nat.le_of_ble_eq_true rfl) (Nat.le_of_ble_eq_true rfl) dX1_move_18
set_option maxHeartbeats 4000000 in
set_option maxRecDepth 100000 in
theorem kX1_draw {l : Launch} (hlf : l.stackTraces = false) {D : va_G} {cI cJ : ClassId} {N0 : Nat} {h r1 r2 r3 r4 : Nat} {tk co cn wk : Nat → Nat} {n st : Nat} {ho ct sp : Int32} {Z : va_W} {th : Int32} (hk : tOk tk co cn wk n st) (x : Int32) (y : Int32)  : tcM l yX1_draw wsX1_draw { frames := 2, cells := 0, slots := 0, locals := 43 } [] 0 [.ref h, .int (x), .int (y)] D cI cJ N0 (wM h r1 r2 r3 r4 cI th tk co cn wk n ho st ct sp Z) (some (.int (if cdDr x y n st = 0 then nI (tk (ix x)) else nI 0))) (if cdDr x y n st = 0 then wM h r1 r2 r3 r4 cI (nI 0) (va_up tk (ix x) (ix y)) co cn wk n ho (st - 12) ct (sp + nI 12) Z else wM h r1 r2 r3 r4 cI (nI (cdDr x y n st)) tk co cn wk n ho st ct sp Z) 0 0 := by
  refine tcM.of (cc := cX1_draw) (maxL := 4) (ret := (some .int)) (by decide) rfl (Nat.le_of_ble_eq_true rfl) ?_
  intro p e s m args below meth c C0 hr hlk ht hmn hG ls hl
  have hl : lv_has ls 4 [(0, .ref h), (1, .int (x)), (2, .int (y))] := hl
  obtain ⟨hk1, hk2, hk3, hk4, hn12, hst⟩ := id hk
  have hG0 := hG
  have hS : va_S (tcA N0) s.heap s.heap [] := va_S.rf
  have hF : ∀ w ∈ wsX10, w ∈ wsX1_draw := by decide +kernel
  have w_store : Cond.fieldLink RX1 22 "TicketCoincidencesModel" "store" "I" ∈ wsX1_draw := by decide +kernel
  have w_thrown : Cond.fieldLink RX1 26 "TicketCoincidencesModel" "thrown" "I" ∈ wsX1_draw := by decide +kernel
  have w_ticket : Cond.fieldLink RX1 9 "TicketCoincidencesModel" "ticket" "[I" ∈ wsX1_draw := by decide +kernel
  refine lv_aload_n C0.1 C0.2.1 dX1_draw_0 rfl (lv_at hl 0 rfl) ?_
  refine lv_iconst (v := nI 0) C0.1 C0.2.1 dX1_draw_1 (by decide) ?_
  refine tpX1_thrown C0 hF hG0 hG hS w_thrown dX1_draw_2 (fun H locs hG hS => ?_)
  refine lv_aload_n C0.1 C0.2.1 dX1_draw_5 rfl (lv_at hl 0 rfl) ?_
  refine lv_iload_n C0.1 C0.2.1 dX1_draw_6 rfl (lv_at hl 1 rfl) ?_
  refine tc_callV (q0 := 0) C0 hG hS rfl rfl (kX1_isOne hlf hk  (x) ) (cwV 1 C0.2.2.2.2 gX1_draw_X1_isOne rfl rfl rfl (by decide +kernel) ⟨(Nat.le_of_ble_eq_true rfl), (Nat.le_of_ble_eq_true rfl)⟩) rfl hl rfl (Nat.le_of_ble_eq_true rfl) dX1_draw_7 ⟨(Nat.le_of_ble_eq_true rfl), (Nat.le_of_ble_eq_true rfl)⟩ (fun H locs hG hS => ?_)
  refine tb_if_ne (tgt := 19) C0.1 C0.2.1 dX1_draw_10 (by decide) (fun c_10 => ?_) (fun c_10 => ?_)
  · refine lv_iload_n C0.1 C0.2.1 dX1_draw_19 rfl (lv_at hl 2 rfl) ?_
    refine lv_iconst (v := nI 0) C0.1 C0.2.1 dX1_draw_20 (by decide) ?_
    refine lv_bipush (v := nI 99) C0.1 C0.2.1 dX1_draw_21 (by decide) ?_
    refine tc_callS C0 hG hS (kX1_isIn hlf  (y) (nI (0)) (nI (99)) ) (va_cwS 3 C0.2.2.2.2 gX1_draw_X1_isIn rfl rfl rfl (by decide +kernel) ⟨(Nat.le_of_ble_eq_true rfl), (Nat.le_of_ble_eq_true rfl)⟩) rfl hl rfl (Nat.le_of_ble_eq_true rfl) dX1_draw_23 ⟨(Nat.le_of_ble_eq_true rfl), (Nat.le_of_ble_eq_true rfl)⟩ (fun H locs hG hS => ?_)
    refine tc_top (x := nI (b2n (isInb y (nI (0)) (nI (99))))) (y := nI (b2n (tcIn y 100))) (congrArg (fun b => nI (b2n b)) (show isInb y (nI 0) (nI 99) = tcIn y 100 from isInb_M (n := 100) (by decide))) ?_
    refine tb_if_ne (tgt := 35) C0.1 C0.2.1 dX1_draw_26 (by decide) (fun c_26 => ?_) (fun c_26 => ?_)
    · refine lv_aload_n C0.1 C0.2.1 dX1_draw_35 rfl (lv_at hl 0 rfl) ?_
      refine tgX1_store C0 hF hG w_store dX1_draw_36 ?_
      refine lv_bipush (v := nI 12) C0.1 C0.2.1 dX1_draw_39 (by decide) ?_
      refine tn_icmp_ge (tgt := 50) C0.1 C0.2.1 dX1_draw_41 (by decide) (by omega) (by omega) (fun c_41 => ?_) (fun c_41 => ?_)
      · have hcd0 : cdDr x y n st = 0 := (cd_in (cdK_0 c_10 c_26)).trans (cdC_y c_41)
        obtain ⟨jy, hjy, rfl⟩ := tcIn_of (by decide) c_26
        try simp only [ix_nI (show jy < 2 ^ 31 by omega)]
        obtain ⟨jx, hjx, rfl⟩ := tcIn_of (by omega) c_10
        try simp only [ix_nI (show jx < 2 ^ 31 by omega)]
        refine lv_aload_n C0.1 C0.2.1 dX1_draw_50 rfl (lv_at hl 0 rfl) ?_
        refine lv_bipush (v := nI 12) C0.1 C0.2.1 dX1_draw_51 (by decide) ?_
        refine tc_callV (q0 := 0) C0 hG hS rfl rfl (kX1_pay hlf hk  (12) (by omega)) (cwV 1 C0.2.2.2.2 gX1_draw_X1_pay rfl rfl rfl (by decide +kernel) ⟨(Nat.le_of_ble_eq_true rfl), (Nat.le_of_ble_eq_true rfl)⟩) rfl hl rfl (Nat.le_of_ble_eq_true rfl) dX1_draw_53 ⟨(Nat.le_of_ble_eq_true rfl), (Nat.le_of_ble_eq_true rfl)⟩ (fun H locs hG hS => ?_)
        have hG : tcG D cI cJ N0 (wM h r1 r2 r3 r4 cI (nI (0)) tk co cn wk n ho (st - 12) ct (sp + nI 12) Z) s H := hG
        refine lv_pop C0.1 C0.2.1 dX1_draw_56 rfl ?_
        refine lv_aload_n C0.1 C0.2.1 dX1_draw_57 rfl (lv_at hl 0 rfl) ?_
        refine tgX1_ticket C0 hF hG w_ticket dX1_draw_58 ?_
        refine lv_iload_n C0.1 C0.2.1 dX1_draw_61 rfl (lv_at hl 1 rfl) ?_
        refine tc_ald (q0 := 1) C0 hG rfl (by omega) dX1_draw_62 ?_
        have b_62 := hk1 (jx)
        refine lv_istore_n (lv' := [(3, .int (nI (tk (jx)))), (0, .ref h), (1, .int (nI (jx))), (2, .int (nI (jy)))]) C0.1 C0.2.1 dX1_draw_63 rfl hl (by decide) rfl (fun ls hl => ?_)
        refine lv_aload_n C0.1 C0.2.1 dX1_draw_64 rfl (lv_at hl 1 rfl) ?_
        refine tgX1_ticket C0 hF hG w_ticket dX1_draw_65 ?_
        refine lv_iload_n C0.1 C0.2.1 dX1_draw_68 rfl (lv_at hl 2 rfl) ?_
        refine lv_iload_n C0.1 C0.2.1 dX1_draw_69 rfl (lv_at hl 3 rfl) ?_
        refine tc_ast (q0 := 1) C0 hG0 hG hS rfl (by omega) dX1_draw_70 (fun H locs hG hS => ?_)
        have hG : tcG D cI cJ N0 (wM h r1 r2 r3 r4 cI (nI (0)) (va_up tk (jx) (jy)) co cn wk n ho (st - 12) ct (sp + nI 12) Z) s H := hG
        refine lv_iload_n C0.1 C0.2.1 dX1_draw_71 rfl (lv_at hl 0 rfl) ?_
        exact tc_iret C0 hr hlk (tcG.eq (by rw [if_pos hcd0]) hG) hS rfl (by rw [if_pos hcd0]) (Nat.le_of_ble_eq_true rfl) (Nat.le_of_ble_eq_true rfl) dX1_draw_72
      · have hcd1 : cdDr x y n st = 3 := (cd_in (cdK_0 c_10 c_26)).trans (cdC_n c_41)
        refine lv_aload_n C0.1 C0.2.1 dX1_draw_44 rfl (lv_at hl 0 rfl) ?_
        refine lv_iconst (v := nI 3) C0.1 C0.2.1 dX1_draw_45 (by decide) ?_
        refine tc_callV (q0 := 0) C0 hG hS rfl rfl (kX1_no hlf hk  (nI (3)) ) (cwV 1 C0.2.2.2.2 gX1_draw_X1_no rfl rfl rfl (by decide +kernel) ⟨(Nat.le_of_ble_eq_true rfl), (Nat.le_of_ble_eq_true rfl)⟩) rfl hl rfl (Nat.le_of_ble_eq_true rfl) dX1_draw_46 ⟨(Nat.le_of_ble_eq_true rfl), (Nat.le_of_ble_eq_true rfl)⟩ (fun H locs hG hS => ?_)
        have hG : tcG D cI cJ N0 (wM h r1 r2 r3 r4 cI ((nI (3))) tk co cn wk n ho st ct sp Z) s H := hG
        exact tc_iret C0 hr hlk (tcG.eq (by rw [if_neg (by rw [hcd1]; decide), hcd1]) hG) hS rfl (by rw [if_neg (by rw [hcd1]; decide)]) (Nat.le_of_ble_eq_true rfl) (Nat.le_of_ble_eq_true rfl) dX1_draw_49
    · have hcd1 : cdDr x y n st = 2 := cd_out (i := 1) (cdK_2 c_10 c_26)
      refine lv_aload_n C0.1 C0.2.1 dX1_draw_29 rfl (lv_at hl 0 rfl) ?_
      refine lv_iconst (v := nI 2) C0.1 C0.2.1 dX1_draw_30 (by decide) ?_
      refine tc_callV (q0 := 0) C0 hG hS rfl rfl (kX1_no hlf hk  (nI (2)) ) (cwV 1 C0.2.2.2.2 gX1_draw_X1_no rfl rfl rfl (by decide +kernel) ⟨(Nat.le_of_ble_eq_true rfl), (Nat.le_of_ble_eq_true rfl)⟩) rfl hl rfl (Nat.le_of_ble_eq_true rfl) dX1_draw_31 ⟨(Nat.le_of_ble_eq_true rfl), (Nat.le_of_ble_eq_true rfl)⟩ (fun H locs hG hS => ?_)
      have hG : tcG D cI cJ N0 (wM h r1 r2 r3 r4 cI ((nI (2))) tk co cn wk n ho st ct sp Z) s H := hG
      exact tc_iret C0 hr hlk (tcG.eq (by rw [if_neg (by rw [hcd1]; decide), hcd1]) hG) hS rfl (by rw [if_neg (by rw [hcd1]; decide)]) (Nat.le_of_ble_eq_true rfl) (Nat.le_of_ble_eq_true rfl) dX1_draw_34
  · have hcd1 : cdDr x y n st = 1 := cd_out (i := 0) (cdK_1 c_10)
    refine lv_aload_n C0.1 C0.2.1 dX1_draw_13 rfl (lv_at hl 0 rfl) ?_
    refine lv_iconst (v := nI 1) C0.1 C0.2.1 dX1_draw_14 (by decide) ?_
    refine tc_callV (q0 := 0) C0 hG hS rfl rfl (kX1_no hlf hk  (nI (1)) ) (cwV 1 C0.2.2.2.2 gX1_draw_X1_no rfl rfl rfl (by decide +kernel) ⟨(Nat.le_of_ble_eq_true rfl), (Nat.le_of_ble_eq_true rfl)⟩) rfl hl rfl (Nat.le_of_ble_eq_true rfl) dX1_draw_15 ⟨(Nat.le_of_ble_eq_true rfl), (Nat.le_of_ble_eq_true rfl)⟩ (fun H locs hG hS => ?_)
    have hG : tcG D cI cJ N0 (wM h r1 r2 r3 r4 cI ((nI (1))) tk co cn wk n ho st ct sp Z) s H := hG
    exact tc_iret C0 hr hlk (tcG.eq (by rw [if_neg (by rw [hcd1]; decide), hcd1]) hG) hS rfl (by rw [if_neg (by rw [hcd1]; decide)]) (Nat.le_of_ble_eq_true rfl) (Nat.le_of_ble_eq_true rfl) dX1_draw_18
set_option maxHeartbeats 4000000 in
set_option maxRecDepth 100000 in
theorem kX1_swapUmbrellas {l : Launch} (hlf : l.stackTraces = false) {D : va_G} {cI cJ : ClassId} {N0 : Nat} {h r1 r2 r3 r4 : Nat} {tk co cn wk : Nat → Nat} {n st : Nat} {ho ct sp : Int32} {Z : va_W} {th : Int32} (hk : tOk tk co cn wk n st) (x : Int32) (y : Int32)  : tcM l yX1_swapUmbrellas wsX1_swapUmbrellas { frames := 5, cells := 0, slots := 0, locals := 115 } [] 0 [.ref h, .int (x), .int (y)] D cI cJ N0 (wM h r1 r2 r3 r4 cI th tk co cn wk n ho st ct sp Z) (some (.int (if cdSu x y cn n st = 0 then (nI (tw tk (swp co (ix x) (ix y)) cn wk 0 n) - nI (tw tk co cn wk 0 n)) else nI 0))) (if cdSu x y cn n st = 0 then wM h r1 r2 r3 r4 cI (nI 0) tk (swp co (ix x) (ix y)) cn wk n ho (st - 3) ct (sp + nI 3) Z else wM h r1 r2 r3 r4 cI (nI (cdSu x y cn n st)) tk co cn wk n ho st ct sp Z) 0 0 := by
  refine tcM.of (cc := cX1_swapUmbrellas) (maxL := 3) (ret := (some .int)) (by decide) rfl (Nat.le_of_ble_eq_true rfl) ?_
  intro p e s m args below meth c C0 hr hlk ht hmn hG ls hl
  have hl : lv_has ls 3 [(0, .ref h), (1, .int (x)), (2, .int (y))] := hl
  obtain ⟨hk1, hk2, hk3, hk4, hn12, hst⟩ := id hk
  have hG0 := hG
  have hS : va_S (tcA N0) s.heap s.heap [] := va_S.rf
  have hF : ∀ w ∈ wsX10, w ∈ wsX1_swapUmbrellas := by decide +kernel
  have w_colour : Cond.fieldLink RX1 13 "TicketCoincidencesModel" "colour" "[I" ∈ wsX1_swapUmbrellas := by decide +kernel
  have w_corner : Cond.fieldLink RX1 16 "TicketCoincidencesModel" "corner" "[I" ∈ wsX1_swapUmbrellas := by decide +kernel
  have w_store : Cond.fieldLink RX1 22 "TicketCoincidencesModel" "store" "I" ∈ wsX1_swapUmbrellas := by decide +kernel
  have w_thrown : Cond.fieldLink RX1 26 "TicketCoincidencesModel" "thrown" "I" ∈ wsX1_swapUmbrellas := by decide +kernel
  refine lv_aload_n C0.1 C0.2.1 dX1_swapUmbrellas_0 rfl (lv_at hl 0 rfl) ?_
  refine lv_aload_n C0.1 C0.2.1 dX1_swapUmbrellas_1 rfl (lv_at hl 0 rfl) ?_
  refine lv_iload_n C0.1 C0.2.1 dX1_swapUmbrellas_2 rfl (lv_at hl 1 rfl) ?_
  refine lv_iload_n C0.1 C0.2.1 dX1_swapUmbrellas_3 rfl (lv_at hl 2 rfl) ?_
  refine tc_callV (q0 := 0) C0 hG hS rfl rfl (kX1_wrongPair hlf hk  (x) (y) ) (cwV 2 C0.2.2.2.2 gX1_swapUmbrellas_X1_wrongPair rfl rfl rfl (by decide +kernel) ⟨(Nat.le_of_ble_eq_true rfl), (Nat.le_of_ble_eq_true rfl)⟩) rfl hl rfl (Nat.le_of_ble_eq_true rfl) dX1_swapUmbrellas_4 ⟨(Nat.le_of_ble_eq_true rfl), (Nat.le_of_ble_eq_true rfl)⟩ (fun H locs hG hS => ?_)
  refine tpX1_thrown C0 hF hG0 hG hS w_thrown dX1_swapUmbrellas_7 (fun H locs hG hS => ?_)
  refine lv_aload_n C0.1 C0.2.1 dX1_swapUmbrellas_10 rfl (lv_at hl 0 rfl) ?_
  refine tgX1_thrown C0 hF hG w_thrown dX1_swapUmbrellas_11 ?_
  have b_cd := cdP_le x y n
  refine tn_if_le (tgt := 19) C0.1 C0.2.1 dX1_swapUmbrellas_14 (by decide) (by omega) (fun c_14 => ?_) (fun c_14 => ?_)
  · obtain ⟨pa, pb, pn⟩ := cdP_ok c_14
    obtain ⟨jx, hjx, rfl⟩ := tcIn_of (by omega) pa
    try simp only [ix_nI (show jx < 2 ^ 31 by omega)]
    obtain ⟨jy, hjy, rfl⟩ := tcIn_of (by omega) pb
    try simp only [ix_nI (show jy < 2 ^ 31 by omega)]
    refine lv_aload_n C0.1 C0.2.1 dX1_swapUmbrellas_19 rfl (lv_at hl 0 rfl) ?_
    refine tgX1_corner C0 hF hG w_corner dX1_swapUmbrellas_20 ?_
    refine lv_iload_n C0.1 C0.2.1 dX1_swapUmbrellas_23 rfl (lv_at hl 1 rfl) ?_
    refine tc_ald (q0 := 3) C0 hG rfl (by omega) dX1_swapUmbrellas_24 ?_
    have b_24 := hk3 (jx)
    refine lv_aload_n C0.1 C0.2.1 dX1_swapUmbrellas_25 rfl (lv_at hl 0 rfl) ?_
    refine tgX1_corner C0 hF hG w_corner dX1_swapUmbrellas_26 ?_
    refine lv_iload_n C0.1 C0.2.1 dX1_swapUmbrellas_29 rfl (lv_at hl 2 rfl) ?_
    refine tc_ald (q0 := 3) C0 hG rfl (by omega) dX1_swapUmbrellas_30 ?_
    have b_30 := hk3 (jy)
    refine tn_icmp_ne (tgt := 42) C0.1 C0.2.1 dX1_swapUmbrellas_31 (by decide) (by omega) (by omega) (fun c_31 => ?_) (fun c_31 => ?_)
    · have hcd1 := cdSu_3 (cn := cn) (st := st) c_14 (by omega) (by omega) (fun q => c_31 q.1)
      refine lv_aload_n C0.1 C0.2.1 dX1_swapUmbrellas_42 rfl (lv_at hl 0 rfl) ?_
      refine lv_iconst (v := nI 3) C0.1 C0.2.1 dX1_swapUmbrellas_43 (by decide) ?_
      refine tc_callV (q0 := 0) C0 hG hS rfl rfl (kX1_no hlf hk  (nI (3)) ) (cwV 1 C0.2.2.2.2 gX1_swapUmbrellas_X1_no rfl rfl rfl (by decide +kernel) ⟨(Nat.le_of_ble_eq_true rfl), (Nat.le_of_ble_eq_true rfl)⟩) rfl hl rfl (Nat.le_of_ble_eq_true rfl) dX1_swapUmbrellas_44 ⟨(Nat.le_of_ble_eq_true rfl), (Nat.le_of_ble_eq_true rfl)⟩ (fun H locs hG hS => ?_)
      have hG : tcG D cI cJ N0 (wM h r1 r2 r3 r4 cI ((nI (3))) tk co cn wk n ho st ct sp Z) s H := hG
      exact tc_iret C0 hr hlk (tcG.eq (by rw [if_neg (by rw [hcd1]; decide), hcd1]) hG) hS rfl (by rw [if_neg (by rw [hcd1]; decide)]) (Nat.le_of_ble_eq_true rfl) (Nat.le_of_ble_eq_true rfl) dX1_swapUmbrellas_47
    · refine lv_aload_n C0.1 C0.2.1 dX1_swapUmbrellas_34 rfl (lv_at hl 0 rfl) ?_
      refine tgX1_store C0 hF hG w_store dX1_swapUmbrellas_35 ?_
      refine lv_iconst (v := nI 3) C0.1 C0.2.1 dX1_swapUmbrellas_38 (by decide) ?_
      refine tn_icmp_ge (tgt := 48) C0.1 C0.2.1 dX1_swapUmbrellas_39 (by decide) (by omega) (by omega) (fun c_39 => ?_) (fun c_39 => ?_)
      · have hcd0 := cdSu_0 (cn := cn) c_14 (by omega) (by omega) c_31 c_39
        refine lv_aload_n C0.1 C0.2.1 dX1_swapUmbrellas_48 rfl (lv_at hl 0 rfl) ?_
        refine lv_iconst (v := nI 3) C0.1 C0.2.1 dX1_swapUmbrellas_49 (by decide) ?_
        refine tc_callV (q0 := 0) C0 hG hS rfl rfl (kX1_pay hlf hk  (3) (by omega)) (cwV 1 C0.2.2.2.2 gX1_swapUmbrellas_X1_pay rfl rfl rfl (by decide +kernel) ⟨(Nat.le_of_ble_eq_true rfl), (Nat.le_of_ble_eq_true rfl)⟩) rfl hl rfl (Nat.le_of_ble_eq_true rfl) dX1_swapUmbrellas_50 ⟨(Nat.le_of_ble_eq_true rfl), (Nat.le_of_ble_eq_true rfl)⟩ (fun H locs hG hS => ?_)
        have hG : tcG D cI cJ N0 (wM h r1 r2 r3 r4 cI (nI (cdP (nI jx) (nI jy) n)) tk co cn wk n ho (st - 3) ct (sp + nI 3) Z) s H := hG
        have hk_p := hk.st (show st - 3 ≤ 100 by omega)
        refine lv_pop C0.1 C0.2.1 dX1_swapUmbrellas_53 rfl ?_
        refine lv_aload_n C0.1 C0.2.1 dX1_swapUmbrellas_54 rfl (lv_at hl 0 rfl) ?_
        refine lv_aload_n C0.1 C0.2.1 dX1_swapUmbrellas_55 rfl (lv_at hl 0 rfl) ?_
        refine tgX1_colour C0 hF hG w_colour dX1_swapUmbrellas_56 ?_
        refine lv_iload_n C0.1 C0.2.1 dX1_swapUmbrellas_59 rfl (lv_at hl 1 rfl) ?_
        refine lv_iload_n C0.1 C0.2.1 dX1_swapUmbrellas_60 rfl (lv_at hl 2 rfl) ?_
        refine tc_callV (q0 := 0) C0 hG hS rfl rfl (kX1_swapped_co hlf hk_p  (jx) (jy) (by omega) (by omega)) (cwV 3 C0.2.2.2.2 gX1_swapUmbrellas_X1_swapped rfl rfl rfl (by decide +kernel) ⟨(Nat.le_of_ble_eq_true rfl), (Nat.le_of_ble_eq_true rfl)⟩) rfl hl rfl (Nat.le_of_ble_eq_true rfl) dX1_swapUmbrellas_61 ⟨(Nat.le_of_ble_eq_true rfl), (Nat.le_of_ble_eq_true rfl)⟩ (fun H locs hG hS => ?_)
        have hG : tcG D cI cJ N0 (wM h r1 r2 r3 r4 cI (nI (cdP (nI jx) (nI jy) n)) tk (swp co jx jy) cn wk n ho (st - 3) ct (sp + nI 3) Z) s H := hG
        exact tc_iret C0 hr hlk (tcG.eq (by rw [if_pos hcd0, c_14]) hG) hS rfl (by rw [if_pos hcd0]) (Nat.le_of_ble_eq_true rfl) (Nat.le_of_ble_eq_true rfl) dX1_swapUmbrellas_64
      · have hcd1 := cdSu_3 (cn := cn) (st := st) c_14 (by omega) (by omega) (fun q => by omega)
        refine lv_aload_n C0.1 C0.2.1 dX1_swapUmbrellas_42 rfl (lv_at hl 0 rfl) ?_
        refine lv_iconst (v := nI 3) C0.1 C0.2.1 dX1_swapUmbrellas_43 (by decide) ?_
        refine tc_callV (q0 := 0) C0 hG hS rfl rfl (kX1_no hlf hk  (nI (3)) ) (cwV 1 C0.2.2.2.2 gX1_swapUmbrellas_X1_no rfl rfl rfl (by decide +kernel) ⟨(Nat.le_of_ble_eq_true rfl), (Nat.le_of_ble_eq_true rfl)⟩) rfl hl rfl (Nat.le_of_ble_eq_true rfl) dX1_swapUmbrellas_44 ⟨(Nat.le_of_ble_eq_true rfl), (Nat.le_of_ble_eq_true rfl)⟩ (fun H locs hG hS => ?_)
        have hG : tcG D cI cJ N0 (wM h r1 r2 r3 r4 cI ((nI (3))) tk co cn wk n ho st ct sp Z) s H := hG
        exact tc_iret C0 hr hlk (tcG.eq (by rw [if_neg (by rw [hcd1]; decide), hcd1]) hG) hS rfl (by rw [if_neg (by rw [hcd1]; decide)]) (Nat.le_of_ble_eq_true rfl) (Nat.le_of_ble_eq_true rfl) dX1_swapUmbrellas_47
  · have hcd1 : cdSu x y cn n st = cdP x y n := if_neg (by omega)
    refine lv_iconst (v := nI 0) C0.1 C0.2.1 dX1_swapUmbrellas_17 (by decide) ?_
    exact tc_iret C0 hr hlk (tcG.eq (by rw [if_neg (by rw [hcd1]; omega), hcd1]) hG) hS rfl (by rw [if_neg (by rw [hcd1]; omega)]) (Nat.le_of_ble_eq_true rfl) (Nat.le_of_ble_eq_true rfl) dX1_swapUmbrellas_18
set_option maxHeartbeats 4000000 in
set_option maxRecDepth 100000 in
theorem kX1_swapTickets {l : Launch} (hlf : l.stackTraces = false) {D : va_G} {cI cJ : ClassId} {N0 : Nat} {h r1 r2 r3 r4 : Nat} {tk co cn wk : Nat → Nat} {n st : Nat} {ho ct sp : Int32} {Z : va_W} {th : Int32} (hk : tOk tk co cn wk n st) (x : Int32) (y : Int32)  : tcM l yX1_swapTickets wsX1_swapTickets { frames := 5, cells := 0, slots := 0, locals := 115 } [] 0 [.ref h, .int (x), .int (y)] D cI cJ N0 (wM h r1 r2 r3 r4 cI th tk co cn wk n ho st ct sp Z) (some (.int (if cdSt x y n st = 0 then (nI (tw (swp tk (ix x) (ix y)) co cn wk 0 n) - nI (tw tk co cn wk 0 n)) else nI 0))) (if cdSt x y n st = 0 then wM h r1 r2 r3 r4 cI (nI 0) (swp tk (ix x) (ix y)) co cn wk n ho (st - 8) ct (sp + nI 8) Z else wM h r1 r2 r3 r4 cI (nI (cdSt x y n st)) tk co cn wk n ho st ct sp Z) 0 0 := by
  refine tcM.of (cc := cX1_swapTickets) (maxL := 3) (ret := (some .int)) (by decide) rfl (Nat.le_of_ble_eq_true rfl) ?_
  intro p e s m args below meth c C0 hr hlk ht hmn hG ls hl
  have hl : lv_has ls 3 [(0, .ref h), (1, .int (x)), (2, .int (y))] := hl
  obtain ⟨hk1, hk2, hk3, hk4, hn12, hst⟩ := id hk
  have hG0 := hG
  have hS : va_S (tcA N0) s.heap s.heap [] := va_S.rf
  have hF : ∀ w ∈ wsX10, w ∈ wsX1_swapTickets := by decide +kernel
  have w_store : Cond.fieldLink RX1 22 "TicketCoincidencesModel" "store" "I" ∈ wsX1_swapTickets := by decide +kernel
  have w_thrown : Cond.fieldLink RX1 26 "TicketCoincidencesModel" "thrown" "I" ∈ wsX1_swapTickets := by decide +kernel
  have w_ticket : Cond.fieldLink RX1 9 "TicketCoincidencesModel" "ticket" "[I" ∈ wsX1_swapTickets := by decide +kernel
  refine lv_aload_n C0.1 C0.2.1 dX1_swapTickets_0 rfl (lv_at hl 0 rfl) ?_
  refine lv_aload_n C0.1 C0.2.1 dX1_swapTickets_1 rfl (lv_at hl 0 rfl) ?_
  refine lv_iload_n C0.1 C0.2.1 dX1_swapTickets_2 rfl (lv_at hl 1 rfl) ?_
  refine lv_iload_n C0.1 C0.2.1 dX1_swapTickets_3 rfl (lv_at hl 2 rfl) ?_
  refine tc_callV (q0 := 0) C0 hG hS rfl rfl (kX1_wrongPair hlf hk  (x) (y) ) (cwV 2 C0.2.2.2.2 gX1_swapTickets_X1_wrongPair rfl rfl rfl (by decide +kernel) ⟨(Nat.le_of_ble_eq_true rfl), (Nat.le_of_ble_eq_true rfl)⟩) rfl hl rfl (Nat.le_of_ble_eq_true rfl) dX1_swapTickets_4 ⟨(Nat.le_of_ble_eq_true rfl), (Nat.le_of_ble_eq_true rfl)⟩ (fun H locs hG hS => ?_)
  refine tpX1_thrown C0 hF hG0 hG hS w_thrown dX1_swapTickets_7 (fun H locs hG hS => ?_)
  refine lv_aload_n C0.1 C0.2.1 dX1_swapTickets_10 rfl (lv_at hl 0 rfl) ?_
  refine tgX1_thrown C0 hF hG w_thrown dX1_swapTickets_11 ?_
  have b_cd := cdP_le x y n
  refine tn_if_le (tgt := 19) C0.1 C0.2.1 dX1_swapTickets_14 (by decide) (by omega) (fun c_14 => ?_) (fun c_14 => ?_)
  · obtain ⟨pa, pb, pn⟩ := cdP_ok c_14
    obtain ⟨jx, hjx, rfl⟩ := tcIn_of (by omega) pa
    try simp only [ix_nI (show jx < 2 ^ 31 by omega)]
    obtain ⟨jy, hjy, rfl⟩ := tcIn_of (by omega) pb
    try simp only [ix_nI (show jy < 2 ^ 31 by omega)]
    refine lv_aload_n C0.1 C0.2.1 dX1_swapTickets_19 rfl (lv_at hl 0 rfl) ?_
    refine tgX1_store C0 hF hG w_store dX1_swapTickets_20 ?_
    refine lv_bipush (v := nI 8) C0.1 C0.2.1 dX1_swapTickets_23 (by decide) ?_
    refine tn_icmp_ge (tgt := 34) C0.1 C0.2.1 dX1_swapTickets_25 (by decide) (by omega) (by omega) (fun c_25 => ?_) (fun c_25 => ?_)
    · have hcd0 : cdSt (nI jx) (nI jy) n st = 0 := (cd_in c_14).trans (cdC_y c_25)
      refine lv_aload_n C0.1 C0.2.1 dX1_swapTickets_34 rfl (lv_at hl 0 rfl) ?_
      refine lv_bipush (v := nI 8) C0.1 C0.2.1 dX1_swapTickets_35 (by decide) ?_
      refine tc_callV (q0 := 0) C0 hG hS rfl rfl (kX1_pay hlf hk  (8) (by omega)) (cwV 1 C0.2.2.2.2 gX1_swapTickets_X1_pay rfl rfl rfl (by decide +kernel) ⟨(Nat.le_of_ble_eq_true rfl), (Nat.le_of_ble_eq_true rfl)⟩) rfl hl rfl (Nat.le_of_ble_eq_true rfl) dX1_swapTickets_37 ⟨(Nat.le_of_ble_eq_true rfl), (Nat.le_of_ble_eq_true rfl)⟩ (fun H locs hG hS => ?_)
      have hG : tcG D cI cJ N0 (wM h r1 r2 r3 r4 cI (nI (cdP (nI jx) (nI jy) n)) tk co cn wk n ho (st - 8) ct (sp + nI 8) Z) s H := hG
      have hk_p := hk.st (show st - 8 ≤ 100 by omega)
      refine lv_pop C0.1 C0.2.1 dX1_swapTickets_40 rfl ?_
      refine lv_aload_n C0.1 C0.2.1 dX1_swapTickets_41 rfl (lv_at hl 0 rfl) ?_
      refine lv_aload_n C0.1 C0.2.1 dX1_swapTickets_42 rfl (lv_at hl 0 rfl) ?_
      refine tgX1_ticket C0 hF hG w_ticket dX1_swapTickets_43 ?_
      refine lv_iload_n C0.1 C0.2.1 dX1_swapTickets_46 rfl (lv_at hl 1 rfl) ?_
      refine lv_iload_n C0.1 C0.2.1 dX1_swapTickets_47 rfl (lv_at hl 2 rfl) ?_
      refine tc_callV (q0 := 0) C0 hG hS rfl rfl (kX1_swapped_tk hlf hk_p  (jx) (jy) (by omega) (by omega)) (cwV 3 C0.2.2.2.2 gX1_swapTickets_X1_swapped rfl rfl rfl (by decide +kernel) ⟨(Nat.le_of_ble_eq_true rfl), (Nat.le_of_ble_eq_true rfl)⟩) rfl hl rfl (Nat.le_of_ble_eq_true rfl) dX1_swapTickets_48 ⟨(Nat.le_of_ble_eq_true rfl), (Nat.le_of_ble_eq_true rfl)⟩ (fun H locs hG hS => ?_)
      have hG : tcG D cI cJ N0 (wM h r1 r2 r3 r4 cI (nI (cdP (nI jx) (nI jy) n)) (swp tk jx jy) co cn wk n ho (st - 8) ct (sp + nI 8) Z) s H := hG
      exact tc_iret C0 hr hlk (tcG.eq (by rw [if_pos hcd0, c_14]) hG) hS rfl (by rw [if_pos hcd0]) (Nat.le_of_ble_eq_true rfl) (Nat.le_of_ble_eq_true rfl) dX1_swapTickets_51
    · have hcd1 : cdSt (nI jx) (nI jy) n st = 3 := (cd_in c_14).trans (cdC_n c_25)
      refine lv_aload_n C0.1 C0.2.1 dX1_swapTickets_28 rfl (lv_at hl 0 rfl) ?_
      refine lv_iconst (v := nI 3) C0.1 C0.2.1 dX1_swapTickets_29 (by decide) ?_
      refine tc_callV (q0 := 0) C0 hG hS rfl rfl (kX1_no hlf hk  (nI (3)) ) (cwV 1 C0.2.2.2.2 gX1_swapTickets_X1_no rfl rfl rfl (by decide +kernel) ⟨(Nat.le_of_ble_eq_true rfl), (Nat.le_of_ble_eq_true rfl)⟩) rfl hl rfl (Nat.le_of_ble_eq_true rfl) dX1_swapTickets_30 ⟨(Nat.le_of_ble_eq_true rfl), (Nat.le_of_ble_eq_true rfl)⟩ (fun H locs hG hS => ?_)
      have hG : tcG D cI cJ N0 (wM h r1 r2 r3 r4 cI ((nI (3))) tk co cn wk n ho st ct sp Z) s H := hG
      exact tc_iret C0 hr hlk (tcG.eq (by rw [if_neg (by rw [hcd1]; decide), hcd1]) hG) hS rfl (by rw [if_neg (by rw [hcd1]; decide)]) (Nat.le_of_ble_eq_true rfl) (Nat.le_of_ble_eq_true rfl) dX1_swapTickets_33
  · have hcd1 : cdSt x y n st = cdP x y n := if_neg (by omega)
    refine lv_iconst (v := nI 0) C0.1 C0.2.1 dX1_swapTickets_17 (by decide) ?_
    exact tc_iret C0 hr hlk (tcG.eq (by rw [if_neg (by rw [hcd1]; omega), hcd1]) hG) hS rfl (by rw [if_neg (by rw [hcd1]; omega)]) (Nat.le_of_ble_eq_true rfl) (Nat.le_of_ble_eq_true rfl) dX1_swapTickets_18
set_option maxHeartbeats 4000000 in
set_option maxRecDepth 100000 in
theorem kX1_pass {l : Launch} (hlf : l.stackTraces = false) {D : va_G} {cI cJ : ClassId} {N0 : Nat} {h r1 r2 r3 r4 : Nat} {tk co cn wk : Nat → Nat} {n st : Nat} {ho ct sp : Int32} {Z : va_W} {th : Int32} (hk : tOk tk co cn wk n st) (x : Int32)  : tcM l yX1_pass wsX1_pass { frames := 5, cells := 0, slots := 0, locals := 112 } [] 0 [.ref h, .int (x)] D cI cJ N0 (wM h r1 r2 r3 r4 cI th tk co cn wk n ho st ct sp Z) (some (.int (if cdH x = 0 then ((hrs tk co wk n cn ct st (ix x)).2.1 - ct) else nI 0))) (if cdH x = 0 then wM h r1 r2 r3 r4 cI (nI 0) tk co ((hrs tk co wk n cn ct st (ix x)).1) wk n (ho + nI (ix x)) ((hrs tk co wk n cn ct st (ix x)).2.2) ((hrs tk co wk n cn ct st (ix x)).2.1) sp Z else wM h r1 r2 r3 r4 cI (nI (cdH x)) tk co cn wk n ho st ct sp Z) 0 0 := by
  refine tcM.of (cc := cX1_pass) (maxL := 4) (ret := (some .int)) (by decide) rfl (Nat.le_of_ble_eq_true rfl) ?_
  intro p e s m args below meth c C0 hr hlk ht hmn hG ls hl
  have hl : lv_has ls 4 [(0, .ref h), (1, .int (x))] := hl
  obtain ⟨hk1, hk2, hk3, hk4, hn12, hst⟩ := id hk
  have hG0 := hG
  have hS : va_S (tcA N0) s.heap s.heap [] := va_S.rf
  have hF : ∀ w ∈ wsX10, w ∈ wsX1_pass := by decide +kernel
  have w_counted : Cond.fieldLink RX1 93 "TicketCoincidencesModel" "counted" "I" ∈ wsX1_pass := by decide +kernel
  have w_thrown : Cond.fieldLink RX1 26 "TicketCoincidencesModel" "thrown" "I" ∈ wsX1_pass := by decide +kernel
  refine lv_aload_n C0.1 C0.2.1 dX1_pass_0 rfl (lv_at hl 0 rfl) ?_
  refine lv_iconst (v := nI 0) C0.1 C0.2.1 dX1_pass_1 (by decide) ?_
  refine tpX1_thrown C0 hF hG0 hG hS w_thrown dX1_pass_2 (fun H locs hG hS => ?_)
  refine lv_iload_n C0.1 C0.2.1 dX1_pass_5 rfl (lv_at hl 1 rfl) ?_
  refine lv_iconst (v := nI 1) C0.1 C0.2.1 dX1_pass_6 (by decide) ?_
  refine lv_bipush (v := nI 60) C0.1 C0.2.1 dX1_pass_7 (by decide) ?_
  refine tc_callS C0 hG hS (kX1_isIn hlf  (x) (nI (1)) (nI (60)) ) (va_cwS 3 C0.2.2.2.2 gX1_pass_X1_isIn rfl rfl rfl (by decide +kernel) ⟨(Nat.le_of_ble_eq_true rfl), (Nat.le_of_ble_eq_true rfl)⟩) rfl hl rfl (Nat.le_of_ble_eq_true rfl) dX1_pass_9 ⟨(Nat.le_of_ble_eq_true rfl), (Nat.le_of_ble_eq_true rfl)⟩ (fun H locs hG hS => ?_)
  refine tc_top (x := nI (b2n (isInb x (nI (1)) (nI (60))))) (y := nI (b2n (tc60 x))) (congrArg (fun b => nI (b2n b)) (isInb_60 x)) ?_
  refine tb_if_ne (tgt := 21) C0.1 C0.2.1 dX1_pass_12 (by decide) (fun c_12 => ?_) (fun c_12 => ?_)
  · have hcd0 := cdH_y c_12
    obtain ⟨jx, hjx, rfl⟩ := tc60_of c_12
    try simp only [ix_nI (show jx < 2 ^ 31 by omega)]
    refine lv_aload_n C0.1 C0.2.1 dX1_pass_21 rfl (lv_at hl 0 rfl) ?_
    refine tgX1_counted C0 hF hG w_counted dX1_pass_22 ?_
    refine lv_istore_n (lv' := [(2, .int (ct)), (0, .ref h), (1, .int (nI (jx)))]) C0.1 C0.2.1 dX1_pass_25 rfl hl (by decide) rfl (fun ls hl => ?_)
    refine lv_iconst (v := nI 0) C0.1 C0.2.1 dX1_pass_26 (by decide) ?_
    refine lv_istore_n (lv' := [(3, .int (nI (0))), (2, .int (ct)), (0, .ref h), (1, .int (nI (jx)))]) C0.1 C0.2.1 dX1_pass_27 rfl hl (by decide) rfl (fun ls hl => ?_)
    refine tc_nameQ (fun zQg zhQ => ?_)
    have cut_28 : ∀ (kf : Nat) (i : Nat) (hi : i ≤ jx) (hm : jx + 1 ≤ i + kf), ∀ (ls : Array Slot), lv_has ls 4 [(3, .int (nI (i))), (2, .int (ct)), (0, .ref h), (1, .int (nI (jx)))] → ∀ (H : Heap) (locs : List Loc), tcG D cI cJ N0 (wM h r1 r2 r3 r4 cI (nI (0)) tk co ((hrs tk co wk n cn ct st i).1) wk n (ho + nI i) ((hrs tk co wk n cn ct st i).2.2) ((hrs tk co wk n cn ct st i).2.1) sp Z) s H → va_S (tcA N0) s.heap H locs → W p l e ({ frames := 5, cells := 0, slots := 0, locals := 112 } : Room) s m args below meth c H locs (0) (0) zQg (F0 m 28 ls []) := by
      intro kf
      induction kf with
      | zero => intro i hi hm; exact absurd hm (by omega)
      | succ kf ih_28 =>
        intro i hi hm ls hl H locs hG hS
        have hk_i := (hk.cn (hrs_lt (tk := tk) (co := co) (wk := wk) (n := n) (ct := ct) hk3 hst i).1).st (hrs_lt (tk := tk) (co := co) (wk := wk) (n := n) (ct := ct) hk3 hst i).2
        refine lv_iload_n C0.1 C0.2.1 dX1_pass_28 rfl (lv_at hl 0 rfl) ?_
        refine lv_iload_n C0.1 C0.2.1 dX1_pass_29 rfl (lv_at hl 3 rfl) ?_
        refine tn_icmp_ge (tgt := 43) C0.1 C0.2.1 dX1_pass_30 (by decide) (by omega) (by omega) (fun c_30 => ?_) (fun c_30 => ?_)
        · refine lv_aload_n C0.1 C0.2.1 dX1_pass_43 rfl (lv_at hl 2 rfl) ?_
          refine tgX1_counted C0 hF hG w_counted dX1_pass_44 ?_
          refine lv_iload_n C0.1 C0.2.1 dX1_pass_47 rfl (lv_at hl 1 rfl) ?_
          refine lv_isub C0.1 C0.2.1 dX1_pass_48 ?_
          subst zhQ
          have hin : i = jx := by omega
          rw [hin] at hG
          exact tc_iret C0 hr hlk (tcG.eq (by rw [if_pos hcd0]) hG) hS rfl (by rw [if_pos hcd0, hin]) (Nat.le_of_ble_eq_true rfl) (Nat.le_of_ble_eq_true rfl) dX1_pass_49
        · refine lv_aload_n C0.1 C0.2.1 dX1_pass_33 rfl (lv_at hl 2 rfl) ?_
          refine tc_callVv (q0 := 0) C0 hG hS rfl rfl (kX1_goOn hlf hk_i   ) (cwV 0 C0.2.2.2.2 gX1_pass_X1_goOn rfl rfl rfl (by decide +kernel) ⟨(Nat.le_of_ble_eq_true rfl), (Nat.le_of_ble_eq_true rfl)⟩) rfl hl rfl (Nat.le_of_ble_eq_true rfl) dX1_pass_34 ⟨(Nat.le_of_ble_eq_true rfl), (Nat.le_of_ble_eq_true rfl)⟩ (fun H locs hG hS => ?_)
          have hG : tcG D cI cJ N0 (wM h r1 r2 r3 r4 cI (nI (0)) tk co (pcn ((hrs tk co wk n cn ct st i).1) wk n) wk n ((ho + nI i) + nI 1) (stn ((hrs tk co wk n cn ct st i).2.2) (emp (pcn ((hrs tk co wk n cn ct st i).1) wk n) n)) (((hrs tk co wk n cn ct st i).2.1) + nI (tw tk co (pcn ((hrs tk co wk n cn ct st i).1) wk n) wk 0 n)) sp Z) s H := hG
          refine tn_iinc (lv' := [(3, .int (nI (i + 1))), (2, .int (ct)), (0, .ref h), (1, .int (nI (jx)))]) C0.1 C0.2.1 dX1_pass_37 hl (k := 0) rfl (by decide) rfl (fun ls hl => ?_)
          refine lv_goto (tgt := 28) C0.1 C0.2.1 dX1_pass_40 (by decide) ?_
          exact ih_28 (i + 1) (by omega) (by omega) ls (lv_sub hl [0, 1, 2, 3] rfl) _ _ (tcG.eq (by rw [show ho + nI (i + 1) = ho + nI i + nI 1 by rw [Int32.add_assoc, nI_add]] <;> rfl) hG) hS
    exact cut_28 (jx + 1) (0) (by omega) (by omega) ls (lv_sub hl [0, 1, 2, 3] rfl) _ _ (tcG.eq (by rw [show ho + nI 0 = ho from Int32.add_zero ho] <;> rfl) hG) hS
  · have hcd1 := cdH_n c_12
    refine lv_aload_n C0.1 C0.2.1 dX1_pass_15 rfl (lv_at hl 0 rfl) ?_
    refine lv_iconst (v := nI 1) C0.1 C0.2.1 dX1_pass_16 (by decide) ?_
    refine tc_callV (q0 := 0) C0 hG hS rfl rfl (kX1_no hlf hk  (nI (1)) ) (cwV 1 C0.2.2.2.2 gX1_pass_X1_no rfl rfl rfl (by decide +kernel) ⟨(Nat.le_of_ble_eq_true rfl), (Nat.le_of_ble_eq_true rfl)⟩) rfl hl rfl (Nat.le_of_ble_eq_true rfl) dX1_pass_17 ⟨(Nat.le_of_ble_eq_true rfl), (Nat.le_of_ble_eq_true rfl)⟩ (fun H locs hG hS => ?_)
    have hG : tcG D cI cJ N0 (wM h r1 r2 r3 r4 cI ((nI (1))) tk co cn wk n ho st ct sp Z) s H := hG
    exact tc_iret C0 hr hlk (tcG.eq (by rw [if_neg (by rw [hcd1]; decide), hcd1]) hG) hS rfl (by rw [if_neg (by rw [hcd1]; decide)]) (Nat.le_of_ble_eq_true rfl) (Nat.le_of_ble_eq_true rfl) dX1_pass_20
