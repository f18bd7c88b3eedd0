/-! the class: leaves -/
set_option maxHeartbeats 4000000 in
set_option maxRecDepth 100000 in
theorem kX0_isTicket {l : Launch} (hlf : l.stackTraces = false) {D : va_G} {cI cJ : ClassId} {N0 : Nat} {ws : va_W} (x : Int32)  : tcM l yX0_isTicket wsX0_isTicket { frames := 0, cells := 0, slots := 0, locals := 0 } [] 0 [.int (x)] D cI cJ N0 (ws) (some (.int (nI (b2n (tcIn x 100))))) (ws) 0 0 := by
  refine tcM.of (cc := cX0_isTicket) (maxL := 1) (ret := (some .boolean)) (by decide) rfl (Nat.le_of_ble_eq_true rfl) ?_
  intro p e s m args below meth c C0 hr hlk ht hmn hG ls hl
  have hl : lv_has ls 1 [(0, .int (x))] := hl
  have hG0 := hG
  have hS : va_S (tcA N0) s.heap s.heap [] := va_S.rf
  refine lv_iload_n C0.1 C0.2.1 dX0_isTicket_0 rfl (lv_at hl 0 rfl) ?_
  refine lv_if_lt (tgt := 14) C0.1 C0.2.1 dX0_isTicket_1 (by decide) (fun c_1 => ?_) (fun c_1 => ?_)
  · refine lv_iconst (v := nI 0) C0.1 C0.2.1 dX0_isTicket_14 (by decide) ?_
    exact tc_zret C0 hr hlk hG hS rfl (by first | (rw [tcIn_yes (by decide) c_1 c_7]; rfl) | (rw [tcIn_hi (by decide) c_7]; rfl) | (rw [tcIn_lo c_1]; rfl)) (Nat.le_of_ble_eq_true rfl) (Nat.le_of_ble_eq_true rfl) dX0_isTicket_15
  · refine lv_iload_n C0.1 C0.2.1 dX0_isTicket_4 rfl (lv_at hl 0 rfl) ?_
    refine lv_bipush (v := nI 100) C0.1 C0.2.1 dX0_isTicket_5 (by decide) ?_
    refine lv_icmp_ge (tgt := 14) C0.1 C0.2.1 dX0_isTicket_7 (by decide) (fun c_7 => ?_) (fun c_7 => ?_)
    · refine lv_iconst (v := nI 0) C0.1 C0.2.1 dX0_isTicket_14 (by decide) ?_
      exact tc_zret C0 hr hlk hG hS rfl (by first | (rw [tcIn_yes (by decide) c_1 c_7]; rfl) | (rw [tcIn_hi (by decide) c_7]; rfl) | (rw [tcIn_lo c_1]; rfl)) (Nat.le_of_ble_eq_true rfl) (Nat.le_of_ble_eq_true rfl) dX0_isTicket_15
    · refine lv_iconst (v := nI 1) C0.1 C0.2.1 dX0_isTicket_10 (by decide) ?_
      refine lv_goto (tgt := 15) C0.1 C0.2.1 dX0_isTicket_11 (by decide) ?_
      exact tc_zret C0 hr hlk hG hS rfl (by first | (rw [tcIn_yes (by decide) c_1 c_7]; rfl) | (rw [tcIn_hi (by decide) c_7]; rfl) | (rw [tcIn_lo c_1]; rfl)) (Nat.le_of_ble_eq_true rfl) (Nat.le_of_ble_eq_true rfl) dX0_isTicket_15
set_option maxHeartbeats 4000000 in
set_option maxRecDepth 100000 in
theorem kX0_isColour {l : Launch} (hlf : l.stackTraces = false) {D : va_G} {cI cJ : ClassId} {N0 : Nat} {ws : va_W} (x : Int32)  : tcM l yX0_isColour wsX0_isColour { frames := 0, cells := 0, slots := 0, locals := 0 } [] 0 [.int (x)] D cI cJ N0 (ws) (some (.int (nI (b2n (tcIn x 5))))) (ws) 0 0 := by
  refine tcM.of (cc := cX0_isColour) (maxL := 1) (ret := (some .boolean)) (by decide) rfl (Nat.le_of_ble_eq_true rfl) ?_
  intro p e s m args below meth c C0 hr hlk ht hmn hG ls hl
  have hl : lv_has ls 1 [(0, .int (x))] := hl
  have hG0 := hG
  have hS : va_S (tcA N0) s.heap s.heap [] := va_S.rf
  refine lv_iload_n C0.1 C0.2.1 dX0_isColour_0 rfl (lv_at hl 0 rfl) ?_
  refine lv_if_lt (tgt := 13) C0.1 C0.2.1 dX0_isColour_1 (by decide) (fun c_1 => ?_) (fun c_1 => ?_)
  · refine lv_iconst (v := nI 0) C0.1 C0.2.1 dX0_isColour_13 (by decide) ?_
    exact tc_zret C0 hr hlk hG hS rfl (by first | (rw [tcIn_yes (by decide) c_1 c_6]; rfl) | (rw [tcIn_hi (by decide) c_6]; rfl) | (rw [tcIn_lo c_1]; rfl)) (Nat.le_of_ble_eq_true rfl) (Nat.le_of_ble_eq_true rfl) dX0_isColour_14
  · refine lv_iload_n C0.1 C0.2.1 dX0_isColour_4 rfl (lv_at hl 0 rfl) ?_
    refine lv_iconst (v := nI 5) C0.1 C0.2.1 dX0_isColour_5 (by decide) ?_
    refine lv_icmp_ge (tgt := 13) C0.1 C0.2.1 dX0_isColour_6 (by decide) (fun c_6 => ?_) (fun c_6 => ?_)
    · refine lv_iconst (v := nI 0) C0.1 C0.2.1 dX0_isColour_13 (by decide) ?_
      exact tc_zret C0 hr hlk hG hS rfl (by first | (rw [tcIn_yes (by decide) c_1 c_6]; rfl) | (rw [tcIn_hi (by decide) c_6]; rfl) | (rw [tcIn_lo c_1]; rfl)) (Nat.le_of_ble_eq_true rfl) (Nat.le_of_ble_eq_true rfl) dX0_isColour_14
    · refine lv_iconst (v := nI 1) C0.1 C0.2.1 dX0_isColour_9 (by decide) ?_
      refine lv_goto (tgt := 14) C0.1 C0.2.1 dX0_isColour_10 (by decide) ?_
      exact tc_zret C0 hr hlk hG hS rfl (by first | (rw [tcIn_yes (by decide) c_1 c_6]; rfl) | (rw [tcIn_hi (by decide) c_6]; rfl) | (rw [tcIn_lo c_1]; rfl)) (Nat.le_of_ble_eq_true rfl) (Nat.le_of_ble_eq_true rfl) dX0_isColour_14
set_option maxHeartbeats 4000000 in
set_option maxRecDepth 100000 in
theorem kX0_isCorner {l : Launch} (hlf : l.stackTraces = false) {D : va_G} {cI cJ : ClassId} {N0 : Nat} {ws : va_W} (x : Int32)  : tcM l yX0_isCorner wsX0_isCorner { frames := 0, cells := 0, slots := 0, locals := 0 } [] 0 [.int (x)] D cI cJ N0 (ws) (some (.int (nI (b2n (tcIn x 6))))) (ws) 0 0 := by
  refine tcM.of (cc := cX0_isCorner) (maxL := 1) (ret := (some .boolean)) (by decide) rfl (Nat.le_of_ble_eq_true rfl) ?_
  intro p e s m args below meth c C0 hr hlk ht hmn hG ls hl
  have hl : lv_has ls 1 [(0, .int (x))] := hl
  have hG0 := hG
  have hS : va_S (tcA N0) s.heap s.heap [] := va_S.rf
  refine lv_iload_n C0.1 C0.2.1 dX0_isCorner_0 rfl (lv_at hl 0 rfl) ?_
  refine lv_if_lt (tgt := 14) C0.1 C0.2.1 dX0_isCorner_1 (by decide) (fun c_1 => ?_) (fun c_1 => ?_)
  · refine lv_iconst (v := nI 0) C0.1 C0.2.1 dX0_isCorner_14 (by decide) ?_
    exact tc_zret C0 hr hlk hG hS rfl (by first | (rw [tcIn_yes (by decide) c_1 c_7]; rfl) | (rw [tcIn_hi (by decide) c_7]; rfl) | (rw [tcIn_lo c_1]; rfl)) (Nat.le_of_ble_eq_true rfl) (Nat.le_of_ble_eq_true rfl) dX0_isCorner_15
  · refine lv_iload_n C0.1 C0.2.1 dX0_isCorner_4 rfl (lv_at hl 0 rfl) ?_
    refine lv_bipush (v := nI 6) C0.1 C0.2.1 dX0_isCorner_5 (by decide) ?_
    refine lv_icmp_ge (tgt := 14) C0.1 C0.2.1 dX0_isCorner_7 (by decide) (fun c_7 => ?_) (fun c_7 => ?_)
    · refine lv_iconst (v := nI 0) C0.1 C0.2.1 dX0_isCorner_14 (by decide) ?_
      exact tc_zret C0 hr hlk hG hS rfl (by first | (rw [tcIn_yes (by decide) c_1 c_7]; rfl) | (rw [tcIn_hi (by decide) c_7]; rfl) | (rw [tcIn_lo c_1]; rfl)) (Nat.le_of_ble_eq_true rfl) (Nat.le_of_ble_eq_true rfl) dX0_isCorner_15
    · refine lv_iconst (v := nI 1) C0.1 C0.2.1 dX0_isCorner_10 (by decide) ?_
      refine lv_goto (tgt := 15) C0.1 C0.2.1 dX0_isCorner_11 (by decide) ?_
      exact tc_zret C0 hr hlk hG hS rfl (by first | (rw [tcIn_yes (by decide) c_1 c_7]; rfl) | (rw [tcIn_hi (by decide) c_7]; rfl) | (rw [tcIn_lo c_1]; rfl)) (Nat.le_of_ble_eq_true rfl) (Nat.le_of_ble_eq_true rfl) dX0_isCorner_15
set_option maxHeartbeats 4000000 in
set_option maxRecDepth 100000 in
theorem kX0_isWalk {l : Launch} (hlf : l.stackTraces = false) {D : va_G} {cI cJ : ClassId} {N0 : Nat} {ws : va_W} (x : Int32)  : tcM l yX0_isWalk wsX0_isWalk { frames := 0, cells := 0, slots := 0, locals := 0 } [] 0 [.int (x)] D cI cJ N0 (ws) (some (.int (nI (b2n (tcIn x 6))))) (ws) 0 0 := by
  refine tcM.of (cc := cX0_isWalk) (maxL := 1) (ret := (some .boolean)) (by decide) rfl (Nat.le_of_ble_eq_true rfl) ?_
  intro p e s m args below meth c C0 hr hlk ht hmn hG ls hl
  have hl : lv_has ls 1 [(0, .int (x))] := hl
  have hG0 := hG
  have hS : va_S (tcA N0) s.heap s.heap [] := va_S.rf
  refine lv_iload_n C0.1 C0.2.1 dX0_isWalk_0 rfl (lv_at hl 0 rfl) ?_
  refine lv_if_lt (tgt := 13) C0.1 C0.2.1 dX0_isWalk_1 (by decide) (fun c_1 => ?_) (fun c_1 => ?_)
  · refine lv_iconst (v := nI 0) C0.1 C0.2.1 dX0_isWalk_13 (by decide) ?_
    exact tc_zret C0 hr hlk hG hS rfl (by first | (rw [show tcIn x 6 = true from tcIn_yes' (by decide) c_1 c_6]; rfl) | (rw [show tcIn x 6 = false from tcIn_hi' (by decide) c_6]; rfl) | (rw [tcIn_lo c_1]; rfl)) (Nat.le_of_ble_eq_true rfl) (Nat.le_of_ble_eq_true rfl) dX0_isWalk_14
  · refine lv_iload_n C0.1 C0.2.1 dX0_isWalk_4 rfl (lv_at hl 0 rfl) ?_
    refine lv_iconst (v := nI 5) C0.1 C0.2.1 dX0_isWalk_5 (by decide) ?_
    refine lv_icmp_gt (tgt := 13) C0.1 C0.2.1 dX0_isWalk_6 (by decide) (fun c_6 => ?_) (fun c_6 => ?_)
    · refine lv_iconst (v := nI 0) C0.1 C0.2.1 dX0_isWalk_13 (by decide) ?_
      exact tc_zret C0 hr hlk hG hS rfl (by first | (rw [show tcIn x 6 = true from tcIn_yes' (by decide) c_1 c_6]; rfl) | (rw [show tcIn x 6 = false from tcIn_hi' (by decide) c_6]; rfl) | (rw [tcIn_lo c_1]; rfl)) (Nat.le_of_ble_eq_true rfl) (Nat.le_of_ble_eq_true rfl) dX0_isWalk_14
    · refine lv_iconst (v := nI 1) C0.1 C0.2.1 dX0_isWalk_9 (by decide) ?_
      refine lv_goto (tgt := 14) C0.1 C0.2.1 dX0_isWalk_10 (by decide) ?_
      exact tc_zret C0 hr hlk hG hS rfl (by first | (rw [show tcIn x 6 = true from tcIn_yes' (by decide) c_1 c_6]; rfl) | (rw [show tcIn x 6 = false from tcIn_hi' (by decide) c_6]; rfl) | (rw [tcIn_lo c_1]; rfl)) (Nat.le_of_ble_eq_true rfl) (Nat.le_of_ble_eq_true rfl) dX0_isWalk_14
set_option maxHeartbeats 4000000 in
set_option maxRecDepth 100000 in
theorem kX0_figureSum {l : Launch} (hlf : l.stackTraces = false) {D : va_G} {cI cJ : ClassId} {N0 : Nat} {ws : va_W} (t : Nat) (h1 : t < 100) : tcM l yX0_figureSum wsX0_figureSum { frames := 0, cells := 0, slots := 0, locals := 0 } [] 0 [.int (nI (t))] D cI cJ N0 (ws) (some (.int (nI (t / 10 + t % 10)))) (ws) 0 0 := by
  refine tcM.of (cc := cX0_figureSum) (maxL := 1) (ret := (some .int)) (by decide) rfl (Nat.le_of_ble_eq_true rfl) ?_
  intro p e s m args below meth c C0 hr hlk ht hmn hG ls hl
  have hl : lv_has ls 1 [(0, .int (nI (t)))] := hl
  have hG0 := hG
  have hS : va_S (tcA N0) s.heap s.heap [] := va_S.rf
  refine lv_iload_n C0.1 C0.2.1 dX0_figureSum_0 rfl (lv_at hl 0 rfl) ?_
  refine lv_bipush (v := nI 10) C0.1 C0.2.1 dX0_figureSum_1 (by decide) ?_
  refine tn_idiv C0.1 C0.2.1 dX0_figureSum_3 (by omega) (by decide) (by decide) ?_
  refine lv_iload_n C0.1 C0.2.1 dX0_figureSum_4 rfl (lv_at hl 0 rfl) ?_
  refine lv_bipush (v := nI 10) C0.1 C0.2.1 dX0_figureSum_5 (by decide) ?_
  refine tn_irem C0.1 C0.2.1 dX0_figureSum_7 (by omega) (by decide) (by decide) ?_
  refine tn_iadd C0.1 C0.2.1 dX0_figureSum_8 ?_
  exact tc_iret C0 hr hlk hG hS rfl rfl (Nat.le_of_ble_eq_true rfl) (Nat.le_of_ble_eq_true rfl) dX0_figureSum_9
set_option maxHeartbeats 4000000 in
set_option maxRecDepth 100000 in
theorem kX0_mirrored {l : Launch} (hlf : l.stackTraces = false) {D : va_G} {cI cJ : ClassId} {N0 : Nat} {ws : va_W} (t : Nat) (u : Nat) (h1 : t < 100) (h2 : u < 100) : tcM l yX0_mirrored wsX0_mirrored { frames := 0, cells := 0, slots := 0, locals := 0 } [] 0 [.int (nI (t)), .int (nI (u))] D cI cJ N0 (ws) (some (.int (nI (b2n (mir t u))))) (ws) 0 0 := by
  refine tcM.of (cc := cX0_mirrored) (maxL := 2) (ret := (some .boolean)) (by decide) rfl (Nat.le_of_ble_eq_true rfl) ?_
  intro p e s m args below meth c C0 hr hlk ht hmn hG ls hl
  have hl : lv_has ls 2 [(0, .int (nI (t))), (1, .int (nI (u)))] := hl
  have hG0 := hG
  have hS : va_S (tcA N0) s.heap s.heap [] := va_S.rf
  refine lv_iload_n C0.1 C0.2.1 dX0_mirrored_0 rfl (lv_at hl 0 rfl) ?_
  refine lv_bipush (v := nI 10) C0.1 C0.2.1 dX0_mirrored_1 (by decide) ?_
  refine tn_idiv C0.1 C0.2.1 dX0_mirrored_3 (by omega) (by decide) (by decide) ?_
  refine lv_iload_n C0.1 C0.2.1 dX0_mirrored_4 rfl (lv_at hl 1 rfl) ?_
  refine lv_bipush (v := nI 10) C0.1 C0.2.1 dX0_mirrored_5 (by decide) ?_
  refine tn_irem C0.1 C0.2.1 dX0_mirrored_7 (by omega) (by decide) (by decide) ?_
  refine tn_icmp_ne (tgt := 26) C0.1 C0.2.1 dX0_mirrored_8 (by decide) (by omega) (by omega) (fun c_8 => ?_) (fun c_8 => ?_)
  · refine lv_iconst (v := nI 0) C0.1 C0.2.1 dX0_mirrored_26 (by decide) ?_
    exact tc_zret C0 hr hlk hG hS rfl (by first | (rw [show mir t u = true from decide_eq_true ⟨c_8, c_19⟩]; rfl) | (rw [show mir t u = false from decide_eq_false (fun z => c_8 z.1)]; rfl) | (rw [show mir t u = false from decide_eq_false (fun z => c_19 z.2)]; rfl)) (Nat.le_of_ble_eq_true rfl) (Nat.le_of_ble_eq_true rfl) dX0_mirrored_27
  · refine lv_iload_n C0.1 C0.2.1 dX0_mirrored_11 rfl (lv_at hl 0 rfl) ?_
    refine lv_bipush (v := nI 10) C0.1 C0.2.1 dX0_mirrored_12 (by decide) ?_
    refine tn_irem C0.1 C0.2.1 dX0_mirrored_14 (by omega) (by decide) (by decide) ?_
    refine lv_iload_n C0.1 C0.2.1 dX0_mirrored_15 rfl (lv_at hl 1 rfl) ?_
    refine lv_bipush (v := nI 10) C0.1 C0.2.1 dX0_mirrored_16 (by decide) ?_
    refine tn_idiv C0.1 C0.2.1 dX0_mirrored_18 (by omega) (by decide) (by decide) ?_
    refine tn_icmp_ne (tgt := 26) C0.1 C0.2.1 dX0_mirrored_19 (by decide) (by omega) (by omega) (fun c_19 => ?_) (fun c_19 => ?_)
    · refine lv_iconst (v := nI 0) C0.1 C0.2.1 dX0_mirrored_26 (by decide) ?_
      exact tc_zret C0 hr hlk hG hS rfl (by first | (rw [show mir t u = true from decide_eq_true ⟨c_8, c_19⟩]; rfl) | (rw [show mir t u = false from decide_eq_false (fun z => c_8 z.1)]; rfl) | (rw [show mir t u = false from decide_eq_false (fun z => c_19 z.2)]; rfl)) (Nat.le_of_ble_eq_true rfl) (Nat.le_of_ble_eq_true rfl) dX0_mirrored_27
    · refine lv_iconst (v := nI 1) C0.1 C0.2.1 dX0_mirrored_22 (by decide) ?_
      refine lv_goto (tgt := 27) C0.1 C0.2.1 dX0_mirrored_23 (by decide) ?_
      exact tc_zret C0 hr hlk hG hS rfl (by first | (rw [show mir t u = true from decide_eq_true ⟨c_8, c_19⟩]; rfl) | (rw [show mir t u = false from decide_eq_false (fun z => c_8 z.1)]; rfl) | (rw [show mir t u = false from decide_eq_false (fun z => c_19 z.2)]; rfl)) (Nat.le_of_ble_eq_true rfl) (Nat.le_of_ble_eq_true rfl) dX0_mirrored_27
set_option maxHeartbeats 4000000 in
set_option maxRecDepth 100000 in
theorem kX0_pointsOfColours {l : Launch} (hlf : l.stackTraces = false) {D : va_G} {cI cJ : ClassId} {N0 : Nat} {ws : va_W} (x : Nat) (y : Nat) (h1 : x < 5) (h2 : y < 5) : tcM l yX0_pointsOfColours wsX0_pointsOfColours { frames := 0, cells := 0, slots := 0, locals := 0 } [] 0 [.int (nI (x)), .int (nI (y))] D cI cJ N0 (ws) (some (.int (nI (pco x y)))) (ws) 0 0 := by
  refine tcM.of (cc := cX0_pointsOfColours) (maxL := 2) (ret := (some .int)) (by decide) rfl (Nat.le_of_ble_eq_true rfl) ?_
  intro p e s m args below meth c C0 hr hlk ht hmn hG ls hl
  have hl : lv_has ls 2 [(0, .int (nI (x))), (1, .int (nI (y)))] := hl
  have hG0 := hG
  have hS : va_S (tcA N0) s.heap s.heap [] := va_S.rf
  refine lv_iload_n C0.1 C0.2.1 dX0_pointsOfColours_0 rfl (lv_at hl 0 rfl) ?_
  refine lv_iload_n C0.1 C0.2.1 dX0_pointsOfColours_1 rfl (lv_at hl 1 rfl) ?_
  refine tn_icmp_ne (tgt := 9) C0.1 C0.2.1 dX0_pointsOfColours_2 (by decide) (by omega) (by omega) (fun c_2 => ?_) (fun c_2 => ?_)
  · refine lv_iconst (v := nI 0) C0.1 C0.2.1 dX0_pointsOfColours_9 (by decide) ?_
    exact tc_iret C0 hr hlk hG hS rfl (by unfold pco; first | rw [if_neg c_2] | rw [if_pos c_2]) (Nat.le_of_ble_eq_true rfl) (Nat.le_of_ble_eq_true rfl) dX0_pointsOfColours_10
  · refine lv_iconst (v := nI 2) C0.1 C0.2.1 dX0_pointsOfColours_5 (by decide) ?_
    refine lv_goto (tgt := 10) C0.1 C0.2.1 dX0_pointsOfColours_6 (by decide) ?_
    exact tc_iret C0 hr hlk hG hS rfl (by unfold pco; first | rw [if_neg c_2] | rw [if_pos c_2]) (Nat.le_of_ble_eq_true rfl) (Nat.le_of_ble_eq_true rfl) dX0_pointsOfColours_10
set_option maxHeartbeats 4000000 in
set_option maxRecDepth 100000 in
theorem kX0_pointsOfTickets {l : Launch} (hlf : l.stackTraces = false) {D : va_G} {cI cJ : ClassId} {N0 : Nat} {ws : va_W} (t : Nat) (u : Nat) (h1 : t < 100) (h2 : u < 100) : tcM l yX0_pointsOfTickets wsX0_pointsOfTickets { frames := 1, cells := 0, slots := 0, locals := 21 } [] 0 [.int (nI (t)), .int (nI (u))] D cI cJ N0 (ws) (some (.int (nI (ptk t u)))) (ws) 0 0 := by
  refine tcM.of (cc := cX0_pointsOfTickets) (maxL := 3) (ret := (some .int)) (by decide) rfl (Nat.le_of_ble_eq_true rfl) ?_
  intro p e s m args below meth c C0 hr hlk ht hmn hG ls hl
  have hl : lv_has ls 3 [(0, .int (nI (t))), (1, .int (nI (u)))] := hl
  have hG0 := hG
  have hS : va_S (tcA N0) s.heap s.heap [] := va_S.rf
  refine lv_iconst (v := nI 0) C0.1 C0.2.1 dX0_pointsOfTickets_0 (by decide) ?_
  refine lv_istore_n (lv' := [(2, .int (nI (0))), (0, .int (nI (t))), (1, .int (nI (u)))]) C0.1 C0.2.1 dX0_pointsOfTickets_1 rfl hl (by decide) rfl (fun ls hl => ?_)
  refine tc_nameQ (fun zQg zhQ => ?_)
  have cut_16 : ∀ (q1 : Nat) (hq1 : q1 = if t % 10 = u % 10 then 1 else 0), ∀ (ls : Array Slot), lv_has ls 3 [(2, .int (nI (q1))), (0, .int (nI (t))), (1, .int (nI (u)))] → ∀ (H : Heap) (locs : List Loc), tcG D cI cJ N0 (ws) s H → va_S (tcA N0) s.heap H locs → W p l e ({ frames := 1, cells := 0, slots := 0, locals := 21 } : Room) s m args below meth c H locs (0) (0) zQg (F0 m 16 ls []) := by
    intro q1 hq1 ls hl H locs hG hS
    have cut_30 : ∀ (q2 : Nat) (hq2 : q2 = q1 + if t / 10 + t % 10 = u / 10 + u % 10 then 2 else 0), ∀ (ls : Array Slot), lv_has ls 3 [(2, .int (nI (q2))), (0, .int (nI (t))), (1, .int (nI (u)))] → ∀ (H : Heap) (locs : List Loc), tcG D cI cJ N0 (ws) s H → va_S (tcA N0) s.heap H locs → W p l e ({ frames := 1, cells := 0, slots := 0, locals := 21 } : Room) s m args below meth c H locs (0) (0) zQg (F0 m 30 ls []) := by
      intro q2 hq2 ls hl H locs hG hS
      have cut_43 : ∀ (q3 : Nat) (hq3 : q3 = q2 + if adist t u = 1 then 3 else 0), ∀ (ls : Array Slot), lv_has ls 3 [(2, .int (nI (q3))), (0, .int (nI (t))), (1, .int (nI (u)))] → ∀ (H : Heap) (locs : List Loc), tcG D cI cJ N0 (ws) s H → va_S (tcA N0) s.heap H locs → W p l e ({ frames := 1, cells := 0, slots := 0, locals := 21 } : Room) s m args below meth c H locs (0) (0) zQg (F0 m 43 ls []) := by
        intro q3 hq3 ls hl H locs hG hS
        refine lv_iload_n C0.1 C0.2.1 dX0_pointsOfTickets_43 rfl (lv_at hl 1 rfl) ?_
        refine lv_iload_n C0.1 C0.2.1 dX0_pointsOfTickets_44 rfl (lv_at hl 2 rfl) ?_
        refine tc_callS C0 hG hS (kX0_mirrored hlf  (t) (u) (by omega) (by omega)) (va_cwS 2 C0.2.2.2.2 gX0_pointsOfTickets_X0_mirrored rfl rfl rfl (by decide +kernel) ⟨(Nat.le_of_ble_eq_true rfl), (Nat.le_of_ble_eq_true rfl)⟩) rfl hl rfl (Nat.le_of_ble_eq_true rfl) dX0_pointsOfTickets_45 ⟨(Nat.le_of_ble_eq_true rfl), (Nat.le_of_ble_eq_true rfl)⟩ (fun H locs hG hS => ?_)
        refine tb_if_eq (tgt := 54) C0.1 C0.2.1 dX0_pointsOfTickets_48 (by decide) (fun c_48 => ?_) (fun c_48 => ?_)
        · refine lv_iload_n C0.1 C0.2.1 dX0_pointsOfTickets_54 rfl (lv_at hl 0 rfl) ?_
          subst zhQ
          exact tc_iret C0 hr hlk hG hS rfl (by congr 1; unfold ptk; rw [hq3, hq2, hq1]; first | (rw [if_neg (by rw [c_48]; decide)]; rfl) | (rw [if_pos c_48]; rfl) | rw [if_pos c_48] | simp [c_48]) (Nat.le_of_ble_eq_true rfl) (Nat.le_of_ble_eq_true rfl) dX0_pointsOfTickets_55
        · refine lv_iinc (v := nI (q3 + 5)) (lv' := [(2, .int (nI (q3 + 5))), (0, .int (nI (t))), (1, .int (nI (u)))]) C0.1 C0.2.1 dX0_pointsOfTickets_51 hl (k := 0) rfl (nI_add (q3) 5) (by decide) rfl (fun ls hl => ?_)
          refine lv_iload_n C0.1 C0.2.1 dX0_pointsOfTickets_54 rfl (lv_at hl 0 rfl) ?_
          subst zhQ
          exact tc_iret C0 hr hlk hG hS rfl (by congr 1; unfold ptk; rw [hq3, hq2, hq1]; first | (rw [if_neg (by rw [c_48]; decide)]; rfl) | (rw [if_pos c_48]; rfl) | rw [if_pos c_48] | simp [c_48]) (Nat.le_of_ble_eq_true rfl) (Nat.le_of_ble_eq_true rfl) dX0_pointsOfTickets_55
      refine lv_iload_n C0.1 C0.2.1 dX0_pointsOfTickets_30 rfl (lv_at hl 1 rfl) ?_
      refine lv_iload_n C0.1 C0.2.1 dX0_pointsOfTickets_31 rfl (lv_at hl 2 rfl) ?_
      refine lv_isub C0.1 C0.2.1 dX0_pointsOfTickets_32 ?_
      refine va_mabs C0.1 C0.2.1 (C0.2.2.1.trans hl.1.symm) C0.2.2.2.1 (C0.2.2.2.2 (.methodLink RX0 166 Lib.Math.abs.name) (by decide +kernel)) (C0.2.2.2.2 (.static Lib.Math.abs.name) (by decide +kernel)) (C0.2.2.2.2 (.initialized "java/lang/Math") (by decide +kernel)) (C0.2.2.2.2 (.code Lib.Math.abs.name Lib.Math.abs.code 1 (some .int)) (by decide +kernel)) (Nat.le_of_ble_eq_true rfl) (Nat.le_of_ble_eq_true rfl) (Nat.le_of_ble_eq_true rfl) (Nat.le_of_ble_eq_true rfl) dX0_pointsOfTickets_33 ?_
      refine tc_top (tc_abs (a := t) (b := u) (by omega) (by omega)) ?_
      refine lv_iconst (v := nI 1) C0.1 C0.2.1 dX0_pointsOfTickets_36 (by decide) ?_
      have b_ad := adist_le (a := t) (b := u) (k := 100) (by omega) (by omega)
      refine tn_icmp_ne (tgt := 43) C0.1 C0.2.1 dX0_pointsOfTickets_37 (by decide) (by omega) (by omega) (fun c_37 => ?_) (fun c_37 => ?_)
      · exact cut_43 (q2) (by first | (rw [if_neg c_37]; done) | (rw [if_pos c_37]; done) | (rw [if_neg c_37]; rfl) | (rw [if_pos c_37]; rfl)) ls (lv_sub hl [0, 1, 2] rfl) _ _ hG hS
      · refine lv_iinc (v := nI (q2 + 3)) (lv' := [(2, .int (nI (q2 + 3))), (0, .int (nI (t))), (1, .int (nI (u)))]) C0.1 C0.2.1 dX0_pointsOfTickets_40 hl (k := 0) rfl (nI_add (q2) 3) (by decide) rfl (fun ls hl => ?_)
        exact cut_43 (q2 + 3) (by first | (rw [if_neg c_37]; done) | (rw [if_pos c_37]; done) | (rw [if_neg c_37]; rfl) | (rw [if_pos c_37]; rfl)) ls (lv_sub hl [0, 1, 2] rfl) _ _ hG hS
    refine lv_iload_n C0.1 C0.2.1 dX0_pointsOfTickets_16 rfl (lv_at hl 1 rfl) ?_
    refine tc_callS C0 hG hS (kX0_figureSum hlf  (t) (by omega)) (va_cwS 1 C0.2.2.2.2 gX0_pointsOfTickets_X0_figureSum rfl rfl rfl (by decide +kernel) ⟨(Nat.le_of_ble_eq_true rfl), (Nat.le_of_ble_eq_true rfl)⟩) rfl hl rfl (Nat.le_of_ble_eq_true rfl) dX0_pointsOfTickets_17 ⟨(Nat.le_of_ble_eq_true rfl), (Nat.le_of_ble_eq_true rfl)⟩ (fun H locs hG hS => ?_)
    refine lv_iload_n C0.1 C0.2.1 dX0_pointsOfTickets_20 rfl (lv_at hl 2 rfl) ?_
    refine tc_callS C0 hG hS (kX0_figureSum hlf  (u) (by omega)) (va_cwS 1 C0.2.2.2.2 gX0_pointsOfTickets_X0_figureSum rfl rfl rfl (by decide +kernel) ⟨(Nat.le_of_ble_eq_true rfl), (Nat.le_of_ble_eq_true rfl)⟩) rfl hl rfl (Nat.le_of_ble_eq_true rfl) dX0_pointsOfTickets_21 ⟨(Nat.le_of_ble_eq_true rfl), (Nat.le_of_ble_eq_true rfl)⟩ (fun H locs hG hS => ?_)
    refine tn_icmp_ne (tgt := 30) C0.1 C0.2.1 dX0_pointsOfTickets_24 (by decide) (by omega) (by omega) (fun c_24 => ?_) (fun c_24 => ?_)
    · exact cut_30 (q1) (by first | rw [if_neg c_24]; done | rw [if_pos c_24]; done | (rw [if_neg c_24]; rfl) | (rw [if_pos c_24]; rfl)) ls (lv_sub hl [0, 1, 2] rfl) _ _ hG hS
    · refine lv_iinc (v := nI (q1 + 2)) (lv' := [(2, .int (nI (q1 + 2))), (0, .int (nI (t))), (1, .int (nI (u)))]) C0.1 C0.2.1 dX0_pointsOfTickets_27 hl (k := 0) rfl (nI_add (q1) 2) (by decide) rfl (fun ls hl => ?_)
      exact cut_30 (q1 + 2) (by first | rw [if_neg c_24]; done | rw [if_pos c_24]; done | (rw [if_neg c_24]; rfl) | (rw [if_pos c_24]; rfl)) ls (lv_sub hl [0, 1, 2] rfl) _ _ hG hS
  refine lv_iload_n C0.1 C0.2.1 dX0_pointsOfTickets_2 rfl (lv_at hl 1 rfl) ?_
  refine lv_bipush (v := nI 10) C0.1 C0.2.1 dX0_pointsOfTickets_3 (by decide) ?_
  refine tn_irem C0.1 C0.2.1 dX0_pointsOfTickets_5 (by omega) (by decide) (by decide) ?_
  refine lv_iload_n C0.1 C0.2.1 dX0_pointsOfTickets_6 rfl (lv_at hl 2 rfl) ?_
  refine lv_bipush (v := nI 10) C0.1 C0.2.1 dX0_pointsOfTickets_7 (by decide) ?_
  refine tn_irem C0.1 C0.2.1 dX0_pointsOfTickets_9 (by omega) (by decide) (by decide) ?_
  refine tn_icmp_ne (tgt := 16) C0.1 C0.2.1 dX0_pointsOfTickets_10 (by decide) (by omega) (by omega) (fun c_10 => ?_) (fun c_10 => ?_)
  · exact cut_16 (0) (by first | rw [if_neg c_10] | rw [if_pos c_10]) ls (lv_sub hl [0, 1, 2] rfl) _ _ hG hS
  · refine tn_iinc (lv' := [(2, .int (nI (0 + 1))), (0, .int (nI (t))), (1, .int (nI (u)))]) C0.1 C0.2.1 dX0_pointsOfTickets_13 hl (k := 0) rfl (by decide) rfl (fun ls hl => ?_)
    exact cut_16 (0 + 1) (by first | rw [if_neg c_10] | rw [if_pos c_10]) ls (lv_sub hl [0, 1, 2] rfl) _ _ hG hS
set_option maxHeartbeats 4000000 in
set_option maxRecDepth 100000 in
theorem kX0_pointsOfPair {l : Launch} (hlf : l.stackTraces = false) {D : va_G} {cI cJ : ClassId} {N0 : Nat} {h r1 r2 r3 r4 : Nat} {tk co cn wk : Nat → Nat} {n st : Nat} {ho ct sp : Int32} {Z : va_W} (hk : tOk tk co cn wk n st) (x : Nat) (y : Nat) (h1 : x < 12) (h2 : y < 12) : tcM l yX0_pointsOfPair wsX0_pointsOfPair { frames := 2, cells := 0, slots := 0, locals := 43 } [] 0 [.ref h, .int (nI (x)), .int (nI (y))] D cI cJ N0 (wT h r1 r2 r3 r4 cI tk co cn wk n ho st ct sp Z) (some (.int (nI (pts tk co x y)))) (wT h r1 r2 r3 r4 cI tk co cn wk n ho st ct sp Z) 0 0 := by
  refine tcM.of (cc := cX0_pointsOfPair) (maxL := 3) (ret := (some .int)) (by decide) rfl (Nat.le_of_ble_eq_true rfl) ?_
  intro p e s m args below meth c C0 hr hlk ht hmn hG ls hl
  have hl : lv_has ls 3 [(0, .ref h), (1, .int (nI (x))), (2, .int (nI (y)))] := hl
  obtain ⟨hk1, hk2, hk3, hk4, hn12, hst⟩ := id hk
  have hG0 := hG
  have hS : va_S (tcA N0) s.heap s.heap [] := va_S.rf
  have hF : ∀ w ∈ wsX00, w ∈ wsX0_pointsOfPair := by decide +kernel
  have w_colours : Cond.fieldLink RX0 13 "TicketCoincidences" "colours" "[I" ∈ wsX0_pointsOfPair := by decide +kernel
  have w_tickets : Cond.fieldLink RX0 9 "TicketCoincidences" "tickets" "[I" ∈ wsX0_pointsOfPair := by decide +kernel
  refine lv_aload_n C0.1 C0.2.1 dX0_pointsOfPair_0 rfl (lv_at hl 0 rfl) ?_
  refine tgX0_tickets C0 hF hG w_tickets dX0_pointsOfPair_1 ?_
  refine lv_iload_n C0.1 C0.2.1 dX0_pointsOfPair_4 rfl (lv_at hl 1 rfl) ?_
  refine tc_ald (q0 := 1) C0 hG rfl (by omega) dX0_pointsOfPair_5 ?_
  have b_5 := hk1 (x)
  refine lv_aload_n C0.1 C0.2.1 dX0_pointsOfPair_6 rfl (lv_at hl 0 rfl) ?_
  refine tgX0_tickets C0 hF hG w_tickets dX0_pointsOfPair_7 ?_
  refine lv_iload_n C0.1 C0.2.1 dX0_pointsOfPair_10 rfl (lv_at hl 2 rfl) ?_
  refine tc_ald (q0 := 1) C0 hG rfl (by omega) dX0_pointsOfPair_11 ?_
  have b_11 := hk1 (y)
  refine tc_callS C0 hG hS (kX0_pointsOfTickets hlf  (tk (x)) (tk (y)) (by omega) (by omega)) (va_cwS 2 C0.2.2.2.2 gX0_pointsOfPair_X0_pointsOfTickets rfl rfl rfl (by decide +kernel) ⟨(Nat.le_of_ble_eq_true rfl), (Nat.le_of_ble_eq_true rfl)⟩) rfl hl rfl (Nat.le_of_ble_eq_true rfl) dX0_pointsOfPair_12 ⟨(Nat.le_of_ble_eq_true rfl), (Nat.le_of_ble_eq_true rfl)⟩ (fun H locs hG hS => ?_)
  refine lv_aload_n C0.1 C0.2.1 dX0_pointsOfPair_15 rfl (lv_at hl 0 rfl) ?_
  refine tgX0_colours C0 hF hG w_colours dX0_pointsOfPair_16 ?_
  refine lv_iload_n C0.1 C0.2.1 dX0_pointsOfPair_19 rfl (lv_at hl 1 rfl) ?_
  refine tc_ald (q0 := 2) C0 hG rfl (by omega) dX0_pointsOfPair_20 ?_
  have b_20 := hk2 (x)
  refine lv_aload_n C0.1 C0.2.1 dX0_pointsOfPair_21 rfl (lv_at hl 0 rfl) ?_
  refine tgX0_colours C0 hF hG w_colours dX0_pointsOfPair_22 ?_
  refine lv_iload_n C0.1 C0.2.1 dX0_pointsOfPair_25 rfl (lv_at hl 2 rfl) ?_
  refine tc_ald (q0 := 2) C0 hG rfl (by omega) dX0_pointsOfPair_26 ?_
  have b_26 := hk2 (y)
  refine tc_callS C0 hG hS (kX0_pointsOfColours hlf  (co (x)) (co (y)) (by omega) (by omega)) (va_cwS 2 C0.2.2.2.2 gX0_pointsOfPair_X0_pointsOfColours rfl rfl rfl (by decide +kernel) ⟨(Nat.le_of_ble_eq_true rfl), (Nat.le_of_ble_eq_true rfl)⟩) rfl hl rfl (Nat.le_of_ble_eq_true rfl) dX0_pointsOfPair_27 ⟨(Nat.le_of_ble_eq_true rfl), (Nat.le_of_ble_eq_true rfl)⟩ (fun H locs hG hS => ?_)
  refine tn_iadd C0.1 C0.2.1 dX0_pointsOfPair_30 ?_
  exact tc_iret C0 hr hlk hG hS rfl rfl (Nat.le_of_ble_eq_true rfl) (Nat.le_of_ble_eq_true rfl) dX0_pointsOfPair_31
set_option maxHeartbeats 4000000 in
set_option maxRecDepth 100000 in
theorem kX0_cornerBehind {l : Launch} (hlf : l.stackTraces = false) {D : va_G} {cI cJ : ClassId} {N0 : Nat} {h r1 r2 r3 r4 : Nat} {tk co cn wk : Nat → Nat} {n st : Nat} {ho ct sp : Int32} {Z : va_W} (hk : tOk tk co cn wk n st) (x : Nat) (y : Nat) (h1 : x < 12) (h2 : y ≤ 60) : tcM l yX0_cornerBehind wsX0_cornerBehind { frames := 0, cells := 0, slots := 0, locals := 0 } [] 0 [.ref h, .int (nI (x)), .int (nI (y))] D cI cJ N0 (wT h r1 r2 r3 r4 cI tk co cn wk n ho st ct sp Z) (some (.int (nI (cnr cn wk y x)))) (wT h r1 r2 r3 r4 cI tk co cn wk n ho st ct sp Z) 0 0 := by
  refine tcM.of (cc := cX0_cornerBehind) (maxL := 3) (ret := (some .int)) (by decide) rfl (Nat.le_of_ble_eq_true rfl) ?_
  intro p e s m args below meth c C0 hr hlk ht hmn hG ls hl
  have hl : lv_has ls 3 [(0, .ref h), (1, .int (nI (x))), (2, .int (nI (y)))] := hl
  obtain ⟨hk1, hk2, hk3, hk4, hn12, hst⟩ := id hk
  have hG0 := hG
  have hS : va_S (tcA N0) s.heap s.heap [] := va_S.rf
  have hF : ∀ w ∈ wsX00, w ∈ wsX0_cornerBehind := by decide +kernel
  have w_corners : Cond.fieldLink RX0 16 "TicketCoincidences" "corners" "[I" ∈ wsX0_cornerBehind := by decide +kernel
  have w_walks : Cond.fieldLink RX0 19 "TicketCoincidences" "walks" "[I" ∈ wsX0_cornerBehind := by decide +kernel
  refine lv_aload_n C0.1 C0.2.1 dX0_cornerBehind_0 rfl (lv_at hl 0 rfl) ?_
  refine tgX0_corners C0 hF hG w_corners dX0_cornerBehind_1 ?_
  refine lv_iload_n C0.1 C0.2.1 dX0_cornerBehind_4 rfl (lv_at hl 1 rfl) ?_
  refine tc_ald (q0 := 3) C0 hG rfl (by omega) dX0_cornerBehind_5 ?_
  have b_5 := hk3 (x)
  refine lv_aload_n C0.1 C0.2.1 dX0_cornerBehind_6 rfl (lv_at hl 0 rfl) ?_
  refine tgX0_walks C0 hF hG w_walks dX0_cornerBehind_7 ?_
  refine lv_iload_n C0.1 C0.2.1 dX0_cornerBehind_10 rfl (lv_at hl 1 rfl) ?_
  refine tc_ald (q0 := 4) C0 hG rfl (by omega) dX0_cornerBehind_11 ?_
  have b_11 := hk4 (x)
  refine lv_iload_n C0.1 C0.2.1 dX0_cornerBehind_12 rfl (lv_at hl 2 rfl) ?_
  refine tn_imul C0.1 C0.2.1 dX0_cornerBehind_13 ?_
  refine tn_iadd C0.1 C0.2.1 dX0_cornerBehind_14 ?_
  refine lv_bipush (v := nI 6) C0.1 C0.2.1 dX0_cornerBehind_15 (by decide) ?_
  refine tn_irem C0.1 C0.2.1 dX0_cornerBehind_17 (by have := Nat.mul_le_mul (Nat.le_of_lt b_11) h2; omega) (by decide) (by decide) ?_
  exact tc_iret C0 hr hlk hG hS rfl rfl (Nat.le_of_ble_eq_true rfl) (Nat.le_of_ble_eq_true rfl) dX0_cornerBehind_18
set_option maxHeartbeats 4000000 in
set_option maxRecDepth 100000 in
theorem kX0_crowdAt {l : Launch} (hlf : l.stackTraces = false) {D : va_G} {cI cJ : ClassId} {N0 : Nat} {h r1 r2 r3 r4 : Nat} {tk co cn wk : Nat → Nat} {n st : Nat} {ho ct sp : Int32} {Z : va_W} (hk : tOk tk co cn wk n st) (x : Nat) (h1 : x < 6) : tcM l yX0_crowdAt wsX0_crowdAt { frames := 0, cells := 0, slots := 0, locals := 0 } [] 0 [.ref h, .int (nI (x))] D cI cJ N0 (wT h r1 r2 r3 r4 cI tk co cn wk n ho st ct sp Z) (some (.int (nI (crowd cn x n)))) (wT h r1 r2 r3 r4 cI tk co cn wk n ho st ct sp Z) 0 0 := by
  refine tcM.of (cc := cX0_crowdAt) (maxL := 4) (ret := (some .int)) (by decide) rfl (Nat.le_of_ble_eq_true rfl) ?_
  intro p e s m args below meth c C0 hr hlk ht hmn hG ls hl
  have hl : lv_has ls 4 [(0, .ref h), (1, .int (nI (x)))] := hl
  obtain ⟨hk1, hk2, hk3, hk4, hn12, hst⟩ := id hk
  have hG0 := hG
  have hS : va_S (tcA N0) s.heap s.heap [] := va_S.rf
  have hF : ∀ w ∈ wsX00, w ∈ wsX0_crowdAt := by decide +kernel
  have w_corners : Cond.fieldLink RX0 16 "TicketCoincidences" "corners" "[I" ∈ wsX0_crowdAt := by decide +kernel
  have w_people : Cond.fieldLink RX0 22 "TicketCoincidences" "people" "I" ∈ wsX0_crowdAt := by decide +kernel
  refine lv_iconst (v := nI 0) C0.1 C0.2.1 dX0_crowdAt_0 (by decide) ?_
  refine lv_istore_n (lv' := [(2, .int (nI (0))), (0, .ref h), (1, .int (nI (x)))]) C0.1 C0.2.1 dX0_crowdAt_1 rfl hl (by decide) rfl (fun ls hl => ?_)
  refine lv_iconst (v := nI 0) C0.1 C0.2.1 dX0_crowdAt_2 (by decide) ?_
  refine lv_istore_n (lv' := [(3, .int (nI (0))), (2, .int (nI (0))), (0, .ref h), (1, .int (nI (x)))]) C0.1 C0.2.1 dX0_crowdAt_3 rfl hl (by decide) rfl (fun ls hl => ?_)
  refine tc_nameQ (fun zQg zhQ => ?_)
  have cut_4 : ∀ (kf : Nat) (q : Nat) (i : Nat) (hi : i ≤ n) (hq : q = sm (fun i => if cn i = x then 1 else 0) i) (hm : n + 1 ≤ i + kf), ∀ (ls : Array Slot), lv_has ls 4 [(3, .int (nI (i))), (2, .int (nI (q))), (0, .ref h), (1, .int (nI (x)))] → ∀ (H : Heap) (locs : List Loc), tcG D cI cJ N0 (wT h r1 r2 r3 r4 cI tk co cn wk n ho st ct sp Z) s H → va_S (tcA N0) s.heap H locs → W p l e ({ frames := 0, cells := 0, slots := 0, locals := 0 } : Room) s m args below meth c H locs (0) (0) zQg (F0 m 4 ls []) := by
    intro kf
    induction kf with
    | zero => intro q i hi hq hm; exact absurd hm (by omega)
    | succ kf ih_4 =>
      intro q i hi hq hm ls hl H locs hG hS
      refine lv_iload_n C0.1 C0.2.1 dX0_crowdAt_4 rfl (lv_at hl 0 rfl) ?_
      refine lv_aload_n C0.1 C0.2.1 dX0_crowdAt_5 rfl (lv_at hl 2 rfl) ?_
      refine tgX0_people C0 hF hG w_people dX0_crowdAt_6 ?_
      refine tn_icmp_ge (tgt := 31) C0.1 C0.2.1 dX0_crowdAt_9 (by decide) (by omega) (by omega) (fun c_9 => ?_) (fun c_9 => ?_)
      · refine lv_iload_n C0.1 C0.2.1 dX0_crowdAt_31 rfl (lv_at hl 1 rfl) ?_
        subst zhQ
        exact tc_iret C0 hr hlk hG hS rfl (by rw [hq, show i = n by omega]; rfl) (Nat.le_of_ble_eq_true rfl) (Nat.le_of_ble_eq_true rfl) dX0_crowdAt_32
      · refine lv_aload_n C0.1 C0.2.1 dX0_crowdAt_12 rfl (lv_at hl 2 rfl) ?_
        refine tgX0_corners C0 hF hG w_corners dX0_crowdAt_13 ?_
        refine lv_iload_n C0.1 C0.2.1 dX0_crowdAt_16 rfl (lv_at hl 0 rfl) ?_
        refine tc_ald (q0 := 3) C0 hG rfl (by omega) dX0_crowdAt_17 ?_
        have b_17 := hk3 (i)
        refine lv_iload_n C0.1 C0.2.1 dX0_crowdAt_18 rfl (lv_at hl 3 rfl) ?_
        refine tn_icmp_ne (tgt := 25) C0.1 C0.2.1 dX0_crowdAt_19 (by decide) (by omega) (by omega) (fun c_19 => ?_) (fun c_19 => ?_)
        · refine tn_iinc (lv' := [(3, .int (nI (i + 1))), (2, .int (nI (q))), (0, .ref h), (1, .int (nI (x)))]) C0.1 C0.2.1 dX0_crowdAt_25 hl (k := 0) rfl (by decide) rfl (fun ls hl => ?_)
          refine lv_goto (tgt := 4) C0.1 C0.2.1 dX0_crowdAt_28 (by decide) ?_
          exact ih_4 (q) (i + 1) (by omega) (by first | exact sm_step hq (if_pos c_19) | exact sm_skip hq (if_neg c_19)) (by omega) ls (lv_sub hl [0, 1, 2, 3] rfl) _ _ hG hS
        · refine tn_iinc (lv' := [(2, .int (nI (q + 1))), (3, .int (nI (i))), (0, .ref h), (1, .int (nI (x)))]) C0.1 C0.2.1 dX0_crowdAt_22 hl (k := 1) rfl (by decide) rfl (fun ls hl => ?_)
          refine tn_iinc (lv' := [(3, .int (nI (i + 1))), (2, .int (nI (q + 1))), (0, .ref h), (1, .int (nI (x)))]) C0.1 C0.2.1 dX0_crowdAt_25 hl (k := 1) rfl (by decide) rfl (fun ls hl => ?_)
          refine lv_goto (tgt := 4) C0.1 C0.2.1 dX0_crowdAt_28 (by decide) ?_
          exact ih_4 (q + 1) (i + 1) (by omega) (by first | exact sm_step hq (if_pos c_19) | exact sm_skip hq (if_neg c_19)) (by omega) ls (lv_sub hl [0, 1, 2, 3] rfl) _ _ hG hS
  exact cut_4 (n + 1) (0) (0) (by omega) rfl (by omega) ls (lv_sub hl [0, 1, 2, 3] rfl) _ _ hG hS
set_option maxHeartbeats 4000000 in
set_option maxRecDepth 100000 in
theorem kX0_emptyCorners {l : Launch} (hlf : l.stackTraces = false) {D : va_G} {cI cJ : ClassId} {N0 : Nat} {h r1 r2 r3 r4 : Nat} {tk co cn wk : Nat → Nat} {n st : Nat} {ho ct sp : Int32} {Z : va_W} (hk : tOk tk co cn wk n st)   : tcM l yX0_emptyCorners wsX0_emptyCorners { frames := 1, cells := 0, slots := 0, locals := 23 } [] 0 [.ref h] D cI cJ N0 (wT h r1 r2 r3 r4 cI tk co cn wk n ho st ct sp Z) (some (.int (nI (emp cn n)))) (wT h r1 r2 r3 r4 cI tk co cn wk n ho st ct sp Z) 0 0 := by
  refine tcM.of (cc := cX0_emptyCorners) (maxL := 3) (ret := (some .int)) (by decide) rfl (Nat.le_of_ble_eq_true rfl) ?_
  intro p e s m args below meth c C0 hr hlk ht hmn hG ls hl
  have hl : lv_has ls 3 [(0, .ref h)] := hl
  obtain ⟨hk1, hk2, hk3, hk4, hn12, hst⟩ := id hk
  have hG0 := hG
  have hS : va_S (tcA N0) s.heap s.heap [] := va_S.rf
  refine lv_iconst (v := nI 0) C0.1 C0.2.1 dX0_emptyCorners_0 (by decide) ?_
  refine lv_istore_n (lv' := [(1, .int (nI (0))), (0, .ref h)]) C0.1 C0.2.1 dX0_emptyCorners_1 rfl hl (by decide) rfl (fun ls hl => ?_)
  refine lv_iconst (v := nI 0) C0.1 C0.2.1 dX0_emptyCorners_2 (by decide) ?_
  refine lv_istore_n (lv' := [(2, .int (nI (0))), (1, .int (nI (0))), (0, .ref h)]) C0.1 C0.2.1 dX0_emptyCorners_3 rfl hl (by decide) rfl (fun ls hl => ?_)
  refine tc_nameQ (fun zQg zhQ => ?_)
  have cut_4 : ∀ (kf : Nat) (q : Nat) (i : Nat) (hi : i ≤ 6) (hq : q = sm (fun c => if crowd cn c n = 0 then 1 else 0) i) (hm : 6 + 1 ≤ i + kf), ∀ (ls : Array Slot), lv_has ls 3 [(2, .int (nI (i))), (1, .int (nI (q))), (0, .ref h)] → ∀ (H : Heap) (locs : List Loc), tcG D cI cJ N0 (wT h r1 r2 r3 r4 cI tk co cn wk n ho st ct sp Z) s H → va_S (tcA N0) s.heap H locs → W p l e ({ frames := 1, cells := 0, slots := 0, locals := 23 } : Room) s m args below meth c H locs (0) (0) zQg (F0 m 4 ls []) := by
    intro kf
    induction kf with
    | zero => intro q i hi hq hm; exact absurd hm (by omega)
    | succ kf ih_4 =>
      intro q i hi hq hm ls hl H locs hG hS
      refine lv_iload_n C0.1 C0.2.1 dX0_emptyCorners_4 rfl (lv_at hl 0 rfl) ?_
      refine lv_bipush (v := nI 6) C0.1 C0.2.1 dX0_emptyCorners_5 (by decide) ?_
      refine tn_icmp_ge (tgt := 27) C0.1 C0.2.1 dX0_emptyCorners_7 (by decide) (by omega) (by omega) (fun c_7 => ?_) (fun c_7 => ?_)
      · refine lv_iload_n C0.1 C0.2.1 dX0_emptyCorners_27 rfl (lv_at hl 1 rfl) ?_
        subst zhQ
        exact tc_iret C0 hr hlk hG hS rfl (by rw [hq, show i = 6 by omega]; rfl) (Nat.le_of_ble_eq_true rfl) (Nat.le_of_ble_eq_true rfl) dX0_emptyCorners_28
      · refine lv_aload_n C0.1 C0.2.1 dX0_emptyCorners_10 rfl (lv_at hl 2 rfl) ?_
        refine lv_iload_n C0.1 C0.2.1 dX0_emptyCorners_11 rfl (lv_at hl 0 rfl) ?_
        refine tc_callV (q0 := 0) C0 hG hS rfl rfl (kX0_crowdAt hlf hk  (i) (by omega)) (cwV 1 C0.2.2.2.2 gX0_emptyCorners_X0_crowdAt rfl rfl rfl (by decide +kernel) ⟨(Nat.le_of_ble_eq_true rfl), (Nat.le_of_ble_eq_true rfl)⟩) rfl hl rfl (Nat.le_of_ble_eq_true rfl) dX0_emptyCorners_12 ⟨(Nat.le_of_ble_eq_true rfl), (Nat.le_of_ble_eq_true rfl)⟩ (fun H locs hG hS => ?_)
        have b_12 := crowd_le cn i hk.2.2.2.2.1
        refine tn_if_ne (tgt := 21) C0.1 C0.2.1 dX0_emptyCorners_15 (by decide) (by omega) (fun c_15 => ?_) (fun c_15 => ?_)
        · refine tn_iinc (lv' := [(2, .int (nI (i + 1))), (1, .int (nI (q))), (0, .ref h)]) C0.1 C0.2.1 dX0_emptyCorners_21 hl (k := 0) rfl (by decide) rfl (fun ls hl => ?_)
          refine lv_goto (tgt := 4) C0.1 C0.2.1 dX0_emptyCorners_24 (by decide) ?_
          exact ih_4 (q) (i + 1) (by omega) (by first | exact sm_step hq (if_pos c_15) | exact sm_skip hq (if_neg (by omega))) (by omega) ls (lv_sub hl [0, 1, 2] rfl) _ _ hG hS
        · refine tn_iinc (lv' := [(1, .int (nI (q + 1))), (2, .int (nI (i))), (0, .ref h)]) C0.1 C0.2.1 dX0_emptyCorners_18 hl (k := 1) rfl (by decide) rfl (fun ls hl => ?_)
          refine tn_iinc (lv' := [(2, .int (nI (i + 1))), (1, .int (nI (q + 1))), (0, .ref h)]) C0.1 C0.2.1 dX0_emptyCorners_21 hl (k := 1) rfl (by decide) rfl (fun ls hl => ?_)
          refine lv_goto (tgt := 4) C0.1 C0.2.1 dX0_emptyCorners_24 (by decide) ?_
          exact ih_4 (q + 1) (i + 1) (by omega) (by first | exact sm_step hq (if_pos c_15) | exact sm_skip hq (if_neg (by omega))) (by omega) ls (lv_sub hl [0, 1, 2] rfl) _ _ hG hS
  exact cut_4 (6 + 1) (0) (0) (by omega) rfl (by omega) ls (lv_sub hl [0, 1, 2] rfl) _ _ hG hS
set_option maxHeartbeats 4000000 in
set_option maxRecDepth 100000 in
theorem kX0_luckWith {l : Launch} (hlf : l.stackTraces = false) {D : va_G} {cI cJ : ClassId} {N0 : Nat} {h r1 r2 r3 r4 : Nat} {tk co cn wk : Nat → Nat} {n st : Nat} {ho ct sp : Int32} {Z : va_W} (hk : tOk tk co cn wk n st) (x : Nat) (y : Nat) (z : Nat) (h1 : x < 12) (h2 : y < 100) (h3 : z < 6) : tcM l yX0_luckWith wsX0_luckWith { frames := 2, cells := 0, slots := 0, locals := 43 } [] 0 [.ref h, .int (nI (x)), .int (nI (y)), .int (nI (z))] D cI cJ N0 (wT h r1 r2 r3 r4 cI tk co cn wk n ho st ct sp Z) (some (.int (nI (lw tk co cn x y z n)))) (wT h r1 r2 r3 r4 cI tk co cn wk n ho st ct sp Z) 0 0 := by
  refine tcM.of (cc := cX0_luckWith) (maxL := 6) (ret := (some .int)) (by decide) rfl (Nat.le_of_ble_eq_true rfl) ?_
  intro p e s m args below meth c C0 hr hlk ht hmn hG ls hl
  have hl : lv_has ls 6 [(0, .ref h), (1, .int (nI (x))), (2, .int (nI (y))), (3, .int (nI (z)))] := hl
  obtain ⟨hk1, hk2, hk3, hk4, hn12, hst⟩ := id hk
  have hG0 := hG
  have hS : va_S (tcA N0) s.heap s.heap [] := va_S.rf
  have hF : ∀ w ∈ wsX00, w ∈ wsX0_luckWith := by decide +kernel
  have w_colours : Cond.fieldLink RX0 13 "TicketCoincidences" "colours" "[I" ∈ wsX0_luckWith := by decide +kernel
  have w_corners : Cond.fieldLink RX0 16 "TicketCoincidences" "corners" "[I" ∈ wsX0_luckWith := by decide +kernel
  have w_people : Cond.fieldLink RX0 22 "TicketCoincidences" "people" "I" ∈ wsX0_luckWith := by decide +kernel
  have w_tickets : Cond.fieldLink RX0 9 "TicketCoincidences" "tickets" "[I" ∈ wsX0_luckWith := by decide +kernel
  refine lv_iconst (v := nI 0) C0.1 C0.2.1 dX0_luckWith_0 (by decide) ?_
  refine lv_istore (lv' := [(4, .int (nI (0))), (0, .ref h), (1, .int (nI (x))), (2, .int (nI (y))), (3, .int (nI (z)))]) C0.1 C0.2.1 dX0_luckWith_1 hl (by decide) rfl (fun ls hl => ?_)
  refine lv_iconst (v := nI 0) C0.1 C0.2.1 dX0_luckWith_3 (by decide) ?_
  refine lv_istore (lv' := [(5, .int (nI (0))), (4, .int (nI (0))), (0, .ref h), (1, .int (nI (x))), (2, .int (nI (y))), (3, .int (nI (z)))]) C0.1 C0.2.1 dX0_luckWith_4 hl (by decide) rfl (fun ls hl => ?_)
  refine tc_nameQ (fun zQg zhQ => ?_)
  have cut_6 : ∀ (kf : Nat) (q : Nat) (i : Nat) (hi : i ≤ n) (hq : q = sm (lwg tk co cn x y z) i) (hm : n + 1 ≤ i + kf), ∀ (ls : Array Slot), lv_has ls 6 [(5, .int (nI (i))), (4, .int (nI (q))), (0, .ref h), (1, .int (nI (x))), (2, .int (nI (y))), (3, .int (nI (z)))] → ∀ (H : Heap) (locs : List Loc), tcG D cI cJ N0 (wT h r1 r2 r3 r4 cI tk co cn wk n ho st ct sp Z) s H → va_S (tcA N0) s.heap H locs → W p l e ({ frames := 2, cells := 0, slots := 0, locals := 43 } : Room) s m args below meth c H locs (0) (0) zQg (F0 m 6 ls []) := by
    intro kf
    induction kf with
    | zero => intro q i hi hq hm; exact absurd hm (by omega)
    | succ kf ih_6 =>
      intro q i hi hq hm ls hl H locs hG hS
      refine lv_iload C0.1 C0.2.1 dX0_luckWith_6 (lv_at hl 0 rfl) ?_
      refine lv_aload_n C0.1 C0.2.1 dX0_luckWith_8 rfl (lv_at hl 2 rfl) ?_
      refine tgX0_people C0 hF hG w_people dX0_luckWith_9 ?_
      refine tn_icmp_ge (tgt := 71) C0.1 C0.2.1 dX0_luckWith_12 (by decide) (by omega) (by omega) (fun c_12 => ?_) (fun c_12 => ?_)
      · refine lv_iload C0.1 C0.2.1 dX0_luckWith_71 (lv_at hl 1 rfl) ?_
        subst zhQ
        exact tc_iret C0 hr hlk hG hS rfl (by rw [hq, show i = n by omega]; rfl) (Nat.le_of_ble_eq_true rfl) (Nat.le_of_ble_eq_true rfl) dX0_luckWith_73
      · refine lv_iload C0.1 C0.2.1 dX0_luckWith_15 (lv_at hl 0 rfl) ?_
        refine lv_iload_n C0.1 C0.2.1 dX0_luckWith_17 rfl (lv_at hl 3 rfl) ?_
        refine tn_icmp_eq (tgt := 65) C0.1 C0.2.1 dX0_luckWith_18 (by decide) (by omega) (by omega) (fun c_18 => ?_) (fun c_18 => ?_)
        · refine tn_iinc (lv' := [(5, .int (nI (i + 1))), (4, .int (nI (q))), (0, .ref h), (1, .int (nI (x))), (2, .int (nI (y))), (3, .int (nI (z)))]) C0.1 C0.2.1 dX0_luckWith_65 hl (k := 0) rfl (by decide) rfl (fun ls hl => ?_)
          refine lv_goto (tgt := 6) C0.1 C0.2.1 dX0_luckWith_68 (by decide) ?_
          exact ih_6 (q) (i + 1) (by omega) (by first | exact sm_step hq (lwg_1 c_18 c_29) | exact sm_skip hq (lwg_0 c_18) | exact sm_skip hq (lwg_2 c_29)) (by omega) ls (lv_sub hl [0, 1, 2, 3, 4, 5] rfl) _ _ hG hS
        · refine lv_aload_n C0.1 C0.2.1 dX0_luckWith_21 rfl (lv_at hl 2 rfl) ?_
          refine tgX0_corners C0 hF hG w_corners dX0_luckWith_22 ?_
          refine lv_iload C0.1 C0.2.1 dX0_luckWith_25 (lv_at hl 0 rfl) ?_
          refine tc_ald (q0 := 3) C0 hG rfl (by omega) dX0_luckWith_27 ?_
          have b_27 := hk3 (i)
          refine lv_iload_n C0.1 C0.2.1 dX0_luckWith_28 rfl (lv_at hl 5 rfl) ?_
          refine tn_icmp_ne (tgt := 65) C0.1 C0.2.1 dX0_luckWith_29 (by decide) (by omega) (by omega) (fun c_29 => ?_) (fun c_29 => ?_)
          · refine tn_iinc (lv' := [(5, .int (nI (i + 1))), (4, .int (nI (q))), (0, .ref h), (1, .int (nI (x))), (2, .int (nI (y))), (3, .int (nI (z)))]) C0.1 C0.2.1 dX0_luckWith_65 hl (k := 0) rfl (by decide) rfl (fun ls hl => ?_)
            refine lv_goto (tgt := 6) C0.1 C0.2.1 dX0_luckWith_68 (by decide) ?_
            exact ih_6 (q) (i + 1) (by omega) (by first | exact sm_step hq (lwg_1 c_18 c_29) | exact sm_skip hq (lwg_0 c_18) | exact sm_skip hq (lwg_2 c_29)) (by omega) ls (lv_sub hl [0, 1, 2, 3, 4, 5] rfl) _ _ hG hS
          · refine lv_iload C0.1 C0.2.1 dX0_luckWith_32 (lv_at hl 1 rfl) ?_
            refine lv_iload_n C0.1 C0.2.1 dX0_luckWith_34 rfl (lv_at hl 4 rfl) ?_
            refine lv_aload_n C0.1 C0.2.1 dX0_luckWith_35 rfl (lv_at hl 2 rfl) ?_
            refine tgX0_tickets C0 hF hG w_tickets dX0_luckWith_36 ?_
            refine lv_iload C0.1 C0.2.1 dX0_luckWith_39 (lv_at hl 0 rfl) ?_
            refine tc_ald (q0 := 1) C0 hG rfl (by omega) dX0_luckWith_41 ?_
            have b_41 := hk1 (i)
            refine tc_callS C0 hG hS (kX0_pointsOfTickets hlf  (y) (tk (i)) (by omega) (by omega)) (va_cwS 2 C0.2.2.2.2 gX0_luckWith_X0_pointsOfTickets rfl rfl rfl (by decide +kernel) ⟨(Nat.le_of_ble_eq_true rfl), (Nat.le_of_ble_eq_true rfl)⟩) rfl hl rfl (Nat.le_of_ble_eq_true rfl) dX0_luckWith_42 ⟨(Nat.le_of_ble_eq_true rfl), (Nat.le_of_ble_eq_true rfl)⟩ (fun H locs hG hS => ?_)
            refine lv_aload_n C0.1 C0.2.1 dX0_luckWith_45 rfl (lv_at hl 2 rfl) ?_
            refine tgX0_colours C0 hF hG w_colours dX0_luckWith_46 ?_
            refine lv_iload_n C0.1 C0.2.1 dX0_luckWith_49 rfl (lv_at hl 3 rfl) ?_
            refine tc_ald (q0 := 2) C0 hG rfl (by omega) dX0_luckWith_50 ?_
            have b_50 := hk2 (x)
            refine lv_aload_n C0.1 C0.2.1 dX0_luckWith_51 rfl (lv_at hl 2 rfl) ?_
            refine tgX0_colours C0 hF hG w_colours dX0_luckWith_52 ?_
            refine lv_iload C0.1 C0.2.1 dX0_luckWith_55 (lv_at hl 0 rfl) ?_
            refine tc_ald (q0 := 2) C0 hG rfl (by omega) dX0_luckWith_57 ?_
            have b_57 := hk2 (i)
            refine tc_callS C0 hG hS (kX0_pointsOfColours hlf  (co (x)) (co (i)) (by omega) (by omega)) (va_cwS 2 C0.2.2.2.2 gX0_luckWith_X0_pointsOfColours rfl rfl rfl (by decide +kernel) ⟨(Nat.le_of_ble_eq_true rfl), (Nat.le_of_ble_eq_true rfl)⟩) rfl hl rfl (Nat.le_of_ble_eq_true rfl) dX0_luckWith_58 ⟨(Nat.le_of_ble_eq_true rfl), (Nat.le_of_ble_eq_true rfl)⟩ (fun H locs hG hS => ?_)
            refine tn_iadd C0.1 C0.2.1 dX0_luckWith_61 ?_
            refine tn_iadd C0.1 C0.2.1 dX0_luckWith_62 ?_
            refine lv_istore (lv' := [(4, .int (nI (q + (ptk y (tk (i)) + (pco (co (x)) (co (i))))))), (5, .int (nI (i))), (0, .ref h), (1, .int (nI (x))), (2, .int (nI (y))), (3, .int (nI (z)))]) C0.1 C0.2.1 dX0_luckWith_63 hl (by decide) rfl (fun ls hl => ?_)
            refine tn_iinc (lv' := [(5, .int (nI (i + 1))), (4, .int (nI (q + (ptk y (tk (i)) + (pco (co (x)) (co (i))))))), (0, .ref h), (1, .int (nI (x))), (2, .int (nI (y))), (3, .int (nI (z)))]) C0.1 C0.2.1 dX0_luckWith_65 hl (k := 1) rfl (by decide) rfl (fun ls hl => ?_)
            refine lv_goto (tgt := 6) C0.1 C0.2.1 dX0_luckWith_68 (by decide) ?_
            exact ih_6 (q + (ptk y (tk (i)) + (pco (co (x)) (co (i))))) (i + 1) (by omega) (by first | exact sm_step hq (lwg_1 c_18 c_29) | exact sm_skip hq (lwg_0 c_18) | exact sm_skip hq (lwg_2 c_29)) (by omega) ls (lv_sub hl [0, 1, 2, 3, 4, 5] rfl) _ _ hG hS
  exact cut_6 (n + 1) (0) (0) (by omega) rfl (by omega) ls (lv_sub hl [0, 1, 2, 3, 4, 5] rfl) _ _ hG hS
set_option maxHeartbeats 4000000 in
set_option maxRecDepth 100000 in
theorem kX0_luckNow {l : Launch} (hlf : l.stackTraces = false) {D : va_G} {cI cJ : ClassId} {N0 : Nat} {h r1 r2 r3 r4 : Nat} {tk co cn wk : Nat → Nat} {n st : Nat} {ho ct sp : Int32} {Z : va_W} (hk : tOk tk co cn wk n st) (x : Nat) (h1 : x < 12) : tcM l yX0_luckNow wsX0_luckNow { frames := 3, cells := 0, slots := 0, locals := 68 } [] 0 [.ref h, .int (nI (x))] D cI cJ N0 (wT h r1 r2 r3 r4 cI tk co cn wk n ho st ct sp Z) (some (.int (nI (lkn tk co cn x n)))) (wT h r1 r2 r3 r4 cI tk co cn wk n ho st ct sp Z) 0 0 := by
  refine tcM.of (cc := cX0_luckNow) (maxL := 2) (ret := (some .int)) (by decide) rfl (Nat.le_of_ble_eq_true rfl) ?_
  intro p e s m args below meth c C0 hr hlk ht hmn hG ls hl
  have hl : lv_has ls 2 [(0, .ref h), (1, .int (nI (x)))] := hl
  obtain ⟨hk1, hk2, hk3, hk4, hn12, hst⟩ := id hk
  have hG0 := hG
  have hS : va_S (tcA N0) s.heap s.heap [] := va_S.rf
  have hF : ∀ w ∈ wsX00, w ∈ wsX0_luckNow := by decide +kernel
  have w_corners : Cond.fieldLink RX0 16 "TicketCoincidences" "corners" "[I" ∈ wsX0_luckNow := by decide +kernel
  have w_tickets : Cond.fieldLink RX0 9 "TicketCoincidences" "tickets" "[I" ∈ wsX0_luckNow := by decide +kernel
  refine lv_aload_n C0.1 C0.2.1 dX0_luckNow_0 rfl (lv_at hl 0 rfl) ?_
  refine lv_iload_n C0.1 C0.2.1 dX0_luckNow_1 rfl (lv_at hl 1 rfl) ?_
  refine lv_aload_n C0.1 C0.2.1 dX0_luckNow_2 rfl (lv_at hl 0 rfl) ?_
  refine tgX0_tickets C0 hF hG w_tickets dX0_luckNow_3 ?_
  refine lv_iload_n C0.1 C0.2.1 dX0_luckNow_6 rfl (lv_at hl 1 rfl) ?_
  refine tc_ald (q0 := 1) C0 hG rfl (by omega) dX0_luckNow_7 ?_
  have b_7 := hk1 (x)
  refine lv_aload_n C0.1 C0.2.1 dX0_luckNow_8 rfl (lv_at hl 0 rfl) ?_
  refine tgX0_corners C0 hF hG w_corners dX0_luckNow_9 ?_
  refine lv_iload_n C0.1 C0.2.1 dX0_luckNow_12 rfl (lv_at hl 1 rfl) ?_
  refine tc_ald (q0 := 3) C0 hG rfl (by omega) dX0_luckNow_13 ?_
  have b_13 := hk3 (x)
  refine tc_callV (q0 := 0) C0 hG hS rfl rfl (kX0_luckWith hlf hk  (x) (tk (x)) (cn (x)) (by omega) (by omega) (by omega)) (cwV 3 C0.2.2.2.2 gX0_luckNow_X0_luckWith rfl rfl rfl (by decide +kernel) ⟨(Nat.le_of_ble_eq_true rfl), (Nat.le_of_ble_eq_true rfl)⟩) rfl hl rfl (Nat.le_of_ble_eq_true rfl) dX0_luckNow_14 ⟨(Nat.le_of_ble_eq_true rfl), (Nat.le_of_ble_eq_true rfl)⟩ (fun H locs hG hS => ?_)
  have b_14 := lw_le tk co cn x (tk (x)) (cn (x)) hk.2.2.2.2.1
  exact tc_iret C0 hr hlk hG hS rfl rfl (Nat.le_of_ble_eq_true rfl) (Nat.le_of_ble_eq_true rfl) dX0_luckNow_17
set_option maxHeartbeats 4000000 in
set_option maxRecDepth 100000 in
theorem kX0_townBehind {l : Launch} (hlf : l.stackTraces = false) {D : va_G} {cI cJ : ClassId} {N0 : Nat} {h r1 r2 r3 r4 : Nat} {tk co cn wk : Nat → Nat} {n st : Nat} {ho ct sp : Int32} {Z : va_W} (hk : tOk tk co cn wk n st) (x : Nat) (h1 : x ≤ 60) : tcM l yX0_townBehind wsX0_townBehind { frames := 3, cells := 0, slots := 0, locals := 65 } [] 0 [.ref h, .int (nI (x))] D cI cJ N0 (wT h r1 r2 r3 r4 cI tk co cn wk n ho st ct sp Z) (some (.int (nI (tw tk co cn wk x n)))) (wT h r1 r2 r3 r4 cI tk co cn wk n ho st ct sp Z) 0 0 := by
  refine tcM.of (cc := cX0_townBehind) (maxL := 5) (ret := (some .int)) (by decide) rfl (Nat.le_of_ble_eq_true rfl) ?_
  intro p e s m args below meth c C0 hr hlk ht hmn hG ls hl
  have hl : lv_has ls 5 [(0, .ref h), (1, .int (nI (x)))] := hl
  obtain ⟨hk1, hk2, hk3, hk4, hn12, hst⟩ := id hk
  have hG0 := hG
  have hS : va_S (tcA N0) s.heap s.heap [] := va_S.rf
  have hF : ∀ w ∈ wsX00, w ∈ wsX0_townBehind := by decide +kernel
  have w_people : Cond.fieldLink RX0 22 "TicketCoincidences" "people" "I" ∈ wsX0_townBehind := by decide +kernel
  refine lv_iconst (v := nI 0) C0.1 C0.2.1 dX0_townBehind_0 (by decide) ?_
  refine lv_istore_n (lv' := [(2, .int (nI (0))), (0, .ref h), (1, .int (nI (x)))]) C0.1 C0.2.1 dX0_townBehind_1 rfl hl (by decide) rfl (fun ls hl => ?_)
  refine lv_iconst (v := nI 0) C0.1 C0.2.1 dX0_townBehind_2 (by decide) ?_
  refine lv_istore_n (lv' := [(3, .int (nI (0))), (2, .int (nI (0))), (0, .ref h), (1, .int (nI (x)))]) C0.1 C0.2.1 dX0_townBehind_3 rfl hl (by decide) rfl (fun ls hl => ?_)
  refine tc_nameQ (fun zQg zhQ => ?_)
  have cut_4 : ∀ (kf : Nat) (q : Nat) (a : Nat) (ha : a ≤ n) (hq : q = sm (fun a => sm (fun b => if a < b then twg tk co cn wk x a b else 0) n) a) (hm : n + 1 ≤ a + kf), ∀ (ls : Array Slot), lv_has ls 5 [(3, .int (nI (a))), (2, .int (nI (q))), (0, .ref h), (1, .int (nI (x)))] → ∀ (H : Heap) (locs : List Loc), tcG D cI cJ N0 (wT h r1 r2 r3 r4 cI tk co cn wk n ho st ct sp Z) s H → va_S (tcA N0) s.heap H locs → W p l e ({ frames := 3, cells := 0, slots := 0, locals := 65 } : Room) s m args below meth c H locs (0) (0) zQg (F0 m 4 ls []) := by
    intro kf
    induction kf with
    | zero => intro q a ha hq hm; exact absurd hm (by omega)
    | succ kf ih_4 =>
      intro q a ha hq hm ls hl H locs hG hS
      refine lv_iload_n C0.1 C0.2.1 dX0_townBehind_4 rfl (lv_at hl 0 rfl) ?_
      refine lv_aload_n C0.1 C0.2.1 dX0_townBehind_5 rfl (lv_at hl 2 rfl) ?_
      refine tgX0_people C0 hF hG w_people dX0_townBehind_6 ?_
      refine tn_icmp_ge (tgt := 64) C0.1 C0.2.1 dX0_townBehind_9 (by decide) (by omega) (by omega) (fun c_9 => ?_) (fun c_9 => ?_)
      · refine lv_iload_n C0.1 C0.2.1 dX0_townBehind_64 rfl (lv_at hl 1 rfl) ?_
        subst zhQ
        exact tc_iret C0 hr hlk hG hS rfl (by rw [hq, show a = n by omega]; exact congrArg nI (pt_pm (twg_sym tk co cn wk x) n)) (Nat.le_of_ble_eq_true rfl) (Nat.le_of_ble_eq_true rfl) dX0_townBehind_65
      · refine lv_iload_n C0.1 C0.2.1 dX0_townBehind_12 rfl (lv_at hl 0 rfl) ?_
        refine lv_iconst (v := nI 1) C0.1 C0.2.1 dX0_townBehind_13 (by decide) ?_
        refine tn_iadd C0.1 C0.2.1 dX0_townBehind_14 ?_
        refine lv_istore (lv' := [(4, .int (nI (a + 1))), (3, .int (nI (a))), (2, .int (nI (q))), (0, .ref h), (1, .int (nI (x)))]) C0.1 C0.2.1 dX0_townBehind_15 hl (by decide) rfl (fun ls hl => ?_)
        have cut_17 : ∀ (kf : Nat) (q2 : Nat) (b : Nat) (hb : b ≤ n) (hab : a < b) (hq2 : q2 = q + sm (fun b => if a < b then twg tk co cn wk x a b else 0) b) (hm : n + 1 ≤ b + kf), ∀ (ls : Array Slot), lv_has ls 5 [(4, .int (nI (b))), (3, .int (nI (a))), (2, .int (nI (q2))), (0, .ref h), (1, .int (nI (x)))] → ∀ (H : Heap) (locs : List Loc), tcG D cI cJ N0 (wT h r1 r2 r3 r4 cI tk co cn wk n ho st ct sp Z) s H → va_S (tcA N0) s.heap H locs → W p l e ({ frames := 3, cells := 0, slots := 0, locals := 65 } : Room) s m args below meth c H locs (0) (0) zQg (F0 m 17 ls []) := by
          intro kf
          induction kf with
          | zero => intro q2 b hb hab hq2 hm; exact absurd hm (by omega)
          | succ kf ih_17 =>
            intro q2 b hb hab hq2 hm ls hl H locs hG hS
            refine lv_iload C0.1 C0.2.1 dX0_townBehind_17 (lv_at hl 0 rfl) ?_
            refine lv_aload_n C0.1 C0.2.1 dX0_townBehind_19 rfl (lv_at hl 3 rfl) ?_
            refine tgX0_people C0 hF hG w_people dX0_townBehind_20 ?_
            refine tn_icmp_ge (tgt := 58) C0.1 C0.2.1 dX0_townBehind_23 (by decide) (by omega) (by omega) (fun c_23 => ?_) (fun c_23 => ?_)
            · refine tn_iinc (lv' := [(3, .int (nI (a + 1))), (4, .int (nI (b))), (2, .int (nI (q2))), (0, .ref h), (1, .int (nI (x)))]) C0.1 C0.2.1 dX0_townBehind_58 hl (k := 1) rfl (by decide) rfl (fun ls hl => ?_)
              refine lv_goto (tgt := 4) C0.1 C0.2.1 dX0_townBehind_61 (by decide) ?_
              exact ih_4 (q2) (a + 1) (by omega) (by have hz : b = n := (by omega); rw [sm_s, ← hq, hq2, hz]) (by omega) ls (lv_sub hl [0, 2, 3, 4] rfl) _ _ hG hS
            · refine lv_aload_n C0.1 C0.2.1 dX0_townBehind_26 rfl (lv_at hl 3 rfl) ?_
              refine lv_iload_n C0.1 C0.2.1 dX0_townBehind_27 rfl (lv_at hl 1 rfl) ?_
              refine lv_iload_n C0.1 C0.2.1 dX0_townBehind_28 rfl (lv_at hl 4 rfl) ?_
              refine tc_callV (q0 := 0) C0 hG hS rfl rfl (kX0_cornerBehind hlf hk  (a) (x) (by omega) (by omega)) (cwV 2 C0.2.2.2.2 gX0_townBehind_X0_cornerBehind rfl rfl rfl (by decide +kernel) ⟨(Nat.le_of_ble_eq_true rfl), (Nat.le_of_ble_eq_true rfl)⟩) rfl hl rfl (Nat.le_of_ble_eq_true rfl) dX0_townBehind_29 ⟨(Nat.le_of_ble_eq_true rfl), (Nat.le_of_ble_eq_true rfl)⟩ (fun H locs hG hS => ?_)
              have b_29 := cnr_lt cn wk x a
              refine lv_aload_n C0.1 C0.2.1 dX0_townBehind_32 rfl (lv_at hl 3 rfl) ?_
              refine lv_iload C0.1 C0.2.1 dX0_townBehind_33 (lv_at hl 0 rfl) ?_
              refine lv_iload_n C0.1 C0.2.1 dX0_townBehind_35 rfl (lv_at hl 4 rfl) ?_
              refine tc_callV (q0 := 0) C0 hG hS rfl rfl (kX0_cornerBehind hlf hk  (b) (x) (by omega) (by omega)) (cwV 2 C0.2.2.2.2 gX0_townBehind_X0_cornerBehind rfl rfl rfl (by decide +kernel) ⟨(Nat.le_of_ble_eq_true rfl), (Nat.le_of_ble_eq_true rfl)⟩) rfl hl rfl (Nat.le_of_ble_eq_true rfl) dX0_townBehind_36 ⟨(Nat.le_of_ble_eq_true rfl), (Nat.le_of_ble_eq_true rfl)⟩ (fun H locs hG hS => ?_)
              have b_36 := cnr_lt cn wk x b
              refine tn_icmp_ne (tgt := 52) C0.1 C0.2.1 dX0_townBehind_39 (by decide) (by omega) (by omega) (fun c_39 => ?_) (fun c_39 => ?_)
              · refine tn_iinc (lv' := [(4, .int (nI (b + 1))), (3, .int (nI (a))), (2, .int (nI (q2))), (0, .ref h), (1, .int (nI (x)))]) C0.1 C0.2.1 dX0_townBehind_52 hl (k := 0) rfl (by decide) rfl (fun ls hl => ?_)
                refine lv_goto (tgt := 17) C0.1 C0.2.1 dX0_townBehind_55 (by decide) ?_
                exact ih_17 (q2) (b + 1) (by omega) (by omega) (by first | exact sm_step2 hq2 ((if_pos hab).trans (if_pos c_39)) | exact sm_skip2 hq2 ((if_pos hab).trans (if_neg c_39))) (by omega) ls (lv_sub hl [0, 1, 2, 3, 4] rfl) _ _ hG hS
              · refine lv_iload_n C0.1 C0.2.1 dX0_townBehind_42 rfl (lv_at hl 2 rfl) ?_
                refine lv_aload_n C0.1 C0.2.1 dX0_townBehind_43 rfl (lv_at hl 3 rfl) ?_
                refine lv_iload_n C0.1 C0.2.1 dX0_townBehind_44 rfl (lv_at hl 1 rfl) ?_
                refine lv_iload C0.1 C0.2.1 dX0_townBehind_45 (lv_at hl 0 rfl) ?_
                refine tc_callV (q0 := 0) C0 hG hS rfl rfl (kX0_pointsOfPair hlf hk  (a) (b) (by omega) (by omega)) (cwV 2 C0.2.2.2.2 gX0_townBehind_X0_pointsOfPair rfl rfl rfl (by decide +kernel) ⟨(Nat.le_of_ble_eq_true rfl), (Nat.le_of_ble_eq_true rfl)⟩) rfl hl rfl (Nat.le_of_ble_eq_true rfl) dX0_townBehind_47 ⟨(Nat.le_of_ble_eq_true rfl), (Nat.le_of_ble_eq_true rfl)⟩ (fun H locs hG hS => ?_)
                have b_47 := pts_le tk co a b
                refine tn_iadd C0.1 C0.2.1 dX0_townBehind_50 ?_
                refine lv_istore_n (lv' := [(2, .int (nI (q2 + (pts tk co a b)))), (4, .int (nI (b))), (3, .int (nI (a))), (0, .ref h), (1, .int (nI (x)))]) C0.1 C0.2.1 dX0_townBehind_51 rfl hl (by decide) rfl (fun ls hl => ?_)
                refine tn_iinc (lv' := [(4, .int (nI (b + 1))), (2, .int (nI (q2 + (pts tk co a b)))), (3, .int (nI (a))), (0, .ref h), (1, .int (nI (x)))]) C0.1 C0.2.1 dX0_townBehind_52 hl (k := 1) rfl (by decide) rfl (fun ls hl => ?_)
                refine lv_goto (tgt := 17) C0.1 C0.2.1 dX0_townBehind_55 (by decide) ?_
                exact ih_17 (q2 + (pts tk co a b)) (b + 1) (by omega) (by omega) (by first | exact sm_step2 hq2 ((if_pos hab).trans (if_pos c_39)) | exact sm_skip2 hq2 ((if_pos hab).trans (if_neg c_39))) (by omega) ls (lv_sub hl [0, 2, 1, 3, 4] rfl) _ _ hG hS
        exact cut_17 (n + 1) (q) (a + 1) (by omega) (by omega) (sm_start2 (fun k hk => if_neg (by omega))) (by omega) ls (lv_sub hl [0, 1, 2, 3, 4] rfl) _ _ hG hS
  exact cut_4 (n + 1) (0) (0) (by omega) rfl (by omega) ls (lv_sub hl [0, 1, 2, 3] rfl) _ _ hG hS
