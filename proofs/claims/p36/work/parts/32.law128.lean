/-! the law from 128 -/
set_option maxHeartbeats 4000000 in
set_option maxRecDepth 100000 in
theorem law_128 {p : Program} {l : Launch} {e : Env} {s : State} {m : MethodId} {args : Array Value} {below : List Frame} {meth : Method} {c : Code} {Q : State → Prop} (hlf : l.stackTraces = false) (C0 : CallFix p m c cL_law 25 s args wsL_law RL) {D : va_G} {cI cJ : ClassId} {N0 : Nat} (hG0 : tcG D cI cJ N0 [] s s.heap) {b h r1 r2 r3 r4 g : Nat} {tk co cn wk : Nat → Nat} {n st : Nat} {ho ct : Int32} {sq ra : Nat} {rw : Nat → Nat} {f : Nat → Nat → Nat} (hk : tOk tk co cn wk n st) (hy : tSy tk co cn wk n f) (hn0 : 0 < n) (hsq : sq ≤ 1000) {t : Nat} (ht9 : t < 9) {v : Int32} {ls : Array Slot} (hl : lv_has ls 25 [(0, .ref b), (1, .ref h), (2, .ref g), (3, .int (nI (t))), (4, .int (v))]) {H : Heap} {locs : List Loc} (hG : tcG D cI cJ N0 (wB h r1 r2 r3 r4 cI tk co cn wk n ho st ct (nI sq) g ra rw cJ ho st ct (nI sq) n f ([])) s H) (hS : va_S (tcA N0) s.heap H locs) (cut_193 : ∀ (ls : Array Slot), lv_has ls 25 [(0, .ref b), (1, .ref h), (2, .ref g), (3, .int (nI (t))), (4, .int (v)), (8, .long (dgst tk co cn wk n ho st ct (nI sq))), (10, .int (nI (n))), (11, .int (nI (tw tk co cn wk 0 n))), (12, .int (nI (0))), (13, .int (nI (tw tk co cn wk 0 n))), (14, .int (nI (n)))] → ∀ (H : Heap) (locs : List Loc), tcG D cI cJ N0 (wB h r1 r2 r3 r4 cI tk co cn wk n ho st ct (nI sq) g ra rw cJ ho st ct (nI sq) n f ([])) s H → va_S (tcA N0) s.heap H locs → W p l e room_1 s m args below meth c H locs (0 + (40 + 4 * (t + 1))) (0 + (300 + 24 * (t + 1))) Q (F0 m 193 ls [])) : W p l e room_1 s m args below meth c H locs (0 + (40 + 4 * (t + 1))) (0 + (300 + 24 * (t + 1))) Q (F0 m 128 ls []) := by
  obtain ⟨hk1, hk2, hk3, hk4, hn12, hst⟩ := id hk
  refine lv_aload_n C0.1 C0.2.1 dL_law_128 rfl (lv_at hl 1 rfl) ?_
  refine tc_callV (q0 := 0) C0 hG hS rfl rfl (kX0_digest hlf hk   ) (cwV 0 C0.2.2.2.2 gL_law_X0_digest rfl rfl rfl (by decide +kernel) ⟨(Nat.le_of_ble_eq_true rfl), (Nat.le_of_ble_eq_true rfl)⟩) rfl hl rfl (Nat.le_of_ble_eq_true rfl) dL_law_129 ⟨by dsimp only [room_1]; omega, by dsimp only [room_1]; omega⟩ (fun H locs hG hS => ?_)
  refine lv_lstore (lv' := [(8, .long (dgst tk co cn wk n ho st ct (nI sq))), (0, .ref b), (1, .ref h), (2, .ref g), (3, .int (nI (t))), (4, .int (v))]) C0.1 C0.2.1 dL_law_132 hl (by decide) rfl (fun ls hl => ?_)
  refine lv_aload_n C0.1 C0.2.1 dL_law_134 rfl (lv_at hl 2 rfl) ?_
  refine tc_callV (q0 := 0) C0 hG hS rfl rfl (kX0_strangers hlf hk   ) (cwV 0 C0.2.2.2.2 gL_law_X0_strangers rfl rfl rfl (by decide +kernel) ⟨(Nat.le_of_ble_eq_true rfl), (Nat.le_of_ble_eq_true rfl)⟩) rfl hl rfl (Nat.le_of_ble_eq_true rfl) dL_law_135 ⟨by dsimp only [room_1]; omega, by dsimp only [room_1]; omega⟩ (fun H locs hG hS => ?_)
  refine lv_istore (lv' := [(10, .int (nI (n))), (8, .long (dgst tk co cn wk n ho st ct (nI sq))), (0, .ref b), (1, .ref h), (2, .ref g), (3, .int (nI (t))), (4, .int (v))]) C0.1 C0.2.1 dL_law_138 hl (by decide) rfl (fun ls hl => ?_)
  refine lv_aload_n C0.1 C0.2.1 dL_law_140 rfl (lv_at hl 3 rfl) ?_
  refine tc_callV (q0 := 0) C0 hG hS rfl rfl (kX0_coincidences hlf hk   ) (cwV 0 C0.2.2.2.2 gL_law_X0_coincidences rfl rfl rfl (by decide +kernel) ⟨(Nat.le_of_ble_eq_true rfl), (Nat.le_of_ble_eq_true rfl)⟩) rfl hl rfl (Nat.le_of_ble_eq_true rfl) dL_law_141 ⟨by dsimp only [room_1]; omega, by dsimp only [room_1]; omega⟩ (fun H locs hG hS => ?_)
  have b_141 := tw_le tk co cn wk 0 hk.2.2.2.2.1
  refine lv_istore (lv' := [(11, .int (nI (tw tk co cn wk 0 n))), (10, .int (nI (n))), (8, .long (dgst tk co cn wk n ho st ct (nI sq))), (0, .ref b), (1, .ref h), (2, .ref g), (3, .int (nI (t))), (4, .int (v))]) C0.1 C0.2.1 dL_law_144 hl (by decide) rfl (fun ls hl => ?_)
  refine lv_iconst (v := nI 0) C0.1 C0.2.1 dL_law_146 (by decide) ?_
  refine lv_istore (lv' := [(12, .int (nI (0))), (11, .int (nI (tw tk co cn wk 0 n))), (10, .int (nI (n))), (8, .long (dgst tk co cn wk n ho st ct (nI sq))), (0, .ref b), (1, .ref h), (2, .ref g), (3, .int (nI (t))), (4, .int (v))]) C0.1 C0.2.1 dL_law_147 hl (by decide) rfl (fun ls hl => ?_)
  refine lv_iconst (v := nI 0) C0.1 C0.2.1 dL_law_149 (by decide) ?_
  refine lv_istore (lv' := [(13, .int (nI (0))), (12, .int (nI (0))), (11, .int (nI (tw tk co cn wk 0 n))), (10, .int (nI (n))), (8, .long (dgst tk co cn wk n ho st ct (nI sq))), (0, .ref b), (1, .ref h), (2, .ref g), (3, .int (nI (t))), (4, .int (v))]) C0.1 C0.2.1 dL_law_150 hl (by decide) rfl (fun ls hl => ?_)
  refine lv_iconst (v := nI 0) C0.1 C0.2.1 dL_law_152 (by decide) ?_
  refine lv_istore (lv' := [(14, .int (nI (0))), (13, .int (nI (0))), (12, .int (nI (0))), (11, .int (nI (tw tk co cn wk 0 n))), (10, .int (nI (n))), (8, .long (dgst tk co cn wk n ho st ct (nI sq))), (0, .ref b), (1, .ref h), (2, .ref g), (3, .int (nI (t))), (4, .int (v))]) C0.1 C0.2.1 dL_law_153 hl (by decide) rfl (fun ls hl => ?_)
  refine lv_iconst (v := nI 0) C0.1 C0.2.1 dL_law_155 (by decide) ?_
  refine lv_istore (lv' := [(15, .int (nI (0))), (14, .int (nI (0))), (13, .int (nI (0))), (12, .int (nI (0))), (11, .int (nI (tw tk co cn wk 0 n))), (10, .int (nI (n))), (8, .long (dgst tk co cn wk n ho st ct (nI sq))), (0, .ref b), (1, .ref h), (2, .ref g), (3, .int (nI (t))), (4, .int (v))]) C0.1 C0.2.1 dL_law_156 hl (by decide) rfl (fun ls hl => ?_)
  have cut_158 : ∀ (kf : Nat) (c9 : Nat) (q1 : Nat) (q2 : Nat) (hc9 : c9 ≤ 6) (hq1 : q1 = sm (fun c => cAt tk co cn c n) c9) (hq2 : q2 = sm (fun c => crowd cn c n) c9) (hm : 6 + 1 ≤ c9 + kf), ∀ (ls : Array Slot), lv_has ls 25 [(15, .int (nI (c9))), (14, .int (nI (q2))), (13, .int (nI (q1))), (12, .int (nI (0))), (11, .int (nI (tw tk co cn wk 0 n))), (10, .int (nI (n))), (8, .long (dgst tk co cn wk n ho st ct (nI sq))), (0, .ref b), (1, .ref h), (2, .ref g), (3, .int (nI (t))), (4, .int (v))] → ∀ (H : Heap) (locs : List Loc), tcG D cI cJ N0 (wB h r1 r2 r3 r4 cI tk co cn wk n ho st ct (nI sq) g ra rw cJ ho st ct (nI sq) n f ([])) s H → va_S (tcA N0) s.heap H locs → W p l e room_1 s m args below meth c H locs (0 + (40 + 4 * (t + 1))) (0 + (300 + 24 * (t + 1))) Q (F0 m 158 ls []) := by
    intro kf
    induction kf with
    | zero => intro c9 q1 q2 hc9 hq1 hq2 hm; exact absurd hm (by omega)
    | succ kf ih_158 =>
      intro c9 q1 q2 hc9 hq1 hq2 hm ls hl H locs hG hS
      refine lv_iload C0.1 C0.2.1 dL_law_158 (lv_at hl 0 rfl) ?_
      refine lv_bipush (v := nI 6) C0.1 C0.2.1 dL_law_160 (by decide) ?_
      refine tn_icmp_ge (tgt := 193) C0.1 C0.2.1 dL_law_162 (by decide) (by omega) (by omega) (fun c_162 => ?_) (fun c_162 => ?_)
      · have hz6 : c9 = 6 := by omega
        have e1 : q1 = tw tk co cn wk 0 n := by rw [hq1, hz6]; exact town_sum wk n hk3
        have e2 : q2 = n := by rw [hq2, hz6]; exact crowd_sum n hk3
        rw [e1, e2] at hl
        exact cut_193   ls (lv_sub hl [7, 8, 9, 10, 11, 6, 5, 4, 3, 2, 1] rfl) _ _ hG hS
      · refine lv_iload C0.1 C0.2.1 dL_law_165 (lv_at hl 2 rfl) ?_
        refine lv_aload_n C0.1 C0.2.1 dL_law_167 rfl (lv_at hl 8 rfl) ?_
        refine lv_iload C0.1 C0.2.1 dL_law_168 (lv_at hl 0 rfl) ?_
        refine tc_callV (q0 := 0) C0 hG hS rfl rfl (kX0_coincidencesAt_in hlf hk  (c9) (by omega)) (cwV 1 C0.2.2.2.2 gL_law_X0_coincidencesAt rfl rfl rfl (by decide +kernel) ⟨(Nat.le_of_ble_eq_true rfl), (Nat.le_of_ble_eq_true rfl)⟩) rfl hl rfl (Nat.le_of_ble_eq_true rfl) dL_law_170 ⟨by dsimp only [room_1]; omega, by dsimp only [room_1]; omega⟩ (fun H locs hG hS => ?_)
        have b_170 := cAt_le tk co cn c9 hk.2.2.2.2.1
        refine tn_iadd C0.1 C0.2.1 dL_law_173 ?_
        refine lv_istore (lv' := [(13, .int (nI (q1 + (cAt tk co cn c9 n)))), (15, .int (nI (c9))), (14, .int (nI (q2))), (12, .int (nI (0))), (11, .int (nI (tw tk co cn wk 0 n))), (10, .int (nI (n))), (8, .long (dgst tk co cn wk n ho st ct (nI sq))), (0, .ref b), (1, .ref h), (2, .ref g), (3, .int (nI (t))), (4, .int (v))]) C0.1 C0.2.1 dL_law_174 hl (by decide) rfl (fun ls hl => ?_)
        refine lv_iload C0.1 C0.2.1 dL_law_176 (lv_at hl 2 rfl) ?_
        refine lv_aload_n C0.1 C0.2.1 dL_law_178 rfl (lv_at hl 8 rfl) ?_
        refine lv_iload C0.1 C0.2.1 dL_law_179 (lv_at hl 1 rfl) ?_
        refine tc_callV (q0 := 0) C0 hG hS rfl rfl (kX0_peopleAt_in hlf hk  (c9) (by omega)) (cwV 1 C0.2.2.2.2 gL_law_X0_peopleAt rfl rfl rfl (by decide +kernel) ⟨(Nat.le_of_ble_eq_true rfl), (Nat.le_of_ble_eq_true rfl)⟩) rfl hl rfl (Nat.le_of_ble_eq_true rfl) dL_law_181 ⟨by dsimp only [room_1]; omega, by dsimp only [room_1]; omega⟩ (fun H locs hG hS => ?_)
        refine tn_iadd C0.1 C0.2.1 dL_law_184 ?_
        refine lv_istore (lv' := [(14, .int (nI (q2 + (crowd cn c9 n)))), (13, .int (nI (q1 + (cAt tk co cn c9 n)))), (15, .int (nI (c9))), (12, .int (nI (0))), (11, .int (nI (tw tk co cn wk 0 n))), (10, .int (nI (n))), (8, .long (dgst tk co cn wk n ho st ct (nI sq))), (0, .ref b), (1, .ref h), (2, .ref g), (3, .int (nI (t))), (4, .int (v))]) C0.1 C0.2.1 dL_law_185 hl (by decide) rfl (fun ls hl => ?_)
        refine tn_iinc (lv' := [(15, .int (nI (c9 + 1))), (14, .int (nI (q2 + (crowd cn c9 n)))), (13, .int (nI (q1 + (cAt tk co cn c9 n)))), (12, .int (nI (0))), (11, .int (nI (tw tk co cn wk 0 n))), (10, .int (nI (n))), (8, .long (dgst tk co cn wk n ho st ct (nI sq))), (0, .ref b), (1, .ref h), (2, .ref g), (3, .int (nI (t))), (4, .int (v))]) C0.1 C0.2.1 dL_law_187 hl (k := 2) rfl (by decide) rfl (fun ls hl => ?_)
        refine lv_goto (tgt := 158) C0.1 C0.2.1 dL_law_190 (by decide) ?_
        exact ih_158 (c9 + 1) (q1 + (cAt tk co cn c9 n)) (q2 + (crowd cn c9 n)) (by omega) (sm_step hq1 rfl) (sm_step hq2 rfl) (by omega) ls (lv_sub hl [0, 1, 2, 3, 4, 5, 6, 7, 8, 9, 10, 11] rfl) _ _ hG hS
  exact cut_158 (6 + 1) (0) (0) (0) (by omega) rfl rfl (by omega) ls (lv_sub hl [0, 1, 2, 3, 4, 5, 6, 7, 8, 9, 10, 11] rfl) _ _ hG hS
