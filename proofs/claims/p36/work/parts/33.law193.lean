/-! the law from 193 -/
set_option maxHeartbeats 4000000 in
set_option maxRecDepth 100000 in
theorem law_193 {p : Program} {l : Launch} {e : Env} {s : State} {m : MethodId} {args : Array Value} {below : List Frame} {meth : Method} {c : Code} {Q : State → Prop} (hlf : l.stackTraces = false) (C0 : CallFix p m c cL_law 25 s args wsL_law RL) {D : va_G} {cI cJ : ClassId} {N0 : Nat} (hG0 : tcG D cI cJ N0 [] s s.heap) {b h r1 r2 r3 r4 g : Nat} {tk co cn wk : Nat → Nat} {n st : Nat} {ho ct : Int32} {sq ra : Nat} {rw : Nat → Nat} {f : Nat → Nat → Nat} (hk : tOk tk co cn wk n st) (hy : tSy tk co cn wk n f) (hn0 : 0 < n) (hsq : sq ≤ 1000) {t : Nat} (ht9 : t < 9) {v : Int32} {ls : Array Slot} (hl : lv_has ls 25 [(0, .ref b), (1, .ref h), (2, .ref g), (3, .int (nI (t))), (4, .int (v)), (8, .long (dgst tk co cn wk n ho st ct (nI sq))), (10, .int (nI (n))), (11, .int (nI (tw tk co cn wk 0 n))), (12, .int (nI (0))), (13, .int (nI (tw tk co cn wk 0 n))), (14, .int (nI (n)))]) {H : Heap} {locs : List Loc} (hG : tcG D cI cJ N0 (wB h r1 r2 r3 r4 cI tk co cn wk n ho st ct (nI sq) g ra rw cJ ho st ct (nI sq) n f ([])) s H) (hS : va_S (tcA N0) s.heap H locs) (cut_460 : ∀ (ls : Array Slot), lv_has ls 25 [(0, .ref b), (1, .ref h), (2, .ref g), (3, .int (nI (t))), (4, .int (v)), (8, .long (dgst tk co cn wk n ho st ct (nI sq))), (10, .int (nI (n))), (11, .int (nI (tw tk co cn wk 0 n))), (12, .int (nI (2 * tw tk co cn wk 0 n))), (13, .int (nI (tw tk co cn wk 0 n))), (14, .int (nI (n)))] → ∀ (H : Heap) (locs : List Loc), tcG D cI cJ N0 (wB h r1 r2 r3 r4 cI tk co cn wk n ho st ct (nI sq) g ra rw cJ ho st ct (nI sq) n f ([])) s H → va_S (tcA N0) s.heap H locs → W p l e room_1 s m args below meth c H locs (0 + (40 + 4 * (t + 1))) (0 + (300 + 24 * (t + 1))) Q (F0 m 460 ls [])) : W p l e room_1 s m args below meth c H locs (0 + (40 + 4 * (t + 1))) (0 + (300 + 24 * (t + 1))) Q (F0 m 193 ls []) := by
  obtain ⟨hk1, hk2, hk3, hk4, hn12, hst⟩ := id hk
  refine lv_iconst (v := nI 0) C0.1 C0.2.1 dL_law_193 (by decide) ?_
  refine lv_istore (lv' := [(15, .int (nI (0))), (0, .ref b), (1, .ref h), (2, .ref g), (3, .int (nI (t))), (4, .int (v)), (8, .long (dgst tk co cn wk n ho st ct (nI sq))), (10, .int (nI (n))), (11, .int (nI (tw tk co cn wk 0 n))), (12, .int (nI (0))), (13, .int (nI (tw tk co cn wk 0 n))), (14, .int (nI (n)))]) C0.1 C0.2.1 dL_law_194 hl (by decide) rfl (fun ls hl => ?_)
  have cut_196 : ∀ (kf : Nat) (a : Nat) (q : Nat) (ha9 : a ≤ n) (hq : q = sm (fun k => lkn tk co cn k n) a) (hm : n + 1 ≤ a + kf), ∀ (ls : Array Slot), lv_has ls 25 [(15, .int (nI (a))), (0, .ref b), (1, .ref h), (2, .ref g), (3, .int (nI (t))), (4, .int (v)), (8, .long (dgst tk co cn wk n ho st ct (nI sq))), (10, .int (nI (n))), (11, .int (nI (tw tk co cn wk 0 n))), (12, .int (nI (q))), (13, .int (nI (tw tk co cn wk 0 n))), (14, .int (nI (n)))] → ∀ (H : Heap) (locs : List Loc), tcG D cI cJ N0 (wB h r1 r2 r3 r4 cI tk co cn wk n ho st ct (nI sq) g ra rw cJ ho st ct (nI sq) n f ([])) s H → va_S (tcA N0) s.heap H locs → W p l e room_1 s m args below meth c H locs (0 + (40 + 4 * (t + 1))) (0 + (300 + 24 * (t + 1))) Q (F0 m 196 ls []) := by
    intro kf
    induction kf with
    | zero => intro a q ha9 hq hm; exact absurd hm (by omega)
    | succ kf ih_196 =>
      intro a q ha9 hq hm ls hl H locs hG hS
      have htw := tw_le tk co cn wk 0 hn12
      refine lv_iload C0.1 C0.2.1 dL_law_196 (lv_at hl 0 rfl) ?_
      refine lv_iload C0.1 C0.2.1 dL_law_198 (lv_at hl 7 rfl) ?_
      refine tn_icmp_ge (tgt := 460) C0.1 C0.2.1 dL_law_200 (by decide) (by omega) (by omega) (fun c_200 => ?_) (fun c_200 => ?_)
      · have e3 : q = 2 * tw tk co cn wk 0 n := by rw [hq, show a = n by omega]; exact lkn_sum wk n hk3
        rw [e3] at hl
        exact cut_460   ls (lv_sub hl [1, 2, 3, 4, 5, 6, 7, 8, 9, 10, 11] rfl) _ _ hG hS
      · refine lv_iload C0.1 C0.2.1 dL_law_203 (lv_at hl 9 rfl) ?_
        refine lv_aload_n C0.1 C0.2.1 dL_law_205 rfl (lv_at hl 2 rfl) ?_
        refine lv_iload C0.1 C0.2.1 dL_law_206 (lv_at hl 0 rfl) ?_
        refine tc_callV (q0 := 0) C0 hG hS rfl rfl (kX0_luckOf_in hlf hk  (a) (by omega)) (cwV 1 C0.2.2.2.2 gL_law_X0_luckOf rfl rfl rfl (by decide +kernel) ⟨(Nat.le_of_ble_eq_true rfl), (Nat.le_of_ble_eq_true rfl)⟩) rfl hl rfl (Nat.le_of_ble_eq_true rfl) dL_law_208 ⟨by dsimp only [room_1]; omega, by dsimp only [room_1]; omega⟩ (fun H locs hG hS => ?_)
        have b_208 := (show lkn tk co cn a n ≤ 156 from lw_le tk co cn a (tk a) (cn a) hk.2.2.2.2.1)
        refine tn_iadd C0.1 C0.2.1 dL_law_211 ?_
        refine lv_istore (lv' := [(12, .int (nI (q + (lkn tk co cn a n)))), (15, .int (nI (a))), (0, .ref b), (1, .ref h), (2, .ref g), (3, .int (nI (t))), (4, .int (v)), (8, .long (dgst tk co cn wk n ho st ct (nI sq))), (10, .int (nI (n))), (11, .int (nI (tw tk co cn wk 0 n))), (13, .int (nI (tw tk co cn wk 0 n))), (14, .int (nI (n)))]) C0.1 C0.2.1 dL_law_212 hl (by decide) rfl (fun ls hl => ?_)
        refine lv_iconst (v := nI 0) C0.1 C0.2.1 dL_law_214 (by decide) ?_
        refine lv_istore (lv' := [(16, .int (nI (0))), (12, .int (nI (q + (lkn tk co cn a n)))), (15, .int (nI (a))), (0, .ref b), (1, .ref h), (2, .ref g), (3, .int (nI (t))), (4, .int (v)), (8, .long (dgst tk co cn wk n ho st ct (nI sq))), (10, .int (nI (n))), (11, .int (nI (tw tk co cn wk 0 n))), (13, .int (nI (tw tk co cn wk 0 n))), (14, .int (nI (n)))]) C0.1 C0.2.1 dL_law_215 hl (by decide) rfl (fun ls hl => ?_)
        refine lv_iconst (v := nI 0) C0.1 C0.2.1 dL_law_217 (by decide) ?_
        refine lv_istore (lv' := [(17, .int (nI (0))), (16, .int (nI (0))), (12, .int (nI (q + (lkn tk co cn a n)))), (15, .int (nI (a))), (0, .ref b), (1, .ref h), (2, .ref g), (3, .int (nI (t))), (4, .int (v)), (8, .long (dgst tk co cn wk n ho st ct (nI sq))), (10, .int (nI (n))), (11, .int (nI (tw tk co cn wk 0 n))), (13, .int (nI (tw tk co cn wk 0 n))), (14, .int (nI (n)))]) C0.1 C0.2.1 dL_law_218 hl (by decide) rfl (fun ls hl => ?_)
        have cut_220 : ∀ (kf : Nat) (k : Nat) (o1 : Nat) (hk9 : k ≤ n) (ho1 : o1 = sm (lwg tk co cn a (tk a) (cn a)) k) (hm : n + 1 ≤ k + kf), ∀ (ls : Array Slot), lv_has ls 25 [(17, .int (nI (k))), (16, .int (nI (o1))), (12, .int (nI (q + (lkn tk co cn a n)))), (15, .int (nI (a))), (0, .ref b), (1, .ref h), (2, .ref g), (3, .int (nI (t))), (4, .int (v)), (8, .long (dgst tk co cn wk n ho st ct (nI sq))), (10, .int (nI (n))), (11, .int (nI (tw tk co cn wk 0 n))), (13, .int (nI (tw tk co cn wk 0 n))), (14, .int (nI (n)))] → ∀ (H : Heap) (locs : List Loc), tcG D cI cJ N0 (wB h r1 r2 r3 r4 cI tk co cn wk n ho st ct (nI sq) g ra rw cJ ho st ct (nI sq) n f ([])) s H → va_S (tcA N0) s.heap H locs → W p l e room_1 s m args below meth c H locs (0 + (40 + 4 * (t + 1))) (0 + (300 + 24 * (t + 1))) Q (F0 m 220 ls []) := by
          intro kf
          induction kf with
          | zero => intro k o1 hk9 ho1 hm; exact absurd hm (by omega)
          | succ kf ih_220 =>
            intro k o1 hk9 ho1 hm ls hl H locs hG hS
            have bca := hk3 a
            refine lv_iload C0.1 C0.2.1 dL_law_220 (lv_at hl 0 rfl) ?_
            refine lv_iload C0.1 C0.2.1 dL_law_222 (lv_at hl 10 rfl) ?_
            refine tn_icmp_ge (tgt := 441) C0.1 C0.2.1 dL_law_224 (by decide) (by omega) (by omega) (fun c_224 => ?_) (fun c_224 => ?_)
            · have eo : o1 = lkn tk co cn a n := by rw [ho1, show k = n by omega]; rfl
              refine lv_iload C0.1 C0.2.1 dL_law_441 (lv_at hl 1 rfl) ?_
              refine lv_aload_n C0.1 C0.2.1 dL_law_443 rfl (lv_at hl 5 rfl) ?_
              refine lv_iload C0.1 C0.2.1 dL_law_444 (lv_at hl 3 rfl) ?_
              refine tc_callV (q0 := 0) C0 hG hS rfl rfl (kX0_luckOf_in hlf hk  (a) (by omega)) (cwV 1 C0.2.2.2.2 gL_law_X0_luckOf rfl rfl rfl (by decide +kernel) ⟨(Nat.le_of_ble_eq_true rfl), (Nat.le_of_ble_eq_true rfl)⟩) rfl hl rfl (Nat.le_of_ble_eq_true rfl) dL_law_446 ⟨by dsimp only [room_1]; omega, by dsimp only [room_1]; omega⟩ (fun H locs hG hS => ?_)
              have b_446 := (show lkn tk co cn a n ≤ 156 from lw_le tk co cn a (tk a) (cn a) hk.2.2.2.2.1)
              refine tn_icmp_eq (tgt := 454) C0.1 C0.2.1 dL_law_449 (by decide) (by omega) (by omega) (fun c_449 => ?_) (fun c_449 => ?_)
              · refine tn_iinc (lv' := [(15, .int (nI (a + 1))), (17, .int (nI (k))), (16, .int (nI (o1))), (12, .int (nI (q + (lkn tk co cn a n)))), (0, .ref b), (1, .ref h), (2, .ref g), (3, .int (nI (t))), (4, .int (v)), (8, .long (dgst tk co cn wk n ho st ct (nI sq))), (10, .int (nI (n))), (11, .int (nI (tw tk co cn wk 0 n))), (13, .int (nI (tw tk co cn wk 0 n))), (14, .int (nI (n)))]) C0.1 C0.2.1 dL_law_454 hl (k := 3) rfl (by decide) rfl (fun ls hl => ?_)
                refine lv_goto (tgt := 196) C0.1 C0.2.1 dL_law_457 (by decide) ?_
                exact ih_196 (a + 1) (q + (lkn tk co cn a n)) (by omega) (sm_step hq rfl) (by omega) ls (lv_sub hl [0, 4, 5, 6, 7, 8, 9, 10, 11, 3, 12, 13] rfl) _ _ hG hS
              · exact absurd eo c_449
            · refine lv_iload C0.1 C0.2.1 dL_law_227 (lv_at hl 0 rfl) ?_
              refine lv_iload C0.1 C0.2.1 dL_law_229 (lv_at hl 3 rfl) ?_
              refine tn_icmp_ne (tgt := 237) C0.1 C0.2.1 dL_law_231 (by decide) (by omega) (by omega) (fun c_231 => ?_) (fun c_231 => ?_)
              · have bcb := hk3 k
                have hp10 := pts_10 (co := co) a k hk1
                have hw6 := way_le (cn a) (cn k) bca bcb
                have hm6 := meet_le cn wk a k
                have hps := pts_sym tk co k a
                refine lv_aload_n C0.1 C0.2.1 dL_law_237 rfl (lv_at hl 5 rfl) ?_
                refine lv_iload C0.1 C0.2.1 dL_law_238 (lv_at hl 3 rfl) ?_
                refine lv_iload C0.1 C0.2.1 dL_law_240 (lv_at hl 0 rfl) ?_
                refine tc_callV (q0 := 0) C0 hG hS rfl rfl (kX0_pointsOf_in hlf hk  (a) (k) (by omega) (by omega) (by omega)) (cwV 2 C0.2.2.2.2 gL_law_X0_pointsOf rfl rfl rfl (by decide +kernel) ⟨(Nat.le_of_ble_eq_true rfl), (Nat.le_of_ble_eq_true rfl)⟩) rfl hl rfl (Nat.le_of_ble_eq_true rfl) dL_law_242 ⟨by dsimp only [room_1]; omega, by dsimp only [room_1]; omega⟩ (fun H locs hG hS => ?_)
                have b_242 := pts_le tk co a k
                refine lv_istore (lv' := [(18, .int (nI (pts tk co a k))), (17, .int (nI (k))), (16, .int (nI (o1))), (12, .int (nI (q + (lkn tk co cn a n)))), (15, .int (nI (a))), (0, .ref b), (1, .ref h), (2, .ref g), (3, .int (nI (t))), (4, .int (v)), (8, .long (dgst tk co cn wk n ho st ct (nI sq))), (10, .int (nI (n))), (11, .int (nI (tw tk co cn wk 0 n))), (13, .int (nI (tw tk co cn wk 0 n))), (14, .int (nI (n)))]) C0.1 C0.2.1 dL_law_245 hl (by decide) rfl (fun ls hl => ?_)
                refine lv_aload_n C0.1 C0.2.1 dL_law_247 rfl (lv_at hl 6 rfl) ?_
                refine lv_iload C0.1 C0.2.1 dL_law_248 (lv_at hl 4 rfl) ?_
                refine lv_iload C0.1 C0.2.1 dL_law_250 (lv_at hl 1 rfl) ?_
                refine tc_callV (q0 := 0) C0 hG hS rfl rfl (kX0_costOfMeeting_in hlf hk  (a) (k) (by omega) (by omega) (by omega)) (cwV 2 C0.2.2.2.2 gL_law_X0_costOfMeeting rfl rfl rfl (by decide +kernel) ⟨(Nat.le_of_ble_eq_true rfl), (Nat.le_of_ble_eq_true rfl)⟩) rfl hl rfl (Nat.le_of_ble_eq_true rfl) dL_law_252 ⟨by dsimp only [room_1]; omega, by dsimp only [room_1]; omega⟩ (fun H locs hG hS => ?_)
                have b_252 := way_le (cn a) (cn k) (hk.2.2.1 a) (hk.2.2.1 k)
                refine lv_istore (lv' := [(19, .int (nI (way (cn a) (cn k)))), (18, .int (nI (pts tk co a k))), (17, .int (nI (k))), (16, .int (nI (o1))), (12, .int (nI (q + (lkn tk co cn a n)))), (15, .int (nI (a))), (0, .ref b), (1, .ref h), (2, .ref g), (3, .int (nI (t))), (4, .int (v)), (8, .long (dgst tk co cn wk n ho st ct (nI sq))), (10, .int (nI (n))), (11, .int (nI (tw tk co cn wk 0 n))), (13, .int (nI (tw tk co cn wk 0 n))), (14, .int (nI (n)))]) C0.1 C0.2.1 dL_law_255 hl (by decide) rfl (fun ls hl => ?_)
                refine lv_aload_n C0.1 C0.2.1 dL_law_257 rfl (lv_at hl 7 rfl) ?_
                refine lv_iload C0.1 C0.2.1 dL_law_258 (lv_at hl 5 rfl) ?_
                refine lv_iload C0.1 C0.2.1 dL_law_260 (lv_at hl 2 rfl) ?_
                refine tc_callV (q0 := 0) C0 hG hS rfl rfl (kX0_hoursUntilTogether_in hlf hk  (a) (k) (by omega) (by omega) (by omega)) (cwV 2 C0.2.2.2.2 gL_law_X0_hoursUntilTogether rfl rfl rfl (by decide +kernel) ⟨(Nat.le_of_ble_eq_true rfl), (Nat.le_of_ble_eq_true rfl)⟩) rfl hl rfl (Nat.le_of_ble_eq_true rfl) dL_law_262 ⟨by dsimp only [room_1]; omega, by dsimp only [room_1]; omega⟩ (fun H locs hG hS => ?_)
                refine lv_istore (lv' := [(20, .int (iM (meet cn wk a k))), (19, .int (nI (way (cn a) (cn k)))), (18, .int (nI (pts tk co a k))), (17, .int (nI (k))), (16, .int (nI (o1))), (12, .int (nI (q + (lkn tk co cn a n)))), (15, .int (nI (a))), (0, .ref b), (1, .ref h), (2, .ref g), (3, .int (nI (t))), (4, .int (v)), (8, .long (dgst tk co cn wk n ho st ct (nI sq))), (10, .int (nI (n))), (11, .int (nI (tw tk co cn wk 0 n))), (13, .int (nI (tw tk co cn wk 0 n))), (14, .int (nI (n)))]) C0.1 C0.2.1 dL_law_265 hl (by decide) rfl (fun ls hl => ?_)
                refine lv_iload C0.1 C0.2.1 dL_law_267 (lv_at hl 4 rfl) ?_
                refine lv_aload_n C0.1 C0.2.1 dL_law_269 rfl (lv_at hl 8 rfl) ?_
                refine lv_iload C0.1 C0.2.1 dL_law_270 (lv_at hl 6 rfl) ?_
                refine lv_iload C0.1 C0.2.1 dL_law_272 (lv_at hl 3 rfl) ?_
                refine tc_callV (q0 := 0) C0 hG hS rfl rfl (kX0_areTogether_in hlf hk  (a) (k) (by omega) (by omega) (by omega)) (cwV 2 C0.2.2.2.2 gL_law_X0_areTogether rfl rfl rfl (by decide +kernel) ⟨(Nat.le_of_ble_eq_true rfl), (Nat.le_of_ble_eq_true rfl)⟩) rfl hl rfl (Nat.le_of_ble_eq_true rfl) dL_law_274 ⟨by dsimp only [room_1]; omega, by dsimp only [room_1]; omega⟩ (fun H locs hG hS => ?_)
                have cut_289 : ∀ (o2 : Nat) (ho2 : o2 = sm (lwg tk co cn a (tk a) (cn a)) (k + 1)), ∀ (ls : Array Slot), lv_has ls 25 [(20, .int (iM (meet cn wk a k))), (19, .int (nI (way (cn a) (cn k)))), (18, .int (nI (pts tk co a k))), (17, .int (nI (k))), (16, .int (nI (o2))), (12, .int (nI (q + (lkn tk co cn a n)))), (15, .int (nI (a))), (0, .ref b), (1, .ref h), (2, .ref g), (3, .int (nI (t))), (4, .int (v)), (8, .long (dgst tk co cn wk n ho st ct (nI sq))), (10, .int (nI (n))), (11, .int (nI (tw tk co cn wk 0 n))), (13, .int (nI (tw tk co cn wk 0 n))), (14, .int (nI (n)))] → ∀ (H : Heap) (locs : List Loc), tcG D cI cJ N0 (wB h r1 r2 r3 r4 cI tk co cn wk n ho st ct (nI sq) g ra rw cJ ho st ct (nI sq) n f ([])) s H → va_S (tcA N0) s.heap H locs → W p l e room_1 s m args below meth c H locs (0 + (40 + 4 * (t + 1))) (0 + (300 + 24 * (t + 1))) Q (F0 m 289 ls []) := by
                  intro o2 ho2 ls hl H locs hG hS
                  have hb2 : b2n (decide (cn a = cn k)) ≤ 1 := by rw [b2n_d]; split <;> omega
                  refine lv_iload C0.1 C0.2.1 dL_law_289 (lv_at hl 2 rfl) ?_
                  refine lv_aload_n C0.1 C0.2.1 dL_law_291 rfl (lv_at hl 8 rfl) ?_
                  refine lv_iload C0.1 C0.2.1 dL_law_292 (lv_at hl 3 rfl) ?_
                  refine lv_iload C0.1 C0.2.1 dL_law_294 (lv_at hl 6 rfl) ?_
                  refine tc_callV (q0 := 0) C0 hG hS rfl rfl (kX0_pointsOf_in hlf hk  (k) (a) (by omega) (by omega) (by omega)) (cwV 2 C0.2.2.2.2 gL_law_X0_pointsOf rfl rfl rfl (by decide +kernel) ⟨(Nat.le_of_ble_eq_true rfl), (Nat.le_of_ble_eq_true rfl)⟩) rfl hl rfl (Nat.le_of_ble_eq_true rfl) dL_law_296 ⟨by dsimp only [room_1]; omega, by dsimp only [room_1]; omega⟩ (fun H locs hG hS => ?_)
                  have b_296 := pts_le tk co k a
                  refine tn_icmp_ne (tgt := 433) C0.1 C0.2.1 dL_law_299 (by decide) (by omega) (by omega) (fun c_299 => ?_) (fun c_299 => ?_)
                  · exact absurd hps.symm c_299
                  · refine lv_iload C0.1 C0.2.1 dL_law_302 (lv_at hl 2 rfl) ?_
                    refine tn_if_lt (tgt := 433) C0.1 C0.2.1 dL_law_304 (by decide) (by omega) ?_
                    refine lv_iload C0.1 C0.2.1 dL_law_307 (lv_at hl 2 rfl) ?_
                    refine lv_bipush (v := nI 10) C0.1 C0.2.1 dL_law_309 (by decide) ?_
                    refine tn_icmp_gt (tgt := 433) C0.1 C0.2.1 dL_law_311 (by decide) (by omega) (by omega) (fun c_311 => ?_) (fun c_311 => ?_)
                    · exact absurd c_311 (by omega)
                    · refine lv_iload C0.1 C0.2.1 dL_law_314 (lv_at hl 1 rfl) ?_
                      refine lv_aload_n C0.1 C0.2.1 dL_law_316 rfl (lv_at hl 8 rfl) ?_
                      refine lv_iload C0.1 C0.2.1 dL_law_317 (lv_at hl 3 rfl) ?_
                      refine lv_iload C0.1 C0.2.1 dL_law_319 (lv_at hl 6 rfl) ?_
                      refine tc_callV (q0 := 0) C0 hG hS rfl rfl (kX0_costOfMeeting_in hlf hk  (k) (a) (by omega) (by omega) (by omega)) (cwV 2 C0.2.2.2.2 gL_law_X0_costOfMeeting rfl rfl rfl (by decide +kernel) ⟨(Nat.le_of_ble_eq_true rfl), (Nat.le_of_ble_eq_true rfl)⟩) rfl hl rfl (Nat.le_of_ble_eq_true rfl) dL_law_321 ⟨by dsimp only [room_1]; omega, by dsimp only [room_1]; omega⟩ (fun H locs hG hS => ?_)
                      have b_321 := way_le (cn k) (cn a) (hk.2.2.1 k) (hk.2.2.1 a)
                      refine tn_icmp_ne (tgt := 433) C0.1 C0.2.1 dL_law_324 (by decide) (by omega) (by omega) (fun c_324 => ?_) (fun c_324 => ?_)
                      · exact absurd (way_sym (cn a) (cn k)) c_324
                      · refine lv_iload C0.1 C0.2.1 dL_law_327 (lv_at hl 1 rfl) ?_
                        refine lv_bipush (v := nI 6) C0.1 C0.2.1 dL_law_329 (by decide) ?_
                        refine tn_icmp_gt (tgt := 433) C0.1 C0.2.1 dL_law_331 (by decide) (by omega) (by omega) (fun c_331 => ?_) (fun c_331 => ?_)
                        · exact absurd c_331 (by omega)
                        · refine lv_iload C0.1 C0.2.1 dL_law_334 (lv_at hl 1 rfl) ?_
                          have cut_344 : ∀ (u : Nat) (hu : u = b2n (decide (cn a = cn k))), ∀ (ls : Array Slot), lv_has ls 25 [(20, .int (iM (meet cn wk a k))), (19, .int (nI (way (cn a) (cn k)))), (18, .int (nI (pts tk co a k))), (17, .int (nI (k))), (16, .int (nI (o2))), (12, .int (nI (q + (lkn tk co cn a n)))), (15, .int (nI (a))), (0, .ref b), (1, .ref h), (2, .ref g), (3, .int (nI (t))), (4, .int (v)), (8, .long (dgst tk co cn wk n ho st ct (nI sq))), (10, .int (nI (n))), (11, .int (nI (tw tk co cn wk 0 n))), (13, .int (nI (tw tk co cn wk 0 n))), (14, .int (nI (n)))] → ∀ (H : Heap) (locs : List Loc), tcG D cI cJ N0 (wB h r1 r2 r3 r4 cI tk co cn wk n ho st ct (nI sq) g ra rw cJ ho st ct (nI sq) n f ([])) s H → va_S (tcA N0) s.heap H locs → W p l e room_1 s m args below meth c H locs (0 + (40 + 4 * (t + 1))) (0 + (300 + 24 * (t + 1))) Q (F0 m 344 ls [.int (nI (u))]) := by
                            intro u hu ls hl H locs hG hS
                            refine lv_aload_n C0.1 C0.2.1 dL_law_344 rfl (lv_at hl 8 rfl) ?_
                            refine lv_iload C0.1 C0.2.1 dL_law_345 (lv_at hl 6 rfl) ?_
                            refine lv_iload C0.1 C0.2.1 dL_law_347 (lv_at hl 3 rfl) ?_
                            refine tc_callV (q0 := 0) C0 hG hS rfl rfl (kX0_areTogether_in hlf hk  (a) (k) (by omega) (by omega) (by omega)) (cwV 2 C0.2.2.2.2 gL_law_X0_areTogether rfl rfl rfl (by decide +kernel) ⟨(Nat.le_of_ble_eq_true rfl), (Nat.le_of_ble_eq_true rfl)⟩) rfl hl rfl (Nat.le_of_ble_eq_true rfl) dL_law_349 ⟨by dsimp only [room_1]; omega, by dsimp only [room_1]; omega⟩ (fun H locs hG hS => ?_)
                            refine tbb_icmp_ne (tgt := 433) C0.1 C0.2.1 dL_law_352 (by decide) (fun c_352 => ?_) (fun c_352 => ?_)
                            · exact absurd (by rw [hu]) c_352
                            · refine lv_iload C0.1 C0.2.1 dL_law_355 (lv_at hl 0 rfl) ?_
                              have cut_365 : ∀ (u2 : Nat) (hu2 : u2 = b2n (decide (cn a = cn k))), ∀ (ls : Array Slot), lv_has ls 25 [(20, .int (iM (meet cn wk a k))), (19, .int (nI (way (cn a) (cn k)))), (18, .int (nI (pts tk co a k))), (17, .int (nI (k))), (16, .int (nI (o2))), (12, .int (nI (q + (lkn tk co cn a n)))), (15, .int (nI (a))), (0, .ref b), (1, .ref h), (2, .ref g), (3, .int (nI (t))), (4, .int (v)), (8, .long (dgst tk co cn wk n ho st ct (nI sq))), (10, .int (nI (n))), (11, .int (nI (tw tk co cn wk 0 n))), (13, .int (nI (tw tk co cn wk 0 n))), (14, .int (nI (n)))] → ∀ (H : Heap) (locs : List Loc), tcG D cI cJ N0 (wB h r1 r2 r3 r4 cI tk co cn wk n ho st ct (nI sq) g ra rw cJ ho st ct (nI sq) n f ([])) s H → va_S (tcA N0) s.heap H locs → W p l e room_1 s m args below meth c H locs (0 + (40 + 4 * (t + 1))) (0 + (300 + 24 * (t + 1))) Q (F0 m 365 ls [.int (nI (u2))]) := by
                                intro u2 hu2 ls hl H locs hG hS
                                refine lv_iload C0.1 C0.2.1 dL_law_365 (lv_at hl 1 rfl) ?_
                                have cut_375 : ∀ (u3 : Nat) (hu3 : u3 = b2n (decide (cn a = cn k))), ∀ (ls : Array Slot), lv_has ls 25 [(20, .int (iM (meet cn wk a k))), (19, .int (nI (way (cn a) (cn k)))), (18, .int (nI (pts tk co a k))), (17, .int (nI (k))), (16, .int (nI (o2))), (12, .int (nI (q + (lkn tk co cn a n)))), (15, .int (nI (a))), (0, .ref b), (1, .ref h), (2, .ref g), (3, .int (nI (t))), (4, .int (v)), (8, .long (dgst tk co cn wk n ho st ct (nI sq))), (10, .int (nI (n))), (11, .int (nI (tw tk co cn wk 0 n))), (13, .int (nI (tw tk co cn wk 0 n))), (14, .int (nI (n)))] → ∀ (H : Heap) (locs : List Loc), tcG D cI cJ N0 (wB h r1 r2 r3 r4 cI tk co cn wk n ho st ct (nI sq) g ra rw cJ ho st ct (nI sq) n f ([])) s H → va_S (tcA N0) s.heap H locs → W p l e room_1 s m args below meth c H locs (0 + (40 + 4 * (t + 1))) (0 + (300 + 24 * (t + 1))) Q (F0 m 375 ls [.int (nI (u3)), .int (nI (u2))]) := by
                                  intro u3 hu3 ls hl H locs hG hS
                                  refine tn_icmp_ne (tgt := 433) C0.1 C0.2.1 dL_law_375 (by decide) (by omega) (by omega) (fun c_375 => ?_) (fun c_375 => ?_)
                                  · exact absurd (by rw [hu2, hu3]) c_375
                                  · refine lv_iload C0.1 C0.2.1 dL_law_378 (lv_at hl 0 rfl) ?_
                                    refine lv_iconst (v := nI 5) C0.1 C0.2.1 dL_law_380 (by decide) ?_
                                    refine tmn_icmp_gt (tgt := 433) C0.1 C0.2.1 dL_law_381 (by decide) (by omega) (by omega) (fun c_381 => ?_) (fun c_381 => ?_)
                                    · exact absurd c_381 (by omega)
                                    · refine lv_aload_n C0.1 C0.2.1 dL_law_384 rfl (lv_at hl 8 rfl) ?_
                                      refine lv_iload C0.1 C0.2.1 dL_law_385 (lv_at hl 6 rfl) ?_
                                      refine lv_iload C0.1 C0.2.1 dL_law_387 (lv_at hl 3 rfl) ?_
                                      refine tc_callV (q0 := 0) C0 hG hS rfl rfl (kX0_areMirrored_in hlf hk  (a) (k) (by omega) (by omega) (by omega)) (cwV 2 C0.2.2.2.2 gL_law_X0_areMirrored rfl rfl rfl (by decide +kernel) ⟨(Nat.le_of_ble_eq_true rfl), (Nat.le_of_ble_eq_true rfl)⟩) rfl hl rfl (Nat.le_of_ble_eq_true rfl) dL_law_389 ⟨by dsimp only [room_1]; omega, by dsimp only [room_1]; omega⟩ (fun H locs hG hS => ?_)
                                      have cut_402 : ∀ (ls : Array Slot), lv_has ls 25 [(20, .int (iM (meet cn wk a k))), (19, .int (nI (way (cn a) (cn k)))), (18, .int (nI (pts tk co a k))), (17, .int (nI (k))), (16, .int (nI (o2))), (12, .int (nI (q + (lkn tk co cn a n)))), (15, .int (nI (a))), (0, .ref b), (1, .ref h), (2, .ref g), (3, .int (nI (t))), (4, .int (v)), (8, .long (dgst tk co cn wk n ho st ct (nI sq))), (10, .int (nI (n))), (11, .int (nI (tw tk co cn wk 0 n))), (13, .int (nI (tw tk co cn wk 0 n))), (14, .int (nI (n)))] → ∀ (H : Heap) (locs : List Loc), tcG D cI cJ N0 (wB h r1 r2 r3 r4 cI tk co cn wk n ho st ct (nI sq) g ra rw cJ ho st ct (nI sq) n f ([])) s H → va_S (tcA N0) s.heap H locs → W p l e room_1 s m args below meth c H locs (0 + (40 + 4 * (t + 1))) (0 + (300 + 24 * (t + 1))) Q (F0 m 402 ls []) := by
                                        intro  ls hl H locs hG hS
                                        refine lv_aload_n C0.1 C0.2.1 dL_law_402 rfl (lv_at hl 8 rfl) ?_
                                        refine lv_iload C0.1 C0.2.1 dL_law_403 (lv_at hl 6 rfl) ?_
                                        refine lv_iload C0.1 C0.2.1 dL_law_405 (lv_at hl 3 rfl) ?_
                                        refine tc_callV (q0 := 0) C0 hG hS rfl rfl (kX0_areTogether_in hlf hk  (a) (k) (by omega) (by omega) (by omega)) (cwV 2 C0.2.2.2.2 gL_law_X0_areTogether rfl rfl rfl (by decide +kernel) ⟨(Nat.le_of_ble_eq_true rfl), (Nat.le_of_ble_eq_true rfl)⟩) rfl hl rfl (Nat.le_of_ble_eq_true rfl) dL_law_407 ⟨by dsimp only [room_1]; omega, by dsimp only [room_1]; omega⟩ (fun H locs hG hS => ?_)
                                        refine lv_aload_n C0.1 C0.2.1 dL_law_410 rfl (lv_at hl 8 rfl) ?_
                                        refine lv_iload C0.1 C0.2.1 dL_law_411 (lv_at hl 6 rfl) ?_
                                        refine tc_callV (q0 := 0) C0 hG hS rfl rfl (kX0_cornerOf_in hlf hk  (a) (by omega)) (cwV 1 C0.2.2.2.2 gL_law_X0_cornerOf rfl rfl rfl (by decide +kernel) ⟨(Nat.le_of_ble_eq_true rfl), (Nat.le_of_ble_eq_true rfl)⟩) rfl hl rfl (Nat.le_of_ble_eq_true rfl) dL_law_413 ⟨by dsimp only [room_1]; omega, by dsimp only [room_1]; omega⟩ (fun H locs hG hS => ?_)
                                        refine lv_aload_n C0.1 C0.2.1 dL_law_416 rfl (lv_at hl 8 rfl) ?_
                                        refine lv_iload C0.1 C0.2.1 dL_law_417 (lv_at hl 3 rfl) ?_
                                        refine tc_callV (q0 := 0) C0 hG hS rfl rfl (kX0_cornerOf_in hlf hk  (k) (by omega)) (cwV 1 C0.2.2.2.2 gL_law_X0_cornerOf rfl rfl rfl (by decide +kernel) ⟨(Nat.le_of_ble_eq_true rfl), (Nat.le_of_ble_eq_true rfl)⟩) rfl hl rfl (Nat.le_of_ble_eq_true rfl) dL_law_419 ⟨by dsimp only [room_1]; omega, by dsimp only [room_1]; omega⟩ (fun H locs hG hS => ?_)
                                        refine tn_icmp_ne (tgt := 429) C0.1 C0.2.1 dL_law_422 (by decide) (by omega) (by omega) (fun c_422 => ?_) (fun c_422 => ?_)
                                        · refine lv_iconst (v := nI 0) C0.1 C0.2.1 dL_law_429 (by decide) ?_
                                          refine tbb_icmp_eq (tgt := 435) C0.1 C0.2.1 dL_law_430 (by decide) (fun c_430 => ?_) (fun c_430 => ?_)
                                          · refine tn_iinc (lv' := [(17, .int (nI (k + 1))), (20, .int (iM (meet cn wk a k))), (19, .int (nI (way (cn a) (cn k)))), (18, .int (nI (pts tk co a k))), (16, .int (nI (o2))), (12, .int (nI (q + (lkn tk co cn a n)))), (15, .int (nI (a))), (0, .ref b), (1, .ref h), (2, .ref g), (3, .int (nI (t))), (4, .int (v)), (8, .long (dgst tk co cn wk n ho st ct (nI sq))), (10, .int (nI (n))), (11, .int (nI (tw tk co cn wk 0 n))), (13, .int (nI (tw tk co cn wk 0 n))), (14, .int (nI (n)))]) C0.1 C0.2.1 dL_law_435 hl (k := 3) rfl (by decide) rfl (fun ls hl => ?_)
                                            refine lv_goto (tgt := 220) C0.1 C0.2.1 dL_law_438 (by decide) ?_
                                            exact ih_220 (k + 1) (o2) (by omega) (by first | exact ho2 | exact sm_skip ho1 (lwg_0 c_231)) (by omega) ls (lv_sub hl [0, 4, 5, 6, 7, 8, 9, 10, 11, 12, 13, 14, 15, 16] rfl) _ _ hG hS
                                          · exact absurd (congrArg nI (by first | (rw [decide_eq_true c_422]; rfl) | (rw [decide_eq_false c_422]; rfl))) c_430
                                        · refine lv_iconst (v := nI 1) C0.1 C0.2.1 dL_law_425 (by decide) ?_
                                          refine lv_goto (tgt := 430) C0.1 C0.2.1 dL_law_426 (by decide) ?_
                                          refine tbb_icmp_eq (tgt := 435) C0.1 C0.2.1 dL_law_430 (by decide) (fun c_430 => ?_) (fun c_430 => ?_)
                                          · refine tn_iinc (lv' := [(17, .int (nI (k + 1))), (20, .int (iM (meet cn wk a k))), (19, .int (nI (way (cn a) (cn k)))), (18, .int (nI (pts tk co a k))), (16, .int (nI (o2))), (12, .int (nI (q + (lkn tk co cn a n)))), (15, .int (nI (a))), (0, .ref b), (1, .ref h), (2, .ref g), (3, .int (nI (t))), (4, .int (v)), (8, .long (dgst tk co cn wk n ho st ct (nI sq))), (10, .int (nI (n))), (11, .int (nI (tw tk co cn wk 0 n))), (13, .int (nI (tw tk co cn wk 0 n))), (14, .int (nI (n)))]) C0.1 C0.2.1 dL_law_435 hl (k := 3) rfl (by decide) rfl (fun ls hl => ?_)
                                            refine lv_goto (tgt := 220) C0.1 C0.2.1 dL_law_438 (by decide) ?_
                                            exact ih_220 (k + 1) (o2) (by omega) (by first | exact ho2 | exact sm_skip ho1 (lwg_0 c_231)) (by omega) ls (lv_sub hl [0, 4, 5, 6, 7, 8, 9, 10, 11, 12, 13, 14, 15, 16] rfl) _ _ hG hS
                                          · exact absurd (congrArg nI (by first | (rw [decide_eq_true c_422]; rfl) | (rw [decide_eq_false c_422]; rfl))) c_430
                                      refine tb_if_eq (tgt := 402) C0.1 C0.2.1 dL_law_392 (by decide) (fun c_392 => ?_) (fun c_392 => ?_)
                                      · exact cut_402   ls (lv_sub hl [0, 1, 2, 3, 4, 5, 6, 7, 8, 9, 10, 11, 12, 13, 14, 15, 16] rfl) _ _ hG hS
                                      · refine lv_iload C0.1 C0.2.1 dL_law_395 (lv_at hl 2 rfl) ?_
                                        refine lv_bipush (v := nI 7) C0.1 C0.2.1 dL_law_397 (by decide) ?_
                                        refine tn_icmp_lt (tgt := 433) C0.1 C0.2.1 dL_law_399 (by decide) (by omega) (by omega) (fun c_399 => ?_) (fun c_399 => ?_)
                                        · exact absurd c_399 (Nat.not_lt.mpr (pts_7 c_392))
                                        · exact cut_402   ls (lv_sub hl [0, 1, 2, 3, 4, 5, 6, 7, 8, 9, 10, 11, 12, 13, 14, 15, 16] rfl) _ _ hG hS
                                refine tn_if_ne (tgt := 374) C0.1 C0.2.1 dL_law_367 (by decide) (by omega) (fun c_367 => ?_) (fun c_367 => ?_)
                                · refine lv_iconst (v := nI 0) C0.1 C0.2.1 dL_law_374 (by decide) ?_
                                  exact cut_375 (0) (by first | (rw [b2n_d, if_pos ((way_0 bca bcb).mp c_367)]; done) | (rw [b2n_d, if_neg (fun z => by have := (way_0 bca bcb).mpr z; omega)]; done)) ls (lv_sub hl [0, 1, 2, 3, 4, 5, 6, 7, 8, 9, 10, 11, 12, 13, 14, 15, 16] rfl) _ _ hG hS
                                · refine lv_iconst (v := nI 1) C0.1 C0.2.1 dL_law_370 (by decide) ?_
                                  refine lv_goto (tgt := 375) C0.1 C0.2.1 dL_law_371 (by decide) ?_
                                  exact cut_375 (1) (by first | (rw [b2n_d, if_pos ((way_0 bca bcb).mp c_367)]; done) | (rw [b2n_d, if_neg (fun z => by have := (way_0 bca bcb).mpr z; omega)]; done)) ls (lv_sub hl [0, 1, 2, 3, 4, 5, 6, 7, 8, 9, 10, 11, 12, 13, 14, 15, 16] rfl) _ _ hG hS
                              refine tmz_if_ne (tgt := 364) C0.1 C0.2.1 dL_law_357 (by decide) (by omega) (fun c_357 => ?_) (fun c_357 => ?_)
                              · refine lv_iconst (v := nI 0) C0.1 C0.2.1 dL_law_364 (by decide) ?_
                                exact cut_365 (0) (by first | (rw [b2n_d, if_pos ((meet_1 wk hk3).mp c_357)]; done) | (rw [b2n_d, if_neg (fun z => c_357 ((meet_1 wk hk3).mpr z))]; done)) ls (lv_sub hl [0, 1, 2, 3, 4, 5, 6, 7, 8, 9, 10, 11, 12, 13, 14, 15, 16] rfl) _ _ hG hS
                              · refine lv_iconst (v := nI 1) C0.1 C0.2.1 dL_law_360 (by decide) ?_
                                refine lv_goto (tgt := 365) C0.1 C0.2.1 dL_law_361 (by decide) ?_
                                exact cut_365 (1) (by first | (rw [b2n_d, if_pos ((meet_1 wk hk3).mp c_357)]; done) | (rw [b2n_d, if_neg (fun z => c_357 ((meet_1 wk hk3).mpr z))]; done)) ls (lv_sub hl [0, 1, 2, 3, 4, 5, 6, 7, 8, 9, 10, 11, 12, 13, 14, 15, 16] rfl) _ _ hG hS
                          refine tn_if_ne (tgt := 343) C0.1 C0.2.1 dL_law_336 (by decide) (by omega) (fun c_336 => ?_) (fun c_336 => ?_)
                          · refine lv_iconst (v := nI 0) C0.1 C0.2.1 dL_law_343 (by decide) ?_
                            exact cut_344 (0) (by first | (rw [b2n_d, if_pos ((way_0 bca bcb).mp c_336)]; done) | (rw [b2n_d, if_neg (fun z => by have := (way_0 bca bcb).mpr z; omega)]; done)) ls (lv_sub hl [0, 1, 2, 3, 4, 5, 6, 7, 8, 9, 10, 11, 12, 13, 14, 15, 16] rfl) _ _ hG hS
                          · refine lv_iconst (v := nI 1) C0.1 C0.2.1 dL_law_339 (by decide) ?_
                            refine lv_goto (tgt := 344) C0.1 C0.2.1 dL_law_340 (by decide) ?_
                            exact cut_344 (1) (by first | (rw [b2n_d, if_pos ((way_0 bca bcb).mp c_336)]; done) | (rw [b2n_d, if_neg (fun z => by have := (way_0 bca bcb).mpr z; omega)]; done)) ls (lv_sub hl [0, 1, 2, 3, 4, 5, 6, 7, 8, 9, 10, 11, 12, 13, 14, 15, 16] rfl) _ _ hG hS
                refine tb_if_eq (tgt := 285) C0.1 C0.2.1 dL_law_277 (by decide) (fun c_277 => ?_) (fun c_277 => ?_)
                · refine lv_iconst (v := nI 0) C0.1 C0.2.1 dL_law_285 (by decide) ?_
                  refine tn_iadd C0.1 C0.2.1 dL_law_286 ?_
                  refine lv_istore (lv' := [(16, .int (nI (o1 + 0))), (20, .int (iM (meet cn wk a k))), (19, .int (nI (way (cn a) (cn k)))), (18, .int (nI (pts tk co a k))), (17, .int (nI (k))), (12, .int (nI (q + (lkn tk co cn a n)))), (15, .int (nI (a))), (0, .ref b), (1, .ref h), (2, .ref g), (3, .int (nI (t))), (4, .int (v)), (8, .long (dgst tk co cn wk n ho st ct (nI sq))), (10, .int (nI (n))), (11, .int (nI (tw tk co cn wk 0 n))), (13, .int (nI (tw tk co cn wk 0 n))), (14, .int (nI (n)))]) C0.1 C0.2.1 dL_law_287 hl (by decide) rfl (fun ls hl => ?_)
                  exact cut_289 (o1 + 0) (by first | exact sm_step ho1 (lwg_1 c_231 (of_decide_eq_true c_277).symm) | exact sm_skip ho1 (lwg_2 (fun z => of_decide_eq_false c_277 z.symm))) ls (lv_sub hl [1, 2, 3, 4, 0, 5, 6, 7, 8, 9, 10, 11, 12, 13, 14, 15, 16] rfl) _ _ hG hS
                · refine lv_iload C0.1 C0.2.1 dL_law_280 (lv_at hl 2 rfl) ?_
                  refine lv_goto (tgt := 286) C0.1 C0.2.1 dL_law_282 (by decide) ?_
                  refine tn_iadd C0.1 C0.2.1 dL_law_286 ?_
                  refine lv_istore (lv' := [(16, .int (nI (o1 + (pts tk co a k)))), (20, .int (iM (meet cn wk a k))), (19, .int (nI (way (cn a) (cn k)))), (18, .int (nI (pts tk co a k))), (17, .int (nI (k))), (12, .int (nI (q + (lkn tk co cn a n)))), (15, .int (nI (a))), (0, .ref b), (1, .ref h), (2, .ref g), (3, .int (nI (t))), (4, .int (v)), (8, .long (dgst tk co cn wk n ho st ct (nI sq))), (10, .int (nI (n))), (11, .int (nI (tw tk co cn wk 0 n))), (13, .int (nI (tw tk co cn wk 0 n))), (14, .int (nI (n)))]) C0.1 C0.2.1 dL_law_287 hl (by decide) rfl (fun ls hl => ?_)
                  exact cut_289 (o1 + (pts tk co a k)) (by first | exact sm_step ho1 (lwg_1 c_231 (of_decide_eq_true c_277).symm) | exact sm_skip ho1 (lwg_2 (fun z => of_decide_eq_false c_277 z.symm))) ls (lv_sub hl [1, 2, 3, 4, 0, 5, 6, 7, 8, 9, 10, 11, 12, 13, 14, 15, 16] rfl) _ _ hG hS
              · refine lv_goto (tgt := 435) C0.1 C0.2.1 dL_law_234 (by decide) ?_
                refine tn_iinc (lv' := [(17, .int (nI (k + 1))), (16, .int (nI (o1))), (12, .int (nI (q + (lkn tk co cn a n)))), (15, .int (nI (a))), (0, .ref b), (1, .ref h), (2, .ref g), (3, .int (nI (t))), (4, .int (v)), (8, .long (dgst tk co cn wk n ho st ct (nI sq))), (10, .int (nI (n))), (11, .int (nI (tw tk co cn wk 0 n))), (13, .int (nI (tw tk co cn wk 0 n))), (14, .int (nI (n)))]) C0.1 C0.2.1 dL_law_435 hl (k := 0) rfl (by decide) rfl (fun ls hl => ?_)
                refine lv_goto (tgt := 220) C0.1 C0.2.1 dL_law_438 (by decide) ?_
                exact ih_220 (k + 1) (o1) (by omega) (by first | exact ho2 | exact sm_skip ho1 (lwg_0 c_231)) (by omega) ls (lv_sub hl [0, 1, 2, 3, 4, 5, 6, 7, 8, 9, 10, 11, 12, 13] rfl) _ _ hG hS
        exact cut_220 (n + 1) (0) (0) (by omega) rfl (by omega) ls (lv_sub hl [0, 1, 2, 3, 4, 5, 6, 7, 8, 9, 10, 11, 12, 13] rfl) _ _ hG hS
  exact cut_196 (n + 1) (0) (0) (by omega) rfl (by omega) ls (lv_sub hl [0, 1, 2, 3, 4, 5, 6, 7, 8, 9, 10, 11] rfl) _ _ hG hS
