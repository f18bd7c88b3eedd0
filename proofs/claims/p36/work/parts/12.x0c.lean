/-! the class: the folds, the hours, what writes -/
def dg (d x : Int64) : Int64 := d * 31 + x
theorem lkr_n' {p : Nat → Nat → Nat} {a b t1 t2 : Nat} {s : Nat × Nat} (ht : (t2, t1) = lkr p a b s) (h : p a b < t2) : (t2, t1) = lkr p a (b + 1) s := by rw [lkr_n (by rw [← ht]; exact h)]; exact ht
theorem lkr_y' {p : Nat → Nat → Nat} {a b t1 t2 : Nat} {s : Nat × Nat} (hab : a < b) (ht : (t2, t1) = lkr p a b s) (h : t2 ≤ p a b) : (p a b + 1, 100 * a + b + 1) = lkr p a (b + 1) s := by rw [lkr_y hab (by rw [← ht]; exact h)]
theorem hb_n' {f : Nat → Nat} {k s1 s2 : Nat} (hk : 2 ≤ k) (hs : (s2, s1) = hb f (k - 2)) (h : f k ≤ s2) : (s2, s1) = hb f (k + 1 - 2) := by
  obtain ⟨j, rfl⟩ : ∃ j, k = j + 2 := ⟨k - 2, by omega⟩
  have hs : (s2, s1) = hb f j := hs
  show (s2, s1) = hb f (j + 1)
  rw [hb_n (by rw [← hs]; exact h)]; exact hs
theorem hb_y' {f : Nat → Nat} {k s1 s2 : Nat} (hk : 2 ≤ k) (hs : (s2, s1) = hb f (k - 2)) (h : s2 < f k) : (f k, k) = hb f (k + 1 - 2) := by
  obtain ⟨j, rfl⟩ : ∃ j, k = j + 2 := ⟨k - 2, by omega⟩
  have hs : (s2, s1) = hb f j := hs
  show (f (j + 2), j + 2) = hb f (j + 1)
  rw [hb_y (by rw [← hs]; exact h)]
theorem am_n' {f : Nat → Nat} {v s1 s2 : Nat} (hs : (s2, s1) = am f v) (h : f v < s2) : (s2, s1) = am f (v + 1) := by rw [am_n (by rw [← hs]; exact h)]; exact hs
theorem am_y' {f : Nat → Nat} {v s1 s2 : Nat} (hs : (s2, s1) = am f v) (h : s2 ≤ f v) : (f v + 1, v) = am f (v + 1) := by rw [am_y (by rw [← hs]; exact h)]
theorem cdMv_3 {jx jy n st : Nat} {cn : Nat → Nat} (h : cdK (nI jx) n (nI jy) 6 = 0) (hx : jx < 2 ^ 31) (hy : jy < 2 ^ 31) (h2 : cn jx = jy ∨ st < way (cn jx) jy) : cdMv (nI jx) (nI jy) cn n st = 3 := by
  unfold cdMv; rw [if_pos h, ix_nI hx, ix_nI hy, if_pos h2]
theorem cdMv_0 {jx jy n st : Nat} {cn : Nat → Nat} (h : cdK (nI jx) n (nI jy) 6 = 0) (hx : jx < 2 ^ 31) (hy : jy < 2 ^ 31) (h2 : ¬ cn jx = jy) (h3 : way (cn jx) jy ≤ st) : cdMv (nI jx) (nI jy) cn n st = 0 := by
  unfold cdMv; rw [if_pos h, ix_nI hx, ix_nI hy, if_neg (fun q => q.elim h2 (fun q => by omega))]
theorem cdSu_3 {jx jy n st : Nat} {cn : Nat → Nat} (h : cdP (nI jx) (nI jy) n = 0) (hx : jx < 2 ^ 31) (hy : jy < 2 ^ 31) (h2 : ¬ (cn jx = cn jy ∧ 3 ≤ st)) : cdSu (nI jx) (nI jy) cn n st = 3 := by
  unfold cdSu; rw [if_pos h, ix_nI hx, ix_nI hy, if_neg h2]
theorem cdSu_0 {jx jy n st : Nat} {cn : Nat → Nat} (h : cdP (nI jx) (nI jy) n = 0) (hx : jx < 2 ^ 31) (hy : jy < 2 ^ 31) (h2 : cn jx = cn jy) (h3 : 3 ≤ st) : cdSu (nI jx) (nI jy) cn n st = 0 := by
  unfold cdSu; rw [if_pos h, ix_nI hx, ix_nI hy, if_pos ⟨h2, h3⟩]
set_option maxHeartbeats 4000000 in
set_option maxRecDepth 100000 in
theorem kX0_mixed {l : Launch} (hlf : l.stackTraces = false) {D : va_G} {cI cJ : ClassId} {N0 : Nat} {ws : va_W} (x : Int64) (y : Int64)  : tcM l yX0_mixed wsX0_mixed { frames := 0, cells := 0, slots := 0, locals := 0 } [] 0 [.long (x), .long (y)] D cI cJ N0 (ws) (some (.long (dg x y))) (ws) 0 0 := by
  refine tcM.of (cc := cX0_mixed) (maxL := 4) (ret := (some .long)) (by decide) rfl (Nat.le_of_ble_eq_true rfl) ?_
  intro p e s m args below meth c C0 hr hlk ht hmn hG ls hl
  have hl : lv_has ls 4 [(0, .long (x)), (2, .long (y))] := hl
  have hG0 := hG
  have hS : va_S (tcA N0) s.heap s.heap [] := va_S.rf
  refine lv_lload_n C0.1 C0.2.1 dX0_mixed_0 rfl (lv_at hl 0 rfl) ?_
  refine lv_ldc2 (v := 31) C0.1 C0.2.1 C0.2.2.2.1 (C0.2.2.2.2 (.constantLong RX0 186 31) (by decide +kernel)) dX0_mixed_1 ?_
  refine lv_lmul C0.1 C0.2.1 dX0_mixed_4 ?_
  refine lv_lload_n C0.1 C0.2.1 dX0_mixed_5 rfl (lv_at hl 1 rfl) ?_
  refine lv_ladd C0.1 C0.2.1 dX0_mixed_6 ?_
  exact tc_lret C0 hr hlk hG hS rfl rfl (Nat.le_of_ble_eq_true rfl) (Nat.le_of_ble_eq_true rfl) dX0_mixed_7
set_option maxHeartbeats 4000000 in
set_option maxRecDepth 100000 in
theorem kX0_luckiestPair {l : Launch} (hlf : l.stackTraces = false) {D : va_G} {cI cJ : ClassId} {N0 : Nat} {h r1 r2 r3 r4 : Nat} {tk co cn wk : Nat → Nat} {n st : Nat} {ho ct sp : Int32} {Z : va_W} (hk : tOk tk co cn wk n st)   : tcM l yX0_luckiestPair wsX0_luckiestPair { frames := 3, cells := 0, slots := 0, locals := 65 } [] 0 [.ref h] D cI cJ N0 (wT h r1 r2 r3 r4 cI tk co cn wk n ho st ct sp Z) (some (.int (iM (luckiest tk co n)))) (wT h r1 r2 r3 r4 cI tk co cn wk n ho st ct sp Z) 0 0 := by
  refine tcM.of (cc := cX0_luckiestPair) (maxL := 6) (ret := (some .int)) (by decide) rfl (Nat.le_of_ble_eq_true rfl) ?_
  intro p e s m args below meth c C0 hr hlk ht hmn hG ls hl
  have hl : lv_has ls 6 [(0, .ref h)] := hl
  obtain ⟨hk1, hk2, hk3, hk4, hn12, hst⟩ := id hk
  have hG0 := hG
  have hS : va_S (tcA N0) s.heap s.heap [] := va_S.rf
  have hF : ∀ w ∈ wsX00, w ∈ wsX0_luckiestPair := by decide +kernel
  have w_people : Cond.fieldLink RX0 22 "TicketCoincidences" "people" "I" ∈ wsX0_luckiestPair := by decide +kernel
  refine lv_iconst (v := iM 0) C0.1 C0.2.1 dX0_luckiestPair_0 (by decide) ?_
  refine lv_istore_n (lv' := [(1, .int (iM (0))), (0, .ref h)]) C0.1 C0.2.1 dX0_luckiestPair_1 rfl hl (by decide) rfl (fun ls hl => ?_)
  refine lv_iconst (v := iM 0) C0.1 C0.2.1 dX0_luckiestPair_2 (by decide) ?_
  refine lv_istore_n (lv' := [(2, .int (iM (0))), (1, .int (iM (0))), (0, .ref h)]) C0.1 C0.2.1 dX0_luckiestPair_3 rfl hl (by decide) rfl (fun ls hl => ?_)
  refine lv_iconst (v := nI 0) C0.1 C0.2.1 dX0_luckiestPair_4 (by decide) ?_
  refine lv_istore_n (lv' := [(3, .int (nI (0))), (2, .int (iM (0))), (1, .int (iM (0))), (0, .ref h)]) C0.1 C0.2.1 dX0_luckiestPair_5 rfl hl (by decide) rfl (fun ls hl => ?_)
  refine tc_nameQ (fun zQg zhQ => ?_)
  have cut_6 : ∀ (kf : Nat) (s1 : Nat) (s2 : Nat) (a : Nat) (ha : a ≤ n) (hs2 : s2 ≤ 14) (hs : (s2, s1) = lkf (pts tk co) n (0, 0) a) (hm : n + 1 ≤ a + kf), ∀ (ls : Array Slot), lv_has ls 6 [(3, .int (nI (a))), (2, .int (iM (s2))), (1, .int (iM (s1))), (0, .ref h)] → ∀ (H : Heap) (locs : List Loc), tcG D cI cJ N0 (wT h r1 r2 r3 r4 cI tk co cn wk n ho st ct sp Z) s H → va_S (tcA N0) s.heap H locs → W p l e ({ frames := 3, cells := 0, slots := 0, locals := 65 } : Room) s m args below meth c H locs (0) (0) zQg (F0 m 6 ls []) := by
    intro kf
    induction kf with
    | zero => intro s1 s2 a ha hs2 hs hm; exact absurd hm (by omega)
    | succ kf ih_6 =>
      intro s1 s2 a ha hs2 hs hm ls hl H locs hG hS
      refine lv_iload_n C0.1 C0.2.1 dX0_luckiestPair_6 rfl (lv_at hl 0 rfl) ?_
      refine lv_aload_n C0.1 C0.2.1 dX0_luckiestPair_7 rfl (lv_at hl 3 rfl) ?_
      refine tgX0_people C0 hF hG w_people dX0_luckiestPair_8 ?_
      refine tn_icmp_ge (tgt := 66) C0.1 C0.2.1 dX0_luckiestPair_11 (by decide) (by omega) (by omega) (fun c_11 => ?_) (fun c_11 => ?_)
      · refine lv_iload_n C0.1 C0.2.1 dX0_luckiestPair_66 rfl (lv_at hl 2 rfl) ?_
        subst zhQ
        exact tc_iret C0 hr hlk hG hS rfl (by have hz : a = n := (by omega); rw [hz] at hs; unfold luckiest; rw [← hs]) (Nat.le_of_ble_eq_true rfl) (Nat.le_of_ble_eq_true rfl) dX0_luckiestPair_67
      · refine lv_iload_n C0.1 C0.2.1 dX0_luckiestPair_14 rfl (lv_at hl 0 rfl) ?_
        refine lv_iconst (v := nI 1) C0.1 C0.2.1 dX0_luckiestPair_15 (by decide) ?_
        refine tn_iadd C0.1 C0.2.1 dX0_luckiestPair_16 ?_
        refine lv_istore (lv' := [(4, .int (nI (a + 1))), (3, .int (nI (a))), (2, .int (iM (s2))), (1, .int (iM (s1))), (0, .ref h)]) C0.1 C0.2.1 dX0_luckiestPair_17 hl (by decide) rfl (fun ls hl => ?_)
        have cut_19 : ∀ (kf : Nat) (t1 : Nat) (t2 : Nat) (b : Nat) (hb : b ≤ n) (hab : a < b) (ht2 : t2 ≤ 14) (hts : (t2, t1) = lkr (pts tk co) a b (s2, s1)) (hm : n + 1 ≤ b + kf), ∀ (ls : Array Slot), lv_has ls 6 [(4, .int (nI (b))), (3, .int (nI (a))), (2, .int (iM (t2))), (1, .int (iM (t1))), (0, .ref h)] → ∀ (H : Heap) (locs : List Loc), tcG D cI cJ N0 (wT h r1 r2 r3 r4 cI tk co cn wk n ho st ct sp Z) s H → va_S (tcA N0) s.heap H locs → W p l e ({ frames := 3, cells := 0, slots := 0, locals := 65 } : Room) s m args below meth c H locs (0) (0) zQg (F0 m 19 ls []) := by
          intro kf
          induction kf with
          | zero => intro t1 t2 b hb hab ht2 hts hm; exact absurd hm (by omega)
          | succ kf ih_19 =>
            intro t1 t2 b hb hab ht2 hts hm ls hl H locs hG hS
            refine lv_iload C0.1 C0.2.1 dX0_luckiestPair_19 (lv_at hl 0 rfl) ?_
            refine lv_aload_n C0.1 C0.2.1 dX0_luckiestPair_21 rfl (lv_at hl 4 rfl) ?_
            refine tgX0_people C0 hF hG w_people dX0_luckiestPair_22 ?_
            refine tn_icmp_ge (tgt := 60) C0.1 C0.2.1 dX0_luckiestPair_25 (by decide) (by omega) (by omega) (fun c_25 => ?_) (fun c_25 => ?_)
            · refine tn_iinc (lv' := [(3, .int (nI (a + 1))), (4, .int (nI (b))), (2, .int (iM (t2))), (1, .int (iM (t1))), (0, .ref h)]) C0.1 C0.2.1 dX0_luckiestPair_60 hl (k := 1) rfl (by decide) rfl (fun ls hl => ?_)
              refine lv_goto (tgt := 6) C0.1 C0.2.1 dX0_luckiestPair_63 (by decide) ?_
              exact ih_6 (t1) (t2) (a + 1) (by omega) (by omega) (by have hz : b = n := (by omega); rw [hz] at hts; rw [lkf_s, ← hs]; exact hts) (by omega) ls (lv_sub hl [0, 2, 3, 4] rfl) _ _ hG hS
            · refine lv_aload_n C0.1 C0.2.1 dX0_luckiestPair_28 rfl (lv_at hl 4 rfl) ?_
              refine lv_iload_n C0.1 C0.2.1 dX0_luckiestPair_29 rfl (lv_at hl 1 rfl) ?_
              refine lv_iload C0.1 C0.2.1 dX0_luckiestPair_30 (lv_at hl 0 rfl) ?_
              refine tc_callV (q0 := 0) C0 hG hS rfl rfl (kX0_pointsOfPair hlf hk  (a) (b) (by omega) (by omega)) (cwV 2 C0.2.2.2.2 gX0_luckiestPair_X0_pointsOfPair rfl rfl rfl (by decide +kernel) ⟨(Nat.le_of_ble_eq_true rfl), (Nat.le_of_ble_eq_true rfl)⟩) rfl hl rfl (Nat.le_of_ble_eq_true rfl) dX0_luckiestPair_32 ⟨(Nat.le_of_ble_eq_true rfl), (Nat.le_of_ble_eq_true rfl)⟩ (fun H locs hG hS => ?_)
              have b_32 := pts_le tk co a b
              refine lv_istore (lv' := [(5, .int (nI (pts tk co a b))), (4, .int (nI (b))), (3, .int (nI (a))), (2, .int (iM (t2))), (1, .int (iM (t1))), (0, .ref h)]) C0.1 C0.2.1 dX0_luckiestPair_35 hl (by decide) rfl (fun ls hl => ?_)
              refine lv_iload C0.1 C0.2.1 dX0_luckiestPair_37 (lv_at hl 0 rfl) ?_
              refine lv_iload_n C0.1 C0.2.1 dX0_luckiestPair_39 rfl (lv_at hl 3 rfl) ?_
              refine tm_icmp_le (tgt := 54) C0.1 C0.2.1 dX0_luckiestPair_40 (by decide) (by omega) (by omega) (fun c_40 => ?_) (fun c_40 => ?_)
              · refine tn_iinc (lv' := [(4, .int (nI (b + 1))), (5, .int (nI (pts tk co a b))), (3, .int (nI (a))), (2, .int (iM (t2))), (1, .int (iM (t1))), (0, .ref h)]) C0.1 C0.2.1 dX0_luckiestPair_54 hl (k := 1) rfl (by decide) rfl (fun ls hl => ?_)
                refine lv_goto (tgt := 19) C0.1 C0.2.1 dX0_luckiestPair_57 (by decide) ?_
                exact ih_19 (t1) (t2) (b + 1) (by omega) (by omega) (by omega) (by first | exact lkr_n' hts c_40 | exact lkr_y' hab hts c_40) (by omega) ls (lv_sub hl [0, 2, 3, 4, 5] rfl) _ _ hG hS
              · refine lv_iload C0.1 C0.2.1 dX0_luckiestPair_43 (lv_at hl 0 rfl) ?_
                refine tc_top (iM_s (pts tk co a b)).symm ?_
                refine lv_istore_n (lv' := [(2, .int (iM (pts tk co a b + 1))), (5, .int (nI (pts tk co a b))), (4, .int (nI (b))), (3, .int (nI (a))), (1, .int (iM (t1))), (0, .ref h)]) C0.1 C0.2.1 dX0_luckiestPair_45 rfl hl (by decide) rfl (fun ls hl => ?_)
                refine lv_bipush (v := nI 100) C0.1 C0.2.1 dX0_luckiestPair_46 (by decide) ?_
                refine lv_iload_n C0.1 C0.2.1 dX0_luckiestPair_48 rfl (lv_at hl 3 rfl) ?_
                refine tn_imul C0.1 C0.2.1 dX0_luckiestPair_49 ?_
                refine lv_iload C0.1 C0.2.1 dX0_luckiestPair_50 (lv_at hl 2 rfl) ?_
                refine tn_iadd C0.1 C0.2.1 dX0_luckiestPair_52 ?_
                refine tc_top (iM_s (100 * a + b)).symm ?_
                refine lv_istore_n (lv' := [(1, .int (iM (100 * a + b + 1))), (2, .int (iM (pts tk co a b + 1))), (5, .int (nI (pts tk co a b))), (4, .int (nI (b))), (3, .int (nI (a))), (0, .ref h)]) C0.1 C0.2.1 dX0_luckiestPair_53 rfl hl (by decide) rfl (fun ls hl => ?_)
                refine tn_iinc (lv' := [(4, .int (nI (b + 1))), (1, .int (iM (100 * a + b + 1))), (2, .int (iM (pts tk co a b + 1))), (5, .int (nI (pts tk co a b))), (3, .int (nI (a))), (0, .ref h)]) C0.1 C0.2.1 dX0_luckiestPair_54 hl (k := 3) rfl (by decide) rfl (fun ls hl => ?_)
                refine lv_goto (tgt := 19) C0.1 C0.2.1 dX0_luckiestPair_57 (by decide) ?_
                exact ih_19 (100 * a + b + 1) (pts tk co a b + 1) (b + 1) (by omega) (by omega) (by omega) (by first | exact lkr_n' hts c_40 | exact lkr_y' hab hts c_40) (by omega) ls (lv_sub hl [0, 4, 2, 1, 5] rfl) _ _ hG hS
        exact cut_19 (n + 1) (s1) (s2) (a + 1) (by omega) (by omega) (by omega) (lkr_lo (Nat.le_refl _)).symm (by omega) ls (lv_sub hl [0, 1, 2, 3, 4] rfl) _ _ hG hS
  exact cut_6 (n + 1) (0) (0) (0) (by omega) (by omega) rfl (by omega) ls (lv_sub hl [0, 1, 2, 3] rfl) _ _ hG hS
set_option maxHeartbeats 4000000 in
set_option maxRecDepth 100000 in
theorem kX0_bestSwap {l : Launch} (hlf : l.stackTraces = false) {D : va_G} {cI cJ : ClassId} {N0 : Nat} {h r1 r2 r3 r4 : Nat} {tk co cn wk : Nat → Nat} {n st : Nat} {ho ct sp : Int32} {Z : va_W} (hk : tOk tk co cn wk n st)   : tcM l yX0_bestSwap wsX0_bestSwap { frames := 5, cells := 0, slots := 0, locals := 112 } [] 0 [.ref h] D cI cJ N0 (wT h r1 r2 r3 r4 cI tk co cn wk n ho st ct sp Z) (some (.int (iM (bestSw tk co cn wk n)))) (wT h r1 r2 r3 r4 cI tk co cn wk n ho st ct sp Z) 0 0 := by
  refine tcM.of (cc := cX0_bestSwap) (maxL := 6) (ret := (some .int)) (by decide) rfl (Nat.le_of_ble_eq_true rfl) ?_
  intro p e s m args below meth c C0 hr hlk ht hmn hG ls hl
  have hl : lv_has ls 6 [(0, .ref h)] := hl
  obtain ⟨hk1, hk2, hk3, hk4, hn12, hst⟩ := id hk
  have hG0 := hG
  have hS : va_S (tcA N0) s.heap s.heap [] := va_S.rf
  have hF : ∀ w ∈ wsX00, w ∈ wsX0_bestSwap := by decide +kernel
  have w_people : Cond.fieldLink RX0 22 "TicketCoincidences" "people" "I" ∈ wsX0_bestSwap := by decide +kernel
  refine lv_iconst (v := iM 0) C0.1 C0.2.1 dX0_bestSwap_0 (by decide) ?_
  refine lv_istore_n (lv' := [(1, .int (iM (0))), (0, .ref h)]) C0.1 C0.2.1 dX0_bestSwap_1 rfl hl (by decide) rfl (fun ls hl => ?_)
  refine lv_aload_n C0.1 C0.2.1 dX0_bestSwap_2 rfl (lv_at hl 1 rfl) ?_
  refine lv_iconst (v := nI 0) C0.1 C0.2.1 dX0_bestSwap_3 (by decide) ?_
  refine tc_callV (q0 := 0) C0 hG hS rfl rfl (kX0_townBehind hlf hk  (0) (by omega)) (cwV 1 C0.2.2.2.2 gX0_bestSwap_X0_townBehind rfl rfl rfl (by decide +kernel) ⟨(Nat.le_of_ble_eq_true rfl), (Nat.le_of_ble_eq_true rfl)⟩) rfl hl rfl (Nat.le_of_ble_eq_true rfl) dX0_bestSwap_4 ⟨(Nat.le_of_ble_eq_true rfl), (Nat.le_of_ble_eq_true rfl)⟩ (fun H locs hG hS => ?_)
  have b_4 := tw_le tk co cn wk 0 hk.2.2.2.2.1
  refine tc_top (iM_s (tw tk co cn wk 0 n)).symm ?_
  refine lv_istore_n (lv' := [(2, .int (iM (tw tk co cn wk 0 n + 1))), (1, .int (iM (0))), (0, .ref h)]) C0.1 C0.2.1 dX0_bestSwap_7 rfl hl (by decide) rfl (fun ls hl => ?_)
  refine lv_iconst (v := nI 0) C0.1 C0.2.1 dX0_bestSwap_8 (by decide) ?_
  refine lv_istore_n (lv' := [(3, .int (nI (0))), (2, .int (iM (tw tk co cn wk 0 n + 1))), (1, .int (iM (0))), (0, .ref h)]) C0.1 C0.2.1 dX0_bestSwap_9 rfl hl (by decide) rfl (fun ls hl => ?_)
  refine tc_nameQ (fun zQg zhQ => ?_)
  have cut_10 : ∀ (kf : Nat) (s1 : Nat) (s2 : Nat) (a : Nat) (ha : a ≤ n) (hs2 : s2 ≤ 1873) (hs : (s2, s1) = lkf (swt tk co cn wk n) n (tw tk co cn wk 0 n + 1, 0) a) (hm : n + 1 ≤ a + kf), ∀ (ls : Array Slot), lv_has ls 6 [(3, .int (nI (a))), (2, .int (iM (s2))), (1, .int (iM (s1))), (0, .ref h)] → ∀ (H : Heap) (locs : List Loc), tcG D cI cJ N0 (wT h r1 r2 r3 r4 cI tk co cn wk n ho st ct sp Z) s H → va_S (tcA N0) s.heap H locs → W p l e ({ frames := 5, cells := 0, slots := 0, locals := 112 } : Room) s m args below meth c H locs (0) (0) zQg (F0 m 10 ls []) := by
    intro kf
    induction kf with
    | zero => intro s1 s2 a ha hs2 hs hm; exact absurd hm (by omega)
    | succ kf ih_10 =>
      intro s1 s2 a ha hs2 hs hm ls hl H locs hG hS
      refine lv_iload_n C0.1 C0.2.1 dX0_bestSwap_10 rfl (lv_at hl 0 rfl) ?_
      refine lv_aload_n C0.1 C0.2.1 dX0_bestSwap_11 rfl (lv_at hl 3 rfl) ?_
      refine tgX0_people C0 hF hG w_people dX0_bestSwap_12 ?_
      refine tn_icmp_ge (tgt := 70) C0.1 C0.2.1 dX0_bestSwap_15 (by decide) (by omega) (by omega) (fun c_15 => ?_) (fun c_15 => ?_)
      · refine lv_iload_n C0.1 C0.2.1 dX0_bestSwap_70 rfl (lv_at hl 2 rfl) ?_
        subst zhQ
        exact tc_iret C0 hr hlk hG hS rfl (by have hz : a = n := (by omega); rw [hz] at hs; unfold bestSw; rw [← hs]) (Nat.le_of_ble_eq_true rfl) (Nat.le_of_ble_eq_true rfl) dX0_bestSwap_71
      · refine lv_iload_n C0.1 C0.2.1 dX0_bestSwap_18 rfl (lv_at hl 0 rfl) ?_
        refine lv_iconst (v := nI 1) C0.1 C0.2.1 dX0_bestSwap_19 (by decide) ?_
        refine tn_iadd C0.1 C0.2.1 dX0_bestSwap_20 ?_
        refine lv_istore (lv' := [(4, .int (nI (a + 1))), (3, .int (nI (a))), (2, .int (iM (s2))), (1, .int (iM (s1))), (0, .ref h)]) C0.1 C0.2.1 dX0_bestSwap_21 hl (by decide) rfl (fun ls hl => ?_)
        have cut_23 : ∀ (kf : Nat) (t1 : Nat) (t2 : Nat) (b : Nat) (hb : b ≤ n) (hab : a < b) (ht2 : t2 ≤ 1873) (hts : (t2, t1) = lkr (swt tk co cn wk n) a b (s2, s1)) (hm : n + 1 ≤ b + kf), ∀ (ls : Array Slot), lv_has ls 6 [(4, .int (nI (b))), (3, .int (nI (a))), (2, .int (iM (t2))), (1, .int (iM (t1))), (0, .ref h)] → ∀ (H : Heap) (locs : List Loc), tcG D cI cJ N0 (wT h r1 r2 r3 r4 cI tk co cn wk n ho st ct sp Z) s H → va_S (tcA N0) s.heap H locs → W p l e ({ frames := 5, cells := 0, slots := 0, locals := 112 } : Room) s m args below meth c H locs (0) (0) zQg (F0 m 23 ls []) := by
          intro kf
          induction kf with
          | zero => intro t1 t2 b hb hab ht2 hts hm; exact absurd hm (by omega)
          | succ kf ih_23 =>
            intro t1 t2 b hb hab ht2 hts hm ls hl H locs hG hS
            refine lv_iload C0.1 C0.2.1 dX0_bestSwap_23 (lv_at hl 0 rfl) ?_
            refine lv_aload_n C0.1 C0.2.1 dX0_bestSwap_25 rfl (lv_at hl 4 rfl) ?_
            refine tgX0_people C0 hF hG w_people dX0_bestSwap_26 ?_
            refine tn_icmp_ge (tgt := 64) C0.1 C0.2.1 dX0_bestSwap_29 (by decide) (by omega) (by omega) (fun c_29 => ?_) (fun c_29 => ?_)
            · refine tn_iinc (lv' := [(3, .int (nI (a + 1))), (4, .int (nI (b))), (2, .int (iM (t2))), (1, .int (iM (t1))), (0, .ref h)]) C0.1 C0.2.1 dX0_bestSwap_64 hl (k := 1) rfl (by decide) rfl (fun ls hl => ?_)
              refine lv_goto (tgt := 10) C0.1 C0.2.1 dX0_bestSwap_67 (by decide) ?_
              exact ih_10 (t1) (t2) (a + 1) (by omega) (by omega) (by have hz : b = n := (by omega); rw [hz] at hts; rw [lkf_s, ← hs]; exact hts) (by omega) ls (lv_sub hl [0, 2, 3, 4] rfl) _ _ hG hS
            · refine lv_aload_n C0.1 C0.2.1 dX0_bestSwap_32 rfl (lv_at hl 4 rfl) ?_
              refine lv_iload_n C0.1 C0.2.1 dX0_bestSwap_33 rfl (lv_at hl 1 rfl) ?_
              refine lv_iload C0.1 C0.2.1 dX0_bestSwap_34 (lv_at hl 0 rfl) ?_
              refine tc_callV (q0 := 0) C0 hG hS rfl rfl (kX0_townIfSwapped hlf hk  (a) (b) (by omega) (by omega)) (cwV 2 C0.2.2.2.2 gX0_bestSwap_X0_townIfSwapped rfl rfl rfl (by decide +kernel) ⟨(Nat.le_of_ble_eq_true rfl), (Nat.le_of_ble_eq_true rfl)⟩) rfl hl rfl (Nat.le_of_ble_eq_true rfl) dX0_bestSwap_36 ⟨(Nat.le_of_ble_eq_true rfl), (Nat.le_of_ble_eq_true rfl)⟩ (fun H locs hG hS => ?_)
              have b_36 := (show swt tk co cn wk n a b ≤ 1872 from tw_le (swp tk a b) co cn wk 0 hk.2.2.2.2.1)
              refine lv_istore (lv' := [(5, .int (nI (swt tk co cn wk n a b))), (4, .int (nI (b))), (3, .int (nI (a))), (2, .int (iM (t2))), (1, .int (iM (t1))), (0, .ref h)]) C0.1 C0.2.1 dX0_bestSwap_39 hl (by decide) rfl (fun ls hl => ?_)
              refine lv_iload C0.1 C0.2.1 dX0_bestSwap_41 (lv_at hl 0 rfl) ?_
              refine lv_iload_n C0.1 C0.2.1 dX0_bestSwap_43 rfl (lv_at hl 3 rfl) ?_
              refine tm_icmp_le (tgt := 58) C0.1 C0.2.1 dX0_bestSwap_44 (by decide) (by omega) (by omega) (fun c_44 => ?_) (fun c_44 => ?_)
              · refine tn_iinc (lv' := [(4, .int (nI (b + 1))), (5, .int (nI (swt tk co cn wk n a b))), (3, .int (nI (a))), (2, .int (iM (t2))), (1, .int (iM (t1))), (0, .ref h)]) C0.1 C0.2.1 dX0_bestSwap_58 hl (k := 1) rfl (by decide) rfl (fun ls hl => ?_)
                refine lv_goto (tgt := 23) C0.1 C0.2.1 dX0_bestSwap_61 (by decide) ?_
                exact ih_23 (t1) (t2) (b + 1) (by omega) (by omega) (by omega) (by first | exact lkr_n' hts c_44 | exact lkr_y' hab hts c_44) (by omega) ls (lv_sub hl [0, 2, 3, 4, 5] rfl) _ _ hG hS
              · refine lv_iload C0.1 C0.2.1 dX0_bestSwap_47 (lv_at hl 0 rfl) ?_
                refine tc_top (iM_s (swt tk co cn wk n a b)).symm ?_
                refine lv_istore_n (lv' := [(2, .int (iM (swt tk co cn wk n a b + 1))), (5, .int (nI (swt tk co cn wk n a b))), (4, .int (nI (b))), (3, .int (nI (a))), (1, .int (iM (t1))), (0, .ref h)]) C0.1 C0.2.1 dX0_bestSwap_49 rfl hl (by decide) rfl (fun ls hl => ?_)
                refine lv_bipush (v := nI 100) C0.1 C0.2.1 dX0_bestSwap_50 (by decide) ?_
                refine lv_iload_n C0.1 C0.2.1 dX0_bestSwap_52 rfl (lv_at hl 3 rfl) ?_
                refine tn_imul C0.1 C0.2.1 dX0_bestSwap_53 ?_
                refine lv_iload C0.1 C0.2.1 dX0_bestSwap_54 (lv_at hl 2 rfl) ?_
                refine tn_iadd C0.1 C0.2.1 dX0_bestSwap_56 ?_
                refine tc_top (iM_s (100 * a + b)).symm ?_
                refine lv_istore_n (lv' := [(1, .int (iM (100 * a + b + 1))), (2, .int (iM (swt tk co cn wk n a b + 1))), (5, .int (nI (swt tk co cn wk n a b))), (4, .int (nI (b))), (3, .int (nI (a))), (0, .ref h)]) C0.1 C0.2.1 dX0_bestSwap_57 rfl hl (by decide) rfl (fun ls hl => ?_)
                refine tn_iinc (lv' := [(4, .int (nI (b + 1))), (1, .int (iM (100 * a + b + 1))), (2, .int (iM (swt tk co cn wk n a b + 1))), (5, .int (nI (swt tk co cn wk n a b))), (3, .int (nI (a))), (0, .ref h)]) C0.1 C0.2.1 dX0_bestSwap_58 hl (k := 3) rfl (by decide) rfl (fun ls hl => ?_)
                refine lv_goto (tgt := 23) C0.1 C0.2.1 dX0_bestSwap_61 (by decide) ?_
                exact ih_23 (100 * a + b + 1) (swt tk co cn wk n a b + 1) (b + 1) (by omega) (by omega) (by omega) (by first | exact lkr_n' hts c_44 | exact lkr_y' hab hts c_44) (by omega) ls (lv_sub hl [0, 4, 2, 1, 5] rfl) _ _ hG hS
        exact cut_23 (n + 1) (s1) (s2) (a + 1) (by omega) (by omega) (by omega) (lkr_lo (Nat.le_refl _)).symm (by omega) ls (lv_sub hl [0, 1, 2, 3, 4] rfl) _ _ hG hS
  exact cut_10 (n + 1) (0) (tw tk co cn wk 0 n + 1) (0) (by omega) (by omega) rfl (by omega) ls (lv_sub hl [0, 1, 2, 3] rfl) _ _ hG hS
set_option maxHeartbeats 4000000 in
set_option maxRecDepth 100000 in
theorem kX0_bestHour {l : Launch} (hlf : l.stackTraces = false) {D : va_G} {cI cJ : ClassId} {N0 : Nat} {h r1 r2 r3 r4 : Nat} {tk co cn wk : Nat → Nat} {n st : Nat} {ho ct sp : Int32} {Z : va_W} (hk : tOk tk co cn wk n st)   : tcM l yX0_bestHour wsX0_bestHour { frames := 4, cells := 0, slots := 0, locals := 89 } [] 0 [.ref h] D cI cJ N0 (wT h r1 r2 r3 r4 cI tk co cn wk n ho st ct sp Z) (some (.int (nI (bestHr tk co cn wk n)))) (wT h r1 r2 r3 r4 cI tk co cn wk n ho st ct sp Z) 0 0 := by
  refine tcM.of (cc := cX0_bestHour) (maxL := 5) (ret := (some .int)) (by decide) rfl (Nat.le_of_ble_eq_true rfl) ?_
  intro p e s m args below meth c C0 hr hlk ht hmn hG ls hl
  have hl : lv_has ls 5 [(0, .ref h)] := hl
  obtain ⟨hk1, hk2, hk3, hk4, hn12, hst⟩ := id hk
  have hG0 := hG
  have hS : va_S (tcA N0) s.heap s.heap [] := va_S.rf
  refine lv_iconst (v := nI 1) C0.1 C0.2.1 dX0_bestHour_0 (by decide) ?_
  refine lv_istore_n (lv' := [(1, .int (nI (1))), (0, .ref h)]) C0.1 C0.2.1 dX0_bestHour_1 rfl hl (by decide) rfl (fun ls hl => ?_)
  refine lv_aload_n C0.1 C0.2.1 dX0_bestHour_2 rfl (lv_at hl 1 rfl) ?_
  refine lv_iconst (v := nI 1) C0.1 C0.2.1 dX0_bestHour_3 (by decide) ?_
  refine tc_callV (q0 := 0) C0 hG hS rfl rfl (kX0_townBehind hlf hk  (1) (by omega)) (cwV 1 C0.2.2.2.2 gX0_bestHour_X0_townBehind rfl rfl rfl (by decide +kernel) ⟨(Nat.le_of_ble_eq_true rfl), (Nat.le_of_ble_eq_true rfl)⟩) rfl hl rfl (Nat.le_of_ble_eq_true rfl) dX0_bestHour_4 ⟨(Nat.le_of_ble_eq_true rfl), (Nat.le_of_ble_eq_true rfl)⟩ (fun H locs hG hS => ?_)
  have b_4 := tw_le tk co cn wk 1 hk.2.2.2.2.1
  refine lv_istore_n (lv' := [(2, .int (nI (tw tk co cn wk 1 n))), (1, .int (nI (1))), (0, .ref h)]) C0.1 C0.2.1 dX0_bestHour_7 rfl hl (by decide) rfl (fun ls hl => ?_)
  refine lv_iconst (v := nI 2) C0.1 C0.2.1 dX0_bestHour_8 (by decide) ?_
  refine lv_istore_n (lv' := [(3, .int (nI (2))), (2, .int (nI (tw tk co cn wk 1 n))), (1, .int (nI (1))), (0, .ref h)]) C0.1 C0.2.1 dX0_bestHour_9 rfl hl (by decide) rfl (fun ls hl => ?_)
  refine tc_nameQ (fun zQg zhQ => ?_)
  have cut_10 : ∀ (kf : Nat) (s1 : Nat) (s2 : Nat) (k : Nat) (hk7 : k ≤ 7) (hk2 : 2 ≤ k) (hs2 : s2 ≤ 1872) (hs : (s2, s1) = hb (fun h => tw tk co cn wk h n) (k - 2)) (hm : 7 + 1 ≤ k + kf), ∀ (ls : Array Slot), lv_has ls 5 [(3, .int (nI (k))), (2, .int (nI (s2))), (1, .int (nI (s1))), (0, .ref h)] → ∀ (H : Heap) (locs : List Loc), tcG D cI cJ N0 (wT h r1 r2 r3 r4 cI tk co cn wk n ho st ct sp Z) s H → va_S (tcA N0) s.heap H locs → W p l e ({ frames := 4, cells := 0, slots := 0, locals := 89 } : Room) s m args below meth c H locs (0) (0) zQg (F0 m 10 ls []) := by
    intro kf
    induction kf with
    | zero => intro s1 s2 k hk7 hk2 hs2 hs hm; exact absurd hm (by omega)
    | succ kf ih_10 =>
      intro s1 s2 k hk7 hk2 hs2 hs hm ls hl H locs hG hS
      refine lv_iload_n C0.1 C0.2.1 dX0_bestHour_10 rfl (lv_at hl 0 rfl) ?_
      refine lv_bipush (v := nI 6) C0.1 C0.2.1 dX0_bestHour_11 (by decide) ?_
      refine tn_icmp_gt (tgt := 40) C0.1 C0.2.1 dX0_bestHour_13 (by decide) (by omega) (by omega) (fun c_13 => ?_) (fun c_13 => ?_)
      · refine lv_iload_n C0.1 C0.2.1 dX0_bestHour_40 rfl (lv_at hl 2 rfl) ?_
        subst zhQ
        exact tc_iret C0 hr hlk hG hS rfl (by have hz : k = 7 := (by omega); subst hz; have hs' : (s2, s1) = hb (fun h => tw tk co cn wk h n) 5 := hs; unfold bestHr; rw [← hs']) (Nat.le_of_ble_eq_true rfl) (Nat.le_of_ble_eq_true rfl) dX0_bestHour_41
      · refine lv_aload_n C0.1 C0.2.1 dX0_bestHour_16 rfl (lv_at hl 3 rfl) ?_
        refine lv_iload_n C0.1 C0.2.1 dX0_bestHour_17 rfl (lv_at hl 0 rfl) ?_
        refine tc_callV (q0 := 0) C0 hG hS rfl rfl (kX0_townBehind hlf hk  (k) (by omega)) (cwV 1 C0.2.2.2.2 gX0_bestHour_X0_townBehind rfl rfl rfl (by decide +kernel) ⟨(Nat.le_of_ble_eq_true rfl), (Nat.le_of_ble_eq_true rfl)⟩) rfl hl rfl (Nat.le_of_ble_eq_true rfl) dX0_bestHour_18 ⟨(Nat.le_of_ble_eq_true rfl), (Nat.le_of_ble_eq_true rfl)⟩ (fun H locs hG hS => ?_)
        have b_18 := tw_le tk co cn wk k hk.2.2.2.2.1
        refine lv_istore (lv' := [(4, .int (nI (tw tk co cn wk k n))), (3, .int (nI (k))), (2, .int (nI (s2))), (1, .int (nI (s1))), (0, .ref h)]) C0.1 C0.2.1 dX0_bestHour_21 hl (by decide) rfl (fun ls hl => ?_)
        refine lv_iload C0.1 C0.2.1 dX0_bestHour_23 (lv_at hl 0 rfl) ?_
        refine lv_iload_n C0.1 C0.2.1 dX0_bestHour_25 rfl (lv_at hl 2 rfl) ?_
        refine tn_icmp_le (tgt := 34) C0.1 C0.2.1 dX0_bestHour_26 (by decide) (by omega) (by omega) (fun c_26 => ?_) (fun c_26 => ?_)
        · refine tn_iinc (lv' := [(3, .int (nI (k + 1))), (4, .int (nI (tw tk co cn wk k n))), (2, .int (nI (s2))), (1, .int (nI (s1))), (0, .ref h)]) C0.1 C0.2.1 dX0_bestHour_34 hl (k := 1) rfl (by decide) rfl (fun ls hl => ?_)
          refine lv_goto (tgt := 10) C0.1 C0.2.1 dX0_bestHour_37 (by decide) ?_
          exact ih_10 (s1) (s2) (k + 1) (by omega) (by omega) (by omega) (by first | exact hb_n' hk2 hs c_26 | exact hb_y' hk2 hs c_26) (by omega) ls (lv_sub hl [0, 2, 3, 4] rfl) _ _ hG hS
        · refine lv_iload C0.1 C0.2.1 dX0_bestHour_29 (lv_at hl 0 rfl) ?_
          refine lv_istore_n (lv' := [(2, .int (nI (tw tk co cn wk k n))), (4, .int (nI (tw tk co cn wk k n))), (3, .int (nI (k))), (1, .int (nI (s1))), (0, .ref h)]) C0.1 C0.2.1 dX0_bestHour_31 rfl hl (by decide) rfl (fun ls hl => ?_)
          refine lv_iload_n C0.1 C0.2.1 dX0_bestHour_32 rfl (lv_at hl 2 rfl) ?_
          refine lv_istore_n (lv' := [(1, .int (nI (k))), (2, .int (nI (tw tk co cn wk k n))), (4, .int (nI (tw tk co cn wk k n))), (3, .int (nI (k))), (0, .ref h)]) C0.1 C0.2.1 dX0_bestHour_33 rfl hl (by decide) rfl (fun ls hl => ?_)
          refine tn_iinc (lv' := [(3, .int (nI (k + 1))), (1, .int (nI (k))), (2, .int (nI (tw tk co cn wk k n))), (4, .int (nI (tw tk co cn wk k n))), (0, .ref h)]) C0.1 C0.2.1 dX0_bestHour_34 hl (k := 3) rfl (by decide) rfl (fun ls hl => ?_)
          refine lv_goto (tgt := 10) C0.1 C0.2.1 dX0_bestHour_37 (by decide) ?_
          exact ih_10 (k) (tw tk co cn wk k n) (k + 1) (by omega) (by omega) (by omega) (by first | exact hb_n' hk2 hs c_26 | exact hb_y' hk2 hs c_26) (by omega) ls (lv_sub hl [0, 2, 1, 4] rfl) _ _ hG hS
  exact cut_10 (7 + 1) (1) (tw tk co cn wk 1 n) (2) (by omega) (by omega) (by omega) rfl (by omega) ls (lv_sub hl [0, 1, 2, 3] rfl) _ _ hG hS
set_option maxHeartbeats 4000000 in
set_option maxRecDepth 100000 in
theorem kX0_bestCorner {l : Launch} (hlf : l.stackTraces = false) {D : va_G} {cI cJ : ClassId} {N0 : Nat} {h r1 r2 r3 r4 : Nat} {tk co cn wk : Nat → Nat} {n st : Nat} {ho ct sp : Int32} {Z : va_W} (hk : tOk tk co cn wk n st) (x : Int32)  : tcM l yX0_bestCorner wsX0_bestCorner { frames := 7, cells := 1, slots := 6, locals := 111 } tcEs (cdS x n) [.ref h, .int (x)] D cI cJ N0 (wT h r1 r2 r3 r4 cI tk co cn wk n ho st ct sp Z) (some (.int (nI (bestCn tk co cn (ix x) n)))) (wT h r1 r2 r3 r4 cI tk co cn wk n ho st ct sp Z) 1 6 := by
  refine tcM.of (cc := cX0_bestCorner) (maxL := 6) (ret := (some .int)) (by decide) rfl (Nat.le_of_ble_eq_true rfl) ?_
  intro p e s m args below meth c C0 hr hlk ht hmn hG ls hl
  have hl : lv_has ls 6 [(0, .ref h), (1, .int (x))] := hl
  obtain ⟨hk1, hk2, hk3, hk4, hn12, hst⟩ := id hk
  have hG0 := hG
  have hS : va_S (tcA N0) s.heap s.heap [] := va_S.rf
  have hF : ∀ w ∈ wsX00, w ∈ wsX0_bestCorner := by decide +kernel
  have w_tickets : Cond.fieldLink RX0 9 "TicketCoincidences" "tickets" "[I" ∈ wsX0_bestCorner := by decide +kernel
  refine lv_aload_n C0.1 C0.2.1 dX0_bestCorner_0 rfl (lv_at hl 0 rfl) ?_
  refine lv_iload_n C0.1 C0.2.1 dX0_bestCorner_1 rfl (lv_at hl 1 rfl) ?_
  refine tc_callVx (q0 := 0) C0 hG hS rfl rfl (kX0_requireStranger hlf hk  (x) ) (cwV 1 C0.2.2.2.2 gX0_bestCorner_X0_requireStranger rfl rfl rfl (by decide +kernel) ⟨(Nat.le_of_ble_eq_true rfl), (Nat.le_of_ble_eq_true rfl)⟩) rfl hl rfl (Nat.le_of_ble_eq_true rfl) dX0_bestCorner_2 ⟨(Nat.le_of_ble_eq_true rfl), (Nat.le_of_ble_eq_true rfl)⟩ (fun i E q9 ce H locs hi hcd hG hS hce hcv hcl => by exact tc_out ht hlk hG hS hce hcv hcl (i := i) hi hcd (Nat.le_of_ble_eq_true rfl) (Nat.le_of_ble_eq_true rfl)) (fun c_2 H locs hG hS => ?_)
  refine W.eq (g2 := F0 m 5 ls []) rfl ?_
  obtain ⟨jx, hjx, rfl⟩ := tcIn_of (by omega) (cdS_0 c_2)
  try simp only [ix_nI (show jx < 2 ^ 31 by omega)]
  refine lv_iconst (v := nI 0) C0.1 C0.2.1 dX0_bestCorner_5 (by decide) ?_
  refine lv_istore_n (lv' := [(2, .int (nI (0))), (0, .ref h), (1, .int (nI (jx)))]) C0.1 C0.2.1 dX0_bestCorner_6 rfl hl (by decide) rfl (fun ls hl => ?_)
  refine lv_iconst (v := iM 0) C0.1 C0.2.1 dX0_bestCorner_7 (by decide) ?_
  refine lv_istore_n (lv' := [(3, .int (iM (0))), (2, .int (nI (0))), (0, .ref h), (1, .int (nI (jx)))]) C0.1 C0.2.1 dX0_bestCorner_8 rfl hl (by decide) rfl (fun ls hl => ?_)
  refine lv_iconst (v := nI 0) C0.1 C0.2.1 dX0_bestCorner_9 (by decide) ?_
  refine lv_istore (lv' := [(4, .int (nI (0))), (3, .int (iM (0))), (2, .int (nI (0))), (0, .ref h), (1, .int (nI (jx)))]) C0.1 C0.2.1 dX0_bestCorner_10 hl (by decide) rfl (fun ls hl => ?_)
  refine tc_nameQ (fun zQg zhQ => ?_)
  have cut_12 : ∀ (kf : Nat) (s1 : Nat) (s2 : Nat) (v : Nat) (hv : v ≤ 6) (hs2 : s2 ≤ 157) (hs : (s2, s1) = am (fun v => lw tk co cn jx (tk jx) v n) v) (hm : 6 + 1 ≤ v + kf), ∀ (ls : Array Slot), lv_has ls 6 [(4, .int (nI (v))), (3, .int (iM (s2))), (2, .int (nI (s1))), (0, .ref h), (1, .int (nI (jx)))] → ∀ (H : Heap) (locs : List Loc), tcG D cI cJ N0 (wT h r1 r2 r3 r4 cI tk co cn wk n ho st ct sp Z) s H → va_S (tcA N0) s.heap H locs → W p l e ({ frames := 7, cells := 1, slots := 6, locals := 111 } : Room) s m args below meth c H locs (0 + 1) (0 + 6) zQg (F0 m 12 ls []) := by
    intro kf
    induction kf with
    | zero => intro s1 s2 v hv hs2 hs hm; exact absurd hm (by omega)
    | succ kf ih_12 =>
      intro s1 s2 v hv hs2 hs hm ls hl H locs hG hS
      refine lv_iload C0.1 C0.2.1 dX0_bestCorner_12 (lv_at hl 0 rfl) ?_
      refine lv_bipush (v := nI 6) C0.1 C0.2.1 dX0_bestCorner_14 (by decide) ?_
      refine tn_icmp_ge (tgt := 52) C0.1 C0.2.1 dX0_bestCorner_16 (by decide) (by omega) (by omega) (fun c_16 => ?_) (fun c_16 => ?_)
      · refine lv_iload_n C0.1 C0.2.1 dX0_bestCorner_52 rfl (lv_at hl 2 rfl) ?_
        subst zhQ
        exact tc_iret C0 hr hlk hG hS c_2 (by have hz : v = 6 := (by omega); subst hz; unfold bestCn; rw [← hs]) (Nat.le_of_ble_eq_true rfl) (Nat.le_of_ble_eq_true rfl) dX0_bestCorner_53
      · refine lv_aload_n C0.1 C0.2.1 dX0_bestCorner_19 rfl (lv_at hl 3 rfl) ?_
        refine lv_iload_n C0.1 C0.2.1 dX0_bestCorner_20 rfl (lv_at hl 4 rfl) ?_
        refine lv_aload_n C0.1 C0.2.1 dX0_bestCorner_21 rfl (lv_at hl 3 rfl) ?_
        refine tgX0_tickets C0 hF hG w_tickets dX0_bestCorner_22 ?_
        refine lv_iload_n C0.1 C0.2.1 dX0_bestCorner_25 rfl (lv_at hl 4 rfl) ?_
        refine tc_ald (q0 := 1) C0 hG rfl (by omega) dX0_bestCorner_26 ?_
        have b_26 := hk1 (jx)
        refine lv_iload C0.1 C0.2.1 dX0_bestCorner_27 (lv_at hl 0 rfl) ?_
        refine tc_callV (q0 := 0) C0 hG hS rfl rfl (kX0_luckWith hlf hk  (jx) (tk (jx)) (v) (by omega) (by omega) (by omega)) (cwV 3 C0.2.2.2.2 gX0_bestCorner_X0_luckWith rfl rfl rfl (by decide +kernel) ⟨(Nat.le_of_ble_eq_true rfl), (Nat.le_of_ble_eq_true rfl)⟩) rfl hl rfl (Nat.le_of_ble_eq_true rfl) dX0_bestCorner_29 ⟨(Nat.le_of_ble_eq_true rfl), (Nat.le_of_ble_eq_true rfl)⟩ (fun H locs hG hS => ?_)
        have b_29 := lw_le tk co cn jx (tk (jx)) v hk.2.2.2.2.1
        refine lv_istore (lv' := [(5, .int (nI (lw tk co cn jx (tk (jx)) v n))), (4, .int (nI (v))), (3, .int (iM (s2))), (2, .int (nI (s1))), (0, .ref h), (1, .int (nI (jx)))]) C0.1 C0.2.1 dX0_bestCorner_32 hl (by decide) rfl (fun ls hl => ?_)
        refine lv_iload C0.1 C0.2.1 dX0_bestCorner_34 (lv_at hl 0 rfl) ?_
        refine lv_iload_n C0.1 C0.2.1 dX0_bestCorner_36 rfl (lv_at hl 2 rfl) ?_
        refine tm_icmp_le (tgt := 46) C0.1 C0.2.1 dX0_bestCorner_37 (by decide) (by omega) (by omega) (fun c_37 => ?_) (fun c_37 => ?_)
        · refine tn_iinc (lv' := [(4, .int (nI (v + 1))), (5, .int (nI (lw tk co cn jx (tk (jx)) v n))), (3, .int (iM (s2))), (2, .int (nI (s1))), (0, .ref h), (1, .int (nI (jx)))]) C0.1 C0.2.1 dX0_bestCorner_46 hl (k := 1) rfl (by decide) rfl (fun ls hl => ?_)
          refine lv_goto (tgt := 12) C0.1 C0.2.1 dX0_bestCorner_49 (by decide) ?_
          exact ih_12 (s1) (s2) (v + 1) (by omega) (by omega) (by first | exact am_n' hs c_37 | exact am_y' hs c_37) (by omega) ls (lv_sub hl [0, 2, 3, 4, 5] rfl) _ _ hG hS
        · refine lv_iload C0.1 C0.2.1 dX0_bestCorner_40 (lv_at hl 0 rfl) ?_
          refine tc_top (iM_s (lw tk co cn jx (tk (jx)) v n)).symm ?_
          refine lv_istore_n (lv' := [(3, .int (iM (lw tk co cn jx (tk (jx)) v n + 1))), (5, .int (nI (lw tk co cn jx (tk (jx)) v n))), (4, .int (nI (v))), (2, .int (nI (s1))), (0, .ref h), (1, .int (nI (jx)))]) C0.1 C0.2.1 dX0_bestCorner_42 rfl hl (by decide) rfl (fun ls hl => ?_)
          refine lv_iload C0.1 C0.2.1 dX0_bestCorner_43 (lv_at hl 2 rfl) ?_
          refine lv_istore_n (lv' := [(2, .int (nI (v))), (3, .int (iM (lw tk co cn jx (tk (jx)) v n + 1))), (5, .int (nI (lw tk co cn jx (tk (jx)) v n))), (4, .int (nI (v))), (0, .ref h), (1, .int (nI (jx)))]) C0.1 C0.2.1 dX0_bestCorner_45 rfl hl (by decide) rfl (fun ls hl => ?_)
          refine tn_iinc (lv' := [(4, .int (nI (v + 1))), (2, .int (nI (v))), (3, .int (iM (lw tk co cn jx (tk (jx)) v n + 1))), (5, .int (nI (lw tk co cn jx (tk (jx)) v n))), (0, .ref h), (1, .int (nI (jx)))]) C0.1 C0.2.1 dX0_bestCorner_46 hl (k := 3) rfl (by decide) rfl (fun ls hl => ?_)
          refine lv_goto (tgt := 12) C0.1 C0.2.1 dX0_bestCorner_49 (by decide) ?_
          exact ih_12 (v) (lw tk co cn jx (tk (jx)) v n + 1) (v + 1) (by omega) (by omega) (by first | exact am_n' hs c_37 | exact am_y' hs c_37) (by omega) ls (lv_sub hl [0, 2, 1, 4, 5] rfl) _ _ hG hS
  exact cut_12 (6 + 1) (0) (0) (0) (by omega) (by omega) rfl (by omega) ls (lv_sub hl [0, 1, 2, 3, 4] rfl) _ _ hG hS
set_option maxHeartbeats 4000000 in
set_option maxRecDepth 100000 in
theorem kX0_bestTicket {l : Launch} (hlf : l.stackTraces = false) {D : va_G} {cI cJ : ClassId} {N0 : Nat} {h r1 r2 r3 r4 : Nat} {tk co cn wk : Nat → Nat} {n st : Nat} {ho ct sp : Int32} {Z : va_W} (hk : tOk tk co cn wk n st) (x : Int32)  : tcM l yX0_bestTicket wsX0_bestTicket { frames := 7, cells := 1, slots := 6, locals := 111 } tcEs (cdS x n) [.ref h, .int (x)] D cI cJ N0 (wT h r1 r2 r3 r4 cI tk co cn wk n ho st ct sp Z) (some (.int (nI (bestTk tk co cn (ix x) n)))) (wT h r1 r2 r3 r4 cI tk co cn wk n ho st ct sp Z) 1 6 := by
  refine tcM.of (cc := cX0_bestTicket) (maxL := 6) (ret := (some .int)) (by decide) rfl (Nat.le_of_ble_eq_true rfl) ?_
  intro p e s m args below meth c C0 hr hlk ht hmn hG ls hl
  have hl : lv_has ls 6 [(0, .ref h), (1, .int (x))] := hl
  obtain ⟨hk1, hk2, hk3, hk4, hn12, hst⟩ := id hk
  have hG0 := hG
  have hS : va_S (tcA N0) s.heap s.heap [] := va_S.rf
  have hF : ∀ w ∈ wsX00, w ∈ wsX0_bestTicket := by decide +kernel
  have w_corners : Cond.fieldLink RX0 16 "TicketCoincidences" "corners" "[I" ∈ wsX0_bestTicket := by decide +kernel
  refine lv_aload_n C0.1 C0.2.1 dX0_bestTicket_0 rfl (lv_at hl 0 rfl) ?_
  refine lv_iload_n C0.1 C0.2.1 dX0_bestTicket_1 rfl (lv_at hl 1 rfl) ?_
  refine tc_callVx (q0 := 0) C0 hG hS rfl rfl (kX0_requireStranger hlf hk  (x) ) (cwV 1 C0.2.2.2.2 gX0_bestTicket_X0_requireStranger rfl rfl rfl (by decide +kernel) ⟨(Nat.le_of_ble_eq_true rfl), (Nat.le_of_ble_eq_true rfl)⟩) rfl hl rfl (Nat.le_of_ble_eq_true rfl) dX0_bestTicket_2 ⟨(Nat.le_of_ble_eq_true rfl), (Nat.le_of_ble_eq_true rfl)⟩ (fun i E q9 ce H locs hi hcd hG hS hce hcv hcl => by exact tc_out ht hlk hG hS hce hcv hcl (i := i) hi hcd (Nat.le_of_ble_eq_true rfl) (Nat.le_of_ble_eq_true rfl)) (fun c_2 H locs hG hS => ?_)
  refine W.eq (g2 := F0 m 5 ls []) rfl ?_
  obtain ⟨jx, hjx, rfl⟩ := tcIn_of (by omega) (cdS_0 c_2)
  try simp only [ix_nI (show jx < 2 ^ 31 by omega)]
  refine lv_iconst (v := nI 0) C0.1 C0.2.1 dX0_bestTicket_5 (by decide) ?_
  refine lv_istore_n (lv' := [(2, .int (nI (0))), (0, .ref h), (1, .int (nI (jx)))]) C0.1 C0.2.1 dX0_bestTicket_6 rfl hl (by decide) rfl (fun ls hl => ?_)
  refine lv_iconst (v := iM 0) C0.1 C0.2.1 dX0_bestTicket_7 (by decide) ?_
  refine lv_istore_n (lv' := [(3, .int (iM (0))), (2, .int (nI (0))), (0, .ref h), (1, .int (nI (jx)))]) C0.1 C0.2.1 dX0_bestTicket_8 rfl hl (by decide) rfl (fun ls hl => ?_)
  refine lv_iconst (v := nI 0) C0.1 C0.2.1 dX0_bestTicket_9 (by decide) ?_
  refine lv_istore (lv' := [(4, .int (nI (0))), (3, .int (iM (0))), (2, .int (nI (0))), (0, .ref h), (1, .int (nI (jx)))]) C0.1 C0.2.1 dX0_bestTicket_10 hl (by decide) rfl (fun ls hl => ?_)
  refine tc_nameQ (fun zQg zhQ => ?_)
  have cut_12 : ∀ (kf : Nat) (s1 : Nat) (s2 : Nat) (v : Nat) (hv : v ≤ 100) (hs2 : s2 ≤ 157) (hs : (s2, s1) = am (fun v => lw tk co cn jx v (cn jx) n) v) (hm : 100 + 1 ≤ v + kf), ∀ (ls : Array Slot), lv_has ls 6 [(4, .int (nI (v))), (3, .int (iM (s2))), (2, .int (nI (s1))), (0, .ref h), (1, .int (nI (jx)))] → ∀ (H : Heap) (locs : List Loc), tcG D cI cJ N0 (wT h r1 r2 r3 r4 cI tk co cn wk n ho st ct sp Z) s H → va_S (tcA N0) s.heap H locs → W p l e ({ frames := 7, cells := 1, slots := 6, locals := 111 } : Room) s m args below meth c H locs (0 + 1) (0 + 6) zQg (F0 m 12 ls []) := by
    intro kf
    induction kf with
    | zero => intro s1 s2 v hv hs2 hs hm; exact absurd hm (by omega)
    | succ kf ih_12 =>
      intro s1 s2 v hv hs2 hs hm ls hl H locs hG hS
      refine lv_iload C0.1 C0.2.1 dX0_bestTicket_12 (lv_at hl 0 rfl) ?_
      refine lv_bipush (v := nI 100) C0.1 C0.2.1 dX0_bestTicket_14 (by decide) ?_
      refine tn_icmp_ge (tgt := 52) C0.1 C0.2.1 dX0_bestTicket_16 (by decide) (by omega) (by omega) (fun c_16 => ?_) (fun c_16 => ?_)
      · refine lv_iload_n C0.1 C0.2.1 dX0_bestTicket_52 rfl (lv_at hl 2 rfl) ?_
        subst zhQ
        exact tc_iret C0 hr hlk hG hS c_2 (by have hz : v = 100 := (by omega); subst hz; unfold bestTk; rw [← hs]) (Nat.le_of_ble_eq_true rfl) (Nat.le_of_ble_eq_true rfl) dX0_bestTicket_53
      · refine lv_aload_n C0.1 C0.2.1 dX0_bestTicket_19 rfl (lv_at hl 3 rfl) ?_
        refine lv_iload_n C0.1 C0.2.1 dX0_bestTicket_20 rfl (lv_at hl 4 rfl) ?_
        refine lv_iload C0.1 C0.2.1 dX0_bestTicket_21 (lv_at hl 0 rfl) ?_
        refine lv_aload_n C0.1 C0.2.1 dX0_bestTicket_23 rfl (lv_at hl 3 rfl) ?_
        refine tgX0_corners C0 hF hG w_corners dX0_bestTicket_24 ?_
        refine lv_iload_n C0.1 C0.2.1 dX0_bestTicket_27 rfl (lv_at hl 4 rfl) ?_
        refine tc_ald (q0 := 3) C0 hG rfl (by omega) dX0_bestTicket_28 ?_
        have b_28 := hk3 (jx)
        refine tc_callV (q0 := 0) C0 hG hS rfl rfl (kX0_luckWith hlf hk  (jx) (v) (cn (jx)) (by omega) (by omega) (by omega)) (cwV 3 C0.2.2.2.2 gX0_bestTicket_X0_luckWith rfl rfl rfl (by decide +kernel) ⟨(Nat.le_of_ble_eq_true rfl), (Nat.le_of_ble_eq_true rfl)⟩) rfl hl rfl (Nat.le_of_ble_eq_true rfl) dX0_bestTicket_29 ⟨(Nat.le_of_ble_eq_true rfl), (Nat.le_of_ble_eq_true rfl)⟩ (fun H locs hG hS => ?_)
        have b_29 := lw_le tk co cn jx v (cn (jx)) hk.2.2.2.2.1
        refine lv_istore (lv' := [(5, .int (nI (lw tk co cn jx v (cn (jx)) n))), (4, .int (nI (v))), (3, .int (iM (s2))), (2, .int (nI (s1))), (0, .ref h), (1, .int (nI (jx)))]) C0.1 C0.2.1 dX0_bestTicket_32 hl (by decide) rfl (fun ls hl => ?_)
        refine lv_iload C0.1 C0.2.1 dX0_bestTicket_34 (lv_at hl 0 rfl) ?_
        refine lv_iload_n C0.1 C0.2.1 dX0_bestTicket_36 rfl (lv_at hl 2 rfl) ?_
        refine tm_icmp_le (tgt := 46) C0.1 C0.2.1 dX0_bestTicket_37 (by decide) (by omega) (by omega) (fun c_37 => ?_) (fun c_37 => ?_)
        · refine tn_iinc (lv' := [(4, .int (nI (v + 1))), (5, .int (nI (lw tk co cn jx v (cn (jx)) n))), (3, .int (iM (s2))), (2, .int (nI (s1))), (0, .ref h), (1, .int (nI (jx)))]) C0.1 C0.2.1 dX0_bestTicket_46 hl (k := 1) rfl (by decide) rfl (fun ls hl => ?_)
          refine lv_goto (tgt := 12) C0.1 C0.2.1 dX0_bestTicket_49 (by decide) ?_
          exact ih_12 (s1) (s2) (v + 1) (by omega) (by omega) (by first | exact am_n' hs c_37 | exact am_y' hs c_37) (by omega) ls (lv_sub hl [0, 2, 3, 4, 5] rfl) _ _ hG hS
        · refine lv_iload C0.1 C0.2.1 dX0_bestTicket_40 (lv_at hl 0 rfl) ?_
          refine tc_top (iM_s (lw tk co cn jx v (cn (jx)) n)).symm ?_
          refine lv_istore_n (lv' := [(3, .int (iM (lw tk co cn jx v (cn (jx)) n + 1))), (5, .int (nI (lw tk co cn jx v (cn (jx)) n))), (4, .int (nI (v))), (2, .int (nI (s1))), (0, .ref h), (1, .int (nI (jx)))]) C0.1 C0.2.1 dX0_bestTicket_42 rfl hl (by decide) rfl (fun ls hl => ?_)
          refine lv_iload C0.1 C0.2.1 dX0_bestTicket_43 (lv_at hl 2 rfl) ?_
          refine lv_istore_n (lv' := [(2, .int (nI (v))), (3, .int (iM (lw tk co cn jx v (cn (jx)) n + 1))), (5, .int (nI (lw tk co cn jx v (cn (jx)) n))), (4, .int (nI (v))), (0, .ref h), (1, .int (nI (jx)))]) C0.1 C0.2.1 dX0_bestTicket_45 rfl hl (by decide) rfl (fun ls hl => ?_)
          refine tn_iinc (lv' := [(4, .int (nI (v + 1))), (2, .int (nI (v))), (3, .int (iM (lw tk co cn jx v (cn (jx)) n + 1))), (5, .int (nI (lw tk co cn jx v (cn (jx)) n))), (0, .ref h), (1, .int (nI (jx)))]) C0.1 C0.2.1 dX0_bestTicket_46 hl (k := 3) rfl (by decide) rfl (fun ls hl => ?_)
          refine lv_goto (tgt := 12) C0.1 C0.2.1 dX0_bestTicket_49 (by decide) ?_
          exact ih_12 (v) (lw tk co cn jx v (cn (jx)) n + 1) (v + 1) (by omega) (by omega) (by first | exact am_n' hs c_37 | exact am_y' hs c_37) (by omega) ls (lv_sub hl [0, 2, 1, 4, 5] rfl) _ _ hG hS
  exact cut_12 (100 + 1) (0) (0) (0) (by omega) (by omega) rfl (by omega) ls (lv_sub hl [0, 1, 2, 3, 4] rfl) _ _ hG hS
set_option maxHeartbeats 4000000 in
set_option maxRecDepth 100000 in
theorem kX0_coincidencesAt {l : Launch} (hlf : l.stackTraces = false) {D : va_G} {cI cJ : ClassId} {N0 : Nat} {h r1 r2 r3 r4 : Nat} {tk co cn wk : Nat → Nat} {n st : Nat} {ho ct sp : Int32} {Z : va_W} (hk : tOk tk co cn wk n st) (x : Int32)  : tcM l yX0_coincidencesAt wsX0_coincidencesAt { frames := 7, cells := 1, slots := 6, locals := 110 } tcEs (cdS x 6) [.ref h, .int (x)] D cI cJ N0 (wT h r1 r2 r3 r4 cI tk co cn wk n ho st ct sp Z) (some (.int (nI (cAt tk co cn (ix x) n)))) (wT h r1 r2 r3 r4 cI tk co cn wk n ho st ct sp Z) 1 6 := by
  refine tcM.of (cc := cX0_coincidencesAt) (maxL := 5) (ret := (some .int)) (by decide) rfl (Nat.le_of_ble_eq_true rfl) ?_
  intro p e s m args below meth c C0 hr hlk ht hmn hG ls hl
  have hl : lv_has ls 5 [(0, .ref h), (1, .int (x))] := hl
  obtain ⟨hk1, hk2, hk3, hk4, hn12, hst⟩ := id hk
  have hG0 := hG
  have hS : va_S (tcA N0) s.heap s.heap [] := va_S.rf
  have hF : ∀ w ∈ wsX00, w ∈ wsX0_coincidencesAt := by decide +kernel
  have w_corners : Cond.fieldLink RX0 16 "TicketCoincidences" "corners" "[I" ∈ wsX0_coincidencesAt := by decide +kernel
  have w_people : Cond.fieldLink RX0 22 "TicketCoincidences" "people" "I" ∈ wsX0_coincidencesAt := by decide +kernel
  refine lv_iload_n C0.1 C0.2.1 dX0_coincidencesAt_0 rfl (lv_at hl 1 rfl) ?_
  refine tc_callSx C0 hG hS (kX0_requireCorner hlf  (x) ) (va_cwS 1 C0.2.2.2.2 gX0_coincidencesAt_X0_requireCorner rfl rfl rfl (by decide +kernel) ⟨(Nat.le_of_ble_eq_true rfl), (Nat.le_of_ble_eq_true rfl)⟩) rfl hl rfl (Nat.le_of_ble_eq_true rfl) dX0_coincidencesAt_1 ⟨(Nat.le_of_ble_eq_true rfl), (Nat.le_of_ble_eq_true rfl)⟩ (fun i E q9 ce H locs hi hcd hG hS hce hcv hcl => by exact tc_out ht hlk hG hS hce hcv hcl (i := i) hi hcd (Nat.le_of_ble_eq_true rfl) (Nat.le_of_ble_eq_true rfl)) (fun c_1 H locs hG hS => ?_)
  refine W.eq (g2 := F0 m 4 ls []) rfl ?_
  obtain ⟨jx, hjx, rfl⟩ := tcIn_of (by omega) (cdS_0 c_1)
  try simp only [ix_nI (show jx < 2 ^ 31 by omega)]
  refine lv_iconst (v := nI 0) C0.1 C0.2.1 dX0_coincidencesAt_4 (by decide) ?_
  refine lv_istore_n (lv' := [(2, .int (nI (0))), (0, .ref h), (1, .int (nI (jx)))]) C0.1 C0.2.1 dX0_coincidencesAt_5 rfl hl (by decide) rfl (fun ls hl => ?_)
  refine lv_iconst (v := nI 0) C0.1 C0.2.1 dX0_coincidencesAt_6 (by decide) ?_
  refine lv_istore_n (lv' := [(3, .int (nI (0))), (2, .int (nI (0))), (0, .ref h), (1, .int (nI (jx)))]) C0.1 C0.2.1 dX0_coincidencesAt_7 rfl hl (by decide) rfl (fun ls hl => ?_)
  refine tc_nameQ (fun zQg zhQ => ?_)
  have cut_8 : ∀ (kf : Nat) (q : Nat) (a : Nat) (ha : a ≤ n) (hq : q = sm (fun a => sm (fun b => if a < b then cag tk co cn jx a b else 0) n) a) (hm : n + 1 ≤ a + kf), ∀ (ls : Array Slot), lv_has ls 5 [(3, .int (nI (a))), (2, .int (nI (q))), (0, .ref h), (1, .int (nI (jx)))] → ∀ (H : Heap) (locs : List Loc), tcG D cI cJ N0 (wT h r1 r2 r3 r4 cI tk co cn wk n ho st ct sp Z) s H → va_S (tcA N0) s.heap H locs → W p l e ({ frames := 7, cells := 1, slots := 6, locals := 110 } : Room) s m args below meth c H locs (0 + 1) (0 + 6) zQg (F0 m 8 ls []) := by
    intro kf
    induction kf with
    | zero => intro q a ha hq hm; exact absurd hm (by omega)
    | succ kf ih_8 =>
      intro q a ha hq hm ls hl H locs hG hS
      refine lv_iload_n C0.1 C0.2.1 dX0_coincidencesAt_8 rfl (lv_at hl 0 rfl) ?_
      refine lv_aload_n C0.1 C0.2.1 dX0_coincidencesAt_9 rfl (lv_at hl 2 rfl) ?_
      refine tgX0_people C0 hF hG w_people dX0_coincidencesAt_10 ?_
      refine tn_icmp_ge (tgt := 73) C0.1 C0.2.1 dX0_coincidencesAt_13 (by decide) (by omega) (by omega) (fun c_13 => ?_) (fun c_13 => ?_)
      · refine lv_iload_n C0.1 C0.2.1 dX0_coincidencesAt_73 rfl (lv_at hl 1 rfl) ?_
        subst zhQ
        exact tc_iret C0 hr hlk hG hS c_1 (by rw [hq, show a = n by omega]; exact congrArg nI (pt_pm (cag_sym tk co cn jx) n)) (Nat.le_of_ble_eq_true rfl) (Nat.le_of_ble_eq_true rfl) dX0_coincidencesAt_74
      · refine lv_iload_n C0.1 C0.2.1 dX0_coincidencesAt_16 rfl (lv_at hl 0 rfl) ?_
        refine lv_iconst (v := nI 1) C0.1 C0.2.1 dX0_coincidencesAt_17 (by decide) ?_
        refine tn_iadd C0.1 C0.2.1 dX0_coincidencesAt_18 ?_
        refine lv_istore (lv' := [(4, .int (nI (a + 1))), (3, .int (nI (a))), (2, .int (nI (q))), (0, .ref h), (1, .int (nI (jx)))]) C0.1 C0.2.1 dX0_coincidencesAt_19 hl (by decide) rfl (fun ls hl => ?_)
        have cut_21 : ∀ (kf : Nat) (q2 : Nat) (b : Nat) (hb : b ≤ n) (hab : a < b) (hq2 : q2 = q + sm (fun b => if a < b then cag tk co cn jx a b else 0) b) (hm : n + 1 ≤ b + kf), ∀ (ls : Array Slot), lv_has ls 5 [(4, .int (nI (b))), (3, .int (nI (a))), (2, .int (nI (q2))), (0, .ref h), (1, .int (nI (jx)))] → ∀ (H : Heap) (locs : List Loc), tcG D cI cJ N0 (wT h r1 r2 r3 r4 cI tk co cn wk n ho st ct sp Z) s H → va_S (tcA N0) s.heap H locs → W p l e ({ frames := 7, cells := 1, slots := 6, locals := 110 } : Room) s m args below meth c H locs (0 + 1) (0 + 6) zQg (F0 m 21 ls []) := by
          intro kf
          induction kf with
          | zero => intro q2 b hb hab hq2 hm; exact absurd hm (by omega)
          | succ kf ih_21 =>
            intro q2 b hb hab hq2 hm ls hl H locs hG hS
            refine lv_iload C0.1 C0.2.1 dX0_coincidencesAt_21 (lv_at hl 0 rfl) ?_
            refine lv_aload_n C0.1 C0.2.1 dX0_coincidencesAt_23 rfl (lv_at hl 3 rfl) ?_
            refine tgX0_people C0 hF hG w_people dX0_coincidencesAt_24 ?_
            refine tn_icmp_ge (tgt := 67) C0.1 C0.2.1 dX0_coincidencesAt_27 (by decide) (by omega) (by omega) (fun c_27 => ?_) (fun c_27 => ?_)
            · refine tn_iinc (lv' := [(3, .int (nI (a + 1))), (4, .int (nI (b))), (2, .int (nI (q2))), (0, .ref h), (1, .int (nI (jx)))]) C0.1 C0.2.1 dX0_coincidencesAt_67 hl (k := 1) rfl (by decide) rfl (fun ls hl => ?_)
              refine lv_goto (tgt := 8) C0.1 C0.2.1 dX0_coincidencesAt_70 (by decide) ?_
              exact ih_8 (q2) (a + 1) (by omega) (by have hz : b = n := (by omega); rw [sm_s, ← hq, hq2, hz]) (by omega) ls (lv_sub hl [0, 2, 3, 4] rfl) _ _ hG hS
            · refine lv_aload_n C0.1 C0.2.1 dX0_coincidencesAt_30 rfl (lv_at hl 3 rfl) ?_
              refine tgX0_corners C0 hF hG w_corners dX0_coincidencesAt_31 ?_
              refine lv_iload_n C0.1 C0.2.1 dX0_coincidencesAt_34 rfl (lv_at hl 1 rfl) ?_
              refine tc_ald (q0 := 3) C0 hG rfl (by omega) dX0_coincidencesAt_35 ?_
              have b_35 := hk3 (a)
              refine lv_iload_n C0.1 C0.2.1 dX0_coincidencesAt_36 rfl (lv_at hl 4 rfl) ?_
              refine tn_icmp_ne (tgt := 61) C0.1 C0.2.1 dX0_coincidencesAt_37 (by decide) (by omega) (by omega) (fun c_37 => ?_) (fun c_37 => ?_)
              · refine tn_iinc (lv' := [(4, .int (nI (b + 1))), (3, .int (nI (a))), (2, .int (nI (q2))), (0, .ref h), (1, .int (nI (jx)))]) C0.1 C0.2.1 dX0_coincidencesAt_61 hl (k := 0) rfl (by decide) rfl (fun ls hl => ?_)
                refine lv_goto (tgt := 21) C0.1 C0.2.1 dX0_coincidencesAt_64 (by decide) ?_
                exact ih_21 (q2) (b + 1) (by omega) (by omega) (by first | exact sm_step2 hq2 ((if_pos hab).trans (if_pos ⟨c_37, c_48⟩)) | exact sm_skip2 hq2 ((if_pos hab).trans (if_neg (fun q => c_37 q.1))) | exact sm_skip2 hq2 ((if_pos hab).trans (if_neg (fun q => c_48 q.2)))) (by omega) ls (lv_sub hl [0, 1, 2, 3, 4] rfl) _ _ hG hS
              · refine lv_aload_n C0.1 C0.2.1 dX0_coincidencesAt_40 rfl (lv_at hl 3 rfl) ?_
                refine tgX0_corners C0 hF hG w_corners dX0_coincidencesAt_41 ?_
                refine lv_iload C0.1 C0.2.1 dX0_coincidencesAt_44 (lv_at hl 0 rfl) ?_
                refine tc_ald (q0 := 3) C0 hG rfl (by omega) dX0_coincidencesAt_46 ?_
                have b_46 := hk3 (b)
                refine lv_iload_n C0.1 C0.2.1 dX0_coincidencesAt_47 rfl (lv_at hl 4 rfl) ?_
                refine tn_icmp_ne (tgt := 61) C0.1 C0.2.1 dX0_coincidencesAt_48 (by decide) (by omega) (by omega) (fun c_48 => ?_) (fun c_48 => ?_)
                · refine tn_iinc (lv' := [(4, .int (nI (b + 1))), (3, .int (nI (a))), (2, .int (nI (q2))), (0, .ref h), (1, .int (nI (jx)))]) C0.1 C0.2.1 dX0_coincidencesAt_61 hl (k := 0) rfl (by decide) rfl (fun ls hl => ?_)
                  refine lv_goto (tgt := 21) C0.1 C0.2.1 dX0_coincidencesAt_64 (by decide) ?_
                  exact ih_21 (q2) (b + 1) (by omega) (by omega) (by first | exact sm_step2 hq2 ((if_pos hab).trans (if_pos ⟨c_37, c_48⟩)) | exact sm_skip2 hq2 ((if_pos hab).trans (if_neg (fun q => c_37 q.1))) | exact sm_skip2 hq2 ((if_pos hab).trans (if_neg (fun q => c_48 q.2)))) (by omega) ls (lv_sub hl [0, 1, 2, 3, 4] rfl) _ _ hG hS
                · refine lv_iload_n C0.1 C0.2.1 dX0_coincidencesAt_51 rfl (lv_at hl 2 rfl) ?_
                  refine lv_aload_n C0.1 C0.2.1 dX0_coincidencesAt_52 rfl (lv_at hl 3 rfl) ?_
                  refine lv_iload_n C0.1 C0.2.1 dX0_coincidencesAt_53 rfl (lv_at hl 1 rfl) ?_
                  refine lv_iload C0.1 C0.2.1 dX0_coincidencesAt_54 (lv_at hl 0 rfl) ?_
                  refine tc_callV (q0 := 0) C0 hG hS rfl rfl (kX0_pointsOfPair hlf hk  (a) (b) (by omega) (by omega)) (cwV 2 C0.2.2.2.2 gX0_coincidencesAt_X0_pointsOfPair rfl rfl rfl (by decide +kernel) ⟨(Nat.le_of_ble_eq_true rfl), (Nat.le_of_ble_eq_true rfl)⟩) rfl hl rfl (Nat.le_of_ble_eq_true rfl) dX0_coincidencesAt_56 ⟨(Nat.le_of_ble_eq_true rfl), (Nat.le_of_ble_eq_true rfl)⟩ (fun H locs hG hS => ?_)
                  have b_56 := pts_le tk co a b
                  refine tn_iadd C0.1 C0.2.1 dX0_coincidencesAt_59 ?_
                  refine lv_istore_n (lv' := [(2, .int (nI (q2 + (pts tk co a b)))), (4, .int (nI (b))), (3, .int (nI (a))), (0, .ref h), (1, .int (nI (jx)))]) C0.1 C0.2.1 dX0_coincidencesAt_60 rfl hl (by decide) rfl (fun ls hl => ?_)
                  refine tn_iinc (lv' := [(4, .int (nI (b + 1))), (2, .int (nI (q2 + (pts tk co a b)))), (3, .int (nI (a))), (0, .ref h), (1, .int (nI (jx)))]) C0.1 C0.2.1 dX0_coincidencesAt_61 hl (k := 1) rfl (by decide) rfl (fun ls hl => ?_)
                  refine lv_goto (tgt := 21) C0.1 C0.2.1 dX0_coincidencesAt_64 (by decide) ?_
                  exact ih_21 (q2 + (pts tk co a b)) (b + 1) (by omega) (by omega) (by first | exact sm_step2 hq2 ((if_pos hab).trans (if_pos ⟨c_37, c_48⟩)) | exact sm_skip2 hq2 ((if_pos hab).trans (if_neg (fun q => c_37 q.1))) | exact sm_skip2 hq2 ((if_pos hab).trans (if_neg (fun q => c_48 q.2)))) (by omega) ls (lv_sub hl [0, 2, 1, 3, 4] rfl) _ _ hG hS
        exact cut_21 (n + 1) (q) (a + 1) (by omega) (by omega) (sm_start2 (fun k hk => if_neg (by omega))) (by omega) ls (lv_sub hl [0, 1, 2, 3, 4] rfl) _ _ hG hS
  exact cut_8 (n + 1) (0) (0) (by omega) rfl (by omega) ls (lv_sub hl [0, 1, 2, 3] rfl) _ _ hG hS
set_option maxHeartbeats 4000000 in
set_option maxRecDepth 100000 in
theorem kX0_hoursUntilTogether {l : Launch} (hlf : l.stackTraces = false) {D : va_G} {cI cJ : ClassId} {N0 : Nat} {h r1 r2 r3 r4 : Nat} {tk co cn wk : Nat → Nat} {n st : Nat} {ho ct sp : Int32} {Z : va_W} (hk : tOk tk co cn wk n st) (x : Int32) (y : Int32)  : tcM l yX0_hoursUntilTogether wsX0_hoursUntilTogether { frames := 8, cells := 3, slots := 18, locals := 133 } tcEs (cdP x y n) [.ref h, .int (x), .int (y)] D cI cJ N0 (wT h r1 r2 r3 r4 cI tk co cn wk n ho st ct sp Z) (some (.int (iM (meet cn wk (ix x) (ix y))))) (wT h r1 r2 r3 r4 cI tk co cn wk n ho st ct sp Z) 3 18 := by
  refine tcM.of (cc := cX0_hoursUntilTogether) (maxL := 4) (ret := (some .int)) (by decide) rfl (Nat.le_of_ble_eq_true rfl) ?_
  intro p e s m args below meth c C0 hr hlk ht hmn hG ls hl
  have hl : lv_has ls 4 [(0, .ref h), (1, .int (x)), (2, .int (y))] := hl
  obtain ⟨hk1, hk2, hk3, hk4, hn12, hst⟩ := id hk
  have hG0 := hG
  have hS : va_S (tcA N0) s.heap s.heap [] := va_S.rf
  refine lv_aload_n C0.1 C0.2.1 dX0_hoursUntilTogether_0 rfl (lv_at hl 0 rfl) ?_
  refine lv_iload_n C0.1 C0.2.1 dX0_hoursUntilTogether_1 rfl (lv_at hl 1 rfl) ?_
  refine lv_iload_n C0.1 C0.2.1 dX0_hoursUntilTogether_2 rfl (lv_at hl 2 rfl) ?_
  refine tc_callVx (q0 := 0) C0 hG hS rfl rfl (kX0_requirePair hlf hk  (x) (y) ) (cwV 2 C0.2.2.2.2 gX0_hoursUntilTogether_X0_requirePair rfl rfl rfl (by decide +kernel) ⟨(Nat.le_of_ble_eq_true rfl), (Nat.le_of_ble_eq_true rfl)⟩) rfl hl rfl (Nat.le_of_ble_eq_true rfl) dX0_hoursUntilTogether_3 ⟨(Nat.le_of_ble_eq_true rfl), (Nat.le_of_ble_eq_true rfl)⟩ (fun i E q9 ce H locs hi hcd hG hS hce hcv hcl => by exact tc_out ht hlk hG hS hce hcv hcl (i := i) hi hcd (Nat.le_of_ble_eq_true rfl) (Nat.le_of_ble_eq_true rfl)) (fun c_3 H locs hG hS => ?_)
  refine W.eq (g2 := F0 m 6 ls []) rfl ?_
  obtain ⟨pa, pb, pn⟩ := cdP_ok c_3
  obtain ⟨jx, hjx, rfl⟩ := tcIn_of (by omega) pa
  try simp only [ix_nI (show jx < 2 ^ 31 by omega)]
  obtain ⟨jy, hjy, rfl⟩ := tcIn_of (by omega) pb
  try simp only [ix_nI (show jy < 2 ^ 31 by omega)]
  refine lv_iconst (v := nI 0) C0.1 C0.2.1 dX0_hoursUntilTogether_6 (by decide) ?_
  refine lv_istore_n (lv' := [(3, .int (nI (0))), (0, .ref h), (1, .int (nI (jx))), (2, .int (nI (jy)))]) C0.1 C0.2.1 dX0_hoursUntilTogether_7 rfl hl (by decide) rfl (fun ls hl => ?_)
  refine tc_nameQ (fun zQg zhQ => ?_)
  have cut_8 : ∀ (kf : Nat) (k : Nat) (hk6 : k ≤ 6) (hmt : meet cn wk jx jy = untl cn wk jx jy (6 - k) k) (hm : 6 + 1 ≤ k + kf), ∀ (ls : Array Slot), lv_has ls 4 [(3, .int (nI (k))), (0, .ref h), (1, .int (nI (jx))), (2, .int (nI (jy)))] → ∀ (H : Heap) (locs : List Loc), tcG D cI cJ N0 (wT h r1 r2 r3 r4 cI tk co cn wk n ho st ct sp Z) s H → va_S (tcA N0) s.heap H locs → W p l e ({ frames := 8, cells := 3, slots := 18, locals := 133 } : Room) s m args below meth c H locs (0 + 3) (0 + 18) zQg (F0 m 8 ls []) := by
    intro kf
    induction kf with
    | zero => intro k hk6 hmt hm; exact absurd hm (by omega)
    | succ kf ih_8 =>
      intro k hk6 hmt hm ls hl H locs hG hS
      refine lv_iload_n C0.1 C0.2.1 dX0_hoursUntilTogether_8 rfl (lv_at hl 0 rfl) ?_
      refine lv_bipush (v := nI 6) C0.1 C0.2.1 dX0_hoursUntilTogether_9 (by decide) ?_
      refine tn_icmp_ge (tgt := 37) C0.1 C0.2.1 dX0_hoursUntilTogether_11 (by decide) (by omega) (by omega) (fun c_11 => ?_) (fun c_11 => ?_)
      · refine lv_iconst (v := iM 0) C0.1 C0.2.1 dX0_hoursUntilTogether_37 (by decide) ?_
        subst zhQ
        exact tc_iret C0 hr hlk hG hS c_3 (by rw [hmt, show k = 6 by omega]; rfl) (Nat.le_of_ble_eq_true rfl) (Nat.le_of_ble_eq_true rfl) dX0_hoursUntilTogether_38
      · refine lv_aload_n C0.1 C0.2.1 dX0_hoursUntilTogether_14 rfl (lv_at hl 1 rfl) ?_
        refine lv_iload_n C0.1 C0.2.1 dX0_hoursUntilTogether_15 rfl (lv_at hl 2 rfl) ?_
        refine lv_iload_n C0.1 C0.2.1 dX0_hoursUntilTogether_16 rfl (lv_at hl 0 rfl) ?_
        refine tc_callV (q0 := 0) C0 hG hS rfl rfl (kX0_cornerBehind hlf hk  (jx) (k) (by omega) (by omega)) (cwV 2 C0.2.2.2.2 gX0_hoursUntilTogether_X0_cornerBehind rfl rfl rfl (by decide +kernel) ⟨(Nat.le_of_ble_eq_true rfl), (Nat.le_of_ble_eq_true rfl)⟩) rfl hl rfl (Nat.le_of_ble_eq_true rfl) dX0_hoursUntilTogether_17 ⟨(Nat.le_of_ble_eq_true rfl), (Nat.le_of_ble_eq_true rfl)⟩ (fun H locs hG hS => ?_)
        have b_17 := cnr_lt cn wk k jx
        refine lv_aload_n C0.1 C0.2.1 dX0_hoursUntilTogether_20 rfl (lv_at hl 1 rfl) ?_
        refine lv_iload_n C0.1 C0.2.1 dX0_hoursUntilTogether_21 rfl (lv_at hl 3 rfl) ?_
        refine lv_iload_n C0.1 C0.2.1 dX0_hoursUntilTogether_22 rfl (lv_at hl 0 rfl) ?_
        refine tc_callV (q0 := 0) C0 hG hS rfl rfl (kX0_cornerBehind hlf hk  (jy) (k) (by omega) (by omega)) (cwV 2 C0.2.2.2.2 gX0_hoursUntilTogether_X0_cornerBehind rfl rfl rfl (by decide +kernel) ⟨(Nat.le_of_ble_eq_true rfl), (Nat.le_of_ble_eq_true rfl)⟩) rfl hl rfl (Nat.le_of_ble_eq_true rfl) dX0_hoursUntilTogether_23 ⟨(Nat.le_of_ble_eq_true rfl), (Nat.le_of_ble_eq_true rfl)⟩ (fun H locs hG hS => ?_)
        have b_23 := cnr_lt cn wk k jy
        refine tn_icmp_ne (tgt := 31) C0.1 C0.2.1 dX0_hoursUntilTogether_26 (by decide) (by omega) (by omega) (fun c_26 => ?_) (fun c_26 => ?_)
        · refine tn_iinc (lv' := [(3, .int (nI (k + 1))), (0, .ref h), (1, .int (nI (jx))), (2, .int (nI (jy)))]) C0.1 C0.2.1 dX0_hoursUntilTogether_31 hl (k := 0) rfl (by decide) rfl (fun ls hl => ?_)
          refine lv_goto (tgt := 8) C0.1 C0.2.1 dX0_hoursUntilTogether_34 (by decide) ?_
          exact ih_8 (k + 1) (by omega) (hmt.trans (untl_n (by omega) c_26)) (by omega) ls (lv_sub hl [0, 1, 2, 3] rfl) _ _ hG hS
        · refine lv_iload_n C0.1 C0.2.1 dX0_hoursUntilTogether_29 rfl (lv_at hl 0 rfl) ?_
          subst zhQ
          exact tc_iret C0 hr hlk hG hS c_3 (by rw [hmt, untl_y (by omega) c_26, iM_s]) (Nat.le_of_ble_eq_true rfl) (Nat.le_of_ble_eq_true rfl) dX0_hoursUntilTogether_30
  exact cut_8 (6 + 1) (0) (by omega) rfl (by omega) ls (lv_sub hl [0, 1, 2, 3] rfl) _ _ hG hS
set_option maxHeartbeats 4000000 in
set_option maxRecDepth 100000 in
theorem kX0_passOneHour {l : Launch} (hlf : l.stackTraces = false) {D : va_G} {cI cJ : ClassId} {N0 : Nat} {h r1 r2 r3 r4 : Nat} {tk co cn wk : Nat → Nat} {n st : Nat} {ho ct sp : Int32} {Z : va_W} (hk : tOk tk co cn wk n st)   : tcM l yX0_passOneHour wsX0_passOneHour { frames := 4, cells := 0, slots := 0, locals := 89 } [] 0 [.ref h] D cI cJ N0 (wT h r1 r2 r3 r4 cI tk co cn wk n ho st ct sp Z) none (wT h r1 r2 r3 r4 cI tk co (pcn cn wk n) wk n (ho + nI 1) (stn st (emp (pcn cn wk n) n)) (ct + nI (tw tk co (pcn cn wk n) wk 0 n)) sp Z) 0 0 := by
  refine tcM.of (cc := cX0_passOneHour) (maxL := 2) (ret := none) (by decide) rfl (Nat.le_of_ble_eq_true rfl) ?_
  intro p e s m args below meth c C0 hr hlk ht hmn hG ls hl
  have hl : lv_has ls 2 [(0, .ref h)] := hl
  obtain ⟨hk1, hk2, hk3, hk4, hn12, hst⟩ := id hk
  have hG0 := hG
  have hS : va_S (tcA N0) s.heap s.heap [] := va_S.rf
  have hF : ∀ w ∈ wsX00, w ∈ wsX0_passOneHour := by decide +kernel
  have w_corners : Cond.fieldLink RX0 16 "TicketCoincidences" "corners" "[I" ∈ wsX0_passOneHour := by decide +kernel
  have w_countedInAll : Cond.fieldLink RX0 32 "TicketCoincidences" "countedInAll" "I" ∈ wsX0_passOneHour := by decide +kernel
  have w_hourNow : Cond.fieldLink RX0 26 "TicketCoincidences" "hourNow" "I" ∈ wsX0_passOneHour := by decide +kernel
  have w_inStore : Cond.fieldLink RX0 29 "TicketCoincidences" "inStore" "I" ∈ wsX0_passOneHour := by decide +kernel
  have w_people : Cond.fieldLink RX0 22 "TicketCoincidences" "people" "I" ∈ wsX0_passOneHour := by decide +kernel
  have hk_n := hk.cn (pcn_lt wk n hk3)
  refine lv_iconst (v := nI 0) C0.1 C0.2.1 dX0_passOneHour_0 (by decide) ?_
  refine lv_istore_n (lv' := [(1, .int (nI (0))), (0, .ref h)]) C0.1 C0.2.1 dX0_passOneHour_1 rfl hl (by decide) rfl (fun ls hl => ?_)
  refine tc_nameQ (fun zQg zhQ => ?_)
  have cut_2 : ∀ (kf : Nat) (i : Nat) (hi : i ≤ n) (hm : n + 1 ≤ i + kf), ∀ (ls : Array Slot), lv_has ls 2 [(1, .int (nI (i))), (0, .ref h)] → ∀ (H : Heap) (locs : List Loc), tcG D cI cJ N0 (wT h r1 r2 r3 r4 cI tk co (pcn cn wk i) wk n ho st ct sp Z) s H → va_S (tcA N0) s.heap H locs → W p l e ({ frames := 4, cells := 0, slots := 0, locals := 89 } : Room) s m args below meth c H locs (0) (0) zQg (F0 m 2 ls []) := by
    intro kf
    induction kf with
    | zero => intro i hi hm; exact absurd hm (by omega)
    | succ kf ih_2 =>
      intro i hi hm ls hl H locs hG hS
      have hk_i := hk.cn (pcn_lt wk i hk3)
      refine lv_iload_n C0.1 C0.2.1 dX0_passOneHour_2 rfl (lv_at hl 0 rfl) ?_
      refine lv_aload_n C0.1 C0.2.1 dX0_passOneHour_3 rfl (lv_at hl 1 rfl) ?_
      refine tgX0_people C0 hF hG w_people dX0_passOneHour_4 ?_
      refine tn_icmp_ge (tgt := 28) C0.1 C0.2.1 dX0_passOneHour_7 (by decide) (by omega) (by omega) (fun c_7 => ?_) (fun c_7 => ?_)
      · have hin : i = n := by omega
        rw [hin] at hG
        refine lv_aload_n C0.1 C0.2.1 dX0_passOneHour_28 rfl (lv_at hl 1 rfl) ?_
        refine lv_dup C0.1 C0.2.1 dX0_passOneHour_29 rfl ?_
        refine tgX0_countedInAll C0 hF hG w_countedInAll dX0_passOneHour_30 ?_
        refine lv_aload_n C0.1 C0.2.1 dX0_passOneHour_33 rfl (lv_at hl 1 rfl) ?_
        refine lv_iconst (v := nI 0) C0.1 C0.2.1 dX0_passOneHour_34 (by decide) ?_
        refine tc_callV (q0 := 0) C0 hG hS rfl rfl (kX0_townBehind hlf hk_n  (0) (by omega)) (cwV 1 C0.2.2.2.2 gX0_passOneHour_X0_townBehind rfl rfl rfl (by decide +kernel) ⟨(Nat.le_of_ble_eq_true rfl), (Nat.le_of_ble_eq_true rfl)⟩) rfl hl rfl (Nat.le_of_ble_eq_true rfl) dX0_passOneHour_35 ⟨(Nat.le_of_ble_eq_true rfl), (Nat.le_of_ble_eq_true rfl)⟩ (fun H locs hG hS => ?_)
        have b_35 := tw_le tk co (pcn cn wk n) wk 0 hk_n.2.2.2.2.1
        refine lv_iadd C0.1 C0.2.1 dX0_passOneHour_38 ?_
        refine tpX0_countedInAll C0 hF hG0 hG hS w_countedInAll dX0_passOneHour_39 (fun H locs hG hS => ?_)
        refine lv_aload_n C0.1 C0.2.1 dX0_passOneHour_42 rfl (lv_at hl 1 rfl) ?_
        refine lv_bipush (v := nI 100) C0.1 C0.2.1 dX0_passOneHour_43 (by decide) ?_
        refine lv_aload_n C0.1 C0.2.1 dX0_passOneHour_45 rfl (lv_at hl 1 rfl) ?_
        refine tgX0_inStore C0 hF hG w_inStore dX0_passOneHour_46 ?_
        refine lv_aload_n C0.1 C0.2.1 dX0_passOneHour_49 rfl (lv_at hl 1 rfl) ?_
        refine tc_callV (q0 := 0) C0 hG hS rfl rfl (kX0_emptyCorners hlf hk_n   ) (cwV 0 C0.2.2.2.2 gX0_passOneHour_X0_emptyCorners rfl rfl rfl (by decide +kernel) ⟨(Nat.le_of_ble_eq_true rfl), (Nat.le_of_ble_eq_true rfl)⟩) rfl hl rfl (Nat.le_of_ble_eq_true rfl) dX0_passOneHour_50 ⟨(Nat.le_of_ble_eq_true rfl), (Nat.le_of_ble_eq_true rfl)⟩ (fun H locs hG hS => ?_)
        have b_50 := emp_le (pcn cn wk n) n
        refine tn_iadd C0.1 C0.2.1 dX0_passOneHour_53 ?_
        refine va_mmin C0.1 C0.2.1 (C0.2.2.1.trans hl.1.symm) C0.2.2.2.1 (C0.2.2.2.2 (.methodLink RX0 171 Lib.Math.min.name) (by decide +kernel)) (C0.2.2.2.2 (.static Lib.Math.min.name) (by decide +kernel)) (C0.2.2.2.2 (.initialized "java/lang/Math") (by decide +kernel)) (C0.2.2.2.2 (.code Lib.Math.min.name Lib.Math.min.code 2 (some .int)) (by decide +kernel)) (Nat.le_of_ble_eq_true rfl) (Nat.le_of_ble_eq_true rfl) (Nat.le_of_ble_eq_true rfl) (Nat.le_of_ble_eq_true rfl) dX0_passOneHour_54 ?_
        refine tc_top (tc_min (by omega) (by omega)) ?_
        refine tpX0_inStore C0 hF hG0 hG hS w_inStore dX0_passOneHour_57 (fun H locs hG hS => ?_)
        refine lv_aload_n C0.1 C0.2.1 dX0_passOneHour_60 rfl (lv_at hl 1 rfl) ?_
        refine lv_dup C0.1 C0.2.1 dX0_passOneHour_61 rfl ?_
        refine tgX0_hourNow C0 hF hG w_hourNow dX0_passOneHour_62 ?_
        refine lv_iconst (v := nI 1) C0.1 C0.2.1 dX0_passOneHour_65 (by decide) ?_
        refine lv_iadd C0.1 C0.2.1 dX0_passOneHour_66 ?_
        refine tpX0_hourNow C0 hF hG0 hG hS w_hourNow dX0_passOneHour_67 (fun H locs hG hS => ?_)
        subst zhQ
        exact tc_vret C0 hr hlk hG hS rfl (Nat.le_of_ble_eq_true rfl) (Nat.le_of_ble_eq_true rfl) dX0_passOneHour_70
      · refine lv_aload_n C0.1 C0.2.1 dX0_passOneHour_10 rfl (lv_at hl 1 rfl) ?_
        refine tgX0_corners C0 hF hG w_corners dX0_passOneHour_11 ?_
        refine lv_iload_n C0.1 C0.2.1 dX0_passOneHour_14 rfl (lv_at hl 0 rfl) ?_
        refine lv_aload_n C0.1 C0.2.1 dX0_passOneHour_15 rfl (lv_at hl 1 rfl) ?_
        refine lv_iload_n C0.1 C0.2.1 dX0_passOneHour_16 rfl (lv_at hl 0 rfl) ?_
        refine lv_iconst (v := nI 1) C0.1 C0.2.1 dX0_passOneHour_17 (by decide) ?_
        refine tc_callV (q0 := 0) C0 hG hS rfl rfl (kX0_cornerBehind hlf hk_i  (i) (1) (by omega) (by omega)) (cwV 2 C0.2.2.2.2 gX0_passOneHour_X0_cornerBehind rfl rfl rfl (by decide +kernel) ⟨(Nat.le_of_ble_eq_true rfl), (Nat.le_of_ble_eq_true rfl)⟩) rfl hl rfl (Nat.le_of_ble_eq_true rfl) dX0_passOneHour_18 ⟨(Nat.le_of_ble_eq_true rfl), (Nat.le_of_ble_eq_true rfl)⟩ (fun H locs hG hS => ?_)
        have b_18 := cnr_lt (pcn cn wk i) wk 1 i
        refine tc_ast (q0 := 3) C0 hG0 hG hS rfl (by omega) dX0_passOneHour_21 (fun H locs hG hS => ?_)
        have hG : tcG D cI cJ N0 (wT h r1 r2 r3 r4 cI tk co (va_up (pcn cn wk i) (i) (cnr (pcn cn wk i) wk 1 i)) wk n ho st ct sp Z) s H := hG
        refine tn_iinc (lv' := [(1, .int (nI (i + 1))), (0, .ref h)]) C0.1 C0.2.1 dX0_passOneHour_22 hl (k := 0) rfl (by decide) rfl (fun ls hl => ?_)
        refine lv_goto (tgt := 2) C0.1 C0.2.1 dX0_passOneHour_25 (by decide) ?_
        exact ih_2 (i + 1) (by omega) (by omega) ls (lv_sub hl [0, 1] rfl) _ _ (tcG.eq (by rw [pcn_s]) hG) hS
  exact cut_2 (n + 1) (0) (by omega) (by omega) ls (lv_sub hl [0, 1] rfl) _ _ (tcG.eq (by rw [pcn_0]) hG) hS
set_option maxHeartbeats 4000000 in
set_option maxRecDepth 100000 in
theorem kX0_pass {l : Launch} (hlf : l.stackTraces = false) {D : va_G} {cI cJ : ClassId} {N0 : Nat} {h r1 r2 r3 r4 : Nat} {tk co cn wk : Nat → Nat} {n st : Nat} {ho ct sp : Int32} {Z : va_W} (hk : tOk tk co cn wk n st) (x : Int32)  : tcM l yX0_pass wsX0_pass { frames := 6, cells := 1, slots := 6, locals := 110 } tcEa (cdH x) [.ref h, .int (x)] D cI cJ N0 (wT h r1 r2 r3 r4 cI tk co cn wk n ho st ct sp Z) (some (.int ((hrs tk co wk n cn ct st (ix x)).2.1 - ct))) (wT h r1 r2 r3 r4 cI tk co ((hrs tk co wk n cn ct st (ix x)).1) wk n (ho + nI (ix x)) ((hrs tk co wk n cn ct st (ix x)).2.2) ((hrs tk co wk n cn ct st (ix x)).2.1) sp Z) 1 6 := by
  refine tcM.of (cc := cX0_pass) (maxL := 4) (ret := (some .int)) (by decide) rfl (Nat.le_of_ble_eq_true rfl) ?_
  intro p e s m args below meth c C0 hr hlk ht hmn hG ls hl
  have hl : lv_has ls 4 [(0, .ref h), (1, .int (x))] := hl
  obtain ⟨hk1, hk2, hk3, hk4, hn12, hst⟩ := id hk
  have hG0 := hG
  have hS : va_S (tcA N0) s.heap s.heap [] := va_S.rf
  have hF : ∀ w ∈ wsX00, w ∈ wsX0_pass := by decide +kernel
  have w_countedInAll : Cond.fieldLink RX0 32 "TicketCoincidences" "countedInAll" "I" ∈ wsX0_pass := by decide +kernel
  refine lv_iload_n C0.1 C0.2.1 dX0_pass_0 rfl (lv_at hl 1 rfl) ?_
  refine lv_iconst (v := nI 1) C0.1 C0.2.1 dX0_pass_1 (by decide) ?_
  refine lv_icmp_lt (tgt := 11) C0.1 C0.2.1 dX0_pass_2 (by decide) (fun c_2 => ?_) (fun c_2 => ?_)
  · exact tc_thr (is := 96) (text := "hours are 1 to 60") (cls := "java/lang/IllegalArgumentException") (ic := 55) (i := 0) C0 hlf ht hlk hG0 hG hS hl (by decide +kernel) (by decide +kernel) (by decide +kernel) (by decide +kernel) (by decide +kernel) (by decide +kernel) dX0_pass_11 dX0_pass_14 dX0_pass_15 dX0_pass_17 dX0_pass_20 (Nat.le_of_ble_eq_true rfl) (Nat.le_of_ble_eq_true rfl) ⟨(Nat.le_of_ble_eq_true rfl), (Nat.le_of_ble_eq_true rfl)⟩ rfl (cdH_n (by first | exact tc60_lo c_2 | exact tc60_hi c_8)) (Nat.le_of_ble_eq_true rfl) (Nat.le_of_ble_eq_true rfl)
  · refine lv_iload_n C0.1 C0.2.1 dX0_pass_5 rfl (lv_at hl 1 rfl) ?_
    refine lv_bipush (v := nI 60) C0.1 C0.2.1 dX0_pass_6 (by decide) ?_
    refine lv_icmp_le (tgt := 21) C0.1 C0.2.1 dX0_pass_8 (by decide) (fun c_8 => ?_) (fun c_8 => ?_)
    · have hcd0 := cdH_y (tc60_y c_2 c_8)
      obtain ⟨jx, hjx, rfl⟩ := tc60_of (tc60_y c_2 c_8)
      try simp only [ix_nI (show jx < 2 ^ 31 by omega)]
      refine lv_aload_n C0.1 C0.2.1 dX0_pass_21 rfl (lv_at hl 0 rfl) ?_
      refine tgX0_countedInAll C0 hF hG w_countedInAll dX0_pass_22 ?_
      refine lv_istore_n (lv' := [(2, .int (ct)), (0, .ref h), (1, .int (nI (jx)))]) C0.1 C0.2.1 dX0_pass_25 rfl hl (by decide) rfl (fun ls hl => ?_)
      refine lv_iconst (v := nI 0) C0.1 C0.2.1 dX0_pass_26 (by decide) ?_
      refine lv_istore_n (lv' := [(3, .int (nI (0))), (2, .int (ct)), (0, .ref h), (1, .int (nI (jx)))]) C0.1 C0.2.1 dX0_pass_27 rfl hl (by decide) rfl (fun ls hl => ?_)
      refine tc_nameQ (fun zQg zhQ => ?_)
      have cut_28 : ∀ (kf : Nat) (i : Nat) (hi : i ≤ jx) (hm : jx + 1 ≤ i + kf), ∀ (ls : Array Slot), lv_has ls 4 [(3, .int (nI (i))), (2, .int (ct)), (0, .ref h), (1, .int (nI (jx)))] → ∀ (H : Heap) (locs : List Loc), tcG D cI cJ N0 (wT h r1 r2 r3 r4 cI tk co ((hrs tk co wk n cn ct st i).1) wk n (ho + nI i) ((hrs tk co wk n cn ct st i).2.2) ((hrs tk co wk n cn ct st i).2.1) sp Z) s H → va_S (tcA N0) s.heap H locs → W p l e ({ frames := 6, cells := 1, slots := 6, locals := 110 } : Room) s m args below meth c H locs (0) (0) zQg (F0 m 28 ls []) := by
        intro kf
        induction kf with
        | zero => intro i hi hm; exact absurd hm (by omega)
        | succ kf ih_28 =>
          intro i hi hm ls hl H locs hG hS
          have hk_i := (hk.cn (hrs_lt (tk := tk) (co := co) (wk := wk) (n := n) (ct := ct) hk3 hst i).1).st (hrs_lt (tk := tk) (co := co) (wk := wk) (n := n) (ct := ct) hk3 hst i).2
          refine lv_iload_n C0.1 C0.2.1 dX0_pass_28 rfl (lv_at hl 0 rfl) ?_
          refine lv_iload_n C0.1 C0.2.1 dX0_pass_29 rfl (lv_at hl 3 rfl) ?_
          refine tn_icmp_ge (tgt := 43) C0.1 C0.2.1 dX0_pass_30 (by decide) (by omega) (by omega) (fun c_30 => ?_) (fun c_30 => ?_)
          · refine lv_aload_n C0.1 C0.2.1 dX0_pass_43 rfl (lv_at hl 2 rfl) ?_
            refine tgX0_countedInAll C0 hF hG w_countedInAll dX0_pass_44 ?_
            refine lv_iload_n C0.1 C0.2.1 dX0_pass_47 rfl (lv_at hl 1 rfl) ?_
            refine lv_isub C0.1 C0.2.1 dX0_pass_48 ?_
            subst zhQ
            have hin : i = jx := by omega
            rw [hin] at hG
            exact tc_iret C0 hr hlk hG hS hcd0 (by rw [hin]) (Nat.le_of_ble_eq_true rfl) (Nat.le_of_ble_eq_true rfl) dX0_pass_49
          · refine lv_aload_n C0.1 C0.2.1 dX0_pass_33 rfl (lv_at hl 2 rfl) ?_
            refine tc_callVv (q0 := 0) C0 hG hS rfl rfl (kX0_passOneHour hlf hk_i   ) (cwV 0 C0.2.2.2.2 gX0_pass_X0_passOneHour rfl rfl rfl (by decide +kernel) ⟨(Nat.le_of_ble_eq_true rfl), (Nat.le_of_ble_eq_true rfl)⟩) rfl hl rfl (Nat.le_of_ble_eq_true rfl) dX0_pass_34 ⟨(Nat.le_of_ble_eq_true rfl), (Nat.le_of_ble_eq_true rfl)⟩ (fun H locs hG hS => ?_)
            have hG : tcG D cI cJ N0 (wT h r1 r2 r3 r4 cI tk co (pcn ((hrs tk co wk n cn ct st i).1) wk n) wk n ((ho + nI i) + nI 1) (stn ((hrs tk co wk n cn ct st i).2.2) (emp (pcn ((hrs tk co wk n cn ct st i).1) wk n) n)) (((hrs tk co wk n cn ct st i).2.1) + nI (tw tk co (pcn ((hrs tk co wk n cn ct st i).1) wk n) wk 0 n)) sp Z) s H := hG
            refine tn_iinc (lv' := [(3, .int (nI (i + 1))), (2, .int (ct)), (0, .ref h), (1, .int (nI (jx)))]) C0.1 C0.2.1 dX0_pass_37 hl (k := 0) rfl (by decide) rfl (fun ls hl => ?_)
            refine lv_goto (tgt := 28) C0.1 C0.2.1 dX0_pass_40 (by decide) ?_
            exact ih_28 (i + 1) (by omega) (by omega) ls (lv_sub hl [0, 1, 2, 3] rfl) _ _ (tcG.eq (by rw [show ho + nI (i + 1) = ho + nI i + nI 1 by rw [Int32.add_assoc, nI_add]] <;> rfl) hG) hS
      exact cut_28 (jx + 1) (0) (by omega) (by omega) ls (lv_sub hl [0, 1, 2, 3] rfl) _ _ (tcG.eq (by rw [show ho + nI 0 = ho from Int32.add_zero ho] <;> rfl) hG) hS
    · exact tc_thr (is := 96) (text := "hours are 1 to 60") (cls := "java/lang/IllegalArgumentException") (ic := 55) (i := 0) C0 hlf ht hlk hG0 hG hS hl (by decide +kernel) (by decide +kernel) (by decide +kernel) (by decide +kernel) (by decide +kernel) (by decide +kernel) dX0_pass_11 dX0_pass_14 dX0_pass_15 dX0_pass_17 dX0_pass_20 (Nat.le_of_ble_eq_true rfl) (Nat.le_of_ble_eq_true rfl) ⟨(Nat.le_of_ble_eq_true rfl), (Nat.le_of_ble_eq_true rfl)⟩ rfl (cdH_n (by first | exact tc60_lo c_2 | exact tc60_hi c_8)) (Nat.le_of_ble_eq_true rfl) (Nat.le_of_ble_eq_true rfl)
set_option maxHeartbeats 4000000 in
set_option maxRecDepth 100000 in
theorem kX0_addStranger {l : Launch} (hlf : l.stackTraces = false) {D : va_G} {cI cJ : ClassId} {N0 : Nat} {h r1 r2 r3 r4 : Nat} {tk co cn wk : Nat → Nat} {n st : Nat} {ho ct sp : Int32} {Z : va_W} (hk : tOk tk co cn wk n st) (xt : Int32) (xc : Int32) (xk : Int32) (xw : Int32)  : tcM l yX0_addStranger wsX0_addStranger { frames := 6, cells := 1, slots := 6, locals := 90 } tcEa (cdA xt xc xk xw n) [.ref h, .int (xt), .int (xc), .int (xk), .int (xw)] D cI cJ N0 (wT h r1 r2 r3 r4 cI tk co cn wk n ho st ct sp Z) (some (.int (nI (n)))) (wT h r1 r2 r3 r4 cI (va_up tk n (ix xt)) (va_up co n (ix xc)) (va_up cn n (ix xk)) (va_up wk n (ix xw)) (n + 1) ho st ct sp Z) 1 6 := by
  refine tcM.of (cc := cX0_addStranger) (maxL := 6) (ret := (some .int)) (by decide) rfl (Nat.le_of_ble_eq_true rfl) ?_
  intro p e s m args below meth c C0 hr hlk ht hmn hG ls hl
  have hl : lv_has ls 6 [(0, .ref h), (1, .int (xt)), (2, .int (xc)), (3, .int (xk)), (4, .int (xw))] := hl
  obtain ⟨hk1, hk2, hk3, hk4, hn12, hst⟩ := id hk
  have hG0 := hG
  have hS : va_S (tcA N0) s.heap s.heap [] := va_S.rf
  have hF : ∀ w ∈ wsX00, w ∈ wsX0_addStranger := by decide +kernel
  have w_colours : Cond.fieldLink RX0 13 "TicketCoincidences" "colours" "[I" ∈ wsX0_addStranger := by decide +kernel
  have w_corners : Cond.fieldLink RX0 16 "TicketCoincidences" "corners" "[I" ∈ wsX0_addStranger := by decide +kernel
  have w_people : Cond.fieldLink RX0 22 "TicketCoincidences" "people" "I" ∈ wsX0_addStranger := by decide +kernel
  have w_tickets : Cond.fieldLink RX0 9 "TicketCoincidences" "tickets" "[I" ∈ wsX0_addStranger := by decide +kernel
  have w_walks : Cond.fieldLink RX0 19 "TicketCoincidences" "walks" "[I" ∈ wsX0_addStranger := by decide +kernel
  refine lv_iload_n C0.1 C0.2.1 dX0_addStranger_0 rfl (lv_at hl 1 rfl) ?_
  refine tc_callS C0 hG hS (kX0_isTicket hlf  (xt) ) (va_cwS 1 C0.2.2.2.2 gX0_addStranger_X0_isTicket rfl rfl rfl (by decide +kernel) ⟨(Nat.le_of_ble_eq_true rfl), (Nat.le_of_ble_eq_true rfl)⟩) rfl hl rfl (Nat.le_of_ble_eq_true rfl) dX0_addStranger_1 ⟨(Nat.le_of_ble_eq_true rfl), (Nat.le_of_ble_eq_true rfl)⟩ (fun H locs hG hS => ?_)
  refine tb_if_eq (tgt := 29) C0.1 C0.2.1 dX0_addStranger_4 (by decide) (fun c_4 => ?_) (fun c_4 => ?_)
  · exact tc_thr (is := 53) (text := "no such ticket, colour, corner or walk") (cls := "java/lang/IllegalArgumentException") (ic := 55) (i := 0) C0 hlf ht hlk hG0 hG hS hl (by decide +kernel) (by decide +kernel) (by decide +kernel) (by decide +kernel) (by decide +kernel) (by decide +kernel) dX0_addStranger_29 dX0_addStranger_32 dX0_addStranger_33 dX0_addStranger_35 dX0_addStranger_38 (Nat.le_of_ble_eq_true rfl) (Nat.le_of_ble_eq_true rfl) ⟨(Nat.le_of_ble_eq_true rfl), (Nat.le_of_ble_eq_true rfl)⟩ rfl (by first | exact cdA_t c_4 | exact cdA_c c_11 | exact cdA_k c_18 | exact cdA_w c_26) (Nat.le_of_ble_eq_true rfl) (Nat.le_of_ble_eq_true rfl)
  · refine lv_iload_n C0.1 C0.2.1 dX0_addStranger_7 rfl (lv_at hl 2 rfl) ?_
    refine tc_callS C0 hG hS (kX0_isColour hlf  (xc) ) (va_cwS 1 C0.2.2.2.2 gX0_addStranger_X0_isColour rfl rfl rfl (by decide +kernel) ⟨(Nat.le_of_ble_eq_true rfl), (Nat.le_of_ble_eq_true rfl)⟩) rfl hl rfl (Nat.le_of_ble_eq_true rfl) dX0_addStranger_8 ⟨(Nat.le_of_ble_eq_true rfl), (Nat.le_of_ble_eq_true rfl)⟩ (fun H locs hG hS => ?_)
    refine tb_if_eq (tgt := 29) C0.1 C0.2.1 dX0_addStranger_11 (by decide) (fun c_11 => ?_) (fun c_11 => ?_)
    · exact tc_thr (is := 53) (text := "no such ticket, colour, corner or walk") (cls := "java/lang/IllegalArgumentException") (ic := 55) (i := 0) C0 hlf ht hlk hG0 hG hS hl (by decide +kernel) (by decide +kernel) (by decide +kernel) (by decide +kernel) (by decide +kernel) (by decide +kernel) dX0_addStranger_29 dX0_addStranger_32 dX0_addStranger_33 dX0_addStranger_35 dX0_addStranger_38 (Nat.le_of_ble_eq_true rfl) (Nat.le_of_ble_eq_true rfl) ⟨(Nat.le_of_ble_eq_true rfl), (Nat.le_of_ble_eq_true rfl)⟩ rfl (by first | exact cdA_t c_4 | exact cdA_c c_11 | exact cdA_k c_18 | exact cdA_w c_26) (Nat.le_of_ble_eq_true rfl) (Nat.le_of_ble_eq_true rfl)
    · refine lv_iload_n C0.1 C0.2.1 dX0_addStranger_14 rfl (lv_at hl 3 rfl) ?_
      refine tc_callS C0 hG hS (kX0_isCorner hlf  (xk) ) (va_cwS 1 C0.2.2.2.2 gX0_addStranger_X0_isCorner rfl rfl rfl (by decide +kernel) ⟨(Nat.le_of_ble_eq_true rfl), (Nat.le_of_ble_eq_true rfl)⟩) rfl hl rfl (Nat.le_of_ble_eq_true rfl) dX0_addStranger_15 ⟨(Nat.le_of_ble_eq_true rfl), (Nat.le_of_ble_eq_true rfl)⟩ (fun H locs hG hS => ?_)
      refine tb_if_eq (tgt := 29) C0.1 C0.2.1 dX0_addStranger_18 (by decide) (fun c_18 => ?_) (fun c_18 => ?_)
      · exact tc_thr (is := 53) (text := "no such ticket, colour, corner or walk") (cls := "java/lang/IllegalArgumentException") (ic := 55) (i := 0) C0 hlf ht hlk hG0 hG hS hl (by decide +kernel) (by decide +kernel) (by decide +kernel) (by decide +kernel) (by decide +kernel) (by decide +kernel) dX0_addStranger_29 dX0_addStranger_32 dX0_addStranger_33 dX0_addStranger_35 dX0_addStranger_38 (Nat.le_of_ble_eq_true rfl) (Nat.le_of_ble_eq_true rfl) ⟨(Nat.le_of_ble_eq_true rfl), (Nat.le_of_ble_eq_true rfl)⟩ rfl (by first | exact cdA_t c_4 | exact cdA_c c_11 | exact cdA_k c_18 | exact cdA_w c_26) (Nat.le_of_ble_eq_true rfl) (Nat.le_of_ble_eq_true rfl)
      · refine lv_iload C0.1 C0.2.1 dX0_addStranger_21 (lv_at hl 4 rfl) ?_
        refine tc_callS C0 hG hS (kX0_isWalk hlf  (xw) ) (va_cwS 1 C0.2.2.2.2 gX0_addStranger_X0_isWalk rfl rfl rfl (by decide +kernel) ⟨(Nat.le_of_ble_eq_true rfl), (Nat.le_of_ble_eq_true rfl)⟩) rfl hl rfl (Nat.le_of_ble_eq_true rfl) dX0_addStranger_23 ⟨(Nat.le_of_ble_eq_true rfl), (Nat.le_of_ble_eq_true rfl)⟩ (fun H locs hG hS => ?_)
        refine tb_if_ne (tgt := 39) C0.1 C0.2.1 dX0_addStranger_26 (by decide) (fun c_26 => ?_) (fun c_26 => ?_)
        · refine lv_aload_n C0.1 C0.2.1 dX0_addStranger_39 rfl (lv_at hl 0 rfl) ?_
          refine tgX0_people C0 hF hG w_people dX0_addStranger_40 ?_
          refine lv_bipush (v := nI 12) C0.1 C0.2.1 dX0_addStranger_43 (by decide) ?_
          refine tn_icmp_lt (tgt := 58) C0.1 C0.2.1 dX0_addStranger_45 (by decide) (by omega) (by omega) (fun c_45 => ?_) (fun c_45 => ?_)
          · have hcd0 := cdA_0 c_4 c_11 c_18 c_26 c_45
            obtain ⟨jt, hjt, rfl⟩ := tcIn_of (by decide) c_4
            try simp only [ix_nI (show jt < 2 ^ 31 by omega)]
            obtain ⟨jc, hjc, rfl⟩ := tcIn_of (by decide) c_11
            try simp only [ix_nI (show jc < 2 ^ 31 by omega)]
            obtain ⟨jk, hjk, rfl⟩ := tcIn_of (by decide) c_18
            try simp only [ix_nI (show jk < 2 ^ 31 by omega)]
            obtain ⟨jw, hjw, rfl⟩ := tcIn_of (by decide) c_26
            try simp only [ix_nI (show jw < 2 ^ 31 by omega)]
            refine lv_aload_n C0.1 C0.2.1 dX0_addStranger_58 rfl (lv_at hl 0 rfl) ?_
            refine tgX0_people C0 hF hG w_people dX0_addStranger_59 ?_
            refine lv_istore (lv' := [(5, .int (nI (n))), (0, .ref h), (1, .int (nI (jt))), (2, .int (nI (jc))), (3, .int (nI (jk))), (4, .int (nI (jw)))]) C0.1 C0.2.1 dX0_addStranger_62 hl (by decide) rfl (fun ls hl => ?_)
            refine lv_aload_n C0.1 C0.2.1 dX0_addStranger_64 rfl (lv_at hl 1 rfl) ?_
            refine tgX0_tickets C0 hF hG w_tickets dX0_addStranger_65 ?_
            refine lv_iload C0.1 C0.2.1 dX0_addStranger_68 (lv_at hl 0 rfl) ?_
            refine lv_iload_n C0.1 C0.2.1 dX0_addStranger_70 rfl (lv_at hl 2 rfl) ?_
            refine tc_ast (q0 := 1) C0 hG0 hG hS rfl (by omega) dX0_addStranger_71 (fun H locs hG hS => ?_)
            have hG : tcG D cI cJ N0 (wT h r1 r2 r3 r4 cI (va_up tk (n) (jt)) co cn wk n ho st ct sp Z) s H := hG
            refine lv_aload_n C0.1 C0.2.1 dX0_addStranger_72 rfl (lv_at hl 1 rfl) ?_
            refine tgX0_colours C0 hF hG w_colours dX0_addStranger_73 ?_
            refine lv_iload C0.1 C0.2.1 dX0_addStranger_76 (lv_at hl 0 rfl) ?_
            refine lv_iload_n C0.1 C0.2.1 dX0_addStranger_78 rfl (lv_at hl 3 rfl) ?_
            refine tc_ast (q0 := 2) C0 hG0 hG hS rfl (by omega) dX0_addStranger_79 (fun H locs hG hS => ?_)
            have hG : tcG D cI cJ N0 (wT h r1 r2 r3 r4 cI (va_up tk (n) (jt)) (va_up co (n) (jc)) cn wk n ho st ct sp Z) s H := hG
            refine lv_aload_n C0.1 C0.2.1 dX0_addStranger_80 rfl (lv_at hl 1 rfl) ?_
            refine tgX0_corners C0 hF hG w_corners dX0_addStranger_81 ?_
            refine lv_iload C0.1 C0.2.1 dX0_addStranger_84 (lv_at hl 0 rfl) ?_
            refine lv_iload_n C0.1 C0.2.1 dX0_addStranger_86 rfl (lv_at hl 4 rfl) ?_
            refine tc_ast (q0 := 3) C0 hG0 hG hS rfl (by omega) dX0_addStranger_87 (fun H locs hG hS => ?_)
            have hG : tcG D cI cJ N0 (wT h r1 r2 r3 r4 cI (va_up tk (n) (jt)) (va_up co (n) (jc)) (va_up cn (n) (jk)) wk n ho st ct sp Z) s H := hG
            refine lv_aload_n C0.1 C0.2.1 dX0_addStranger_88 rfl (lv_at hl 1 rfl) ?_
            refine tgX0_walks C0 hF hG w_walks dX0_addStranger_89 ?_
            refine lv_iload C0.1 C0.2.1 dX0_addStranger_92 (lv_at hl 0 rfl) ?_
            refine lv_iload C0.1 C0.2.1 dX0_addStranger_94 (lv_at hl 5 rfl) ?_
            refine tc_ast (q0 := 4) C0 hG0 hG hS rfl (by omega) dX0_addStranger_96 (fun H locs hG hS => ?_)
            have hG : tcG D cI cJ N0 (wT h r1 r2 r3 r4 cI (va_up tk (n) (jt)) (va_up co (n) (jc)) (va_up cn (n) (jk)) (va_up wk (n) (jw)) n ho st ct sp Z) s H := hG
            refine lv_aload_n C0.1 C0.2.1 dX0_addStranger_97 rfl (lv_at hl 1 rfl) ?_
            refine lv_iload C0.1 C0.2.1 dX0_addStranger_98 (lv_at hl 0 rfl) ?_
            refine lv_iconst (v := nI 1) C0.1 C0.2.1 dX0_addStranger_100 (by decide) ?_
            refine tn_iadd C0.1 C0.2.1 dX0_addStranger_101 ?_
            refine tpX0_people C0 hF hG0 hG hS w_people dX0_addStranger_102 (fun H locs hG hS => ?_)
            refine lv_iload C0.1 C0.2.1 dX0_addStranger_105 (lv_at hl 0 rfl) ?_
            exact tc_iret C0 hr hlk hG hS hcd0 rfl (Nat.le_of_ble_eq_true rfl) (Nat.le_of_ble_eq_true rfl) dX0_addStranger_107
          · exact tc_thr (is := 60) (text := "there are 12 strangers") (cls := "java/lang/IllegalStateException") (ic := 62) (i := 1) C0 hlf ht hlk hG0 hG hS hl (by decide +kernel) (by decide +kernel) (by decide +kernel) (by decide +kernel) (by decide +kernel) (by decide +kernel) dX0_addStranger_48 dX0_addStranger_51 dX0_addStranger_52 dX0_addStranger_54 dX0_addStranger_57 (Nat.le_of_ble_eq_true rfl) (Nat.le_of_ble_eq_true rfl) ⟨(Nat.le_of_ble_eq_true rfl), (Nat.le_of_ble_eq_true rfl)⟩ rfl (cdA_2 c_4 c_11 c_18 c_26 c_45) (Nat.le_of_ble_eq_true rfl) (Nat.le_of_ble_eq_true rfl)
        · exact tc_thr (is := 53) (text := "no such ticket, colour, corner or walk") (cls := "java/lang/IllegalArgumentException") (ic := 55) (i := 0) C0 hlf ht hlk hG0 hG hS hl (by decide +kernel) (by decide +kernel) (by decide +kernel) (by decide +kernel) (by decide +kernel) (by decide +kernel) dX0_addStranger_29 dX0_addStranger_32 dX0_addStranger_33 dX0_addStranger_35 dX0_addStranger_38 (Nat.le_of_ble_eq_true rfl) (Nat.le_of_ble_eq_true rfl) ⟨(Nat.le_of_ble_eq_true rfl), (Nat.le_of_ble_eq_true rfl)⟩ rfl (by first | exact cdA_t c_4 | exact cdA_c c_11 | exact cdA_k c_18 | exact cdA_w c_26) (Nat.le_of_ble_eq_true rfl) (Nat.le_of_ble_eq_true rfl)
set_option maxHeartbeats 4000000 in
set_option maxRecDepth 100000 in
theorem kX0_setWalk {l : Launch} (hlf : l.stackTraces = false) {D : va_G} {cI cJ : ClassId} {N0 : Nat} {h r1 r2 r3 r4 : Nat} {tk co cn wk : Nat → Nat} {n st : Nat} {ho ct sp : Int32} {Z : va_W} (hk : tOk tk co cn wk n st) (x : Int32) (y : Int32)  : tcM l yX0_setWalk wsX0_setWalk { frames := 7, cells := 2, slots := 12, locals := 111 } tcEs (cdK x n y 6) [.ref h, .int (x), .int (y)] D cI cJ N0 (wT h r1 r2 r3 r4 cI tk co cn wk n ho st ct sp Z) (some (.int (nI (wk (ix x))))) (wT h r1 r2 r3 r4 cI tk co cn (va_up wk (ix x) (ix y)) n ho st ct sp Z) 2 12 := by
  refine tcM.of (cc := cX0_setWalk) (maxL := 4) (ret := (some .int)) (by decide) rfl (Nat.le_of_ble_eq_true rfl) ?_
  intro p e s m args below meth c C0 hr hlk ht hmn hG ls hl
  have hl : lv_has ls 4 [(0, .ref h), (1, .int (x)), (2, .int (y))] := hl
  obtain ⟨hk1, hk2, hk3, hk4, hn12, hst⟩ := id hk
  have hG0 := hG
  have hS : va_S (tcA N0) s.heap s.heap [] := va_S.rf
  have hF : ∀ w ∈ wsX00, w ∈ wsX0_setWalk := by decide +kernel
  have w_walks : Cond.fieldLink RX0 19 "TicketCoincidences" "walks" "[I" ∈ wsX0_setWalk := by decide +kernel
  refine lv_aload_n C0.1 C0.2.1 dX0_setWalk_0 rfl (lv_at hl 0 rfl) ?_
  refine lv_iload_n C0.1 C0.2.1 dX0_setWalk_1 rfl (lv_at hl 1 rfl) ?_
  refine tc_callVx (q0 := 0) C0 hG hS rfl rfl (kX0_requireStranger hlf hk  (x) ) (cwV 1 C0.2.2.2.2 gX0_setWalk_X0_requireStranger rfl rfl rfl (by decide +kernel) ⟨(Nat.le_of_ble_eq_true rfl), (Nat.le_of_ble_eq_true rfl)⟩) rfl hl rfl (Nat.le_of_ble_eq_true rfl) dX0_setWalk_2 ⟨(Nat.le_of_ble_eq_true rfl), (Nat.le_of_ble_eq_true rfl)⟩ (fun i E q9 ce H locs hi hcd hG hS hce hcv hcl => by exact tc_out ht hlk hG hS hce hcv hcl (i := i) hi (by obtain ⟨hz, rfl⟩ := cdS_1 hcd; exact cdK_1 hz) (Nat.le_of_ble_eq_true rfl) (Nat.le_of_ble_eq_true rfl)) (fun c_2 H locs hG hS => ?_)
  refine W.eq (g2 := F0 m 5 ls []) rfl ?_
  refine lv_iload_n C0.1 C0.2.1 dX0_setWalk_5 rfl (lv_at hl 2 rfl) ?_
  refine tc_callS C0 hG hS (kX0_isWalk hlf  (y) ) (va_cwS 1 C0.2.2.2.2 gX0_setWalk_X0_isWalk rfl rfl rfl (by decide +kernel) ⟨(Nat.le_of_ble_eq_true rfl), (Nat.le_of_ble_eq_true rfl)⟩) rfl hl rfl (Nat.le_of_ble_eq_true rfl) dX0_setWalk_6 ⟨(Nat.le_of_ble_eq_true rfl), (Nat.le_of_ble_eq_true rfl)⟩ (fun H locs hG hS => ?_)
  refine tb_if_ne (tgt := 22) C0.1 C0.2.1 dX0_setWalk_9 (by decide) (fun c_9 => ?_) (fun c_9 => ?_)
  · have hcd0 := cdK_0 (cdS_0 c_2) c_9
    obtain ⟨jy, hjy, rfl⟩ := tcIn_of (by decide) c_9
    try simp only [ix_nI (show jy < 2 ^ 31 by omega)]
    obtain ⟨jx, hjx, rfl⟩ := tcIn_of (by omega) (cdS_0 c_2)
    try simp only [ix_nI (show jx < 2 ^ 31 by omega)]
    refine lv_aload_n C0.1 C0.2.1 dX0_setWalk_22 rfl (lv_at hl 0 rfl) ?_
    refine tgX0_walks C0 hF hG w_walks dX0_setWalk_23 ?_
    refine lv_iload_n C0.1 C0.2.1 dX0_setWalk_26 rfl (lv_at hl 1 rfl) ?_
    refine tc_ald (q0 := 4) C0 hG rfl (by omega) dX0_setWalk_27 ?_
    have b_27 := hk4 (jx)
    refine lv_istore_n (lv' := [(3, .int (nI (wk (jx)))), (0, .ref h), (1, .int (nI (jx))), (2, .int (nI (jy)))]) C0.1 C0.2.1 dX0_setWalk_28 rfl hl (by decide) rfl (fun ls hl => ?_)
    refine lv_aload_n C0.1 C0.2.1 dX0_setWalk_29 rfl (lv_at hl 1 rfl) ?_
    refine tgX0_walks C0 hF hG w_walks dX0_setWalk_30 ?_
    refine lv_iload_n C0.1 C0.2.1 dX0_setWalk_33 rfl (lv_at hl 2 rfl) ?_
    refine lv_iload_n C0.1 C0.2.1 dX0_setWalk_34 rfl (lv_at hl 3 rfl) ?_
    refine tc_ast (q0 := 4) C0 hG0 hG hS rfl (by omega) dX0_setWalk_35 (fun H locs hG hS => ?_)
    have hG : tcG D cI cJ N0 (wT h r1 r2 r3 r4 cI tk co cn (va_up wk (jx) (jy)) n ho st ct sp Z) s H := hG
    refine lv_iload_n C0.1 C0.2.1 dX0_setWalk_36 rfl (lv_at hl 0 rfl) ?_
    exact tc_iret C0 hr hlk hG hS hcd0 rfl (Nat.le_of_ble_eq_true rfl) (Nat.le_of_ble_eq_true rfl) dX0_setWalk_37
  · exact tc_thr (is := 67) (text := "a walk is 0 to 5") (cls := "java/lang/IllegalArgumentException") (ic := 55) (i := 1) C0 hlf ht hlk hG0 hG hS hl (by decide +kernel) (by decide +kernel) (by decide +kernel) (by decide +kernel) (by decide +kernel) (by decide +kernel) dX0_setWalk_12 dX0_setWalk_15 dX0_setWalk_16 dX0_setWalk_18 dX0_setWalk_21 (Nat.le_of_ble_eq_true rfl) (Nat.le_of_ble_eq_true rfl) ⟨(Nat.le_of_ble_eq_true rfl), (Nat.le_of_ble_eq_true rfl)⟩ rfl (cdK_2 (cdS_0 c_2) c_9) (Nat.le_of_ble_eq_true rfl) (Nat.le_of_ble_eq_true rfl)
set_option maxHeartbeats 4000000 in
set_option maxRecDepth 100000 in
theorem kX0_move {l : Launch} (hlf : l.stackTraces = false) {D : va_G} {cI cJ : ClassId} {N0 : Nat} {h r1 r2 r3 r4 : Nat} {tk co cn wk : Nat → Nat} {n st : Nat} {ho ct sp : Int32} {Z : va_W} (hk : tOk tk co cn wk n st) (x : Int32) (y : Int32)  : tcM l yX0_move wsX0_move { frames := 7, cells := 2, slots := 12, locals := 111 } tcEs (cdMv x y cn n st) [.ref h, .int (x), .int (y)] D cI cJ N0 (wT h r1 r2 r3 r4 cI tk co cn wk n ho st ct sp Z) (some (.int (nI (way (cn (ix x)) (ix y))))) (wT h r1 r2 r3 r4 cI tk co (va_up cn (ix x) (ix y)) wk n ho (st - way (cn (ix x)) (ix y)) ct (sp + nI (way (cn (ix x)) (ix y))) Z) 2 12 := by
  refine tcM.of (cc := cX0_move) (maxL := 4) (ret := (some .int)) (by decide) rfl (Nat.le_of_ble_eq_true rfl) ?_
  intro p e s m args below meth c C0 hr hlk ht hmn hG ls hl
  have hl : lv_has ls 4 [(0, .ref h), (1, .int (x)), (2, .int (y))] := hl
  obtain ⟨hk1, hk2, hk3, hk4, hn12, hst⟩ := id hk
  have hG0 := hG
  have hS : va_S (tcA N0) s.heap s.heap [] := va_S.rf
  have hF : ∀ w ∈ wsX00, w ∈ wsX0_move := by decide +kernel
  have w_corners : Cond.fieldLink RX0 16 "TicketCoincidences" "corners" "[I" ∈ wsX0_move := by decide +kernel
  refine lv_aload_n C0.1 C0.2.1 dX0_move_0 rfl (lv_at hl 0 rfl) ?_
  refine lv_iload_n C0.1 C0.2.1 dX0_move_1 rfl (lv_at hl 1 rfl) ?_
  refine tc_callVx (q0 := 0) C0 hG hS rfl rfl (kX0_requireStranger hlf hk  (x) ) (cwV 1 C0.2.2.2.2 gX0_move_X0_requireStranger rfl rfl rfl (by decide +kernel) ⟨(Nat.le_of_ble_eq_true rfl), (Nat.le_of_ble_eq_true rfl)⟩) rfl hl rfl (Nat.le_of_ble_eq_true rfl) dX0_move_2 ⟨(Nat.le_of_ble_eq_true rfl), (Nat.le_of_ble_eq_true rfl)⟩ (fun i E q9 ce H locs hi hcd hG hS hce hcv hcl => by exact tc_out ht hlk hG hS hce hcv hcl (i := i) hi (by obtain ⟨hz, rfl⟩ := cdS_1 hcd; exact cd_out (i := 0) (cdK_1 hz)) (Nat.le_of_ble_eq_true rfl) (Nat.le_of_ble_eq_true rfl)) (fun c_2 H locs hG hS => ?_)
  refine W.eq (g2 := F0 m 5 ls []) rfl ?_
  refine lv_iload_n C0.1 C0.2.1 dX0_move_5 rfl (lv_at hl 2 rfl) ?_
  refine tc_callS C0 hG hS (kX0_isCorner hlf  (y) ) (va_cwS 1 C0.2.2.2.2 gX0_move_X0_isCorner rfl rfl rfl (by decide +kernel) ⟨(Nat.le_of_ble_eq_true rfl), (Nat.le_of_ble_eq_true rfl)⟩) rfl hl rfl (Nat.le_of_ble_eq_true rfl) dX0_move_6 ⟨(Nat.le_of_ble_eq_true rfl), (Nat.le_of_ble_eq_true rfl)⟩ (fun H locs hG hS => ?_)
  refine tb_if_ne (tgt := 22) C0.1 C0.2.1 dX0_move_9 (by decide) (fun c_9 => ?_) (fun c_9 => ?_)
  · have hcd0 := cdK_0 (cdS_0 c_2) c_9
    obtain ⟨jy, hjy, rfl⟩ := tcIn_of (by decide) c_9
    try simp only [ix_nI (show jy < 2 ^ 31 by omega)]
    obtain ⟨jx, hjx, rfl⟩ := tcIn_of (by omega) (cdS_0 c_2)
    try simp only [ix_nI (show jx < 2 ^ 31 by omega)]
    refine lv_aload_n C0.1 C0.2.1 dX0_move_22 rfl (lv_at hl 0 rfl) ?_
    refine tgX0_corners C0 hF hG w_corners dX0_move_23 ?_
    refine lv_iload_n C0.1 C0.2.1 dX0_move_26 rfl (lv_at hl 1 rfl) ?_
    refine tc_ald (q0 := 3) C0 hG rfl (by omega) dX0_move_27 ?_
    have b_27 := hk3 (jx)
    refine lv_iload_n C0.1 C0.2.1 dX0_move_28 rfl (lv_at hl 2 rfl) ?_
    refine tn_icmp_ne (tgt := 42) C0.1 C0.2.1 dX0_move_29 (by decide) (by omega) (by omega) (fun c_29 => ?_) (fun c_29 => ?_)
    · refine lv_aload_n C0.1 C0.2.1 dX0_move_42 rfl (lv_at hl 0 rfl) ?_
      refine tgX0_corners C0 hF hG w_corners dX0_move_43 ?_
      refine lv_iload_n C0.1 C0.2.1 dX0_move_46 rfl (lv_at hl 1 rfl) ?_
      refine tc_ald (q0 := 3) C0 hG rfl (by omega) dX0_move_47 ?_
      have b_47 := hk3 (jx)
      refine lv_iload_n C0.1 C0.2.1 dX0_move_48 rfl (lv_at hl 2 rfl) ?_
      refine tc_callS C0 hG hS (kX0_costOfWay hlf  (cn (jx)) (jy) (by omega) (by omega)) (va_cwS 2 C0.2.2.2.2 gX0_move_X0_costOfWay rfl rfl rfl (by decide +kernel) ⟨(Nat.le_of_ble_eq_true rfl), (Nat.le_of_ble_eq_true rfl)⟩) rfl hl rfl (Nat.le_of_ble_eq_true rfl) dX0_move_49 ⟨(Nat.le_of_ble_eq_true rfl), (Nat.le_of_ble_eq_true rfl)⟩ (fun H locs hG hS => ?_)
      have b_49 := way_le (cn (jx)) jy (by omega) (by omega)
      refine lv_istore_n (lv' := [(3, .int (nI (way (cn (jx)) jy))), (0, .ref h), (1, .int (nI (jx))), (2, .int (nI (jy)))]) C0.1 C0.2.1 dX0_move_52 rfl hl (by decide) rfl (fun ls hl => ?_)
      refine lv_aload_n C0.1 C0.2.1 dX0_move_53 rfl (lv_at hl 1 rfl) ?_
      refine lv_iload_n C0.1 C0.2.1 dX0_move_54 rfl (lv_at hl 0 rfl) ?_
      refine tc_callVx (q0 := 0) C0 hG hS rfl rfl (kX0_pay hlf hk  (way (cn (jx)) jy) (by omega)) (cwV 1 C0.2.2.2.2 gX0_move_X0_pay rfl rfl rfl (by decide +kernel) ⟨(Nat.le_of_ble_eq_true rfl), (Nat.le_of_ble_eq_true rfl)⟩) rfl hl rfl (Nat.le_of_ble_eq_true rfl) dX0_move_55 ⟨(Nat.le_of_ble_eq_true rfl), (Nat.le_of_ble_eq_true rfl)⟩ (fun i E q9 ce H locs hi hcd hG hS hce hcv hcl => by exact tc_out ht hlk hG hS hce hcv hcl (i := i) hi (by obtain ⟨hz, rfl⟩ := cdC_s hcd; exact cdMv_3 hcd0 (by omega) (by omega) (Or.inr hz)) (Nat.le_of_ble_eq_true rfl) (Nat.le_of_ble_eq_true rfl)) (fun c_55 H locs hG hS => ?_)
      refine W.eq (g2 := F0 m 58 ls []) rfl ?_
      have hG : tcG D cI cJ N0 (wT h r1 r2 r3 r4 cI tk co cn wk n ho (st - (way (cn (jx)) jy)) ct (sp + nI (way (cn (jx)) jy)) Z) s H := hG
      refine lv_aload_n C0.1 C0.2.1 dX0_move_58 rfl (lv_at hl 1 rfl) ?_
      refine tgX0_corners C0 hF hG w_corners dX0_move_59 ?_
      refine lv_iload_n C0.1 C0.2.1 dX0_move_62 rfl (lv_at hl 2 rfl) ?_
      refine lv_iload_n C0.1 C0.2.1 dX0_move_63 rfl (lv_at hl 3 rfl) ?_
      refine tc_ast (q0 := 3) C0 hG0 hG hS rfl (by omega) dX0_move_64 (fun H locs hG hS => ?_)
      have hG : tcG D cI cJ N0 (wT h r1 r2 r3 r4 cI tk co (va_up cn (jx) (jy)) wk n ho (st - (way (cn (jx)) jy)) ct (sp + nI (way (cn (jx)) jy)) Z) s H := hG
      refine lv_iload_n C0.1 C0.2.1 dX0_move_65 rfl (lv_at hl 0 rfl) ?_
      exact tc_iret C0 hr hlk hG hS (cdMv_0 hcd0 (by omega) (by omega) c_29 (cdC_0 c_55)) rfl (Nat.le_of_ble_eq_true rfl) (Nat.le_of_ble_eq_true rfl) dX0_move_66
    · exact tc_thr (is := 71) (text := "this one stands there") (cls := "java/lang/IllegalStateException") (ic := 62) (i := 2) C0 hlf ht hlk hG0 hG hS hl (by decide +kernel) (by decide +kernel) (by decide +kernel) (by decide +kernel) (by decide +kernel) (by decide +kernel) dX0_move_32 dX0_move_35 dX0_move_36 dX0_move_38 dX0_move_41 (Nat.le_of_ble_eq_true rfl) (Nat.le_of_ble_eq_true rfl) ⟨(Nat.le_of_ble_eq_true rfl), (Nat.le_of_ble_eq_true rfl)⟩ rfl (cdMv_3 hcd0 (by omega) (by omega) (Or.inl c_29)) (Nat.le_of_ble_eq_true rfl) (Nat.le_of_ble_eq_true rfl)
  · exact tc_thr (is := 69) (text := "a corner is 0 to 5") (cls := "java/lang/IllegalArgumentException") (ic := 55) (i := 1) C0 hlf ht hlk hG0 hG hS hl (by decide +kernel) (by decide +kernel) (by decide +kernel) (by decide +kernel) (by decide +kernel) (by decide +kernel) dX0_move_12 dX0_move_15 dX0_move_16 dX0_move_18 dX0_move_21 (Nat.le_of_ble_eq_true rfl) (Nat.le_of_ble_eq_true rfl) ⟨(Nat.le_of_ble_eq_true rfl), (Nat.le_of_ble_eq_true rfl)⟩ rfl (cd_out (i := 1) (cdK_2 (cdS_0 c_2) c_9)) (Nat.le_of_ble_eq_true rfl) (Nat.le_of_ble_eq_true rfl)
set_option maxHeartbeats 4000000 in
set_option maxRecDepth 100000 in
theorem kX0_draw {l : Launch} (hlf : l.stackTraces = false) {D : va_G} {cI cJ : ClassId} {N0 : Nat} {h r1 r2 r3 r4 : Nat} {tk co cn wk : Nat → Nat} {n st : Nat} {ho ct sp : Int32} {Z : va_W} (hk : tOk tk co cn wk n st) (x : Int32) (y : Int32)  : tcM l yX0_draw wsX0_draw { frames := 7, cells := 2, slots := 12, locals := 111 } tcEs (cdDr x y n st) [.ref h, .int (x), .int (y)] D cI cJ N0 (wT h r1 r2 r3 r4 cI tk co cn wk n ho st ct sp Z) (some (.int (nI (tk (ix x))))) (wT h r1 r2 r3 r4 cI (va_up tk (ix x) (ix y)) co cn wk n ho (st - 12) ct (sp + nI 12) Z) 2 12 := by
  refine tcM.of (cc := cX0_draw) (maxL := 4) (ret := (some .int)) (by decide) rfl (Nat.le_of_ble_eq_true rfl) ?_
  intro p e s m args below meth c C0 hr hlk ht hmn hG ls hl
  have hl : lv_has ls 4 [(0, .ref h), (1, .int (x)), (2, .int (y))] := hl
  obtain ⟨hk1, hk2, hk3, hk4, hn12, hst⟩ := id hk
  have hG0 := hG
  have hS : va_S (tcA N0) s.heap s.heap [] := va_S.rf
  have hF : ∀ w ∈ wsX00, w ∈ wsX0_draw := by decide +kernel
  have w_tickets : Cond.fieldLink RX0 9 "TicketCoincidences" "tickets" "[I" ∈ wsX0_draw := by decide +kernel
  refine lv_aload_n C0.1 C0.2.1 dX0_draw_0 rfl (lv_at hl 0 rfl) ?_
  refine lv_iload_n C0.1 C0.2.1 dX0_draw_1 rfl (lv_at hl 1 rfl) ?_
  refine tc_callVx (q0 := 0) C0 hG hS rfl rfl (kX0_requireStranger hlf hk  (x) ) (cwV 1 C0.2.2.2.2 gX0_draw_X0_requireStranger rfl rfl rfl (by decide +kernel) ⟨(Nat.le_of_ble_eq_true rfl), (Nat.le_of_ble_eq_true rfl)⟩) rfl hl rfl (Nat.le_of_ble_eq_true rfl) dX0_draw_2 ⟨(Nat.le_of_ble_eq_true rfl), (Nat.le_of_ble_eq_true rfl)⟩ (fun i E q9 ce H locs hi hcd hG hS hce hcv hcl => by exact tc_out ht hlk hG hS hce hcv hcl (i := i) hi (by obtain ⟨hz, rfl⟩ := cdS_1 hcd; exact cd_out (i := 0) (cdK_1 hz)) (Nat.le_of_ble_eq_true rfl) (Nat.le_of_ble_eq_true rfl)) (fun c_2 H locs hG hS => ?_)
  refine W.eq (g2 := F0 m 5 ls []) rfl ?_
  refine lv_iload_n C0.1 C0.2.1 dX0_draw_5 rfl (lv_at hl 2 rfl) ?_
  refine tc_callS C0 hG hS (kX0_isTicket hlf  (y) ) (va_cwS 1 C0.2.2.2.2 gX0_draw_X0_isTicket rfl rfl rfl (by decide +kernel) ⟨(Nat.le_of_ble_eq_true rfl), (Nat.le_of_ble_eq_true rfl)⟩) rfl hl rfl (Nat.le_of_ble_eq_true rfl) dX0_draw_6 ⟨(Nat.le_of_ble_eq_true rfl), (Nat.le_of_ble_eq_true rfl)⟩ (fun H locs hG hS => ?_)
  refine tb_if_ne (tgt := 22) C0.1 C0.2.1 dX0_draw_9 (by decide) (fun c_9 => ?_) (fun c_9 => ?_)
  · have hcd0 := cdK_0 (cdS_0 c_2) c_9
    obtain ⟨jy, hjy, rfl⟩ := tcIn_of (by decide) c_9
    try simp only [ix_nI (show jy < 2 ^ 31 by omega)]
    obtain ⟨jx, hjx, rfl⟩ := tcIn_of (by omega) (cdS_0 c_2)
    try simp only [ix_nI (show jx < 2 ^ 31 by omega)]
    refine lv_aload_n C0.1 C0.2.1 dX0_draw_22 rfl (lv_at hl 0 rfl) ?_
    refine lv_bipush (v := nI 12) C0.1 C0.2.1 dX0_draw_23 (by decide) ?_
    refine tc_callVx (q0 := 0) C0 hG hS rfl rfl (kX0_pay hlf hk  (12) (by omega)) (cwV 1 C0.2.2.2.2 gX0_draw_X0_pay rfl rfl rfl (by decide +kernel) ⟨(Nat.le_of_ble_eq_true rfl), (Nat.le_of_ble_eq_true rfl)⟩) rfl hl rfl (Nat.le_of_ble_eq_true rfl) dX0_draw_25 ⟨(Nat.le_of_ble_eq_true rfl), (Nat.le_of_ble_eq_true rfl)⟩ (fun i E q9 ce H locs hi hcd hG hS hce hcv hcl => by exact tc_out ht hlk hG hS hce hcv hcl (i := i) hi ((cd_in hcd0).trans hcd) (Nat.le_of_ble_eq_true rfl) (Nat.le_of_ble_eq_true rfl)) (fun c_25 H locs hG hS => ?_)
    refine W.eq (g2 := F0 m 28 ls []) rfl ?_
    have hG : tcG D cI cJ N0 (wT h r1 r2 r3 r4 cI tk co cn wk n ho (st - 12) ct (sp + nI 12) Z) s H := hG
    refine lv_aload_n C0.1 C0.2.1 dX0_draw_28 rfl (lv_at hl 0 rfl) ?_
    refine tgX0_tickets C0 hF hG w_tickets dX0_draw_29 ?_
    refine lv_iload_n C0.1 C0.2.1 dX0_draw_32 rfl (lv_at hl 1 rfl) ?_
    refine tc_ald (q0 := 1) C0 hG rfl (by omega) dX0_draw_33 ?_
    have b_33 := hk1 (jx)
    refine lv_istore_n (lv' := [(3, .int (nI (tk (jx)))), (0, .ref h), (1, .int (nI (jx))), (2, .int (nI (jy)))]) C0.1 C0.2.1 dX0_draw_34 rfl hl (by decide) rfl (fun ls hl => ?_)
    refine lv_aload_n C0.1 C0.2.1 dX0_draw_35 rfl (lv_at hl 1 rfl) ?_
    refine tgX0_tickets C0 hF hG w_tickets dX0_draw_36 ?_
    refine lv_iload_n C0.1 C0.2.1 dX0_draw_39 rfl (lv_at hl 2 rfl) ?_
    refine lv_iload_n C0.1 C0.2.1 dX0_draw_40 rfl (lv_at hl 3 rfl) ?_
    refine tc_ast (q0 := 1) C0 hG0 hG hS rfl (by omega) dX0_draw_41 (fun H locs hG hS => ?_)
    have hG : tcG D cI cJ N0 (wT h r1 r2 r3 r4 cI (va_up tk (jx) (jy)) co cn wk n ho (st - 12) ct (sp + nI 12) Z) s H := hG
    refine lv_iload_n C0.1 C0.2.1 dX0_draw_42 rfl (lv_at hl 0 rfl) ?_
    exact tc_iret C0 hr hlk hG hS ((cd_in hcd0).trans c_25) rfl (Nat.le_of_ble_eq_true rfl) (Nat.le_of_ble_eq_true rfl) dX0_draw_43
  · exact tc_thr (is := 94) (text := "a ticket is 0 to 99") (cls := "java/lang/IllegalArgumentException") (ic := 55) (i := 1) C0 hlf ht hlk hG0 hG hS hl (by decide +kernel) (by decide +kernel) (by decide +kernel) (by decide +kernel) (by decide +kernel) (by decide +kernel) dX0_draw_12 dX0_draw_15 dX0_draw_16 dX0_draw_18 dX0_draw_21 (Nat.le_of_ble_eq_true rfl) (Nat.le_of_ble_eq_true rfl) ⟨(Nat.le_of_ble_eq_true rfl), (Nat.le_of_ble_eq_true rfl)⟩ rfl (cd_out (i := 1) (cdK_2 (cdS_0 c_2) c_9)) (Nat.le_of_ble_eq_true rfl) (Nat.le_of_ble_eq_true rfl)
set_option maxHeartbeats 4000000 in
set_option maxRecDepth 100000 in
theorem kX0_swapUmbrellas {l : Launch} (hlf : l.stackTraces = false) {D : va_G} {cI cJ : ClassId} {N0 : Nat} {h r1 r2 r3 r4 : Nat} {tk co cn wk : Nat → Nat} {n st : Nat} {ho ct sp : Int32} {Z : va_W} (hk : tOk tk co cn wk n st) (x : Int32) (y : Int32)  : tcM l yX0_swapUmbrellas wsX0_swapUmbrellas { frames := 8, cells := 4, slots := 24, locals := 133 } tcEs (cdSu x y cn n st) [.ref h, .int (x), .int (y)] D cI cJ N0 (wT h r1 r2 r3 r4 cI tk co cn wk n ho st ct sp Z) (some (.int (nI (tw tk (swp co (ix x) (ix y)) cn wk 0 n) - nI (tw tk co cn wk 0 n)))) (wT h r1 r2 r3 r4 cI tk (swp co (ix x) (ix y)) cn wk n ho (st - 3) ct (sp + nI 3) Z) 4 24 := by
  refine tcM.of (cc := cX0_swapUmbrellas) (maxL := 4) (ret := (some .int)) (by decide) rfl (Nat.le_of_ble_eq_true rfl) ?_
  intro p e s m args below meth c C0 hr hlk ht hmn hG ls hl
  have hl : lv_has ls 4 [(0, .ref h), (1, .int (x)), (2, .int (y))] := hl
  obtain ⟨hk1, hk2, hk3, hk4, hn12, hst⟩ := id hk
  have hG0 := hG
  have hS : va_S (tcA N0) s.heap s.heap [] := va_S.rf
  have hF : ∀ w ∈ wsX00, w ∈ wsX0_swapUmbrellas := by decide +kernel
  have w_colours : Cond.fieldLink RX0 13 "TicketCoincidences" "colours" "[I" ∈ wsX0_swapUmbrellas := by decide +kernel
  have w_corners : Cond.fieldLink RX0 16 "TicketCoincidences" "corners" "[I" ∈ wsX0_swapUmbrellas := by decide +kernel
  refine lv_aload_n C0.1 C0.2.1 dX0_swapUmbrellas_0 rfl (lv_at hl 0 rfl) ?_
  refine lv_iload_n C0.1 C0.2.1 dX0_swapUmbrellas_1 rfl (lv_at hl 1 rfl) ?_
  refine lv_iload_n C0.1 C0.2.1 dX0_swapUmbrellas_2 rfl (lv_at hl 2 rfl) ?_
  refine tc_callVx (q0 := 0) C0 hG hS rfl rfl (kX0_requirePair hlf hk  (x) (y) ) (cwV 2 C0.2.2.2.2 gX0_swapUmbrellas_X0_requirePair rfl rfl rfl (by decide +kernel) ⟨(Nat.le_of_ble_eq_true rfl), (Nat.le_of_ble_eq_true rfl)⟩) rfl hl rfl (Nat.le_of_ble_eq_true rfl) dX0_swapUmbrellas_3 ⟨(Nat.le_of_ble_eq_true rfl), (Nat.le_of_ble_eq_true rfl)⟩ (fun i E q9 ce H locs hi hcd hG hS hce hcv hcl => by exact tc_out ht hlk hG hS hce hcv hcl (i := i) hi (cd_out hcd) (Nat.le_of_ble_eq_true rfl) (Nat.le_of_ble_eq_true rfl)) (fun c_3 H locs hG hS => ?_)
  refine W.eq (g2 := F0 m 6 ls []) rfl ?_
  obtain ⟨pa, pb, pn⟩ := cdP_ok c_3
  obtain ⟨jx, hjx, rfl⟩ := tcIn_of (by omega) pa
  try simp only [ix_nI (show jx < 2 ^ 31 by omega)]
  obtain ⟨jy, hjy, rfl⟩ := tcIn_of (by omega) pb
  try simp only [ix_nI (show jy < 2 ^ 31 by omega)]
  refine lv_aload_n C0.1 C0.2.1 dX0_swapUmbrellas_6 rfl (lv_at hl 0 rfl) ?_
  refine tgX0_corners C0 hF hG w_corners dX0_swapUmbrellas_7 ?_
  refine lv_iload_n C0.1 C0.2.1 dX0_swapUmbrellas_10 rfl (lv_at hl 1 rfl) ?_
  refine tc_ald (q0 := 3) C0 hG rfl (by omega) dX0_swapUmbrellas_11 ?_
  have b_11 := hk3 (jx)
  refine lv_aload_n C0.1 C0.2.1 dX0_swapUmbrellas_12 rfl (lv_at hl 0 rfl) ?_
  refine tgX0_corners C0 hF hG w_corners dX0_swapUmbrellas_13 ?_
  refine lv_iload_n C0.1 C0.2.1 dX0_swapUmbrellas_16 rfl (lv_at hl 2 rfl) ?_
  refine tc_ald (q0 := 3) C0 hG rfl (by omega) dX0_swapUmbrellas_17 ?_
  have b_17 := hk3 (jy)
  refine tn_icmp_eq (tgt := 31) C0.1 C0.2.1 dX0_swapUmbrellas_18 (by decide) (by omega) (by omega) (fun c_18 => ?_) (fun c_18 => ?_)
  · refine lv_aload_n C0.1 C0.2.1 dX0_swapUmbrellas_31 rfl (lv_at hl 0 rfl) ?_
    refine lv_iconst (v := nI 3) C0.1 C0.2.1 dX0_swapUmbrellas_32 (by decide) ?_
    refine tc_callVx (q0 := 0) C0 hG hS rfl rfl (kX0_pay hlf hk  (3) (by omega)) (cwV 1 C0.2.2.2.2 gX0_swapUmbrellas_X0_pay rfl rfl rfl (by decide +kernel) ⟨(Nat.le_of_ble_eq_true rfl), (Nat.le_of_ble_eq_true rfl)⟩) rfl hl rfl (Nat.le_of_ble_eq_true rfl) dX0_swapUmbrellas_33 ⟨(Nat.le_of_ble_eq_true rfl), (Nat.le_of_ble_eq_true rfl)⟩ (fun i E q9 ce H locs hi hcd hG hS hce hcv hcl => by exact tc_out ht hlk hG hS hce hcv hcl (i := i) hi (by obtain ⟨hz, rfl⟩ := cdC_s hcd; exact cdSu_3 c_3 (by omega) (by omega) (fun q => by omega)) (Nat.le_of_ble_eq_true rfl) (Nat.le_of_ble_eq_true rfl)) (fun c_33 H locs hG hS => ?_)
    refine W.eq (g2 := F0 m 36 ls []) rfl ?_
    have hG : tcG D cI cJ N0 (wT h r1 r2 r3 r4 cI tk co cn wk n ho (st - 3) ct (sp + nI 3) Z) s H := hG
    have hk_p := hk.st (show st - 3 ≤ 100 by omega)
    refine lv_aload_n C0.1 C0.2.1 dX0_swapUmbrellas_36 rfl (lv_at hl 0 rfl) ?_
    refine lv_iconst (v := nI 0) C0.1 C0.2.1 dX0_swapUmbrellas_37 (by decide) ?_
    refine tc_callV (q0 := 0) C0 hG hS rfl rfl (kX0_townBehind hlf hk_p  (0) (by omega)) (cwV 1 C0.2.2.2.2 gX0_swapUmbrellas_X0_townBehind rfl rfl rfl (by decide +kernel) ⟨(Nat.le_of_ble_eq_true rfl), (Nat.le_of_ble_eq_true rfl)⟩) rfl hl rfl (Nat.le_of_ble_eq_true rfl) dX0_swapUmbrellas_38 ⟨(Nat.le_of_ble_eq_true rfl), (Nat.le_of_ble_eq_true rfl)⟩ (fun H locs hG hS => ?_)
    have b_38 := tw_le tk co cn wk 0 hk_p.2.2.2.2.1
    refine lv_istore_n (lv' := [(3, .int (nI (tw tk co cn wk 0 n))), (0, .ref h), (1, .int (nI (jx))), (2, .int (nI (jy)))]) C0.1 C0.2.1 dX0_swapUmbrellas_41 rfl hl (by decide) rfl (fun ls hl => ?_)
    refine lv_aload_n C0.1 C0.2.1 dX0_swapUmbrellas_42 rfl (lv_at hl 1 rfl) ?_
    refine tgX0_colours C0 hF hG w_colours dX0_swapUmbrellas_43 ?_
    refine lv_iload_n C0.1 C0.2.1 dX0_swapUmbrellas_46 rfl (lv_at hl 2 rfl) ?_
    refine lv_iload_n C0.1 C0.2.1 dX0_swapUmbrellas_47 rfl (lv_at hl 3 rfl) ?_
    refine tc_callSv C0 hG hS (kX0_exchange hlf (q0 := 2) (f := co)  (r2) (jx) (jy) (by omega) (by omega) rfl) (va_cwS 3 C0.2.2.2.2 gX0_swapUmbrellas_X0_exchange rfl rfl rfl (by decide +kernel) ⟨(Nat.le_of_ble_eq_true rfl), (Nat.le_of_ble_eq_true rfl)⟩) rfl hl rfl (Nat.le_of_ble_eq_true rfl) dX0_swapUmbrellas_48 ⟨(Nat.le_of_ble_eq_true rfl), (Nat.le_of_ble_eq_true rfl)⟩ (fun H locs hG hS => ?_)
    have hG : tcG D cI cJ N0 (wT h r1 r2 r3 r4 cI tk (swp co jx jy) cn wk n ho (st - 3) ct (sp + nI 3) Z) s H := hG
    have hk_q := hk_p.co (swp_lt hk2 jx jy)
    refine lv_aload_n C0.1 C0.2.1 dX0_swapUmbrellas_51 rfl (lv_at hl 1 rfl) ?_
    refine lv_iconst (v := nI 0) C0.1 C0.2.1 dX0_swapUmbrellas_52 (by decide) ?_
    refine tc_callV (q0 := 0) C0 hG hS rfl rfl (kX0_townBehind hlf hk_q  (0) (by omega)) (cwV 1 C0.2.2.2.2 gX0_swapUmbrellas_X0_townBehind rfl rfl rfl (by decide +kernel) ⟨(Nat.le_of_ble_eq_true rfl), (Nat.le_of_ble_eq_true rfl)⟩) rfl hl rfl (Nat.le_of_ble_eq_true rfl) dX0_swapUmbrellas_53 ⟨(Nat.le_of_ble_eq_true rfl), (Nat.le_of_ble_eq_true rfl)⟩ (fun H locs hG hS => ?_)
    have b_53 := tw_le tk (swp co jx jy) cn wk 0 hk_q.2.2.2.2.1
    refine lv_iload_n C0.1 C0.2.1 dX0_swapUmbrellas_56 rfl (lv_at hl 0 rfl) ?_
    refine lv_isub C0.1 C0.2.1 dX0_swapUmbrellas_57 ?_
    exact tc_iret C0 hr hlk hG hS (cdSu_0 c_3 (by omega) (by omega) c_18 (cdC_0 c_33)) rfl (Nat.le_of_ble_eq_true rfl) (Nat.le_of_ble_eq_true rfl) dX0_swapUmbrellas_58
  · exact tc_thr (is := 84) (text := "they do not stand at one corner") (cls := "java/lang/IllegalStateException") (ic := 62) (i := 2) C0 hlf ht hlk hG0 hG hS hl (by decide +kernel) (by decide +kernel) (by decide +kernel) (by decide +kernel) (by decide +kernel) (by decide +kernel) dX0_swapUmbrellas_21 dX0_swapUmbrellas_24 dX0_swapUmbrellas_25 dX0_swapUmbrellas_27 dX0_swapUmbrellas_30 (Nat.le_of_ble_eq_true rfl) (Nat.le_of_ble_eq_true rfl) ⟨(Nat.le_of_ble_eq_true rfl), (Nat.le_of_ble_eq_true rfl)⟩ rfl (cdSu_3 c_3 (by omega) (by omega) (fun q => c_18 q.1)) (Nat.le_of_ble_eq_true rfl) (Nat.le_of_ble_eq_true rfl)
set_option maxHeartbeats 4000000 in
set_option maxRecDepth 100000 in
theorem kX0_swapTickets {l : Launch} (hlf : l.stackTraces = false) {D : va_G} {cI cJ : ClassId} {N0 : Nat} {h r1 r2 r3 r4 : Nat} {tk co cn wk : Nat → Nat} {n st : Nat} {ho ct sp : Int32} {Z : va_W} (hk : tOk tk co cn wk n st) (x : Int32) (y : Int32)  : tcM l yX0_swapTickets wsX0_swapTickets { frames := 8, cells := 4, slots := 24, locals := 133 } tcEs (cdSt x y n st) [.ref h, .int (x), .int (y)] D cI cJ N0 (wT h r1 r2 r3 r4 cI tk co cn wk n ho st ct sp Z) (some (.int (nI (tw (swp tk (ix x) (ix y)) co cn wk 0 n) - nI (tw tk co cn wk 0 n)))) (wT h r1 r2 r3 r4 cI (swp tk (ix x) (ix y)) co cn wk n ho (st - 8) ct (sp + nI 8) Z) 4 24 := by
  refine tcM.of (cc := cX0_swapTickets) (maxL := 4) (ret := (some .int)) (by decide) rfl (Nat.le_of_ble_eq_true rfl) ?_
  intro p e s m args below meth c C0 hr hlk ht hmn hG ls hl
  have hl : lv_has ls 4 [(0, .ref h), (1, .int (x)), (2, .int (y))] := hl
  obtain ⟨hk1, hk2, hk3, hk4, hn12, hst⟩ := id hk
  have hG0 := hG
  have hS : va_S (tcA N0) s.heap s.heap [] := va_S.rf
  have hF : ∀ w ∈ wsX00, w ∈ wsX0_swapTickets := by decide +kernel
  have w_tickets : Cond.fieldLink RX0 9 "TicketCoincidences" "tickets" "[I" ∈ wsX0_swapTickets := by decide +kernel
  refine lv_aload_n C0.1 C0.2.1 dX0_swapTickets_0 rfl (lv_at hl 0 rfl) ?_
  refine lv_iload_n C0.1 C0.2.1 dX0_swapTickets_1 rfl (lv_at hl 1 rfl) ?_
  refine lv_iload_n C0.1 C0.2.1 dX0_swapTickets_2 rfl (lv_at hl 2 rfl) ?_
  refine tc_callVx (q0 := 0) C0 hG hS rfl rfl (kX0_requirePair hlf hk  (x) (y) ) (cwV 2 C0.2.2.2.2 gX0_swapTickets_X0_requirePair rfl rfl rfl (by decide +kernel) ⟨(Nat.le_of_ble_eq_true rfl), (Nat.le_of_ble_eq_true rfl)⟩) rfl hl rfl (Nat.le_of_ble_eq_true rfl) dX0_swapTickets_3 ⟨(Nat.le_of_ble_eq_true rfl), (Nat.le_of_ble_eq_true rfl)⟩ (fun i E q9 ce H locs hi hcd hG hS hce hcv hcl => by exact tc_out ht hlk hG hS hce hcv hcl (i := i) hi (cd_out hcd) (Nat.le_of_ble_eq_true rfl) (Nat.le_of_ble_eq_true rfl)) (fun c_3 H locs hG hS => ?_)
  refine W.eq (g2 := F0 m 6 ls []) rfl ?_
  obtain ⟨pa, pb, pn⟩ := cdP_ok c_3
  obtain ⟨jx, hjx, rfl⟩ := tcIn_of (by omega) pa
  try simp only [ix_nI (show jx < 2 ^ 31 by omega)]
  obtain ⟨jy, hjy, rfl⟩ := tcIn_of (by omega) pb
  try simp only [ix_nI (show jy < 2 ^ 31 by omega)]
  refine lv_aload_n C0.1 C0.2.1 dX0_swapTickets_6 rfl (lv_at hl 0 rfl) ?_
  refine lv_bipush (v := nI 8) C0.1 C0.2.1 dX0_swapTickets_7 (by decide) ?_
  refine tc_callVx (q0 := 0) C0 hG hS rfl rfl (kX0_pay hlf hk  (8) (by omega)) (cwV 1 C0.2.2.2.2 gX0_swapTickets_X0_pay rfl rfl rfl (by decide +kernel) ⟨(Nat.le_of_ble_eq_true rfl), (Nat.le_of_ble_eq_true rfl)⟩) rfl hl rfl (Nat.le_of_ble_eq_true rfl) dX0_swapTickets_9 ⟨(Nat.le_of_ble_eq_true rfl), (Nat.le_of_ble_eq_true rfl)⟩ (fun i E q9 ce H locs hi hcd hG hS hce hcv hcl => by exact tc_out ht hlk hG hS hce hcv hcl (i := i) hi ((cd_in c_3).trans hcd) (Nat.le_of_ble_eq_true rfl) (Nat.le_of_ble_eq_true rfl)) (fun c_9 H locs hG hS => ?_)
  refine W.eq (g2 := F0 m 12 ls []) rfl ?_
  have hG : tcG D cI cJ N0 (wT h r1 r2 r3 r4 cI tk co cn wk n ho (st - 8) ct (sp + nI 8) Z) s H := hG
  have hk_p := hk.st (show st - 8 ≤ 100 by omega)
  refine lv_aload_n C0.1 C0.2.1 dX0_swapTickets_12 rfl (lv_at hl 0 rfl) ?_
  refine lv_iconst (v := nI 0) C0.1 C0.2.1 dX0_swapTickets_13 (by decide) ?_
  refine tc_callV (q0 := 0) C0 hG hS rfl rfl (kX0_townBehind hlf hk_p  (0) (by omega)) (cwV 1 C0.2.2.2.2 gX0_swapTickets_X0_townBehind rfl rfl rfl (by decide +kernel) ⟨(Nat.le_of_ble_eq_true rfl), (Nat.le_of_ble_eq_true rfl)⟩) rfl hl rfl (Nat.le_of_ble_eq_true rfl) dX0_swapTickets_14 ⟨(Nat.le_of_ble_eq_true rfl), (Nat.le_of_ble_eq_true rfl)⟩ (fun H locs hG hS => ?_)
  have b_14 := tw_le tk co cn wk 0 hk_p.2.2.2.2.1
  refine lv_istore_n (lv' := [(3, .int (nI (tw tk co cn wk 0 n))), (0, .ref h), (1, .int (nI (jx))), (2, .int (nI (jy)))]) C0.1 C0.2.1 dX0_swapTickets_17 rfl hl (by decide) rfl (fun ls hl => ?_)
  refine lv_aload_n C0.1 C0.2.1 dX0_swapTickets_18 rfl (lv_at hl 1 rfl) ?_
  refine tgX0_tickets C0 hF hG w_tickets dX0_swapTickets_19 ?_
  refine lv_iload_n C0.1 C0.2.1 dX0_swapTickets_22 rfl (lv_at hl 2 rfl) ?_
  refine lv_iload_n C0.1 C0.2.1 dX0_swapTickets_23 rfl (lv_at hl 3 rfl) ?_
  refine tc_callSv C0 hG hS (kX0_exchange hlf (q0 := 1) (f := tk)  (r1) (jx) (jy) (by omega) (by omega) rfl) (va_cwS 3 C0.2.2.2.2 gX0_swapTickets_X0_exchange rfl rfl rfl (by decide +kernel) ⟨(Nat.le_of_ble_eq_true rfl), (Nat.le_of_ble_eq_true rfl)⟩) rfl hl rfl (Nat.le_of_ble_eq_true rfl) dX0_swapTickets_24 ⟨(Nat.le_of_ble_eq_true rfl), (Nat.le_of_ble_eq_true rfl)⟩ (fun H locs hG hS => ?_)
  have hG : tcG D cI cJ N0 (wT h r1 r2 r3 r4 cI (swp tk jx jy) co cn wk n ho (st - 8) ct (sp + nI 8) Z) s H := hG
  have hk_q := hk_p.tk (swp_lt hk1 jx jy)
  refine lv_aload_n C0.1 C0.2.1 dX0_swapTickets_27 rfl (lv_at hl 1 rfl) ?_
  refine lv_iconst (v := nI 0) C0.1 C0.2.1 dX0_swapTickets_28 (by decide) ?_
  refine tc_callV (q0 := 0) C0 hG hS rfl rfl (kX0_townBehind hlf hk_q  (0) (by omega)) (cwV 1 C0.2.2.2.2 gX0_swapTickets_X0_townBehind rfl rfl rfl (by decide +kernel) ⟨(Nat.le_of_ble_eq_true rfl), (Nat.le_of_ble_eq_true rfl)⟩) rfl hl rfl (Nat.le_of_ble_eq_true rfl) dX0_swapTickets_29 ⟨(Nat.le_of_ble_eq_true rfl), (Nat.le_of_ble_eq_true rfl)⟩ (fun H locs hG hS => ?_)
  have b_29 := tw_le (swp tk jx jy) co cn wk 0 hk_q.2.2.2.2.1
  refine lv_iload_n C0.1 C0.2.1 dX0_swapTickets_32 rfl (lv_at hl 0 rfl) ?_
  refine lv_isub C0.1 C0.2.1 dX0_swapTickets_33 ?_
  exact tc_iret C0 hr hlk hG hS ((cd_in c_3).trans c_9) rfl (Nat.le_of_ble_eq_true rfl) (Nat.le_of_ble_eq_true rfl) dX0_swapTickets_34
