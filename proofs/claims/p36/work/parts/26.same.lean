/-! in the end all is as by hand -/
set_option maxHeartbeats 4000000 in
set_option maxRecDepth 100000 in
theorem kX1_isSame {l : Launch} (hlf : l.stackTraces = false) {D : va_G} {cI cJ : ClassId} {N0 : Nat} {h r1 r2 r3 r4 : Nat} {tk co cn wk : Nat → Nat} {n st : Nat} {ho ct sp : Int32} {g ra : Nat} {rw : Nat → Nat} {f : Nat → Nat → Nat} {Z : va_W} (hk : tOk tk co cn wk n st) (hy : tSy tk co cn wk n f)   : tcM l yX1_isSame wsX1_isSame { frames := 5, cells := 0, slots := 0, locals := 112 } [] 0 [.ref g, .ref h] D cI cJ N0 (wB h r1 r2 r3 r4 cI tk co cn wk n ho st ct sp g ra rw cJ ho st ct sp n f Z) (some (.int (nI (b2n (true))))) (wB h r1 r2 r3 r4 cI tk co cn wk n ho st ct sp g ra rw cJ ho st ct sp n f Z) 0 0 := by
  refine tcg_of (cc := cX1_isSame) (maxL := 9) (ret := (some .boolean)) (by decide) rfl (Nat.le_of_ble_eq_true rfl) ?_
  intro p e s m args below meth c C0 hr hlk hmn hG ls hl
  show W p l e _ s m args below meth c s.heap [] 0 0 (tcE below [] 0 D N0 _ _ _ args s _ _) _
  have hl : lv_has ls 9 [(0, .ref g), (1, .ref h)] := hl
  have hG0 := hG
  have hS : va_S (tcA N0) s.heap s.heap [] := va_S.rf
  have hF : ∀ w ∈ wsX10, w ∈ wsX1_isSame := by decide +kernel
  have w_all : Cond.fieldLink RX1 15 "TicketCoincidencesLaw$Sim" "all" "[[I" ∈ wsX1_isSame := by decide +kernel
  have w_counted : Cond.fieldLink RX1 23 "TicketCoincidencesLaw$Sim" "counted" "I" ∈ wsX1_isSame := by decide +kernel
  have w_hour : Cond.fieldLink RX1 20 "TicketCoincidencesLaw$Sim" "hour" "I" ∈ wsX1_isSame := by decide +kernel
  have w_spent : Cond.fieldLink RX1 26 "TicketCoincidencesLaw$Sim" "spent" "I" ∈ wsX1_isSame := by decide +kernel
  have w_store : Cond.fieldLink RX1 7 "TicketCoincidencesLaw$Sim" "store" "I" ∈ wsX1_isSame := by decide +kernel
  obtain ⟨hk1, hk2, hk3, hk4, hn12, hst⟩ := id hk
  refine lv_aload_n C0.1 C0.2.1 dX1_isSame_0 rfl (lv_at hl 0 rfl) ?_
  refine tgX1_all C0 hF hG w_all dX1_isSame_1 ?_
  refine ts_alen C0 hG dX1_isSame_4 ?_
  refine lv_istore_n (lv' := [(2, .int (nI (n))), (0, .ref g), (1, .ref h)]) C0.1 C0.2.1 dX1_isSame_5 rfl hl (by decide) rfl (fun ls hl => ?_)
  refine lv_aload_n C0.1 C0.2.1 dX1_isSame_6 rfl (lv_at hl 2 rfl) ?_
  refine tc_callV (q0 := 0) C0 hG hS rfl rfl (kX0_strangers hlf hk   ) (cwV 0 C0.2.2.2.2 gX1_isSame_X0_strangers rfl rfl rfl (by decide +kernel) ⟨(Nat.le_of_ble_eq_true rfl), (Nat.le_of_ble_eq_true rfl)⟩) rfl hl rfl (Nat.le_of_ble_eq_true rfl) dX1_isSame_7 ⟨(Nat.le_of_ble_eq_true rfl), (Nat.le_of_ble_eq_true rfl)⟩ (fun H locs hG hS => ?_)
  refine lv_iload_n C0.1 C0.2.1 dX1_isSame_10 rfl (lv_at hl 0 rfl) ?_
  refine tn_icmp_ne (tgt := 69) C0.1 C0.2.1 dX1_isSame_11 (by decide) (by omega) (by omega) (fun c_11 => ?_) (fun c_11 => ?_)
  · exact absurd rfl c_11
  · refine lv_aload_n C0.1 C0.2.1 dX1_isSame_14 rfl (lv_at hl 2 rfl) ?_
    refine tc_callV (q0 := 0) C0 hG hS rfl rfl (kX0_hour hlf hk   ) (cwV 0 C0.2.2.2.2 gX1_isSame_X0_hour rfl rfl rfl (by decide +kernel) ⟨(Nat.le_of_ble_eq_true rfl), (Nat.le_of_ble_eq_true rfl)⟩) rfl hl rfl (Nat.le_of_ble_eq_true rfl) dX1_isSame_15 ⟨(Nat.le_of_ble_eq_true rfl), (Nat.le_of_ble_eq_true rfl)⟩ (fun H locs hG hS => ?_)
    refine lv_aload_n C0.1 C0.2.1 dX1_isSame_18 rfl (lv_at hl 1 rfl) ?_
    refine tgX1_hour C0 hF hG w_hour dX1_isSame_19 ?_
    refine lv_icmp_ne (tgt := 69) C0.1 C0.2.1 dX1_isSame_22 (by decide) (fun c_22 => ?_) (fun c_22 => ?_)
    · exact absurd rfl c_22
    · refine lv_aload_n C0.1 C0.2.1 dX1_isSame_25 rfl (lv_at hl 2 rfl) ?_
      refine tc_callV (q0 := 0) C0 hG hS rfl rfl (kX0_store hlf hk   ) (cwV 0 C0.2.2.2.2 gX1_isSame_X0_store rfl rfl rfl (by decide +kernel) ⟨(Nat.le_of_ble_eq_true rfl), (Nat.le_of_ble_eq_true rfl)⟩) rfl hl rfl (Nat.le_of_ble_eq_true rfl) dX1_isSame_26 ⟨(Nat.le_of_ble_eq_true rfl), (Nat.le_of_ble_eq_true rfl)⟩ (fun H locs hG hS => ?_)
      refine lv_aload_n C0.1 C0.2.1 dX1_isSame_29 rfl (lv_at hl 1 rfl) ?_
      refine tgX1_store C0 hF hG w_store dX1_isSame_30 ?_
      refine tn_icmp_ne (tgt := 69) C0.1 C0.2.1 dX1_isSame_33 (by decide) (by omega) (by omega) (fun c_33 => ?_) (fun c_33 => ?_)
      · exact absurd rfl c_33
      · refine lv_aload_n C0.1 C0.2.1 dX1_isSame_36 rfl (lv_at hl 2 rfl) ?_
        refine tc_callV (q0 := 0) C0 hG hS rfl rfl (kX0_counted hlf hk   ) (cwV 0 C0.2.2.2.2 gX1_isSame_X0_counted rfl rfl rfl (by decide +kernel) ⟨(Nat.le_of_ble_eq_true rfl), (Nat.le_of_ble_eq_true rfl)⟩) rfl hl rfl (Nat.le_of_ble_eq_true rfl) dX1_isSame_37 ⟨(Nat.le_of_ble_eq_true rfl), (Nat.le_of_ble_eq_true rfl)⟩ (fun H locs hG hS => ?_)
        refine lv_aload_n C0.1 C0.2.1 dX1_isSame_40 rfl (lv_at hl 1 rfl) ?_
        refine tgX1_counted C0 hF hG w_counted dX1_isSame_41 ?_
        refine lv_icmp_ne (tgt := 69) C0.1 C0.2.1 dX1_isSame_44 (by decide) (fun c_44 => ?_) (fun c_44 => ?_)
        · exact absurd rfl c_44
        · refine lv_aload_n C0.1 C0.2.1 dX1_isSame_47 rfl (lv_at hl 2 rfl) ?_
          refine tc_callV (q0 := 0) C0 hG hS rfl rfl (kX0_spent hlf hk   ) (cwV 0 C0.2.2.2.2 gX1_isSame_X0_spent rfl rfl rfl (by decide +kernel) ⟨(Nat.le_of_ble_eq_true rfl), (Nat.le_of_ble_eq_true rfl)⟩) rfl hl rfl (Nat.le_of_ble_eq_true rfl) dX1_isSame_48 ⟨(Nat.le_of_ble_eq_true rfl), (Nat.le_of_ble_eq_true rfl)⟩ (fun H locs hG hS => ?_)
          refine lv_aload_n C0.1 C0.2.1 dX1_isSame_51 rfl (lv_at hl 1 rfl) ?_
          refine tgX1_spent C0 hF hG w_spent dX1_isSame_52 ?_
          refine lv_icmp_ne (tgt := 69) C0.1 C0.2.1 dX1_isSame_55 (by decide) (fun c_55 => ?_) (fun c_55 => ?_)
          · exact absurd rfl c_55
          · refine lv_aload_n C0.1 C0.2.1 dX1_isSame_58 rfl (lv_at hl 2 rfl) ?_
            refine tc_callV (q0 := 0) C0 hG hS rfl rfl (kX0_coincidences hlf hk   ) (cwV 0 C0.2.2.2.2 gX1_isSame_X0_coincidences rfl rfl rfl (by decide +kernel) ⟨(Nat.le_of_ble_eq_true rfl), (Nat.le_of_ble_eq_true rfl)⟩) rfl hl rfl (Nat.le_of_ble_eq_true rfl) dX1_isSame_59 ⟨(Nat.le_of_ble_eq_true rfl), (Nat.le_of_ble_eq_true rfl)⟩ (fun H locs hG hS => ?_)
            have b_59 := tw_le tk co cn wk 0 hk.2.2.2.2.1
            refine lv_aload_n C0.1 C0.2.1 dX1_isSame_62 rfl (lv_at hl 1 rfl) ?_
            refine tc_callV (q0 := 5) C0 hG hS rfl rfl (kX1_town hlf hk hy   ) (cwV 0 C0.2.2.2.2 gX1_isSame_X1_town rfl rfl rfl (by decide +kernel) ⟨(Nat.le_of_ble_eq_true rfl), (Nat.le_of_ble_eq_true rfl)⟩) rfl hl rfl (Nat.le_of_ble_eq_true rfl) dX1_isSame_63 ⟨(Nat.le_of_ble_eq_true rfl), (Nat.le_of_ble_eq_true rfl)⟩ (fun H locs hG hS => ?_)
            have b_63 := tw_le tk co cn wk 0 hk.2.2.2.2.1
            refine tn_icmp_eq (tgt := 71) C0.1 C0.2.1 dX1_isSame_66 (by decide) (by omega) (by omega) (fun c_66 => ?_) (fun c_66 => ?_)
            · refine lv_iconst (v := nI 0) C0.1 C0.2.1 dX1_isSame_71 (by decide) ?_
              refine lv_istore_n (lv' := [(3, .int (nI (0))), (2, .int (nI (n))), (0, .ref g), (1, .ref h)]) C0.1 C0.2.1 dX1_isSame_72 rfl hl (by decide) rfl (fun ls hl => ?_)
              refine tc_nameQ (fun zQg zhQ => ?_)
              have cut_73 : ∀ (kf : Nat) (c9 : Nat) (hc9 : c9 ≤ 6) (hm : 6 + 1 ≤ c9 + kf), ∀ (ls : Array Slot), lv_has ls 9 [(3, .int (nI (c9))), (2, .int (nI (n))), (0, .ref g), (1, .ref h)] → ∀ (H : Heap) (locs : List Loc), tcG D cI cJ N0 (wB h r1 r2 r3 r4 cI tk co cn wk n ho st ct sp g ra rw cJ ho st ct sp n f Z) s H → va_S (tcA N0) s.heap H locs → W p l e ({ frames := 5, cells := 0, slots := 0, locals := 112 } : Room) s m args below meth c H locs (0) (0) zQg (F0 m 73 ls []) := by
                intro kf
                induction kf with
                | zero => intro c9 hc9 hm; exact absurd hm (by omega)
                | succ kf ih_73 =>
                  intro c9 hc9 hm ls hl H locs hG hS
                  refine lv_iload_n C0.1 C0.2.1 dX1_isSame_73 rfl (lv_at hl 0 rfl) ?_
                  refine lv_bipush (v := nI 6) C0.1 C0.2.1 dX1_isSame_74 (by decide) ?_
                  refine tn_icmp_ge (tgt := 113) C0.1 C0.2.1 dX1_isSame_76 (by decide) (by omega) (by omega) (fun c_76 => ?_) (fun c_76 => ?_)
                  · refine lv_iconst (v := iM 0) C0.1 C0.2.1 dX1_isSame_113 (by decide) ?_
                    refine lv_istore_n (lv' := [(3, .int (iM (0))), (2, .int (nI (n))), (0, .ref g), (1, .ref h)]) C0.1 C0.2.1 dX1_isSame_114 rfl hl (by decide) rfl (fun ls hl => ?_)
                    refine lv_iconst (v := iM 0) C0.1 C0.2.1 dX1_isSame_115 (by decide) ?_
                    refine lv_istore (lv' := [(4, .int (iM (0))), (3, .int (iM (0))), (2, .int (nI (n))), (0, .ref g), (1, .ref h)]) C0.1 C0.2.1 dX1_isSame_116 hl (by decide) rfl (fun ls hl => ?_)
                    refine lv_iconst (v := nI 0) C0.1 C0.2.1 dX1_isSame_118 (by decide) ?_
                    refine lv_istore (lv' := [(5, .int (nI (0))), (4, .int (iM (0))), (3, .int (iM (0))), (2, .int (nI (n))), (0, .ref g), (1, .ref h)]) C0.1 C0.2.1 dX1_isSame_119 hl (by decide) rfl (fun ls hl => ?_)
                    refine lv_iload_n C0.1 C0.2.1 dX1_isSame_121 rfl (lv_at hl 3 rfl) ?_
                    refine lv_iconst (v := nI 1) C0.1 C0.2.1 dX1_isSame_122 (by decide) ?_
                    refine lv_isub C0.1 C0.2.1 dX1_isSame_123 ?_
                    refine tc_top (y := iM (n)) rfl ?_
                    refine lv_istore (lv' := [(6, .int (iM (n))), (5, .int (nI (0))), (4, .int (iM (0))), (3, .int (iM (0))), (2, .int (nI (n))), (0, .ref g), (1, .ref h)]) C0.1 C0.2.1 dX1_isSame_124 hl (by decide) rfl (fun ls hl => ?_)
                    have cut_126 : ∀ (kf : Nat) (A : Nat) (t1 : Nat) (t2 : Nat) (q : Nat) (hA : A ≤ n) (ht1 : t1 ≤ 1200) (ht2 : t2 ≤ 14) (hq : q + sm (fun k => lkn tk co cn k n) A = 2 * tw tk co cn wk 0 n) (hlp : lkP (pts tk co) n t1 t2 (fun x _ => A ≤ x)) (hm : n + 1 ≤ (n - A) + kf), ∀ (ls : Array Slot), lv_has ls 9 [(6, .int (iM (A))), (5, .int (nI (q))), (4, .int (iM (t2))), (3, .int (iM (t1))), (2, .int (nI (n))), (0, .ref g), (1, .ref h)] → ∀ (H : Heap) (locs : List Loc), tcG D cI cJ N0 (wB h r1 r2 r3 r4 cI tk co cn wk n ho st ct sp g ra rw cJ ho st ct sp n f Z) s H → va_S (tcA N0) s.heap H locs → W p l e ({ frames := 5, cells := 0, slots := 0, locals := 112 } : Room) s m args below meth c H locs (0) (0) zQg (F0 m 126 ls []) := by
                      intro kf
                      induction kf with
                      | zero => intro A t1 t2 q hA ht1 ht2 hq hlp hm; exact absurd hm (by omega)
                      | succ kf ih_126 =>
                        intro A t1 t2 q hA ht1 ht2 hq hlp hm ls hl H locs hG hS
                        have htw := tw_le tk co cn wk 0 hn12
                        refine lv_iload C0.1 C0.2.1 dX1_isSame_126 (lv_at hl 0 rfl) ?_
                        refine tmz_if_lt (tgt := 420) C0.1 C0.2.1 dX1_isSame_128 (by decide) (by omega) (fun c_128 => ?_) (fun c_128 => ?_)
                        · have hlu := (luckiest_P tk co hn12).1
                          have hz0 : q = 2 * tw tk co cn wk 0 n := by rw [c_128] at hq; exact hq
                          refine lv_aload_n C0.1 C0.2.1 dX1_isSame_420 rfl (lv_at hl 6 rfl) ?_
                          refine tc_callV (q0 := 0) C0 hG hS rfl rfl (kX0_luckiestPair hlf hk   ) (cwV 0 C0.2.2.2.2 gX1_isSame_X0_luckiestPair rfl rfl rfl (by decide +kernel) ⟨(Nat.le_of_ble_eq_true rfl), (Nat.le_of_ble_eq_true rfl)⟩) rfl hl rfl (Nat.le_of_ble_eq_true rfl) dX1_isSame_421 ⟨(Nat.le_of_ble_eq_true rfl), (Nat.le_of_ble_eq_true rfl)⟩ (fun H locs hG hS => ?_)
                          refine lv_iload_n C0.1 C0.2.1 dX1_isSame_424 rfl (lv_at hl 3 rfl) ?_
                          refine tm_icmp_ne (tgt := 454) C0.1 C0.2.1 dX1_isSame_425 (by decide) (by omega) (by omega) (fun c_425 => ?_) (fun c_425 => ?_)
                          · exact absurd (lkP.uniq (luckiest_P tk co hn12) (hlp.imp (fun x y h1 h2 => by omega))) c_425
                          · refine lv_aload_n C0.1 C0.2.1 dX1_isSame_428 rfl (lv_at hl 6 rfl) ?_
                            refine tc_callV (q0 := 0) C0 hG hS rfl rfl (kX0_meanLuck hlf hk   ) (cwV 0 C0.2.2.2.2 gX1_isSame_X0_meanLuck rfl rfl rfl (by decide +kernel) ⟨(Nat.le_of_ble_eq_true rfl), (Nat.le_of_ble_eq_true rfl)⟩) rfl hl rfl (Nat.le_of_ble_eq_true rfl) dX1_isSame_429 ⟨(Nat.le_of_ble_eq_true rfl), (Nat.le_of_ble_eq_true rfl)⟩ (fun H locs hG hS => ?_)
                            refine lv_iload_n C0.1 C0.2.1 dX1_isSame_432 rfl (lv_at hl 4 rfl) ?_
                            refine tn_if_ne (tgt := 440) C0.1 C0.2.1 dX1_isSame_433 (by decide) (by omega) (fun c_433 => ?_) (fun c_433 => ?_)
                            · refine lv_iload C0.1 C0.2.1 dX1_isSame_440 (lv_at hl 1 rfl) ?_
                              refine lv_i2d C0.1 C0.2.1 dX1_isSame_442 ?_
                              refine lv_iload_n C0.1 C0.2.1 dX1_isSame_443 rfl (lv_at hl 4 rfl) ?_
                              refine lv_i2d C0.1 C0.2.1 dX1_isSame_444 ?_
                              refine lv_ddiv C0.1 C0.2.1 dX1_isSame_445 (by rw [hz0]; exact (ml_ok (by omega) hn12 (tw_tri tk co cn wk 0 n)).1) ?_
                              refine lv_dcmp C0.1 C0.2.1 dX1_isSame_446 ?_
                              refine tc_top (y := nI 0) (by have e9 := mlk_self (tk := tk) (co := co) (cn := cn) (wk := wk) hn12; first | (rw [hz0, show FP.ddiv (FP.i2d (nI (2 * tw tk co cn wk 0 n))) (FP.i2d (nI n)) = mlk tk co cn wk n from (if_neg (by omega)).symm, e9]; rfl) | (rw [show FP.dconst0 = mlk tk co cn wk n from (show FP.dconst0 = (0 : UInt64) from rfl).trans (if_pos c_433).symm, e9]; rfl)) ?_
                              refine tn_if_ne (tgt := 454) C0.1 C0.2.1 dX1_isSame_447 (by decide) (by omega) (fun c_447 => ?_) (fun c_447 => ?_)
                              · exact absurd c_447 (by omega)
                              · refine lv_iconst (v := nI 1) C0.1 C0.2.1 dX1_isSame_450 (by decide) ?_
                                refine lv_goto (tgt := 455) C0.1 C0.2.1 dX1_isSame_451 (by decide) ?_
                                subst zhQ
                                exact tc_zret C0 hr hlk hG hS rfl rfl (Nat.le_of_ble_eq_true rfl) (Nat.le_of_ble_eq_true rfl) dX1_isSame_455
                            · refine lv_dconst0 C0.1 C0.2.1 dX1_isSame_436 ?_
                              refine lv_goto (tgt := 446) C0.1 C0.2.1 dX1_isSame_437 (by decide) ?_
                              refine lv_dcmp C0.1 C0.2.1 dX1_isSame_446 ?_
                              refine tc_top (y := nI 0) (by have e9 := mlk_self (tk := tk) (co := co) (cn := cn) (wk := wk) hn12; first | (rw [hz0, show FP.ddiv (FP.i2d (nI (2 * tw tk co cn wk 0 n))) (FP.i2d (nI n)) = mlk tk co cn wk n from (if_neg (by omega)).symm, e9]; rfl) | (rw [show FP.dconst0 = mlk tk co cn wk n from (show FP.dconst0 = (0 : UInt64) from rfl).trans (if_pos c_433).symm, e9]; rfl)) ?_
                              refine tn_if_ne (tgt := 454) C0.1 C0.2.1 dX1_isSame_447 (by decide) (by omega) (fun c_447 => ?_) (fun c_447 => ?_)
                              · exact absurd c_447 (by omega)
                              · refine lv_iconst (v := nI 1) C0.1 C0.2.1 dX1_isSame_450 (by decide) ?_
                                refine lv_goto (tgt := 455) C0.1 C0.2.1 dX1_isSame_451 (by decide) ?_
                                subst zhQ
                                exact tc_zret C0 hr hlk hG hS rfl rfl (Nat.le_of_ble_eq_true rfl) (Nat.le_of_ble_eq_true rfl) dX1_isSame_455
                        · obtain ⟨a, rfl⟩ : ∃ a, A = a + 1 := ⟨A - 1, by omega⟩
                          rw [iM_s a] at hl
                          have bt := hk1 a
                          have bo := hk2 a
                          have bn := hk3 a
                          have bw := hk4 a
                          have hsa : sm (fun k => lkn tk co cn k n) (a + 1) = sm (fun k => lkn tk co cn k n) a + lkn tk co cn a n := rfl
                          refine lv_iload C0.1 C0.2.1 dX1_isSame_131 (lv_at hl 1 rfl) ?_
                          refine lv_aload_n C0.1 C0.2.1 dX1_isSame_133 rfl (lv_at hl 5 rfl) ?_
                          refine lv_iload C0.1 C0.2.1 dX1_isSame_134 (lv_at hl 0 rfl) ?_
                          refine tc_callV (q0 := 5) C0 hG hS rfl rfl (kX1_luck hlf hk hy  (a) (by omega)) (cwV 1 C0.2.2.2.2 gX1_isSame_X1_luck rfl rfl rfl (by decide +kernel) ⟨(Nat.le_of_ble_eq_true rfl), (Nat.le_of_ble_eq_true rfl)⟩) rfl hl rfl (Nat.le_of_ble_eq_true rfl) dX1_isSame_136 ⟨(Nat.le_of_ble_eq_true rfl), (Nat.le_of_ble_eq_true rfl)⟩ (fun H locs hG hS => ?_)
                          have b_136 := (show lkn tk co cn a n ≤ 156 from lw_le tk co cn a (tk a) (cn a) hk.2.2.2.2.1)
                          refine tn_iadd C0.1 C0.2.1 dX1_isSame_139 ?_
                          refine lv_istore (lv' := [(5, .int (nI (q + (lkn tk co cn a n)))), (6, .int (nI (a))), (4, .int (iM (t2))), (3, .int (iM (t1))), (2, .int (nI (n))), (0, .ref g), (1, .ref h)]) C0.1 C0.2.1 dX1_isSame_140 hl (by decide) rfl (fun ls hl => ?_)
                          refine lv_aload_n C0.1 C0.2.1 dX1_isSame_142 rfl (lv_at hl 6 rfl) ?_
                          refine lv_iload C0.1 C0.2.1 dX1_isSame_143 (lv_at hl 1 rfl) ?_
                          refine tc_callV (q0 := 0) C0 hG hS rfl rfl (kX0_ticketOf_in hlf hk  (a) (by omega)) (cwV 1 C0.2.2.2.2 gX1_isSame_X0_ticketOf rfl rfl rfl (by decide +kernel) ⟨(Nat.le_of_ble_eq_true rfl), (Nat.le_of_ble_eq_true rfl)⟩) rfl hl rfl (Nat.le_of_ble_eq_true rfl) dX1_isSame_145 ⟨(Nat.le_of_ble_eq_true rfl), (Nat.le_of_ble_eq_true rfl)⟩ (fun H locs hG hS => ?_)
                          refine lv_aload_n C0.1 C0.2.1 dX1_isSame_148 rfl (lv_at hl 5 rfl) ?_
                          refine lv_iload C0.1 C0.2.1 dX1_isSame_149 (lv_at hl 1 rfl) ?_
                          refine tc_callV (q0 := 5) C0 hG hS rfl rfl (kX1_ticket hlf hk hy  (a) (by omega)) (cwV 1 C0.2.2.2.2 gX1_isSame_X1_ticket rfl rfl rfl (by decide +kernel) ⟨(Nat.le_of_ble_eq_true rfl), (Nat.le_of_ble_eq_true rfl)⟩) rfl hl rfl (Nat.le_of_ble_eq_true rfl) dX1_isSame_151 ⟨(Nat.le_of_ble_eq_true rfl), (Nat.le_of_ble_eq_true rfl)⟩ (fun H locs hG hS => ?_)
                          refine tn_icmp_ne (tgt := 226) C0.1 C0.2.1 dX1_isSame_154 (by decide) (by omega) (by omega) (fun c_154 => ?_) (fun c_154 => ?_)
                          · exact absurd rfl c_154
                          · refine lv_aload_n C0.1 C0.2.1 dX1_isSame_157 rfl (lv_at hl 6 rfl) ?_
                            refine lv_iload C0.1 C0.2.1 dX1_isSame_158 (lv_at hl 1 rfl) ?_
                            refine tc_callV (q0 := 0) C0 hG hS rfl rfl (kX0_colourOf_in hlf hk  (a) (by omega)) (cwV 1 C0.2.2.2.2 gX1_isSame_X0_colourOf rfl rfl rfl (by decide +kernel) ⟨(Nat.le_of_ble_eq_true rfl), (Nat.le_of_ble_eq_true rfl)⟩) rfl hl rfl (Nat.le_of_ble_eq_true rfl) dX1_isSame_160 ⟨(Nat.le_of_ble_eq_true rfl), (Nat.le_of_ble_eq_true rfl)⟩ (fun H locs hG hS => ?_)
                            refine lv_aload_n C0.1 C0.2.1 dX1_isSame_163 rfl (lv_at hl 5 rfl) ?_
                            refine tgX1_all C0 hF hG w_all dX1_isSame_164 ?_
                            refine lv_iload C0.1 C0.2.1 dX1_isSame_167 (lv_at hl 1 rfl) ?_
                            refine ts_aald (k := a) C0 hG (by omega) (by omega) dX1_isSame_169 ?_
                            refine lv_iconst (v := nI 2) C0.1 C0.2.1 dX1_isSame_170 (by decide) ?_
                            refine ts_ald (k := a) (j := 2) C0 hG (by omega) (by decide) dX1_isSame_171 ?_
                            refine tc_top (y := nI (co (a))) (congrArg nI (hy (a) (by omega)).2.2.1) ?_
                            have b_171 := hk.2.1 (a)
                            refine tn_icmp_ne (tgt := 226) C0.1 C0.2.1 dX1_isSame_172 (by decide) (by omega) (by omega) (fun c_172 => ?_) (fun c_172 => ?_)
                            · exact absurd rfl c_172
                            · refine lv_aload_n C0.1 C0.2.1 dX1_isSame_175 rfl (lv_at hl 6 rfl) ?_
                              refine lv_iload C0.1 C0.2.1 dX1_isSame_176 (lv_at hl 1 rfl) ?_
                              refine tc_callV (q0 := 0) C0 hG hS rfl rfl (kX0_cornerOf_in hlf hk  (a) (by omega)) (cwV 1 C0.2.2.2.2 gX1_isSame_X0_cornerOf rfl rfl rfl (by decide +kernel) ⟨(Nat.le_of_ble_eq_true rfl), (Nat.le_of_ble_eq_true rfl)⟩) rfl hl rfl (Nat.le_of_ble_eq_true rfl) dX1_isSame_178 ⟨(Nat.le_of_ble_eq_true rfl), (Nat.le_of_ble_eq_true rfl)⟩ (fun H locs hG hS => ?_)
                              refine lv_aload_n C0.1 C0.2.1 dX1_isSame_181 rfl (lv_at hl 5 rfl) ?_
                              refine tgX1_all C0 hF hG w_all dX1_isSame_182 ?_
                              refine lv_iload C0.1 C0.2.1 dX1_isSame_185 (lv_at hl 1 rfl) ?_
                              refine ts_aald (k := a) C0 hG (by omega) (by omega) dX1_isSame_187 ?_
                              refine lv_iconst (v := nI 3) C0.1 C0.2.1 dX1_isSame_188 (by decide) ?_
                              refine ts_ald (k := a) (j := 3) C0 hG (by omega) (by decide) dX1_isSame_189 ?_
                              refine tc_top (y := nI (cn (a))) (congrArg nI (hy (a) (by omega)).2.2.2.1) ?_
                              have b_189 := hk.2.2.1 (a)
                              refine tn_icmp_ne (tgt := 226) C0.1 C0.2.1 dX1_isSame_190 (by decide) (by omega) (by omega) (fun c_190 => ?_) (fun c_190 => ?_)
                              · exact absurd rfl c_190
                              · refine lv_aload_n C0.1 C0.2.1 dX1_isSame_193 rfl (lv_at hl 6 rfl) ?_
                                refine lv_iload C0.1 C0.2.1 dX1_isSame_194 (lv_at hl 1 rfl) ?_
                                refine tc_callV (q0 := 0) C0 hG hS rfl rfl (kX0_walkOf_in hlf hk  (a) (by omega)) (cwV 1 C0.2.2.2.2 gX1_isSame_X0_walkOf rfl rfl rfl (by decide +kernel) ⟨(Nat.le_of_ble_eq_true rfl), (Nat.le_of_ble_eq_true rfl)⟩) rfl hl rfl (Nat.le_of_ble_eq_true rfl) dX1_isSame_196 ⟨(Nat.le_of_ble_eq_true rfl), (Nat.le_of_ble_eq_true rfl)⟩ (fun H locs hG hS => ?_)
                                refine lv_aload_n C0.1 C0.2.1 dX1_isSame_199 rfl (lv_at hl 5 rfl) ?_
                                refine tgX1_all C0 hF hG w_all dX1_isSame_200 ?_
                                refine lv_iload C0.1 C0.2.1 dX1_isSame_203 (lv_at hl 1 rfl) ?_
                                refine ts_aald (k := a) C0 hG (by omega) (by omega) dX1_isSame_205 ?_
                                refine lv_iconst (v := nI 4) C0.1 C0.2.1 dX1_isSame_206 (by decide) ?_
                                refine ts_ald (k := a) (j := 4) C0 hG (by omega) (by decide) dX1_isSame_207 ?_
                                refine tc_top (y := nI (wk (a))) (congrArg nI (hy (a) (by omega)).2.2.2.2) ?_
                                have b_207 := hk.2.2.2.1 (a)
                                refine tn_icmp_ne (tgt := 226) C0.1 C0.2.1 dX1_isSame_208 (by decide) (by omega) (by omega) (fun c_208 => ?_) (fun c_208 => ?_)
                                · exact absurd rfl c_208
                                · refine lv_aload_n C0.1 C0.2.1 dX1_isSame_211 rfl (lv_at hl 6 rfl) ?_
                                  refine lv_iload C0.1 C0.2.1 dX1_isSame_212 (lv_at hl 1 rfl) ?_
                                  refine tc_callV (q0 := 0) C0 hG hS rfl rfl (kX0_luckOf_in hlf hk  (a) (by omega)) (cwV 1 C0.2.2.2.2 gX1_isSame_X0_luckOf rfl rfl rfl (by decide +kernel) ⟨(Nat.le_of_ble_eq_true rfl), (Nat.le_of_ble_eq_true rfl)⟩) rfl hl rfl (Nat.le_of_ble_eq_true rfl) dX1_isSame_214 ⟨(Nat.le_of_ble_eq_true rfl), (Nat.le_of_ble_eq_true rfl)⟩ (fun H locs hG hS => ?_)
                                  have b_214 := (show lkn tk co cn a n ≤ 156 from lw_le tk co cn a (tk a) (cn a) hk.2.2.2.2.1)
                                  refine lv_aload_n C0.1 C0.2.1 dX1_isSame_217 rfl (lv_at hl 5 rfl) ?_
                                  refine lv_iload C0.1 C0.2.1 dX1_isSame_218 (lv_at hl 1 rfl) ?_
                                  refine tc_callV (q0 := 5) C0 hG hS rfl rfl (kX1_luck hlf hk hy  (a) (by omega)) (cwV 1 C0.2.2.2.2 gX1_isSame_X1_luck rfl rfl rfl (by decide +kernel) ⟨(Nat.le_of_ble_eq_true rfl), (Nat.le_of_ble_eq_true rfl)⟩) rfl hl rfl (Nat.le_of_ble_eq_true rfl) dX1_isSame_220 ⟨(Nat.le_of_ble_eq_true rfl), (Nat.le_of_ble_eq_true rfl)⟩ (fun H locs hG hS => ?_)
                                  have b_220 := (show lkn tk co cn a n ≤ 156 from lw_le tk co cn a (tk a) (cn a) hk.2.2.2.2.1)
                                  refine tn_icmp_eq (tgt := 228) C0.1 C0.2.1 dX1_isSame_223 (by decide) (by omega) (by omega) (fun c_223 => ?_) (fun c_223 => ?_)
                                  · refine lv_iload_n C0.1 C0.2.1 dX1_isSame_228 rfl (lv_at hl 4 rfl) ?_
                                    refine lv_iconst (v := nI 1) C0.1 C0.2.1 dX1_isSame_229 (by decide) ?_
                                    refine lv_isub C0.1 C0.2.1 dX1_isSame_230 ?_
                                    refine tc_top (y := iM (n)) rfl ?_
                                    refine lv_istore (lv' := [(7, .int (iM (n))), (5, .int (nI (q + (lkn tk co cn a n)))), (6, .int (nI (a))), (4, .int (iM (t2))), (3, .int (iM (t1))), (2, .int (nI (n))), (0, .ref g), (1, .ref h)]) C0.1 C0.2.1 dX1_isSame_231 hl (by decide) rfl (fun ls hl => ?_)
                                    have cut_233 : ∀ (kf : Nat) (B : Nat) (u1 : Nat) (u2 : Nat) (hB : B ≤ n) (hBa : a + 1 ≤ B) (hu1 : u1 ≤ 1200) (hu2 : u2 ≤ 14) (hlq2 : lkP (pts tk co) n u1 u2 (fun x y => a < x ∨ (x = a ∧ B ≤ y))) (hm : n + 1 ≤ (n - B) + kf), ∀ (ls : Array Slot), lv_has ls 9 [(7, .int (iM (B))), (5, .int (nI (q + (lkn tk co cn a n)))), (6, .int (nI (a))), (4, .int (iM (u2))), (3, .int (iM (u1))), (2, .int (nI (n))), (0, .ref g), (1, .ref h)] → ∀ (H : Heap) (locs : List Loc), tcG D cI cJ N0 (wB h r1 r2 r3 r4 cI tk co cn wk n ho st ct sp g ra rw cJ ho st ct sp n f Z) s H → va_S (tcA N0) s.heap H locs → W p l e ({ frames := 5, cells := 0, slots := 0, locals := 112 } : Room) s m args below meth c H locs (0) (0) zQg (F0 m 233 ls []) := by
                                      intro kf
                                      induction kf with
                                      | zero => intro B u1 u2 hB hBa hu1 hu2 hlq2 hm; exact absurd hm (by omega)
                                      | succ kf ih_233 =>
                                        intro B u1 u2 hB hBa hu1 hu2 hlq2 hm ls hl H locs hG hS
                                        refine lv_iload C0.1 C0.2.1 dX1_isSame_233 (lv_at hl 0 rfl) ?_
                                        refine lv_iload C0.1 C0.2.1 dX1_isSame_235 (lv_at hl 2 rfl) ?_
                                        refine tmn_icmp_le (tgt := 414) C0.1 C0.2.1 dX1_isSame_237 (by decide) (by omega) (by omega) (fun c_237 => ?_) (fun c_237 => ?_)
                                        · refine lv_iinc (v := iM (a)) (lv' := [(6, .int (iM (a))), (7, .int (iM (B))), (5, .int (nI (q + (lkn tk co cn a n)))), (4, .int (iM (u2))), (3, .int (iM (u1))), (2, .int (nI (n))), (0, .ref g), (1, .ref h)]) C0.1 C0.2.1 dX1_isSame_414 hl (k := 2) rfl iM_dec (by decide) rfl (fun ls hl => ?_)
                                          refine lv_goto (tgt := 126) C0.1 C0.2.1 dX1_isSame_417 (by decide) ?_
                                          exact ih_126 (a) (u1) (u2) (q + (lkn tk co cn a n)) (by omega) (by omega) (by omega) (by omega) (hlq2.imp (fun x y h1 h2 => by omega)) (by omega) ls (lv_sub hl [0, 2, 3, 4, 5, 6, 7] rfl) _ _ hG hS
                                        · obtain ⟨b, rfl⟩ : ∃ b, B = b + 1 := ⟨B - 1, by omega⟩
                                          rw [iM_s b] at hl
                                          have bt2 := hk1 b
                                          have bo2 := hk2 b
                                          have bn2 := hk3 b
                                          have bw2 := hk4 b
                                          have hpt := pts_le tk co a b
                                          refine lv_aload_n C0.1 C0.2.1 dX1_isSame_240 rfl (lv_at hl 6 rfl) ?_
                                          refine lv_aload_n C0.1 C0.2.1 dX1_isSame_241 rfl (lv_at hl 6 rfl) ?_
                                          refine tgX1_all C0 hF hG w_all dX1_isSame_242 ?_
                                          refine lv_iload C0.1 C0.2.1 dX1_isSame_245 (lv_at hl 2 rfl) ?_
                                          refine ts_aald (k := a) C0 hG (by omega) (by omega) dX1_isSame_247 ?_
                                          refine lv_aload_n C0.1 C0.2.1 dX1_isSame_248 rfl (lv_at hl 6 rfl) ?_
                                          refine tgX1_all C0 hF hG w_all dX1_isSame_249 ?_
                                          refine lv_iload C0.1 C0.2.1 dX1_isSame_252 (lv_at hl 0 rfl) ?_
                                          refine ts_aald (k := b) C0 hG (by omega) (by omega) dX1_isSame_254 ?_
                                          refine tc_callV (q0 := 5) C0 hG hS rfl rfl (kX1_points hlf hk hy  (a) (b) (by omega) (by omega)) (cwV 2 C0.2.2.2.2 gX1_isSame_X1_points rfl rfl rfl (by decide +kernel) ⟨(Nat.le_of_ble_eq_true rfl), (Nat.le_of_ble_eq_true rfl)⟩) rfl hl rfl (Nat.le_of_ble_eq_true rfl) dX1_isSame_255 ⟨(Nat.le_of_ble_eq_true rfl), (Nat.le_of_ble_eq_true rfl)⟩ (fun H locs hG hS => ?_)
                                          have b_255 := pts_le tk co a b
                                          refine lv_istore (lv' := [(8, .int (nI (pts tk co a b))), (7, .int (nI (b))), (5, .int (nI (q + (lkn tk co cn a n)))), (6, .int (nI (a))), (4, .int (iM (u2))), (3, .int (iM (u1))), (2, .int (nI (n))), (0, .ref g), (1, .ref h)]) C0.1 C0.2.1 dX1_isSame_258 hl (by decide) rfl (fun ls hl => ?_)
                                          refine lv_aload_n C0.1 C0.2.1 dX1_isSame_260 rfl (lv_at hl 8 rfl) ?_
                                          refine lv_iload C0.1 C0.2.1 dX1_isSame_261 (lv_at hl 3 rfl) ?_
                                          refine lv_iload C0.1 C0.2.1 dX1_isSame_263 (lv_at hl 1 rfl) ?_
                                          refine tc_callV (q0 := 0) C0 hG hS rfl rfl (kX0_pointsOf_in hlf hk  (a) (b) (by omega) (by omega) (by omega)) (cwV 2 C0.2.2.2.2 gX1_isSame_X0_pointsOf rfl rfl rfl (by decide +kernel) ⟨(Nat.le_of_ble_eq_true rfl), (Nat.le_of_ble_eq_true rfl)⟩) rfl hl rfl (Nat.le_of_ble_eq_true rfl) dX1_isSame_265 ⟨(Nat.le_of_ble_eq_true rfl), (Nat.le_of_ble_eq_true rfl)⟩ (fun H locs hG hS => ?_)
                                          have b_265 := pts_le tk co a b
                                          refine lv_iload C0.1 C0.2.1 dX1_isSame_268 (lv_at hl 0 rfl) ?_
                                          refine tn_icmp_ne (tgt := 383) C0.1 C0.2.1 dX1_isSame_270 (by decide) (by omega) (by omega) (fun c_270 => ?_) (fun c_270 => ?_)
                                          · exact absurd rfl c_270
                                          · refine lv_aload_n C0.1 C0.2.1 dX1_isSame_273 rfl (lv_at hl 8 rfl) ?_
                                            refine lv_iload C0.1 C0.2.1 dX1_isSame_274 (lv_at hl 1 rfl) ?_
                                            refine lv_iload C0.1 C0.2.1 dX1_isSame_276 (lv_at hl 3 rfl) ?_
                                            refine tc_callV (q0 := 0) C0 hG hS rfl rfl (kX0_pointsOf_in hlf hk  (b) (a) (by omega) (by omega) (by omega)) (cwV 2 C0.2.2.2.2 gX1_isSame_X0_pointsOf rfl rfl rfl (by decide +kernel) ⟨(Nat.le_of_ble_eq_true rfl), (Nat.le_of_ble_eq_true rfl)⟩) rfl hl rfl (Nat.le_of_ble_eq_true rfl) dX1_isSame_278 ⟨(Nat.le_of_ble_eq_true rfl), (Nat.le_of_ble_eq_true rfl)⟩ (fun H locs hG hS => ?_)
                                            have b_278 := pts_le tk co b a
                                            refine lv_iload C0.1 C0.2.1 dX1_isSame_281 (lv_at hl 0 rfl) ?_
                                            refine tn_icmp_ne (tgt := 383) C0.1 C0.2.1 dX1_isSame_283 (by decide) (by omega) (by omega) (fun c_283 => ?_) (fun c_283 => ?_)
                                            · exact absurd (pts_sym tk co b a) c_283
                                            · refine lv_aload_n C0.1 C0.2.1 dX1_isSame_286 rfl (lv_at hl 8 rfl) ?_
                                              refine lv_iload C0.1 C0.2.1 dX1_isSame_287 (lv_at hl 1 rfl) ?_
                                              refine lv_iload C0.1 C0.2.1 dX1_isSame_289 (lv_at hl 3 rfl) ?_
                                              refine tc_callV (q0 := 0) C0 hG hS rfl rfl (kX0_areTogether_in hlf hk  (b) (a) (by omega) (by omega) (by omega)) (cwV 2 C0.2.2.2.2 gX1_isSame_X0_areTogether rfl rfl rfl (by decide +kernel) ⟨(Nat.le_of_ble_eq_true rfl), (Nat.le_of_ble_eq_true rfl)⟩) rfl hl rfl (Nat.le_of_ble_eq_true rfl) dX1_isSame_291 ⟨(Nat.le_of_ble_eq_true rfl), (Nat.le_of_ble_eq_true rfl)⟩ (fun H locs hG hS => ?_)
                                              refine lv_aload_n C0.1 C0.2.1 dX1_isSame_294 rfl (lv_at hl 7 rfl) ?_
                                              refine tgX1_all C0 hF hG w_all dX1_isSame_295 ?_
                                              refine lv_iload C0.1 C0.2.1 dX1_isSame_298 (lv_at hl 3 rfl) ?_
                                              refine ts_aald (k := a) C0 hG (by omega) (by omega) dX1_isSame_300 ?_
                                              refine lv_iconst (v := nI 3) C0.1 C0.2.1 dX1_isSame_301 (by decide) ?_
                                              refine ts_ald (k := a) (j := 3) C0 hG (by omega) (by decide) dX1_isSame_302 ?_
                                              refine tc_top (y := nI (cn (a))) (congrArg nI (hy (a) (by omega)).2.2.2.1) ?_
                                              have b_302 := hk.2.2.1 (a)
                                              refine lv_aload_n C0.1 C0.2.1 dX1_isSame_303 rfl (lv_at hl 7 rfl) ?_
                                              refine tgX1_all C0 hF hG w_all dX1_isSame_304 ?_
                                              refine lv_iload C0.1 C0.2.1 dX1_isSame_307 (lv_at hl 1 rfl) ?_
                                              refine ts_aald (k := b) C0 hG (by omega) (by omega) dX1_isSame_309 ?_
                                              refine lv_iconst (v := nI 3) C0.1 C0.2.1 dX1_isSame_310 (by decide) ?_
                                              refine ts_ald (k := b) (j := 3) C0 hG (by omega) (by decide) dX1_isSame_311 ?_
                                              refine tc_top (y := nI (cn (b))) (congrArg nI (hy (b) (by omega)).2.2.2.1) ?_
                                              have b_311 := hk.2.2.1 (b)
                                              refine tn_icmp_ne (tgt := 319) C0.1 C0.2.1 dX1_isSame_312 (by decide) (by omega) (by omega) (fun c_312 => ?_) (fun c_312 => ?_)
                                              · refine lv_iconst (v := nI 0) C0.1 C0.2.1 dX1_isSame_319 (by decide) ?_
                                                refine tbb_icmp_ne (tgt := 383) C0.1 C0.2.1 dX1_isSame_320 (by decide) (fun c_320 => ?_) (fun c_320 => ?_)
                                                · exact absurd (congrArg nI (by first | (rw [decide_eq_true c_312.symm]; rfl) | (rw [decide_eq_false (fun z => c_312 z.symm)]; rfl))) c_320
                                                · refine lv_aload_n C0.1 C0.2.1 dX1_isSame_323 rfl (lv_at hl 8 rfl) ?_
                                                  refine lv_iload C0.1 C0.2.1 dX1_isSame_324 (lv_at hl 3 rfl) ?_
                                                  refine lv_iload C0.1 C0.2.1 dX1_isSame_326 (lv_at hl 1 rfl) ?_
                                                  refine tc_callV (q0 := 0) C0 hG hS rfl rfl (kX0_areMirrored_in hlf hk  (a) (b) (by omega) (by omega) (by omega)) (cwV 2 C0.2.2.2.2 gX1_isSame_X0_areMirrored rfl rfl rfl (by decide +kernel) ⟨(Nat.le_of_ble_eq_true rfl), (Nat.le_of_ble_eq_true rfl)⟩) rfl hl rfl (Nat.le_of_ble_eq_true rfl) dX1_isSame_328 ⟨(Nat.le_of_ble_eq_true rfl), (Nat.le_of_ble_eq_true rfl)⟩ (fun H locs hG hS => ?_)
                                                  refine lv_aload_n C0.1 C0.2.1 dX1_isSame_331 rfl (lv_at hl 7 rfl) ?_
                                                  refine tgX1_all C0 hF hG w_all dX1_isSame_332 ?_
                                                  refine lv_iload C0.1 C0.2.1 dX1_isSame_335 (lv_at hl 1 rfl) ?_
                                                  refine ts_aald (k := b) C0 hG (by omega) (by omega) dX1_isSame_337 ?_
                                                  refine lv_aload_n C0.1 C0.2.1 dX1_isSame_338 rfl (lv_at hl 7 rfl) ?_
                                                  refine tgX1_all C0 hF hG w_all dX1_isSame_339 ?_
                                                  refine lv_iload C0.1 C0.2.1 dX1_isSame_342 (lv_at hl 3 rfl) ?_
                                                  refine ts_aald (k := a) C0 hG (by omega) (by omega) dX1_isSame_344 ?_
                                                  refine tc_callS C0 hG hS (kX1_isMirror hlf hk hy  (b) (a) (by omega) (by omega)) (va_cwS 2 C0.2.2.2.2 gX1_isSame_X1_isMirror rfl rfl rfl (by decide +kernel) ⟨(Nat.le_of_ble_eq_true rfl), (Nat.le_of_ble_eq_true rfl)⟩) rfl hl rfl (Nat.le_of_ble_eq_true rfl) dX1_isSame_345 ⟨(Nat.le_of_ble_eq_true rfl), (Nat.le_of_ble_eq_true rfl)⟩ (fun H locs hG hS => ?_)
                                                  refine tbb_icmp_ne (tgt := 383) C0.1 C0.2.1 dX1_isSame_348 (by decide) (fun c_348 => ?_) (fun c_348 => ?_)
                                                  · exact absurd (by rw [mir_sym]) c_348
                                                  · refine lv_aload_n C0.1 C0.2.1 dX1_isSame_351 rfl (lv_at hl 8 rfl) ?_
                                                    refine lv_iload C0.1 C0.2.1 dX1_isSame_352 (lv_at hl 3 rfl) ?_
                                                    refine lv_iload C0.1 C0.2.1 dX1_isSame_354 (lv_at hl 1 rfl) ?_
                                                    refine tc_callV (q0 := 0) C0 hG hS rfl rfl (kX0_costOfMeeting_in hlf hk  (a) (b) (by omega) (by omega) (by omega)) (cwV 2 C0.2.2.2.2 gX1_isSame_X0_costOfMeeting rfl rfl rfl (by decide +kernel) ⟨(Nat.le_of_ble_eq_true rfl), (Nat.le_of_ble_eq_true rfl)⟩) rfl hl rfl (Nat.le_of_ble_eq_true rfl) dX1_isSame_356 ⟨(Nat.le_of_ble_eq_true rfl), (Nat.le_of_ble_eq_true rfl)⟩ (fun H locs hG hS => ?_)
                                                    have b_356 := way_le (cn a) (cn b) (hk.2.2.1 a) (hk.2.2.1 b)
                                                    refine lv_aload_n C0.1 C0.2.1 dX1_isSame_359 rfl (lv_at hl 7 rfl) ?_
                                                    refine tgX1_all C0 hF hG w_all dX1_isSame_360 ?_
                                                    refine lv_iload C0.1 C0.2.1 dX1_isSame_363 (lv_at hl 3 rfl) ?_
                                                    refine ts_aald (k := a) C0 hG (by omega) (by omega) dX1_isSame_365 ?_
                                                    refine lv_iconst (v := nI 3) C0.1 C0.2.1 dX1_isSame_366 (by decide) ?_
                                                    refine ts_ald (k := a) (j := 3) C0 hG (by omega) (by decide) dX1_isSame_367 ?_
                                                    refine tc_top (y := nI (cn (a))) (congrArg nI (hy (a) (by omega)).2.2.2.1) ?_
                                                    have b_367 := hk.2.2.1 (a)
                                                    refine lv_aload_n C0.1 C0.2.1 dX1_isSame_368 rfl (lv_at hl 7 rfl) ?_
                                                    refine tgX1_all C0 hF hG w_all dX1_isSame_369 ?_
                                                    refine lv_iload C0.1 C0.2.1 dX1_isSame_372 (lv_at hl 1 rfl) ?_
                                                    refine ts_aald (k := b) C0 hG (by omega) (by omega) dX1_isSame_374 ?_
                                                    refine lv_iconst (v := nI 3) C0.1 C0.2.1 dX1_isSame_375 (by decide) ?_
                                                    refine ts_ald (k := b) (j := 3) C0 hG (by omega) (by decide) dX1_isSame_376 ?_
                                                    refine tc_top (y := nI (cn (b))) (congrArg nI (hy (b) (by omega)).2.2.2.1) ?_
                                                    have b_376 := hk.2.2.1 (b)
                                                    refine tc_callS C0 hG hS (kX1_cost hlf hk hy  (cn (a)) (cn (b)) (by omega) (by omega)) (va_cwS 2 C0.2.2.2.2 gX1_isSame_X1_cost rfl rfl rfl (by decide +kernel) ⟨(Nat.le_of_ble_eq_true rfl), (Nat.le_of_ble_eq_true rfl)⟩) rfl hl rfl (Nat.le_of_ble_eq_true rfl) dX1_isSame_377 ⟨(Nat.le_of_ble_eq_true rfl), (Nat.le_of_ble_eq_true rfl)⟩ (fun H locs hG hS => ?_)
                                                    have b_377 := way_le (cn (a)) (cn (b)) (by omega) (by omega)
                                                    refine tn_icmp_eq (tgt := 385) C0.1 C0.2.1 dX1_isSame_380 (by decide) (by omega) (by omega) (fun c_380 => ?_) (fun c_380 => ?_)
                                                    · refine lv_iload C0.1 C0.2.1 dX1_isSame_385 (lv_at hl 0 rfl) ?_
                                                      refine lv_iload C0.1 C0.2.1 dX1_isSame_387 (lv_at hl 4 rfl) ?_
                                                      refine tm_icmp_ge (tgt := 395) C0.1 C0.2.1 dX1_isSame_389 (by decide) (by omega) (by omega) (fun c_389 => ?_) (fun c_389 => ?_)
                                                      · refine lv_iload C0.1 C0.2.1 dX1_isSame_395 (lv_at hl 0 rfl) ?_
                                                        refine tc_top (iM_s (pts tk co a b)).symm ?_
                                                        refine lv_istore (lv' := [(4, .int (iM (pts tk co a b + 1))), (8, .int (nI (pts tk co a b))), (7, .int (nI (b))), (5, .int (nI (q + (lkn tk co cn a n)))), (6, .int (nI (a))), (3, .int (iM (u1))), (2, .int (nI (n))), (0, .ref g), (1, .ref h)]) C0.1 C0.2.1 dX1_isSame_397 hl (by decide) rfl (fun ls hl => ?_)
                                                        refine lv_bipush (v := nI 100) C0.1 C0.2.1 dX1_isSame_399 (by decide) ?_
                                                        refine lv_iload C0.1 C0.2.1 dX1_isSame_401 (lv_at hl 4 rfl) ?_
                                                        refine tn_imul C0.1 C0.2.1 dX1_isSame_403 ?_
                                                        refine lv_iload C0.1 C0.2.1 dX1_isSame_404 (lv_at hl 2 rfl) ?_
                                                        refine tn_iadd C0.1 C0.2.1 dX1_isSame_406 ?_
                                                        refine tc_top (iM_s (100 * a + b)).symm ?_
                                                        refine lv_istore_n (lv' := [(3, .int (iM (100 * a + b + 1))), (4, .int (iM (pts tk co a b + 1))), (8, .int (nI (pts tk co a b))), (7, .int (nI (b))), (5, .int (nI (q + (lkn tk co cn a n)))), (6, .int (nI (a))), (2, .int (nI (n))), (0, .ref g), (1, .ref h)]) C0.1 C0.2.1 dX1_isSame_407 rfl hl (by decide) rfl (fun ls hl => ?_)
                                                        refine lv_iinc (v := iM (b)) (lv' := [(7, .int (iM (b))), (3, .int (iM (100 * a + b + 1))), (4, .int (iM (pts tk co a b + 1))), (8, .int (nI (pts tk co a b))), (5, .int (nI (q + (lkn tk co cn a n)))), (6, .int (nI (a))), (2, .int (nI (n))), (0, .ref g), (1, .ref h)]) C0.1 C0.2.1 dX1_isSame_408 hl (k := 3) rfl iM_dec (by decide) rfl (fun ls hl => ?_)
                                                        refine lv_goto (tgt := 233) C0.1 C0.2.1 dX1_isSame_411 (by decide) ?_
                                                        exact ih_233 (b) (100 * a + b + 1) (pts tk co a b + 1) (by omega) (by omega) (by omega) (by omega) (by first | exact (hlq2.ahead (a := a) (b := b) hn12 (by omega) (by omega) c_389 (fun x y h1 h2 h3 => by omega)).imp (fun x y h1 h2 => by omega) | exact (hlq2.less (a := a) (b := b) (by omega) (fun e9 => by omega)).imp (fun x y h1 h2 => by omega)) (by omega) ls (lv_sub hl [0, 4, 5, 2, 1, 6, 7, 8] rfl) _ _ hG hS
                                                      · refine lv_goto (tgt := 408) C0.1 C0.2.1 dX1_isSame_392 (by decide) ?_
                                                        refine lv_iinc (v := iM (b)) (lv' := [(7, .int (iM (b))), (8, .int (nI (pts tk co a b))), (5, .int (nI (q + (lkn tk co cn a n)))), (6, .int (nI (a))), (4, .int (iM (u2))), (3, .int (iM (u1))), (2, .int (nI (n))), (0, .ref g), (1, .ref h)]) C0.1 C0.2.1 dX1_isSame_408 hl (k := 1) rfl iM_dec (by decide) rfl (fun ls hl => ?_)
                                                        refine lv_goto (tgt := 233) C0.1 C0.2.1 dX1_isSame_411 (by decide) ?_
                                                        exact ih_233 (b) (u1) (u2) (by omega) (by omega) (by omega) (by omega) (by first | exact (hlq2.ahead (a := a) (b := b) hn12 (by omega) (by omega) c_389 (fun x y h1 h2 h3 => by omega)).imp (fun x y h1 h2 => by omega) | exact (hlq2.less (a := a) (b := b) (by omega) (fun e9 => by omega)).imp (fun x y h1 h2 => by omega)) (by omega) ls (lv_sub hl [0, 2, 3, 4, 5, 6, 7, 8] rfl) _ _ hG hS
                                                    · exact absurd rfl c_380
                                              · refine lv_iconst (v := nI 1) C0.1 C0.2.1 dX1_isSame_315 (by decide) ?_
                                                refine lv_goto (tgt := 320) C0.1 C0.2.1 dX1_isSame_316 (by decide) ?_
                                                refine tbb_icmp_ne (tgt := 383) C0.1 C0.2.1 dX1_isSame_320 (by decide) (fun c_320 => ?_) (fun c_320 => ?_)
                                                · exact absurd (congrArg nI (by first | (rw [decide_eq_true c_312.symm]; rfl) | (rw [decide_eq_false (fun z => c_312 z.symm)]; rfl))) c_320
                                                · refine lv_aload_n C0.1 C0.2.1 dX1_isSame_323 rfl (lv_at hl 8 rfl) ?_
                                                  refine lv_iload C0.1 C0.2.1 dX1_isSame_324 (lv_at hl 3 rfl) ?_
                                                  refine lv_iload C0.1 C0.2.1 dX1_isSame_326 (lv_at hl 1 rfl) ?_
                                                  refine tc_callV (q0 := 0) C0 hG hS rfl rfl (kX0_areMirrored_in hlf hk  (a) (b) (by omega) (by omega) (by omega)) (cwV 2 C0.2.2.2.2 gX1_isSame_X0_areMirrored rfl rfl rfl (by decide +kernel) ⟨(Nat.le_of_ble_eq_true rfl), (Nat.le_of_ble_eq_true rfl)⟩) rfl hl rfl (Nat.le_of_ble_eq_true rfl) dX1_isSame_328 ⟨(Nat.le_of_ble_eq_true rfl), (Nat.le_of_ble_eq_true rfl)⟩ (fun H locs hG hS => ?_)
                                                  refine lv_aload_n C0.1 C0.2.1 dX1_isSame_331 rfl (lv_at hl 7 rfl) ?_
                                                  refine tgX1_all C0 hF hG w_all dX1_isSame_332 ?_
                                                  refine lv_iload C0.1 C0.2.1 dX1_isSame_335 (lv_at hl 1 rfl) ?_
                                                  refine ts_aald (k := b) C0 hG (by omega) (by omega) dX1_isSame_337 ?_
                                                  refine lv_aload_n C0.1 C0.2.1 dX1_isSame_338 rfl (lv_at hl 7 rfl) ?_
                                                  refine tgX1_all C0 hF hG w_all dX1_isSame_339 ?_
                                                  refine lv_iload C0.1 C0.2.1 dX1_isSame_342 (lv_at hl 3 rfl) ?_
                                                  refine ts_aald (k := a) C0 hG (by omega) (by omega) dX1_isSame_344 ?_
                                                  refine tc_callS C0 hG hS (kX1_isMirror hlf hk hy  (b) (a) (by omega) (by omega)) (va_cwS 2 C0.2.2.2.2 gX1_isSame_X1_isMirror rfl rfl rfl (by decide +kernel) ⟨(Nat.le_of_ble_eq_true rfl), (Nat.le_of_ble_eq_true rfl)⟩) rfl hl rfl (Nat.le_of_ble_eq_true rfl) dX1_isSame_345 ⟨(Nat.le_of_ble_eq_true rfl), (Nat.le_of_ble_eq_true rfl)⟩ (fun H locs hG hS => ?_)
                                                  refine tbb_icmp_ne (tgt := 383) C0.1 C0.2.1 dX1_isSame_348 (by decide) (fun c_348 => ?_) (fun c_348 => ?_)
                                                  · exact absurd (by rw [mir_sym]) c_348
                                                  · refine lv_aload_n C0.1 C0.2.1 dX1_isSame_351 rfl (lv_at hl 8 rfl) ?_
                                                    refine lv_iload C0.1 C0.2.1 dX1_isSame_352 (lv_at hl 3 rfl) ?_
                                                    refine lv_iload C0.1 C0.2.1 dX1_isSame_354 (lv_at hl 1 rfl) ?_
                                                    refine tc_callV (q0 := 0) C0 hG hS rfl rfl (kX0_costOfMeeting_in hlf hk  (a) (b) (by omega) (by omega) (by omega)) (cwV 2 C0.2.2.2.2 gX1_isSame_X0_costOfMeeting rfl rfl rfl (by decide +kernel) ⟨(Nat.le_of_ble_eq_true rfl), (Nat.le_of_ble_eq_true rfl)⟩) rfl hl rfl (Nat.le_of_ble_eq_true rfl) dX1_isSame_356 ⟨(Nat.le_of_ble_eq_true rfl), (Nat.le_of_ble_eq_true rfl)⟩ (fun H locs hG hS => ?_)
                                                    have b_356 := way_le (cn a) (cn b) (hk.2.2.1 a) (hk.2.2.1 b)
                                                    refine lv_aload_n C0.1 C0.2.1 dX1_isSame_359 rfl (lv_at hl 7 rfl) ?_
                                                    refine tgX1_all C0 hF hG w_all dX1_isSame_360 ?_
                                                    refine lv_iload C0.1 C0.2.1 dX1_isSame_363 (lv_at hl 3 rfl) ?_
                                                    refine ts_aald (k := a) C0 hG (by omega) (by omega) dX1_isSame_365 ?_
                                                    refine lv_iconst (v := nI 3) C0.1 C0.2.1 dX1_isSame_366 (by decide) ?_
                                                    refine ts_ald (k := a) (j := 3) C0 hG (by omega) (by decide) dX1_isSame_367 ?_
                                                    refine tc_top (y := nI (cn (a))) (congrArg nI (hy (a) (by omega)).2.2.2.1) ?_
                                                    have b_367 := hk.2.2.1 (a)
                                                    refine lv_aload_n C0.1 C0.2.1 dX1_isSame_368 rfl (lv_at hl 7 rfl) ?_
                                                    refine tgX1_all C0 hF hG w_all dX1_isSame_369 ?_
                                                    refine lv_iload C0.1 C0.2.1 dX1_isSame_372 (lv_at hl 1 rfl) ?_
                                                    refine ts_aald (k := b) C0 hG (by omega) (by omega) dX1_isSame_374 ?_
                                                    refine lv_iconst (v := nI 3) C0.1 C0.2.1 dX1_isSame_375 (by decide) ?_
                                                    refine ts_ald (k := b) (j := 3) C0 hG (by omega) (by decide) dX1_isSame_376 ?_
                                                    refine tc_top (y := nI (cn (b))) (congrArg nI (hy (b) (by omega)).2.2.2.1) ?_
                                                    have b_376 := hk.2.2.1 (b)
                                                    refine tc_callS C0 hG hS (kX1_cost hlf hk hy  (cn (a)) (cn (b)) (by omega) (by omega)) (va_cwS 2 C0.2.2.2.2 gX1_isSame_X1_cost rfl rfl rfl (by decide +kernel) ⟨(Nat.le_of_ble_eq_true rfl), (Nat.le_of_ble_eq_true rfl)⟩) rfl hl rfl (Nat.le_of_ble_eq_true rfl) dX1_isSame_377 ⟨(Nat.le_of_ble_eq_true rfl), (Nat.le_of_ble_eq_true rfl)⟩ (fun H locs hG hS => ?_)
                                                    have b_377 := way_le (cn (a)) (cn (b)) (by omega) (by omega)
                                                    refine tn_icmp_eq (tgt := 385) C0.1 C0.2.1 dX1_isSame_380 (by decide) (by omega) (by omega) (fun c_380 => ?_) (fun c_380 => ?_)
                                                    · refine lv_iload C0.1 C0.2.1 dX1_isSame_385 (lv_at hl 0 rfl) ?_
                                                      refine lv_iload C0.1 C0.2.1 dX1_isSame_387 (lv_at hl 4 rfl) ?_
                                                      refine tm_icmp_ge (tgt := 395) C0.1 C0.2.1 dX1_isSame_389 (by decide) (by omega) (by omega) (fun c_389 => ?_) (fun c_389 => ?_)
                                                      · refine lv_iload C0.1 C0.2.1 dX1_isSame_395 (lv_at hl 0 rfl) ?_
                                                        refine tc_top (iM_s (pts tk co a b)).symm ?_
                                                        refine lv_istore (lv' := [(4, .int (iM (pts tk co a b + 1))), (8, .int (nI (pts tk co a b))), (7, .int (nI (b))), (5, .int (nI (q + (lkn tk co cn a n)))), (6, .int (nI (a))), (3, .int (iM (u1))), (2, .int (nI (n))), (0, .ref g), (1, .ref h)]) C0.1 C0.2.1 dX1_isSame_397 hl (by decide) rfl (fun ls hl => ?_)
                                                        refine lv_bipush (v := nI 100) C0.1 C0.2.1 dX1_isSame_399 (by decide) ?_
                                                        refine lv_iload C0.1 C0.2.1 dX1_isSame_401 (lv_at hl 4 rfl) ?_
                                                        refine tn_imul C0.1 C0.2.1 dX1_isSame_403 ?_
                                                        refine lv_iload C0.1 C0.2.1 dX1_isSame_404 (lv_at hl 2 rfl) ?_
                                                        refine tn_iadd C0.1 C0.2.1 dX1_isSame_406 ?_
                                                        refine tc_top (iM_s (100 * a + b)).symm ?_
                                                        refine lv_istore_n (lv' := [(3, .int (iM (100 * a + b + 1))), (4, .int (iM (pts tk co a b + 1))), (8, .int (nI (pts tk co a b))), (7, .int (nI (b))), (5, .int (nI (q + (lkn tk co cn a n)))), (6, .int (nI (a))), (2, .int (nI (n))), (0, .ref g), (1, .ref h)]) C0.1 C0.2.1 dX1_isSame_407 rfl hl (by decide) rfl (fun ls hl => ?_)
                                                        refine lv_iinc (v := iM (b)) (lv' := [(7, .int (iM (b))), (3, .int (iM (100 * a + b + 1))), (4, .int (iM (pts tk co a b + 1))), (8, .int (nI (pts tk co a b))), (5, .int (nI (q + (lkn tk co cn a n)))), (6, .int (nI (a))), (2, .int (nI (n))), (0, .ref g), (1, .ref h)]) C0.1 C0.2.1 dX1_isSame_408 hl (k := 3) rfl iM_dec (by decide) rfl (fun ls hl => ?_)
                                                        refine lv_goto (tgt := 233) C0.1 C0.2.1 dX1_isSame_411 (by decide) ?_
                                                        exact ih_233 (b) (100 * a + b + 1) (pts tk co a b + 1) (by omega) (by omega) (by omega) (by omega) (by first | exact (hlq2.ahead (a := a) (b := b) hn12 (by omega) (by omega) c_389 (fun x y h1 h2 h3 => by omega)).imp (fun x y h1 h2 => by omega) | exact (hlq2.less (a := a) (b := b) (by omega) (fun e9 => by omega)).imp (fun x y h1 h2 => by omega)) (by omega) ls (lv_sub hl [0, 4, 5, 2, 1, 6, 7, 8] rfl) _ _ hG hS
                                                      · refine lv_goto (tgt := 408) C0.1 C0.2.1 dX1_isSame_392 (by decide) ?_
                                                        refine lv_iinc (v := iM (b)) (lv' := [(7, .int (iM (b))), (8, .int (nI (pts tk co a b))), (5, .int (nI (q + (lkn tk co cn a n)))), (6, .int (nI (a))), (4, .int (iM (u2))), (3, .int (iM (u1))), (2, .int (nI (n))), (0, .ref g), (1, .ref h)]) C0.1 C0.2.1 dX1_isSame_408 hl (k := 1) rfl iM_dec (by decide) rfl (fun ls hl => ?_)
                                                        refine lv_goto (tgt := 233) C0.1 C0.2.1 dX1_isSame_411 (by decide) ?_
                                                        exact ih_233 (b) (u1) (u2) (by omega) (by omega) (by omega) (by omega) (by first | exact (hlq2.ahead (a := a) (b := b) hn12 (by omega) (by omega) c_389 (fun x y h1 h2 h3 => by omega)).imp (fun x y h1 h2 => by omega) | exact (hlq2.less (a := a) (b := b) (by omega) (fun e9 => by omega)).imp (fun x y h1 h2 => by omega)) (by omega) ls (lv_sub hl [0, 2, 3, 4, 5, 6, 7, 8] rfl) _ _ hG hS
                                                    · exact absurd rfl c_380
                                    exact cut_233 (n + 1) (n) (t1) (t2) (by omega) (by omega) (by omega) (by omega) (hlp.imp (fun x y h1 h2 => by omega)) (by omega) ls (lv_sub hl [0, 1, 2, 3, 4, 5, 6, 7] rfl) _ _ hG hS
                                  · exact absurd rfl c_223
                    exact cut_126 (n + 1) (n) (0) (0) (0) (by omega) (by omega) (by omega) (by rw [lkn_sum wk n hk3]; omega) (lkP.none (fun x y h1 h2 h3 => by omega)) (by omega) ls (lv_sub hl [0, 1, 2, 3, 4, 5, 6] rfl) _ _ hG hS
                  · refine lv_aload_n C0.1 C0.2.1 dX1_isSame_79 rfl (lv_at hl 3 rfl) ?_
                    refine lv_iload_n C0.1 C0.2.1 dX1_isSame_80 rfl (lv_at hl 0 rfl) ?_
                    refine tc_callV (q0 := 0) C0 hG hS rfl rfl (kX0_peopleAt_in hlf hk  (c9) (by omega)) (cwV 1 C0.2.2.2.2 gX1_isSame_X0_peopleAt rfl rfl rfl (by decide +kernel) ⟨(Nat.le_of_ble_eq_true rfl), (Nat.le_of_ble_eq_true rfl)⟩) rfl hl rfl (Nat.le_of_ble_eq_true rfl) dX1_isSame_81 ⟨(Nat.le_of_ble_eq_true rfl), (Nat.le_of_ble_eq_true rfl)⟩ (fun H locs hG hS => ?_)
                    refine lv_aload_n C0.1 C0.2.1 dX1_isSame_84 rfl (lv_at hl 2 rfl) ?_
                    refine lv_iload_n C0.1 C0.2.1 dX1_isSame_85 rfl (lv_at hl 0 rfl) ?_
                    refine tc_callV (q0 := 5) C0 hG hS rfl rfl (kX1_people hlf hk hy  (c9) (by omega)) (cwV 1 C0.2.2.2.2 gX1_isSame_X1_people rfl rfl rfl (by decide +kernel) ⟨(Nat.le_of_ble_eq_true rfl), (Nat.le_of_ble_eq_true rfl)⟩) rfl hl rfl (Nat.le_of_ble_eq_true rfl) dX1_isSame_86 ⟨(Nat.le_of_ble_eq_true rfl), (Nat.le_of_ble_eq_true rfl)⟩ (fun H locs hG hS => ?_)
                    have b_86 := crowd_le cn c9 hk.2.2.2.2.1
                    refine tn_icmp_ne (tgt := 105) C0.1 C0.2.1 dX1_isSame_89 (by decide) (by omega) (by omega) (fun c_89 => ?_) (fun c_89 => ?_)
                    · exact absurd rfl c_89
                    · refine lv_aload_n C0.1 C0.2.1 dX1_isSame_92 rfl (lv_at hl 3 rfl) ?_
                      refine lv_iload_n C0.1 C0.2.1 dX1_isSame_93 rfl (lv_at hl 0 rfl) ?_
                      refine tc_callV (q0 := 0) C0 hG hS rfl rfl (kX0_coincidencesAt_in hlf hk  (c9) (by omega)) (cwV 1 C0.2.2.2.2 gX1_isSame_X0_coincidencesAt rfl rfl rfl (by decide +kernel) ⟨(Nat.le_of_ble_eq_true rfl), (Nat.le_of_ble_eq_true rfl)⟩) rfl hl rfl (Nat.le_of_ble_eq_true rfl) dX1_isSame_94 ⟨(Nat.le_of_ble_eq_true rfl), (Nat.le_of_ble_eq_true rfl)⟩ (fun H locs hG hS => ?_)
                      have b_94 := cAt_le tk co cn c9 hk.2.2.2.2.1
                      refine lv_aload_n C0.1 C0.2.1 dX1_isSame_97 rfl (lv_at hl 2 rfl) ?_
                      refine lv_iload_n C0.1 C0.2.1 dX1_isSame_98 rfl (lv_at hl 0 rfl) ?_
                      refine tc_callV (q0 := 5) C0 hG hS rfl rfl (kX1_at hlf hk hy  (c9) (by omega)) (cwV 1 C0.2.2.2.2 gX1_isSame_X1_at rfl rfl rfl (by decide +kernel) ⟨(Nat.le_of_ble_eq_true rfl), (Nat.le_of_ble_eq_true rfl)⟩) rfl hl rfl (Nat.le_of_ble_eq_true rfl) dX1_isSame_99 ⟨(Nat.le_of_ble_eq_true rfl), (Nat.le_of_ble_eq_true rfl)⟩ (fun H locs hG hS => ?_)
                      refine tn_icmp_eq (tgt := 107) C0.1 C0.2.1 dX1_isSame_102 (by decide) (by omega) (by omega) (fun c_102 => ?_) (fun c_102 => ?_)
                      · refine tn_iinc (lv' := [(3, .int (nI (c9 + 1))), (2, .int (nI (n))), (0, .ref g), (1, .ref h)]) C0.1 C0.2.1 dX1_isSame_107 hl (k := 0) rfl (by decide) rfl (fun ls hl => ?_)
                        refine lv_goto (tgt := 73) C0.1 C0.2.1 dX1_isSame_110 (by decide) ?_
                        exact ih_73 (c9 + 1) (by omega) (by omega) ls (lv_sub hl [0, 1, 2, 3] rfl) _ _ hG hS
                      · exact absurd rfl c_102
              exact cut_73 (6 + 1) (0) (by omega) (by omega) ls (lv_sub hl [0, 1, 2, 3] rfl) _ _ hG hS
            · exact absurd rfl c_66
