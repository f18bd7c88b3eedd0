/-! something done to both, the dearer kinds -/
theorem cdP_v {n a b : Nat} (ha : a < n) (hb : b < n) (hab : a ≠ b) (hn : n ≤ 12) : cdP (nI a) (nI b) n = 0 := cdP_0 (tcIn_in ha (by omega)) (tcIn_in hb (by omega)) (fun z => hab ((nI_eq (by omega) (by omega)).mp z))
theorem cdSu_v {cn : Nat → Nat} {n st a b : Nat} (ha : a < n) (hb : b < n) (hab : a ≠ b) (hn : n ≤ 12) : cdSu (nI a) (nI b) cn n st = if cn a = cn b ∧ 3 ≤ st then 0 else 3 := by
  unfold cdSu; rw [if_pos (cdP_v ha hb hab hn), ix_nI (by omega), ix_nI (by omega)]
theorem cdSt_v {n st a b : Nat} (ha : a < n) (hb : b < n) (hab : a ≠ b) (hn : n ≤ 12) : cdSt (nI a) (nI b) n st = if 8 ≤ st then 0 else 3 := by
  unfold cdSt; rw [if_pos (cdP_v ha hb hab hn)]; rfl
theorem cdMv_v {cn : Nat → Nat} {n st a t : Nat} (ha : a < n) (ht : t < 6) (hn : n ≤ 12) : cdMv (nI a) (nI t) cn n st = if cn a = t ∨ st < way (cn a) t then 3 else 0 := by
  unfold cdMv; rw [if_pos (cdK_0 (tcIn_in ha (by omega)) (tcIn_in ht (by decide))), ix_nI (by omega), ix_nI (by omega)]
theorem cdDr_v {n st a t : Nat} (ha : a < n) (ht : t < 100) (hn : n ≤ 12) : cdDr (nI a) (nI t) n st = if 12 ≤ st then 0 else 3 := by
  unfold cdDr; rw [if_pos (cdK_0 (tcIn_in ha (by omega)) (tcIn_in ht (by decide)))]; rfl
set_option maxHeartbeats 4000000 in
set_option maxRecDepth 100000 in
theorem kL_works {l : Launch} (hlf : l.stackTraces = false) {D : va_G} {cI cJ : ClassId} {N0 : Nat} {h r1 r2 r3 r4 : Nat} {tk co cn wk : Nat → Nat} {n st : Nat} {ho ct sp : Int32} {g ra : Nat} {rw : Nat → Nat} {f : Nat → Nat → Nat} {Z : va_W} (hk : tOk tk co cn wk n st) (hy : tSy tk co cn wk n f) (x : Int32) (sort : Nat) (a : Nat) (b : Nat) (h0 : 3 ≤ sort ∧ sort ≤ 13) (h1 : a < n) (h2 : b < n) (h3 : sort < 11 → a ≠ b) : tcMe l yL_works wsL_works { frames := 9, cells := 4, slots := 24, locals := 156 } [.ref h, .ref g, .int (x), .int (nI (sort)), .int (nI (a)), .int (nI (b))] D cI cJ N0 (wB h r1 r2 r3 r4 cI tk co cn wk n ho st ct sp g ra rw cJ ho st ct sp n f Z) (fun v ws' => v = some (.int (nI (b2n true))) ∧ ∃ (tk' co' cn' : Nat → Nat) (st' d : Nat) (f' : Nat → Nat → Nat), d ≤ 12 ∧ st' + d = st ∧ tOk tk' co' cn' wk n st' ∧ tSy tk' co' cn' wk n f' ∧ ws' = wB h r1 r2 r3 r4 cI tk' co' cn' wk n ho st' ct (sp + nI d) g ra rw cJ ho st' ct (sp + nI d) n f' Z) 4 24 := by
  refine tcg_ofH (cc := cL_works) (maxL := 13) (ret := (some .boolean)) (hh := [(286, 360, 361, 31)]) (by decide) rfl (Nat.le_of_ble_eq_true rfl) ?_
  intro p e s m args below meth c C0 hr hlk htb hG ls hl
  show W p l e _ s m args below meth c s.heap [] 0 0 (tcEe below _ D N0 args s _ _) _
  have hl : lv_has ls 13 [(0, .ref h), (1, .ref g), (2, .int (x)), (3, .int (nI (sort))), (4, .int (nI (a))), (5, .int (nI (b)))] := hl
  have hG0 := hG
  have hS : va_S (tcA N0) s.heap s.heap [] := va_S.rf
  have hF : ∀ w ∈ wsX10, w ∈ wsL_works := by decide +kernel
  have w_all : Cond.fieldLink RL 9 "TicketCoincidencesLaw$Sim" "all" "[[I" ∈ wsL_works := by decide +kernel
  have w_store : Cond.fieldLink RL 52 "TicketCoincidencesLaw$Sim" "store" "I" ∈ wsL_works := by decide +kernel
  obtain ⟨hk1, hk2, hk3, hk4, hn12, hst⟩ := id hk
  have ba := hk1 a
  have bb := hk1 b
  have bca := hk2 a
  have bcb := hk2 b
  refine lv_aload_n C0.1 C0.2.1 dL_works_0 rfl (lv_at hl 1 rfl) ?_
  refine tc_callV (q0 := 5) C0 hG hS rfl rfl (kX1_town hlf hk hy   ) (cwV 0 C0.2.2.2.2 gL_works_X1_town rfl rfl rfl (by decide +kernel) ⟨(Nat.le_of_ble_eq_true rfl), (Nat.le_of_ble_eq_true rfl)⟩) rfl hl rfl (Nat.le_of_ble_eq_true rfl) dL_works_1 ⟨(Nat.le_of_ble_eq_true rfl), (Nat.le_of_ble_eq_true rfl)⟩ (fun H locs hG hS => ?_)
  have b_1 := tw_le tk co cn wk 0 hk.2.2.2.2.1
  refine lv_istore (lv' := [(6, .int (nI (tw tk co cn wk 0 n))), (0, .ref h), (1, .ref g), (2, .int (x)), (3, .int (nI (sort))), (4, .int (nI (a))), (5, .int (nI (b)))]) C0.1 C0.2.1 dL_works_4 hl (by decide) rfl (fun ls hl => ?_)
  refine lv_iload_n C0.1 C0.2.1 dL_works_6 rfl (lv_at hl 3 rfl) ?_
  refine lv_bipush (v := nI 8) C0.1 C0.2.1 dL_works_7 (by decide) ?_
  refine lv_ishr C0.1 C0.2.1 dL_works_9 ?_
  refine tc_any (fun x9 => ?_)
  refine lv_bipush (v := nI 6) C0.1 C0.2.1 dL_works_10 (by decide) ?_
  have hto := True.intro
  refine tc_callS C0 hG hS (kL_below hlf  (x9) (6) (by omega) (by omega)) (va_cwS 2 C0.2.2.2.2 gL_works_L_below rfl rfl rfl (by decide +kernel) ⟨(Nat.le_of_ble_eq_true rfl), (Nat.le_of_ble_eq_true rfl)⟩) rfl hl rfl (Nat.le_of_ble_eq_true rfl) dL_works_12 ⟨(Nat.le_of_ble_eq_true rfl), (Nat.le_of_ble_eq_true rfl)⟩ (fun H locs hG hS => ?_)
  have b_12 := (show blw x9 6 < 6 from blw_lt x9 (by omega))
  refine lv_istore (lv' := [(7, .int (nI (blw x9 6))), (6, .int (nI (tw tk co cn wk 0 n))), (0, .ref h), (1, .ref g), (2, .int (x)), (3, .int (nI (sort))), (4, .int (nI (a))), (5, .int (nI (b)))]) C0.1 C0.2.1 dL_works_15 hl (by decide) rfl (fun ls hl => ?_)
  refine lv_iload_n C0.1 C0.2.1 dL_works_17 rfl (lv_at hl 4 rfl) ?_
  refine lv_iconst (v := nI 3) C0.1 C0.2.1 dL_works_18 (by decide) ?_
  refine lv_ishr C0.1 C0.2.1 dL_works_19 ?_
  refine tc_any (fun x19 => ?_)
  refine lv_bipush (v := nI 100) C0.1 C0.2.1 dL_works_20 (by decide) ?_
  refine tc_callS C0 hG hS (kL_below hlf  (x19) (100) (by omega) (by omega)) (va_cwS 2 C0.2.2.2.2 gL_works_L_below rfl rfl rfl (by decide +kernel) ⟨(Nat.le_of_ble_eq_true rfl), (Nat.le_of_ble_eq_true rfl)⟩) rfl hl rfl (Nat.le_of_ble_eq_true rfl) dL_works_22 ⟨(Nat.le_of_ble_eq_true rfl), (Nat.le_of_ble_eq_true rfl)⟩ (fun H locs hG hS => ?_)
  have b_22 := (show blw x19 100 < 100 from blw_lt x19 (by omega))
  refine lv_istore (lv' := [(8, .int (nI (blw x19 100))), (7, .int (nI (blw x9 6))), (6, .int (nI (tw tk co cn wk 0 n))), (0, .ref h), (1, .ref g), (2, .int (x)), (3, .int (nI (sort))), (4, .int (nI (a))), (5, .int (nI (b)))]) C0.1 C0.2.1 dL_works_25 hl (by decide) rfl (fun ls hl => ?_)
  refine lv_iload_n C0.1 C0.2.1 dL_works_27 rfl (lv_at hl 6 rfl) ?_
  refine lv_bipush (v := nI 7) C0.1 C0.2.1 dL_works_28 (by decide) ?_
  refine tn_icmp_ge (tgt := 37) C0.1 C0.2.1 dL_works_30 (by decide) (by omega) (by omega) (fun c_30 => ?_) (fun c_30 => ?_)
  · refine lv_iload_n C0.1 C0.2.1 dL_works_37 rfl (lv_at hl 6 rfl) ?_
    refine lv_bipush (v := nI 9) C0.1 C0.2.1 dL_works_38 (by decide) ?_
    refine tn_icmp_ge (tgt := 48) C0.1 C0.2.1 dL_works_40 (by decide) (by omega) (by omega) (fun c_40 => ?_) (fun c_40 => ?_)
    · refine lv_iload_n C0.1 C0.2.1 dL_works_48 rfl (lv_at hl 6 rfl) ?_
      refine lv_bipush (v := nI 11) C0.1 C0.2.1 dL_works_49 (by decide) ?_
      refine tn_icmp_ge (tgt := 59) C0.1 C0.2.1 dL_works_51 (by decide) (by omega) (by omega) (fun c_51 => ?_) (fun c_51 => ?_)
      · refine lv_iload_n C0.1 C0.2.1 dL_works_59 rfl (lv_at hl 6 rfl) ?_
        refine lv_bipush (v := nI 13) C0.1 C0.2.1 dL_works_60 (by decide) ?_
        refine tn_icmp_ge (tgt := 82) C0.1 C0.2.1 dL_works_62 (by decide) (by omega) (by omega) (fun c_62 => ?_) (fun c_62 => ?_)
        · refine lv_bipush (v := nI 12) C0.1 C0.2.1 dL_works_82 (by decide) ?_
          refine lv_istore (lv' := [(9, .int (nI (12))), (8, .int (nI (blw x19 100))), (7, .int (nI (blw x9 6))), (6, .int (nI (tw tk co cn wk 0 n))), (0, .ref h), (1, .ref g), (2, .int (x)), (3, .int (nI (sort))), (4, .int (nI (a))), (5, .int (nI (b)))]) C0.1 C0.2.1 dL_works_84 hl (by decide) rfl (fun ls hl => ?_)
          refine lv_iload C0.1 C0.2.1 dL_works_86 (lv_at hl 0 rfl) ?_
          refine tn_if_le (tgt := 131) C0.1 C0.2.1 dL_works_88 (by decide) (by omega) (fun c_88 => ?_) (fun c_88 => ?_)
          · exact absurd c_88 (by decide)
          · refine lv_iload C0.1 C0.2.1 dL_works_91 (lv_at hl 0 rfl) ?_
            refine lv_aload_n C0.1 C0.2.1 dL_works_93 rfl (lv_at hl 5 rfl) ?_
            refine tgX1_store C0 hF hG w_store dL_works_94 ?_
            refine tn_icmp_gt (tgt := 131) C0.1 C0.2.1 dL_works_97 (by decide) (by omega) (by omega) (fun c_97 => ?_) (fun c_97 => ?_)
            · refine lv_iconst (v := nI 0) C0.1 C0.2.1 dL_works_131 (by decide) ?_
              refine lv_istore (lv' := [(10, .int (nI (0))), (9, .int (nI (12))), (8, .int (nI (blw x19 100))), (7, .int (nI (blw x9 6))), (6, .int (nI (tw tk co cn wk 0 n))), (0, .ref h), (1, .ref g), (2, .int (x)), (3, .int (nI (sort))), (4, .int (nI (a))), (5, .int (nI (b)))]) C0.1 C0.2.1 dL_works_132 hl (by decide) rfl (fun ls hl => ?_)
              refine lv_iload C0.1 C0.2.1 dL_works_134 (lv_at hl 1 rfl) ?_
              refine lv_istore (lv' := [(11, .int (nI (12))), (10, .int (nI (0))), (9, .int (nI (12))), (8, .int (nI (blw x19 100))), (7, .int (nI (blw x9 6))), (6, .int (nI (tw tk co cn wk 0 n))), (0, .ref h), (1, .ref g), (2, .int (x)), (3, .int (nI (sort))), (4, .int (nI (a))), (5, .int (nI (b)))]) C0.1 C0.2.1 dL_works_136 hl (by decide) rfl (fun ls hl => ?_)
              refine lv_iload C0.1 C0.2.1 dL_works_138 (lv_at hl 1 rfl) ?_
              refine tn_if_eq (tgt := 286) C0.1 C0.2.1 dL_works_140 (by decide) (by omega) (fun c_140 => ?_) (fun c_140 => ?_)
              · refine lv_iload_n C0.1 C0.2.1 dL_works_286 rfl (lv_at hl 9 rfl) ?_
                refine lv_bipush (v := nI 7) C0.1 C0.2.1 dL_works_287 (by decide) ?_
                refine tn_icmp_ge (tgt := 303) C0.1 C0.2.1 dL_works_289 (by decide) (by omega) (by omega) (fun c_289 => ?_) (fun c_289 => ?_)
                · refine lv_iload_n C0.1 C0.2.1 dL_works_303 rfl (lv_at hl 9 rfl) ?_
                  refine lv_bipush (v := nI 11) C0.1 C0.2.1 dL_works_304 (by decide) ?_
                  refine tn_icmp_ge (tgt := 320) C0.1 C0.2.1 dL_works_306 (by decide) (by omega) (by omega) (fun c_306 => ?_) (fun c_306 => ?_)
                  · refine lv_iload_n C0.1 C0.2.1 dL_works_320 rfl (lv_at hl 9 rfl) ?_
                    refine lv_bipush (v := nI 13) C0.1 C0.2.1 dL_works_321 (by decide) ?_
                    refine tn_icmp_ge (tgt := 337) C0.1 C0.2.1 dL_works_323 (by decide) (by omega) (by omega) (fun c_323 => ?_) (fun c_323 => ?_)
                    · refine lv_aload_n C0.1 C0.2.1 dL_works_337 rfl (lv_at hl 6 rfl) ?_
                      refine lv_iload C0.1 C0.2.1 dL_works_338 (lv_at hl 10 rfl) ?_
                      refine lv_iload C0.1 C0.2.1 dL_works_340 (lv_at hl 3 rfl) ?_
                      refine tc_callVx (q0 := 0) C0 hG hS rfl rfl (kX0_draw hlf hk  (nI (a)) (nI (blw x19 100)) ) (cwV 2 C0.2.2.2.2 gL_works_X0_draw rfl rfl rfl (by decide +kernel) ⟨(Nat.le_of_ble_eq_true rfl), (Nat.le_of_ble_eq_true rfl)⟩) rfl hl rfl (Nat.le_of_ble_eq_true rfl) dL_works_342 ⟨(Nat.le_of_ble_eq_true rfl), (Nat.le_of_ble_eq_true rfl)⟩ ?_ (fun c_342 H locs hG hS => ?_)
                      · intro i E q9 ce H locs hi hcd hG hS hce hcv hcl
                        have hi9 : i = 2 := (by rw [cdDr_v h1 b_22 hn12] at hcd; split at hcd <;> omega)
                        subst hi9
                        have hE : E = "java/lang/IllegalStateException" := (Option.some.inj (show some "java/lang/IllegalStateException" = some E from hi)).symm
                        subst hE
                        refine vx_catch C0.2.2.2.1 [] ⟨286, 360, 361, 31⟩ [] htb (fun z hz => by cases hz) (by decide) (by decide) (C0.2.2.2.2 (.classLink RL 31 "java/lang/IllegalStateException") (by decide +kernel)) (va_Nw.use rfl (hG.2.2.2.2.2.2.2.2.1 "java/lang/IllegalStateException" (by decide))) hce hcv hcl ?_
                        refine lv_astore (lv' := [(12, .ref q9), (11, .int (nI (12))), (10, .int (nI (0))), (9, .int (nI (12))), (8, .int (nI (blw x19 100))), (7, .int (nI (blw x9 6))), (6, .int (nI (tw tk co cn wk 0 n))), (0, .ref h), (1, .ref g), (2, .int (x)), (3, .int (nI (sort))), (4, .int (nI (a))), (5, .int (nI (b)))]) C0.1 C0.2.1 dL_works_361 hl (by decide) rfl (fun ls hl => ?_)
                        refine lv_iload C0.1 C0.2.1 dL_works_363 (lv_at hl 2 rfl) ?_
                        refine tn_if_ne (tgt := 372) C0.1 C0.2.1 dL_works_365 (by decide) (by omega) (fun c_365 => ?_) (fun c_365 => ?_)
                        · exact absurd c_365 (by decide)
                        · refine lv_iconst (v := nI 1) C0.1 C0.2.1 dL_works_368 (by decide) ?_
                          refine lv_goto (tgt := 373) C0.1 C0.2.1 dL_works_369 (by decide) ?_
                          refine tc_top (y := nI (b2n true)) rfl ?_
                          exact tce_zret C0 hr hlk hG hS ⟨rfl, tk, co, cn, st, 0, f, by omega, rfl, hk, hy, by rw [show sp + nI 0 = sp from Int32.add_zero sp]⟩ (Nat.le_of_ble_eq_true rfl) (Nat.le_of_ble_eq_true rfl) dL_works_373
                      · refine W.eq (g2 := F0 m 345 ls (.int (nI (tk (ix (nI (a))))) :: [])) rfl ?_
                        have hG : tcG D cI cJ N0 (wB h r1 r2 r3 r4 cI (va_up tk (ix (nI (a))) (ix (nI (blw x19 100)))) co cn wk n ho (st - 12) ct (sp + nI 12) g ra rw cJ ho st ct sp n f Z) s H := hG
                        simp only [ix_nI (show a < 2 ^ 31 by omega), ix_nI (show blw x19 100 < 2 ^ 31 by omega)] at hG
                        have hG : tcG D cI cJ N0 (wB h r1 r2 r3 r4 cI (va_up tk ((a)) ((blw x19 100))) co cn wk n ho (st - 12) ct (sp + nI 12) g ra rw cJ ho st ct sp n f Z) s H := hG
                        try simp only [ix_nI (show a < 2 ^ 31 by omega), ix_nI (show blw x19 100 < 2 ^ 31 by omega)]
                        exact absurd c_342 (by rw [cdDr_v h1 b_22 hn12, if_neg (by omega)]; decide)
                    · exact absurd c_323 (by omega)
                  · exact absurd c_306 (by omega)
                · exact absurd c_289 (by omega)
              · exact absurd c_140 (by decide)
            · refine lv_iload_n C0.1 C0.2.1 dL_works_100 rfl (lv_at hl 7 rfl) ?_
              refine lv_bipush (v := nI 6) C0.1 C0.2.1 dL_works_101 (by decide) ?_
              refine tn_icmp_gt (tgt := 127) C0.1 C0.2.1 dL_works_103 (by decide) (by omega) (by omega) (fun c_103 => ?_) (fun c_103 => ?_)
              · refine lv_iconst (v := nI 1) C0.1 C0.2.1 dL_works_127 (by decide) ?_
                refine lv_goto (tgt := 132) C0.1 C0.2.1 dL_works_128 (by decide) ?_
                refine lv_istore (lv' := [(10, .int (nI (1))), (9, .int (nI (12))), (8, .int (nI (blw x19 100))), (7, .int (nI (blw x9 6))), (6, .int (nI (tw tk co cn wk 0 n))), (0, .ref h), (1, .ref g), (2, .int (x)), (3, .int (nI (sort))), (4, .int (nI (a))), (5, .int (nI (b)))]) C0.1 C0.2.1 dL_works_132 hl (by decide) rfl (fun ls hl => ?_)
                refine lv_iload C0.1 C0.2.1 dL_works_134 (lv_at hl 1 rfl) ?_
                refine lv_istore (lv' := [(11, .int (nI (12))), (10, .int (nI (1))), (9, .int (nI (12))), (8, .int (nI (blw x19 100))), (7, .int (nI (blw x9 6))), (6, .int (nI (tw tk co cn wk 0 n))), (0, .ref h), (1, .ref g), (2, .int (x)), (3, .int (nI (sort))), (4, .int (nI (a))), (5, .int (nI (b)))]) C0.1 C0.2.1 dL_works_136 hl (by decide) rfl (fun ls hl => ?_)
                refine lv_iload C0.1 C0.2.1 dL_works_138 (lv_at hl 1 rfl) ?_
                refine tn_if_eq (tgt := 286) C0.1 C0.2.1 dL_works_140 (by decide) (by omega) (fun c_140 => ?_) (fun c_140 => ?_)
                · exact absurd c_140 (by decide)
                · refine lv_aload_n C0.1 C0.2.1 dL_works_143 rfl (lv_at hl 7 rfl) ?_
                  refine lv_iload C0.1 C0.2.1 dL_works_144 (lv_at hl 2 rfl) ?_
                  refine tc_callVv (q0 := 5) C0 hG hS rfl rfl (kX1_pay hlf hk hy  (12) (by omega)) (cwV 1 C0.2.2.2.2 gL_works_X1_pay rfl rfl rfl (by decide +kernel) ⟨(Nat.le_of_ble_eq_true rfl), (Nat.le_of_ble_eq_true rfl)⟩) rfl hl rfl (Nat.le_of_ble_eq_true rfl) dL_works_146 ⟨(Nat.le_of_ble_eq_true rfl), (Nat.le_of_ble_eq_true rfl)⟩ (fun H locs hG hS => ?_)
                  have hG : tcG D cI cJ N0 (wB h r1 r2 r3 r4 cI tk co cn wk n ho st ct sp g ra rw cJ ho (st - 12) ct (sp + nI 12) n f Z) s H := hG
                  have hk_146 : tOk tk co cn wk n (st - 12) := hk.st (by have := hk.2.2.2.2.2; omega)
                  refine lv_iload_n C0.1 C0.2.1 dL_works_149 rfl (lv_at hl 9 rfl) ?_
                  refine lv_bipush (v := nI 7) C0.1 C0.2.1 dL_works_150 (by decide) ?_
                  refine tn_icmp_ge (tgt := 198) C0.1 C0.2.1 dL_works_152 (by decide) (by omega) (by omega) (fun c_152 => ?_) (fun c_152 => ?_)
                  · refine lv_iload_n C0.1 C0.2.1 dL_works_198 rfl (lv_at hl 9 rfl) ?_
                    refine lv_bipush (v := nI 11) C0.1 C0.2.1 dL_works_199 (by decide) ?_
                    refine tn_icmp_ge (tgt := 235) C0.1 C0.2.1 dL_works_201 (by decide) (by omega) (by omega) (fun c_201 => ?_) (fun c_201 => ?_)
                    · refine lv_iload_n C0.1 C0.2.1 dL_works_235 rfl (lv_at hl 9 rfl) ?_
                      refine lv_bipush (v := nI 13) C0.1 C0.2.1 dL_works_236 (by decide) ?_
                      refine tn_icmp_ge (tgt := 255) C0.1 C0.2.1 dL_works_238 (by decide) (by omega) (by omega) (fun c_238 => ?_) (fun c_238 => ?_)
                      · refine lv_aload_n C0.1 C0.2.1 dL_works_255 rfl (lv_at hl 7 rfl) ?_
                        refine lv_iload C0.1 C0.2.1 dL_works_256 (lv_at hl 10 rfl) ?_
                        refine tc_callV (q0 := 5) C0 hG hS rfl rfl (kX1_ticket hlf hk_146 hy  (a) (by omega)) (cwV 1 C0.2.2.2.2 gL_works_X1_ticket rfl rfl rfl (by decide +kernel) ⟨(Nat.le_of_ble_eq_true rfl), (Nat.le_of_ble_eq_true rfl)⟩) rfl hl rfl (Nat.le_of_ble_eq_true rfl) dL_works_258 ⟨(Nat.le_of_ble_eq_true rfl), (Nat.le_of_ble_eq_true rfl)⟩ (fun H locs hG hS => ?_)
                        refine lv_istore (lv' := [(11, .int (nI (tk a))), (10, .int (nI (1))), (9, .int (nI (12))), (8, .int (nI (blw x19 100))), (7, .int (nI (blw x9 6))), (6, .int (nI (tw tk co cn wk 0 n))), (0, .ref h), (1, .ref g), (2, .int (x)), (3, .int (nI (sort))), (4, .int (nI (a))), (5, .int (nI (b)))]) C0.1 C0.2.1 dL_works_261 hl (by decide) rfl (fun ls hl => ?_)
                        refine lv_aload_n C0.1 C0.2.1 dL_works_263 rfl (lv_at hl 7 rfl) ?_
                        refine lv_iload C0.1 C0.2.1 dL_works_264 (lv_at hl 10 rfl) ?_
                        refine lv_iload C0.1 C0.2.1 dL_works_266 (lv_at hl 3 rfl) ?_
                        refine tc_callVv (q0 := 5) C0 hG hS rfl rfl (kX1_set hlf hk_146 hy  (a) (blw x19 100) (by omega) (by omega)) (cwV 2 C0.2.2.2.2 gL_works_X1_set rfl rfl rfl (by decide +kernel) ⟨(Nat.le_of_ble_eq_true rfl), (Nat.le_of_ble_eq_true rfl)⟩) rfl hl rfl (Nat.le_of_ble_eq_true rfl) dL_works_268 ⟨(Nat.le_of_ble_eq_true rfl), (Nat.le_of_ble_eq_true rfl)⟩ (fun H locs hG hS => ?_)
                        have hG : tcG D cI cJ N0 (wB h r1 r2 r3 r4 cI tk co cn wk n ho st ct sp g ra rw cJ ho (st - 12) ct (sp + nI 12) n (upR (upR f a 0 ((blw x19 100) / 10)) a 1 ((blw x19 100) % 10)) Z) s H := hG
                        have hy_268 : tSy (va_up tk a (blw x19 100)) co cn wk n (upR (upR f a 0 ((blw x19 100) / 10)) a 1 ((blw x19 100) % 10)) := tSy.set hy
                        have hk_268 : tOk (va_up tk a (blw x19 100)) co cn wk n (st - 12) := hk_146.tk (up_lt hk_146.1 (by omega) a)
                        refine lv_iload_n C0.1 C0.2.1 dL_works_271 rfl (lv_at hl 9 rfl) ?_
                        refine lv_bipush (v := nI 11) C0.1 C0.2.1 dL_works_272 (by decide) ?_
                        refine tn_icmp_ge (tgt := 286) C0.1 C0.2.1 dL_works_274 (by decide) (by omega) (by omega) (fun c_274 => ?_) (fun c_274 => ?_)
                        · refine lv_iload_n C0.1 C0.2.1 dL_works_286 rfl (lv_at hl 9 rfl) ?_
                          refine lv_bipush (v := nI 7) C0.1 C0.2.1 dL_works_287 (by decide) ?_
                          refine tn_icmp_ge (tgt := 303) C0.1 C0.2.1 dL_works_289 (by decide) (by omega) (by omega) (fun c_289 => ?_) (fun c_289 => ?_)
                          · refine lv_iload_n C0.1 C0.2.1 dL_works_303 rfl (lv_at hl 9 rfl) ?_
                            refine lv_bipush (v := nI 11) C0.1 C0.2.1 dL_works_304 (by decide) ?_
                            refine tn_icmp_ge (tgt := 320) C0.1 C0.2.1 dL_works_306 (by decide) (by omega) (by omega) (fun c_306 => ?_) (fun c_306 => ?_)
                            · refine lv_iload_n C0.1 C0.2.1 dL_works_320 rfl (lv_at hl 9 rfl) ?_
                              refine lv_bipush (v := nI 13) C0.1 C0.2.1 dL_works_321 (by decide) ?_
                              refine tn_icmp_ge (tgt := 337) C0.1 C0.2.1 dL_works_323 (by decide) (by omega) (by omega) (fun c_323 => ?_) (fun c_323 => ?_)
                              · refine lv_aload_n C0.1 C0.2.1 dL_works_337 rfl (lv_at hl 6 rfl) ?_
                                refine lv_iload C0.1 C0.2.1 dL_works_338 (lv_at hl 10 rfl) ?_
                                refine lv_iload C0.1 C0.2.1 dL_works_340 (lv_at hl 3 rfl) ?_
                                refine tc_callVx (q0 := 0) C0 hG hS rfl rfl (kX0_draw hlf hk  (nI (a)) (nI (blw x19 100)) ) (cwV 2 C0.2.2.2.2 gL_works_X0_draw rfl rfl rfl (by decide +kernel) ⟨(Nat.le_of_ble_eq_true rfl), (Nat.le_of_ble_eq_true rfl)⟩) rfl hl rfl (Nat.le_of_ble_eq_true rfl) dL_works_342 ⟨(Nat.le_of_ble_eq_true rfl), (Nat.le_of_ble_eq_true rfl)⟩ ?_ (fun c_342 H locs hG hS => ?_)
                                · intro i E q9 ce H locs hi hcd hG hS hce hcv hcl
                                  exact absurd hcd (by rw [cdDr_v h1 b_22 hn12, if_pos (by omega)]; omega)
                                · refine W.eq (g2 := F0 m 345 ls (.int (nI (tk (ix (nI (a))))) :: [])) rfl ?_
                                  have hG : tcG D cI cJ N0 (wB h r1 r2 r3 r4 cI (va_up tk (ix (nI (a))) (ix (nI (blw x19 100)))) co cn wk n ho (st - 12) ct (sp + nI 12) g ra rw cJ ho (st - 12) ct (sp + nI 12) n (upR (upR f a 0 ((blw x19 100) / 10)) a 1 ((blw x19 100) % 10)) Z) s H := hG
                                  simp only [ix_nI (show a < 2 ^ 31 by omega), ix_nI (show blw x19 100 < 2 ^ 31 by omega)] at hG
                                  have hG : tcG D cI cJ N0 (wB h r1 r2 r3 r4 cI (va_up tk ((a)) ((blw x19 100))) co cn wk n ho (st - 12) ct (sp + nI 12) g ra rw cJ ho (st - 12) ct (sp + nI 12) n (upR (upR f a 0 ((blw x19 100) / 10)) a 1 ((blw x19 100) % 10)) Z) s H := hG
                                  try simp only [ix_nI (show a < 2 ^ 31 by omega), ix_nI (show blw x19 100 < 2 ^ 31 by omega)]
                                  refine lv_iload C0.1 C0.2.1 dL_works_345 (lv_at hl 0 rfl) ?_
                                  refine tn_icmp_ne (tgt := 359) C0.1 C0.2.1 dL_works_347 (by decide) (by omega) (by omega) (fun c_347 => ?_) (fun c_347 => ?_)
                                  · exact absurd rfl c_347
                                  · refine lv_iload C0.1 C0.2.1 dL_works_350 (lv_at hl 1 rfl) ?_
                                    refine tn_if_eq (tgt := 359) C0.1 C0.2.1 dL_works_352 (by decide) (by omega) (fun c_352 => ?_) (fun c_352 => ?_)
                                    · exact absurd c_352 (by decide)
                                    · refine lv_iconst (v := nI 1) C0.1 C0.2.1 dL_works_355 (by decide) ?_
                                      refine lv_goto (tgt := 360) C0.1 C0.2.1 dL_works_356 (by decide) ?_
                                      refine tc_top (y := nI (b2n true)) rfl ?_
                                      exact tce_zret C0 hr hlk hG hS ⟨rfl, va_up tk ((a)) ((blw x19 100)), co, cn, st - 12, 12, upR (upR f a 0 ((blw x19 100) / 10)) a 1 ((blw x19 100) % 10), by omega, by omega, hk_268, hy_268, rfl⟩ (Nat.le_of_ble_eq_true rfl) (Nat.le_of_ble_eq_true rfl) dL_works_360
                              · exact absurd c_323 (by omega)
                            · exact absurd c_306 (by omega)
                          · exact absurd c_289 (by omega)
                        · exact absurd c_274 (by omega)
                      · exact absurd c_238 (by omega)
                    · exact absurd c_201 (by omega)
                  · exact absurd c_152 (by omega)
              · exact absurd c_103 (by omega)
        · refine lv_aload_n C0.1 C0.2.1 dL_works_65 rfl (lv_at hl 4 rfl) ?_
          refine tgX1_all C0 hF hG w_all dL_works_66 ?_
          refine lv_iload C0.1 C0.2.1 dL_works_69 (lv_at hl 7 rfl) ?_
          refine ts_aald (k := a) C0 hG (by omega) (by omega) dL_works_71 ?_
          refine lv_iconst (v := nI 3) C0.1 C0.2.1 dL_works_72 (by decide) ?_
          refine ts_ald (k := a) (j := 3) C0 hG (by omega) (by decide) dL_works_73 ?_
          refine tc_top (y := nI (cn (a))) (congrArg nI (hy (a) (by omega)).2.2.2.1) ?_
          have b_73 := hk.2.2.1 (a)
          refine lv_iload C0.1 C0.2.1 dL_works_74 (lv_at hl 1 rfl) ?_
          have hw0 := way_0 (a := cn a) (b := blw x9 6) (hk3 a) b_12
          refine tc_callS C0 hG hS (kX1_cost hlf hk hy  (cn (a)) (blw x9 6) (by omega) (by omega)) (va_cwS 2 C0.2.2.2.2 gL_works_X1_cost rfl rfl rfl (by decide +kernel) ⟨(Nat.le_of_ble_eq_true rfl), (Nat.le_of_ble_eq_true rfl)⟩) rfl hl rfl (Nat.le_of_ble_eq_true rfl) dL_works_76 ⟨(Nat.le_of_ble_eq_true rfl), (Nat.le_of_ble_eq_true rfl)⟩ (fun H locs hG hS => ?_)
          have b_76 := way_le (cn (a)) (blw x9 6) (by omega) (by omega)
          refine lv_goto (tgt := 84) C0.1 C0.2.1 dL_works_79 (by decide) ?_
          refine lv_istore (lv' := [(9, .int (nI (way (cn (a)) (blw x9 6)))), (8, .int (nI (blw x19 100))), (7, .int (nI (blw x9 6))), (6, .int (nI (tw tk co cn wk 0 n))), (0, .ref h), (1, .ref g), (2, .int (x)), (3, .int (nI (sort))), (4, .int (nI (a))), (5, .int (nI (b)))]) C0.1 C0.2.1 dL_works_84 hl (by decide) rfl (fun ls hl => ?_)
          refine lv_iload C0.1 C0.2.1 dL_works_86 (lv_at hl 0 rfl) ?_
          refine tn_if_le (tgt := 131) C0.1 C0.2.1 dL_works_88 (by decide) (by omega) (fun c_88 => ?_) (fun c_88 => ?_)
          · refine lv_iconst (v := nI 0) C0.1 C0.2.1 dL_works_131 (by decide) ?_
            refine lv_istore (lv' := [(10, .int (nI (0))), (9, .int (nI (way (cn (a)) (blw x9 6)))), (8, .int (nI (blw x19 100))), (7, .int (nI (blw x9 6))), (6, .int (nI (tw tk co cn wk 0 n))), (0, .ref h), (1, .ref g), (2, .int (x)), (3, .int (nI (sort))), (4, .int (nI (a))), (5, .int (nI (b)))]) C0.1 C0.2.1 dL_works_132 hl (by decide) rfl (fun ls hl => ?_)
            refine lv_iload C0.1 C0.2.1 dL_works_134 (lv_at hl 1 rfl) ?_
            refine lv_istore (lv' := [(11, .int (nI (way (cn (a)) (blw x9 6)))), (10, .int (nI (0))), (9, .int (nI (way (cn (a)) (blw x9 6)))), (8, .int (nI (blw x19 100))), (7, .int (nI (blw x9 6))), (6, .int (nI (tw tk co cn wk 0 n))), (0, .ref h), (1, .ref g), (2, .int (x)), (3, .int (nI (sort))), (4, .int (nI (a))), (5, .int (nI (b)))]) C0.1 C0.2.1 dL_works_136 hl (by decide) rfl (fun ls hl => ?_)
            refine lv_iload C0.1 C0.2.1 dL_works_138 (lv_at hl 1 rfl) ?_
            refine tn_if_eq (tgt := 286) C0.1 C0.2.1 dL_works_140 (by decide) (by omega) (fun c_140 => ?_) (fun c_140 => ?_)
            · refine lv_iload_n C0.1 C0.2.1 dL_works_286 rfl (lv_at hl 9 rfl) ?_
              refine lv_bipush (v := nI 7) C0.1 C0.2.1 dL_works_287 (by decide) ?_
              refine tn_icmp_ge (tgt := 303) C0.1 C0.2.1 dL_works_289 (by decide) (by omega) (by omega) (fun c_289 => ?_) (fun c_289 => ?_)
              · refine lv_iload_n C0.1 C0.2.1 dL_works_303 rfl (lv_at hl 9 rfl) ?_
                refine lv_bipush (v := nI 11) C0.1 C0.2.1 dL_works_304 (by decide) ?_
                refine tn_icmp_ge (tgt := 320) C0.1 C0.2.1 dL_works_306 (by decide) (by omega) (by omega) (fun c_306 => ?_) (fun c_306 => ?_)
                · refine lv_iload_n C0.1 C0.2.1 dL_works_320 rfl (lv_at hl 9 rfl) ?_
                  refine lv_bipush (v := nI 13) C0.1 C0.2.1 dL_works_321 (by decide) ?_
                  refine tn_icmp_ge (tgt := 337) C0.1 C0.2.1 dL_works_323 (by decide) (by omega) (by omega) (fun c_323 => ?_) (fun c_323 => ?_)
                  · exact absurd c_323 (by omega)
                  · refine lv_aload_n C0.1 C0.2.1 dL_works_326 rfl (lv_at hl 6 rfl) ?_
                    refine lv_iload C0.1 C0.2.1 dL_works_327 (lv_at hl 10 rfl) ?_
                    refine lv_iload C0.1 C0.2.1 dL_works_329 (lv_at hl 4 rfl) ?_
                    refine tc_callVx (q0 := 0) C0 hG hS rfl rfl (kX0_move hlf hk  (nI (a)) (nI (blw x9 6)) ) (cwV 2 C0.2.2.2.2 gL_works_X0_move rfl rfl rfl (by decide +kernel) ⟨(Nat.le_of_ble_eq_true rfl), (Nat.le_of_ble_eq_true rfl)⟩) rfl hl rfl (Nat.le_of_ble_eq_true rfl) dL_works_331 ⟨(Nat.le_of_ble_eq_true rfl), (Nat.le_of_ble_eq_true rfl)⟩ ?_ (fun c_331 H locs hG hS => ?_)
                    · intro i E q9 ce H locs hi hcd hG hS hce hcv hcl
                      have hi9 : i = 2 := (by rw [cdMv_v h1 b_12 hn12] at hcd; split at hcd <;> omega)
                      subst hi9
                      have hE : E = "java/lang/IllegalStateException" := (Option.some.inj (show some "java/lang/IllegalStateException" = some E from hi)).symm
                      subst hE
                      refine vx_catch C0.2.2.2.1 [] ⟨286, 360, 361, 31⟩ [] htb (fun z hz => by cases hz) (by decide) (by decide) (C0.2.2.2.2 (.classLink RL 31 "java/lang/IllegalStateException") (by decide +kernel)) (va_Nw.use rfl (hG.2.2.2.2.2.2.2.2.1 "java/lang/IllegalStateException" (by decide))) hce hcv hcl ?_
                      refine lv_astore (lv' := [(12, .ref q9), (11, .int (nI (way (cn (a)) (blw x9 6)))), (10, .int (nI (0))), (9, .int (nI (way (cn (a)) (blw x9 6)))), (8, .int (nI (blw x19 100))), (7, .int (nI (blw x9 6))), (6, .int (nI (tw tk co cn wk 0 n))), (0, .ref h), (1, .ref g), (2, .int (x)), (3, .int (nI (sort))), (4, .int (nI (a))), (5, .int (nI (b)))]) C0.1 C0.2.1 dL_works_361 hl (by decide) rfl (fun ls hl => ?_)
                      refine lv_iload C0.1 C0.2.1 dL_works_363 (lv_at hl 2 rfl) ?_
                      refine tn_if_ne (tgt := 372) C0.1 C0.2.1 dL_works_365 (by decide) (by omega) (fun c_365 => ?_) (fun c_365 => ?_)
                      · exact absurd c_365 (by decide)
                      · refine lv_iconst (v := nI 1) C0.1 C0.2.1 dL_works_368 (by decide) ?_
                        refine lv_goto (tgt := 373) C0.1 C0.2.1 dL_works_369 (by decide) ?_
                        refine tc_top (y := nI (b2n true)) rfl ?_
                        exact tce_zret C0 hr hlk hG hS ⟨rfl, tk, co, cn, st, 0, f, by omega, rfl, hk, hy, by rw [show sp + nI 0 = sp from Int32.add_zero sp]⟩ (Nat.le_of_ble_eq_true rfl) (Nat.le_of_ble_eq_true rfl) dL_works_373
                    · refine W.eq (g2 := F0 m 334 ls (.int (nI (way (cn (ix (nI (a)))) (ix (nI (blw x9 6))))) :: [])) rfl ?_
                      have hG : tcG D cI cJ N0 (wB h r1 r2 r3 r4 cI tk co (va_up cn (ix (nI (a))) (ix (nI (blw x9 6)))) wk n ho (st - way (cn (ix (nI (a)))) (ix (nI (blw x9 6)))) ct (sp + nI (way (cn (ix (nI (a)))) (ix (nI (blw x9 6))))) g ra rw cJ ho st ct sp n f Z) s H := hG
                      simp only [ix_nI (show a < 2 ^ 31 by omega), ix_nI (show blw x9 6 < 2 ^ 31 by omega)] at hG
                      have hG : tcG D cI cJ N0 (wB h r1 r2 r3 r4 cI tk co (va_up cn ((a)) ((blw x9 6))) wk n ho (st - way (cn ((a))) ((blw x9 6))) ct (sp + nI (way (cn ((a))) ((blw x9 6)))) g ra rw cJ ho st ct sp n f Z) s H := hG
                      try simp only [ix_nI (show a < 2 ^ 31 by omega), ix_nI (show blw x9 6 < 2 ^ 31 by omega)]
                      exact absurd c_331 (by rw [cdMv_v h1 b_12 hn12, if_pos (by omega)]; decide)
                · exact absurd c_306 (by omega)
              · exact absurd c_289 (by omega)
            · exact absurd c_140 (by decide)
          · refine lv_iload C0.1 C0.2.1 dL_works_91 (lv_at hl 0 rfl) ?_
            refine lv_aload_n C0.1 C0.2.1 dL_works_93 rfl (lv_at hl 5 rfl) ?_
            refine tgX1_store C0 hF hG w_store dL_works_94 ?_
            refine tn_icmp_gt (tgt := 131) C0.1 C0.2.1 dL_works_97 (by decide) (by omega) (by omega) (fun c_97 => ?_) (fun c_97 => ?_)
            · refine lv_iconst (v := nI 0) C0.1 C0.2.1 dL_works_131 (by decide) ?_
              refine lv_istore (lv' := [(10, .int (nI (0))), (9, .int (nI (way (cn (a)) (blw x9 6)))), (8, .int (nI (blw x19 100))), (7, .int (nI (blw x9 6))), (6, .int (nI (tw tk co cn wk 0 n))), (0, .ref h), (1, .ref g), (2, .int (x)), (3, .int (nI (sort))), (4, .int (nI (a))), (5, .int (nI (b)))]) C0.1 C0.2.1 dL_works_132 hl (by decide) rfl (fun ls hl => ?_)
              refine lv_iload C0.1 C0.2.1 dL_works_134 (lv_at hl 1 rfl) ?_
              refine lv_istore (lv' := [(11, .int (nI (way (cn (a)) (blw x9 6)))), (10, .int (nI (0))), (9, .int (nI (way (cn (a)) (blw x9 6)))), (8, .int (nI (blw x19 100))), (7, .int (nI (blw x9 6))), (6, .int (nI (tw tk co cn wk 0 n))), (0, .ref h), (1, .ref g), (2, .int (x)), (3, .int (nI (sort))), (4, .int (nI (a))), (5, .int (nI (b)))]) C0.1 C0.2.1 dL_works_136 hl (by decide) rfl (fun ls hl => ?_)
              refine lv_iload C0.1 C0.2.1 dL_works_138 (lv_at hl 1 rfl) ?_
              refine tn_if_eq (tgt := 286) C0.1 C0.2.1 dL_works_140 (by decide) (by omega) (fun c_140 => ?_) (fun c_140 => ?_)
              · refine lv_iload_n C0.1 C0.2.1 dL_works_286 rfl (lv_at hl 9 rfl) ?_
                refine lv_bipush (v := nI 7) C0.1 C0.2.1 dL_works_287 (by decide) ?_
                refine tn_icmp_ge (tgt := 303) C0.1 C0.2.1 dL_works_289 (by decide) (by omega) (by omega) (fun c_289 => ?_) (fun c_289 => ?_)
                · refine lv_iload_n C0.1 C0.2.1 dL_works_303 rfl (lv_at hl 9 rfl) ?_
                  refine lv_bipush (v := nI 11) C0.1 C0.2.1 dL_works_304 (by decide) ?_
                  refine tn_icmp_ge (tgt := 320) C0.1 C0.2.1 dL_works_306 (by decide) (by omega) (by omega) (fun c_306 => ?_) (fun c_306 => ?_)
                  · refine lv_iload_n C0.1 C0.2.1 dL_works_320 rfl (lv_at hl 9 rfl) ?_
                    refine lv_bipush (v := nI 13) C0.1 C0.2.1 dL_works_321 (by decide) ?_
                    refine tn_icmp_ge (tgt := 337) C0.1 C0.2.1 dL_works_323 (by decide) (by omega) (by omega) (fun c_323 => ?_) (fun c_323 => ?_)
                    · exact absurd c_323 (by omega)
                    · refine lv_aload_n C0.1 C0.2.1 dL_works_326 rfl (lv_at hl 6 rfl) ?_
                      refine lv_iload C0.1 C0.2.1 dL_works_327 (lv_at hl 10 rfl) ?_
                      refine lv_iload C0.1 C0.2.1 dL_works_329 (lv_at hl 4 rfl) ?_
                      refine tc_callVx (q0 := 0) C0 hG hS rfl rfl (kX0_move hlf hk  (nI (a)) (nI (blw x9 6)) ) (cwV 2 C0.2.2.2.2 gL_works_X0_move rfl rfl rfl (by decide +kernel) ⟨(Nat.le_of_ble_eq_true rfl), (Nat.le_of_ble_eq_true rfl)⟩) rfl hl rfl (Nat.le_of_ble_eq_true rfl) dL_works_331 ⟨(Nat.le_of_ble_eq_true rfl), (Nat.le_of_ble_eq_true rfl)⟩ ?_ (fun c_331 H locs hG hS => ?_)
                      · intro i E q9 ce H locs hi hcd hG hS hce hcv hcl
                        have hi9 : i = 2 := (by rw [cdMv_v h1 b_12 hn12] at hcd; split at hcd <;> omega)
                        subst hi9
                        have hE : E = "java/lang/IllegalStateException" := (Option.some.inj (show some "java/lang/IllegalStateException" = some E from hi)).symm
                        subst hE
                        refine vx_catch C0.2.2.2.1 [] ⟨286, 360, 361, 31⟩ [] htb (fun z hz => by cases hz) (by decide) (by decide) (C0.2.2.2.2 (.classLink RL 31 "java/lang/IllegalStateException") (by decide +kernel)) (va_Nw.use rfl (hG.2.2.2.2.2.2.2.2.1 "java/lang/IllegalStateException" (by decide))) hce hcv hcl ?_
                        refine lv_astore (lv' := [(12, .ref q9), (11, .int (nI (way (cn (a)) (blw x9 6)))), (10, .int (nI (0))), (9, .int (nI (way (cn (a)) (blw x9 6)))), (8, .int (nI (blw x19 100))), (7, .int (nI (blw x9 6))), (6, .int (nI (tw tk co cn wk 0 n))), (0, .ref h), (1, .ref g), (2, .int (x)), (3, .int (nI (sort))), (4, .int (nI (a))), (5, .int (nI (b)))]) C0.1 C0.2.1 dL_works_361 hl (by decide) rfl (fun ls hl => ?_)
                        refine lv_iload C0.1 C0.2.1 dL_works_363 (lv_at hl 2 rfl) ?_
                        refine tn_if_ne (tgt := 372) C0.1 C0.2.1 dL_works_365 (by decide) (by omega) (fun c_365 => ?_) (fun c_365 => ?_)
                        · exact absurd c_365 (by decide)
                        · refine lv_iconst (v := nI 1) C0.1 C0.2.1 dL_works_368 (by decide) ?_
                          refine lv_goto (tgt := 373) C0.1 C0.2.1 dL_works_369 (by decide) ?_
                          refine tc_top (y := nI (b2n true)) rfl ?_
                          exact tce_zret C0 hr hlk hG hS ⟨rfl, tk, co, cn, st, 0, f, by omega, rfl, hk, hy, by rw [show sp + nI 0 = sp from Int32.add_zero sp]⟩ (Nat.le_of_ble_eq_true rfl) (Nat.le_of_ble_eq_true rfl) dL_works_373
                      · refine W.eq (g2 := F0 m 334 ls (.int (nI (way (cn (ix (nI (a)))) (ix (nI (blw x9 6))))) :: [])) rfl ?_
                        have hG : tcG D cI cJ N0 (wB h r1 r2 r3 r4 cI tk co (va_up cn (ix (nI (a))) (ix (nI (blw x9 6)))) wk n ho (st - way (cn (ix (nI (a)))) (ix (nI (blw x9 6)))) ct (sp + nI (way (cn (ix (nI (a)))) (ix (nI (blw x9 6))))) g ra rw cJ ho st ct sp n f Z) s H := hG
                        simp only [ix_nI (show a < 2 ^ 31 by omega), ix_nI (show blw x9 6 < 2 ^ 31 by omega)] at hG
                        have hG : tcG D cI cJ N0 (wB h r1 r2 r3 r4 cI tk co (va_up cn ((a)) ((blw x9 6))) wk n ho (st - way (cn ((a))) ((blw x9 6))) ct (sp + nI (way (cn ((a))) ((blw x9 6)))) g ra rw cJ ho st ct sp n f Z) s H := hG
                        try simp only [ix_nI (show a < 2 ^ 31 by omega), ix_nI (show blw x9 6 < 2 ^ 31 by omega)]
                        exact absurd c_331 (by rw [cdMv_v h1 b_12 hn12, if_pos (by omega)]; decide)
                  · exact absurd c_306 (by omega)
                · exact absurd c_289 (by omega)
              · exact absurd c_140 (by decide)
            · refine lv_iload_n C0.1 C0.2.1 dL_works_100 rfl (lv_at hl 7 rfl) ?_
              refine lv_bipush (v := nI 6) C0.1 C0.2.1 dL_works_101 (by decide) ?_
              refine tn_icmp_gt (tgt := 127) C0.1 C0.2.1 dL_works_103 (by decide) (by omega) (by omega) (fun c_103 => ?_) (fun c_103 => ?_)
              · refine lv_iconst (v := nI 1) C0.1 C0.2.1 dL_works_127 (by decide) ?_
                refine lv_goto (tgt := 132) C0.1 C0.2.1 dL_works_128 (by decide) ?_
                refine lv_istore (lv' := [(10, .int (nI (1))), (9, .int (nI (way (cn (a)) (blw x9 6)))), (8, .int (nI (blw x19 100))), (7, .int (nI (blw x9 6))), (6, .int (nI (tw tk co cn wk 0 n))), (0, .ref h), (1, .ref g), (2, .int (x)), (3, .int (nI (sort))), (4, .int (nI (a))), (5, .int (nI (b)))]) C0.1 C0.2.1 dL_works_132 hl (by decide) rfl (fun ls hl => ?_)
                refine lv_iload C0.1 C0.2.1 dL_works_134 (lv_at hl 1 rfl) ?_
                refine lv_istore (lv' := [(11, .int (nI (way (cn (a)) (blw x9 6)))), (10, .int (nI (1))), (9, .int (nI (way (cn (a)) (blw x9 6)))), (8, .int (nI (blw x19 100))), (7, .int (nI (blw x9 6))), (6, .int (nI (tw tk co cn wk 0 n))), (0, .ref h), (1, .ref g), (2, .int (x)), (3, .int (nI (sort))), (4, .int (nI (a))), (5, .int (nI (b)))]) C0.1 C0.2.1 dL_works_136 hl (by decide) rfl (fun ls hl => ?_)
                refine lv_iload C0.1 C0.2.1 dL_works_138 (lv_at hl 1 rfl) ?_
                refine tn_if_eq (tgt := 286) C0.1 C0.2.1 dL_works_140 (by decide) (by omega) (fun c_140 => ?_) (fun c_140 => ?_)
                · exact absurd c_140 (by decide)
                · refine lv_aload_n C0.1 C0.2.1 dL_works_143 rfl (lv_at hl 7 rfl) ?_
                  refine lv_iload C0.1 C0.2.1 dL_works_144 (lv_at hl 2 rfl) ?_
                  refine tc_callVv (q0 := 5) C0 hG hS rfl rfl (kX1_pay hlf hk hy  (way (cn (a)) (blw x9 6)) (by omega)) (cwV 1 C0.2.2.2.2 gL_works_X1_pay rfl rfl rfl (by decide +kernel) ⟨(Nat.le_of_ble_eq_true rfl), (Nat.le_of_ble_eq_true rfl)⟩) rfl hl rfl (Nat.le_of_ble_eq_true rfl) dL_works_146 ⟨(Nat.le_of_ble_eq_true rfl), (Nat.le_of_ble_eq_true rfl)⟩ (fun H locs hG hS => ?_)
                  have hG : tcG D cI cJ N0 (wB h r1 r2 r3 r4 cI tk co cn wk n ho st ct sp g ra rw cJ ho (st - (way (cn (a)) (blw x9 6))) ct (sp + nI (way (cn (a)) (blw x9 6))) n f Z) s H := hG
                  have hk_146 : tOk tk co cn wk n (st - (way (cn (a)) (blw x9 6))) := hk.st (by have := hk.2.2.2.2.2; omega)
                  refine lv_iload_n C0.1 C0.2.1 dL_works_149 rfl (lv_at hl 9 rfl) ?_
                  refine lv_bipush (v := nI 7) C0.1 C0.2.1 dL_works_150 (by decide) ?_
                  refine tn_icmp_ge (tgt := 198) C0.1 C0.2.1 dL_works_152 (by decide) (by omega) (by omega) (fun c_152 => ?_) (fun c_152 => ?_)
                  · refine lv_iload_n C0.1 C0.2.1 dL_works_198 rfl (lv_at hl 9 rfl) ?_
                    refine lv_bipush (v := nI 11) C0.1 C0.2.1 dL_works_199 (by decide) ?_
                    refine tn_icmp_ge (tgt := 235) C0.1 C0.2.1 dL_works_201 (by decide) (by omega) (by omega) (fun c_201 => ?_) (fun c_201 => ?_)
                    · refine lv_iload_n C0.1 C0.2.1 dL_works_235 rfl (lv_at hl 9 rfl) ?_
                      refine lv_bipush (v := nI 13) C0.1 C0.2.1 dL_works_236 (by decide) ?_
                      refine tn_icmp_ge (tgt := 255) C0.1 C0.2.1 dL_works_238 (by decide) (by omega) (by omega) (fun c_238 => ?_) (fun c_238 => ?_)
                      · exact absurd c_238 (by omega)
                      · refine lv_aload_n C0.1 C0.2.1 dL_works_241 rfl (lv_at hl 7 rfl) ?_
                        refine tgX1_all C0 hF hG w_all dL_works_242 ?_
                        refine lv_iload C0.1 C0.2.1 dL_works_245 (lv_at hl 10 rfl) ?_
                        refine ts_aald (k := a) C0 hG (by omega) (by omega) dL_works_247 ?_
                        refine lv_iconst (v := nI 3) C0.1 C0.2.1 dL_works_248 (by decide) ?_
                        refine lv_iload C0.1 C0.2.1 dL_works_249 (lv_at hl 4 rfl) ?_
                        refine ts_ast (k := a) (j := 3) (x := blw x9 6) C0 hG0 hG hS (by omega) (by decide) dL_works_251 (fun H locs hG hS => ?_)
                        have hG : tcG D cI cJ N0 (wB h r1 r2 r3 r4 cI tk co cn wk n ho st ct sp g ra rw cJ ho (st - (way (cn (a)) (blw x9 6))) ct (sp + nI (way (cn (a)) (blw x9 6))) n (upR f a 3 (blw x9 6)) Z) s H := hG
                        have hy_251 := tSy.c3 (k := a) (x := blw x9 6) hy
                        have hk_251 := hk_146.cn (up_lt (x := blw x9 6) hk_146.2.2.1 (by omega) (a))
                        refine lv_goto (tgt := 271) C0.1 C0.2.1 dL_works_252 (by decide) ?_
                        refine lv_iload_n C0.1 C0.2.1 dL_works_271 rfl (lv_at hl 9 rfl) ?_
                        refine lv_bipush (v := nI 11) C0.1 C0.2.1 dL_works_272 (by decide) ?_
                        refine tn_icmp_ge (tgt := 286) C0.1 C0.2.1 dL_works_274 (by decide) (by omega) (by omega) (fun c_274 => ?_) (fun c_274 => ?_)
                        · refine lv_iload_n C0.1 C0.2.1 dL_works_286 rfl (lv_at hl 9 rfl) ?_
                          refine lv_bipush (v := nI 7) C0.1 C0.2.1 dL_works_287 (by decide) ?_
                          refine tn_icmp_ge (tgt := 303) C0.1 C0.2.1 dL_works_289 (by decide) (by omega) (by omega) (fun c_289 => ?_) (fun c_289 => ?_)
                          · refine lv_iload_n C0.1 C0.2.1 dL_works_303 rfl (lv_at hl 9 rfl) ?_
                            refine lv_bipush (v := nI 11) C0.1 C0.2.1 dL_works_304 (by decide) ?_
                            refine tn_icmp_ge (tgt := 320) C0.1 C0.2.1 dL_works_306 (by decide) (by omega) (by omega) (fun c_306 => ?_) (fun c_306 => ?_)
                            · refine lv_iload_n C0.1 C0.2.1 dL_works_320 rfl (lv_at hl 9 rfl) ?_
                              refine lv_bipush (v := nI 13) C0.1 C0.2.1 dL_works_321 (by decide) ?_
                              refine tn_icmp_ge (tgt := 337) C0.1 C0.2.1 dL_works_323 (by decide) (by omega) (by omega) (fun c_323 => ?_) (fun c_323 => ?_)
                              · exact absurd c_323 (by omega)
                              · refine lv_aload_n C0.1 C0.2.1 dL_works_326 rfl (lv_at hl 6 rfl) ?_
                                refine lv_iload C0.1 C0.2.1 dL_works_327 (lv_at hl 10 rfl) ?_
                                refine lv_iload C0.1 C0.2.1 dL_works_329 (lv_at hl 4 rfl) ?_
                                refine tc_callVx (q0 := 0) C0 hG hS rfl rfl (kX0_move hlf hk  (nI (a)) (nI (blw x9 6)) ) (cwV 2 C0.2.2.2.2 gL_works_X0_move rfl rfl rfl (by decide +kernel) ⟨(Nat.le_of_ble_eq_true rfl), (Nat.le_of_ble_eq_true rfl)⟩) rfl hl rfl (Nat.le_of_ble_eq_true rfl) dL_works_331 ⟨(Nat.le_of_ble_eq_true rfl), (Nat.le_of_ble_eq_true rfl)⟩ ?_ (fun c_331 H locs hG hS => ?_)
                                · intro i E q9 ce H locs hi hcd hG hS hce hcv hcl
                                  exact absurd hcd (by rw [cdMv_v h1 b_12 hn12, if_neg (by omega)]; omega)
                                · refine W.eq (g2 := F0 m 334 ls (.int (nI (way (cn (ix (nI (a)))) (ix (nI (blw x9 6))))) :: [])) rfl ?_
                                  have hG : tcG D cI cJ N0 (wB h r1 r2 r3 r4 cI tk co (va_up cn (ix (nI (a))) (ix (nI (blw x9 6)))) wk n ho (st - way (cn (ix (nI (a)))) (ix (nI (blw x9 6)))) ct (sp + nI (way (cn (ix (nI (a)))) (ix (nI (blw x9 6))))) g ra rw cJ ho (st - (way (cn (a)) (blw x9 6))) ct (sp + nI (way (cn (a)) (blw x9 6))) n (upR f a 3 (blw x9 6)) Z) s H := hG
                                  simp only [ix_nI (show a < 2 ^ 31 by omega), ix_nI (show blw x9 6 < 2 ^ 31 by omega)] at hG
                                  have hG : tcG D cI cJ N0 (wB h r1 r2 r3 r4 cI tk co (va_up cn ((a)) ((blw x9 6))) wk n ho (st - way (cn ((a))) ((blw x9 6))) ct (sp + nI (way (cn ((a))) ((blw x9 6)))) g ra rw cJ ho (st - (way (cn (a)) (blw x9 6))) ct (sp + nI (way (cn (a)) (blw x9 6))) n (upR f a 3 (blw x9 6)) Z) s H := hG
                                  try simp only [ix_nI (show a < 2 ^ 31 by omega), ix_nI (show blw x9 6 < 2 ^ 31 by omega)]
                                  refine lv_goto (tgt := 345) C0.1 C0.2.1 dL_works_334 (by decide) ?_
                                  refine lv_iload C0.1 C0.2.1 dL_works_345 (lv_at hl 0 rfl) ?_
                                  refine tn_icmp_ne (tgt := 359) C0.1 C0.2.1 dL_works_347 (by decide) (by omega) (by omega) (fun c_347 => ?_) (fun c_347 => ?_)
                                  · exact absurd rfl c_347
                                  · refine lv_iload C0.1 C0.2.1 dL_works_350 (lv_at hl 1 rfl) ?_
                                    refine tn_if_eq (tgt := 359) C0.1 C0.2.1 dL_works_352 (by decide) (by omega) (fun c_352 => ?_) (fun c_352 => ?_)
                                    · exact absurd c_352 (by decide)
                                    · refine lv_iconst (v := nI 1) C0.1 C0.2.1 dL_works_355 (by decide) ?_
                                      refine lv_goto (tgt := 360) C0.1 C0.2.1 dL_works_356 (by decide) ?_
                                      refine tc_top (y := nI (b2n true)) rfl ?_
                                      exact tce_zret C0 hr hlk hG hS ⟨rfl, tk, co, va_up cn ((a)) ((blw x9 6)), st - way (cn ((a))) ((blw x9 6)), way (cn a) (blw x9 6), upR f a 3 (blw x9 6), by omega, by omega, hk_251, hy_251, rfl⟩ (Nat.le_of_ble_eq_true rfl) (Nat.le_of_ble_eq_true rfl) dL_works_360
                            · exact absurd c_306 (by omega)
                          · exact absurd c_289 (by omega)
                        · exact absurd c_274 (by omega)
                    · exact absurd c_201 (by omega)
                  · exact absurd c_152 (by omega)
              · exact absurd c_103 (by omega)
      · refine lv_bipush (v := nI 8) C0.1 C0.2.1 dL_works_54 (by decide) ?_
        refine lv_goto (tgt := 84) C0.1 C0.2.1 dL_works_56 (by decide) ?_
        refine lv_istore (lv' := [(9, .int (nI (8))), (8, .int (nI (blw x19 100))), (7, .int (nI (blw x9 6))), (6, .int (nI (tw tk co cn wk 0 n))), (0, .ref h), (1, .ref g), (2, .int (x)), (3, .int (nI (sort))), (4, .int (nI (a))), (5, .int (nI (b)))]) C0.1 C0.2.1 dL_works_84 hl (by decide) rfl (fun ls hl => ?_)
        refine lv_iload C0.1 C0.2.1 dL_works_86 (lv_at hl 0 rfl) ?_
        refine tn_if_le (tgt := 131) C0.1 C0.2.1 dL_works_88 (by decide) (by omega) (fun c_88 => ?_) (fun c_88 => ?_)
        · exact absurd c_88 (by decide)
        · refine lv_iload C0.1 C0.2.1 dL_works_91 (lv_at hl 0 rfl) ?_
          refine lv_aload_n C0.1 C0.2.1 dL_works_93 rfl (lv_at hl 5 rfl) ?_
          refine tgX1_store C0 hF hG w_store dL_works_94 ?_
          refine tn_icmp_gt (tgt := 131) C0.1 C0.2.1 dL_works_97 (by decide) (by omega) (by omega) (fun c_97 => ?_) (fun c_97 => ?_)
          · refine lv_iconst (v := nI 0) C0.1 C0.2.1 dL_works_131 (by decide) ?_
            refine lv_istore (lv' := [(10, .int (nI (0))), (9, .int (nI (8))), (8, .int (nI (blw x19 100))), (7, .int (nI (blw x9 6))), (6, .int (nI (tw tk co cn wk 0 n))), (0, .ref h), (1, .ref g), (2, .int (x)), (3, .int (nI (sort))), (4, .int (nI (a))), (5, .int (nI (b)))]) C0.1 C0.2.1 dL_works_132 hl (by decide) rfl (fun ls hl => ?_)
            refine lv_iload C0.1 C0.2.1 dL_works_134 (lv_at hl 1 rfl) ?_
            refine lv_istore (lv' := [(11, .int (nI (8))), (10, .int (nI (0))), (9, .int (nI (8))), (8, .int (nI (blw x19 100))), (7, .int (nI (blw x9 6))), (6, .int (nI (tw tk co cn wk 0 n))), (0, .ref h), (1, .ref g), (2, .int (x)), (3, .int (nI (sort))), (4, .int (nI (a))), (5, .int (nI (b)))]) C0.1 C0.2.1 dL_works_136 hl (by decide) rfl (fun ls hl => ?_)
            refine lv_iload C0.1 C0.2.1 dL_works_138 (lv_at hl 1 rfl) ?_
            refine tn_if_eq (tgt := 286) C0.1 C0.2.1 dL_works_140 (by decide) (by omega) (fun c_140 => ?_) (fun c_140 => ?_)
            · refine lv_iload_n C0.1 C0.2.1 dL_works_286 rfl (lv_at hl 9 rfl) ?_
              refine lv_bipush (v := nI 7) C0.1 C0.2.1 dL_works_287 (by decide) ?_
              refine tn_icmp_ge (tgt := 303) C0.1 C0.2.1 dL_works_289 (by decide) (by omega) (by omega) (fun c_289 => ?_) (fun c_289 => ?_)
              · refine lv_iload_n C0.1 C0.2.1 dL_works_303 rfl (lv_at hl 9 rfl) ?_
                refine lv_bipush (v := nI 11) C0.1 C0.2.1 dL_works_304 (by decide) ?_
                refine tn_icmp_ge (tgt := 320) C0.1 C0.2.1 dL_works_306 (by decide) (by omega) (by omega) (fun c_306 => ?_) (fun c_306 => ?_)
                · exact absurd c_306 (by omega)
                · refine lv_aload_n C0.1 C0.2.1 dL_works_309 rfl (lv_at hl 6 rfl) ?_
                  refine lv_iload C0.1 C0.2.1 dL_works_310 (lv_at hl 10 rfl) ?_
                  refine lv_iload C0.1 C0.2.1 dL_works_312 (lv_at hl 11 rfl) ?_
                  refine tc_callVx (q0 := 0) C0 hG hS rfl rfl (kX0_swapTickets hlf hk  (nI (a)) (nI (b)) ) (cwV 2 C0.2.2.2.2 gL_works_X0_swapTickets rfl rfl rfl (by decide +kernel) ⟨(Nat.le_of_ble_eq_true rfl), (Nat.le_of_ble_eq_true rfl)⟩) rfl hl rfl (Nat.le_of_ble_eq_true rfl) dL_works_314 ⟨(Nat.le_of_ble_eq_true rfl), (Nat.le_of_ble_eq_true rfl)⟩ ?_ (fun c_314 H locs hG hS => ?_)
                  · intro i E q9 ce H locs hi hcd hG hS hce hcv hcl
                    have hi9 : i = 2 := (by rw [cdSt_v h1 h2 (h3 (by omega)) hn12] at hcd; split at hcd <;> omega)
                    subst hi9
                    have hE : E = "java/lang/IllegalStateException" := (Option.some.inj (show some "java/lang/IllegalStateException" = some E from hi)).symm
                    subst hE
                    refine vx_catch C0.2.2.2.1 [] ⟨286, 360, 361, 31⟩ [] htb (fun z hz => by cases hz) (by decide) (by decide) (C0.2.2.2.2 (.classLink RL 31 "java/lang/IllegalStateException") (by decide +kernel)) (va_Nw.use rfl (hG.2.2.2.2.2.2.2.2.1 "java/lang/IllegalStateException" (by decide))) hce hcv hcl ?_
                    refine lv_astore (lv' := [(12, .ref q9), (11, .int (nI (8))), (10, .int (nI (0))), (9, .int (nI (8))), (8, .int (nI (blw x19 100))), (7, .int (nI (blw x9 6))), (6, .int (nI (tw tk co cn wk 0 n))), (0, .ref h), (1, .ref g), (2, .int (x)), (3, .int (nI (sort))), (4, .int (nI (a))), (5, .int (nI (b)))]) C0.1 C0.2.1 dL_works_361 hl (by decide) rfl (fun ls hl => ?_)
                    refine lv_iload C0.1 C0.2.1 dL_works_363 (lv_at hl 2 rfl) ?_
                    refine tn_if_ne (tgt := 372) C0.1 C0.2.1 dL_works_365 (by decide) (by omega) (fun c_365 => ?_) (fun c_365 => ?_)
                    · exact absurd c_365 (by decide)
                    · refine lv_iconst (v := nI 1) C0.1 C0.2.1 dL_works_368 (by decide) ?_
                      refine lv_goto (tgt := 373) C0.1 C0.2.1 dL_works_369 (by decide) ?_
                      refine tc_top (y := nI (b2n true)) rfl ?_
                      exact tce_zret C0 hr hlk hG hS ⟨rfl, tk, co, cn, st, 0, f, by omega, rfl, hk, hy, by rw [show sp + nI 0 = sp from Int32.add_zero sp]⟩ (Nat.le_of_ble_eq_true rfl) (Nat.le_of_ble_eq_true rfl) dL_works_373
                  · refine W.eq (g2 := F0 m 317 ls (.int (nI (tw (swp tk (ix (nI (a))) (ix (nI (b)))) co cn wk 0 n) - nI (tw tk co cn wk 0 n)) :: [])) rfl ?_
                    have hG : tcG D cI cJ N0 (wB h r1 r2 r3 r4 cI (swp tk (ix (nI (a))) (ix (nI (b)))) co cn wk n ho (st - 8) ct (sp + nI 8) g ra rw cJ ho st ct sp n f Z) s H := hG
                    simp only [ix_nI (show a < 2 ^ 31 by omega), ix_nI (show b < 2 ^ 31 by omega)] at hG
                    have hG : tcG D cI cJ N0 (wB h r1 r2 r3 r4 cI (swp tk ((a)) ((b))) co cn wk n ho (st - 8) ct (sp + nI 8) g ra rw cJ ho st ct sp n f Z) s H := hG
                    try simp only [ix_nI (show a < 2 ^ 31 by omega), ix_nI (show b < 2 ^ 31 by omega)]
                    exact absurd c_314 (by rw [cdSt_v h1 h2 (h3 (by omega)) hn12, if_neg (by omega)]; decide)
              · exact absurd c_289 (by omega)
            · exact absurd c_140 (by decide)
          · refine lv_iload_n C0.1 C0.2.1 dL_works_100 rfl (lv_at hl 7 rfl) ?_
            refine lv_bipush (v := nI 6) C0.1 C0.2.1 dL_works_101 (by decide) ?_
            refine tn_icmp_gt (tgt := 127) C0.1 C0.2.1 dL_works_103 (by decide) (by omega) (by omega) (fun c_103 => ?_) (fun c_103 => ?_)
            · refine lv_iconst (v := nI 1) C0.1 C0.2.1 dL_works_127 (by decide) ?_
              refine lv_goto (tgt := 132) C0.1 C0.2.1 dL_works_128 (by decide) ?_
              refine lv_istore (lv' := [(10, .int (nI (1))), (9, .int (nI (8))), (8, .int (nI (blw x19 100))), (7, .int (nI (blw x9 6))), (6, .int (nI (tw tk co cn wk 0 n))), (0, .ref h), (1, .ref g), (2, .int (x)), (3, .int (nI (sort))), (4, .int (nI (a))), (5, .int (nI (b)))]) C0.1 C0.2.1 dL_works_132 hl (by decide) rfl (fun ls hl => ?_)
              refine lv_iload C0.1 C0.2.1 dL_works_134 (lv_at hl 1 rfl) ?_
              refine lv_istore (lv' := [(11, .int (nI (8))), (10, .int (nI (1))), (9, .int (nI (8))), (8, .int (nI (blw x19 100))), (7, .int (nI (blw x9 6))), (6, .int (nI (tw tk co cn wk 0 n))), (0, .ref h), (1, .ref g), (2, .int (x)), (3, .int (nI (sort))), (4, .int (nI (a))), (5, .int (nI (b)))]) C0.1 C0.2.1 dL_works_136 hl (by decide) rfl (fun ls hl => ?_)
              refine lv_iload C0.1 C0.2.1 dL_works_138 (lv_at hl 1 rfl) ?_
              refine tn_if_eq (tgt := 286) C0.1 C0.2.1 dL_works_140 (by decide) (by omega) (fun c_140 => ?_) (fun c_140 => ?_)
              · exact absurd c_140 (by decide)
              · refine lv_aload_n C0.1 C0.2.1 dL_works_143 rfl (lv_at hl 7 rfl) ?_
                refine lv_iload C0.1 C0.2.1 dL_works_144 (lv_at hl 2 rfl) ?_
                refine tc_callVv (q0 := 5) C0 hG hS rfl rfl (kX1_pay hlf hk hy  (8) (by omega)) (cwV 1 C0.2.2.2.2 gL_works_X1_pay rfl rfl rfl (by decide +kernel) ⟨(Nat.le_of_ble_eq_true rfl), (Nat.le_of_ble_eq_true rfl)⟩) rfl hl rfl (Nat.le_of_ble_eq_true rfl) dL_works_146 ⟨(Nat.le_of_ble_eq_true rfl), (Nat.le_of_ble_eq_true rfl)⟩ (fun H locs hG hS => ?_)
                have hG : tcG D cI cJ N0 (wB h r1 r2 r3 r4 cI tk co cn wk n ho st ct sp g ra rw cJ ho (st - 8) ct (sp + nI 8) n f Z) s H := hG
                have hk_146 : tOk tk co cn wk n (st - 8) := hk.st (by have := hk.2.2.2.2.2; omega)
                refine lv_iload_n C0.1 C0.2.1 dL_works_149 rfl (lv_at hl 9 rfl) ?_
                refine lv_bipush (v := nI 7) C0.1 C0.2.1 dL_works_150 (by decide) ?_
                refine tn_icmp_ge (tgt := 198) C0.1 C0.2.1 dL_works_152 (by decide) (by omega) (by omega) (fun c_152 => ?_) (fun c_152 => ?_)
                · refine lv_iload_n C0.1 C0.2.1 dL_works_198 rfl (lv_at hl 9 rfl) ?_
                  refine lv_bipush (v := nI 11) C0.1 C0.2.1 dL_works_199 (by decide) ?_
                  refine tn_icmp_ge (tgt := 235) C0.1 C0.2.1 dL_works_201 (by decide) (by omega) (by omega) (fun c_201 => ?_) (fun c_201 => ?_)
                  · exact absurd c_201 (by omega)
                  · refine lv_aload_n C0.1 C0.2.1 dL_works_204 rfl (lv_at hl 7 rfl) ?_
                    refine lv_iload C0.1 C0.2.1 dL_works_205 (lv_at hl 10 rfl) ?_
                    refine tc_callV (q0 := 5) C0 hG hS rfl rfl (kX1_ticket hlf hk_146 hy  (a) (by omega)) (cwV 1 C0.2.2.2.2 gL_works_X1_ticket rfl rfl rfl (by decide +kernel) ⟨(Nat.le_of_ble_eq_true rfl), (Nat.le_of_ble_eq_true rfl)⟩) rfl hl rfl (Nat.le_of_ble_eq_true rfl) dL_works_207 ⟨(Nat.le_of_ble_eq_true rfl), (Nat.le_of_ble_eq_true rfl)⟩ (fun H locs hG hS => ?_)
                    refine lv_istore (lv' := [(12, .int (nI (tk a))), (11, .int (nI (8))), (10, .int (nI (1))), (9, .int (nI (8))), (8, .int (nI (blw x19 100))), (7, .int (nI (blw x9 6))), (6, .int (nI (tw tk co cn wk 0 n))), (0, .ref h), (1, .ref g), (2, .int (x)), (3, .int (nI (sort))), (4, .int (nI (a))), (5, .int (nI (b)))]) C0.1 C0.2.1 dL_works_210 hl (by decide) rfl (fun ls hl => ?_)
                    refine lv_aload_n C0.1 C0.2.1 dL_works_212 rfl (lv_at hl 8 rfl) ?_
                    refine lv_iload C0.1 C0.2.1 dL_works_213 (lv_at hl 11 rfl) ?_
                    refine lv_aload_n C0.1 C0.2.1 dL_works_215 rfl (lv_at hl 8 rfl) ?_
                    refine lv_iload C0.1 C0.2.1 dL_works_216 (lv_at hl 12 rfl) ?_
                    refine tc_callV (q0 := 5) C0 hG hS rfl rfl (kX1_ticket hlf hk_146 hy  (b) (by omega)) (cwV 1 C0.2.2.2.2 gL_works_X1_ticket rfl rfl rfl (by decide +kernel) ⟨(Nat.le_of_ble_eq_true rfl), (Nat.le_of_ble_eq_true rfl)⟩) rfl hl rfl (Nat.le_of_ble_eq_true rfl) dL_works_218 ⟨(Nat.le_of_ble_eq_true rfl), (Nat.le_of_ble_eq_true rfl)⟩ (fun H locs hG hS => ?_)
                    refine tc_callVv (q0 := 5) C0 hG hS rfl rfl (kX1_set hlf hk_146 hy  (a) (tk b) (by omega) (by omega)) (cwV 2 C0.2.2.2.2 gL_works_X1_set rfl rfl rfl (by decide +kernel) ⟨(Nat.le_of_ble_eq_true rfl), (Nat.le_of_ble_eq_true rfl)⟩) rfl hl rfl (Nat.le_of_ble_eq_true rfl) dL_works_221 ⟨(Nat.le_of_ble_eq_true rfl), (Nat.le_of_ble_eq_true rfl)⟩ (fun H locs hG hS => ?_)
                    have hG : tcG D cI cJ N0 (wB h r1 r2 r3 r4 cI tk co cn wk n ho st ct sp g ra rw cJ ho (st - 8) ct (sp + nI 8) n (upR (upR f a 0 ((tk b) / 10)) a 1 ((tk b) % 10)) Z) s H := hG
                    have hy_221 : tSy (va_up tk a (tk b)) co cn wk n (upR (upR f a 0 ((tk b) / 10)) a 1 ((tk b) % 10)) := tSy.set hy
                    have hk_221 : tOk (va_up tk a (tk b)) co cn wk n (st - 8) := hk_146.tk (up_lt hk_146.1 (by omega) a)
                    refine lv_aload_n C0.1 C0.2.1 dL_works_224 rfl (lv_at hl 8 rfl) ?_
                    refine lv_iload C0.1 C0.2.1 dL_works_225 (lv_at hl 12 rfl) ?_
                    refine lv_iload C0.1 C0.2.1 dL_works_227 (lv_at hl 0 rfl) ?_
                    refine tc_callVv (q0 := 5) C0 hG hS rfl rfl (kX1_set hlf hk_221 hy_221  (b) (tk a) (by omega) (by omega)) (cwV 2 C0.2.2.2.2 gL_works_X1_set rfl rfl rfl (by decide +kernel) ⟨(Nat.le_of_ble_eq_true rfl), (Nat.le_of_ble_eq_true rfl)⟩) rfl hl rfl (Nat.le_of_ble_eq_true rfl) dL_works_229 ⟨(Nat.le_of_ble_eq_true rfl), (Nat.le_of_ble_eq_true rfl)⟩ (fun H locs hG hS => ?_)
                    have hG : tcG D cI cJ N0 (wB h r1 r2 r3 r4 cI tk co cn wk n ho st ct sp g ra rw cJ ho (st - 8) ct (sp + nI 8) n (upR (upR (upR (upR f a 0 ((tk b) / 10)) a 1 ((tk b) % 10)) b 0 ((tk a) / 10)) b 1 ((tk a) % 10)) Z) s H := hG
                    have hy_229 : tSy (va_up (va_up tk a (tk b)) b (tk a)) co cn wk n (upR (upR (upR (upR f a 0 ((tk b) / 10)) a 1 ((tk b) % 10)) b 0 ((tk a) / 10)) b 1 ((tk a) % 10)) := tSy.set hy_221
                    have hk_229 : tOk (va_up (va_up tk a (tk b)) b (tk a)) co cn wk n (st - 8) := hk_221.tk (up_lt hk_221.1 (by omega) b)
                    refine lv_goto (tgt := 271) C0.1 C0.2.1 dL_works_232 (by decide) ?_
                    refine lv_iload_n C0.1 C0.2.1 dL_works_271 rfl (lv_at hl 10 rfl) ?_
                    refine lv_bipush (v := nI 11) C0.1 C0.2.1 dL_works_272 (by decide) ?_
                    refine tn_icmp_ge (tgt := 286) C0.1 C0.2.1 dL_works_274 (by decide) (by omega) (by omega) (fun c_274 => ?_) (fun c_274 => ?_)
                    · exact absurd c_274 (by omega)
                    · refine lv_aload_n C0.1 C0.2.1 dL_works_277 rfl (lv_at hl 8 rfl) ?_
                      refine tc_callV (q0 := 5) C0 hG hS rfl rfl (kX1_town hlf hk_229 hy_229   ) (cwV 0 C0.2.2.2.2 gL_works_X1_town rfl rfl rfl (by decide +kernel) ⟨(Nat.le_of_ble_eq_true rfl), (Nat.le_of_ble_eq_true rfl)⟩) rfl hl rfl (Nat.le_of_ble_eq_true rfl) dL_works_278 ⟨(Nat.le_of_ble_eq_true rfl), (Nat.le_of_ble_eq_true rfl)⟩ (fun H locs hG hS => ?_)
                      have b_278 := tw_le (va_up (va_up tk a (tk b)) b (tk a)) co cn wk 0 hk_229.2.2.2.2.1
                      refine lv_iload C0.1 C0.2.1 dL_works_281 (lv_at hl 6 rfl) ?_
                      refine lv_isub C0.1 C0.2.1 dL_works_283 ?_
                      refine lv_istore (lv' := [(11, .int (nI (tw (va_up (va_up tk a (tk b)) b (tk a)) co cn wk 0 n) - nI (tw tk co cn wk 0 n))), (12, .int (nI (tk a))), (10, .int (nI (1))), (9, .int (nI (8))), (8, .int (nI (blw x19 100))), (7, .int (nI (blw x9 6))), (6, .int (nI (tw tk co cn wk 0 n))), (0, .ref h), (1, .ref g), (2, .int (x)), (3, .int (nI (sort))), (4, .int (nI (a))), (5, .int (nI (b)))]) C0.1 C0.2.1 dL_works_284 hl (by decide) rfl (fun ls hl => ?_)
                      refine lv_iload_n C0.1 C0.2.1 dL_works_286 rfl (lv_at hl 10 rfl) ?_
                      refine lv_bipush (v := nI 7) C0.1 C0.2.1 dL_works_287 (by decide) ?_
                      refine tn_icmp_ge (tgt := 303) C0.1 C0.2.1 dL_works_289 (by decide) (by omega) (by omega) (fun c_289 => ?_) (fun c_289 => ?_)
                      · refine lv_iload_n C0.1 C0.2.1 dL_works_303 rfl (lv_at hl 10 rfl) ?_
                        refine lv_bipush (v := nI 11) C0.1 C0.2.1 dL_works_304 (by decide) ?_
                        refine tn_icmp_ge (tgt := 320) C0.1 C0.2.1 dL_works_306 (by decide) (by omega) (by omega) (fun c_306 => ?_) (fun c_306 => ?_)
                        · exact absurd c_306 (by omega)
                        · refine lv_aload_n C0.1 C0.2.1 dL_works_309 rfl (lv_at hl 7 rfl) ?_
                          refine lv_iload C0.1 C0.2.1 dL_works_310 (lv_at hl 11 rfl) ?_
                          refine lv_iload C0.1 C0.2.1 dL_works_312 (lv_at hl 12 rfl) ?_
                          refine tc_callVx (q0 := 0) C0 hG hS rfl rfl (kX0_swapTickets hlf hk  (nI (a)) (nI (b)) ) (cwV 2 C0.2.2.2.2 gL_works_X0_swapTickets rfl rfl rfl (by decide +kernel) ⟨(Nat.le_of_ble_eq_true rfl), (Nat.le_of_ble_eq_true rfl)⟩) rfl hl rfl (Nat.le_of_ble_eq_true rfl) dL_works_314 ⟨(Nat.le_of_ble_eq_true rfl), (Nat.le_of_ble_eq_true rfl)⟩ ?_ (fun c_314 H locs hG hS => ?_)
                          · intro i E q9 ce H locs hi hcd hG hS hce hcv hcl
                            exact absurd hcd (by rw [cdSt_v h1 h2 (h3 (by omega)) hn12, if_pos (by omega)]; omega)
                          · refine W.eq (g2 := F0 m 317 ls (.int (nI (tw (swp tk (ix (nI (a))) (ix (nI (b)))) co cn wk 0 n) - nI (tw tk co cn wk 0 n)) :: [])) rfl ?_
                            have hG : tcG D cI cJ N0 (wB h r1 r2 r3 r4 cI (swp tk (ix (nI (a))) (ix (nI (b)))) co cn wk n ho (st - 8) ct (sp + nI 8) g ra rw cJ ho (st - 8) ct (sp + nI 8) n (upR (upR (upR (upR f a 0 ((tk b) / 10)) a 1 ((tk b) % 10)) b 0 ((tk a) / 10)) b 1 ((tk a) % 10)) Z) s H := hG
                            simp only [ix_nI (show a < 2 ^ 31 by omega), ix_nI (show b < 2 ^ 31 by omega)] at hG
                            have hG : tcG D cI cJ N0 (wB h r1 r2 r3 r4 cI (swp tk ((a)) ((b))) co cn wk n ho (st - 8) ct (sp + nI 8) g ra rw cJ ho (st - 8) ct (sp + nI 8) n (upR (upR (upR (upR f a 0 ((tk b) / 10)) a 1 ((tk b) % 10)) b 0 ((tk a) / 10)) b 1 ((tk a) % 10)) Z) s H := hG
                            try simp only [ix_nI (show a < 2 ^ 31 by omega), ix_nI (show b < 2 ^ 31 by omega)]
                            refine lv_goto (tgt := 345) C0.1 C0.2.1 dL_works_317 (by decide) ?_
                            refine lv_iload C0.1 C0.2.1 dL_works_345 (lv_at hl 0 rfl) ?_
                            refine lv_icmp_ne (tgt := 359) C0.1 C0.2.1 dL_works_347 (by decide) (fun c_347 => ?_) (fun c_347 => ?_)
                            · exact absurd rfl c_347
                            · refine lv_iload C0.1 C0.2.1 dL_works_350 (lv_at hl 2 rfl) ?_
                              refine tn_if_eq (tgt := 359) C0.1 C0.2.1 dL_works_352 (by decide) (by omega) (fun c_352 => ?_) (fun c_352 => ?_)
                              · exact absurd c_352 (by decide)
                              · refine lv_iconst (v := nI 1) C0.1 C0.2.1 dL_works_355 (by decide) ?_
                                refine lv_goto (tgt := 360) C0.1 C0.2.1 dL_works_356 (by decide) ?_
                                refine tc_top (y := nI (b2n true)) rfl ?_
                                exact tce_zret C0 hr hlk hG hS ⟨rfl, swp tk ((a)) ((b)), co, cn, st - 8, 8, upR (upR (upR (upR f a 0 ((tk b) / 10)) a 1 ((tk b) % 10)) b 0 ((tk a) / 10)) b 1 ((tk a) % 10), by omega, by omega, hk_229, hy_229, rfl⟩ (Nat.le_of_ble_eq_true rfl) (Nat.le_of_ble_eq_true rfl) dL_works_360
                      · exact absurd c_289 (by omega)
                · exact absurd c_152 (by omega)
            · exact absurd c_103 (by omega)
    · refine lv_bipush (v := nI 8) C0.1 C0.2.1 dL_works_43 (by decide) ?_
      refine lv_goto (tgt := 84) C0.1 C0.2.1 dL_works_45 (by decide) ?_
      refine lv_istore (lv' := [(9, .int (nI (8))), (8, .int (nI (blw x19 100))), (7, .int (nI (blw x9 6))), (6, .int (nI (tw tk co cn wk 0 n))), (0, .ref h), (1, .ref g), (2, .int (x)), (3, .int (nI (sort))), (4, .int (nI (a))), (5, .int (nI (b)))]) C0.1 C0.2.1 dL_works_84 hl (by decide) rfl (fun ls hl => ?_)
      refine lv_iload C0.1 C0.2.1 dL_works_86 (lv_at hl 0 rfl) ?_
      refine tn_if_le (tgt := 131) C0.1 C0.2.1 dL_works_88 (by decide) (by omega) (fun c_88 => ?_) (fun c_88 => ?_)
      · exact absurd c_88 (by decide)
      · refine lv_iload C0.1 C0.2.1 dL_works_91 (lv_at hl 0 rfl) ?_
        refine lv_aload_n C0.1 C0.2.1 dL_works_93 rfl (lv_at hl 5 rfl) ?_
        refine tgX1_store C0 hF hG w_store dL_works_94 ?_
        refine tn_icmp_gt (tgt := 131) C0.1 C0.2.1 dL_works_97 (by decide) (by omega) (by omega) (fun c_97 => ?_) (fun c_97 => ?_)
        · refine lv_iconst (v := nI 0) C0.1 C0.2.1 dL_works_131 (by decide) ?_
          refine lv_istore (lv' := [(10, .int (nI (0))), (9, .int (nI (8))), (8, .int (nI (blw x19 100))), (7, .int (nI (blw x9 6))), (6, .int (nI (tw tk co cn wk 0 n))), (0, .ref h), (1, .ref g), (2, .int (x)), (3, .int (nI (sort))), (4, .int (nI (a))), (5, .int (nI (b)))]) C0.1 C0.2.1 dL_works_132 hl (by decide) rfl (fun ls hl => ?_)
          refine lv_iload C0.1 C0.2.1 dL_works_134 (lv_at hl 1 rfl) ?_
          refine lv_istore (lv' := [(11, .int (nI (8))), (10, .int (nI (0))), (9, .int (nI (8))), (8, .int (nI (blw x19 100))), (7, .int (nI (blw x9 6))), (6, .int (nI (tw tk co cn wk 0 n))), (0, .ref h), (1, .ref g), (2, .int (x)), (3, .int (nI (sort))), (4, .int (nI (a))), (5, .int (nI (b)))]) C0.1 C0.2.1 dL_works_136 hl (by decide) rfl (fun ls hl => ?_)
          refine lv_iload C0.1 C0.2.1 dL_works_138 (lv_at hl 1 rfl) ?_
          refine tn_if_eq (tgt := 286) C0.1 C0.2.1 dL_works_140 (by decide) (by omega) (fun c_140 => ?_) (fun c_140 => ?_)
          · refine lv_iload_n C0.1 C0.2.1 dL_works_286 rfl (lv_at hl 9 rfl) ?_
            refine lv_bipush (v := nI 7) C0.1 C0.2.1 dL_works_287 (by decide) ?_
            refine tn_icmp_ge (tgt := 303) C0.1 C0.2.1 dL_works_289 (by decide) (by omega) (by omega) (fun c_289 => ?_) (fun c_289 => ?_)
            · refine lv_iload_n C0.1 C0.2.1 dL_works_303 rfl (lv_at hl 9 rfl) ?_
              refine lv_bipush (v := nI 11) C0.1 C0.2.1 dL_works_304 (by decide) ?_
              refine tn_icmp_ge (tgt := 320) C0.1 C0.2.1 dL_works_306 (by decide) (by omega) (by omega) (fun c_306 => ?_) (fun c_306 => ?_)
              · exact absurd c_306 (by omega)
              · refine lv_aload_n C0.1 C0.2.1 dL_works_309 rfl (lv_at hl 6 rfl) ?_
                refine lv_iload C0.1 C0.2.1 dL_works_310 (lv_at hl 10 rfl) ?_
                refine lv_iload C0.1 C0.2.1 dL_works_312 (lv_at hl 11 rfl) ?_
                refine tc_callVx (q0 := 0) C0 hG hS rfl rfl (kX0_swapTickets hlf hk  (nI (a)) (nI (b)) ) (cwV 2 C0.2.2.2.2 gL_works_X0_swapTickets rfl rfl rfl (by decide +kernel) ⟨(Nat.le_of_ble_eq_true rfl), (Nat.le_of_ble_eq_true rfl)⟩) rfl hl rfl (Nat.le_of_ble_eq_true rfl) dL_works_314 ⟨(Nat.le_of_ble_eq_true rfl), (Nat.le_of_ble_eq_true rfl)⟩ ?_ (fun c_314 H locs hG hS => ?_)
                · intro i E q9 ce H locs hi hcd hG hS hce hcv hcl
                  have hi9 : i = 2 := (by rw [cdSt_v h1 h2 (h3 (by omega)) hn12] at hcd; split at hcd <;> omega)
                  subst hi9
                  have hE : E = "java/lang/IllegalStateException" := (Option.some.inj (show some "java/lang/IllegalStateException" = some E from hi)).symm
                  subst hE
                  refine vx_catch C0.2.2.2.1 [] ⟨286, 360, 361, 31⟩ [] htb (fun z hz => by cases hz) (by decide) (by decide) (C0.2.2.2.2 (.classLink RL 31 "java/lang/IllegalStateException") (by decide +kernel)) (va_Nw.use rfl (hG.2.2.2.2.2.2.2.2.1 "java/lang/IllegalStateException" (by decide))) hce hcv hcl ?_
                  refine lv_astore (lv' := [(12, .ref q9), (11, .int (nI (8))), (10, .int (nI (0))), (9, .int (nI (8))), (8, .int (nI (blw x19 100))), (7, .int (nI (blw x9 6))), (6, .int (nI (tw tk co cn wk 0 n))), (0, .ref h), (1, .ref g), (2, .int (x)), (3, .int (nI (sort))), (4, .int (nI (a))), (5, .int (nI (b)))]) C0.1 C0.2.1 dL_works_361 hl (by decide) rfl (fun ls hl => ?_)
                  refine lv_iload C0.1 C0.2.1 dL_works_363 (lv_at hl 2 rfl) ?_
                  refine tn_if_ne (tgt := 372) C0.1 C0.2.1 dL_works_365 (by decide) (by omega) (fun c_365 => ?_) (fun c_365 => ?_)
                  · exact absurd c_365 (by decide)
                  · refine lv_iconst (v := nI 1) C0.1 C0.2.1 dL_works_368 (by decide) ?_
                    refine lv_goto (tgt := 373) C0.1 C0.2.1 dL_works_369 (by decide) ?_
                    refine tc_top (y := nI (b2n true)) rfl ?_
                    exact tce_zret C0 hr hlk hG hS ⟨rfl, tk, co, cn, st, 0, f, by omega, rfl, hk, hy, by rw [show sp + nI 0 = sp from Int32.add_zero sp]⟩ (Nat.le_of_ble_eq_true rfl) (Nat.le_of_ble_eq_true rfl) dL_works_373
                · refine W.eq (g2 := F0 m 317 ls (.int (nI (tw (swp tk (ix (nI (a))) (ix (nI (b)))) co cn wk 0 n) - nI (tw tk co cn wk 0 n)) :: [])) rfl ?_
                  have hG : tcG D cI cJ N0 (wB h r1 r2 r3 r4 cI (swp tk (ix (nI (a))) (ix (nI (b)))) co cn wk n ho (st - 8) ct (sp + nI 8) g ra rw cJ ho st ct sp n f Z) s H := hG
                  simp only [ix_nI (show a < 2 ^ 31 by omega), ix_nI (show b < 2 ^ 31 by omega)] at hG
                  have hG : tcG D cI cJ N0 (wB h r1 r2 r3 r4 cI (swp tk ((a)) ((b))) co cn wk n ho (st - 8) ct (sp + nI 8) g ra rw cJ ho st ct sp n f Z) s H := hG
                  try simp only [ix_nI (show a < 2 ^ 31 by omega), ix_nI (show b < 2 ^ 31 by omega)]
                  exact absurd c_314 (by rw [cdSt_v h1 h2 (h3 (by omega)) hn12, if_neg (by omega)]; decide)
            · exact absurd c_289 (by omega)
          · exact absurd c_140 (by decide)
        · refine lv_iload_n C0.1 C0.2.1 dL_works_100 rfl (lv_at hl 7 rfl) ?_
          refine lv_bipush (v := nI 6) C0.1 C0.2.1 dL_works_101 (by decide) ?_
          refine tn_icmp_gt (tgt := 127) C0.1 C0.2.1 dL_works_103 (by decide) (by omega) (by omega) (fun c_103 => ?_) (fun c_103 => ?_)
          · refine lv_iconst (v := nI 1) C0.1 C0.2.1 dL_works_127 (by decide) ?_
            refine lv_goto (tgt := 132) C0.1 C0.2.1 dL_works_128 (by decide) ?_
            refine lv_istore (lv' := [(10, .int (nI (1))), (9, .int (nI (8))), (8, .int (nI (blw x19 100))), (7, .int (nI (blw x9 6))), (6, .int (nI (tw tk co cn wk 0 n))), (0, .ref h), (1, .ref g), (2, .int (x)), (3, .int (nI (sort))), (4, .int (nI (a))), (5, .int (nI (b)))]) C0.1 C0.2.1 dL_works_132 hl (by decide) rfl (fun ls hl => ?_)
            refine lv_iload C0.1 C0.2.1 dL_works_134 (lv_at hl 1 rfl) ?_
            refine lv_istore (lv' := [(11, .int (nI (8))), (10, .int (nI (1))), (9, .int (nI (8))), (8, .int (nI (blw x19 100))), (7, .int (nI (blw x9 6))), (6, .int (nI (tw tk co cn wk 0 n))), (0, .ref h), (1, .ref g), (2, .int (x)), (3, .int (nI (sort))), (4, .int (nI (a))), (5, .int (nI (b)))]) C0.1 C0.2.1 dL_works_136 hl (by decide) rfl (fun ls hl => ?_)
            refine lv_iload C0.1 C0.2.1 dL_works_138 (lv_at hl 1 rfl) ?_
            refine tn_if_eq (tgt := 286) C0.1 C0.2.1 dL_works_140 (by decide) (by omega) (fun c_140 => ?_) (fun c_140 => ?_)
            · exact absurd c_140 (by decide)
            · refine lv_aload_n C0.1 C0.2.1 dL_works_143 rfl (lv_at hl 7 rfl) ?_
              refine lv_iload C0.1 C0.2.1 dL_works_144 (lv_at hl 2 rfl) ?_
              refine tc_callVv (q0 := 5) C0 hG hS rfl rfl (kX1_pay hlf hk hy  (8) (by omega)) (cwV 1 C0.2.2.2.2 gL_works_X1_pay rfl rfl rfl (by decide +kernel) ⟨(Nat.le_of_ble_eq_true rfl), (Nat.le_of_ble_eq_true rfl)⟩) rfl hl rfl (Nat.le_of_ble_eq_true rfl) dL_works_146 ⟨(Nat.le_of_ble_eq_true rfl), (Nat.le_of_ble_eq_true rfl)⟩ (fun H locs hG hS => ?_)
              have hG : tcG D cI cJ N0 (wB h r1 r2 r3 r4 cI tk co cn wk n ho st ct sp g ra rw cJ ho (st - 8) ct (sp + nI 8) n f Z) s H := hG
              have hk_146 : tOk tk co cn wk n (st - 8) := hk.st (by have := hk.2.2.2.2.2; omega)
              refine lv_iload_n C0.1 C0.2.1 dL_works_149 rfl (lv_at hl 9 rfl) ?_
              refine lv_bipush (v := nI 7) C0.1 C0.2.1 dL_works_150 (by decide) ?_
              refine tn_icmp_ge (tgt := 198) C0.1 C0.2.1 dL_works_152 (by decide) (by omega) (by omega) (fun c_152 => ?_) (fun c_152 => ?_)
              · refine lv_iload_n C0.1 C0.2.1 dL_works_198 rfl (lv_at hl 9 rfl) ?_
                refine lv_bipush (v := nI 11) C0.1 C0.2.1 dL_works_199 (by decide) ?_
                refine tn_icmp_ge (tgt := 235) C0.1 C0.2.1 dL_works_201 (by decide) (by omega) (by omega) (fun c_201 => ?_) (fun c_201 => ?_)
                · exact absurd c_201 (by omega)
                · refine lv_aload_n C0.1 C0.2.1 dL_works_204 rfl (lv_at hl 7 rfl) ?_
                  refine lv_iload C0.1 C0.2.1 dL_works_205 (lv_at hl 10 rfl) ?_
                  refine tc_callV (q0 := 5) C0 hG hS rfl rfl (kX1_ticket hlf hk_146 hy  (a) (by omega)) (cwV 1 C0.2.2.2.2 gL_works_X1_ticket rfl rfl rfl (by decide +kernel) ⟨(Nat.le_of_ble_eq_true rfl), (Nat.le_of_ble_eq_true rfl)⟩) rfl hl rfl (Nat.le_of_ble_eq_true rfl) dL_works_207 ⟨(Nat.le_of_ble_eq_true rfl), (Nat.le_of_ble_eq_true rfl)⟩ (fun H locs hG hS => ?_)
                  refine lv_istore (lv' := [(12, .int (nI (tk a))), (11, .int (nI (8))), (10, .int (nI (1))), (9, .int (nI (8))), (8, .int (nI (blw x19 100))), (7, .int (nI (blw x9 6))), (6, .int (nI (tw tk co cn wk 0 n))), (0, .ref h), (1, .ref g), (2, .int (x)), (3, .int (nI (sort))), (4, .int (nI (a))), (5, .int (nI (b)))]) C0.1 C0.2.1 dL_works_210 hl (by decide) rfl (fun ls hl => ?_)
                  refine lv_aload_n C0.1 C0.2.1 dL_works_212 rfl (lv_at hl 8 rfl) ?_
                  refine lv_iload C0.1 C0.2.1 dL_works_213 (lv_at hl 11 rfl) ?_
                  refine lv_aload_n C0.1 C0.2.1 dL_works_215 rfl (lv_at hl 8 rfl) ?_
                  refine lv_iload C0.1 C0.2.1 dL_works_216 (lv_at hl 12 rfl) ?_
                  refine tc_callV (q0 := 5) C0 hG hS rfl rfl (kX1_ticket hlf hk_146 hy  (b) (by omega)) (cwV 1 C0.2.2.2.2 gL_works_X1_ticket rfl rfl rfl (by decide +kernel) ⟨(Nat.le_of_ble_eq_true rfl), (Nat.le_of_ble_eq_true rfl)⟩) rfl hl rfl (Nat.le_of_ble_eq_true rfl) dL_works_218 ⟨(Nat.le_of_ble_eq_true rfl), (Nat.le_of_ble_eq_true rfl)⟩ (fun H locs hG hS => ?_)
                  refine tc_callVv (q0 := 5) C0 hG hS rfl rfl (kX1_set hlf hk_146 hy  (a) (tk b) (by omega) (by omega)) (cwV 2 C0.2.2.2.2 gL_works_X1_set rfl rfl rfl (by decide +kernel) ⟨(Nat.le_of_ble_eq_true rfl), (Nat.le_of_ble_eq_true rfl)⟩) rfl hl rfl (Nat.le_of_ble_eq_true rfl) dL_works_221 ⟨(Nat.le_of_ble_eq_true rfl), (Nat.le_of_ble_eq_true rfl)⟩ (fun H locs hG hS => ?_)
                  have hG : tcG D cI cJ N0 (wB h r1 r2 r3 r4 cI tk co cn wk n ho st ct sp g ra rw cJ ho (st - 8) ct (sp + nI 8) n (upR (upR f a 0 ((tk b) / 10)) a 1 ((tk b) % 10)) Z) s H := hG
                  have hy_221 : tSy (va_up tk a (tk b)) co cn wk n (upR (upR f a 0 ((tk b) / 10)) a 1 ((tk b) % 10)) := tSy.set hy
                  have hk_221 : tOk (va_up tk a (tk b)) co cn wk n (st - 8) := hk_146.tk (up_lt hk_146.1 (by omega) a)
                  refine lv_aload_n C0.1 C0.2.1 dL_works_224 rfl (lv_at hl 8 rfl) ?_
                  refine lv_iload C0.1 C0.2.1 dL_works_225 (lv_at hl 12 rfl) ?_
                  refine lv_iload C0.1 C0.2.1 dL_works_227 (lv_at hl 0 rfl) ?_
                  refine tc_callVv (q0 := 5) C0 hG hS rfl rfl (kX1_set hlf hk_221 hy_221  (b) (tk a) (by omega) (by omega)) (cwV 2 C0.2.2.2.2 gL_works_X1_set rfl rfl rfl (by decide +kernel) ⟨(Nat.le_of_ble_eq_true rfl), (Nat.le_of_ble_eq_true rfl)⟩) rfl hl rfl (Nat.le_of_ble_eq_true rfl) dL_works_229 ⟨(Nat.le_of_ble_eq_true rfl), (Nat.le_of_ble_eq_true rfl)⟩ (fun H locs hG hS => ?_)
                  have hG : tcG D cI cJ N0 (wB h r1 r2 r3 r4 cI tk co cn wk n ho st ct sp g ra rw cJ ho (st - 8) ct (sp + nI 8) n (upR (upR (upR (upR f a 0 ((tk b) / 10)) a 1 ((tk b) % 10)) b 0 ((tk a) / 10)) b 1 ((tk a) % 10)) Z) s H := hG
                  have hy_229 : tSy (va_up (va_up tk a (tk b)) b (tk a)) co cn wk n (upR (upR (upR (upR f a 0 ((tk b) / 10)) a 1 ((tk b) % 10)) b 0 ((tk a) / 10)) b 1 ((tk a) % 10)) := tSy.set hy_221
                  have hk_229 : tOk (va_up (va_up tk a (tk b)) b (tk a)) co cn wk n (st - 8) := hk_221.tk (up_lt hk_221.1 (by omega) b)
                  refine lv_goto (tgt := 271) C0.1 C0.2.1 dL_works_232 (by decide) ?_
                  refine lv_iload_n C0.1 C0.2.1 dL_works_271 rfl (lv_at hl 10 rfl) ?_
                  refine lv_bipush (v := nI 11) C0.1 C0.2.1 dL_works_272 (by decide) ?_
                  refine tn_icmp_ge (tgt := 286) C0.1 C0.2.1 dL_works_274 (by decide) (by omega) (by omega) (fun c_274 => ?_) (fun c_274 => ?_)
                  · exact absurd c_274 (by omega)
                  · refine lv_aload_n C0.1 C0.2.1 dL_works_277 rfl (lv_at hl 8 rfl) ?_
                    refine tc_callV (q0 := 5) C0 hG hS rfl rfl (kX1_town hlf hk_229 hy_229   ) (cwV 0 C0.2.2.2.2 gL_works_X1_town rfl rfl rfl (by decide +kernel) ⟨(Nat.le_of_ble_eq_true rfl), (Nat.le_of_ble_eq_true rfl)⟩) rfl hl rfl (Nat.le_of_ble_eq_true rfl) dL_works_278 ⟨(Nat.le_of_ble_eq_true rfl), (Nat.le_of_ble_eq_true rfl)⟩ (fun H locs hG hS => ?_)
                    have b_278 := tw_le (va_up (va_up tk a (tk b)) b (tk a)) co cn wk 0 hk_229.2.2.2.2.1
                    refine lv_iload C0.1 C0.2.1 dL_works_281 (lv_at hl 6 rfl) ?_
                    refine lv_isub C0.1 C0.2.1 dL_works_283 ?_
                    refine lv_istore (lv' := [(11, .int (nI (tw (va_up (va_up tk a (tk b)) b (tk a)) co cn wk 0 n) - nI (tw tk co cn wk 0 n))), (12, .int (nI (tk a))), (10, .int (nI (1))), (9, .int (nI (8))), (8, .int (nI (blw x19 100))), (7, .int (nI (blw x9 6))), (6, .int (nI (tw tk co cn wk 0 n))), (0, .ref h), (1, .ref g), (2, .int (x)), (3, .int (nI (sort))), (4, .int (nI (a))), (5, .int (nI (b)))]) C0.1 C0.2.1 dL_works_284 hl (by decide) rfl (fun ls hl => ?_)
                    refine lv_iload_n C0.1 C0.2.1 dL_works_286 rfl (lv_at hl 10 rfl) ?_
                    refine lv_bipush (v := nI 7) C0.1 C0.2.1 dL_works_287 (by decide) ?_
                    refine tn_icmp_ge (tgt := 303) C0.1 C0.2.1 dL_works_289 (by decide) (by omega) (by omega) (fun c_289 => ?_) (fun c_289 => ?_)
                    · refine lv_iload_n C0.1 C0.2.1 dL_works_303 rfl (lv_at hl 10 rfl) ?_
                      refine lv_bipush (v := nI 11) C0.1 C0.2.1 dL_works_304 (by decide) ?_
                      refine tn_icmp_ge (tgt := 320) C0.1 C0.2.1 dL_works_306 (by decide) (by omega) (by omega) (fun c_306 => ?_) (fun c_306 => ?_)
                      · exact absurd c_306 (by omega)
                      · refine lv_aload_n C0.1 C0.2.1 dL_works_309 rfl (lv_at hl 7 rfl) ?_
                        refine lv_iload C0.1 C0.2.1 dL_works_310 (lv_at hl 11 rfl) ?_
                        refine lv_iload C0.1 C0.2.1 dL_works_312 (lv_at hl 12 rfl) ?_
                        refine tc_callVx (q0 := 0) C0 hG hS rfl rfl (kX0_swapTickets hlf hk  (nI (a)) (nI (b)) ) (cwV 2 C0.2.2.2.2 gL_works_X0_swapTickets rfl rfl rfl (by decide +kernel) ⟨(Nat.le_of_ble_eq_true rfl), (Nat.le_of_ble_eq_true rfl)⟩) rfl hl rfl (Nat.le_of_ble_eq_true rfl) dL_works_314 ⟨(Nat.le_of_ble_eq_true rfl), (Nat.le_of_ble_eq_true rfl)⟩ ?_ (fun c_314 H locs hG hS => ?_)
                        · intro i E q9 ce H locs hi hcd hG hS hce hcv hcl
                          exact absurd hcd (by rw [cdSt_v h1 h2 (h3 (by omega)) hn12, if_pos (by omega)]; omega)
                        · refine W.eq (g2 := F0 m 317 ls (.int (nI (tw (swp tk (ix (nI (a))) (ix (nI (b)))) co cn wk 0 n) - nI (tw tk co cn wk 0 n)) :: [])) rfl ?_
                          have hG : tcG D cI cJ N0 (wB h r1 r2 r3 r4 cI (swp tk (ix (nI (a))) (ix (nI (b)))) co cn wk n ho (st - 8) ct (sp + nI 8) g ra rw cJ ho (st - 8) ct (sp + nI 8) n (upR (upR (upR (upR f a 0 ((tk b) / 10)) a 1 ((tk b) % 10)) b 0 ((tk a) / 10)) b 1 ((tk a) % 10)) Z) s H := hG
                          simp only [ix_nI (show a < 2 ^ 31 by omega), ix_nI (show b < 2 ^ 31 by omega)] at hG
                          have hG : tcG D cI cJ N0 (wB h r1 r2 r3 r4 cI (swp tk ((a)) ((b))) co cn wk n ho (st - 8) ct (sp + nI 8) g ra rw cJ ho (st - 8) ct (sp + nI 8) n (upR (upR (upR (upR f a 0 ((tk b) / 10)) a 1 ((tk b) % 10)) b 0 ((tk a) / 10)) b 1 ((tk a) % 10)) Z) s H := hG
                          try simp only [ix_nI (show a < 2 ^ 31 by omega), ix_nI (show b < 2 ^ 31 by omega)]
                          refine lv_goto (tgt := 345) C0.1 C0.2.1 dL_works_317 (by decide) ?_
                          refine lv_iload C0.1 C0.2.1 dL_works_345 (lv_at hl 0 rfl) ?_
                          refine lv_icmp_ne (tgt := 359) C0.1 C0.2.1 dL_works_347 (by decide) (fun c_347 => ?_) (fun c_347 => ?_)
                          · exact absurd rfl c_347
                          · refine lv_iload C0.1 C0.2.1 dL_works_350 (lv_at hl 2 rfl) ?_
                            refine tn_if_eq (tgt := 359) C0.1 C0.2.1 dL_works_352 (by decide) (by omega) (fun c_352 => ?_) (fun c_352 => ?_)
                            · exact absurd c_352 (by decide)
                            · refine lv_iconst (v := nI 1) C0.1 C0.2.1 dL_works_355 (by decide) ?_
                              refine lv_goto (tgt := 360) C0.1 C0.2.1 dL_works_356 (by decide) ?_
                              refine tc_top (y := nI (b2n true)) rfl ?_
                              exact tce_zret C0 hr hlk hG hS ⟨rfl, swp tk ((a)) ((b)), co, cn, st - 8, 8, upR (upR (upR (upR f a 0 ((tk b) / 10)) a 1 ((tk b) % 10)) b 0 ((tk a) / 10)) b 1 ((tk a) % 10), by omega, by omega, hk_229, hy_229, rfl⟩ (Nat.le_of_ble_eq_true rfl) (Nat.le_of_ble_eq_true rfl) dL_works_360
                    · exact absurd c_289 (by omega)
              · exact absurd c_152 (by omega)
          · exact absurd c_103 (by omega)
  · refine lv_iconst (v := nI 3) C0.1 C0.2.1 dL_works_33 (by decide) ?_
    refine lv_goto (tgt := 84) C0.1 C0.2.1 dL_works_34 (by decide) ?_
    refine lv_istore (lv' := [(9, .int (nI (3))), (8, .int (nI (blw x19 100))), (7, .int (nI (blw x9 6))), (6, .int (nI (tw tk co cn wk 0 n))), (0, .ref h), (1, .ref g), (2, .int (x)), (3, .int (nI (sort))), (4, .int (nI (a))), (5, .int (nI (b)))]) C0.1 C0.2.1 dL_works_84 hl (by decide) rfl (fun ls hl => ?_)
    refine lv_iload C0.1 C0.2.1 dL_works_86 (lv_at hl 0 rfl) ?_
    refine tn_if_le (tgt := 131) C0.1 C0.2.1 dL_works_88 (by decide) (by omega) (fun c_88 => ?_) (fun c_88 => ?_)
    · exact absurd c_88 (by decide)
    · refine lv_iload C0.1 C0.2.1 dL_works_91 (lv_at hl 0 rfl) ?_
      refine lv_aload_n C0.1 C0.2.1 dL_works_93 rfl (lv_at hl 5 rfl) ?_
      refine tgX1_store C0 hF hG w_store dL_works_94 ?_
      refine tn_icmp_gt (tgt := 131) C0.1 C0.2.1 dL_works_97 (by decide) (by omega) (by omega) (fun c_97 => ?_) (fun c_97 => ?_)
      · refine lv_iconst (v := nI 0) C0.1 C0.2.1 dL_works_131 (by decide) ?_
        refine lv_istore (lv' := [(10, .int (nI (0))), (9, .int (nI (3))), (8, .int (nI (blw x19 100))), (7, .int (nI (blw x9 6))), (6, .int (nI (tw tk co cn wk 0 n))), (0, .ref h), (1, .ref g), (2, .int (x)), (3, .int (nI (sort))), (4, .int (nI (a))), (5, .int (nI (b)))]) C0.1 C0.2.1 dL_works_132 hl (by decide) rfl (fun ls hl => ?_)
        refine lv_iload C0.1 C0.2.1 dL_works_134 (lv_at hl 1 rfl) ?_
        refine lv_istore (lv' := [(11, .int (nI (3))), (10, .int (nI (0))), (9, .int (nI (3))), (8, .int (nI (blw x19 100))), (7, .int (nI (blw x9 6))), (6, .int (nI (tw tk co cn wk 0 n))), (0, .ref h), (1, .ref g), (2, .int (x)), (3, .int (nI (sort))), (4, .int (nI (a))), (5, .int (nI (b)))]) C0.1 C0.2.1 dL_works_136 hl (by decide) rfl (fun ls hl => ?_)
        refine lv_iload C0.1 C0.2.1 dL_works_138 (lv_at hl 1 rfl) ?_
        refine tn_if_eq (tgt := 286) C0.1 C0.2.1 dL_works_140 (by decide) (by omega) (fun c_140 => ?_) (fun c_140 => ?_)
        · refine lv_iload_n C0.1 C0.2.1 dL_works_286 rfl (lv_at hl 9 rfl) ?_
          refine lv_bipush (v := nI 7) C0.1 C0.2.1 dL_works_287 (by decide) ?_
          refine tn_icmp_ge (tgt := 303) C0.1 C0.2.1 dL_works_289 (by decide) (by omega) (by omega) (fun c_289 => ?_) (fun c_289 => ?_)
          · exact absurd c_289 (by omega)
          · refine lv_aload_n C0.1 C0.2.1 dL_works_292 rfl (lv_at hl 6 rfl) ?_
            refine lv_iload C0.1 C0.2.1 dL_works_293 (lv_at hl 10 rfl) ?_
            refine lv_iload C0.1 C0.2.1 dL_works_295 (lv_at hl 11 rfl) ?_
            refine tc_callVx (q0 := 0) C0 hG hS rfl rfl (kX0_swapUmbrellas hlf hk  (nI (a)) (nI (b)) ) (cwV 2 C0.2.2.2.2 gL_works_X0_swapUmbrellas rfl rfl rfl (by decide +kernel) ⟨(Nat.le_of_ble_eq_true rfl), (Nat.le_of_ble_eq_true rfl)⟩) rfl hl rfl (Nat.le_of_ble_eq_true rfl) dL_works_297 ⟨(Nat.le_of_ble_eq_true rfl), (Nat.le_of_ble_eq_true rfl)⟩ ?_ (fun c_297 H locs hG hS => ?_)
            · intro i E q9 ce H locs hi hcd hG hS hce hcv hcl
              have hi9 : i = 2 := (by rw [cdSu_v h1 h2 (h3 (by omega)) hn12] at hcd; split at hcd <;> omega)
              subst hi9
              have hE : E = "java/lang/IllegalStateException" := (Option.some.inj (show some "java/lang/IllegalStateException" = some E from hi)).symm
              subst hE
              refine vx_catch C0.2.2.2.1 [] ⟨286, 360, 361, 31⟩ [] htb (fun z hz => by cases hz) (by decide) (by decide) (C0.2.2.2.2 (.classLink RL 31 "java/lang/IllegalStateException") (by decide +kernel)) (va_Nw.use rfl (hG.2.2.2.2.2.2.2.2.1 "java/lang/IllegalStateException" (by decide))) hce hcv hcl ?_
              refine lv_astore (lv' := [(12, .ref q9), (11, .int (nI (3))), (10, .int (nI (0))), (9, .int (nI (3))), (8, .int (nI (blw x19 100))), (7, .int (nI (blw x9 6))), (6, .int (nI (tw tk co cn wk 0 n))), (0, .ref h), (1, .ref g), (2, .int (x)), (3, .int (nI (sort))), (4, .int (nI (a))), (5, .int (nI (b)))]) C0.1 C0.2.1 dL_works_361 hl (by decide) rfl (fun ls hl => ?_)
              refine lv_iload C0.1 C0.2.1 dL_works_363 (lv_at hl 2 rfl) ?_
              refine tn_if_ne (tgt := 372) C0.1 C0.2.1 dL_works_365 (by decide) (by omega) (fun c_365 => ?_) (fun c_365 => ?_)
              · exact absurd c_365 (by decide)
              · refine lv_iconst (v := nI 1) C0.1 C0.2.1 dL_works_368 (by decide) ?_
                refine lv_goto (tgt := 373) C0.1 C0.2.1 dL_works_369 (by decide) ?_
                refine tc_top (y := nI (b2n true)) rfl ?_
                exact tce_zret C0 hr hlk hG hS ⟨rfl, tk, co, cn, st, 0, f, by omega, rfl, hk, hy, by rw [show sp + nI 0 = sp from Int32.add_zero sp]⟩ (Nat.le_of_ble_eq_true rfl) (Nat.le_of_ble_eq_true rfl) dL_works_373
            · refine W.eq (g2 := F0 m 300 ls (.int (nI (tw tk (swp co (ix (nI (a))) (ix (nI (b)))) cn wk 0 n) - nI (tw tk co cn wk 0 n)) :: [])) rfl ?_
              have hG : tcG D cI cJ N0 (wB h r1 r2 r3 r4 cI tk (swp co (ix (nI (a))) (ix (nI (b)))) cn wk n ho (st - 3) ct (sp + nI 3) g ra rw cJ ho st ct sp n f Z) s H := hG
              simp only [ix_nI (show a < 2 ^ 31 by omega), ix_nI (show b < 2 ^ 31 by omega)] at hG
              have hG : tcG D cI cJ N0 (wB h r1 r2 r3 r4 cI tk (swp co ((a)) ((b))) cn wk n ho (st - 3) ct (sp + nI 3) g ra rw cJ ho st ct sp n f Z) s H := hG
              try simp only [ix_nI (show a < 2 ^ 31 by omega), ix_nI (show b < 2 ^ 31 by omega)]
              exact absurd c_297 (by rw [cdSu_v h1 h2 (h3 (by omega)) hn12, if_neg (by omega)]; decide)
        · exact absurd c_140 (by decide)
      · refine lv_iload_n C0.1 C0.2.1 dL_works_100 rfl (lv_at hl 7 rfl) ?_
        refine lv_bipush (v := nI 6) C0.1 C0.2.1 dL_works_101 (by decide) ?_
        refine tn_icmp_gt (tgt := 127) C0.1 C0.2.1 dL_works_103 (by decide) (by omega) (by omega) (fun c_103 => ?_) (fun c_103 => ?_)
        · exact absurd c_103 (by omega)
        · refine lv_aload_n C0.1 C0.2.1 dL_works_106 rfl (lv_at hl 5 rfl) ?_
          refine tgX1_all C0 hF hG w_all dL_works_107 ?_
          refine lv_iload C0.1 C0.2.1 dL_works_110 (lv_at hl 8 rfl) ?_
          refine ts_aald (k := a) C0 hG (by omega) (by omega) dL_works_112 ?_
          refine lv_iconst (v := nI 3) C0.1 C0.2.1 dL_works_113 (by decide) ?_
          refine ts_ald (k := a) (j := 3) C0 hG (by omega) (by decide) dL_works_114 ?_
          refine tc_top (y := nI (cn (a))) (congrArg nI (hy (a) (by omega)).2.2.2.1) ?_
          have b_114 := hk.2.2.1 (a)
          refine lv_aload_n C0.1 C0.2.1 dL_works_115 rfl (lv_at hl 5 rfl) ?_
          refine tgX1_all C0 hF hG w_all dL_works_116 ?_
          refine lv_iload C0.1 C0.2.1 dL_works_119 (lv_at hl 9 rfl) ?_
          refine ts_aald (k := b) C0 hG (by omega) (by omega) dL_works_121 ?_
          refine lv_iconst (v := nI 3) C0.1 C0.2.1 dL_works_122 (by decide) ?_
          refine ts_ald (k := b) (j := 3) C0 hG (by omega) (by decide) dL_works_123 ?_
          refine tc_top (y := nI (cn (b))) (congrArg nI (hy (b) (by omega)).2.2.2.1) ?_
          have b_123 := hk.2.2.1 (b)
          refine tn_icmp_ne (tgt := 131) C0.1 C0.2.1 dL_works_124 (by decide) (by omega) (by omega) (fun c_124 => ?_) (fun c_124 => ?_)
          · refine lv_iconst (v := nI 0) C0.1 C0.2.1 dL_works_131 (by decide) ?_
            refine lv_istore (lv' := [(10, .int (nI (0))), (9, .int (nI (3))), (8, .int (nI (blw x19 100))), (7, .int (nI (blw x9 6))), (6, .int (nI (tw tk co cn wk 0 n))), (0, .ref h), (1, .ref g), (2, .int (x)), (3, .int (nI (sort))), (4, .int (nI (a))), (5, .int (nI (b)))]) C0.1 C0.2.1 dL_works_132 hl (by decide) rfl (fun ls hl => ?_)
            refine lv_iload C0.1 C0.2.1 dL_works_134 (lv_at hl 1 rfl) ?_
            refine lv_istore (lv' := [(11, .int (nI (3))), (10, .int (nI (0))), (9, .int (nI (3))), (8, .int (nI (blw x19 100))), (7, .int (nI (blw x9 6))), (6, .int (nI (tw tk co cn wk 0 n))), (0, .ref h), (1, .ref g), (2, .int (x)), (3, .int (nI (sort))), (4, .int (nI (a))), (5, .int (nI (b)))]) C0.1 C0.2.1 dL_works_136 hl (by decide) rfl (fun ls hl => ?_)
            refine lv_iload C0.1 C0.2.1 dL_works_138 (lv_at hl 1 rfl) ?_
            refine tn_if_eq (tgt := 286) C0.1 C0.2.1 dL_works_140 (by decide) (by omega) (fun c_140 => ?_) (fun c_140 => ?_)
            · refine lv_iload_n C0.1 C0.2.1 dL_works_286 rfl (lv_at hl 9 rfl) ?_
              refine lv_bipush (v := nI 7) C0.1 C0.2.1 dL_works_287 (by decide) ?_
              refine tn_icmp_ge (tgt := 303) C0.1 C0.2.1 dL_works_289 (by decide) (by omega) (by omega) (fun c_289 => ?_) (fun c_289 => ?_)
              · exact absurd c_289 (by omega)
              · refine lv_aload_n C0.1 C0.2.1 dL_works_292 rfl (lv_at hl 6 rfl) ?_
                refine lv_iload C0.1 C0.2.1 dL_works_293 (lv_at hl 10 rfl) ?_
                refine lv_iload C0.1 C0.2.1 dL_works_295 (lv_at hl 11 rfl) ?_
                refine tc_callVx (q0 := 0) C0 hG hS rfl rfl (kX0_swapUmbrellas hlf hk  (nI (a)) (nI (b)) ) (cwV 2 C0.2.2.2.2 gL_works_X0_swapUmbrellas rfl rfl rfl (by decide +kernel) ⟨(Nat.le_of_ble_eq_true rfl), (Nat.le_of_ble_eq_true rfl)⟩) rfl hl rfl (Nat.le_of_ble_eq_true rfl) dL_works_297 ⟨(Nat.le_of_ble_eq_true rfl), (Nat.le_of_ble_eq_true rfl)⟩ ?_ (fun c_297 H locs hG hS => ?_)
                · intro i E q9 ce H locs hi hcd hG hS hce hcv hcl
                  have hi9 : i = 2 := (by rw [cdSu_v h1 h2 (h3 (by omega)) hn12] at hcd; split at hcd <;> omega)
                  subst hi9
                  have hE : E = "java/lang/IllegalStateException" := (Option.some.inj (show some "java/lang/IllegalStateException" = some E from hi)).symm
                  subst hE
                  refine vx_catch C0.2.2.2.1 [] ⟨286, 360, 361, 31⟩ [] htb (fun z hz => by cases hz) (by decide) (by decide) (C0.2.2.2.2 (.classLink RL 31 "java/lang/IllegalStateException") (by decide +kernel)) (va_Nw.use rfl (hG.2.2.2.2.2.2.2.2.1 "java/lang/IllegalStateException" (by decide))) hce hcv hcl ?_
                  refine lv_astore (lv' := [(12, .ref q9), (11, .int (nI (3))), (10, .int (nI (0))), (9, .int (nI (3))), (8, .int (nI (blw x19 100))), (7, .int (nI (blw x9 6))), (6, .int (nI (tw tk co cn wk 0 n))), (0, .ref h), (1, .ref g), (2, .int (x)), (3, .int (nI (sort))), (4, .int (nI (a))), (5, .int (nI (b)))]) C0.1 C0.2.1 dL_works_361 hl (by decide) rfl (fun ls hl => ?_)
                  refine lv_iload C0.1 C0.2.1 dL_works_363 (lv_at hl 2 rfl) ?_
                  refine tn_if_ne (tgt := 372) C0.1 C0.2.1 dL_works_365 (by decide) (by omega) (fun c_365 => ?_) (fun c_365 => ?_)
                  · exact absurd c_365 (by decide)
                  · refine lv_iconst (v := nI 1) C0.1 C0.2.1 dL_works_368 (by decide) ?_
                    refine lv_goto (tgt := 373) C0.1 C0.2.1 dL_works_369 (by decide) ?_
                    refine tc_top (y := nI (b2n true)) rfl ?_
                    exact tce_zret C0 hr hlk hG hS ⟨rfl, tk, co, cn, st, 0, f, by omega, rfl, hk, hy, by rw [show sp + nI 0 = sp from Int32.add_zero sp]⟩ (Nat.le_of_ble_eq_true rfl) (Nat.le_of_ble_eq_true rfl) dL_works_373
                · refine W.eq (g2 := F0 m 300 ls (.int (nI (tw tk (swp co (ix (nI (a))) (ix (nI (b)))) cn wk 0 n) - nI (tw tk co cn wk 0 n)) :: [])) rfl ?_
                  have hG : tcG D cI cJ N0 (wB h r1 r2 r3 r4 cI tk (swp co (ix (nI (a))) (ix (nI (b)))) cn wk n ho (st - 3) ct (sp + nI 3) g ra rw cJ ho st ct sp n f Z) s H := hG
                  simp only [ix_nI (show a < 2 ^ 31 by omega), ix_nI (show b < 2 ^ 31 by omega)] at hG
                  have hG : tcG D cI cJ N0 (wB h r1 r2 r3 r4 cI tk (swp co ((a)) ((b))) cn wk n ho (st - 3) ct (sp + nI 3) g ra rw cJ ho st ct sp n f Z) s H := hG
                  try simp only [ix_nI (show a < 2 ^ 31 by omega), ix_nI (show b < 2 ^ 31 by omega)]
                  exact absurd c_297 (by rw [cdSu_v h1 h2 (h3 (by omega)) hn12, if_neg (by omega)]; decide)
            · exact absurd c_140 (by decide)
          · refine lv_iconst (v := nI 1) C0.1 C0.2.1 dL_works_127 (by decide) ?_
            refine lv_goto (tgt := 132) C0.1 C0.2.1 dL_works_128 (by decide) ?_
            refine lv_istore (lv' := [(10, .int (nI (1))), (9, .int (nI (3))), (8, .int (nI (blw x19 100))), (7, .int (nI (blw x9 6))), (6, .int (nI (tw tk co cn wk 0 n))), (0, .ref h), (1, .ref g), (2, .int (x)), (3, .int (nI (sort))), (4, .int (nI (a))), (5, .int (nI (b)))]) C0.1 C0.2.1 dL_works_132 hl (by decide) rfl (fun ls hl => ?_)
            refine lv_iload C0.1 C0.2.1 dL_works_134 (lv_at hl 1 rfl) ?_
            refine lv_istore (lv' := [(11, .int (nI (3))), (10, .int (nI (1))), (9, .int (nI (3))), (8, .int (nI (blw x19 100))), (7, .int (nI (blw x9 6))), (6, .int (nI (tw tk co cn wk 0 n))), (0, .ref h), (1, .ref g), (2, .int (x)), (3, .int (nI (sort))), (4, .int (nI (a))), (5, .int (nI (b)))]) C0.1 C0.2.1 dL_works_136 hl (by decide) rfl (fun ls hl => ?_)
            refine lv_iload C0.1 C0.2.1 dL_works_138 (lv_at hl 1 rfl) ?_
            refine tn_if_eq (tgt := 286) C0.1 C0.2.1 dL_works_140 (by decide) (by omega) (fun c_140 => ?_) (fun c_140 => ?_)
            · exact absurd c_140 (by decide)
            · refine lv_aload_n C0.1 C0.2.1 dL_works_143 rfl (lv_at hl 7 rfl) ?_
              refine lv_iload C0.1 C0.2.1 dL_works_144 (lv_at hl 2 rfl) ?_
              refine tc_callVv (q0 := 5) C0 hG hS rfl rfl (kX1_pay hlf hk hy  (3) (by omega)) (cwV 1 C0.2.2.2.2 gL_works_X1_pay rfl rfl rfl (by decide +kernel) ⟨(Nat.le_of_ble_eq_true rfl), (Nat.le_of_ble_eq_true rfl)⟩) rfl hl rfl (Nat.le_of_ble_eq_true rfl) dL_works_146 ⟨(Nat.le_of_ble_eq_true rfl), (Nat.le_of_ble_eq_true rfl)⟩ (fun H locs hG hS => ?_)
              have hG : tcG D cI cJ N0 (wB h r1 r2 r3 r4 cI tk co cn wk n ho st ct sp g ra rw cJ ho (st - 3) ct (sp + nI 3) n f Z) s H := hG
              have hk_146 : tOk tk co cn wk n (st - 3) := hk.st (by have := hk.2.2.2.2.2; omega)
              refine lv_iload_n C0.1 C0.2.1 dL_works_149 rfl (lv_at hl 9 rfl) ?_
              refine lv_bipush (v := nI 7) C0.1 C0.2.1 dL_works_150 (by decide) ?_
              refine tn_icmp_ge (tgt := 198) C0.1 C0.2.1 dL_works_152 (by decide) (by omega) (by omega) (fun c_152 => ?_) (fun c_152 => ?_)
              · exact absurd c_152 (by omega)
              · refine lv_aload_n C0.1 C0.2.1 dL_works_155 rfl (lv_at hl 7 rfl) ?_
                refine tgX1_all C0 hF hG w_all dL_works_156 ?_
                refine lv_iload C0.1 C0.2.1 dL_works_159 (lv_at hl 10 rfl) ?_
                refine ts_aald (k := a) C0 hG (by omega) (by omega) dL_works_161 ?_
                refine lv_iconst (v := nI 2) C0.1 C0.2.1 dL_works_162 (by decide) ?_
                refine ts_ald (k := a) (j := 2) C0 hG (by omega) (by decide) dL_works_163 ?_
                refine tc_top (y := nI (co (a))) (congrArg nI (hy (a) (by omega)).2.2.1) ?_
                have b_163 := hk_146.2.1 (a)
                refine lv_istore (lv' := [(12, .int (nI (co (a)))), (11, .int (nI (3))), (10, .int (nI (1))), (9, .int (nI (3))), (8, .int (nI (blw x19 100))), (7, .int (nI (blw x9 6))), (6, .int (nI (tw tk co cn wk 0 n))), (0, .ref h), (1, .ref g), (2, .int (x)), (3, .int (nI (sort))), (4, .int (nI (a))), (5, .int (nI (b)))]) C0.1 C0.2.1 dL_works_164 hl (by decide) rfl (fun ls hl => ?_)
                refine lv_aload_n C0.1 C0.2.1 dL_works_166 rfl (lv_at hl 8 rfl) ?_
                refine tgX1_all C0 hF hG w_all dL_works_167 ?_
                refine lv_iload C0.1 C0.2.1 dL_works_170 (lv_at hl 11 rfl) ?_
                refine ts_aald (k := a) C0 hG (by omega) (by omega) dL_works_172 ?_
                refine lv_iconst (v := nI 2) C0.1 C0.2.1 dL_works_173 (by decide) ?_
                refine lv_aload_n C0.1 C0.2.1 dL_works_174 rfl (lv_at hl 8 rfl) ?_
                refine tgX1_all C0 hF hG w_all dL_works_175 ?_
                refine lv_iload C0.1 C0.2.1 dL_works_178 (lv_at hl 12 rfl) ?_
                refine ts_aald (k := b) C0 hG (by omega) (by omega) dL_works_180 ?_
                refine lv_iconst (v := nI 2) C0.1 C0.2.1 dL_works_181 (by decide) ?_
                refine ts_ald (k := b) (j := 2) C0 hG (by omega) (by decide) dL_works_182 ?_
                refine tc_top (y := nI (co (b))) (congrArg nI (hy (b) (by omega)).2.2.1) ?_
                have b_182 := hk_146.2.1 (b)
                refine ts_ast (k := a) (j := 2) (x := co (b)) C0 hG0 hG hS (by omega) (by decide) dL_works_183 (fun H locs hG hS => ?_)
                have hG : tcG D cI cJ N0 (wB h r1 r2 r3 r4 cI tk co cn wk n ho st ct sp g ra rw cJ ho (st - 3) ct (sp + nI 3) n (upR f a 2 (co (b))) Z) s H := hG
                have hy_183 := tSy.c2 (k := a) (x := co (b)) hy
                have hk_183 := hk_146.co (up_lt (x := co (b)) hk_146.2.1 (by omega) (a))
                refine lv_aload_n C0.1 C0.2.1 dL_works_184 rfl (lv_at hl 8 rfl) ?_
                refine tgX1_all C0 hF hG w_all dL_works_185 ?_
                refine lv_iload C0.1 C0.2.1 dL_works_188 (lv_at hl 12 rfl) ?_
                refine ts_aald (k := b) C0 hG (by omega) (by omega) dL_works_190 ?_
                refine lv_iconst (v := nI 2) C0.1 C0.2.1 dL_works_191 (by decide) ?_
                refine lv_iload C0.1 C0.2.1 dL_works_192 (lv_at hl 0 rfl) ?_
                refine ts_ast (k := b) (j := 2) (x := co (a)) C0 hG0 hG hS (by omega) (by decide) dL_works_194 (fun H locs hG hS => ?_)
                have hG : tcG D cI cJ N0 (wB h r1 r2 r3 r4 cI tk co cn wk n ho st ct sp g ra rw cJ ho (st - 3) ct (sp + nI 3) n (upR (upR f a 2 (co (b))) b 2 (co (a))) Z) s H := hG
                have hy_194 := tSy.c2 (k := b) (x := co (a)) hy_183
                have hk_194 := hk_183.co (up_lt (x := co (a)) hk_183.2.1 (by omega) (b))
                refine lv_goto (tgt := 271) C0.1 C0.2.1 dL_works_195 (by decide) ?_
                refine lv_iload_n C0.1 C0.2.1 dL_works_271 rfl (lv_at hl 10 rfl) ?_
                refine lv_bipush (v := nI 11) C0.1 C0.2.1 dL_works_272 (by decide) ?_
                refine tn_icmp_ge (tgt := 286) C0.1 C0.2.1 dL_works_274 (by decide) (by omega) (by omega) (fun c_274 => ?_) (fun c_274 => ?_)
                · exact absurd c_274 (by omega)
                · refine lv_aload_n C0.1 C0.2.1 dL_works_277 rfl (lv_at hl 8 rfl) ?_
                  refine tc_callV (q0 := 5) C0 hG hS rfl rfl (kX1_town hlf hk_194 hy_194   ) (cwV 0 C0.2.2.2.2 gL_works_X1_town rfl rfl rfl (by decide +kernel) ⟨(Nat.le_of_ble_eq_true rfl), (Nat.le_of_ble_eq_true rfl)⟩) rfl hl rfl (Nat.le_of_ble_eq_true rfl) dL_works_278 ⟨(Nat.le_of_ble_eq_true rfl), (Nat.le_of_ble_eq_true rfl)⟩ (fun H locs hG hS => ?_)
                  have b_278 := tw_le tk (va_up (va_up co a (co (b))) b (co (a))) cn wk 0 hk_194.2.2.2.2.1
                  refine lv_iload C0.1 C0.2.1 dL_works_281 (lv_at hl 6 rfl) ?_
                  refine lv_isub C0.1 C0.2.1 dL_works_283 ?_
                  refine lv_istore (lv' := [(11, .int (nI (tw tk (va_up (va_up co a (co (b))) b (co (a))) cn wk 0 n) - nI (tw tk co cn wk 0 n))), (12, .int (nI (co (a)))), (10, .int (nI (1))), (9, .int (nI (3))), (8, .int (nI (blw x19 100))), (7, .int (nI (blw x9 6))), (6, .int (nI (tw tk co cn wk 0 n))), (0, .ref h), (1, .ref g), (2, .int (x)), (3, .int (nI (sort))), (4, .int (nI (a))), (5, .int (nI (b)))]) C0.1 C0.2.1 dL_works_284 hl (by decide) rfl (fun ls hl => ?_)
                  refine lv_iload_n C0.1 C0.2.1 dL_works_286 rfl (lv_at hl 10 rfl) ?_
                  refine lv_bipush (v := nI 7) C0.1 C0.2.1 dL_works_287 (by decide) ?_
                  refine tn_icmp_ge (tgt := 303) C0.1 C0.2.1 dL_works_289 (by decide) (by omega) (by omega) (fun c_289 => ?_) (fun c_289 => ?_)
                  · exact absurd c_289 (by omega)
                  · refine lv_aload_n C0.1 C0.2.1 dL_works_292 rfl (lv_at hl 7 rfl) ?_
                    refine lv_iload C0.1 C0.2.1 dL_works_293 (lv_at hl 11 rfl) ?_
                    refine lv_iload C0.1 C0.2.1 dL_works_295 (lv_at hl 12 rfl) ?_
                    refine tc_callVx (q0 := 0) C0 hG hS rfl rfl (kX0_swapUmbrellas hlf hk  (nI (a)) (nI (b)) ) (cwV 2 C0.2.2.2.2 gL_works_X0_swapUmbrellas rfl rfl rfl (by decide +kernel) ⟨(Nat.le_of_ble_eq_true rfl), (Nat.le_of_ble_eq_true rfl)⟩) rfl hl rfl (Nat.le_of_ble_eq_true rfl) dL_works_297 ⟨(Nat.le_of_ble_eq_true rfl), (Nat.le_of_ble_eq_true rfl)⟩ ?_ (fun c_297 H locs hG hS => ?_)
                    · intro i E q9 ce H locs hi hcd hG hS hce hcv hcl
                      exact absurd hcd (by rw [cdSu_v h1 h2 (h3 (by omega)) hn12, if_pos (by omega)]; omega)
                    · refine W.eq (g2 := F0 m 300 ls (.int (nI (tw tk (swp co (ix (nI (a))) (ix (nI (b)))) cn wk 0 n) - nI (tw tk co cn wk 0 n)) :: [])) rfl ?_
                      have hG : tcG D cI cJ N0 (wB h r1 r2 r3 r4 cI tk (swp co (ix (nI (a))) (ix (nI (b)))) cn wk n ho (st - 3) ct (sp + nI 3) g ra rw cJ ho (st - 3) ct (sp + nI 3) n (upR (upR f a 2 (co (b))) b 2 (co (a))) Z) s H := hG
                      simp only [ix_nI (show a < 2 ^ 31 by omega), ix_nI (show b < 2 ^ 31 by omega)] at hG
                      have hG : tcG D cI cJ N0 (wB h r1 r2 r3 r4 cI tk (swp co ((a)) ((b))) cn wk n ho (st - 3) ct (sp + nI 3) g ra rw cJ ho (st - 3) ct (sp + nI 3) n (upR (upR f a 2 (co (b))) b 2 (co (a))) Z) s H := hG
                      try simp only [ix_nI (show a < 2 ^ 31 by omega), ix_nI (show b < 2 ^ 31 by omega)]
                      refine lv_goto (tgt := 345) C0.1 C0.2.1 dL_works_300 (by decide) ?_
                      refine lv_iload C0.1 C0.2.1 dL_works_345 (lv_at hl 0 rfl) ?_
                      refine lv_icmp_ne (tgt := 359) C0.1 C0.2.1 dL_works_347 (by decide) (fun c_347 => ?_) (fun c_347 => ?_)
                      · exact absurd rfl c_347
                      · refine lv_iload C0.1 C0.2.1 dL_works_350 (lv_at hl 2 rfl) ?_
                        refine tn_if_eq (tgt := 359) C0.1 C0.2.1 dL_works_352 (by decide) (by omega) (fun c_352 => ?_) (fun c_352 => ?_)
                        · exact absurd c_352 (by decide)
                        · refine lv_iconst (v := nI 1) C0.1 C0.2.1 dL_works_355 (by decide) ?_
                          refine lv_goto (tgt := 360) C0.1 C0.2.1 dL_works_356 (by decide) ?_
                          refine tc_top (y := nI (b2n true)) rfl ?_
                          exact tce_zret C0 hr hlk hG hS ⟨rfl, tk, swp co ((a)) ((b)), cn, st - 3, 3, upR (upR f a 2 (co (b))) b 2 (co (a)), by omega, by omega, hk_194, hy_194, rfl⟩ (Nat.le_of_ble_eq_true rfl) (Nat.le_of_ble_eq_true rfl) dL_works_360
