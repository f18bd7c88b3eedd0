/-! something done to both -/
theorem mod_ne {n a c : Nat} (ha : a < n) (hc : c < n - 1) : a ≠ (a + 1 + c) % n := by
  rcases Nat.lt_or_ge (a + 1 + c) n with h | h
  · rw [Nat.mod_eq_of_lt h]; omega
  · rw [Nat.mod_eq_sub_mod h, Nat.mod_eq_of_lt (by omega)]; omega
theorem cdA_v {t c k w n : Nat} (h1 : t < 100) (h2 : c < 5) (h3 : k < 6) (h4 : w < 6) : cdA (nI t) (nI c) (nI k) (nI w) n = if n < 12 then 0 else 2 := by
  unfold cdA; rw [if_pos ⟨tcIn_in h1 (by decide), tcIn_in h2 (by decide), tcIn_in h3 (by decide), tcIn_in h4 (by decide)⟩]
set_option maxHeartbeats 4000000 in
set_option maxRecDepth 100000 in
theorem kL_act {l : Launch} (hlf : l.stackTraces = false) {D : va_G} {cI cJ : ClassId} {N0 : Nat} {h r1 r2 r3 r4 : Nat} {tk co cn wk : Nat → Nat} {n st : Nat} {ho ct sp : Int32} {g ra : Nat} {rw : Nat → Nat} {f : Nat → Nat → Nat} {Z : va_W} (hk : tOk tk co cn wk n st) (hy : tSy tk co cn wk n f) (x : Int32) (hn0 : 0 < n) : tcMe l yL_act wsL_act { frames := 10, cells := 4, slots := 24, locals := 188 } [.ref h, .ref g, .int (x)] D cI cJ N0 (wB h r1 r2 r3 r4 cI tk co cn wk n ho st ct sp g ra rw cJ ho st ct sp n f Z) (fun v ws' => v = some (.int (nI (b2n true))) ∧ ∃ (ra' : Nat) (rw' : Nat → Nat) (tk' co' cn' wk' : Nat → Nat) (n' : Nat) (ho' : Int32) (st' : Nat) (ct' : Int32) (d : Nat) (f' : Nat → Nat → Nat), 0 < n' ∧ tOk tk' co' cn' wk' n' st' ∧ tSy tk' co' cn' wk' n' f' ∧ d ≤ 12 ∧ ((ho' = ho ∧ st' + d = st) ∨ (d = 0 ∧ ∃ j : Nat, 1 ≤ j ∧ j ≤ 60 ∧ ho' = ho + nI j)) ∧ ws' = wB h r1 r2 r3 r4 cI tk' co' cn' wk' n' ho' st' ct' (sp + nI d) g ra' rw' cJ ho' st' ct' (sp + nI d) n' f' Z) 4 24 := by
  refine tcg_ofH (cc := cL_act) (maxL := 8) (ret := (some .boolean)) (hh := [(137, 180, 181, 31)]) (by decide) rfl (Nat.le_of_ble_eq_true rfl) ?_
  intro p e s m args below meth c C0 hr hlk htb hG ls hl
  show W p l e _ s m args below meth c s.heap [] 0 0 (tcEe below _ D N0 args s _ _) _
  have hl : lv_has ls 8 [(0, .ref h), (1, .ref g), (2, .int (x))] := hl
  have hG0 := hG
  have hS : va_S (tcA N0) s.heap s.heap [] := va_S.rf
  have hF : ∀ w ∈ wsX10, w ∈ wsL_act := by decide +kernel
  have w_all : Cond.fieldLink RL 9 "TicketCoincidencesLaw$Sim" "all" "[[I" ∈ wsL_act := by decide +kernel
  obtain ⟨hk1, hk2, hk3, hk4, hn12, hst⟩ := id hk
  refine lv_aload_n C0.1 C0.2.1 dL_act_0 rfl (lv_at hl 1 rfl) ?_
  refine tgX1_all C0 hF hG w_all dL_act_1 ?_
  refine ts_alen C0 hG dL_act_4 ?_
  refine lv_istore_n (lv' := [(3, .int (nI (n))), (0, .ref h), (1, .ref g), (2, .int (x))]) C0.1 C0.2.1 dL_act_5 rfl hl (by decide) rfl (fun ls hl => ?_)
  refine lv_iload_n C0.1 C0.2.1 dL_act_6 rfl (lv_at hl 0 rfl) ?_
  refine tn_if_ne (tgt := 14) C0.1 C0.2.1 dL_act_7 (by decide) (by omega) (fun c_7 => ?_) (fun c_7 => ?_)
  · refine lv_iload_n C0.1 C0.2.1 dL_act_14 rfl (lv_at hl 3 rfl) ?_
    refine lv_bipush (v := nI 20) C0.1 C0.2.1 dL_act_15 (by decide) ?_
    refine tc_callS C0 hG hS (kL_below hlf  (x) (20) (by omega) (by omega)) (va_cwS 2 C0.2.2.2.2 gL_act_L_below rfl rfl rfl (by decide +kernel) ⟨(Nat.le_of_ble_eq_true rfl), (Nat.le_of_ble_eq_true rfl)⟩) rfl hl rfl (Nat.le_of_ble_eq_true rfl) dL_act_17 ⟨(Nat.le_of_ble_eq_true rfl), (Nat.le_of_ble_eq_true rfl)⟩ (fun H locs hG hS => ?_)
    have b_17 := (show blw x 20 < 20 from blw_lt x (by omega))
    refine lv_istore (lv' := [(4, .int (nI (blw x 20))), (3, .int (nI (n))), (0, .ref h), (1, .ref g), (2, .int (x))]) C0.1 C0.2.1 dL_act_20 hl (by decide) rfl (fun ls hl => ?_)
    refine lv_iload C0.1 C0.2.1 dL_act_22 (lv_at hl 0 rfl) ?_
    refine tn_if_ne (tgt := 195) C0.1 C0.2.1 dL_act_24 (by decide) (by omega) (fun c_24 => ?_) (fun c_24 => ?_)
    · refine lv_iload_n C0.1 C0.2.1 dL_act_195 rfl (lv_at hl 4 rfl) ?_
      refine lv_iconst (v := nI 4) C0.1 C0.2.1 dL_act_196 (by decide) ?_
      refine lv_ishr C0.1 C0.2.1 dL_act_197 ?_
      refine tc_any (fun x197 => ?_)
      refine lv_iload_n C0.1 C0.2.1 dL_act_198 rfl (lv_at hl 1 rfl) ?_
      refine tc_callS C0 hG hS (kL_below hlf  (x197) (n) (by omega) (by omega)) (va_cwS 2 C0.2.2.2.2 gL_act_L_below rfl rfl rfl (by decide +kernel) ⟨(Nat.le_of_ble_eq_true rfl), (Nat.le_of_ble_eq_true rfl)⟩) rfl hl rfl (Nat.le_of_ble_eq_true rfl) dL_act_199 ⟨(Nat.le_of_ble_eq_true rfl), (Nat.le_of_ble_eq_true rfl)⟩ (fun H locs hG hS => ?_)
      have b_199 := (show blw x197 n < n from blw_lt x197 (by omega))
      refine lv_istore (lv' := [(5, .int (nI (blw x197 n))), (4, .int (nI (blw x 20))), (3, .int (nI (n))), (0, .ref h), (1, .ref g), (2, .int (x))]) C0.1 C0.2.1 dL_act_202 hl (by decide) rfl (fun ls hl => ?_)
      refine lv_iload_n C0.1 C0.2.1 dL_act_204 rfl (lv_at hl 2 rfl) ?_
      refine lv_iconst (v := nI 1) C0.1 C0.2.1 dL_act_205 (by decide) ?_
      refine tc_nameQ (fun zQg zhQ => ?_)
      have cut_230 : ∀ (b : Nat) (hb : b < n) (hab : 1 < n → blw x197 n ≠ b), ∀ (ls : Array Slot), lv_has ls 8 [(5, .int (nI (blw x197 n))), (4, .int (nI (blw x 20))), (3, .int (nI (n))), (0, .ref h), (1, .ref g), (2, .int (x))] → ∀ (H : Heap) (locs : List Loc), tcG D cI cJ N0 (wB h r1 r2 r3 r4 cI tk co cn wk n ho st ct sp g ra rw cJ ho st ct sp n f Z) s H → va_S (tcA N0) s.heap H locs → W p l e ({ frames := 10, cells := 4, slots := 24, locals := 188 } : Room) s m args below meth c H locs (0) (0) zQg (F0 m 230 ls [.int (nI (b))]) := by
        intro b hb hab ls hl H locs hG hS
        refine lv_istore (lv' := [(6, .int (nI (b))), (5, .int (nI (blw x197 n))), (4, .int (nI (blw x 20))), (3, .int (nI (n))), (0, .ref h), (1, .ref g), (2, .int (x))]) C0.1 C0.2.1 dL_act_230 hl (by decide) rfl (fun ls hl => ?_)
        refine lv_iload C0.1 C0.2.1 dL_act_232 (lv_at hl 2 rfl) ?_
        refine lv_iconst (v := nI 3) C0.1 C0.2.1 dL_act_234 (by decide) ?_
        refine tn_icmp_ge (tgt := 293) C0.1 C0.2.1 dL_act_235 (by decide) (by omega) (by omega) (fun c_235 => ?_) (fun c_235 => ?_)
        · refine lv_iload C0.1 C0.2.1 dL_act_293 (lv_at hl 2 rfl) ?_
          refine lv_bipush (v := nI 13) C0.1 C0.2.1 dL_act_295 (by decide) ?_
          refine tn_icmp_le (tgt := 349) C0.1 C0.2.1 dL_act_297 (by decide) (by omega) (by omega) (fun c_297 => ?_) (fun c_297 => ?_)
          · refine lv_iload_n C0.1 C0.2.1 dL_act_349 rfl (lv_at hl 3 rfl) ?_
            refine lv_iconst (v := nI 1) C0.1 C0.2.1 dL_act_350 (by decide) ?_
            refine tn_icmp_ne (tgt := 361) C0.1 C0.2.1 dL_act_351 (by decide) (by omega) (by omega) (fun c_351 => ?_) (fun c_351 => ?_)
            · refine lv_aload_n C0.1 C0.2.1 dL_act_361 rfl (lv_at hl 4 rfl) ?_
              refine lv_aload_n C0.1 C0.2.1 dL_act_362 rfl (lv_at hl 5 rfl) ?_
              refine lv_iload_n C0.1 C0.2.1 dL_act_363 rfl (lv_at hl 6 rfl) ?_
              refine lv_iload C0.1 C0.2.1 dL_act_364 (lv_at hl 2 rfl) ?_
              refine lv_iload C0.1 C0.2.1 dL_act_366 (lv_at hl 1 rfl) ?_
              refine lv_iload C0.1 C0.2.1 dL_act_368 (lv_at hl 0 rfl) ?_
              refine tce_callSW C0 hG hS (kL_works hlf hk hy  (x) (blw x 20) (blw x197 n) (b) (by omega) (by omega) (by omega) (fun h9 => by first | exact hab (by omega) | omega)) (vx_cwSW 6 C0.2.2.2.2 gL_act_L_works rfl rfl rfl (by decide +kernel) ⟨(Nat.le_of_ble_eq_true rfl), (Nat.le_of_ble_eq_true rfl)⟩) rfl hl rfl (Nat.le_of_ble_eq_true rfl) dL_act_370 ⟨(Nat.le_of_ble_eq_true rfl), (Nat.le_of_ble_eq_true rfl)⟩ (fun v9 ws9 H locs hP9 hG hS => ?_)
              obtain ⟨rfl, tk', co', cn', st', d, f', hd12, hds, hk_370, hy_370, rfl⟩ := hP9
              refine W.eq (g2 := F0 m 373 ls [.int (nI (b2n (true)))]) rfl ?_
              have hG : tcG D cI cJ N0 (wB h r1 r2 r3 r4 cI tk' co' cn' wk n ho st' ct (sp + nI d) g ra rw cJ ho st' ct (sp + nI d) n f' Z) s H := hG
              refine tb_if_eq (tgt := 380) C0.1 C0.2.1 dL_act_373 (by decide) (fun c_373 => ?_) (fun c_373 => ?_)
              · exact absurd c_373 (by decide)
              · refine lv_iconst (v := nI 1) C0.1 C0.2.1 dL_act_376 (by decide) ?_
                refine lv_goto (tgt := 381) C0.1 C0.2.1 dL_act_377 (by decide) ?_
                subst zhQ
                refine tc_top (y := nI (b2n true)) rfl ?_
                exact tce_zret C0 hr hlk hG hS ⟨rfl, ra, rw, tk', co', cn', wk, n, ho, st', ct, d, f', by omega, hk_370, hy_370, by omega, Or.inl ⟨rfl, by omega⟩, rfl⟩ (Nat.le_of_ble_eq_true rfl) (Nat.le_of_ble_eq_true rfl) dL_act_381
            · refine lv_iload C0.1 C0.2.1 dL_act_354 (lv_at hl 2 rfl) ?_
              refine lv_bipush (v := nI 11) C0.1 C0.2.1 dL_act_356 (by decide) ?_
              refine tn_icmp_lt (tgt := 376) C0.1 C0.2.1 dL_act_358 (by decide) (by omega) (by omega) (fun c_358 => ?_) (fun c_358 => ?_)
              · refine lv_iconst (v := nI 1) C0.1 C0.2.1 dL_act_376 (by decide) ?_
                refine lv_goto (tgt := 381) C0.1 C0.2.1 dL_act_377 (by decide) ?_
                subst zhQ
                refine tc_top (y := nI (b2n true)) rfl ?_
                exact tce_zret C0 hr hlk hG hS ⟨rfl, ra, rw, tk, co, cn, wk, n, ho, st, ct, 0, f, by omega, hk, hy, by omega, Or.inl ⟨rfl, by omega⟩, by rw [show sp + nI 0 = sp from Int32.add_zero sp]⟩ (Nat.le_of_ble_eq_true rfl) (Nat.le_of_ble_eq_true rfl) dL_act_381
              · refine lv_aload_n C0.1 C0.2.1 dL_act_361 rfl (lv_at hl 4 rfl) ?_
                refine lv_aload_n C0.1 C0.2.1 dL_act_362 rfl (lv_at hl 5 rfl) ?_
                refine lv_iload_n C0.1 C0.2.1 dL_act_363 rfl (lv_at hl 6 rfl) ?_
                refine lv_iload C0.1 C0.2.1 dL_act_364 (lv_at hl 2 rfl) ?_
                refine lv_iload C0.1 C0.2.1 dL_act_366 (lv_at hl 1 rfl) ?_
                refine lv_iload C0.1 C0.2.1 dL_act_368 (lv_at hl 0 rfl) ?_
                refine tce_callSW C0 hG hS (kL_works hlf hk hy  (x) (blw x 20) (blw x197 n) (b) (by omega) (by omega) (by omega) (fun h9 => by first | exact hab (by omega) | omega)) (vx_cwSW 6 C0.2.2.2.2 gL_act_L_works rfl rfl rfl (by decide +kernel) ⟨(Nat.le_of_ble_eq_true rfl), (Nat.le_of_ble_eq_true rfl)⟩) rfl hl rfl (Nat.le_of_ble_eq_true rfl) dL_act_370 ⟨(Nat.le_of_ble_eq_true rfl), (Nat.le_of_ble_eq_true rfl)⟩ (fun v9 ws9 H locs hP9 hG hS => ?_)
                obtain ⟨rfl, tk', co', cn', st', d, f', hd12, hds, hk_370, hy_370, rfl⟩ := hP9
                refine W.eq (g2 := F0 m 373 ls [.int (nI (b2n (true)))]) rfl ?_
                have hG : tcG D cI cJ N0 (wB h r1 r2 r3 r4 cI tk' co' cn' wk n ho st' ct (sp + nI d) g ra rw cJ ho st' ct (sp + nI d) n f' Z) s H := hG
                refine tb_if_eq (tgt := 380) C0.1 C0.2.1 dL_act_373 (by decide) (fun c_373 => ?_) (fun c_373 => ?_)
                · exact absurd c_373 (by decide)
                · refine lv_iconst (v := nI 1) C0.1 C0.2.1 dL_act_376 (by decide) ?_
                  refine lv_goto (tgt := 381) C0.1 C0.2.1 dL_act_377 (by decide) ?_
                  subst zhQ
                  refine tc_top (y := nI (b2n true)) rfl ?_
                  exact tce_zret C0 hr hlk hG hS ⟨rfl, ra, rw, tk', co', cn', wk, n, ho, st', ct, d, f', by omega, hk_370, hy_370, by omega, Or.inl ⟨rfl, by omega⟩, rfl⟩ (Nat.le_of_ble_eq_true rfl) (Nat.le_of_ble_eq_true rfl) dL_act_381
          · refine lv_iconst (v := nI 1) C0.1 C0.2.1 dL_act_300 (by decide) ?_
            refine lv_iload_n C0.1 C0.2.1 dL_act_301 rfl (lv_at hl 6 rfl) ?_
            refine lv_iconst (v := nI 5) C0.1 C0.2.1 dL_act_302 (by decide) ?_
            refine lv_ishr C0.1 C0.2.1 dL_act_303 ?_
            refine tc_any (fun x303 => ?_)
            refine lv_iload_n C0.1 C0.2.1 dL_act_304 rfl (lv_at hl 6 rfl) ?_
            refine lv_bipush (v := nI 8) C0.1 C0.2.1 dL_act_305 (by decide) ?_
            refine lv_ishr C0.1 C0.2.1 dL_act_307 ?_
            refine tc_any (fun x307 => ?_)
            refine lv_iconst (v := nI 4) C0.1 C0.2.1 dL_act_308 (by decide) ?_
            refine tc_callS C0 hG hS (kL_below hlf  (x307) (4) (by omega) (by omega)) (va_cwS 2 C0.2.2.2.2 gL_act_L_below rfl rfl rfl (by decide +kernel) ⟨(Nat.le_of_ble_eq_true rfl), (Nat.le_of_ble_eq_true rfl)⟩) rfl hl rfl (Nat.le_of_ble_eq_true rfl) dL_act_309 ⟨(Nat.le_of_ble_eq_true rfl), (Nat.le_of_ble_eq_true rfl)⟩ (fun H locs hG hS => ?_)
            have b_309 := (show blw x307 4 < 4 from blw_lt x307 (by omega))
            have cut_322 : ∀ (u : Nat) (hu : 0 < u ∧ u ≤ 60), ∀ (ls : Array Slot), lv_has ls 8 [(6, .int (nI (b))), (5, .int (nI (blw x197 n))), (4, .int (nI (blw x 20))), (3, .int (nI (n))), (0, .ref h), (1, .ref g), (2, .int (x))] → ∀ (H : Heap) (locs : List Loc), tcG D cI cJ N0 (wB h r1 r2 r3 r4 cI tk co cn wk n ho st ct sp g ra rw cJ ho st ct sp n f Z) s H → va_S (tcA N0) s.heap H locs → W p l e ({ frames := 10, cells := 4, slots := 24, locals := 188 } : Room) s m args below meth c H locs (0) (0) zQg (F0 m 322 ls [.int (nI (u)), .int (x303), .int (nI (1))]) := by
              intro u hu ls hl H locs hG hS
              refine tc_callS C0 hG hS (kL_below hlf  (x303) (u) (by omega) (by omega)) (va_cwS 2 C0.2.2.2.2 gL_act_L_below rfl rfl rfl (by decide +kernel) ⟨(Nat.le_of_ble_eq_true rfl), (Nat.le_of_ble_eq_true rfl)⟩) rfl hl rfl (Nat.le_of_ble_eq_true rfl) dL_act_322 ⟨(Nat.le_of_ble_eq_true rfl), (Nat.le_of_ble_eq_true rfl)⟩ (fun H locs hG hS => ?_)
              have b_322 := (show blw x303 u < u from blw_lt x303 (by omega))
              refine tn_iadd C0.1 C0.2.1 dL_act_325 ?_
              refine lv_istore (lv' := [(7, .int (nI (1 + (blw x303 u)))), (6, .int (nI (b))), (5, .int (nI (blw x197 n))), (4, .int (nI (blw x 20))), (3, .int (nI (n))), (0, .ref h), (1, .ref g), (2, .int (x))]) C0.1 C0.2.1 dL_act_326 hl (by decide) rfl (fun ls hl => ?_)
              refine lv_aload_n C0.1 C0.2.1 dL_act_328 rfl (lv_at hl 5 rfl) ?_
              refine lv_iload C0.1 C0.2.1 dL_act_329 (lv_at hl 0 rfl) ?_
              refine tc_callV (q0 := 0) C0 hG hS rfl rfl (kX0_pass_in hlf hk  (1 + (blw x303 u)) (by omega) (by omega)) (cwV 1 C0.2.2.2.2 gL_act_X0_pass rfl rfl rfl (by decide +kernel) ⟨(Nat.le_of_ble_eq_true rfl), (Nat.le_of_ble_eq_true rfl)⟩) rfl hl rfl (Nat.le_of_ble_eq_true rfl) dL_act_331 ⟨(Nat.le_of_ble_eq_true rfl), (Nat.le_of_ble_eq_true rfl)⟩ (fun H locs hG hS => ?_)
              have hG : tcG D cI cJ N0 (wB h r1 r2 r3 r4 cI tk co ((hrs tk co wk n cn ct st (1 + (blw x303 u))).1) wk n (ho + nI (1 + (blw x303 u))) ((hrs tk co wk n cn ct st (1 + (blw x303 u))).2.2) ((hrs tk co wk n cn ct st (1 + (blw x303 u))).2.1) sp g ra rw cJ ho st ct sp n f Z) s H := hG
              refine lv_aload_n C0.1 C0.2.1 dL_act_334 rfl (lv_at hl 6 rfl) ?_
              refine lv_iload C0.1 C0.2.1 dL_act_335 (lv_at hl 0 rfl) ?_
              refine tce_callV (q0 := 5) C0 hG hS rfl rfl (kX1_pass hlf hk hy  (1 + (blw x303 u)) (by omega)) (cwV 1 C0.2.2.2.2 gL_act_X1_pass rfl rfl rfl (by decide +kernel) ⟨(Nat.le_of_ble_eq_true rfl), (Nat.le_of_ble_eq_true rfl)⟩) rfl hl rfl (Nat.le_of_ble_eq_true rfl) dL_act_337 ⟨(Nat.le_of_ble_eq_true rfl), (Nat.le_of_ble_eq_true rfl)⟩ (fun v9 ws9 H locs hP9 hG hS => ?_)
              obtain ⟨f1, hy_337, rfl, rfl⟩ := hP9
              have hl9 := hrs_lt (tk := tk) (co := co) (wk := wk) (n := n) (ct := ct) hk3 hst (1 + (blw x303 u))
              have hk_337 := (hk.cn hl9.1).st hl9.2
              refine W.eq (g2 := F0 m 340 ls [.int ((hrs tk co wk n cn ct st (1 + (blw x303 u))).2.1 - ct), .int ((hrs tk co wk n cn ct st (1 + (blw x303 u))).2.1 - ct)]) rfl ?_
              have hG : tcG D cI cJ N0 (wB h r1 r2 r3 r4 cI tk co ((hrs tk co wk n cn ct st (1 + (blw x303 u))).1) wk n (ho + nI (1 + (blw x303 u))) ((hrs tk co wk n cn ct st (1 + (blw x303 u))).2.2) ((hrs tk co wk n cn ct st (1 + (blw x303 u))).2.1) sp g ra rw cJ (ho + nI (1 + (blw x303 u))) ((hrs tk co wk n cn ct st (1 + (blw x303 u))).2.2) ((hrs tk co wk n cn ct st (1 + (blw x303 u))).2.1) sp n f1 Z) s H := hG
              refine lv_icmp_ne (tgt := 347) C0.1 C0.2.1 dL_act_340 (by decide) (fun c_340 => ?_) (fun c_340 => ?_)
              · exact absurd rfl c_340
              · refine lv_iconst (v := nI 1) C0.1 C0.2.1 dL_act_343 (by decide) ?_
                refine lv_goto (tgt := 348) C0.1 C0.2.1 dL_act_344 (by decide) ?_
                subst zhQ
                refine tc_top (y := nI (b2n true)) rfl ?_
                exact tce_zret C0 hr hlk hG hS ⟨rfl, ra, rw, tk, co, (hrs tk co wk n cn ct st (1 + (blw x303 u))).1, wk, n, ho + nI (1 + (blw x303 u)), (hrs tk co wk n cn ct st (1 + (blw x303 u))).2.2, (hrs tk co wk n cn ct st (1 + (blw x303 u))).2.1, 0, f1, by omega, hk_337, hy_337, by omega, Or.inr ⟨rfl, 1 + (blw x303 u), by omega, by omega, rfl⟩, by rw [show sp + nI 0 = sp from Int32.add_zero sp]⟩ (Nat.le_of_ble_eq_true rfl) (Nat.le_of_ble_eq_true rfl) dL_act_348
            refine tn_if_ne (tgt := 320) C0.1 C0.2.1 dL_act_312 (by decide) (by omega) (fun c_312 => ?_) (fun c_312 => ?_)
            · refine lv_bipush (v := nI 6) C0.1 C0.2.1 dL_act_320 (by decide) ?_
              exact cut_322 (6) (by omega) ls (lv_sub hl [0, 1, 2, 3, 4, 5, 6] rfl) _ _ hG hS
            · refine lv_bipush (v := nI 60) C0.1 C0.2.1 dL_act_315 (by decide) ?_
              refine lv_goto (tgt := 322) C0.1 C0.2.1 dL_act_317 (by decide) ?_
              exact cut_322 (60) (by omega) ls (lv_sub hl [0, 1, 2, 3, 4, 5, 6] rfl) _ _ hG hS
        · refine lv_aload_n C0.1 C0.2.1 dL_act_238 rfl (lv_at hl 5 rfl) ?_
          refine tgX1_all C0 hF hG w_all dL_act_239 ?_
          refine lv_iload C0.1 C0.2.1 dL_act_242 (lv_at hl 1 rfl) ?_
          refine ts_aald (k := blw x197 n) C0 hG (by omega) (by omega) dL_act_244 ?_
          refine lv_iconst (v := nI 4) C0.1 C0.2.1 dL_act_245 (by decide) ?_
          refine ts_ald (k := blw x197 n) (j := 4) C0 hG (by omega) (by decide) dL_act_246 ?_
          refine tc_top (y := nI (wk (blw x197 n))) (congrArg nI (hy (blw x197 n) (by omega)).2.2.2.2) ?_
          have b_246 := hk.2.2.2.1 (blw x197 n)
          refine lv_istore (lv' := [(7, .int (nI (wk (blw x197 n)))), (6, .int (nI (b))), (5, .int (nI (blw x197 n))), (4, .int (nI (blw x 20))), (3, .int (nI (n))), (0, .ref h), (1, .ref g), (2, .int (x))]) C0.1 C0.2.1 dL_act_247 hl (by decide) rfl (fun ls hl => ?_)
          refine lv_aload_n C0.1 C0.2.1 dL_act_249 rfl (lv_at hl 6 rfl) ?_
          refine tgX1_all C0 hF hG w_all dL_act_250 ?_
          refine lv_iload C0.1 C0.2.1 dL_act_253 (lv_at hl 2 rfl) ?_
          refine ts_aald (k := blw x197 n) C0 hG (by omega) (by omega) dL_act_255 ?_
          refine lv_iconst (v := nI 4) C0.1 C0.2.1 dL_act_256 (by decide) ?_
          refine lv_iload_n C0.1 C0.2.1 dL_act_257 rfl (lv_at hl 7 rfl) ?_
          refine lv_bipush (v := nI 7) C0.1 C0.2.1 dL_act_258 (by decide) ?_
          refine lv_ishr C0.1 C0.2.1 dL_act_260 ?_
          refine tc_any (fun x260 => ?_)
          refine lv_bipush (v := nI 6) C0.1 C0.2.1 dL_act_261 (by decide) ?_
          refine tc_callS C0 hG hS (kL_below hlf  (x260) (6) (by omega) (by omega)) (va_cwS 2 C0.2.2.2.2 gL_act_L_below rfl rfl rfl (by decide +kernel) ⟨(Nat.le_of_ble_eq_true rfl), (Nat.le_of_ble_eq_true rfl)⟩) rfl hl rfl (Nat.le_of_ble_eq_true rfl) dL_act_263 ⟨(Nat.le_of_ble_eq_true rfl), (Nat.le_of_ble_eq_true rfl)⟩ (fun H locs hG hS => ?_)
          have b_263 := (show blw x260 6 < 6 from blw_lt x260 (by omega))
          refine ts_ast (k := blw x197 n) (j := 4) (x := blw x260 6) C0 hG0 hG hS (by omega) (by decide) dL_act_266 (fun H locs hG hS => ?_)
          have hG : tcG D cI cJ N0 (wB h r1 r2 r3 r4 cI tk co cn wk n ho st ct sp g ra rw cJ ho st ct sp n (upR f (blw x197 n) 4 (blw x260 6)) Z) s H := hG
          have hy_266 := tSy.c4 (k := blw x197 n) (x := blw x260 6) hy
          have hk_266 := hk.wk (up_lt (x := blw x260 6) hk.2.2.2.1 (by omega) (blw x197 n))
          refine lv_aload_n C0.1 C0.2.1 dL_act_267 rfl (lv_at hl 5 rfl) ?_
          refine lv_iload C0.1 C0.2.1 dL_act_268 (lv_at hl 2 rfl) ?_
          refine lv_aload_n C0.1 C0.2.1 dL_act_270 rfl (lv_at hl 6 rfl) ?_
          refine tgX1_all C0 hF hG w_all dL_act_271 ?_
          refine lv_iload C0.1 C0.2.1 dL_act_274 (lv_at hl 2 rfl) ?_
          refine ts_aald (k := blw x197 n) C0 hG (by omega) (by omega) dL_act_276 ?_
          refine lv_iconst (v := nI 4) C0.1 C0.2.1 dL_act_277 (by decide) ?_
          refine ts_ald (k := blw x197 n) (j := 4) C0 hG (by omega) (by decide) dL_act_278 ?_
          refine tc_top (y := nI ((va_up wk (blw x197 n) (blw x260 6)) (blw x197 n))) (congrArg nI (hy_266 (blw x197 n) (by omega)).2.2.2.2) ?_
          have b_278 := hk_266.2.2.2.1 (blw x197 n)
          refine tc_top (congrArg nI (va_up_at _ _ _)) ?_
          refine tc_callV (q0 := 0) C0 hG hS rfl rfl (kX0_setWalk_in hlf hk  (blw x197 n) (blw x260 6) (by omega) (by omega)) (cwV 2 C0.2.2.2.2 gL_act_X0_setWalk rfl rfl rfl (by decide +kernel) ⟨(Nat.le_of_ble_eq_true rfl), (Nat.le_of_ble_eq_true rfl)⟩) rfl hl rfl (Nat.le_of_ble_eq_true rfl) dL_act_279 ⟨(Nat.le_of_ble_eq_true rfl), (Nat.le_of_ble_eq_true rfl)⟩ (fun H locs hG hS => ?_)
          have hG : tcG D cI cJ N0 (wB h r1 r2 r3 r4 cI tk co cn (va_up wk (blw x197 n) (blw x260 6)) n ho st ct sp g ra rw cJ ho st ct sp n (upR f (blw x197 n) 4 (blw x260 6)) Z) s H := hG
          refine lv_iload C0.1 C0.2.1 dL_act_282 (lv_at hl 0 rfl) ?_
          refine tn_icmp_ne (tgt := 291) C0.1 C0.2.1 dL_act_284 (by decide) (by omega) (by omega) (fun c_284 => ?_) (fun c_284 => ?_)
          · exact absurd rfl c_284
          · refine lv_iconst (v := nI 1) C0.1 C0.2.1 dL_act_287 (by decide) ?_
            refine lv_goto (tgt := 292) C0.1 C0.2.1 dL_act_288 (by decide) ?_
            subst zhQ
            refine tc_top (y := nI (b2n true)) rfl ?_
            exact tce_zret C0 hr hlk hG hS ⟨rfl, ra, rw, tk, co, cn, va_up wk (blw x197 n) (blw x260 6), n, ho, st, ct, 0, upR f (blw x197 n) 4 (blw x260 6), by omega, hk_266, hy_266, by omega, Or.inl ⟨rfl, by omega⟩, by rw [show sp + nI 0 = sp from Int32.add_zero sp]⟩ (Nat.le_of_ble_eq_true rfl) (Nat.le_of_ble_eq_true rfl) dL_act_292
      refine tn_icmp_ne (tgt := 213) C0.1 C0.2.1 dL_act_206 (by decide) (by omega) (by omega) (fun c_206 => ?_) (fun c_206 => ?_)
      · refine lv_iload C0.1 C0.2.1 dL_act_213 (lv_at hl 0 rfl) ?_
        refine lv_iconst (v := nI 1) C0.1 C0.2.1 dL_act_215 (by decide) ?_
        refine tn_iadd C0.1 C0.2.1 dL_act_216 ?_
        refine lv_iload_n C0.1 C0.2.1 dL_act_217 rfl (lv_at hl 5 rfl) ?_
        refine lv_bipush (v := nI 6) C0.1 C0.2.1 dL_act_218 (by decide) ?_
        refine lv_ishr C0.1 C0.2.1 dL_act_220 ?_
        refine tc_any (fun x220 => ?_)
        refine lv_iload_n C0.1 C0.2.1 dL_act_221 rfl (lv_at hl 2 rfl) ?_
        refine lv_iconst (v := nI 1) C0.1 C0.2.1 dL_act_222 (by decide) ?_
        refine tn_isub C0.1 C0.2.1 dL_act_223 (by omega) ?_
        refine tc_callS C0 hG hS (kL_below hlf  (x220) (n - 1) (by omega) (by omega)) (va_cwS 2 C0.2.2.2.2 gL_act_L_below rfl rfl rfl (by decide +kernel) ⟨(Nat.le_of_ble_eq_true rfl), (Nat.le_of_ble_eq_true rfl)⟩) rfl hl rfl (Nat.le_of_ble_eq_true rfl) dL_act_224 ⟨(Nat.le_of_ble_eq_true rfl), (Nat.le_of_ble_eq_true rfl)⟩ (fun H locs hG hS => ?_)
        have b_224 := (show blw x220 (n - 1) < (n - 1) from blw_lt x220 (by omega))
        refine tn_iadd C0.1 C0.2.1 dL_act_227 ?_
        refine lv_iload_n C0.1 C0.2.1 dL_act_228 rfl (lv_at hl 2 rfl) ?_
        refine tn_irem C0.1 C0.2.1 dL_act_229 (by omega) (by omega) (by omega) ?_
        exact cut_230 ((blw x197 n + 1 + (blw x220 (n - 1))) % n) (by first | omega | exact Nat.mod_lt _ (by omega)) (fun h9 => by first | omega | exact mod_ne b_199 (by omega)) ls (lv_sub hl [0, 1, 2, 3, 4, 5] rfl) _ _ hG hS
      · refine lv_iconst (v := nI 0) C0.1 C0.2.1 dL_act_209 (by decide) ?_
        refine lv_goto (tgt := 230) C0.1 C0.2.1 dL_act_210 (by decide) ?_
        exact cut_230 (0) (by first | omega | exact Nat.mod_lt _ (by omega)) (fun h9 => by first | omega | exact mod_ne b_199 (by omega)) ls (lv_sub hl [0, 1, 2, 3, 4, 5] rfl) _ _ hG hS
    · refine lv_iconst (v := nI 5) C0.1 C0.2.1 dL_act_27 (by decide) ?_
      refine ts_mnew C0 (by decide +kernel) hG0 hG hS ⟨(Nat.le_of_ble_eq_true rfl), (Nat.le_of_ble_eq_true rfl)⟩ dL_act_28 (fun q H locs hG hS => ?_)
      have hG : tcG D cI cJ N0 (wB h r1 r2 r3 r4 cI tk co cn wk n ho st ct sp g ra rw cJ ho st ct sp n f ((q, tcRw cI 5 ((fun _ => 0))) :: Z)) s H := hG
      refine lv_dup C0.1 C0.2.1 dL_act_30 rfl ?_
      refine lv_iconst (v := nI 0) C0.1 C0.2.1 dL_act_31 (by decide) ?_
      refine lv_iload_n C0.1 C0.2.1 dL_act_32 rfl (lv_at hl 4 rfl) ?_
      refine lv_iconst (v := nI 3) C0.1 C0.2.1 dL_act_33 (by decide) ?_
      refine lv_ishr C0.1 C0.2.1 dL_act_34 ?_
      refine tc_any (fun x34 => ?_)
      refine lv_iload_n C0.1 C0.2.1 dL_act_35 rfl (lv_at hl 4 rfl) ?_
      refine lv_bipush (v := nI 9) C0.1 C0.2.1 dL_act_36 (by decide) ?_
      refine lv_ishr C0.1 C0.2.1 dL_act_38 ?_
      refine tc_any (fun x38 => ?_)
      refine lv_iconst (v := nI 2) C0.1 C0.2.1 dL_act_39 (by decide) ?_
      refine tc_callS C0 hG hS (kL_below hlf  (x38) (2) (by omega) (by omega)) (va_cwS 2 C0.2.2.2.2 gL_act_L_below rfl rfl rfl (by decide +kernel) ⟨(Nat.le_of_ble_eq_true rfl), (Nat.le_of_ble_eq_true rfl)⟩) rfl hl rfl (Nat.le_of_ble_eq_true rfl) dL_act_40 ⟨(Nat.le_of_ble_eq_true rfl), (Nat.le_of_ble_eq_true rfl)⟩ (fun H locs hG hS => ?_)
      have b_40 := (show blw x38 2 < 2 from blw_lt x38 (by omega))
      refine tc_nameQ (fun zQg zhQ => ?_)
      have cut_56 : ∀ (mf : Nat → Nat) (h56 : mf 0 < 10), ∀ (ls : Array Slot), lv_has ls 8 [(4, .int (nI (blw x 20))), (3, .int (nI (n))), (0, .ref h), (1, .ref g), (2, .int (x))] → ∀ (H : Heap) (locs : List Loc), tcG D cI cJ N0 (wB h r1 r2 r3 r4 cI tk co cn wk n ho st ct sp g ra rw cJ ho st ct sp n f ((q, tcRw cI 5 mf) :: Z)) s H → va_S (tcA N0) s.heap H locs → W p l e ({ frames := 10, cells := 4, slots := 24, locals := 188 } : Room) s m args below meth c H locs (0 + 1) (0 + 5) zQg (F0 m 56 ls [.ref q]) := by
        intro mf h56 ls hl H locs hG hS
        refine lv_dup C0.1 C0.2.1 dL_act_56 rfl ?_
        refine lv_iconst (v := nI 1) C0.1 C0.2.1 dL_act_57 (by decide) ?_
        refine lv_iload_n C0.1 C0.2.1 dL_act_58 rfl (lv_at hl 4 rfl) ?_
        refine lv_iconst (v := nI 5) C0.1 C0.2.1 dL_act_59 (by decide) ?_
        refine lv_ishr C0.1 C0.2.1 dL_act_60 ?_
        refine tc_any (fun x60 => ?_)
        refine lv_iload_n C0.1 C0.2.1 dL_act_61 rfl (lv_at hl 4 rfl) ?_
        refine lv_bipush (v := nI 8) C0.1 C0.2.1 dL_act_62 (by decide) ?_
        refine lv_ishr C0.1 C0.2.1 dL_act_64 ?_
        refine tc_any (fun x64 => ?_)
        refine lv_iconst (v := nI 2) C0.1 C0.2.1 dL_act_65 (by decide) ?_
        refine tc_callS C0 hG hS (kL_below hlf  (x64) (2) (by omega) (by omega)) (va_cwS 2 C0.2.2.2.2 gL_act_L_below rfl rfl rfl (by decide +kernel) ⟨(Nat.le_of_ble_eq_true rfl), (Nat.le_of_ble_eq_true rfl)⟩) rfl hl rfl (Nat.le_of_ble_eq_true rfl) dL_act_66 ⟨(Nat.le_of_ble_eq_true rfl), (Nat.le_of_ble_eq_true rfl)⟩ (fun H locs hG hS => ?_)
        have b_66 := (show blw x64 2 < 2 from blw_lt x64 (by omega))
        have cut_82 : ∀ (mf2 : Nat → Nat) (h82 : mf2 0 < 10) (h82b : mf2 1 < 10), ∀ (ls : Array Slot), lv_has ls 8 [(4, .int (nI (blw x 20))), (3, .int (nI (n))), (0, .ref h), (1, .ref g), (2, .int (x))] → ∀ (H : Heap) (locs : List Loc), tcG D cI cJ N0 (wB h r1 r2 r3 r4 cI tk co cn wk n ho st ct sp g ra rw cJ ho st ct sp n f ((q, tcRw cI 5 mf2) :: Z)) s H → va_S (tcA N0) s.heap H locs → W p l e ({ frames := 10, cells := 4, slots := 24, locals := 188 } : Room) s m args below meth c H locs (0 + 1) (0 + 5) zQg (F0 m 82 ls [.ref q]) := by
          intro mf2 h82 h82b ls hl H locs hG hS
          refine lv_dup C0.1 C0.2.1 dL_act_82 rfl ?_
          refine lv_iconst (v := nI 2) C0.1 C0.2.1 dL_act_83 (by decide) ?_
          refine lv_iload_n C0.1 C0.2.1 dL_act_84 rfl (lv_at hl 4 rfl) ?_
          refine lv_iconst (v := nI 4) C0.1 C0.2.1 dL_act_85 (by decide) ?_
          refine lv_ishr C0.1 C0.2.1 dL_act_86 ?_
          refine tc_any (fun x86 => ?_)
          refine lv_iconst (v := nI 5) C0.1 C0.2.1 dL_act_87 (by decide) ?_
          refine tc_callS C0 hG hS (kL_below hlf  (x86) (5) (by omega) (by omega)) (va_cwS 2 C0.2.2.2.2 gL_act_L_below rfl rfl rfl (by decide +kernel) ⟨(Nat.le_of_ble_eq_true rfl), (Nat.le_of_ble_eq_true rfl)⟩) rfl hl rfl (Nat.le_of_ble_eq_true rfl) dL_act_88 ⟨(Nat.le_of_ble_eq_true rfl), (Nat.le_of_ble_eq_true rfl)⟩ (fun H locs hG hS => ?_)
          have b_88 := (show blw x86 5 < 5 from blw_lt x86 (by omega))
          refine ts_mst C0 hG0 hG hS (j := 2) (x := blw x86 5) (by decide) dL_act_91 (fun H locs hG hS => ?_)
          have hG : tcG D cI cJ N0 (wB h r1 r2 r3 r4 cI tk co cn wk n ho st ct sp g ra rw cJ ho st ct sp n f ((q, tcRw cI 5 (va_up mf2 2 (blw x86 5))) :: Z)) s H := hG
          refine lv_dup C0.1 C0.2.1 dL_act_92 rfl ?_
          refine lv_iconst (v := nI 3) C0.1 C0.2.1 dL_act_93 (by decide) ?_
          refine lv_iload_n C0.1 C0.2.1 dL_act_94 rfl (lv_at hl 4 rfl) ?_
          refine lv_bipush (v := nI 6) C0.1 C0.2.1 dL_act_95 (by decide) ?_
          refine lv_ishr C0.1 C0.2.1 dL_act_97 ?_
          refine tc_any (fun x97 => ?_)
          refine lv_bipush (v := nI 6) C0.1 C0.2.1 dL_act_98 (by decide) ?_
          refine tc_callS C0 hG hS (kL_below hlf  (x97) (6) (by omega) (by omega)) (va_cwS 2 C0.2.2.2.2 gL_act_L_below rfl rfl rfl (by decide +kernel) ⟨(Nat.le_of_ble_eq_true rfl), (Nat.le_of_ble_eq_true rfl)⟩) rfl hl rfl (Nat.le_of_ble_eq_true rfl) dL_act_100 ⟨(Nat.le_of_ble_eq_true rfl), (Nat.le_of_ble_eq_true rfl)⟩ (fun H locs hG hS => ?_)
          have b_100 := (show blw x97 6 < 6 from blw_lt x97 (by omega))
          refine ts_mst C0 hG0 hG hS (j := 3) (x := blw x97 6) (by decide) dL_act_103 (fun H locs hG hS => ?_)
          have hG : tcG D cI cJ N0 (wB h r1 r2 r3 r4 cI tk co cn wk n ho st ct sp g ra rw cJ ho st ct sp n f ((q, tcRw cI 5 (va_up (va_up mf2 2 (blw x86 5)) 3 (blw x97 6))) :: Z)) s H := hG
          refine lv_dup C0.1 C0.2.1 dL_act_104 rfl ?_
          refine lv_iconst (v := nI 4) C0.1 C0.2.1 dL_act_105 (by decide) ?_
          refine lv_iload_n C0.1 C0.2.1 dL_act_106 rfl (lv_at hl 4 rfl) ?_
          refine lv_bipush (v := nI 7) C0.1 C0.2.1 dL_act_107 (by decide) ?_
          refine lv_ishr C0.1 C0.2.1 dL_act_109 ?_
          refine tc_any (fun x109 => ?_)
          refine lv_bipush (v := nI 6) C0.1 C0.2.1 dL_act_110 (by decide) ?_
          refine tc_callS C0 hG hS (kL_below hlf  (x109) (6) (by omega) (by omega)) (va_cwS 2 C0.2.2.2.2 gL_act_L_below rfl rfl rfl (by decide +kernel) ⟨(Nat.le_of_ble_eq_true rfl), (Nat.le_of_ble_eq_true rfl)⟩) rfl hl rfl (Nat.le_of_ble_eq_true rfl) dL_act_112 ⟨(Nat.le_of_ble_eq_true rfl), (Nat.le_of_ble_eq_true rfl)⟩ (fun H locs hG hS => ?_)
          have b_112 := (show blw x109 6 < 6 from blw_lt x109 (by omega))
          refine ts_mst C0 hG0 hG hS (j := 4) (x := blw x109 6) (by decide) dL_act_115 (fun H locs hG hS => ?_)
          have hG : tcG D cI cJ N0 (wB h r1 r2 r3 r4 cI tk co cn wk n ho st ct sp g ra rw cJ ho st ct sp n f ((q, tcRw cI 5 (va_up (va_up (va_up mf2 2 (blw x86 5)) 3 (blw x97 6)) 4 (blw x109 6))) :: Z)) s H := hG
          have cut_116 : ∀ (mf3 : Nat → Nat) (e0 : mf3 0 < 10) (e1 : mf3 1 < 10) (e2 : mf3 2 < 5) (e3 : mf3 3 < 6) (e4 : mf3 4 < 6), ∀ (ls : Array Slot), lv_has ls 8 [(4, .int (nI (blw x 20))), (3, .int (nI (n))), (0, .ref h), (1, .ref g), (2, .int (x))] → ∀ (H : Heap) (locs : List Loc), tcG D cI cJ N0 (wB h r1 r2 r3 r4 cI tk co cn wk n ho st ct sp g ra rw cJ ho st ct sp n f ((q, tcRw cI 5 mf3) :: Z)) s H → va_S (tcA N0) s.heap H locs → W p l e ({ frames := 10, cells := 4, slots := 24, locals := 188 } : Room) s m args below meth c H locs (0 + 1) (0 + 5) zQg (F0 m 116 ls [.ref q]) := by
            intro mf3 e0 e1 e2 e3 e4 ls hl H locs hG hS
            refine lv_astore (lv' := [(5, .ref q), (4, .int (nI (blw x 20))), (3, .int (nI (n))), (0, .ref h), (1, .ref g), (2, .int (x))]) C0.1 C0.2.1 dL_act_116 hl (by decide) rfl (fun ls hl => ?_)
            refine lv_iload_n C0.1 C0.2.1 dL_act_118 rfl (lv_at hl 2 rfl) ?_
            refine lv_bipush (v := nI 12) C0.1 C0.2.1 dL_act_119 (by decide) ?_
            refine tn_icmp_ge (tgt := 137) C0.1 C0.2.1 dL_act_121 (by decide) (by omega) (by omega) (fun c_121 => ?_) (fun c_121 => ?_)
            · refine lv_aload_n C0.1 C0.2.1 dL_act_137 rfl (lv_at hl 3 rfl) ?_
              refine lv_bipush (v := nI 10) C0.1 C0.2.1 dL_act_138 (by decide) ?_
              refine lv_aload C0.1 C0.2.1 dL_act_140 (lv_at hl 0 rfl) ?_
              refine lv_iconst (v := nI 0) C0.1 C0.2.1 dL_act_142 (by decide) ?_
              refine ts_mld C0 hG (j := 0) (by decide) dL_act_143 ?_
              refine tn_imul C0.1 C0.2.1 dL_act_144 ?_
              refine lv_aload C0.1 C0.2.1 dL_act_145 (lv_at hl 0 rfl) ?_
              refine lv_iconst (v := nI 1) C0.1 C0.2.1 dL_act_147 (by decide) ?_
              refine ts_mld C0 hG (j := 1) (by decide) dL_act_148 ?_
              refine tn_iadd C0.1 C0.2.1 dL_act_149 ?_
              refine lv_aload C0.1 C0.2.1 dL_act_150 (lv_at hl 0 rfl) ?_
              refine lv_iconst (v := nI 2) C0.1 C0.2.1 dL_act_152 (by decide) ?_
              refine ts_mld C0 hG (j := 2) (by decide) dL_act_153 ?_
              refine lv_aload C0.1 C0.2.1 dL_act_154 (lv_at hl 0 rfl) ?_
              refine lv_iconst (v := nI 3) C0.1 C0.2.1 dL_act_156 (by decide) ?_
              refine ts_mld C0 hG (j := 3) (by decide) dL_act_157 ?_
              refine lv_aload C0.1 C0.2.1 dL_act_158 (lv_at hl 0 rfl) ?_
              refine lv_iconst (v := nI 4) C0.1 C0.2.1 dL_act_160 (by decide) ?_
              refine ts_mld C0 hG (j := 4) (by decide) dL_act_161 ?_
              refine tc_callVx (q0 := 0) C0 hG hS rfl rfl (kX0_addStranger hlf hk  (nI (10 * (mf3 0) + (mf3 1))) (nI (mf3 2)) (nI (mf3 3)) (nI (mf3 4)) ) (cwV 4 C0.2.2.2.2 gL_act_X0_addStranger rfl rfl rfl (by decide +kernel) ⟨(Nat.le_of_ble_eq_true rfl), (Nat.le_of_ble_eq_true rfl)⟩) rfl hl rfl (Nat.le_of_ble_eq_true rfl) dL_act_162 ⟨(Nat.le_of_ble_eq_true rfl), (Nat.le_of_ble_eq_true rfl)⟩ ?_ (fun c_162 H locs hG hS => ?_)
              · intro i E q9 ce H locs hi hcd hG hS hce hcv hcl
                have hi9 : i = 1 := (by rw [cdA_v (by omega) (by omega) (by omega) (by omega), if_neg (by omega)] at hcd; omega)
                subst hi9
                have hE : E = "java/lang/IllegalStateException" := (Option.some.inj (show some "java/lang/IllegalStateException" = some E from hi)).symm
                subst hE
                refine vx_catch C0.2.2.2.1 [] ⟨137, 180, 181, 31⟩ [] htb (fun z hz => by cases hz) (by decide) (by decide) (C0.2.2.2.2 (.classLink RL 31 "java/lang/IllegalStateException") (by decide +kernel)) (va_Nw.use rfl (hG.2.2.2.2.2.2.2.2.1 "java/lang/IllegalStateException" (by decide))) hce hcv hcl ?_
                refine lv_astore (lv' := [(6, .ref q9), (5, .ref q), (4, .int (nI (blw x 20))), (3, .int (nI (n))), (0, .ref h), (1, .ref g), (2, .int (x))]) C0.1 C0.2.1 dL_act_181 hl (by decide) rfl (fun ls hl => ?_)
                refine lv_iload_n C0.1 C0.2.1 dL_act_183 rfl (lv_at hl 3 rfl) ?_
                refine lv_bipush (v := nI 12) C0.1 C0.2.1 dL_act_184 (by decide) ?_
                refine tn_icmp_ne (tgt := 193) C0.1 C0.2.1 dL_act_186 (by decide) (by omega) (by omega) (fun c_186 => ?_) (fun c_186 => ?_)
                · exact absurd (by omega) c_186
                · refine lv_iconst (v := nI 1) C0.1 C0.2.1 dL_act_189 (by decide) ?_
                  refine lv_goto (tgt := 194) C0.1 C0.2.1 dL_act_190 (by decide) ?_
                  have hG := hG.drop
                  have hG : tcG D cI cJ N0 (wB h r1 r2 r3 r4 cI tk co cn wk n ho st ct sp g ra rw cJ ho st ct sp n f Z) s H := hG
                  subst zhQ
                  refine tc_top (y := nI (b2n true)) rfl ?_
                  exact tce_zret C0 hr hlk hG hS ⟨rfl, ra, rw, tk, co, cn, wk, n, ho, st, ct, 0, f, by omega, hk, hy, by omega, Or.inl ⟨rfl, by omega⟩, by rw [show sp + nI 0 = sp from Int32.add_zero sp]⟩ (Nat.le_of_ble_eq_true rfl) (Nat.le_of_ble_eq_true rfl) dL_act_194
              · refine W.eq (g2 := F0 m 165 ls (.int (nI (n)) :: [])) rfl ?_
                have hG : tcG D cI cJ N0 (wB h r1 r2 r3 r4 cI (va_up tk n (ix (nI (10 * (mf3 0) + (mf3 1))))) (va_up co n (ix (nI (mf3 2)))) (va_up cn n (ix (nI (mf3 3)))) (va_up wk n (ix (nI (mf3 4)))) (n + 1) ho st ct sp g ra rw cJ ho st ct sp n f ((q, tcRw cI 5 mf3) :: Z)) s H := hG
                simp only [ix_nI (show 10 * (mf3 0) + (mf3 1) < 2 ^ 31 by omega), ix_nI (show mf3 2 < 2 ^ 31 by omega), ix_nI (show mf3 3 < 2 ^ 31 by omega), ix_nI (show mf3 4 < 2 ^ 31 by omega)] at hG
                have hG : tcG D cI cJ N0 (wB h r1 r2 r3 r4 cI (va_up tk n ((10 * (mf3 0) + (mf3 1)))) (va_up co n ((mf3 2))) (va_up cn n ((mf3 3))) (va_up wk n ((mf3 4))) (n + 1) ho st ct sp g ra rw cJ ho st ct sp n f ((q, tcRw cI 5 mf3) :: Z)) s H := hG
                exact absurd c_162 (by rw [cdA_v (by omega) (by omega) (by omega) (by omega), if_neg (by omega)]; decide)
            · refine lv_aload_n C0.1 C0.2.1 dL_act_124 rfl (lv_at hl 4 rfl) ?_
              refine lv_aload_n C0.1 C0.2.1 dL_act_125 rfl (lv_at hl 4 rfl) ?_
              refine tgX1_all C0 hF hG w_all dL_act_126 ?_
              refine lv_aload C0.1 C0.2.1 dL_act_129 (lv_at hl 0 rfl) ?_
              refine tce_callS C0 hG hS (kX1_with (q := q) (mf := mf3) (by omega)) (va_cwS 2 C0.2.2.2.2 gL_act_X1_with rfl rfl rfl (by decide +kernel) ⟨(Nat.le_of_ble_eq_true rfl), (Nat.le_of_ble_eq_true rfl)⟩) rfl hl rfl (Nat.le_of_ble_eq_true rfl) dL_act_131 ⟨(Nat.le_of_ble_eq_true rfl), (Nat.le_of_ble_eq_true rfl)⟩ (fun v9 ws9 H locs hP9 hG hS => ?_)
              obtain ⟨r, rfl, rfl⟩ := hP9
              refine W.eq (g2 := F0 m 134 ls [.ref r, .ref g]) rfl ?_
              refine ts_putall C0 hF hG0 hG hS w_all dL_act_134 (fun H locs hG hS => ?_)
              have hy_134 := tSy.push (mf := mf3) hy e0 e1 rfl rfl rfl rfl rfl
              have hk_134 : tOk (va_up tk n (10 * mf3 0 + mf3 1)) (va_up co n (mf3 2)) (va_up cn n (mf3 3)) (va_up wk n (mf3 4)) (n + 1) st := ⟨up_lt hk.1 (by omega) n, up_lt hk.2.1 (by omega) n, up_lt hk.2.2.1 (by omega) n, up_lt hk.2.2.2.1 (by omega) n, by omega, hk.2.2.2.2.2⟩
              have hG : tcG D cI cJ N0 (wB h r1 r2 r3 r4 cI tk co cn wk n ho st ct sp g r (va_up rw n q) cJ ho st ct sp (n + 1) (va_up f n mf3) Z) s H := hG
              refine lv_aload_n C0.1 C0.2.1 dL_act_137 rfl (lv_at hl 3 rfl) ?_
              refine lv_bipush (v := nI 10) C0.1 C0.2.1 dL_act_138 (by decide) ?_
              refine lv_aload C0.1 C0.2.1 dL_act_140 (lv_at hl 0 rfl) ?_
              refine lv_iconst (v := nI 0) C0.1 C0.2.1 dL_act_142 (by decide) ?_
              refine ts_aldq (k := n) (hq := (va_up_at rw n q)) C0 hG (by omega) (by decide) (j := 0) dL_act_143 ?_
              refine tc_top (y := nI (mf3 0)) (by rw [va_up_at]) ?_
              refine tn_imul C0.1 C0.2.1 dL_act_144 ?_
              refine lv_aload C0.1 C0.2.1 dL_act_145 (lv_at hl 0 rfl) ?_
              refine lv_iconst (v := nI 1) C0.1 C0.2.1 dL_act_147 (by decide) ?_
              refine ts_aldq (k := n) (hq := (va_up_at rw n q)) C0 hG (by omega) (by decide) (j := 1) dL_act_148 ?_
              refine tc_top (y := nI (mf3 1)) (by rw [va_up_at]) ?_
              refine tn_iadd C0.1 C0.2.1 dL_act_149 ?_
              refine lv_aload C0.1 C0.2.1 dL_act_150 (lv_at hl 0 rfl) ?_
              refine lv_iconst (v := nI 2) C0.1 C0.2.1 dL_act_152 (by decide) ?_
              refine ts_aldq (k := n) (hq := (va_up_at rw n q)) C0 hG (by omega) (by decide) (j := 2) dL_act_153 ?_
              refine tc_top (y := nI (mf3 2)) (by rw [va_up_at]) ?_
              refine lv_aload C0.1 C0.2.1 dL_act_154 (lv_at hl 0 rfl) ?_
              refine lv_iconst (v := nI 3) C0.1 C0.2.1 dL_act_156 (by decide) ?_
              refine ts_aldq (k := n) (hq := (va_up_at rw n q)) C0 hG (by omega) (by decide) (j := 3) dL_act_157 ?_
              refine tc_top (y := nI (mf3 3)) (by rw [va_up_at]) ?_
              refine lv_aload C0.1 C0.2.1 dL_act_158 (lv_at hl 0 rfl) ?_
              refine lv_iconst (v := nI 4) C0.1 C0.2.1 dL_act_160 (by decide) ?_
              refine ts_aldq (k := n) (hq := (va_up_at rw n q)) C0 hG (by omega) (by decide) (j := 4) dL_act_161 ?_
              refine tc_top (y := nI (mf3 4)) (by rw [va_up_at]) ?_
              refine tc_callVx (q0 := 0) C0 hG hS rfl rfl (kX0_addStranger hlf hk  (nI (10 * (mf3 0) + (mf3 1))) (nI (mf3 2)) (nI (mf3 3)) (nI (mf3 4)) ) (cwV 4 C0.2.2.2.2 gL_act_X0_addStranger rfl rfl rfl (by decide +kernel) ⟨(Nat.le_of_ble_eq_true rfl), (Nat.le_of_ble_eq_true rfl)⟩) rfl hl rfl (Nat.le_of_ble_eq_true rfl) dL_act_162 ⟨(Nat.le_of_ble_eq_true rfl), (Nat.le_of_ble_eq_true rfl)⟩ ?_ (fun c_162 H locs hG hS => ?_)
              · intro i E q9 ce H locs hi hcd hG hS hce hcv hcl
                exact absurd hcd (by rw [cdA_v (by omega) (by omega) (by omega) (by omega), if_pos (by omega)]; omega)
              · refine W.eq (g2 := F0 m 165 ls (.int (nI (n)) :: [])) rfl ?_
                have hG : tcG D cI cJ N0 (wB h r1 r2 r3 r4 cI (va_up tk n (ix (nI (10 * (mf3 0) + (mf3 1))))) (va_up co n (ix (nI (mf3 2)))) (va_up cn n (ix (nI (mf3 3)))) (va_up wk n (ix (nI (mf3 4)))) (n + 1) ho st ct sp g r (va_up rw n q) cJ ho st ct sp (n + 1) (va_up f n mf3) Z) s H := hG
                simp only [ix_nI (show 10 * (mf3 0) + (mf3 1) < 2 ^ 31 by omega), ix_nI (show mf3 2 < 2 ^ 31 by omega), ix_nI (show mf3 3 < 2 ^ 31 by omega), ix_nI (show mf3 4 < 2 ^ 31 by omega)] at hG
                have hG : tcG D cI cJ N0 (wB h r1 r2 r3 r4 cI (va_up tk n ((10 * (mf3 0) + (mf3 1)))) (va_up co n ((mf3 2))) (va_up cn n ((mf3 3))) (va_up wk n ((mf3 4))) (n + 1) ho st ct sp g r (va_up rw n q) cJ ho st ct sp (n + 1) (va_up f n mf3) Z) s H := hG
                refine lv_iload_n C0.1 C0.2.1 dL_act_165 rfl (lv_at hl 2 rfl) ?_
                refine tn_icmp_ne (tgt := 179) C0.1 C0.2.1 dL_act_166 (by decide) (by omega) (by omega) (fun c_166 => ?_) (fun c_166 => ?_)
                · exact absurd rfl c_166
                · refine lv_iload_n C0.1 C0.2.1 dL_act_169 rfl (lv_at hl 2 rfl) ?_
                  refine lv_bipush (v := nI 12) C0.1 C0.2.1 dL_act_170 (by decide) ?_
                  refine tn_icmp_ge (tgt := 179) C0.1 C0.2.1 dL_act_172 (by decide) (by omega) (by omega) (fun c_172 => ?_) (fun c_172 => ?_)
                  · exact absurd c_172 (by omega)
                  · refine lv_iconst (v := nI 1) C0.1 C0.2.1 dL_act_175 (by decide) ?_
                    refine lv_goto (tgt := 180) C0.1 C0.2.1 dL_act_176 (by decide) ?_
                    subst zhQ
                    refine tc_top (y := nI (b2n true)) rfl ?_
                    exact tce_zret C0 hr hlk hG hS ⟨rfl, r, va_up rw n q, va_up tk n ((10 * (mf3 0) + (mf3 1))), va_up co n ((mf3 2)), va_up cn n ((mf3 3)), va_up wk n ((mf3 4)), n + 1, ho, st, ct, 0, va_up f n mf3, by omega, hk_134, hy_134, by omega, Or.inl ⟨rfl, by omega⟩, by rw [show sp + nI 0 = sp from Int32.add_zero sp]⟩ (Nat.le_of_ble_eq_true rfl) (Nat.le_of_ble_eq_true rfl) dL_act_180
          exact cut_116 (va_up (va_up (va_up mf2 2 (blw x86 5)) 3 (blw x97 6)) 4 (blw x109 6)) (by simp [va_up] <;> omega) (by simp [va_up] <;> omega) (by simp [va_up] <;> omega) (by simp [va_up] <;> omega) (by simp [va_up] <;> omega) ls (lv_sub hl [0, 1, 2, 3, 4] rfl) _ _ hG hS
        refine tn_if_ne (tgt := 77) C0.1 C0.2.1 dL_act_69 (by decide) (by omega) (fun c_69 => ?_) (fun c_69 => ?_)
        · refine lv_iconst (v := nI 3) C0.1 C0.2.1 dL_act_77 (by decide) ?_
          refine tc_callS C0 hG hS (kL_below hlf  (x60) (3) (by omega) (by omega)) (va_cwS 2 C0.2.2.2.2 gL_act_L_below rfl rfl rfl (by decide +kernel) ⟨(Nat.le_of_ble_eq_true rfl), (Nat.le_of_ble_eq_true rfl)⟩) rfl hl rfl (Nat.le_of_ble_eq_true rfl) dL_act_78 ⟨(Nat.le_of_ble_eq_true rfl), (Nat.le_of_ble_eq_true rfl)⟩ (fun H locs hG hS => ?_)
          have b_78 := (show blw x60 3 < 3 from blw_lt x60 (by omega))
          refine ts_mst C0 hG0 hG hS (j := 1) (x := blw x60 3) (by decide) dL_act_81 (fun H locs hG hS => ?_)
          have hG : tcG D cI cJ N0 (wB h r1 r2 r3 r4 cI tk co cn wk n ho st ct sp g ra rw cJ ho st ct sp n f ((q, tcRw cI 5 (va_up mf 1 (blw x60 3))) :: Z)) s H := hG
          exact cut_82 (va_up mf 1 (blw x60 3)) (by simp [va_up] <;> omega) (by rw [va_up_at]; omega) ls (lv_sub hl [0, 1, 2, 3, 4] rfl) _ _ hG hS
        · refine lv_bipush (v := nI 10) C0.1 C0.2.1 dL_act_72 (by decide) ?_
          refine lv_goto (tgt := 78) C0.1 C0.2.1 dL_act_74 (by decide) ?_
          refine tc_callS C0 hG hS (kL_below hlf  (x60) (10) (by omega) (by omega)) (va_cwS 2 C0.2.2.2.2 gL_act_L_below rfl rfl rfl (by decide +kernel) ⟨(Nat.le_of_ble_eq_true rfl), (Nat.le_of_ble_eq_true rfl)⟩) rfl hl rfl (Nat.le_of_ble_eq_true rfl) dL_act_78 ⟨(Nat.le_of_ble_eq_true rfl), (Nat.le_of_ble_eq_true rfl)⟩ (fun H locs hG hS => ?_)
          have b_78 := (show blw x60 10 < 10 from blw_lt x60 (by omega))
          refine ts_mst C0 hG0 hG hS (j := 1) (x := blw x60 10) (by decide) dL_act_81 (fun H locs hG hS => ?_)
          have hG : tcG D cI cJ N0 (wB h r1 r2 r3 r4 cI tk co cn wk n ho st ct sp g ra rw cJ ho st ct sp n f ((q, tcRw cI 5 (va_up mf 1 (blw x60 10))) :: Z)) s H := hG
          exact cut_82 (va_up mf 1 (blw x60 10)) (by simp [va_up] <;> omega) (by rw [va_up_at]; omega) ls (lv_sub hl [0, 1, 2, 3, 4] rfl) _ _ hG hS
      refine tn_if_ne (tgt := 51) C0.1 C0.2.1 dL_act_43 (by decide) (by omega) (fun c_43 => ?_) (fun c_43 => ?_)
      · refine lv_iconst (v := nI 3) C0.1 C0.2.1 dL_act_51 (by decide) ?_
        refine tc_callS C0 hG hS (kL_below hlf  (x34) (3) (by omega) (by omega)) (va_cwS 2 C0.2.2.2.2 gL_act_L_below rfl rfl rfl (by decide +kernel) ⟨(Nat.le_of_ble_eq_true rfl), (Nat.le_of_ble_eq_true rfl)⟩) rfl hl rfl (Nat.le_of_ble_eq_true rfl) dL_act_52 ⟨(Nat.le_of_ble_eq_true rfl), (Nat.le_of_ble_eq_true rfl)⟩ (fun H locs hG hS => ?_)
        have b_52 := (show blw x34 3 < 3 from blw_lt x34 (by omega))
        refine ts_mst C0 hG0 hG hS (j := 0) (x := blw x34 3) (by decide) dL_act_55 (fun H locs hG hS => ?_)
        have hG : tcG D cI cJ N0 (wB h r1 r2 r3 r4 cI tk co cn wk n ho st ct sp g ra rw cJ ho st ct sp n f ((q, tcRw cI 5 (va_up ((fun _ => 0)) 0 (blw x34 3))) :: Z)) s H := hG
        exact cut_56 (va_up ((fun _ => 0)) 0 (blw x34 3)) (by rw [va_up_at]; omega) ls (lv_sub hl [0, 1, 2, 3, 4] rfl) _ _ hG hS
      · refine lv_bipush (v := nI 10) C0.1 C0.2.1 dL_act_46 (by decide) ?_
        refine lv_goto (tgt := 52) C0.1 C0.2.1 dL_act_48 (by decide) ?_
        refine tc_callS C0 hG hS (kL_below hlf  (x34) (10) (by omega) (by omega)) (va_cwS 2 C0.2.2.2.2 gL_act_L_below rfl rfl rfl (by decide +kernel) ⟨(Nat.le_of_ble_eq_true rfl), (Nat.le_of_ble_eq_true rfl)⟩) rfl hl rfl (Nat.le_of_ble_eq_true rfl) dL_act_52 ⟨(Nat.le_of_ble_eq_true rfl), (Nat.le_of_ble_eq_true rfl)⟩ (fun H locs hG hS => ?_)
        have b_52 := (show blw x34 10 < 10 from blw_lt x34 (by omega))
        refine ts_mst C0 hG0 hG hS (j := 0) (x := blw x34 10) (by decide) dL_act_55 (fun H locs hG hS => ?_)
        have hG : tcG D cI cJ N0 (wB h r1 r2 r3 r4 cI tk co cn wk n ho st ct sp g ra rw cJ ho st ct sp n f ((q, tcRw cI 5 (va_up ((fun _ => 0)) 0 (blw x34 10))) :: Z)) s H := hG
        exact cut_56 (va_up ((fun _ => 0)) 0 (blw x34 10)) (by rw [va_up_at]; omega) ls (lv_sub hl [0, 1, 2, 3, 4] rfl) _ _ hG hS
  · exact absurd c_7 (by omega)
