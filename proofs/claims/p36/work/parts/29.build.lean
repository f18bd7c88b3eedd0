/-! a town that cells choose, built twice -/
theorem tc_callIN {p : Program} {l : Launch} {e : Env} {R : Room} {s : State} {m : MethodId} {args : Array Value} {below : List Frame} {meth : Method} {c : Code} {H : Heap} {locs : List Loc} {cells slots : Nat} {Q : State → Prop}
    {cc : ByteArray} {pc : Nat} {ls : Array Slot} {rest st0 : List Value} {D : va_G} {cI cJ : ClassId} {N0 : Nat} {ws : va_W} {mc ms nL : Nat} {own host : String} {Ts : List Cond} {P : va_W → Prop} {b index maxL : Nat} {y : MethodName} {bytes : ByteArray} {wsY : List Cond} {rm : Room} {lv : List (Nat × Value)}
    (C0 : CallFix p m c cc nL s args Ts own) (hG : tcG D cI cJ N0 ws s H) (hS : va_S (tcA N0) s.heap H locs) (hM : Met l y wsY rm (tc_P [.ref b] D cI cJ N0 ws) (tc_Qi D N0 P) mc ms (tcA N0)) (cw : va_CN R s args own index y host bytes maxL none wsY rm mc ms 0 ∧ y.name = "<init>" ∧ (Cond.instanceMethod y).before args s = true) (hl : lv_has ls nL lv) (hst : st0 = .ref b :: rest) (hcat : (rest.map fun v => v.category).sum ≤ 8) (hdg : decode cc pc = .ok (.invokespecial index, 3)) (hf : cells + mc ≤ R.cells ∧ slots + ms ≤ R.slots)
    (kk : ∀ (ws' : va_W) (H1 : Heap) (locs1 : List Loc), P ws' → tcG D cI cJ N0 ws' s H1 → va_S (tcA N0) s.heap H1 locs1 → W p l e R s m args below meth c H1 locs1 (cells + mc) (slots + ms) Q (F0 m (pc + 3) ls rest)) : W p l e R s m args below meth c H locs cells slots Q (F0 m pc ls st0) := by
  subst hst
  intro T hT X
  obtain ⟨v, st₀, t, T', L, h0, X', hL, e1, e2, ⟨hv, ⟨ws', hp', hP, hD⟩, hF⟩, st⟩ := va_runIN (As := []) (rest := rest) (g := F0 m pc ls (.ref b :: rest)) C0 hM cw ⟨tc_blind, fun U hU hW => tc_pre hG hU hW⟩ rfl rfl hl.1 rfl (tc_cat hcat) hdg hf T hT X
  cases hv
  obtain ⟨k1, k2⟩ := tc_keepG h0 e1 hG hS hL hF hP hD
  obtain ⟨t2, a1, b1⟩ := kk ws' T'.heap (locs ++ L) hp' k1 k2 T' rfl X'
  exact ⟨t2, st t2 a1, b1⟩
set_option maxHeartbeats 4000000 in
set_option maxRecDepth 100000 in
theorem kL_build {l : Launch} (hlf : l.stackTraces = false) {D : va_G} {cI cJ : ClassId} {N0 : Nat} {h r1 r2 r3 r4 : Nat} {b L : Nat} {xs : Nat → Int32} (hL : L ≤ 260) : tcMs l yL_build wsL_build { frames := 2, cells := 26, slots := 221, locals := 45 } b L xs [.ref h, .ref b] D cI cJ N0 (wT h r1 r2 r3 r4 cI (fun _ => 0) (fun _ => 0) (fun _ => 0) (fun _ => 0) 0 0 20 0 0 []) (fun v ws' => ∃ (g ra : Nat) (rw tk co cn wk : Nat → Nat) (n : Nat) (f : Nat → Nat → Nat), v = some (.ref g) ∧ 0 < n ∧ tOk tk co cn wk n 20 ∧ tSy tk co cn wk n f ∧ ws' = wB h r1 r2 r3 r4 cI tk co cn wk n 0 20 0 0 g ra rw cJ 0 20 0 0 n f []) 26 221 := by
  refine tcs_of (cc := cL_build) (maxL := 7) (ret := (some (.object "TicketCoincidencesLaw$Sim"))) (by decide) rfl (Nat.le_of_ble_eq_true rfl) ?_
  intro p e s m args below meth c C0 hr hlk hbN hX hG ls hl
  show W p l e _ s m args below meth c s.heap [] 0 0 (tcEe below _ D N0 args s _ _) _
  have hl : lv_has ls 7 [(0, .ref h), (1, .ref b)] := hl
  have hG0 := hG
  have hN0 := hG.2.2.2.1
  have hS : va_S (tcA N0) s.heap s.heap [] := va_S.rf
  have hF : ∀ w ∈ wsX10, w ∈ wsL_build := by decide +kernel
  have w_all : Cond.fieldLink RL 9 "TicketCoincidencesLaw$Sim" "all" "[[I" ∈ wsL_build := by decide +kernel
  have hX1 : ∀ w ∈ wsX10, w ∈ wsL_build := by decide +kernel
  refine va_new (ci := 1) (fs := [.int 0, .int 0, .int 0, .int 0, .null]) (C := RX1) (T := TX1) (N := 5) C0.1 C0.2.1 C0.2.2.2.2 hX1 tyX1 tyX1_ok C0.2.2.2.1 (C0.2.2.2.2 (.classLink RL 10 RX1) (by decide +kernel)) (C0.2.2.2.2 (.instantiable RX1 5) (by decide +kernel)) (C0.2.2.2.2 (.initialized RX1) (by decide +kernel)) hG.2.1 hG.1 hG.2.2.1 hS (fun q h => Nat.le_trans hN0 h) rfl (fun j hj => by rcases (show j = 0 ∨ j = 1 ∨ j = 2 ∨ j = 3 ∨ j = 4 by omega) with rfl | rfl | rfl | rfl | rfl <;> rfl) (Nat.le_of_ble_eq_true rfl) (Nat.le_of_ble_eq_true rfl) dL_build_0 (fun g H hP hD hS => ?_)
  have hG : tcG D cI cJ N0 (wT h r1 r2 r3 r4 cI (fun _ => 0) (fun _ => 0) (fun _ => 0) (fun _ => 0) 0 0 20 0 0 [(g, .inr (1, [.int 0, .int 0, .int 0, .int 0, .null]))]) s H := hG0.put hP hD hS
  refine lv_dup C0.1 C0.2.1 dL_build_3 rfl ?_
  refine tc_callIN (rest := [.ref g]) C0 hG hS (kX1_init g) ⟨va_cnB 0 C0.2.2.2.2 gL_build_X1_init_n79 rfl rfl rfl hG.2.2.2.2.2.2.2.2.2.2 (C0.2.2.2.2 (.initialized RX1) (by decide +kernel)) (by decide +kernel) ⟨(Nat.le_of_ble_eq_true rfl), (Nat.le_of_ble_eq_true rfl)⟩, rfl, C0.2.2.2.2 (.instanceMethod yX1_init) (by decide +kernel)⟩ hl rfl (Nat.le_of_ble_eq_true rfl) dL_build_4 ⟨(Nat.le_of_ble_eq_true rfl), (Nat.le_of_ble_eq_true rfl)⟩ (fun ws9 H locs hw hG hS => ?_)
  obtain ⟨ra, rfl⟩ := hw
  have hG : tcG D cI cJ N0 (wB h r1 r2 r3 r4 cI (fun _ => 0) (fun _ => 0) (fun _ => 0) (fun _ => 0) 0 0 20 0 0 g ra (fun _ => 0) cJ 0 20 0 0 0 (fun _ _ => 0) ([])) s H := hG
  have hk0 : tOk (fun _ => 0) (fun _ => 0) (fun _ => 0) (fun _ => 0) 0 20 := ⟨fun _ => (show 0 < 100 by decide), fun _ => (show 0 < 5 by decide), fun _ => (show 0 < 6 by decide), fun _ => (show 0 < 6 by decide), by decide, by decide⟩
  have hy0 : tSy (fun _ => 0) (fun _ => 0) (fun _ => 0) (fun _ => 0) 0 (fun _ _ => 0) := fun i hi => absurd hi (Nat.not_lt_zero i)
  refine lv_astore_n (lv' := [(2, .ref g), (0, .ref h), (1, .ref b)]) C0.1 C0.2.1 dL_build_7 rfl hl (by decide) rfl (fun ls hl => ?_)
  refine lv_iconst (v := nI 1) C0.1 C0.2.1 dL_build_8 (by decide) ?_
  refine lv_aload_n C0.1 C0.2.1 dL_build_9 rfl (lv_at hl 2 rfl) ?_
  refine lv_iconst (v := nI 0) C0.1 C0.2.1 dL_build_10 (by decide) ?_
  refine tcs_callS C0 hX hbN hG hN0 hS (kL_cell hL (0) (by omega)) (va_cwS 2 C0.2.2.2.2 gL_build_L_cell rfl rfl rfl (by decide +kernel) ⟨(Nat.le_of_ble_eq_true rfl), (Nat.le_of_ble_eq_true rfl)⟩) rfl hl rfl (Nat.le_of_ble_eq_true rfl) dL_build_11 ⟨(Nat.le_of_ble_eq_true rfl), (Nat.le_of_ble_eq_true rfl)⟩ (fun v9 ws9 H locs hP9 hG hS => ?_)
  obtain ⟨⟨y11, rfl⟩, rfl⟩ := hP9
  refine W.eq (g2 := F0 m 14 ls [.int (y11), .int (nI (1))]) rfl ?_
  have hG : tcG D cI cJ N0 (wB h r1 r2 r3 r4 cI (fun _ => 0) (fun _ => 0) (fun _ => 0) (fun _ => 0) 0 0 20 0 0 g ra (fun _ => 0) cJ 0 20 0 0 0 (fun _ _ => 0) ([])) s H := hG
  refine lv_bipush (v := nI 12) C0.1 C0.2.1 dL_build_14 (by decide) ?_
  refine tc_callS C0 hG hS (kL_below hlf  (y11) (12) (by omega) (by omega)) (va_cwS 2 C0.2.2.2.2 gL_build_L_below rfl rfl rfl (by decide +kernel) ⟨(Nat.le_of_ble_eq_true rfl), (Nat.le_of_ble_eq_true rfl)⟩) rfl hl rfl (Nat.le_of_ble_eq_true rfl) dL_build_16 ⟨(Nat.le_of_ble_eq_true rfl), (Nat.le_of_ble_eq_true rfl)⟩ (fun H locs hG hS => ?_)
  have b_16 := (show blw y11 12 < 12 from blw_lt y11 (by omega))
  refine tn_iadd C0.1 C0.2.1 dL_build_19 ?_
  refine lv_istore_n (lv' := [(3, .int (nI (1 + (blw y11 12)))), (2, .ref g), (0, .ref h), (1, .ref b)]) C0.1 C0.2.1 dL_build_20 rfl hl (by decide) rfl (fun ls hl => ?_)
  refine lv_iconst (v := nI 0) C0.1 C0.2.1 dL_build_21 (by decide) ?_
  refine lv_istore (lv' := [(4, .int (nI (0))), (3, .int (nI (1 + (blw y11 12)))), (2, .ref g), (0, .ref h), (1, .ref b)]) C0.1 C0.2.1 dL_build_22 hl (by decide) rfl (fun ls hl => ?_)
  refine tc_nameQ (fun zQg zhQ => ?_)
  have cut_24 : ∀ (kf : Nat) (k : Nat) (ra : Nat) (rw : Nat → Nat) (tk : Nat → Nat) (co : Nat → Nat) (cn : Nat → Nat) (wk : Nat → Nat) (f : Nat → Nat → Nat) (hk9 : k ≤ 1 + blw y11 12) (hk : tOk tk co cn wk k 20) (hy : tSy tk co cn wk k f) (hm : (1 + blw y11 12) + 1 ≤ k + kf), ∀ (ls : Array Slot), lv_has ls 7 [(4, .int (nI (k))), (3, .int (nI (1 + (blw y11 12)))), (2, .ref g), (0, .ref h), (1, .ref b)] → ∀ (H : Heap) (locs : List Loc), tcG D cI cJ N0 (wB h r1 r2 r3 r4 cI tk co cn wk k 0 20 0 0 g ra rw cJ 0 20 0 0 k f ([])) s H → va_S (tcA N0) s.heap H locs → W p l e ({ frames := 2, cells := 26, slots := 221, locals := 45 } : Room) s m args below meth c H locs (0 + (2 + 2 * k)) (0 + (5 + 18 * k)) zQg (F0 m 24 ls []) := by
    intro kf
    induction kf with
    | zero => intro k ra rw tk co cn wk f hk9 hk hy hm; exact absurd hm (by omega)
    | succ kf ih_24 =>
      intro k ra rw tk co cn wk f hk9 hk hy hm ls hl H locs hG hS
      have hb11 := blw_lt y11 (show 0 < 12 by decide)
      refine lv_iload C0.1 C0.2.1 dL_build_24 (lv_at hl 0 rfl) ?_
      refine lv_iload_n C0.1 C0.2.1 dL_build_26 rfl (lv_at hl 1 rfl) ?_
      refine tn_icmp_ge (tgt := 189) C0.1 C0.2.1 dL_build_27 (by decide) (by omega) (by omega) (fun c_27 => ?_) (fun c_27 => ?_)
      · refine lv_aload_n C0.1 C0.2.1 dL_build_189 rfl (lv_at hl 2 rfl) ?_
        subst zhQ
        exact tce_aret C0 hr (Or.inl ⟨_, rfl⟩) hlk hG hS ⟨g, ra, rw, tk, co, cn, wk, k, f, rfl, by omega, hk, hy, rfl⟩ (by omega) (by omega) dL_build_190
      · have hk12 := hk.2.2.2.2.1
        refine lv_aload_n C0.1 C0.2.1 dL_build_30 rfl (lv_at hl 4 rfl) ?_
        refine lv_iconst (v := nI 1) C0.1 C0.2.1 dL_build_31 (by decide) ?_
        refine lv_iload C0.1 C0.2.1 dL_build_32 (lv_at hl 0 rfl) ?_
        refine tn_iadd C0.1 C0.2.1 dL_build_34 ?_
        refine tcs_callS C0 hX hbN hG hN0 hS (kL_cell hL (1 + k) (by omega)) (va_cwS 2 C0.2.2.2.2 gL_build_L_cell rfl rfl rfl (by decide +kernel) ⟨(Nat.le_of_ble_eq_true rfl), (Nat.le_of_ble_eq_true rfl)⟩) rfl hl rfl (Nat.le_of_ble_eq_true rfl) dL_build_35 ⟨by dsimp only [room_1]; omega, by dsimp only [room_1]; omega⟩ (fun v9 ws9 H locs hP9 hG hS => ?_)
        obtain ⟨⟨y35, rfl⟩, rfl⟩ := hP9
        refine W.eq (g2 := F0 m 38 ls [.int (y35)]) rfl ?_
        have hG : tcG D cI cJ N0 (wB h r1 r2 r3 r4 cI tk co cn wk k 0 20 0 0 g ra rw cJ 0 20 0 0 k f ([])) s H := hG
        refine lv_istore (lv' := [(5, .int (y35)), (4, .int (nI (k))), (3, .int (nI (1 + (blw y11 12)))), (2, .ref g), (0, .ref h), (1, .ref b)]) C0.1 C0.2.1 dL_build_38 hl (by decide) rfl (fun ls hl => ?_)
        refine lv_iconst (v := nI 5) C0.1 C0.2.1 dL_build_40 (by decide) ?_
        refine ts_mnew C0 (by decide +kernel) hG0 hG hS ⟨by dsimp only [room_1]; omega, by dsimp only [room_1]; omega⟩ dL_build_41 (fun q H locs hG hS => ?_)
        have hG : tcG D cI cJ N0 (wB h r1 r2 r3 r4 cI tk co cn wk k 0 20 0 0 g ra rw cJ 0 20 0 0 k f ((q, tcRw cI 5 ((fun _ => 0))) :: ([]))) s H := hG
        refine lv_dup C0.1 C0.2.1 dL_build_43 rfl ?_
        refine lv_iconst (v := nI 0) C0.1 C0.2.1 dL_build_44 (by decide) ?_
        refine lv_iload C0.1 C0.2.1 dL_build_45 (lv_at hl 0 rfl) ?_
        refine lv_iload C0.1 C0.2.1 dL_build_47 (lv_at hl 0 rfl) ?_
        refine lv_bipush (v := nI 9) C0.1 C0.2.1 dL_build_49 (by decide) ?_
        refine lv_ishr C0.1 C0.2.1 dL_build_51 ?_
        refine tc_any (fun x51 => ?_)
        refine lv_iconst (v := nI 3) C0.1 C0.2.1 dL_build_52 (by decide) ?_
        refine tc_callS C0 hG hS (kL_below hlf  (x51) (3) (by omega) (by omega)) (va_cwS 2 C0.2.2.2.2 gL_build_L_below rfl rfl rfl (by decide +kernel) ⟨(Nat.le_of_ble_eq_true rfl), (Nat.le_of_ble_eq_true rfl)⟩) rfl hl rfl (Nat.le_of_ble_eq_true rfl) dL_build_53 ⟨by dsimp only [room_1]; omega, by dsimp only [room_1]; omega⟩ (fun H locs hG hS => ?_)
        have b_53 := (show blw x51 3 < 3 from blw_lt x51 (by omega))
        have cut_69 : ∀ (mf : Nat → Nat) (h56 : mf 0 < 10), ∀ (ls : Array Slot), lv_has ls 7 [(5, .int (y35)), (4, .int (nI (k))), (3, .int (nI (1 + (blw y11 12)))), (2, .ref g), (0, .ref h), (1, .ref b)] → ∀ (H : Heap) (locs : List Loc), tcG D cI cJ N0 (wB h r1 r2 r3 r4 cI tk co cn wk k 0 20 0 0 g ra rw cJ 0 20 0 0 k f ((q, tcRw cI 5 mf) :: ([]))) s H → va_S (tcA N0) s.heap H locs → W p l e ({ frames := 2, cells := 26, slots := 221, locals := 45 } : Room) s m args below meth c H locs (0 + (2 + 2 * k) + 1) (0 + (5 + 18 * k) + 5) zQg (F0 m 69 ls [.ref q]) := by
          intro mf h56 ls hl H locs hG hS
          refine lv_dup C0.1 C0.2.1 dL_build_69 rfl ?_
          refine lv_iconst (v := nI 1) C0.1 C0.2.1 dL_build_70 (by decide) ?_
          refine lv_iload C0.1 C0.2.1 dL_build_71 (lv_at hl 0 rfl) ?_
          refine lv_iconst (v := nI 3) C0.1 C0.2.1 dL_build_73 (by decide) ?_
          refine lv_ishr C0.1 C0.2.1 dL_build_74 ?_
          refine tc_any (fun x74 => ?_)
          refine lv_iload C0.1 C0.2.1 dL_build_75 (lv_at hl 0 rfl) ?_
          refine lv_bipush (v := nI 8) C0.1 C0.2.1 dL_build_77 (by decide) ?_
          refine lv_ishr C0.1 C0.2.1 dL_build_79 ?_
          refine tc_any (fun x79 => ?_)
          refine lv_iconst (v := nI 3) C0.1 C0.2.1 dL_build_80 (by decide) ?_
          refine tc_callS C0 hG hS (kL_below hlf  (x79) (3) (by omega) (by omega)) (va_cwS 2 C0.2.2.2.2 gL_build_L_below rfl rfl rfl (by decide +kernel) ⟨(Nat.le_of_ble_eq_true rfl), (Nat.le_of_ble_eq_true rfl)⟩) rfl hl rfl (Nat.le_of_ble_eq_true rfl) dL_build_81 ⟨by dsimp only [room_1]; omega, by dsimp only [room_1]; omega⟩ (fun H locs hG hS => ?_)
          have b_81 := (show blw x79 3 < 3 from blw_lt x79 (by omega))
          have cut_97 : ∀ (mf2 : Nat → Nat) (h82 : mf2 0 < 10) (h82b : mf2 1 < 10), ∀ (ls : Array Slot), lv_has ls 7 [(5, .int (y35)), (4, .int (nI (k))), (3, .int (nI (1 + (blw y11 12)))), (2, .ref g), (0, .ref h), (1, .ref b)] → ∀ (H : Heap) (locs : List Loc), tcG D cI cJ N0 (wB h r1 r2 r3 r4 cI tk co cn wk k 0 20 0 0 g ra rw cJ 0 20 0 0 k f ((q, tcRw cI 5 mf2) :: ([]))) s H → va_S (tcA N0) s.heap H locs → W p l e ({ frames := 2, cells := 26, slots := 221, locals := 45 } : Room) s m args below meth c H locs (0 + (2 + 2 * k) + 1) (0 + (5 + 18 * k) + 5) zQg (F0 m 97 ls [.ref q]) := by
            intro mf2 h82 h82b ls hl H locs hG hS
            refine lv_dup C0.1 C0.2.1 dL_build_97 rfl ?_
            refine lv_iconst (v := nI 2) C0.1 C0.2.1 dL_build_98 (by decide) ?_
            refine lv_iload C0.1 C0.2.1 dL_build_99 (lv_at hl 0 rfl) ?_
            refine lv_iconst (v := nI 5) C0.1 C0.2.1 dL_build_101 (by decide) ?_
            refine lv_ishr C0.1 C0.2.1 dL_build_102 ?_
            refine tc_any (fun x102 => ?_)
            refine lv_iconst (v := nI 5) C0.1 C0.2.1 dL_build_103 (by decide) ?_
            refine tc_callS C0 hG hS (kL_below hlf  (x102) (5) (by omega) (by omega)) (va_cwS 2 C0.2.2.2.2 gL_build_L_below rfl rfl rfl (by decide +kernel) ⟨(Nat.le_of_ble_eq_true rfl), (Nat.le_of_ble_eq_true rfl)⟩) rfl hl rfl (Nat.le_of_ble_eq_true rfl) dL_build_104 ⟨by dsimp only [room_1]; omega, by dsimp only [room_1]; omega⟩ (fun H locs hG hS => ?_)
            have b_104 := (show blw x102 5 < 5 from blw_lt x102 (by omega))
            refine ts_mst C0 hG0 hG hS (j := 2) (x := blw x102 5) (by decide) dL_build_107 (fun H locs hG hS => ?_)
            have hG : tcG D cI cJ N0 (wB h r1 r2 r3 r4 cI tk co cn wk k 0 20 0 0 g ra rw cJ 0 20 0 0 k f ((q, tcRw cI 5 (va_up mf2 2 (blw x102 5))) :: ([]))) s H := hG
            refine lv_dup C0.1 C0.2.1 dL_build_108 rfl ?_
            refine lv_iconst (v := nI 3) C0.1 C0.2.1 dL_build_109 (by decide) ?_
            refine lv_iload C0.1 C0.2.1 dL_build_110 (lv_at hl 0 rfl) ?_
            refine lv_bipush (v := nI 6) C0.1 C0.2.1 dL_build_112 (by decide) ?_
            refine lv_ishr C0.1 C0.2.1 dL_build_114 ?_
            refine tc_any (fun x114 => ?_)
            refine lv_bipush (v := nI 6) C0.1 C0.2.1 dL_build_115 (by decide) ?_
            refine tc_callS C0 hG hS (kL_below hlf  (x114) (6) (by omega) (by omega)) (va_cwS 2 C0.2.2.2.2 gL_build_L_below rfl rfl rfl (by decide +kernel) ⟨(Nat.le_of_ble_eq_true rfl), (Nat.le_of_ble_eq_true rfl)⟩) rfl hl rfl (Nat.le_of_ble_eq_true rfl) dL_build_117 ⟨by dsimp only [room_1]; omega, by dsimp only [room_1]; omega⟩ (fun H locs hG hS => ?_)
            have b_117 := (show blw x114 6 < 6 from blw_lt x114 (by omega))
            refine ts_mst C0 hG0 hG hS (j := 3) (x := blw x114 6) (by decide) dL_build_120 (fun H locs hG hS => ?_)
            have hG : tcG D cI cJ N0 (wB h r1 r2 r3 r4 cI tk co cn wk k 0 20 0 0 g ra rw cJ 0 20 0 0 k f ((q, tcRw cI 5 (va_up (va_up mf2 2 (blw x102 5)) 3 (blw x114 6))) :: ([]))) s H := hG
            refine lv_dup C0.1 C0.2.1 dL_build_121 rfl ?_
            refine lv_iconst (v := nI 4) C0.1 C0.2.1 dL_build_122 (by decide) ?_
            refine lv_iload C0.1 C0.2.1 dL_build_123 (lv_at hl 0 rfl) ?_
            refine lv_iconst (v := nI 2) C0.1 C0.2.1 dL_build_125 (by decide) ?_
            refine lv_ishr C0.1 C0.2.1 dL_build_126 ?_
            refine tc_any (fun x126 => ?_)
            refine lv_bipush (v := nI 6) C0.1 C0.2.1 dL_build_127 (by decide) ?_
            refine tc_callS C0 hG hS (kL_below hlf  (x126) (6) (by omega) (by omega)) (va_cwS 2 C0.2.2.2.2 gL_build_L_below rfl rfl rfl (by decide +kernel) ⟨(Nat.le_of_ble_eq_true rfl), (Nat.le_of_ble_eq_true rfl)⟩) rfl hl rfl (Nat.le_of_ble_eq_true rfl) dL_build_129 ⟨by dsimp only [room_1]; omega, by dsimp only [room_1]; omega⟩ (fun H locs hG hS => ?_)
            have b_129 := (show blw x126 6 < 6 from blw_lt x126 (by omega))
            refine ts_mst C0 hG0 hG hS (j := 4) (x := blw x126 6) (by decide) dL_build_132 (fun H locs hG hS => ?_)
            have hG : tcG D cI cJ N0 (wB h r1 r2 r3 r4 cI tk co cn wk k 0 20 0 0 g ra rw cJ 0 20 0 0 k f ((q, tcRw cI 5 (va_up (va_up (va_up mf2 2 (blw x102 5)) 3 (blw x114 6)) 4 (blw x126 6))) :: ([]))) s H := hG
            have cut_133 : ∀ (mf3 : Nat → Nat) (e0 : mf3 0 < 10) (e1 : mf3 1 < 10) (e2 : mf3 2 < 5) (e3 : mf3 3 < 6) (e4 : mf3 4 < 6), ∀ (ls : Array Slot), lv_has ls 7 [(5, .int (y35)), (4, .int (nI (k))), (3, .int (nI (1 + (blw y11 12)))), (2, .ref g), (0, .ref h), (1, .ref b)] → ∀ (H : Heap) (locs : List Loc), tcG D cI cJ N0 (wB h r1 r2 r3 r4 cI tk co cn wk k 0 20 0 0 g ra rw cJ 0 20 0 0 k f ((q, tcRw cI 5 mf3) :: ([]))) s H → va_S (tcA N0) s.heap H locs → W p l e ({ frames := 2, cells := 26, slots := 221, locals := 45 } : Room) s m args below meth c H locs (0 + (2 + 2 * k) + 1) (0 + (5 + 18 * k) + 5) zQg (F0 m 133 ls [.ref q]) := by
              intro mf3 e0 e1 e2 e3 e4 ls hl H locs hG hS
              refine lv_astore (lv' := [(6, .ref q), (5, .int (y35)), (4, .int (nI (k))), (3, .int (nI (1 + (blw y11 12)))), (2, .ref g), (0, .ref h), (1, .ref b)]) C0.1 C0.2.1 dL_build_133 hl (by decide) rfl (fun ls hl => ?_)
              refine lv_aload_n C0.1 C0.2.1 dL_build_135 rfl (lv_at hl 4 rfl) ?_
              refine lv_aload_n C0.1 C0.2.1 dL_build_136 rfl (lv_at hl 4 rfl) ?_
              refine tgX1_all C0 hF hG w_all dL_build_137 ?_
              refine lv_aload C0.1 C0.2.1 dL_build_140 (lv_at hl 0 rfl) ?_
              refine tce_callS C0 hG hS (kX1_with (q := q) (mf := mf3) (by omega)) (va_cwS 2 C0.2.2.2.2 gL_build_X1_with rfl rfl rfl (by decide +kernel) ⟨(Nat.le_of_ble_eq_true rfl), (Nat.le_of_ble_eq_true rfl)⟩) rfl hl rfl (Nat.le_of_ble_eq_true rfl) dL_build_142 ⟨by dsimp only [room_1]; omega, by dsimp only [room_1]; omega⟩ (fun v9 ws9 H locs hP9 hG hS => ?_)
              obtain ⟨r, rfl, rfl⟩ := hP9
              refine W.eq (g2 := F0 m 145 ls [.ref r, .ref g]) rfl ?_
              refine ts_putall C0 hF hG0 hG hS w_all dL_build_145 (fun H locs hG hS => ?_)
              have hy_145 := tSy.push (mf := mf3) hy e0 e1 rfl rfl rfl rfl rfl
              have hk_145 : tOk (va_up tk k (10 * mf3 0 + mf3 1)) (va_up co k (mf3 2)) (va_up cn k (mf3 3)) (va_up wk k (mf3 4)) (k + 1) 20 := ⟨up_lt hk.1 (by omega) k, up_lt hk.2.1 (by omega) k, up_lt hk.2.2.1 (by omega) k, up_lt hk.2.2.2.1 (by omega) k, by omega, hk.2.2.2.2.2⟩
              have hG : tcG D cI cJ N0 (wB h r1 r2 r3 r4 cI tk co cn wk k 0 20 0 0 g r (va_up rw k q) cJ 0 20 0 0 (k + 1) (va_up f k mf3) ([])) s H := hG
              refine lv_aload_n C0.1 C0.2.1 dL_build_148 rfl (lv_at hl 5 rfl) ?_
              refine lv_bipush (v := nI 10) C0.1 C0.2.1 dL_build_149 (by decide) ?_
              refine lv_aload C0.1 C0.2.1 dL_build_151 (lv_at hl 0 rfl) ?_
              refine lv_iconst (v := nI 0) C0.1 C0.2.1 dL_build_153 (by decide) ?_
              refine ts_aldq (k := k) (hq := (va_up_at rw k q)) C0 hG (by omega) (by decide) (j := 0) dL_build_154 ?_
              refine tc_top (y := nI (mf3 0)) (by rw [va_up_at]) ?_
              refine tn_imul C0.1 C0.2.1 dL_build_155 ?_
              refine lv_aload C0.1 C0.2.1 dL_build_156 (lv_at hl 0 rfl) ?_
              refine lv_iconst (v := nI 1) C0.1 C0.2.1 dL_build_158 (by decide) ?_
              refine ts_aldq (k := k) (hq := (va_up_at rw k q)) C0 hG (by omega) (by decide) (j := 1) dL_build_159 ?_
              refine tc_top (y := nI (mf3 1)) (by rw [va_up_at]) ?_
              refine tn_iadd C0.1 C0.2.1 dL_build_160 ?_
              refine lv_aload C0.1 C0.2.1 dL_build_161 (lv_at hl 0 rfl) ?_
              refine lv_iconst (v := nI 2) C0.1 C0.2.1 dL_build_163 (by decide) ?_
              refine ts_aldq (k := k) (hq := (va_up_at rw k q)) C0 hG (by omega) (by decide) (j := 2) dL_build_164 ?_
              refine tc_top (y := nI (mf3 2)) (by rw [va_up_at]) ?_
              refine lv_aload C0.1 C0.2.1 dL_build_165 (lv_at hl 0 rfl) ?_
              refine lv_iconst (v := nI 3) C0.1 C0.2.1 dL_build_167 (by decide) ?_
              refine ts_aldq (k := k) (hq := (va_up_at rw k q)) C0 hG (by omega) (by decide) (j := 3) dL_build_168 ?_
              refine tc_top (y := nI (mf3 3)) (by rw [va_up_at]) ?_
              refine lv_aload C0.1 C0.2.1 dL_build_169 (lv_at hl 0 rfl) ?_
              refine lv_iconst (v := nI 4) C0.1 C0.2.1 dL_build_171 (by decide) ?_
              refine ts_aldq (k := k) (hq := (va_up_at rw k q)) C0 hG (by omega) (by decide) (j := 4) dL_build_172 ?_
              refine tc_top (y := nI (mf3 4)) (by rw [va_up_at]) ?_
              refine tc_callV (q0 := 0) C0 hG hS rfl rfl (kX0_addStranger_in hlf hk  (10 * (mf3 0) + (mf3 1)) (mf3 2) (mf3 3) (mf3 4) (by omega) (by omega) (by omega) (by omega) (by omega)) (cwV 4 C0.2.2.2.2 gL_build_X0_addStranger rfl rfl rfl (by decide +kernel) ⟨(Nat.le_of_ble_eq_true rfl), (Nat.le_of_ble_eq_true rfl)⟩) rfl hl rfl (Nat.le_of_ble_eq_true rfl) dL_build_173 ⟨by dsimp only [room_1]; omega, by dsimp only [room_1]; omega⟩ (fun H locs hG hS => ?_)
              have hG : tcG D cI cJ N0 (wB h r1 r2 r3 r4 cI (va_up tk k (10 * (mf3 0) + (mf3 1))) (va_up co k (mf3 2)) (va_up cn k (mf3 3)) (va_up wk k (mf3 4)) (k + 1) 0 20 0 0 g r (va_up rw k q) cJ 0 20 0 0 (k + 1) (va_up f k mf3) ([])) s H := hG
              refine lv_iload C0.1 C0.2.1 dL_build_176 (lv_at hl 2 rfl) ?_
              refine tn_icmp_eq (tgt := 183) C0.1 C0.2.1 dL_build_178 (by decide) (by omega) (by omega) (fun c_178 => ?_) (fun c_178 => ?_)
              · refine tn_iinc (lv' := [(4, .int (nI (k + 1))), (6, .ref q), (5, .int (y35)), (3, .int (nI (1 + (blw y11 12)))), (2, .ref g), (0, .ref h), (1, .ref b)]) C0.1 C0.2.1 dL_build_183 hl (k := 2) rfl (by decide) rfl (fun ls hl => ?_)
                refine lv_goto (tgt := 24) C0.1 C0.2.1 dL_build_186 (by decide) ?_
                refine W.widen (k := 0 + (2 + 2 * (k + 1))) (n := 0 + (5 + 18 * (k + 1))) (by omega) (by omega) ?_
                exact ih_24 (k + 1) (r) (va_up rw k q) (va_up tk k (10 * (mf3 0) + (mf3 1))) (va_up co k (mf3 2)) (va_up cn k (mf3 3)) (va_up wk k (mf3 4)) (va_up f k mf3) (by omega) hk_145 hy_145 (by omega) ls (lv_sub hl [0, 3, 4, 5, 6] rfl) _ _ hG hS
              · exact absurd rfl c_178
            exact cut_133 (va_up (va_up (va_up mf2 2 (blw x102 5)) 3 (blw x114 6)) 4 (blw x126 6)) (by simp [va_up] <;> omega) (by simp [va_up] <;> omega) (by simp [va_up] <;> omega) (by simp [va_up] <;> omega) (by simp [va_up] <;> omega) ls (lv_sub hl [0, 1, 2, 3, 4, 5] rfl) _ _ hG hS
          refine tn_if_ne (tgt := 92) C0.1 C0.2.1 dL_build_84 (by decide) (by omega) (fun c_84 => ?_) (fun c_84 => ?_)
          · refine lv_iconst (v := nI 4) C0.1 C0.2.1 dL_build_92 (by decide) ?_
            refine tc_callS C0 hG hS (kL_below hlf  (x74) (4) (by omega) (by omega)) (va_cwS 2 C0.2.2.2.2 gL_build_L_below rfl rfl rfl (by decide +kernel) ⟨(Nat.le_of_ble_eq_true rfl), (Nat.le_of_ble_eq_true rfl)⟩) rfl hl rfl (Nat.le_of_ble_eq_true rfl) dL_build_93 ⟨by dsimp only [room_1]; omega, by dsimp only [room_1]; omega⟩ (fun H locs hG hS => ?_)
            have b_93 := (show blw x74 4 < 4 from blw_lt x74 (by omega))
            refine ts_mst C0 hG0 hG hS (j := 1) (x := blw x74 4) (by decide) dL_build_96 (fun H locs hG hS => ?_)
            have hG : tcG D cI cJ N0 (wB h r1 r2 r3 r4 cI tk co cn wk k 0 20 0 0 g ra rw cJ 0 20 0 0 k f ((q, tcRw cI 5 (va_up mf 1 (blw x74 4))) :: ([]))) s H := hG
            exact cut_97 (va_up mf 1 (blw x74 4)) (by simp [va_up] <;> omega) (by rw [va_up_at]; omega) ls (lv_sub hl [0, 1, 2, 3, 4, 5] rfl) _ _ hG hS
          · refine lv_bipush (v := nI 10) C0.1 C0.2.1 dL_build_87 (by decide) ?_
            refine lv_goto (tgt := 93) C0.1 C0.2.1 dL_build_89 (by decide) ?_
            refine tc_callS C0 hG hS (kL_below hlf  (x74) (10) (by omega) (by omega)) (va_cwS 2 C0.2.2.2.2 gL_build_L_below rfl rfl rfl (by decide +kernel) ⟨(Nat.le_of_ble_eq_true rfl), (Nat.le_of_ble_eq_true rfl)⟩) rfl hl rfl (Nat.le_of_ble_eq_true rfl) dL_build_93 ⟨by dsimp only [room_1]; omega, by dsimp only [room_1]; omega⟩ (fun H locs hG hS => ?_)
            have b_93 := (show blw x74 10 < 10 from blw_lt x74 (by omega))
            refine ts_mst C0 hG0 hG hS (j := 1) (x := blw x74 10) (by decide) dL_build_96 (fun H locs hG hS => ?_)
            have hG : tcG D cI cJ N0 (wB h r1 r2 r3 r4 cI tk co cn wk k 0 20 0 0 g ra rw cJ 0 20 0 0 k f ((q, tcRw cI 5 (va_up mf 1 (blw x74 10))) :: ([]))) s H := hG
            exact cut_97 (va_up mf 1 (blw x74 10)) (by simp [va_up] <;> omega) (by rw [va_up_at]; omega) ls (lv_sub hl [0, 1, 2, 3, 4, 5] rfl) _ _ hG hS
        refine tn_if_ne (tgt := 64) C0.1 C0.2.1 dL_build_56 (by decide) (by omega) (fun c_56 => ?_) (fun c_56 => ?_)
        · refine lv_iconst (v := nI 4) C0.1 C0.2.1 dL_build_64 (by decide) ?_
          refine tc_callS C0 hG hS (kL_below hlf  (y35) (4) (by omega) (by omega)) (va_cwS 2 C0.2.2.2.2 gL_build_L_below rfl rfl rfl (by decide +kernel) ⟨(Nat.le_of_ble_eq_true rfl), (Nat.le_of_ble_eq_true rfl)⟩) rfl hl rfl (Nat.le_of_ble_eq_true rfl) dL_build_65 ⟨by dsimp only [room_1]; omega, by dsimp only [room_1]; omega⟩ (fun H locs hG hS => ?_)
          have b_65 := (show blw y35 4 < 4 from blw_lt y35 (by omega))
          refine ts_mst C0 hG0 hG hS (j := 0) (x := blw y35 4) (by decide) dL_build_68 (fun H locs hG hS => ?_)
          have hG : tcG D cI cJ N0 (wB h r1 r2 r3 r4 cI tk co cn wk k 0 20 0 0 g ra rw cJ 0 20 0 0 k f ((q, tcRw cI 5 (va_up ((fun _ => 0)) 0 (blw y35 4))) :: ([]))) s H := hG
          exact cut_69 (va_up ((fun _ => 0)) 0 (blw y35 4)) (by rw [va_up_at]; omega) ls (lv_sub hl [0, 1, 2, 3, 4, 5] rfl) _ _ hG hS
        · refine lv_bipush (v := nI 10) C0.1 C0.2.1 dL_build_59 (by decide) ?_
          refine lv_goto (tgt := 65) C0.1 C0.2.1 dL_build_61 (by decide) ?_
          refine tc_callS C0 hG hS (kL_below hlf  (y35) (10) (by omega) (by omega)) (va_cwS 2 C0.2.2.2.2 gL_build_L_below rfl rfl rfl (by decide +kernel) ⟨(Nat.le_of_ble_eq_true rfl), (Nat.le_of_ble_eq_true rfl)⟩) rfl hl rfl (Nat.le_of_ble_eq_true rfl) dL_build_65 ⟨by dsimp only [room_1]; omega, by dsimp only [room_1]; omega⟩ (fun H locs hG hS => ?_)
          have b_65 := (show blw y35 10 < 10 from blw_lt y35 (by omega))
          refine ts_mst C0 hG0 hG hS (j := 0) (x := blw y35 10) (by decide) dL_build_68 (fun H locs hG hS => ?_)
          have hG : tcG D cI cJ N0 (wB h r1 r2 r3 r4 cI tk co cn wk k 0 20 0 0 g ra rw cJ 0 20 0 0 k f ((q, tcRw cI 5 (va_up ((fun _ => 0)) 0 (blw y35 10))) :: ([]))) s H := hG
          exact cut_69 (va_up ((fun _ => 0)) 0 (blw y35 10)) (by rw [va_up_at]; omega) ls (lv_sub hl [0, 1, 2, 3, 4, 5] rfl) _ _ hG hS
  refine W.widen (k := 0 + (2 + 2 * 0)) (n := 0 + (5 + 18 * 0)) (by omega) (by omega) ?_
  exact cut_24 ((1 + blw y11 12) + 1) (0) (ra) (fun _ => 0) (fun _ => 0) (fun _ => 0) (fun _ => 0) (fun _ => 0) (fun _ _ => 0) (by omega) hk0 hy0 (by omega) ls (lv_sub hl [0, 1, 2, 3, 4] rfl) _ _ hG hS
