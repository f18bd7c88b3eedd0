/-! the law from 708 -/
set_option maxHeartbeats 4000000 in
set_option maxRecDepth 100000 in
theorem law_708 {p : Program} {l : Launch} {e : Env} {s : State} {m : MethodId} {args : Array Value} {below : List Frame} {meth : Method} {c : Code} {Q : State → Prop} (hlf : l.stackTraces = false) (C0 : CallFix p m c cL_law 25 s args wsL_law RL) {D : va_G} {cI cJ : ClassId} {N0 : Nat} (hG0 : tcG D cI cJ N0 [] s s.heap) {b h r1 r2 r3 r4 g : Nat} {tk co cn wk : Nat → Nat} {n st : Nat} {ho ct : Int32} {sq ra : Nat} {rw : Nat → Nat} {f : Nat → Nat → Nat} (hk : tOk tk co cn wk n st) (hy : tSy tk co cn wk n f) (hn0 : 0 < n) (hsq : sq ≤ 1000) {t : Nat} (ht9 : t < 9) {v : Int32} {ls : Array Slot} (hl : lv_has ls 25 [(0, .ref b), (1, .ref h), (2, .ref g), (3, .int (nI (t))), (4, .int (v)), (10, .int (nI (n))), (11, .int (nI (tw tk co cn wk 0 n))), (17, .int (iM (bestSw tk co cn wk n)))]) {H : Heap} {locs : List Loc} (hG : tcG D cI cJ N0 (wB h r1 r2 r3 r4 cI tk co cn wk n ho st ct (nI sq) g ra rw cJ ho st ct (nI sq) n f ([])) s H) (hS : va_S (tcA N0) s.heap H locs) (cut_1008 : ∀ (tk : Nat → Nat) (co : Nat → Nat) (cn : Nat → Nat) (st : Nat) (sq2 : Nat) (f : Nat → Nat → Nat) (one : Nat) (hk : tOk tk co cn wk n st) (hy : tSy tk co cn wk n f) (hsq2 : sq2 ≤ sq + 12) (ho1 : one < n), ∀ (ls : Array Slot), lv_has ls 25 [(0, .ref b), (1, .ref h), (2, .ref g), (3, .int (nI (t))), (4, .int (v)), (10, .int (nI (n))), (18, .int (nI (one)))] → ∀ (H : Heap) (locs : List Loc), tcG D cI cJ N0 (wB h r1 r2 r3 r4 cI tk co cn wk n ho st ct (nI sq2) g ra rw cJ ho st ct (nI sq2) n f ([])) s H → va_S (tcA N0) s.heap H locs → W p l e room_1 s m args below meth c H locs (0 + (40 + 4 * (t + 1))) (0 + (300 + 24 * (t + 1))) Q (F0 m 1008 ls [])) : W p l e room_1 s m args below meth c H locs (0 + (40 + 4 * (t + 1))) (0 + (300 + 24 * (t + 1))) Q (F0 m 708 ls []) := by
  have hF : ∀ w ∈ wsX10, w ∈ wsL_law := inlX1
  have w_all : Cond.fieldLink RL 9 "TicketCoincidencesLaw$Sim" "all" "[[I" ∈ wsL_law := by decide +kernel
  obtain ⟨hk1, hk2, hk3, hk4, hn12, hst⟩ := id hk
  refine lv_iload C0.1 C0.2.1 dL_law_708 (lv_at hl 4 rfl) ?_
  refine lv_iconst (v := nI 5) C0.1 C0.2.1 dL_law_710 (by decide) ?_
  refine lv_ishr C0.1 C0.2.1 dL_law_711 ?_
  refine tc_any (fun x711 => ?_)
  refine lv_iload C0.1 C0.2.1 dL_law_712 (lv_at hl 5 rfl) ?_
  refine tc_callS C0 hG hS (kL_below hlf  (x711) (n) (by omega) (by omega)) (va_cwS 2 C0.2.2.2.2 gL_law_L_below rfl rfl rfl (by decide +kernel) ⟨(Nat.le_of_ble_eq_true rfl), (Nat.le_of_ble_eq_true rfl)⟩) rfl hl rfl (Nat.le_of_ble_eq_true rfl) dL_law_714 ⟨by dsimp only [room_1]; omega, by dsimp only [room_1]; omega⟩ (fun H locs hG hS => ?_)
  have b_714 := (show blw x711 n < n from blw_lt x711 (by omega))
  obtain ⟨one, eone⟩ : ∃ z, blw x711 n = z := ⟨_, rfl⟩
  rw [eone] at b_714
  refine tc_top (congrArg nI eone) ?_
  refine lv_istore (lv' := [(18, .int (nI (one))), (0, .ref b), (1, .ref h), (2, .ref g), (3, .int (nI (t))), (4, .int (v)), (10, .int (nI (n))), (11, .int (nI (tw tk co cn wk 0 n))), (17, .int (iM (bestSw tk co cn wk n)))]) C0.1 C0.2.1 dL_law_717 hl (by decide) rfl (fun ls hl => ?_)
  refine lv_aload_n C0.1 C0.2.1 dL_law_719 rfl (lv_at hl 2 rfl) ?_
  refine lv_iload C0.1 C0.2.1 dL_law_720 (lv_at hl 0 rfl) ?_
  refine tc_callV (q0 := 0) C0 hG hS rfl rfl (kX0_bestCorner_in hlf hk  (one) (by omega)) (cwV 1 C0.2.2.2.2 gL_law_X0_bestCorner rfl rfl rfl (by decide +kernel) ⟨(Nat.le_of_ble_eq_true rfl), (Nat.le_of_ble_eq_true rfl)⟩) rfl hl rfl (Nat.le_of_ble_eq_true rfl) dL_law_722 ⟨by dsimp only [room_1]; omega, by dsimp only [room_1]; omega⟩ (fun H locs hG hS => ?_)
  have hbc := (bestCn_P tk co cn one n).1
  have hbm := bestCn_more wk (k := one) (tk := tk) (co := co) hk3 b_714
  have hbt := (bestTk_P tk co cn one n).1
  have hbtm := bestTk_more wk (k := one) (tk := tk) (co := co) (cn := cn) hk1 hk3 b_714
  have bc1 := hk3 one
  have bt1 := hk1 one
  have htw := tw_le tk co cn wk 0 hn12
  have hsb : bestSw tk co cn wk n < 2 ^ 31 := by
    rcases bestSw_S tk co cn wk n with e9 | ⟨x, y, _, _, e9, _⟩ <;> omega
  refine lv_istore (lv' := [(19, .int (nI (bestCn tk co cn one n))), (18, .int (nI (one))), (0, .ref b), (1, .ref h), (2, .ref g), (3, .int (nI (t))), (4, .int (v)), (10, .int (nI (n))), (11, .int (nI (tw tk co cn wk 0 n))), (17, .int (iM (bestSw tk co cn wk n)))]) C0.1 C0.2.1 dL_law_725 hl (by decide) rfl (fun ls hl => ?_)
  refine lv_iload C0.1 C0.2.1 dL_law_727 (lv_at hl 6 rfl) ?_
  refine lv_iconst (v := nI 3) C0.1 C0.2.1 dL_law_729 (by decide) ?_
  refine lv_ishr C0.1 C0.2.1 dL_law_730 ?_
  refine tc_any (fun x730 => ?_)
  refine lv_iconst (v := nI 3) C0.1 C0.2.1 dL_law_731 (by decide) ?_
  refine tc_callS C0 hG hS (kL_below hlf  (x730) (3) (by omega) (by omega)) (va_cwS 2 C0.2.2.2.2 gL_law_L_below rfl rfl rfl (by decide +kernel) ⟨(Nat.le_of_ble_eq_true rfl), (Nat.le_of_ble_eq_true rfl)⟩) rfl hl rfl (Nat.le_of_ble_eq_true rfl) dL_law_732 ⟨by dsimp only [room_1]; omega, by dsimp only [room_1]; omega⟩ (fun H locs hG hS => ?_)
  have b_732 := (show blw x730 3 < 3 from blw_lt x730 (by omega))
  have cut_822 : ∀ (ls : Array Slot), lv_has ls 25 [(19, .int (nI (bestCn tk co cn one n))), (18, .int (nI (one))), (0, .ref b), (1, .ref h), (2, .ref g), (3, .int (nI (t))), (4, .int (v)), (10, .int (nI (n))), (11, .int (nI (tw tk co cn wk 0 n))), (17, .int (iM (bestSw tk co cn wk n)))] → ∀ (H : Heap) (locs : List Loc), tcG D cI cJ N0 (wB h r1 r2 r3 r4 cI tk co cn wk n ho st ct (nI sq) g ra rw cJ ho st ct (nI sq) n f ([])) s H → va_S (tcA N0) s.heap H locs → W p l e room_1 s m args below meth c H locs (0 + (40 + 4 * (t + 1))) (0 + (300 + 24 * (t + 1))) Q (F0 m 822 ls []) := by
    intro  ls hl H locs hG hS
    refine lv_iload C0.1 C0.2.1 dL_law_822 (lv_at hl 6 rfl) ?_
    refine lv_iconst (v := nI 4) C0.1 C0.2.1 dL_law_824 (by decide) ?_
    refine lv_ishr C0.1 C0.2.1 dL_law_825 ?_
    refine tc_any (fun x825 => ?_)
    refine lv_iconst (v := nI 3) C0.1 C0.2.1 dL_law_826 (by decide) ?_
    refine tc_callS C0 hG hS (kL_below hlf  (x825) (3) (by omega) (by omega)) (va_cwS 2 C0.2.2.2.2 gL_law_L_below rfl rfl rfl (by decide +kernel) ⟨(Nat.le_of_ble_eq_true rfl), (Nat.le_of_ble_eq_true rfl)⟩) rfl hl rfl (Nat.le_of_ble_eq_true rfl) dL_law_827 ⟨by dsimp only [room_1]; omega, by dsimp only [room_1]; omega⟩ (fun H locs hG hS => ?_)
    have b_827 := (show blw x825 3 < 3 from blw_lt x825 (by omega))
    have cut_912 : ∀ (ls : Array Slot), lv_has ls 25 [(19, .int (nI (bestCn tk co cn one n))), (18, .int (nI (one))), (0, .ref b), (1, .ref h), (2, .ref g), (3, .int (nI (t))), (4, .int (v)), (10, .int (nI (n))), (11, .int (nI (tw tk co cn wk 0 n))), (17, .int (iM (bestSw tk co cn wk n)))] → ∀ (H : Heap) (locs : List Loc), tcG D cI cJ N0 (wB h r1 r2 r3 r4 cI tk co cn wk n ho st ct (nI sq) g ra rw cJ ho st ct (nI sq) n f ([])) s H → va_S (tcA N0) s.heap H locs → W p l e room_1 s m args below meth c H locs (0 + (40 + 4 * (t + 1))) (0 + (300 + 24 * (t + 1))) Q (F0 m 912 ls []) := by
      intro  ls hl H locs hG hS
      refine lv_iload C0.1 C0.2.1 dL_law_912 (lv_at hl 9 rfl) ?_
      refine tmz_if_lt (tgt := 1008) C0.1 C0.2.1 dL_law_914 (by decide) (by omega) (fun c_914 => ?_) (fun c_914 => ?_)
      · exact cut_1008 (tk) (co) (cn) (st) (sq) (f) (one) hk hy (by omega) (by omega) ls (lv_sub hl [2, 3, 4, 5, 6, 7, 1] rfl) _ _ hG hS
      · obtain ⟨x, y, hxy, hyn, hL, hT⟩ := (bestSw_S tk co cn wk n).resolve_left (by omega)
        rw [hL, iM_s] at hl
        have btx := hk1 x
        have bty := hk1 y
        refine lv_aload_n C0.1 C0.2.1 dL_law_917 rfl (lv_at hl 3 rfl) ?_
        refine tc_callV (q0 := 0) C0 hG hS rfl rfl (kX0_store hlf hk   ) (cwV 0 C0.2.2.2.2 gL_law_X0_store rfl rfl rfl (by decide +kernel) ⟨(Nat.le_of_ble_eq_true rfl), (Nat.le_of_ble_eq_true rfl)⟩) rfl hl rfl (Nat.le_of_ble_eq_true rfl) dL_law_918 ⟨by dsimp only [room_1]; omega, by dsimp only [room_1]; omega⟩ (fun H locs hG hS => ?_)
        refine lv_bipush (v := nI 7) C0.1 C0.2.1 dL_law_921 (by decide) ?_
        refine tn_icmp_le (tgt := 1008) C0.1 C0.2.1 dL_law_923 (by decide) (by omega) (by omega) (fun c_923 => ?_) (fun c_923 => ?_)
        · exact cut_1008 (tk) (co) (cn) (st) (sq) (f) (one) hk hy (by omega) (by omega) ls (lv_sub hl [2, 3, 4, 5, 6, 7, 1] rfl) _ _ hG hS
        · refine lv_aload_n C0.1 C0.2.1 dL_law_926 rfl (lv_at hl 3 rfl) ?_
          refine lv_iload C0.1 C0.2.1 dL_law_927 (lv_at hl 9 rfl) ?_
          refine lv_bipush (v := nI 100) C0.1 C0.2.1 dL_law_929 (by decide) ?_
          refine tn_idiv C0.1 C0.2.1 dL_law_931 (by omega) (by decide) (by decide) ?_
          refine tc_top (y := nI x) (congrArg nI (by omega)) ?_
          refine lv_iload C0.1 C0.2.1 dL_law_932 (lv_at hl 9 rfl) ?_
          refine lv_bipush (v := nI 100) C0.1 C0.2.1 dL_law_934 (by decide) ?_
          refine tn_irem C0.1 C0.2.1 dL_law_936 (by omega) (by decide) (by decide) ?_
          refine tc_top (y := nI y) (congrArg nI (by omega)) ?_
          refine tc_callV (q0 := 0) C0 hG hS rfl rfl (kX0_swapTickets_in hlf hk  (x) (y) (by omega) (by omega) (by omega) (by omega)) (cwV 2 C0.2.2.2.2 gL_law_X0_swapTickets rfl rfl rfl (by decide +kernel) ⟨(Nat.le_of_ble_eq_true rfl), (Nat.le_of_ble_eq_true rfl)⟩) rfl hl rfl (Nat.le_of_ble_eq_true rfl) dL_law_937 ⟨by dsimp only [room_1]; omega, by dsimp only [room_1]; omega⟩ (fun H locs hG hS => ?_)
          have hG : tcG D cI cJ N0 (wB h r1 r2 r3 r4 cI (swp tk x y) co cn wk n ho (st - 8) ct ((nI sq) + nI 8) g ra rw cJ ho st ct (nI sq) n f ([])) s H := hG
          refine lv_istore (lv' := [(20, .int (nI (tw (swp tk x y) co cn wk 0 n) - nI (tw tk co cn wk 0 n))), (19, .int (nI (bestCn tk co cn one n))), (18, .int (nI (one))), (0, .ref b), (1, .ref h), (2, .ref g), (3, .int (nI (t))), (4, .int (v)), (10, .int (nI (n))), (11, .int (nI (tw tk co cn wk 0 n))), (17, .int (nI (100 * x + y)))]) C0.1 C0.2.1 dL_law_940 hl (by decide) rfl (fun ls hl => ?_)
          refine lv_aload_n C0.1 C0.2.1 dL_law_942 rfl (lv_at hl 5 rfl) ?_
          refine lv_bipush (v := nI 8) C0.1 C0.2.1 dL_law_943 (by decide) ?_
          refine tc_callVv (q0 := 5) C0 hG hS rfl rfl (kX1_pay hlf hk hy  (8) (by omega)) (cwV 1 C0.2.2.2.2 gL_law_X1_pay rfl rfl rfl (by decide +kernel) ⟨(Nat.le_of_ble_eq_true rfl), (Nat.le_of_ble_eq_true rfl)⟩) rfl hl rfl (Nat.le_of_ble_eq_true rfl) dL_law_945 ⟨by dsimp only [room_1]; omega, by dsimp only [room_1]; omega⟩ (fun H locs hG hS => ?_)
          have hG : tcG D cI cJ N0 (wB h r1 r2 r3 r4 cI (swp tk x y) co cn wk n ho (st - 8) ct ((nI sq) + nI 8) g ra rw cJ ho (st - 8) ct ((nI sq) + nI 8) n f ([])) s H := hG
          have hk_945 : tOk tk co cn wk n (st - 8) := hk.st (by have := hk.2.2.2.2.2; omega)
          refine lv_aload_n C0.1 C0.2.1 dL_law_948 rfl (lv_at hl 5 rfl) ?_
          refine lv_iload C0.1 C0.2.1 dL_law_949 (lv_at hl 10 rfl) ?_
          refine lv_bipush (v := nI 100) C0.1 C0.2.1 dL_law_951 (by decide) ?_
          refine tn_idiv C0.1 C0.2.1 dL_law_953 (by omega) (by decide) (by decide) ?_
          refine tc_top (y := nI x) (congrArg nI (by omega)) ?_
          refine tc_callV (q0 := 5) C0 hG hS rfl rfl (kX1_ticket hlf hk_945 hy  (x) (by omega)) (cwV 1 C0.2.2.2.2 gL_law_X1_ticket rfl rfl rfl (by decide +kernel) ⟨(Nat.le_of_ble_eq_true rfl), (Nat.le_of_ble_eq_true rfl)⟩) rfl hl rfl (Nat.le_of_ble_eq_true rfl) dL_law_954 ⟨by dsimp only [room_1]; omega, by dsimp only [room_1]; omega⟩ (fun H locs hG hS => ?_)
          refine lv_istore (lv' := [(21, .int (nI (tk x))), (20, .int (nI (tw (swp tk x y) co cn wk 0 n) - nI (tw tk co cn wk 0 n))), (19, .int (nI (bestCn tk co cn one n))), (18, .int (nI (one))), (0, .ref b), (1, .ref h), (2, .ref g), (3, .int (nI (t))), (4, .int (v)), (10, .int (nI (n))), (11, .int (nI (tw tk co cn wk 0 n))), (17, .int (nI (100 * x + y)))]) C0.1 C0.2.1 dL_law_957 hl (by decide) rfl (fun ls hl => ?_)
          refine lv_aload_n C0.1 C0.2.1 dL_law_959 rfl (lv_at hl 6 rfl) ?_
          refine lv_iload C0.1 C0.2.1 dL_law_960 (lv_at hl 11 rfl) ?_
          refine lv_bipush (v := nI 100) C0.1 C0.2.1 dL_law_962 (by decide) ?_
          refine tn_idiv C0.1 C0.2.1 dL_law_964 (by omega) (by decide) (by decide) ?_
          refine tc_top (y := nI x) (congrArg nI (by omega)) ?_
          refine lv_aload_n C0.1 C0.2.1 dL_law_965 rfl (lv_at hl 6 rfl) ?_
          refine lv_iload C0.1 C0.2.1 dL_law_966 (lv_at hl 11 rfl) ?_
          refine lv_bipush (v := nI 100) C0.1 C0.2.1 dL_law_968 (by decide) ?_
          refine tn_irem C0.1 C0.2.1 dL_law_970 (by omega) (by decide) (by decide) ?_
          refine tc_top (y := nI y) (congrArg nI (by omega)) ?_
          refine tc_callV (q0 := 5) C0 hG hS rfl rfl (kX1_ticket hlf hk_945 hy  (y) (by omega)) (cwV 1 C0.2.2.2.2 gL_law_X1_ticket rfl rfl rfl (by decide +kernel) ⟨(Nat.le_of_ble_eq_true rfl), (Nat.le_of_ble_eq_true rfl)⟩) rfl hl rfl (Nat.le_of_ble_eq_true rfl) dL_law_971 ⟨by dsimp only [room_1]; omega, by dsimp only [room_1]; omega⟩ (fun H locs hG hS => ?_)
          refine tc_callVv (q0 := 5) C0 hG hS rfl rfl (kX1_set hlf hk_945 hy  (x) (tk y) (by omega) (by omega)) (cwV 2 C0.2.2.2.2 gL_law_X1_set rfl rfl rfl (by decide +kernel) ⟨(Nat.le_of_ble_eq_true rfl), (Nat.le_of_ble_eq_true rfl)⟩) rfl hl rfl (Nat.le_of_ble_eq_true rfl) dL_law_974 ⟨by dsimp only [room_1]; omega, by dsimp only [room_1]; omega⟩ (fun H locs hG hS => ?_)
          have hG : tcG D cI cJ N0 (wB h r1 r2 r3 r4 cI (swp tk x y) co cn wk n ho (st - 8) ct ((nI sq) + nI 8) g ra rw cJ ho (st - 8) ct ((nI sq) + nI 8) n (upR (upR f x 0 ((tk y) / 10)) x 1 ((tk y) % 10)) ([])) s H := hG
          have hy_974 : tSy (va_up tk x (tk y)) co cn wk n (upR (upR f x 0 ((tk y) / 10)) x 1 ((tk y) % 10)) := tSy.set hy
          have hk_974 : tOk (va_up tk x (tk y)) co cn wk n (st - 8) := hk_945.tk (up_lt hk_945.1 (by omega) x)
          refine lv_aload_n C0.1 C0.2.1 dL_law_977 rfl (lv_at hl 6 rfl) ?_
          refine lv_iload C0.1 C0.2.1 dL_law_978 (lv_at hl 11 rfl) ?_
          refine lv_bipush (v := nI 100) C0.1 C0.2.1 dL_law_980 (by decide) ?_
          refine tn_irem C0.1 C0.2.1 dL_law_982 (by omega) (by decide) (by decide) ?_
          refine tc_top (y := nI y) (congrArg nI (by omega)) ?_
          refine lv_iload C0.1 C0.2.1 dL_law_983 (lv_at hl 0 rfl) ?_
          refine tc_callVv (q0 := 5) C0 hG hS rfl rfl (kX1_set hlf hk_974 hy_974  (y) (tk x) (by omega) (by omega)) (cwV 2 C0.2.2.2.2 gL_law_X1_set rfl rfl rfl (by decide +kernel) ⟨(Nat.le_of_ble_eq_true rfl), (Nat.le_of_ble_eq_true rfl)⟩) rfl hl rfl (Nat.le_of_ble_eq_true rfl) dL_law_985 ⟨by dsimp only [room_1]; omega, by dsimp only [room_1]; omega⟩ (fun H locs hG hS => ?_)
          have hG : tcG D cI cJ N0 (wB h r1 r2 r3 r4 cI (swp tk x y) co cn wk n ho (st - 8) ct ((nI sq) + nI 8) g ra rw cJ ho (st - 8) ct ((nI sq) + nI 8) n (upR (upR (upR (upR f x 0 ((tk y) / 10)) x 1 ((tk y) % 10)) y 0 ((tk x) / 10)) y 1 ((tk x) % 10)) ([])) s H := hG
          have hy_985 : tSy (va_up (va_up tk x (tk y)) y (tk x)) co cn wk n (upR (upR (upR (upR f x 0 ((tk y) / 10)) x 1 ((tk y) % 10)) y 0 ((tk x) / 10)) y 1 ((tk x) % 10)) := tSy.set hy_974
          have hk_985 : tOk (va_up (va_up tk x (tk y)) y (tk x)) co cn wk n (st - 8) := hk_974.tk (up_lt hk_974.1 (by omega) y)
          refine lv_iload C0.1 C0.2.1 dL_law_988 (lv_at hl 1 rfl) ?_
          refine lv_iconst (v := nI 1) C0.1 C0.2.1 dL_law_990 (by decide) ?_
          refine lv_icmp_lt (tgt := 1006) C0.1 C0.2.1 dL_law_991 (by decide) (fun c_991 => ?_) (fun c_991 => ?_)
          · exact absurd c_991 (more_1 hT (by have := tw_le (swp tk x y) co cn wk 0 hn12; omega))
          · have htw2 := tw_le (swp tk x y) co cn wk 0 hn12
            refine lv_aload_n C0.1 C0.2.1 dL_law_994 rfl (lv_at hl 5 rfl) ?_
            refine tc_callV (q0 := 0) C0 hG hS rfl rfl (kX0_coincidences hlf hk_985   ) (cwV 0 C0.2.2.2.2 gL_law_X0_coincidences rfl rfl rfl (by decide +kernel) ⟨(Nat.le_of_ble_eq_true rfl), (Nat.le_of_ble_eq_true rfl)⟩) rfl hl rfl (Nat.le_of_ble_eq_true rfl) dL_law_995 ⟨by dsimp only [room_1]; omega, by dsimp only [room_1]; omega⟩ (fun H locs hG hS => ?_)
            have b_995 := tw_le (swp tk x y) co cn wk 0 hk_985.2.2.2.2.1
            refine lv_iload C0.1 C0.2.1 dL_law_998 (lv_at hl 10 rfl) ?_
            refine lv_iload C0.1 C0.2.1 dL_law_1000 (lv_at hl 1 rfl) ?_
            refine lv_iadd C0.1 C0.2.1 dL_law_1002 ?_
            refine lv_icmp_eq (tgt := 1008) C0.1 C0.2.1 dL_law_1003 (by decide) (fun c_1003 => ?_) (fun c_1003 => ?_)
            · rw [show nI sq + nI (8) = nI (sq + (8)) from nI_add sq (8)] at hG
              have hG : tcG D cI cJ N0 (wB h r1 r2 r3 r4 cI (swp tk x y) co cn wk n ho (st - 8) ct (nI (sq + (8))) g ra rw cJ ho (st - 8) ct (nI (sq + (8))) n (upR (upR (upR (upR f x 0 ((tk y) / 10)) x 1 ((tk y) % 10)) y 0 ((tk x) / 10)) y 1 ((tk x) % 10)) ([])) s H := hG
              exact cut_1008 (swp tk x y) (co) (cn) (st - 8) (sq + (8)) (upR (upR (upR (upR f x 0 ((tk y) / 10)) x 1 ((tk y) % 10)) y 0 ((tk x) / 10)) y 1 ((tk x) % 10)) (one) hk_985 hy_985 (by omega) (by omega) ls (lv_sub hl [4, 5, 6, 7, 8, 9, 3] rfl) _ _ hG hS
            · exact absurd sub_back c_1003
    refine tn_if_ne (tgt := 912) C0.1 C0.2.1 dL_law_830 (by decide) (by omega) (fun c_830 => ?_) (fun c_830 => ?_)
    · exact cut_912   ls (lv_sub hl [0, 1, 2, 3, 4, 5, 6, 7, 8, 9] rfl) _ _ hG hS
    · refine lv_aload_n C0.1 C0.2.1 dL_law_833 rfl (lv_at hl 3 rfl) ?_
      refine tc_callV (q0 := 0) C0 hG hS rfl rfl (kX0_store hlf hk   ) (cwV 0 C0.2.2.2.2 gL_law_X0_store rfl rfl rfl (by decide +kernel) ⟨(Nat.le_of_ble_eq_true rfl), (Nat.le_of_ble_eq_true rfl)⟩) rfl hl rfl (Nat.le_of_ble_eq_true rfl) dL_law_834 ⟨by dsimp only [room_1]; omega, by dsimp only [room_1]; omega⟩ (fun H locs hG hS => ?_)
      refine lv_bipush (v := nI 11) C0.1 C0.2.1 dL_law_837 (by decide) ?_
      refine tn_icmp_le (tgt := 912) C0.1 C0.2.1 dL_law_839 (by decide) (by omega) (by omega) (fun c_839 => ?_) (fun c_839 => ?_)
      · exact cut_912   ls (lv_sub hl [0, 1, 2, 3, 4, 5, 6, 7, 8, 9] rfl) _ _ hG hS
      · refine lv_aload_n C0.1 C0.2.1 dL_law_842 rfl (lv_at hl 3 rfl) ?_
        refine lv_iload C0.1 C0.2.1 dL_law_843 (lv_at hl 1 rfl) ?_
        refine tc_callV (q0 := 0) C0 hG hS rfl rfl (kX0_bestTicket_in hlf hk  (one) (by omega)) (cwV 1 C0.2.2.2.2 gL_law_X0_bestTicket rfl rfl rfl (by decide +kernel) ⟨(Nat.le_of_ble_eq_true rfl), (Nat.le_of_ble_eq_true rfl)⟩) rfl hl rfl (Nat.le_of_ble_eq_true rfl) dL_law_845 ⟨by dsimp only [room_1]; omega, by dsimp only [room_1]; omega⟩ (fun H locs hG hS => ?_)
        refine lv_istore (lv' := [(20, .int (nI (bestTk tk co cn one n))), (19, .int (nI (bestCn tk co cn one n))), (18, .int (nI (one))), (0, .ref b), (1, .ref h), (2, .ref g), (3, .int (nI (t))), (4, .int (v)), (10, .int (nI (n))), (11, .int (nI (tw tk co cn wk 0 n))), (17, .int (iM (bestSw tk co cn wk n)))]) C0.1 C0.2.1 dL_law_848 hl (by decide) rfl (fun ls hl => ?_)
        refine lv_aload_n C0.1 C0.2.1 dL_law_850 rfl (lv_at hl 4 rfl) ?_
        refine lv_iload C0.1 C0.2.1 dL_law_851 (lv_at hl 2 rfl) ?_
        refine lv_iload C0.1 C0.2.1 dL_law_853 (lv_at hl 0 rfl) ?_
        refine tc_callV (q0 := 0) C0 hG hS rfl rfl (kX0_draw_in hlf hk  (one) (bestTk tk co cn one n) (by omega) (by omega) (by omega)) (cwV 2 C0.2.2.2.2 gL_law_X0_draw rfl rfl rfl (by decide +kernel) ⟨(Nat.le_of_ble_eq_true rfl), (Nat.le_of_ble_eq_true rfl)⟩) rfl hl rfl (Nat.le_of_ble_eq_true rfl) dL_law_855 ⟨by dsimp only [room_1]; omega, by dsimp only [room_1]; omega⟩ (fun H locs hG hS => ?_)
        have hG : tcG D cI cJ N0 (wB h r1 r2 r3 r4 cI (va_up tk one (bestTk tk co cn one n)) co cn wk n ho (st - 12) ct ((nI sq) + nI 12) g ra rw cJ ho st ct (nI sq) n f ([])) s H := hG
        refine lv_istore (lv' := [(21, .int (nI (tk one))), (20, .int (nI (bestTk tk co cn one n))), (19, .int (nI (bestCn tk co cn one n))), (18, .int (nI (one))), (0, .ref b), (1, .ref h), (2, .ref g), (3, .int (nI (t))), (4, .int (v)), (10, .int (nI (n))), (11, .int (nI (tw tk co cn wk 0 n))), (17, .int (iM (bestSw tk co cn wk n)))]) C0.1 C0.2.1 dL_law_858 hl (by decide) rfl (fun ls hl => ?_)
        refine lv_iload C0.1 C0.2.1 dL_law_860 (lv_at hl 0 rfl) ?_
        refine lv_aload_n C0.1 C0.2.1 dL_law_862 rfl (lv_at hl 6 rfl) ?_
        refine lv_iload C0.1 C0.2.1 dL_law_863 (lv_at hl 3 rfl) ?_
        refine tc_callV (q0 := 5) C0 hG hS rfl rfl (kX1_ticket hlf hk hy  (one) (by omega)) (cwV 1 C0.2.2.2.2 gL_law_X1_ticket rfl rfl rfl (by decide +kernel) ⟨(Nat.le_of_ble_eq_true rfl), (Nat.le_of_ble_eq_true rfl)⟩) rfl hl rfl (Nat.le_of_ble_eq_true rfl) dL_law_865 ⟨by dsimp only [room_1]; omega, by dsimp only [room_1]; omega⟩ (fun H locs hG hS => ?_)
        refine tn_icmp_eq (tgt := 873) C0.1 C0.2.1 dL_law_868 (by decide) (by omega) (by omega) (fun c_868 => ?_) (fun c_868 => ?_)
        · refine lv_aload_n C0.1 C0.2.1 dL_law_873 rfl (lv_at hl 6 rfl) ?_
          refine lv_bipush (v := nI 12) C0.1 C0.2.1 dL_law_874 (by decide) ?_
          refine tc_callVv (q0 := 5) C0 hG hS rfl rfl (kX1_pay hlf hk hy  (12) (by omega)) (cwV 1 C0.2.2.2.2 gL_law_X1_pay rfl rfl rfl (by decide +kernel) ⟨(Nat.le_of_ble_eq_true rfl), (Nat.le_of_ble_eq_true rfl)⟩) rfl hl rfl (Nat.le_of_ble_eq_true rfl) dL_law_876 ⟨by dsimp only [room_1]; omega, by dsimp only [room_1]; omega⟩ (fun H locs hG hS => ?_)
          have hG : tcG D cI cJ N0 (wB h r1 r2 r3 r4 cI (va_up tk one (bestTk tk co cn one n)) co cn wk n ho (st - 12) ct ((nI sq) + nI 12) g ra rw cJ ho (st - 12) ct ((nI sq) + nI 12) n f ([])) s H := hG
          have hk_876 : tOk tk co cn wk n (st - 12) := hk.st (by have := hk.2.2.2.2.2; omega)
          refine lv_aload_n C0.1 C0.2.1 dL_law_879 rfl (lv_at hl 6 rfl) ?_
          refine lv_iload C0.1 C0.2.1 dL_law_880 (lv_at hl 3 rfl) ?_
          refine lv_iload C0.1 C0.2.1 dL_law_882 (lv_at hl 1 rfl) ?_
          refine tc_callVv (q0 := 5) C0 hG hS rfl rfl (kX1_set hlf hk_876 hy  (one) (bestTk tk co cn one n) (by omega) (by omega)) (cwV 2 C0.2.2.2.2 gL_law_X1_set rfl rfl rfl (by decide +kernel) ⟨(Nat.le_of_ble_eq_true rfl), (Nat.le_of_ble_eq_true rfl)⟩) rfl hl rfl (Nat.le_of_ble_eq_true rfl) dL_law_884 ⟨by dsimp only [room_1]; omega, by dsimp only [room_1]; omega⟩ (fun H locs hG hS => ?_)
          have hG : tcG D cI cJ N0 (wB h r1 r2 r3 r4 cI (va_up tk one (bestTk tk co cn one n)) co cn wk n ho (st - 12) ct ((nI sq) + nI 12) g ra rw cJ ho (st - 12) ct ((nI sq) + nI 12) n (upR (upR f one 0 ((bestTk tk co cn one n) / 10)) one 1 ((bestTk tk co cn one n) % 10)) ([])) s H := hG
          have hy_884 : tSy (va_up tk one (bestTk tk co cn one n)) co cn wk n (upR (upR f one 0 ((bestTk tk co cn one n) / 10)) one 1 ((bestTk tk co cn one n) % 10)) := tSy.set hy
          have hk_884 : tOk (va_up tk one (bestTk tk co cn one n)) co cn wk n (st - 12) := hk_876.tk (up_lt hk_876.1 (by omega) one)
          have hbb := bestTk_again (tk := tk) (co := co) (cn := cn) (k := one) (n := n) (x := bestTk tk co cn one n)
          have htw2 := tw_le (va_up tk one (bestTk tk co cn one n)) co cn wk 0 hn12
          refine lv_aload_n C0.1 C0.2.1 dL_law_887 rfl (lv_at hl 5 rfl) ?_
          refine tc_callV (q0 := 0) C0 hG hS rfl rfl (kX0_coincidences hlf hk_884   ) (cwV 0 C0.2.2.2.2 gL_law_X0_coincidences rfl rfl rfl (by decide +kernel) ⟨(Nat.le_of_ble_eq_true rfl), (Nat.le_of_ble_eq_true rfl)⟩) rfl hl rfl (Nat.le_of_ble_eq_true rfl) dL_law_888 ⟨by dsimp only [room_1]; omega, by dsimp only [room_1]; omega⟩ (fun H locs hG hS => ?_)
          have b_888 := tw_le (va_up tk one (bestTk tk co cn one n)) co cn wk 0 hk_884.2.2.2.2.1
          refine lv_iload C0.1 C0.2.1 dL_law_891 (lv_at hl 10 rfl) ?_
          refine tn_icmp_lt (tgt := 907) C0.1 C0.2.1 dL_law_893 (by decide) (by omega) (by omega) (fun c_893 => ?_) (fun c_893 => ?_)
          · exact absurd c_893 (by omega)
          · refine lv_aload_n C0.1 C0.2.1 dL_law_896 rfl (lv_at hl 5 rfl) ?_
            refine lv_iload C0.1 C0.2.1 dL_law_897 (lv_at hl 3 rfl) ?_
            refine tc_callV (q0 := 0) C0 hG hS rfl rfl (kX0_bestTicket_in hlf hk_884  (one) (by omega)) (cwV 1 C0.2.2.2.2 gL_law_X0_bestTicket rfl rfl rfl (by decide +kernel) ⟨(Nat.le_of_ble_eq_true rfl), (Nat.le_of_ble_eq_true rfl)⟩) rfl hl rfl (Nat.le_of_ble_eq_true rfl) dL_law_899 ⟨by dsimp only [room_1]; omega, by dsimp only [room_1]; omega⟩ (fun H locs hG hS => ?_)
            refine lv_iload C0.1 C0.2.1 dL_law_902 (lv_at hl 1 rfl) ?_
            refine tn_icmp_eq (tgt := 909) C0.1 C0.2.1 dL_law_904 (by decide) (by omega) (by omega) (fun c_904 => ?_) (fun c_904 => ?_)
            · refine lv_goto (tgt := 1008) C0.1 C0.2.1 dL_law_909 (by decide) ?_
              rw [show nI sq + nI (12) = nI (sq + (12)) from nI_add sq (12)] at hG
              have hG : tcG D cI cJ N0 (wB h r1 r2 r3 r4 cI (va_up tk one (bestTk tk co cn one n)) co cn wk n ho (st - 12) ct (nI (sq + (12))) g ra rw cJ ho (st - 12) ct (nI (sq + (12))) n (upR (upR f one 0 ((bestTk tk co cn one n) / 10)) one 1 ((bestTk tk co cn one n) % 10)) ([])) s H := hG
              exact cut_1008 (va_up tk one (bestTk tk co cn one n)) (co) (cn) (st - 12) (sq + (12)) (upR (upR f one 0 ((bestTk tk co cn one n) / 10)) one 1 ((bestTk tk co cn one n) % 10)) (one) hk_884 hy_884 (by omega) (by omega) ls (lv_sub hl [4, 5, 6, 7, 8, 9, 3] rfl) _ _ hG hS
            · exact absurd bestTk_again c_904
        · exact absurd rfl c_868
  refine tn_if_ne (tgt := 822) C0.1 C0.2.1 dL_law_735 (by decide) (by omega) (fun c_735 => ?_) (fun c_735 => ?_)
  · exact cut_822   ls (lv_sub hl [0, 1, 2, 3, 4, 5, 6, 7, 8, 9] rfl) _ _ hG hS
  · refine lv_aload_n C0.1 C0.2.1 dL_law_738 rfl (lv_at hl 3 rfl) ?_
    refine lv_iload C0.1 C0.2.1 dL_law_739 (lv_at hl 1 rfl) ?_
    refine tc_callV (q0 := 0) C0 hG hS rfl rfl (kX0_cornerOf_in hlf hk  (one) (by omega)) (cwV 1 C0.2.2.2.2 gL_law_X0_cornerOf rfl rfl rfl (by decide +kernel) ⟨(Nat.le_of_ble_eq_true rfl), (Nat.le_of_ble_eq_true rfl)⟩) rfl hl rfl (Nat.le_of_ble_eq_true rfl) dL_law_741 ⟨by dsimp only [room_1]; omega, by dsimp only [room_1]; omega⟩ (fun H locs hG hS => ?_)
    refine lv_iload C0.1 C0.2.1 dL_law_744 (lv_at hl 0 rfl) ?_
    refine tn_icmp_eq (tgt := 822) C0.1 C0.2.1 dL_law_746 (by decide) (by omega) (by omega) (fun c_746 => ?_) (fun c_746 => ?_)
    · exact cut_822   ls (lv_sub hl [0, 1, 2, 3, 4, 5, 6, 7, 8, 9] rfl) _ _ hG hS
    · refine lv_aload_n C0.1 C0.2.1 dL_law_749 rfl (lv_at hl 3 rfl) ?_
      refine tc_callV (q0 := 0) C0 hG hS rfl rfl (kX0_store hlf hk   ) (cwV 0 C0.2.2.2.2 gL_law_X0_store rfl rfl rfl (by decide +kernel) ⟨(Nat.le_of_ble_eq_true rfl), (Nat.le_of_ble_eq_true rfl)⟩) rfl hl rfl (Nat.le_of_ble_eq_true rfl) dL_law_750 ⟨by dsimp only [room_1]; omega, by dsimp only [room_1]; omega⟩ (fun H locs hG hS => ?_)
      refine lv_iconst (v := nI 5) C0.1 C0.2.1 dL_law_753 (by decide) ?_
      refine tn_icmp_le (tgt := 822) C0.1 C0.2.1 dL_law_754 (by decide) (by omega) (by omega) (fun c_754 => ?_) (fun c_754 => ?_)
      · exact cut_822   ls (lv_sub hl [0, 1, 2, 3, 4, 5, 6, 7, 8, 9] rfl) _ _ hG hS
      · have hw6 := way_le (cn one) (bestCn tk co cn one n) bc1 hbc
        have hw2 := way_2 bc1 hbc c_746
        refine lv_aload_n C0.1 C0.2.1 dL_law_757 rfl (lv_at hl 3 rfl) ?_
        refine lv_iload C0.1 C0.2.1 dL_law_758 (lv_at hl 1 rfl) ?_
        refine lv_iload C0.1 C0.2.1 dL_law_760 (lv_at hl 0 rfl) ?_
        refine tc_callV (q0 := 0) C0 hG hS rfl rfl (kX0_move_in hlf hk  (one) (bestCn tk co cn one n) (by omega) (by omega) (by omega) (by omega)) (cwV 2 C0.2.2.2.2 gL_law_X0_move rfl rfl rfl (by decide +kernel) ⟨(Nat.le_of_ble_eq_true rfl), (Nat.le_of_ble_eq_true rfl)⟩) rfl hl rfl (Nat.le_of_ble_eq_true rfl) dL_law_762 ⟨by dsimp only [room_1]; omega, by dsimp only [room_1]; omega⟩ (fun H locs hG hS => ?_)
        have hG : tcG D cI cJ N0 (wB h r1 r2 r3 r4 cI tk co (va_up cn one (bestCn tk co cn one n)) wk n ho (st - way (cn one) (bestCn tk co cn one n)) ct ((nI sq) + nI (way (cn one) (bestCn tk co cn one n))) g ra rw cJ ho st ct (nI sq) n f ([])) s H := hG
        have b_762 := way_le (cn one) (bestCn tk co cn one n) (hk.2.2.1 one) (by omega)
        refine lv_istore (lv' := [(20, .int (nI (way (cn one) (bestCn tk co cn one n)))), (19, .int (nI (bestCn tk co cn one n))), (18, .int (nI (one))), (0, .ref b), (1, .ref h), (2, .ref g), (3, .int (nI (t))), (4, .int (v)), (10, .int (nI (n))), (11, .int (nI (tw tk co cn wk 0 n))), (17, .int (iM (bestSw tk co cn wk n)))]) C0.1 C0.2.1 dL_law_765 hl (by decide) rfl (fun ls hl => ?_)
        refine lv_aload_n C0.1 C0.2.1 dL_law_767 rfl (lv_at hl 5 rfl) ?_
        refine lv_iload C0.1 C0.2.1 dL_law_768 (lv_at hl 0 rfl) ?_
        refine tc_callVv (q0 := 5) C0 hG hS rfl rfl (kX1_pay hlf hk hy  (way (cn one) (bestCn tk co cn one n)) (by omega)) (cwV 1 C0.2.2.2.2 gL_law_X1_pay rfl rfl rfl (by decide +kernel) ⟨(Nat.le_of_ble_eq_true rfl), (Nat.le_of_ble_eq_true rfl)⟩) rfl hl rfl (Nat.le_of_ble_eq_true rfl) dL_law_770 ⟨by dsimp only [room_1]; omega, by dsimp only [room_1]; omega⟩ (fun H locs hG hS => ?_)
        have hG : tcG D cI cJ N0 (wB h r1 r2 r3 r4 cI tk co (va_up cn one (bestCn tk co cn one n)) wk n ho (st - way (cn one) (bestCn tk co cn one n)) ct ((nI sq) + nI (way (cn one) (bestCn tk co cn one n))) g ra rw cJ ho (st - (way (cn one) (bestCn tk co cn one n))) ct ((nI sq) + nI (way (cn one) (bestCn tk co cn one n))) n f ([])) s H := hG
        have hk_770 : tOk tk co cn wk n (st - (way (cn one) (bestCn tk co cn one n))) := hk.st (by have := hk.2.2.2.2.2; omega)
        refine lv_aload_n C0.1 C0.2.1 dL_law_773 rfl (lv_at hl 5 rfl) ?_
        refine tgX1_all C0 hF hG w_all dL_law_774 ?_
        refine lv_iload C0.1 C0.2.1 dL_law_777 (lv_at hl 2 rfl) ?_
        refine ts_aald (k := one) C0 hG (by omega) (by omega) dL_law_779 ?_
        refine lv_iconst (v := nI 3) C0.1 C0.2.1 dL_law_780 (by decide) ?_
        refine lv_iload C0.1 C0.2.1 dL_law_781 (lv_at hl 1 rfl) ?_
        refine ts_ast (k := one) (j := 3) (x := bestCn tk co cn one n) C0 hG0 hG hS (by omega) (by decide) dL_law_783 (fun H locs hG hS => ?_)
        have hG : tcG D cI cJ N0 (wB h r1 r2 r3 r4 cI tk co (va_up cn one (bestCn tk co cn one n)) wk n ho (st - way (cn one) (bestCn tk co cn one n)) ct ((nI sq) + nI (way (cn one) (bestCn tk co cn one n))) g ra rw cJ ho (st - (way (cn one) (bestCn tk co cn one n))) ct ((nI sq) + nI (way (cn one) (bestCn tk co cn one n))) n (upR f one 3 (bestCn tk co cn one n)) ([])) s H := hG
        have hy_783 := tSy.c3 (k := one) (x := bestCn tk co cn one n) hy
        have hk_783 := hk_770.cn (up_lt (x := bestCn tk co cn one n) hk_770.2.2.1 (by omega) (one))
        refine lv_iload C0.1 C0.2.1 dL_law_784 (lv_at hl 0 rfl) ?_
        refine lv_iconst (v := nI 2) C0.1 C0.2.1 dL_law_786 (by decide) ?_
        refine tn_icmp_lt (tgt := 817) C0.1 C0.2.1 dL_law_787 (by decide) (by omega) (by omega) (fun c_787 => ?_) (fun c_787 => ?_)
        · exact absurd c_787 (by omega)
        · refine lv_iload C0.1 C0.2.1 dL_law_790 (lv_at hl 0 rfl) ?_
          refine lv_bipush (v := nI 6) C0.1 C0.2.1 dL_law_792 (by decide) ?_
          refine tn_icmp_gt (tgt := 817) C0.1 C0.2.1 dL_law_794 (by decide) (by omega) (by omega) (fun c_794 => ?_) (fun c_794 => ?_)
          · exact absurd c_794 (by omega)
          · have hba := bestCn_again (tk := tk) (co := co) (cn := cn) (k := one) (n := n) (x := bestCn tk co cn one n)
            have htw2 := tw_le tk co (va_up cn one (bestCn tk co cn one n)) wk 0 hn12
            refine lv_aload_n C0.1 C0.2.1 dL_law_797 rfl (lv_at hl 4 rfl) ?_
            refine tc_callV (q0 := 0) C0 hG hS rfl rfl (kX0_coincidences hlf hk_783   ) (cwV 0 C0.2.2.2.2 gL_law_X0_coincidences rfl rfl rfl (by decide +kernel) ⟨(Nat.le_of_ble_eq_true rfl), (Nat.le_of_ble_eq_true rfl)⟩) rfl hl rfl (Nat.le_of_ble_eq_true rfl) dL_law_798 ⟨by dsimp only [room_1]; omega, by dsimp only [room_1]; omega⟩ (fun H locs hG hS => ?_)
            have b_798 := tw_le tk co (va_up cn one (bestCn tk co cn one n)) wk 0 hk_783.2.2.2.2.1
            refine lv_iload C0.1 C0.2.1 dL_law_801 (lv_at hl 9 rfl) ?_
            refine tn_icmp_lt (tgt := 817) C0.1 C0.2.1 dL_law_803 (by decide) (by omega) (by omega) (fun c_803 => ?_) (fun c_803 => ?_)
            · exact absurd c_803 (by omega)
            · refine lv_aload_n C0.1 C0.2.1 dL_law_806 rfl (lv_at hl 4 rfl) ?_
              refine lv_iload C0.1 C0.2.1 dL_law_807 (lv_at hl 2 rfl) ?_
              refine tc_callV (q0 := 0) C0 hG hS rfl rfl (kX0_bestCorner_in hlf hk_783  (one) (by omega)) (cwV 1 C0.2.2.2.2 gL_law_X0_bestCorner rfl rfl rfl (by decide +kernel) ⟨(Nat.le_of_ble_eq_true rfl), (Nat.le_of_ble_eq_true rfl)⟩) rfl hl rfl (Nat.le_of_ble_eq_true rfl) dL_law_809 ⟨by dsimp only [room_1]; omega, by dsimp only [room_1]; omega⟩ (fun H locs hG hS => ?_)
              refine lv_iload C0.1 C0.2.1 dL_law_812 (lv_at hl 1 rfl) ?_
              refine tn_icmp_eq (tgt := 819) C0.1 C0.2.1 dL_law_814 (by decide) (by omega) (by omega) (fun c_814 => ?_) (fun c_814 => ?_)
              · refine lv_goto (tgt := 1008) C0.1 C0.2.1 dL_law_819 (by decide) ?_
                rw [show nI sq + nI (way (cn one) (bestCn tk co cn one n)) = nI (sq + (way (cn one) (bestCn tk co cn one n))) from nI_add sq (way (cn one) (bestCn tk co cn one n))] at hG
                have hG : tcG D cI cJ N0 (wB h r1 r2 r3 r4 cI tk co (va_up cn one (bestCn tk co cn one n)) wk n ho (st - way (cn one) (bestCn tk co cn one n)) ct (nI (sq + (way (cn one) (bestCn tk co cn one n)))) g ra rw cJ ho (st - (way (cn one) (bestCn tk co cn one n))) ct (nI (sq + (way (cn one) (bestCn tk co cn one n)))) n (upR f one 3 (bestCn tk co cn one n)) ([])) s H := hG
                exact cut_1008 (tk) (co) (va_up cn one (bestCn tk co cn one n)) (st - way (cn one) (bestCn tk co cn one n)) (sq + (way (cn one) (bestCn tk co cn one n))) (upR f one 3 (bestCn tk co cn one n)) (one) hk_783 hy_783 (by omega) (by omega) ls (lv_sub hl [3, 4, 5, 6, 7, 8, 2] rfl) _ _ hG hS
              · exact absurd bestCn_again c_814
