/-! the law from 1008 -/
set_option maxHeartbeats 4000000 in
set_option maxRecDepth 100000 in
theorem law_1008 {p : Program} {l : Launch} {e : Env} {s : State} {m : MethodId} {args : Array Value} {below : List Frame} {meth : Method} {c : Code} {Q : State → Prop} (hlf : l.stackTraces = false) (C0 : CallFix p m c cL_law 25 s args wsL_law RL) {D : va_G} {cI cJ : ClassId} {N0 : Nat} (hG0 : tcG D cI cJ N0 [] s s.heap) {b h r1 r2 r3 r4 g : Nat} {tk co cn wk : Nat → Nat} {n st : Nat} {ho ct : Int32} {sq ra : Nat} {rw : Nat → Nat} {f : Nat → Nat → Nat} (hk : tOk tk co cn wk n st) (hy : tSy tk co cn wk n f) (hn0 : 0 < n) (hsq : sq ≤ 1000) {t : Nat} (ht9 : t < 9) {v : Int32} {one : Nat} (ho1 : one < n) {ls : Array Slot} (hl : lv_has ls 25 [(0, .ref b), (1, .ref h), (2, .ref g), (3, .int (nI (t))), (4, .int (v)), (10, .int (nI (n))), (18, .int (nI (one)))]) {H : Heap} {locs : List Loc} (hG : tcG D cI cJ N0 (wB h r1 r2 r3 r4 cI tk co cn wk n ho st ct (nI sq) g ra rw cJ ho st ct (nI sq) n f ([])) s H) (hS : va_S (tcA N0) s.heap H locs) (cut_22 : ∀ (cx : Nat → Nat) (hx : Int32) (sx : Nat) (cy : Int32) (fx : Nat → Nat → Nat) (hkx : tOk tk co cx wk n sx) (hyx : tSy tk co cx wk n fx), ∀ (ls : Array Slot), lv_has ls 25 [(0, .ref b), (1, .ref h), (2, .ref g), (3, .int (nI (t + 1)))] → ∀ (H : Heap) (locs : List Loc), tcG D cI cJ N0 (wB h r1 r2 r3 r4 cI tk co cx wk n hx sx cy (nI sq) g ra rw cJ hx sx cy (nI sq) n fx ([])) s H → va_S (tcA N0) s.heap H locs → W p l e room_1 s m args below meth c H locs (0 + (40 + 4 * (t + 1))) (0 + (300 + 24 * (t + 1))) Q (F0 m 22 ls [])) : W p l e room_1 s m args below meth c H locs (0 + (40 + 4 * (t + 1))) (0 + (300 + 24 * (t + 1))) Q (F0 m 1008 ls []) := by
  obtain ⟨hk1, hk2, hk3, hk4, hn12, hst⟩ := id hk
  refine lv_iload C0.1 C0.2.1 dL_law_1008 (lv_at hl 5 rfl) ?_
  refine lv_iconst (v := nI 1) C0.1 C0.2.1 dL_law_1010 (by decide) ?_
  have cut_1039 : ∀ (b2 : Nat) (hb2 : b2 < n), ∀ (ls : Array Slot), lv_has ls 25 [(0, .ref b), (1, .ref h), (2, .ref g), (3, .int (nI (t))), (4, .int (v)), (10, .int (nI (n))), (18, .int (nI (one)))] → ∀ (H : Heap) (locs : List Loc), tcG D cI cJ N0 (wB h r1 r2 r3 r4 cI tk co cn wk n ho st ct (nI sq) g ra rw cJ ho st ct (nI sq) n f ([])) s H → va_S (tcA N0) s.heap H locs → W p l e room_1 s m args below meth c H locs (0 + (40 + 4 * (t + 1))) (0 + (300 + 24 * (t + 1))) Q (F0 m 1039 ls [.int (nI (b2))]) := by
    intro b2 hb2 ls hl H locs hG hS
    refine lv_istore (lv' := [(20, .int (nI (b2))), (0, .ref b), (1, .ref h), (2, .ref g), (3, .int (nI (t))), (4, .int (v)), (10, .int (nI (n))), (18, .int (nI (one)))]) C0.1 C0.2.1 dL_law_1039 hl (by decide) rfl (fun ls hl => ?_)
    refine lv_iload C0.1 C0.2.1 dL_law_1041 (lv_at hl 0 rfl) ?_
    have cut_1060 : ∀ (u : Nat) (hu : one ≠ b2 → u = meet cn wk one b2) (hu6 : u ≤ 6), ∀ (ls : Array Slot), lv_has ls 25 [(20, .int (nI (b2))), (0, .ref b), (1, .ref h), (2, .ref g), (3, .int (nI (t))), (4, .int (v)), (10, .int (nI (n))), (18, .int (nI (one)))] → ∀ (H : Heap) (locs : List Loc), tcG D cI cJ N0 (wB h r1 r2 r3 r4 cI tk co cn wk n ho st ct (nI sq) g ra rw cJ ho st ct (nI sq) n f ([])) s H → va_S (tcA N0) s.heap H locs → W p l e room_1 s m args below meth c H locs (0 + (40 + 4 * (t + 1))) (0 + (300 + 24 * (t + 1))) Q (F0 m 1060 ls [.int (iM (u))]) := by
      intro u hu hu6 ls hl H locs hG hS
      refine lv_istore (lv' := [(21, .int (iM (u))), (20, .int (nI (b2))), (0, .ref b), (1, .ref h), (2, .ref g), (3, .int (nI (t))), (4, .int (v)), (10, .int (nI (n))), (18, .int (nI (one)))]) C0.1 C0.2.1 dL_law_1060 hl (by decide) rfl (fun ls hl => ?_)
      refine lv_iconst (v := nI 1) C0.1 C0.2.1 dL_law_1062 (by decide) ?_
      refine lv_istore (lv' := [(22, .int (nI (1))), (21, .int (iM (u))), (20, .int (nI (b2))), (0, .ref b), (1, .ref h), (2, .ref g), (3, .int (nI (t))), (4, .int (v)), (10, .int (nI (n))), (18, .int (nI (one)))]) C0.1 C0.2.1 dL_law_1063 hl (by decide) rfl (fun ls hl => ?_)
      have cut_1065 : ∀ (kf : Nat) (i : Nat) (cx : Nat → Nat) (hx : Int32) (sx : Nat) (cy : Int32) (fx : Nat → Nat → Nat) (hi1 : 1 ≤ i) (hi7 : i ≤ 7) (hkx : tOk tk co cx wk n sx) (hyx : tSy tk co cx wk n fx) (hcx : ∀ j, j < n → cx j = cnr cn wk (i - 1) j) (hm : 7 + 1 ≤ i + kf), ∀ (ls : Array Slot), lv_has ls 25 [(22, .int (nI (i))), (21, .int (iM (u))), (20, .int (nI (b2))), (0, .ref b), (1, .ref h), (2, .ref g), (3, .int (nI (t))), (4, .int (v)), (10, .int (nI (n))), (18, .int (nI (one)))] → ∀ (H : Heap) (locs : List Loc), tcG D cI cJ N0 (wB h r1 r2 r3 r4 cI tk co cx wk n hx sx cy (nI sq) g ra rw cJ hx sx cy (nI sq) n fx ([])) s H → va_S (tcA N0) s.heap H locs → W p l e room_1 s m args below meth c H locs (0 + (40 + 4 * (t + 1))) (0 + (300 + 24 * (t + 1))) Q (F0 m 1065 ls []) := by
        intro kf
        induction kf with
        | zero => intro i cx hx sx cy fx hi1 hi7 hkx hyx hcx hm; exact absurd hm (by omega)
        | succ kf ih_1065 =>
          intro i cx hx sx cy fx hi1 hi7 hkx hyx hcx hm ls hl H locs hG hS
          have hl9 := hrs_lt (tk := tk) (co := co) (wk := wk) (n := n) (ct := cy) hkx.2.2.1 hkx.2.2.2.2.2 (1)
          have hkp := (hkx.cn hl9.1).st hl9.2
          have htp := tw_pcn tk co (cn := cx) (wk := wk) (n := n)
          have hcs := cnr_step hcx
          have htw := tw_le tk co cx wk 1 hn12
          have htw0 := tw_le tk co (pcn cx wk n) wk 0 hn12
          refine lv_iload C0.1 C0.2.1 dL_law_1065 (lv_at hl 0 rfl) ?_
          refine lv_bipush (v := nI 7) C0.1 C0.2.1 dL_law_1067 (by decide) ?_
          refine tn_icmp_ge (tgt := 1194) C0.1 C0.2.1 dL_law_1069 (by decide) (by omega) (by omega) (fun c_1069 => ?_) (fun c_1069 => ?_)
          · refine tn_iinc (lv' := [(3, .int (nI (t + 1))), (22, .int (nI (i))), (21, .int (iM (u))), (20, .int (nI (b2))), (0, .ref b), (1, .ref h), (2, .ref g), (4, .int (v)), (10, .int (nI (n))), (18, .int (nI (one)))]) C0.1 C0.2.1 dL_law_1194 hl (k := 6) rfl (by decide) rfl (fun ls hl => ?_)
            refine lv_goto (tgt := 22) C0.1 C0.2.1 dL_law_1197 (by decide) ?_
            exact cut_22 (cx) (hx) (sx) (cy) (fx) hkx hyx ls (lv_sub hl [4, 5, 6, 0] rfl) _ _ hG hS
          · refine lv_aload_n C0.1 C0.2.1 dL_law_1072 rfl (lv_at hl 4 rfl) ?_
            refine lv_iconst (v := nI 1) C0.1 C0.2.1 dL_law_1073 (by decide) ?_
            refine tc_callV (q0 := 0) C0 hG hS rfl rfl (kX0_coincidencesIn_in hlf hkx  (1) (by omega)) (cwV 1 C0.2.2.2.2 gL_law_X0_coincidencesIn rfl rfl rfl (by decide +kernel) ⟨(Nat.le_of_ble_eq_true rfl), (Nat.le_of_ble_eq_true rfl)⟩) rfl hl rfl (Nat.le_of_ble_eq_true rfl) dL_law_1074 ⟨by dsimp only [room_1]; omega, by dsimp only [room_1]; omega⟩ (fun H locs hG hS => ?_)
            have b_1074 := tw_le tk co cx wk 1 hkx.2.2.2.2.1
            refine lv_istore (lv' := [(23, .int (nI (tw tk co cx wk 1 n))), (22, .int (nI (i))), (21, .int (iM (u))), (20, .int (nI (b2))), (0, .ref b), (1, .ref h), (2, .ref g), (3, .int (nI (t))), (4, .int (v)), (10, .int (nI (n))), (18, .int (nI (one)))]) C0.1 C0.2.1 dL_law_1077 hl (by decide) rfl (fun ls hl => ?_)
            refine lv_aload_n C0.1 C0.2.1 dL_law_1079 rfl (lv_at hl 5 rfl) ?_
            refine tc_callV (q0 := 0) C0 hG hS rfl rfl (kX0_counted hlf hkx   ) (cwV 0 C0.2.2.2.2 gL_law_X0_counted rfl rfl rfl (by decide +kernel) ⟨(Nat.le_of_ble_eq_true rfl), (Nat.le_of_ble_eq_true rfl)⟩) rfl hl rfl (Nat.le_of_ble_eq_true rfl) dL_law_1080 ⟨by dsimp only [room_1]; omega, by dsimp only [room_1]; omega⟩ (fun H locs hG hS => ?_)
            refine lv_istore (lv' := [(24, .int (cy)), (23, .int (nI (tw tk co cx wk 1 n))), (22, .int (nI (i))), (21, .int (iM (u))), (20, .int (nI (b2))), (0, .ref b), (1, .ref h), (2, .ref g), (3, .int (nI (t))), (4, .int (v)), (10, .int (nI (n))), (18, .int (nI (one)))]) C0.1 C0.2.1 dL_law_1083 hl (by decide) rfl (fun ls hl => ?_)
            refine lv_aload_n C0.1 C0.2.1 dL_law_1085 rfl (lv_at hl 6 rfl) ?_
            refine lv_iconst (v := nI 1) C0.1 C0.2.1 dL_law_1086 (by decide) ?_
            refine tc_callV (q0 := 0) C0 hG hS rfl rfl (kX0_pass_in hlf hkx  (1) (by omega) (by omega)) (cwV 1 C0.2.2.2.2 gL_law_X0_pass rfl rfl rfl (by decide +kernel) ⟨(Nat.le_of_ble_eq_true rfl), (Nat.le_of_ble_eq_true rfl)⟩) rfl hl rfl (Nat.le_of_ble_eq_true rfl) dL_law_1087 ⟨by dsimp only [room_1]; omega, by dsimp only [room_1]; omega⟩ (fun H locs hG hS => ?_)
            have hG : tcG D cI cJ N0 (wB h r1 r2 r3 r4 cI tk co ((hrs tk co wk n cx cy sx 1).1) wk n (hx + nI 1) ((hrs tk co wk n cx cy sx 1).2.2) ((hrs tk co wk n cx cy sx 1).2.1) (nI sq) g ra rw cJ hx sx cy (nI sq) n fx ([])) s H := hG
            refine lv_iload C0.1 C0.2.1 dL_law_1090 (lv_at hl 1 rfl) ?_
            refine lv_icmp_ne (tgt := 1126) C0.1 C0.2.1 dL_law_1092 (by decide) (fun c_1092 => ?_) (fun c_1092 => ?_)
            · exact absurd (by show cy + nI (tw tk co (pcn cx wk n) wk 0 n) - cy = _; rw [add_back, htp]) c_1092
            · refine lv_aload_n C0.1 C0.2.1 dL_law_1095 rfl (lv_at hl 7 rfl) ?_
              refine lv_iconst (v := nI 1) C0.1 C0.2.1 dL_law_1096 (by decide) ?_
              refine tce_callV (q0 := 5) C0 hG hS rfl rfl (kX1_pass hlf hkx hyx  (1) (by omega)) (cwV 1 C0.2.2.2.2 gL_law_X1_pass rfl rfl rfl (by decide +kernel) ⟨(Nat.le_of_ble_eq_true rfl), (Nat.le_of_ble_eq_true rfl)⟩) rfl hl rfl (Nat.le_of_ble_eq_true rfl) dL_law_1097 ⟨by dsimp only [room_1]; omega, by dsimp only [room_1]; omega⟩ (fun v9 ws9 H locs hP9 hG hS => ?_)
              obtain ⟨f1, hy_1097, rfl, rfl⟩ := hP9
              refine W.eq (g2 := F0 m 1100 ls [.int ((hrs tk co wk n cx cy sx (1)).2.1 - cy)]) rfl ?_
              have hG : tcG D cI cJ N0 (wB h r1 r2 r3 r4 cI tk co ((hrs tk co wk n cx cy sx 1).1) wk n (hx + nI 1) ((hrs tk co wk n cx cy sx 1).2.2) ((hrs tk co wk n cx cy sx 1).2.1) (nI sq) g ra rw cJ (hx + nI (1)) ((hrs tk co wk n cx cy sx (1)).2.2) ((hrs tk co wk n cx cy sx (1)).2.1) (nI sq) n f1 ([])) s H := hG
              refine lv_iload C0.1 C0.2.1 dL_law_1100 (lv_at hl 1 rfl) ?_
              refine lv_icmp_ne (tgt := 1126) C0.1 C0.2.1 dL_law_1102 (by decide) (fun c_1102 => ?_) (fun c_1102 => ?_)
              · exact absurd (by show cy + nI (tw tk co (pcn cx wk n) wk 0 n) - cy = _; rw [add_back, htp]) c_1102
              · refine lv_aload_n C0.1 C0.2.1 dL_law_1105 rfl (lv_at hl 6 rfl) ?_
                refine tc_callV (q0 := 0) C0 hG hS rfl rfl (kX0_counted hlf hkp   ) (cwV 0 C0.2.2.2.2 gL_law_X0_counted rfl rfl rfl (by decide +kernel) ⟨(Nat.le_of_ble_eq_true rfl), (Nat.le_of_ble_eq_true rfl)⟩) rfl hl rfl (Nat.le_of_ble_eq_true rfl) dL_law_1106 ⟨by dsimp only [room_1]; omega, by dsimp only [room_1]; omega⟩ (fun H locs hG hS => ?_)
                refine lv_iload C0.1 C0.2.1 dL_law_1109 (lv_at hl 0 rfl) ?_
                refine lv_iload C0.1 C0.2.1 dL_law_1111 (lv_at hl 1 rfl) ?_
                refine lv_iadd C0.1 C0.2.1 dL_law_1113 ?_
                refine lv_icmp_ne (tgt := 1126) C0.1 C0.2.1 dL_law_1114 (by decide) (fun c_1114 => ?_) (fun c_1114 => ?_)
                · exact absurd (by show cy + nI (tw tk co (pcn cx wk n) wk 0 n) = _; rw [htp]) c_1114
                · refine lv_aload_n C0.1 C0.2.1 dL_law_1117 rfl (lv_at hl 6 rfl) ?_
                  refine tc_callV (q0 := 0) C0 hG hS rfl rfl (kX0_coincidences hlf hkp   ) (cwV 0 C0.2.2.2.2 gL_law_X0_coincidences rfl rfl rfl (by decide +kernel) ⟨(Nat.le_of_ble_eq_true rfl), (Nat.le_of_ble_eq_true rfl)⟩) rfl hl rfl (Nat.le_of_ble_eq_true rfl) dL_law_1118 ⟨by dsimp only [room_1]; omega, by dsimp only [room_1]; omega⟩ (fun H locs hG hS => ?_)
                  have b_1118 := tw_le tk co ((hrs tk co wk n cx cy sx 1).1) wk 0 hkp.2.2.2.2.1
                  refine lv_iload C0.1 C0.2.1 dL_law_1121 (lv_at hl 1 rfl) ?_
                  refine tn_icmp_eq (tgt := 1128) C0.1 C0.2.1 dL_law_1123 (by decide) (by omega) (by omega) (fun c_1123 => ?_) (fun c_1123 => ?_)
                  · refine lv_iload C0.1 C0.2.1 dL_law_1128 (lv_at hl 4 rfl) ?_
                    refine lv_iload C0.1 C0.2.1 dL_law_1130 (lv_at hl 11 rfl) ?_
                    refine tn_icmp_eq (tgt := 1188) C0.1 C0.2.1 dL_law_1132 (by decide) (by omega) (by omega) (fun c_1132 => ?_) (fun c_1132 => ?_)
                    · refine tn_iinc (lv' := [(22, .int (nI (i + 1))), (24, .int (cy)), (23, .int (nI (tw tk co cx wk 1 n))), (21, .int (iM (u))), (20, .int (nI (b2))), (0, .ref b), (1, .ref h), (2, .ref g), (3, .int (nI (t))), (4, .int (v)), (10, .int (nI (n))), (18, .int (nI (one)))]) C0.1 C0.2.1 dL_law_1188 hl (k := 2) rfl (by decide) rfl (fun ls hl => ?_)
                      refine lv_goto (tgt := 1065) C0.1 C0.2.1 dL_law_1191 (by decide) ?_
                      exact ih_1065 (i + 1) ((hrs tk co wk n cx cy sx 1).1) (hx + nI 1) ((hrs tk co wk n cx cy sx 1).2.2) ((hrs tk co wk n cx cy sx 1).2.1) (f1) (by omega) (by omega) hkp hy_1097 (by rw [show i + 1 - 1 = i - 1 + 1 by omega]; exact cnr_step hcx) (by omega) ls (lv_sub hl [0, 3, 4, 5, 6, 7, 8, 9, 10, 11] rfl) _ _ hG hS
                    · have hne : one ≠ b2 := fun z => c_1132 z.symm
                      have hum := hu hne
                      have mP := meet_P cn wk one b2
                      have e1 : (hrs tk co wk n cx cy sx (1)).1 one = cnr cn wk i one := by show pcn cx wk n one = _; rw [hcs one ho1, show i - 1 + 1 = i by omega]
                      have e2 : (hrs tk co wk n cx cy sx (1)).1 b2 = cnr cn wk i b2 := by show pcn cx wk n b2 = _; rw [hcs b2 hb2, show i - 1 + 1 = i by omega]
                      refine lv_iload C0.1 C0.2.1 dL_law_1135 (lv_at hl 3 rfl) ?_
                      refine tmz_if_ge (tgt := 1151) C0.1 C0.2.1 dL_law_1137 (by decide) (by omega) (fun c_1137 => ?_) (fun c_1137 => ?_)
                      · refine lv_iload C0.1 C0.2.1 dL_law_1151 (lv_at hl 3 rfl) ?_
                        refine tmz_if_le (tgt := 1188) C0.1 C0.2.1 dL_law_1153 (by decide) (by omega) (fun c_1153 => ?_) (fun c_1153 => ?_)
                        · refine tn_iinc (lv' := [(22, .int (nI (i + 1))), (24, .int (cy)), (23, .int (nI (tw tk co cx wk 1 n))), (21, .int (iM (u))), (20, .int (nI (b2))), (0, .ref b), (1, .ref h), (2, .ref g), (3, .int (nI (t))), (4, .int (v)), (10, .int (nI (n))), (18, .int (nI (one)))]) C0.1 C0.2.1 dL_law_1188 hl (k := 2) rfl (by decide) rfl (fun ls hl => ?_)
                          refine lv_goto (tgt := 1065) C0.1 C0.2.1 dL_law_1191 (by decide) ?_
                          exact ih_1065 (i + 1) ((hrs tk co wk n cx cy sx 1).1) (hx + nI 1) ((hrs tk co wk n cx cy sx 1).2.2) ((hrs tk co wk n cx cy sx 1).2.1) (f1) (by omega) (by omega) hkp hy_1097 (by rw [show i + 1 - 1 = i - 1 + 1 by omega]; exact cnr_step hcx) (by omega) ls (lv_sub hl [0, 3, 4, 5, 6, 7, 8, 9, 10, 11] rfl) _ _ hG hS
                        · refine lv_iload C0.1 C0.2.1 dL_law_1156 (lv_at hl 2 rfl) ?_
                          refine lv_iload C0.1 C0.2.1 dL_law_1158 (lv_at hl 3 rfl) ?_
                          refine tm_icmp_gt (tgt := 1188) C0.1 C0.2.1 dL_law_1160 (by decide) (by omega) (by omega) (fun c_1160 => ?_) (fun c_1160 => ?_)
                          · refine tn_iinc (lv' := [(22, .int (nI (i + 1))), (24, .int (cy)), (23, .int (nI (tw tk co cx wk 1 n))), (21, .int (iM (u))), (20, .int (nI (b2))), (0, .ref b), (1, .ref h), (2, .ref g), (3, .int (nI (t))), (4, .int (v)), (10, .int (nI (n))), (18, .int (nI (one)))]) C0.1 C0.2.1 dL_law_1188 hl (k := 2) rfl (by decide) rfl (fun ls hl => ?_)
                            refine lv_goto (tgt := 1065) C0.1 C0.2.1 dL_law_1191 (by decide) ?_
                            exact ih_1065 (i + 1) ((hrs tk co wk n cx cy sx 1).1) (hx + nI 1) ((hrs tk co wk n cx cy sx 1).2.2) ((hrs tk co wk n cx cy sx 1).2.1) (f1) (by omega) (by omega) hkp hy_1097 (by rw [show i + 1 - 1 = i - 1 + 1 by omega]; exact cnr_step hcx) (by omega) ls (lv_sub hl [0, 3, 4, 5, 6, 7, 8, 9, 10, 11] rfl) _ _ hG hS
                          · refine lv_aload_n C0.1 C0.2.1 dL_law_1163 rfl (lv_at hl 6 rfl) ?_
                            refine lv_iload C0.1 C0.2.1 dL_law_1164 (lv_at hl 11 rfl) ?_
                            refine lv_iload C0.1 C0.2.1 dL_law_1166 (lv_at hl 4 rfl) ?_
                            refine tc_callV (q0 := 0) C0 hG hS rfl rfl (kX0_areTogether_in hlf hkp  (one) (b2) (by omega) (by omega) (by omega)) (cwV 2 C0.2.2.2.2 gL_law_X0_areTogether rfl rfl rfl (by decide +kernel) ⟨(Nat.le_of_ble_eq_true rfl), (Nat.le_of_ble_eq_true rfl)⟩) rfl hl rfl (Nat.le_of_ble_eq_true rfl) dL_law_1168 ⟨by dsimp only [room_1]; omega, by dsimp only [room_1]; omega⟩ (fun H locs hG hS => ?_)
                            refine lv_iload C0.1 C0.2.1 dL_law_1171 (lv_at hl 2 rfl) ?_
                            refine lv_iload C0.1 C0.2.1 dL_law_1173 (lv_at hl 3 rfl) ?_
                            refine tnm_icmp_ne (tgt := 1182) C0.1 C0.2.1 dL_law_1175 (by decide) (by omega) (by omega) (fun c_1175 => ?_) (fun c_1175 => ?_)
                            · refine lv_iconst (v := nI 0) C0.1 C0.2.1 dL_law_1182 (by decide) ?_
                              refine tbb_icmp_eq (tgt := 1188) C0.1 C0.2.1 dL_law_1183 (by decide) (fun c_1183 => ?_) (fun c_1183 => ?_)
                              · refine tn_iinc (lv' := [(22, .int (nI (i + 1))), (24, .int (cy)), (23, .int (nI (tw tk co cx wk 1 n))), (21, .int (iM (u))), (20, .int (nI (b2))), (0, .ref b), (1, .ref h), (2, .ref g), (3, .int (nI (t))), (4, .int (v)), (10, .int (nI (n))), (18, .int (nI (one)))]) C0.1 C0.2.1 dL_law_1188 hl (k := 2) rfl (by decide) rfl (fun ls hl => ?_)
                                refine lv_goto (tgt := 1065) C0.1 C0.2.1 dL_law_1191 (by decide) ?_
                                exact ih_1065 (i + 1) ((hrs tk co wk n cx cy sx 1).1) (hx + nI 1) ((hrs tk co wk n cx cy sx 1).2.2) ((hrs tk co wk n cx cy sx 1).2.1) (f1) (by omega) (by omega) hkp hy_1097 (by rw [show i + 1 - 1 = i - 1 + 1 by omega]; exact cnr_step hcx) (by omega) ls (lv_sub hl [0, 3, 4, 5, 6, 7, 8, 9, 10, 11] rfl) _ _ hG hS
                              · exact absurd (congrArg nI (by
                    rcases mP with ⟨m1, _⟩ | ⟨j, j1, j2, j3, j4⟩
                    · omega
                    · rw [b2n_d]
                      first
                      | (rw [if_pos (show (hrs tk co wk n cx cy sx (1)).1 one = (hrs tk co wk n cx cy sx (1)).1 b2 by rw [e1, e2, show i = j by omega]; exact j3)]; done)
                      | (rw [if_neg (show ¬ (hrs tk co wk n cx cy sx (1)).1 one = (hrs tk co wk n cx cy sx (1)).1 b2 by rw [e1, e2]; exact j4 i (by omega))]; done))) c_1183
                            · refine lv_iconst (v := nI 1) C0.1 C0.2.1 dL_law_1178 (by decide) ?_
                              refine lv_goto (tgt := 1183) C0.1 C0.2.1 dL_law_1179 (by decide) ?_
                              refine tbb_icmp_eq (tgt := 1188) C0.1 C0.2.1 dL_law_1183 (by decide) (fun c_1183 => ?_) (fun c_1183 => ?_)
                              · refine tn_iinc (lv' := [(22, .int (nI (i + 1))), (24, .int (cy)), (23, .int (nI (tw tk co cx wk 1 n))), (21, .int (iM (u))), (20, .int (nI (b2))), (0, .ref b), (1, .ref h), (2, .ref g), (3, .int (nI (t))), (4, .int (v)), (10, .int (nI (n))), (18, .int (nI (one)))]) C0.1 C0.2.1 dL_law_1188 hl (k := 2) rfl (by decide) rfl (fun ls hl => ?_)
                                refine lv_goto (tgt := 1065) C0.1 C0.2.1 dL_law_1191 (by decide) ?_
                                exact ih_1065 (i + 1) ((hrs tk co wk n cx cy sx 1).1) (hx + nI 1) ((hrs tk co wk n cx cy sx 1).2.2) ((hrs tk co wk n cx cy sx 1).2.1) (f1) (by omega) (by omega) hkp hy_1097 (by rw [show i + 1 - 1 = i - 1 + 1 by omega]; exact cnr_step hcx) (by omega) ls (lv_sub hl [0, 3, 4, 5, 6, 7, 8, 9, 10, 11] rfl) _ _ hG hS
                              · exact absurd (congrArg nI (by
                    rcases mP with ⟨m1, _⟩ | ⟨j, j1, j2, j3, j4⟩
                    · omega
                    · rw [b2n_d]
                      first
                      | (rw [if_pos (show (hrs tk co wk n cx cy sx (1)).1 one = (hrs tk co wk n cx cy sx (1)).1 b2 by rw [e1, e2, show i = j by omega]; exact j3)]; done)
                      | (rw [if_neg (show ¬ (hrs tk co wk n cx cy sx (1)).1 one = (hrs tk co wk n cx cy sx (1)).1 b2 by rw [e1, e2]; exact j4 i (by omega))]; done))) c_1183
                      · refine lv_aload_n C0.1 C0.2.1 dL_law_1140 rfl (lv_at hl 6 rfl) ?_
                        refine lv_iload C0.1 C0.2.1 dL_law_1141 (lv_at hl 11 rfl) ?_
                        refine lv_iload C0.1 C0.2.1 dL_law_1143 (lv_at hl 4 rfl) ?_
                        refine tc_callV (q0 := 0) C0 hG hS rfl rfl (kX0_areTogether_in hlf hkp  (one) (b2) (by omega) (by omega) (by omega)) (cwV 2 C0.2.2.2.2 gL_law_X0_areTogether rfl rfl rfl (by decide +kernel) ⟨(Nat.le_of_ble_eq_true rfl), (Nat.le_of_ble_eq_true rfl)⟩) rfl hl rfl (Nat.le_of_ble_eq_true rfl) dL_law_1145 ⟨by dsimp only [room_1]; omega, by dsimp only [room_1]; omega⟩ (fun H locs hG hS => ?_)
                        refine tb_if_ne (tgt := 1186) C0.1 C0.2.1 dL_law_1148 (by decide) (fun c_1148 => ?_) (fun c_1148 => ?_)
                        · exact absurd (of_decide_eq_true c_1148) (by rw [e1, e2]; rcases mP with ⟨_, m2⟩ | ⟨j, j1, j2, _⟩ <;> first | exact m2 i (by omega) | omega)
                        · refine lv_iload C0.1 C0.2.1 dL_law_1151 (lv_at hl 3 rfl) ?_
                          refine tmz_if_le (tgt := 1188) C0.1 C0.2.1 dL_law_1153 (by decide) (by omega) (fun c_1153 => ?_) (fun c_1153 => ?_)
                          · refine tn_iinc (lv' := [(22, .int (nI (i + 1))), (24, .int (cy)), (23, .int (nI (tw tk co cx wk 1 n))), (21, .int (iM (u))), (20, .int (nI (b2))), (0, .ref b), (1, .ref h), (2, .ref g), (3, .int (nI (t))), (4, .int (v)), (10, .int (nI (n))), (18, .int (nI (one)))]) C0.1 C0.2.1 dL_law_1188 hl (k := 2) rfl (by decide) rfl (fun ls hl => ?_)
                            refine lv_goto (tgt := 1065) C0.1 C0.2.1 dL_law_1191 (by decide) ?_
                            exact ih_1065 (i + 1) ((hrs tk co wk n cx cy sx 1).1) (hx + nI 1) ((hrs tk co wk n cx cy sx 1).2.2) ((hrs tk co wk n cx cy sx 1).2.1) (f1) (by omega) (by omega) hkp hy_1097 (by rw [show i + 1 - 1 = i - 1 + 1 by omega]; exact cnr_step hcx) (by omega) ls (lv_sub hl [0, 3, 4, 5, 6, 7, 8, 9, 10, 11] rfl) _ _ hG hS
                          · refine lv_iload C0.1 C0.2.1 dL_law_1156 (lv_at hl 2 rfl) ?_
                            refine lv_iload C0.1 C0.2.1 dL_law_1158 (lv_at hl 3 rfl) ?_
                            refine tm_icmp_gt (tgt := 1188) C0.1 C0.2.1 dL_law_1160 (by decide) (by omega) (by omega) (fun c_1160 => ?_) (fun c_1160 => ?_)
                            · refine tn_iinc (lv' := [(22, .int (nI (i + 1))), (24, .int (cy)), (23, .int (nI (tw tk co cx wk 1 n))), (21, .int (iM (u))), (20, .int (nI (b2))), (0, .ref b), (1, .ref h), (2, .ref g), (3, .int (nI (t))), (4, .int (v)), (10, .int (nI (n))), (18, .int (nI (one)))]) C0.1 C0.2.1 dL_law_1188 hl (k := 2) rfl (by decide) rfl (fun ls hl => ?_)
                              refine lv_goto (tgt := 1065) C0.1 C0.2.1 dL_law_1191 (by decide) ?_
                              exact ih_1065 (i + 1) ((hrs tk co wk n cx cy sx 1).1) (hx + nI 1) ((hrs tk co wk n cx cy sx 1).2.2) ((hrs tk co wk n cx cy sx 1).2.1) (f1) (by omega) (by omega) hkp hy_1097 (by rw [show i + 1 - 1 = i - 1 + 1 by omega]; exact cnr_step hcx) (by omega) ls (lv_sub hl [0, 3, 4, 5, 6, 7, 8, 9, 10, 11] rfl) _ _ hG hS
                            · refine lv_aload_n C0.1 C0.2.1 dL_law_1163 rfl (lv_at hl 6 rfl) ?_
                              refine lv_iload C0.1 C0.2.1 dL_law_1164 (lv_at hl 11 rfl) ?_
                              refine lv_iload C0.1 C0.2.1 dL_law_1166 (lv_at hl 4 rfl) ?_
                              refine tc_callV (q0 := 0) C0 hG hS rfl rfl (kX0_areTogether_in hlf hkp  (one) (b2) (by omega) (by omega) (by omega)) (cwV 2 C0.2.2.2.2 gL_law_X0_areTogether rfl rfl rfl (by decide +kernel) ⟨(Nat.le_of_ble_eq_true rfl), (Nat.le_of_ble_eq_true rfl)⟩) rfl hl rfl (Nat.le_of_ble_eq_true rfl) dL_law_1168 ⟨by dsimp only [room_1]; omega, by dsimp only [room_1]; omega⟩ (fun H locs hG hS => ?_)
                              refine lv_iload C0.1 C0.2.1 dL_law_1171 (lv_at hl 2 rfl) ?_
                              refine lv_iload C0.1 C0.2.1 dL_law_1173 (lv_at hl 3 rfl) ?_
                              refine tnm_icmp_ne (tgt := 1182) C0.1 C0.2.1 dL_law_1175 (by decide) (by omega) (by omega) (fun c_1175 => ?_) (fun c_1175 => ?_)
                              · refine lv_iconst (v := nI 0) C0.1 C0.2.1 dL_law_1182 (by decide) ?_
                                refine tbb_icmp_eq (tgt := 1188) C0.1 C0.2.1 dL_law_1183 (by decide) (fun c_1183 => ?_) (fun c_1183 => ?_)
                                · refine tn_iinc (lv' := [(22, .int (nI (i + 1))), (24, .int (cy)), (23, .int (nI (tw tk co cx wk 1 n))), (21, .int (iM (u))), (20, .int (nI (b2))), (0, .ref b), (1, .ref h), (2, .ref g), (3, .int (nI (t))), (4, .int (v)), (10, .int (nI (n))), (18, .int (nI (one)))]) C0.1 C0.2.1 dL_law_1188 hl (k := 2) rfl (by decide) rfl (fun ls hl => ?_)
                                  refine lv_goto (tgt := 1065) C0.1 C0.2.1 dL_law_1191 (by decide) ?_
                                  exact ih_1065 (i + 1) ((hrs tk co wk n cx cy sx 1).1) (hx + nI 1) ((hrs tk co wk n cx cy sx 1).2.2) ((hrs tk co wk n cx cy sx 1).2.1) (f1) (by omega) (by omega) hkp hy_1097 (by rw [show i + 1 - 1 = i - 1 + 1 by omega]; exact cnr_step hcx) (by omega) ls (lv_sub hl [0, 3, 4, 5, 6, 7, 8, 9, 10, 11] rfl) _ _ hG hS
                                · exact absurd (congrArg nI (by
                    rcases mP with ⟨m1, _⟩ | ⟨j, j1, j2, j3, j4⟩
                    · omega
                    · rw [b2n_d]
                      first
                      | (rw [if_pos (show (hrs tk co wk n cx cy sx (1)).1 one = (hrs tk co wk n cx cy sx (1)).1 b2 by rw [e1, e2, show i = j by omega]; exact j3)]; done)
                      | (rw [if_neg (show ¬ (hrs tk co wk n cx cy sx (1)).1 one = (hrs tk co wk n cx cy sx (1)).1 b2 by rw [e1, e2]; exact j4 i (by omega))]; done))) c_1183
                              · refine lv_iconst (v := nI 1) C0.1 C0.2.1 dL_law_1178 (by decide) ?_
                                refine lv_goto (tgt := 1183) C0.1 C0.2.1 dL_law_1179 (by decide) ?_
                                refine tbb_icmp_eq (tgt := 1188) C0.1 C0.2.1 dL_law_1183 (by decide) (fun c_1183 => ?_) (fun c_1183 => ?_)
                                · refine tn_iinc (lv' := [(22, .int (nI (i + 1))), (24, .int (cy)), (23, .int (nI (tw tk co cx wk 1 n))), (21, .int (iM (u))), (20, .int (nI (b2))), (0, .ref b), (1, .ref h), (2, .ref g), (3, .int (nI (t))), (4, .int (v)), (10, .int (nI (n))), (18, .int (nI (one)))]) C0.1 C0.2.1 dL_law_1188 hl (k := 2) rfl (by decide) rfl (fun ls hl => ?_)
                                  refine lv_goto (tgt := 1065) C0.1 C0.2.1 dL_law_1191 (by decide) ?_
                                  exact ih_1065 (i + 1) ((hrs tk co wk n cx cy sx 1).1) (hx + nI 1) ((hrs tk co wk n cx cy sx 1).2.2) ((hrs tk co wk n cx cy sx 1).2.1) (f1) (by omega) (by omega) hkp hy_1097 (by rw [show i + 1 - 1 = i - 1 + 1 by omega]; exact cnr_step hcx) (by omega) ls (lv_sub hl [0, 3, 4, 5, 6, 7, 8, 9, 10, 11] rfl) _ _ hG hS
                                · exact absurd (congrArg nI (by
                    rcases mP with ⟨m1, _⟩ | ⟨j, j1, j2, j3, j4⟩
                    · omega
                    · rw [b2n_d]
                      first
                      | (rw [if_pos (show (hrs tk co wk n cx cy sx (1)).1 one = (hrs tk co wk n cx cy sx (1)).1 b2 by rw [e1, e2, show i = j by omega]; exact j3)]; done)
                      | (rw [if_neg (show ¬ (hrs tk co wk n cx cy sx (1)).1 one = (hrs tk co wk n cx cy sx (1)).1 b2 by rw [e1, e2]; exact j4 i (by omega))]; done))) c_1183
                  · exact absurd htp c_1123
      exact cut_1065 (7 + 1) (1) (cn) (ho) (st) (ct) (f) (by omega) (by omega) hk hy (fun j _ => (cnr_0 wk (hk3 j)).symm) (by omega) ls (lv_sub hl [0, 1, 2, 3, 4, 5, 6, 7, 8, 9] rfl) _ _ hG hS
    refine lv_iload C0.1 C0.2.1 dL_law_1043 (lv_at hl 7 rfl) ?_
    refine tn_icmp_ne (tgt := 1052) C0.1 C0.2.1 dL_law_1045 (by decide) (by omega) (by omega) (fun c_1045 => ?_) (fun c_1045 => ?_)
    · refine lv_aload_n C0.1 C0.2.1 dL_law_1052 rfl (lv_at hl 2 rfl) ?_
      refine lv_iload C0.1 C0.2.1 dL_law_1053 (lv_at hl 7 rfl) ?_
      refine lv_iload C0.1 C0.2.1 dL_law_1055 (lv_at hl 0 rfl) ?_
      refine tc_callV (q0 := 0) C0 hG hS rfl rfl (kX0_hoursUntilTogether_in hlf hk  (one) (b2) (by omega) (by omega) (by omega)) (cwV 2 C0.2.2.2.2 gL_law_X0_hoursUntilTogether rfl rfl rfl (by decide +kernel) ⟨(Nat.le_of_ble_eq_true rfl), (Nat.le_of_ble_eq_true rfl)⟩) rfl hl rfl (Nat.le_of_ble_eq_true rfl) dL_law_1057 ⟨by dsimp only [room_1]; omega, by dsimp only [room_1]; omega⟩ (fun H locs hG hS => ?_)
      exact cut_1060 (meet cn wk one b2) (by first | exact fun _ => rfl | exact fun z => absurd (by omega) z) (by first | exact meet_le cn wk one b2 | omega) ls (lv_sub hl [0, 1, 2, 3, 4, 5, 6, 7] rfl) _ _ hG hS
    · refine lv_iconst (v := iM 0) C0.1 C0.2.1 dL_law_1048 (by decide) ?_
      refine lv_goto (tgt := 1060) C0.1 C0.2.1 dL_law_1049 (by decide) ?_
      exact cut_1060 (0) (by first | exact fun _ => rfl | exact fun z => absurd (by omega) z) (by first | exact meet_le cn wk one b2 | omega) ls (lv_sub hl [0, 1, 2, 3, 4, 5, 6, 7] rfl) _ _ hG hS
  refine tn_icmp_ne (tgt := 1019) C0.1 C0.2.1 dL_law_1011 (by decide) (by omega) (by omega) (fun c_1011 => ?_) (fun c_1011 => ?_)
  · refine lv_iload C0.1 C0.2.1 dL_law_1019 (lv_at hl 6 rfl) ?_
    refine lv_iconst (v := nI 1) C0.1 C0.2.1 dL_law_1021 (by decide) ?_
    refine tn_iadd C0.1 C0.2.1 dL_law_1022 ?_
    refine lv_iload C0.1 C0.2.1 dL_law_1023 (lv_at hl 4 rfl) ?_
    refine lv_bipush (v := nI 6) C0.1 C0.2.1 dL_law_1025 (by decide) ?_
    refine lv_ishr C0.1 C0.2.1 dL_law_1027 ?_
    refine tc_any (fun x1027 => ?_)
    refine lv_iload C0.1 C0.2.1 dL_law_1028 (lv_at hl 5 rfl) ?_
    refine lv_iconst (v := nI 1) C0.1 C0.2.1 dL_law_1030 (by decide) ?_
    refine tn_isub C0.1 C0.2.1 dL_law_1031 (by omega) ?_
    refine tc_callS C0 hG hS (kL_below hlf  (x1027) (n - 1) (by omega) (by omega)) (va_cwS 2 C0.2.2.2.2 gL_law_L_below rfl rfl rfl (by decide +kernel) ⟨(Nat.le_of_ble_eq_true rfl), (Nat.le_of_ble_eq_true rfl)⟩) rfl hl rfl (Nat.le_of_ble_eq_true rfl) dL_law_1032 ⟨by dsimp only [room_1]; omega, by dsimp only [room_1]; omega⟩ (fun H locs hG hS => ?_)
    have b_1032 := (show blw x1027 (n - 1) < (n - 1) from blw_lt x1027 (by omega))
    refine tn_iadd C0.1 C0.2.1 dL_law_1035 ?_
    refine lv_iload C0.1 C0.2.1 dL_law_1036 (lv_at hl 5 rfl) ?_
    refine tn_irem C0.1 C0.2.1 dL_law_1038 (by omega) (by omega) (by omega) ?_
    exact cut_1039 ((one + 1 + (blw x1027 (n - 1))) % n) (by first | exact Nat.mod_lt _ (by omega) | omega) ls (lv_sub hl [0, 1, 2, 3, 4, 5, 6] rfl) _ _ hG hS
  · refine lv_iload C0.1 C0.2.1 dL_law_1014 (lv_at hl 6 rfl) ?_
    refine lv_goto (tgt := 1039) C0.1 C0.2.1 dL_law_1016 (by decide) ?_
    exact cut_1039 (one) (by first | exact Nat.mod_lt _ (by omega) | omega) ls (lv_sub hl [0, 1, 2, 3, 4, 5, 6] rfl) _ _ hG hS
