/-! the law: its loop, its start -/
set_option maxHeartbeats 4000000 in
set_option maxRecDepth 100000 in
theorem law_loop {p : Program} {l : Launch} {e : Env} {s : State} {m : MethodId} {below : List Frame} {meth : Method} {c : Code} {b L : Nat} {xs : Nat → Int32} (hlf : l.stackTraces = false) (hr : meth.sig.returnType = ret) (hlk : meth.locks = false) (C0 : CallFix p m c cL_law 9 s #[Value.ref b] wsL_law RL) (hX : va_X b L xs s s.heap) (hbl : b < s.heap.size) (hL : L ≤ 2560) {D : va_G} {cI cJ : ClassId} {h r1 r2 r3 r4 o g q1 q2 q3 q4 : Nat} :
    ∀ (kf i : Nat) (hm : L + 6 ≤ i + kf) (hi : i ≤ L + 5) (tk co cn wk : Nat → Nat) (n : Nat) (ho : Int32) (st : Nat) (ct sp th : Int32) (fo : Nat → Int64), tOk tk co cn wk n st → ∀ (H : Heap) (locs : List Loc) (ls : Array Slot), tcG D cI cJ s.heap.size (wT h r1 r2 r3 r4 cI tk co cn wk n ho st ct sp ((o, tcO cJ fo) :: wM g q1 q2 q3 q4 cI th tk co cn wk n ho st ct sp [])) s H → va_S (tcA s.heap.size) s.heap H locs → lv_has ls 9 [(0, .ref b), (1, .ref h), (2, .ref g), (3, .ref o), (4, .int (nI i))] → W p l e room_1 s m #[Value.ref b] below meth c H locs (11 + i) (128 + 5 * i) (lw_Z below #[Value.ref b] s) (F0 m 23 ls []) := by
  intro kf
  induction kf with
  | zero => intro i hm hi; exact absurd hm (by omega)
  | succ kf ih =>
    intro i hm hi tk co cn wk n ho st ct sp th fo hk H locs ls hG hS hl
    refine lv_iload C0.1 C0.2.1 dL_law_23 (lv_at hl 4 rfl) ?_
    refine lv_aload_n C0.1 C0.2.1 dL_law_25 rfl (lv_at hl 0 rfl) ?_
    refine va_slen C0.1 C0.2.1 hX hbl (Nat.not_le.mpr hbl) hS dL_law_26 ?_
    refine lv_iconst (v := nI 5) C0.1 C0.2.1 dL_law_27 (by decide) ?_
    refine lv_isub C0.1 C0.2.1 dL_law_28 ?_
    refine lv_icmp_gt (tgt := 1764) C0.1 C0.2.1 dL_law_29 (by decide) (fun c_a => ?_) (fun c_a => ?_)
    · refine lv_iconst (v := nI 1) C0.1 C0.2.1 dL_law_1764 (by decide) ?_
      refine va_forget (fun q hq => hS.2.2 q hq) ?_
      refine W.widen (k := room_1.cells) (n := room_1.slots) (by dsimp only [room_1]; omega) (by dsimp only [room_1]; omega) ?_
      exact lw_ret (d0 := s.drawn) (Drawn.sameBut.refl s.drawn lw_cs) C0.1 C0.2.1 hr hlk dL_law_1765
    · have hi5 : i + 5 ≤ L := law_in hL (by omega) (show ¬ nI i > nI L - nI 5 from c_a)
      have back : ∀ (tk co cn wk : Nat → Nat) (n : Nat) (ho : Int32) (st : Nat) (ct sp th : Int32) (fo : Nat → Int64), tOk tk co cn wk n st → ∀ (H : Heap) (locs : List Loc) (ls : Array Slot), tcG D cI cJ s.heap.size (wT h r1 r2 r3 r4 cI tk co cn wk n ho st ct sp ((o, tcO cJ fo) :: wM g q1 q2 q3 q4 cI th tk co cn wk n ho st ct sp [])) s H → va_S (tcA s.heap.size) s.heap H locs → lv_has ls 9 [(0, .ref b), (1, .ref h), (2, .ref g), (3, .ref o), (4, .int (nI (i + 5)))] → W p l e room_1 s m #[Value.ref b] below meth c H locs (11 + (i + 5)) (128 + 5 * (i + 5)) (lw_Z below #[Value.ref b] s) (F0 m 23 ls []) := ih (i + 5) (by omega) (by omega)
      refine lv_aload_n C0.1 C0.2.1 dL_law_32 rfl (lv_at hl 0 rfl) ?_
      refine lv_iload C0.1 C0.2.1 dL_law_33 (lv_at hl 4 rfl) ?_
      refine tc_sld C0 hX hbl hS (by omega) hL rfl dL_law_35 ?_
      refine lv_bipush (v := nI 63) C0.1 C0.2.1 dL_law_36 (by decide) ?_
      refine lv_iand C0.1 C0.2.1 dL_law_38 ?_
      obtain ⟨j, hj, ej⟩ := pk_andE (xs i) (m := nI 63) 6 (by decide)
      refine tc_top ej ?_
      rcases (show j = 0 ∨ j = 1 ∨ j = 2 ∨ j = 3 ∨ j = 4 ∨ j = 5 ∨ j = 6 ∨ j = 7 ∨ j = 8 ∨ j = 9 ∨ j = 10 ∨ j = 11 ∨ j = 12 ∨ j = 13 ∨ j = 14 ∨ j = 15 ∨ j = 16 ∨ j = 17 ∨ j = 18 ∨ j = 19 ∨ j = 20 ∨ j = 21 ∨ j = 22 ∨ j = 23 ∨ j = 24 ∨ j = 25 ∨ j = 26 ∨ j = 27 ∨ j = 28 ∨ j = 29 ∨ j = 30 ∨ j = 31 ∨ j = 32 ∨ 33 ≤ j by omega) with rfl | rfl | rfl | rfl | rfl | rfl | rfl | rfl | rfl | rfl | rfl | rfl | rfl | rfl | rfl | rfl | rfl | rfl | rfl | rfl | rfl | rfl | rfl | rfl | rfl | rfl | rfl | rfl | rfl | rfl | rfl | rfl | rfl | hj33
      · exact lv_tableIn (off := 145) (tgt := 184) C0.1 C0.2.1 dL_law_39 (by decide) (by decide) (by decide) (by decide) (law_case_0 hlf C0 hX hbl hL hk hi5 hG hS hl back)
      · exact lv_tableIn (off := 237) (tgt := 276) C0.1 C0.2.1 dL_law_39 (by decide) (by decide) (by decide) (by decide) (law_case_1 hlf C0 hX hbl hL hk hi5 hG hS hl back)
      · exact lv_tableIn (off := 305) (tgt := 344) C0.1 C0.2.1 dL_law_39 (by decide) (by decide) (by decide) (by decide) (law_case_2 hlf C0 hX hbl hL hk hi5 hG hS hl back)
      · exact lv_tableIn (off := 373) (tgt := 412) C0.1 C0.2.1 dL_law_39 (by decide) (by decide) (by decide) (by decide) (law_case_3 hlf C0 hX hbl hL hk hi5 hG hS hl back)
      · exact lv_tableIn (off := 441) (tgt := 480) C0.1 C0.2.1 dL_law_39 (by decide) (by decide) (by decide) (by decide) (law_case_4 hlf C0 hX hbl hL hk hi5 hG hS hl back)
      · exact lv_tableIn (off := 509) (tgt := 548) C0.1 C0.2.1 dL_law_39 (by decide) (by decide) (by decide) (by decide) (law_case_5 hlf C0 hX hbl hL hk hi5 hG hS hl back)
      · exact lv_tableIn (off := 577) (tgt := 616) C0.1 C0.2.1 dL_law_39 (by decide) (by decide) (by decide) (by decide) (law_case_6 hlf C0 hX hbl hL hk hi5 hG hS hl back)
      · exact lv_tableIn (off := 633) (tgt := 672) C0.1 C0.2.1 dL_law_39 (by decide) (by decide) (by decide) (by decide) (law_case_7 hlf C0 hX hbl hL hk hi5 hG hS hl back)
      · exact lv_tableIn (off := 646) (tgt := 685) C0.1 C0.2.1 dL_law_39 (by decide) (by decide) (by decide) (by decide) (law_case_8 hlf C0 hX hbl hL hk hi5 hG hS hl back)
      · exact lv_tableIn (off := 659) (tgt := 698) C0.1 C0.2.1 dL_law_39 (by decide) (by decide) (by decide) (by decide) (law_case_9 hlf C0 hX hbl hL hk hi5 hG hS hl back)
      · exact lv_tableIn (off := 672) (tgt := 711) C0.1 C0.2.1 dL_law_39 (by decide) (by decide) (by decide) (by decide) (law_case_10 hlf C0 hX hbl hL hk hi5 hG hS hl back)
      · exact lv_tableIn (off := 685) (tgt := 724) C0.1 C0.2.1 dL_law_39 (by decide) (by decide) (by decide) (by decide) (law_case_11 hlf C0 hX hbl hL hk hi5 hG hS hl back)
      · exact lv_tableIn (off := 698) (tgt := 737) C0.1 C0.2.1 dL_law_39 (by decide) (by decide) (by decide) (by decide) (law_case_12 hlf C0 hX hbl hL hk hi5 hG hS hl back)
      · exact lv_tableIn (off := 754) (tgt := 793) C0.1 C0.2.1 dL_law_39 (by decide) (by decide) (by decide) (by decide) (law_case_13 hlf C0 hX hbl hL hk hi5 hG hS hl back)
      · exact lv_tableIn (off := 810) (tgt := 849) C0.1 C0.2.1 dL_law_39 (by decide) (by decide) (by decide) (by decide) (law_case_14 hlf C0 hX hbl hL hk hi5 hG hS hl back)
      · exact lv_tableIn (off := 866) (tgt := 905) C0.1 C0.2.1 dL_law_39 (by decide) (by decide) (by decide) (by decide) (law_case_15 hlf C0 hX hbl hL hk hi5 hG hS hl back)
      · exact lv_tableIn (off := 922) (tgt := 961) C0.1 C0.2.1 dL_law_39 (by decide) (by decide) (by decide) (by decide) (law_case_16 hlf C0 hX hbl hL hk hi5 hG hS hl back)
      · exact lv_tableIn (off := 978) (tgt := 1017) C0.1 C0.2.1 dL_law_39 (by decide) (by decide) (by decide) (by decide) (law_case_17 hlf C0 hX hbl hL hk hi5 hG hS hl back)
      · exact lv_tableIn (off := 1046) (tgt := 1085) C0.1 C0.2.1 dL_law_39 (by decide) (by decide) (by decide) (by decide) (law_case_18 hlf C0 hX hbl hL hk hi5 hG hS hl back)
      · exact lv_tableIn (off := 1121) (tgt := 1160) C0.1 C0.2.1 dL_law_39 (by decide) (by decide) (by decide) (by decide) (law_case_19 hlf C0 hX hbl hL hk hi5 hG hS hl back)
      · exact lv_tableIn (off := 1196) (tgt := 1235) C0.1 C0.2.1 dL_law_39 (by decide) (by decide) (by decide) (by decide) (law_case_20 hlf C0 hX hbl hL hk hi5 hG hS hl back)
      · exact lv_tableIn (off := 1209) (tgt := 1248) C0.1 C0.2.1 dL_law_39 (by decide) (by decide) (by decide) (by decide) (law_case_21 hlf C0 hX hbl hL hk hi5 hG hS hl back)
      · exact lv_tableIn (off := 1265) (tgt := 1304) C0.1 C0.2.1 dL_law_39 (by decide) (by decide) (by decide) (by decide) (law_case_22 hlf C0 hX hbl hL hk hi5 hG hS hl back)
      · exact lv_tableIn (off := 1321) (tgt := 1360) C0.1 C0.2.1 dL_law_39 (by decide) (by decide) (by decide) (by decide) (law_case_23 hlf C0 hX hbl hL hk hi5 hG hS hl back)
      · exact lv_tableIn (off := 1334) (tgt := 1373) C0.1 C0.2.1 dL_law_39 (by decide) (by decide) (by decide) (by decide) (law_case_24 hlf C0 hX hbl hL hk hi5 hG hS hl back)
      · exact lv_tableIn (off := 1390) (tgt := 1429) C0.1 C0.2.1 dL_law_39 (by decide) (by decide) (by decide) (by decide) (law_case_25 hlf C0 hX hbl hL hk hi5 hG hS hl back)
      · exact lv_tableIn (off := 1458) (tgt := 1497) C0.1 C0.2.1 dL_law_39 (by decide) (by decide) (by decide) (by decide) (law_case_26 hlf C0 hX hbl hL hk hi5 hG hS hl back)
      · exact lv_tableIn (off := 1526) (tgt := 1565) C0.1 C0.2.1 dL_law_39 (by decide) (by decide) (by decide) (by decide) (law_case_27 hlf C0 hX hbl hL hk hi5 hG hS hl back)
      · exact lv_tableIn (off := 1539) (tgt := 1578) C0.1 C0.2.1 dL_law_39 (by decide) (by decide) (by decide) (by decide) (law_case_28 hlf C0 hX hbl hL hk hi5 hG hS hl back)
      · exact lv_tableIn (off := 1595) (tgt := 1634) C0.1 C0.2.1 dL_law_39 (by decide) (by decide) (by decide) (by decide) (law_case_29 hlf C0 hX hbl hL hk hi5 hG hS hl back)
      · exact lv_tableIn (off := 1608) (tgt := 1647) C0.1 C0.2.1 dL_law_39 (by decide) (by decide) (by decide) (by decide) (law_case_30 hlf C0 hX hbl hL hk hi5 hG hS hl back)
      · exact lv_tableIn (off := 1664) (tgt := 1703) C0.1 C0.2.1 dL_law_39 (by decide) (by decide) (by decide) (by decide) (law_case_31 hlf C0 hX hbl hL hk hi5 hG hS hl back)
      · exact lv_tableIn (off := 1705) (tgt := 1744) C0.1 C0.2.1 dL_law_39 (by decide) (by decide) (by decide) (by decide) (law_case_32 hlf C0 hX hbl hL hk hi5 hG hS hl back)
      · refine lv_tableOut (tgt := 1758) C0.1 C0.2.1 dL_law_39 (Or.inr (by rw [nI_toInt (by omega)]; omega)) (by decide) ?_
        refine lv_iinc (v := nI (i + 5)) (lv' := [(4, .int (nI (i + 5))), (0, .ref b), (1, .ref h), (2, .ref g), (3, .ref o)]) C0.1 C0.2.1 dL_law_1758 hl (k := 4) rfl (nI_add i 5) (by decide) rfl (fun ls hl => ?_)
        refine lv_goto (tgt := 23) C0.1 C0.2.1 dL_law_1761 (by decide) ?_
        refine W.widen (k := 11 + (i + 5)) (n := 128 + 5 * (i + 5)) (by omega) (by omega) ?_
        exact back tk co cn wk n ho st ct sp th fo hk _ _ _ hG hS (lv_sub hl [1, 2, 3, 4, 0] rfl)
