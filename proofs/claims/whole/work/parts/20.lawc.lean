/-! the law, case by case -/
theorem cdMv_le (k c : Int32) (cn : Nat → Nat) (n st : Nat) : cdMv k c cn n st ≤ 3 := by
  have h := cdK_le k n c 6
  unfold cdMv; split
  · split <;> omega
  · omega
theorem cdC_le (c st : Nat) : cdC c st ≤ 3 := by unfold cdC; split <;> omega
theorem cdDr_le (k t : Int32) (n st : Nat) : cdDr k t n st ≤ 3 := by
  have h := cdK_le k n t 100; have h2 := cdC_le 12 st
  unfold cdDr; split <;> omega
theorem cdSu_le (a b : Int32) (cn : Nat → Nat) (n st : Nat) : cdSu a b cn n st ≤ 3 := by
  have h := cdP_le a b n
  unfold cdSu; split
  · split <;> omega
  · omega
theorem cdSt_le (a b : Int32) (n st : Nat) : cdSt a b n st ≤ 3 := by
  have h := cdP_le a b n; have h2 := cdC_le 8 st
  unfold cdSt; split <;> omega
theorem ix_lt {x : Int32} {m : Nat} (hm : m < 2 ^ 31) (h : tcIn x m = true) : ix x < m := by
  obtain ⟨j, hj, rfl⟩ := tcIn_of hm h
  rw [ix_nI (by omega)]; exact hj
theorem cdK_ok {k x : Int32} {n m : Nat} (h : cdK k n x m = 0) : tcIn k n = true ∧ tcIn x m = true := by
  cases q : tcIn k n with
  | false => rw [cdK_1 q] at h; cases h
  | true =>
    cases q2 : tcIn x m with
    | false => rw [cdK_2 q q2] at h; cases h
    | true => exact ⟨rfl, rfl⟩
/-- the state stays one: what writes -/
theorem sv_addStranger {tk co cn wk : Nat → Nat} {n st : Nat} {xt xc xk xw : Int32} (hk : tOk tk co cn wk n st) (h : cdA xt xc xk xw n = 0) : tOk (va_up tk n (ix xt)) (va_up co n (ix xc)) (va_up cn n (ix xk)) (va_up wk n (ix xw)) (n + 1) st := by
  have h1 : (tcIn xt 100 = true ∧ tcIn xc 5 = true ∧ tcIn xk 6 = true ∧ tcIn xw 6 = true) ∧ n < 12 := by
    unfold cdA at h
    split at h
    · next q => split at h
                · next r => exact ⟨q, r⟩
                · cases h
    · cases h
  obtain ⟨⟨a, b, c, d⟩, e⟩ := h1
  exact ⟨fun i => up_lt hk.1 (ix_lt (by decide) a) n i, fun i => up_lt hk.2.1 (ix_lt (by decide) b) n i, fun i => up_lt hk.2.2.1 (ix_lt (by decide) c) n i, fun i => up_lt hk.2.2.2.1 (ix_lt (by decide) d) n i, e, hk.2.2.2.2.2⟩
theorem sv_setWalk {tk co cn wk : Nat → Nat} {n st : Nat} {x y : Int32} (hk : tOk tk co cn wk n st) (h : cdK x n y 6 = 0) : tOk tk co cn (va_up wk (ix x) (ix y)) n st := hk.wk (fun i => up_lt hk.2.2.2.1 (ix_lt (by decide) (cdK_ok h).2) _ i)
theorem cd_if0 {a b : Nat} {c : Prop} (h : (if a = 0 then b else a) = 0) : a = 0 := by
  by_cases q : a = 0
  · exact q
  · rw [if_neg q] at h; exact h
theorem sv_move {tk co cn wk : Nat → Nat} {n st : Nat} {x y : Int32} (hk : tOk tk co cn wk n st) (h : cdMv x y cn n st = 0) : tOk tk co (va_up cn (ix x) (ix y)) wk n (st - way (cn (ix x)) (ix y)) := by
  have h1 : cdK x n y 6 = 0 := cd_if0 (c := True) h
  exact (hk.cn (fun i => up_lt hk.2.2.1 (ix_lt (by decide) (cdK_ok h1).2) _ i)).st (by have := hk.2.2.2.2.2; omega)
theorem sv_draw {tk co cn wk : Nat → Nat} {n st : Nat} {x y : Int32} (hk : tOk tk co cn wk n st) (h : cdDr x y n st = 0) : tOk (va_up tk (ix x) (ix y)) co cn wk n (st - 12) := by
  have h1 : cdK x n y 100 = 0 := cd_if0 (c := True) h
  exact (hk.tk (fun i => up_lt hk.1 (ix_lt (by decide) (cdK_ok h1).2) _ i)).st (by have := hk.2.2.2.2.2; omega)
theorem sv_swapUmbrellas {tk co cn wk : Nat → Nat} {n st : Nat} {x y : Int32} (hk : tOk tk co cn wk n st) (h : cdSu x y cn n st = 0) : tOk tk (swp co (ix x) (ix y)) cn wk n (st - 3) := (hk.co (swp_lt hk.2.1 _ _)).st (by have := hk.2.2.2.2.2; omega)
theorem sv_swapTickets {tk co cn wk : Nat → Nat} {n st : Nat} {x y : Int32} (hk : tOk tk co cn wk n st) (h : cdSt x y n st = 0) : tOk (swp tk (ix x) (ix y)) co cn wk n (st - 8) := (hk.tk (swp_lt hk.1 _ _)).st (by have := hk.2.2.2.2.2; omega)
theorem sv_pass {tk co cn wk : Nat → Nat} {n st : Nat} {ct : Int32} {x : Int32} (hk : tOk tk co cn wk n st) (_ : cdH x = 0) : tOk tk co (hrs tk co wk n cn ct st (ix x)).1 wk n (hrs tk co wk n cn ct st (ix x)).2.2 := (hk.cn (hrs_lt hk.2.2.1 hk.2.2.2.2.2 (ix x)).1).st (hrs_lt hk.2.2.1 hk.2.2.2.2.2 (ix x)).2
theorem lg_self (x : Int64) : lg_cmp x x = nI 0 := by
  unfold lg_cmp
  rw [if_neg (by rw [gt_iff_lt, Int64.lt_iff_toInt_lt]; omega), if_pos rfl]; rfl
theorem mlk_eq {tk co cn wk : Nat → Nat} {n : Nat} (hn : n ≤ 12) : FP.dcmp (mlk tk co cn wk n) (mlk tk co cn wk n) = some .eq := by
  unfold mlk
  by_cases h : n = 0
  · rw [if_pos h]; decide +kernel
  · rw [if_neg h]; exact (ml_ok (by omega) hn (tw_tri tk co cn wk 0 n)).2
theorem law_in {L i : Nat} (hL : L ≤ 2560) (hi : i ≤ 4000) (h : ¬ nI i > nI L - nI 5) : i + 5 ≤ L := by
  rw [gt_iff_lt, Int32.lt_iff_toInt_lt, pk_sub_toInt (by omega) (by omega), nI_toInt (by omega)] at h
  omega
section TCW
variable {p : Program} {l : Launch} {e : Env} {R : Room} {s : State} {m : MethodId} {args : Array Value} {below : List Frame} {meth : Method} {c : Code} {H : Heap} {locs : List Loc} {cells slots : Nat} {Q : State → Prop}
variable {cc : ByteArray} {pc : Nat} {ls : Array Slot} {rest : List Value} {nL : Nat} {own : String} {Ts : List Cond}
theorem tc_sld (C0 : CallFix p m c cc nL s args Ts own) {b L : Nat} {xs : Nat → Int32} (hX : va_X b L xs s s.heap) (hbl : b < s.heap.size) (hS : va_S (tcA s.heap.size) s.heap H locs) {k : Nat} {x : Int32} (hk : k < L) (hL : L ≤ 2560) (ex : x = xs k) (hdg : decode cc pc = .ok (.iaload, 1)) (kk : W p l e R s m args below meth c H locs cells slots Q (F0 m (pc + 1) ls (.int x :: rest))) : W p l e R s m args below meth c H locs cells slots Q (F0 m pc ls (.int (nI k) :: .ref b :: rest)) := by
  refine va_sld C0.1 C0.2.1 hX hbl (Nat.not_le.mpr hbl) hS (vp_in_nI hk (by omega)) hdg ?_
  rw [nI_clamp (by omega), ← ex]
  exact kk
end TCW
theorem lb_neg {P c : Prop} [Decidable P] [Decidable c] (h : decide (P ∧ c) = false) (hP : P) : ¬ decide c = true := fun q => (of_decide_eq_false h) ⟨hP, of_decide_eq_true q⟩
theorem lbm_neg {P : Prop} {c : Bool} [Decidable P] (h : decide (P ∧ c = true) = false) (hP : P) : ¬ c = true := fun q => (of_decide_eq_false h) ⟨hP, q⟩
theorem lbm_pos {P : Prop} {c : Bool} [Decidable P] (h : decide (P ∧ c = true) = true) : c = true := (of_decide_eq_true h).2
theorem lb_pos {P c : Prop} [Decidable P] [Decidable c] (h : decide (P ∧ c) = true) : decide c = true := decide_eq_true (of_decide_eq_true h).2

set_option maxHeartbeats 4000000 in
set_option maxRecDepth 100000 in
theorem law_case_0 {p : Program} {l : Launch} {e : Env} {s : State} {m : MethodId} {below : List Frame} {meth : Method} {c : Code} {b L : Nat} {xs : Nat → Int32} (hlf : l.stackTraces = false) (C0 : CallFix p m c cL_law 9 s #[Value.ref b] wsL_law RL) (hX : va_X b L xs s s.heap) (hbl : b < s.heap.size) (hL : L ≤ 2560) {D : va_G} {cI cJ : ClassId} {h r1 r2 r3 r4 o g q1 q2 q3 q4 : Nat} {tk co cn wk : Nat → Nat} {n st : Nat} {ho ct sp th : Int32} {fo : Nat → Int64} (hk : tOk tk co cn wk n st) {i : Nat} (hi : i + 5 ≤ L) {H : Heap} {locs : List Loc} {ls : Array Slot} (hG : tcG D cI cJ s.heap.size (wT h r1 r2 r3 r4 cI tk co cn wk n ho st ct sp ((o, tcO cJ fo) :: wM g q1 q2 q3 q4 cI th tk co cn wk n ho st ct sp [])) s H) (hS : va_S (tcA s.heap.size) s.heap H locs) (hl : lv_has ls 9 [(0, .ref b), (1, .ref h), (2, .ref g), (3, .ref o), (4, .int (nI i))])
    (back : ∀ (tk co cn wk : Nat → Nat) (n : Nat) (ho : Int32) (st : Nat) (ct sp th : Int32) (fo : Nat → Int64), tOk tk co cn wk n st → ∀ (H : Heap) (locs : List Loc) (ls : Array Slot), tcG D cI cJ s.heap.size (wT h r1 r2 r3 r4 cI tk co cn wk n ho st ct sp ((o, tcO cJ fo) :: wM g q1 q2 q3 q4 cI th tk co cn wk n ho st ct sp [])) s H → va_S (tcA s.heap.size) s.heap H locs → lv_has ls 9 [(0, .ref b), (1, .ref h), (2, .ref g), (3, .ref o), (4, .int (nI (i + 5)))] → W p l e room_1 s m #[Value.ref b] below meth c H locs (11 + (i + 5)) (128 + 5 * (i + 5)) (lw_Z below #[Value.ref b] s) (F0 m 23 ls [])) : W p l e room_1 s m #[Value.ref b] below meth c H locs (11 + i) (128 + 5 * i) (lw_Z below #[Value.ref b] s) (F0 m 184 ls []) := by
  obtain ⟨x1, ex1⟩ : ∃ y, y = xs (i + 1) := ⟨_, rfl⟩
  obtain ⟨x2, ex2⟩ : ∃ y, y = xs (i + 2) := ⟨_, rfl⟩
  obtain ⟨x3, ex3⟩ : ∃ y, y = xs (i + 3) := ⟨_, rfl⟩
  obtain ⟨x4, ex4⟩ : ∃ y, y = xs (i + 4) := ⟨_, rfl⟩
  refine lv_aload_n C0.1 C0.2.1 dL_law_184 rfl (lv_at hl 1 rfl) ?_
  refine lv_aload_n C0.1 C0.2.1 dL_law_185 rfl (lv_at hl 0 rfl) ?_
  refine lv_iload C0.1 C0.2.1 dL_law_186 (lv_at hl 4 rfl) ?_
  refine lv_iconst (v := nI 1) C0.1 C0.2.1 dL_law_188 (by decide) ?_
  refine tn_iadd C0.1 C0.2.1 dL_law_189 ?_
  refine tc_sld C0 hX hbl hS (by omega) hL ex1 dL_law_190 ?_
  refine lv_aload_n C0.1 C0.2.1 dL_law_191 rfl (lv_at hl 0 rfl) ?_
  refine lv_iload C0.1 C0.2.1 dL_law_192 (lv_at hl 4 rfl) ?_
  refine lv_iconst (v := nI 2) C0.1 C0.2.1 dL_law_194 (by decide) ?_
  refine tn_iadd C0.1 C0.2.1 dL_law_195 ?_
  refine tc_sld C0 hX hbl hS (by omega) hL ex2 dL_law_196 ?_
  refine lv_aload_n C0.1 C0.2.1 dL_law_197 rfl (lv_at hl 0 rfl) ?_
  refine lv_iload C0.1 C0.2.1 dL_law_198 (lv_at hl 4 rfl) ?_
  refine lv_iconst (v := nI 3) C0.1 C0.2.1 dL_law_200 (by decide) ?_
  refine tn_iadd C0.1 C0.2.1 dL_law_201 ?_
  refine tc_sld C0 hX hbl hS (by omega) hL ex3 dL_law_202 ?_
  refine lv_aload_n C0.1 C0.2.1 dL_law_203 rfl (lv_at hl 0 rfl) ?_
  refine lv_iload C0.1 C0.2.1 dL_law_204 (lv_at hl 4 rfl) ?_
  refine lv_iconst (v := nI 4) C0.1 C0.2.1 dL_law_206 (by decide) ?_
  refine tn_iadd C0.1 C0.2.1 dL_law_207 ?_
  refine tc_sld C0 hX hbl hS (by omega) hL ex4 dL_law_208 ?_
  refine lv_aload_n C0.1 C0.2.1 dL_law_209 rfl (lv_at hl 3 rfl) ?_
  refine tc_callSW (rest := []) C0 hG hS (kL_addStranger hlf hk x1 x2 x3 x4) (vx_cwSW 6 C0.2.2.2.2 gL_law_L_addStranger rfl rfl rfl (by decide +kernel) ⟨(Nat.le_of_ble_eq_true rfl), (Nat.le_of_ble_eq_true rfl)⟩) rfl hl rfl (Nat.le_of_ble_eq_true rfl) dL_law_210 ⟨(by dsimp only [room_1]; omega), (by dsimp only [room_1]; omega)⟩ (fun H locs hG hS => ?_)
  refine lv_istore (lv' := [(5, .int (nI (cdA x1 x2 x3 x4 n))), (0, .ref b), (1, .ref h), (2, .ref g), (3, .ref o), (4, .int (nI i))]) C0.1 C0.2.1 dL_law_213 hl (by decide) rfl (fun ls hl => ?_)
  by_cases hcd : cdA x1 x2 x3 x4 n = 0
  · rw [if_pos hcd] at hG
    have hkn := sv_addStranger hk hcd
    refine lv_aload_n C0.1 C0.2.1 dL_law_215 rfl (lv_at hl 3 rfl) ?_
    refine lv_aload_n C0.1 C0.2.1 dL_law_216 rfl (lv_at hl 1 rfl) ?_
    refine lv_iload C0.1 C0.2.1 dL_law_217 (lv_at hl 5 rfl) ?_
    refine lv_iconst (v := nI 1) C0.1 C0.2.1 dL_law_219 (by decide) ?_
    refine tn_iadd C0.1 C0.2.1 dL_law_220 ?_
    refine tc_sld C0 hX hbl hS (by omega) hL ex1 dL_law_221 ?_
    refine lv_aload_n C0.1 C0.2.1 dL_law_222 rfl (lv_at hl 1 rfl) ?_
    refine lv_iload C0.1 C0.2.1 dL_law_223 (lv_at hl 5 rfl) ?_
    refine lv_iconst (v := nI 2) C0.1 C0.2.1 dL_law_225 (by decide) ?_
    refine tn_iadd C0.1 C0.2.1 dL_law_226 ?_
    refine tc_sld C0 hX hbl hS (by omega) hL ex2 dL_law_227 ?_
    refine lv_aload_n C0.1 C0.2.1 dL_law_228 rfl (lv_at hl 1 rfl) ?_
    refine lv_iload C0.1 C0.2.1 dL_law_229 (lv_at hl 5 rfl) ?_
    refine lv_iconst (v := nI 3) C0.1 C0.2.1 dL_law_231 (by decide) ?_
    refine tn_iadd C0.1 C0.2.1 dL_law_232 ?_
    refine tc_sld C0 hX hbl hS (by omega) hL ex3 dL_law_233 ?_
    refine lv_aload_n C0.1 C0.2.1 dL_law_234 rfl (lv_at hl 1 rfl) ?_
    refine lv_iload C0.1 C0.2.1 dL_law_235 (lv_at hl 5 rfl) ?_
    refine lv_iconst (v := nI 4) C0.1 C0.2.1 dL_law_237 (by decide) ?_
    refine tn_iadd C0.1 C0.2.1 dL_law_238 ?_
    refine tc_sld C0 hX hbl hS (by omega) hL ex4 dL_law_239 ?_
    have hG := hG.sub (ws' := wM g q1 q2 q3 q4 cI th tk co cn wk n ho st ct sp (wT h r1 r2 r3 r4 cI (va_up tk n (ix x1)) (va_up co n (ix x2)) (va_up cn n (ix x3)) (va_up wk n (ix x4)) (n + 1) ho st ct sp [(o, tcO cJ (vp_updL fo 0 ((nI (n)).toInt64)))])) [6, 7, 8, 9, 10, 0, 1, 2, 3, 4, 5] (by decide) rfl rfl
    refine tc_callV (q0 := 0) (rest := []) C0 hG hS rfl rfl (kX1_addStranger hlf hk x1 x2 x3 x4) (cwV 4 C0.2.2.2.2 gL_law_X1_addStranger rfl rfl rfl (by decide +kernel) ⟨(Nat.le_of_ble_eq_true rfl), (Nat.le_of_ble_eq_true rfl)⟩) rfl hl rfl (Nat.le_of_ble_eq_true rfl) dL_law_240 ⟨(by dsimp only [room_1]; omega), (by dsimp only [room_1]; omega)⟩ (fun H locs hG hS => ?_)
    rw [if_pos hcd] at hG
    have hG : tcG D cI cJ s.heap.size (wM g q1 q2 q3 q4 cI (nI 0) (va_up tk n (ix x1)) (va_up co n (ix x2)) (va_up cn n (ix x3)) (va_up wk n (ix x4)) (n + 1) ho st ct sp (wT h r1 r2 r3 r4 cI (va_up tk n (ix x1)) (va_up co n (ix x2)) (va_up cn n (ix x3)) (va_up wk n (ix x4)) (n + 1) ho st ct sp [(o, tcO cJ (vp_updL fo 0 ((nI (n)).toInt64)))])) s H := hG
    refine tc_top (y := nI (n)) (if_pos hcd) ?_
    refine lv_istore (lv' := [(6, .int (nI (n))), (5, .int (nI (cdA x1 x2 x3 x4 n))), (0, .ref b), (1, .ref h), (2, .ref g), (3, .ref o), (4, .int (nI i))]) C0.1 C0.2.1 dL_law_243 hl (by decide) rfl (fun ls hl => ?_)
    refine lv_aload_n C0.1 C0.2.1 dL_law_245 rfl (lv_at hl 4 rfl) ?_
    refine tc_callV (q0 := 0) (rest := []) C0 hG hS rfl rfl (kX1_thrown hlf hkn ) (cwV 0 C0.2.2.2.2 gL_law_X1_thrown rfl rfl rfl (by decide +kernel) ⟨(Nat.le_of_ble_eq_true rfl), (Nat.le_of_ble_eq_true rfl)⟩) rfl hl rfl (Nat.le_of_ble_eq_true rfl) dL_law_246 ⟨(by dsimp only [room_1]; omega), (by dsimp only [room_1]; omega)⟩ (fun H locs hG hS => ?_)
    refine lv_iload C0.1 C0.2.1 dL_law_249 (lv_at hl 1 rfl) ?_
    refine lv_icmp_eq (tgt := 256) C0.1 C0.2.1 dL_law_251 (by decide) (fun c_a => ?_) (fun c_a => ?_)
    · refine lv_iload C0.1 C0.2.1 dL_law_256 (lv_at hl 1 rfl) ?_
      refine tn_if_ne (tgt := 273) C0.1 C0.2.1 dL_law_258 (by decide) (by have hcm := cdA_le x1 x2 x3 x4 n; omega) (fun c_c => ?_) (fun c_c => ?_)
      · exact absurd hcd (Nat.ne_of_gt c_c)
      · refine lv_aload_n C0.1 C0.2.1 dL_law_261 rfl (lv_at hl 5 rfl) ?_
        refine lv_iconst (v := nI 0) C0.1 C0.2.1 dL_law_262 (by decide) ?_
        refine tc_lald0 (q0 := 10) C0 hG rfl dL_law_263 ?_
        refine lv_topl (fun y8 e8 => ?_)
        have e9 : y8 = (nI (n)).toInt64 := e8.trans pk_uLs
        subst e9
        refine lv_iload C0.1 C0.2.1 dL_law_264 (lv_at hl 0 rfl) ?_
        refine lv_i2l C0.1 C0.2.1 dL_law_266 (v := (nI (n)).toInt64) rfl ?_
        refine W.lcmp C0.1 C0.2.1 dL_law_267 ?_
        refine tc_top (lg_self _) ?_
        refine tn_if_eq (tgt := 273) C0.1 C0.2.1 dL_law_268 (by decide) (by decide) (fun c_d => ?_) (fun c_d => absurd c_d (by decide))
        refine lv_goto (tgt := 1758) C0.1 C0.2.1 dL_law_273 (by decide) ?_
        refine lv_iinc (v := nI (i + 5)) (lv' := [(4, .int (nI (i + 5))), (6, .int (nI (n))), (5, .int (nI (cdA x1 x2 x3 x4 n))), (0, .ref b), (1, .ref h), (2, .ref g), (3, .ref o)]) C0.1 C0.2.1 dL_law_1758 hl (k := 6) rfl (nI_add i 5) (by decide) rfl (fun ls hl => ?_)
        refine lv_goto (tgt := 23) C0.1 C0.2.1 dL_law_1761 (by decide) ?_
        refine W.widen (k := 11 + (i + 5)) (n := 128 + 5 * (i + 5)) (by omega) (by omega) ?_
        have hG := hG.sub (ws' := wT h r1 r2 r3 r4 cI (va_up tk n (ix x1)) (va_up co n (ix x2)) (va_up cn n (ix x3)) (va_up wk n (ix x4)) (n + 1) ho st ct sp ((o, tcO cJ (vp_updL fo 0 ((nI (n)).toInt64))) :: wM g q1 q2 q3 q4 cI (nI 0) (va_up tk n (ix x1)) (va_up co n (ix x2)) (va_up cn n (ix x3)) (va_up wk n (ix x4)) (n + 1) ho st ct sp [])) [5, 6, 7, 8, 9, 10, 0, 1, 2, 3, 4] (by decide) rfl rfl
        exact back (va_up tk n (ix x1)) (va_up co n (ix x2)) (va_up cn n (ix x3)) (va_up wk n (ix x4)) (n + 1) ho st ct sp (nI 0) (vp_updL fo 0 ((nI (n)).toInt64)) hkn _ _ _ hG hS (lv_sub hl [3, 4, 5, 6, 0] rfl)
    · exact absurd (by rw [hcd]) c_a
  · rw [if_neg hcd] at hG
    refine lv_aload_n C0.1 C0.2.1 dL_law_215 rfl (lv_at hl 3 rfl) ?_
    refine lv_aload_n C0.1 C0.2.1 dL_law_216 rfl (lv_at hl 1 rfl) ?_
    refine lv_iload C0.1 C0.2.1 dL_law_217 (lv_at hl 5 rfl) ?_
    refine lv_iconst (v := nI 1) C0.1 C0.2.1 dL_law_219 (by decide) ?_
    refine tn_iadd C0.1 C0.2.1 dL_law_220 ?_
    refine tc_sld C0 hX hbl hS (by omega) hL ex1 dL_law_221 ?_
    refine lv_aload_n C0.1 C0.2.1 dL_law_222 rfl (lv_at hl 1 rfl) ?_
    refine lv_iload C0.1 C0.2.1 dL_law_223 (lv_at hl 5 rfl) ?_
    refine lv_iconst (v := nI 2) C0.1 C0.2.1 dL_law_225 (by decide) ?_
    refine tn_iadd C0.1 C0.2.1 dL_law_226 ?_
    refine tc_sld C0 hX hbl hS (by omega) hL ex2 dL_law_227 ?_
    refine lv_aload_n C0.1 C0.2.1 dL_law_228 rfl (lv_at hl 1 rfl) ?_
    refine lv_iload C0.1 C0.2.1 dL_law_229 (lv_at hl 5 rfl) ?_
    refine lv_iconst (v := nI 3) C0.1 C0.2.1 dL_law_231 (by decide) ?_
    refine tn_iadd C0.1 C0.2.1 dL_law_232 ?_
    refine tc_sld C0 hX hbl hS (by omega) hL ex3 dL_law_233 ?_
    refine lv_aload_n C0.1 C0.2.1 dL_law_234 rfl (lv_at hl 1 rfl) ?_
    refine lv_iload C0.1 C0.2.1 dL_law_235 (lv_at hl 5 rfl) ?_
    refine lv_iconst (v := nI 4) C0.1 C0.2.1 dL_law_237 (by decide) ?_
    refine tn_iadd C0.1 C0.2.1 dL_law_238 ?_
    refine tc_sld C0 hX hbl hS (by omega) hL ex4 dL_law_239 ?_
    have hG := hG.sub (ws' := wM g q1 q2 q3 q4 cI th tk co cn wk n ho st ct sp (wT h r1 r2 r3 r4 cI tk co cn wk n ho st ct sp [(o, tcO cJ fo)])) [6, 7, 8, 9, 10, 0, 1, 2, 3, 4, 5] (by decide) rfl rfl
    refine tc_callV (q0 := 0) (rest := []) C0 hG hS rfl rfl (kX1_addStranger hlf hk x1 x2 x3 x4) (cwV 4 C0.2.2.2.2 gL_law_X1_addStranger rfl rfl rfl (by decide +kernel) ⟨(Nat.le_of_ble_eq_true rfl), (Nat.le_of_ble_eq_true rfl)⟩) rfl hl rfl (Nat.le_of_ble_eq_true rfl) dL_law_240 ⟨(by dsimp only [room_1]; omega), (by dsimp only [room_1]; omega)⟩ (fun H locs hG hS => ?_)
    rw [if_neg hcd] at hG
    have hG : tcG D cI cJ s.heap.size (wM g q1 q2 q3 q4 cI (nI (cdA x1 x2 x3 x4 n)) tk co cn wk n ho st ct sp (wT h r1 r2 r3 r4 cI tk co cn wk n ho st ct sp [(o, tcO cJ fo)])) s H := hG
    refine tc_top (y := nI 0) (if_neg hcd) ?_
    refine lv_istore (lv' := [(6, .int (nI 0)), (5, .int (nI (cdA x1 x2 x3 x4 n))), (0, .ref b), (1, .ref h), (2, .ref g), (3, .ref o), (4, .int (nI i))]) C0.1 C0.2.1 dL_law_243 hl (by decide) rfl (fun ls hl => ?_)
    refine lv_aload_n C0.1 C0.2.1 dL_law_245 rfl (lv_at hl 4 rfl) ?_
    refine tc_callV (q0 := 0) (rest := []) C0 hG hS rfl rfl (kX1_thrown hlf hk ) (cwV 0 C0.2.2.2.2 gL_law_X1_thrown rfl rfl rfl (by decide +kernel) ⟨(Nat.le_of_ble_eq_true rfl), (Nat.le_of_ble_eq_true rfl)⟩) rfl hl rfl (Nat.le_of_ble_eq_true rfl) dL_law_246 ⟨(by dsimp only [room_1]; omega), (by dsimp only [room_1]; omega)⟩ (fun H locs hG hS => ?_)
    refine lv_iload C0.1 C0.2.1 dL_law_249 (lv_at hl 1 rfl) ?_
    refine lv_icmp_eq (tgt := 256) C0.1 C0.2.1 dL_law_251 (by decide) (fun c_a => ?_) (fun c_a => ?_)
    · refine lv_iload C0.1 C0.2.1 dL_law_256 (lv_at hl 1 rfl) ?_
      refine tn_if_ne (tgt := 273) C0.1 C0.2.1 dL_law_258 (by decide) (by have hcm := cdA_le x1 x2 x3 x4 n; omega) (fun c_c => ?_) (fun c_c => ?_)
      · refine lv_goto (tgt := 1758) C0.1 C0.2.1 dL_law_273 (by decide) ?_
        refine lv_iinc (v := nI (i + 5)) (lv' := [(4, .int (nI (i + 5))), (6, .int (nI 0)), (5, .int (nI (cdA x1 x2 x3 x4 n))), (0, .ref b), (1, .ref h), (2, .ref g), (3, .ref o)]) C0.1 C0.2.1 dL_law_1758 hl (k := 6) rfl (nI_add i 5) (by decide) rfl (fun ls hl => ?_)
        refine lv_goto (tgt := 23) C0.1 C0.2.1 dL_law_1761 (by decide) ?_
        refine W.widen (k := 11 + (i + 5)) (n := 128 + 5 * (i + 5)) (by omega) (by omega) ?_
        have hG := hG.sub (ws' := wT h r1 r2 r3 r4 cI tk co cn wk n ho st ct sp ((o, tcO cJ fo) :: wM g q1 q2 q3 q4 cI (nI (cdA x1 x2 x3 x4 n)) tk co cn wk n ho st ct sp [])) [5, 6, 7, 8, 9, 10, 0, 1, 2, 3, 4] (by decide) rfl rfl
        exact back tk co cn wk n ho st ct sp (nI (cdA x1 x2 x3 x4 n)) fo hk _ _ _ hG hS (lv_sub hl [3, 4, 5, 6, 0] rfl)
      · exact absurd c_c hcd
    · exact absurd rfl c_a
set_option maxHeartbeats 4000000 in
set_option maxRecDepth 100000 in
theorem law_case_1 {p : Program} {l : Launch} {e : Env} {s : State} {m : MethodId} {below : List Frame} {meth : Method} {c : Code} {b L : Nat} {xs : Nat → Int32} (hlf : l.stackTraces = false) (C0 : CallFix p m c cL_law 9 s #[Value.ref b] wsL_law RL) (hX : va_X b L xs s s.heap) (hbl : b < s.heap.size) (hL : L ≤ 2560) {D : va_G} {cI cJ : ClassId} {h r1 r2 r3 r4 o g q1 q2 q3 q4 : Nat} {tk co cn wk : Nat → Nat} {n st : Nat} {ho ct sp th : Int32} {fo : Nat → Int64} (hk : tOk tk co cn wk n st) {i : Nat} (hi : i + 5 ≤ L) {H : Heap} {locs : List Loc} {ls : Array Slot} (hG : tcG D cI cJ s.heap.size (wT h r1 r2 r3 r4 cI tk co cn wk n ho st ct sp ((o, tcO cJ fo) :: wM g q1 q2 q3 q4 cI th tk co cn wk n ho st ct sp [])) s H) (hS : va_S (tcA s.heap.size) s.heap H locs) (hl : lv_has ls 9 [(0, .ref b), (1, .ref h), (2, .ref g), (3, .ref o), (4, .int (nI i))])
    (back : ∀ (tk co cn wk : Nat → Nat) (n : Nat) (ho : Int32) (st : Nat) (ct sp th : Int32) (fo : Nat → Int64), tOk tk co cn wk n st → ∀ (H : Heap) (locs : List Loc) (ls : Array Slot), tcG D cI cJ s.heap.size (wT h r1 r2 r3 r4 cI tk co cn wk n ho st ct sp ((o, tcO cJ fo) :: wM g q1 q2 q3 q4 cI th tk co cn wk n ho st ct sp [])) s H → va_S (tcA s.heap.size) s.heap H locs → lv_has ls 9 [(0, .ref b), (1, .ref h), (2, .ref g), (3, .ref o), (4, .int (nI (i + 5)))] → W p l e room_1 s m #[Value.ref b] below meth c H locs (11 + (i + 5)) (128 + 5 * (i + 5)) (lw_Z below #[Value.ref b] s) (F0 m 23 ls [])) : W p l e room_1 s m #[Value.ref b] below meth c H locs (11 + i) (128 + 5 * i) (lw_Z below #[Value.ref b] s) (F0 m 276 ls []) := by
  obtain ⟨x1, ex1⟩ : ∃ y, y = xs (i + 1) := ⟨_, rfl⟩
  obtain ⟨x2, ex2⟩ : ∃ y, y = xs (i + 2) := ⟨_, rfl⟩
  refine lv_aload_n C0.1 C0.2.1 dL_law_276 rfl (lv_at hl 1 rfl) ?_
  refine lv_aload_n C0.1 C0.2.1 dL_law_277 rfl (lv_at hl 0 rfl) ?_
  refine lv_iload C0.1 C0.2.1 dL_law_278 (lv_at hl 4 rfl) ?_
  refine lv_iconst (v := nI 1) C0.1 C0.2.1 dL_law_280 (by decide) ?_
  refine tn_iadd C0.1 C0.2.1 dL_law_281 ?_
  refine tc_sld C0 hX hbl hS (by omega) hL ex1 dL_law_282 ?_
  refine lv_aload_n C0.1 C0.2.1 dL_law_283 rfl (lv_at hl 0 rfl) ?_
  refine lv_iload C0.1 C0.2.1 dL_law_284 (lv_at hl 4 rfl) ?_
  refine lv_iconst (v := nI 2) C0.1 C0.2.1 dL_law_286 (by decide) ?_
  refine tn_iadd C0.1 C0.2.1 dL_law_287 ?_
  refine tc_sld C0 hX hbl hS (by omega) hL ex2 dL_law_288 ?_
  refine lv_aload_n C0.1 C0.2.1 dL_law_289 rfl (lv_at hl 3 rfl) ?_
  refine tc_callSW (rest := []) C0 hG hS (kL_setWalk hlf hk x1 x2) (vx_cwSW 4 C0.2.2.2.2 gL_law_L_setWalk rfl rfl rfl (by decide +kernel) ⟨(Nat.le_of_ble_eq_true rfl), (Nat.le_of_ble_eq_true rfl)⟩) rfl hl rfl (Nat.le_of_ble_eq_true rfl) dL_law_290 ⟨(by dsimp only [room_1]; omega), (by dsimp only [room_1]; omega)⟩ (fun H locs hG hS => ?_)
  refine lv_istore (lv' := [(5, .int (nI (cdK x1 n x2 6))), (0, .ref b), (1, .ref h), (2, .ref g), (3, .ref o), (4, .int (nI i))]) C0.1 C0.2.1 dL_law_293 hl (by decide) rfl (fun ls hl => ?_)
  by_cases hcd : cdK x1 n x2 6 = 0
  · rw [if_pos hcd] at hG
    have hkn := sv_setWalk hk hcd
    refine lv_aload_n C0.1 C0.2.1 dL_law_295 rfl (lv_at hl 3 rfl) ?_
    refine lv_aload_n C0.1 C0.2.1 dL_law_296 rfl (lv_at hl 1 rfl) ?_
    refine lv_iload C0.1 C0.2.1 dL_law_297 (lv_at hl 5 rfl) ?_
    refine lv_iconst (v := nI 1) C0.1 C0.2.1 dL_law_299 (by decide) ?_
    refine tn_iadd C0.1 C0.2.1 dL_law_300 ?_
    refine tc_sld C0 hX hbl hS (by omega) hL ex1 dL_law_301 ?_
    refine lv_aload_n C0.1 C0.2.1 dL_law_302 rfl (lv_at hl 1 rfl) ?_
    refine lv_iload C0.1 C0.2.1 dL_law_303 (lv_at hl 5 rfl) ?_
    refine lv_iconst (v := nI 2) C0.1 C0.2.1 dL_law_305 (by decide) ?_
    refine tn_iadd C0.1 C0.2.1 dL_law_306 ?_
    refine tc_sld C0 hX hbl hS (by omega) hL ex2 dL_law_307 ?_
    have hG := hG.sub (ws' := wM g q1 q2 q3 q4 cI th tk co cn wk n ho st ct sp (wT h r1 r2 r3 r4 cI tk co cn (va_up wk (ix x1) (ix x2)) n ho st ct sp [(o, tcO cJ (vp_updL fo 0 ((nI (wk (ix x1))).toInt64)))])) [6, 7, 8, 9, 10, 0, 1, 2, 3, 4, 5] (by decide) rfl rfl
    refine tc_callV (q0 := 0) (rest := []) C0 hG hS rfl rfl (kX1_setWalk hlf hk x1 x2) (cwV 2 C0.2.2.2.2 gL_law_X1_setWalk rfl rfl rfl (by decide +kernel) ⟨(Nat.le_of_ble_eq_true rfl), (Nat.le_of_ble_eq_true rfl)⟩) rfl hl rfl (Nat.le_of_ble_eq_true rfl) dL_law_308 ⟨(by dsimp only [room_1]; omega), (by dsimp only [room_1]; omega)⟩ (fun H locs hG hS => ?_)
    rw [if_pos hcd] at hG
    have hG : tcG D cI cJ s.heap.size (wM g q1 q2 q3 q4 cI (nI 0) tk co cn (va_up wk (ix x1) (ix x2)) n ho st ct sp (wT h r1 r2 r3 r4 cI tk co cn (va_up wk (ix x1) (ix x2)) n ho st ct sp [(o, tcO cJ (vp_updL fo 0 ((nI (wk (ix x1))).toInt64)))])) s H := hG
    refine tc_top (y := nI (wk (ix x1))) (if_pos hcd) ?_
    refine lv_istore (lv' := [(6, .int (nI (wk (ix x1)))), (5, .int (nI (cdK x1 n x2 6))), (0, .ref b), (1, .ref h), (2, .ref g), (3, .ref o), (4, .int (nI i))]) C0.1 C0.2.1 dL_law_311 hl (by decide) rfl (fun ls hl => ?_)
    refine lv_aload_n C0.1 C0.2.1 dL_law_313 rfl (lv_at hl 4 rfl) ?_
    refine tc_callV (q0 := 0) (rest := []) C0 hG hS rfl rfl (kX1_thrown hlf hkn ) (cwV 0 C0.2.2.2.2 gL_law_X1_thrown rfl rfl rfl (by decide +kernel) ⟨(Nat.le_of_ble_eq_true rfl), (Nat.le_of_ble_eq_true rfl)⟩) rfl hl rfl (Nat.le_of_ble_eq_true rfl) dL_law_314 ⟨(by dsimp only [room_1]; omega), (by dsimp only [room_1]; omega)⟩ (fun H locs hG hS => ?_)
    refine lv_iload C0.1 C0.2.1 dL_law_317 (lv_at hl 1 rfl) ?_
    refine lv_icmp_eq (tgt := 324) C0.1 C0.2.1 dL_law_319 (by decide) (fun c_a => ?_) (fun c_a => ?_)
    · refine lv_iload C0.1 C0.2.1 dL_law_324 (lv_at hl 1 rfl) ?_
      refine tn_if_ne (tgt := 341) C0.1 C0.2.1 dL_law_326 (by decide) (by have hcm := cdK_le x1 n x2 6; omega) (fun c_c => ?_) (fun c_c => ?_)
      · exact absurd hcd (Nat.ne_of_gt c_c)
      · refine lv_aload_n C0.1 C0.2.1 dL_law_329 rfl (lv_at hl 5 rfl) ?_
        refine lv_iconst (v := nI 0) C0.1 C0.2.1 dL_law_330 (by decide) ?_
        refine tc_lald0 (q0 := 10) C0 hG rfl dL_law_331 ?_
        refine lv_topl (fun y8 e8 => ?_)
        have e9 : y8 = (nI (wk (ix x1))).toInt64 := e8.trans pk_uLs
        subst e9
        refine lv_iload C0.1 C0.2.1 dL_law_332 (lv_at hl 0 rfl) ?_
        refine lv_i2l C0.1 C0.2.1 dL_law_334 (v := (nI (wk (ix x1))).toInt64) rfl ?_
        refine W.lcmp C0.1 C0.2.1 dL_law_335 ?_
        refine tc_top (lg_self _) ?_
        refine tn_if_eq (tgt := 341) C0.1 C0.2.1 dL_law_336 (by decide) (by decide) (fun c_d => ?_) (fun c_d => absurd c_d (by decide))
        refine lv_goto (tgt := 1758) C0.1 C0.2.1 dL_law_341 (by decide) ?_
        refine lv_iinc (v := nI (i + 5)) (lv' := [(4, .int (nI (i + 5))), (6, .int (nI (wk (ix x1)))), (5, .int (nI (cdK x1 n x2 6))), (0, .ref b), (1, .ref h), (2, .ref g), (3, .ref o)]) C0.1 C0.2.1 dL_law_1758 hl (k := 6) rfl (nI_add i 5) (by decide) rfl (fun ls hl => ?_)
        refine lv_goto (tgt := 23) C0.1 C0.2.1 dL_law_1761 (by decide) ?_
        refine W.widen (k := 11 + (i + 5)) (n := 128 + 5 * (i + 5)) (by omega) (by omega) ?_
        have hG := hG.sub (ws' := wT h r1 r2 r3 r4 cI tk co cn (va_up wk (ix x1) (ix x2)) n ho st ct sp ((o, tcO cJ (vp_updL fo 0 ((nI (wk (ix x1))).toInt64))) :: wM g q1 q2 q3 q4 cI (nI 0) tk co cn (va_up wk (ix x1) (ix x2)) n ho st ct sp [])) [5, 6, 7, 8, 9, 10, 0, 1, 2, 3, 4] (by decide) rfl rfl
        exact back tk co cn (va_up wk (ix x1) (ix x2)) n ho st ct sp (nI 0) (vp_updL fo 0 ((nI (wk (ix x1))).toInt64)) hkn _ _ _ hG hS (lv_sub hl [3, 4, 5, 6, 0] rfl)
    · exact absurd (by rw [hcd]) c_a
  · rw [if_neg hcd] at hG
    refine lv_aload_n C0.1 C0.2.1 dL_law_295 rfl (lv_at hl 3 rfl) ?_
    refine lv_aload_n C0.1 C0.2.1 dL_law_296 rfl (lv_at hl 1 rfl) ?_
    refine lv_iload C0.1 C0.2.1 dL_law_297 (lv_at hl 5 rfl) ?_
    refine lv_iconst (v := nI 1) C0.1 C0.2.1 dL_law_299 (by decide) ?_
    refine tn_iadd C0.1 C0.2.1 dL_law_300 ?_
    refine tc_sld C0 hX hbl hS (by omega) hL ex1 dL_law_301 ?_
    refine lv_aload_n C0.1 C0.2.1 dL_law_302 rfl (lv_at hl 1 rfl) ?_
    refine lv_iload C0.1 C0.2.1 dL_law_303 (lv_at hl 5 rfl) ?_
    refine lv_iconst (v := nI 2) C0.1 C0.2.1 dL_law_305 (by decide) ?_
    refine tn_iadd C0.1 C0.2.1 dL_law_306 ?_
    refine tc_sld C0 hX hbl hS (by omega) hL ex2 dL_law_307 ?_
    have hG := hG.sub (ws' := wM g q1 q2 q3 q4 cI th tk co cn wk n ho st ct sp (wT h r1 r2 r3 r4 cI tk co cn wk n ho st ct sp [(o, tcO cJ fo)])) [6, 7, 8, 9, 10, 0, 1, 2, 3, 4, 5] (by decide) rfl rfl
    refine tc_callV (q0 := 0) (rest := []) C0 hG hS rfl rfl (kX1_setWalk hlf hk x1 x2) (cwV 2 C0.2.2.2.2 gL_law_X1_setWalk rfl rfl rfl (by decide +kernel) ⟨(Nat.le_of_ble_eq_true rfl), (Nat.le_of_ble_eq_true rfl)⟩) rfl hl rfl (Nat.le_of_ble_eq_true rfl) dL_law_308 ⟨(by dsimp only [room_1]; omega), (by dsimp only [room_1]; omega)⟩ (fun H locs hG hS => ?_)
    rw [if_neg hcd] at hG
    have hG : tcG D cI cJ s.heap.size (wM g q1 q2 q3 q4 cI (nI (cdK x1 n x2 6)) tk co cn wk n ho st ct sp (wT h r1 r2 r3 r4 cI tk co cn wk n ho st ct sp [(o, tcO cJ fo)])) s H := hG
    refine tc_top (y := nI 0) (if_neg hcd) ?_
    refine lv_istore (lv' := [(6, .int (nI 0)), (5, .int (nI (cdK x1 n x2 6))), (0, .ref b), (1, .ref h), (2, .ref g), (3, .ref o), (4, .int (nI i))]) C0.1 C0.2.1 dL_law_311 hl (by decide) rfl (fun ls hl => ?_)
    refine lv_aload_n C0.1 C0.2.1 dL_law_313 rfl (lv_at hl 4 rfl) ?_
    refine tc_callV (q0 := 0) (rest := []) C0 hG hS rfl rfl (kX1_thrown hlf hk ) (cwV 0 C0.2.2.2.2 gL_law_X1_thrown rfl rfl rfl (by decide +kernel) ⟨(Nat.le_of_ble_eq_true rfl), (Nat.le_of_ble_eq_true rfl)⟩) rfl hl rfl (Nat.le_of_ble_eq_true rfl) dL_law_314 ⟨(by dsimp only [room_1]; omega), (by dsimp only [room_1]; omega)⟩ (fun H locs hG hS => ?_)
    refine lv_iload C0.1 C0.2.1 dL_law_317 (lv_at hl 1 rfl) ?_
    refine lv_icmp_eq (tgt := 324) C0.1 C0.2.1 dL_law_319 (by decide) (fun c_a => ?_) (fun c_a => ?_)
    · refine lv_iload C0.1 C0.2.1 dL_law_324 (lv_at hl 1 rfl) ?_
      refine tn_if_ne (tgt := 341) C0.1 C0.2.1 dL_law_326 (by decide) (by have hcm := cdK_le x1 n x2 6; omega) (fun c_c => ?_) (fun c_c => ?_)
      · refine lv_goto (tgt := 1758) C0.1 C0.2.1 dL_law_341 (by decide) ?_
        refine lv_iinc (v := nI (i + 5)) (lv' := [(4, .int (nI (i + 5))), (6, .int (nI 0)), (5, .int (nI (cdK x1 n x2 6))), (0, .ref b), (1, .ref h), (2, .ref g), (3, .ref o)]) C0.1 C0.2.1 dL_law_1758 hl (k := 6) rfl (nI_add i 5) (by decide) rfl (fun ls hl => ?_)
        refine lv_goto (tgt := 23) C0.1 C0.2.1 dL_law_1761 (by decide) ?_
        refine W.widen (k := 11 + (i + 5)) (n := 128 + 5 * (i + 5)) (by omega) (by omega) ?_
        have hG := hG.sub (ws' := wT h r1 r2 r3 r4 cI tk co cn wk n ho st ct sp ((o, tcO cJ fo) :: wM g q1 q2 q3 q4 cI (nI (cdK x1 n x2 6)) tk co cn wk n ho st ct sp [])) [5, 6, 7, 8, 9, 10, 0, 1, 2, 3, 4] (by decide) rfl rfl
        exact back tk co cn wk n ho st ct sp (nI (cdK x1 n x2 6)) fo hk _ _ _ hG hS (lv_sub hl [3, 4, 5, 6, 0] rfl)
      · exact absurd c_c hcd
    · exact absurd rfl c_a
set_option maxHeartbeats 4000000 in
set_option maxRecDepth 100000 in
theorem law_case_2 {p : Program} {l : Launch} {e : Env} {s : State} {m : MethodId} {below : List Frame} {meth : Method} {c : Code} {b L : Nat} {xs : Nat → Int32} (hlf : l.stackTraces = false) (C0 : CallFix p m c cL_law 9 s #[Value.ref b] wsL_law RL) (hX : va_X b L xs s s.heap) (hbl : b < s.heap.size) (hL : L ≤ 2560) {D : va_G} {cI cJ : ClassId} {h r1 r2 r3 r4 o g q1 q2 q3 q4 : Nat} {tk co cn wk : Nat → Nat} {n st : Nat} {ho ct sp th : Int32} {fo : Nat → Int64} (hk : tOk tk co cn wk n st) {i : Nat} (hi : i + 5 ≤ L) {H : Heap} {locs : List Loc} {ls : Array Slot} (hG : tcG D cI cJ s.heap.size (wT h r1 r2 r3 r4 cI tk co cn wk n ho st ct sp ((o, tcO cJ fo) :: wM g q1 q2 q3 q4 cI th tk co cn wk n ho st ct sp [])) s H) (hS : va_S (tcA s.heap.size) s.heap H locs) (hl : lv_has ls 9 [(0, .ref b), (1, .ref h), (2, .ref g), (3, .ref o), (4, .int (nI i))])
    (back : ∀ (tk co cn wk : Nat → Nat) (n : Nat) (ho : Int32) (st : Nat) (ct sp th : Int32) (fo : Nat → Int64), tOk tk co cn wk n st → ∀ (H : Heap) (locs : List Loc) (ls : Array Slot), tcG D cI cJ s.heap.size (wT h r1 r2 r3 r4 cI tk co cn wk n ho st ct sp ((o, tcO cJ fo) :: wM g q1 q2 q3 q4 cI th tk co cn wk n ho st ct sp [])) s H → va_S (tcA s.heap.size) s.heap H locs → lv_has ls 9 [(0, .ref b), (1, .ref h), (2, .ref g), (3, .ref o), (4, .int (nI (i + 5)))] → W p l e room_1 s m #[Value.ref b] below meth c H locs (11 + (i + 5)) (128 + 5 * (i + 5)) (lw_Z below #[Value.ref b] s) (F0 m 23 ls [])) : W p l e room_1 s m #[Value.ref b] below meth c H locs (11 + i) (128 + 5 * i) (lw_Z below #[Value.ref b] s) (F0 m 344 ls []) := by
  obtain ⟨x1, ex1⟩ : ∃ y, y = xs (i + 1) := ⟨_, rfl⟩
  obtain ⟨x2, ex2⟩ : ∃ y, y = xs (i + 2) := ⟨_, rfl⟩
  refine lv_aload_n C0.1 C0.2.1 dL_law_344 rfl (lv_at hl 1 rfl) ?_
  refine lv_aload_n C0.1 C0.2.1 dL_law_345 rfl (lv_at hl 0 rfl) ?_
  refine lv_iload C0.1 C0.2.1 dL_law_346 (lv_at hl 4 rfl) ?_
  refine lv_iconst (v := nI 1) C0.1 C0.2.1 dL_law_348 (by decide) ?_
  refine tn_iadd C0.1 C0.2.1 dL_law_349 ?_
  refine tc_sld C0 hX hbl hS (by omega) hL ex1 dL_law_350 ?_
  refine lv_aload_n C0.1 C0.2.1 dL_law_351 rfl (lv_at hl 0 rfl) ?_
  refine lv_iload C0.1 C0.2.1 dL_law_352 (lv_at hl 4 rfl) ?_
  refine lv_iconst (v := nI 2) C0.1 C0.2.1 dL_law_354 (by decide) ?_
  refine tn_iadd C0.1 C0.2.1 dL_law_355 ?_
  refine tc_sld C0 hX hbl hS (by omega) hL ex2 dL_law_356 ?_
  refine lv_aload_n C0.1 C0.2.1 dL_law_357 rfl (lv_at hl 3 rfl) ?_
  refine tc_callSW (rest := []) C0 hG hS (kL_move hlf hk x1 x2) (vx_cwSW 4 C0.2.2.2.2 gL_law_L_move rfl rfl rfl (by decide +kernel) ⟨(Nat.le_of_ble_eq_true rfl), (Nat.le_of_ble_eq_true rfl)⟩) rfl hl rfl (Nat.le_of_ble_eq_true rfl) dL_law_358 ⟨(by dsimp only [room_1]; omega), (by dsimp only [room_1]; omega)⟩ (fun H locs hG hS => ?_)
  refine lv_istore (lv' := [(5, .int (nI (cdMv x1 x2 cn n st))), (0, .ref b), (1, .ref h), (2, .ref g), (3, .ref o), (4, .int (nI i))]) C0.1 C0.2.1 dL_law_361 hl (by decide) rfl (fun ls hl => ?_)
  by_cases hcd : cdMv x1 x2 cn n st = 0
  · rw [if_pos hcd] at hG
    have hkn := sv_move hk hcd
    refine lv_aload_n C0.1 C0.2.1 dL_law_363 rfl (lv_at hl 3 rfl) ?_
    refine lv_aload_n C0.1 C0.2.1 dL_law_364 rfl (lv_at hl 1 rfl) ?_
    refine lv_iload C0.1 C0.2.1 dL_law_365 (lv_at hl 5 rfl) ?_
    refine lv_iconst (v := nI 1) C0.1 C0.2.1 dL_law_367 (by decide) ?_
    refine tn_iadd C0.1 C0.2.1 dL_law_368 ?_
    refine tc_sld C0 hX hbl hS (by omega) hL ex1 dL_law_369 ?_
    refine lv_aload_n C0.1 C0.2.1 dL_law_370 rfl (lv_at hl 1 rfl) ?_
    refine lv_iload C0.1 C0.2.1 dL_law_371 (lv_at hl 5 rfl) ?_
    refine lv_iconst (v := nI 2) C0.1 C0.2.1 dL_law_373 (by decide) ?_
    refine tn_iadd C0.1 C0.2.1 dL_law_374 ?_
    refine tc_sld C0 hX hbl hS (by omega) hL ex2 dL_law_375 ?_
    have hG := hG.sub (ws' := wM g q1 q2 q3 q4 cI th tk co cn wk n ho st ct sp (wT h r1 r2 r3 r4 cI tk co (va_up cn (ix x1) (ix x2)) wk n ho (st - way (cn (ix x1)) (ix x2)) ct (sp + nI (way (cn (ix x1)) (ix x2))) [(o, tcO cJ (vp_updL fo 0 ((nI (way (cn (ix x1)) (ix x2))).toInt64)))])) [6, 7, 8, 9, 10, 0, 1, 2, 3, 4, 5] (by decide) rfl rfl
    refine tc_callV (q0 := 0) (rest := []) C0 hG hS rfl rfl (kX1_move hlf hk x1 x2) (cwV 2 C0.2.2.2.2 gL_law_X1_move rfl rfl rfl (by decide +kernel) ⟨(Nat.le_of_ble_eq_true rfl), (Nat.le_of_ble_eq_true rfl)⟩) rfl hl rfl (Nat.le_of_ble_eq_true rfl) dL_law_376 ⟨(by dsimp only [room_1]; omega), (by dsimp only [room_1]; omega)⟩ (fun H locs hG hS => ?_)
    rw [if_pos hcd] at hG
    have hG : tcG D cI cJ s.heap.size (wM g q1 q2 q3 q4 cI (nI 0) tk co (va_up cn (ix x1) (ix x2)) wk n ho (st - way (cn (ix x1)) (ix x2)) ct (sp + nI (way (cn (ix x1)) (ix x2))) (wT h r1 r2 r3 r4 cI tk co (va_up cn (ix x1) (ix x2)) wk n ho (st - way (cn (ix x1)) (ix x2)) ct (sp + nI (way (cn (ix x1)) (ix x2))) [(o, tcO cJ (vp_updL fo 0 ((nI (way (cn (ix x1)) (ix x2))).toInt64)))])) s H := hG
    refine tc_top (y := nI (way (cn (ix x1)) (ix x2))) (if_pos hcd) ?_
    refine lv_istore (lv' := [(6, .int (nI (way (cn (ix x1)) (ix x2)))), (5, .int (nI (cdMv x1 x2 cn n st))), (0, .ref b), (1, .ref h), (2, .ref g), (3, .ref o), (4, .int (nI i))]) C0.1 C0.2.1 dL_law_379 hl (by decide) rfl (fun ls hl => ?_)
    refine lv_aload_n C0.1 C0.2.1 dL_law_381 rfl (lv_at hl 4 rfl) ?_
    refine tc_callV (q0 := 0) (rest := []) C0 hG hS rfl rfl (kX1_thrown hlf hkn ) (cwV 0 C0.2.2.2.2 gL_law_X1_thrown rfl rfl rfl (by decide +kernel) ⟨(Nat.le_of_ble_eq_true rfl), (Nat.le_of_ble_eq_true rfl)⟩) rfl hl rfl (Nat.le_of_ble_eq_true rfl) dL_law_382 ⟨(by dsimp only [room_1]; omega), (by dsimp only [room_1]; omega)⟩ (fun H locs hG hS => ?_)
    refine lv_iload C0.1 C0.2.1 dL_law_385 (lv_at hl 1 rfl) ?_
    refine lv_icmp_eq (tgt := 392) C0.1 C0.2.1 dL_law_387 (by decide) (fun c_a => ?_) (fun c_a => ?_)
    · refine lv_iload C0.1 C0.2.1 dL_law_392 (lv_at hl 1 rfl) ?_
      refine tn_if_ne (tgt := 409) C0.1 C0.2.1 dL_law_394 (by decide) (by have hcm := cdMv_le x1 x2 cn n st; omega) (fun c_c => ?_) (fun c_c => ?_)
      · exact absurd hcd (Nat.ne_of_gt c_c)
      · refine lv_aload_n C0.1 C0.2.1 dL_law_397 rfl (lv_at hl 5 rfl) ?_
        refine lv_iconst (v := nI 0) C0.1 C0.2.1 dL_law_398 (by decide) ?_
        refine tc_lald0 (q0 := 10) C0 hG rfl dL_law_399 ?_
        refine lv_topl (fun y8 e8 => ?_)
        have e9 : y8 = (nI (way (cn (ix x1)) (ix x2))).toInt64 := e8.trans pk_uLs
        subst e9
        refine lv_iload C0.1 C0.2.1 dL_law_400 (lv_at hl 0 rfl) ?_
        refine lv_i2l C0.1 C0.2.1 dL_law_402 (v := (nI (way (cn (ix x1)) (ix x2))).toInt64) rfl ?_
        refine W.lcmp C0.1 C0.2.1 dL_law_403 ?_
        refine tc_top (lg_self _) ?_
        refine tn_if_eq (tgt := 409) C0.1 C0.2.1 dL_law_404 (by decide) (by decide) (fun c_d => ?_) (fun c_d => absurd c_d (by decide))
        refine lv_goto (tgt := 1758) C0.1 C0.2.1 dL_law_409 (by decide) ?_
        refine lv_iinc (v := nI (i + 5)) (lv' := [(4, .int (nI (i + 5))), (6, .int (nI (way (cn (ix x1)) (ix x2)))), (5, .int (nI (cdMv x1 x2 cn n st))), (0, .ref b), (1, .ref h), (2, .ref g), (3, .ref o)]) C0.1 C0.2.1 dL_law_1758 hl (k := 6) rfl (nI_add i 5) (by decide) rfl (fun ls hl => ?_)
        refine lv_goto (tgt := 23) C0.1 C0.2.1 dL_law_1761 (by decide) ?_
        refine W.widen (k := 11 + (i + 5)) (n := 128 + 5 * (i + 5)) (by omega) (by omega) ?_
        have hG := hG.sub (ws' := wT h r1 r2 r3 r4 cI tk co (va_up cn (ix x1) (ix x2)) wk n ho (st - way (cn (ix x1)) (ix x2)) ct (sp + nI (way (cn (ix x1)) (ix x2))) ((o, tcO cJ (vp_updL fo 0 ((nI (way (cn (ix x1)) (ix x2))).toInt64))) :: wM g q1 q2 q3 q4 cI (nI 0) tk co (va_up cn (ix x1) (ix x2)) wk n ho (st - way (cn (ix x1)) (ix x2)) ct (sp + nI (way (cn (ix x1)) (ix x2))) [])) [5, 6, 7, 8, 9, 10, 0, 1, 2, 3, 4] (by decide) rfl rfl
        exact back tk co (va_up cn (ix x1) (ix x2)) wk n ho (st - way (cn (ix x1)) (ix x2)) ct (sp + nI (way (cn (ix x1)) (ix x2))) (nI 0) (vp_updL fo 0 ((nI (way (cn (ix x1)) (ix x2))).toInt64)) hkn _ _ _ hG hS (lv_sub hl [3, 4, 5, 6, 0] rfl)
    · exact absurd (by rw [hcd]) c_a
  · rw [if_neg hcd] at hG
    refine lv_aload_n C0.1 C0.2.1 dL_law_363 rfl (lv_at hl 3 rfl) ?_
    refine lv_aload_n C0.1 C0.2.1 dL_law_364 rfl (lv_at hl 1 rfl) ?_
    refine lv_iload C0.1 C0.2.1 dL_law_365 (lv_at hl 5 rfl) ?_
    refine lv_iconst (v := nI 1) C0.1 C0.2.1 dL_law_367 (by decide) ?_
    refine tn_iadd C0.1 C0.2.1 dL_law_368 ?_
    refine tc_sld C0 hX hbl hS (by omega) hL ex1 dL_law_369 ?_
    refine lv_aload_n C0.1 C0.2.1 dL_law_370 rfl (lv_at hl 1 rfl) ?_
    refine lv_iload C0.1 C0.2.1 dL_law_371 (lv_at hl 5 rfl) ?_
    refine lv_iconst (v := nI 2) C0.1 C0.2.1 dL_law_373 (by decide) ?_
    refine tn_iadd C0.1 C0.2.1 dL_law_374 ?_
    refine tc_sld C0 hX hbl hS (by omega) hL ex2 dL_law_375 ?_
    have hG := hG.sub (ws' := wM g q1 q2 q3 q4 cI th tk co cn wk n ho st ct sp (wT h r1 r2 r3 r4 cI tk co cn wk n ho st ct sp [(o, tcO cJ fo)])) [6, 7, 8, 9, 10, 0, 1, 2, 3, 4, 5] (by decide) rfl rfl
    refine tc_callV (q0 := 0) (rest := []) C0 hG hS rfl rfl (kX1_move hlf hk x1 x2) (cwV 2 C0.2.2.2.2 gL_law_X1_move rfl rfl rfl (by decide +kernel) ⟨(Nat.le_of_ble_eq_true rfl), (Nat.le_of_ble_eq_true rfl)⟩) rfl hl rfl (Nat.le_of_ble_eq_true rfl) dL_law_376 ⟨(by dsimp only [room_1]; omega), (by dsimp only [room_1]; omega)⟩ (fun H locs hG hS => ?_)
    rw [if_neg hcd] at hG
    have hG : tcG D cI cJ s.heap.size (wM g q1 q2 q3 q4 cI (nI (cdMv x1 x2 cn n st)) tk co cn wk n ho st ct sp (wT h r1 r2 r3 r4 cI tk co cn wk n ho st ct sp [(o, tcO cJ fo)])) s H := hG
    refine tc_top (y := nI 0) (if_neg hcd) ?_
    refine lv_istore (lv' := [(6, .int (nI 0)), (5, .int (nI (cdMv x1 x2 cn n st))), (0, .ref b), (1, .ref h), (2, .ref g), (3, .ref o), (4, .int (nI i))]) C0.1 C0.2.1 dL_law_379 hl (by decide) rfl (fun ls hl => ?_)
    refine lv_aload_n C0.1 C0.2.1 dL_law_381 rfl (lv_at hl 4 rfl) ?_
    refine tc_callV (q0 := 0) (rest := []) C0 hG hS rfl rfl (kX1_thrown hlf hk ) (cwV 0 C0.2.2.2.2 gL_law_X1_thrown rfl rfl rfl (by decide +kernel) ⟨(Nat.le_of_ble_eq_true rfl), (Nat.le_of_ble_eq_true rfl)⟩) rfl hl rfl (Nat.le_of_ble_eq_true rfl) dL_law_382 ⟨(by dsimp only [room_1]; omega), (by dsimp only [room_1]; omega)⟩ (fun H locs hG hS => ?_)
    refine lv_iload C0.1 C0.2.1 dL_law_385 (lv_at hl 1 rfl) ?_
    refine lv_icmp_eq (tgt := 392) C0.1 C0.2.1 dL_law_387 (by decide) (fun c_a => ?_) (fun c_a => ?_)
    · refine lv_iload C0.1 C0.2.1 dL_law_392 (lv_at hl 1 rfl) ?_
      refine tn_if_ne (tgt := 409) C0.1 C0.2.1 dL_law_394 (by decide) (by have hcm := cdMv_le x1 x2 cn n st; omega) (fun c_c => ?_) (fun c_c => ?_)
      · refine lv_goto (tgt := 1758) C0.1 C0.2.1 dL_law_409 (by decide) ?_
        refine lv_iinc (v := nI (i + 5)) (lv' := [(4, .int (nI (i + 5))), (6, .int (nI 0)), (5, .int (nI (cdMv x1 x2 cn n st))), (0, .ref b), (1, .ref h), (2, .ref g), (3, .ref o)]) C0.1 C0.2.1 dL_law_1758 hl (k := 6) rfl (nI_add i 5) (by decide) rfl (fun ls hl => ?_)
        refine lv_goto (tgt := 23) C0.1 C0.2.1 dL_law_1761 (by decide) ?_
        refine W.widen (k := 11 + (i + 5)) (n := 128 + 5 * (i + 5)) (by omega) (by omega) ?_
        have hG := hG.sub (ws' := wT h r1 r2 r3 r4 cI tk co cn wk n ho st ct sp ((o, tcO cJ fo) :: wM g q1 q2 q3 q4 cI (nI (cdMv x1 x2 cn n st)) tk co cn wk n ho st ct sp [])) [5, 6, 7, 8, 9, 10, 0, 1, 2, 3, 4] (by decide) rfl rfl
        exact back tk co cn wk n ho st ct sp (nI (cdMv x1 x2 cn n st)) fo hk _ _ _ hG hS (lv_sub hl [3, 4, 5, 6, 0] rfl)
      · exact absurd c_c hcd
    · exact absurd rfl c_a
set_option maxHeartbeats 4000000 in
set_option maxRecDepth 100000 in
theorem law_case_3 {p : Program} {l : Launch} {e : Env} {s : State} {m : MethodId} {below : List Frame} {meth : Method} {c : Code} {b L : Nat} {xs : Nat → Int32} (hlf : l.stackTraces = false) (C0 : CallFix p m c cL_law 9 s #[Value.ref b] wsL_law RL) (hX : va_X b L xs s s.heap) (hbl : b < s.heap.size) (hL : L ≤ 2560) {D : va_G} {cI cJ : ClassId} {h r1 r2 r3 r4 o g q1 q2 q3 q4 : Nat} {tk co cn wk : Nat → Nat} {n st : Nat} {ho ct sp th : Int32} {fo : Nat → Int64} (hk : tOk tk co cn wk n st) {i : Nat} (hi : i + 5 ≤ L) {H : Heap} {locs : List Loc} {ls : Array Slot} (hG : tcG D cI cJ s.heap.size (wT h r1 r2 r3 r4 cI tk co cn wk n ho st ct sp ((o, tcO cJ fo) :: wM g q1 q2 q3 q4 cI th tk co cn wk n ho st ct sp [])) s H) (hS : va_S (tcA s.heap.size) s.heap H locs) (hl : lv_has ls 9 [(0, .ref b), (1, .ref h), (2, .ref g), (3, .ref o), (4, .int (nI i))])
    (back : ∀ (tk co cn wk : Nat → Nat) (n : Nat) (ho : Int32) (st : Nat) (ct sp th : Int32) (fo : Nat → Int64), tOk tk co cn wk n st → ∀ (H : Heap) (locs : List Loc) (ls : Array Slot), tcG D cI cJ s.heap.size (wT h r1 r2 r3 r4 cI tk co cn wk n ho st ct sp ((o, tcO cJ fo) :: wM g q1 q2 q3 q4 cI th tk co cn wk n ho st ct sp [])) s H → va_S (tcA s.heap.size) s.heap H locs → lv_has ls 9 [(0, .ref b), (1, .ref h), (2, .ref g), (3, .ref o), (4, .int (nI (i + 5)))] → W p l e room_1 s m #[Value.ref b] below meth c H locs (11 + (i + 5)) (128 + 5 * (i + 5)) (lw_Z below #[Value.ref b] s) (F0 m 23 ls [])) : W p l e room_1 s m #[Value.ref b] below meth c H locs (11 + i) (128 + 5 * i) (lw_Z below #[Value.ref b] s) (F0 m 412 ls []) := by
  obtain ⟨x1, ex1⟩ : ∃ y, y = xs (i + 1) := ⟨_, rfl⟩
  obtain ⟨x2, ex2⟩ : ∃ y, y = xs (i + 2) := ⟨_, rfl⟩
  refine lv_aload_n C0.1 C0.2.1 dL_law_412 rfl (lv_at hl 1 rfl) ?_
  refine lv_aload_n C0.1 C0.2.1 dL_law_413 rfl (lv_at hl 0 rfl) ?_
  refine lv_iload C0.1 C0.2.1 dL_law_414 (lv_at hl 4 rfl) ?_
  refine lv_iconst (v := nI 1) C0.1 C0.2.1 dL_law_416 (by decide) ?_
  refine tn_iadd C0.1 C0.2.1 dL_law_417 ?_
  refine tc_sld C0 hX hbl hS (by omega) hL ex1 dL_law_418 ?_
  refine lv_aload_n C0.1 C0.2.1 dL_law_419 rfl (lv_at hl 0 rfl) ?_
  refine lv_iload C0.1 C0.2.1 dL_law_420 (lv_at hl 4 rfl) ?_
  refine lv_iconst (v := nI 2) C0.1 C0.2.1 dL_law_422 (by decide) ?_
  refine tn_iadd C0.1 C0.2.1 dL_law_423 ?_
  refine tc_sld C0 hX hbl hS (by omega) hL ex2 dL_law_424 ?_
  refine lv_aload_n C0.1 C0.2.1 dL_law_425 rfl (lv_at hl 3 rfl) ?_
  refine tc_callSW (rest := []) C0 hG hS (kL_swapUmbrellas hlf hk x1 x2) (vx_cwSW 4 C0.2.2.2.2 gL_law_L_swapUmbrellas rfl rfl rfl (by decide +kernel) ⟨(Nat.le_of_ble_eq_true rfl), (Nat.le_of_ble_eq_true rfl)⟩) rfl hl rfl (Nat.le_of_ble_eq_true rfl) dL_law_426 ⟨(by dsimp only [room_1]; omega), (by dsimp only [room_1]; omega)⟩ (fun H locs hG hS => ?_)
  refine lv_istore (lv' := [(5, .int (nI (cdSu x1 x2 cn n st))), (0, .ref b), (1, .ref h), (2, .ref g), (3, .ref o), (4, .int (nI i))]) C0.1 C0.2.1 dL_law_429 hl (by decide) rfl (fun ls hl => ?_)
  by_cases hcd : cdSu x1 x2 cn n st = 0
  · rw [if_pos hcd] at hG
    have hkn := sv_swapUmbrellas hk hcd
    refine lv_aload_n C0.1 C0.2.1 dL_law_431 rfl (lv_at hl 3 rfl) ?_
    refine lv_aload_n C0.1 C0.2.1 dL_law_432 rfl (lv_at hl 1 rfl) ?_
    refine lv_iload C0.1 C0.2.1 dL_law_433 (lv_at hl 5 rfl) ?_
    refine lv_iconst (v := nI 1) C0.1 C0.2.1 dL_law_435 (by decide) ?_
    refine tn_iadd C0.1 C0.2.1 dL_law_436 ?_
    refine tc_sld C0 hX hbl hS (by omega) hL ex1 dL_law_437 ?_
    refine lv_aload_n C0.1 C0.2.1 dL_law_438 rfl (lv_at hl 1 rfl) ?_
    refine lv_iload C0.1 C0.2.1 dL_law_439 (lv_at hl 5 rfl) ?_
    refine lv_iconst (v := nI 2) C0.1 C0.2.1 dL_law_441 (by decide) ?_
    refine tn_iadd C0.1 C0.2.1 dL_law_442 ?_
    refine tc_sld C0 hX hbl hS (by omega) hL ex2 dL_law_443 ?_
    have hG := hG.sub (ws' := wM g q1 q2 q3 q4 cI th tk co cn wk n ho st ct sp (wT h r1 r2 r3 r4 cI tk (swp co (ix x1) (ix x2)) cn wk n ho (st - 3) ct (sp + nI 3) [(o, tcO cJ (vp_updL fo 0 (((nI (tw tk (swp co (ix x1) (ix x2)) cn wk 0 n) - nI (tw tk co cn wk 0 n))).toInt64)))])) [6, 7, 8, 9, 10, 0, 1, 2, 3, 4, 5] (by decide) rfl rfl
    refine tc_callV (q0 := 0) (rest := []) C0 hG hS rfl rfl (kX1_swapUmbrellas hlf hk x1 x2) (cwV 2 C0.2.2.2.2 gL_law_X1_swapUmbrellas rfl rfl rfl (by decide +kernel) ⟨(Nat.le_of_ble_eq_true rfl), (Nat.le_of_ble_eq_true rfl)⟩) rfl hl rfl (Nat.le_of_ble_eq_true rfl) dL_law_444 ⟨(by dsimp only [room_1]; omega), (by dsimp only [room_1]; omega)⟩ (fun H locs hG hS => ?_)
    rw [if_pos hcd] at hG
    have hG : tcG D cI cJ s.heap.size (wM g q1 q2 q3 q4 cI (nI 0) tk (swp co (ix x1) (ix x2)) cn wk n ho (st - 3) ct (sp + nI 3) (wT h r1 r2 r3 r4 cI tk (swp co (ix x1) (ix x2)) cn wk n ho (st - 3) ct (sp + nI 3) [(o, tcO cJ (vp_updL fo 0 (((nI (tw tk (swp co (ix x1) (ix x2)) cn wk 0 n) - nI (tw tk co cn wk 0 n))).toInt64)))])) s H := hG
    refine tc_top (y := (nI (tw tk (swp co (ix x1) (ix x2)) cn wk 0 n) - nI (tw tk co cn wk 0 n))) (if_pos hcd) ?_
    refine lv_istore (lv' := [(6, .int ((nI (tw tk (swp co (ix x1) (ix x2)) cn wk 0 n) - nI (tw tk co cn wk 0 n)))), (5, .int (nI (cdSu x1 x2 cn n st))), (0, .ref b), (1, .ref h), (2, .ref g), (3, .ref o), (4, .int (nI i))]) C0.1 C0.2.1 dL_law_447 hl (by decide) rfl (fun ls hl => ?_)
    refine lv_aload_n C0.1 C0.2.1 dL_law_449 rfl (lv_at hl 4 rfl) ?_
    refine tc_callV (q0 := 0) (rest := []) C0 hG hS rfl rfl (kX1_thrown hlf hkn ) (cwV 0 C0.2.2.2.2 gL_law_X1_thrown rfl rfl rfl (by decide +kernel) ⟨(Nat.le_of_ble_eq_true rfl), (Nat.le_of_ble_eq_true rfl)⟩) rfl hl rfl (Nat.le_of_ble_eq_true rfl) dL_law_450 ⟨(by dsimp only [room_1]; omega), (by dsimp only [room_1]; omega)⟩ (fun H locs hG hS => ?_)
    refine lv_iload C0.1 C0.2.1 dL_law_453 (lv_at hl 1 rfl) ?_
    refine lv_icmp_eq (tgt := 460) C0.1 C0.2.1 dL_law_455 (by decide) (fun c_a => ?_) (fun c_a => ?_)
    · refine lv_iload C0.1 C0.2.1 dL_law_460 (lv_at hl 1 rfl) ?_
      refine tn_if_ne (tgt := 477) C0.1 C0.2.1 dL_law_462 (by decide) (by have hcm := cdSu_le x1 x2 cn n st; omega) (fun c_c => ?_) (fun c_c => ?_)
      · exact absurd hcd (Nat.ne_of_gt c_c)
      · refine lv_aload_n C0.1 C0.2.1 dL_law_465 rfl (lv_at hl 5 rfl) ?_
        refine lv_iconst (v := nI 0) C0.1 C0.2.1 dL_law_466 (by decide) ?_
        refine tc_lald0 (q0 := 10) C0 hG rfl dL_law_467 ?_
        refine lv_topl (fun y8 e8 => ?_)
        have e9 : y8 = ((nI (tw tk (swp co (ix x1) (ix x2)) cn wk 0 n) - nI (tw tk co cn wk 0 n))).toInt64 := e8.trans pk_uLs
        subst e9
        refine lv_iload C0.1 C0.2.1 dL_law_468 (lv_at hl 0 rfl) ?_
        refine lv_i2l C0.1 C0.2.1 dL_law_470 (v := ((nI (tw tk (swp co (ix x1) (ix x2)) cn wk 0 n) - nI (tw tk co cn wk 0 n))).toInt64) rfl ?_
        refine W.lcmp C0.1 C0.2.1 dL_law_471 ?_
        refine tc_top (lg_self _) ?_
        refine tn_if_eq (tgt := 477) C0.1 C0.2.1 dL_law_472 (by decide) (by decide) (fun c_d => ?_) (fun c_d => absurd c_d (by decide))
        refine lv_goto (tgt := 1758) C0.1 C0.2.1 dL_law_477 (by decide) ?_
        refine lv_iinc (v := nI (i + 5)) (lv' := [(4, .int (nI (i + 5))), (6, .int ((nI (tw tk (swp co (ix x1) (ix x2)) cn wk 0 n) - nI (tw tk co cn wk 0 n)))), (5, .int (nI (cdSu x1 x2 cn n st))), (0, .ref b), (1, .ref h), (2, .ref g), (3, .ref o)]) C0.1 C0.2.1 dL_law_1758 hl (k := 6) rfl (nI_add i 5) (by decide) rfl (fun ls hl => ?_)
        refine lv_goto (tgt := 23) C0.1 C0.2.1 dL_law_1761 (by decide) ?_
        refine W.widen (k := 11 + (i + 5)) (n := 128 + 5 * (i + 5)) (by omega) (by omega) ?_
        have hG := hG.sub (ws' := wT h r1 r2 r3 r4 cI tk (swp co (ix x1) (ix x2)) cn wk n ho (st - 3) ct (sp + nI 3) ((o, tcO cJ (vp_updL fo 0 (((nI (tw tk (swp co (ix x1) (ix x2)) cn wk 0 n) - nI (tw tk co cn wk 0 n))).toInt64))) :: wM g q1 q2 q3 q4 cI (nI 0) tk (swp co (ix x1) (ix x2)) cn wk n ho (st - 3) ct (sp + nI 3) [])) [5, 6, 7, 8, 9, 10, 0, 1, 2, 3, 4] (by decide) rfl rfl
        exact back tk (swp co (ix x1) (ix x2)) cn wk n ho (st - 3) ct (sp + nI 3) (nI 0) (vp_updL fo 0 (((nI (tw tk (swp co (ix x1) (ix x2)) cn wk 0 n) - nI (tw tk co cn wk 0 n))).toInt64)) hkn _ _ _ hG hS (lv_sub hl [3, 4, 5, 6, 0] rfl)
    · exact absurd (by rw [hcd]) c_a
  · rw [if_neg hcd] at hG
    refine lv_aload_n C0.1 C0.2.1 dL_law_431 rfl (lv_at hl 3 rfl) ?_
    refine lv_aload_n C0.1 C0.2.1 dL_law_432 rfl (lv_at hl 1 rfl) ?_
    refine lv_iload C0.1 C0.2.1 dL_law_433 (lv_at hl 5 rfl) ?_
    refine lv_iconst (v := nI 1) C0.1 C0.2.1 dL_law_435 (by decide) ?_
    refine tn_iadd C0.1 C0.2.1 dL_law_436 ?_
    refine tc_sld C0 hX hbl hS (by omega) hL ex1 dL_law_437 ?_
    refine lv_aload_n C0.1 C0.2.1 dL_law_438 rfl (lv_at hl 1 rfl) ?_
    refine lv_iload C0.1 C0.2.1 dL_law_439 (lv_at hl 5 rfl) ?_
    refine lv_iconst (v := nI 2) C0.1 C0.2.1 dL_law_441 (by decide) ?_
    refine tn_iadd C0.1 C0.2.1 dL_law_442 ?_
    refine tc_sld C0 hX hbl hS (by omega) hL ex2 dL_law_443 ?_
    have hG := hG.sub (ws' := wM g q1 q2 q3 q4 cI th tk co cn wk n ho st ct sp (wT h r1 r2 r3 r4 cI tk co cn wk n ho st ct sp [(o, tcO cJ fo)])) [6, 7, 8, 9, 10, 0, 1, 2, 3, 4, 5] (by decide) rfl rfl
    refine tc_callV (q0 := 0) (rest := []) C0 hG hS rfl rfl (kX1_swapUmbrellas hlf hk x1 x2) (cwV 2 C0.2.2.2.2 gL_law_X1_swapUmbrellas rfl rfl rfl (by decide +kernel) ⟨(Nat.le_of_ble_eq_true rfl), (Nat.le_of_ble_eq_true rfl)⟩) rfl hl rfl (Nat.le_of_ble_eq_true rfl) dL_law_444 ⟨(by dsimp only [room_1]; omega), (by dsimp only [room_1]; omega)⟩ (fun H locs hG hS => ?_)
    rw [if_neg hcd] at hG
    have hG : tcG D cI cJ s.heap.size (wM g q1 q2 q3 q4 cI (nI (cdSu x1 x2 cn n st)) tk co cn wk n ho st ct sp (wT h r1 r2 r3 r4 cI tk co cn wk n ho st ct sp [(o, tcO cJ fo)])) s H := hG
    refine tc_top (y := nI 0) (if_neg hcd) ?_
    refine lv_istore (lv' := [(6, .int (nI 0)), (5, .int (nI (cdSu x1 x2 cn n st))), (0, .ref b), (1, .ref h), (2, .ref g), (3, .ref o), (4, .int (nI i))]) C0.1 C0.2.1 dL_law_447 hl (by decide) rfl (fun ls hl => ?_)
    refine lv_aload_n C0.1 C0.2.1 dL_law_449 rfl (lv_at hl 4 rfl) ?_
    refine tc_callV (q0 := 0) (rest := []) C0 hG hS rfl rfl (kX1_thrown hlf hk ) (cwV 0 C0.2.2.2.2 gL_law_X1_thrown rfl rfl rfl (by decide +kernel) ⟨(Nat.le_of_ble_eq_true rfl), (Nat.le_of_ble_eq_true rfl)⟩) rfl hl rfl (Nat.le_of_ble_eq_true rfl) dL_law_450 ⟨(by dsimp only [room_1]; omega), (by dsimp only [room_1]; omega)⟩ (fun H locs hG hS => ?_)
    refine lv_iload C0.1 C0.2.1 dL_law_453 (lv_at hl 1 rfl) ?_
    refine lv_icmp_eq (tgt := 460) C0.1 C0.2.1 dL_law_455 (by decide) (fun c_a => ?_) (fun c_a => ?_)
    · refine lv_iload C0.1 C0.2.1 dL_law_460 (lv_at hl 1 rfl) ?_
      refine tn_if_ne (tgt := 477) C0.1 C0.2.1 dL_law_462 (by decide) (by have hcm := cdSu_le x1 x2 cn n st; omega) (fun c_c => ?_) (fun c_c => ?_)
      · refine lv_goto (tgt := 1758) C0.1 C0.2.1 dL_law_477 (by decide) ?_
        refine lv_iinc (v := nI (i + 5)) (lv' := [(4, .int (nI (i + 5))), (6, .int (nI 0)), (5, .int (nI (cdSu x1 x2 cn n st))), (0, .ref b), (1, .ref h), (2, .ref g), (3, .ref o)]) C0.1 C0.2.1 dL_law_1758 hl (k := 6) rfl (nI_add i 5) (by decide) rfl (fun ls hl => ?_)
        refine lv_goto (tgt := 23) C0.1 C0.2.1 dL_law_1761 (by decide) ?_
        refine W.widen (k := 11 + (i + 5)) (n := 128 + 5 * (i + 5)) (by omega) (by omega) ?_
        have hG := hG.sub (ws' := wT h r1 r2 r3 r4 cI tk co cn wk n ho st ct sp ((o, tcO cJ fo) :: wM g q1 q2 q3 q4 cI (nI (cdSu x1 x2 cn n st)) tk co cn wk n ho st ct sp [])) [5, 6, 7, 8, 9, 10, 0, 1, 2, 3, 4] (by decide) rfl rfl
        exact back tk co cn wk n ho st ct sp (nI (cdSu x1 x2 cn n st)) fo hk _ _ _ hG hS (lv_sub hl [3, 4, 5, 6, 0] rfl)
      · exact absurd c_c hcd
    · exact absurd rfl c_a
set_option maxHeartbeats 4000000 in
set_option maxRecDepth 100000 in
theorem law_case_4 {p : Program} {l : Launch} {e : Env} {s : State} {m : MethodId} {below : List Frame} {meth : Method} {c : Code} {b L : Nat} {xs : Nat → Int32} (hlf : l.stackTraces = false) (C0 : CallFix p m c cL_law 9 s #[Value.ref b] wsL_law RL) (hX : va_X b L xs s s.heap) (hbl : b < s.heap.size) (hL : L ≤ 2560) {D : va_G} {cI cJ : ClassId} {h r1 r2 r3 r4 o g q1 q2 q3 q4 : Nat} {tk co cn wk : Nat → Nat} {n st : Nat} {ho ct sp th : Int32} {fo : Nat → Int64} (hk : tOk tk co cn wk n st) {i : Nat} (hi : i + 5 ≤ L) {H : Heap} {locs : List Loc} {ls : Array Slot} (hG : tcG D cI cJ s.heap.size (wT h r1 r2 r3 r4 cI tk co cn wk n ho st ct sp ((o, tcO cJ fo) :: wM g q1 q2 q3 q4 cI th tk co cn wk n ho st ct sp [])) s H) (hS : va_S (tcA s.heap.size) s.heap H locs) (hl : lv_has ls 9 [(0, .ref b), (1, .ref h), (2, .ref g), (3, .ref o), (4, .int (nI i))])
    (back : ∀ (tk co cn wk : Nat → Nat) (n : Nat) (ho : Int32) (st : Nat) (ct sp th : Int32) (fo : Nat → Int64), tOk tk co cn wk n st → ∀ (H : Heap) (locs : List Loc) (ls : Array Slot), tcG D cI cJ s.heap.size (wT h r1 r2 r3 r4 cI tk co cn wk n ho st ct sp ((o, tcO cJ fo) :: wM g q1 q2 q3 q4 cI th tk co cn wk n ho st ct sp [])) s H → va_S (tcA s.heap.size) s.heap H locs → lv_has ls 9 [(0, .ref b), (1, .ref h), (2, .ref g), (3, .ref o), (4, .int (nI (i + 5)))] → W p l e room_1 s m #[Value.ref b] below meth c H locs (11 + (i + 5)) (128 + 5 * (i + 5)) (lw_Z below #[Value.ref b] s) (F0 m 23 ls [])) : W p l e room_1 s m #[Value.ref b] below meth c H locs (11 + i) (128 + 5 * i) (lw_Z below #[Value.ref b] s) (F0 m 480 ls []) := by
  obtain ⟨x1, ex1⟩ : ∃ y, y = xs (i + 1) := ⟨_, rfl⟩
  obtain ⟨x2, ex2⟩ : ∃ y, y = xs (i + 2) := ⟨_, rfl⟩
  refine lv_aload_n C0.1 C0.2.1 dL_law_480 rfl (lv_at hl 1 rfl) ?_
  refine lv_aload_n C0.1 C0.2.1 dL_law_481 rfl (lv_at hl 0 rfl) ?_
  refine lv_iload C0.1 C0.2.1 dL_law_482 (lv_at hl 4 rfl) ?_
  refine lv_iconst (v := nI 1) C0.1 C0.2.1 dL_law_484 (by decide) ?_
  refine tn_iadd C0.1 C0.2.1 dL_law_485 ?_
  refine tc_sld C0 hX hbl hS (by omega) hL ex1 dL_law_486 ?_
  refine lv_aload_n C0.1 C0.2.1 dL_law_487 rfl (lv_at hl 0 rfl) ?_
  refine lv_iload C0.1 C0.2.1 dL_law_488 (lv_at hl 4 rfl) ?_
  refine lv_iconst (v := nI 2) C0.1 C0.2.1 dL_law_490 (by decide) ?_
  refine tn_iadd C0.1 C0.2.1 dL_law_491 ?_
  refine tc_sld C0 hX hbl hS (by omega) hL ex2 dL_law_492 ?_
  refine lv_aload_n C0.1 C0.2.1 dL_law_493 rfl (lv_at hl 3 rfl) ?_
  refine tc_callSW (rest := []) C0 hG hS (kL_swapTickets hlf hk x1 x2) (vx_cwSW 4 C0.2.2.2.2 gL_law_L_swapTickets rfl rfl rfl (by decide +kernel) ⟨(Nat.le_of_ble_eq_true rfl), (Nat.le_of_ble_eq_true rfl)⟩) rfl hl rfl (Nat.le_of_ble_eq_true rfl) dL_law_494 ⟨(by dsimp only [room_1]; omega), (by dsimp only [room_1]; omega)⟩ (fun H locs hG hS => ?_)
  refine lv_istore (lv' := [(5, .int (nI (cdSt x1 x2 n st))), (0, .ref b), (1, .ref h), (2, .ref g), (3, .ref o), (4, .int (nI i))]) C0.1 C0.2.1 dL_law_497 hl (by decide) rfl (fun ls hl => ?_)
  by_cases hcd : cdSt x1 x2 n st = 0
  · rw [if_pos hcd] at hG
    have hkn := sv_swapTickets hk hcd
    refine lv_aload_n C0.1 C0.2.1 dL_law_499 rfl (lv_at hl 3 rfl) ?_
    refine lv_aload_n C0.1 C0.2.1 dL_law_500 rfl (lv_at hl 1 rfl) ?_
    refine lv_iload C0.1 C0.2.1 dL_law_501 (lv_at hl 5 rfl) ?_
    refine lv_iconst (v := nI 1) C0.1 C0.2.1 dL_law_503 (by decide) ?_
    refine tn_iadd C0.1 C0.2.1 dL_law_504 ?_
    refine tc_sld C0 hX hbl hS (by omega) hL ex1 dL_law_505 ?_
    refine lv_aload_n C0.1 C0.2.1 dL_law_506 rfl (lv_at hl 1 rfl) ?_
    refine lv_iload C0.1 C0.2.1 dL_law_507 (lv_at hl 5 rfl) ?_
    refine lv_iconst (v := nI 2) C0.1 C0.2.1 dL_law_509 (by decide) ?_
    refine tn_iadd C0.1 C0.2.1 dL_law_510 ?_
    refine tc_sld C0 hX hbl hS (by omega) hL ex2 dL_law_511 ?_
    have hG := hG.sub (ws' := wM g q1 q2 q3 q4 cI th tk co cn wk n ho st ct sp (wT h r1 r2 r3 r4 cI (swp tk (ix x1) (ix x2)) co cn wk n ho (st - 8) ct (sp + nI 8) [(o, tcO cJ (vp_updL fo 0 (((nI (tw (swp tk (ix x1) (ix x2)) co cn wk 0 n) - nI (tw tk co cn wk 0 n))).toInt64)))])) [6, 7, 8, 9, 10, 0, 1, 2, 3, 4, 5] (by decide) rfl rfl
    refine tc_callV (q0 := 0) (rest := []) C0 hG hS rfl rfl (kX1_swapTickets hlf hk x1 x2) (cwV 2 C0.2.2.2.2 gL_law_X1_swapTickets rfl rfl rfl (by decide +kernel) ⟨(Nat.le_of_ble_eq_true rfl), (Nat.le_of_ble_eq_true rfl)⟩) rfl hl rfl (Nat.le_of_ble_eq_true rfl) dL_law_512 ⟨(by dsimp only [room_1]; omega), (by dsimp only [room_1]; omega)⟩ (fun H locs hG hS => ?_)
    rw [if_pos hcd] at hG
    have hG : tcG D cI cJ s.heap.size (wM g q1 q2 q3 q4 cI (nI 0) (swp tk (ix x1) (ix x2)) co cn wk n ho (st - 8) ct (sp + nI 8) (wT h r1 r2 r3 r4 cI (swp tk (ix x1) (ix x2)) co cn wk n ho (st - 8) ct (sp + nI 8) [(o, tcO cJ (vp_updL fo 0 (((nI (tw (swp tk (ix x1) (ix x2)) co cn wk 0 n) - nI (tw tk co cn wk 0 n))).toInt64)))])) s H := hG
    refine tc_top (y := (nI (tw (swp tk (ix x1) (ix x2)) co cn wk 0 n) - nI (tw tk co cn wk 0 n))) (if_pos hcd) ?_
    refine lv_istore (lv' := [(6, .int ((nI (tw (swp tk (ix x1) (ix x2)) co cn wk 0 n) - nI (tw tk co cn wk 0 n)))), (5, .int (nI (cdSt x1 x2 n st))), (0, .ref b), (1, .ref h), (2, .ref g), (3, .ref o), (4, .int (nI i))]) C0.1 C0.2.1 dL_law_515 hl (by decide) rfl (fun ls hl => ?_)
    refine lv_aload_n C0.1 C0.2.1 dL_law_517 rfl (lv_at hl 4 rfl) ?_
    refine tc_callV (q0 := 0) (rest := []) C0 hG hS rfl rfl (kX1_thrown hlf hkn ) (cwV 0 C0.2.2.2.2 gL_law_X1_thrown rfl rfl rfl (by decide +kernel) ⟨(Nat.le_of_ble_eq_true rfl), (Nat.le_of_ble_eq_true rfl)⟩) rfl hl rfl (Nat.le_of_ble_eq_true rfl) dL_law_518 ⟨(by dsimp only [room_1]; omega), (by dsimp only [room_1]; omega)⟩ (fun H locs hG hS => ?_)
    refine lv_iload C0.1 C0.2.1 dL_law_521 (lv_at hl 1 rfl) ?_
    refine lv_icmp_eq (tgt := 528) C0.1 C0.2.1 dL_law_523 (by decide) (fun c_a => ?_) (fun c_a => ?_)
    · refine lv_iload C0.1 C0.2.1 dL_law_528 (lv_at hl 1 rfl) ?_
      refine tn_if_ne (tgt := 545) C0.1 C0.2.1 dL_law_530 (by decide) (by have hcm := cdSt_le x1 x2 n st; omega) (fun c_c => ?_) (fun c_c => ?_)
      · exact absurd hcd (Nat.ne_of_gt c_c)
      · refine lv_aload_n C0.1 C0.2.1 dL_law_533 rfl (lv_at hl 5 rfl) ?_
        refine lv_iconst (v := nI 0) C0.1 C0.2.1 dL_law_534 (by decide) ?_
        refine tc_lald0 (q0 := 10) C0 hG rfl dL_law_535 ?_
        refine lv_topl (fun y8 e8 => ?_)
        have e9 : y8 = ((nI (tw (swp tk (ix x1) (ix x2)) co cn wk 0 n) - nI (tw tk co cn wk 0 n))).toInt64 := e8.trans pk_uLs
        subst e9
        refine lv_iload C0.1 C0.2.1 dL_law_536 (lv_at hl 0 rfl) ?_
        refine lv_i2l C0.1 C0.2.1 dL_law_538 (v := ((nI (tw (swp tk (ix x1) (ix x2)) co cn wk 0 n) - nI (tw tk co cn wk 0 n))).toInt64) rfl ?_
        refine W.lcmp C0.1 C0.2.1 dL_law_539 ?_
        refine tc_top (lg_self _) ?_
        refine tn_if_eq (tgt := 545) C0.1 C0.2.1 dL_law_540 (by decide) (by decide) (fun c_d => ?_) (fun c_d => absurd c_d (by decide))
        refine lv_goto (tgt := 1758) C0.1 C0.2.1 dL_law_545 (by decide) ?_
        refine lv_iinc (v := nI (i + 5)) (lv' := [(4, .int (nI (i + 5))), (6, .int ((nI (tw (swp tk (ix x1) (ix x2)) co cn wk 0 n) - nI (tw tk co cn wk 0 n)))), (5, .int (nI (cdSt x1 x2 n st))), (0, .ref b), (1, .ref h), (2, .ref g), (3, .ref o)]) C0.1 C0.2.1 dL_law_1758 hl (k := 6) rfl (nI_add i 5) (by decide) rfl (fun ls hl => ?_)
        refine lv_goto (tgt := 23) C0.1 C0.2.1 dL_law_1761 (by decide) ?_
        refine W.widen (k := 11 + (i + 5)) (n := 128 + 5 * (i + 5)) (by omega) (by omega) ?_
        have hG := hG.sub (ws' := wT h r1 r2 r3 r4 cI (swp tk (ix x1) (ix x2)) co cn wk n ho (st - 8) ct (sp + nI 8) ((o, tcO cJ (vp_updL fo 0 (((nI (tw (swp tk (ix x1) (ix x2)) co cn wk 0 n) - nI (tw tk co cn wk 0 n))).toInt64))) :: wM g q1 q2 q3 q4 cI (nI 0) (swp tk (ix x1) (ix x2)) co cn wk n ho (st - 8) ct (sp + nI 8) [])) [5, 6, 7, 8, 9, 10, 0, 1, 2, 3, 4] (by decide) rfl rfl
        exact back (swp tk (ix x1) (ix x2)) co cn wk n ho (st - 8) ct (sp + nI 8) (nI 0) (vp_updL fo 0 (((nI (tw (swp tk (ix x1) (ix x2)) co cn wk 0 n) - nI (tw tk co cn wk 0 n))).toInt64)) hkn _ _ _ hG hS (lv_sub hl [3, 4, 5, 6, 0] rfl)
    · exact absurd (by rw [hcd]) c_a
  · rw [if_neg hcd] at hG
    refine lv_aload_n C0.1 C0.2.1 dL_law_499 rfl (lv_at hl 3 rfl) ?_
    refine lv_aload_n C0.1 C0.2.1 dL_law_500 rfl (lv_at hl 1 rfl) ?_
    refine lv_iload C0.1 C0.2.1 dL_law_501 (lv_at hl 5 rfl) ?_
    refine lv_iconst (v := nI 1) C0.1 C0.2.1 dL_law_503 (by decide) ?_
    refine tn_iadd C0.1 C0.2.1 dL_law_504 ?_
    refine tc_sld C0 hX hbl hS (by omega) hL ex1 dL_law_505 ?_
    refine lv_aload_n C0.1 C0.2.1 dL_law_506 rfl (lv_at hl 1 rfl) ?_
    refine lv_iload C0.1 C0.2.1 dL_law_507 (lv_at hl 5 rfl) ?_
    refine lv_iconst (v := nI 2) C0.1 C0.2.1 dL_law_509 (by decide) ?_
    refine tn_iadd C0.1 C0.2.1 dL_law_510 ?_
    refine tc_sld C0 hX hbl hS (by omega) hL ex2 dL_law_511 ?_
    have hG := hG.sub (ws' := wM g q1 q2 q3 q4 cI th tk co cn wk n ho st ct sp (wT h r1 r2 r3 r4 cI tk co cn wk n ho st ct sp [(o, tcO cJ fo)])) [6, 7, 8, 9, 10, 0, 1, 2, 3, 4, 5] (by decide) rfl rfl
    refine tc_callV (q0 := 0) (rest := []) C0 hG hS rfl rfl (kX1_swapTickets hlf hk x1 x2) (cwV 2 C0.2.2.2.2 gL_law_X1_swapTickets rfl rfl rfl (by decide +kernel) ⟨(Nat.le_of_ble_eq_true rfl), (Nat.le_of_ble_eq_true rfl)⟩) rfl hl rfl (Nat.le_of_ble_eq_true rfl) dL_law_512 ⟨(by dsimp only [room_1]; omega), (by dsimp only [room_1]; omega)⟩ (fun H locs hG hS => ?_)
    rw [if_neg hcd] at hG
    have hG : tcG D cI cJ s.heap.size (wM g q1 q2 q3 q4 cI (nI (cdSt x1 x2 n st)) tk co cn wk n ho st ct sp (wT h r1 r2 r3 r4 cI tk co cn wk n ho st ct sp [(o, tcO cJ fo)])) s H := hG
    refine tc_top (y := nI 0) (if_neg hcd) ?_
    refine lv_istore (lv' := [(6, .int (nI 0)), (5, .int (nI (cdSt x1 x2 n st))), (0, .ref b), (1, .ref h), (2, .ref g), (3, .ref o), (4, .int (nI i))]) C0.1 C0.2.1 dL_law_515 hl (by decide) rfl (fun ls hl => ?_)
    refine lv_aload_n C0.1 C0.2.1 dL_law_517 rfl (lv_at hl 4 rfl) ?_
    refine tc_callV (q0 := 0) (rest := []) C0 hG hS rfl rfl (kX1_thrown hlf hk ) (cwV 0 C0.2.2.2.2 gL_law_X1_thrown rfl rfl rfl (by decide +kernel) ⟨(Nat.le_of_ble_eq_true rfl), (Nat.le_of_ble_eq_true rfl)⟩) rfl hl rfl (Nat.le_of_ble_eq_true rfl) dL_law_518 ⟨(by dsimp only [room_1]; omega), (by dsimp only [room_1]; omega)⟩ (fun H locs hG hS => ?_)
    refine lv_iload C0.1 C0.2.1 dL_law_521 (lv_at hl 1 rfl) ?_
    refine lv_icmp_eq (tgt := 528) C0.1 C0.2.1 dL_law_523 (by decide) (fun c_a => ?_) (fun c_a => ?_)
    · refine lv_iload C0.1 C0.2.1 dL_law_528 (lv_at hl 1 rfl) ?_
      refine tn_if_ne (tgt := 545) C0.1 C0.2.1 dL_law_530 (by decide) (by have hcm := cdSt_le x1 x2 n st; omega) (fun c_c => ?_) (fun c_c => ?_)
      · refine lv_goto (tgt := 1758) C0.1 C0.2.1 dL_law_545 (by decide) ?_
        refine lv_iinc (v := nI (i + 5)) (lv' := [(4, .int (nI (i + 5))), (6, .int (nI 0)), (5, .int (nI (cdSt x1 x2 n st))), (0, .ref b), (1, .ref h), (2, .ref g), (3, .ref o)]) C0.1 C0.2.1 dL_law_1758 hl (k := 6) rfl (nI_add i 5) (by decide) rfl (fun ls hl => ?_)
        refine lv_goto (tgt := 23) C0.1 C0.2.1 dL_law_1761 (by decide) ?_
        refine W.widen (k := 11 + (i + 5)) (n := 128 + 5 * (i + 5)) (by omega) (by omega) ?_
        have hG := hG.sub (ws' := wT h r1 r2 r3 r4 cI tk co cn wk n ho st ct sp ((o, tcO cJ fo) :: wM g q1 q2 q3 q4 cI (nI (cdSt x1 x2 n st)) tk co cn wk n ho st ct sp [])) [5, 6, 7, 8, 9, 10, 0, 1, 2, 3, 4] (by decide) rfl rfl
        exact back tk co cn wk n ho st ct sp (nI (cdSt x1 x2 n st)) fo hk _ _ _ hG hS (lv_sub hl [3, 4, 5, 6, 0] rfl)
      · exact absurd c_c hcd
    · exact absurd rfl c_a
set_option maxHeartbeats 4000000 in
set_option maxRecDepth 100000 in
theorem law_case_5 {p : Program} {l : Launch} {e : Env} {s : State} {m : MethodId} {below : List Frame} {meth : Method} {c : Code} {b L : Nat} {xs : Nat → Int32} (hlf : l.stackTraces = false) (C0 : CallFix p m c cL_law 9 s #[Value.ref b] wsL_law RL) (hX : va_X b L xs s s.heap) (hbl : b < s.heap.size) (hL : L ≤ 2560) {D : va_G} {cI cJ : ClassId} {h r1 r2 r3 r4 o g q1 q2 q3 q4 : Nat} {tk co cn wk : Nat → Nat} {n st : Nat} {ho ct sp th : Int32} {fo : Nat → Int64} (hk : tOk tk co cn wk n st) {i : Nat} (hi : i + 5 ≤ L) {H : Heap} {locs : List Loc} {ls : Array Slot} (hG : tcG D cI cJ s.heap.size (wT h r1 r2 r3 r4 cI tk co cn wk n ho st ct sp ((o, tcO cJ fo) :: wM g q1 q2 q3 q4 cI th tk co cn wk n ho st ct sp [])) s H) (hS : va_S (tcA s.heap.size) s.heap H locs) (hl : lv_has ls 9 [(0, .ref b), (1, .ref h), (2, .ref g), (3, .ref o), (4, .int (nI i))])
    (back : ∀ (tk co cn wk : Nat → Nat) (n : Nat) (ho : Int32) (st : Nat) (ct sp th : Int32) (fo : Nat → Int64), tOk tk co cn wk n st → ∀ (H : Heap) (locs : List Loc) (ls : Array Slot), tcG D cI cJ s.heap.size (wT h r1 r2 r3 r4 cI tk co cn wk n ho st ct sp ((o, tcO cJ fo) :: wM g q1 q2 q3 q4 cI th tk co cn wk n ho st ct sp [])) s H → va_S (tcA s.heap.size) s.heap H locs → lv_has ls 9 [(0, .ref b), (1, .ref h), (2, .ref g), (3, .ref o), (4, .int (nI (i + 5)))] → W p l e room_1 s m #[Value.ref b] below meth c H locs (11 + (i + 5)) (128 + 5 * (i + 5)) (lw_Z below #[Value.ref b] s) (F0 m 23 ls [])) : W p l e room_1 s m #[Value.ref b] below meth c H locs (11 + i) (128 + 5 * i) (lw_Z below #[Value.ref b] s) (F0 m 548 ls []) := by
  obtain ⟨x1, ex1⟩ : ∃ y, y = xs (i + 1) := ⟨_, rfl⟩
  obtain ⟨x2, ex2⟩ : ∃ y, y = xs (i + 2) := ⟨_, rfl⟩
  refine lv_aload_n C0.1 C0.2.1 dL_law_548 rfl (lv_at hl 1 rfl) ?_
  refine lv_aload_n C0.1 C0.2.1 dL_law_549 rfl (lv_at hl 0 rfl) ?_
  refine lv_iload C0.1 C0.2.1 dL_law_550 (lv_at hl 4 rfl) ?_
  refine lv_iconst (v := nI 1) C0.1 C0.2.1 dL_law_552 (by decide) ?_
  refine tn_iadd C0.1 C0.2.1 dL_law_553 ?_
  refine tc_sld C0 hX hbl hS (by omega) hL ex1 dL_law_554 ?_
  refine lv_aload_n C0.1 C0.2.1 dL_law_555 rfl (lv_at hl 0 rfl) ?_
  refine lv_iload C0.1 C0.2.1 dL_law_556 (lv_at hl 4 rfl) ?_
  refine lv_iconst (v := nI 2) C0.1 C0.2.1 dL_law_558 (by decide) ?_
  refine tn_iadd C0.1 C0.2.1 dL_law_559 ?_
  refine tc_sld C0 hX hbl hS (by omega) hL ex2 dL_law_560 ?_
  refine lv_aload_n C0.1 C0.2.1 dL_law_561 rfl (lv_at hl 3 rfl) ?_
  refine tc_callSW (rest := []) C0 hG hS (kL_draw hlf hk x1 x2) (vx_cwSW 4 C0.2.2.2.2 gL_law_L_draw rfl rfl rfl (by decide +kernel) ⟨(Nat.le_of_ble_eq_true rfl), (Nat.le_of_ble_eq_true rfl)⟩) rfl hl rfl (Nat.le_of_ble_eq_true rfl) dL_law_562 ⟨(by dsimp only [room_1]; omega), (by dsimp only [room_1]; omega)⟩ (fun H locs hG hS => ?_)
  refine lv_istore (lv' := [(5, .int (nI (cdDr x1 x2 n st))), (0, .ref b), (1, .ref h), (2, .ref g), (3, .ref o), (4, .int (nI i))]) C0.1 C0.2.1 dL_law_565 hl (by decide) rfl (fun ls hl => ?_)
  by_cases hcd : cdDr x1 x2 n st = 0
  · rw [if_pos hcd] at hG
    have hkn := sv_draw hk hcd
    refine lv_aload_n C0.1 C0.2.1 dL_law_567 rfl (lv_at hl 3 rfl) ?_
    refine lv_aload_n C0.1 C0.2.1 dL_law_568 rfl (lv_at hl 1 rfl) ?_
    refine lv_iload C0.1 C0.2.1 dL_law_569 (lv_at hl 5 rfl) ?_
    refine lv_iconst (v := nI 1) C0.1 C0.2.1 dL_law_571 (by decide) ?_
    refine tn_iadd C0.1 C0.2.1 dL_law_572 ?_
    refine tc_sld C0 hX hbl hS (by omega) hL ex1 dL_law_573 ?_
    refine lv_aload_n C0.1 C0.2.1 dL_law_574 rfl (lv_at hl 1 rfl) ?_
    refine lv_iload C0.1 C0.2.1 dL_law_575 (lv_at hl 5 rfl) ?_
    refine lv_iconst (v := nI 2) C0.1 C0.2.1 dL_law_577 (by decide) ?_
    refine tn_iadd C0.1 C0.2.1 dL_law_578 ?_
    refine tc_sld C0 hX hbl hS (by omega) hL ex2 dL_law_579 ?_
    have hG := hG.sub (ws' := wM g q1 q2 q3 q4 cI th tk co cn wk n ho st ct sp (wT h r1 r2 r3 r4 cI (va_up tk (ix x1) (ix x2)) co cn wk n ho (st - 12) ct (sp + nI 12) [(o, tcO cJ (vp_updL fo 0 ((nI (tk (ix x1))).toInt64)))])) [6, 7, 8, 9, 10, 0, 1, 2, 3, 4, 5] (by decide) rfl rfl
    refine tc_callV (q0 := 0) (rest := []) C0 hG hS rfl rfl (kX1_draw hlf hk x1 x2) (cwV 2 C0.2.2.2.2 gL_law_X1_draw rfl rfl rfl (by decide +kernel) ⟨(Nat.le_of_ble_eq_true rfl), (Nat.le_of_ble_eq_true rfl)⟩) rfl hl rfl (Nat.le_of_ble_eq_true rfl) dL_law_580 ⟨(by dsimp only [room_1]; omega), (by dsimp only [room_1]; omega)⟩ (fun H locs hG hS => ?_)
    rw [if_pos hcd] at hG
    have hG : tcG D cI cJ s.heap.size (wM g q1 q2 q3 q4 cI (nI 0) (va_up tk (ix x1) (ix x2)) co cn wk n ho (st - 12) ct (sp + nI 12) (wT h r1 r2 r3 r4 cI (va_up tk (ix x1) (ix x2)) co cn wk n ho (st - 12) ct (sp + nI 12) [(o, tcO cJ (vp_updL fo 0 ((nI (tk (ix x1))).toInt64)))])) s H := hG
    refine tc_top (y := nI (tk (ix x1))) (if_pos hcd) ?_
    refine lv_istore (lv' := [(6, .int (nI (tk (ix x1)))), (5, .int (nI (cdDr x1 x2 n st))), (0, .ref b), (1, .ref h), (2, .ref g), (3, .ref o), (4, .int (nI i))]) C0.1 C0.2.1 dL_law_583 hl (by decide) rfl (fun ls hl => ?_)
    refine lv_aload_n C0.1 C0.2.1 dL_law_585 rfl (lv_at hl 4 rfl) ?_
    refine tc_callV (q0 := 0) (rest := []) C0 hG hS rfl rfl (kX1_thrown hlf hkn ) (cwV 0 C0.2.2.2.2 gL_law_X1_thrown rfl rfl rfl (by decide +kernel) ⟨(Nat.le_of_ble_eq_true rfl), (Nat.le_of_ble_eq_true rfl)⟩) rfl hl rfl (Nat.le_of_ble_eq_true rfl) dL_law_586 ⟨(by dsimp only [room_1]; omega), (by dsimp only [room_1]; omega)⟩ (fun H locs hG hS => ?_)
    refine lv_iload C0.1 C0.2.1 dL_law_589 (lv_at hl 1 rfl) ?_
    refine lv_icmp_eq (tgt := 596) C0.1 C0.2.1 dL_law_591 (by decide) (fun c_a => ?_) (fun c_a => ?_)
    · refine lv_iload C0.1 C0.2.1 dL_law_596 (lv_at hl 1 rfl) ?_
      refine tn_if_ne (tgt := 613) C0.1 C0.2.1 dL_law_598 (by decide) (by have hcm := cdDr_le x1 x2 n st; omega) (fun c_c => ?_) (fun c_c => ?_)
      · exact absurd hcd (Nat.ne_of_gt c_c)
      · refine lv_aload_n C0.1 C0.2.1 dL_law_601 rfl (lv_at hl 5 rfl) ?_
        refine lv_iconst (v := nI 0) C0.1 C0.2.1 dL_law_602 (by decide) ?_
        refine tc_lald0 (q0 := 10) C0 hG rfl dL_law_603 ?_
        refine lv_topl (fun y8 e8 => ?_)
        have e9 : y8 = (nI (tk (ix x1))).toInt64 := e8.trans pk_uLs
        subst e9
        refine lv_iload C0.1 C0.2.1 dL_law_604 (lv_at hl 0 rfl) ?_
        refine lv_i2l C0.1 C0.2.1 dL_law_606 (v := (nI (tk (ix x1))).toInt64) rfl ?_
        refine W.lcmp C0.1 C0.2.1 dL_law_607 ?_
        refine tc_top (lg_self _) ?_
        refine tn_if_eq (tgt := 613) C0.1 C0.2.1 dL_law_608 (by decide) (by decide) (fun c_d => ?_) (fun c_d => absurd c_d (by decide))
        refine lv_goto (tgt := 1758) C0.1 C0.2.1 dL_law_613 (by decide) ?_
        refine lv_iinc (v := nI (i + 5)) (lv' := [(4, .int (nI (i + 5))), (6, .int (nI (tk (ix x1)))), (5, .int (nI (cdDr x1 x2 n st))), (0, .ref b), (1, .ref h), (2, .ref g), (3, .ref o)]) C0.1 C0.2.1 dL_law_1758 hl (k := 6) rfl (nI_add i 5) (by decide) rfl (fun ls hl => ?_)
        refine lv_goto (tgt := 23) C0.1 C0.2.1 dL_law_1761 (by decide) ?_
        refine W.widen (k := 11 + (i + 5)) (n := 128 + 5 * (i + 5)) (by omega) (by omega) ?_
        have hG := hG.sub (ws' := wT h r1 r2 r3 r4 cI (va_up tk (ix x1) (ix x2)) co cn wk n ho (st - 12) ct (sp + nI 12) ((o, tcO cJ (vp_updL fo 0 ((nI (tk (ix x1))).toInt64))) :: wM g q1 q2 q3 q4 cI (nI 0) (va_up tk (ix x1) (ix x2)) co cn wk n ho (st - 12) ct (sp + nI 12) [])) [5, 6, 7, 8, 9, 10, 0, 1, 2, 3, 4] (by decide) rfl rfl
        exact back (va_up tk (ix x1) (ix x2)) co cn wk n ho (st - 12) ct (sp + nI 12) (nI 0) (vp_updL fo 0 ((nI (tk (ix x1))).toInt64)) hkn _ _ _ hG hS (lv_sub hl [3, 4, 5, 6, 0] rfl)
    · exact absurd (by rw [hcd]) c_a
  · rw [if_neg hcd] at hG
    refine lv_aload_n C0.1 C0.2.1 dL_law_567 rfl (lv_at hl 3 rfl) ?_
    refine lv_aload_n C0.1 C0.2.1 dL_law_568 rfl (lv_at hl 1 rfl) ?_
    refine lv_iload C0.1 C0.2.1 dL_law_569 (lv_at hl 5 rfl) ?_
    refine lv_iconst (v := nI 1) C0.1 C0.2.1 dL_law_571 (by decide) ?_
    refine tn_iadd C0.1 C0.2.1 dL_law_572 ?_
    refine tc_sld C0 hX hbl hS (by omega) hL ex1 dL_law_573 ?_
    refine lv_aload_n C0.1 C0.2.1 dL_law_574 rfl (lv_at hl 1 rfl) ?_
    refine lv_iload C0.1 C0.2.1 dL_law_575 (lv_at hl 5 rfl) ?_
    refine lv_iconst (v := nI 2) C0.1 C0.2.1 dL_law_577 (by decide) ?_
    refine tn_iadd C0.1 C0.2.1 dL_law_578 ?_
    refine tc_sld C0 hX hbl hS (by omega) hL ex2 dL_law_579 ?_
    have hG := hG.sub (ws' := wM g q1 q2 q3 q4 cI th tk co cn wk n ho st ct sp (wT h r1 r2 r3 r4 cI tk co cn wk n ho st ct sp [(o, tcO cJ fo)])) [6, 7, 8, 9, 10, 0, 1, 2, 3, 4, 5] (by decide) rfl rfl
    refine tc_callV (q0 := 0) (rest := []) C0 hG hS rfl rfl (kX1_draw hlf hk x1 x2) (cwV 2 C0.2.2.2.2 gL_law_X1_draw rfl rfl rfl (by decide +kernel) ⟨(Nat.le_of_ble_eq_true rfl), (Nat.le_of_ble_eq_true rfl)⟩) rfl hl rfl (Nat.le_of_ble_eq_true rfl) dL_law_580 ⟨(by dsimp only [room_1]; omega), (by dsimp only [room_1]; omega)⟩ (fun H locs hG hS => ?_)
    rw [if_neg hcd] at hG
    have hG : tcG D cI cJ s.heap.size (wM g q1 q2 q3 q4 cI (nI (cdDr x1 x2 n st)) tk co cn wk n ho st ct sp (wT h r1 r2 r3 r4 cI tk co cn wk n ho st ct sp [(o, tcO cJ fo)])) s H := hG
    refine tc_top (y := nI 0) (if_neg hcd) ?_
    refine lv_istore (lv' := [(6, .int (nI 0)), (5, .int (nI (cdDr x1 x2 n st))), (0, .ref b), (1, .ref h), (2, .ref g), (3, .ref o), (4, .int (nI i))]) C0.1 C0.2.1 dL_law_583 hl (by decide) rfl (fun ls hl => ?_)
    refine lv_aload_n C0.1 C0.2.1 dL_law_585 rfl (lv_at hl 4 rfl) ?_
    refine tc_callV (q0 := 0) (rest := []) C0 hG hS rfl rfl (kX1_thrown hlf hk ) (cwV 0 C0.2.2.2.2 gL_law_X1_thrown rfl rfl rfl (by decide +kernel) ⟨(Nat.le_of_ble_eq_true rfl), (Nat.le_of_ble_eq_true rfl)⟩) rfl hl rfl (Nat.le_of_ble_eq_true rfl) dL_law_586 ⟨(by dsimp only [room_1]; omega), (by dsimp only [room_1]; omega)⟩ (fun H locs hG hS => ?_)
    refine lv_iload C0.1 C0.2.1 dL_law_589 (lv_at hl 1 rfl) ?_
    refine lv_icmp_eq (tgt := 596) C0.1 C0.2.1 dL_law_591 (by decide) (fun c_a => ?_) (fun c_a => ?_)
    · refine lv_iload C0.1 C0.2.1 dL_law_596 (lv_at hl 1 rfl) ?_
      refine tn_if_ne (tgt := 613) C0.1 C0.2.1 dL_law_598 (by decide) (by have hcm := cdDr_le x1 x2 n st; omega) (fun c_c => ?_) (fun c_c => ?_)
      · refine lv_goto (tgt := 1758) C0.1 C0.2.1 dL_law_613 (by decide) ?_
        refine lv_iinc (v := nI (i + 5)) (lv' := [(4, .int (nI (i + 5))), (6, .int (nI 0)), (5, .int (nI (cdDr x1 x2 n st))), (0, .ref b), (1, .ref h), (2, .ref g), (3, .ref o)]) C0.1 C0.2.1 dL_law_1758 hl (k := 6) rfl (nI_add i 5) (by decide) rfl (fun ls hl => ?_)
        refine lv_goto (tgt := 23) C0.1 C0.2.1 dL_law_1761 (by decide) ?_
        refine W.widen (k := 11 + (i + 5)) (n := 128 + 5 * (i + 5)) (by omega) (by omega) ?_
        have hG := hG.sub (ws' := wT h r1 r2 r3 r4 cI tk co cn wk n ho st ct sp ((o, tcO cJ fo) :: wM g q1 q2 q3 q4 cI (nI (cdDr x1 x2 n st)) tk co cn wk n ho st ct sp [])) [5, 6, 7, 8, 9, 10, 0, 1, 2, 3, 4] (by decide) rfl rfl
        exact back tk co cn wk n ho st ct sp (nI (cdDr x1 x2 n st)) fo hk _ _ _ hG hS (lv_sub hl [3, 4, 5, 6, 0] rfl)
      · exact absurd c_c hcd
    · exact absurd rfl c_a
set_option maxHeartbeats 4000000 in
set_option maxRecDepth 100000 in
theorem law_case_6 {p : Program} {l : Launch} {e : Env} {s : State} {m : MethodId} {below : List Frame} {meth : Method} {c : Code} {b L : Nat} {xs : Nat → Int32} (hlf : l.stackTraces = false) (C0 : CallFix p m c cL_law 9 s #[Value.ref b] wsL_law RL) (hX : va_X b L xs s s.heap) (hbl : b < s.heap.size) (hL : L ≤ 2560) {D : va_G} {cI cJ : ClassId} {h r1 r2 r3 r4 o g q1 q2 q3 q4 : Nat} {tk co cn wk : Nat → Nat} {n st : Nat} {ho ct sp th : Int32} {fo : Nat → Int64} (hk : tOk tk co cn wk n st) {i : Nat} (hi : i + 5 ≤ L) {H : Heap} {locs : List Loc} {ls : Array Slot} (hG : tcG D cI cJ s.heap.size (wT h r1 r2 r3 r4 cI tk co cn wk n ho st ct sp ((o, tcO cJ fo) :: wM g q1 q2 q3 q4 cI th tk co cn wk n ho st ct sp [])) s H) (hS : va_S (tcA s.heap.size) s.heap H locs) (hl : lv_has ls 9 [(0, .ref b), (1, .ref h), (2, .ref g), (3, .ref o), (4, .int (nI i))])
    (back : ∀ (tk co cn wk : Nat → Nat) (n : Nat) (ho : Int32) (st : Nat) (ct sp th : Int32) (fo : Nat → Int64), tOk tk co cn wk n st → ∀ (H : Heap) (locs : List Loc) (ls : Array Slot), tcG D cI cJ s.heap.size (wT h r1 r2 r3 r4 cI tk co cn wk n ho st ct sp ((o, tcO cJ fo) :: wM g q1 q2 q3 q4 cI th tk co cn wk n ho st ct sp [])) s H → va_S (tcA s.heap.size) s.heap H locs → lv_has ls 9 [(0, .ref b), (1, .ref h), (2, .ref g), (3, .ref o), (4, .int (nI (i + 5)))] → W p l e room_1 s m #[Value.ref b] below meth c H locs (11 + (i + 5)) (128 + 5 * (i + 5)) (lw_Z below #[Value.ref b] s) (F0 m 23 ls [])) : W p l e room_1 s m #[Value.ref b] below meth c H locs (11 + i) (128 + 5 * i) (lw_Z below #[Value.ref b] s) (F0 m 616 ls []) := by
  obtain ⟨x1, ex1⟩ : ∃ y, y = xs (i + 1) := ⟨_, rfl⟩
  refine lv_aload_n C0.1 C0.2.1 dL_law_616 rfl (lv_at hl 1 rfl) ?_
  refine lv_aload_n C0.1 C0.2.1 dL_law_617 rfl (lv_at hl 0 rfl) ?_
  refine lv_iload C0.1 C0.2.1 dL_law_618 (lv_at hl 4 rfl) ?_
  refine lv_iconst (v := nI 1) C0.1 C0.2.1 dL_law_620 (by decide) ?_
  refine tn_iadd C0.1 C0.2.1 dL_law_621 ?_
  refine tc_sld C0 hX hbl hS (by omega) hL ex1 dL_law_622 ?_
  refine lv_aload_n C0.1 C0.2.1 dL_law_623 rfl (lv_at hl 3 rfl) ?_
  refine tc_callSW (rest := []) C0 hG hS (kL_pass hlf hk x1) (vx_cwSW 3 C0.2.2.2.2 gL_law_L_pass rfl rfl rfl (by decide +kernel) ⟨(Nat.le_of_ble_eq_true rfl), (Nat.le_of_ble_eq_true rfl)⟩) rfl hl rfl (Nat.le_of_ble_eq_true rfl) dL_law_624 ⟨(by dsimp only [room_1]; omega), (by dsimp only [room_1]; omega)⟩ (fun H locs hG hS => ?_)
  refine lv_istore (lv' := [(5, .int (nI (cdH x1))), (0, .ref b), (1, .ref h), (2, .ref g), (3, .ref o), (4, .int (nI i))]) C0.1 C0.2.1 dL_law_627 hl (by decide) rfl (fun ls hl => ?_)
  by_cases hcd : cdH x1 = 0
  · rw [if_pos hcd] at hG
    have hkn := sv_pass (ct := ct) hk hcd
    refine lv_aload_n C0.1 C0.2.1 dL_law_629 rfl (lv_at hl 3 rfl) ?_
    refine lv_aload_n C0.1 C0.2.1 dL_law_630 rfl (lv_at hl 1 rfl) ?_
    refine lv_iload C0.1 C0.2.1 dL_law_631 (lv_at hl 5 rfl) ?_
    refine lv_iconst (v := nI 1) C0.1 C0.2.1 dL_law_633 (by decide) ?_
    refine tn_iadd C0.1 C0.2.1 dL_law_634 ?_
    refine tc_sld C0 hX hbl hS (by omega) hL ex1 dL_law_635 ?_
    have hG := hG.sub (ws' := wM g q1 q2 q3 q4 cI th tk co cn wk n ho st ct sp (wT h r1 r2 r3 r4 cI tk co ((hrs tk co wk n cn ct st (ix x1)).1) wk n (ho + nI (ix x1)) ((hrs tk co wk n cn ct st (ix x1)).2.2) ((hrs tk co wk n cn ct st (ix x1)).2.1) sp [(o, tcO cJ (vp_updL fo 0 ((((hrs tk co wk n cn ct st (ix x1)).2.1 - ct)).toInt64)))])) [6, 7, 8, 9, 10, 0, 1, 2, 3, 4, 5] (by decide) rfl rfl
    refine tc_callV (q0 := 0) (rest := []) C0 hG hS rfl rfl (kX1_pass hlf hk x1) (cwV 1 C0.2.2.2.2 gL_law_X1_pass rfl rfl rfl (by decide +kernel) ⟨(Nat.le_of_ble_eq_true rfl), (Nat.le_of_ble_eq_true rfl)⟩) rfl hl rfl (Nat.le_of_ble_eq_true rfl) dL_law_636 ⟨(by dsimp only [room_1]; omega), (by dsimp only [room_1]; omega)⟩ (fun H locs hG hS => ?_)
    rw [if_pos hcd] at hG
    have hG : tcG D cI cJ s.heap.size (wM g q1 q2 q3 q4 cI (nI 0) tk co ((hrs tk co wk n cn ct st (ix x1)).1) wk n (ho + nI (ix x1)) ((hrs tk co wk n cn ct st (ix x1)).2.2) ((hrs tk co wk n cn ct st (ix x1)).2.1) sp (wT h r1 r2 r3 r4 cI tk co ((hrs tk co wk n cn ct st (ix x1)).1) wk n (ho + nI (ix x1)) ((hrs tk co wk n cn ct st (ix x1)).2.2) ((hrs tk co wk n cn ct st (ix x1)).2.1) sp [(o, tcO cJ (vp_updL fo 0 ((((hrs tk co wk n cn ct st (ix x1)).2.1 - ct)).toInt64)))])) s H := hG
    refine tc_top (y := ((hrs tk co wk n cn ct st (ix x1)).2.1 - ct)) (if_pos hcd) ?_
    refine lv_istore (lv' := [(6, .int (((hrs tk co wk n cn ct st (ix x1)).2.1 - ct))), (5, .int (nI (cdH x1))), (0, .ref b), (1, .ref h), (2, .ref g), (3, .ref o), (4, .int (nI i))]) C0.1 C0.2.1 dL_law_639 hl (by decide) rfl (fun ls hl => ?_)
    refine lv_aload_n C0.1 C0.2.1 dL_law_641 rfl (lv_at hl 4 rfl) ?_
    refine tc_callV (q0 := 0) (rest := []) C0 hG hS rfl rfl (kX1_thrown hlf hkn ) (cwV 0 C0.2.2.2.2 gL_law_X1_thrown rfl rfl rfl (by decide +kernel) ⟨(Nat.le_of_ble_eq_true rfl), (Nat.le_of_ble_eq_true rfl)⟩) rfl hl rfl (Nat.le_of_ble_eq_true rfl) dL_law_642 ⟨(by dsimp only [room_1]; omega), (by dsimp only [room_1]; omega)⟩ (fun H locs hG hS => ?_)
    refine lv_iload C0.1 C0.2.1 dL_law_645 (lv_at hl 1 rfl) ?_
    refine lv_icmp_eq (tgt := 652) C0.1 C0.2.1 dL_law_647 (by decide) (fun c_a => ?_) (fun c_a => ?_)
    · refine lv_iload C0.1 C0.2.1 dL_law_652 (lv_at hl 1 rfl) ?_
      refine tn_if_ne (tgt := 669) C0.1 C0.2.1 dL_law_654 (by decide) (by have hcm := cdH_le x1; omega) (fun c_c => ?_) (fun c_c => ?_)
      · exact absurd hcd (Nat.ne_of_gt c_c)
      · refine lv_aload_n C0.1 C0.2.1 dL_law_657 rfl (lv_at hl 5 rfl) ?_
        refine lv_iconst (v := nI 0) C0.1 C0.2.1 dL_law_658 (by decide) ?_
        refine tc_lald0 (q0 := 10) C0 hG rfl dL_law_659 ?_
        refine lv_topl (fun y8 e8 => ?_)
        have e9 : y8 = (((hrs tk co wk n cn ct st (ix x1)).2.1 - ct)).toInt64 := e8.trans pk_uLs
        subst e9
        refine lv_iload C0.1 C0.2.1 dL_law_660 (lv_at hl 0 rfl) ?_
        refine lv_i2l C0.1 C0.2.1 dL_law_662 (v := (((hrs tk co wk n cn ct st (ix x1)).2.1 - ct)).toInt64) rfl ?_
        refine W.lcmp C0.1 C0.2.1 dL_law_663 ?_
        refine tc_top (lg_self _) ?_
        refine tn_if_eq (tgt := 669) C0.1 C0.2.1 dL_law_664 (by decide) (by decide) (fun c_d => ?_) (fun c_d => absurd c_d (by decide))
        refine lv_goto (tgt := 1758) C0.1 C0.2.1 dL_law_669 (by decide) ?_
        refine lv_iinc (v := nI (i + 5)) (lv' := [(4, .int (nI (i + 5))), (6, .int (((hrs tk co wk n cn ct st (ix x1)).2.1 - ct))), (5, .int (nI (cdH x1))), (0, .ref b), (1, .ref h), (2, .ref g), (3, .ref o)]) C0.1 C0.2.1 dL_law_1758 hl (k := 6) rfl (nI_add i 5) (by decide) rfl (fun ls hl => ?_)
        refine lv_goto (tgt := 23) C0.1 C0.2.1 dL_law_1761 (by decide) ?_
        refine W.widen (k := 11 + (i + 5)) (n := 128 + 5 * (i + 5)) (by omega) (by omega) ?_
        have hG := hG.sub (ws' := wT h r1 r2 r3 r4 cI tk co ((hrs tk co wk n cn ct st (ix x1)).1) wk n (ho + nI (ix x1)) ((hrs tk co wk n cn ct st (ix x1)).2.2) ((hrs tk co wk n cn ct st (ix x1)).2.1) sp ((o, tcO cJ (vp_updL fo 0 ((((hrs tk co wk n cn ct st (ix x1)).2.1 - ct)).toInt64))) :: wM g q1 q2 q3 q4 cI (nI 0) tk co ((hrs tk co wk n cn ct st (ix x1)).1) wk n (ho + nI (ix x1)) ((hrs tk co wk n cn ct st (ix x1)).2.2) ((hrs tk co wk n cn ct st (ix x1)).2.1) sp [])) [5, 6, 7, 8, 9, 10, 0, 1, 2, 3, 4] (by decide) rfl rfl
        exact back tk co ((hrs tk co wk n cn ct st (ix x1)).1) wk n (ho + nI (ix x1)) ((hrs tk co wk n cn ct st (ix x1)).2.2) ((hrs tk co wk n cn ct st (ix x1)).2.1) sp (nI 0) (vp_updL fo 0 ((((hrs tk co wk n cn ct st (ix x1)).2.1 - ct)).toInt64)) hkn _ _ _ hG hS (lv_sub hl [3, 4, 5, 6, 0] rfl)
    · exact absurd (by rw [hcd]) c_a
  · rw [if_neg hcd] at hG
    refine lv_aload_n C0.1 C0.2.1 dL_law_629 rfl (lv_at hl 3 rfl) ?_
    refine lv_aload_n C0.1 C0.2.1 dL_law_630 rfl (lv_at hl 1 rfl) ?_
    refine lv_iload C0.1 C0.2.1 dL_law_631 (lv_at hl 5 rfl) ?_
    refine lv_iconst (v := nI 1) C0.1 C0.2.1 dL_law_633 (by decide) ?_
    refine tn_iadd C0.1 C0.2.1 dL_law_634 ?_
    refine tc_sld C0 hX hbl hS (by omega) hL ex1 dL_law_635 ?_
    have hG := hG.sub (ws' := wM g q1 q2 q3 q4 cI th tk co cn wk n ho st ct sp (wT h r1 r2 r3 r4 cI tk co cn wk n ho st ct sp [(o, tcO cJ fo)])) [6, 7, 8, 9, 10, 0, 1, 2, 3, 4, 5] (by decide) rfl rfl
    refine tc_callV (q0 := 0) (rest := []) C0 hG hS rfl rfl (kX1_pass hlf hk x1) (cwV 1 C0.2.2.2.2 gL_law_X1_pass rfl rfl rfl (by decide +kernel) ⟨(Nat.le_of_ble_eq_true rfl), (Nat.le_of_ble_eq_true rfl)⟩) rfl hl rfl (Nat.le_of_ble_eq_true rfl) dL_law_636 ⟨(by dsimp only [room_1]; omega), (by dsimp only [room_1]; omega)⟩ (fun H locs hG hS => ?_)
    rw [if_neg hcd] at hG
    have hG : tcG D cI cJ s.heap.size (wM g q1 q2 q3 q4 cI (nI (cdH x1)) tk co cn wk n ho st ct sp (wT h r1 r2 r3 r4 cI tk co cn wk n ho st ct sp [(o, tcO cJ fo)])) s H := hG
    refine tc_top (y := nI 0) (if_neg hcd) ?_
    refine lv_istore (lv' := [(6, .int (nI 0)), (5, .int (nI (cdH x1))), (0, .ref b), (1, .ref h), (2, .ref g), (3, .ref o), (4, .int (nI i))]) C0.1 C0.2.1 dL_law_639 hl (by decide) rfl (fun ls hl => ?_)
    refine lv_aload_n C0.1 C0.2.1 dL_law_641 rfl (lv_at hl 4 rfl) ?_
    refine tc_callV (q0 := 0) (rest := []) C0 hG hS rfl rfl (kX1_thrown hlf hk ) (cwV 0 C0.2.2.2.2 gL_law_X1_thrown rfl rfl rfl (by decide +kernel) ⟨(Nat.le_of_ble_eq_true rfl), (Nat.le_of_ble_eq_true rfl)⟩) rfl hl rfl (Nat.le_of_ble_eq_true rfl) dL_law_642 ⟨(by dsimp only [room_1]; omega), (by dsimp only [room_1]; omega)⟩ (fun H locs hG hS => ?_)
    refine lv_iload C0.1 C0.2.1 dL_law_645 (lv_at hl 1 rfl) ?_
    refine lv_icmp_eq (tgt := 652) C0.1 C0.2.1 dL_law_647 (by decide) (fun c_a => ?_) (fun c_a => ?_)
    · refine lv_iload C0.1 C0.2.1 dL_law_652 (lv_at hl 1 rfl) ?_
      refine tn_if_ne (tgt := 669) C0.1 C0.2.1 dL_law_654 (by decide) (by have hcm := cdH_le x1; omega) (fun c_c => ?_) (fun c_c => ?_)
      · refine lv_goto (tgt := 1758) C0.1 C0.2.1 dL_law_669 (by decide) ?_
        refine lv_iinc (v := nI (i + 5)) (lv' := [(4, .int (nI (i + 5))), (6, .int (nI 0)), (5, .int (nI (cdH x1))), (0, .ref b), (1, .ref h), (2, .ref g), (3, .ref o)]) C0.1 C0.2.1 dL_law_1758 hl (k := 6) rfl (nI_add i 5) (by decide) rfl (fun ls hl => ?_)
        refine lv_goto (tgt := 23) C0.1 C0.2.1 dL_law_1761 (by decide) ?_
        refine W.widen (k := 11 + (i + 5)) (n := 128 + 5 * (i + 5)) (by omega) (by omega) ?_
        have hG := hG.sub (ws' := wT h r1 r2 r3 r4 cI tk co cn wk n ho st ct sp ((o, tcO cJ fo) :: wM g q1 q2 q3 q4 cI (nI (cdH x1)) tk co cn wk n ho st ct sp [])) [5, 6, 7, 8, 9, 10, 0, 1, 2, 3, 4] (by decide) rfl rfl
        exact back tk co cn wk n ho st ct sp (nI (cdH x1)) fo hk _ _ _ hG hS (lv_sub hl [3, 4, 5, 6, 0] rfl)
      · exact absurd c_c hcd
    · exact absurd rfl c_a
