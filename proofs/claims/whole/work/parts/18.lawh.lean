/-! the law's helpers: a call of the class, its answer in out, or the number of what it throws -/
abbrev tcO (cJ : ClassId) (f : Nat → Int64) : va_E := .inl (cJ, 1, .inr (.inl f))
def lB (b : Bool) : Int64 := if b = true then 1 else 0
theorem cdS_le (x : Int32) (n : Nat) : cdS x n ≤ 1 := by unfold cdS; split <;> omega
theorem cdK_le (k : Int32) (n : Nat) (x : Int32) (m : Nat) : cdK k n x m ≤ 2 := by
  unfold cdK; split
  · split <;> omega
  · omega
theorem cdH_le (x : Int32) : cdH x ≤ 1 := by unfold cdH; split <;> omega
theorem cdA_le (t c k w : Int32) (n : Nat) : cdA t c k w n ≤ 2 := by
  unfold cdA; split
  · split <;> omega
  · omega
section TCL
variable {p : Program} {l : Launch} {e : Env} {R : Room} {s : State} {m : MethodId} {args : Array Value} {below : List Frame} {meth : Method} {c : Code} {H : Heap} {locs : List Loc} {cells slots : Nat} {Q : State → Prop}
variable {cc : ByteArray} {pc : Nat} {ls : Array Slot} {rest st0 : List Value} {D : va_G} {cI cJ : ClassId} {N0 : Nat} {ws ws' ws0 : va_W} {es : List String} {cd mc ms nL : Nat} {v : Option Value} {As : List Value} {own : String} {Ts : List Cond}
theorem tcM.ofH {y : MethodName} {wsY ws9 : List Cond} {rm : Room} {maxL : Nat} {ret : Option FieldType} {hh : List (Nat × Nat × Nat × Nat)} (hy : plainName y.cls = true) (hw : wsY = Cond.codeWith y cc maxL ret hh :: ws9) (hlen : (lg_sl As).length ≤ maxL)
    (body : ∀ (p : Program) (e : Env) (s : State) (m : MethodId) (args : Array Value) (below : List Frame) (meth : Method) (c : Code), CallFix p m c cc maxL s args wsY y.cls → meth.sig.returnType = ret → meth.locks = false → c.exceptionTable.toList = tableOf hh → tcG D cI cJ N0 ws s s.heap →
      ∀ ls : Array Slot, lv_has ls maxL (lv_args 0 As) → W p l e rm s m args below meth c s.heap [] 0 0 (tcE below es cd D N0 ws v ws' args s mc ms) (F0 m 0 ls [])) : tcM l y wsY rm es cd As D cI cJ N0 ws v ws' mc ms := by
  refine vx_ofWH (cc := cc) (maxL := maxL) (ret := ret) (hh := hh) hy hw ?_
  intro p e s m args below meth c s₁ B hml hv
  obtain ⟨rfl, hG⟩ := hv
  have hts := atoms_spec (ws := wsY) B.pre
  have hown : s.vm.findClass y.cls = some m.cls := findClass_of_methodNamed B.named
  have htb : c.exceptionTable.toList = tableOf hh := vx_table (x := y) B (hts _ (by rw [hw]; exact List.mem_cons_self))
  rw [lg_entry_eq]
  exact body p e s m _ below meth c ⟨B.exec, B.bytes, hml, hown, hts⟩ B.returns B.notSynchronized htb hG _ (lv_entry As hlen)
theorem tc_last0 (C0 : CallFix p m c cc nL s args Ts own) (hG0 : tcG D cI cJ N0 ws0 s s.heap) (hG : tcG D cI cJ N0 ws s H) (hS : va_S (tcA N0) s.heap H locs) {q0 a : Nat} {f : Nat → Int64} {x : Int64} (he : ws[q0]? = some (a, tcO cJ f)) (hdg : decode cc pc = .ok (.lastore, 1))
    (kk : ∀ (H1 : Heap) (locs1 : List Loc), tcG D cI cJ N0 (ws.set q0 (a, tcO cJ (vp_updL f 0 x))) s H1 → va_S (tcA N0) s.heap H1 locs1 → W p l e R s m args below meth c H1 locs1 cells slots Q (F0 m (pc + 1) ls rest)) : W p l e R s m args below meth c H locs cells slots Q (F0 m pc ls (.long x :: .int (nI 0) :: .ref a :: rest)) := by
  refine va_last C0.1 C0.2.1 hG.2.1 hG.1 hG.2.2.1 hS q0 1 he rfl (vp_in_nI (by decide) (by decide)) hdg (fun H1 locs1 hP hD hS1 => ?_)
  rw [nI_clamp (by decide)] at hP hD
  exact kk H1 locs1 (hG0.put hP hD hS1) hS1
theorem tc_lald0 (C0 : CallFix p m c cc nL s args Ts own) (hG : tcG D cI cJ N0 ws s H) {q0 a : Nat} {f : Nat → Int64} (he : ws[q0]? = some (a, tcO cJ f)) (hdg : decode cc pc = .ok (.laload, 1))
    (kk : W p l e R s m args below meth c H locs cells slots Q (F0 m (pc + 1) ls (.long (f 0) :: rest))) : W p l e R s m args below meth c H locs cells slots Q (F0 m pc ls (.int (nI 0) :: .ref a :: rest)) := by
  refine va_lald C0.1 C0.2.1 hG.2.1 hG.1 q0 1 he rfl (vp_in_nI (by decide) (by decide)) hdg ?_
  rw [nI_clamp (by decide)]
  exact kk
/-- a call of a static method with a table -/
theorem tc_callSW {index maxL n : Nat} {y : MethodName} {bytes : ByteArray} {ret : Option FieldType} {hh : List (Nat × Nat × Nat × Nat)} {wsY : List Cond} {rm : Room} {lv : List (Nat × Value)} {r : Value}
    (C0 : CallFix p m c cc nL s args Ts own) (hG : tcG D cI cJ N0 ws s H) (hS : va_S (tcA N0) s.heap H locs) (hM : tcM l y wsY rm [] 0 As D cI cJ N0 ws (some r) ws' mc ms) (cw : vx_CSW R s args own index y bytes maxL ret hh wsY rm mc ms n) (hn : As.length = n) (hl : lv_has ls nL lv) (hst : st0 = As.reverse ++ rest) (hcat : (rest.map fun v => v.category).sum ≤ 8) (hdg : decode cc pc = .ok (.invokestatic index, 3)) (hf : cells + mc ≤ R.cells ∧ slots + ms ≤ R.slots)
    (kk : ∀ (H1 : Heap) (locs1 : List Loc), tcG D cI cJ N0 ws' s H1 → va_S (tcA N0) s.heap H1 locs1 → W p l e R s m args below meth c H1 locs1 (cells + mc) (slots + ms) Q (F0 m (pc + 3) ls (r :: rest))) : W p l e R s m args below meth c H locs cells slots Q (F0 m pc ls st0) := by
  subst hst
  exact tc_run (vx_runSX (As := As) (rest := rest) (g := F0 m pc ls (As.reverse ++ rest)) C0 hM cw ⟨tc_blind, fun U hU hW => tc_pre hG hU hW⟩ rfl hn hl.1 rfl (tc_cat hcat) hdg hf) hG hS (fun i E q9 ce H1 locs1 h => by cases h) (fun _ => kk)
end TCL
set_option maxHeartbeats 4000000 in
set_option maxRecDepth 100000 in
theorem kL_addStranger {l : Launch} (hlf : l.stackTraces = false) {D : va_G} {cI cJ : ClassId} {N0 : Nat} {h r1 r2 r3 r4 o : Nat} {tk co cn wk : Nat → Nat} {n st : Nat} {ho ct sp : Int32} {fo : Nat → Int64} {Z : va_W} (hk : tOk tk co cn wk n st) (xt xc xk xw : Int32) : tcM l yL_addStranger wsL_addStranger { frames := 7, cells := 1, slots := 6, locals := 115 } [] 0 [.ref h, .int xt, .int xc, .int xk, .int xw, .ref o] D cI cJ N0 (wT h r1 r2 r3 r4 cI tk co cn wk n ho st ct sp ((o, tcO cJ fo) :: Z)) (some (.int (nI (cdA xt xc xk xw n)))) (if cdA xt xc xk xw n = 0 then wT h r1 r2 r3 r4 cI (va_up tk n (ix xt)) (va_up co n (ix xc)) (va_up cn n (ix xk)) (va_up wk n (ix xw)) (n + 1) ho st ct sp ((o, tcO cJ (vp_updL fo 0 ((nI (n)).toInt64))) :: Z) else wT h r1 r2 r3 r4 cI tk co cn wk n ho st ct sp ((o, tcO cJ fo) :: Z)) 1 6 := by
  refine tcM.ofH (cc := cL_addStranger) (maxL := 7) (ret := some .int) (hh := [(0, 14, 17, 13), (0, 14, 21, 15)]) (by decide) rfl (Nat.le_of_ble_eq_true rfl) ?_
  intro p e s m args below meth c C0 hr hlk htb hG ls hl
  have hl : lv_has ls 7 [(0, .ref h), (1, .int xt), (2, .int xc), (3, .int xk), (4, .int xw), (5, .ref o)] := hl
  have hG0 := hG
  have hS : va_S (tcA N0) s.heap s.heap [] := va_S.rf
  have hxw := hG.2.2.2.2.2.2.2
  refine lv_aload C0.1 C0.2.1 dL_addStranger_0 (lv_at hl 5 rfl) ?_
  refine lv_iconst (v := nI 0) C0.1 C0.2.1 dL_addStranger_2 (by decide) ?_
  refine lv_aload_n C0.1 C0.2.1 dL_addStranger_3 rfl (lv_at hl 0 rfl) ?_
  refine lv_iload_n C0.1 C0.2.1 dL_addStranger_4 rfl (lv_at hl 1 rfl) ?_
  refine lv_iload_n C0.1 C0.2.1 dL_addStranger_5 rfl (lv_at hl 2 rfl) ?_
  refine lv_iload_n C0.1 C0.2.1 dL_addStranger_6 rfl (lv_at hl 3 rfl) ?_
  refine lv_iload C0.1 C0.2.1 dL_addStranger_7 (lv_at hl 4 rfl) ?_
  refine tc_callVx (q0 := 0) (rest := [.int (nI 0), .ref o]) C0 hG hS rfl rfl (kX0_addStranger hlf hk xt xc xk xw) (cwV 4 C0.2.2.2.2 gL_addStranger_X0_addStranger rfl rfl rfl (by decide +kernel) ⟨(Nat.le_of_ble_eq_true rfl), (Nat.le_of_ble_eq_true rfl)⟩) rfl hl rfl (Nat.le_of_ble_eq_true rfl) dL_addStranger_9 ⟨(Nat.le_of_ble_eq_true rfl), (Nat.le_of_ble_eq_true rfl)⟩ ?_ (fun c_n H locs hG hS => ?_)
  · intro i E q9 ce H locs hi hcd hG hS hce hcv hcl
    match i, hi, hcd with
    | 0, hi, hcd =>
      have hE : E = "java/lang/IllegalArgumentException" := (Option.some.inj (show some "java/lang/IllegalArgumentException" = some E from hi)).symm
      subst hE
      refine vx_catch C0.2.2.2.1 [] ⟨0, 14, 17, 13⟩ [⟨0, 14, 21, 15⟩] htb (fun z hz => by cases hz) (by decide) (by decide) (C0.2.2.2.2 (.classLink RL 13 "java/lang/IllegalArgumentException") (by decide +kernel)) (va_Nw.use rfl (hxw.2.1 "java/lang/IllegalArgumentException" (by decide))) hce hcv hcl ?_
      refine lv_astore (lv' := [(6, .ref q9), (0, .ref h), (1, .int xt), (2, .int xc), (3, .int xk), (4, .int xw), (5, .ref o)]) C0.1 C0.2.1 dL_addStranger_17 hl (by decide) rfl (fun ls hl => ?_)
      refine lv_iconst (v := nI 1) C0.1 C0.2.1 dL_addStranger_19 (by decide) ?_
      exact tc_iret C0 hr hlk (tcG.eq (if_neg (by rw [hcd]; decide)).symm hG) hS rfl (by rw [hcd] <;> rfl) (Nat.le_of_ble_eq_true rfl) (Nat.le_of_ble_eq_true rfl) dL_addStranger_20
    | 1, hi, hcd =>
      have hE : E = "java/lang/IllegalStateException" := (Option.some.inj (show some "java/lang/IllegalStateException" = some E from hi)).symm
      subst hE
      refine vx_catch C0.2.2.2.1 [⟨0, 14, 17, 13⟩] ⟨0, 14, 21, 15⟩ [] htb (fun z hz => by rw [List.mem_singleton.mp hz]; exact Or.inr ⟨by decide, "java/lang/IllegalArgumentException", C0.2.2.2.2 (.classLink RL 13 "java/lang/IllegalArgumentException") (by decide +kernel), hxw.2.2 ("java/lang/IllegalStateException", "java/lang/IllegalArgumentException") (by decide)⟩) (by decide) (by decide) (C0.2.2.2.2 (.classLink RL 15 "java/lang/IllegalStateException") (by decide +kernel)) (va_Nw.use rfl (hxw.2.1 "java/lang/IllegalStateException" (by decide))) hce hcv hcl ?_
      refine lv_astore (lv' := [(6, .ref q9), (0, .ref h), (1, .int xt), (2, .int xc), (3, .int xk), (4, .int xw), (5, .ref o)]) C0.1 C0.2.1 dL_addStranger_21 hl (by decide) rfl (fun ls hl => ?_)
      refine lv_iconst (v := nI 2) C0.1 C0.2.1 dL_addStranger_23 (by decide) ?_
      exact tc_iret C0 hr hlk (tcG.eq (if_neg (by rw [hcd]; decide)).symm hG) hS rfl (by rw [hcd] <;> rfl) (Nat.le_of_ble_eq_true rfl) (Nat.le_of_ble_eq_true rfl) dL_addStranger_24
    | i + 2, hi, hcd => exact absurd hi (by intro hq; exact nomatch (show (none : Option String) = some E from hq))
  · refine W.eq (g2 := F0 m 12 ls [.int (nI (n)), .int (nI 0), .ref o]) rfl ?_
    refine lv_i2l C0.1 C0.2.1 dL_addStranger_12 (v := (nI (n)).toInt64) rfl ?_
    refine tc_last0 (q0 := 5) C0 hG0 hG hS rfl dL_addStranger_13 (fun H locs hG hS => ?_)
    have hG : tcG D cI cJ N0 (wT h r1 r2 r3 r4 cI (va_up tk n (ix xt)) (va_up co n (ix xc)) (va_up cn n (ix xk)) (va_up wk n (ix xw)) (n + 1) ho st ct sp ((o, tcO cJ (vp_updL fo 0 ((nI (n)).toInt64))) :: Z)) s H := hG
    refine lv_goto (tgt := 25) C0.1 C0.2.1 dL_addStranger_14 (by decide) ?_
    refine lv_iconst (v := nI 0) C0.1 C0.2.1 dL_addStranger_25 (by decide) ?_
    exact tc_iret C0 hr hlk (tcG.eq (if_pos c_n).symm hG) hS rfl (by rw [c_n]) (Nat.le_of_ble_eq_true rfl) (Nat.le_of_ble_eq_true rfl) dL_addStranger_26
set_option maxHeartbeats 4000000 in
set_option maxRecDepth 100000 in
theorem kL_setWalk {l : Launch} (hlf : l.stackTraces = false) {D : va_G} {cI cJ : ClassId} {N0 : Nat} {h r1 r2 r3 r4 o : Nat} {tk co cn wk : Nat → Nat} {n st : Nat} {ho ct sp : Int32} {fo : Nat → Int64} {Z : va_W} (hk : tOk tk co cn wk n st) (x y : Int32) : tcM l yL_setWalk wsL_setWalk { frames := 8, cells := 2, slots := 12, locals := 134 } [] 0 [.ref h, .int x, .int y, .ref o] D cI cJ N0 (wT h r1 r2 r3 r4 cI tk co cn wk n ho st ct sp ((o, tcO cJ fo) :: Z)) (some (.int (nI (cdK x n y 6)))) (if cdK x n y 6 = 0 then wT h r1 r2 r3 r4 cI tk co cn (va_up wk (ix x) (ix y)) n ho st ct sp ((o, tcO cJ (vp_updL fo 0 ((nI (wk (ix x))).toInt64))) :: Z) else wT h r1 r2 r3 r4 cI tk co cn wk n ho st ct sp ((o, tcO cJ fo) :: Z)) 2 12 := by
  refine tcM.ofH (cc := cL_setWalk) (maxL := 5) (ret := some .int) (hh := [(0, 10, 13, 21), (0, 10, 17, 13)]) (by decide) rfl (Nat.le_of_ble_eq_true rfl) ?_
  intro p e s m args below meth c C0 hr hlk htb hG ls hl
  have hl : lv_has ls 5 [(0, .ref h), (1, .int x), (2, .int y), (3, .ref o)] := hl
  have hG0 := hG
  have hS : va_S (tcA N0) s.heap s.heap [] := va_S.rf
  have hxw := hG.2.2.2.2.2.2.2
  refine lv_aload_n C0.1 C0.2.1 dL_setWalk_0 rfl (lv_at hl 3 rfl) ?_
  refine lv_iconst (v := nI 0) C0.1 C0.2.1 dL_setWalk_1 (by decide) ?_
  refine lv_aload_n C0.1 C0.2.1 dL_setWalk_2 rfl (lv_at hl 0 rfl) ?_
  refine lv_iload_n C0.1 C0.2.1 dL_setWalk_3 rfl (lv_at hl 1 rfl) ?_
  refine lv_iload_n C0.1 C0.2.1 dL_setWalk_4 rfl (lv_at hl 2 rfl) ?_
  refine tc_callVx (q0 := 0) (rest := [.int (nI 0), .ref o]) C0 hG hS rfl rfl (kX0_setWalk hlf hk x y) (cwV 2 C0.2.2.2.2 gL_setWalk_X0_setWalk rfl rfl rfl (by decide +kernel) ⟨(Nat.le_of_ble_eq_true rfl), (Nat.le_of_ble_eq_true rfl)⟩) rfl hl rfl (Nat.le_of_ble_eq_true rfl) dL_setWalk_5 ⟨(Nat.le_of_ble_eq_true rfl), (Nat.le_of_ble_eq_true rfl)⟩ ?_ (fun c_n H locs hG hS => ?_)
  · intro i E q9 ce H locs hi hcd hG hS hce hcv hcl
    match i, hi, hcd with
    | 0, hi, hcd =>
      have hE : E = "java/lang/IndexOutOfBoundsException" := (Option.some.inj (show some "java/lang/IndexOutOfBoundsException" = some E from hi)).symm
      subst hE
      refine vx_catch C0.2.2.2.1 [] ⟨0, 10, 13, 21⟩ [⟨0, 10, 17, 13⟩] htb (fun z hz => by cases hz) (by decide) (by decide) (C0.2.2.2.2 (.classLink RL 21 "java/lang/IndexOutOfBoundsException") (by decide +kernel)) (va_Nw.use rfl (hxw.2.1 "java/lang/IndexOutOfBoundsException" (by decide))) hce hcv hcl ?_
      refine lv_astore (lv' := [(4, .ref q9), (0, .ref h), (1, .int x), (2, .int y), (3, .ref o)]) C0.1 C0.2.1 dL_setWalk_13 hl (by decide) rfl (fun ls hl => ?_)
      refine lv_iconst (v := nI 1) C0.1 C0.2.1 dL_setWalk_15 (by decide) ?_
      exact tc_iret C0 hr hlk (tcG.eq (if_neg (by rw [hcd]; decide)).symm hG) hS rfl (by rw [hcd] <;> rfl) (Nat.le_of_ble_eq_true rfl) (Nat.le_of_ble_eq_true rfl) dL_setWalk_16
    | 1, hi, hcd =>
      have hE : E = "java/lang/IllegalArgumentException" := (Option.some.inj (show some "java/lang/IllegalArgumentException" = some E from hi)).symm
      subst hE
      refine vx_catch C0.2.2.2.1 [⟨0, 10, 13, 21⟩] ⟨0, 10, 17, 13⟩ [] htb (fun z hz => by rw [List.mem_singleton.mp hz]; exact Or.inr ⟨by decide, "java/lang/IndexOutOfBoundsException", C0.2.2.2.2 (.classLink RL 21 "java/lang/IndexOutOfBoundsException") (by decide +kernel), hxw.2.2 ("java/lang/IllegalArgumentException", "java/lang/IndexOutOfBoundsException") (by decide)⟩) (by decide) (by decide) (C0.2.2.2.2 (.classLink RL 13 "java/lang/IllegalArgumentException") (by decide +kernel)) (va_Nw.use rfl (hxw.2.1 "java/lang/IllegalArgumentException" (by decide))) hce hcv hcl ?_
      refine lv_astore (lv' := [(4, .ref q9), (0, .ref h), (1, .int x), (2, .int y), (3, .ref o)]) C0.1 C0.2.1 dL_setWalk_17 hl (by decide) rfl (fun ls hl => ?_)
      refine lv_iconst (v := nI 2) C0.1 C0.2.1 dL_setWalk_19 (by decide) ?_
      exact tc_iret C0 hr hlk (tcG.eq (if_neg (by rw [hcd]; decide)).symm hG) hS rfl (by rw [hcd] <;> rfl) (Nat.le_of_ble_eq_true rfl) (Nat.le_of_ble_eq_true rfl) dL_setWalk_20
    | 2, hi, hcd =>
      exact absurd hcd (by have hcm := cdK_le x n y 6; omega)
    | i + 3, hi, hcd => exact absurd hi (by intro hq; exact nomatch (show (none : Option String) = some E from hq))
  · refine W.eq (g2 := F0 m 8 ls [.int (nI (wk (ix x))), .int (nI 0), .ref o]) rfl ?_
    refine lv_i2l C0.1 C0.2.1 dL_setWalk_8 (v := (nI (wk (ix x))).toInt64) rfl ?_
    refine tc_last0 (q0 := 5) C0 hG0 hG hS rfl dL_setWalk_9 (fun H locs hG hS => ?_)
    have hG : tcG D cI cJ N0 (wT h r1 r2 r3 r4 cI tk co cn (va_up wk (ix x) (ix y)) n ho st ct sp ((o, tcO cJ (vp_updL fo 0 ((nI (wk (ix x))).toInt64))) :: Z)) s H := hG
    refine lv_goto (tgt := 21) C0.1 C0.2.1 dL_setWalk_10 (by decide) ?_
    refine lv_iconst (v := nI 0) C0.1 C0.2.1 dL_setWalk_21 (by decide) ?_
    exact tc_iret C0 hr hlk (tcG.eq (if_pos c_n).symm hG) hS rfl (by rw [c_n]) (Nat.le_of_ble_eq_true rfl) (Nat.le_of_ble_eq_true rfl) dL_setWalk_22
set_option maxHeartbeats 4000000 in
set_option maxRecDepth 100000 in
theorem kL_move {l : Launch} (hlf : l.stackTraces = false) {D : va_G} {cI cJ : ClassId} {N0 : Nat} {h r1 r2 r3 r4 o : Nat} {tk co cn wk : Nat → Nat} {n st : Nat} {ho ct sp : Int32} {fo : Nat → Int64} {Z : va_W} (hk : tOk tk co cn wk n st) (x y : Int32) : tcM l yL_move wsL_move { frames := 8, cells := 2, slots := 12, locals := 134 } [] 0 [.ref h, .int x, .int y, .ref o] D cI cJ N0 (wT h r1 r2 r3 r4 cI tk co cn wk n ho st ct sp ((o, tcO cJ fo) :: Z)) (some (.int (nI (cdMv x y cn n st)))) (if cdMv x y cn n st = 0 then wT h r1 r2 r3 r4 cI tk co (va_up cn (ix x) (ix y)) wk n ho (st - way (cn (ix x)) (ix y)) ct (sp + nI (way (cn (ix x)) (ix y))) ((o, tcO cJ (vp_updL fo 0 ((nI (way (cn (ix x)) (ix y))).toInt64))) :: Z) else wT h r1 r2 r3 r4 cI tk co cn wk n ho st ct sp ((o, tcO cJ fo) :: Z)) 2 12 := by
  refine tcM.ofH (cc := cL_move) (maxL := 5) (ret := some .int) (hh := [(0, 10, 13, 21), (0, 10, 17, 13), (0, 10, 21, 15)]) (by decide) rfl (Nat.le_of_ble_eq_true rfl) ?_
  intro p e s m args below meth c C0 hr hlk htb hG ls hl
  have hl : lv_has ls 5 [(0, .ref h), (1, .int x), (2, .int y), (3, .ref o)] := hl
  have hG0 := hG
  have hS : va_S (tcA N0) s.heap s.heap [] := va_S.rf
  have hxw := hG.2.2.2.2.2.2.2
  refine lv_aload_n C0.1 C0.2.1 dL_move_0 rfl (lv_at hl 3 rfl) ?_
  refine lv_iconst (v := nI 0) C0.1 C0.2.1 dL_move_1 (by decide) ?_
  refine lv_aload_n C0.1 C0.2.1 dL_move_2 rfl (lv_at hl 0 rfl) ?_
  refine lv_iload_n C0.1 C0.2.1 dL_move_3 rfl (lv_at hl 1 rfl) ?_
  refine lv_iload_n C0.1 C0.2.1 dL_move_4 rfl (lv_at hl 2 rfl) ?_
  refine tc_callVx (q0 := 0) (rest := [.int (nI 0), .ref o]) C0 hG hS rfl rfl (kX0_move hlf hk x y) (cwV 2 C0.2.2.2.2 gL_move_X0_move rfl rfl rfl (by decide +kernel) ⟨(Nat.le_of_ble_eq_true rfl), (Nat.le_of_ble_eq_true rfl)⟩) rfl hl rfl (Nat.le_of_ble_eq_true rfl) dL_move_5 ⟨(Nat.le_of_ble_eq_true rfl), (Nat.le_of_ble_eq_true rfl)⟩ ?_ (fun c_n H locs hG hS => ?_)
  · intro i E q9 ce H locs hi hcd hG hS hce hcv hcl
    match i, hi, hcd with
    | 0, hi, hcd =>
      have hE : E = "java/lang/IndexOutOfBoundsException" := (Option.some.inj (show some "java/lang/IndexOutOfBoundsException" = some E from hi)).symm
      subst hE
      refine vx_catch C0.2.2.2.1 [] ⟨0, 10, 13, 21⟩ [⟨0, 10, 17, 13⟩, ⟨0, 10, 21, 15⟩] htb (fun z hz => by cases hz) (by decide) (by decide) (C0.2.2.2.2 (.classLink RL 21 "java/lang/IndexOutOfBoundsException") (by decide +kernel)) (va_Nw.use rfl (hxw.2.1 "java/lang/IndexOutOfBoundsException" (by decide))) hce hcv hcl ?_
      refine lv_astore (lv' := [(4, .ref q9), (0, .ref h), (1, .int x), (2, .int y), (3, .ref o)]) C0.1 C0.2.1 dL_move_13 hl (by decide) rfl (fun ls hl => ?_)
      refine lv_iconst (v := nI 1) C0.1 C0.2.1 dL_move_15 (by decide) ?_
      exact tc_iret C0 hr hlk (tcG.eq (if_neg (by rw [hcd]; decide)).symm hG) hS rfl (by rw [hcd] <;> rfl) (Nat.le_of_ble_eq_true rfl) (Nat.le_of_ble_eq_true rfl) dL_move_16
    | 1, hi, hcd =>
      have hE : E = "java/lang/IllegalArgumentException" := (Option.some.inj (show some "java/lang/IllegalArgumentException" = some E from hi)).symm
      subst hE
      refine vx_catch C0.2.2.2.1 [⟨0, 10, 13, 21⟩] ⟨0, 10, 17, 13⟩ [⟨0, 10, 21, 15⟩] htb (fun z hz => by rw [List.mem_singleton.mp hz]; exact Or.inr ⟨by decide, "java/lang/IndexOutOfBoundsException", C0.2.2.2.2 (.classLink RL 21 "java/lang/IndexOutOfBoundsException") (by decide +kernel), hxw.2.2 ("java/lang/IllegalArgumentException", "java/lang/IndexOutOfBoundsException") (by decide)⟩) (by decide) (by decide) (C0.2.2.2.2 (.classLink RL 13 "java/lang/IllegalArgumentException") (by decide +kernel)) (va_Nw.use rfl (hxw.2.1 "java/lang/IllegalArgumentException" (by decide))) hce hcv hcl ?_
      refine lv_astore (lv' := [(4, .ref q9), (0, .ref h), (1, .int x), (2, .int y), (3, .ref o)]) C0.1 C0.2.1 dL_move_17 hl (by decide) rfl (fun ls hl => ?_)
      refine lv_iconst (v := nI 2) C0.1 C0.2.1 dL_move_19 (by decide) ?_
      exact tc_iret C0 hr hlk (tcG.eq (if_neg (by rw [hcd]; decide)).symm hG) hS rfl (by rw [hcd] <;> rfl) (Nat.le_of_ble_eq_true rfl) (Nat.le_of_ble_eq_true rfl) dL_move_20
    | 2, hi, hcd =>
      have hE : E = "java/lang/IllegalStateException" := (Option.some.inj (show some "java/lang/IllegalStateException" = some E from hi)).symm
      subst hE
      refine vx_catch C0.2.2.2.1 [⟨0, 10, 13, 21⟩, ⟨0, 10, 17, 13⟩] ⟨0, 10, 21, 15⟩ [] htb (fun z hz => by
          rcases List.mem_cons.mp hz with hz | hz
          · rw [hz]; exact Or.inr ⟨by decide, "java/lang/IndexOutOfBoundsException", C0.2.2.2.2 (.classLink RL 21 "java/lang/IndexOutOfBoundsException") (by decide +kernel), hxw.2.2 ("java/lang/IllegalStateException", "java/lang/IndexOutOfBoundsException") (by decide)⟩
          · rw [List.mem_singleton.mp hz]; exact Or.inr ⟨by decide, "java/lang/IllegalArgumentException", C0.2.2.2.2 (.classLink RL 13 "java/lang/IllegalArgumentException") (by decide +kernel), hxw.2.2 ("java/lang/IllegalStateException", "java/lang/IllegalArgumentException") (by decide)⟩) (by decide) (by decide) (C0.2.2.2.2 (.classLink RL 15 "java/lang/IllegalStateException") (by decide +kernel)) (va_Nw.use rfl (hxw.2.1 "java/lang/IllegalStateException" (by decide))) hce hcv hcl ?_
      refine lv_astore (lv' := [(4, .ref q9), (0, .ref h), (1, .int x), (2, .int y), (3, .ref o)]) C0.1 C0.2.1 dL_move_21 hl (by decide) rfl (fun ls hl => ?_)
      refine lv_iconst (v := nI 3) C0.1 C0.2.1 dL_move_23 (by decide) ?_
      exact tc_iret C0 hr hlk (tcG.eq (if_neg (by rw [hcd]; decide)).symm hG) hS rfl (by rw [hcd] <;> rfl) (Nat.le_of_ble_eq_true rfl) (Nat.le_of_ble_eq_true rfl) dL_move_24
    | i + 3, hi, hcd => exact absurd hi (by intro hq; exact nomatch (show (none : Option String) = some E from hq))
  · refine W.eq (g2 := F0 m 8 ls [.int (nI (way (cn (ix x)) (ix y))), .int (nI 0), .ref o]) rfl ?_
    refine lv_i2l C0.1 C0.2.1 dL_move_8 (v := (nI (way (cn (ix x)) (ix y))).toInt64) rfl ?_
    refine tc_last0 (q0 := 5) C0 hG0 hG hS rfl dL_move_9 (fun H locs hG hS => ?_)
    have hG : tcG D cI cJ N0 (wT h r1 r2 r3 r4 cI tk co (va_up cn (ix x) (ix y)) wk n ho (st - way (cn (ix x)) (ix y)) ct (sp + nI (way (cn (ix x)) (ix y))) ((o, tcO cJ (vp_updL fo 0 ((nI (way (cn (ix x)) (ix y))).toInt64))) :: Z)) s H := hG
    refine lv_goto (tgt := 25) C0.1 C0.2.1 dL_move_10 (by decide) ?_
    refine lv_iconst (v := nI 0) C0.1 C0.2.1 dL_move_25 (by decide) ?_
    exact tc_iret C0 hr hlk (tcG.eq (if_pos c_n).symm hG) hS rfl (by rw [c_n]) (Nat.le_of_ble_eq_true rfl) (Nat.le_of_ble_eq_true rfl) dL_move_26
set_option maxHeartbeats 4000000 in
set_option maxRecDepth 100000 in
theorem kL_swapUmbrellas {l : Launch} (hlf : l.stackTraces = false) {D : va_G} {cI cJ : ClassId} {N0 : Nat} {h r1 r2 r3 r4 o : Nat} {tk co cn wk : Nat → Nat} {n st : Nat} {ho ct sp : Int32} {fo : Nat → Int64} {Z : va_W} (hk : tOk tk co cn wk n st) (x y : Int32) : tcM l yL_swapUmbrellas wsL_swapUmbrellas { frames := 9, cells := 4, slots := 24, locals := 156 } [] 0 [.ref h, .int x, .int y, .ref o] D cI cJ N0 (wT h r1 r2 r3 r4 cI tk co cn wk n ho st ct sp ((o, tcO cJ fo) :: Z)) (some (.int (nI (cdSu x y cn n st)))) (if cdSu x y cn n st = 0 then wT h r1 r2 r3 r4 cI tk (swp co (ix x) (ix y)) cn wk n ho (st - 3) ct (sp + nI 3) ((o, tcO cJ (vp_updL fo 0 (((nI (tw tk (swp co (ix x) (ix y)) cn wk 0 n) - nI (tw tk co cn wk 0 n))).toInt64))) :: Z) else wT h r1 r2 r3 r4 cI tk co cn wk n ho st ct sp ((o, tcO cJ fo) :: Z)) 4 24 := by
  refine tcM.ofH (cc := cL_swapUmbrellas) (maxL := 5) (ret := some .int) (hh := [(0, 10, 13, 21), (0, 10, 17, 13), (0, 10, 21, 15)]) (by decide) rfl (Nat.le_of_ble_eq_true rfl) ?_
  intro p e s m args below meth c C0 hr hlk htb hG ls hl
  have hl : lv_has ls 5 [(0, .ref h), (1, .int x), (2, .int y), (3, .ref o)] := hl
  have hG0 := hG
  have hS : va_S (tcA N0) s.heap s.heap [] := va_S.rf
  have hxw := hG.2.2.2.2.2.2.2
  refine lv_aload_n C0.1 C0.2.1 dL_swapUmbrellas_0 rfl (lv_at hl 3 rfl) ?_
  refine lv_iconst (v := nI 0) C0.1 C0.2.1 dL_swapUmbrellas_1 (by decide) ?_
  refine lv_aload_n C0.1 C0.2.1 dL_swapUmbrellas_2 rfl (lv_at hl 0 rfl) ?_
  refine lv_iload_n C0.1 C0.2.1 dL_swapUmbrellas_3 rfl (lv_at hl 1 rfl) ?_
  refine lv_iload_n C0.1 C0.2.1 dL_swapUmbrellas_4 rfl (lv_at hl 2 rfl) ?_
  refine tc_callVx (q0 := 0) (rest := [.int (nI 0), .ref o]) C0 hG hS rfl rfl (kX0_swapUmbrellas hlf hk x y) (cwV 2 C0.2.2.2.2 gL_swapUmbrellas_X0_swapUmbrellas rfl rfl rfl (by decide +kernel) ⟨(Nat.le_of_ble_eq_true rfl), (Nat.le_of_ble_eq_true rfl)⟩) rfl hl rfl (Nat.le_of_ble_eq_true rfl) dL_swapUmbrellas_5 ⟨(Nat.le_of_ble_eq_true rfl), (Nat.le_of_ble_eq_true rfl)⟩ ?_ (fun c_n H locs hG hS => ?_)
  · intro i E q9 ce H locs hi hcd hG hS hce hcv hcl
    match i, hi, hcd with
    | 0, hi, hcd =>
      have hE : E = "java/lang/IndexOutOfBoundsException" := (Option.some.inj (show some "java/lang/IndexOutOfBoundsException" = some E from hi)).symm
      subst hE
      refine vx_catch C0.2.2.2.1 [] ⟨0, 10, 13, 21⟩ [⟨0, 10, 17, 13⟩, ⟨0, 10, 21, 15⟩] htb (fun z hz => by cases hz) (by decide) (by decide) (C0.2.2.2.2 (.classLink RL 21 "java/lang/IndexOutOfBoundsException") (by decide +kernel)) (va_Nw.use rfl (hxw.2.1 "java/lang/IndexOutOfBoundsException" (by decide))) hce hcv hcl ?_
      refine lv_astore (lv' := [(4, .ref q9), (0, .ref h), (1, .int x), (2, .int y), (3, .ref o)]) C0.1 C0.2.1 dL_swapUmbrellas_13 hl (by decide) rfl (fun ls hl => ?_)
      refine lv_iconst (v := nI 1) C0.1 C0.2.1 dL_swapUmbrellas_15 (by decide) ?_
      exact tc_iret C0 hr hlk (tcG.eq (if_neg (by rw [hcd]; decide)).symm hG) hS rfl (by rw [hcd] <;> rfl) (Nat.le_of_ble_eq_true rfl) (Nat.le_of_ble_eq_true rfl) dL_swapUmbrellas_16
    | 1, hi, hcd =>
      have hE : E = "java/lang/IllegalArgumentException" := (Option.some.inj (show some "java/lang/IllegalArgumentException" = some E from hi)).symm
      subst hE
      refine vx_catch C0.2.2.2.1 [⟨0, 10, 13, 21⟩] ⟨0, 10, 17, 13⟩ [⟨0, 10, 21, 15⟩] htb (fun z hz => by rw [List.mem_singleton.mp hz]; exact Or.inr ⟨by decide, "java/lang/IndexOutOfBoundsException", C0.2.2.2.2 (.classLink RL 21 "java/lang/IndexOutOfBoundsException") (by decide +kernel), hxw.2.2 ("java/lang/IllegalArgumentException", "java/lang/IndexOutOfBoundsException") (by decide)⟩) (by decide) (by decide) (C0.2.2.2.2 (.classLink RL 13 "java/lang/IllegalArgumentException") (by decide +kernel)) (va_Nw.use rfl (hxw.2.1 "java/lang/IllegalArgumentException" (by decide))) hce hcv hcl ?_
      refine lv_astore (lv' := [(4, .ref q9), (0, .ref h), (1, .int x), (2, .int y), (3, .ref o)]) C0.1 C0.2.1 dL_swapUmbrellas_17 hl (by decide) rfl (fun ls hl => ?_)
      refine lv_iconst (v := nI 2) C0.1 C0.2.1 dL_swapUmbrellas_19 (by decide) ?_
      exact tc_iret C0 hr hlk (tcG.eq (if_neg (by rw [hcd]; decide)).symm hG) hS rfl (by rw [hcd] <;> rfl) (Nat.le_of_ble_eq_true rfl) (Nat.le_of_ble_eq_true rfl) dL_swapUmbrellas_20
    | 2, hi, hcd =>
      have hE : E = "java/lang/IllegalStateException" := (Option.some.inj (show some "java/lang/IllegalStateException" = some E from hi)).symm
      subst hE
      refine vx_catch C0.2.2.2.1 [⟨0, 10, 13, 21⟩, ⟨0, 10, 17, 13⟩] ⟨0, 10, 21, 15⟩ [] htb (fun z hz => by
          rcases List.mem_cons.mp hz with hz | hz
          · rw [hz]; exact Or.inr ⟨by decide, "java/lang/IndexOutOfBoundsException", C0.2.2.2.2 (.classLink RL 21 "java/lang/IndexOutOfBoundsException") (by decide +kernel), hxw.2.2 ("java/lang/IllegalStateException", "java/lang/IndexOutOfBoundsException") (by decide)⟩
          · rw [List.mem_singleton.mp hz]; exact Or.inr ⟨by decide, "java/lang/IllegalArgumentException", C0.2.2.2.2 (.classLink RL 13 "java/lang/IllegalArgumentException") (by decide +kernel), hxw.2.2 ("java/lang/IllegalStateException", "java/lang/IllegalArgumentException") (by decide)⟩) (by decide) (by decide) (C0.2.2.2.2 (.classLink RL 15 "java/lang/IllegalStateException") (by decide +kernel)) (va_Nw.use rfl (hxw.2.1 "java/lang/IllegalStateException" (by decide))) hce hcv hcl ?_
      refine lv_astore (lv' := [(4, .ref q9), (0, .ref h), (1, .int x), (2, .int y), (3, .ref o)]) C0.1 C0.2.1 dL_swapUmbrellas_21 hl (by decide) rfl (fun ls hl => ?_)
      refine lv_iconst (v := nI 3) C0.1 C0.2.1 dL_swapUmbrellas_23 (by decide) ?_
      exact tc_iret C0 hr hlk (tcG.eq (if_neg (by rw [hcd]; decide)).symm hG) hS rfl (by rw [hcd] <;> rfl) (Nat.le_of_ble_eq_true rfl) (Nat.le_of_ble_eq_true rfl) dL_swapUmbrellas_24
    | i + 3, hi, hcd => exact absurd hi (by intro hq; exact nomatch (show (none : Option String) = some E from hq))
  · refine W.eq (g2 := F0 m 8 ls [.int (nI (tw tk (swp co (ix x) (ix y)) cn wk 0 n) - nI (tw tk co cn wk 0 n)), .int (nI 0), .ref o]) rfl ?_
    refine lv_i2l C0.1 C0.2.1 dL_swapUmbrellas_8 (v := ((nI (tw tk (swp co (ix x) (ix y)) cn wk 0 n) - nI (tw tk co cn wk 0 n))).toInt64) rfl ?_
    refine tc_last0 (q0 := 5) C0 hG0 hG hS rfl dL_swapUmbrellas_9 (fun H locs hG hS => ?_)
    have hG : tcG D cI cJ N0 (wT h r1 r2 r3 r4 cI tk (swp co (ix x) (ix y)) cn wk n ho (st - 3) ct (sp + nI 3) ((o, tcO cJ (vp_updL fo 0 (((nI (tw tk (swp co (ix x) (ix y)) cn wk 0 n) - nI (tw tk co cn wk 0 n))).toInt64))) :: Z)) s H := hG
    refine lv_goto (tgt := 25) C0.1 C0.2.1 dL_swapUmbrellas_10 (by decide) ?_
    refine lv_iconst (v := nI 0) C0.1 C0.2.1 dL_swapUmbrellas_25 (by decide) ?_
    exact tc_iret C0 hr hlk (tcG.eq (if_pos c_n).symm hG) hS rfl (by rw [c_n]) (Nat.le_of_ble_eq_true rfl) (Nat.le_of_ble_eq_true rfl) dL_swapUmbrellas_26
set_option maxHeartbeats 4000000 in
set_option maxRecDepth 100000 in
theorem kL_swapTickets {l : Launch} (hlf : l.stackTraces = false) {D : va_G} {cI cJ : ClassId} {N0 : Nat} {h r1 r2 r3 r4 o : Nat} {tk co cn wk : Nat → Nat} {n st : Nat} {ho ct sp : Int32} {fo : Nat → Int64} {Z : va_W} (hk : tOk tk co cn wk n st) (x y : Int32) : tcM l yL_swapTickets wsL_swapTickets { frames := 9, cells := 4, slots := 24, locals := 156 } [] 0 [.ref h, .int x, .int y, .ref o] D cI cJ N0 (wT h r1 r2 r3 r4 cI tk co cn wk n ho st ct sp ((o, tcO cJ fo) :: Z)) (some (.int (nI (cdSt x y n st)))) (if cdSt x y n st = 0 then wT h r1 r2 r3 r4 cI (swp tk (ix x) (ix y)) co cn wk n ho (st - 8) ct (sp + nI 8) ((o, tcO cJ (vp_updL fo 0 (((nI (tw (swp tk (ix x) (ix y)) co cn wk 0 n) - nI (tw tk co cn wk 0 n))).toInt64))) :: Z) else wT h r1 r2 r3 r4 cI tk co cn wk n ho st ct sp ((o, tcO cJ fo) :: Z)) 4 24 := by
  refine tcM.ofH (cc := cL_swapTickets) (maxL := 5) (ret := some .int) (hh := [(0, 10, 13, 21), (0, 10, 17, 13), (0, 10, 21, 15)]) (by decide) rfl (Nat.le_of_ble_eq_true rfl) ?_
  intro p e s m args below meth c C0 hr hlk htb hG ls hl
  have hl : lv_has ls 5 [(0, .ref h), (1, .int x), (2, .int y), (3, .ref o)] := hl
  have hG0 := hG
  have hS : va_S (tcA N0) s.heap s.heap [] := va_S.rf
  have hxw := hG.2.2.2.2.2.2.2
  refine lv_aload_n C0.1 C0.2.1 dL_swapTickets_0 rfl (lv_at hl 3 rfl) ?_
  refine lv_iconst (v := nI 0) C0.1 C0.2.1 dL_swapTickets_1 (by decide) ?_
  refine lv_aload_n C0.1 C0.2.1 dL_swapTickets_2 rfl (lv_at hl 0 rfl) ?_
  refine lv_iload_n C0.1 C0.2.1 dL_swapTickets_3 rfl (lv_at hl 1 rfl) ?_
  refine lv_iload_n C0.1 C0.2.1 dL_swapTickets_4 rfl (lv_at hl 2 rfl) ?_
  refine tc_callVx (q0 := 0) (rest := [.int (nI 0), .ref o]) C0 hG hS rfl rfl (kX0_swapTickets hlf hk x y) (cwV 2 C0.2.2.2.2 gL_swapTickets_X0_swapTickets rfl rfl rfl (by decide +kernel) ⟨(Nat.le_of_ble_eq_true rfl), (Nat.le_of_ble_eq_true rfl)⟩) rfl hl rfl (Nat.le_of_ble_eq_true rfl) dL_swapTickets_5 ⟨(Nat.le_of_ble_eq_true rfl), (Nat.le_of_ble_eq_true rfl)⟩ ?_ (fun c_n H locs hG hS => ?_)
  · intro i E q9 ce H locs hi hcd hG hS hce hcv hcl
    match i, hi, hcd with
    | 0, hi, hcd =>
      have hE : E = "java/lang/IndexOutOfBoundsException" := (Option.some.inj (show some "java/lang/IndexOutOfBoundsException" = some E from hi)).symm
      subst hE
      refine vx_catch C0.2.2.2.1 [] ⟨0, 10, 13, 21⟩ [⟨0, 10, 17, 13⟩, ⟨0, 10, 21, 15⟩] htb (fun z hz => by cases hz) (by decide) (by decide) (C0.2.2.2.2 (.classLink RL 21 "java/lang/IndexOutOfBoundsException") (by decide +kernel)) (va_Nw.use rfl (hxw.2.1 "java/lang/IndexOutOfBoundsException" (by decide))) hce hcv hcl ?_
      refine lv_astore (lv' := [(4, .ref q9), (0, .ref h), (1, .int x), (2, .int y), (3, .ref o)]) C0.1 C0.2.1 dL_swapTickets_13 hl (by decide) rfl (fun ls hl => ?_)
      refine lv_iconst (v := nI 1) C0.1 C0.2.1 dL_swapTickets_15 (by decide) ?_
      exact tc_iret C0 hr hlk (tcG.eq (if_neg (by rw [hcd]; decide)).symm hG) hS rfl (by rw [hcd] <;> rfl) (Nat.le_of_ble_eq_true rfl) (Nat.le_of_ble_eq_true rfl) dL_swapTickets_16
    | 1, hi, hcd =>
      have hE : E = "java/lang/IllegalArgumentException" := (Option.some.inj (show some "java/lang/IllegalArgumentException" = some E from hi)).symm
      subst hE
      refine vx_catch C0.2.2.2.1 [⟨0, 10, 13, 21⟩] ⟨0, 10, 17, 13⟩ [⟨0, 10, 21, 15⟩] htb (fun z hz => by rw [List.mem_singleton.mp hz]; exact Or.inr ⟨by decide, "java/lang/IndexOutOfBoundsException", C0.2.2.2.2 (.classLink RL 21 "java/lang/IndexOutOfBoundsException") (by decide +kernel), hxw.2.2 ("java/lang/IllegalArgumentException", "java/lang/IndexOutOfBoundsException") (by decide)⟩) (by decide) (by decide) (C0.2.2.2.2 (.classLink RL 13 "java/lang/IllegalArgumentException") (by decide +kernel)) (va_Nw.use rfl (hxw.2.1 "java/lang/IllegalArgumentException" (by decide))) hce hcv hcl ?_
      refine lv_astore (lv' := [(4, .ref q9), (0, .ref h), (1, .int x), (2, .int y), (3, .ref o)]) C0.1 C0.2.1 dL_swapTickets_17 hl (by decide) rfl (fun ls hl => ?_)
      refine lv_iconst (v := nI 2) C0.1 C0.2.1 dL_swapTickets_19 (by decide) ?_
      exact tc_iret C0 hr hlk (tcG.eq (if_neg (by rw [hcd]; decide)).symm hG) hS rfl (by rw [hcd] <;> rfl) (Nat.le_of_ble_eq_true rfl) (Nat.le_of_ble_eq_true rfl) dL_swapTickets_20
    | 2, hi, hcd =>
      have hE : E = "java/lang/IllegalStateException" := (Option.some.inj (show some "java/lang/IllegalStateException" = some E from hi)).symm
      subst hE
      refine vx_catch C0.2.2.2.1 [⟨0, 10, 13, 21⟩, ⟨0, 10, 17, 13⟩] ⟨0, 10, 21, 15⟩ [] htb (fun z hz => by
          rcases List.mem_cons.mp hz with hz | hz
          · rw [hz]; exact Or.inr ⟨by decide, "java/lang/IndexOutOfBoundsException", C0.2.2.2.2 (.classLink RL 21 "java/lang/IndexOutOfBoundsException") (by decide +kernel), hxw.2.2 ("java/lang/IllegalStateException", "java/lang/IndexOutOfBoundsException") (by decide)⟩
          · rw [List.mem_singleton.mp hz]; exact Or.inr ⟨by decide, "java/lang/IllegalArgumentException", C0.2.2.2.2 (.classLink RL 13 "java/lang/IllegalArgumentException") (by decide +kernel), hxw.2.2 ("java/lang/IllegalStateException", "java/lang/IllegalArgumentException") (by decide)⟩) (by decide) (by decide) (C0.2.2.2.2 (.classLink RL 15 "java/lang/IllegalStateException") (by decide +kernel)) (va_Nw.use rfl (hxw.2.1 "java/lang/IllegalStateException" (by decide))) hce hcv hcl ?_
      refine lv_astore (lv' := [(4, .ref q9), (0, .ref h), (1, .int x), (2, .int y), (3, .ref o)]) C0.1 C0.2.1 dL_swapTickets_21 hl (by decide) rfl (fun ls hl => ?_)
      refine lv_iconst (v := nI 3) C0.1 C0.2.1 dL_swapTickets_23 (by decide) ?_
      exact tc_iret C0 hr hlk (tcG.eq (if_neg (by rw [hcd]; decide)).symm hG) hS rfl (by rw [hcd] <;> rfl) (Nat.le_of_ble_eq_true rfl) (Nat.le_of_ble_eq_true rfl) dL_swapTickets_24
    | i + 3, hi, hcd => exact absurd hi (by intro hq; exact nomatch (show (none : Option String) = some E from hq))
  · refine W.eq (g2 := F0 m 8 ls [.int (nI (tw (swp tk (ix x) (ix y)) co cn wk 0 n) - nI (tw tk co cn wk 0 n)), .int (nI 0), .ref o]) rfl ?_
    refine lv_i2l C0.1 C0.2.1 dL_swapTickets_8 (v := ((nI (tw (swp tk (ix x) (ix y)) co cn wk 0 n) - nI (tw tk co cn wk 0 n))).toInt64) rfl ?_
    refine tc_last0 (q0 := 5) C0 hG0 hG hS rfl dL_swapTickets_9 (fun H locs hG hS => ?_)
    have hG : tcG D cI cJ N0 (wT h r1 r2 r3 r4 cI (swp tk (ix x) (ix y)) co cn wk n ho (st - 8) ct (sp + nI 8) ((o, tcO cJ (vp_updL fo 0 (((nI (tw (swp tk (ix x) (ix y)) co cn wk 0 n) - nI (tw tk co cn wk 0 n))).toInt64))) :: Z)) s H := hG
    refine lv_goto (tgt := 25) C0.1 C0.2.1 dL_swapTickets_10 (by decide) ?_
    refine lv_iconst (v := nI 0) C0.1 C0.2.1 dL_swapTickets_25 (by decide) ?_
    exact tc_iret C0 hr hlk (tcG.eq (if_pos c_n).symm hG) hS rfl (by rw [c_n]) (Nat.le_of_ble_eq_true rfl) (Nat.le_of_ble_eq_true rfl) dL_swapTickets_26
set_option maxHeartbeats 4000000 in
set_option maxRecDepth 100000 in
theorem kL_draw {l : Launch} (hlf : l.stackTraces = false) {D : va_G} {cI cJ : ClassId} {N0 : Nat} {h r1 r2 r3 r4 o : Nat} {tk co cn wk : Nat → Nat} {n st : Nat} {ho ct sp : Int32} {fo : Nat → Int64} {Z : va_W} (hk : tOk tk co cn wk n st) (x y : Int32) : tcM l yL_draw wsL_draw { frames := 8, cells := 2, slots := 12, locals := 134 } [] 0 [.ref h, .int x, .int y, .ref o] D cI cJ N0 (wT h r1 r2 r3 r4 cI tk co cn wk n ho st ct sp ((o, tcO cJ fo) :: Z)) (some (.int (nI (cdDr x y n st)))) (if cdDr x y n st = 0 then wT h r1 r2 r3 r4 cI (va_up tk (ix x) (ix y)) co cn wk n ho (st - 12) ct (sp + nI 12) ((o, tcO cJ (vp_updL fo 0 ((nI (tk (ix x))).toInt64))) :: Z) else wT h r1 r2 r3 r4 cI tk co cn wk n ho st ct sp ((o, tcO cJ fo) :: Z)) 2 12 := by
  refine tcM.ofH (cc := cL_draw) (maxL := 5) (ret := some .int) (hh := [(0, 10, 13, 21), (0, 10, 17, 13), (0, 10, 21, 15)]) (by decide) rfl (Nat.le_of_ble_eq_true rfl) ?_
  intro p e s m args below meth c C0 hr hlk htb hG ls hl
  have hl : lv_has ls 5 [(0, .ref h), (1, .int x), (2, .int y), (3, .ref o)] := hl
  have hG0 := hG
  have hS : va_S (tcA N0) s.heap s.heap [] := va_S.rf
  have hxw := hG.2.2.2.2.2.2.2
  refine lv_aload_n C0.1 C0.2.1 dL_draw_0 rfl (lv_at hl 3 rfl) ?_
  refine lv_iconst (v := nI 0) C0.1 C0.2.1 dL_draw_1 (by decide) ?_
  refine lv_aload_n C0.1 C0.2.1 dL_draw_2 rfl (lv_at hl 0 rfl) ?_
  refine lv_iload_n C0.1 C0.2.1 dL_draw_3 rfl (lv_at hl 1 rfl) ?_
  refine lv_iload_n C0.1 C0.2.1 dL_draw_4 rfl (lv_at hl 2 rfl) ?_
  refine tc_callVx (q0 := 0) (rest := [.int (nI 0), .ref o]) C0 hG hS rfl rfl (kX0_draw hlf hk x y) (cwV 2 C0.2.2.2.2 gL_draw_X0_draw rfl rfl rfl (by decide +kernel) ⟨(Nat.le_of_ble_eq_true rfl), (Nat.le_of_ble_eq_true rfl)⟩) rfl hl rfl (Nat.le_of_ble_eq_true rfl) dL_draw_5 ⟨(Nat.le_of_ble_eq_true rfl), (Nat.le_of_ble_eq_true rfl)⟩ ?_ (fun c_n H locs hG hS => ?_)
  · intro i E q9 ce H locs hi hcd hG hS hce hcv hcl
    match i, hi, hcd with
    | 0, hi, hcd =>
      have hE : E = "java/lang/IndexOutOfBoundsException" := (Option.some.inj (show some "java/lang/IndexOutOfBoundsException" = some E from hi)).symm
      subst hE
      refine vx_catch C0.2.2.2.1 [] ⟨0, 10, 13, 21⟩ [⟨0, 10, 17, 13⟩, ⟨0, 10, 21, 15⟩] htb (fun z hz => by cases hz) (by decide) (by decide) (C0.2.2.2.2 (.classLink RL 21 "java/lang/IndexOutOfBoundsException") (by decide +kernel)) (va_Nw.use rfl (hxw.2.1 "java/lang/IndexOutOfBoundsException" (by decide))) hce hcv hcl ?_
      refine lv_astore (lv' := [(4, .ref q9), (0, .ref h), (1, .int x), (2, .int y), (3, .ref o)]) C0.1 C0.2.1 dL_draw_13 hl (by decide) rfl (fun ls hl => ?_)
      refine lv_iconst (v := nI 1) C0.1 C0.2.1 dL_draw_15 (by decide) ?_
      exact tc_iret C0 hr hlk (tcG.eq (if_neg (by rw [hcd]; decide)).symm hG) hS rfl (by rw [hcd] <;> rfl) (Nat.le_of_ble_eq_true rfl) (Nat.le_of_ble_eq_true rfl) dL_draw_16
    | 1, hi, hcd =>
      have hE : E = "java/lang/IllegalArgumentException" := (Option.some.inj (show some "java/lang/IllegalArgumentException" = some E from hi)).symm
      subst hE
      refine vx_catch C0.2.2.2.1 [⟨0, 10, 13, 21⟩] ⟨0, 10, 17, 13⟩ [⟨0, 10, 21, 15⟩] htb (fun z hz => by rw [List.mem_singleton.mp hz]; exact Or.inr ⟨by decide, "java/lang/IndexOutOfBoundsException", C0.2.2.2.2 (.classLink RL 21 "java/lang/IndexOutOfBoundsException") (by decide +kernel), hxw.2.2 ("java/lang/IllegalArgumentException", "java/lang/IndexOutOfBoundsException") (by decide)⟩) (by decide) (by decide) (C0.2.2.2.2 (.classLink RL 13 "java/lang/IllegalArgumentException") (by decide +kernel)) (va_Nw.use rfl (hxw.2.1 "java/lang/IllegalArgumentException" (by decide))) hce hcv hcl ?_
      refine lv_astore (lv' := [(4, .ref q9), (0, .ref h), (1, .int x), (2, .int y), (3, .ref o)]) C0.1 C0.2.1 dL_draw_17 hl (by decide) rfl (fun ls hl => ?_)
      refine lv_iconst (v := nI 2) C0.1 C0.2.1 dL_draw_19 (by decide) ?_
      exact tc_iret C0 hr hlk (tcG.eq (if_neg (by rw [hcd]; decide)).symm hG) hS rfl (by rw [hcd] <;> rfl) (Nat.le_of_ble_eq_true rfl) (Nat.le_of_ble_eq_true rfl) dL_draw_20
    | 2, hi, hcd =>
      have hE : E = "java/lang/IllegalStateException" := (Option.some.inj (show some "java/lang/IllegalStateException" = some E from hi)).symm
      subst hE
      refine vx_catch C0.2.2.2.1 [⟨0, 10, 13, 21⟩, ⟨0, 10, 17, 13⟩] ⟨0, 10, 21, 15⟩ [] htb (fun z hz => by
          rcases List.mem_cons.mp hz with hz | hz
          · rw [hz]; exact Or.inr ⟨by decide, "java/lang/IndexOutOfBoundsException", C0.2.2.2.2 (.classLink RL 21 "java/lang/IndexOutOfBoundsException") (by decide +kernel), hxw.2.2 ("java/lang/IllegalStateException", "java/lang/IndexOutOfBoundsException") (by decide)⟩
          · rw [List.mem_singleton.mp hz]; exact Or.inr ⟨by decide, "java/lang/IllegalArgumentException", C0.2.2.2.2 (.classLink RL 13 "java/lang/IllegalArgumentException") (by decide +kernel), hxw.2.2 ("java/lang/IllegalStateException", "java/lang/IllegalArgumentException") (by decide)⟩) (by decide) (by decide) (C0.2.2.2.2 (.classLink RL 15 "java/lang/IllegalStateException") (by decide +kernel)) (va_Nw.use rfl (hxw.2.1 "java/lang/IllegalStateException" (by decide))) hce hcv hcl ?_
      refine lv_astore (lv' := [(4, .ref q9), (0, .ref h), (1, .int x), (2, .int y), (3, .ref o)]) C0.1 C0.2.1 dL_draw_21 hl (by decide) rfl (fun ls hl => ?_)
      refine lv_iconst (v := nI 3) C0.1 C0.2.1 dL_draw_23 (by decide) ?_
      exact tc_iret C0 hr hlk (tcG.eq (if_neg (by rw [hcd]; decide)).symm hG) hS rfl (by rw [hcd] <;> rfl) (Nat.le_of_ble_eq_true rfl) (Nat.le_of_ble_eq_true rfl) dL_draw_24
    | i + 3, hi, hcd => exact absurd hi (by intro hq; exact nomatch (show (none : Option String) = some E from hq))
  · refine W.eq (g2 := F0 m 8 ls [.int (nI (tk (ix x))), .int (nI 0), .ref o]) rfl ?_
    refine lv_i2l C0.1 C0.2.1 dL_draw_8 (v := (nI (tk (ix x))).toInt64) rfl ?_
    refine tc_last0 (q0 := 5) C0 hG0 hG hS rfl dL_draw_9 (fun H locs hG hS => ?_)
    have hG : tcG D cI cJ N0 (wT h r1 r2 r3 r4 cI (va_up tk (ix x) (ix y)) co cn wk n ho (st - 12) ct (sp + nI 12) ((o, tcO cJ (vp_updL fo 0 ((nI (tk (ix x))).toInt64))) :: Z)) s H := hG
    refine lv_goto (tgt := 25) C0.1 C0.2.1 dL_draw_10 (by decide) ?_
    refine lv_iconst (v := nI 0) C0.1 C0.2.1 dL_draw_25 (by decide) ?_
    exact tc_iret C0 hr hlk (tcG.eq (if_pos c_n).symm hG) hS rfl (by rw [c_n]) (Nat.le_of_ble_eq_true rfl) (Nat.le_of_ble_eq_true rfl) dL_draw_26
set_option maxHeartbeats 4000000 in
set_option maxRecDepth 100000 in
theorem kL_pass {l : Launch} (hlf : l.stackTraces = false) {D : va_G} {cI cJ : ClassId} {N0 : Nat} {h r1 r2 r3 r4 o : Nat} {tk co cn wk : Nat → Nat} {n st : Nat} {ho ct sp : Int32} {fo : Nat → Int64} {Z : va_W} (hk : tOk tk co cn wk n st) (x : Int32) : tcM l yL_pass wsL_pass { frames := 7, cells := 1, slots := 6, locals := 133 } [] 0 [.ref h, .int x, .ref o] D cI cJ N0 (wT h r1 r2 r3 r4 cI tk co cn wk n ho st ct sp ((o, tcO cJ fo) :: Z)) (some (.int (nI (cdH x)))) (if cdH x = 0 then wT h r1 r2 r3 r4 cI tk co ((hrs tk co wk n cn ct st (ix x)).1) wk n (ho + nI (ix x)) ((hrs tk co wk n cn ct st (ix x)).2.2) ((hrs tk co wk n cn ct st (ix x)).2.1) sp ((o, tcO cJ (vp_updL fo 0 ((((hrs tk co wk n cn ct st (ix x)).2.1 - ct)).toInt64))) :: Z) else wT h r1 r2 r3 r4 cI tk co cn wk n ho st ct sp ((o, tcO cJ fo) :: Z)) 1 6 := by
  refine tcM.ofH (cc := cL_pass) (maxL := 4) (ret := some .int) (hh := [(0, 9, 12, 13)]) (by decide) rfl (Nat.le_of_ble_eq_true rfl) ?_
  intro p e s m args below meth c C0 hr hlk htb hG ls hl
  have hl : lv_has ls 4 [(0, .ref h), (1, .int x), (2, .ref o)] := hl
  have hG0 := hG
  have hS : va_S (tcA N0) s.heap s.heap [] := va_S.rf
  have hxw := hG.2.2.2.2.2.2.2
  refine lv_aload_n C0.1 C0.2.1 dL_pass_0 rfl (lv_at hl 2 rfl) ?_
  refine lv_iconst (v := nI 0) C0.1 C0.2.1 dL_pass_1 (by decide) ?_
  refine lv_aload_n C0.1 C0.2.1 dL_pass_2 rfl (lv_at hl 0 rfl) ?_
  refine lv_iload_n C0.1 C0.2.1 dL_pass_3 rfl (lv_at hl 1 rfl) ?_
  refine tc_callVx (q0 := 0) (rest := [.int (nI 0), .ref o]) C0 hG hS rfl rfl (kX0_pass hlf hk x) (cwV 1 C0.2.2.2.2 gL_pass_X0_pass rfl rfl rfl (by decide +kernel) ⟨(Nat.le_of_ble_eq_true rfl), (Nat.le_of_ble_eq_true rfl)⟩) rfl hl rfl (Nat.le_of_ble_eq_true rfl) dL_pass_4 ⟨(Nat.le_of_ble_eq_true rfl), (Nat.le_of_ble_eq_true rfl)⟩ ?_ (fun c_n H locs hG hS => ?_)
  · intro i E q9 ce H locs hi hcd hG hS hce hcv hcl
    match i, hi, hcd with
    | 0, hi, hcd =>
      have hE : E = "java/lang/IllegalArgumentException" := (Option.some.inj (show some "java/lang/IllegalArgumentException" = some E from hi)).symm
      subst hE
      refine vx_catch C0.2.2.2.1 [] ⟨0, 9, 12, 13⟩ [] htb (fun z hz => by cases hz) (by decide) (by decide) (C0.2.2.2.2 (.classLink RL 13 "java/lang/IllegalArgumentException") (by decide +kernel)) (va_Nw.use rfl (hxw.2.1 "java/lang/IllegalArgumentException" (by decide))) hce hcv hcl ?_
      refine lv_astore_n (lv' := [(3, .ref q9), (0, .ref h), (1, .int x), (2, .ref o)]) C0.1 C0.2.1 dL_pass_12 rfl hl (by decide) rfl (fun ls hl => ?_)
      refine lv_iconst (v := nI 1) C0.1 C0.2.1 dL_pass_13 (by decide) ?_
      exact tc_iret C0 hr hlk (tcG.eq (if_neg (by rw [hcd]; decide)).symm hG) hS rfl (by rw [hcd] <;> rfl) (Nat.le_of_ble_eq_true rfl) (Nat.le_of_ble_eq_true rfl) dL_pass_14
    | 1, hi, hcd =>
      exact absurd hcd (by have hcm := cdH_le x; omega)
    | i + 2, hi, hcd => exact absurd hi (by intro hq; exact nomatch (show (none : Option String) = some E from hq))
  · refine W.eq (g2 := F0 m 7 ls [.int ((hrs tk co wk n cn ct st (ix x)).2.1 - ct), .int (nI 0), .ref o]) rfl ?_
    refine lv_i2l C0.1 C0.2.1 dL_pass_7 (v := (((hrs tk co wk n cn ct st (ix x)).2.1 - ct)).toInt64) rfl ?_
    refine tc_last0 (q0 := 5) C0 hG0 hG hS rfl dL_pass_8 (fun H locs hG hS => ?_)
    have hG : tcG D cI cJ N0 (wT h r1 r2 r3 r4 cI tk co ((hrs tk co wk n cn ct st (ix x)).1) wk n (ho + nI (ix x)) ((hrs tk co wk n cn ct st (ix x)).2.2) ((hrs tk co wk n cn ct st (ix x)).2.1) sp ((o, tcO cJ (vp_updL fo 0 ((((hrs tk co wk n cn ct st (ix x)).2.1 - ct)).toInt64))) :: Z)) s H := hG
    refine lv_goto (tgt := 15) C0.1 C0.2.1 dL_pass_9 (by decide) ?_
    refine lv_iconst (v := nI 0) C0.1 C0.2.1 dL_pass_15 (by decide) ?_
    exact tc_iret C0 hr hlk (tcG.eq (if_pos c_n).symm hG) hS rfl (by rw [c_n]) (Nat.le_of_ble_eq_true rfl) (Nat.le_of_ble_eq_true rfl) dL_pass_16
set_option maxHeartbeats 4000000 in
set_option maxRecDepth 100000 in
theorem kL_ticketOf {l : Launch} (hlf : l.stackTraces = false) {D : va_G} {cI cJ : ClassId} {N0 : Nat} {h r1 r2 r3 r4 o : Nat} {tk co cn wk : Nat → Nat} {n st : Nat} {ho ct sp : Int32} {fo : Nat → Int64} {Z : va_W} (hk : tOk tk co cn wk n st) (x : Int32) : tcM l yL_ticketOf wsL_ticketOf { frames := 8, cells := 1, slots := 6, locals := 132 } [] 0 [.ref h, .int x, .ref o] D cI cJ N0 (wT h r1 r2 r3 r4 cI tk co cn wk n ho st ct sp ((o, tcO cJ fo) :: Z)) (some (.int (nI (cdS x n)))) (if cdS x n = 0 then wT h r1 r2 r3 r4 cI tk co cn wk n ho st ct sp ((o, tcO cJ (vp_updL fo 0 ((nI (tk (ix x))).toInt64))) :: Z) else wT h r1 r2 r3 r4 cI tk co cn wk n ho st ct sp ((o, tcO cJ fo) :: Z)) 1 6 := by
  refine tcM.ofH (cc := cL_ticketOf) (maxL := 4) (ret := some .int) (hh := [(0, 9, 12, 21)]) (by decide) rfl (Nat.le_of_ble_eq_true rfl) ?_
  intro p e s m args below meth c C0 hr hlk htb hG ls hl
  have hl : lv_has ls 4 [(0, .ref h), (1, .int x), (2, .ref o)] := hl
  have hG0 := hG
  have hS : va_S (tcA N0) s.heap s.heap [] := va_S.rf
  have hxw := hG.2.2.2.2.2.2.2
  refine lv_aload_n C0.1 C0.2.1 dL_ticketOf_0 rfl (lv_at hl 2 rfl) ?_
  refine lv_iconst (v := nI 0) C0.1 C0.2.1 dL_ticketOf_1 (by decide) ?_
  refine lv_aload_n C0.1 C0.2.1 dL_ticketOf_2 rfl (lv_at hl 0 rfl) ?_
  refine lv_iload_n C0.1 C0.2.1 dL_ticketOf_3 rfl (lv_at hl 1 rfl) ?_
  refine tc_callVx (q0 := 0) (rest := [.int (nI 0), .ref o]) C0 hG hS rfl rfl (kX0_ticketOf hlf hk x) (cwV 1 C0.2.2.2.2 gL_ticketOf_X0_ticketOf rfl rfl rfl (by decide +kernel) ⟨(Nat.le_of_ble_eq_true rfl), (Nat.le_of_ble_eq_true rfl)⟩) rfl hl rfl (Nat.le_of_ble_eq_true rfl) dL_ticketOf_4 ⟨(Nat.le_of_ble_eq_true rfl), (Nat.le_of_ble_eq_true rfl)⟩ ?_ (fun c_n H locs hG hS => ?_)
  · intro i E q9 ce H locs hi hcd hG hS hce hcv hcl
    match i, hi, hcd with
    | 0, hi, hcd =>
      have hE : E = "java/lang/IndexOutOfBoundsException" := (Option.some.inj (show some "java/lang/IndexOutOfBoundsException" = some E from hi)).symm
      subst hE
      refine vx_catch C0.2.2.2.1 [] ⟨0, 9, 12, 21⟩ [] htb (fun z hz => by cases hz) (by decide) (by decide) (C0.2.2.2.2 (.classLink RL 21 "java/lang/IndexOutOfBoundsException") (by decide +kernel)) (va_Nw.use rfl (hxw.2.1 "java/lang/IndexOutOfBoundsException" (by decide))) hce hcv hcl ?_
      refine lv_astore_n (lv' := [(3, .ref q9), (0, .ref h), (1, .int x), (2, .ref o)]) C0.1 C0.2.1 dL_ticketOf_12 rfl hl (by decide) rfl (fun ls hl => ?_)
      refine lv_iconst (v := nI 1) C0.1 C0.2.1 dL_ticketOf_13 (by decide) ?_
      exact tc_iret C0 hr hlk (tcG.eq (if_neg (by rw [hcd]; decide)).symm hG) hS rfl (by rw [hcd] <;> rfl) (Nat.le_of_ble_eq_true rfl) (Nat.le_of_ble_eq_true rfl) dL_ticketOf_14
    | 1, hi, hcd =>
      exact absurd hcd (by have hcm := cdS_le x n; omega)
    | 2, hi, hcd =>
      exact absurd hcd (by have hcm := cdS_le x n; omega)
    | i + 3, hi, hcd => exact absurd hi (by intro hq; exact nomatch (show (none : Option String) = some E from hq))
  · refine W.eq (g2 := F0 m 7 ls [.int (nI (tk (ix x))), .int (nI 0), .ref o]) rfl ?_
    refine lv_i2l C0.1 C0.2.1 dL_ticketOf_7 (v := (nI (tk (ix x))).toInt64) rfl ?_
    refine tc_last0 (q0 := 5) C0 hG0 hG hS rfl dL_ticketOf_8 (fun H locs hG hS => ?_)
    have hG : tcG D cI cJ N0 (wT h r1 r2 r3 r4 cI tk co cn wk n ho st ct sp ((o, tcO cJ (vp_updL fo 0 ((nI (tk (ix x))).toInt64))) :: Z)) s H := hG
    refine lv_goto (tgt := 15) C0.1 C0.2.1 dL_ticketOf_9 (by decide) ?_
    refine lv_iconst (v := nI 0) C0.1 C0.2.1 dL_ticketOf_15 (by decide) ?_
    exact tc_iret C0 hr hlk (tcG.eq (if_pos c_n).symm hG) hS rfl (by rw [c_n]) (Nat.le_of_ble_eq_true rfl) (Nat.le_of_ble_eq_true rfl) dL_ticketOf_16
set_option maxHeartbeats 4000000 in
set_option maxRecDepth 100000 in
theorem kL_colourOf {l : Launch} (hlf : l.stackTraces = false) {D : va_G} {cI cJ : ClassId} {N0 : Nat} {h r1 r2 r3 r4 o : Nat} {tk co cn wk : Nat → Nat} {n st : Nat} {ho ct sp : Int32} {fo : Nat → Int64} {Z : va_W} (hk : tOk tk co cn wk n st) (x : Int32) : tcM l yL_colourOf wsL_colourOf { frames := 8, cells := 1, slots := 6, locals := 132 } [] 0 [.ref h, .int x, .ref o] D cI cJ N0 (wT h r1 r2 r3 r4 cI tk co cn wk n ho st ct sp ((o, tcO cJ fo) :: Z)) (some (.int (nI (cdS x n)))) (if cdS x n = 0 then wT h r1 r2 r3 r4 cI tk co cn wk n ho st ct sp ((o, tcO cJ (vp_updL fo 0 ((nI (co (ix x))).toInt64))) :: Z) else wT h r1 r2 r3 r4 cI tk co cn wk n ho st ct sp ((o, tcO cJ fo) :: Z)) 1 6 := by
  refine tcM.ofH (cc := cL_colourOf) (maxL := 4) (ret := some .int) (hh := [(0, 9, 12, 21)]) (by decide) rfl (Nat.le_of_ble_eq_true rfl) ?_
  intro p e s m args below meth c C0 hr hlk htb hG ls hl
  have hl : lv_has ls 4 [(0, .ref h), (1, .int x), (2, .ref o)] := hl
  have hG0 := hG
  have hS : va_S (tcA N0) s.heap s.heap [] := va_S.rf
  have hxw := hG.2.2.2.2.2.2.2
  refine lv_aload_n C0.1 C0.2.1 dL_colourOf_0 rfl (lv_at hl 2 rfl) ?_
  refine lv_iconst (v := nI 0) C0.1 C0.2.1 dL_colourOf_1 (by decide) ?_
  refine lv_aload_n C0.1 C0.2.1 dL_colourOf_2 rfl (lv_at hl 0 rfl) ?_
  refine lv_iload_n C0.1 C0.2.1 dL_colourOf_3 rfl (lv_at hl 1 rfl) ?_
  refine tc_callVx (q0 := 0) (rest := [.int (nI 0), .ref o]) C0 hG hS rfl rfl (kX0_colourOf hlf hk x) (cwV 1 C0.2.2.2.2 gL_colourOf_X0_colourOf rfl rfl rfl (by decide +kernel) ⟨(Nat.le_of_ble_eq_true rfl), (Nat.le_of_ble_eq_true rfl)⟩) rfl hl rfl (Nat.le_of_ble_eq_true rfl) dL_colourOf_4 ⟨(Nat.le_of_ble_eq_true rfl), (Nat.le_of_ble_eq_true rfl)⟩ ?_ (fun c_n H locs hG hS => ?_)
  · intro i E q9 ce H locs hi hcd hG hS hce hcv hcl
    match i, hi, hcd with
    | 0, hi, hcd =>
      have hE : E = "java/lang/IndexOutOfBoundsException" := (Option.some.inj (show some "java/lang/IndexOutOfBoundsException" = some E from hi)).symm
      subst hE
      refine vx_catch C0.2.2.2.1 [] ⟨0, 9, 12, 21⟩ [] htb (fun z hz => by cases hz) (by decide) (by decide) (C0.2.2.2.2 (.classLink RL 21 "java/lang/IndexOutOfBoundsException") (by decide +kernel)) (va_Nw.use rfl (hxw.2.1 "java/lang/IndexOutOfBoundsException" (by decide))) hce hcv hcl ?_
      refine lv_astore_n (lv' := [(3, .ref q9), (0, .ref h), (1, .int x), (2, .ref o)]) C0.1 C0.2.1 dL_colourOf_12 rfl hl (by decide) rfl (fun ls hl => ?_)
      refine lv_iconst (v := nI 1) C0.1 C0.2.1 dL_colourOf_13 (by decide) ?_
      exact tc_iret C0 hr hlk (tcG.eq (if_neg (by rw [hcd]; decide)).symm hG) hS rfl (by rw [hcd] <;> rfl) (Nat.le_of_ble_eq_true rfl) (Nat.le_of_ble_eq_true rfl) dL_colourOf_14
    | 1, hi, hcd =>
      exact absurd hcd (by have hcm := cdS_le x n; omega)
    | 2, hi, hcd =>
      exact absurd hcd (by have hcm := cdS_le x n; omega)
    | i + 3, hi, hcd => exact absurd hi (by intro hq; exact nomatch (show (none : Option String) = some E from hq))
  · refine W.eq (g2 := F0 m 7 ls [.int (nI (co (ix x))), .int (nI 0), .ref o]) rfl ?_
    refine lv_i2l C0.1 C0.2.1 dL_colourOf_7 (v := (nI (co (ix x))).toInt64) rfl ?_
    refine tc_last0 (q0 := 5) C0 hG0 hG hS rfl dL_colourOf_8 (fun H locs hG hS => ?_)
    have hG : tcG D cI cJ N0 (wT h r1 r2 r3 r4 cI tk co cn wk n ho st ct sp ((o, tcO cJ (vp_updL fo 0 ((nI (co (ix x))).toInt64))) :: Z)) s H := hG
    refine lv_goto (tgt := 15) C0.1 C0.2.1 dL_colourOf_9 (by decide) ?_
    refine lv_iconst (v := nI 0) C0.1 C0.2.1 dL_colourOf_15 (by decide) ?_
    exact tc_iret C0 hr hlk (tcG.eq (if_pos c_n).symm hG) hS rfl (by rw [c_n]) (Nat.le_of_ble_eq_true rfl) (Nat.le_of_ble_eq_true rfl) dL_colourOf_16
set_option maxHeartbeats 4000000 in
set_option maxRecDepth 100000 in
theorem kL_cornerOf {l : Launch} (hlf : l.stackTraces = false) {D : va_G} {cI cJ : ClassId} {N0 : Nat} {h r1 r2 r3 r4 o : Nat} {tk co cn wk : Nat → Nat} {n st : Nat} {ho ct sp : Int32} {fo : Nat → Int64} {Z : va_W} (hk : tOk tk co cn wk n st) (x : Int32) : tcM l yL_cornerOf wsL_cornerOf { frames := 8, cells := 1, slots := 6, locals := 132 } [] 0 [.ref h, .int x, .ref o] D cI cJ N0 (wT h r1 r2 r3 r4 cI tk co cn wk n ho st ct sp ((o, tcO cJ fo) :: Z)) (some (.int (nI (cdS x n)))) (if cdS x n = 0 then wT h r1 r2 r3 r4 cI tk co cn wk n ho st ct sp ((o, tcO cJ (vp_updL fo 0 ((nI (cn (ix x))).toInt64))) :: Z) else wT h r1 r2 r3 r4 cI tk co cn wk n ho st ct sp ((o, tcO cJ fo) :: Z)) 1 6 := by
  refine tcM.ofH (cc := cL_cornerOf) (maxL := 4) (ret := some .int) (hh := [(0, 9, 12, 21)]) (by decide) rfl (Nat.le_of_ble_eq_true rfl) ?_
  intro p e s m args below meth c C0 hr hlk htb hG ls hl
  have hl : lv_has ls 4 [(0, .ref h), (1, .int x), (2, .ref o)] := hl
  have hG0 := hG
  have hS : va_S (tcA N0) s.heap s.heap [] := va_S.rf
  have hxw := hG.2.2.2.2.2.2.2
  refine lv_aload_n C0.1 C0.2.1 dL_cornerOf_0 rfl (lv_at hl 2 rfl) ?_
  refine lv_iconst (v := nI 0) C0.1 C0.2.1 dL_cornerOf_1 (by decide) ?_
  refine lv_aload_n C0.1 C0.2.1 dL_cornerOf_2 rfl (lv_at hl 0 rfl) ?_
  refine lv_iload_n C0.1 C0.2.1 dL_cornerOf_3 rfl (lv_at hl 1 rfl) ?_
  refine tc_callVx (q0 := 0) (rest := [.int (nI 0), .ref o]) C0 hG hS rfl rfl (kX0_cornerOf hlf hk x) (cwV 1 C0.2.2.2.2 gL_cornerOf_X0_cornerOf rfl rfl rfl (by decide +kernel) ⟨(Nat.le_of_ble_eq_true rfl), (Nat.le_of_ble_eq_true rfl)⟩) rfl hl rfl (Nat.le_of_ble_eq_true rfl) dL_cornerOf_4 ⟨(Nat.le_of_ble_eq_true rfl), (Nat.le_of_ble_eq_true rfl)⟩ ?_ (fun c_n H locs hG hS => ?_)
  · intro i E q9 ce H locs hi hcd hG hS hce hcv hcl
    match i, hi, hcd with
    | 0, hi, hcd =>
      have hE : E = "java/lang/IndexOutOfBoundsException" := (Option.some.inj (show some "java/lang/IndexOutOfBoundsException" = some E from hi)).symm
      subst hE
      refine vx_catch C0.2.2.2.1 [] ⟨0, 9, 12, 21⟩ [] htb (fun z hz => by cases hz) (by decide) (by decide) (C0.2.2.2.2 (.classLink RL 21 "java/lang/IndexOutOfBoundsException") (by decide +kernel)) (va_Nw.use rfl (hxw.2.1 "java/lang/IndexOutOfBoundsException" (by decide))) hce hcv hcl ?_
      refine lv_astore_n (lv' := [(3, .ref q9), (0, .ref h), (1, .int x), (2, .ref o)]) C0.1 C0.2.1 dL_cornerOf_12 rfl hl (by decide) rfl (fun ls hl => ?_)
      refine lv_iconst (v := nI 1) C0.1 C0.2.1 dL_cornerOf_13 (by decide) ?_
      exact tc_iret C0 hr hlk (tcG.eq (if_neg (by rw [hcd]; decide)).symm hG) hS rfl (by rw [hcd] <;> rfl) (Nat.le_of_ble_eq_true rfl) (Nat.le_of_ble_eq_true rfl) dL_cornerOf_14
    | 1, hi, hcd =>
      exact absurd hcd (by have hcm := cdS_le x n; omega)
    | 2, hi, hcd =>
      exact absurd hcd (by have hcm := cdS_le x n; omega)
    | i + 3, hi, hcd => exact absurd hi (by intro hq; exact nomatch (show (none : Option String) = some E from hq))
  · refine W.eq (g2 := F0 m 7 ls [.int (nI (cn (ix x))), .int (nI 0), .ref o]) rfl ?_
    refine lv_i2l C0.1 C0.2.1 dL_cornerOf_7 (v := (nI (cn (ix x))).toInt64) rfl ?_
    refine tc_last0 (q0 := 5) C0 hG0 hG hS rfl dL_cornerOf_8 (fun H locs hG hS => ?_)
    have hG : tcG D cI cJ N0 (wT h r1 r2 r3 r4 cI tk co cn wk n ho st ct sp ((o, tcO cJ (vp_updL fo 0 ((nI (cn (ix x))).toInt64))) :: Z)) s H := hG
    refine lv_goto (tgt := 15) C0.1 C0.2.1 dL_cornerOf_9 (by decide) ?_
    refine lv_iconst (v := nI 0) C0.1 C0.2.1 dL_cornerOf_15 (by decide) ?_
    exact tc_iret C0 hr hlk (tcG.eq (if_pos c_n).symm hG) hS rfl (by rw [c_n]) (Nat.le_of_ble_eq_true rfl) (Nat.le_of_ble_eq_true rfl) dL_cornerOf_16
set_option maxHeartbeats 4000000 in
set_option maxRecDepth 100000 in
theorem kL_walkOf {l : Launch} (hlf : l.stackTraces = false) {D : va_G} {cI cJ : ClassId} {N0 : Nat} {h r1 r2 r3 r4 o : Nat} {tk co cn wk : Nat → Nat} {n st : Nat} {ho ct sp : Int32} {fo : Nat → Int64} {Z : va_W} (hk : tOk tk co cn wk n st) (x : Int32) : tcM l yL_walkOf wsL_walkOf { frames := 8, cells := 1, slots := 6, locals := 132 } [] 0 [.ref h, .int x, .ref o] D cI cJ N0 (wT h r1 r2 r3 r4 cI tk co cn wk n ho st ct sp ((o, tcO cJ fo) :: Z)) (some (.int (nI (cdS x n)))) (if cdS x n = 0 then wT h r1 r2 r3 r4 cI tk co cn wk n ho st ct sp ((o, tcO cJ (vp_updL fo 0 ((nI (wk (ix x))).toInt64))) :: Z) else wT h r1 r2 r3 r4 cI tk co cn wk n ho st ct sp ((o, tcO cJ fo) :: Z)) 1 6 := by
  refine tcM.ofH (cc := cL_walkOf) (maxL := 4) (ret := some .int) (hh := [(0, 9, 12, 21)]) (by decide) rfl (Nat.le_of_ble_eq_true rfl) ?_
  intro p e s m args below meth c C0 hr hlk htb hG ls hl
  have hl : lv_has ls 4 [(0, .ref h), (1, .int x), (2, .ref o)] := hl
  have hG0 := hG
  have hS : va_S (tcA N0) s.heap s.heap [] := va_S.rf
  have hxw := hG.2.2.2.2.2.2.2
  refine lv_aload_n C0.1 C0.2.1 dL_walkOf_0 rfl (lv_at hl 2 rfl) ?_
  refine lv_iconst (v := nI 0) C0.1 C0.2.1 dL_walkOf_1 (by decide) ?_
  refine lv_aload_n C0.1 C0.2.1 dL_walkOf_2 rfl (lv_at hl 0 rfl) ?_
  refine lv_iload_n C0.1 C0.2.1 dL_walkOf_3 rfl (lv_at hl 1 rfl) ?_
  refine tc_callVx (q0 := 0) (rest := [.int (nI 0), .ref o]) C0 hG hS rfl rfl (kX0_walkOf hlf hk x) (cwV 1 C0.2.2.2.2 gL_walkOf_X0_walkOf rfl rfl rfl (by decide +kernel) ⟨(Nat.le_of_ble_eq_true rfl), (Nat.le_of_ble_eq_true rfl)⟩) rfl hl rfl (Nat.le_of_ble_eq_true rfl) dL_walkOf_4 ⟨(Nat.le_of_ble_eq_true rfl), (Nat.le_of_ble_eq_true rfl)⟩ ?_ (fun c_n H locs hG hS => ?_)
  · intro i E q9 ce H locs hi hcd hG hS hce hcv hcl
    match i, hi, hcd with
    | 0, hi, hcd =>
      have hE : E = "java/lang/IndexOutOfBoundsException" := (Option.some.inj (show some "java/lang/IndexOutOfBoundsException" = some E from hi)).symm
      subst hE
      refine vx_catch C0.2.2.2.1 [] ⟨0, 9, 12, 21⟩ [] htb (fun z hz => by cases hz) (by decide) (by decide) (C0.2.2.2.2 (.classLink RL 21 "java/lang/IndexOutOfBoundsException") (by decide +kernel)) (va_Nw.use rfl (hxw.2.1 "java/lang/IndexOutOfBoundsException" (by decide))) hce hcv hcl ?_
      refine lv_astore_n (lv' := [(3, .ref q9), (0, .ref h), (1, .int x), (2, .ref o)]) C0.1 C0.2.1 dL_walkOf_12 rfl hl (by decide) rfl (fun ls hl => ?_)
      refine lv_iconst (v := nI 1) C0.1 C0.2.1 dL_walkOf_13 (by decide) ?_
      exact tc_iret C0 hr hlk (tcG.eq (if_neg (by rw [hcd]; decide)).symm hG) hS rfl (by rw [hcd] <;> rfl) (Nat.le_of_ble_eq_true rfl) (Nat.le_of_ble_eq_true rfl) dL_walkOf_14
    | 1, hi, hcd =>
      exact absurd hcd (by have hcm := cdS_le x n; omega)
    | 2, hi, hcd =>
      exact absurd hcd (by have hcm := cdS_le x n; omega)
    | i + 3, hi, hcd => exact absurd hi (by intro hq; exact nomatch (show (none : Option String) = some E from hq))
  · refine W.eq (g2 := F0 m 7 ls [.int (nI (wk (ix x))), .int (nI 0), .ref o]) rfl ?_
    refine lv_i2l C0.1 C0.2.1 dL_walkOf_7 (v := (nI (wk (ix x))).toInt64) rfl ?_
    refine tc_last0 (q0 := 5) C0 hG0 hG hS rfl dL_walkOf_8 (fun H locs hG hS => ?_)
    have hG : tcG D cI cJ N0 (wT h r1 r2 r3 r4 cI tk co cn wk n ho st ct sp ((o, tcO cJ (vp_updL fo 0 ((nI (wk (ix x))).toInt64))) :: Z)) s H := hG
    refine lv_goto (tgt := 15) C0.1 C0.2.1 dL_walkOf_9 (by decide) ?_
    refine lv_iconst (v := nI 0) C0.1 C0.2.1 dL_walkOf_15 (by decide) ?_
    exact tc_iret C0 hr hlk (tcG.eq (if_pos c_n).symm hG) hS rfl (by rw [c_n]) (Nat.le_of_ble_eq_true rfl) (Nat.le_of_ble_eq_true rfl) dL_walkOf_16
set_option maxHeartbeats 4000000 in
set_option maxRecDepth 100000 in
theorem kL_peopleAt {l : Launch} (hlf : l.stackTraces = false) {D : va_G} {cI cJ : ClassId} {N0 : Nat} {h r1 r2 r3 r4 o : Nat} {tk co cn wk : Nat → Nat} {n st : Nat} {ho ct sp : Int32} {fo : Nat → Int64} {Z : va_W} (hk : tOk tk co cn wk n st) (x : Int32) : tcM l yL_peopleAt wsL_peopleAt { frames := 8, cells := 1, slots := 6, locals := 131 } [] 0 [.ref h, .int x, .ref o] D cI cJ N0 (wT h r1 r2 r3 r4 cI tk co cn wk n ho st ct sp ((o, tcO cJ fo) :: Z)) (some (.int (nI (cdS x 6)))) (if cdS x 6 = 0 then wT h r1 r2 r3 r4 cI tk co cn wk n ho st ct sp ((o, tcO cJ (vp_updL fo 0 ((nI (crowd cn (ix x) n)).toInt64))) :: Z) else wT h r1 r2 r3 r4 cI tk co cn wk n ho st ct sp ((o, tcO cJ fo) :: Z)) 1 6 := by
  refine tcM.ofH (cc := cL_peopleAt) (maxL := 4) (ret := some .int) (hh := [(0, 9, 12, 21)]) (by decide) rfl (Nat.le_of_ble_eq_true rfl) ?_
  intro p e s m args below meth c C0 hr hlk htb hG ls hl
  have hl : lv_has ls 4 [(0, .ref h), (1, .int x), (2, .ref o)] := hl
  have hG0 := hG
  have hS : va_S (tcA N0) s.heap s.heap [] := va_S.rf
  have hxw := hG.2.2.2.2.2.2.2
  refine lv_aload_n C0.1 C0.2.1 dL_peopleAt_0 rfl (lv_at hl 2 rfl) ?_
  refine lv_iconst (v := nI 0) C0.1 C0.2.1 dL_peopleAt_1 (by decide) ?_
  refine lv_aload_n C0.1 C0.2.1 dL_peopleAt_2 rfl (lv_at hl 0 rfl) ?_
  refine lv_iload_n C0.1 C0.2.1 dL_peopleAt_3 rfl (lv_at hl 1 rfl) ?_
  refine tc_callVx (q0 := 0) (rest := [.int (nI 0), .ref o]) C0 hG hS rfl rfl (kX0_peopleAt hlf hk x) (cwV 1 C0.2.2.2.2 gL_peopleAt_X0_peopleAt rfl rfl rfl (by decide +kernel) ⟨(Nat.le_of_ble_eq_true rfl), (Nat.le_of_ble_eq_true rfl)⟩) rfl hl rfl (Nat.le_of_ble_eq_true rfl) dL_peopleAt_4 ⟨(Nat.le_of_ble_eq_true rfl), (Nat.le_of_ble_eq_true rfl)⟩ ?_ (fun c_n H locs hG hS => ?_)
  · intro i E q9 ce H locs hi hcd hG hS hce hcv hcl
    match i, hi, hcd with
    | 0, hi, hcd =>
      have hE : E = "java/lang/IndexOutOfBoundsException" := (Option.some.inj (show some "java/lang/IndexOutOfBoundsException" = some E from hi)).symm
      subst hE
      refine vx_catch C0.2.2.2.1 [] ⟨0, 9, 12, 21⟩ [] htb (fun z hz => by cases hz) (by decide) (by decide) (C0.2.2.2.2 (.classLink RL 21 "java/lang/IndexOutOfBoundsException") (by decide +kernel)) (va_Nw.use rfl (hxw.2.1 "java/lang/IndexOutOfBoundsException" (by decide))) hce hcv hcl ?_
      refine lv_astore_n (lv' := [(3, .ref q9), (0, .ref h), (1, .int x), (2, .ref o)]) C0.1 C0.2.1 dL_peopleAt_12 rfl hl (by decide) rfl (fun ls hl => ?_)
      refine lv_iconst (v := nI 1) C0.1 C0.2.1 dL_peopleAt_13 (by decide) ?_
      exact tc_iret C0 hr hlk (tcG.eq (if_neg (by rw [hcd]; decide)).symm hG) hS rfl (by rw [hcd] <;> rfl) (Nat.le_of_ble_eq_true rfl) (Nat.le_of_ble_eq_true rfl) dL_peopleAt_14
    | 1, hi, hcd =>
      exact absurd hcd (by have hcm := cdS_le x 6; omega)
    | 2, hi, hcd =>
      exact absurd hcd (by have hcm := cdS_le x 6; omega)
    | i + 3, hi, hcd => exact absurd hi (by intro hq; exact nomatch (show (none : Option String) = some E from hq))
  · refine W.eq (g2 := F0 m 7 ls [.int (nI (crowd cn (ix x) n)), .int (nI 0), .ref o]) rfl ?_
    refine lv_i2l C0.1 C0.2.1 dL_peopleAt_7 (v := (nI (crowd cn (ix x) n)).toInt64) rfl ?_
    refine tc_last0 (q0 := 5) C0 hG0 hG hS rfl dL_peopleAt_8 (fun H locs hG hS => ?_)
    have hG : tcG D cI cJ N0 (wT h r1 r2 r3 r4 cI tk co cn wk n ho st ct sp ((o, tcO cJ (vp_updL fo 0 ((nI (crowd cn (ix x) n)).toInt64))) :: Z)) s H := hG
    refine lv_goto (tgt := 15) C0.1 C0.2.1 dL_peopleAt_9 (by decide) ?_
    refine lv_iconst (v := nI 0) C0.1 C0.2.1 dL_peopleAt_15 (by decide) ?_
    exact tc_iret C0 hr hlk (tcG.eq (if_pos c_n).symm hG) hS rfl (by rw [c_n]) (Nat.le_of_ble_eq_true rfl) (Nat.le_of_ble_eq_true rfl) dL_peopleAt_16
set_option maxHeartbeats 4000000 in
set_option maxRecDepth 100000 in
theorem kL_pointsOf {l : Launch} (hlf : l.stackTraces = false) {D : va_G} {cI cJ : ClassId} {N0 : Nat} {h r1 r2 r3 r4 o : Nat} {tk co cn wk : Nat → Nat} {n st : Nat} {ho ct sp : Int32} {fo : Nat → Int64} {Z : va_W} (hk : tOk tk co cn wk n st) (x y : Int32) : tcM l yL_pointsOf wsL_pointsOf { frames := 9, cells := 3, slots := 18, locals := 155 } [] 0 [.ref h, .int x, .int y, .ref o] D cI cJ N0 (wT h r1 r2 r3 r4 cI tk co cn wk n ho st ct sp ((o, tcO cJ fo) :: Z)) (some (.int (nI (cdP x y n)))) (if cdP x y n = 0 then wT h r1 r2 r3 r4 cI tk co cn wk n ho st ct sp ((o, tcO cJ (vp_updL fo 0 ((nI (pts tk co (ix x) (ix y))).toInt64))) :: Z) else wT h r1 r2 r3 r4 cI tk co cn wk n ho st ct sp ((o, tcO cJ fo) :: Z)) 3 18 := by
  refine tcM.ofH (cc := cL_pointsOf) (maxL := 5) (ret := some .int) (hh := [(0, 10, 13, 21), (0, 10, 17, 13)]) (by decide) rfl (Nat.le_of_ble_eq_true rfl) ?_
  intro p e s m args below meth c C0 hr hlk htb hG ls hl
  have hl : lv_has ls 5 [(0, .ref h), (1, .int x), (2, .int y), (3, .ref o)] := hl
  have hG0 := hG
  have hS : va_S (tcA N0) s.heap s.heap [] := va_S.rf
  have hxw := hG.2.2.2.2.2.2.2
  refine lv_aload_n C0.1 C0.2.1 dL_pointsOf_0 rfl (lv_at hl 3 rfl) ?_
  refine lv_iconst (v := nI 0) C0.1 C0.2.1 dL_pointsOf_1 (by decide) ?_
  refine lv_aload_n C0.1 C0.2.1 dL_pointsOf_2 rfl (lv_at hl 0 rfl) ?_
  refine lv_iload_n C0.1 C0.2.1 dL_pointsOf_3 rfl (lv_at hl 1 rfl) ?_
  refine lv_iload_n C0.1 C0.2.1 dL_pointsOf_4 rfl (lv_at hl 2 rfl) ?_
  refine tc_callVx (q0 := 0) (rest := [.int (nI 0), .ref o]) C0 hG hS rfl rfl (kX0_pointsOf hlf hk x y) (cwV 2 C0.2.2.2.2 gL_pointsOf_X0_pointsOf rfl rfl rfl (by decide +kernel) ⟨(Nat.le_of_ble_eq_true rfl), (Nat.le_of_ble_eq_true rfl)⟩) rfl hl rfl (Nat.le_of_ble_eq_true rfl) dL_pointsOf_5 ⟨(Nat.le_of_ble_eq_true rfl), (Nat.le_of_ble_eq_true rfl)⟩ ?_ (fun c_n H locs hG hS => ?_)
  · intro i E q9 ce H locs hi hcd hG hS hce hcv hcl
    match i, hi, hcd with
    | 0, hi, hcd =>
      have hE : E = "java/lang/IndexOutOfBoundsException" := (Option.some.inj (show some "java/lang/IndexOutOfBoundsException" = some E from hi)).symm
      subst hE
      refine vx_catch C0.2.2.2.1 [] ⟨0, 10, 13, 21⟩ [⟨0, 10, 17, 13⟩] htb (fun z hz => by cases hz) (by decide) (by decide) (C0.2.2.2.2 (.classLink RL 21 "java/lang/IndexOutOfBoundsException") (by decide +kernel)) (va_Nw.use rfl (hxw.2.1 "java/lang/IndexOutOfBoundsException" (by decide))) hce hcv hcl ?_
      refine lv_astore (lv' := [(4, .ref q9), (0, .ref h), (1, .int x), (2, .int y), (3, .ref o)]) C0.1 C0.2.1 dL_pointsOf_13 hl (by decide) rfl (fun ls hl => ?_)
      refine lv_iconst (v := nI 1) C0.1 C0.2.1 dL_pointsOf_15 (by decide) ?_
      exact tc_iret C0 hr hlk (tcG.eq (if_neg (by rw [hcd]; decide)).symm hG) hS rfl (by rw [hcd] <;> rfl) (Nat.le_of_ble_eq_true rfl) (Nat.le_of_ble_eq_true rfl) dL_pointsOf_16
    | 1, hi, hcd =>
      have hE : E = "java/lang/IllegalArgumentException" := (Option.some.inj (show some "java/lang/IllegalArgumentException" = some E from hi)).symm
      subst hE
      refine vx_catch C0.2.2.2.1 [⟨0, 10, 13, 21⟩] ⟨0, 10, 17, 13⟩ [] htb (fun z hz => by rw [List.mem_singleton.mp hz]; exact Or.inr ⟨by decide, "java/lang/IndexOutOfBoundsException", C0.2.2.2.2 (.classLink RL 21 "java/lang/IndexOutOfBoundsException") (by decide +kernel), hxw.2.2 ("java/lang/IllegalArgumentException", "java/lang/IndexOutOfBoundsException") (by decide)⟩) (by decide) (by decide) (C0.2.2.2.2 (.classLink RL 13 "java/lang/IllegalArgumentException") (by decide +kernel)) (va_Nw.use rfl (hxw.2.1 "java/lang/IllegalArgumentException" (by decide))) hce hcv hcl ?_
      refine lv_astore (lv' := [(4, .ref q9), (0, .ref h), (1, .int x), (2, .int y), (3, .ref o)]) C0.1 C0.2.1 dL_pointsOf_17 hl (by decide) rfl (fun ls hl => ?_)
      refine lv_iconst (v := nI 2) C0.1 C0.2.1 dL_pointsOf_19 (by decide) ?_
      exact tc_iret C0 hr hlk (tcG.eq (if_neg (by rw [hcd]; decide)).symm hG) hS rfl (by rw [hcd] <;> rfl) (Nat.le_of_ble_eq_true rfl) (Nat.le_of_ble_eq_true rfl) dL_pointsOf_20
    | 2, hi, hcd =>
      exact absurd hcd (by have hcm := cdP_le x y n; omega)
    | i + 3, hi, hcd => exact absurd hi (by intro hq; exact nomatch (show (none : Option String) = some E from hq))
  · refine W.eq (g2 := F0 m 8 ls [.int (nI (pts tk co (ix x) (ix y))), .int (nI 0), .ref o]) rfl ?_
    refine lv_i2l C0.1 C0.2.1 dL_pointsOf_8 (v := (nI (pts tk co (ix x) (ix y))).toInt64) rfl ?_
    refine tc_last0 (q0 := 5) C0 hG0 hG hS rfl dL_pointsOf_9 (fun H locs hG hS => ?_)
    have hG : tcG D cI cJ N0 (wT h r1 r2 r3 r4 cI tk co cn wk n ho st ct sp ((o, tcO cJ (vp_updL fo 0 ((nI (pts tk co (ix x) (ix y))).toInt64))) :: Z)) s H := hG
    refine lv_goto (tgt := 21) C0.1 C0.2.1 dL_pointsOf_10 (by decide) ?_
    refine lv_iconst (v := nI 0) C0.1 C0.2.1 dL_pointsOf_21 (by decide) ?_
    exact tc_iret C0 hr hlk (tcG.eq (if_pos c_n).symm hG) hS rfl (by rw [c_n]) (Nat.le_of_ble_eq_true rfl) (Nat.le_of_ble_eq_true rfl) dL_pointsOf_22
set_option maxHeartbeats 4000000 in
set_option maxRecDepth 100000 in
theorem kL_areTogether {l : Launch} (hlf : l.stackTraces = false) {D : va_G} {cI cJ : ClassId} {N0 : Nat} {h r1 r2 r3 r4 o : Nat} {tk co cn wk : Nat → Nat} {n st : Nat} {ho ct sp : Int32} {fo : Nat → Int64} {Z : va_W} (hk : tOk tk co cn wk n st) (x y : Int32) : tcM l yL_areTogether wsL_areTogether { frames := 9, cells := 3, slots := 18, locals := 155 } [] 0 [.ref h, .int x, .int y, .ref o] D cI cJ N0 (wT h r1 r2 r3 r4 cI tk co cn wk n ho st ct sp ((o, tcO cJ fo) :: Z)) (some (.int (nI (cdP x y n)))) (if cdP x y n = 0 then wT h r1 r2 r3 r4 cI tk co cn wk n ho st ct sp ((o, tcO cJ (vp_updL fo 0 (lB (decide (cn (ix x) = cn (ix y)))))) :: Z) else wT h r1 r2 r3 r4 cI tk co cn wk n ho st ct sp ((o, tcO cJ fo) :: Z)) 3 18 := by
  refine tcM.ofH (cc := cL_areTogether) (maxL := 5) (ret := some .int) (hh := [(0, 17, 20, 21), (0, 17, 24, 13)]) (by decide) rfl (Nat.le_of_ble_eq_true rfl) ?_
  intro p e s m args below meth c C0 hr hlk htb hG ls hl
  have hl : lv_has ls 5 [(0, .ref h), (1, .int x), (2, .int y), (3, .ref o)] := hl
  have hG0 := hG
  have hS : va_S (tcA N0) s.heap s.heap [] := va_S.rf
  have hxw := hG.2.2.2.2.2.2.2
  refine lv_aload_n C0.1 C0.2.1 dL_areTogether_0 rfl (lv_at hl 3 rfl) ?_
  refine lv_iconst (v := nI 0) C0.1 C0.2.1 dL_areTogether_1 (by decide) ?_
  refine lv_aload_n C0.1 C0.2.1 dL_areTogether_2 rfl (lv_at hl 0 rfl) ?_
  refine lv_iload_n C0.1 C0.2.1 dL_areTogether_3 rfl (lv_at hl 1 rfl) ?_
  refine lv_iload_n C0.1 C0.2.1 dL_areTogether_4 rfl (lv_at hl 2 rfl) ?_
  refine tc_callVx (q0 := 0) (rest := [.int (nI 0), .ref o]) C0 hG hS rfl rfl (kX0_areTogether hlf hk x y) (cwV 2 C0.2.2.2.2 gL_areTogether_X0_areTogether rfl rfl rfl (by decide +kernel) ⟨(Nat.le_of_ble_eq_true rfl), (Nat.le_of_ble_eq_true rfl)⟩) rfl hl rfl (Nat.le_of_ble_eq_true rfl) dL_areTogether_5 ⟨(Nat.le_of_ble_eq_true rfl), (Nat.le_of_ble_eq_true rfl)⟩ ?_ (fun c_n H locs hG hS => ?_)
  · intro i E q9 ce H locs hi hcd hG hS hce hcv hcl
    match i, hi, hcd with
    | 0, hi, hcd =>
      have hE : E = "java/lang/IndexOutOfBoundsException" := (Option.some.inj (show some "java/lang/IndexOutOfBoundsException" = some E from hi)).symm
      subst hE
      refine vx_catch C0.2.2.2.1 [] ⟨0, 17, 20, 21⟩ [⟨0, 17, 24, 13⟩] htb (fun z hz => by cases hz) (by decide) (by decide) (C0.2.2.2.2 (.classLink RL 21 "java/lang/IndexOutOfBoundsException") (by decide +kernel)) (va_Nw.use rfl (hxw.2.1 "java/lang/IndexOutOfBoundsException" (by decide))) hce hcv hcl ?_
      refine lv_astore (lv' := [(4, .ref q9), (0, .ref h), (1, .int x), (2, .int y), (3, .ref o)]) C0.1 C0.2.1 dL_areTogether_20 hl (by decide) rfl (fun ls hl => ?_)
      refine lv_iconst (v := nI 1) C0.1 C0.2.1 dL_areTogether_22 (by decide) ?_
      exact tc_iret C0 hr hlk (tcG.eq (if_neg (by rw [hcd]; decide)).symm hG) hS rfl (by rw [hcd] <;> rfl) (Nat.le_of_ble_eq_true rfl) (Nat.le_of_ble_eq_true rfl) dL_areTogether_23
    | 1, hi, hcd =>
      have hE : E = "java/lang/IllegalArgumentException" := (Option.some.inj (show some "java/lang/IllegalArgumentException" = some E from hi)).symm
      subst hE
      refine vx_catch C0.2.2.2.1 [⟨0, 17, 20, 21⟩] ⟨0, 17, 24, 13⟩ [] htb (fun z hz => by rw [List.mem_singleton.mp hz]; exact Or.inr ⟨by decide, "java/lang/IndexOutOfBoundsException", C0.2.2.2.2 (.classLink RL 21 "java/lang/IndexOutOfBoundsException") (by decide +kernel), hxw.2.2 ("java/lang/IllegalArgumentException", "java/lang/IndexOutOfBoundsException") (by decide)⟩) (by decide) (by decide) (C0.2.2.2.2 (.classLink RL 13 "java/lang/IllegalArgumentException") (by decide +kernel)) (va_Nw.use rfl (hxw.2.1 "java/lang/IllegalArgumentException" (by decide))) hce hcv hcl ?_
      refine lv_astore (lv' := [(4, .ref q9), (0, .ref h), (1, .int x), (2, .int y), (3, .ref o)]) C0.1 C0.2.1 dL_areTogether_24 hl (by decide) rfl (fun ls hl => ?_)
      refine lv_iconst (v := nI 2) C0.1 C0.2.1 dL_areTogether_26 (by decide) ?_
      exact tc_iret C0 hr hlk (tcG.eq (if_neg (by rw [hcd]; decide)).symm hG) hS rfl (by rw [hcd] <;> rfl) (Nat.le_of_ble_eq_true rfl) (Nat.le_of_ble_eq_true rfl) dL_areTogether_27
    | 2, hi, hcd =>
      exact absurd hcd (by have hcm := cdP_le x y n; omega)
    | i + 3, hi, hcd => exact absurd hi (by intro hq; exact nomatch (show (none : Option String) = some E from hq))
  · refine W.eq (g2 := F0 m 8 ls [.int (nI (b2n (decide (cn (ix x) = cn (ix y))))), .int (nI 0), .ref o]) rfl ?_
    refine tb_if_eq (tgt := 15) C0.1 C0.2.1 dL_areTogether_8 (by decide) (fun c_b => ?_) (fun c_b => ?_)
    · refine lv_lconst C0.1 C0.2.1 dL_areTogether_15 (v := lB (decide (cn (ix x) = cn (ix y)))) (by unfold lB; rw [c_b]; decide) ?_
      refine tc_last0 (q0 := 5) C0 hG0 hG hS rfl dL_areTogether_16 (fun H locs hG hS => ?_)
      have hG : tcG D cI cJ N0 (wT h r1 r2 r3 r4 cI tk co cn wk n ho st ct sp ((o, tcO cJ (vp_updL fo 0 (lB (decide (cn (ix x) = cn (ix y)))))) :: Z)) s H := hG
      refine lv_goto (tgt := 28) C0.1 C0.2.1 dL_areTogether_17 (by decide) ?_
      refine lv_iconst (v := nI 0) C0.1 C0.2.1 dL_areTogether_28 (by decide) ?_
      exact tc_iret C0 hr hlk (tcG.eq (if_pos c_n).symm hG) hS rfl (by rw [c_n]) (Nat.le_of_ble_eq_true rfl) (Nat.le_of_ble_eq_true rfl) dL_areTogether_29
    · refine lv_lconst C0.1 C0.2.1 dL_areTogether_11 (v := lB (decide (cn (ix x) = cn (ix y)))) (by unfold lB; rw [c_b]; decide) ?_
      refine lv_goto (tgt := 16) C0.1 C0.2.1 dL_areTogether_12 (by decide) ?_
      refine tc_last0 (q0 := 5) C0 hG0 hG hS rfl dL_areTogether_16 (fun H locs hG hS => ?_)
      have hG : tcG D cI cJ N0 (wT h r1 r2 r3 r4 cI tk co cn wk n ho st ct sp ((o, tcO cJ (vp_updL fo 0 (lB (decide (cn (ix x) = cn (ix y)))))) :: Z)) s H := hG
      refine lv_goto (tgt := 28) C0.1 C0.2.1 dL_areTogether_17 (by decide) ?_
      refine lv_iconst (v := nI 0) C0.1 C0.2.1 dL_areTogether_28 (by decide) ?_
      exact tc_iret C0 hr hlk (tcG.eq (if_pos c_n).symm hG) hS rfl (by rw [c_n]) (Nat.le_of_ble_eq_true rfl) (Nat.le_of_ble_eq_true rfl) dL_areTogether_29
set_option maxHeartbeats 4000000 in
set_option maxRecDepth 100000 in
theorem kL_areMirrored {l : Launch} (hlf : l.stackTraces = false) {D : va_G} {cI cJ : ClassId} {N0 : Nat} {h r1 r2 r3 r4 o : Nat} {tk co cn wk : Nat → Nat} {n st : Nat} {ho ct sp : Int32} {fo : Nat → Int64} {Z : va_W} (hk : tOk tk co cn wk n st) (x y : Int32) : tcM l yL_areMirrored wsL_areMirrored { frames := 9, cells := 3, slots := 18, locals := 155 } [] 0 [.ref h, .int x, .int y, .ref o] D cI cJ N0 (wT h r1 r2 r3 r4 cI tk co cn wk n ho st ct sp ((o, tcO cJ fo) :: Z)) (some (.int (nI (cdP x y n)))) (if cdP x y n = 0 then wT h r1 r2 r3 r4 cI tk co cn wk n ho st ct sp ((o, tcO cJ (vp_updL fo 0 (lB (mir (tk (ix x)) (tk (ix y)))))) :: Z) else wT h r1 r2 r3 r4 cI tk co cn wk n ho st ct sp ((o, tcO cJ fo) :: Z)) 3 18 := by
  refine tcM.ofH (cc := cL_areMirrored) (maxL := 5) (ret := some .int) (hh := [(0, 17, 20, 21), (0, 17, 24, 13)]) (by decide) rfl (Nat.le_of_ble_eq_true rfl) ?_
  intro p e s m args below meth c C0 hr hlk htb hG ls hl
  have hl : lv_has ls 5 [(0, .ref h), (1, .int x), (2, .int y), (3, .ref o)] := hl
  have hG0 := hG
  have hS : va_S (tcA N0) s.heap s.heap [] := va_S.rf
  have hxw := hG.2.2.2.2.2.2.2
  refine lv_aload_n C0.1 C0.2.1 dL_areMirrored_0 rfl (lv_at hl 3 rfl) ?_
  refine lv_iconst (v := nI 0) C0.1 C0.2.1 dL_areMirrored_1 (by decide) ?_
  refine lv_aload_n C0.1 C0.2.1 dL_areMirrored_2 rfl (lv_at hl 0 rfl) ?_
  refine lv_iload_n C0.1 C0.2.1 dL_areMirrored_3 rfl (lv_at hl 1 rfl) ?_
  refine lv_iload_n C0.1 C0.2.1 dL_areMirrored_4 rfl (lv_at hl 2 rfl) ?_
  refine tc_callVx (q0 := 0) (rest := [.int (nI 0), .ref o]) C0 hG hS rfl rfl (kX0_areMirrored hlf hk x y) (cwV 2 C0.2.2.2.2 gL_areMirrored_X0_areMirrored rfl rfl rfl (by decide +kernel) ⟨(Nat.le_of_ble_eq_true rfl), (Nat.le_of_ble_eq_true rfl)⟩) rfl hl rfl (Nat.le_of_ble_eq_true rfl) dL_areMirrored_5 ⟨(Nat.le_of_ble_eq_true rfl), (Nat.le_of_ble_eq_true rfl)⟩ ?_ (fun c_n H locs hG hS => ?_)
  · intro i E q9 ce H locs hi hcd hG hS hce hcv hcl
    match i, hi, hcd with
    | 0, hi, hcd =>
      have hE : E = "java/lang/IndexOutOfBoundsException" := (Option.some.inj (show some "java/lang/IndexOutOfBoundsException" = some E from hi)).symm
      subst hE
      refine vx_catch C0.2.2.2.1 [] ⟨0, 17, 20, 21⟩ [⟨0, 17, 24, 13⟩] htb (fun z hz => by cases hz) (by decide) (by decide) (C0.2.2.2.2 (.classLink RL 21 "java/lang/IndexOutOfBoundsException") (by decide +kernel)) (va_Nw.use rfl (hxw.2.1 "java/lang/IndexOutOfBoundsException" (by decide))) hce hcv hcl ?_
      refine lv_astore (lv' := [(4, .ref q9), (0, .ref h), (1, .int x), (2, .int y), (3, .ref o)]) C0.1 C0.2.1 dL_areMirrored_20 hl (by decide) rfl (fun ls hl => ?_)
      refine lv_iconst (v := nI 1) C0.1 C0.2.1 dL_areMirrored_22 (by decide) ?_
      exact tc_iret C0 hr hlk (tcG.eq (if_neg (by rw [hcd]; decide)).symm hG) hS rfl (by rw [hcd] <;> rfl) (Nat.le_of_ble_eq_true rfl) (Nat.le_of_ble_eq_true rfl) dL_areMirrored_23
    | 1, hi, hcd =>
      have hE : E = "java/lang/IllegalArgumentException" := (Option.some.inj (show some "java/lang/IllegalArgumentException" = some E from hi)).symm
      subst hE
      refine vx_catch C0.2.2.2.1 [⟨0, 17, 20, 21⟩] ⟨0, 17, 24, 13⟩ [] htb (fun z hz => by rw [List.mem_singleton.mp hz]; exact Or.inr ⟨by decide, "java/lang/IndexOutOfBoundsException", C0.2.2.2.2 (.classLink RL 21 "java/lang/IndexOutOfBoundsException") (by decide +kernel), hxw.2.2 ("java/lang/IllegalArgumentException", "java/lang/IndexOutOfBoundsException") (by decide)⟩) (by decide) (by decide) (C0.2.2.2.2 (.classLink RL 13 "java/lang/IllegalArgumentException") (by decide +kernel)) (va_Nw.use rfl (hxw.2.1 "java/lang/IllegalArgumentException" (by decide))) hce hcv hcl ?_
      refine lv_astore (lv' := [(4, .ref q9), (0, .ref h), (1, .int x), (2, .int y), (3, .ref o)]) C0.1 C0.2.1 dL_areMirrored_24 hl (by decide) rfl (fun ls hl => ?_)
      refine lv_iconst (v := nI 2) C0.1 C0.2.1 dL_areMirrored_26 (by decide) ?_
      exact tc_iret C0 hr hlk (tcG.eq (if_neg (by rw [hcd]; decide)).symm hG) hS rfl (by rw [hcd] <;> rfl) (Nat.le_of_ble_eq_true rfl) (Nat.le_of_ble_eq_true rfl) dL_areMirrored_27
    | 2, hi, hcd =>
      exact absurd hcd (by have hcm := cdP_le x y n; omega)
    | i + 3, hi, hcd => exact absurd hi (by intro hq; exact nomatch (show (none : Option String) = some E from hq))
  · refine W.eq (g2 := F0 m 8 ls [.int (nI (b2n (mir (tk (ix x)) (tk (ix y))))), .int (nI 0), .ref o]) rfl ?_
    refine tb_if_eq (tgt := 15) C0.1 C0.2.1 dL_areMirrored_8 (by decide) (fun c_b => ?_) (fun c_b => ?_)
    · refine lv_lconst C0.1 C0.2.1 dL_areMirrored_15 (v := lB (mir (tk (ix x)) (tk (ix y)))) (by unfold lB; rw [c_b]; decide) ?_
      refine tc_last0 (q0 := 5) C0 hG0 hG hS rfl dL_areMirrored_16 (fun H locs hG hS => ?_)
      have hG : tcG D cI cJ N0 (wT h r1 r2 r3 r4 cI tk co cn wk n ho st ct sp ((o, tcO cJ (vp_updL fo 0 (lB (mir (tk (ix x)) (tk (ix y)))))) :: Z)) s H := hG
      refine lv_goto (tgt := 28) C0.1 C0.2.1 dL_areMirrored_17 (by decide) ?_
      refine lv_iconst (v := nI 0) C0.1 C0.2.1 dL_areMirrored_28 (by decide) ?_
      exact tc_iret C0 hr hlk (tcG.eq (if_pos c_n).symm hG) hS rfl (by rw [c_n]) (Nat.le_of_ble_eq_true rfl) (Nat.le_of_ble_eq_true rfl) dL_areMirrored_29
    · refine lv_lconst C0.1 C0.2.1 dL_areMirrored_11 (v := lB (mir (tk (ix x)) (tk (ix y)))) (by unfold lB; rw [c_b]; decide) ?_
      refine lv_goto (tgt := 16) C0.1 C0.2.1 dL_areMirrored_12 (by decide) ?_
      refine tc_last0 (q0 := 5) C0 hG0 hG hS rfl dL_areMirrored_16 (fun H locs hG hS => ?_)
      have hG : tcG D cI cJ N0 (wT h r1 r2 r3 r4 cI tk co cn wk n ho st ct sp ((o, tcO cJ (vp_updL fo 0 (lB (mir (tk (ix x)) (tk (ix y)))))) :: Z)) s H := hG
      refine lv_goto (tgt := 28) C0.1 C0.2.1 dL_areMirrored_17 (by decide) ?_
      refine lv_iconst (v := nI 0) C0.1 C0.2.1 dL_areMirrored_28 (by decide) ?_
      exact tc_iret C0 hr hlk (tcG.eq (if_pos c_n).symm hG) hS rfl (by rw [c_n]) (Nat.le_of_ble_eq_true rfl) (Nat.le_of_ble_eq_true rfl) dL_areMirrored_29
set_option maxHeartbeats 4000000 in
set_option maxRecDepth 100000 in
theorem kL_coincidencesAt {l : Launch} (hlf : l.stackTraces = false) {D : va_G} {cI cJ : ClassId} {N0 : Nat} {h r1 r2 r3 r4 o : Nat} {tk co cn wk : Nat → Nat} {n st : Nat} {ho ct sp : Int32} {fo : Nat → Int64} {Z : va_W} (hk : tOk tk co cn wk n st) (x : Int32) : tcM l yL_coincidencesAt wsL_coincidencesAt { frames := 8, cells := 1, slots := 6, locals := 134 } [] 0 [.ref h, .int x, .ref o] D cI cJ N0 (wT h r1 r2 r3 r4 cI tk co cn wk n ho st ct sp ((o, tcO cJ fo) :: Z)) (some (.int (nI (cdS x 6)))) (if cdS x 6 = 0 then wT h r1 r2 r3 r4 cI tk co cn wk n ho st ct sp ((o, tcO cJ (vp_updL fo 0 ((nI (cAt tk co cn (ix x) n)).toInt64))) :: Z) else wT h r1 r2 r3 r4 cI tk co cn wk n ho st ct sp ((o, tcO cJ fo) :: Z)) 1 6 := by
  refine tcM.ofH (cc := cL_coincidencesAt) (maxL := 4) (ret := some .int) (hh := [(0, 9, 12, 21)]) (by decide) rfl (Nat.le_of_ble_eq_true rfl) ?_
  intro p e s m args below meth c C0 hr hlk htb hG ls hl
  have hl : lv_has ls 4 [(0, .ref h), (1, .int x), (2, .ref o)] := hl
  have hG0 := hG
  have hS : va_S (tcA N0) s.heap s.heap [] := va_S.rf
  have hxw := hG.2.2.2.2.2.2.2
  refine lv_aload_n C0.1 C0.2.1 dL_coincidencesAt_0 rfl (lv_at hl 2 rfl) ?_
  refine lv_iconst (v := nI 0) C0.1 C0.2.1 dL_coincidencesAt_1 (by decide) ?_
  refine lv_aload_n C0.1 C0.2.1 dL_coincidencesAt_2 rfl (lv_at hl 0 rfl) ?_
  refine lv_iload_n C0.1 C0.2.1 dL_coincidencesAt_3 rfl (lv_at hl 1 rfl) ?_
  refine tc_callVx (q0 := 0) (rest := [.int (nI 0), .ref o]) C0 hG hS rfl rfl (kX0_coincidencesAt hlf hk x) (cwV 1 C0.2.2.2.2 gL_coincidencesAt_X0_coincidencesAt rfl rfl rfl (by decide +kernel) ⟨(Nat.le_of_ble_eq_true rfl), (Nat.le_of_ble_eq_true rfl)⟩) rfl hl rfl (Nat.le_of_ble_eq_true rfl) dL_coincidencesAt_4 ⟨(Nat.le_of_ble_eq_true rfl), (Nat.le_of_ble_eq_true rfl)⟩ ?_ (fun c_n H locs hG hS => ?_)
  · intro i E q9 ce H locs hi hcd hG hS hce hcv hcl
    match i, hi, hcd with
    | 0, hi, hcd =>
      have hE : E = "java/lang/IndexOutOfBoundsException" := (Option.some.inj (show some "java/lang/IndexOutOfBoundsException" = some E from hi)).symm
      subst hE
      refine vx_catch C0.2.2.2.1 [] ⟨0, 9, 12, 21⟩ [] htb (fun z hz => by cases hz) (by decide) (by decide) (C0.2.2.2.2 (.classLink RL 21 "java/lang/IndexOutOfBoundsException") (by decide +kernel)) (va_Nw.use rfl (hxw.2.1 "java/lang/IndexOutOfBoundsException" (by decide))) hce hcv hcl ?_
      refine lv_astore_n (lv' := [(3, .ref q9), (0, .ref h), (1, .int x), (2, .ref o)]) C0.1 C0.2.1 dL_coincidencesAt_12 rfl hl (by decide) rfl (fun ls hl => ?_)
      refine lv_iconst (v := nI 1) C0.1 C0.2.1 dL_coincidencesAt_13 (by decide) ?_
      exact tc_iret C0 hr hlk (tcG.eq (if_neg (by rw [hcd]; decide)).symm hG) hS rfl (by rw [hcd] <;> rfl) (Nat.le_of_ble_eq_true rfl) (Nat.le_of_ble_eq_true rfl) dL_coincidencesAt_14
    | 1, hi, hcd =>
      exact absurd hcd (by have hcm := cdS_le x 6; omega)
    | 2, hi, hcd =>
      exact absurd hcd (by have hcm := cdS_le x 6; omega)
    | i + 3, hi, hcd => exact absurd hi (by intro hq; exact nomatch (show (none : Option String) = some E from hq))
  · refine W.eq (g2 := F0 m 7 ls [.int (nI (cAt tk co cn (ix x) n)), .int (nI 0), .ref o]) rfl ?_
    refine lv_i2l C0.1 C0.2.1 dL_coincidencesAt_7 (v := (nI (cAt tk co cn (ix x) n)).toInt64) rfl ?_
    refine tc_last0 (q0 := 5) C0 hG0 hG hS rfl dL_coincidencesAt_8 (fun H locs hG hS => ?_)
    have hG : tcG D cI cJ N0 (wT h r1 r2 r3 r4 cI tk co cn wk n ho st ct sp ((o, tcO cJ (vp_updL fo 0 ((nI (cAt tk co cn (ix x) n)).toInt64))) :: Z)) s H := hG
    refine lv_goto (tgt := 15) C0.1 C0.2.1 dL_coincidencesAt_9 (by decide) ?_
    refine lv_iconst (v := nI 0) C0.1 C0.2.1 dL_coincidencesAt_15 (by decide) ?_
    exact tc_iret C0 hr hlk (tcG.eq (if_pos c_n).symm hG) hS rfl (by rw [c_n]) (Nat.le_of_ble_eq_true rfl) (Nat.le_of_ble_eq_true rfl) dL_coincidencesAt_16
set_option maxHeartbeats 4000000 in
set_option maxRecDepth 100000 in
theorem kL_luckOf {l : Launch} (hlf : l.stackTraces = false) {D : va_G} {cI cJ : ClassId} {N0 : Nat} {h r1 r2 r3 r4 o : Nat} {tk co cn wk : Nat → Nat} {n st : Nat} {ho ct sp : Int32} {fo : Nat → Int64} {Z : va_W} (hk : tOk tk co cn wk n st) (x : Int32) : tcM l yL_luckOf wsL_luckOf { frames := 8, cells := 1, slots := 6, locals := 132 } [] 0 [.ref h, .int x, .ref o] D cI cJ N0 (wT h r1 r2 r3 r4 cI tk co cn wk n ho st ct sp ((o, tcO cJ fo) :: Z)) (some (.int (nI (cdS x n)))) (if cdS x n = 0 then wT h r1 r2 r3 r4 cI tk co cn wk n ho st ct sp ((o, tcO cJ (vp_updL fo 0 ((nI (lkn tk co cn (ix x) n)).toInt64))) :: Z) else wT h r1 r2 r3 r4 cI tk co cn wk n ho st ct sp ((o, tcO cJ fo) :: Z)) 1 6 := by
  refine tcM.ofH (cc := cL_luckOf) (maxL := 4) (ret := some .int) (hh := [(0, 9, 12, 21)]) (by decide) rfl (Nat.le_of_ble_eq_true rfl) ?_
  intro p e s m args below meth c C0 hr hlk htb hG ls hl
  have hl : lv_has ls 4 [(0, .ref h), (1, .int x), (2, .ref o)] := hl
  have hG0 := hG
  have hS : va_S (tcA N0) s.heap s.heap [] := va_S.rf
  have hxw := hG.2.2.2.2.2.2.2
  refine lv_aload_n C0.1 C0.2.1 dL_luckOf_0 rfl (lv_at hl 2 rfl) ?_
  refine lv_iconst (v := nI 0) C0.1 C0.2.1 dL_luckOf_1 (by decide) ?_
  refine lv_aload_n C0.1 C0.2.1 dL_luckOf_2 rfl (lv_at hl 0 rfl) ?_
  refine lv_iload_n C0.1 C0.2.1 dL_luckOf_3 rfl (lv_at hl 1 rfl) ?_
  refine tc_callVx (q0 := 0) (rest := [.int (nI 0), .ref o]) C0 hG hS rfl rfl (kX0_luckOf hlf hk x) (cwV 1 C0.2.2.2.2 gL_luckOf_X0_luckOf rfl rfl rfl (by decide +kernel) ⟨(Nat.le_of_ble_eq_true rfl), (Nat.le_of_ble_eq_true rfl)⟩) rfl hl rfl (Nat.le_of_ble_eq_true rfl) dL_luckOf_4 ⟨(Nat.le_of_ble_eq_true rfl), (Nat.le_of_ble_eq_true rfl)⟩ ?_ (fun c_n H locs hG hS => ?_)
  · intro i E q9 ce H locs hi hcd hG hS hce hcv hcl
    match i, hi, hcd with
    | 0, hi, hcd =>
      have hE : E = "java/lang/IndexOutOfBoundsException" := (Option.some.inj (show some "java/lang/IndexOutOfBoundsException" = some E from hi)).symm
      subst hE
      refine vx_catch C0.2.2.2.1 [] ⟨0, 9, 12, 21⟩ [] htb (fun z hz => by cases hz) (by decide) (by decide) (C0.2.2.2.2 (.classLink RL 21 "java/lang/IndexOutOfBoundsException") (by decide +kernel)) (va_Nw.use rfl (hxw.2.1 "java/lang/IndexOutOfBoundsException" (by decide))) hce hcv hcl ?_
      refine lv_astore_n (lv' := [(3, .ref q9), (0, .ref h), (1, .int x), (2, .ref o)]) C0.1 C0.2.1 dL_luckOf_12 rfl hl (by decide) rfl (fun ls hl => ?_)
      refine lv_iconst (v := nI 1) C0.1 C0.2.1 dL_luckOf_13 (by decide) ?_
      exact tc_iret C0 hr hlk (tcG.eq (if_neg (by rw [hcd]; decide)).symm hG) hS rfl (by rw [hcd] <;> rfl) (Nat.le_of_ble_eq_true rfl) (Nat.le_of_ble_eq_true rfl) dL_luckOf_14
    | 1, hi, hcd =>
      exact absurd hcd (by have hcm := cdS_le x n; omega)
    | 2, hi, hcd =>
      exact absurd hcd (by have hcm := cdS_le x n; omega)
    | i + 3, hi, hcd => exact absurd hi (by intro hq; exact nomatch (show (none : Option String) = some E from hq))
  · refine W.eq (g2 := F0 m 7 ls [.int (nI (lkn tk co cn (ix x) n)), .int (nI 0), .ref o]) rfl ?_
    refine lv_i2l C0.1 C0.2.1 dL_luckOf_7 (v := (nI (lkn tk co cn (ix x) n)).toInt64) rfl ?_
    refine tc_last0 (q0 := 5) C0 hG0 hG hS rfl dL_luckOf_8 (fun H locs hG hS => ?_)
    have hG : tcG D cI cJ N0 (wT h r1 r2 r3 r4 cI tk co cn wk n ho st ct sp ((o, tcO cJ (vp_updL fo 0 ((nI (lkn tk co cn (ix x) n)).toInt64))) :: Z)) s H := hG
    refine lv_goto (tgt := 15) C0.1 C0.2.1 dL_luckOf_9 (by decide) ?_
    refine lv_iconst (v := nI 0) C0.1 C0.2.1 dL_luckOf_15 (by decide) ?_
    exact tc_iret C0 hr hlk (tcG.eq (if_pos c_n).symm hG) hS rfl (by rw [c_n]) (Nat.le_of_ble_eq_true rfl) (Nat.le_of_ble_eq_true rfl) dL_luckOf_16
set_option maxHeartbeats 4000000 in
set_option maxRecDepth 100000 in
theorem kL_coincidencesIn {l : Launch} (hlf : l.stackTraces = false) {D : va_G} {cI cJ : ClassId} {N0 : Nat} {h r1 r2 r3 r4 o : Nat} {tk co cn wk : Nat → Nat} {n st : Nat} {ho ct sp : Int32} {fo : Nat → Int64} {Z : va_W} (hk : tOk tk co cn wk n st) (x : Int32) : tcM l yL_coincidencesIn wsL_coincidencesIn { frames := 7, cells := 1, slots := 6, locals := 111 } [] 0 [.ref h, .int x, .ref o] D cI cJ N0 (wT h r1 r2 r3 r4 cI tk co cn wk n ho st ct sp ((o, tcO cJ fo) :: Z)) (some (.int (nI (cdS x 61)))) (if cdS x 61 = 0 then wT h r1 r2 r3 r4 cI tk co cn wk n ho st ct sp ((o, tcO cJ (vp_updL fo 0 ((nI (tw tk co cn wk (ix x) n)).toInt64))) :: Z) else wT h r1 r2 r3 r4 cI tk co cn wk n ho st ct sp ((o, tcO cJ fo) :: Z)) 1 6 := by
  refine tcM.ofH (cc := cL_coincidencesIn) (maxL := 4) (ret := some .int) (hh := [(0, 9, 12, 13)]) (by decide) rfl (Nat.le_of_ble_eq_true rfl) ?_
  intro p e s m args below meth c C0 hr hlk htb hG ls hl
  have hl : lv_has ls 4 [(0, .ref h), (1, .int x), (2, .ref o)] := hl
  have hG0 := hG
  have hS : va_S (tcA N0) s.heap s.heap [] := va_S.rf
  have hxw := hG.2.2.2.2.2.2.2
  refine lv_aload_n C0.1 C0.2.1 dL_coincidencesIn_0 rfl (lv_at hl 2 rfl) ?_
  refine lv_iconst (v := nI 0) C0.1 C0.2.1 dL_coincidencesIn_1 (by decide) ?_
  refine lv_aload_n C0.1 C0.2.1 dL_coincidencesIn_2 rfl (lv_at hl 0 rfl) ?_
  refine lv_iload_n C0.1 C0.2.1 dL_coincidencesIn_3 rfl (lv_at hl 1 rfl) ?_
  refine tc_callVx (q0 := 0) (rest := [.int (nI 0), .ref o]) C0 hG hS rfl rfl (kX0_coincidencesIn hlf hk x) (cwV 1 C0.2.2.2.2 gL_coincidencesIn_X0_coincidencesIn rfl rfl rfl (by decide +kernel) ⟨(Nat.le_of_ble_eq_true rfl), (Nat.le_of_ble_eq_true rfl)⟩) rfl hl rfl (Nat.le_of_ble_eq_true rfl) dL_coincidencesIn_4 ⟨(Nat.le_of_ble_eq_true rfl), (Nat.le_of_ble_eq_true rfl)⟩ ?_ (fun c_n H locs hG hS => ?_)
  · intro i E q9 ce H locs hi hcd hG hS hce hcv hcl
    match i, hi, hcd with
    | 0, hi, hcd =>
      have hE : E = "java/lang/IllegalArgumentException" := (Option.some.inj (show some "java/lang/IllegalArgumentException" = some E from hi)).symm
      subst hE
      refine vx_catch C0.2.2.2.1 [] ⟨0, 9, 12, 13⟩ [] htb (fun z hz => by cases hz) (by decide) (by decide) (C0.2.2.2.2 (.classLink RL 13 "java/lang/IllegalArgumentException") (by decide +kernel)) (va_Nw.use rfl (hxw.2.1 "java/lang/IllegalArgumentException" (by decide))) hce hcv hcl ?_
      refine lv_astore_n (lv' := [(3, .ref q9), (0, .ref h), (1, .int x), (2, .ref o)]) C0.1 C0.2.1 dL_coincidencesIn_12 rfl hl (by decide) rfl (fun ls hl => ?_)
      refine lv_iconst (v := nI 1) C0.1 C0.2.1 dL_coincidencesIn_13 (by decide) ?_
      exact tc_iret C0 hr hlk (tcG.eq (if_neg (by rw [hcd]; decide)).symm hG) hS rfl (by rw [hcd] <;> rfl) (Nat.le_of_ble_eq_true rfl) (Nat.le_of_ble_eq_true rfl) dL_coincidencesIn_14
    | 1, hi, hcd =>
      exact absurd hcd (by have hcm := cdS_le x 61; omega)
    | i + 2, hi, hcd => exact absurd hi (by intro hq; exact nomatch (show (none : Option String) = some E from hq))
  · refine W.eq (g2 := F0 m 7 ls [.int (nI (tw tk co cn wk (ix x) n)), .int (nI 0), .ref o]) rfl ?_
    refine lv_i2l C0.1 C0.2.1 dL_coincidencesIn_7 (v := (nI (tw tk co cn wk (ix x) n)).toInt64) rfl ?_
    refine tc_last0 (q0 := 5) C0 hG0 hG hS rfl dL_coincidencesIn_8 (fun H locs hG hS => ?_)
    have hG : tcG D cI cJ N0 (wT h r1 r2 r3 r4 cI tk co cn wk n ho st ct sp ((o, tcO cJ (vp_updL fo 0 ((nI (tw tk co cn wk (ix x) n)).toInt64))) :: Z)) s H := hG
    refine lv_goto (tgt := 15) C0.1 C0.2.1 dL_coincidencesIn_9 (by decide) ?_
    refine lv_iconst (v := nI 0) C0.1 C0.2.1 dL_coincidencesIn_15 (by decide) ?_
    exact tc_iret C0 hr hlk (tcG.eq (if_pos c_n).symm hG) hS rfl (by rw [c_n]) (Nat.le_of_ble_eq_true rfl) (Nat.le_of_ble_eq_true rfl) dL_coincidencesIn_16
set_option maxHeartbeats 4000000 in
set_option maxRecDepth 100000 in
theorem kL_hoursUntilTogether {l : Launch} (hlf : l.stackTraces = false) {D : va_G} {cI cJ : ClassId} {N0 : Nat} {h r1 r2 r3 r4 o : Nat} {tk co cn wk : Nat → Nat} {n st : Nat} {ho ct sp : Int32} {fo : Nat → Int64} {Z : va_W} (hk : tOk tk co cn wk n st) (x y : Int32) : tcM l yL_hoursUntilTogether wsL_hoursUntilTogether { frames := 9, cells := 3, slots := 18, locals := 156 } [] 0 [.ref h, .int x, .int y, .ref o] D cI cJ N0 (wT h r1 r2 r3 r4 cI tk co cn wk n ho st ct sp ((o, tcO cJ fo) :: Z)) (some (.int (nI (cdP x y n)))) (if cdP x y n = 0 then wT h r1 r2 r3 r4 cI tk co cn wk n ho st ct sp ((o, tcO cJ (vp_updL fo 0 ((iM (meet cn wk (ix x) (ix y))).toInt64))) :: Z) else wT h r1 r2 r3 r4 cI tk co cn wk n ho st ct sp ((o, tcO cJ fo) :: Z)) 3 18 := by
  refine tcM.ofH (cc := cL_hoursUntilTogether) (maxL := 5) (ret := some .int) (hh := [(0, 10, 13, 21), (0, 10, 17, 13)]) (by decide) rfl (Nat.le_of_ble_eq_true rfl) ?_
  intro p e s m args below meth c C0 hr hlk htb hG ls hl
  have hl : lv_has ls 5 [(0, .ref h), (1, .int x), (2, .int y), (3, .ref o)] := hl
  have hG0 := hG
  have hS : va_S (tcA N0) s.heap s.heap [] := va_S.rf
  have hxw := hG.2.2.2.2.2.2.2
  refine lv_aload_n C0.1 C0.2.1 dL_hoursUntilTogether_0 rfl (lv_at hl 3 rfl) ?_
  refine lv_iconst (v := nI 0) C0.1 C0.2.1 dL_hoursUntilTogether_1 (by decide) ?_
  refine lv_aload_n C0.1 C0.2.1 dL_hoursUntilTogether_2 rfl (lv_at hl 0 rfl) ?_
  refine lv_iload_n C0.1 C0.2.1 dL_hoursUntilTogether_3 rfl (lv_at hl 1 rfl) ?_
  refine lv_iload_n C0.1 C0.2.1 dL_hoursUntilTogether_4 rfl (lv_at hl 2 rfl) ?_
  refine tc_callVx (q0 := 0) (rest := [.int (nI 0), .ref o]) C0 hG hS rfl rfl (kX0_hoursUntilTogether hlf hk x y) (cwV 2 C0.2.2.2.2 gL_hoursUntilTogether_X0_hoursUntilTogether rfl rfl rfl (by decide +kernel) ⟨(Nat.le_of_ble_eq_true rfl), (Nat.le_of_ble_eq_true rfl)⟩) rfl hl rfl (Nat.le_of_ble_eq_true rfl) dL_hoursUntilTogether_5 ⟨(Nat.le_of_ble_eq_true rfl), (Nat.le_of_ble_eq_true rfl)⟩ ?_ (fun c_n H locs hG hS => ?_)
  · intro i E q9 ce H locs hi hcd hG hS hce hcv hcl
    match i, hi, hcd with
    | 0, hi, hcd =>
      have hE : E = "java/lang/IndexOutOfBoundsException" := (Option.some.inj (show some "java/lang/IndexOutOfBoundsException" = some E from hi)).symm
      subst hE
      refine vx_catch C0.2.2.2.1 [] ⟨0, 10, 13, 21⟩ [⟨0, 10, 17, 13⟩] htb (fun z hz => by cases hz) (by decide) (by decide) (C0.2.2.2.2 (.classLink RL 21 "java/lang/IndexOutOfBoundsException") (by decide +kernel)) (va_Nw.use rfl (hxw.2.1 "java/lang/IndexOutOfBoundsException" (by decide))) hce hcv hcl ?_
      refine lv_astore (lv' := [(4, .ref q9), (0, .ref h), (1, .int x), (2, .int y), (3, .ref o)]) C0.1 C0.2.1 dL_hoursUntilTogether_13 hl (by decide) rfl (fun ls hl => ?_)
      refine lv_iconst (v := nI 1) C0.1 C0.2.1 dL_hoursUntilTogether_15 (by decide) ?_
      exact tc_iret C0 hr hlk (tcG.eq (if_neg (by rw [hcd]; decide)).symm hG) hS rfl (by rw [hcd] <;> rfl) (Nat.le_of_ble_eq_true rfl) (Nat.le_of_ble_eq_true rfl) dL_hoursUntilTogether_16
    | 1, hi, hcd =>
      have hE : E = "java/lang/IllegalArgumentException" := (Option.some.inj (show some "java/lang/IllegalArgumentException" = some E from hi)).symm
      subst hE
      refine vx_catch C0.2.2.2.1 [⟨0, 10, 13, 21⟩] ⟨0, 10, 17, 13⟩ [] htb (fun z hz => by rw [List.mem_singleton.mp hz]; exact Or.inr ⟨by decide, "java/lang/IndexOutOfBoundsException", C0.2.2.2.2 (.classLink RL 21 "java/lang/IndexOutOfBoundsException") (by decide +kernel), hxw.2.2 ("java/lang/IllegalArgumentException", "java/lang/IndexOutOfBoundsException") (by decide)⟩) (by decide) (by decide) (C0.2.2.2.2 (.classLink RL 13 "java/lang/IllegalArgumentException") (by decide +kernel)) (va_Nw.use rfl (hxw.2.1 "java/lang/IllegalArgumentException" (by decide))) hce hcv hcl ?_
      refine lv_astore (lv' := [(4, .ref q9), (0, .ref h), (1, .int x), (2, .int y), (3, .ref o)]) C0.1 C0.2.1 dL_hoursUntilTogether_17 hl (by decide) rfl (fun ls hl => ?_)
      refine lv_iconst (v := nI 2) C0.1 C0.2.1 dL_hoursUntilTogether_19 (by decide) ?_
      exact tc_iret C0 hr hlk (tcG.eq (if_neg (by rw [hcd]; decide)).symm hG) hS rfl (by rw [hcd] <;> rfl) (Nat.le_of_ble_eq_true rfl) (Nat.le_of_ble_eq_true rfl) dL_hoursUntilTogether_20
    | 2, hi, hcd =>
      exact absurd hcd (by have hcm := cdP_le x y n; omega)
    | i + 3, hi, hcd => exact absurd hi (by intro hq; exact nomatch (show (none : Option String) = some E from hq))
  · refine W.eq (g2 := F0 m 8 ls [.int (iM (meet cn wk (ix x) (ix y))), .int (nI 0), .ref o]) rfl ?_
    refine lv_i2l C0.1 C0.2.1 dL_hoursUntilTogether_8 (v := (iM (meet cn wk (ix x) (ix y))).toInt64) rfl ?_
    refine tc_last0 (q0 := 5) C0 hG0 hG hS rfl dL_hoursUntilTogether_9 (fun H locs hG hS => ?_)
    have hG : tcG D cI cJ N0 (wT h r1 r2 r3 r4 cI tk co cn wk n ho st ct sp ((o, tcO cJ (vp_updL fo 0 ((iM (meet cn wk (ix x) (ix y))).toInt64))) :: Z)) s H := hG
    refine lv_goto (tgt := 21) C0.1 C0.2.1 dL_hoursUntilTogether_10 (by decide) ?_
    refine lv_iconst (v := nI 0) C0.1 C0.2.1 dL_hoursUntilTogether_21 (by decide) ?_
    exact tc_iret C0 hr hlk (tcG.eq (if_pos c_n).symm hG) hS rfl (by rw [c_n]) (Nat.le_of_ble_eq_true rfl) (Nat.le_of_ble_eq_true rfl) dL_hoursUntilTogether_22
set_option maxHeartbeats 4000000 in
set_option maxRecDepth 100000 in
theorem kL_costOfMeeting {l : Launch} (hlf : l.stackTraces = false) {D : va_G} {cI cJ : ClassId} {N0 : Nat} {h r1 r2 r3 r4 o : Nat} {tk co cn wk : Nat → Nat} {n st : Nat} {ho ct sp : Int32} {fo : Nat → Int64} {Z : va_W} (hk : tOk tk co cn wk n st) (x y : Int32) : tcM l yL_costOfMeeting wsL_costOfMeeting { frames := 9, cells := 3, slots := 18, locals := 155 } [] 0 [.ref h, .int x, .int y, .ref o] D cI cJ N0 (wT h r1 r2 r3 r4 cI tk co cn wk n ho st ct sp ((o, tcO cJ fo) :: Z)) (some (.int (nI (cdP x y n)))) (if cdP x y n = 0 then wT h r1 r2 r3 r4 cI tk co cn wk n ho st ct sp ((o, tcO cJ (vp_updL fo 0 ((nI (way (cn (ix x)) (cn (ix y)))).toInt64))) :: Z) else wT h r1 r2 r3 r4 cI tk co cn wk n ho st ct sp ((o, tcO cJ fo) :: Z)) 3 18 := by
  refine tcM.ofH (cc := cL_costOfMeeting) (maxL := 5) (ret := some .int) (hh := [(0, 10, 13, 21), (0, 10, 17, 13)]) (by decide) rfl (Nat.le_of_ble_eq_true rfl) ?_
  intro p e s m args below meth c C0 hr hlk htb hG ls hl
  have hl : lv_has ls 5 [(0, .ref h), (1, .int x), (2, .int y), (3, .ref o)] := hl
  have hG0 := hG
  have hS : va_S (tcA N0) s.heap s.heap [] := va_S.rf
  have hxw := hG.2.2.2.2.2.2.2
  refine lv_aload_n C0.1 C0.2.1 dL_costOfMeeting_0 rfl (lv_at hl 3 rfl) ?_
  refine lv_iconst (v := nI 0) C0.1 C0.2.1 dL_costOfMeeting_1 (by decide) ?_
  refine lv_aload_n C0.1 C0.2.1 dL_costOfMeeting_2 rfl (lv_at hl 0 rfl) ?_
  refine lv_iload_n C0.1 C0.2.1 dL_costOfMeeting_3 rfl (lv_at hl 1 rfl) ?_
  refine lv_iload_n C0.1 C0.2.1 dL_costOfMeeting_4 rfl (lv_at hl 2 rfl) ?_
  refine tc_callVx (q0 := 0) (rest := [.int (nI 0), .ref o]) C0 hG hS rfl rfl (kX0_costOfMeeting hlf hk x y) (cwV 2 C0.2.2.2.2 gL_costOfMeeting_X0_costOfMeeting rfl rfl rfl (by decide +kernel) ⟨(Nat.le_of_ble_eq_true rfl), (Nat.le_of_ble_eq_true rfl)⟩) rfl hl rfl (Nat.le_of_ble_eq_true rfl) dL_costOfMeeting_5 ⟨(Nat.le_of_ble_eq_true rfl), (Nat.le_of_ble_eq_true rfl)⟩ ?_ (fun c_n H locs hG hS => ?_)
  · intro i E q9 ce H locs hi hcd hG hS hce hcv hcl
    match i, hi, hcd with
    | 0, hi, hcd =>
      have hE : E = "java/lang/IndexOutOfBoundsException" := (Option.some.inj (show some "java/lang/IndexOutOfBoundsException" = some E from hi)).symm
      subst hE
      refine vx_catch C0.2.2.2.1 [] ⟨0, 10, 13, 21⟩ [⟨0, 10, 17, 13⟩] htb (fun z hz => by cases hz) (by decide) (by decide) (C0.2.2.2.2 (.classLink RL 21 "java/lang/IndexOutOfBoundsException") (by decide +kernel)) (va_Nw.use rfl (hxw.2.1 "java/lang/IndexOutOfBoundsException" (by decide))) hce hcv hcl ?_
      refine lv_astore (lv' := [(4, .ref q9), (0, .ref h), (1, .int x), (2, .int y), (3, .ref o)]) C0.1 C0.2.1 dL_costOfMeeting_13 hl (by decide) rfl (fun ls hl => ?_)
      refine lv_iconst (v := nI 1) C0.1 C0.2.1 dL_costOfMeeting_15 (by decide) ?_
      exact tc_iret C0 hr hlk (tcG.eq (if_neg (by rw [hcd]; decide)).symm hG) hS rfl (by rw [hcd] <;> rfl) (Nat.le_of_ble_eq_true rfl) (Nat.le_of_ble_eq_true rfl) dL_costOfMeeting_16
    | 1, hi, hcd =>
      have hE : E = "java/lang/IllegalArgumentException" := (Option.some.inj (show some "java/lang/IllegalArgumentException" = some E from hi)).symm
      subst hE
      refine vx_catch C0.2.2.2.1 [⟨0, 10, 13, 21⟩] ⟨0, 10, 17, 13⟩ [] htb (fun z hz => by rw [List.mem_singleton.mp hz]; exact Or.inr ⟨by decide, "java/lang/IndexOutOfBoundsException", C0.2.2.2.2 (.classLink RL 21 "java/lang/IndexOutOfBoundsException") (by decide +kernel), hxw.2.2 ("java/lang/IllegalArgumentException", "java/lang/IndexOutOfBoundsException") (by decide)⟩) (by decide) (by decide) (C0.2.2.2.2 (.classLink RL 13 "java/lang/IllegalArgumentException") (by decide +kernel)) (va_Nw.use rfl (hxw.2.1 "java/lang/IllegalArgumentException" (by decide))) hce hcv hcl ?_
      refine lv_astore (lv' := [(4, .ref q9), (0, .ref h), (1, .int x), (2, .int y), (3, .ref o)]) C0.1 C0.2.1 dL_costOfMeeting_17 hl (by decide) rfl (fun ls hl => ?_)
      refine lv_iconst (v := nI 2) C0.1 C0.2.1 dL_costOfMeeting_19 (by decide) ?_
      exact tc_iret C0 hr hlk (tcG.eq (if_neg (by rw [hcd]; decide)).symm hG) hS rfl (by rw [hcd] <;> rfl) (Nat.le_of_ble_eq_true rfl) (Nat.le_of_ble_eq_true rfl) dL_costOfMeeting_20
    | 2, hi, hcd =>
      exact absurd hcd (by have hcm := cdP_le x y n; omega)
    | i + 3, hi, hcd => exact absurd hi (by intro hq; exact nomatch (show (none : Option String) = some E from hq))
  · refine W.eq (g2 := F0 m 8 ls [.int (nI (way (cn (ix x)) (cn (ix y)))), .int (nI 0), .ref o]) rfl ?_
    refine lv_i2l C0.1 C0.2.1 dL_costOfMeeting_8 (v := (nI (way (cn (ix x)) (cn (ix y)))).toInt64) rfl ?_
    refine tc_last0 (q0 := 5) C0 hG0 hG hS rfl dL_costOfMeeting_9 (fun H locs hG hS => ?_)
    have hG : tcG D cI cJ N0 (wT h r1 r2 r3 r4 cI tk co cn wk n ho st ct sp ((o, tcO cJ (vp_updL fo 0 ((nI (way (cn (ix x)) (cn (ix y)))).toInt64))) :: Z)) s H := hG
    refine lv_goto (tgt := 21) C0.1 C0.2.1 dL_costOfMeeting_10 (by decide) ?_
    refine lv_iconst (v := nI 0) C0.1 C0.2.1 dL_costOfMeeting_21 (by decide) ?_
    exact tc_iret C0 hr hlk (tcG.eq (if_pos c_n).symm hG) hS rfl (by rw [c_n]) (Nat.le_of_ble_eq_true rfl) (Nat.le_of_ble_eq_true rfl) dL_costOfMeeting_22
set_option maxHeartbeats 4000000 in
set_option maxRecDepth 100000 in
theorem kL_bestCorner {l : Launch} (hlf : l.stackTraces = false) {D : va_G} {cI cJ : ClassId} {N0 : Nat} {h r1 r2 r3 r4 o : Nat} {tk co cn wk : Nat → Nat} {n st : Nat} {ho ct sp : Int32} {fo : Nat → Int64} {Z : va_W} (hk : tOk tk co cn wk n st) (x : Int32) : tcM l yL_bestCorner wsL_bestCorner { frames := 8, cells := 1, slots := 6, locals := 136 } [] 0 [.ref h, .int x, .ref o] D cI cJ N0 (wT h r1 r2 r3 r4 cI tk co cn wk n ho st ct sp ((o, tcO cJ fo) :: Z)) (some (.int (nI (cdS x n)))) (if cdS x n = 0 then wT h r1 r2 r3 r4 cI tk co cn wk n ho st ct sp ((o, tcO cJ (vp_updL fo 0 ((nI (bestCn tk co cn (ix x) n)).toInt64))) :: Z) else wT h r1 r2 r3 r4 cI tk co cn wk n ho st ct sp ((o, tcO cJ fo) :: Z)) 1 6 := by
  refine tcM.ofH (cc := cL_bestCorner) (maxL := 4) (ret := some .int) (hh := [(0, 9, 12, 21)]) (by decide) rfl (Nat.le_of_ble_eq_true rfl) ?_
  intro p e s m args below meth c C0 hr hlk htb hG ls hl
  have hl : lv_has ls 4 [(0, .ref h), (1, .int x), (2, .ref o)] := hl
  have hG0 := hG
  have hS : va_S (tcA N0) s.heap s.heap [] := va_S.rf
  have hxw := hG.2.2.2.2.2.2.2
  refine lv_aload_n C0.1 C0.2.1 dL_bestCorner_0 rfl (lv_at hl 2 rfl) ?_
  refine lv_iconst (v := nI 0) C0.1 C0.2.1 dL_bestCorner_1 (by decide) ?_
  refine lv_aload_n C0.1 C0.2.1 dL_bestCorner_2 rfl (lv_at hl 0 rfl) ?_
  refine lv_iload_n C0.1 C0.2.1 dL_bestCorner_3 rfl (lv_at hl 1 rfl) ?_
  refine tc_callVx (q0 := 0) (rest := [.int (nI 0), .ref o]) C0 hG hS rfl rfl (kX0_bestCorner hlf hk x) (cwV 1 C0.2.2.2.2 gL_bestCorner_X0_bestCorner rfl rfl rfl (by decide +kernel) ⟨(Nat.le_of_ble_eq_true rfl), (Nat.le_of_ble_eq_true rfl)⟩) rfl hl rfl (Nat.le_of_ble_eq_true rfl) dL_bestCorner_4 ⟨(Nat.le_of_ble_eq_true rfl), (Nat.le_of_ble_eq_true rfl)⟩ ?_ (fun c_n H locs hG hS => ?_)
  · intro i E q9 ce H locs hi hcd hG hS hce hcv hcl
    match i, hi, hcd with
    | 0, hi, hcd =>
      have hE : E = "java/lang/IndexOutOfBoundsException" := (Option.some.inj (show some "java/lang/IndexOutOfBoundsException" = some E from hi)).symm
      subst hE
      refine vx_catch C0.2.2.2.1 [] ⟨0, 9, 12, 21⟩ [] htb (fun z hz => by cases hz) (by decide) (by decide) (C0.2.2.2.2 (.classLink RL 21 "java/lang/IndexOutOfBoundsException") (by decide +kernel)) (va_Nw.use rfl (hxw.2.1 "java/lang/IndexOutOfBoundsException" (by decide))) hce hcv hcl ?_
      refine lv_astore_n (lv' := [(3, .ref q9), (0, .ref h), (1, .int x), (2, .ref o)]) C0.1 C0.2.1 dL_bestCorner_12 rfl hl (by decide) rfl (fun ls hl => ?_)
      refine lv_iconst (v := nI 1) C0.1 C0.2.1 dL_bestCorner_13 (by decide) ?_
      exact tc_iret C0 hr hlk (tcG.eq (if_neg (by rw [hcd]; decide)).symm hG) hS rfl (by rw [hcd] <;> rfl) (Nat.le_of_ble_eq_true rfl) (Nat.le_of_ble_eq_true rfl) dL_bestCorner_14
    | 1, hi, hcd =>
      exact absurd hcd (by have hcm := cdS_le x n; omega)
    | 2, hi, hcd =>
      exact absurd hcd (by have hcm := cdS_le x n; omega)
    | i + 3, hi, hcd => exact absurd hi (by intro hq; exact nomatch (show (none : Option String) = some E from hq))
  · refine W.eq (g2 := F0 m 7 ls [.int (nI (bestCn tk co cn (ix x) n)), .int (nI 0), .ref o]) rfl ?_
    refine lv_i2l C0.1 C0.2.1 dL_bestCorner_7 (v := (nI (bestCn tk co cn (ix x) n)).toInt64) rfl ?_
    refine tc_last0 (q0 := 5) C0 hG0 hG hS rfl dL_bestCorner_8 (fun H locs hG hS => ?_)
    have hG : tcG D cI cJ N0 (wT h r1 r2 r3 r4 cI tk co cn wk n ho st ct sp ((o, tcO cJ (vp_updL fo 0 ((nI (bestCn tk co cn (ix x) n)).toInt64))) :: Z)) s H := hG
    refine lv_goto (tgt := 15) C0.1 C0.2.1 dL_bestCorner_9 (by decide) ?_
    refine lv_iconst (v := nI 0) C0.1 C0.2.1 dL_bestCorner_15 (by decide) ?_
    exact tc_iret C0 hr hlk (tcG.eq (if_pos c_n).symm hG) hS rfl (by rw [c_n]) (Nat.le_of_ble_eq_true rfl) (Nat.le_of_ble_eq_true rfl) dL_bestCorner_16
set_option maxHeartbeats 4000000 in
set_option maxRecDepth 100000 in
theorem kL_bestTicket {l : Launch} (hlf : l.stackTraces = false) {D : va_G} {cI cJ : ClassId} {N0 : Nat} {h r1 r2 r3 r4 o : Nat} {tk co cn wk : Nat → Nat} {n st : Nat} {ho ct sp : Int32} {fo : Nat → Int64} {Z : va_W} (hk : tOk tk co cn wk n st) (x : Int32) : tcM l yL_bestTicket wsL_bestTicket { frames := 8, cells := 1, slots := 6, locals := 136 } [] 0 [.ref h, .int x, .ref o] D cI cJ N0 (wT h r1 r2 r3 r4 cI tk co cn wk n ho st ct sp ((o, tcO cJ fo) :: Z)) (some (.int (nI (cdS x n)))) (if cdS x n = 0 then wT h r1 r2 r3 r4 cI tk co cn wk n ho st ct sp ((o, tcO cJ (vp_updL fo 0 ((nI (bestTk tk co cn (ix x) n)).toInt64))) :: Z) else wT h r1 r2 r3 r4 cI tk co cn wk n ho st ct sp ((o, tcO cJ fo) :: Z)) 1 6 := by
  refine tcM.ofH (cc := cL_bestTicket) (maxL := 4) (ret := some .int) (hh := [(0, 9, 12, 21)]) (by decide) rfl (Nat.le_of_ble_eq_true rfl) ?_
  intro p e s m args below meth c C0 hr hlk htb hG ls hl
  have hl : lv_has ls 4 [(0, .ref h), (1, .int x), (2, .ref o)] := hl
  have hG0 := hG
  have hS : va_S (tcA N0) s.heap s.heap [] := va_S.rf
  have hxw := hG.2.2.2.2.2.2.2
  refine lv_aload_n C0.1 C0.2.1 dL_bestTicket_0 rfl (lv_at hl 2 rfl) ?_
  refine lv_iconst (v := nI 0) C0.1 C0.2.1 dL_bestTicket_1 (by decide) ?_
  refine lv_aload_n C0.1 C0.2.1 dL_bestTicket_2 rfl (lv_at hl 0 rfl) ?_
  refine lv_iload_n C0.1 C0.2.1 dL_bestTicket_3 rfl (lv_at hl 1 rfl) ?_
  refine tc_callVx (q0 := 0) (rest := [.int (nI 0), .ref o]) C0 hG hS rfl rfl (kX0_bestTicket hlf hk x) (cwV 1 C0.2.2.2.2 gL_bestTicket_X0_bestTicket rfl rfl rfl (by decide +kernel) ⟨(Nat.le_of_ble_eq_true rfl), (Nat.le_of_ble_eq_true rfl)⟩) rfl hl rfl (Nat.le_of_ble_eq_true rfl) dL_bestTicket_4 ⟨(Nat.le_of_ble_eq_true rfl), (Nat.le_of_ble_eq_true rfl)⟩ ?_ (fun c_n H locs hG hS => ?_)
  · intro i E q9 ce H locs hi hcd hG hS hce hcv hcl
    match i, hi, hcd with
    | 0, hi, hcd =>
      have hE : E = "java/lang/IndexOutOfBoundsException" := (Option.some.inj (show some "java/lang/IndexOutOfBoundsException" = some E from hi)).symm
      subst hE
      refine vx_catch C0.2.2.2.1 [] ⟨0, 9, 12, 21⟩ [] htb (fun z hz => by cases hz) (by decide) (by decide) (C0.2.2.2.2 (.classLink RL 21 "java/lang/IndexOutOfBoundsException") (by decide +kernel)) (va_Nw.use rfl (hxw.2.1 "java/lang/IndexOutOfBoundsException" (by decide))) hce hcv hcl ?_
      refine lv_astore_n (lv' := [(3, .ref q9), (0, .ref h), (1, .int x), (2, .ref o)]) C0.1 C0.2.1 dL_bestTicket_12 rfl hl (by decide) rfl (fun ls hl => ?_)
      refine lv_iconst (v := nI 1) C0.1 C0.2.1 dL_bestTicket_13 (by decide) ?_
      exact tc_iret C0 hr hlk (tcG.eq (if_neg (by rw [hcd]; decide)).symm hG) hS rfl (by rw [hcd] <;> rfl) (Nat.le_of_ble_eq_true rfl) (Nat.le_of_ble_eq_true rfl) dL_bestTicket_14
    | 1, hi, hcd =>
      exact absurd hcd (by have hcm := cdS_le x n; omega)
    | 2, hi, hcd =>
      exact absurd hcd (by have hcm := cdS_le x n; omega)
    | i + 3, hi, hcd => exact absurd hi (by intro hq; exact nomatch (show (none : Option String) = some E from hq))
  · refine W.eq (g2 := F0 m 7 ls [.int (nI (bestTk tk co cn (ix x) n)), .int (nI 0), .ref o]) rfl ?_
    refine lv_i2l C0.1 C0.2.1 dL_bestTicket_7 (v := (nI (bestTk tk co cn (ix x) n)).toInt64) rfl ?_
    refine tc_last0 (q0 := 5) C0 hG0 hG hS rfl dL_bestTicket_8 (fun H locs hG hS => ?_)
    have hG : tcG D cI cJ N0 (wT h r1 r2 r3 r4 cI tk co cn wk n ho st ct sp ((o, tcO cJ (vp_updL fo 0 ((nI (bestTk tk co cn (ix x) n)).toInt64))) :: Z)) s H := hG
    refine lv_goto (tgt := 15) C0.1 C0.2.1 dL_bestTicket_9 (by decide) ?_
    refine lv_iconst (v := nI 0) C0.1 C0.2.1 dL_bestTicket_15 (by decide) ?_
    exact tc_iret C0 hr hlk (tcG.eq (if_pos c_n).symm hG) hS rfl (by rw [c_n]) (Nat.le_of_ble_eq_true rfl) (Nat.le_of_ble_eq_true rfl) dL_bestTicket_16
