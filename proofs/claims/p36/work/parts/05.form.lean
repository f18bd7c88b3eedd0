/-! the one form of contract: a world over one base N0, code numbers of what is thrown -/
abbrev tcA (N0 : Nat) : Nat → Prop := fun q => N0 ≤ q
def tcStr : List (Nat × String) := [(117, "hours are 0 to 60"), (159, "there is no such stranger"), (162, "both are the same"), (164, "it costs too much"), (53, "no such ticket, colour, corner or walk"), (60, "there are 12 strangers"), (67, "a walk is 0 to 5"), (69, "a corner is 0 to 5"), (71, "this one stands there"), (84, "they do not stand at one corner"), (94, "a ticket is 0 to 99"), (96, "hours are 1 to 60")]
def tcDc : List MethodName := [Bundle.initS "java/lang/RuntimeException", Bundle.initS "java/lang/Exception", Bundle.initS Bundle.tN]
def tcCs : List String := ["java/lang/IndexOutOfBoundsException", "java/lang/IllegalArgumentException", "java/lang/IllegalStateException"]
def tcNp : List (String × String) := []
/-- arrays of arrays of ints can be made -/
def tcAO (U : State) : Prop := (Cond.arrayOver (.array .int)).before #[] U = true
theorem tcAO.moved {u U : State} (hvm : u.vm.Alike U.vm) (h : tcAO u) : tcAO U := by
  obtain ⟨comp, c, k, h1, h2, h3, h4, h5⟩ := arrayOverA_spec h
  obtain ⟨k', hk', he⟩ := hvm.2.2 _ _ h3
  have hi : (U.vm.classes.findIdx? fun (x : Class) => match x.kind with | .array component _ => component == comp | _ => false) = some c := by
    have e1 := va_idx_bare U.vm comp
    have e2 := va_idx_bare u.vm comp
    first | rw [hvm.bare_eq] at e2 | rw [← hvm.bare_eq] at e2
    exact e1.symm.trans (e2.trans h2)
  have hkind : k'.kind = .array comp (.array .int) := by rw [he]; exact h4
  have f1 : U.vm.findClass (FieldType.array .int).toString = some comp := by rw [hvm.findClass]; exact h1
  have f2 : U.vm.findClass ("[" ++ (FieldType.array .int).toString) = some c := by rw [hvm.findClass]; exact h5
  unfold tcAO Cond.before Cond.holds
  simp only [Cond.value]
  rw [f1, Option.bind_some]
  refine (congrArg (fun o : Option Nat => (o.bind (fun c => (U.vm.classes[c]?).map fun (k : Class) => match k.kind with | .array _ ty => decide (ty = FieldType.array .int) && decide (U.vm.findClass ("[" ++ (FieldType.array .int).toString) = some c) | _ => false) == some true)) hi).trans ?_
  simp [hk', hkind, f2]
/-- the words that a throw needs beside a method's own -/
def tcXw (U : State) : Prop := (∀ x ∈ tcDc, va_Nw (.declares x) U) ∧ (∀ E ∈ tcCs, va_Nw (.castable E E) U) ∧ tcAO U ∧ va_Nw (.methodLinkNest RL 79 yX1_init RL) U
theorem tcXw.warm {s U : State} (hW : s.WarmedH U.vm) (h : tcXw s) : tcXw U := ⟨fun x hx => va_Nw.warmD hW (h.1 x hx), fun x hx => va_Nw.warmC hW (h.2.1 x hx), h.2.2.1.moved hW.alike, va_Nw.warmM hW h.2.2.2⟩
theorem tcXw.same {s U : State} (hv : U.vm = s.vm) (h : tcXw s) : tcXw U := ⟨fun x hx => va_Nw.same rfl hv.symm (h.1 x hx), fun x hx => va_Nw.same rfl hv.symm (h.2.1 x hx), h.2.2.1.moved (by rw [hv]; exact Vm.Alike.refl _), va_Nw.same rfl hv.symm h.2.2.2⟩
def tcEx (N0 : Nat) (U : State) (H : Heap) : Prop := vx_Zq Bundle.tN "UNASSIGNED_STACK" Bundle.steD (tcA N0) U H ∧ vx_Zq Bundle.tN "SUPPRESSED_SENTINEL" Bundle.listD (tcA N0) U H ∧ (∀ q ∈ tcStr, ∃ sa : Nat, vk_R RX0 q.1 q.2 sa U) ∧ tcXw U
def tcTy (cI cJ : ClassId) : List (ClassId × FieldType) := [(cI, .int), (cJ, .array .int)]
def tcG (D : va_G) (cI cJ : ClassId) (N0 : Nat) (ws : va_W) (U : State) (H : Heap) : Prop := va_P D vwCl ws H ∧ va_K D vwCl (tcTy cI cJ) U ∧ va_D (tcA N0) ws ∧ N0 ≤ H.size ∧ tcEx N0 U H
def tc_P (As : List Value) (D : va_G) (cI cJ : ClassId) (N0 : Nat) (ws : va_W) : Array Value → State → Prop := fun a U => a = As.toArray ∧ tcG D cI cJ N0 ws U U.heap
def tc_Q (C : Prop) (v : Option Value) (D : va_G) (N0 : Nat) (ws : va_W) : Array Value → State → Outcome → State → Prop := fun _ st o t => C ∧ o = .returned v ∧ va_P D vwCl ws t.heap ∧ va_D (tcA N0) ws ∧ va_F (tcA N0) st t
def tc_X (es : List String) (cd : Nat) (D : va_G) (N0 : Nat) (ws : va_W) : String → State → State → Prop := fun E st t => (∃ i : Nat, es[i]? = some E ∧ cd = i + 1) ∧ va_P D vwCl ws t.heap ∧ va_F (tcA N0) st t
/-- THE CONTRACT of y with the arguments As, in the world ws: where cd = 0 it returns v, and the world is ws'; where cd = i + 1 it throws es[i], and the world is as before -/
def tcM (l : Launch) (y : MethodName) (wsY : List Cond) (rm : Room) (es : List String) (cd : Nat) (As : List Value) (D : va_G) (cI cJ : ClassId) (N0 : Nat) (ws : va_W) (v : Option Value) (ws' : va_W) (mc ms : Nat) : Prop := vx_Met l y wsY rm (tc_P As D cI cJ N0 ws) (tc_Q (cd = 0) v D N0 ws') (tc_X es cd D N0 ws) mc ms (tcA N0)
/-- what a body owes at its end -/
def tcE (below : List Frame) (es : List String) (cd : Nat) (D : va_G) (N0 : Nat) (ws : va_W) (v : Option Value) (ws' : va_W) (args : Array Value) (s : State) (mc ms : Nat) : State → Prop := vx_MQ below (tc_Q (cd = 0) v D N0 ws') (tc_X es cd D N0 ws) args s mc ms (tcA N0)
theorem tcEx.warm {N0 : Nat} {s U : State} {H : Heap} (hW : s.WarmedH U.vm) (h : tcEx N0 s H) : tcEx N0 U H := ⟨vx_Zq.moved hW.alike h.1, vx_Zq.moved hW.alike h.2.1, fun q hq => (h.2.2.1 q hq).imp fun _ z => vk_R.warm hW z, h.2.2.2.warm hW⟩
theorem tcG.warm {D : va_G} {cI cJ : ClassId} {N0 : Nat} {ws : va_W} {s U : State} {H : Heap} (hW : s.WarmedH U.vm) (h : tcG D cI cJ N0 ws s H) : tcG D cI cJ N0 ws U H := ⟨h.1, va_K.moved hW.alike h.2.1, h.2.2.1, h.2.2.2.1, h.2.2.2.2.warm hW⟩
theorem tcG.same {D : va_G} {cI cJ : ClassId} {N0 : Nat} {ws : va_W} {s U : State} {H : Heap} (hv : U.vm = s.vm) (h : tcG D cI cJ N0 ws s H) : tcG D cI cJ N0 ws U H := by
  have ha : s.vm.Alike U.vm := by rw [hv]; exact Vm.Alike.refl _
  exact ⟨h.1, va_K.moved ha h.2.1, h.2.2.1, h.2.2.2.1, vx_Zq.moved ha h.2.2.2.2.1, vx_Zq.moved ha h.2.2.2.2.2.1, fun q hq => (h.2.2.2.2.2.2.1 q hq).imp fun _ z => vk_R.same hv z, h.2.2.2.2.2.2.2.same hv⟩
theorem tcG.next {D : va_G} {cI cJ : ClassId} {N0 : Nat} {ws ws' : va_W} {s : State} {H H1 : Heap} (h : tcG D cI cJ N0 ws s H) (hP : va_P D vwCl ws' H1) (hD : va_D (tcA N0) ws') (hz : H.size ≤ H1.size) (hk : ∀ q : Nat, q < H.size → ¬ tcA N0 q → H1[q]? = H[q]?) : tcG D cI cJ N0 ws' s H1 :=
  ⟨hP, h.2.1, hD, Nat.le_trans h.2.2.2.1 hz, vx_Zq.kept h.2.2.2.2.1 hk, vx_Zq.kept h.2.2.2.2.2.1 hk, h.2.2.2.2.2.2⟩
theorem tcG.eq {D : va_G} {cI cJ : ClassId} {N0 : Nat} {ws ws' : va_W} {s : State} {H : Heap} (e : ws = ws') (h : tcG D cI cJ N0 ws s H) : tcG D cI cJ N0 ws' s H := e ▸ h
theorem tcG.sub {D : va_G} {cI cJ : ClassId} {N0 : Nat} {ws ws' : va_W} {s : State} {H : Heap} (h : tcG D cI cJ N0 ws s H) (is : List Nat) (hn : va_nd is = true) (e1 : is.filterMap (fun i => ws[i]?) = ws') (e2 : is.map (fun i => ws[i]?) = ws'.map some) : tcG D cI cJ N0 ws' s H := ⟨h.1.sub is e1, h.2.1, h.2.2.1.sub is hn e2, h.2.2.2.1, h.2.2.2.2⟩
theorem tc_blind {As : List Value} {D : va_G} {cI cJ : ClassId} {N0 : Nat} {ws : va_W} : FrameBlind (tc_P As D cI cJ N0 ws) := fun _ U _ _ h => ⟨h.1, h.2.same (U := _) rfl⟩
theorem tc_pre {As : List Value} {D : va_G} {cI cJ : ClassId} {N0 : Nat} {ws : va_W} {s U : State} {H : Heap} (hG : tcG D cI cJ N0 ws s H) (hU : U.heap = H) (hW : s.WarmedH U.vm) : tc_P As D cI cJ N0 ws As.toArray U := ⟨rfl, by rw [hU]; exact hG.warm hW⟩
section TCF
variable {p : Program} {l : Launch} {e : Env} {R : Room} {s : State} {m : MethodId} {args : Array Value} {below : List Frame} {meth : Method} {c : Code} {H : Heap} {locs : List Loc} {cells slots : Nat} {Q : State → Prop}
variable {cc : ByteArray} {pc : Nat} {ls : Array Slot} {rest st0 : List Value} {D : va_G} {cI cJ : ClassId} {N0 : Nat} {ws ws' : va_W} {es : List String} {cd mc ms nL : Nat} {v : Option Value} {As : List Value} {own : String} {Ts : List Cond}
/-- from the walk of the body to the contract -/
theorem tcM.of {y : MethodName} {wsY ws0 : List Cond} {rm : Room} {maxL : Nat} {ret : Option FieldType} (hy : plainName y.cls = true) (hw : wsY = Cond.code y cc maxL ret :: ws0) (hlen : (lg_sl As).length ≤ maxL)
    (body : ∀ (p : Program) (e : Env) (s : State) (m : MethodId) (args : Array Value) (below : List Frame) (meth : Method) (c : Code), CallFix p m c cc maxL s args wsY y.cls → meth.sig.returnType = ret → meth.locks = false → (∀ x ∈ c.exceptionTable.toList, False) → meth.name = y.name → tcG D cI cJ N0 ws s s.heap →
      ∀ ls : Array Slot, lv_has ls maxL (lv_args 0 As) → W p l e rm s m args below meth c s.heap [] 0 0 (tcE below es cd D N0 ws v ws' args s mc ms) (F0 m 0 ls [])) : tcM l y wsY rm es cd As D cI cJ N0 ws v ws' mc ms := by
  refine vx_ofW (cc := cc) (maxL := maxL) (ret := ret) hy hw ?_
  intro p e s m args below meth c s₁ B hml ht hv
  obtain ⟨rfl, hG⟩ := hv
  have hts := atoms_spec (ws := wsY) B.pre
  have hown : s.vm.findClass y.cls = some m.cls := findClass_of_methodNamed B.named
  rw [lg_entry_eq]
  exact body p e s m _ below meth c ⟨B.exec, B.bytes, hml, hown, hts⟩ B.returns B.notSynchronized ht (name_of_methodNamed B.named B.method).1 hG _ (lv_entry As hlen)
theorem tc_keepG {st₀ t T' : State} {L : List Loc} (h0 : st₀.heap = H) (e1 : T'.heap = t.heap) (hG : tcG D cI cJ N0 ws s H) (hS : va_S (tcA N0) s.heap H locs) (hL : ∀ q ∈ L, tcA N0 q.base) (hF : va_F (tcA N0) st₀ t) (hP : va_P D vwCl ws' t.heap) (hD : va_D (tcA N0) ws') : tcG D cI cJ N0 ws' s T'.heap ∧ va_S (tcA N0) s.heap T'.heap (locs ++ L) := by
  obtain ⟨k1, k2, k3⟩ := vx_keep h0 e1 hS (fun _ _ z => z) (fun _ z => z) hL hF
  exact ⟨hG.next (by rw [e1]; exact hP) hD k1 k2, k3⟩
theorem tc_run (hr : vx_Run p l e R s m args below meth c H locs cells slots mc ms (F0 m pc ls st0) rest (tc_Q (cd = 0) v D N0 ws' As.toArray) (tc_X es cd D N0 ws) (tcA N0)) (hG : tcG D cI cJ N0 ws s H) (hS : va_S (tcA N0) s.heap H locs)
    (kx : ∀ (i : Nat) (E : String) (q9 : Addr) (ce : Cell) (H1 : Heap) (locs1 : List Loc), es[i]? = some E → cd = i + 1 → tcG D cI cJ N0 ws s H1 → va_S (tcA N0) s.heap H1 locs1 → H1[q9]? = some ce → ce.vm = .none → s.vm.findClass E = some ce.cls → vx_W p l e R s m args below meth c H1 locs1 (cells + mc) (slots + ms) Q (F0 m pc ls rest) q9)
    (kk : cd = 0 → ∀ (H1 : Heap) (locs1 : List Loc), tcG D cI cJ N0 ws' s H1 → va_S (tcA N0) s.heap H1 locs1 → W p l e R s m args below meth c H1 locs1 (cells + mc) (slots + ms) Q (F0 m (pc + 3) ls (v.toList ++ rest))) : W p l e R s m args below meth c H locs cells slots Q (F0 m pc ls st0) := by
  intro T hT X
  rcases hr T hT X with ⟨v1, st₀, t, T', L, h0, X', hL, e1, e2, ⟨hC, hv, hP, hD, hF⟩, st⟩ | ⟨q, st₀, t, T', L, E, ce, h0, X', hL, e1, e2, ⟨⟨i, hi, hcd⟩, hP, hF⟩, hce, hcv, hcl, st⟩
  · cases hv
    obtain ⟨k1, k2⟩ := tc_keepG h0 e1 hG hS hL hF hP hD
    obtain ⟨t2, a1, b1⟩ := kk hC T'.heap (locs ++ L) k1 k2 T' rfl X'
    exact ⟨t2, st t2 a1, b1⟩
  · obtain ⟨k1, k2⟩ := tc_keepG h0 e1 hG hS hL hF hP hG.2.2.1
    obtain ⟨t2, a1, b1⟩ := kx i E q ce T'.heap (locs ++ L) hi hcd k1 k2 (by rw [e1]; exact hce) hcv hcl T' rfl X'
    exact ⟨t2, st.trans a1, b1⟩
theorem tc_cat {st : List Value} (h : (st.map fun v => v.category).sum ≤ 8) : 2 * (F0 m pc ls st0).monitorRoom + (st.map fun v => v.category).sum ≤ 8 := lv_room h
/-- a call of an instance's method -/
theorem tc_callVx {C : String} {T : u_T} {N ci q0 b index maxL n : Nat} {fs : List Value} {y : MethodName} {bytes : ByteArray} {ret : Option FieldType} {wsY : List Cond} {rm : Room} {lv : List (Nat × Value)}
    (C0 : CallFix p m c cc nL s args Ts own) (hG : tcG D cI cJ N0 ws s H) (hS : va_S (tcA N0) s.heap H locs) (he : ws[q0]? = some (b, .inr (ci, fs))) (hc : vwCl[ci]? = some (C, T, N)) (hM : tcM l y wsY rm es cd (.ref b :: As) D cI cJ N0 ws v ws' mc ms) (cw : CallW R s args own C index y bytes maxL ret wsY rm mc ms n) (hn : As.length = n) (hl : lv_has ls nL lv) (hst : st0 = As.reverse ++ .ref b :: rest) (hcat : (rest.map fun v => v.category).sum ≤ 8) (hdg : decode cc pc = .ok (.invokevirtual index, 3)) (hf : cells + mc ≤ R.cells ∧ slots + ms ≤ R.slots)
    (kx : ∀ (i : Nat) (E : String) (q9 : Addr) (ce : Cell) (H1 : Heap) (locs1 : List Loc), es[i]? = some E → cd = i + 1 → tcG D cI cJ N0 ws s H1 → va_S (tcA N0) s.heap H1 locs1 → H1[q9]? = some ce → ce.vm = .none → s.vm.findClass E = some ce.cls → vx_W p l e R s m args below meth c H1 locs1 (cells + mc) (slots + ms) Q (F0 m pc ls rest) q9)
    (kk : cd = 0 → ∀ (H1 : Heap) (locs1 : List Loc), tcG D cI cJ N0 ws' s H1 → va_S (tcA N0) s.heap H1 locs1 → W p l e R s m args below meth c H1 locs1 (cells + mc) (slots + ms) Q (F0 m (pc + 3) ls (v.toList ++ rest))) : W p l e R s m args below meth c H locs cells slots Q (F0 m pc ls st0) := by
  subst hst
  exact tc_run (vx_runV (As := As) (rest := rest) (g := F0 m pc ls (As.reverse ++ .ref b :: rest)) C0 hM cw ⟨tc_blind, va_recv (q := (C, T, N)) hG.2.1 hG.1 hc he, fun U hU hW => tc_pre hG hU hW⟩ rfl hn hl.1 rfl (tc_cat hcat) hdg hf) hG hS kx kk
/-- a call of a static method -/
theorem tc_callSx {index maxL n : Nat} {y : MethodName} {bytes : ByteArray} {ret : Option FieldType} {wsY : List Cond} {rm : Room} {lv : List (Nat × Value)}
    (C0 : CallFix p m c cc nL s args Ts own) (hG : tcG D cI cJ N0 ws s H) (hS : va_S (tcA N0) s.heap H locs) (hM : tcM l y wsY rm es cd As D cI cJ N0 ws v ws' mc ms) (cw : CallB R s args own index y bytes maxL ret wsY rm mc ms n ∧ (Cond.static y).before args s = true) (hn : As.length = n) (hl : lv_has ls nL lv) (hst : st0 = As.reverse ++ rest) (hcat : (rest.map fun v => v.category).sum ≤ 8) (hdg : decode cc pc = .ok (.invokestatic index, 3)) (hf : cells + mc ≤ R.cells ∧ slots + ms ≤ R.slots)
    (kx : ∀ (i : Nat) (E : String) (q9 : Addr) (ce : Cell) (H1 : Heap) (locs1 : List Loc), es[i]? = some E → cd = i + 1 → tcG D cI cJ N0 ws s H1 → va_S (tcA N0) s.heap H1 locs1 → H1[q9]? = some ce → ce.vm = .none → s.vm.findClass E = some ce.cls → vx_W p l e R s m args below meth c H1 locs1 (cells + mc) (slots + ms) Q (F0 m pc ls rest) q9)
    (kk : cd = 0 → ∀ (H1 : Heap) (locs1 : List Loc), tcG D cI cJ N0 ws' s H1 → va_S (tcA N0) s.heap H1 locs1 → W p l e R s m args below meth c H1 locs1 (cells + mc) (slots + ms) Q (F0 m (pc + 3) ls (v.toList ++ rest))) : W p l e R s m args below meth c H locs cells slots Q (F0 m pc ls st0) := by
  subst hst
  exact tc_run (vx_runS (As := As) (rest := rest) (g := F0 m pc ls (As.reverse ++ rest)) C0 hM cw ⟨tc_blind, fun U hU hW => tc_pre hG hU hW⟩ rfl hn hl.1 rfl (tc_cat hcat) hdg hf) hG hS kx kk
/-- .. that doesn't throw -/
theorem tc_callV {C : String} {T : u_T} {N ci q0 b index maxL n : Nat} {fs : List Value} {y : MethodName} {bytes : ByteArray} {ret : Option FieldType} {wsY : List Cond} {rm : Room} {lv : List (Nat × Value)} {r : Value}
    (C0 : CallFix p m c cc nL s args Ts own) (hG : tcG D cI cJ N0 ws s H) (hS : va_S (tcA N0) s.heap H locs) (he : ws[q0]? = some (b, .inr (ci, fs))) (hc : vwCl[ci]? = some (C, T, N)) (hM : tcM l y wsY rm [] 0 (.ref b :: As) D cI cJ N0 ws (some r) ws' mc ms) (cw : CallW R s args own C index y bytes maxL ret wsY rm mc ms n) (hn : As.length = n) (hl : lv_has ls nL lv) (hst : st0 = As.reverse ++ .ref b :: rest) (hcat : (rest.map fun v => v.category).sum ≤ 8) (hdg : decode cc pc = .ok (.invokevirtual index, 3)) (hf : cells + mc ≤ R.cells ∧ slots + ms ≤ R.slots)
    (kk : ∀ (H1 : Heap) (locs1 : List Loc), tcG D cI cJ N0 ws' s H1 → va_S (tcA N0) s.heap H1 locs1 → W p l e R s m args below meth c H1 locs1 (cells + mc) (slots + ms) Q (F0 m (pc + 3) ls (r :: rest))) : W p l e R s m args below meth c H locs cells slots Q (F0 m pc ls st0) :=
  tc_callVx C0 hG hS he hc hM cw hn hl hst hcat hdg hf (fun i E q9 ce H1 locs1 h => by cases h) (fun _ => kk)
theorem tc_callVv {C : String} {T : u_T} {N ci q0 b index maxL n : Nat} {fs : List Value} {y : MethodName} {bytes : ByteArray} {ret : Option FieldType} {wsY : List Cond} {rm : Room} {lv : List (Nat × Value)}
    (C0 : CallFix p m c cc nL s args Ts own) (hG : tcG D cI cJ N0 ws s H) (hS : va_S (tcA N0) s.heap H locs) (he : ws[q0]? = some (b, .inr (ci, fs))) (hc : vwCl[ci]? = some (C, T, N)) (hM : tcM l y wsY rm [] 0 (.ref b :: As) D cI cJ N0 ws none ws' mc ms) (cw : CallW R s args own C index y bytes maxL ret wsY rm mc ms n) (hn : As.length = n) (hl : lv_has ls nL lv) (hst : st0 = As.reverse ++ .ref b :: rest) (hcat : (rest.map fun v => v.category).sum ≤ 8) (hdg : decode cc pc = .ok (.invokevirtual index, 3)) (hf : cells + mc ≤ R.cells ∧ slots + ms ≤ R.slots)
    (kk : ∀ (H1 : Heap) (locs1 : List Loc), tcG D cI cJ N0 ws' s H1 → va_S (tcA N0) s.heap H1 locs1 → W p l e R s m args below meth c H1 locs1 (cells + mc) (slots + ms) Q (F0 m (pc + 3) ls rest)) : W p l e R s m args below meth c H locs cells slots Q (F0 m pc ls st0) :=
  tc_callVx C0 hG hS he hc hM cw hn hl hst hcat hdg hf (fun i E q9 ce H1 locs1 h => by cases h) (fun _ => kk)
theorem tc_callS {index maxL n : Nat} {y : MethodName} {bytes : ByteArray} {ret : Option FieldType} {wsY : List Cond} {rm : Room} {lv : List (Nat × Value)} {r : Value}
    (C0 : CallFix p m c cc nL s args Ts own) (hG : tcG D cI cJ N0 ws s H) (hS : va_S (tcA N0) s.heap H locs) (hM : tcM l y wsY rm [] 0 As D cI cJ N0 ws (some r) ws' mc ms) (cw : CallB R s args own index y bytes maxL ret wsY rm mc ms n ∧ (Cond.static y).before args s = true) (hn : As.length = n) (hl : lv_has ls nL lv) (hst : st0 = As.reverse ++ rest) (hcat : (rest.map fun v => v.category).sum ≤ 8) (hdg : decode cc pc = .ok (.invokestatic index, 3)) (hf : cells + mc ≤ R.cells ∧ slots + ms ≤ R.slots)
    (kk : ∀ (H1 : Heap) (locs1 : List Loc), tcG D cI cJ N0 ws' s H1 → va_S (tcA N0) s.heap H1 locs1 → W p l e R s m args below meth c H1 locs1 (cells + mc) (slots + ms) Q (F0 m (pc + 3) ls (r :: rest))) : W p l e R s m args below meth c H locs cells slots Q (F0 m pc ls st0) :=
  tc_callSx C0 hG hS hM cw hn hl hst hcat hdg hf (fun i E q9 ce H1 locs1 h => by cases h) (fun _ => kk)
theorem tc_callSv {index maxL n : Nat} {y : MethodName} {bytes : ByteArray} {ret : Option FieldType} {wsY : List Cond} {rm : Room} {lv : List (Nat × Value)}
    (C0 : CallFix p m c cc nL s args Ts own) (hG : tcG D cI cJ N0 ws s H) (hS : va_S (tcA N0) s.heap H locs) (hM : tcM l y wsY rm [] 0 As D cI cJ N0 ws none ws' mc ms) (cw : CallB R s args own index y bytes maxL ret wsY rm mc ms n ∧ (Cond.static y).before args s = true) (hn : As.length = n) (hl : lv_has ls nL lv) (hst : st0 = As.reverse ++ rest) (hcat : (rest.map fun v => v.category).sum ≤ 8) (hdg : decode cc pc = .ok (.invokestatic index, 3)) (hf : cells + mc ≤ R.cells ∧ slots + ms ≤ R.slots)
    (kk : ∀ (H1 : Heap) (locs1 : List Loc), tcG D cI cJ N0 ws' s H1 → va_S (tcA N0) s.heap H1 locs1 → W p l e R s m args below meth c H1 locs1 (cells + mc) (slots + ms) Q (F0 m (pc + 3) ls rest)) : W p l e R s m args below meth c H locs cells slots Q (F0 m pc ls st0) :=
  tc_callSx C0 hG hS hM cw hn hl hst hcat hdg hf (fun i E q9 ce H1 locs1 h => by cases h) (fun _ => kk)
/-- not caught here -/
theorem tc_out {i : Nat} {E : String} {q9 : Addr} {ce : Cell} (ht : ∀ x ∈ c.exceptionTable.toList, False) (hlk : meth.locks = false) (hG : tcG D cI cJ N0 ws s H) (hS : va_S (tcA N0) s.heap H locs) (hce : H[q9]? = some ce) (hcv : ce.vm = .none) (hcl : s.vm.findClass E = some ce.cls) (hi : es[i]? = some E) (hcd : cd = i + 1) (hc : cells ≤ mc) (hs : slots ≤ ms) : vx_W p l e R s m args below meth c H locs cells slots (tcE below es cd D N0 ws v ws' args s mc ms) (F0 m pc ls rest) q9 :=
  vx_out (fun x hx => (ht x hx).elim) hlk hce hcv hcl (fun t h1 _ => ⟨⟨i, hi, hcd⟩, by rw [h1]; exact hG.1, hS.F h1⟩) hS.2.2 hc hs
end TCF
