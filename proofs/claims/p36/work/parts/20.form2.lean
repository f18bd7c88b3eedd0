/-! contracts by predicates, permuted worlds, the Sim in sync with the town -/
/-- a contract that returns some v in some world ws' with P v ws' -/
def tc_Qe (P : Option Value → va_W → Prop) (D : va_G) (N0 : Nat) : Array Value → State → Outcome → State → Prop := fun _ st o t => ∃ (v : Option Value) (ws' : va_W), o = .returned v ∧ P v ws' ∧ va_P D vwCl ws' t.heap ∧ va_D (tcA N0) ws' ∧ va_F (tcA N0) st t
def tcNo : String → State → State → Prop := fun _ _ _ => False
def tcMe (l : Launch) (y : MethodName) (wsY : List Cond) (rm : Room) (As : List Value) (D : va_G) (cI cJ : ClassId) (N0 : Nat) (ws : va_W) (P : Option Value → va_W → Prop) (mc ms : Nat) : Prop := vx_Met l y wsY rm (tc_P As D cI cJ N0 ws) (tc_Qe P D N0) tcNo mc ms (tcA N0)
def tcEe (below : List Frame) (P : Option Value → va_W → Prop) (D : va_G) (N0 : Nat) (args : Array Value) (s : State) (mc ms : Nat) : State → Prop := vx_MQ below (tc_Qe P D N0) tcNo args s mc ms (tcA N0)
/-- .. that takes the script too -/
def tc_Ps (b L : Nat) (xs : Nat → Int32) (As : List Value) (D : va_G) (cI cJ : ClassId) (N0 : Nat) (ws : va_W) : Array Value → State → Prop := fun a U => tc_P As D cI cJ N0 ws a U ∧ b < N0 ∧ va_X b L xs U U.heap
def tcMs (l : Launch) (y : MethodName) (wsY : List Cond) (rm : Room) (b L : Nat) (xs : Nat → Int32) (As : List Value) (D : va_G) (cI cJ : ClassId) (N0 : Nat) (ws : va_W) (P : Option Value → va_W → Prop) (mc ms : Nat) : Prop := vx_Met l y wsY rm (tc_Ps b L xs As D cI cJ N0 ws) (tc_Qe P D N0) tcNo mc ms (tcA N0)
theorem va_D.iff {A : Nat → Prop} {ws : va_W} : va_D A ws ↔ (ws.map Prod.fst).Nodup ∧ ∀ x ∈ ws, A x.1 := by
  constructor
  · intro h
    refine ⟨?_, fun x hx => ?_⟩
    · rw [List.nodup_iff_pairwise_ne, List.pairwise_iff_getElem]
      intro i j hi hj hij he
      have hi' : i < ws.length := by simpa using hi
      have hj' : j < ws.length := by simpa using hj
      have := h.1 i j ws[i] ws[j] (List.getElem?_eq_getElem hi') (List.getElem?_eq_getElem hj') (by simpa using he)
      omega
    · obtain ⟨k, hk, e⟩ := List.mem_iff_getElem.mp hx
      exact h.2 k x (by rw [List.getElem?_eq_getElem hk, e])
  · intro h
    refine ⟨fun i j p q hp hq he => ?_, fun k q hq => h.2 q (List.mem_of_getElem? hq)⟩
    obtain ⟨hi, ep⟩ := List.getElem?_eq_some_iff.mp hp
    obtain ⟨hj, eq⟩ := List.getElem?_eq_some_iff.mp hq
    have hn := h.1
    rw [List.nodup_iff_pairwise_ne, List.pairwise_iff_getElem] at hn
    rcases Nat.lt_trichotomy i j with hlt | heq | hgt
    · exact (hn i j (by simpa using hi) (by simpa using hj) hlt (by simp [ep, eq, he])).elim
    · exact heq
    · exact (hn j i (by simpa using hj) (by simpa using hi) hgt (by simp [ep, eq, he])).elim
theorem tcG.perm {D : va_G} {cI cJ : ClassId} {N0 : Nat} {ws ws' w2 : va_W} {s : State} {H : Heap} (h : tcG D cI cJ N0 ws s H) (hp : ws'.Perm w2) (hs : w2.Sublist ws) : tcG D cI cJ N0 ws' s H := by
  have hm : ∀ x ∈ ws', x ∈ ws := fun x hx => hs.subset (hp.subset hx)
  refine ⟨fun k q hq => ?_, h.2.1, ?_, h.2.2.2.1, h.2.2.2.2⟩
  · obtain ⟨j, hj, e⟩ := List.mem_iff_getElem.mp (hm q (List.mem_of_getElem? hq))
    exact h.1 j q (by rw [List.getElem?_eq_getElem hj, e])
  · have hd := va_D.iff.mp h.2.2.1
    refine va_D.iff.mpr ⟨?_, fun x hx => hd.2 x (hm x hx)⟩
    exact (hp.map Prod.fst).nodup_iff.mpr ((hs.map Prod.fst).nodup hd.1)
section TCE
variable {p : Program} {l : Launch} {e : Env} {R : Room} {s : State} {m : MethodId} {args : Array Value} {below : List Frame} {meth : Method} {c : Code} {H : Heap} {locs : List Loc} {cells slots : Nat} {Q : State → Prop}
variable {cc : ByteArray} {pc : Nat} {ls : Array Slot} {rest st0 : List Value} {D : va_G} {cI cJ : ClassId} {N0 : Nat} {ws ws' : va_W} {mc ms nL : Nat} {P : Option Value → va_W → Prop} {As : List Value} {own : String} {Ts : List Cond}
variable {Qc : Array Value → State → Outcome → State → Prop} {XC : String → State → State → Prop}
theorem tcg_of {y : MethodName} {wsY ws0 : List Cond} {rm : Room} {maxL : Nat} {ret : Option FieldType} (hy : plainName y.cls = true) (hw : wsY = Cond.code y cc maxL ret :: ws0) (hlen : (lg_sl As).length ≤ maxL)
    (body : ∀ (p : Program) (e : Env) (s : State) (m : MethodId) (args : Array Value) (below : List Frame) (meth : Method) (c : Code), CallFix p m c cc maxL s args wsY y.cls → meth.sig.returnType = ret → meth.locks = false → meth.name = y.name → tcG D cI cJ N0 ws s s.heap →
      ∀ ls : Array Slot, lv_has ls maxL (lv_args 0 As) → W p l e rm s m args below meth c s.heap [] 0 0 (vx_MQ below Qc XC args s mc ms (tcA N0)) (F0 m 0 ls [])) : vx_Met l y wsY rm (tc_P As D cI cJ N0 ws) Qc XC mc ms (tcA N0) := by
  refine vx_ofW (cc := cc) (maxL := maxL) (ret := ret) hy hw ?_
  intro p e s m args below meth c s₁ B hml ht hv
  obtain ⟨rfl, hG⟩ := hv
  have hts := atoms_spec (ws := wsY) B.pre
  have hown : s.vm.findClass y.cls = some m.cls := findClass_of_methodNamed B.named
  rw [lg_entry_eq]
  exact body p e s m _ below meth c ⟨B.exec, B.bytes, hml, hown, hts⟩ B.returns B.notSynchronized (name_of_methodNamed B.named B.method).1 hG _ (lv_entry As hlen)
theorem tcs_of {b L : Nat} {xs : Nat → Int32} {y : MethodName} {wsY ws0 : List Cond} {rm : Room} {maxL : Nat} {ret : Option FieldType} (hy : plainName y.cls = true) (hw : wsY = Cond.code y cc maxL ret :: ws0) (hlen : (lg_sl As).length ≤ maxL)
    (body : ∀ (p : Program) (e : Env) (s : State) (m : MethodId) (args : Array Value) (below : List Frame) (meth : Method) (c : Code), CallFix p m c cc maxL s args wsY y.cls → meth.sig.returnType = ret → meth.locks = false → b < N0 → va_X b L xs s s.heap → tcG D cI cJ N0 ws s s.heap →
      ∀ ls : Array Slot, lv_has ls maxL (lv_args 0 As) → W p l e rm s m args below meth c s.heap [] 0 0 (vx_MQ below Qc XC args s mc ms (tcA N0)) (F0 m 0 ls [])) : vx_Met l y wsY rm (tc_Ps b L xs As D cI cJ N0 ws) Qc XC mc ms (tcA N0) := by
  refine vx_ofW (cc := cc) (maxL := maxL) (ret := ret) hy hw ?_
  intro p e s m args below meth c s₁ B hml ht hv
  obtain ⟨⟨rfl, hG⟩, hb, hX⟩ := hv
  have hts := atoms_spec (ws := wsY) B.pre
  have hown : s.vm.findClass y.cls = some m.cls := findClass_of_methodNamed B.named
  rw [lg_entry_eq]
  exact body p e s m _ below meth c ⟨B.exec, B.bytes, hml, hown, hts⟩ B.returns B.notSynchronized hb hX hG _ (lv_entry As hlen)
theorem tcg_ofH {y : MethodName} {wsY ws9 : List Cond} {rm : Room} {maxL : Nat} {ret : Option FieldType} {hh : List (Nat × Nat × Nat × Nat)} (hy : plainName y.cls = true) (hw : wsY = Cond.codeWith y cc maxL ret hh :: ws9) (hlen : (lg_sl As).length ≤ maxL)
    (body : ∀ (p : Program) (e : Env) (s : State) (m : MethodId) (args : Array Value) (below : List Frame) (meth : Method) (c : Code), CallFix p m c cc maxL s args wsY y.cls → meth.sig.returnType = ret → meth.locks = false → c.exceptionTable.toList = tableOf hh → tcG D cI cJ N0 ws s s.heap →
      ∀ ls : Array Slot, lv_has ls maxL (lv_args 0 As) → W p l e rm s m args below meth c s.heap [] 0 0 (vx_MQ below Qc XC args s mc ms (tcA N0)) (F0 m 0 ls [])) : vx_Met l y wsY rm (tc_P As D cI cJ N0 ws) Qc XC mc ms (tcA N0) := by
  refine vx_ofWH (cc := cc) (maxL := maxL) (ret := ret) (hh := hh) hy hw ?_
  intro p e s m args below meth c s₁ B hml hv
  obtain ⟨rfl, hG⟩ := hv
  have hts := atoms_spec (ws := wsY) B.pre
  have hown : s.vm.findClass y.cls = some m.cls := findClass_of_methodNamed B.named
  have htb : c.exceptionTable.toList = tableOf hh := vx_table (x := y) B (hts _ (by rw [hw]; exact List.mem_cons_self))
  rw [lg_entry_eq]
  exact body p e s m _ below meth c ⟨B.exec, B.bytes, hml, hown, hts⟩ B.returns B.notSynchronized htb hG _ (lv_entry As hlen)
theorem tce_run {As' : Array Value} (hr : vx_Run p l e R s m args below meth c H locs cells slots mc ms (F0 m pc ls st0) rest (tc_Qe P D N0 As') (tcNo) (tcA N0)) (hG : tcG D cI cJ N0 ws s H) (hS : va_S (tcA N0) s.heap H locs)
    (kk : ∀ (v : Option Value) (ws' : va_W) (H1 : Heap) (locs1 : List Loc), P v ws' → tcG D cI cJ N0 ws' s H1 → va_S (tcA N0) s.heap H1 locs1 → W p l e R s m args below meth c H1 locs1 (cells + mc) (slots + ms) Q (F0 m (pc + 3) ls (v.toList ++ rest))) : W p l e R s m args below meth c H locs cells slots Q (F0 m pc ls st0) := by
  intro T hT X
  rcases hr T hT X with ⟨v1, st₀, t, T', L, h0, X', hL, e1, e2, ⟨v, ws', hv, hp, hP, hD, hF⟩, st⟩ | ⟨q, st₀, t, T', L, E, ce, h0, X', hL, e1, e2, hx, hce, hcv, hcl, st⟩
  · cases hv
    obtain ⟨k1, k2⟩ := tc_keepG h0 e1 hG hS hL hF hP hD
    obtain ⟨t2, a1, b1⟩ := kk _ ws' T'.heap (locs ++ L) hp k1 k2 T' rfl X'
    exact ⟨t2, st t2 a1, b1⟩
  · exact hx.elim
theorem tce_callV {C : String} {T : u_T} {N ci q0 b index maxL n : Nat} {fs : List Value} {y : MethodName} {bytes : ByteArray} {ret : Option FieldType} {wsY : List Cond} {rm : Room} {lv : List (Nat × Value)}
    (C0 : CallFix p m c cc nL s args Ts own) (hG : tcG D cI cJ N0 ws s H) (hS : va_S (tcA N0) s.heap H locs) (he : ws[q0]? = some (b, .inr (ci, fs))) (hc : vwCl[ci]? = some (C, T, N)) (hM : tcMe l y wsY rm (.ref b :: As) D cI cJ N0 ws P mc ms) (cw : CallW R s args own C index y bytes maxL ret wsY rm mc ms n) (hn : As.length = n) (hl : lv_has ls nL lv) (hst : st0 = As.reverse ++ .ref b :: rest) (hcat : (rest.map fun v => v.category).sum ≤ 8) (hdg : decode cc pc = .ok (.invokevirtual index, 3)) (hf : cells + mc ≤ R.cells ∧ slots + ms ≤ R.slots)
    (kk : ∀ (v : Option Value) (ws' : va_W) (H1 : Heap) (locs1 : List Loc), P v ws' → tcG D cI cJ N0 ws' s H1 → va_S (tcA N0) s.heap H1 locs1 → W p l e R s m args below meth c H1 locs1 (cells + mc) (slots + ms) Q (F0 m (pc + 3) ls (v.toList ++ rest))) : W p l e R s m args below meth c H locs cells slots Q (F0 m pc ls st0) := by
  subst hst
  exact tce_run (vx_runV (As := As) (rest := rest) (g := F0 m pc ls (As.reverse ++ .ref b :: rest)) C0 hM cw ⟨tc_blind, va_recv (q := (C, T, N)) hG.2.1 hG.1 hc he, fun U hU hW => tc_pre hG hU hW⟩ rfl hn hl.1 rfl (tc_cat hcat) hdg hf) hG hS kk
theorem tce_callS {index maxL n : Nat} {y : MethodName} {bytes : ByteArray} {ret : Option FieldType} {wsY : List Cond} {rm : Room} {lv : List (Nat × Value)}
    (C0 : CallFix p m c cc nL s args Ts own) (hG : tcG D cI cJ N0 ws s H) (hS : va_S (tcA N0) s.heap H locs) (hM : tcMe l y wsY rm As D cI cJ N0 ws P mc ms) (cw : CallB R s args own index y bytes maxL ret wsY rm mc ms n ∧ (Cond.static y).before args s = true) (hn : As.length = n) (hl : lv_has ls nL lv) (hst : st0 = As.reverse ++ rest) (hcat : (rest.map fun v => v.category).sum ≤ 8) (hdg : decode cc pc = .ok (.invokestatic index, 3)) (hf : cells + mc ≤ R.cells ∧ slots + ms ≤ R.slots)
    (kk : ∀ (v : Option Value) (ws' : va_W) (H1 : Heap) (locs1 : List Loc), P v ws' → tcG D cI cJ N0 ws' s H1 → va_S (tcA N0) s.heap H1 locs1 → W p l e R s m args below meth c H1 locs1 (cells + mc) (slots + ms) Q (F0 m (pc + 3) ls (v.toList ++ rest))) : W p l e R s m args below meth c H locs cells slots Q (F0 m pc ls st0) := by
  subst hst
  exact tce_run (vx_runS (As := As) (rest := rest) (g := F0 m pc ls (As.reverse ++ rest)) C0 hM cw ⟨tc_blind, fun U hU hW => tc_pre hG hU hW⟩ rfl hn hl.1 rfl (tc_cat hcat) hdg hf) hG hS kk
theorem tce_callSW {index maxL n : Nat} {y : MethodName} {bytes : ByteArray} {ret : Option FieldType} {hh : List (Nat × Nat × Nat × Nat)} {wsY : List Cond} {rm : Room} {lv : List (Nat × Value)}
    (C0 : CallFix p m c cc nL s args Ts own) (hG : tcG D cI cJ N0 ws s H) (hS : va_S (tcA N0) s.heap H locs) (hM : tcMe l y wsY rm As D cI cJ N0 ws P mc ms) (cw : vx_CSW R s args own index y bytes maxL ret hh wsY rm mc ms n) (hn : As.length = n) (hl : lv_has ls nL lv) (hst : st0 = As.reverse ++ rest) (hcat : (rest.map fun v => v.category).sum ≤ 8) (hdg : decode cc pc = .ok (.invokestatic index, 3)) (hf : cells + mc ≤ R.cells ∧ slots + ms ≤ R.slots)
    (kk : ∀ (v : Option Value) (ws' : va_W) (H1 : Heap) (locs1 : List Loc), P v ws' → tcG D cI cJ N0 ws' s H1 → va_S (tcA N0) s.heap H1 locs1 → W p l e R s m args below meth c H1 locs1 (cells + mc) (slots + ms) Q (F0 m (pc + 3) ls (v.toList ++ rest))) : W p l e R s m args below meth c H locs cells slots Q (F0 m pc ls st0) := by
  subst hst
  exact tce_run (vx_runSX (As := As) (rest := rest) (g := F0 m pc ls (As.reverse ++ rest)) C0 hM cw ⟨tc_blind, fun U hU hW => tc_pre hG hU hW⟩ rfl hn hl.1 rfl (tc_cat hcat) hdg hf) hG hS kk
theorem tcs_blind {b L : Nat} {xs : Nat → Int32} : FrameBlind (tc_Ps b L xs As D cI cJ N0 ws) := fun _ U _ _ h => ⟨⟨h.1.1, h.1.2.same (U := _) rfl⟩, h.2.1, h.2.2.moved (Vm.Alike.refl _)⟩
theorem tcs_callS {b L : Nat} {xs : Nat → Int32} {index maxL n : Nat} {y : MethodName} {bytes : ByteArray} {ret : Option FieldType} {wsY : List Cond} {rm : Room} {lv : List (Nat × Value)}
    (C0 : CallFix p m c cc nL s args Ts own) (hX : va_X b L xs s s.heap) (hbl : b < N0) (hG : tcG D cI cJ N0 ws s H) (hN0 : N0 ≤ s.heap.size) (hS : va_S (tcA N0) s.heap H locs) (hM : tcMs l y wsY rm b L xs As D cI cJ N0 ws P mc ms) (cw : CallB R s args own index y bytes maxL ret wsY rm mc ms n ∧ (Cond.static y).before args s = true) (hn : As.length = n) (hl : lv_has ls nL lv) (hst : st0 = As.reverse ++ rest) (hcat : (rest.map fun v => v.category).sum ≤ 8) (hdg : decode cc pc = .ok (.invokestatic index, 3)) (hf : cells + mc ≤ R.cells ∧ slots + ms ≤ R.slots)
    (kk : ∀ (v : Option Value) (ws' : va_W) (H1 : Heap) (locs1 : List Loc), P v ws' → tcG D cI cJ N0 ws' s H1 → va_S (tcA N0) s.heap H1 locs1 → W p l e R s m args below meth c H1 locs1 (cells + mc) (slots + ms) Q (F0 m (pc + 3) ls (v.toList ++ rest))) : W p l e R s m args below meth c H locs cells slots Q (F0 m pc ls st0) := by
  subst hst
  exact tce_run (vx_runS (As := As) (rest := rest) (g := F0 m pc ls (As.reverse ++ rest)) C0 hM cw ⟨tcs_blind, fun U hU hW => ⟨tc_pre hG hU hW, hbl, by rw [hU]; exact (hX.kept (hS.2.1 b (by omega) (Nat.not_le.mpr hbl))).moved hW.alike⟩⟩ rfl hn hl.1 rfl (tc_cat hcat) hdg hf) hG hS kk
theorem tce_iret (C0 : CallFix p m c cc nL s args Ts own) (hr : meth.sig.returnType = some .int) (hlk : meth.locks = false) (hG : tcG D cI cJ N0 ws' s H) (hS : va_S (tcA N0) s.heap H locs) {x : Int32} (hP9 : P (some (.int x)) ws') (hc : cells ≤ mc) (hs : slots ≤ ms) (hdg : decode cc pc = .ok (.ireturn, 1)) : W p l e R s m args below meth c H locs cells slots (tcEe below P D N0 args s mc ms) (F0 m pc ls [.int x]) := by
  refine W.widen hc hs ?_
  exact vx_ret (W.iret C0.1 C0.2.1 hr (fun t ht _ => ⟨_, ws', rfl, hP9, by rw [ht]; exact hG.1, hG.2.2.1, hS.F ht⟩) hS.2.2 hdg hlk)
theorem tce_zret (C0 : CallFix p m c cc nL s args Ts own) (hr : meth.sig.returnType = some .boolean) (hlk : meth.locks = false) (hG : tcG D cI cJ N0 ws' s H) (hS : va_S (tcA N0) s.heap H locs) {x : Bool} (hP9 : P (some (.int (nI (b2n x)))) ws') (hc : cells ≤ mc) (hs : slots ≤ ms) (hdg : decode cc pc = .ok (.ireturn, 1)) : W p l e R s m args below meth c H locs cells slots (tcEe below P D N0 args s mc ms) (F0 m pc ls [.int (nI (b2n x))]) := by
  refine W.widen hc hs ?_
  exact vx_ret (W.zret C0.1 C0.2.1 hr (by cases x <;> rfl) (fun t ht _ => ⟨_, ws', rfl, hP9, by rw [ht]; exact hG.1, hG.2.2.1, hS.F ht⟩) hS.2.2 hdg hlk)
theorem tce_vret (C0 : CallFix p m c cc nL s args Ts own) (hr : meth.sig.returnType = none) (hlk : meth.locks = false) (hG : tcG D cI cJ N0 ws' s H) (hS : va_S (tcA N0) s.heap H locs)  (hP9 : P none ws') (hc : cells ≤ mc) (hs : slots ≤ ms) (hdg : decode cc pc = .ok (.return_, 1)) : W p l e R s m args below meth c H locs cells slots (tcEe below P D N0 args s mc ms) (F0 m pc ls []) := by
  refine W.widen hc hs ?_
  exact vx_ret (W.vret C0.1 C0.2.1 hr (fun t ht _ => ⟨_, ws', rfl, hP9, by rw [ht]; exact hG.1, hG.2.2.1, hS.F ht⟩) hS.2.2 hdg hlk)
theorem tce_aret (C0 : CallFix p m c cc nL s args Ts own) {rt : FieldType} (hr : meth.sig.returnType = some rt) (hrt : (∃ n, rt = .object n) ∨ ∃ t, rt = .array t) (hlk : meth.locks = false) (hG : tcG D cI cJ N0 ws' s H) (hS : va_S (tcA N0) s.heap H locs) {x : Nat} (hP9 : P (some (.ref x)) ws') (hc : cells ≤ mc) (hs : slots ≤ ms) (hdg : decode cc pc = .ok (.areturn, 1)) : W p l e R s m args below meth c H locs cells slots (tcEe below P D N0 args s mc ms) (F0 m pc ls [.ref x]) := by
  refine W.widen hc hs ?_
  exact vx_ret (W.aret C0.1 C0.2.1 hr hrt (Or.inr ⟨_, rfl⟩) (fun t ht _ => ⟨_, ws', rfl, hP9, by rw [ht]; exact hG.1, hG.2.2.1, hS.F ht⟩) hS.2.2 hdg hlk)
end TCE
