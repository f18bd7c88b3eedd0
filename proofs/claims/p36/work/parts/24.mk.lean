/-! arrays of arrays made and written, a new Sim, with, below, cell -/
def blw (x : Int32) (n : Nat) : Nat := (x &&& 2147483647).toNatClampNeg % n
theorem blw_lt (x : Int32) {n : Nat} (h : 0 < n) : blw x n < n := Nat.mod_lt _ h
theorem wR_len {rw : Nat → Nat} {cI : ClassId} {f : Nat → Nat → Nat} {nn : Nat} : (wR rw cI f nn).length = nn := by simp [wR]
theorem wR_getZ {rw : Nat → Nat} {cI : ClassId} {f : Nat → Nat → Nat} {nn : Nat} {Z : va_W} (k : Nat) : (wR rw cI f nn ++ Z)[nn + k]? = Z[k]? := by
  rw [List.getElem?_append_right (by rw [wR_len]; omega), wR_len]; congr 1; omega
theorem wR_setZ {rw : Nat → Nat} {cI : ClassId} {f : Nat → Nat → Nat} {nn : Nat} {Z : va_W} (k : Nat) (y : Nat × va_E) : (wR rw cI f nn ++ Z).set (nn + k) y = wR rw cI f nn ++ Z.set k y := by
  rw [List.set_append_right _ _ (by rw [wR_len]; omega), wR_len]; congr 2; omega
theorem wR_push {rw : Nat → Nat} {cI : ClassId} {f : Nat → Nat → Nat} {nn q : Nat} {mf : Nat → Nat} : wR (va_up rw nn q) cI (va_up f nn mf) (nn + 1) = wR rw cI f nn ++ [(q, tcRw cI 5 mf)] := by
  unfold wR
  rw [List.range_succ, List.map_append]
  congr 1
  · refine List.map_congr_left (fun i hi => ?_)
    have hi := List.mem_range.mp hi
    simp [va_up, Nat.ne_of_lt hi]
  · simp [va_up]
theorem tcG.tl {D : va_G} {cI cJ : ClassId} {N0 : Nat} (Pf : va_W) {T T2 T' : va_W} {s : State} {H : Heap} (h : tcG D cI cJ N0 (Pf ++ T) s H) (hp : T'.Perm T2) (hs : T2.Sublist T) : tcG D cI cJ N0 (Pf ++ T') s H := h.perm (hp.append_left Pf) (hs.append_left Pf)
section TCQ
variable {p : Program} {l : Launch} {e : Env} {R : Room} {s : State} {m : MethodId} {args : Array Value} {below : List Frame} {meth : Method} {c : Code} {H : Heap} {locs : List Loc} {cells slots : Nat} {Q : State → Prop}
variable {cc : ByteArray} {pc : Nat} {ls : Array Slot} {rest st0 : List Value} {D : va_G} {cI cJ : ClassId} {N0 : Nat} {ws ws' ws0 : va_W} {mc ms nL : Nat} {own : String} {Ts : List Cond}
variable {h r1 r2 r3 r4 : Nat} {tk co cn wk : Nat → Nat} {n st : Nat} {ho ct sp : Int32} {g ra : Nat} {rw : Nat → Nat} {sh sc sq : Int32} {ss nn : Nat} {f : Nat → Nat → Nat} {Z : va_W} {q r : Nat} {mf : Nat → Nat}
abbrev tcNo5 : va_E := .inl (0, 0, .inl (fun _ => 0))
abbrev tcQr (cJ : ClassId) (k : Nat) (u : Nat → Option Nat) : va_E := .inl (cJ, k, .inr (.inr (.inr (.inr u))))
/-- anewarray of rows of ints -/
theorem ts_anew (C0 : CallFix p m c cc nL s args Ts own) {idx : Nat} (hlk : Cond.classLink own idx "[I" ∈ Ts) (hG0 : tcG D cI cJ N0 ws0 s s.heap) (hG : tcG D cI cJ N0 ws s H) (hS : va_S (tcA N0) s.heap H locs) {k : Nat} (hk : k < 1000000) (hf : cells + 1 ≤ R.cells ∧ slots + k ≤ R.slots) (hdg : decode cc pc = .ok (.anewarray idx, 3))
    (kk : ∀ (q : Nat) (H1 : Heap) (locs1 : List Loc), tcG D cI cJ N0 (ws ++ [(q, tcQr cJ k (fun _ => none))]) s H1 → va_S (tcA N0) s.heap H1 locs1 → W p l e R s m args below meth c H1 locs1 (cells + 1) (slots + k) Q (F0 m (pc + 3) ls (.ref q :: rest))) : W p l e R s m args below meth c H locs cells slots Q (F0 m pc ls (.int (nI k) :: rest)) := by
  have hover : (Cond.arrayOver (.array .int)).before args s = true := hG.2.2.2.2.2.2.2.2.2.1
  have hcl : (nI k).toNatClampNeg = k := nI_clamp (by omega)
  refine W.anewA (t := .int) C0.1 C0.2.1 C0.2.2.2.1 (C0.2.2.2.2 _ (show Cond.classLink own idx (FieldType.array .int).toString ∈ Ts from hlk)) hover rfl hdg rfl (nI_pos (by omega)) (by rw [hcl]; omega) hf.1 (by rw [hcl]; exact hf.2) fun cA kA comp f1 f2 f3 f4 => ?_
  rw [hcl]
  have e1 : cA = cJ := Option.some.inj (f1.symm.trans (show s.vm.findClass ("[" ++ (FieldType.array .int).toString) = some cJ from (hG.2.1.2 1 (cJ, .array .int) rfl).2))
  subst e1
  generalize hH1 : H.push ({ cls := cA, slots := Array.replicate k .null, vm := .none } : Cell) = H1
  have z1 : H1.size = H.size + 1 := by rw [← hH1, Array.size_push]
  have e1 : H1[H.size]? = some (arrV cA k (fun _ => .null)) := by rw [← hH1, Array.getElem?_push_size, ← arrV_new]
  have o1 : ∀ q : Nat, q < H.size → H1[q]? = H[q]? := fun q hq => by rw [← hH1, Array.getElem?_push, if_neg (Nat.ne_of_lt hq)]
  have hk : ∀ (k : Nat) (x : Nat × va_E), ws[k]? = some x → H1[x.1]? = H[x.1]? := fun k x hx => o1 x.1 ((hG.1 k x hx).lt)
  have hS1 : va_S (tcA N0) s.heap H1 locs := ⟨Nat.le_trans hS.1 (by omega), fun x h1 h2 => (o1 x (Nat.lt_of_lt_of_le h1 hS.1)).trans (hS.2.1 x h1 h2), hS.2.2⟩
  refine kk H.size H1 locs (hG0.put ((hG.1.kept hk).app (fun k x hx => ?_)) (hG.2.2.1.push hG.1 rfl (Nat.le_trans hG0.2.2.2.1 hS.1)) hS1) hS1
  have hz : k < 1 := (List.getElem?_eq_some_iff.mp hx).1
  rw [show k = 0 by omega] at hx
  cases hx
  show H1[H.size]? = some (vp_cell _ _)
  rw [vp_cell_q]
  exact e1
/-- a row put into an array of rows -/
theorem ts_aast (C0 : CallFix p m c cc nL s args Ts own) (hG0 : tcG D cI cJ N0 ws0 s s.heap) (hG : tcG D cI cJ N0 ws s H) (hS : va_S (tcA N0) s.heap H locs) (q0 qk : Nat) {a v k i k5 : Nat} {u : Nat → Option Nat} {gf : Nat → Int32} (he : ws[q0]? = some (a, tcQr cJ k u)) (hv : ws[qk]? = some (v, .inl (cI, k5, .inl gf))) (hi : i < k) (hk : k < 2 ^ 31) (hdg : decode cc pc = .ok (.aastore, 1))
    (kk : ∀ (H1 : Heap) (locs1 : List Loc), tcG D cI cJ N0 (ws.set q0 (a, tcQr cJ k (va_up u i (some v)))) s H1 → va_S (tcA N0) s.heap H1 locs1 → W p l e R s m args below meth c H1 locs1 cells slots Q (F0 m (pc + 1) ls rest)) : W p l e R s m args below meth c H locs cells slots Q (F0 m pc ls (.ref v :: .int (nI i) :: .ref a :: rest)) := by
  have hcl : (nI i).toNatClampNeg = i := nI_clamp (by omega)
  have hlt : (nI i).toNatClampNeg < k := by rw [hcl]; exact hi
  have h0 : ¬ nI i < 0 := nI_pos (by omega)
  obtain ⟨comp, cA, kA, g1, g2, g3, g4, g5⟩ := arrayOverA_spec (show (Cond.arrayOver (.array .int)).before args s = true from hG.2.2.2.2.2.2.2.2.2.1)
  have eA : cA = cJ := Option.some.inj (g5.symm.trans (show s.vm.findClass ("[" ++ (FieldType.array .int).toString) = some cJ from (hG.2.1.2 1 (cJ, .array .int) rfl).2))
  subst eA
  have eI : comp = cI := Option.some.inj (g1.symm.trans (show s.vm.findClass ("[" ++ FieldType.int.toString) = some cI from (hG.2.1.2 0 (cI, .int) rfl).2))
  subst eI
  obtain ⟨kE, hkE, -⟩ := Vm.findClass_spec g1
  refine W.aast C0.1 C0.2.1 (hG.1 q0 _ he) (fun q h => by cases h) (fun h => by cases h) g3 g4 rfl hkE ⟨h0, by show _ < (arrV _ _ _).slots.size; rw [arrV_size]; exact hlt⟩ (hG.1 qk _ hv) (fun q h => by cases h) hkE (va_asg _ _) rfl rfl hdg fun H1 e z oq => ?_
  have hP := hG.1.set (e := tcQr cA k (va_up u i (some v))) hG.2.2.1 he (by
    show H1[a]? = some (vp_cell _ _)
    rw [e]
    rw [vp_cell_q, vp_cell_q, arrV_store, hcl]
    congr 2
    funext q
    by_cases hq : q = i
    · subst hq
      simp [updV, va_up, va_rf]
    · simp [updV, va_up, hq]) oq
  have hS1 : va_S (tcA N0) s.heap H1 (locs ++ [⟨a, (nI i).toNatClampNeg⟩]) := hS.put z oq (hG.2.2.1.2 q0 _ he)
  exact kk H1 _ (hG0.put hP (hG.2.2.1.set he) hS1) hS1
/-- the new row, behind the others -/
theorem ts_mld (C0 : CallFix p m c cc nL s args Ts own) (hG : tcG D cI cJ N0 (wB h r1 r2 r3 r4 cI tk co cn wk n ho st ct sp g ra rw cJ sh ss sc sq nn f ((q, tcRw cI 5 mf) :: Z)) s H) {j : Nat} (hj : j < 5) (hdg : decode cc pc = .ok (.iaload, 1)) (kk : W p l e R s m args below meth c H locs cells slots Q (F0 m (pc + 1) ls (.int (nI (mf j)) :: rest))) : W p l e R s m args below meth c H locs cells slots Q (F0 m pc ls (.int (nI j) :: .ref q :: rest)) := by
  refine va_iald C0.1 C0.2.1 hG.2.1 hG.1 (nn + 0 + 7) 0 (n := 5) (f := fun j => nI (mf j)) (show (wR rw cI f nn ++ (q, tcRw cI 5 mf) :: Z)[nn + 0]? = _ from wR_getZ 0) rfl (vp_in_nI hj (by decide)) hdg ?_
  rw [nI_clamp (by omega)]
  exact kk
theorem ts_mst (C0 : CallFix p m c cc nL s args Ts own) (hG0 : tcG D cI cJ N0 ws0 s s.heap) (hG : tcG D cI cJ N0 (wB h r1 r2 r3 r4 cI tk co cn wk n ho st ct sp g ra rw cJ sh ss sc sq nn f ((q, tcRw cI 5 mf) :: Z)) s H) (hS : va_S (tcA N0) s.heap H locs) {j x : Nat} (hj : j < 5) (hdg : decode cc pc = .ok (.iastore, 1)) (kk : ∀ (H1 : Heap) (locs1 : List Loc), tcG D cI cJ N0 (wB h r1 r2 r3 r4 cI tk co cn wk n ho st ct sp g ra rw cJ sh ss sc sq nn f ((q, tcRw cI 5 (va_up mf j x)) :: Z)) s H1 → va_S (tcA N0) s.heap H1 locs1 → W p l e R s m args below meth c H1 locs1 cells slots Q (F0 m (pc + 1) ls rest)) : W p l e R s m args below meth c H locs cells slots Q (F0 m pc ls (.int (nI x) :: .int (nI j) :: .ref q :: rest)) := by
  refine va_iast C0.1 C0.2.1 hG.2.1 hG.1 hG.2.2.1 hS (nn + 0 + 7) 0 (n := 5) (f := fun j => nI (mf j)) (show (wR rw cI f nn ++ (q, tcRw cI 5 mf) :: Z)[nn + 0]? = _ from wR_getZ 0) rfl (vp_in_nI hj (by decide)) hdg (fun H1 locs1 hP hD hS1 => ?_)
  have e : (wB h r1 r2 r3 r4 cI tk co cn wk n ho st ct sp g ra rw cJ sh ss sc sq nn f ((q, tcRw cI 5 mf) :: Z)).set (nn + 0 + 7) (q, .inl (cI, 5, .inl (upd (fun j => nI (mf j)) (nI j).toNatClampNeg (nI x)))) = wB h r1 r2 r3 r4 cI tk co cn wk n ho st ct sp g ra rw cJ sh ss sc sq nn f ((q, tcRw cI 5 (va_up mf j x)) :: Z) := by
    rw [nI_clamp (by omega), upd_nI]
    show (h, _) :: (r1, _) :: (r2, _) :: (r3, _) :: (r4, _) :: (g, _) :: (ra, _) :: ((wR rw cI f nn ++ (q, tcRw cI 5 mf) :: Z).set (nn + 0) _) = _
    rw [wR_setZ 0]; rfl
  rw [e] at hP hD
  exact kk H1 locs1 (hG0.put hP hD hS1) hS1
theorem ts_aldq (C0 : CallFix p m c cc nL s args Ts own) (hG : tcG D cI cJ N0 (wB h r1 r2 r3 r4 cI tk co cn wk n ho st ct sp g ra rw cJ sh ss sc sq nn f Z) s H) {k j q9 : Nat} (hq : rw k = q9) (hk : k < nn) (hj : j < 5) (hdg : decode cc pc = .ok (.iaload, 1)) (kk : W p l e R s m args below meth c H locs cells slots Q (F0 m (pc + 1) ls (.int (nI (f k j)) :: rest))) : W p l e R s m args below meth c H locs cells slots Q (F0 m pc ls (.int (nI j) :: .ref q9 :: rest)) := by
  subst hq
  exact ts_ald C0 hG hk hj hdg kk
/-- newarray of five ints: the new row lies behind the others -/
theorem ts_mnew (C0 : CallFix p m c cc nL s args Ts own) (harr : Cond.arrayClass .int ∈ Ts) (hG0 : tcG D cI cJ N0 ws0 s s.heap) (hG : tcG D cI cJ N0 (wB h r1 r2 r3 r4 cI tk co cn wk n ho st ct sp g ra rw cJ sh ss sc sq nn f Z) s H) (hS : va_S (tcA N0) s.heap H locs) (hf : cells + 1 ≤ R.cells ∧ slots + 5 ≤ R.slots) (hdg : decode cc pc = .ok (.newarray .int, 2))
    (kk : ∀ (q : Nat) (H1 : Heap) (locs1 : List Loc), tcG D cI cJ N0 (wB h r1 r2 r3 r4 cI tk co cn wk n ho st ct sp g ra rw cJ sh ss sc sq nn f ((q, tcRw cI 5 (fun _ => 0)) :: Z)) s H1 → va_S (tcA N0) s.heap H1 locs1 → W p l e R s m args below meth c H1 locs1 (cells + 1) (slots + 5) Q (F0 m (pc + 2) ls (.ref q :: rest))) : W p l e R s m args below meth c H locs cells slots Q (F0 m pc ls (.int (nI 5) :: rest)) := by
  refine tc_newa C0 harr hG0 hG hS (by decide) hf hdg (fun q H1 locs1 hG1 hS1 => kk q H1 locs1 ?_ hS1)
  have hG2 : tcG D cI cJ N0 (wB h r1 r2 r3 r4 cI tk co cn wk n ho st ct sp g ra rw cJ sh ss sc sq nn f Z ++ [(q, tcRw cI 5 (fun _ => 0))]) s H1 := hG1
  refine hG2.perm (w2 := wB h r1 r2 r3 r4 cI tk co cn wk n ho st ct sp g ra rw cJ sh ss sc sq nn f Z ++ [(q, tcRw cI 5 (fun _ => 0))]) ?_ (List.Sublist.refl _)
  refine List.Perm.cons _ (List.Perm.cons _ (List.Perm.cons _ (List.Perm.cons _ (List.Perm.cons _ (List.Perm.cons _ (List.Perm.cons _ ?_))))))
  show (wR rw cI f nn ++ (q, tcRw cI 5 (fun _ => 0)) :: Z).Perm ((wR rw cI f nn ++ Z) ++ [(q, tcRw cI 5 (fun _ => 0))])
  rw [List.append_assoc]
  exact (List.perm_append_singleton _ Z).symm.append_left _
/-- .. and is let go of -/
theorem tcG.drop (hG : tcG D cI cJ N0 (wB h r1 r2 r3 r4 cI tk co cn wk n ho st ct sp g ra rw cJ sh ss sc sq nn f ((q, tcRw cI 5 mf) :: Z)) s H) : tcG D cI cJ N0 (wB h r1 r2 r3 r4 cI tk co cn wk n ho st ct sp g ra rw cJ sh ss sc sq nn f Z) s H := by
  refine hG.perm (w2 := wB h r1 r2 r3 r4 cI tk co cn wk n ho st ct sp g ra rw cJ sh ss sc sq nn f Z) (List.Perm.refl _) ?_
  refine List.Sublist.cons_cons _ (List.Sublist.cons_cons _ (List.Sublist.cons_cons _ (List.Sublist.cons_cons _ (List.Sublist.cons_cons _ (List.Sublist.cons_cons _ (List.Sublist.cons_cons _ ?_))))))
  exact (List.sublist_cons_self _ _).append_left _
theorem ts_putall (C0 : CallFix p m c cc nL s args Ts own) (hF : ∀ w ∈ wsX10, w ∈ Ts) (hG0 : tcG D cI cJ N0 ws0 s s.heap) (hG : tcG D cI cJ N0 (wB h r1 r2 r3 r4 cI tk co cn wk n ho st ct sp g ra rw cJ sh ss sc sq nn f ((q, tcRw cI 5 mf) :: (r, tcRef cJ (nn + 1) (va_up rw nn q)) :: Z)) s H) (hS : va_S (tcA N0) s.heap H locs) {idx : Nat} (hk : Cond.fieldLink own idx "TicketCoincidencesLaw$Sim" "all" "[[I" ∈ Ts) (hdg : decode cc pc = .ok (.putfield idx, 3))
    (kk : ∀ (H1 : Heap) (locs1 : List Loc), tcG D cI cJ N0 (wB h r1 r2 r3 r4 cI tk co cn wk n ho st ct sp g r (va_up rw nn q) cJ sh ss sc sq (nn + 1) (va_up f nn mf) Z) s H1 → va_S (tcA N0) s.heap H1 locs1 → W p l e R s m args below meth c H1 locs1 cells slots Q (F0 m (pc + 3) ls rest)) : W p l e R s m args below meth c H locs cells slots Q (F0 m pc ls (.ref r :: .ref g :: rest)) := by
  refine va_put (D := D) (ci := 1) (v := .ref r) (ty := .array (.array .int)) (C := RX1) (T := TX1) (N := 5) C0.1 C0.2.1 C0.2.2.2.2 hF tyX1 tyX1_ok nmX1 C0.2.2.2.1 hG.2.1 hG.1 hG.2.2.1 hS 5 rfl rfl 4 (by decide) (C0.2.2.2.2 _ hk) (fun _ h9 => h9) rfl (by decide +kernel) rfl rfl (Nat.le_of_ble_eq_true rfl) hdg (fun H1 locs1 hP hD hS1 => kk H1 locs1 ?_ hS1)
  have hG2 := hG0.put hP hD hS1
  refine hG2.perm (w2 := wT h r1 r2 r3 r4 cI tk co cn wk n ho st ct sp ((g, .inr (1, [.int sh, .int (nI ss), .int sc, .int sq, .ref r])) :: (wR rw cI f nn ++ (q, tcRw cI 5 mf) :: (r, tcRef cJ (nn + 1) (va_up rw nn q)) :: Z))) ?_ ?_
  · refine List.Perm.cons _ (List.Perm.cons _ (List.Perm.cons _ (List.Perm.cons _ (List.Perm.cons _ (List.Perm.cons _ ?_)))))
    show ((r, tcRef cJ (nn + 1) (va_up rw nn q)) :: (wR (va_up rw nn q) cI (va_up f nn mf) (nn + 1) ++ Z)).Perm _
    rw [wR_push, show wR rw cI f nn ++ (q, tcRw cI 5 mf) :: (r, tcRef cJ (nn + 1) (va_up rw nn q)) :: Z = (wR rw cI f nn ++ [(q, tcRw cI 5 mf)]) ++ (r, tcRef cJ (nn + 1) (va_up rw nn q)) :: Z by rw [List.append_assoc]; rfl]
    exact List.perm_middle.symm
  · refine List.Sublist.cons_cons _ (List.Sublist.cons_cons _ (List.Sublist.cons_cons _ (List.Sublist.cons_cons _ (List.Sublist.cons_cons _ (List.Sublist.cons_cons _ ?_)))))
    exact List.sublist_cons_self _ _
end TCQ
theorem tcQ_s {rw : Nat → Nat} {i : Nat} : va_up (fun j => if j < i then some (rw j) else none) i (some (rw i)) = fun j => if j < i + 1 then some (rw j) else none := by
  funext j
  by_cases h : j = i
  · subst h; simp [va_up]
  · by_cases h2 : j < i
    · simp [va_up, h, h2, Nat.lt_succ_of_lt h2]
    · simp [va_up, h, h2]; omega
theorem tcQ_e {rw : Nat → Nat} {nn q : Nat} : va_up (fun j => if j < nn then some (rw j) else none) nn (some q) = fun j => if j < nn + 1 then some (va_up rw nn q j) else none := by
  funext j
  by_cases h : j = nn
  · subst h; simp [va_up]
  · by_cases h2 : j < nn
    · simp [va_up, h, h2, Nat.lt_succ_of_lt h2]
    · simp [va_up, h, h2]; omega
set_option maxHeartbeats 4000000 in
set_option maxRecDepth 100000 in
theorem kL_below {l : Launch} {D : va_G} {cI cJ : ClassId} {N0 : Nat} {ws : va_W} (_hlf : l.stackTraces = false) (x : Int32) (n : Nat) (h1 : 0 < n) (h2 : n < 2 ^ 31) : tcM l yL_below wsL_below { frames := 0, cells := 0, slots := 0, locals := 0 } [] 0 [.int (x), .int (nI (n))] D cI cJ N0 (ws) (some (.int (nI (blw x n)))) (ws) 0 0 := by
  refine tcg_of (cc := cL_below) (maxL := 2) (ret := (some .int)) (by decide) rfl (Nat.le_of_ble_eq_true rfl) ?_
  intro p e s m args below meth c C0 hr hlk hmn hG ls hl
  show W p l e _ s m args below meth c s.heap [] 0 0 (tcE below [] 0 D N0 _ _ _ args s _ _) _
  have hl : lv_has ls 2 [(0, .int x), (1, .int (nI n))] := hl
  have hS : va_S (tcA N0) s.heap s.heap [] := va_S.rf
  obtain ⟨j, hj, ej⟩ := pk_andE x (m := 2147483647) 31 (by decide)
  have eb : blw x n = j % n := by unfold blw; rw [ej, nI_clamp (by omega)]
  refine lv_iload_n C0.1 C0.2.1 dL_below_0 rfl (lv_at hl 0 rfl) ?_
  refine lv_ldc C0.1 C0.2.1 C0.2.2.2.1 (C0.2.2.2.2 (.constant RL 7 2147483647) (by decide +kernel)) dL_below_1 ?_
  refine lv_iand C0.1 C0.2.1 dL_below_3 ?_
  refine tc_top ej ?_
  refine lv_iload_n C0.1 C0.2.1 dL_below_4 rfl (lv_at hl 1 rfl) ?_
  refine tn_irem C0.1 C0.2.1 dL_below_5 (by omega) h1 h2 ?_
  exact tc_iret C0 hr hlk hG hS rfl (by rw [eb]) (Nat.le_of_ble_eq_true rfl) (Nat.le_of_ble_eq_true rfl) dL_below_6
set_option maxHeartbeats 4000000 in
set_option maxRecDepth 100000 in
theorem kL_cell {l : Launch} {D : va_G} {cI cJ : ClassId} {N0 : Nat} {ws : va_W} {b L : Nat} {xs : Nat → Int32} (hL : L ≤ 260) (k : Nat) (hk : k < 1000) : tcMs l yL_cell wsL_cell { frames := 0, cells := 0, slots := 0, locals := 0 } b L xs [.ref b, .int (nI k)] D cI cJ N0 ws (fun v ws' => (∃ x : Int32, v = some (.int x)) ∧ ws' = ws) 0 0 := by
  refine tcs_of (cc := cL_cell) (maxL := 2) (ret := (some .int)) (by decide) rfl (Nat.le_of_ble_eq_true rfl) ?_
  intro p e s m args below meth c C0 hr hlk hb hX hG ls hl
  show W p l e _ s m args below meth c s.heap [] 0 0 (tcEe below _ D N0 args s _ _) _
  have hl : lv_has ls 2 [(0, .ref b), (1, .int (nI k))] := hl
  have hS : va_S (tcA N0) s.heap s.heap [] := va_S.rf
  have hbl : b < s.heap.size := Nat.lt_of_lt_of_le hb hG.2.2.2.1
  refine lv_iload_n C0.1 C0.2.1 dL_cell_0 rfl (lv_at hl 1 rfl) ?_
  refine lv_aload_n C0.1 C0.2.1 dL_cell_1 rfl (lv_at hl 0 rfl) ?_
  refine va_slen C0.1 C0.2.1 hX hbl (Nat.not_le.mpr hb) hS dL_cell_2 ?_
  refine tn_icmp_ge (a := k) (b := L) (tgt := 12) C0.1 C0.2.1 dL_cell_3 (by decide) (by omega) (by omega) (fun c_3 => ?_) (fun c_3 => ?_)
  · refine lv_ldc C0.1 C0.2.1 C0.2.2.2.1 (C0.2.2.2.2 (.constant RL 8 790386105) (by decide +kernel)) dL_cell_12 ?_
    refine lv_iload_n C0.1 C0.2.1 dL_cell_14 rfl (lv_at hl 1 rfl) ?_
    refine lv_iconst (v := nI 3) C0.1 C0.2.1 dL_cell_15 (by decide) ?_
    refine lv_iadd C0.1 C0.2.1 dL_cell_16 ?_
    refine lv_imul C0.1 C0.2.1 dL_cell_17 ?_
    exact tce_iret C0 hr hlk hG hS ⟨⟨_, rfl⟩, rfl⟩ (Nat.le_of_ble_eq_true rfl) (Nat.le_of_ble_eq_true rfl) dL_cell_18
  · refine lv_aload_n C0.1 C0.2.1 dL_cell_6 rfl (lv_at hl 0 rfl) ?_
    refine lv_iload_n C0.1 C0.2.1 dL_cell_7 rfl (lv_at hl 1 rfl) ?_
    refine va_sld C0.1 C0.2.1 hX hbl (Nat.not_le.mpr hb) hS (vp_in_nI c_3 (by omega)) dL_cell_8 ?_
    refine lv_goto (tgt := 18) C0.1 C0.2.1 dL_cell_9 (by decide) ?_
    exact tce_iret C0 hr hlk hG hS ⟨⟨_, rfl⟩, rfl⟩ (Nat.le_of_ble_eq_true rfl) (Nat.le_of_ble_eq_true rfl) dL_cell_18
set_option maxHeartbeats 4000000 in
set_option maxRecDepth 100000 in
theorem kX1_with {l : Launch} {D : va_G} {cI cJ : ClassId} {N0 : Nat} {h r1 r2 r3 r4 : Nat} {tk co cn wk : Nat → Nat} {n st : Nat} {ho ct sp : Int32} {g ra : Nat} {rw : Nat → Nat} {sh sc sq : Int32} {ss nn : Nat} {f : Nat → Nat → Nat} {Z : va_W} {q : Nat} {mf : Nat → Nat} (hn : nn ≤ 12) : tcMe l yX1_with wsX1_with { frames := 0, cells := 1, slots := 13, locals := 0 } [.ref ra, .ref q] D cI cJ N0 (wB h r1 r2 r3 r4 cI tk co cn wk n ho st ct sp g ra rw cJ sh ss sc sq nn f ((q, tcRw cI 5 mf) :: Z)) (fun v ws' => ∃ r : Nat, v = some (.ref r) ∧ ws' = wB h r1 r2 r3 r4 cI tk co cn wk n ho st ct sp g ra rw cJ sh ss sc sq nn f ((q, tcRw cI 5 mf) :: (r, tcRef cJ (nn + 1) (va_up rw nn q)) :: Z)) 1 13 := by
  refine tcg_of (cc := cX1_with) (maxL := 4) (ret := (some (.array (.array .int)))) (by decide) rfl (Nat.le_of_ble_eq_true rfl) ?_
  intro p e s m args below meth c C0 hr hlk hmn hG ls hl
  show W p l e _ s m args below meth c s.heap [] 0 0 (tcEe below _ D N0 args s _ _) _
  have hl : lv_has ls 4 [(0, .ref ra), (1, .ref q)] := hl
  have hG0 := hG
  have hS : va_S (tcA N0) s.heap s.heap [] := va_S.rf
  refine lv_aload_n C0.1 C0.2.1 dX1_with_0 rfl (lv_at hl 0 rfl) ?_
  refine ts_alen C0 hG dX1_with_1 ?_
  refine lv_iconst (v := nI 1) C0.1 C0.2.1 dX1_with_2 (by decide) ?_
  refine tn_iadd C0.1 C0.2.1 dX1_with_3 ?_
  refine W.widen (k := 0) (n := 12 - nn) (by omega) (by omega) ?_
  refine ts_anew C0 (by decide +kernel) hG0 hG hS (by omega) ⟨(Nat.le_of_ble_eq_true rfl), (show 12 - nn + (nn + 1) ≤ 13 by omega)⟩ dX1_with_4 (fun r H locs hG hS => ?_)
  have hG : tcG D cI cJ N0 (wB h r1 r2 r3 r4 cI tk co cn wk n ho st ct sp g ra rw cJ sh ss sc sq nn f ((q, tcRw cI 5 mf) :: (r, tcQr cJ (nn + 1) (fun j => if j < 0 then some (rw j) else none)) :: Z)) s H := by
    have hu : (fun _ => none : Nat → Option Nat) = (fun j => if j < 0 then some (rw j) else none) := by funext j; simp
    rw [hu] at hG
    refine hG.perm (w2 := wB h r1 r2 r3 r4 cI tk co cn wk n ho st ct sp g ra rw cJ sh ss sc sq nn f ((q, tcRw cI 5 mf) :: Z) ++ [(r, tcQr cJ (nn + 1) (fun j => if j < 0 then some (rw j) else none))]) ?_ (List.Sublist.refl _)
    refine List.Perm.cons _ (List.Perm.cons _ (List.Perm.cons _ (List.Perm.cons _ (List.Perm.cons _ (List.Perm.cons _ (List.Perm.cons _ ?_))))))
    show (wR rw cI f nn ++ ((q, tcRw cI 5 mf) :: (r, tcQr cJ (nn + 1) (fun j => if j < 0 then some (rw j) else none)) :: Z)).Perm ((wR rw cI f nn ++ ((q, tcRw cI 5 mf) :: Z)) ++ [(r, tcQr cJ (nn + 1) (fun j => if j < 0 then some (rw j) else none))])
    rw [List.append_assoc]
    exact List.Perm.append_left _ (List.Perm.cons _ (List.perm_append_singleton _ Z).symm)
  refine W.widen (k := 1) (n := 13) (by omega) (by omega) ?_
  refine lv_astore_n (lv' := [(2, .ref r), (0, .ref ra), (1, .ref q)]) C0.1 C0.2.1 dX1_with_7 rfl hl (by decide) rfl (fun ls hl => ?_)
  refine lv_iconst (v := nI 0) C0.1 C0.2.1 dX1_with_8 (by decide) ?_
  refine lv_istore_n (lv' := [(3, .int (nI 0)), (2, .ref r), (0, .ref ra), (1, .ref q)]) C0.1 C0.2.1 dX1_with_9 rfl hl (by decide) rfl (fun ls hl => ?_)
  refine tc_nameQ (fun zQg zhQ => ?_)
  have cut : ∀ (kf i : Nat) (hi : i ≤ nn) (hm : nn + 1 ≤ i + kf) (ls : Array Slot), lv_has ls 4 [(3, .int (nI i)), (2, .ref r), (0, .ref ra), (1, .ref q)] → ∀ (H : Heap) (locs : List Loc), tcG D cI cJ N0 (wB h r1 r2 r3 r4 cI tk co cn wk n ho st ct sp g ra rw cJ sh ss sc sq nn f ((q, tcRw cI 5 mf) :: (r, tcQr cJ (nn + 1) (fun j => if j < i then some (rw j) else none)) :: Z)) s H → va_S (tcA N0) s.heap H locs → W p l e ({ frames := 0, cells := 1, slots := 13, locals := 0 } : Room) s m args below meth c H locs 1 13 zQg (F0 m 10 ls []) := by
    intro kf
    induction kf with
    | zero => intro i hi hm; exact absurd hm (by omega)
    | succ kf ih =>
      intro i hi hm ls hl H locs hG hS
      refine lv_iload_n C0.1 C0.2.1 dX1_with_10 rfl (lv_at hl 0 rfl) ?_
      refine lv_aload_n C0.1 C0.2.1 dX1_with_11 rfl (lv_at hl 2 rfl) ?_
      refine ts_alen C0 hG dX1_with_12 ?_
      refine tn_icmp_ge (tgt := 28) C0.1 C0.2.1 dX1_with_13 (by decide) (by omega) (by omega) (fun c_13 => ?_) (fun c_13 => ?_)
      · have hz : i = nn := by omega
        subst hz
        refine lv_aload_n C0.1 C0.2.1 dX1_with_28 rfl (lv_at hl 1 rfl) ?_
        refine lv_aload_n C0.1 C0.2.1 dX1_with_29 rfl (lv_at hl 2 rfl) ?_
        refine ts_alen C0 hG dX1_with_30 ?_
        refine lv_aload_n C0.1 C0.2.1 dX1_with_31 rfl (lv_at hl 3 rfl) ?_
        refine ts_aast C0 hG0 hG hS (i + 1 + 7) (i + 0 + 7) (show (wR rw cI f i ++ ((q, tcRw cI 5 mf) :: (r, tcQr cJ (i + 1) (fun j => if j < i then some (rw j) else none)) :: Z))[i + 1]? = _ from wR_getZ 1) (show (wR rw cI f i ++ ((q, tcRw cI 5 mf) :: (r, tcQr cJ (i + 1) (fun j => if j < i then some (rw j) else none)) :: Z))[i + 0]? = _ from wR_getZ 0) (by omega) (by omega) dX1_with_32 (fun H locs hG hS => ?_)
        have hG : tcG D cI cJ N0 (wB h r1 r2 r3 r4 cI tk co cn wk n ho st ct sp g ra rw cJ sh ss sc sq i f ((q, tcRw cI 5 mf) :: (r, tcRef cJ (i + 1) (va_up rw i q)) :: Z)) s H := by
          refine tcG.eq ?_ hG
          show (h, _) :: (r1, _) :: (r2, _) :: (r3, _) :: (r4, _) :: (g, _) :: (ra, _) :: ((wR rw cI f i ++ ((q, tcRw cI 5 mf) :: (r, tcQr cJ (i + 1) (fun j => if j < i then some (rw j) else none)) :: Z)).set (i + 1) _) = _
          rw [wR_setZ 1, tcQ_e]; rfl
        refine lv_aload_n C0.1 C0.2.1 dX1_with_33 rfl (lv_at hl 1 rfl) ?_
        subst zhQ
        exact tce_aret C0 hr (Or.inr ⟨_, rfl⟩) hlk hG hS ⟨r, rfl, rfl⟩ (Nat.le_of_ble_eq_true rfl) (Nat.le_of_ble_eq_true rfl) dX1_with_34
      · refine lv_aload_n C0.1 C0.2.1 dX1_with_16 rfl (lv_at hl 1 rfl) ?_
        refine lv_iload_n C0.1 C0.2.1 dX1_with_17 rfl (lv_at hl 0 rfl) ?_
        refine lv_aload_n C0.1 C0.2.1 dX1_with_18 rfl (lv_at hl 2 rfl) ?_
        refine lv_iload_n C0.1 C0.2.1 dX1_with_19 rfl (lv_at hl 0 rfl) ?_
        refine ts_aald (k := i) C0 hG (by omega) (by omega) dX1_with_20 ?_
        refine ts_aast C0 hG0 hG hS (nn + 1 + 7) (i + 7) (show (wR rw cI f nn ++ ((q, tcRw cI 5 mf) :: (r, tcQr cJ (nn + 1) (fun j => if j < i then some (rw j) else none)) :: Z))[nn + 1]? = _ from wR_getZ 1) (show (wR rw cI f nn ++ ((q, tcRw cI 5 mf) :: (r, tcQr cJ (nn + 1) (fun j => if j < i then some (rw j) else none)) :: Z))[i]? = _ from wR_get (by omega)) (by omega) (by omega) dX1_with_21 (fun H locs hG hS => ?_)
        have hG : tcG D cI cJ N0 (wB h r1 r2 r3 r4 cI tk co cn wk n ho st ct sp g ra rw cJ sh ss sc sq nn f ((q, tcRw cI 5 mf) :: (r, tcQr cJ (nn + 1) (fun j => if j < i + 1 then some (rw j) else none)) :: Z)) s H := by
          refine tcG.eq ?_ hG
          show (h, _) :: (r1, _) :: (r2, _) :: (r3, _) :: (r4, _) :: (g, _) :: (ra, _) :: ((wR rw cI f nn ++ ((q, tcRw cI 5 mf) :: (r, tcQr cJ (nn + 1) (fun j => if j < i then some (rw j) else none)) :: Z)).set (nn + 1) _) = _
          rw [wR_setZ 1, tcQ_s]; rfl
        refine tn_iinc (lv' := [(3, .int (nI (i + 1))), (2, .ref r), (0, .ref ra), (1, .ref q)]) C0.1 C0.2.1 dX1_with_22 hl (k := 0) rfl (by decide) rfl (fun ls hl => ?_)
        refine lv_goto (tgt := 10) C0.1 C0.2.1 dX1_with_25 (by decide) ?_
        exact ih (i + 1) (by omega) (by omega) ls hl _ _ hG hS
  exact cut (nn + 1) 0 (by omega) (by omega) ls hl _ _ hG hS
set_option maxHeartbeats 4000000 in
set_option maxRecDepth 100000 in
theorem kX1_init {l : Launch} {D : va_G} {cI cJ : ClassId} {N0 : Nat} {h r1 r2 r3 r4 : Nat} {tk co cn wk : Nat → Nat} {n st : Nat} {ho ct sp : Int32} (g : Nat) : Met l yX1_init wsX1_init { frames := 1, cells := 1, slots := 0, locals := 12 } (tc_P [.ref g] D cI cJ N0 (wT h r1 r2 r3 r4 cI tk co cn wk n ho st ct sp [(g, .inr (1, [.int 0, .int 0, .int 0, .int 0, .null]))])) (tc_Qi D N0 (fun ws' => ∃ ra : Nat, ws' = wB h r1 r2 r3 r4 cI tk co cn wk n ho st ct sp g ra (fun _ => 0) cJ 0 20 0 0 0 (fun _ _ => 0) [])) 1 0 (tcA N0) := by
  refine Met.ofW (cc := cX1_init) (maxL := 1) (ret := none) (by decide) rfl ?_
  intro p e s m args below meth c s₁ B hml hv
  obtain ⟨rfl, hG⟩ := hv
  have hts := atoms_spec (ws := wsX1_init) B.pre
  have hown : s.vm.findClass RX1 = some m.cls := findClass_of_methodNamed B.named
  have hin : meth.name = "<init>" := (name_of_methodNamed B.named B.method).1
  have C0 : CallFix p m c cX1_init 1 s _ wsX1_init RX1 := ⟨B.exec, B.bytes, hml, hown, hts⟩
  have hr := B.returns
  have hlk := B.notSynchronized
  have hl := lv_entry ([.ref g]) (n := 1) (Nat.le_of_ble_eq_true rfl)
  rw [lg_entry_eq]
  generalize (lg_sl ([.ref g]) ++ List.replicate (1 - (lg_sl ([.ref g])).length) Slot.unset).toArray = ls at hl ⊢
  have hl : lv_has ls 1 [(0, .ref g)] := hl
  have hG0 := hG
  have hS : va_S (tcA N0) s.heap s.heap [] := va_S.rf
  have hF : ∀ w ∈ wsX10, w ∈ wsX1_init := by decide +kernel
  refine lv_aload_n C0.1 C0.2.1 dX1_init_0 rfl (lv_at hl 0 rfl) ?_
  refine W.objInit C0.1 C0.2.1 hown (hts (.methodLink RX1 1 objectInit) (by decide +kernel)) (hts (.instanceMethod objectInit) (by decide +kernel)) (hts (.code objectInit ⟨#[0xb1]⟩ 1 none) (by decide +kernel)) rfl (by rw [hml]; exact hl.1) rfl dX1_init_1 (Nat.le_of_ble_eq_true rfl) (Nat.le_of_ble_eq_true rfl) ?_
  refine W.eq (g2 := F0 m 4 ls []) rfl ?_
  refine lv_aload_n C0.1 C0.2.1 dX1_init_4 rfl (lv_at hl 0 rfl) ?_
  refine lv_bipush (v := nI 20) C0.1 C0.2.1 dX1_init_5 (by decide) ?_
  refine va_put (D := D) (ci := 1) (v := .int (nI 20)) (ty := .int) (C := RX1) (T := TX1) (N := 5) C0.1 C0.2.1 hts hF tyX1 tyX1_ok nmX1 hown hG.2.1 hG.1 hG.2.2.1 hS 5 rfl rfl 1 (by decide) (hts (.fieldLink RX1 7 "TicketCoincidencesLaw$Sim" "store" "I") (by decide +kernel)) (fun _ h9 => h9) rfl (by decide +kernel) rfl rfl (Nat.le_of_ble_eq_true rfl) dX1_init_7 (fun H locs hP hD hS => ?_)
  have hG : tcG D cI cJ N0 (wT h r1 r2 r3 r4 cI tk co cn wk n ho st ct sp [(g, .inr (1, [.int 0, .int (nI 20), .int 0, .int 0, .null]))]) s H := hG0.put hP hD hS
  refine lv_aload_n C0.1 C0.2.1 dX1_init_10 rfl (lv_at hl 0 rfl) ?_
  refine lv_iconst (v := nI 0) C0.1 C0.2.1 dX1_init_11 (by decide) ?_
  refine ts_anew (k := 0) C0 (by decide +kernel) hG0 hG hS (by decide) ⟨(Nat.le_of_ble_eq_true rfl), (Nat.le_of_ble_eq_true rfl)⟩ dX1_init_12 (fun ra H locs hG hS => ?_)
  have hG : tcG D cI cJ N0 (wT h r1 r2 r3 r4 cI tk co cn wk n ho st ct sp [(g, .inr (1, [.int 0, .int (nI 20), .int 0, .int 0, .null])), (ra, tcQr cJ 0 (fun _ => none))]) s H := hG
  refine va_put (D := D) (ci := 1) (v := .ref ra) (ty := .array (.array .int)) (C := RX1) (T := TX1) (N := 5) C0.1 C0.2.1 hts hF tyX1 tyX1_ok nmX1 hown hG.2.1 hG.1 hG.2.2.1 hS 5 rfl rfl 4 (by decide) (hts (.fieldLink RX1 15 "TicketCoincidencesLaw$Sim" "all" "[[I") (by decide +kernel)) (fun _ h9 => h9) rfl (by decide +kernel) rfl rfl (Nat.le_of_ble_eq_true rfl) dX1_init_15 (fun H locs hP hD hS => ?_)
  have hG : tcG D cI cJ N0 (wT h r1 r2 r3 r4 cI tk co cn wk n ho st ct sp [(g, .inr (1, [.int 0, .int (nI 20), .int 0, .int 0, .ref ra])), (ra, tcQr cJ 0 (fun _ => none))]) s H := hG0.put hP hD hS
  refine W.widen (k := 1) (n := 0) (by decide) (by decide) ?_
  have hu : (fun _ => none : Nat → Option Nat) = (fun j => if j < 0 then some ((fun _ => 0 : Nat → Nat) j) else none) := by funext j; simp
  rw [hu] at hG
  exact W.vret C0.1 C0.2.1 hr (fun t htt _ => ⟨rfl, ⟨_, ⟨ra, rfl⟩, by rw [htt]; exact hG.1, hG.2.2.1⟩, hS.F htt⟩) hS.2.2 dX1_init_18 hlk
