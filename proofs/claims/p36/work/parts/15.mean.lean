/-! the mean of luck, the digest -/
def mlk (tk co cn wk : Nat → Nat) (n : Nat) : UInt64 := if n = 0 then 0 else FP.ddiv (FP.i2d (nI (2 * tw tk co cn wk 0 n))) (FP.i2d (nI n))
def mlOk (s n : Nat) : Bool := decide (FP.ddiv (FP.i2d (nI s)) (FP.i2d (nI n)) &&& 0x7fffffffffffffff ≤ 0x7ff0000000000000)
def mlEq (s n : Nat) : Bool := decide (FP.dcmp (FP.ddiv (FP.i2d (nI s)) (FP.i2d (nI n))) (FP.ddiv (FP.i2d (nI s)) (FP.i2d (nI n))) = some .eq)
set_option maxRecDepth 100000 in
theorem ml_t1 : (List.range 1).all (fun t => mlOk (2 * t) 1 && mlEq (2 * t) 1) = true := by decide +kernel
set_option maxRecDepth 100000 in
theorem ml_t2 : (List.range 14).all (fun t => mlOk (2 * t) 2 && mlEq (2 * t) 2) = true := by decide +kernel
set_option maxRecDepth 100000 in
theorem ml_t3 : (List.range 40).all (fun t => mlOk (2 * t) 3 && mlEq (2 * t) 3) = true := by decide +kernel
set_option maxRecDepth 100000 in
theorem ml_t4 : (List.range 79).all (fun t => mlOk (2 * t) 4 && mlEq (2 * t) 4) = true := by decide +kernel
set_option maxRecDepth 100000 in
theorem ml_t5 : (List.range 131).all (fun t => mlOk (2 * t) 5 && mlEq (2 * t) 5) = true := by decide +kernel
set_option maxRecDepth 100000 in
theorem ml_t6 : (List.range 196).all (fun t => mlOk (2 * t) 6 && mlEq (2 * t) 6) = true := by decide +kernel
set_option maxRecDepth 100000 in
theorem ml_t7 : (List.range 274).all (fun t => mlOk (2 * t) 7 && mlEq (2 * t) 7) = true := by decide +kernel
set_option maxRecDepth 100000 in
theorem ml_t8 : (List.range 365).all (fun t => mlOk (2 * t) 8 && mlEq (2 * t) 8) = true := by decide +kernel
set_option maxRecDepth 100000 in
theorem ml_t9 : (List.range 469).all (fun t => mlOk (2 * t) 9 && mlEq (2 * t) 9) = true := by decide +kernel
set_option maxRecDepth 100000 in
theorem ml_t10 : (List.range 586).all (fun t => mlOk (2 * t) 10 && mlEq (2 * t) 10) = true := by decide +kernel
set_option maxRecDepth 100000 in
theorem ml_t11 : (List.range 716).all (fun t => mlOk (2 * t) 11 && mlEq (2 * t) 11) = true := by decide +kernel
set_option maxRecDepth 100000 in
theorem ml_t12 : (List.range 859).all (fun t => mlOk (2 * t) 12 && mlEq (2 * t) 12) = true := by decide +kernel
theorem ml_of {k B t : Nat} (h : (List.range (B + 1)).all (fun t => mlOk (2 * t) k && mlEq (2 * t) k) = true) (ht : t ≤ B) : mlOk (2 * t) k = true ∧ mlEq (2 * t) k = true := by
  have h1 := List.all_eq_true.mp h t (List.mem_range.mpr (by omega))
  simp only [Bool.and_eq_true] at h1
  exact h1
theorem pm_tri {g : Nat → Nat → Nat} {c : Nat} (h : ∀ a b, g a b ≤ c) : ∀ n, pm g n ≤ sm (fun a => a * c) n
  | 0 => Nat.le_refl 0
  | n + 1 => by
    have i := pm_tri h n
    have j := sm_le (f := g n) (c := c) (n := n) (fun k _ => h n k)
    have s1 : pm g (n + 1) = pm g n + sm (g n) n := rfl
    have s2 : sm (fun a => a * c) (n + 1) = sm (fun a => a * c) n + n * c := rfl
    omega
theorem tw_tri (tk co cn wk : Nat → Nat) (h n : Nat) : tw tk co cn wk h n ≤ sm (fun a => a * 13) n := pm_tri (twg_le tk co cn wk h) n
theorem ml_ok {n t : Nat} (h0 : 0 < n) (hn : n ≤ 12) (ht : t ≤ sm (fun a => a * 13) n) : vf_n64 (FP.ddiv (FP.i2d (nI (2 * t))) (FP.i2d (nI n))) ∧ FP.dcmp (FP.ddiv (FP.i2d (nI (2 * t))) (FP.i2d (nI n))) (FP.ddiv (FP.i2d (nI (2 * t))) (FP.i2d (nI n))) = some .eq := by
  have key : mlOk (2 * t) n = true ∧ mlEq (2 * t) n = true := by
    rcases (show n = 1 ∨ n = 2 ∨ n = 3 ∨ n = 4 ∨ n = 5 ∨ n = 6 ∨ n = 7 ∨ n = 8 ∨ n = 9 ∨ n = 10 ∨ n = 11 ∨ n = 12 by omega) with rfl | rfl | rfl | rfl | rfl | rfl | rfl | rfl | rfl | rfl | rfl | rfl
    · exact ml_of (B := 0) ml_t1 ht
    · exact ml_of (B := 13) ml_t2 ht
    · exact ml_of (B := 39) ml_t3 ht
    · exact ml_of (B := 78) ml_t4 ht
    · exact ml_of (B := 130) ml_t5 ht
    · exact ml_of (B := 195) ml_t6 ht
    · exact ml_of (B := 273) ml_t7 ht
    · exact ml_of (B := 364) ml_t8 ht
    · exact ml_of (B := 468) ml_t9 ht
    · exact ml_of (B := 585) ml_t10 ht
    · exact ml_of (B := 715) ml_t11 ht
    · exact ml_of (B := 858) ml_t12 ht
  have k1 := of_decide_eq_true (show decide (FP.ddiv (FP.i2d (nI (2 * t))) (FP.i2d (nI n)) &&& 0x7fffffffffffffff ≤ 0x7ff0000000000000) = true from key.1)
  exact ⟨k1, of_decide_eq_true key.2⟩
theorem lkn_sum {tk co cn : Nat → Nat} (wk : Nat → Nat) (n : Nat) (hc : ∀ i, cn i < 6) : sm (fun k => lkn tk co cn k n) n = 2 * tw tk co cn wk 0 n := by
  rw [← show sm (fun k => pw (twg tk co cn wk 0) k n) n = 2 * tw tk co cn wk 0 n from pw_sum (twg_sym tk co cn wk 0) n]
  refine sm_cong (fun k _ => sm_cong (fun i _ => ?_))
  show lwg tk co cn k (tk k) (cn k) i = if i ≠ k then twg tk co cn wk 0 k i else 0
  by_cases q : i = k
  · rw [if_neg (fun z => z q), lwg_0 q]
  · rw [if_pos q]
    unfold twg
    rw [cnr_0 wk (hc k), cnr_0 wk (hc i)]
    by_cases r : cn i = cn k
    · rw [if_pos r.symm, lwg_1 q r]; rfl
    · rw [if_neg (fun z => r z.symm), lwg_2 r]
def dgB (tk co cn wk : Nat → Nat) (n : Nat) (ho : Int32) (st : Nat) (ct sp : Int32) : Int64 := dg (dg (dg (dg (dg (dg (dg (dg (dg 1979 (nI n).toInt64) ho.toInt64) (nI st).toInt64) ct.toInt64) sp.toInt64) (nI (tw tk co cn wk 0 n)).toInt64) (iM (luckiest tk co n)).toInt64) (nI (bestHr tk co cn wk n)).toInt64) (iM (bestSw tk co cn wk n)).toInt64
def dgC (tk co cn : Nat → Nat) (n : Nat) (d : Int64) : Nat → Int64 | 0 => d | c + 1 => dg (dg (dgC tk co cn n d c) (nI (crowd cn c n)).toInt64) (nI (cAt tk co cn c n)).toInt64
def dgK (tk co cn wk : Nat → Nat) (n : Nat) (d : Int64) : Nat → Int64 | 0 => d | k + 1 => dg (dg (dg (dg (dg (dg (dgK tk co cn wk n d k) (nI (tk k)).toInt64) (nI (co k)).toInt64) (nI (cn k)).toInt64) (nI (wk k)).toInt64) (nI (lkn tk co cn k n)).toInt64) (nI (bestCn tk co cn k n)).toInt64
def dgst (tk co cn wk : Nat → Nat) (n : Nat) (ho : Int32) (st : Nat) (ct sp : Int32) : Int64 := dgK tk co cn wk n (dgC tk co cn n (dgB tk co cn wk n ho st ct sp) 6) n
def dfo (f : Nat → Int32) : Nat → Int64 | 0 => 1979 | k + 1 => dfo f k * 31 + (f k).toInt64
theorem tcz_get {Y : va_W} {x : Nat × va_E} : (Y ++ [x])[Y.length]? = some x := by simp
theorem tcz_set {Y : va_W} {x y : Nat × va_E} : (Y ++ [x]).set Y.length y = Y ++ [y] := by simp
theorem tcG.init {D : va_G} {cI cJ : ClassId} {N0 : Nat} {Y w2 : va_W} {s : State} {H : Heap} (h : tcG D cI cJ N0 (Y ++ w2) s H) : tcG D cI cJ N0 Y s H := by
  have e : ∀ (k : Nat) (q : Nat × va_E), Y[k]? = some q → (Y ++ w2)[k]? = some q := fun k q hq => by
    rw [List.getElem?_append_left (List.getElem?_eq_some_iff.mp hq).1]; exact hq
  exact ⟨fun k q hq => h.1 k q (e k q hq), h.2.1, ⟨fun i j p q hp hq => h.2.2.1.1 i j p q (e i p hp) (e j q hq), fun k q hq => h.2.2.1.2 k q (e k q hq)⟩, h.2.2.2.1, h.2.2.2.2⟩
theorem tcIn_in {x n : Nat} (h : x < n) (hn : n < 2 ^ 31) : tcIn (nI x) n = true := by rw [tcIn_nI (by omega)]; exact decide_eq_true h
section TCZ
variable {p : Program} {l : Launch} {e : Env} {R : Room} {s : State} {m : MethodId} {args : Array Value} {below : List Frame} {meth : Method} {c : Code} {H : Heap} {locs : List Loc} {cells slots : Nat} {Q : State → Prop}
variable {cc : ByteArray} {pc : Nat} {ls : Array Slot} {rest : List Value} {D : va_G} {cI cJ : ClassId} {N0 : Nat} {ws ws0 Y : va_W} {nL : Nat} {own : String} {Ts : List Cond}
theorem tc_newa (C0 : CallFix p m c cc nL s args Ts own) (harr : Cond.arrayClass .int ∈ Ts) (hG0 : tcG D cI cJ N0 ws0 s s.heap) (hG : tcG D cI cJ N0 ws s H) (hS : va_S (tcA N0) s.heap H locs) {n : Nat} (hn : n < 1000000) (hf : cells + 1 ≤ R.cells ∧ slots + n ≤ R.slots) (hdg : decode cc pc = .ok (.newarray .int, 2))
    (kk : ∀ (q : Nat) (H1 : Heap) (locs1 : List Loc), tcG D cI cJ N0 (ws ++ [(q, .inl (cI, n, .inl (fun _ => 0)))]) s H1 → va_S (tcA N0) s.heap H1 locs1 → W p l e R s m args below meth c H1 locs1 (cells + 1) (slots + n) Q (F0 m (pc + 2) ls (.ref q :: rest))) : W p l e R s m args below meth c H locs cells slots Q (F0 m pc ls (.int (nI n) :: rest)) := by
  refine va_newa (atype := .int) C0.1 C0.2.1 (C0.2.2.2.2 _ harr) rfl hG.2.1 hG.1 hG.2.2.1 hS (fun q h => Nat.le_trans hG0.2.2.2.1 h) (a0 := (n, .inl (fun _ => 0))) (N' := n) (fun cA => rfl) (nI_pos (by omega)) (nI_clamp (by omega)) (by show n * 4 ≤ 536870912; omega) hf.1 hf.2 hdg (fun q cA H1 hK hP hD hS1 => ?_)
  have h1 : va_RA s cI .int := (hG.2.1.2 0 (cI, .int) rfl).2
  have h2 : va_RA s cA .int := (hK.2 2 (cA, .int) rfl).2
  have e1 : cA = cI := Option.some.inj ((show _ = some cA from h2).symm.trans (show _ = some cI from h1))
  subst e1
  exact kk q H1 locs (hG0.put hP hD hS1) hS1
theorem tcz_ald (C0 : CallFix p m c cc nL s args Ts own) {q i k : Nat} {f : Nat → Int32} (hG : tcG D cI cJ N0 (Y ++ [(q, .inl (cI, k, .inl f))]) s H) (hi : i < k) (hk : k < 2 ^ 31) (hdg : decode cc pc = .ok (.iaload, 1)) (kk : W p l e R s m args below meth c H locs cells slots Q (F0 m (pc + 1) ls (.int (f i) :: rest))) : W p l e R s m args below meth c H locs cells slots Q (F0 m pc ls (.int (nI i) :: .ref q :: rest)) := by
  refine va_iald C0.1 C0.2.1 hG.2.1 hG.1 Y.length 0 tcz_get rfl (vp_in_nI hi hk) hdg ?_
  rw [nI_clamp (by omega)]
  exact kk
theorem tcz_ast (C0 : CallFix p m c cc nL s args Ts own) (hG0 : tcG D cI cJ N0 ws0 s s.heap) {q i k : Nat} {f : Nat → Int32} {x : Int32} (hG : tcG D cI cJ N0 (Y ++ [(q, .inl (cI, k, .inl f))]) s H) (hS : va_S (tcA N0) s.heap H locs) (hi : i < k) (hk : k < 2 ^ 31) (hdg : decode cc pc = .ok (.iastore, 1)) (kk : ∀ (H1 : Heap) (locs1 : List Loc), tcG D cI cJ N0 (Y ++ [(q, .inl (cI, k, .inl (upd f i x)))]) s H1 → va_S (tcA N0) s.heap H1 locs1 → W p l e R s m args below meth c H1 locs1 cells slots Q (F0 m (pc + 1) ls rest)) : W p l e R s m args below meth c H locs cells slots Q (F0 m pc ls (.int x :: .int (nI i) :: .ref q :: rest)) := by
  refine va_iast C0.1 C0.2.1 hG.2.1 hG.1 hG.2.2.1 hS Y.length 0 tcz_get rfl (vp_in_nI hi hk) hdg (fun H1 locs1 hP hD hS1 => ?_)
  rw [nI_clamp (by omega), tcz_set] at hP hD
  exact kk H1 locs1 (hG0.put hP hD hS1) hS1
end TCZ
