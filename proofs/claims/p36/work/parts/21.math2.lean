/-! the Sim's rows as the town's numbers; sums over corners -/
def tSy (tk co cn wk : Nat → Nat) (n : Nat) (f : Nat → Nat → Nat) : Prop := ∀ i, i < n → f i 0 = tk i / 10 ∧ f i 1 = tk i % 10 ∧ f i 2 = co i ∧ f i 3 = cn i ∧ f i 4 = wk i
theorem tSy.c2 {tk co cn wk : Nat → Nat} {n k x : Nat} {f : Nat → Nat → Nat} (h : tSy tk co cn wk n f) : tSy tk (va_up co k x) cn wk n (upR f k 2 x) := by
  intro i hi
  have := h i hi
  by_cases e : i = k
  · subst e; simp [upR, va_up]; omega
  · simp [upR, va_up, e]; omega
theorem tSy.c3 {tk co cn wk : Nat → Nat} {n k x : Nat} {f : Nat → Nat → Nat} (h : tSy tk co cn wk n f) : tSy tk co (va_up cn k x) wk n (upR f k 3 x) := by
  intro i hi
  have := h i hi
  by_cases e : i = k
  · subst e; simp [upR, va_up]; omega
  · simp [upR, va_up, e]; omega
theorem tSy.c4 {tk co cn wk : Nat → Nat} {n k x : Nat} {f : Nat → Nat → Nat} (h : tSy tk co cn wk n f) : tSy tk co cn (va_up wk k x) n (upR f k 4 x) := by
  intro i hi
  have := h i hi
  by_cases e : i = k
  · subst e; simp [upR, va_up]; omega
  · simp [upR, va_up, e]; omega
theorem tSy.set {tk co cn wk : Nat → Nat} {n k t : Nat} {f : Nat → Nat → Nat} (h : tSy tk co cn wk n f) : tSy (va_up tk k t) co cn wk n (upR (upR f k 0 (t / 10)) k 1 (t % 10)) := by
  intro i hi
  have := h i hi
  by_cases e : i = k
  · subst e; simp [upR, va_up]; omega
  · simp [upR, va_up, e]; omega
theorem tSy.cn {tk co cn cn' wk : Nat → Nat} {n : Nat} {f : Nat → Nat → Nat} (e : cn = cn') (h : tSy tk co cn wk n f) : tSy tk co cn' wk n f := e ▸ h
/-- a new row behind the others -/
theorem tSy.push {tk co cn wk mf : Nat → Nat} {n a b c d e : Nat} {f : Nat → Nat → Nat} (h : tSy tk co cn wk n f) (ha : a < 10) (hb : b < 10) (h0 : mf 0 = a) (h1 : mf 1 = b) (h2 : mf 2 = c) (h3 : mf 3 = d) (h4 : mf 4 = e) : tSy (va_up tk n (10 * a + b)) (va_up co n c) (va_up cn n d) (va_up wk n e) (n + 1) (va_up f n mf) := by
  intro i hi
  by_cases q : i = n
  · subst q; simp [va_up, h0, h1, h2, h3, h4]; omega
  · have := h i (by omega)
    simp [va_up, q]; omega
theorem va_up_at {α : Type} (f : Nat → α) (k : Nat) (v : α) : va_up f k v k = v := by simp [va_up]
theorem va_up_up {α : Type} (f : Nat → α) (k : Nat) (v u : α) : va_up (va_up f k v) k u = va_up f k u := by
  funext j; by_cases h : j = k <;> simp [va_up, h]
theorem va_up_id {α : Type} {f : Nat → α} {k : Nat} {v : α} (h : f k = v) : va_up f k v = f := by
  funext j; by_cases e : j = k
  · subst e; simp [va_up, h]
  · simp [va_up, e]
/-- 10 a + b, less 10 c, less d -/
theorem dig_sub (t u : Nat) : nI (10 * (t / 10) + t % 10) - nI (10 * (u / 10)) - nI (u % 10) = nI t - nI u := by
  rw [show 10 * (t / 10) + t % 10 = t by omega, show nI u = nI (10 * (u / 10)) + nI (u % 10) by rw [nI_add, show 10 * (u / 10) + u % 10 = u by omega]]
  rw [Int32.sub_eq_add_neg, Int32.sub_eq_add_neg, Int32.sub_eq_add_neg, Int32.neg_add, Int32.sub_eq_add_neg, Int32.add_assoc]
/-- the luck of those at a corner, added, is twice that corner's coincidences -/
theorem at_sum {tk co cn : Nat → Nat} (c n : Nat) : sm (fun k => if cn k = c then lkn tk co cn k n else 0) n = 2 * cAt tk co cn c n := by
  rw [← show sm (fun k => pw (cag tk co cn c) k n) n = 2 * cAt tk co cn c n from pw_sum (cag_sym tk co cn c) n]
  refine sm_cong (fun k _ => ?_)
  by_cases q : cn k = c
  · rw [if_pos q]
    refine sm_cong (fun i _ => ?_)
    show lwg tk co cn k (tk k) (cn k) i = if i ≠ k then cag tk co cn c k i else 0
    by_cases r : i = k
    · rw [if_neg (fun z => z r), lwg_0 r]
    · rw [if_pos r]; unfold cag
      by_cases t : cn i = cn k
      · rw [if_pos ⟨q, t.trans q⟩, lwg_1 r t]; rfl
      · rw [if_neg (fun z => t (z.2.trans q.symm)), lwg_2 t]
  · rw [if_neg q]; symm
    refine sm_zero (fun i _ => ?_)
    show (if i ≠ k then cag tk co cn c k i else 0) = 0
    unfold cag
    rw [if_neg (fun z : cn k = c ∧ cn i = c => q z.1)]; simp
theorem pm_sm (g : Nat → Nat → Nat → Nat) (n : Nat) : ∀ k, sm (fun c => pm (g c) n) k = pm (fun a b => sm (fun c => g c a b) k) n
  | 0 => by
    symm; exact sm_zero (fun a _ => sm_zero (fun b _ => rfl))
  | k + 1 => by
    rw [sm_s, pm_sm g n k]
    unfold pm
    rw [← sm_add]
    refine sm_cong (fun a _ => ?_)
    rw [← sm_add]
    rfl
theorem sm_one {x y : Nat} : ∀ {k : Nat}, x < k → sm (fun c => if x = c then y else 0) k = y
  | 0, h => absurd h (Nat.not_lt_zero _)
  | k + 1, h => by
    rw [sm_s]
    by_cases e : x = k
    · subst e
      rw [if_pos rfl, sm_zero (fun c hc => if_neg (by omega))]; omega
    · rw [if_neg e, sm_one (by omega)]; omega
/-- the corners' coincidences, added, are the town's -/
theorem town_sum {tk co cn : Nat → Nat} (wk : Nat → Nat) (n : Nat) (hc : ∀ i, cn i < 6) : sm (fun c => cAt tk co cn c n) 6 = tw tk co cn wk 0 n := by
  refine (pm_sm (fun c => cag tk co cn c) n 6).trans ?_
  refine pm_cong (fun a b _ _ => ?_)
  unfold twg
  rw [cnr_0 wk (hc a), cnr_0 wk (hc b)]
  by_cases e : cn a = cn b
  · rw [if_pos e]
    refine Eq.trans (sm_cong (fun c _ => ?_)) (sm_one (hc a))
    unfold cag
    by_cases q : cn a = c
    · rw [if_pos ⟨q, e.symm.trans q⟩, if_pos q]
    · rw [if_neg (fun z => q z.1), if_neg q]
  · rw [if_neg e]
    exact sm_zero (fun c _ => if_neg (fun z => e (z.1.trans z.2.symm)))
/-- all strangers stand somewhere -/
theorem crowd_sum {cn : Nat → Nat} (n : Nat) (hc : ∀ i, cn i < 6) : sm (fun c => crowd cn c n) 6 = n := by
  induction n with
  | zero => rfl
  | succ n ih =>
    have e : ∀ c, crowd cn c (n + 1) = crowd cn c n + (if cn n = c then 1 else 0) := fun _ => rfl
    rw [sm_cong (fun c _ => e c), sm_add, ih, sm_one (hc n)]
theorem way_y {x y s : Nat} (hx : x < 6) (hy : y < 6) (hs : s ≤ min (adist x y) (6 - adist x y)) (h : (x + s) % 6 = y ∨ (y + s) % 6 = x) : 2 * s = way x y := by
  unfold way; unfold adist at hs ⊢
  split at hs <;> rename_i q
  · rw [if_pos q]; omega
  · rw [if_neg q]; omega
theorem way_n {x y s : Nat} (hx : x < 6) (hy : y < 6) (hs : s ≤ min (adist x y) (6 - adist x y)) (h : ¬ (x + s) % 6 = y) (h2 : ¬ (y + s) % 6 = x) : s + 1 ≤ min (adist x y) (6 - adist x y) := by
  unfold adist at hs ⊢
  split at hs <;> rename_i q
  · rw [if_pos q]; omega
  · rw [if_neg q]; omega
theorem mod_5 {c j : Nat} (h : (c + j) % 6 = 5) : 0 = (c + (j + 1)) % 6 := by omega
theorem mod_n {c j : Nat} (h : ¬ (c + j) % 6 = 5) : (c + j) % 6 + 1 = (c + (j + 1)) % 6 := by omega
theorem cnr_1 (cn wk : Nat → Nat) (k : Nat) : cnr cn wk 1 k = (cn k + wk k) % 6 := by unfold cnr; rw [Nat.mul_one]
theorem pcn_up (cn wk : Nat → Nat) (k : Nat) : va_up (pcn cn wk k) k ((cn k + wk k) % 6) = pcn cn wk (k + 1) := by rw [← pcn_s, pcn_at, cnr_1]
theorem pcn_k (cn wk : Nat → Nat) (k : Nat) : pcn cn wk k k = cn k := by unfold pcn; rw [if_neg (Nat.lt_irrefl k)]
section TCB
variable {p : Program} {l : Launch} {e : Env} {R : Room} {s : State} {m : MethodId} {args : Array Value} {below : List Frame} {meth : Method} {c : Code} {H : Heap} {locs : List Loc} {cells slots : Nat} {Q : State → Prop}
variable {cc : ByteArray} {pc : Nat} {ls : Array Slot} {rest st0 : List Value} {D : va_G} {cI cJ : ClassId} {N0 : Nat} {ws ws' ws0 : va_W} {mc ms nL : Nat} {own : String} {Ts : List Cond}
theorem tc_any {x : Int32} (k : ∀ y : Int32, W p l e R s m args below meth c H locs cells slots Q (F0 m pc ls (.int y :: rest))) : W p l e R s m args below meth c H locs cells slots Q (F0 m pc ls (.int x :: rest)) := k x
theorem iM_dec {a : Nat} : nI a + Int32.ofInt (-1) = iM a := by
  unfold iM; rw [Int32.sub_eq_add_neg]; rfl
/-- one less against zero -/
theorem tmz_if_lt (hx : p.tables.exec = Jvm.exec) (hb : c.code = cc) {a : Nat} {off : Int} {tgt : Nat} (hdg : decode cc pc = .ok (.ifCond .lt off, 3)) (ht : (pc : Int) + off = (tgt : Int)) (ha : a < 2 ^ 31) (kt : a = 0 → W p l e R s m args below meth c H locs cells slots Q (F0 m tgt ls rest)) (kf : 0 < a → W p l e R s m args below meth c H locs cells slots Q (F0 m (pc + 3) ls rest)) : W p l e R s m args below meth c H locs cells slots Q (F0 m pc ls (.int (iM a) :: rest)) := by
  have h0 : (0 : Int32).toInt = 0 := by decide
  exact lv_if_lt hx hb hdg ht (fun h => kt (by rw [Int32.lt_iff_toInt_lt, iM_toInt ha, h0] at h; omega)) (fun h => kf (by rw [Int32.lt_iff_toInt_lt, iM_toInt ha, h0] at h; omega))
theorem tmz_if_ge (hx : p.tables.exec = Jvm.exec) (hb : c.code = cc) {a : Nat} {off : Int} {tgt : Nat} (hdg : decode cc pc = .ok (.ifCond .ge off, 3)) (ht : (pc : Int) + off = (tgt : Int)) (ha : a < 2 ^ 31) (kt : 0 < a → W p l e R s m args below meth c H locs cells slots Q (F0 m tgt ls rest)) (kf : a = 0 → W p l e R s m args below meth c H locs cells slots Q (F0 m (pc + 3) ls rest)) : W p l e R s m args below meth c H locs cells slots Q (F0 m pc ls (.int (iM a) :: rest)) := by
  have h0 : (0 : Int32).toInt = 0 := by decide
  exact lv_if_ge hx hb hdg ht (fun h => kt (by rw [Int32.le_iff_toInt_le, iM_toInt ha, h0] at h; omega)) (fun h => kf (by rw [Int32.le_iff_toInt_le, iM_toInt ha, h0] at h; omega))
theorem tm_icmp_ge (hx : p.tables.exec = Jvm.exec) (hb : c.code = cc) {a b : Nat} {off : Int} {tgt : Nat} (hdg : decode cc pc = .ok (.if_icmp .ge off, 3)) (ht : (pc : Int) + off = (tgt : Int)) (ha : a < 2 ^ 31) (h2 : b < 2 ^ 31) (kt : b ≤ a + 1 → W p l e R s m args below meth c H locs cells slots Q (F0 m tgt ls rest)) (kf : a + 1 < b → W p l e R s m args below meth c H locs cells slots Q (F0 m (pc + 3) ls rest)) : W p l e R s m args below meth c H locs cells slots Q (F0 m pc ls (.int (iM b) :: .int (nI a) :: rest)) :=
  lv_icmp_ge hx hb hdg ht (fun h => kt (by rw [Int32.le_iff_toInt_le, iM_toInt h2, nI_toInt ha] at h; omega)) (fun h => kf (by rw [Int32.le_iff_toInt_le, iM_toInt h2, nI_toInt ha] at h; omega))
theorem tmn_icmp_le (hx : p.tables.exec = Jvm.exec) (hb : c.code = cc) {a b : Nat} {off : Int} {tgt : Nat} (hdg : decode cc pc = .ok (.if_icmp .le off, 3)) (ht : (pc : Int) + off = (tgt : Int)) (ha : a < 2 ^ 31) (h2 : b < 2 ^ 31) (kt : a ≤ b + 1 → W p l e R s m args below meth c H locs cells slots Q (F0 m tgt ls rest)) (kf : b + 1 < a → W p l e R s m args below meth c H locs cells slots Q (F0 m (pc + 3) ls rest)) : W p l e R s m args below meth c H locs cells slots Q (F0 m pc ls (.int (nI b) :: .int (iM a) :: rest)) :=
  lv_icmp_le hx hb hdg ht (fun h => kt (by rw [Int32.le_iff_toInt_le, iM_toInt ha, nI_toInt h2] at h; omega)) (fun h => kf (by rw [Int32.le_iff_toInt_le, iM_toInt ha, nI_toInt h2] at h; omega))
/-- booleans against booleans -/
theorem b2n_inj {a b : Bool} : nI (b2n a) = nI (b2n b) ↔ a = b := by cases a <;> cases b <;> decide
theorem tbb_icmp_ne (hx : p.tables.exec = Jvm.exec) (hb : c.code = cc) {x y : Int32} {off : Int} {tgt : Nat} (hdg : decode cc pc = .ok (.if_icmp .ne off, 3)) (ht : (pc : Int) + off = (tgt : Int)) (kt : ¬ x = y → W p l e R s m args below meth c H locs cells slots Q (F0 m tgt ls rest)) (kf : x = y → W p l e R s m args below meth c H locs cells slots Q (F0 m (pc + 3) ls rest)) : W p l e R s m args below meth c H locs cells slots Q (F0 m pc ls (.int y :: .int x :: rest)) :=
  lv_icmp_ne hx hb hdg ht (fun h => kt h) (fun h => kf h)
theorem tbb_icmp_eq (hx : p.tables.exec = Jvm.exec) (hb : c.code = cc) {x y : Int32} {off : Int} {tgt : Nat} (hdg : decode cc pc = .ok (.if_icmp .eq off, 3)) (ht : (pc : Int) + off = (tgt : Int)) (kt : x = y → W p l e R s m args below meth c H locs cells slots Q (F0 m tgt ls rest)) (kf : ¬ x = y → W p l e R s m args below meth c H locs cells slots Q (F0 m (pc + 3) ls rest)) : W p l e R s m args below meth c H locs cells slots Q (F0 m pc ls (.int y :: .int x :: rest)) :=
  lv_icmp_eq hx hb hdg ht (fun h => kt h) (fun h => kf h)
end TCB
