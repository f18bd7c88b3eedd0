/-! small facts for the walks -/
def tcEs : List String := ["java/lang/IndexOutOfBoundsException", "java/lang/IllegalArgumentException", "java/lang/IllegalStateException"]
def tcEa : List String := ["java/lang/IllegalArgumentException", "java/lang/IllegalStateException"]
theorem sm_step {f : Nat → Nat} {i q x : Nat} (hq : q = sm f i) (hx : f i = x) : q + x = sm f (i + 1) := by rw [sm_s, hq, hx]
theorem sm_skip {f : Nat → Nat} {i q : Nat} (hq : q = sm f i) (hx : f i = 0) : q = sm f (i + 1) := by rw [sm_s, hx]; exact hq
theorem sm_step2 {f : Nat → Nat} {i q q0 x : Nat} (hq : q = q0 + sm f i) (hx : f i = x) : q + x = q0 + sm f (i + 1) := by rw [sm_s, hq, hx]; omega
theorem sm_skip2 {f : Nat → Nat} {i q q0 : Nat} (hq : q = q0 + sm f i) (hx : f i = 0) : q = q0 + sm f (i + 1) := by rw [sm_s, hx]; exact hq
theorem sm_start2 {f : Nat → Nat} {i q : Nat} (h : ∀ k, k < i → f k = 0) : q = q + sm f i := by rw [sm_zero h]; rfl
theorem swp_lt {f : Nat → Nat} {m : Nat} (h : ∀ i, f i < m) (a b j : Nat) : swp f a b j < m := by
  unfold swp va_up; split
  · exact h a
  · split
    · exact h b
    · exact h j
theorem up_lt {f : Nat → Nat} {m x : Nat} (h : ∀ i, f i < m) (hx : x < m) (a j : Nat) : va_up f a x j < m := by
  unfold va_up; split
  · exact hx
  · exact h j
theorem tOk.tk {tk tk' co cn wk : Nat → Nat} {n st : Nat} (hk : tOk tk co cn wk n st) (h : ∀ i, tk' i < 100) : tOk tk' co cn wk n st := ⟨h, hk.2⟩
theorem tOk.co {tk co co' cn wk : Nat → Nat} {n st : Nat} (hk : tOk tk co cn wk n st) (h : ∀ i, co' i < 5) : tOk tk co' cn wk n st := ⟨hk.1, h, hk.2.2⟩
theorem tOk.cn {tk co cn cn' wk : Nat → Nat} {n st : Nat} (hk : tOk tk co cn wk n st) (h : ∀ i, cn' i < 6) : tOk tk co cn' wk n st := ⟨hk.1, hk.2.1, h, hk.2.2.2⟩
theorem tOk.wk {tk co cn wk wk' : Nat → Nat} {n st : Nat} (hk : tOk tk co cn wk n st) (h : ∀ i, wk' i < 6) : tOk tk co cn wk' n st := ⟨hk.1, hk.2.1, hk.2.2.1, h, hk.2.2.2.2⟩
theorem tOk.n {tk co cn wk : Nat → Nat} {n n' st : Nat} (hk : tOk tk co cn wk n st) (h : n' ≤ 12) : tOk tk co cn wk n' st := ⟨hk.1, hk.2.1, hk.2.2.1, hk.2.2.2.1, h, hk.2.2.2.2.2⟩
theorem tOk.st {tk co cn wk : Nat → Nat} {n st st' : Nat} (hk : tOk tk co cn wk n st) (h : st' ≤ 100) : tOk tk co cn wk n st' := ⟨hk.1, hk.2.1, hk.2.2.1, hk.2.2.2.1, hk.2.2.2.2.1, h⟩
theorem tc_set_get {ws : va_W} {q0 : Nat} {x y : Nat × va_E} (h : ws[q0]? = some x) : (ws.set q0 y)[q0]? = some y := by
  rw [List.getElem?_set]
  have hl : q0 < ws.length := (List.getElem?_eq_some_iff.mp h).1
  simp [hl]
/-- what each pair's code says -/
theorem cdP_1 {a b : Int32} {n : Nat} (h : tcIn a n = false) : cdP a b n = 1 := if_neg (by rw [h]; decide)
theorem cdP_2 {a b : Int32} {n : Nat} (h : tcIn b n = false) : cdP a b n = 1 := by
  unfold cdP; split
  · rw [h]; rfl
  · rfl
theorem cdP_3 {a b : Int32} {n : Nat} (ha : tcIn a n = true) (hb : tcIn b n = true) (e : a = b) : cdP a b n = 2 := by unfold cdP; rw [if_pos ha, if_pos hb, if_pos e]
theorem cdP_0 {a b : Int32} {n : Nat} (ha : tcIn a n = true) (hb : tcIn b n = true) (e : ¬ a = b) : cdP a b n = 0 := by unfold cdP; rw [if_pos ha, if_pos hb, if_neg e]
theorem cdP_ok {a b : Int32} {n : Nat} (h : cdP a b n = 0) : tcIn a n = true ∧ tcIn b n = true ∧ ¬ a = b := by
  cases qa : tcIn a n with
  | false => rw [cdP_1 qa] at h; cases h
  | true =>
    cases qb : tcIn b n with
    | false => rw [cdP_2 qb] at h; cases h
    | true =>
      refine ⟨rfl, rfl, fun e => ?_⟩
      rw [cdP_3 qa qb e] at h; cases h
theorem cdK_1 {k x : Int32} {n m : Nat} (h : tcIn k n = false) : cdK k n x m = 1 := if_neg (by rw [h]; decide)
theorem cdK_2 {k x : Int32} {n m : Nat} (h : tcIn k n = true) (h2 : tcIn x m = false) : cdK k n x m = 2 := by unfold cdK; rw [if_pos h, if_neg (by rw [h2]; decide)]
theorem cdK_0 {k x : Int32} {n m : Nat} (h : tcIn k n = true) (h2 : tcIn x m = true) : cdK k n x m = 0 := by unfold cdK; rw [if_pos h, if_pos h2]
/-- a cost against the store -/
def cdC (c st : Nat) : Nat := if c ≤ st then 0 else 3
theorem cdC_y {c st : Nat} (h : c ≤ st) : cdC c st = 0 := if_pos h
theorem cdC_n {c st : Nat} (h : st < c) : cdC c st = 3 := if_neg (by omega)
theorem cdC_0 {c st : Nat} (h : cdC c st = 0) : c ≤ st := by
  rcases Nat.lt_or_ge st c with q | q
  · rw [cdC_n q] at h; cases h
  · exact q
theorem cdC_s {c st i : Nat} (h : cdC c st = i + 1) : st < c ∧ i = 2 := by
  rcases Nat.lt_or_ge st c with q | q
  · rw [cdC_n q] at h; exact ⟨q, by omega⟩
  · rw [cdC_y q] at h; cases h
/-- hours, 1 to 60 -/
def tc60 (x : Int32) : Bool := decide (1 ≤ x.toInt ∧ x.toInt ≤ 60)
def cdH (x : Int32) : Nat := if tc60 x = true then 0 else 1
theorem tc60_lo {x : Int32} (h : x < nI 1) : tc60 x = false := by
  rw [Int32.lt_iff_toInt_lt, nI_toInt (by decide)] at h
  unfold tc60; rw [decide_eq_false_iff_not]; omega
theorem tc60_hi {x : Int32} (h : ¬ x ≤ nI 60) : tc60 x = false := by
  rw [Int32.le_iff_toInt_le, nI_toInt (by decide)] at h
  unfold tc60; rw [decide_eq_false_iff_not]; omega
theorem tc60_y {x : Int32} (h : ¬ x < nI 1) (h2 : x ≤ nI 60) : tc60 x = true := by
  rw [Int32.lt_iff_toInt_lt, nI_toInt (by decide)] at h
  rw [Int32.le_iff_toInt_le, nI_toInt (by decide)] at h2
  unfold tc60; rw [decide_eq_true_iff]; omega
theorem tc60_of {x : Int32} (h : tc60 x = true) : ∃ j : Nat, (1 ≤ j ∧ j ≤ 60) ∧ x = nI j := by
  unfold tc60 at h; rw [decide_eq_true_iff] at h
  obtain ⟨j, h1, h2⟩ := tcIn_of (x := x) (n := 61) (by decide) (by unfold tcIn; rw [decide_eq_true_iff]; omega)
  refine ⟨j, ?_, h2⟩
  rw [h2, nI_toInt (by omega)] at h; omega
theorem cdH_y {x : Int32} (h : tc60 x = true) : cdH x = 0 := if_pos h
theorem cdH_n {x : Int32} (h : tc60 x = false) : cdH x = 1 := if_neg (by rw [h]; decide)
/-- a new one's code -/
def cdA (t c k w : Int32) (n : Nat) : Nat := if tcIn t 100 = true ∧ tcIn c 5 = true ∧ tcIn k 6 = true ∧ tcIn w 6 = true then (if n < 12 then 0 else 2) else 1
theorem cdA_t {t c k w : Int32} {n : Nat} (h : tcIn t 100 = false) : cdA t c k w n = 1 := if_neg (fun z => by rw [h] at z; exact absurd z.1 (by decide))
theorem cdA_c {t c k w : Int32} {n : Nat} (h : tcIn c 5 = false) : cdA t c k w n = 1 := if_neg (fun z => by rw [h] at z; exact absurd z.2.1 (by decide))
theorem cdA_k {t c k w : Int32} {n : Nat} (h : tcIn k 6 = false) : cdA t c k w n = 1 := if_neg (fun z => by rw [h] at z; exact absurd z.2.2.1 (by decide))
theorem cdA_w {t c k w : Int32} {n : Nat} (h : tcIn w 6 = false) : cdA t c k w n = 1 := if_neg (fun z => by rw [h] at z; exact absurd z.2.2.2 (by decide))
theorem cdA_2 {t c k w : Int32} {n : Nat} (h1 : tcIn t 100 = true) (h2 : tcIn c 5 = true) (h3 : tcIn k 6 = true) (h4 : tcIn w 6 = true) (h : 12 ≤ n) : cdA t c k w n = 2 := by unfold cdA; rw [if_pos ⟨h1, h2, h3, h4⟩, if_neg (by omega)]
theorem cdA_0 {t c k w : Int32} {n : Nat} (h1 : tcIn t 100 = true) (h2 : tcIn c 5 = true) (h3 : tcIn k 6 = true) (h4 : tcIn w 6 = true) (h : n < 12) : cdA t c k w n = 0 := by unfold cdA; rw [if_pos ⟨h1, h2, h3, h4⟩, if_pos h]
/-- codes of move, draw, the swaps -/
def cdMv (k c : Int32) (cn : Nat → Nat) (n st : Nat) : Nat := if cdK k n c 6 = 0 then (if cn (ix k) = ix c ∨ st < way (cn (ix k)) (ix c) then 3 else 0) else cdK k n c 6
def cdDr (k t : Int32) (n st : Nat) : Nat := if cdK k n t 100 = 0 then cdC 12 st else cdK k n t 100
def cdSu (a b : Int32) (cn : Nat → Nat) (n st : Nat) : Nat := if cdP a b n = 0 then (if cn (ix a) = cn (ix b) ∧ 3 ≤ st then 0 else 3) else cdP a b n
def cdSt (a b : Int32) (n st : Nat) : Nat := if cdP a b n = 0 then cdC 8 st else cdP a b n
theorem cd_in {x y : Nat} (h : x = 0) : (if x = 0 then y else x) = y := if_pos h
theorem cd_out {x y i : Nat} (h : x = i + 1) : (if x = 0 then y else x) = i + 1 := by rw [if_neg (by omega)]; exact h
