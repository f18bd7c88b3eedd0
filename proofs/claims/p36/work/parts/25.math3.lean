/-! the best of many: what the answers promise of each other -/
theorem mlk_self {tk co cn wk : Nat → Nat} {n : Nat} (hn : n ≤ 12) : FP.dcmp (mlk tk co cn wk n) (mlk tk co cn wk n) = some .eq := by
  unfold mlk
  by_cases h : n = 0
  · rw [if_pos h]; decide +kernel
  · rw [if_neg h]; exact (ml_ok (by omega) hn (tw_tri tk co cn wk 0 n)).2
/-- the pairs of Dn are looked at: the most is t2 - 1, of the pair t1 - 1, the smallest of equals -/
def lkP (p : Nat → Nat → Nat) (n t1 t2 : Nat) (Dn : Nat → Nat → Prop) : Prop := t1 ≤ 1200 ∧ (∀ x y, x < y → y < n → Dn x y → p x y + 1 ≤ t2 ∧ (p x y + 1 = t2 → t1 ≤ 100 * x + y + 1)) ∧ ((t1 = 0 ∧ t2 = 0) ∨ ∃ x y, x < y ∧ y < n ∧ Dn x y ∧ t1 = 100 * x + y + 1 ∧ t2 = p x y + 1)
theorem lkP.imp {p : Nat → Nat → Nat} {n t1 t2 : Nat} {Dn Dm : Nat → Nat → Prop} (h : lkP p n t1 t2 Dn) (e : ∀ x y, x < y → y < n → (Dn x y ↔ Dm x y)) : lkP p n t1 t2 Dm := by
  refine ⟨h.1, fun x y hx hy hd => h.2.1 x y hx hy ((e x y hx hy).mpr hd), h.2.2.imp id ?_⟩
  rintro ⟨x, y, a, b, c, d⟩
  exact ⟨x, y, a, b, (e x y a b).mp c, d⟩
theorem lkP.none {p : Nat → Nat → Nat} {n : Nat} {Dn : Nat → Nat → Prop} (h : ∀ x y, x < y → y < n → ¬ Dn x y) : lkP p n 0 0 Dn := ⟨by omega, fun x y a b c => absurd c (h x y a b), Or.inl ⟨rfl, rfl⟩⟩
/-- one more pair a b: it is more -/
theorem lkP.more {p : Nat → Nat → Nat} {n t1 t2 a b : Nat} {Dn : Nat → Nat → Prop} (hn : n ≤ 12) (h : lkP p n t1 t2 Dn) (hab : a < b) (hb : b < n) (hm : t2 ≤ p a b) : lkP p n (100 * a + b + 1) (p a b + 1) (fun x y => Dn x y ∨ (x = a ∧ y = b)) := by
  refine ⟨by omega, fun x y hx hy hd => ?_, Or.inr ⟨a, b, hab, hb, Or.inr ⟨rfl, rfl⟩, rfl, rfl⟩⟩
  rcases hd with hd | ⟨rfl, rfl⟩
  · have := h.2.1 x y hx hy hd; exact ⟨by omega, fun e => by omega⟩
  · exact ⟨by omega, fun _ => by omega⟩
/-- .. it is as much or more, and ahead of the others -/
theorem lkP.ahead {p : Nat → Nat → Nat} {n t1 t2 a b : Nat} {Dn : Nat → Nat → Prop} (hn : n ≤ 12) (h : lkP p n t1 t2 Dn) (hab : a < b) (hb : b < n) (hm : t2 ≤ p a b + 1) (ha : ∀ x y, x < y → y < n → Dn x y → 100 * a + b ≤ 100 * x + y) : lkP p n (100 * a + b + 1) (p a b + 1) (fun x y => Dn x y ∨ (x = a ∧ y = b)) := by
  refine ⟨by omega, fun x y hx hy hd => ?_, Or.inr ⟨a, b, hab, hb, Or.inr ⟨rfl, rfl⟩, rfl, rfl⟩⟩
  rcases hd with hd | ⟨rfl, rfl⟩
  · have := h.2.1 x y hx hy hd; exact ⟨by omega, fun e => by have := ha x y hx hy hd; omega⟩
  · exact ⟨by omega, fun _ => by omega⟩
/-- .. it is less, or behind the others -/
theorem lkP.less {p : Nat → Nat → Nat} {n t1 t2 a b : Nat} {Dn : Nat → Nat → Prop} (h : lkP p n t1 t2 Dn) (hm : p a b + 1 ≤ t2) (ha : p a b + 1 = t2 → t1 ≤ 100 * a + b + 1) : lkP p n t1 t2 (fun x y => Dn x y ∨ (x = a ∧ y = b)) := by
  refine ⟨h.1, fun x y hx hy hd => ?_, h.2.2.imp id ?_⟩
  · rcases hd with hd | ⟨rfl, rfl⟩
    · exact h.2.1 x y hx hy hd
    · exact ⟨hm, ha⟩
  · rintro ⟨x, y, a, b, c, d⟩
    exact ⟨x, y, a, b, Or.inl c, d⟩
theorem lkP.uniq {p : Nat → Nat → Nat} {n t1 t2 u1 u2 : Nat} {Dn : Nat → Nat → Prop} (h : lkP p n t1 t2 Dn) (k : lkP p n u1 u2 Dn) : t1 = u1 := by
  rcases h.2.2 with ⟨e1, e2⟩ | ⟨x, y, a, b, c, d, f⟩
  · rcases k.2.2 with ⟨g1, g2⟩ | ⟨x, y, a, b, c, d, f⟩
    · omega
    · have := (h.2.1 x y a b c).1; omega
  · rcases k.2.2 with ⟨g1, g2⟩ | ⟨x', y', a', b', c', d', f'⟩
    · have := (k.2.1 x y a b c).1; omega
    · have i1 := h.2.1 x' y' a' b' c'; have i2 := k.2.1 x y a b c
      have e : t2 = u2 := by omega
      have j1 := i1.2 (by omega); have j2 := i2.2 (by omega)
      omega
theorem lkr_P {p : Nat → Nat → Nat} {n a : Nat} (hn : n ≤ 12) (ha : a < n) {s : Nat × Nat} (h : lkP p n s.2 s.1 (fun x _ => x < a)) : ∀ {b : Nat}, b ≤ n → lkP p n (lkr p a b s).2 (lkr p a b s).1 (fun x y => x < a ∨ (x = a ∧ y < b))
  | 0, _ => by
    show lkP p n s.2 s.1 _
    exact h.imp (fun x y _ _ => ⟨fun q => Or.inl q, fun q => q.elim id (fun z => absurd z.2 (Nat.not_lt_zero _))⟩)
  | b + 1, hb => by
    have ih := lkr_P hn ha h (b := b) (by omega)
    by_cases hab : a < b
    · by_cases hm : (lkr p a b s).1 ≤ p a b
      · rw [lkr_y hab hm]
        refine (ih.more hn hab (by omega) hm).imp (fun x y _ _ => ?_)
        constructor
        · rintro ((q | q) | q) <;> omega
        · intro q; omega
      · rw [lkr_n (by omega)]
        refine (ih.less (a := a) (b := b) (by omega) (fun e => ?_)).imp (fun x y _ _ => ?_)
        · rcases ih.2.2 with ⟨e1, e2⟩ | ⟨x, y, c1, c2, c3, c4, c5⟩
          · omega
          · rcases c3 with q | q <;> omega
        · constructor
          · rintro ((q | q) | q) <;> omega
          · intro q; omega
    · rw [lkr, if_neg (fun z => hab z.1)]
      exact ih.imp (fun x y hx _ => by omega)
theorem lkf_P {p : Nat → Nat → Nat} {n : Nat} (hn : n ≤ 12) : ∀ {a : Nat}, a ≤ n → lkP p n (lkf p n (0, 0) a).2 (lkf p n (0, 0) a).1 (fun x _ => x < a)
  | 0, _ => by
    show lkP p n 0 0 _
    exact lkP.none (fun x y _ _ q => absurd q (Nat.not_lt_zero _))
  | a + 1, ha => by
    rw [lkf_s]
    refine (lkr_P hn (by omega) (lkf_P hn (a := a) (by omega)) (Nat.le_refl n)).imp (fun x y hx hy => ?_)
    omega
theorem luckiest_P (tk co : Nat → Nat) {n : Nat} (hn : n ≤ 12) : lkP (pts tk co) n (luckiest tk co n) (lkf (pts tk co) n (0, 0) n).1 (fun x _ => x < n) := lkf_P hn (Nat.le_refl n)
/-- the luckiest pair -/
theorem luckiest_0 {tk co : Nat → Nat} {n : Nat} (h : n < 2) : luckiest tk co n = 0 := by
  rcases (luckiest_P tk co (n := n) (by omega)).2.2 with ⟨e, _⟩ | ⟨x, y, a, b, _⟩
  · exact e
  · omega
theorem luckiest_1 {tk co : Nat → Nat} {n : Nat} (hn : n ≤ 12) (h : 2 ≤ n) : ∃ x y, x < y ∧ y < n ∧ luckiest tk co n = 100 * x + y + 1 ∧ ∀ a b, a < b → b < n → pts tk co a b ≤ pts tk co x y := by
  have k := luckiest_P tk co (n := n) hn
  rcases k.2.2 with ⟨e, e2⟩ | ⟨x, y, a, b, _, d, f⟩
  · have := (k.2.1 0 1 (by omega) (by omega) (by omega)).1; omega
  · refine ⟨x, y, a, b, d, fun u v hu hv => ?_⟩
    have := (k.2.1 u v hu hv (by omega)).1
    omega
/-- the best swap -/
theorem lkr_S {p : Nat → Nat → Nat} {n a T : Nat} (ha : a < n) {s : Nat × Nat} (h : T + 1 ≤ s.1 ∧ (s.2 = 0 ∨ ∃ x y, x < y ∧ y < n ∧ s.2 = 100 * x + y + 1 ∧ T < p x y)) : ∀ {b : Nat}, b ≤ n → T + 1 ≤ (lkr p a b s).1 ∧ ((lkr p a b s).2 = 0 ∨ ∃ x y, x < y ∧ y < n ∧ (lkr p a b s).2 = 100 * x + y + 1 ∧ T < p x y)
  | 0, _ => h
  | b + 1, hb => by
    have ih := lkr_S ha h (b := b) (by omega)
    rw [lkr]
    split
    · next q => exact ⟨by show T + 1 ≤ p a b + 1; omega, Or.inr ⟨a, b, q.1, by omega, rfl, by omega⟩⟩
    · exact ih
theorem lkf_S {p : Nat → Nat → Nat} {n T : Nat} : ∀ {a : Nat}, a ≤ n → T + 1 ≤ (lkf p n (T + 1, 0) a).1 ∧ ((lkf p n (T + 1, 0) a).2 = 0 ∨ ∃ x y, x < y ∧ y < n ∧ (lkf p n (T + 1, 0) a).2 = 100 * x + y + 1 ∧ T < p x y)
  | 0, _ => ⟨Nat.le_refl _, Or.inl rfl⟩
  | a + 1, h => by rw [lkf_s]; exact lkr_S (by omega) (lkf_S (by omega)) (Nat.le_refl n)
theorem bestSw_S (tk co cn wk : Nat → Nat) (n : Nat) : bestSw tk co cn wk n = 0 ∨ ∃ x y, x < y ∧ y < n ∧ bestSw tk co cn wk n = 100 * x + y + 1 ∧ tw tk co cn wk 0 n < tw (swp tk x y) co cn wk 0 n := (lkf_S (p := swt tk co cn wk n) (n := n) (T := tw tk co cn wk 0 n) (Nat.le_refl n)).2
/-- the best of many -/
theorem am_P {f : Nat → Nat} : ∀ {v : Nat}, 0 < v → (am f v).2 < v ∧ (am f v).1 = f (am f v).2 + 1 ∧ ∀ k, k < v → f k ≤ f (am f v).2
  | 0, h => absurd h (Nat.lt_irrefl 0)
  | v + 1, _ => by
    rcases Nat.eq_zero_or_pos v with q | q
    · subst q
      refine ⟨by show 0 < 1; omega, rfl, fun k hk => ?_⟩
      have : k = 0 := by omega
      subst this; exact Nat.le_refl _
    · obtain ⟨i1, i2, i3⟩ := am_P (f := f) q
      by_cases c : (am f v).1 ≤ f v
      · rw [am_y c]
        refine ⟨by show v < v + 1; omega, rfl, fun k hk => ?_⟩
        show f k ≤ f v
        rcases Nat.lt_or_ge k v with r | r
        · have := i3 k r; omega
        · have : k = v := by omega
          subst this; exact Nat.le_refl _
      · rw [am_n (by omega)]
        refine ⟨by omega, i2, fun k hk => ?_⟩
        rcases Nat.lt_or_ge k v with r | r
        · exact i3 k r
        · have : k = v := by omega
          subst this; omega
theorem am_cong {f g : Nat → Nat} : ∀ {v : Nat}, (∀ k, k < v → f k = g k) → am f v = am g v
  | 0, _ => rfl
  | v + 1, h => by rw [am_s, am_s, am_cong (fun k hk => h k (by omega)), h v (by omega)]
theorem hb_P {f : Nat → Nat} : ∀ (j : Nat), 1 ≤ (hb f j).2 ∧ (∀ h, 1 ≤ h → h ≤ j + 1 → f h ≤ f (hb f j).2 ∧ (h < (hb f j).2 → f h ≠ f (hb f j).2))
  | 0 => ⟨Nat.le_refl 1, fun h h1 h2 => by
      have : h = 1 := by omega
      subst this; exact ⟨Nat.le_refl _, fun q => absurd q (Nat.lt_irrefl 1)⟩⟩
  | j + 1 => by
    obtain ⟨i1, i2⟩ := hb_P (f := f) j
    have e := hb_fst f j
    by_cases c : (hb f j).1 < f (j + 2)
    · rw [hb_y c]
      refine ⟨by show 1 ≤ j + 2; omega, fun h h1 h2 => ?_⟩
      show f h ≤ f (j + 2) ∧ (h < j + 2 → f h ≠ f (j + 2))
      rcases Nat.lt_or_ge h (j + 2) with r | r
      · have := i2 h h1 (by omega); exact ⟨by omega, fun _ => by omega⟩
      · have : h = j + 2 := by omega
        subst this; exact ⟨Nat.le_refl _, fun q => absurd q (Nat.lt_irrefl _)⟩
    · rw [hb_n (by omega)]
      refine ⟨i1, fun h h1 h2 => ?_⟩
      rcases Nat.lt_or_ge h (j + 2) with r | r
      · exact i2 h h1 (by omega)
      · have h9 : h = j + 2 := by omega
        subst h9
        have := hb_le f j
        exact ⟨by omega, fun q => by omega⟩
theorem bestHr_P (tk co cn wk : Nat → Nat) (n : Nat) : (1 ≤ bestHr tk co cn wk n ∧ bestHr tk co cn wk n ≤ 6) ∧ ∀ h, 1 ≤ h → h ≤ 6 → tw tk co cn wk h n ≤ tw tk co cn wk (bestHr tk co cn wk n) n ∧ (h < bestHr tk co cn wk n → tw tk co cn wk h n ≠ tw tk co cn wk (bestHr tk co cn wk n) n) :=
  ⟨⟨(hb_P (f := fun h => tw tk co cn wk h n) 5).1, hb_le _ 5⟩, (hb_P (f := fun h => tw tk co cn wk h n) 5).2⟩
/-- six hours on all stand where they stood -/
theorem cnr_6 (cn wk : Nat → Nat) (h k : Nat) : cnr cn wk (h + 6) k = cnr cn wk h k := by
  unfold cnr
  rw [Nat.mul_add, ← Nat.add_assoc, Nat.mul_comm (wk k) 6, Nat.add_mul_mod_self_left]
theorem tw_6 (tk co cn wk : Nat → Nat) (h n : Nat) : tw tk co cn wk (h + 6) n = tw tk co cn wk h n := by
  refine pm_cong (fun a b _ _ => ?_)
  unfold twg; rw [cnr_6, cnr_6]
/-- an hour on: the town as told -/
theorem tw_pcn (tk co : Nat → Nat) {cn wk : Nat → Nat} {n : Nat} : tw tk co (pcn cn wk n) wk 0 n = tw tk co cn wk 1 n := by
  refine pm_cong (fun a b ha hb => ?_)
  have e : ∀ i, i < n → cnr (pcn cn wk n) wk 0 i = cnr cn wk 1 i := fun i hi => by
    have h1 : pcn cn wk n i = cnr cn wk 1 i := by unfold pcn; rw [if_pos hi]
    rw [cnr_0 wk (by rw [h1]; exact cnr_lt cn wk 1 i), h1]
  unfold twg; rw [e a ha, e b (by omega)]
/-- when two come together -/
theorem untl_P {cn wk : Nat → Nat} {a b : Nat} : ∀ (f k : Nat), (untl cn wk a b f k = 0 ∧ ∀ j, k ≤ j → j < k + f → ¬ cnr cn wk j a = cnr cn wk j b) ∨ ∃ j, k ≤ j ∧ j < k + f ∧ untl cn wk a b f k = j + 1 ∧ cnr cn wk j a = cnr cn wk j b ∧ ∀ i, k ≤ i → i < j → ¬ cnr cn wk i a = cnr cn wk i b
  | 0, k => Or.inl ⟨rfl, fun j h1 h2 => by omega⟩
  | f + 1, k => by
    by_cases h : cnr cn wk k a = cnr cn wk k b
    · exact Or.inr ⟨k, Nat.le_refl k, by omega, by rw [untl, if_pos h], h, fun i h1 h2 => by omega⟩
    · have e : untl cn wk a b (f + 1) k = untl cn wk a b f (k + 1) := by rw [untl, if_neg h]
      rw [e]
      rcases untl_P (cn := cn) (wk := wk) (a := a) (b := b) f (k + 1) with ⟨h1, h2⟩ | ⟨j, h1, h2, h3, h4, h5⟩
      · refine Or.inl ⟨h1, fun j q1 q2 => ?_⟩
        rcases Nat.eq_or_lt_of_le q1 with r | r
        · subst r; exact h
        · exact h2 j r (by omega)
      · refine Or.inr ⟨j, by omega, by omega, h3, h4, fun i q1 q2 => ?_⟩
        rcases Nat.eq_or_lt_of_le q1 with r | r
        · subst r; exact h
        · exact h5 i r q2
theorem meet_P (cn wk : Nat → Nat) (a b : Nat) : (meet cn wk a b = 0 ∧ ∀ j, j ≤ 6 → ¬ cnr cn wk j a = cnr cn wk j b) ∨ ∃ j, j < 6 ∧ meet cn wk a b = j + 1 ∧ cnr cn wk j a = cnr cn wk j b ∧ ∀ i, i < j → ¬ cnr cn wk i a = cnr cn wk i b := by
  rcases untl_P (cn := cn) (wk := wk) (a := a) (b := b) 6 0 with ⟨h1, h2⟩ | ⟨j, _, h2, h3, h4, h5⟩
  · refine Or.inl ⟨h1, fun j hj => ?_⟩
    rcases Nat.eq_or_lt_of_le hj with r | r
    · subst r
      rw [show 6 = 0 + 6 from rfl, cnr_6, cnr_6]
      exact h2 0 (by omega) (by omega)
    · exact h2 j (by omega) (by omega)
  · exact Or.inr ⟨j, by omega, h3, h4, fun i hi => h5 i (by omega) hi⟩
theorem meet_le (cn wk : Nat → Nat) (a b : Nat) : meet cn wk a b ≤ 6 := by
  rcases meet_P cn wk a b with ⟨h, _⟩ | ⟨j, h1, h2, _⟩ <;> omega
theorem meet_1 {cn : Nat → Nat} (wk : Nat → Nat) {a b : Nat} (hc : ∀ i, cn i < 6) : meet cn wk a b = 1 ↔ cn a = cn b := by
  have e : cnr cn wk 0 a = cnr cn wk 0 b ↔ cn a = cn b := by rw [cnr_0 wk (hc a), cnr_0 wk (hc b)]
  rcases meet_P cn wk a b with ⟨h, h2⟩ | ⟨j, h1, h2, h3, h4⟩
  · have := h2 0 (by omega); rw [e] at this
    exact ⟨fun q => by omega, fun q => absurd q this⟩
  · constructor
    · intro q
      have : j = 0 := by omega
      subst this; exact e.mp h3
    · intro q
      rcases Nat.eq_zero_or_pos j with r | r
      · omega
      · exact absurd (e.mpr q) (h4 0 r)
theorem way_sym (a b : Nat) : way a b = way b a := by unfold way; rw [adist_sym]
theorem way_0 {a b : Nat} (ha : a < 6) (hb : b < 6) : way a b = 0 ↔ a = b := by
  unfold way adist; split <;> omega
theorem way_2 {a b : Nat} (ha : a < 6) (hb : b < 6) (h : ¬ a = b) : 2 ≤ way a b := by
  unfold way adist; split <;> omega
/-- points: at most 10; mirrored tickets have 7 -/
theorem ptk_8 {t u : Nat} (ht : t < 100) (hu : u < 100) : ptk t u ≤ 8 := by
  unfold ptk mir
  simp only [adist_1, decide_eq_true_eq]
  split <;> split <;> split <;> split <;> omega
theorem pts_10 {tk co : Nat → Nat} (a b : Nat) (h : ∀ i, tk i < 100) : pts tk co a b ≤ 10 := by
  have h1 := ptk_8 (h a) (h b); have h2 := pco_le (co a) (co b); unfold pts; omega
theorem pts_7 {tk co : Nat → Nat} {a b : Nat} (h : mir (tk a) (tk b) = true) : 7 ≤ pts tk co a b := by
  have e := of_decide_eq_true (show decide (tk a / 10 = tk b % 10 ∧ tk a % 10 = tk b / 10) = true from h)
  unfold pts ptk
  rw [if_pos h, if_pos (show tk a / 10 + tk a % 10 = tk b / 10 + tk b % 10 by omega)]
  omega
/-- the town without k, and k's luck -/
theorem tw_split {tk co cn : Nat → Nat} (wk : Nat → Nat) {n k : Nat} (hc : ∀ i, cn i < 6) (hk : k < n) : tw tk co cn wk 0 n = po (twg tk co cn wk 0) k n + lkn tk co cn k n := by
  have h := (pm_split (twg_sym tk co cn wk 0) k n).2 hk
  have e : pw (twg tk co cn wk 0) k n = lkn tk co cn k n := by
    refine sm_cong (fun i _ => ?_)
    show (if i ≠ k then twg tk co cn wk 0 k i else 0) = lwg tk co cn k (tk k) (cn k) i
    by_cases q : i = k
    · rw [if_neg (fun z => z q), lwg_0 q]
    · rw [if_pos q]; unfold twg
      rw [cnr_0 wk (hc k), cnr_0 wk (hc i)]
      by_cases r : cn i = cn k
      · rw [if_pos r.symm, lwg_1 q r]; rfl
      · rw [if_neg (fun z => r z.symm), lwg_2 r]
  rw [← e]; exact h
theorem po_cn {tk co cn : Nat → Nat} (wk : Nat → Nat) {n k x : Nat} : po (twg tk co (va_up cn k x) wk 0) k n = po (twg tk co cn wk 0) k n := by
  refine pm_cong (fun a b _ _ => ?_)
  by_cases h : a ≠ k ∧ b ≠ k
  · rw [if_pos h, if_pos h]; unfold twg cnr
    rw [show va_up cn k x a = cn a by simp [va_up, h.1], show va_up cn k x b = cn b by simp [va_up, h.2]]
  · rw [if_neg h, if_neg h]
theorem po_tk {tk co cn : Nat → Nat} (wk : Nat → Nat) {n k x : Nat} : po (twg (va_up tk k x) co cn wk 0) k n = po (twg tk co cn wk 0) k n := by
  refine pm_cong (fun a b _ _ => ?_)
  by_cases h : a ≠ k ∧ b ≠ k
  · rw [if_pos h, if_pos h]; unfold twg pts
    rw [show va_up tk k x a = tk a by simp [va_up, h.1], show va_up tk k x b = tk b by simp [va_up, h.2]]
  · rw [if_neg h, if_neg h]
theorem lw_cn {tk co cn : Nat → Nat} {n k x t c : Nat} : lw tk co (va_up cn k x) k t c n = lw tk co cn k t c n := by
  refine sm_cong (fun i _ => ?_)
  unfold lwg
  by_cases h : i = k
  · rw [if_neg (fun z => z.1 h), if_neg (fun z => z.1 h)]
  · rw [show va_up cn k x i = cn i by simp [va_up, h]]
theorem lw_tk {tk co cn : Nat → Nat} {n k x t c : Nat} : lw (va_up tk k x) co cn k t c n = lw tk co cn k t c n := by
  refine sm_cong (fun i _ => ?_)
  unfold lwg
  by_cases h : i = k
  · rw [if_neg (fun z => z.1 h), if_neg (fun z => z.1 h)]
  · rw [show va_up tk k x i = tk i by simp [va_up, h]]
theorem bestCn_P (tk co cn : Nat → Nat) (k n : Nat) : bestCn tk co cn k n < 6 ∧ ∀ v, v < 6 → lw tk co cn k (tk k) v n ≤ lw tk co cn k (tk k) (bestCn tk co cn k n) n :=
  ⟨(am_P (f := fun v => lw tk co cn k (tk k) v n) (v := 6) (by omega)).1, (am_P (f := fun v => lw tk co cn k (tk k) v n) (v := 6) (by omega)).2.2⟩
theorem bestTk_P (tk co cn : Nat → Nat) (k n : Nat) : bestTk tk co cn k n < 100 ∧ ∀ v, v < 100 → lw tk co cn k v (cn k) n ≤ lw tk co cn k (bestTk tk co cn k n) (cn k) n :=
  ⟨(am_P (f := fun v => lw tk co cn k v (cn k) n) (v := 100) (by omega)).1, (am_P (f := fun v => lw tk co cn k v (cn k) n) (v := 100) (by omega)).2.2⟩
/-- behind the move to the best corner -/
theorem bestCn_again {tk co cn : Nat → Nat} {k n x : Nat} : bestCn tk co (va_up cn k x) k n = bestCn tk co cn k n := by
  unfold bestCn; rw [am_cong (fun v _ => lw_cn)]
theorem bestTk_again {tk co cn : Nat → Nat} {k n x : Nat} : bestTk (va_up tk k x) co cn k n = bestTk tk co cn k n := by
  unfold bestTk; rw [am_cong (fun v _ => lw_tk)]
theorem bestCn_more {tk co cn : Nat → Nat} (wk : Nat → Nat) {k n : Nat} (hc : ∀ i, cn i < 6) (hk : k < n) : tw tk co cn wk 0 n ≤ tw tk co (va_up cn k (bestCn tk co cn k n)) wk 0 n := by
  have hb := bestCn_P tk co cn k n
  rw [tw_split wk hc hk, tw_split wk (up_lt hc hb.1 k) hk, po_cn]
  have e : lkn tk co (va_up cn k (bestCn tk co cn k n)) k n = lw tk co cn k (tk k) (bestCn tk co cn k n) n := by
    show lw tk co (va_up cn k _) k (tk k) (va_up cn k _ k) n = _
    rw [va_up_at, lw_cn]
  rw [e]
  have := hb.2 (cn k) (hc k)
  have e2 : lkn tk co cn k n = lw tk co cn k (tk k) (cn k) n := rfl
  omega
theorem bestTk_more {tk co cn : Nat → Nat} (wk : Nat → Nat) {k n : Nat} (ht : ∀ i, tk i < 100) (hc : ∀ i, cn i < 6) (hk : k < n) : tw tk co cn wk 0 n ≤ tw (va_up tk k (bestTk tk co cn k n)) co cn wk 0 n := by
  have hb := bestTk_P tk co cn k n
  rw [tw_split wk hc hk, tw_split wk hc hk, po_tk]
  have e : lkn (va_up tk k (bestTk tk co cn k n)) co cn k n = lw tk co cn k (bestTk tk co cn k n) (cn k) n := by
    show lw (va_up tk k _) co cn k (va_up tk k _ k) (cn k) n = _
    rw [va_up_at, lw_tk]
  rw [e]
  have := hb.2 (tk k) (ht k)
  have e2 : lkn tk co cn k n = lw tk co cn k (tk k) (cn k) n := rfl
  omega
theorem lg_self (x : Int64) : lg_cmp x x = nI 0 := by
  unfold lg_cmp
  rw [if_neg (by rw [gt_iff_lt, Int64.lt_iff_toInt_lt]; omega), if_pos rfl]; rfl
theorem cag_le (tk co cn : Nat → Nat) (c a b : Nat) : cag tk co cn c a b ≤ 13 := by
  have := pts_le tk co a b
  unfold cag; split <;> omega
theorem cAt_le (tk co cn : Nat → Nat) (c : Nat) {n : Nat} (hn : n ≤ 12) : cAt tk co cn c n ≤ 1872 := pm_le (cag_le tk co cn c) hn
