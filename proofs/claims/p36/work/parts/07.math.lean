/-! the town as plain numbers -/
def sm (f : Nat → Nat) : Nat → Nat | 0 => 0 | n + 1 => sm f n + f n
theorem sm_0 (f : Nat → Nat) : sm f 0 = 0 := rfl
theorem sm_s (f : Nat → Nat) (n : Nat) : sm f (n + 1) = sm f n + f n := rfl
theorem sm_cong {f g : Nat → Nat} : ∀ {n : Nat}, (∀ k, k < n → f k = g k) → sm f n = sm g n
  | 0, _ => rfl
  | n + 1, h => by rw [sm_s, sm_s, sm_cong (fun k hk => h k (by omega)), h n (by omega)]
theorem sm_add (f g : Nat → Nat) : ∀ n, sm (fun k => f k + g k) n = sm f n + sm g n
  | 0 => rfl
  | n + 1 => by rw [sm_s, sm_s, sm_s, sm_add f g n]; omega
theorem sm_zero {f : Nat → Nat} : ∀ {n : Nat}, (∀ k, k < n → f k = 0) → sm f n = 0
  | 0, _ => rfl
  | n + 1, h => by rw [sm_s, sm_zero (fun k hk => h k (by omega)), h n (by omega)]
theorem sm_le {f : Nat → Nat} {c : Nat} : ∀ {n : Nat}, (∀ k, k < n → f k ≤ c) → sm f n ≤ n * c
  | 0, _ => by simp [sm]
  | n + 1, h => by
    have h1 := sm_le (n := n) (fun k hk => h k (by omega))
    have h2 := h n (by omega)
    rw [sm_s, Nat.succ_mul]; omega
theorem sm_if {f : Nat → Nat} (c : Prop) [Decidable c] (n : Nat) : (if c then sm f n else 0) = sm (fun k => if c then f k else 0) n := by
  by_cases h : c
  · rw [if_pos h]; exact sm_cong (fun k _ => by rw [if_pos h])
  · rw [if_neg h, sm_zero (fun k _ => by rw [if_neg h])]
/-- points of two tickets, of two colours, of a pair -/
def mir (t u : Nat) : Bool := decide (t / 10 = u % 10 ∧ t % 10 = u / 10)
def ptk (t u : Nat) : Nat := (if t % 10 = u % 10 then 1 else 0) + (if t / 10 + t % 10 = u / 10 + u % 10 then 2 else 0) + (if adist t u = 1 then 3 else 0) + (if mir t u = true then 5 else 0)
def pco (c d : Nat) : Nat := if c = d then 2 else 0
def pts (tk co : Nat → Nat) (a b : Nat) : Nat := ptk (tk a) (tk b) + pco (co a) (co b)
theorem adist_sym (a b : Nat) : adist a b = adist b a := by unfold adist; split <;> split <;> omega
theorem adist_1 (a b : Nat) : adist a b = 1 ↔ (a = b + 1 ∨ b = a + 1) := by unfold adist; split <;> omega
theorem mir_sym (t u : Nat) : mir t u = mir u t := by
  unfold mir; rw [decide_eq_decide]
  exact ⟨fun h => ⟨h.2.symm, h.1.symm⟩, fun h => ⟨h.2.symm, h.1.symm⟩⟩
theorem ptk_sym (t u : Nat) : ptk t u = ptk u t := by
  unfold ptk
  rw [adist_sym t u, mir_sym t u]
  simp only [eq_comm (a := t % 10) (b := u % 10), eq_comm (a := t / 10 + t % 10) (b := u / 10 + u % 10)]
theorem pco_sym (c d : Nat) : pco c d = pco d c := by unfold pco; simp only [eq_comm (a := c) (b := d)]
theorem pts_sym (tk co : Nat → Nat) (a b : Nat) : pts tk co a b = pts tk co b a := by unfold pts; rw [ptk_sym, pco_sym]
theorem ptk_le (t u : Nat) : ptk t u ≤ 11 := by unfold ptk; split <;> split <;> split <;> split <;> omega
theorem pco_le (c d : Nat) : pco c d ≤ 2 := by unfold pco; split <;> omega
theorem pts_le (tk co : Nat → Nat) (a b : Nat) : pts tk co a b ≤ 13 := by
  have h1 := ptk_le (tk a) (tk b); have h2 := pco_le (co a) (co b); unfold pts; omega
/-- the corner behind some hours -/
def cnr (cn wk : Nat → Nat) (h k : Nat) : Nat := (cn k + wk k * h) % 6
theorem cnr_lt (cn wk : Nat → Nat) (h k : Nat) : cnr cn wk h k < 6 := Nat.mod_lt _ (by decide)
theorem cnr_0 {cn : Nat → Nat} (wk : Nat → Nat) {k : Nat} (h : cn k < 6) : cnr cn wk 0 k = cn k := by unfold cnr; rw [Nat.mul_zero, Nat.add_zero, Nat.mod_eq_of_lt h]
/-- all pairs, each once: b before a, or a before b -/
def pm (g : Nat → Nat → Nat) (n : Nat) : Nat := sm (fun a => sm (g a) a) n
def pt (g : Nat → Nat → Nat) (n : Nat) : Nat := sm (fun a => sm (fun b => if a < b then g a b else 0) n) n
theorem pt_pm {g : Nat → Nat → Nat} (hg : ∀ a b, g a b = g b a) : ∀ n, pt g n = pm g n
  | 0 => rfl
  | n + 1 => by
    have ih := pt_pm hg n
    unfold pt pm at ih ⊢
    have s1 : sm (fun a => sm (fun b => if a < b then g a b else 0) (n + 1)) (n + 1) = sm (fun a => sm (fun b => if a < b then g a b else 0) (n + 1)) n + sm (fun b => if n < b then g n b else 0) (n + 1) := rfl
    have e1 : sm (fun a => sm (fun b => if a < b then g a b else 0) (n + 1)) n = sm (fun a => sm (fun b => if a < b then g a b else 0) n) n + sm (fun a => g n a) n := by
      rw [← sm_add]
      exact sm_cong (fun a ha => by rw [sm_s, if_pos ha, hg a n])
    have e2 : sm (fun b => if n < b then g n b else 0) (n + 1) = 0 := sm_zero (fun k hk => if_neg (by omega))
    rw [s1, e1, e2, ih]; rfl
theorem pm_cong {g g' : Nat → Nat → Nat} {n : Nat} (h : ∀ a b, a < n → b < a → g a b = g' a b) : pm g n = pm g' n :=
  sm_cong (fun a ha => sm_cong (fun b hb => h a b ha hb))
theorem pm_le {g : Nat → Nat → Nat} {c n : Nat} (h : ∀ a b, g a b ≤ c) (hn : n ≤ 12) : pm g n ≤ 12 * (12 * c) := by
  have h1 : ∀ a, a < n → sm (g a) a ≤ 12 * c := fun a ha => by
    have := sm_le (f := g a) (c := c) (n := a) (fun k _ => h a k)
    exact Nat.le_trans this (Nat.mul_le_mul_right c (by omega))
  exact Nat.le_trans (sm_le h1) (Nat.mul_le_mul_right _ hn)
/-- the pairs with k -/
def pw (g : Nat → Nat → Nat) (k n : Nat) : Nat := sm (fun i => if i ≠ k then g k i else 0) n
/-- the pairs without k -/
def po (g : Nat → Nat → Nat) (k n : Nat) : Nat := pm (fun a b => if a ≠ k ∧ b ≠ k then g a b else 0) n
theorem pm_split {g : Nat → Nat → Nat} (hg : ∀ a b, g a b = g b a) (k : Nat) : ∀ n, (n ≤ k → pm g n = po g k n) ∧ (k < n → pm g n = po g k n + pw g k n)
  | 0 => ⟨fun _ => rfl, fun h => absurd h (Nat.not_lt_zero k)⟩
  | n + 1 => by
    obtain ⟨i1, i2⟩ := pm_split hg k n
    have s1 : pm g (n + 1) = pm g n + sm (g n) n := rfl
    have s2 : po g k (n + 1) = po g k n + sm (fun b => if n ≠ k ∧ b ≠ k then g n b else 0) n := rfl
    have s3 : pw g k (n + 1) = pw g k n + (if n ≠ k then g k n else 0) := rfl
    refine ⟨fun h => ?_, fun h => ?_⟩
    · rw [s1, s2, i1 (by omega)]
      congr 1
      exact sm_cong (fun b hb => by rw [if_pos ⟨by omega, by omega⟩])
    · rcases Nat.lt_or_ge k n with q | q
      · rw [s1, s2, s3, i2 q, if_pos (by omega : n ≠ k)]
        have e : sm (g n) n = sm (fun b => if n ≠ k ∧ b ≠ k then g n b else 0) n + g n k := by
          have gen : ∀ m, k < m → sm (g n) m = sm (fun b => if n ≠ k ∧ b ≠ k then g n b else 0) m + g n k := by
            intro m
            induction m with
            | zero => intro hm; exact absurd hm (Nat.not_lt_zero k)
            | succ m ihm =>
              intro hm
              rw [sm_s, sm_s]
              rcases Nat.lt_or_ge k m with r | r
              · rw [ihm r, if_pos ⟨by omega, by omega⟩]; omega
              · have e1 : m = k := by omega
                subst e1
                rw [if_neg (fun z => z.2 rfl)]
                have e2 : sm (g n) m = sm (fun b => if n ≠ m ∧ b ≠ m then g n b else 0) m := sm_cong (fun b hb => by rw [if_pos ⟨by omega, by omega⟩])
                rw [e2]; omega
          exact gen n q
        rw [e, hg k n]; omega
      · have e1 : n = k := by omega
        subst e1
        rw [s1, s2, s3, i1 (Nat.le_refl n), if_neg (fun z => z rfl)]
        have e2 : sm (fun b => if n ≠ n ∧ b ≠ n then g n b else 0) n = 0 := sm_zero (fun b _ => if_neg (fun z => z.1 rfl))
        have e3 : pw g n n = sm (g n) n := sm_cong (fun b hb => if_pos (by omega))
        rw [e2, e3]; omega
theorem pw_sum {g : Nat → Nat → Nat} (hg : ∀ a b, g a b = g b a) : ∀ n, sm (fun k => pw g k n) n = 2 * pm g n
  | 0 => rfl
  | n + 1 => by
    have ih := pw_sum hg n
    have s1 : pm g (n + 1) = pm g n + sm (g n) n := rfl
    have s3 : ∀ k, pw g k (n + 1) = pw g k n + (if n ≠ k then g k n else 0) := fun _ => rfl
    rw [sm_s, s1]
    have e1 : sm (fun k => pw g k (n + 1)) n = sm (fun k => pw g k n) n + sm (g n) n := by
      rw [← sm_add]
      exact sm_cong (fun k hk => by rw [s3, if_pos (by omega), hg k n])
    have e3 : pw g n n = sm (g n) n := sm_cong (fun b hb => if_pos (by omega))
    rw [e1, ih, s3 n, if_neg (fun z => z rfl), e3]; omega
/-- coincidences of the town behind some hours; at a corner; luck -/
def twg (tk co cn wk : Nat → Nat) (h a b : Nat) : Nat := if cnr cn wk h a = cnr cn wk h b then pts tk co a b else 0
def tw (tk co cn wk : Nat → Nat) (h n : Nat) : Nat := pm (twg tk co cn wk h) n
theorem twg_sym (tk co cn wk : Nat → Nat) (h a b : Nat) : twg tk co cn wk h a b = twg tk co cn wk h b a := by
  unfold twg; rw [pts_sym tk co a b]; simp only [eq_comm (a := cnr cn wk h a) (b := cnr cn wk h b)]
theorem twg_le (tk co cn wk : Nat → Nat) (h a b : Nat) : twg tk co cn wk h a b ≤ 13 := by
  have := pts_le tk co a b; unfold twg; split <;> omega
theorem tw_le (tk co cn wk : Nat → Nat) (h : Nat) {n : Nat} (hn : n ≤ 12) : tw tk co cn wk h n ≤ 1872 := pm_le (twg_le tk co cn wk h) hn
def cag (tk co cn : Nat → Nat) (c a b : Nat) : Nat := if cn a = c ∧ cn b = c then pts tk co a b else 0
def cAt (tk co cn : Nat → Nat) (c n : Nat) : Nat := pm (cag tk co cn c) n
theorem cag_sym (tk co cn : Nat → Nat) (c a b : Nat) : cag tk co cn c a b = cag tk co cn c b a := by
  unfold cag; rw [pts_sym tk co a b]; simp only [and_comm (a := cn a = c)]
def lwg (tk co cn : Nat → Nat) (k t c i : Nat) : Nat := if i ≠ k ∧ cn i = c then ptk t (tk i) + pco (co k) (co i) else 0
def lw (tk co cn : Nat → Nat) (k t c n : Nat) : Nat := sm (lwg tk co cn k t c) n
theorem lw_le (tk co cn : Nat → Nat) (k t c : Nat) {n : Nat} (hn : n ≤ 12) : lw tk co cn k t c n ≤ 156 := by
  have h : ∀ i, i < n → lwg tk co cn k t c i ≤ 13 := fun i _ => by
    have h1 := ptk_le t (tk i); have h2 := pco_le (co k) (co i); unfold lwg; split <;> omega
  have := sm_le h
  unfold lw; omega
def crowd (cn : Nat → Nat) (c n : Nat) : Nat := sm (fun i => if cn i = c then 1 else 0) n
theorem crowd_le (cn : Nat → Nat) (c : Nat) {n : Nat} (hn : n ≤ 12) : crowd cn c n ≤ 12 := by
  have := sm_le (f := fun i => if cn i = c then 1 else 0) (c := 1) (n := n) (fun i _ => by split <;> omega)
  unfold crowd; omega
def emp (cn : Nat → Nat) (n : Nat) : Nat := sm (fun c => if crowd cn c n = 0 then 1 else 0) 6
theorem emp_le (cn : Nat → Nat) (n : Nat) : emp cn n ≤ 6 := by
  have := sm_le (f := fun c => if crowd cn c n = 0 then 1 else 0) (c := 1) (n := 6) (fun i _ => by split <;> omega)
  unfold emp; omega
def lkn (tk co cn : Nat → Nat) (k n : Nat) : Nat := lw tk co cn k (tk k) (cn k) n
/-- the best of many, the first of equals: how much and one more, which -/
def am (f : Nat → Nat) : Nat → Nat × Nat | 0 => (0, 0) | v + 1 => if (am f v).1 ≤ f v then (f v + 1, v) else am f v
theorem am_s (f : Nat → Nat) (v : Nat) : am f (v + 1) = if (am f v).1 ≤ f v then (f v + 1, v) else am f v := rfl
theorem am_y {f : Nat → Nat} {v : Nat} (h : (am f v).1 ≤ f v) : am f (v + 1) = (f v + 1, v) := by rw [am_s, if_pos h]
theorem am_n {f : Nat → Nat} {v : Nat} (h : f v < (am f v).1) : am f (v + 1) = am f v := by rw [am_s, if_neg (by omega)]
theorem am_le {f : Nat → Nat} {c : Nat} (h : ∀ v, f v ≤ c) : ∀ v, (am f v).1 ≤ c + 1
  | 0 => Nat.zero_le _
  | v + 1 => by
    have ih := am_le h v; have h2 := h v
    rw [am_s]; split
    · show f v + 1 ≤ c + 1; omega
    · exact ih
theorem am_add {f g : Nat → Nat} {r : Nat} : ∀ {v : Nat}, (∀ k, k < v → g k = r + f k) → (am g v).2 = (am f v).2 ∧ (0 < v → (am g v).1 = r + (am f v).1)
  | 0, _ => ⟨rfl, fun h => absurd h (Nat.lt_irrefl 0)⟩
  | v + 1, h => by
    obtain ⟨i1, i2⟩ := am_add (v := v) (fun k hk => h k (by omega))
    have e := h v (by omega)
    rcases Nat.eq_zero_or_pos v with q | q
    · subst q
      refine ⟨rfl, fun _ => ?_⟩
      show g 0 + 1 = r + (f 0 + 1); omega
    · have i3 := i2 q
      by_cases c : (am f v).1 ≤ f v
      · rw [am_y c, am_y (by omega)]
        exact ⟨rfl, fun _ => by show g v + 1 = r + (f v + 1); omega⟩
      · rw [am_n (by omega), am_n (by omega)]
        exact ⟨i1, fun _ => i3⟩
/-- the best hour -/
def hb (f : Nat → Nat) : Nat → Nat × Nat | 0 => (f 1, 1) | j + 1 => if (hb f j).1 < f (j + 2) then (f (j + 2), j + 2) else hb f j
theorem hb_y {f : Nat → Nat} {j : Nat} (h : (hb f j).1 < f (j + 2)) : hb f (j + 1) = (f (j + 2), j + 2) := by rw [hb, if_pos h]
theorem hb_n {f : Nat → Nat} {j : Nat} (h : f (j + 2) ≤ (hb f j).1) : hb f (j + 1) = hb f j := by rw [hb, if_neg (by omega)]
theorem hb_fst (f : Nat → Nat) : ∀ j, (hb f j).1 = f (hb f j).2
  | 0 => rfl
  | j + 1 => by
    by_cases c : (hb f j).1 < f (j + 2)
    · rw [hb_y c]
    · rw [hb_n (by omega)]; exact hb_fst f j
theorem hb_le (f : Nat → Nat) : ∀ j, (hb f j).2 ≤ j + 1
  | 0 => Nat.le_refl 1
  | j + 1 => by
    by_cases c : (hb f j).1 < f (j + 2)
    · rw [hb_y c]; exact Nat.le_refl _
    · rw [hb_n (by omega)]; exact Nat.le_succ_of_le (hb_le f j)
/-- the best pair: how much and one more, which and one more -/
def lkr (p : Nat → Nat → Nat) (a : Nat) : Nat → Nat × Nat → Nat × Nat | 0, s => s | b + 1, s => if a < b ∧ (lkr p a b s).1 ≤ p a b then (p a b + 1, 100 * a + b + 1) else lkr p a b s
theorem lkr_y {p : Nat → Nat → Nat} {a b : Nat} {s : Nat × Nat} (h : a < b) (h2 : (lkr p a b s).1 ≤ p a b) : lkr p a (b + 1) s = (p a b + 1, 100 * a + b + 1) := by rw [lkr, if_pos ⟨h, h2⟩]
theorem lkr_n {p : Nat → Nat → Nat} {a b : Nat} {s : Nat × Nat} (h2 : p a b < (lkr p a b s).1) : lkr p a (b + 1) s = lkr p a b s := by rw [lkr, if_neg (fun z => by omega)]
theorem lkr_lo {p : Nat → Nat → Nat} {a : Nat} {s : Nat × Nat} : ∀ {b : Nat}, b ≤ a + 1 → lkr p a b s = s
  | 0, _ => rfl
  | b + 1, h => by rw [lkr, if_neg (fun z => by omega)]; exact lkr_lo (by omega)
theorem lkr_le {p : Nat → Nat → Nat} {a c : Nat} {s : Nat × Nat} (h : ∀ a b, p a b ≤ c) (hs : s.1 ≤ c + 1) : ∀ b, (lkr p a b s).1 ≤ c + 1
  | 0 => hs
  | b + 1 => by
    have ih := lkr_le (a := a) h hs b; have h2 := h a b
    rw [lkr]; split
    · show p a b + 1 ≤ c + 1; omega
    · exact ih
theorem lkr_cong {p q : Nat → Nat → Nat} {a : Nat} {s : Nat × Nat} : ∀ {b : Nat}, (∀ j, j < b → p a j = q a j) → lkr p a b s = lkr q a b s
  | 0, _ => rfl
  | b + 1, h => by rw [lkr, lkr, lkr_cong (fun j hj => h j (by omega)), h b (by omega)]
def lkf (p : Nat → Nat → Nat) (n : Nat) (s : Nat × Nat) : Nat → Nat × Nat | 0 => s | a + 1 => lkr p a n (lkf p n s a)
theorem lkf_0 (p : Nat → Nat → Nat) (n : Nat) (s : Nat × Nat) : lkf p n s 0 = s := rfl
theorem lkf_s (p : Nat → Nat → Nat) (n a : Nat) (s : Nat × Nat) : lkf p n s (a + 1) = lkr p a n (lkf p n s a) := rfl
theorem lkf_le {p : Nat → Nat → Nat} {n c : Nat} {s : Nat × Nat} (h : ∀ a b, p a b ≤ c) (hs : s.1 ≤ c + 1) : ∀ a, (lkf p n s a).1 ≤ c + 1
  | 0 => hs
  | a + 1 => by rw [lkf_s]; exact lkr_le h (lkf_le h hs a) n
/-- two places of a row swapped -/
def swp (f : Nat → Nat) (a b : Nat) : Nat → Nat := va_up (va_up f a (f b)) b (f a)
theorem swp_swp (f : Nat → Nat) (a b : Nat) : swp (swp f a b) a b = f := by
  funext j
  unfold swp va_up
  by_cases h1 : j = b
  · by_cases h2 : a = b
    · subst h1; subst h2; simp
    · subst h1; simp [h2, Ne.symm h2]
  · by_cases h2 : j = a
    · subst h2; simp [h1]
    · simp [h1, h2]
def luckiest (tk co : Nat → Nat) (n : Nat) : Nat := (lkf (pts tk co) n (0, 0) n).2
def bestHr (tk co cn wk : Nat → Nat) (n : Nat) : Nat := (hb (fun h => tw tk co cn wk h n) 5).2
def bestCn (tk co cn : Nat → Nat) (k n : Nat) : Nat := (am (fun v => lw tk co cn k (tk k) v n) 6).2
def bestTk (tk co cn : Nat → Nat) (k n : Nat) : Nat := (am (fun v => lw tk co cn k v (cn k) n) 100).2
def swt (tk co cn wk : Nat → Nat) (n a b : Nat) : Nat := tw (swp tk a b) co cn wk 0 n
def bestSw (tk co cn wk : Nat → Nat) (n : Nat) : Nat := (lkf (swt tk co cn wk n) n (tw tk co cn wk 0 n + 1, 0) n).2
/-- the corners behind an hour, for the first i -/
def pcn (cn wk : Nat → Nat) (i : Nat) : Nat → Nat := fun j => if j < i then cnr cn wk 1 j else cn j
theorem pcn_0 (cn wk : Nat → Nat) : pcn cn wk 0 = cn := rfl
theorem pcn_at (cn wk : Nat → Nat) (i : Nat) : cnr (pcn cn wk i) wk 1 i = cnr cn wk 1 i := by
  unfold cnr pcn; rw [if_neg (Nat.lt_irrefl i)]
theorem pcn_s (cn wk : Nat → Nat) (i : Nat) : va_up (pcn cn wk i) i (cnr (pcn cn wk i) wk 1 i) = pcn cn wk (i + 1) := by
  rw [pcn_at]; funext j
  unfold va_up pcn
  by_cases h : j = i
  · subst h; simp
  · by_cases h2 : j < i
    · rw [if_neg h, if_pos h2, if_pos (by omega)]
    · rw [if_neg h, if_neg h2, if_neg (by omega)]
theorem pcn_lt {cn : Nat → Nat} (wk : Nat → Nat) (i : Nat) (h : ∀ j, cn j < 6) (j : Nat) : pcn cn wk i j < 6 := by
  unfold pcn; split
  · exact cnr_lt cn wk 1 j
  · exact h j
/-- the store behind an hour -/
def stn (st em : Nat) : Nat := min 100 (st + em)
/-- hours one by one: corners, counted, store -/
def hrs (tk co wk : Nat → Nat) (n : Nat) (cn : Nat → Nat) (ct : Int32) (st : Nat) : Nat → (Nat → Nat) × Int32 × Nat
  | 0 => (cn, ct, st)
  | i + 1 => let q := hrs tk co wk n cn ct st i; (pcn q.1 wk n, q.2.1 + nI (tw tk co (pcn q.1 wk n) wk 0 n), stn q.2.2 (emp (pcn q.1 wk n) n))
theorem hrs_lt {tk co wk : Nat → Nat} {n : Nat} {cn : Nat → Nat} {ct : Int32} {st : Nat} (h : ∀ j, cn j < 6) (hs : st ≤ 100) : ∀ i, (∀ j, (hrs tk co wk n cn ct st i).1 j < 6) ∧ (hrs tk co wk n cn ct st i).2.2 ≤ 100
  | 0 => ⟨h, hs⟩
  | i + 1 => ⟨fun j => pcn_lt wk n (hrs_lt h hs i).1 j, Nat.min_le_left _ _⟩
/-- when two come together: the hours and one more, 0 for never -/
def untl (cn wk : Nat → Nat) (a b : Nat) : Nat → Nat → Nat | 0, _ => 0 | f + 1, k => if cnr cn wk k a = cnr cn wk k b then k + 1 else untl cn wk a b f (k + 1)
def meet (cn wk : Nat → Nat) (a b : Nat) : Nat := untl cn wk a b 6 0
theorem untl_y {cn wk : Nat → Nat} {a b k : Nat} (hk : k < 6) (h : cnr cn wk k a = cnr cn wk k b) : untl cn wk a b (6 - k) k = k + 1 := by
  obtain ⟨f, hf⟩ : ∃ f, 6 - k = f + 1 := ⟨5 - k, by omega⟩
  rw [hf, untl, if_pos h]
theorem untl_n {cn wk : Nat → Nat} {a b k : Nat} (hk : k < 6) (h : ¬ cnr cn wk k a = cnr cn wk k b) : untl cn wk a b (6 - k) k = untl cn wk a b (6 - (k + 1)) (k + 1) := by
  obtain ⟨f, hf⟩ : ∃ f, 6 - k = f + 1 := ⟨5 - k, by omega⟩
  have e : 6 - (k + 1) = f := by omega
  rw [hf, e, untl, if_neg h]
def way (a b : Nat) : Nat := 2 * min (adist a b) (6 - adist a b)
/-- codes of what is thrown -/
def cdS (k : Int32) (n : Nat) : Nat := if tcIn k n = true then 0 else 1
def cdP (a b : Int32) (n : Nat) : Nat := if tcIn a n = true then (if tcIn b n = true then (if a = b then 2 else 0) else 1) else 1
def cdK (k : Int32) (n : Nat) (x : Int32) (m : Nat) : Nat := if tcIn k n = true then (if tcIn x m = true then 0 else 2) else 1
theorem cdS_y {k : Int32} {n : Nat} (h : tcIn k n = true) : cdS k n = 0 := if_pos h
theorem cdS_n {k : Int32} {n : Nat} (h : tcIn k n = false) : cdS k n = 1 := if_neg (by rw [h]; decide)
theorem cdS_0 {k : Int32} {n : Nat} (h : cdS k n = 0) : tcIn k n = true := by
  cases q : tcIn k n with
  | true => rfl
  | false => rw [cdS_n q] at h; cases h
theorem cdS_1 {k : Int32} {n i : Nat} (h : cdS k n = i + 1) : tcIn k n = false ∧ i = 0 := by
  cases q : tcIn k n with
  | true => rw [cdS_y q] at h; cases h
  | false => rw [cdS_n q] at h; exact ⟨rfl, by omega⟩
def ix (x : Int32) : Nat := x.toNatClampNeg
theorem ix_nI {j : Nat} (h : j < 2 ^ 31) : ix (nI j) = j := nI_clamp h
theorem tc_nI_ne {a b : Nat} (ha : a < 2 ^ 31) (hb : b < 2 ^ 31) (h : ¬ nI a = nI b) : a ≠ b := fun z => h (by rw [z])
section TCN
variable {p : Program} {l : Launch} {e : Env} {R : Room} {s : State} {m : MethodId} {args : Array Value} {below : List Frame} {meth : Method} {c : Code} {H : Heap} {locs : List Loc} {cells slots : Nat} {Q : State → Prop}
theorem tc_nameQ {g : JFrame} (k : ∀ Qg : State → Prop, Qg = Q → W p l e R s m args below meth c H locs cells slots Qg g) : W p l e R s m args below meth c H locs cells slots Q g := k Q rfl
variable {cc : ByteArray} {pc : Nat} {ls : Array Slot} {rest : List Value} {D : va_G} {cI cJ : ClassId} {N0 : Nat} {ws ws' : va_W} {es : List String} {cd mc ms nL : Nat} {v : Option Value} {Ts : List Cond}
/-- 'throw new E("text")' where nothing was written so far; the heap may have grown -/
theorem tc_thr {lv : List (Nat × Value)} {i ik is ic : Nat} {cls text : String} (C0 : CallFix p m c cc nL s args Ts RX0) (hlf : l.stackTraces = false) (ht : ∀ x ∈ c.exceptionTable.toList, False) (hlk : meth.locks = false) (hG0 : tcG D cI cJ N0 ws s s.heap) (hG : tcG D cI cJ N0 ws s H) (hS : va_S (tcA N0) s.heap H locs) (hl : lv_has ls nL lv) (htx : (is, text) ∈ tcStr) (hcls : Bundle.fit cls = true)
    (hk : Cond.classLink RX0 ik cls ∈ Ts) (hini : Cond.initialized cls ∈ Ts) (hcs : cls ∈ tcCs) (hat : (vx_atS RX0 ic cls ["java/lang/RuntimeException", "java/lang/Exception"]).all (fun w => vx_ot w && (if goodWord w then decide (w ∈ Ts) else decide (w ∈ tcDc.map Cond.declares ++ [Cond.castable cls cls]))) = true)
    (d0 : decode cc pc = .ok (.new ik, 3)) (d3 : decode cc (pc + 3) = .ok (.dup, 1)) (d4 : decode cc (pc + 4) = .ok (.ldc is, 2)) (d6 : decode cc (pc + 6) = .ok (.invokespecial ic, 3)) (d9 : decode cc (pc + 9) = .ok (.athrow, 1))
    (hR1 : 5 < R.frames) (hR2 : (rest.map fun v => v.category).sum + 82 ≤ R.locals) (hf : cells + 1 ≤ R.cells ∧ slots + 6 ≤ R.slots) (hi : es[i]? = some cls) (hcd : cd = i + 1) (hc : cells + 1 ≤ mc) (hs : slots + 6 ≤ ms) :
    W p l e R s m args below meth c H locs cells slots (tcE below es cd D N0 ws v ws' args s mc ms) (F0 m pc ls rest) := by
  obtain ⟨hx, hb, hml, hown, hts⟩ := C0
  obtain ⟨sa, hsa⟩ := hG0.2.2.2.2.2.2.1 _ htx
  have hxw := hG0.2.2.2.2.2.2.2
  have hat' : ∀ w ∈ vx_atS RX0 ic cls ["java/lang/RuntimeException", "java/lang/Exception"], w.before args s = true ∧ vx_ot w = true := fun w hw => by
    have h1 := List.all_eq_true.mp hat w hw
    rw [Bool.and_eq_true] at h1
    refine ⟨?_, h1.1⟩
    have h2 := h1.2
    by_cases g : goodWord w = true
    · rw [if_pos g] at h2
      exact hts w (of_decide_eq_true h2)
    · rw [if_neg g] at h2
      rcases List.mem_append.mp (of_decide_eq_true h2) with h3 | h3
      · obtain ⟨x, hx1, rfl⟩ := List.mem_map.mp h3
        exact va_Nw.use rfl (hxw.1 x hx1)
      · rw [List.mem_singleton.mp h3]
        exact va_Nw.use rfl (hxw.2.1 cls hcs)
  refine vx_throwS hx hb hlf (names := ["java/lang/RuntimeException", "java/lang/Exception"]) (A := tcA N0) hown hcls (by decide +kernel) (hts _ hk) (hts _ hini) hsa (fun w hw => (hat' w hw).1) ?_ hG0.2.2.2.2.1 hG0.2.2.2.2.2.1 hS (hl.1.trans hml.symm) d0 d3 d4 d6 d9 (fun x hx => (ht x hx).elim) hR1 hR2 hf.1 hf.2 hlk ?_ hS.2.2 hc hs
  · intro w hw
    rcases List.mem_cons.mp hw with rfl | hw
    · rfl
    · rcases List.mem_cons.mp hw with rfl | hw
      · rfl
      · exact (hat' w hw).2
  · intro t _ h2 h3
    exact ⟨⟨i, hi, hcd⟩, fun k q hq => (hG.1 k q hq).kept (h3 q.1 (hG.1 k q hq).lt), ⟨Nat.le_trans hS.1 h2, fun q h1 hq => by rw [h3 q (Nat.lt_of_lt_of_le h1 hS.1)]; exact hS.2.1 q h1 hq⟩⟩
end TCN
