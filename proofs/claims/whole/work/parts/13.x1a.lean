/-! the model: leaves and folds -/
def isInb (x y z : Int32) : Bool := decide (y ≤ x ∧ x ≤ z)
theorem isInb_y {x y z : Int32} (h1 : ¬ x < y) (h2 : ¬ z < x) : isInb x y z = true := decide_eq_true ⟨Int32.not_lt.mp h1, Int32.not_lt.mp h2⟩
theorem isInb_n1 {x y z : Int32} (h1 : x < y) : isInb x y z = false := decide_eq_false (fun q => Int32.not_le.mpr h1 q.1)
theorem isInb_n2 {x y z : Int32} (h2 : z < x) : isInb x y z = false := decide_eq_false (fun q => Int32.not_le.mpr h2 q.2)
theorem isInb_M {x : Int32} {n : Nat} (hn : n < 2 ^ 31) : isInb x (nI 0) (iM n) = tcIn x n := by
  unfold isInb tcIn
  rw [decide_eq_decide, Int32.le_iff_toInt_le, Int32.le_iff_toInt_le, iM_toInt hn, nI_toInt (by decide)]
  omega
theorem isInb_60 (x : Int32) : isInb x (nI 1) (nI 60) = tc60 x := by
  unfold isInb tc60
  rw [decide_eq_decide, Int32.le_iff_toInt_le, Int32.le_iff_toInt_le, nI_toInt (by decide), nI_toInt (by decide)]
  exact Iff.rfl
theorem ts_nf1 {b : Bool} (h : b = false) : ¬ b = true := by rw [h]; decide
theorem ad1_y1 {a b : Nat} (ha : a < 2 ^ 30) (hb : b < 2 ^ 30) (h : nI a - nI b = nI 1) : adist a b = 1 := by
  have h1 := congrArg Int32.toInt h
  rw [pk_sub_toInt ha hb, nI_toInt (by decide)] at h1
  rw [adist_1]; omega
theorem ad1_y2 {a b : Nat} (ha : a < 2 ^ 30) (hb : b < 2 ^ 30) (h : nI b - nI a = nI 1) : adist a b = 1 := by rw [adist_sym]; exact ad1_y1 hb ha h
theorem ad1_n {a b : Nat} (ha : a < 2 ^ 30) (hb : b < 2 ^ 30) (h1 : ¬ nI a - nI b = nI 1) (h2 : ¬ nI b - nI a = nI 1) : ¬ adist a b = 1 := by
  rw [adist_1]
  rintro (q | q)
  · exact h1 (by rw [pk_sub (by omega)]; congr 1; omega)
  · exact h2 (by rw [pk_sub (by omega)]; congr 1; omega)
/-- the model's town: 0 for all corners, else one more than the corner -/
def twf (tk co cn wk : Nat → Nat) (x y a : Nat) : Nat := if y = 0 ∨ cnr cn wk x a + 1 = y then sm (twg tk co cn wk x a) a else 0
def twm (tk co cn wk : Nat → Nat) (x y n : Nat) : Nat := sm (twf tk co cn wk x y) n
theorem twf_y {tk co cn wk : Nat → Nat} {x y a b q q2 : Nat} (hq : q = sm (twf tk co cn wk x y) a) (hb : b = a) (hq2 : q2 = q + sm (twg tk co cn wk x a) b) (hc : y = 0 ∨ cnr cn wk x a + 1 = y) : q2 = sm (twf tk co cn wk x y) (a + 1) := by
  subst hb
  rw [sm_s, hq2, hq]; congr 1
  exact (if_pos hc).symm
theorem twm_0 (tk co cn wk : Nat → Nat) (x n : Nat) : twm tk co cn wk x 0 n = tw tk co cn wk x n := sm_cong (fun a _ => if_pos (Or.inl rfl))
theorem twm_le (tk co cn wk : Nat → Nat) (x y : Nat) {n : Nat} (hn : n ≤ 12) : twm tk co cn wk x y n ≤ 1872 := by
  have h1 : ∀ a, a < n → twf tk co cn wk x y a ≤ 156 := fun a ha => by
    have h2 := sm_le (f := twg tk co cn wk x a) (c := 13) (n := a) (fun k _ => twg_le tk co cn wk x a k)
    unfold twf; split <;> omega
  have := sm_le h1
  unfold twm; omega
theorem twm_at {tk co cn : Nat → Nat} (wk : Nat → Nat) (c n : Nat) (hc : ∀ i, cn i < 6) : twm tk co cn wk 0 (c + 1) n = cAt tk co cn c n := by
  refine sm_cong (fun a _ => ?_)
  show (if c + 1 = 0 ∨ cnr cn wk 0 a + 1 = c + 1 then sm (twg tk co cn wk 0 a) a else 0) = sm (cag tk co cn c a) a
  rw [cnr_0 wk (hc a)]
  by_cases h : cn a = c
  · rw [if_pos (Or.inr (by omega))]
    refine sm_cong (fun b _ => ?_)
    show (if cnr cn wk 0 a = cnr cn wk 0 b then pts tk co a b else 0) = (if cn a = c ∧ cn b = c then pts tk co a b else 0)
    rw [cnr_0 wk (hc a), cnr_0 wk (hc b)]
    by_cases h2 : cn b = c
    · rw [if_pos (by omega), if_pos ⟨h, h2⟩]
    · rw [if_neg (by omega), if_neg (fun q => h2 q.2)]
  · rw [if_neg (by omega)]
    exact (sm_zero (fun b _ => if_neg (fun q => h q.1))).symm
def apd (x y : Nat) : Nat := min (adist x y) (6 - adist x y)
theorem apd_le (x y : Nat) (h1 : x < 6) (h2 : y < 6) : apd x y ≤ 3 := by unfold apd; omega
def emf (cn : Nat → Nat) (n c : Nat) : Nat := if crowd cn c n = 0 then 1 else 0
theorem stl_1 {st i n : Nat} {cn : Nat → Nat} (h : crowd cn i n = 0) (h2 : min 100 (st + sm (emf cn n) i) < 100) : min 100 (st + sm (emf cn n) i) + 1 = min 100 (st + sm (emf cn n) (i + 1)) := by
  rw [sm_s, show emf cn n i = 1 from if_pos h]; omega
theorem stl_2 {st i n : Nat} {cn : Nat → Nat} (h : 0 < crowd cn i n) : min 100 (st + sm (emf cn n) i) + 0 = min 100 (st + sm (emf cn n) (i + 1)) := by
  rw [sm_s, show emf cn n i = 0 from if_neg (by omega)]; omega
theorem stl_3 {st i n : Nat} {cn : Nat → Nat} (h2 : 100 ≤ min 100 (st + sm (emf cn n) i)) : min 100 (st + sm (emf cn n) i) + 0 = min 100 (st + sm (emf cn n) (i + 1)) := by
  rw [sm_s]; omega
theorem luckiest_le (tk co : Nat → Nat) {n : Nat} (hn : n ≤ 12) : True := trivial
theorem tup_self {α : Type} (f : Nat → α) (k : Nat) : va_up f k (f k) = f := by
  funext j; unfold va_up; split
  · next h => rw [h]
  · rfl
theorem tup_up {α : Type} (f : Nat → α) (k : Nat) (v w : α) : va_up (va_up f k v) k w = va_up f k w := bx_uu f k v w
/-- one stranger elsewhere, or with another ticket -/
theorem po_cong {g g' : Nat → Nat → Nat} {k n : Nat} (h : ∀ a b, a ≠ k → b ≠ k → g a b = g' a b) : po g k n = po g' k n := by
  refine pm_cong (fun a b _ _ => ?_)
  show (if a ≠ k ∧ b ≠ k then g a b else 0) = (if a ≠ k ∧ b ≠ k then g' a b else 0)
  by_cases q : a ≠ k ∧ b ≠ k
  · rw [if_pos q, if_pos q]; exact h a b q.1 q.2
  · rw [if_neg q, if_neg q]
theorem tup_ne {f : Nat → Nat} {k j v : Nat} (h : j ≠ k) : va_up f k v j = f j := if_neg h
theorem tup_eq {f : Nat → Nat} {k v : Nat} : va_up f k v k = v := if_pos rfl
theorem tw_cn {tk co cn wk : Nat → Nat} {x n v : Nat} (hx : x < n) (hv : v < 6) (hc : ∀ i, cn i < 6) : tw tk co (va_up cn x v) wk 0 n = po (twg tk co cn wk 0) x n + lw tk co cn x (tk x) v n := by
  have hc' : ∀ i, va_up cn x v i < 6 := fun i => up_lt hc hv x i
  show pm (twg tk co (va_up cn x v) wk 0) n = _
  rw [(pm_split (twg_sym tk co (va_up cn x v) wk 0) x n).2 hx]
  congr 1
  · refine po_cong (fun a b ha hb => ?_)
    unfold twg
    rw [cnr_0 wk (hc' a), cnr_0 wk (hc' b), cnr_0 wk (hc a), cnr_0 wk (hc b), tup_ne ha, tup_ne hb]
  · refine sm_cong (fun i _ => ?_)
    show (if i ≠ x then twg tk co (va_up cn x v) wk 0 x i else 0) = lwg tk co cn x (tk x) v i
    by_cases q : i = x
    · rw [if_neg (fun z => z q), lwg_0 q]
    · rw [if_pos q]
      unfold twg
      rw [cnr_0 wk (hc' x), cnr_0 wk (hc' i), tup_ne q, tup_eq]
      by_cases r : cn i = v
      · rw [if_pos r.symm, lwg_1 q r]; rfl
      · rw [if_neg (fun z => r z.symm), lwg_2 r]
theorem tw_tk {tk co cn wk : Nat → Nat} {x n v : Nat} (hx : x < n) (hc : ∀ i, cn i < 6) : tw (va_up tk x v) co cn wk 0 n = po (twg tk co cn wk 0) x n + lw tk co cn x v (cn x) n := by
  show pm (twg (va_up tk x v) co cn wk 0) n = _
  rw [(pm_split (twg_sym (va_up tk x v) co cn wk 0) x n).2 hx]
  congr 1
  · refine po_cong (fun a b ha hb => ?_)
    unfold twg pts
    rw [tup_ne ha, tup_ne hb]
  · refine sm_cong (fun i _ => ?_)
    show (if i ≠ x then twg (va_up tk x v) co cn wk 0 x i else 0) = lwg tk co cn x v (cn x) i
    by_cases q : i = x
    · rw [if_neg (fun z => z q), lwg_0 q]
    · rw [if_pos q]
      unfold twg
      rw [cnr_0 wk (hc x), cnr_0 wk (hc i)]
      by_cases r : cn i = cn x
      · rw [if_pos r.symm, lwg_1 q r]
        unfold pts; rw [tup_ne q, tup_eq]
      · rw [if_neg (fun z => r z.symm), lwg_2 r]
theorem bestCn_tw {tk co cn wk : Nat → Nat} {x n st : Nat} (hk : tOk tk co cn wk n st) (hx : x < n) : (am (fun v => tw tk co (va_up cn x v) wk 0 n) 6).2 = bestCn tk co cn x n :=
  (am_add (r := po (twg tk co cn wk 0) x n) (fun v hv => tw_cn hx hv hk.2.2.1)).1
theorem bestTk_tw {tk co cn wk : Nat → Nat} {x n st : Nat} (hk : tOk tk co cn wk n st) (hx : x < n) : (am (fun v => tw (va_up tk x v) co cn wk 0 n) 100).2 = bestTk tk co cn x n :=
  (am_add (r := po (twg tk co cn wk 0) x n) (fun v _ => tw_tk hx hk.2.2.1)).1
set_option maxHeartbeats 4000000 in
set_option maxRecDepth 100000 in
theorem kX1_thrown {l : Launch} (hlf : l.stackTraces = false) {D : va_G} {cI cJ : ClassId} {N0 : Nat} {h r1 r2 r3 r4 : Nat} {tk co cn wk : Nat → Nat} {n st : Nat} {ho ct sp : Int32} {Z : va_W} {th : Int32} (hk : tOk tk co cn wk n st)   : tcM l yX1_thrown wsX1_thrown { frames := 0, cells := 0, slots := 0, locals := 0 } [] 0 [.ref h] D cI cJ N0 (wM h r1 r2 r3 r4 cI th tk co cn wk n ho st ct sp Z) (some (.int (th))) (wM h r1 r2 r3 r4 cI th tk co cn wk n ho st ct sp Z) 0 0 := by
  refine tcM.of (cc := cX1_thrown) (maxL := 1) (ret := (some .int)) (by decide) rfl (Nat.le_of_ble_eq_true rfl) ?_
  intro p e s m args below meth c C0 hr hlk ht hmn hG ls hl
  have hl : lv_has ls 1 [(0, .ref h)] := hl
  obtain ⟨hk1, hk2, hk3, hk4, hn12, hst⟩ := id hk
  have hG0 := hG
  have hS : va_S (tcA N0) s.heap s.heap [] := va_S.rf
  have hF : ∀ w ∈ wsX10, w ∈ wsX1_thrown := by decide +kernel
  have w_thrown : Cond.fieldLink RX1 26 "TicketCoincidencesModel" "thrown" "I" ∈ wsX1_thrown := by decide +kernel
  refine lv_aload_n C0.1 C0.2.1 dX1_thrown_0 rfl (lv_at hl 0 rfl) ?_
  refine tgX1_thrown C0 hF hG w_thrown dX1_thrown_1 ?_
  exact tc_iret C0 hr hlk hG hS rfl rfl (Nat.le_of_ble_eq_true rfl) (Nat.le_of_ble_eq_true rfl) dX1_thrown_4
set_option maxHeartbeats 4000000 in
set_option maxRecDepth 100000 in
theorem kX1_no {l : Launch} (hlf : l.stackTraces = false) {D : va_G} {cI cJ : ClassId} {N0 : Nat} {h r1 r2 r3 r4 : Nat} {tk co cn wk : Nat → Nat} {n st : Nat} {ho ct sp : Int32} {Z : va_W} {th : Int32} (hk : tOk tk co cn wk n st) (x : Int32)  : tcM l yX1_no wsX1_no { frames := 0, cells := 0, slots := 0, locals := 0 } [] 0 [.ref h, .int (x)] D cI cJ N0 (wM h r1 r2 r3 r4 cI th tk co cn wk n ho st ct sp Z) (some (.int (nI (0)))) (wM h r1 r2 r3 r4 cI x tk co cn wk n ho st ct sp Z) 0 0 := by
  refine tcM.of (cc := cX1_no) (maxL := 2) (ret := (some .int)) (by decide) rfl (Nat.le_of_ble_eq_true rfl) ?_
  intro p e s m args below meth c C0 hr hlk ht hmn hG ls hl
  have hl : lv_has ls 2 [(0, .ref h), (1, .int (x))] := hl
  obtain ⟨hk1, hk2, hk3, hk4, hn12, hst⟩ := id hk
  have hG0 := hG
  have hS : va_S (tcA N0) s.heap s.heap [] := va_S.rf
  have hF : ∀ w ∈ wsX10, w ∈ wsX1_no := by decide +kernel
  have w_thrown : Cond.fieldLink RX1 26 "TicketCoincidencesModel" "thrown" "I" ∈ wsX1_no := by decide +kernel
  refine lv_aload_n C0.1 C0.2.1 dX1_no_0 rfl (lv_at hl 0 rfl) ?_
  refine lv_iload_n C0.1 C0.2.1 dX1_no_1 rfl (lv_at hl 1 rfl) ?_
  refine tpX1_thrown C0 hF hG0 hG hS w_thrown dX1_no_2 (fun H locs hG hS => ?_)
  refine lv_iconst (v := nI 0) C0.1 C0.2.1 dX1_no_5 (by decide) ?_
  exact tc_iret C0 hr hlk hG hS rfl rfl (Nat.le_of_ble_eq_true rfl) (Nat.le_of_ble_eq_true rfl) dX1_no_6
set_option maxHeartbeats 4000000 in
set_option maxRecDepth 100000 in
theorem kX1_ok {l : Launch} (hlf : l.stackTraces = false) {D : va_G} {cI cJ : ClassId} {N0 : Nat} {h r1 r2 r3 r4 : Nat} {tk co cn wk : Nat → Nat} {n st : Nat} {ho ct sp : Int32} {Z : va_W} {th : Int32} (hk : tOk tk co cn wk n st) (x : Int32)  : tcM l yX1_ok wsX1_ok { frames := 0, cells := 0, slots := 0, locals := 0 } [] 0 [.ref h, .int (x)] D cI cJ N0 (wM h r1 r2 r3 r4 cI th tk co cn wk n ho st ct sp Z) (some (.int (x))) (wM h r1 r2 r3 r4 cI (nI 0) tk co cn wk n ho st ct sp Z) 0 0 := by
  refine tcM.of (cc := cX1_ok) (maxL := 2) (ret := (some .int)) (by decide) rfl (Nat.le_of_ble_eq_true rfl) ?_
  intro p e s m args below meth c C0 hr hlk ht hmn hG ls hl
  have hl : lv_has ls 2 [(0, .ref h), (1, .int (x))] := hl
  obtain ⟨hk1, hk2, hk3, hk4, hn12, hst⟩ := id hk
  have hG0 := hG
  have hS : va_S (tcA N0) s.heap s.heap [] := va_S.rf
  have hF : ∀ w ∈ wsX10, w ∈ wsX1_ok := by decide +kernel
  have w_thrown : Cond.fieldLink RX1 26 "TicketCoincidencesModel" "thrown" "I" ∈ wsX1_ok := by decide +kernel
  refine lv_aload_n C0.1 C0.2.1 dX1_ok_0 rfl (lv_at hl 0 rfl) ?_
  refine lv_iconst (v := nI 0) C0.1 C0.2.1 dX1_ok_1 (by decide) ?_
  refine tpX1_thrown C0 hF hG0 hG hS w_thrown dX1_ok_2 (fun H locs hG hS => ?_)
  refine lv_iload_n C0.1 C0.2.1 dX1_ok_5 rfl (lv_at hl 1 rfl) ?_
  exact tc_iret C0 hr hlk hG hS rfl rfl (Nat.le_of_ble_eq_true rfl) (Nat.le_of_ble_eq_true rfl) dX1_ok_6
set_option maxHeartbeats 4000000 in
set_option maxRecDepth 100000 in
theorem kX1_isIn {l : Launch} (hlf : l.stackTraces = false) {D : va_G} {cI cJ : ClassId} {N0 : Nat} {ws : va_W} (x : Int32) (y : Int32) (z : Int32)  : tcM l yX1_isIn wsX1_isIn { frames := 0, cells := 0, slots := 0, locals := 0 } [] 0 [.int (x), .int (y), .int (z)] D cI cJ N0 (ws) (some (.int (nI (b2n (isInb x y z))))) (ws) 0 0 := by
  refine tcM.of (cc := cX1_isIn) (maxL := 3) (ret := (some .boolean)) (by decide) rfl (Nat.le_of_ble_eq_true rfl) ?_
  intro p e s m args below meth c C0 hr hlk ht hmn hG ls hl
  have hl : lv_has ls 3 [(0, .int (x)), (1, .int (y)), (2, .int (z))] := hl
  have hG0 := hG
  have hS : va_S (tcA N0) s.heap s.heap [] := va_S.rf
  refine lv_iload_n C0.1 C0.2.1 dX1_isIn_0 rfl (lv_at hl 0 rfl) ?_
  refine lv_iload_n C0.1 C0.2.1 dX1_isIn_1 rfl (lv_at hl 1 rfl) ?_
  refine lv_icmp_lt (tgt := 14) C0.1 C0.2.1 dX1_isIn_2 (by decide) (fun c_2 => ?_) (fun c_2 => ?_)
  · refine lv_iconst (v := nI 0) C0.1 C0.2.1 dX1_isIn_14 (by decide) ?_
    exact tc_zret C0 hr hlk hG hS rfl (by first | (rw [isInb_y c_2 c_7]; rfl) | (rw [isInb_n2 c_7]; rfl) | (rw [isInb_n1 c_2]; rfl)) (Nat.le_of_ble_eq_true rfl) (Nat.le_of_ble_eq_true rfl) dX1_isIn_15
  · refine lv_iload_n C0.1 C0.2.1 dX1_isIn_5 rfl (lv_at hl 0 rfl) ?_
    refine lv_iload_n C0.1 C0.2.1 dX1_isIn_6 rfl (lv_at hl 2 rfl) ?_
    refine lv_icmp_gt (tgt := 14) C0.1 C0.2.1 dX1_isIn_7 (by decide) (fun c_7 => ?_) (fun c_7 => ?_)
    · refine lv_iconst (v := nI 0) C0.1 C0.2.1 dX1_isIn_14 (by decide) ?_
      exact tc_zret C0 hr hlk hG hS rfl (by first | (rw [isInb_y c_2 c_7]; rfl) | (rw [isInb_n2 c_7]; rfl) | (rw [isInb_n1 c_2]; rfl)) (Nat.le_of_ble_eq_true rfl) (Nat.le_of_ble_eq_true rfl) dX1_isIn_15
    · refine lv_iconst (v := nI 1) C0.1 C0.2.1 dX1_isIn_10 (by decide) ?_
      refine lv_goto (tgt := 15) C0.1 C0.2.1 dX1_isIn_11 (by decide) ?_
      exact tc_zret C0 hr hlk hG hS rfl (by first | (rw [isInb_y c_2 c_7]; rfl) | (rw [isInb_n2 c_7]; rfl) | (rw [isInb_n1 c_2]; rfl)) (Nat.le_of_ble_eq_true rfl) (Nat.le_of_ble_eq_true rfl) dX1_isIn_15
set_option maxHeartbeats 4000000 in
set_option maxRecDepth 100000 in
theorem kX1_isOne {l : Launch} (hlf : l.stackTraces = false) {D : va_G} {cI cJ : ClassId} {N0 : Nat} {h r1 r2 r3 r4 : Nat} {tk co cn wk : Nat → Nat} {n st : Nat} {ho ct sp : Int32} {Z : va_W} {th : Int32} (hk : tOk tk co cn wk n st) (x : Int32)  : tcM l yX1_isOne wsX1_isOne { frames := 1, cells := 0, slots := 0, locals := 22 } [] 0 [.ref h, .int (x)] D cI cJ N0 (wM h r1 r2 r3 r4 cI th tk co cn wk n ho st ct sp Z) (some (.int (nI (b2n (tcIn x n))))) (wM h r1 r2 r3 r4 cI th tk co cn wk n ho st ct sp Z) 0 0 := by
  refine tcM.of (cc := cX1_isOne) (maxL := 2) (ret := (some .boolean)) (by decide) rfl (Nat.le_of_ble_eq_true rfl) ?_
  intro p e s m args below meth c C0 hr hlk ht hmn hG ls hl
  have hl : lv_has ls 2 [(0, .ref h), (1, .int (x))] := hl
  obtain ⟨hk1, hk2, hk3, hk4, hn12, hst⟩ := id hk
  have hG0 := hG
  have hS : va_S (tcA N0) s.heap s.heap [] := va_S.rf
  have hF : ∀ w ∈ wsX10, w ∈ wsX1_isOne := by decide +kernel
  have w_people : Cond.fieldLink RX1 29 "TicketCoincidencesModel" "people" "I" ∈ wsX1_isOne := by decide +kernel
  refine lv_iload_n C0.1 C0.2.1 dX1_isOne_0 rfl (lv_at hl 1 rfl) ?_
  refine lv_iconst (v := nI 0) C0.1 C0.2.1 dX1_isOne_1 (by decide) ?_
  refine lv_aload_n C0.1 C0.2.1 dX1_isOne_2 rfl (lv_at hl 0 rfl) ?_
  refine tgX1_people C0 hF hG w_people dX1_isOne_3 ?_
  refine lv_iconst (v := nI 1) C0.1 C0.2.1 dX1_isOne_6 (by decide) ?_
  refine lv_isub C0.1 C0.2.1 dX1_isOne_7 ?_
  refine tc_top (y := iM (n)) rfl ?_
  refine tc_callS C0 hG hS (kX1_isIn hlf  (x) (nI (0)) (iM (n)) ) (va_cwS 3 C0.2.2.2.2 gX1_isOne_X1_isIn rfl rfl rfl (by decide +kernel) ⟨(Nat.le_of_ble_eq_true rfl), (Nat.le_of_ble_eq_true rfl)⟩) rfl hl rfl (Nat.le_of_ble_eq_true rfl) dX1_isOne_8 ⟨(Nat.le_of_ble_eq_true rfl), (Nat.le_of_ble_eq_true rfl)⟩ (fun H locs hG hS => ?_)
  exact tc_zret C0 hr hlk hG hS rfl (by rw [isInb_M (by omega)]) (Nat.le_of_ble_eq_true rfl) (Nat.le_of_ble_eq_true rfl) dX1_isOne_11
set_option maxHeartbeats 4000000 in
set_option maxRecDepth 100000 in
theorem kX1_isCorner {l : Launch} (hlf : l.stackTraces = false) {D : va_G} {cI cJ : ClassId} {N0 : Nat} {ws : va_W} (x : Int32)  : tcM l yX1_isCorner wsX1_isCorner { frames := 1, cells := 0, slots := 0, locals := 22 } [] 0 [.int (x)] D cI cJ N0 (ws) (some (.int (nI (b2n (tcIn x 6))))) (ws) 0 0 := by
  refine tcM.of (cc := cX1_isCorner) (maxL := 1) (ret := (some .boolean)) (by decide) rfl (Nat.le_of_ble_eq_true rfl) ?_
  intro p e s m args below meth c C0 hr hlk ht hmn hG ls hl
  have hl : lv_has ls 1 [(0, .int (x))] := hl
  have hG0 := hG
  have hS : va_S (tcA N0) s.heap s.heap [] := va_S.rf
  refine lv_iload_n C0.1 C0.2.1 dX1_isCorner_0 rfl (lv_at hl 0 rfl) ?_
  refine lv_iconst (v := nI 0) C0.1 C0.2.1 dX1_isCorner_1 (by decide) ?_
  refine lv_iconst (v := nI 5) C0.1 C0.2.1 dX1_isCorner_2 (by decide) ?_
  refine tc_callS C0 hG hS (kX1_isIn hlf  (x) (nI (0)) (nI (5)) ) (va_cwS 3 C0.2.2.2.2 gX1_isCorner_X1_isIn rfl rfl rfl (by decide +kernel) ⟨(Nat.le_of_ble_eq_true rfl), (Nat.le_of_ble_eq_true rfl)⟩) rfl hl rfl (Nat.le_of_ble_eq_true rfl) dX1_isCorner_3 ⟨(Nat.le_of_ble_eq_true rfl), (Nat.le_of_ble_eq_true rfl)⟩ (fun H locs hG hS => ?_)
  exact tc_zret C0 hr hlk hG hS rfl (by rw [show isInb x (nI 0) (nI 5) = tcIn x 6 from isInb_M (n := 6) (by decide)]) (Nat.le_of_ble_eq_true rfl) (Nat.le_of_ble_eq_true rfl) dX1_isCorner_6
set_option maxHeartbeats 4000000 in
set_option maxRecDepth 100000 in
theorem kX1_isMirror {l : Launch} (hlf : l.stackTraces = false) {D : va_G} {cI cJ : ClassId} {N0 : Nat} {ws : va_W} (t : Nat) (u : Nat) (h1 : t < 100) (h2 : u < 100) : tcM l yX1_isMirror wsX1_isMirror { frames := 0, cells := 0, slots := 0, locals := 0 } [] 0 [.int (nI (t)), .int (nI (u))] D cI cJ N0 (ws) (some (.int (nI (b2n (mir t u))))) (ws) 0 0 := by
  refine tcM.of (cc := cX1_isMirror) (maxL := 2) (ret := (some .boolean)) (by decide) rfl (Nat.le_of_ble_eq_true rfl) ?_
  intro p e s m args below meth c C0 hr hlk ht hmn hG ls hl
  have hl : lv_has ls 2 [(0, .int (nI (t))), (1, .int (nI (u)))] := hl
  have hG0 := hG
  have hS : va_S (tcA N0) s.heap s.heap [] := va_S.rf
  refine lv_iload_n C0.1 C0.2.1 dX1_isMirror_0 rfl (lv_at hl 0 rfl) ?_
  refine lv_bipush (v := nI 10) C0.1 C0.2.1 dX1_isMirror_1 (by decide) ?_
  refine tn_idiv C0.1 C0.2.1 dX1_isMirror_3 (by omega) (by decide) (by decide) ?_
  refine lv_iload_n C0.1 C0.2.1 dX1_isMirror_4 rfl (lv_at hl 1 rfl) ?_
  refine lv_bipush (v := nI 10) C0.1 C0.2.1 dX1_isMirror_5 (by decide) ?_
  refine tn_irem C0.1 C0.2.1 dX1_isMirror_7 (by omega) (by decide) (by decide) ?_
  refine tn_icmp_ne (tgt := 26) C0.1 C0.2.1 dX1_isMirror_8 (by decide) (by omega) (by omega) (fun c_8 => ?_) (fun c_8 => ?_)
  · refine lv_iconst (v := nI 0) C0.1 C0.2.1 dX1_isMirror_26 (by decide) ?_
    exact tc_zret C0 hr hlk hG hS rfl (by first | (rw [show mir t u = true from decide_eq_true ⟨c_8, c_19⟩]; rfl) | (rw [show mir t u = false from decide_eq_false (fun z => c_8 z.1)]; rfl) | (rw [show mir t u = false from decide_eq_false (fun z => c_19 z.2)]; rfl)) (Nat.le_of_ble_eq_true rfl) (Nat.le_of_ble_eq_true rfl) dX1_isMirror_27
  · refine lv_iload_n C0.1 C0.2.1 dX1_isMirror_11 rfl (lv_at hl 0 rfl) ?_
    refine lv_bipush (v := nI 10) C0.1 C0.2.1 dX1_isMirror_12 (by decide) ?_
    refine tn_irem C0.1 C0.2.1 dX1_isMirror_14 (by omega) (by decide) (by decide) ?_
    refine lv_iload_n C0.1 C0.2.1 dX1_isMirror_15 rfl (lv_at hl 1 rfl) ?_
    refine lv_bipush (v := nI 10) C0.1 C0.2.1 dX1_isMirror_16 (by decide) ?_
    refine tn_idiv C0.1 C0.2.1 dX1_isMirror_18 (by omega) (by decide) (by decide) ?_
    refine tn_icmp_ne (tgt := 26) C0.1 C0.2.1 dX1_isMirror_19 (by decide) (by omega) (by omega) (fun c_19 => ?_) (fun c_19 => ?_)
    · refine lv_iconst (v := nI 0) C0.1 C0.2.1 dX1_isMirror_26 (by decide) ?_
      exact tc_zret C0 hr hlk hG hS rfl (by first | (rw [show mir t u = true from decide_eq_true ⟨c_8, c_19⟩]; rfl) | (rw [show mir t u = false from decide_eq_false (fun z => c_8 z.1)]; rfl) | (rw [show mir t u = false from decide_eq_false (fun z => c_19 z.2)]; rfl)) (Nat.le_of_ble_eq_true rfl) (Nat.le_of_ble_eq_true rfl) dX1_isMirror_27
    · refine lv_iconst (v := nI 1) C0.1 C0.2.1 dX1_isMirror_22 (by decide) ?_
      refine lv_goto (tgt := 27) C0.1 C0.2.1 dX1_isMirror_23 (by decide) ?_
      exact tc_zret C0 hr hlk hG hS rfl (by first | (rw [show mir t u = true from decide_eq_true ⟨c_8, c_19⟩]; rfl) | (rw [show mir t u = false from decide_eq_false (fun z => c_8 z.1)]; rfl) | (rw [show mir t u = false from decide_eq_false (fun z => c_19 z.2)]; rfl)) (Nat.le_of_ble_eq_true rfl) (Nat.le_of_ble_eq_true rfl) dX1_isMirror_27
set_option maxHeartbeats 4000000 in
set_option maxRecDepth 100000 in
theorem kX1_points {l : Launch} (hlf : l.stackTraces = false) {D : va_G} {cI cJ : ClassId} {N0 : Nat} {h r1 r2 r3 r4 : Nat} {tk co cn wk : Nat → Nat} {n st : Nat} {ho ct sp : Int32} {Z : va_W} {th : Int32} (hk : tOk tk co cn wk n st) (x : Nat) (y : Nat) (h1 : x < 12) (h2 : y < 12) : tcM l yX1_points wsX1_points { frames := 1, cells := 0, slots := 0, locals := 21 } [] 0 [.ref h, .int (nI (x)), .int (nI (y))] D cI cJ N0 (wM h r1 r2 r3 r4 cI th tk co cn wk n ho st ct sp Z) (some (.int (nI (pts tk co x y)))) (wM h r1 r2 r3 r4 cI th tk co cn wk n ho st ct sp Z) 0 0 := by
  refine tcM.of (cc := cX1_points) (maxL := 6) (ret := (some .int)) (by decide) rfl (Nat.le_of_ble_eq_true rfl) ?_
  intro p e s m args below meth c C0 hr hlk ht hmn hG ls hl
  have hl : lv_has ls 6 [(0, .ref h), (1, .int (nI (x))), (2, .int (nI (y)))] := hl
  obtain ⟨hk1, hk2, hk3, hk4, hn12, hst⟩ := id hk
  have hG0 := hG
  have hS : va_S (tcA N0) s.heap s.heap [] := va_S.rf
  have hF : ∀ w ∈ wsX10, w ∈ wsX1_points := by decide +kernel
  have w_colour : Cond.fieldLink RX1 13 "TicketCoincidencesModel" "colour" "[I" ∈ wsX1_points := by decide +kernel
  have w_ticket : Cond.fieldLink RX1 9 "TicketCoincidencesModel" "ticket" "[I" ∈ wsX1_points := by decide +kernel
  refine lv_aload_n C0.1 C0.2.1 dX1_points_0 rfl (lv_at hl 0 rfl) ?_
  refine tgX1_ticket C0 hF hG w_ticket dX1_points_1 ?_
  refine lv_iload_n C0.1 C0.2.1 dX1_points_4 rfl (lv_at hl 1 rfl) ?_
  refine tc_ald (q0 := 1) C0 hG rfl (by omega) dX1_points_5 ?_
  have b_5 := hk1 (x)
  refine lv_istore_n (lv' := [(3, .int (nI (tk (x)))), (0, .ref h), (1, .int (nI (x))), (2, .int (nI (y)))]) C0.1 C0.2.1 dX1_points_6 rfl hl (by decide) rfl (fun ls hl => ?_)
  refine lv_aload_n C0.1 C0.2.1 dX1_points_7 rfl (lv_at hl 1 rfl) ?_
  refine tgX1_ticket C0 hF hG w_ticket dX1_points_8 ?_
  refine lv_iload_n C0.1 C0.2.1 dX1_points_11 rfl (lv_at hl 3 rfl) ?_
  refine tc_ald (q0 := 1) C0 hG rfl (by omega) dX1_points_12 ?_
  have b_12 := hk1 (y)
  refine lv_istore (lv' := [(4, .int (nI (tk (y)))), (3, .int (nI (tk (x)))), (0, .ref h), (1, .int (nI (x))), (2, .int (nI (y)))]) C0.1 C0.2.1 dX1_points_13 hl (by decide) rfl (fun ls hl => ?_)
  refine tc_nameQ (fun zQg zhQ => ?_)
  have cut_32 : ∀ (q1 : Nat) (hq1 : q1 = if tk x % 10 = tk y % 10 then 1 else 0), ∀ (ls : Array Slot), lv_has ls 6 [(4, .int (nI (tk (y)))), (3, .int (nI (tk (x)))), (0, .ref h), (1, .int (nI (x))), (2, .int (nI (y)))] → ∀ (H : Heap) (locs : List Loc), tcG D cI cJ N0 (wM h r1 r2 r3 r4 cI th tk co cn wk n ho st ct sp Z) s H → va_S (tcA N0) s.heap H locs → W p l e ({ frames := 1, cells := 0, slots := 0, locals := 21 } : Room) s m args below meth c H locs (0) (0) zQg (F0 m 32 ls [.int (nI (q1))]) := by
    intro q1 hq1 ls hl H locs hG hS
    refine lv_istore (lv' := [(5, .int (nI (q1))), (4, .int (nI (tk (y)))), (3, .int (nI (tk (x)))), (0, .ref h), (1, .int (nI (x))), (2, .int (nI (y)))]) C0.1 C0.2.1 dX1_points_32 hl (by decide) rfl (fun ls hl => ?_)
    have cut_60 : ∀ (q2 : Nat) (hq2 : q2 = q1 + if tk x / 10 + tk x % 10 = tk y / 10 + tk y % 10 then 2 else 0), ∀ (ls : Array Slot), lv_has ls 6 [(5, .int (nI (q2))), (4, .int (nI (tk (y)))), (3, .int (nI (tk (x)))), (0, .ref h), (1, .int (nI (x))), (2, .int (nI (y)))] → ∀ (H : Heap) (locs : List Loc), tcG D cI cJ N0 (wM h r1 r2 r3 r4 cI th tk co cn wk n ho st ct sp Z) s H → va_S (tcA N0) s.heap H locs → W p l e ({ frames := 1, cells := 0, slots := 0, locals := 21 } : Room) s m args below meth c H locs (0) (0) zQg (F0 m 60 ls []) := by
      intro q2 hq2 ls hl H locs hG hS
      have cut_79 : ∀ (q3 : Nat) (hq3 : q3 = q2 + if adist (tk x) (tk y) = 1 then 3 else 0), ∀ (ls : Array Slot), lv_has ls 6 [(5, .int (nI (q3))), (4, .int (nI (tk (y)))), (3, .int (nI (tk (x)))), (0, .ref h), (1, .int (nI (x))), (2, .int (nI (y)))] → ∀ (H : Heap) (locs : List Loc), tcG D cI cJ N0 (wM h r1 r2 r3 r4 cI th tk co cn wk n ho st ct sp Z) s H → va_S (tcA N0) s.heap H locs → W p l e ({ frames := 1, cells := 0, slots := 0, locals := 21 } : Room) s m args below meth c H locs (0) (0) zQg (F0 m 79 ls []) := by
        intro q3 hq3 ls hl H locs hG hS
        have cut_91 : ∀ (q4 : Nat) (hq4 : q4 = q3 + if mir (tk x) (tk y) = true then 5 else 0), ∀ (ls : Array Slot), lv_has ls 6 [(5, .int (nI (q4))), (4, .int (nI (tk (y)))), (3, .int (nI (tk (x)))), (0, .ref h), (1, .int (nI (x))), (2, .int (nI (y)))] → ∀ (H : Heap) (locs : List Loc), tcG D cI cJ N0 (wM h r1 r2 r3 r4 cI th tk co cn wk n ho st ct sp Z) s H → va_S (tcA N0) s.heap H locs → W p l e ({ frames := 1, cells := 0, slots := 0, locals := 21 } : Room) s m args below meth c H locs (0) (0) zQg (F0 m 91 ls []) := by
          intro q4 hq4 ls hl H locs hG hS
          refine lv_aload_n C0.1 C0.2.1 dX1_points_91 rfl (lv_at hl 3 rfl) ?_
          refine tgX1_colour C0 hF hG w_colour dX1_points_92 ?_
          refine lv_iload_n C0.1 C0.2.1 dX1_points_95 rfl (lv_at hl 4 rfl) ?_
          refine tc_ald (q0 := 2) C0 hG rfl (by omega) dX1_points_96 ?_
          have b_96 := hk2 (x)
          refine lv_aload_n C0.1 C0.2.1 dX1_points_97 rfl (lv_at hl 3 rfl) ?_
          refine tgX1_colour C0 hF hG w_colour dX1_points_98 ?_
          refine lv_iload_n C0.1 C0.2.1 dX1_points_101 rfl (lv_at hl 5 rfl) ?_
          refine tc_ald (q0 := 2) C0 hG rfl (by omega) dX1_points_102 ?_
          have b_102 := hk2 (y)
          refine tn_icmp_ne (tgt := 113) C0.1 C0.2.1 dX1_points_103 (by decide) (by omega) (by omega) (fun c_103 => ?_) (fun c_103 => ?_)
          · refine lv_iload C0.1 C0.2.1 dX1_points_113 (lv_at hl 0 rfl) ?_
            subst zhQ
            exact tc_iret C0 hr hlk hG hS rfl (by congr 1; unfold pts ptk pco; rw [hq4, hq3, hq2, hq1]; first | (rw [if_pos c_103]; done) | (rw [if_neg c_103]; done) | (rw [if_pos c_103]; rfl) | (rw [if_neg c_103]; rfl)) (Nat.le_of_ble_eq_true rfl) (Nat.le_of_ble_eq_true rfl) dX1_points_115
          · refine lv_iload C0.1 C0.2.1 dX1_points_106 (lv_at hl 0 rfl) ?_
            refine lv_iconst (v := nI 2) C0.1 C0.2.1 dX1_points_108 (by decide) ?_
            refine tn_iadd C0.1 C0.2.1 dX1_points_109 ?_
            refine lv_goto (tgt := 115) C0.1 C0.2.1 dX1_points_110 (by decide) ?_
            subst zhQ
            exact tc_iret C0 hr hlk hG hS rfl (by congr 1; unfold pts ptk pco; rw [hq4, hq3, hq2, hq1]; first | (rw [if_pos c_103]; done) | (rw [if_neg c_103]; done) | (rw [if_pos c_103]; rfl) | (rw [if_neg c_103]; rfl)) (Nat.le_of_ble_eq_true rfl) (Nat.le_of_ble_eq_true rfl) dX1_points_115
        refine lv_iload_n C0.1 C0.2.1 dX1_points_79 rfl (lv_at hl 2 rfl) ?_
        refine lv_iload C0.1 C0.2.1 dX1_points_80 (lv_at hl 1 rfl) ?_
        refine tc_callS C0 hG hS (kX1_isMirror hlf  (tk (x)) (tk (y)) (by omega) (by omega)) (va_cwS 2 C0.2.2.2.2 gX1_points_X1_isMirror rfl rfl rfl (by decide +kernel) ⟨(Nat.le_of_ble_eq_true rfl), (Nat.le_of_ble_eq_true rfl)⟩) rfl hl rfl (Nat.le_of_ble_eq_true rfl) dX1_points_82 ⟨(Nat.le_of_ble_eq_true rfl), (Nat.le_of_ble_eq_true rfl)⟩ (fun H locs hG hS => ?_)
        refine tb_if_eq (tgt := 91) C0.1 C0.2.1 dX1_points_85 (by decide) (fun c_85 => ?_) (fun c_85 => ?_)
        · exact cut_91 (q3) (by first | (rw [if_neg (ts_nf1 c_85)]; done) | (rw [if_neg (ts_nf1 c_85)]; rfl) | (rw [if_pos c_85]; done) | (rw [if_pos c_85]; rfl)) ls (lv_sub hl [0, 1, 2, 3, 4, 5] rfl) _ _ hG hS
        · refine lv_iinc (v := nI (q3 + 5)) (lv' := [(5, .int (nI (q3 + 5))), (4, .int (nI (tk (y)))), (3, .int (nI (tk (x)))), (0, .ref h), (1, .int (nI (x))), (2, .int (nI (y)))]) C0.1 C0.2.1 dX1_points_88 hl (k := 0) rfl (nI_add (q3) 5) (by decide) rfl (fun ls hl => ?_)
          exact cut_91 (q3 + 5) (by first | (rw [if_neg (ts_nf1 c_85)]; done) | (rw [if_neg (ts_nf1 c_85)]; rfl) | (rw [if_pos c_85]; done) | (rw [if_pos c_85]; rfl)) ls (lv_sub hl [0, 1, 2, 3, 4, 5] rfl) _ _ hG hS
      refine lv_iload_n C0.1 C0.2.1 dX1_points_60 rfl (lv_at hl 2 rfl) ?_
      refine lv_iload C0.1 C0.2.1 dX1_points_61 (lv_at hl 1 rfl) ?_
      refine lv_isub C0.1 C0.2.1 dX1_points_63 ?_
      refine lv_iconst (v := nI 1) C0.1 C0.2.1 dX1_points_64 (by decide) ?_
      refine lv_icmp_eq (tgt := 76) C0.1 C0.2.1 dX1_points_65 (by decide) (fun c_65 => ?_) (fun c_65 => ?_)
      · refine lv_iinc (v := nI (q2 + 3)) (lv' := [(5, .int (nI (q2 + 3))), (4, .int (nI (tk (y)))), (3, .int (nI (tk (x)))), (0, .ref h), (1, .int (nI (x))), (2, .int (nI (y)))]) C0.1 C0.2.1 dX1_points_76 hl (k := 0) rfl (nI_add (q2) 3) (by decide) rfl (fun ls hl => ?_)
        exact cut_79 (q2 + 3) (by first | (rw [if_neg (ad1_n (by omega) (by omega) c_65 c_73)]; done) | (rw [if_neg (ad1_n (by omega) (by omega) c_65 c_73)]; rfl) | (rw [if_pos (ad1_y1 (by omega) (by omega) c_65)]; done) | (rw [if_pos (ad1_y1 (by omega) (by omega) c_65)]; rfl) | (rw [if_pos (ad1_y2 (by omega) (by omega) c_73)]; done) | (rw [if_pos (ad1_y2 (by omega) (by omega) c_73)]; rfl)) ls (lv_sub hl [0, 1, 2, 3, 4, 5] rfl) _ _ hG hS
      · refine lv_iload C0.1 C0.2.1 dX1_points_68 (lv_at hl 1 rfl) ?_
        refine lv_iload_n C0.1 C0.2.1 dX1_points_70 rfl (lv_at hl 2 rfl) ?_
        refine lv_isub C0.1 C0.2.1 dX1_points_71 ?_
        refine lv_iconst (v := nI 1) C0.1 C0.2.1 dX1_points_72 (by decide) ?_
        refine lv_icmp_ne (tgt := 79) C0.1 C0.2.1 dX1_points_73 (by decide) (fun c_73 => ?_) (fun c_73 => ?_)
        · exact cut_79 (q2) (by first | (rw [if_neg (ad1_n (by omega) (by omega) c_65 c_73)]; done) | (rw [if_neg (ad1_n (by omega) (by omega) c_65 c_73)]; rfl) | (rw [if_pos (ad1_y1 (by omega) (by omega) c_65)]; done) | (rw [if_pos (ad1_y1 (by omega) (by omega) c_65)]; rfl) | (rw [if_pos (ad1_y2 (by omega) (by omega) c_73)]; done) | (rw [if_pos (ad1_y2 (by omega) (by omega) c_73)]; rfl)) ls (lv_sub hl [0, 1, 2, 3, 4, 5] rfl) _ _ hG hS
        · refine lv_iinc (v := nI (q2 + 3)) (lv' := [(5, .int (nI (q2 + 3))), (4, .int (nI (tk (y)))), (3, .int (nI (tk (x)))), (0, .ref h), (1, .int (nI (x))), (2, .int (nI (y)))]) C0.1 C0.2.1 dX1_points_76 hl (k := 0) rfl (nI_add (q2) 3) (by decide) rfl (fun ls hl => ?_)
          exact cut_79 (q2 + 3) (by first | (rw [if_neg (ad1_n (by omega) (by omega) c_65 c_73)]; done) | (rw [if_neg (ad1_n (by omega) (by omega) c_65 c_73)]; rfl) | (rw [if_pos (ad1_y1 (by omega) (by omega) c_65)]; done) | (rw [if_pos (ad1_y1 (by omega) (by omega) c_65)]; rfl) | (rw [if_pos (ad1_y2 (by omega) (by omega) c_73)]; done) | (rw [if_pos (ad1_y2 (by omega) (by omega) c_73)]; rfl)) ls (lv_sub hl [0, 1, 2, 3, 4, 5] rfl) _ _ hG hS
    refine lv_iload_n C0.1 C0.2.1 dX1_points_34 rfl (lv_at hl 2 rfl) ?_
    refine lv_bipush (v := nI 10) C0.1 C0.2.1 dX1_points_35 (by decide) ?_
    refine tn_idiv C0.1 C0.2.1 dX1_points_37 (by omega) (by decide) (by decide) ?_
    refine lv_iload_n C0.1 C0.2.1 dX1_points_38 rfl (lv_at hl 2 rfl) ?_
    refine lv_bipush (v := nI 10) C0.1 C0.2.1 dX1_points_39 (by decide) ?_
    refine tn_irem C0.1 C0.2.1 dX1_points_41 (by omega) (by decide) (by decide) ?_
    refine tn_iadd C0.1 C0.2.1 dX1_points_42 ?_
    refine lv_iload C0.1 C0.2.1 dX1_points_43 (lv_at hl 1 rfl) ?_
    refine lv_bipush (v := nI 10) C0.1 C0.2.1 dX1_points_45 (by decide) ?_
    refine tn_idiv C0.1 C0.2.1 dX1_points_47 (by omega) (by decide) (by decide) ?_
    refine lv_iload C0.1 C0.2.1 dX1_points_48 (lv_at hl 1 rfl) ?_
    refine lv_bipush (v := nI 10) C0.1 C0.2.1 dX1_points_50 (by decide) ?_
    refine tn_irem C0.1 C0.2.1 dX1_points_52 (by omega) (by decide) (by decide) ?_
    refine tn_iadd C0.1 C0.2.1 dX1_points_53 ?_
    refine tn_icmp_ne (tgt := 60) C0.1 C0.2.1 dX1_points_54 (by decide) (by omega) (by omega) (fun c_54 => ?_) (fun c_54 => ?_)
    · exact cut_60 (q1) (by first | (rw [if_neg c_54]; done) | (rw [if_neg c_54]; rfl) | (rw [if_pos c_54]; done) | (rw [if_pos c_54]; rfl)) ls (lv_sub hl [0, 1, 2, 3, 4, 5] rfl) _ _ hG hS
    · refine lv_iinc (v := nI (q1 + 2)) (lv' := [(5, .int (nI (q1 + 2))), (4, .int (nI (tk (y)))), (3, .int (nI (tk (x)))), (0, .ref h), (1, .int (nI (x))), (2, .int (nI (y)))]) C0.1 C0.2.1 dX1_points_57 hl (k := 0) rfl (nI_add (q1) 2) (by decide) rfl (fun ls hl => ?_)
      exact cut_60 (q1 + 2) (by first | (rw [if_neg c_54]; done) | (rw [if_neg c_54]; rfl) | (rw [if_pos c_54]; done) | (rw [if_pos c_54]; rfl)) ls (lv_sub hl [0, 1, 2, 3, 4, 5] rfl) _ _ hG hS
  refine lv_iload_n C0.1 C0.2.1 dX1_points_15 rfl (lv_at hl 1 rfl) ?_
  refine lv_bipush (v := nI 10) C0.1 C0.2.1 dX1_points_16 (by decide) ?_
  refine tn_irem C0.1 C0.2.1 dX1_points_18 (by omega) (by decide) (by decide) ?_
  refine lv_iload C0.1 C0.2.1 dX1_points_19 (lv_at hl 0 rfl) ?_
  refine lv_bipush (v := nI 10) C0.1 C0.2.1 dX1_points_21 (by decide) ?_
  refine tn_irem C0.1 C0.2.1 dX1_points_23 (by omega) (by decide) (by decide) ?_
  refine tn_icmp_ne (tgt := 31) C0.1 C0.2.1 dX1_points_24 (by decide) (by omega) (by omega) (fun c_24 => ?_) (fun c_24 => ?_)
  · refine lv_iconst (v := nI 0) C0.1 C0.2.1 dX1_points_31 (by decide) ?_
    exact cut_32 (0) (by first | (rw [if_neg c_24]; done) | (rw [if_neg c_24]; rfl) | (rw [if_pos c_24]; done) | (rw [if_pos c_24]; rfl)) ls (lv_sub hl [0, 1, 2, 3, 4] rfl) _ _ hG hS
  · refine lv_iconst (v := nI 1) C0.1 C0.2.1 dX1_points_27 (by decide) ?_
    refine lv_goto (tgt := 32) C0.1 C0.2.1 dX1_points_28 (by decide) ?_
    exact cut_32 (1) (by first | (rw [if_neg c_24]; done) | (rw [if_neg c_24]; rfl) | (rw [if_pos c_24]; done) | (rw [if_pos c_24]; rfl)) ls (lv_sub hl [0, 1, 2, 3, 4] rfl) _ _ hG hS
set_option maxHeartbeats 4000000 in
set_option maxRecDepth 100000 in
theorem kX1_cornerIn {l : Launch} (hlf : l.stackTraces = false) {D : va_G} {cI cJ : ClassId} {N0 : Nat} {h r1 r2 r3 r4 : Nat} {tk co cn wk : Nat → Nat} {n st : Nat} {ho ct sp : Int32} {Z : va_W} {th : Int32} (hk : tOk tk co cn wk n st) (x : Nat) (y : Nat) (h1 : x < 12) (h2 : y ≤ 60) : tcM l yX1_cornerIn wsX1_cornerIn { frames := 0, cells := 0, slots := 0, locals := 0 } [] 0 [.ref h, .int (nI (x)), .int (nI (y))] D cI cJ N0 (wM h r1 r2 r3 r4 cI th tk co cn wk n ho st ct sp Z) (some (.int (nI (cnr cn wk y x)))) (wM h r1 r2 r3 r4 cI th tk co cn wk n ho st ct sp Z) 0 0 := by
  refine tcM.of (cc := cX1_cornerIn) (maxL := 3) (ret := (some .int)) (by decide) rfl (Nat.le_of_ble_eq_true rfl) ?_
  intro p e s m args below meth c C0 hr hlk ht hmn hG ls hl
  have hl : lv_has ls 3 [(0, .ref h), (1, .int (nI (x))), (2, .int (nI (y)))] := hl
  obtain ⟨hk1, hk2, hk3, hk4, hn12, hst⟩ := id hk
  have hG0 := hG
  have hS : va_S (tcA N0) s.heap s.heap [] := va_S.rf
  have hF : ∀ w ∈ wsX10, w ∈ wsX1_cornerIn := by decide +kernel
  have w_corner : Cond.fieldLink RX1 16 "TicketCoincidencesModel" "corner" "[I" ∈ wsX1_cornerIn := by decide +kernel
  have w_walk : Cond.fieldLink RX1 19 "TicketCoincidencesModel" "walk" "[I" ∈ wsX1_cornerIn := by decide +kernel
  refine lv_aload_n C0.1 C0.2.1 dX1_cornerIn_0 rfl (lv_at hl 0 rfl) ?_
  refine tgX1_corner C0 hF hG w_corner dX1_cornerIn_1 ?_
  refine lv_iload_n C0.1 C0.2.1 dX1_cornerIn_4 rfl (lv_at hl 1 rfl) ?_
  refine tc_ald (q0 := 3) C0 hG rfl (by omega) dX1_cornerIn_5 ?_
  have b_5 := hk3 (x)
  refine lv_aload_n C0.1 C0.2.1 dX1_cornerIn_6 rfl (lv_at hl 0 rfl) ?_
  refine tgX1_walk C0 hF hG w_walk dX1_cornerIn_7 ?_
  refine lv_iload_n C0.1 C0.2.1 dX1_cornerIn_10 rfl (lv_at hl 1 rfl) ?_
  refine tc_ald (q0 := 4) C0 hG rfl (by omega) dX1_cornerIn_11 ?_
  have b_11 := hk4 (x)
  refine lv_iload_n C0.1 C0.2.1 dX1_cornerIn_12 rfl (lv_at hl 2 rfl) ?_
  refine tn_imul C0.1 C0.2.1 dX1_cornerIn_13 ?_
  refine tn_iadd C0.1 C0.2.1 dX1_cornerIn_14 ?_
  refine lv_bipush (v := nI 6) C0.1 C0.2.1 dX1_cornerIn_15 (by decide) ?_
  refine tn_irem C0.1 C0.2.1 dX1_cornerIn_17 (by have := Nat.mul_le_mul (Nat.le_of_lt b_11) h2; omega) (by decide) (by decide) ?_
  exact tc_iret C0 hr hlk hG hS rfl rfl (Nat.le_of_ble_eq_true rfl) (Nat.le_of_ble_eq_true rfl) dX1_cornerIn_18
set_option maxHeartbeats 4000000 in
set_option maxRecDepth 100000 in
theorem kX1_town {l : Launch} (hlf : l.stackTraces = false) {D : va_G} {cI cJ : ClassId} {N0 : Nat} {h r1 r2 r3 r4 : Nat} {tk co cn wk : Nat → Nat} {n st : Nat} {ho ct sp : Int32} {Z : va_W} {th : Int32} (hk : tOk tk co cn wk n st) (x : Nat) (y : Nat) (h1 : x ≤ 60) (h2 : y ≤ 6) : tcM l yX1_town wsX1_town { frames := 2, cells := 0, slots := 0, locals := 46 } [] 0 [.ref h, .int (nI (x)), .int (iM (y))] D cI cJ N0 (wM h r1 r2 r3 r4 cI th tk co cn wk n ho st ct sp Z) (some (.int (nI (twm tk co cn wk x y n)))) (wM h r1 r2 r3 r4 cI th tk co cn wk n ho st ct sp Z) 0 0 := by
  refine tcM.of (cc := cX1_town) (maxL := 6) (ret := (some .int)) (by decide) rfl (Nat.le_of_ble_eq_true rfl) ?_
  intro p e s m args below meth c C0 hr hlk ht hmn hG ls hl
  have hl : lv_has ls 6 [(0, .ref h), (1, .int (nI (x))), (2, .int (iM (y)))] := hl
  obtain ⟨hk1, hk2, hk3, hk4, hn12, hst⟩ := id hk
  have hG0 := hG
  have hS : va_S (tcA N0) s.heap s.heap [] := va_S.rf
  have hF : ∀ w ∈ wsX10, w ∈ wsX1_town := by decide +kernel
  have w_people : Cond.fieldLink RX1 29 "TicketCoincidencesModel" "people" "I" ∈ wsX1_town := by decide +kernel
  refine lv_iconst (v := nI 0) C0.1 C0.2.1 dX1_town_0 (by decide) ?_
  refine lv_istore_n (lv' := [(3, .int (nI (0))), (0, .ref h), (1, .int (nI (x))), (2, .int (iM (y)))]) C0.1 C0.2.1 dX1_town_1 rfl hl (by decide) rfl (fun ls hl => ?_)
  refine lv_iconst (v := nI 0) C0.1 C0.2.1 dX1_town_2 (by decide) ?_
  refine lv_istore (lv' := [(4, .int (nI (0))), (3, .int (nI (0))), (0, .ref h), (1, .int (nI (x))), (2, .int (iM (y)))]) C0.1 C0.2.1 dX1_town_3 hl (by decide) rfl (fun ls hl => ?_)
  refine tc_nameQ (fun zQg zhQ => ?_)
  have cut_5 : ∀ (kf : Nat) (q : Nat) (a : Nat) (ha : a ≤ n) (hq : q = sm (twf tk co cn wk x y) a) (hm : n + 1 ≤ a + kf), ∀ (ls : Array Slot), lv_has ls 6 [(4, .int (nI (a))), (3, .int (nI (q))), (0, .ref h), (1, .int (nI (x))), (2, .int (iM (y)))] → ∀ (H : Heap) (locs : List Loc), tcG D cI cJ N0 (wM h r1 r2 r3 r4 cI th tk co cn wk n ho st ct sp Z) s H → va_S (tcA N0) s.heap H locs → W p l e ({ frames := 2, cells := 0, slots := 0, locals := 46 } : Room) s m args below meth c H locs (0) (0) zQg (F0 m 5 ls []) := by
    intro kf
    induction kf with
    | zero => intro q a ha hq hm; exact absurd hm (by omega)
    | succ kf ih_5 =>
      intro q a ha hq hm ls hl H locs hG hS
      refine lv_iload C0.1 C0.2.1 dX1_town_5 (lv_at hl 0 rfl) ?_
      refine lv_aload_n C0.1 C0.2.1 dX1_town_7 rfl (lv_at hl 2 rfl) ?_
      refine tgX1_people C0 hF hG w_people dX1_town_8 ?_
      refine tn_icmp_ge (tgt := 83) C0.1 C0.2.1 dX1_town_11 (by decide) (by omega) (by omega) (fun c_11 => ?_) (fun c_11 => ?_)
      · refine lv_iload_n C0.1 C0.2.1 dX1_town_83 rfl (lv_at hl 1 rfl) ?_
        subst zhQ
        exact tc_iret C0 hr hlk hG hS rfl (by rw [hq, show a = n by omega]; rfl) (Nat.le_of_ble_eq_true rfl) (Nat.le_of_ble_eq_true rfl) dX1_town_84
      · have cut_33 : ∀  (hcd33 : y = 0 ∨ cnr cn wk x a + 1 = y), ∀ (ls : Array Slot), lv_has ls 6 [(4, .int (nI (a))), (3, .int (nI (q))), (0, .ref h), (1, .int (nI (x))), (2, .int (iM (y)))] → ∀ (H : Heap) (locs : List Loc), tcG D cI cJ N0 (wM h r1 r2 r3 r4 cI th tk co cn wk n ho st ct sp Z) s H → va_S (tcA N0) s.heap H locs → W p l e ({ frames := 2, cells := 0, slots := 0, locals := 46 } : Room) s m args below meth c H locs (0) (0) zQg (F0 m 33 ls []) := by
          intro hcd33 ls hl H locs hG hS
          refine lv_iconst (v := nI 0) C0.1 C0.2.1 dX1_town_33 (by decide) ?_
          refine lv_istore (lv' := [(5, .int (nI (0))), (4, .int (nI (a))), (3, .int (nI (q))), (0, .ref h), (1, .int (nI (x))), (2, .int (iM (y)))]) C0.1 C0.2.1 dX1_town_34 hl (by decide) rfl (fun ls hl => ?_)
          have cut_36 : ∀ (kf : Nat) (q2 : Nat) (b : Nat) (hb : b ≤ a) (hq2 : q2 = q + sm (twg tk co cn wk x a) b) (hm : a + 1 ≤ b + kf), ∀ (ls : Array Slot), lv_has ls 6 [(5, .int (nI (b))), (4, .int (nI (a))), (3, .int (nI (q2))), (0, .ref h), (1, .int (nI (x))), (2, .int (iM (y)))] → ∀ (H : Heap) (locs : List Loc), tcG D cI cJ N0 (wM h r1 r2 r3 r4 cI th tk co cn wk n ho st ct sp Z) s H → va_S (tcA N0) s.heap H locs → W p l e ({ frames := 2, cells := 0, slots := 0, locals := 46 } : Room) s m args below meth c H locs (0) (0) zQg (F0 m 36 ls []) := by
            intro kf
            induction kf with
            | zero => intro q2 b hb hq2 hm; exact absurd hm (by omega)
            | succ kf ih_36 =>
              intro q2 b hb hq2 hm ls hl H locs hG hS
              refine lv_iload C0.1 C0.2.1 dX1_town_36 (lv_at hl 0 rfl) ?_
              refine lv_iload C0.1 C0.2.1 dX1_town_38 (lv_at hl 1 rfl) ?_
              refine tn_icmp_ge (tgt := 77) C0.1 C0.2.1 dX1_town_40 (by decide) (by omega) (by omega) (fun c_40 => ?_) (fun c_40 => ?_)
              · refine tn_iinc (lv' := [(4, .int (nI (a + 1))), (5, .int (nI (b))), (3, .int (nI (q2))), (0, .ref h), (1, .int (nI (x))), (2, .int (iM (y)))]) C0.1 C0.2.1 dX1_town_77 hl (k := 1) rfl (by decide) rfl (fun ls hl => ?_)
                refine lv_goto (tgt := 5) C0.1 C0.2.1 dX1_town_80 (by decide) ?_
                exact ih_5 (q2) (a + 1) (by omega) (by first | exact twf_y hq (by omega) hq2 hcd33 | exact sm_skip hq (if_neg (fun z => z.elim c_16 c_27))) (by omega) ls (lv_sub hl [0, 2, 3, 4, 5] rfl) _ _ hG hS
              · refine lv_aload_n C0.1 C0.2.1 dX1_town_43 rfl (lv_at hl 3 rfl) ?_
                refine lv_iload C0.1 C0.2.1 dX1_town_44 (lv_at hl 1 rfl) ?_
                refine lv_iload_n C0.1 C0.2.1 dX1_town_46 rfl (lv_at hl 4 rfl) ?_
                refine tc_callV (q0 := 0) C0 hG hS rfl rfl (kX1_cornerIn hlf hk  (a) (x) (by omega) (by omega)) (cwV 2 C0.2.2.2.2 gX1_town_X1_cornerIn rfl rfl rfl (by decide +kernel) ⟨(Nat.le_of_ble_eq_true rfl), (Nat.le_of_ble_eq_true rfl)⟩) rfl hl rfl (Nat.le_of_ble_eq_true rfl) dX1_town_47 ⟨(Nat.le_of_ble_eq_true rfl), (Nat.le_of_ble_eq_true rfl)⟩ (fun H locs hG hS => ?_)
                have b_47 := cnr_lt cn wk x a
                refine lv_aload_n C0.1 C0.2.1 dX1_town_50 rfl (lv_at hl 3 rfl) ?_
                refine lv_iload C0.1 C0.2.1 dX1_town_51 (lv_at hl 0 rfl) ?_
                refine lv_iload_n C0.1 C0.2.1 dX1_town_53 rfl (lv_at hl 4 rfl) ?_
                refine tc_callV (q0 := 0) C0 hG hS rfl rfl (kX1_cornerIn hlf hk  (b) (x) (by omega) (by omega)) (cwV 2 C0.2.2.2.2 gX1_town_X1_cornerIn rfl rfl rfl (by decide +kernel) ⟨(Nat.le_of_ble_eq_true rfl), (Nat.le_of_ble_eq_true rfl)⟩) rfl hl rfl (Nat.le_of_ble_eq_true rfl) dX1_town_54 ⟨(Nat.le_of_ble_eq_true rfl), (Nat.le_of_ble_eq_true rfl)⟩ (fun H locs hG hS => ?_)
                have b_54 := cnr_lt cn wk x b
                refine tn_icmp_ne (tgt := 71) C0.1 C0.2.1 dX1_town_57 (by decide) (by omega) (by omega) (fun c_57 => ?_) (fun c_57 => ?_)
                · refine tn_iinc (lv' := [(5, .int (nI (b + 1))), (4, .int (nI (a))), (3, .int (nI (q2))), (0, .ref h), (1, .int (nI (x))), (2, .int (iM (y)))]) C0.1 C0.2.1 dX1_town_71 hl (k := 0) rfl (by decide) rfl (fun ls hl => ?_)
                  refine lv_goto (tgt := 36) C0.1 C0.2.1 dX1_town_74 (by decide) ?_
                  exact ih_36 (q2) (b + 1) (by omega) (by first | exact sm_step2 hq2 (if_pos c_57) | exact sm_skip2 hq2 (if_neg c_57)) (by omega) ls (lv_sub hl [0, 1, 2, 3, 4, 5] rfl) _ _ hG hS
                · refine lv_iload_n C0.1 C0.2.1 dX1_town_60 rfl (lv_at hl 2 rfl) ?_
                  refine lv_aload_n C0.1 C0.2.1 dX1_town_61 rfl (lv_at hl 3 rfl) ?_
                  refine lv_iload C0.1 C0.2.1 dX1_town_62 (lv_at hl 1 rfl) ?_
                  refine lv_iload C0.1 C0.2.1 dX1_town_64 (lv_at hl 0 rfl) ?_
                  refine tc_callV (q0 := 0) C0 hG hS rfl rfl (kX1_points hlf hk  (a) (b) (by omega) (by omega)) (cwV 2 C0.2.2.2.2 gX1_town_X1_points rfl rfl rfl (by decide +kernel) ⟨(Nat.le_of_ble_eq_true rfl), (Nat.le_of_ble_eq_true rfl)⟩) rfl hl rfl (Nat.le_of_ble_eq_true rfl) dX1_town_66 ⟨(Nat.le_of_ble_eq_true rfl), (Nat.le_of_ble_eq_true rfl)⟩ (fun H locs hG hS => ?_)
                  have b_66 := pts_le tk co a b
                  refine tn_iadd C0.1 C0.2.1 dX1_town_69 ?_
                  refine lv_istore_n (lv' := [(3, .int (nI (q2 + (pts tk co a b)))), (5, .int (nI (b))), (4, .int (nI (a))), (0, .ref h), (1, .int (nI (x))), (2, .int (iM (y)))]) C0.1 C0.2.1 dX1_town_70 rfl hl (by decide) rfl (fun ls hl => ?_)
                  refine tn_iinc (lv' := [(5, .int (nI (b + 1))), (3, .int (nI (q2 + (pts tk co a b)))), (4, .int (nI (a))), (0, .ref h), (1, .int (nI (x))), (2, .int (iM (y)))]) C0.1 C0.2.1 dX1_town_71 hl (k := 1) rfl (by decide) rfl (fun ls hl => ?_)
                  refine lv_goto (tgt := 36) C0.1 C0.2.1 dX1_town_74 (by decide) ?_
                  exact ih_36 (q2 + (pts tk co a b)) (b + 1) (by omega) (by first | exact sm_step2 hq2 (if_pos c_57) | exact sm_skip2 hq2 (if_neg c_57)) (by omega) ls (lv_sub hl [0, 2, 1, 3, 4, 5] rfl) _ _ hG hS
          exact cut_36 (a + 1) (q) (0) (by omega) rfl (by omega) ls (lv_sub hl [0, 1, 2, 3, 4, 5] rfl) _ _ hG hS
        refine lv_iload_n C0.1 C0.2.1 dX1_town_14 rfl (lv_at hl 4 rfl) ?_
        refine lv_iconst (v := iM 0) C0.1 C0.2.1 dX1_town_15 (by decide) ?_
        refine tm_icmp_eq (tgt := 33) C0.1 C0.2.1 dX1_town_16 (by decide) (by omega) (by omega) (fun c_16 => ?_) (fun c_16 => ?_)
        · exact cut_33  (by first | exact Or.inl c_16 | exact Or.inr c_27) ls (lv_sub hl [0, 1, 2, 3, 4] rfl) _ _ hG hS
        · refine lv_aload_n C0.1 C0.2.1 dX1_town_19 rfl (lv_at hl 2 rfl) ?_
          refine lv_iload C0.1 C0.2.1 dX1_town_20 (lv_at hl 0 rfl) ?_
          refine lv_iload_n C0.1 C0.2.1 dX1_town_22 rfl (lv_at hl 3 rfl) ?_
          refine tc_callV (q0 := 0) C0 hG hS rfl rfl (kX1_cornerIn hlf hk  (a) (x) (by omega) (by omega)) (cwV 2 C0.2.2.2.2 gX1_town_X1_cornerIn rfl rfl rfl (by decide +kernel) ⟨(Nat.le_of_ble_eq_true rfl), (Nat.le_of_ble_eq_true rfl)⟩) rfl hl rfl (Nat.le_of_ble_eq_true rfl) dX1_town_23 ⟨(Nat.le_of_ble_eq_true rfl), (Nat.le_of_ble_eq_true rfl)⟩ (fun H locs hG hS => ?_)
          have b_23 := cnr_lt cn wk x a
          refine tc_top (iM_s (cnr cn wk x a)).symm ?_
          refine lv_iload_n C0.1 C0.2.1 dX1_town_26 rfl (lv_at hl 4 rfl) ?_
          refine tm_icmp_eq (tgt := 33) C0.1 C0.2.1 dX1_town_27 (by decide) (by omega) (by omega) (fun c_27 => ?_) (fun c_27 => ?_)
          · exact cut_33  (by first | exact Or.inl c_16 | exact Or.inr c_27) ls (lv_sub hl [0, 1, 2, 3, 4] rfl) _ _ hG hS
          · refine lv_goto (tgt := 77) C0.1 C0.2.1 dX1_town_30 (by decide) ?_
            refine tn_iinc (lv' := [(4, .int (nI (a + 1))), (3, .int (nI (q))), (0, .ref h), (1, .int (nI (x))), (2, .int (iM (y)))]) C0.1 C0.2.1 dX1_town_77 hl (k := 0) rfl (by decide) rfl (fun ls hl => ?_)
            refine lv_goto (tgt := 5) C0.1 C0.2.1 dX1_town_80 (by decide) ?_
            exact ih_5 (q) (a + 1) (by omega) (by first | exact twf_y hq (by omega) hq2 hcd33 | exact sm_skip hq (if_neg (fun z => z.elim c_16 c_27))) (by omega) ls (lv_sub hl [0, 1, 2, 3, 4] rfl) _ _ hG hS
  exact cut_5 (n + 1) (0) (0) (by omega) rfl (by omega) ls (lv_sub hl [0, 1, 2, 3, 4] rfl) _ _ hG hS
set_option maxHeartbeats 4000000 in
set_option maxRecDepth 100000 in
theorem kX1_here {l : Launch} (hlf : l.stackTraces = false) {D : va_G} {cI cJ : ClassId} {N0 : Nat} {h r1 r2 r3 r4 : Nat} {tk co cn wk : Nat → Nat} {n st : Nat} {ho ct sp : Int32} {Z : va_W} {th : Int32} (hk : tOk tk co cn wk n st)   : tcM l yX1_here wsX1_here { frames := 3, cells := 0, slots := 0, locals := 71 } [] 0 [.ref h] D cI cJ N0 (wM h r1 r2 r3 r4 cI th tk co cn wk n ho st ct sp Z) (some (.int (nI (tw tk co cn wk 0 n)))) (wM h r1 r2 r3 r4 cI th tk co cn wk n ho st ct sp Z) 0 0 := by
  refine tcM.of (cc := cX1_here) (maxL := 1) (ret := (some .int)) (by decide) rfl (Nat.le_of_ble_eq_true rfl) ?_
  intro p e s m args below meth c C0 hr hlk ht hmn hG ls hl
  have hl : lv_has ls 1 [(0, .ref h)] := hl
  obtain ⟨hk1, hk2, hk3, hk4, hn12, hst⟩ := id hk
  have hG0 := hG
  have hS : va_S (tcA N0) s.heap s.heap [] := va_S.rf
  refine lv_aload_n C0.1 C0.2.1 dX1_here_0 rfl (lv_at hl 0 rfl) ?_
  refine lv_iconst (v := nI 0) C0.1 C0.2.1 dX1_here_1 (by decide) ?_
  refine lv_iconst (v := iM 0) C0.1 C0.2.1 dX1_here_2 (by decide) ?_
  refine tc_callV (q0 := 0) C0 hG hS rfl rfl (kX1_town hlf hk  (0) (0) (by omega) (by omega)) (cwV 2 C0.2.2.2.2 gX1_here_X1_town rfl rfl rfl (by decide +kernel) ⟨(Nat.le_of_ble_eq_true rfl), (Nat.le_of_ble_eq_true rfl)⟩) rfl hl rfl (Nat.le_of_ble_eq_true rfl) dX1_here_3 ⟨(Nat.le_of_ble_eq_true rfl), (Nat.le_of_ble_eq_true rfl)⟩ (fun H locs hG hS => ?_)
  have b_3 := twm_le tk co cn wk 0 0 hk.2.2.2.2.1
  exact tc_iret C0 hr hlk hG hS rfl (by rw [twm_0]) (Nat.le_of_ble_eq_true rfl) (Nat.le_of_ble_eq_true rfl) dX1_here_6
set_option maxHeartbeats 4000000 in
set_option maxRecDepth 100000 in
theorem kX1_luck {l : Launch} (hlf : l.stackTraces = false) {D : va_G} {cI cJ : ClassId} {N0 : Nat} {h r1 r2 r3 r4 : Nat} {tk co cn wk : Nat → Nat} {n st : Nat} {ho ct sp : Int32} {Z : va_W} {th : Int32} (hk : tOk tk co cn wk n st) (x : Nat) (h1 : x < 12) : tcM l yX1_luck wsX1_luck { frames := 2, cells := 0, slots := 0, locals := 46 } [] 0 [.ref h, .int (nI (x))] D cI cJ N0 (wM h r1 r2 r3 r4 cI th tk co cn wk n ho st ct sp Z) (some (.int (nI (lkn tk co cn x n)))) (wM h r1 r2 r3 r4 cI th tk co cn wk n ho st ct sp Z) 0 0 := by
  refine tcM.of (cc := cX1_luck) (maxL := 4) (ret := (some .int)) (by decide) rfl (Nat.le_of_ble_eq_true rfl) ?_
  intro p e s m args below meth c C0 hr hlk ht hmn hG ls hl
  have hl : lv_has ls 4 [(0, .ref h), (1, .int (nI (x)))] := hl
  obtain ⟨hk1, hk2, hk3, hk4, hn12, hst⟩ := id hk
  have hG0 := hG
  have hS : va_S (tcA N0) s.heap s.heap [] := va_S.rf
  have hF : ∀ w ∈ wsX10, w ∈ wsX1_luck := by decide +kernel
  have w_corner : Cond.fieldLink RX1 16 "TicketCoincidencesModel" "corner" "[I" ∈ wsX1_luck := by decide +kernel
  have w_people : Cond.fieldLink RX1 29 "TicketCoincidencesModel" "people" "I" ∈ wsX1_luck := by decide +kernel
  refine lv_iconst (v := nI 0) C0.1 C0.2.1 dX1_luck_0 (by decide) ?_
  refine lv_istore_n (lv' := [(2, .int (nI (0))), (0, .ref h), (1, .int (nI (x)))]) C0.1 C0.2.1 dX1_luck_1 rfl hl (by decide) rfl (fun ls hl => ?_)
  refine lv_iconst (v := nI 0) C0.1 C0.2.1 dX1_luck_2 (by decide) ?_
  refine lv_istore_n (lv' := [(3, .int (nI (0))), (2, .int (nI (0))), (0, .ref h), (1, .int (nI (x)))]) C0.1 C0.2.1 dX1_luck_3 rfl hl (by decide) rfl (fun ls hl => ?_)
  refine tc_nameQ (fun zQg zhQ => ?_)
  have cut_4 : ∀ (kf : Nat) (q : Nat) (i : Nat) (hi : i ≤ n) (hq : q = sm (lwg tk co cn x (tk x) (cn x)) i) (hm : n + 1 ≤ i + kf), ∀ (ls : Array Slot), lv_has ls 4 [(3, .int (nI (i))), (2, .int (nI (q))), (0, .ref h), (1, .int (nI (x)))] → ∀ (H : Heap) (locs : List Loc), tcG D cI cJ N0 (wM h r1 r2 r3 r4 cI th tk co cn wk n ho st ct sp Z) s H → va_S (tcA N0) s.heap H locs → W p l e ({ frames := 2, cells := 0, slots := 0, locals := 46 } : Room) s m args below meth c H locs (0) (0) zQg (F0 m 4 ls []) := by
    intro kf
    induction kf with
    | zero => intro q i hi hq hm; exact absurd hm (by omega)
    | succ kf ih_4 =>
      intro q i hi hq hm ls hl H locs hG hS
      refine lv_iload_n C0.1 C0.2.1 dX1_luck_4 rfl (lv_at hl 0 rfl) ?_
      refine lv_aload_n C0.1 C0.2.1 dX1_luck_5 rfl (lv_at hl 2 rfl) ?_
      refine tgX1_people C0 hF hG w_people dX1_luck_6 ?_
      refine tn_icmp_ge (tgt := 51) C0.1 C0.2.1 dX1_luck_9 (by decide) (by omega) (by omega) (fun c_9 => ?_) (fun c_9 => ?_)
      · refine lv_iload_n C0.1 C0.2.1 dX1_luck_51 rfl (lv_at hl 1 rfl) ?_
        subst zhQ
        exact tc_iret C0 hr hlk hG hS rfl (by rw [hq, show i = n by omega]; rfl) (Nat.le_of_ble_eq_true rfl) (Nat.le_of_ble_eq_true rfl) dX1_luck_52
      · refine lv_iload_n C0.1 C0.2.1 dX1_luck_12 rfl (lv_at hl 1 rfl) ?_
        refine lv_iload_n C0.1 C0.2.1 dX1_luck_13 rfl (lv_at hl 0 rfl) ?_
        refine lv_iload_n C0.1 C0.2.1 dX1_luck_14 rfl (lv_at hl 3 rfl) ?_
        refine tn_icmp_eq (tgt := 42) C0.1 C0.2.1 dX1_luck_15 (by decide) (by omega) (by omega) (fun c_15 => ?_) (fun c_15 => ?_)
        · refine lv_iconst (v := nI 0) C0.1 C0.2.1 dX1_luck_42 (by decide) ?_
          refine tn_iadd C0.1 C0.2.1 dX1_luck_43 ?_
          refine lv_istore_n (lv' := [(2, .int (nI (q + 0))), (3, .int (nI (i))), (0, .ref h), (1, .int (nI (x)))]) C0.1 C0.2.1 dX1_luck_44 rfl hl (by decide) rfl (fun ls hl => ?_)
          refine tn_iinc (lv' := [(3, .int (nI (i + 1))), (2, .int (nI (q + 0))), (0, .ref h), (1, .int (nI (x)))]) C0.1 C0.2.1 dX1_luck_45 hl (k := 1) rfl (by decide) rfl (fun ls hl => ?_)
          refine lv_goto (tgt := 4) C0.1 C0.2.1 dX1_luck_48 (by decide) ?_
          exact ih_4 (q + 0) (i + 1) (by omega) (by first | exact sm_step hq (lwg_1 c_15 c_30) | exact sm_step hq (lwg_0 c_15) | exact sm_step hq (lwg_2 c_30)) (by omega) ls (lv_sub hl [0, 1, 2, 3] rfl) _ _ hG hS
        · refine lv_aload_n C0.1 C0.2.1 dX1_luck_18 rfl (lv_at hl 2 rfl) ?_
          refine tgX1_corner C0 hF hG w_corner dX1_luck_19 ?_
          refine lv_iload_n C0.1 C0.2.1 dX1_luck_22 rfl (lv_at hl 0 rfl) ?_
          refine tc_ald (q0 := 3) C0 hG rfl (by omega) dX1_luck_23 ?_
          have b_23 := hk3 (i)
          refine lv_aload_n C0.1 C0.2.1 dX1_luck_24 rfl (lv_at hl 2 rfl) ?_
          refine tgX1_corner C0 hF hG w_corner dX1_luck_25 ?_
          refine lv_iload_n C0.1 C0.2.1 dX1_luck_28 rfl (lv_at hl 3 rfl) ?_
          refine tc_ald (q0 := 3) C0 hG rfl (by omega) dX1_luck_29 ?_
          have b_29 := hk3 (x)
          refine tn_icmp_ne (tgt := 42) C0.1 C0.2.1 dX1_luck_30 (by decide) (by omega) (by omega) (fun c_30 => ?_) (fun c_30 => ?_)
          · refine lv_iconst (v := nI 0) C0.1 C0.2.1 dX1_luck_42 (by decide) ?_
            refine tn_iadd C0.1 C0.2.1 dX1_luck_43 ?_
            refine lv_istore_n (lv' := [(2, .int (nI (q + 0))), (3, .int (nI (i))), (0, .ref h), (1, .int (nI (x)))]) C0.1 C0.2.1 dX1_luck_44 rfl hl (by decide) rfl (fun ls hl => ?_)
            refine tn_iinc (lv' := [(3, .int (nI (i + 1))), (2, .int (nI (q + 0))), (0, .ref h), (1, .int (nI (x)))]) C0.1 C0.2.1 dX1_luck_45 hl (k := 1) rfl (by decide) rfl (fun ls hl => ?_)
            refine lv_goto (tgt := 4) C0.1 C0.2.1 dX1_luck_48 (by decide) ?_
            exact ih_4 (q + 0) (i + 1) (by omega) (by first | exact sm_step hq (lwg_1 c_15 c_30) | exact sm_step hq (lwg_0 c_15) | exact sm_step hq (lwg_2 c_30)) (by omega) ls (lv_sub hl [0, 1, 2, 3] rfl) _ _ hG hS
          · refine lv_aload_n C0.1 C0.2.1 dX1_luck_33 rfl (lv_at hl 2 rfl) ?_
            refine lv_iload_n C0.1 C0.2.1 dX1_luck_34 rfl (lv_at hl 3 rfl) ?_
            refine lv_iload_n C0.1 C0.2.1 dX1_luck_35 rfl (lv_at hl 0 rfl) ?_
            refine tc_callV (q0 := 0) C0 hG hS rfl rfl (kX1_points hlf hk  (x) (i) (by omega) (by omega)) (cwV 2 C0.2.2.2.2 gX1_luck_X1_points rfl rfl rfl (by decide +kernel) ⟨(Nat.le_of_ble_eq_true rfl), (Nat.le_of_ble_eq_true rfl)⟩) rfl hl rfl (Nat.le_of_ble_eq_true rfl) dX1_luck_36 ⟨(Nat.le_of_ble_eq_true rfl), (Nat.le_of_ble_eq_true rfl)⟩ (fun H locs hG hS => ?_)
            have b_36 := pts_le tk co x i
            refine lv_goto (tgt := 43) C0.1 C0.2.1 dX1_luck_39 (by decide) ?_
            refine tn_iadd C0.1 C0.2.1 dX1_luck_43 ?_
            refine lv_istore_n (lv' := [(2, .int (nI (q + (pts tk co x i)))), (3, .int (nI (i))), (0, .ref h), (1, .int (nI (x)))]) C0.1 C0.2.1 dX1_luck_44 rfl hl (by decide) rfl (fun ls hl => ?_)
            refine tn_iinc (lv' := [(3, .int (nI (i + 1))), (2, .int (nI (q + (pts tk co x i)))), (0, .ref h), (1, .int (nI (x)))]) C0.1 C0.2.1 dX1_luck_45 hl (k := 1) rfl (by decide) rfl (fun ls hl => ?_)
            refine lv_goto (tgt := 4) C0.1 C0.2.1 dX1_luck_48 (by decide) ?_
            exact ih_4 (q + (pts tk co x i)) (i + 1) (by omega) (by first | exact sm_step hq (lwg_1 c_15 c_30) | exact sm_step hq (lwg_0 c_15) | exact sm_step hq (lwg_2 c_30)) (by omega) ls (lv_sub hl [0, 1, 2, 3] rfl) _ _ hG hS
  exact cut_4 (n + 1) (0) (0) (by omega) rfl (by omega) ls (lv_sub hl [0, 1, 2, 3] rfl) _ _ hG hS
set_option maxHeartbeats 4000000 in
set_option maxRecDepth 100000 in
theorem kX1_at {l : Launch} (hlf : l.stackTraces = false) {D : va_G} {cI cJ : ClassId} {N0 : Nat} {h r1 r2 r3 r4 : Nat} {tk co cn wk : Nat → Nat} {n st : Nat} {ho ct sp : Int32} {Z : va_W} {th : Int32} (hk : tOk tk co cn wk n st) (x : Nat) (h1 : x < 6) : tcM l yX1_at wsX1_at { frames := 0, cells := 0, slots := 0, locals := 0 } [] 0 [.ref h, .int (nI (x))] D cI cJ N0 (wM h r1 r2 r3 r4 cI th tk co cn wk n ho st ct sp Z) (some (.int (nI (crowd cn x n)))) (wM h r1 r2 r3 r4 cI th tk co cn wk n ho st ct sp Z) 0 0 := by
  refine tcM.of (cc := cX1_at) (maxL := 4) (ret := (some .int)) (by decide) rfl (Nat.le_of_ble_eq_true rfl) ?_
  intro p e s m args below meth c C0 hr hlk ht hmn hG ls hl
  have hl : lv_has ls 4 [(0, .ref h), (1, .int (nI (x)))] := hl
  obtain ⟨hk1, hk2, hk3, hk4, hn12, hst⟩ := id hk
  have hG0 := hG
  have hS : va_S (tcA N0) s.heap s.heap [] := va_S.rf
  have hF : ∀ w ∈ wsX10, w ∈ wsX1_at := by decide +kernel
  have w_corner : Cond.fieldLink RX1 16 "TicketCoincidencesModel" "corner" "[I" ∈ wsX1_at := by decide +kernel
  have w_people : Cond.fieldLink RX1 29 "TicketCoincidencesModel" "people" "I" ∈ wsX1_at := by decide +kernel
  refine lv_iconst (v := nI 0) C0.1 C0.2.1 dX1_at_0 (by decide) ?_
  refine lv_istore_n (lv' := [(2, .int (nI (0))), (0, .ref h), (1, .int (nI (x)))]) C0.1 C0.2.1 dX1_at_1 rfl hl (by decide) rfl (fun ls hl => ?_)
  refine lv_iconst (v := nI 0) C0.1 C0.2.1 dX1_at_2 (by decide) ?_
  refine lv_istore_n (lv' := [(3, .int (nI (0))), (2, .int (nI (0))), (0, .ref h), (1, .int (nI (x)))]) C0.1 C0.2.1 dX1_at_3 rfl hl (by decide) rfl (fun ls hl => ?_)
  refine tc_nameQ (fun zQg zhQ => ?_)
  have cut_4 : ∀ (kf : Nat) (q : Nat) (i : Nat) (hi : i ≤ n) (hq : q = sm (fun i => if cn i = x then 1 else 0) i) (hm : n + 1 ≤ i + kf), ∀ (ls : Array Slot), lv_has ls 4 [(3, .int (nI (i))), (2, .int (nI (q))), (0, .ref h), (1, .int (nI (x)))] → ∀ (H : Heap) (locs : List Loc), tcG D cI cJ N0 (wM h r1 r2 r3 r4 cI th tk co cn wk n ho st ct sp Z) s H → va_S (tcA N0) s.heap H locs → W p l e ({ frames := 0, cells := 0, slots := 0, locals := 0 } : Room) s m args below meth c H locs (0) (0) zQg (F0 m 4 ls []) := by
    intro kf
    induction kf with
    | zero => intro q i hi hq hm; exact absurd hm (by omega)
    | succ kf ih_4 =>
      intro q i hi hq hm ls hl H locs hG hS
      refine lv_iload_n C0.1 C0.2.1 dX1_at_4 rfl (lv_at hl 0 rfl) ?_
      refine lv_aload_n C0.1 C0.2.1 dX1_at_5 rfl (lv_at hl 2 rfl) ?_
      refine tgX1_people C0 hF hG w_people dX1_at_6 ?_
      refine tn_icmp_ge (tgt := 36) C0.1 C0.2.1 dX1_at_9 (by decide) (by omega) (by omega) (fun c_9 => ?_) (fun c_9 => ?_)
      · refine lv_iload_n C0.1 C0.2.1 dX1_at_36 rfl (lv_at hl 1 rfl) ?_
        subst zhQ
        exact tc_iret C0 hr hlk hG hS rfl (by rw [hq, show i = n by omega]; rfl) (Nat.le_of_ble_eq_true rfl) (Nat.le_of_ble_eq_true rfl) dX1_at_37
      · refine lv_iload_n C0.1 C0.2.1 dX1_at_12 rfl (lv_at hl 1 rfl) ?_
        refine lv_aload_n C0.1 C0.2.1 dX1_at_13 rfl (lv_at hl 2 rfl) ?_
        refine tgX1_corner C0 hF hG w_corner dX1_at_14 ?_
        refine lv_iload_n C0.1 C0.2.1 dX1_at_17 rfl (lv_at hl 0 rfl) ?_
        refine tc_ald (q0 := 3) C0 hG rfl (by omega) dX1_at_18 ?_
        have b_18 := hk3 (i)
        refine lv_iload_n C0.1 C0.2.1 dX1_at_19 rfl (lv_at hl 3 rfl) ?_
        refine tn_icmp_ne (tgt := 27) C0.1 C0.2.1 dX1_at_20 (by decide) (by omega) (by omega) (fun c_20 => ?_) (fun c_20 => ?_)
        · refine lv_iconst (v := nI 0) C0.1 C0.2.1 dX1_at_27 (by decide) ?_
          refine tn_iadd C0.1 C0.2.1 dX1_at_28 ?_
          refine lv_istore_n (lv' := [(2, .int (nI (q + 0))), (3, .int (nI (i))), (0, .ref h), (1, .int (nI (x)))]) C0.1 C0.2.1 dX1_at_29 rfl hl (by decide) rfl (fun ls hl => ?_)
          refine tn_iinc (lv' := [(3, .int (nI (i + 1))), (2, .int (nI (q + 0))), (0, .ref h), (1, .int (nI (x)))]) C0.1 C0.2.1 dX1_at_30 hl (k := 1) rfl (by decide) rfl (fun ls hl => ?_)
          refine lv_goto (tgt := 4) C0.1 C0.2.1 dX1_at_33 (by decide) ?_
          exact ih_4 (q + 0) (i + 1) (by omega) (by first | exact sm_step hq (if_pos c_20) | exact sm_step hq (if_neg c_20)) (by omega) ls (lv_sub hl [0, 1, 2, 3] rfl) _ _ hG hS
        · refine lv_iconst (v := nI 1) C0.1 C0.2.1 dX1_at_23 (by decide) ?_
          refine lv_goto (tgt := 28) C0.1 C0.2.1 dX1_at_24 (by decide) ?_
          refine tn_iadd C0.1 C0.2.1 dX1_at_28 ?_
          refine lv_istore_n (lv' := [(2, .int (nI (q + 1))), (3, .int (nI (i))), (0, .ref h), (1, .int (nI (x)))]) C0.1 C0.2.1 dX1_at_29 rfl hl (by decide) rfl (fun ls hl => ?_)
          refine tn_iinc (lv' := [(3, .int (nI (i + 1))), (2, .int (nI (q + 1))), (0, .ref h), (1, .int (nI (x)))]) C0.1 C0.2.1 dX1_at_30 hl (k := 1) rfl (by decide) rfl (fun ls hl => ?_)
          refine lv_goto (tgt := 4) C0.1 C0.2.1 dX1_at_33 (by decide) ?_
          exact ih_4 (q + 1) (i + 1) (by omega) (by first | exact sm_step hq (if_pos c_20) | exact sm_step hq (if_neg c_20)) (by omega) ls (lv_sub hl [0, 1, 2, 3] rfl) _ _ hG hS
  exact cut_4 (n + 1) (0) (0) (by omega) rfl (by omega) ls (lv_sub hl [0, 1, 2, 3] rfl) _ _ hG hS
set_option maxHeartbeats 4000000 in
set_option maxRecDepth 100000 in
theorem kX1_apart {l : Launch} (hlf : l.stackTraces = false) {D : va_G} {cI cJ : ClassId} {N0 : Nat} {ws : va_W} (x : Nat) (y : Nat) (h1 : x < 6) (h2 : y < 6) : tcM l yX1_apart wsX1_apart { frames := 1, cells := 0, slots := 0, locals := 21 } [] 0 [.int (nI (x)), .int (nI (y))] D cI cJ N0 (ws) (some (.int (nI (apd x y)))) (ws) 0 0 := by
  refine tcM.of (cc := cX1_apart) (maxL := 3) (ret := (some .int)) (by decide) rfl (Nat.le_of_ble_eq_true rfl) ?_
  intro p e s m args below meth c C0 hr hlk ht hmn hG ls hl
  have hl : lv_has ls 3 [(0, .int (nI (x))), (1, .int (nI (y)))] := hl
  have hG0 := hG
  have hS : va_S (tcA N0) s.heap s.heap [] := va_S.rf
  refine lv_iload_n C0.1 C0.2.1 dX1_apart_0 rfl (lv_at hl 0 rfl) ?_
  refine lv_iload_n C0.1 C0.2.1 dX1_apart_1 rfl (lv_at hl 1 rfl) ?_
  refine lv_isub C0.1 C0.2.1 dX1_apart_2 ?_
  refine va_mabs C0.1 C0.2.1 (C0.2.2.1.trans hl.1.symm) C0.2.2.2.1 (C0.2.2.2.2 (.methodLink RX1 50 Lib.Math.abs.name) (by decide +kernel)) (C0.2.2.2.2 (.static Lib.Math.abs.name) (by decide +kernel)) (C0.2.2.2.2 (.initialized "java/lang/Math") (by decide +kernel)) (C0.2.2.2.2 (.code Lib.Math.abs.name Lib.Math.abs.code 1 (some .int)) (by decide +kernel)) (Nat.le_of_ble_eq_true rfl) (Nat.le_of_ble_eq_true rfl) (Nat.le_of_ble_eq_true rfl) (Nat.le_of_ble_eq_true rfl) dX1_apart_3 ?_
  refine tc_top (tc_abs (a := x) (b := y) (by omega) (by omega)) ?_
  refine lv_istore_n (lv' := [(2, .int (nI (adist (x) (y)))), (0, .int (nI (x))), (1, .int (nI (y)))]) C0.1 C0.2.1 dX1_apart_6 rfl hl (by decide) rfl (fun ls hl => ?_)
  have b_ad := adist_le (a := x) (b := y) (k := 5) (by omega) (by omega)
  refine lv_iload_n C0.1 C0.2.1 dX1_apart_7 rfl (lv_at hl 0 rfl) ?_
  refine lv_bipush (v := nI 6) C0.1 C0.2.1 dX1_apart_8 (by decide) ?_
  refine lv_iload_n C0.1 C0.2.1 dX1_apart_10 rfl (lv_at hl 0 rfl) ?_
  refine tn_isub C0.1 C0.2.1 dX1_apart_11 (by omega) ?_
  refine va_mmin C0.1 C0.2.1 (C0.2.2.1.trans hl.1.symm) C0.2.2.2.1 (C0.2.2.2.2 (.methodLink RX1 56 Lib.Math.min.name) (by decide +kernel)) (C0.2.2.2.2 (.static Lib.Math.min.name) (by decide +kernel)) (C0.2.2.2.2 (.initialized "java/lang/Math") (by decide +kernel)) (C0.2.2.2.2 (.code Lib.Math.min.name Lib.Math.min.code 2 (some .int)) (by decide +kernel)) (Nat.le_of_ble_eq_true rfl) (Nat.le_of_ble_eq_true rfl) (Nat.le_of_ble_eq_true rfl) (Nat.le_of_ble_eq_true rfl) dX1_apart_12 ?_
  refine tc_top (tc_min (by omega) (by omega)) ?_
  exact tc_iret C0 hr hlk hG hS rfl rfl (Nat.le_of_ble_eq_true rfl) (Nat.le_of_ble_eq_true rfl) dX1_apart_15
set_option maxHeartbeats 4000000 in
set_option maxRecDepth 100000 in
theorem kX1_pay {l : Launch} (hlf : l.stackTraces = false) {D : va_G} {cI cJ : ClassId} {N0 : Nat} {h r1 r2 r3 r4 : Nat} {tk co cn wk : Nat → Nat} {n st : Nat} {ho ct sp : Int32} {Z : va_W} {th : Int32} (hk : tOk tk co cn wk n st) (x : Nat) (h1 : x ≤ st) : tcM l yX1_pay wsX1_pay { frames := 0, cells := 0, slots := 0, locals := 0 } [] 0 [.ref h, .int (nI (x))] D cI cJ N0 (wM h r1 r2 r3 r4 cI th tk co cn wk n ho st ct sp Z) (some (.int (nI (x)))) (wM h r1 r2 r3 r4 cI th tk co cn wk n ho (st - x) ct (sp + nI x) Z) 0 0 := by
  refine tcM.of (cc := cX1_pay) (maxL := 2) (ret := (some .int)) (by decide) rfl (Nat.le_of_ble_eq_true rfl) ?_
  intro p e s m args below meth c C0 hr hlk ht hmn hG ls hl
  have hl : lv_has ls 2 [(0, .ref h), (1, .int (nI (x)))] := hl
  obtain ⟨hk1, hk2, hk3, hk4, hn12, hst⟩ := id hk
  have hG0 := hG
  have hS : va_S (tcA N0) s.heap s.heap [] := va_S.rf
  have hF : ∀ w ∈ wsX10, w ∈ wsX1_pay := by decide +kernel
  have w_spent : Cond.fieldLink RX1 69 "TicketCoincidencesModel" "spent" "I" ∈ wsX1_pay := by decide +kernel
  have w_store : Cond.fieldLink RX1 22 "TicketCoincidencesModel" "store" "I" ∈ wsX1_pay := by decide +kernel
  refine lv_aload_n C0.1 C0.2.1 dX1_pay_0 rfl (lv_at hl 0 rfl) ?_
  refine lv_dup C0.1 C0.2.1 dX1_pay_1 rfl ?_
  refine tgX1_store C0 hF hG w_store dX1_pay_2 ?_
  refine lv_iload_n C0.1 C0.2.1 dX1_pay_5 rfl (lv_at hl 1 rfl) ?_
  refine tn_isub C0.1 C0.2.1 dX1_pay_6 h1 ?_
  refine tpX1_store C0 hF hG0 hG hS w_store dX1_pay_7 (fun H locs hG hS => ?_)
  refine lv_aload_n C0.1 C0.2.1 dX1_pay_10 rfl (lv_at hl 0 rfl) ?_
  refine lv_dup C0.1 C0.2.1 dX1_pay_11 rfl ?_
  refine tgX1_spent C0 hF hG w_spent dX1_pay_12 ?_
  refine lv_iload_n C0.1 C0.2.1 dX1_pay_15 rfl (lv_at hl 1 rfl) ?_
  refine lv_iadd C0.1 C0.2.1 dX1_pay_16 ?_
  refine tpX1_spent C0 hF hG0 hG hS w_spent dX1_pay_17 (fun H locs hG hS => ?_)
  refine lv_iload_n C0.1 C0.2.1 dX1_pay_20 rfl (lv_at hl 1 rfl) ?_
  exact tc_iret C0 hr hlk hG hS rfl rfl (Nat.le_of_ble_eq_true rfl) (Nat.le_of_ble_eq_true rfl) dX1_pay_21
set_option maxHeartbeats 4000000 in
set_option maxRecDepth 100000 in
theorem kX1_wrongPair {l : Launch} (hlf : l.stackTraces = false) {D : va_G} {cI cJ : ClassId} {N0 : Nat} {h r1 r2 r3 r4 : Nat} {tk co cn wk : Nat → Nat} {n st : Nat} {ho ct sp : Int32} {Z : va_W} {th : Int32} (hk : tOk tk co cn wk n st) (x : Int32) (y : Int32)  : tcM l yX1_wrongPair wsX1_wrongPair { frames := 2, cells := 0, slots := 0, locals := 43 } [] 0 [.ref h, .int (x), .int (y)] D cI cJ N0 (wM h r1 r2 r3 r4 cI th tk co cn wk n ho st ct sp Z) (some (.int (nI (cdP x y n)))) (wM h r1 r2 r3 r4 cI th tk co cn wk n ho st ct sp Z) 0 0 := by
  refine tcM.of (cc := cX1_wrongPair) (maxL := 3) (ret := (some .int)) (by decide) rfl (Nat.le_of_ble_eq_true rfl) ?_
  intro p e s m args below meth c C0 hr hlk ht hmn hG ls hl
  have hl : lv_has ls 3 [(0, .ref h), (1, .int (x)), (2, .int (y))] := hl
  obtain ⟨hk1, hk2, hk3, hk4, hn12, hst⟩ := id hk
  have hG0 := hG
  have hS : va_S (tcA N0) s.heap s.heap [] := va_S.rf
  refine lv_aload_n C0.1 C0.2.1 dX1_wrongPair_0 rfl (lv_at hl 0 rfl) ?_
  refine lv_iload_n C0.1 C0.2.1 dX1_wrongPair_1 rfl (lv_at hl 1 rfl) ?_
  refine tc_callV (q0 := 0) C0 hG hS rfl rfl (kX1_isOne hlf hk  (x) ) (cwV 1 C0.2.2.2.2 gX1_wrongPair_X1_isOne rfl rfl rfl (by decide +kernel) ⟨(Nat.le_of_ble_eq_true rfl), (Nat.le_of_ble_eq_true rfl)⟩) rfl hl rfl (Nat.le_of_ble_eq_true rfl) dX1_wrongPair_2 ⟨(Nat.le_of_ble_eq_true rfl), (Nat.le_of_ble_eq_true rfl)⟩ (fun H locs hG hS => ?_)
  refine tb_if_eq (tgt := 16) C0.1 C0.2.1 dX1_wrongPair_5 (by decide) (fun c_5 => ?_) (fun c_5 => ?_)
  · refine lv_iconst (v := nI 1) C0.1 C0.2.1 dX1_wrongPair_16 (by decide) ?_
    refine lv_goto (tgt := 30) C0.1 C0.2.1 dX1_wrongPair_17 (by decide) ?_
    exact tc_iret C0 hr hlk hG hS rfl (by first | (rw [cdP_1 c_5]; done) | (rw [cdP_1 c_5]; rfl) | (rw [cdP_2 c_13]; done) | (rw [cdP_2 c_13]; rfl) | (rw [cdP_0 c_5 c_13 c_22]; done) | (rw [cdP_0 c_5 c_13 c_22]; rfl) | (rw [cdP_3 c_5 c_13 c_22]; done) | (rw [cdP_3 c_5 c_13 c_22]; rfl)) (Nat.le_of_ble_eq_true rfl) (Nat.le_of_ble_eq_true rfl) dX1_wrongPair_30
  · refine lv_aload_n C0.1 C0.2.1 dX1_wrongPair_8 rfl (lv_at hl 0 rfl) ?_
    refine lv_iload_n C0.1 C0.2.1 dX1_wrongPair_9 rfl (lv_at hl 2 rfl) ?_
    refine tc_callV (q0 := 0) C0 hG hS rfl rfl (kX1_isOne hlf hk  (y) ) (cwV 1 C0.2.2.2.2 gX1_wrongPair_X1_isOne rfl rfl rfl (by decide +kernel) ⟨(Nat.le_of_ble_eq_true rfl), (Nat.le_of_ble_eq_true rfl)⟩) rfl hl rfl (Nat.le_of_ble_eq_true rfl) dX1_wrongPair_10 ⟨(Nat.le_of_ble_eq_true rfl), (Nat.le_of_ble_eq_true rfl)⟩ (fun H locs hG hS => ?_)
    refine tb_if_ne (tgt := 20) C0.1 C0.2.1 dX1_wrongPair_13 (by decide) (fun c_13 => ?_) (fun c_13 => ?_)
    · refine lv_iload_n C0.1 C0.2.1 dX1_wrongPair_20 rfl (lv_at hl 1 rfl) ?_
      refine lv_iload_n C0.1 C0.2.1 dX1_wrongPair_21 rfl (lv_at hl 2 rfl) ?_
      refine lv_icmp_ne (tgt := 29) C0.1 C0.2.1 dX1_wrongPair_22 (by decide) (fun c_22 => ?_) (fun c_22 => ?_)
      · refine lv_iconst (v := nI 0) C0.1 C0.2.1 dX1_wrongPair_29 (by decide) ?_
        exact tc_iret C0 hr hlk hG hS rfl (by first | (rw [cdP_1 c_5]; done) | (rw [cdP_1 c_5]; rfl) | (rw [cdP_2 c_13]; done) | (rw [cdP_2 c_13]; rfl) | (rw [cdP_0 c_5 c_13 c_22]; done) | (rw [cdP_0 c_5 c_13 c_22]; rfl) | (rw [cdP_3 c_5 c_13 c_22]; done) | (rw [cdP_3 c_5 c_13 c_22]; rfl)) (Nat.le_of_ble_eq_true rfl) (Nat.le_of_ble_eq_true rfl) dX1_wrongPair_30
      · refine lv_iconst (v := nI 2) C0.1 C0.2.1 dX1_wrongPair_25 (by decide) ?_
        refine lv_goto (tgt := 30) C0.1 C0.2.1 dX1_wrongPair_26 (by decide) ?_
        exact tc_iret C0 hr hlk hG hS rfl (by first | (rw [cdP_1 c_5]; done) | (rw [cdP_1 c_5]; rfl) | (rw [cdP_2 c_13]; done) | (rw [cdP_2 c_13]; rfl) | (rw [cdP_0 c_5 c_13 c_22]; done) | (rw [cdP_0 c_5 c_13 c_22]; rfl) | (rw [cdP_3 c_5 c_13 c_22]; done) | (rw [cdP_3 c_5 c_13 c_22]; rfl)) (Nat.le_of_ble_eq_true rfl) (Nat.le_of_ble_eq_true rfl) dX1_wrongPair_30
    · refine lv_iconst (v := nI 1) C0.1 C0.2.1 dX1_wrongPair_16 (by decide) ?_
      refine lv_goto (tgt := 30) C0.1 C0.2.1 dX1_wrongPair_17 (by decide) ?_
      exact tc_iret C0 hr hlk hG hS rfl (by first | (rw [cdP_1 c_5]; done) | (rw [cdP_1 c_5]; rfl) | (rw [cdP_2 c_13]; done) | (rw [cdP_2 c_13]; rfl) | (rw [cdP_0 c_5 c_13 c_22]; done) | (rw [cdP_0 c_5 c_13 c_22]; rfl) | (rw [cdP_3 c_5 c_13 c_22]; done) | (rw [cdP_3 c_5 c_13 c_22]; rfl)) (Nat.le_of_ble_eq_true rfl) (Nat.le_of_ble_eq_true rfl) dX1_wrongPair_30
set_option maxHeartbeats 4000000 in
set_option maxRecDepth 100000 in
theorem kX1_swap {l : Launch} (hlf : l.stackTraces = false) {D : va_G} {cI cJ : ClassId} {N0 : Nat} {ws : va_W} {q0 : Nat} {f : Nat → Nat} (r : Nat) (x : Nat) (y : Nat) (h1 : x < 12) (h2 : y < 12) (hf : ws[q0]? = some (r, tcArr cI f)) : tcM l yX1_swap wsX1_swap { frames := 0, cells := 0, slots := 0, locals := 0 } [] 0 [.ref r, .int (nI (x)), .int (nI (y))] D cI cJ N0 (ws) none (ws.set q0 (r, tcArr cI (swp f x y))) 0 0 := by
  refine tcM.of (cc := cX1_swap) (maxL := 4) (ret := none) (by decide) rfl (Nat.le_of_ble_eq_true rfl) ?_
  intro p e s m args below meth c C0 hr hlk ht hmn hG ls hl
  have hl : lv_has ls 4 [(0, .ref r), (1, .int (nI (x))), (2, .int (nI (y)))] := hl
  have hG0 := hG
  have hS : va_S (tcA N0) s.heap s.heap [] := va_S.rf
  refine lv_aload_n C0.1 C0.2.1 dX1_swap_0 rfl (lv_at hl 0 rfl) ?_
  refine lv_iload_n C0.1 C0.2.1 dX1_swap_1 rfl (lv_at hl 1 rfl) ?_
  refine tc_ald (q0 := q0) C0 hG hf (by omega) dX1_swap_2 ?_
  refine lv_istore_n (lv' := [(3, .int (nI (f (x)))), (0, .ref r), (1, .int (nI (x))), (2, .int (nI (y)))]) C0.1 C0.2.1 dX1_swap_3 rfl hl (by decide) rfl (fun ls hl => ?_)
  refine lv_aload_n C0.1 C0.2.1 dX1_swap_4 rfl (lv_at hl 1 rfl) ?_
  refine lv_iload_n C0.1 C0.2.1 dX1_swap_5 rfl (lv_at hl 2 rfl) ?_
  refine lv_aload_n C0.1 C0.2.1 dX1_swap_6 rfl (lv_at hl 1 rfl) ?_
  refine lv_iload_n C0.1 C0.2.1 dX1_swap_7 rfl (lv_at hl 3 rfl) ?_
  refine tc_ald (q0 := q0) C0 hG hf (by omega) dX1_swap_8 ?_
  refine tc_ast (q0 := q0) C0 hG0 hG hS hf (by omega) dX1_swap_9 (fun H locs hG hS => ?_)
  have hf := tc_set_get hf (y := (r, tcArr cI (va_up f (x) (f (y)))))
  refine lv_aload_n C0.1 C0.2.1 dX1_swap_10 rfl (lv_at hl 1 rfl) ?_
  refine lv_iload_n C0.1 C0.2.1 dX1_swap_11 rfl (lv_at hl 3 rfl) ?_
  refine lv_iload_n C0.1 C0.2.1 dX1_swap_12 rfl (lv_at hl 0 rfl) ?_
  refine tc_ast (q0 := q0) C0 hG0 hG hS hf (by omega) dX1_swap_13 (fun H locs hG hS => ?_)
  have hf := tc_set_get hf (y := (r, tcArr cI (va_up ((va_up f (x) (f (y)))) (y) (f (x)))))
  rw [List.set_set] at hG
  exact tc_vret C0 hr hlk hG hS rfl (Nat.le_of_ble_eq_true rfl) (Nat.le_of_ble_eq_true rfl) dX1_swap_14
set_option maxHeartbeats 4000000 in
set_option maxRecDepth 100000 in
theorem kX1_swapped_co {l : Launch} (hlf : l.stackTraces = false) {D : va_G} {cI cJ : ClassId} {N0 : Nat} {h r1 r2 r3 r4 : Nat} {tk co cn wk : Nat → Nat} {n st : Nat} {ho ct sp : Int32} {Z : va_W} {th : Int32} (hk : tOk tk co cn wk n st) (x : Nat) (y : Nat) (h1 : x < 12) (h2 : y < 12) : tcM l yX1_swapped wsX1_swapped { frames := 4, cells := 0, slots := 0, locals := 91 } [] 0 [.ref h, .ref r2, .int (nI (x)), .int (nI (y))] D cI cJ N0 (wM h r1 r2 r3 r4 cI th tk co cn wk n ho st ct sp Z) (some (.int (nI (tw tk (swp co x y) cn wk 0 n) - nI (tw tk co cn wk 0 n)))) (wM h r1 r2 r3 r4 cI th tk (swp co x y) cn wk n ho st ct sp Z) 0 0 := by
  refine tcM.of (cc := cX1_swapped) (maxL := 5) (ret := (some .int)) (by decide) rfl (Nat.le_of_ble_eq_true rfl) ?_
  intro p e s m args below meth c C0 hr hlk ht hmn hG ls hl
  have hl : lv_has ls 5 [(0, .ref h), (1, .ref r2), (2, .int (nI (x))), (3, .int (nI (y)))] := hl
  obtain ⟨hk1, hk2, hk3, hk4, hn12, hst⟩ := id hk
  have hG0 := hG
  have hS : va_S (tcA N0) s.heap s.heap [] := va_S.rf
  refine lv_aload_n C0.1 C0.2.1 dX1_swapped_0 rfl (lv_at hl 0 rfl) ?_
  refine tc_callV (q0 := 0) C0 hG hS rfl rfl (kX1_here hlf hk   ) (cwV 0 C0.2.2.2.2 gX1_swapped_X1_here rfl rfl rfl (by decide +kernel) ⟨(Nat.le_of_ble_eq_true rfl), (Nat.le_of_ble_eq_true rfl)⟩) rfl hl rfl (Nat.le_of_ble_eq_true rfl) dX1_swapped_1 ⟨(Nat.le_of_ble_eq_true rfl), (Nat.le_of_ble_eq_true rfl)⟩ (fun H locs hG hS => ?_)
  have b_1 := tw_le tk co cn wk 0 hk.2.2.2.2.1
  refine lv_istore (lv' := [(4, .int (nI (tw tk co cn wk 0 n))), (0, .ref h), (1, .ref r2), (2, .int (nI (x))), (3, .int (nI (y)))]) C0.1 C0.2.1 dX1_swapped_4 hl (by decide) rfl (fun ls hl => ?_)
  refine lv_aload_n C0.1 C0.2.1 dX1_swapped_6 rfl (lv_at hl 2 rfl) ?_
  refine lv_iload_n C0.1 C0.2.1 dX1_swapped_7 rfl (lv_at hl 3 rfl) ?_
  refine lv_iload_n C0.1 C0.2.1 dX1_swapped_8 rfl (lv_at hl 4 rfl) ?_
  refine tc_callSv C0 hG hS (kX1_swap hlf (q0 := 2) (f := co)  (r2) (x) (y) (by omega) (by omega) rfl) (va_cwS 3 C0.2.2.2.2 gX1_swapped_X1_swap rfl rfl rfl (by decide +kernel) ⟨(Nat.le_of_ble_eq_true rfl), (Nat.le_of_ble_eq_true rfl)⟩) rfl hl rfl (Nat.le_of_ble_eq_true rfl) dX1_swapped_9 ⟨(Nat.le_of_ble_eq_true rfl), (Nat.le_of_ble_eq_true rfl)⟩ (fun H locs hG hS => ?_)
  have hG : tcG D cI cJ N0 (wM h r1 r2 r3 r4 cI th tk (swp co x y) cn wk n ho st ct sp Z) s H := hG
  have hk_q := hk.co (swp_lt hk2 x y)
  refine lv_aload_n C0.1 C0.2.1 dX1_swapped_12 rfl (lv_at hl 1 rfl) ?_
  refine tc_callV (q0 := 0) C0 hG hS rfl rfl (kX1_here hlf hk_q   ) (cwV 0 C0.2.2.2.2 gX1_swapped_X1_here rfl rfl rfl (by decide +kernel) ⟨(Nat.le_of_ble_eq_true rfl), (Nat.le_of_ble_eq_true rfl)⟩) rfl hl rfl (Nat.le_of_ble_eq_true rfl) dX1_swapped_13 ⟨(Nat.le_of_ble_eq_true rfl), (Nat.le_of_ble_eq_true rfl)⟩ (fun H locs hG hS => ?_)
  have b_13 := tw_le tk (swp co x y) cn wk 0 hk_q.2.2.2.2.1
  refine lv_iload C0.1 C0.2.1 dX1_swapped_16 (lv_at hl 0 rfl) ?_
  refine lv_isub C0.1 C0.2.1 dX1_swapped_18 ?_
  exact tc_iret C0 hr hlk hG hS rfl rfl (Nat.le_of_ble_eq_true rfl) (Nat.le_of_ble_eq_true rfl) dX1_swapped_19
set_option maxHeartbeats 4000000 in
set_option maxRecDepth 100000 in
theorem kX1_swapped_tk {l : Launch} (hlf : l.stackTraces = false) {D : va_G} {cI cJ : ClassId} {N0 : Nat} {h r1 r2 r3 r4 : Nat} {tk co cn wk : Nat → Nat} {n st : Nat} {ho ct sp : Int32} {Z : va_W} {th : Int32} (hk : tOk tk co cn wk n st) (x : Nat) (y : Nat) (h1 : x < 12) (h2 : y < 12) : tcM l yX1_swapped wsX1_swapped { frames := 4, cells := 0, slots := 0, locals := 91 } [] 0 [.ref h, .ref r1, .int (nI (x)), .int (nI (y))] D cI cJ N0 (wM h r1 r2 r3 r4 cI th tk co cn wk n ho st ct sp Z) (some (.int (nI (tw (swp tk x y) co cn wk 0 n) - nI (tw tk co cn wk 0 n)))) (wM h r1 r2 r3 r4 cI th (swp tk x y) co cn wk n ho st ct sp Z) 0 0 := by
  refine tcM.of (cc := cX1_swapped) (maxL := 5) (ret := (some .int)) (by decide) rfl (Nat.le_of_ble_eq_true rfl) ?_
  intro p e s m args below meth c C0 hr hlk ht hmn hG ls hl
  have hl : lv_has ls 5 [(0, .ref h), (1, .ref r1), (2, .int (nI (x))), (3, .int (nI (y)))] := hl
  obtain ⟨hk1, hk2, hk3, hk4, hn12, hst⟩ := id hk
  have hG0 := hG
  have hS : va_S (tcA N0) s.heap s.heap [] := va_S.rf
  refine lv_aload_n C0.1 C0.2.1 dX1_swapped_0 rfl (lv_at hl 0 rfl) ?_
  refine tc_callV (q0 := 0) C0 hG hS rfl rfl (kX1_here hlf hk   ) (cwV 0 C0.2.2.2.2 gX1_swapped_X1_here rfl rfl rfl (by decide +kernel) ⟨(Nat.le_of_ble_eq_true rfl), (Nat.le_of_ble_eq_true rfl)⟩) rfl hl rfl (Nat.le_of_ble_eq_true rfl) dX1_swapped_1 ⟨(Nat.le_of_ble_eq_true rfl), (Nat.le_of_ble_eq_true rfl)⟩ (fun H locs hG hS => ?_)
  have b_1 := tw_le tk co cn wk 0 hk.2.2.2.2.1
  refine lv_istore (lv' := [(4, .int (nI (tw tk co cn wk 0 n))), (0, .ref h), (1, .ref r1), (2, .int (nI (x))), (3, .int (nI (y)))]) C0.1 C0.2.1 dX1_swapped_4 hl (by decide) rfl (fun ls hl => ?_)
  refine lv_aload_n C0.1 C0.2.1 dX1_swapped_6 rfl (lv_at hl 2 rfl) ?_
  refine lv_iload_n C0.1 C0.2.1 dX1_swapped_7 rfl (lv_at hl 3 rfl) ?_
  refine lv_iload_n C0.1 C0.2.1 dX1_swapped_8 rfl (lv_at hl 4 rfl) ?_
  refine tc_callSv C0 hG hS (kX1_swap hlf (q0 := 1) (f := tk)  (r1) (x) (y) (by omega) (by omega) rfl) (va_cwS 3 C0.2.2.2.2 gX1_swapped_X1_swap rfl rfl rfl (by decide +kernel) ⟨(Nat.le_of_ble_eq_true rfl), (Nat.le_of_ble_eq_true rfl)⟩) rfl hl rfl (Nat.le_of_ble_eq_true rfl) dX1_swapped_9 ⟨(Nat.le_of_ble_eq_true rfl), (Nat.le_of_ble_eq_true rfl)⟩ (fun H locs hG hS => ?_)
  have hG : tcG D cI cJ N0 (wM h r1 r2 r3 r4 cI th (swp tk x y) co cn wk n ho st ct sp Z) s H := hG
  have hk_q := hk.tk (swp_lt hk1 x y)
  refine lv_aload_n C0.1 C0.2.1 dX1_swapped_12 rfl (lv_at hl 1 rfl) ?_
  refine tc_callV (q0 := 0) C0 hG hS rfl rfl (kX1_here hlf hk_q   ) (cwV 0 C0.2.2.2.2 gX1_swapped_X1_here rfl rfl rfl (by decide +kernel) ⟨(Nat.le_of_ble_eq_true rfl), (Nat.le_of_ble_eq_true rfl)⟩) rfl hl rfl (Nat.le_of_ble_eq_true rfl) dX1_swapped_13 ⟨(Nat.le_of_ble_eq_true rfl), (Nat.le_of_ble_eq_true rfl)⟩ (fun H locs hG hS => ?_)
  have b_13 := tw_le (swp tk x y) co cn wk 0 hk_q.2.2.2.2.1
  refine lv_iload C0.1 C0.2.1 dX1_swapped_16 (lv_at hl 0 rfl) ?_
  refine lv_isub C0.1 C0.2.1 dX1_swapped_18 ?_
  exact tc_iret C0 hr hlk hG hS rfl rfl (Nat.le_of_ble_eq_true rfl) (Nat.le_of_ble_eq_true rfl) dX1_swapped_19
set_option maxHeartbeats 4000000 in
set_option maxRecDepth 100000 in
theorem kX1_goOn {l : Launch} (hlf : l.stackTraces = false) {D : va_G} {cI cJ : ClassId} {N0 : Nat} {h r1 r2 r3 r4 : Nat} {tk co cn wk : Nat → Nat} {n st : Nat} {ho ct sp : Int32} {Z : va_W} {th : Int32} (hk : tOk tk co cn wk n st)   : tcM l yX1_goOn wsX1_goOn { frames := 4, cells := 0, slots := 0, locals := 91 } [] 0 [.ref h] D cI cJ N0 (wM h r1 r2 r3 r4 cI th tk co cn wk n ho st ct sp Z) none (wM h r1 r2 r3 r4 cI th tk co (pcn cn wk n) wk n (ho + nI 1) (stn st (emp (pcn cn wk n) n)) (ct + nI (tw tk co (pcn cn wk n) wk 0 n)) sp Z) 0 0 := by
  refine tcM.of (cc := cX1_goOn) (maxL := 2) (ret := none) (by decide) rfl (Nat.le_of_ble_eq_true rfl) ?_
  intro p e s m args below meth c C0 hr hlk ht hmn hG ls hl
  have hl : lv_has ls 2 [(0, .ref h)] := hl
  obtain ⟨hk1, hk2, hk3, hk4, hn12, hst⟩ := id hk
  have hG0 := hG
  have hS : va_S (tcA N0) s.heap s.heap [] := va_S.rf
  have hF : ∀ w ∈ wsX10, w ∈ wsX1_goOn := by decide +kernel
  have w_corner : Cond.fieldLink RX1 16 "TicketCoincidencesModel" "corner" "[I" ∈ wsX1_goOn := by decide +kernel
  have w_counted : Cond.fieldLink RX1 93 "TicketCoincidencesModel" "counted" "I" ∈ wsX1_goOn := by decide +kernel
  have w_hour : Cond.fieldLink RX1 99 "TicketCoincidencesModel" "hour" "I" ∈ wsX1_goOn := by decide +kernel
  have w_people : Cond.fieldLink RX1 29 "TicketCoincidencesModel" "people" "I" ∈ wsX1_goOn := by decide +kernel
  have w_store : Cond.fieldLink RX1 22 "TicketCoincidencesModel" "store" "I" ∈ wsX1_goOn := by decide +kernel
  have hk_n := hk.cn (pcn_lt wk n hk3)
  refine lv_iconst (v := nI 0) C0.1 C0.2.1 dX1_goOn_0 (by decide) ?_
  refine lv_istore_n (lv' := [(1, .int (nI (0))), (0, .ref h)]) C0.1 C0.2.1 dX1_goOn_1 rfl hl (by decide) rfl (fun ls hl => ?_)
  refine tc_nameQ (fun zQg zhQ => ?_)
  have cut_2 : ∀ (kf : Nat) (i : Nat) (hi : i ≤ n) (hm : n + 1 ≤ i + kf), ∀ (ls : Array Slot), lv_has ls 2 [(1, .int (nI (i))), (0, .ref h)] → ∀ (H : Heap) (locs : List Loc), tcG D cI cJ N0 (wM h r1 r2 r3 r4 cI th tk co (pcn cn wk i) wk n ho st ct sp Z) s H → va_S (tcA N0) s.heap H locs → W p l e ({ frames := 4, cells := 0, slots := 0, locals := 91 } : Room) s m args below meth c H locs (0) (0) zQg (F0 m 2 ls []) := by
    intro kf
    induction kf with
    | zero => intro i hi hm; exact absurd hm (by omega)
    | succ kf ih_2 =>
      intro i hi hm ls hl H locs hG hS
      have hk_i := hk.cn (pcn_lt wk i hk3)
      refine lv_iload_n C0.1 C0.2.1 dX1_goOn_2 rfl (lv_at hl 0 rfl) ?_
      refine lv_aload_n C0.1 C0.2.1 dX1_goOn_3 rfl (lv_at hl 1 rfl) ?_
      refine tgX1_people C0 hF hG w_people dX1_goOn_4 ?_
      refine tn_icmp_ge (tgt := 28) C0.1 C0.2.1 dX1_goOn_7 (by decide) (by omega) (by omega) (fun c_7 => ?_) (fun c_7 => ?_)
      · have hin : i = n := by omega
        rw [hin] at hG
        refine lv_aload_n C0.1 C0.2.1 dX1_goOn_28 rfl (lv_at hl 1 rfl) ?_
        refine lv_dup C0.1 C0.2.1 dX1_goOn_29 rfl ?_
        refine tgX1_counted C0 hF hG w_counted dX1_goOn_30 ?_
        refine lv_aload_n C0.1 C0.2.1 dX1_goOn_33 rfl (lv_at hl 1 rfl) ?_
        refine tc_callV (q0 := 0) C0 hG hS rfl rfl (kX1_here hlf hk_n   ) (cwV 0 C0.2.2.2.2 gX1_goOn_X1_here rfl rfl rfl (by decide +kernel) ⟨(Nat.le_of_ble_eq_true rfl), (Nat.le_of_ble_eq_true rfl)⟩) rfl hl rfl (Nat.le_of_ble_eq_true rfl) dX1_goOn_34 ⟨(Nat.le_of_ble_eq_true rfl), (Nat.le_of_ble_eq_true rfl)⟩ (fun H locs hG hS => ?_)
        have b_34 := tw_le tk co (pcn cn wk n) wk 0 hk_n.2.2.2.2.1
        refine lv_iadd C0.1 C0.2.1 dX1_goOn_37 ?_
        refine tpX1_counted C0 hF hG0 hG hS w_counted dX1_goOn_38 (fun H locs hG hS => ?_)
        refine lv_iconst (v := nI 0) C0.1 C0.2.1 dX1_goOn_41 (by decide) ?_
        refine lv_istore_n (lv' := [(1, .int (nI (0))), (0, .ref h)]) C0.1 C0.2.1 dX1_goOn_42 rfl hl (by decide) rfl (fun ls hl => ?_)
        have cut_43 : ∀ (kf : Nat) (i2 : Nat) (hi2 : i2 ≤ 6) (hm : 6 + 1 ≤ i2 + kf), ∀ (ls : Array Slot), lv_has ls 2 [(1, .int (nI (i2))), (0, .ref h)] → ∀ (H : Heap) (locs : List Loc), tcG D cI cJ N0 (wM h r1 r2 r3 r4 cI th tk co (pcn cn wk n) wk n ho (min 100 (st + sm (emf (pcn cn wk n) n) i2)) ((ct) + nI (tw tk co (pcn cn wk n) wk 0 n)) sp Z) s H → va_S (tcA N0) s.heap H locs → W p l e ({ frames := 4, cells := 0, slots := 0, locals := 91 } : Room) s m args below meth c H locs (0) (0) zQg (F0 m 43 ls []) := by
          intro kf
          induction kf with
          | zero => intro i2 hi2 hm; exact absurd hm (by omega)
          | succ kf ih_43 =>
            intro i2 hi2 hm ls hl H locs hG hS
            have hk_j := hk_n.st (show min 100 (st + sm (emf (pcn cn wk n) n) i2) ≤ 100 from Nat.min_le_left _ _)
            refine lv_iload_n C0.1 C0.2.1 dX1_goOn_43 rfl (lv_at hl 0 rfl) ?_
            refine lv_bipush (v := nI 6) C0.1 C0.2.1 dX1_goOn_44 (by decide) ?_
            refine tn_icmp_ge (tgt := 86) C0.1 C0.2.1 dX1_goOn_46 (by decide) (by omega) (by omega) (fun c_46 => ?_) (fun c_46 => ?_)
            · have hin6 : i2 = 6 := by omega
              rw [hin6] at hG
              have hG : tcG D cI cJ N0 (wM h r1 r2 r3 r4 cI th tk co (pcn cn wk n) wk n ho (stn st (emp (pcn cn wk n) n)) ((ct) + nI (tw tk co (pcn cn wk n) wk 0 n)) sp Z) s H := hG
              refine lv_aload_n C0.1 C0.2.1 dX1_goOn_86 rfl (lv_at hl 1 rfl) ?_
              refine lv_dup C0.1 C0.2.1 dX1_goOn_87 rfl ?_
              refine tgX1_hour C0 hF hG w_hour dX1_goOn_88 ?_
              refine lv_iconst (v := nI 1) C0.1 C0.2.1 dX1_goOn_91 (by decide) ?_
              refine lv_iadd C0.1 C0.2.1 dX1_goOn_92 ?_
              refine tpX1_hour C0 hF hG0 hG hS w_hour dX1_goOn_93 (fun H locs hG hS => ?_)
              subst zhQ
              exact tc_vret C0 hr hlk hG hS rfl (Nat.le_of_ble_eq_true rfl) (Nat.le_of_ble_eq_true rfl) dX1_goOn_96
            · refine lv_aload_n C0.1 C0.2.1 dX1_goOn_49 rfl (lv_at hl 1 rfl) ?_
              refine lv_dup C0.1 C0.2.1 dX1_goOn_50 rfl ?_
              refine tgX1_store C0 hF hG w_store dX1_goOn_51 ?_
              refine lv_aload_n C0.1 C0.2.1 dX1_goOn_54 rfl (lv_at hl 1 rfl) ?_
              refine lv_iload_n C0.1 C0.2.1 dX1_goOn_55 rfl (lv_at hl 0 rfl) ?_
              refine tc_callV (q0 := 0) C0 hG hS rfl rfl (kX1_at hlf hk_j  (i2) (by omega)) (cwV 1 C0.2.2.2.2 gX1_goOn_X1_at rfl rfl rfl (by decide +kernel) ⟨(Nat.le_of_ble_eq_true rfl), (Nat.le_of_ble_eq_true rfl)⟩) rfl hl rfl (Nat.le_of_ble_eq_true rfl) dX1_goOn_56 ⟨(Nat.le_of_ble_eq_true rfl), (Nat.le_of_ble_eq_true rfl)⟩ (fun H locs hG hS => ?_)
              have b_56 := crowd_le (pcn cn wk n) i2 hk_j.2.2.2.2.1
              refine tn_if_ne (tgt := 75) C0.1 C0.2.1 dX1_goOn_59 (by decide) (by omega) (fun c_59 => ?_) (fun c_59 => ?_)
              · refine lv_iconst (v := nI 0) C0.1 C0.2.1 dX1_goOn_75 (by decide) ?_
                refine tn_iadd C0.1 C0.2.1 dX1_goOn_76 ?_
                refine tpX1_store C0 hF hG0 hG hS w_store dX1_goOn_77 (fun H locs hG hS => ?_)
                refine tn_iinc (lv' := [(1, .int (nI (i2 + 1))), (0, .ref h)]) C0.1 C0.2.1 dX1_goOn_80 hl (k := 0) rfl (by decide) rfl (fun ls hl => ?_)
                refine lv_goto (tgt := 43) C0.1 C0.2.1 dX1_goOn_83 (by decide) ?_
                exact ih_43 (i2 + 1) (by omega) (by omega) ls (lv_sub hl [0, 1] rfl) _ _ (tcG.eq (by first | rw [stl_1 c_59 c_68] | rw [stl_2 c_59] | rw [stl_3 c_68]) hG) hS
              · refine lv_aload_n C0.1 C0.2.1 dX1_goOn_62 rfl (lv_at hl 1 rfl) ?_
                refine tgX1_store C0 hF hG w_store dX1_goOn_63 ?_
                refine lv_bipush (v := nI 100) C0.1 C0.2.1 dX1_goOn_66 (by decide) ?_
                refine tn_icmp_ge (tgt := 75) C0.1 C0.2.1 dX1_goOn_68 (by decide) (by omega) (by omega) (fun c_68 => ?_) (fun c_68 => ?_)
                · refine lv_iconst (v := nI 0) C0.1 C0.2.1 dX1_goOn_75 (by decide) ?_
                  refine tn_iadd C0.1 C0.2.1 dX1_goOn_76 ?_
                  refine tpX1_store C0 hF hG0 hG hS w_store dX1_goOn_77 (fun H locs hG hS => ?_)
                  refine tn_iinc (lv' := [(1, .int (nI (i2 + 1))), (0, .ref h)]) C0.1 C0.2.1 dX1_goOn_80 hl (k := 0) rfl (by decide) rfl (fun ls hl => ?_)
                  refine lv_goto (tgt := 43) C0.1 C0.2.1 dX1_goOn_83 (by decide) ?_
                  exact ih_43 (i2 + 1) (by omega) (by omega) ls (lv_sub hl [0, 1] rfl) _ _ (tcG.eq (by first | rw [stl_1 c_59 c_68] | rw [stl_2 c_59] | rw [stl_3 c_68]) hG) hS
                · refine lv_iconst (v := nI 1) C0.1 C0.2.1 dX1_goOn_71 (by decide) ?_
                  refine lv_goto (tgt := 76) C0.1 C0.2.1 dX1_goOn_72 (by decide) ?_
                  refine tn_iadd C0.1 C0.2.1 dX1_goOn_76 ?_
                  refine tpX1_store C0 hF hG0 hG hS w_store dX1_goOn_77 (fun H locs hG hS => ?_)
                  refine tn_iinc (lv' := [(1, .int (nI (i2 + 1))), (0, .ref h)]) C0.1 C0.2.1 dX1_goOn_80 hl (k := 0) rfl (by decide) rfl (fun ls hl => ?_)
                  refine lv_goto (tgt := 43) C0.1 C0.2.1 dX1_goOn_83 (by decide) ?_
                  exact ih_43 (i2 + 1) (by omega) (by omega) ls (lv_sub hl [0, 1] rfl) _ _ (tcG.eq (by first | rw [stl_1 c_59 c_68] | rw [stl_2 c_59] | rw [stl_3 c_68]) hG) hS
        exact cut_43 (6 + 1) (0) (by omega) (by omega) ls (lv_sub hl [0, 1] rfl) _ _ (tcG.eq (by rw [show min 100 (st + sm (emf (pcn cn wk n) n) 0) = st from Nat.min_eq_right hst]) hG) hS
      · refine lv_aload_n C0.1 C0.2.1 dX1_goOn_10 rfl (lv_at hl 1 rfl) ?_
        refine tgX1_corner C0 hF hG w_corner dX1_goOn_11 ?_
        refine lv_iload_n C0.1 C0.2.1 dX1_goOn_14 rfl (lv_at hl 0 rfl) ?_
        refine lv_aload_n C0.1 C0.2.1 dX1_goOn_15 rfl (lv_at hl 1 rfl) ?_
        refine lv_iload_n C0.1 C0.2.1 dX1_goOn_16 rfl (lv_at hl 0 rfl) ?_
        refine lv_iconst (v := nI 1) C0.1 C0.2.1 dX1_goOn_17 (by decide) ?_
        refine tc_callV (q0 := 0) C0 hG hS rfl rfl (kX1_cornerIn hlf hk_i  (i) (1) (by omega) (by omega)) (cwV 2 C0.2.2.2.2 gX1_goOn_X1_cornerIn rfl rfl rfl (by decide +kernel) ⟨(Nat.le_of_ble_eq_true rfl), (Nat.le_of_ble_eq_true rfl)⟩) rfl hl rfl (Nat.le_of_ble_eq_true rfl) dX1_goOn_18 ⟨(Nat.le_of_ble_eq_true rfl), (Nat.le_of_ble_eq_true rfl)⟩ (fun H locs hG hS => ?_)
        have b_18 := cnr_lt (pcn cn wk i) wk 1 i
        refine tc_ast (q0 := 3) C0 hG0 hG hS rfl (by omega) dX1_goOn_21 (fun H locs hG hS => ?_)
        have hG : tcG D cI cJ N0 (wM h r1 r2 r3 r4 cI th tk co (va_up (pcn cn wk i) (i) (cnr (pcn cn wk i) wk 1 i)) wk n ho st ct sp Z) s H := hG
        refine tn_iinc (lv' := [(1, .int (nI (i + 1))), (0, .ref h)]) C0.1 C0.2.1 dX1_goOn_22 hl (k := 0) rfl (by decide) rfl (fun ls hl => ?_)
        refine lv_goto (tgt := 2) C0.1 C0.2.1 dX1_goOn_25 (by decide) ?_
        exact ih_2 (i + 1) (by omega) (by omega) ls (lv_sub hl [0, 1] rfl) _ _ (tcG.eq (by rw [pcn_s]) hG) hS
  exact cut_2 (n + 1) (0) (by omega) (by omega) ls (lv_sub hl [0, 1] rfl) _ _ (tcG.eq (by rw [pcn_0]) hG) hS
set_option maxHeartbeats 4000000 in
set_option maxRecDepth 100000 in
theorem kX1_luckiest {l : Launch} (hlf : l.stackTraces = false) {D : va_G} {cI cJ : ClassId} {N0 : Nat} {h r1 r2 r3 r4 : Nat} {tk co cn wk : Nat → Nat} {n st : Nat} {ho ct sp : Int32} {Z : va_W} {th : Int32} (hk : tOk tk co cn wk n st)   : tcM l yX1_luckiest wsX1_luckiest { frames := 2, cells := 0, slots := 0, locals := 46 } [] 0 [.ref h] D cI cJ N0 (wM h r1 r2 r3 r4 cI th tk co cn wk n ho st ct sp Z) (some (.int (iM (luckiest tk co n)))) (wM h r1 r2 r3 r4 cI th tk co cn wk n ho st ct sp Z) 0 0 := by
  refine tcM.of (cc := cX1_luckiest) (maxL := 5) (ret := (some .int)) (by decide) rfl (Nat.le_of_ble_eq_true rfl) ?_
  intro p e s m args below meth c C0 hr hlk ht hmn hG ls hl
  have hl : lv_has ls 5 [(0, .ref h)] := hl
  obtain ⟨hk1, hk2, hk3, hk4, hn12, hst⟩ := id hk
  have hG0 := hG
  have hS : va_S (tcA N0) s.heap s.heap [] := va_S.rf
  have hF : ∀ w ∈ wsX10, w ∈ wsX1_luckiest := by decide +kernel
  have w_people : Cond.fieldLink RX1 29 "TicketCoincidencesModel" "people" "I" ∈ wsX1_luckiest := by decide +kernel
  refine lv_iconst (v := iM 0) C0.1 C0.2.1 dX1_luckiest_0 (by decide) ?_
  refine lv_istore_n (lv' := [(1, .int (iM (0))), (0, .ref h)]) C0.1 C0.2.1 dX1_luckiest_1 rfl hl (by decide) rfl (fun ls hl => ?_)
  refine lv_iconst (v := iM 0) C0.1 C0.2.1 dX1_luckiest_2 (by decide) ?_
  refine lv_istore_n (lv' := [(2, .int (iM (0))), (1, .int (iM (0))), (0, .ref h)]) C0.1 C0.2.1 dX1_luckiest_3 rfl hl (by decide) rfl (fun ls hl => ?_)
  refine lv_iconst (v := nI 0) C0.1 C0.2.1 dX1_luckiest_4 (by decide) ?_
  refine lv_istore_n (lv' := [(3, .int (nI (0))), (2, .int (iM (0))), (1, .int (iM (0))), (0, .ref h)]) C0.1 C0.2.1 dX1_luckiest_5 rfl hl (by decide) rfl (fun ls hl => ?_)
  refine tc_nameQ (fun zQg zhQ => ?_)
  have cut_6 : ∀ (kf : Nat) (s1 : Nat) (s2 : Nat) (a : Nat) (ha : a ≤ n) (hs2 : s2 ≤ 14) (hs : (s2, s1) = lkf (pts tk co) n (0, 0) a) (hm : n + 1 ≤ a + kf), ∀ (ls : Array Slot), lv_has ls 5 [(3, .int (nI (a))), (2, .int (iM (s2))), (1, .int (iM (s1))), (0, .ref h)] → ∀ (H : Heap) (locs : List Loc), tcG D cI cJ N0 (wM h r1 r2 r3 r4 cI th tk co cn wk n ho st ct sp Z) s H → va_S (tcA N0) s.heap H locs → W p l e ({ frames := 2, cells := 0, slots := 0, locals := 46 } : Room) s m args below meth c H locs (0) (0) zQg (F0 m 6 ls []) := by
    intro kf
    induction kf with
    | zero => intro s1 s2 a ha hs2 hs hm; exact absurd hm (by omega)
    | succ kf ih_6 =>
      intro s1 s2 a ha hs2 hs hm ls hl H locs hG hS
      refine lv_iload_n C0.1 C0.2.1 dX1_luckiest_6 rfl (lv_at hl 0 rfl) ?_
      refine lv_aload_n C0.1 C0.2.1 dX1_luckiest_7 rfl (lv_at hl 3 rfl) ?_
      refine tgX1_people C0 hF hG w_people dX1_luckiest_8 ?_
      refine tn_icmp_ge (tgt := 70) C0.1 C0.2.1 dX1_luckiest_11 (by decide) (by omega) (by omega) (fun c_11 => ?_) (fun c_11 => ?_)
      · refine lv_iload_n C0.1 C0.2.1 dX1_luckiest_70 rfl (lv_at hl 2 rfl) ?_
        subst zhQ
        exact tc_iret C0 hr hlk hG hS rfl (by have hz : a = n := (by omega); rw [hz] at hs; unfold luckiest; rw [← hs]) (Nat.le_of_ble_eq_true rfl) (Nat.le_of_ble_eq_true rfl) dX1_luckiest_71
      · refine lv_iload_n C0.1 C0.2.1 dX1_luckiest_14 rfl (lv_at hl 0 rfl) ?_
        refine lv_iconst (v := nI 1) C0.1 C0.2.1 dX1_luckiest_15 (by decide) ?_
        refine tn_iadd C0.1 C0.2.1 dX1_luckiest_16 ?_
        refine lv_istore (lv' := [(4, .int (nI (a + 1))), (3, .int (nI (a))), (2, .int (iM (s2))), (1, .int (iM (s1))), (0, .ref h)]) C0.1 C0.2.1 dX1_luckiest_17 hl (by decide) rfl (fun ls hl => ?_)
        have cut_19 : ∀ (kf : Nat) (t1 : Nat) (t2 : Nat) (b : Nat) (hb : b ≤ n) (hab : a < b) (ht2 : t2 ≤ 14) (hts : (t2, t1) = lkr (pts tk co) a b (s2, s1)) (hm : n + 1 ≤ b + kf), ∀ (ls : Array Slot), lv_has ls 5 [(4, .int (nI (b))), (3, .int (nI (a))), (2, .int (iM (t2))), (1, .int (iM (t1))), (0, .ref h)] → ∀ (H : Heap) (locs : List Loc), tcG D cI cJ N0 (wM h r1 r2 r3 r4 cI th tk co cn wk n ho st ct sp Z) s H → va_S (tcA N0) s.heap H locs → W p l e ({ frames := 2, cells := 0, slots := 0, locals := 46 } : Room) s m args below meth c H locs (0) (0) zQg (F0 m 19 ls []) := by
          intro kf
          induction kf with
          | zero => intro t1 t2 b hb hab ht2 hts hm; exact absurd hm (by omega)
          | succ kf ih_19 =>
            intro t1 t2 b hb hab ht2 hts hm ls hl H locs hG hS
            refine lv_iload C0.1 C0.2.1 dX1_luckiest_19 (lv_at hl 0 rfl) ?_
            refine lv_aload_n C0.1 C0.2.1 dX1_luckiest_21 rfl (lv_at hl 4 rfl) ?_
            refine tgX1_people C0 hF hG w_people dX1_luckiest_22 ?_
            refine tn_icmp_ge (tgt := 64) C0.1 C0.2.1 dX1_luckiest_25 (by decide) (by omega) (by omega) (fun c_25 => ?_) (fun c_25 => ?_)
            · refine tn_iinc (lv' := [(3, .int (nI (a + 1))), (4, .int (nI (b))), (2, .int (iM (t2))), (1, .int (iM (t1))), (0, .ref h)]) C0.1 C0.2.1 dX1_luckiest_64 hl (k := 1) rfl (by decide) rfl (fun ls hl => ?_)
              refine lv_goto (tgt := 6) C0.1 C0.2.1 dX1_luckiest_67 (by decide) ?_
              exact ih_6 (t1) (t2) (a + 1) (by omega) (by omega) (by have hz : b = n := (by omega); rw [hz] at hts; rw [lkf_s, ← hs]; exact hts) (by omega) ls (lv_sub hl [0, 2, 3, 4] rfl) _ _ hG hS
            · refine lv_aload_n C0.1 C0.2.1 dX1_luckiest_28 rfl (lv_at hl 4 rfl) ?_
              refine lv_iload_n C0.1 C0.2.1 dX1_luckiest_29 rfl (lv_at hl 1 rfl) ?_
              refine lv_iload C0.1 C0.2.1 dX1_luckiest_30 (lv_at hl 0 rfl) ?_
              refine tc_callV (q0 := 0) C0 hG hS rfl rfl (kX1_points hlf hk  (a) (b) (by omega) (by omega)) (cwV 2 C0.2.2.2.2 gX1_luckiest_X1_points rfl rfl rfl (by decide +kernel) ⟨(Nat.le_of_ble_eq_true rfl), (Nat.le_of_ble_eq_true rfl)⟩) rfl hl rfl (Nat.le_of_ble_eq_true rfl) dX1_luckiest_32 ⟨(Nat.le_of_ble_eq_true rfl), (Nat.le_of_ble_eq_true rfl)⟩ (fun H locs hG hS => ?_)
              have b_32 := pts_le tk co a b
              refine lv_iload_n C0.1 C0.2.1 dX1_luckiest_35 rfl (lv_at hl 2 rfl) ?_
              refine tm_icmp_gt (tgt := 42) C0.1 C0.2.1 dX1_luckiest_36 (by decide) (by omega) (by omega) (fun c_36 => ?_) (fun c_36 => ?_)
              · refine lv_aload_n C0.1 C0.2.1 dX1_luckiest_42 rfl (lv_at hl 4 rfl) ?_
                refine lv_iload_n C0.1 C0.2.1 dX1_luckiest_43 rfl (lv_at hl 1 rfl) ?_
                refine lv_iload C0.1 C0.2.1 dX1_luckiest_44 (lv_at hl 0 rfl) ?_
                refine tc_callV (q0 := 0) C0 hG hS rfl rfl (kX1_points hlf hk  (a) (b) (by omega) (by omega)) (cwV 2 C0.2.2.2.2 gX1_luckiest_X1_points rfl rfl rfl (by decide +kernel) ⟨(Nat.le_of_ble_eq_true rfl), (Nat.le_of_ble_eq_true rfl)⟩) rfl hl rfl (Nat.le_of_ble_eq_true rfl) dX1_luckiest_46 ⟨(Nat.le_of_ble_eq_true rfl), (Nat.le_of_ble_eq_true rfl)⟩ (fun H locs hG hS => ?_)
                have b_46 := pts_le tk co a b
                refine tc_top (iM_s (pts tk co a b)).symm ?_
                refine lv_istore_n (lv' := [(2, .int (iM (pts tk co a b + 1))), (4, .int (nI (b))), (3, .int (nI (a))), (1, .int (iM (t1))), (0, .ref h)]) C0.1 C0.2.1 dX1_luckiest_49 rfl hl (by decide) rfl (fun ls hl => ?_)
                refine lv_bipush (v := nI 100) C0.1 C0.2.1 dX1_luckiest_50 (by decide) ?_
                refine lv_iload_n C0.1 C0.2.1 dX1_luckiest_52 rfl (lv_at hl 2 rfl) ?_
                refine tn_imul C0.1 C0.2.1 dX1_luckiest_53 ?_
                refine lv_iload C0.1 C0.2.1 dX1_luckiest_54 (lv_at hl 1 rfl) ?_
                refine tn_iadd C0.1 C0.2.1 dX1_luckiest_56 ?_
                refine tc_top (iM_s (100 * a + b)).symm ?_
                refine lv_istore_n (lv' := [(1, .int (iM (100 * a + b + 1))), (2, .int (iM (pts tk co a b + 1))), (4, .int (nI (b))), (3, .int (nI (a))), (0, .ref h)]) C0.1 C0.2.1 dX1_luckiest_57 rfl hl (by decide) rfl (fun ls hl => ?_)
                refine tn_iinc (lv' := [(4, .int (nI (b + 1))), (1, .int (iM (100 * a + b + 1))), (2, .int (iM (pts tk co a b + 1))), (3, .int (nI (a))), (0, .ref h)]) C0.1 C0.2.1 dX1_luckiest_58 hl (k := 2) rfl (by decide) rfl (fun ls hl => ?_)
                refine lv_goto (tgt := 19) C0.1 C0.2.1 dX1_luckiest_61 (by decide) ?_
                exact ih_19 (100 * a + b + 1) (pts tk co a b + 1) (b + 1) (by omega) (by omega) (by omega) (by first | exact lkr_n' hts c_36 | exact lkr_y' hab hts c_36) (by omega) ls (lv_sub hl [0, 3, 2, 1, 4] rfl) _ _ hG hS
              · refine lv_goto (tgt := 58) C0.1 C0.2.1 dX1_luckiest_39 (by decide) ?_
                refine tn_iinc (lv' := [(4, .int (nI (b + 1))), (3, .int (nI (a))), (2, .int (iM (t2))), (1, .int (iM (t1))), (0, .ref h)]) C0.1 C0.2.1 dX1_luckiest_58 hl (k := 0) rfl (by decide) rfl (fun ls hl => ?_)
                refine lv_goto (tgt := 19) C0.1 C0.2.1 dX1_luckiest_61 (by decide) ?_
                exact ih_19 (t1) (t2) (b + 1) (by omega) (by omega) (by omega) (by first | exact lkr_n' hts c_36 | exact lkr_y' hab hts c_36) (by omega) ls (lv_sub hl [0, 1, 2, 3, 4] rfl) _ _ hG hS
        exact cut_19 (n + 1) (s1) (s2) (a + 1) (by omega) (by omega) (by omega) (lkr_lo (Nat.le_refl _)).symm (by omega) ls (lv_sub hl [0, 1, 2, 3, 4] rfl) _ _ hG hS
  exact cut_6 (n + 1) (0) (0) (0) (by omega) (by omega) rfl (by omega) ls (lv_sub hl [0, 1, 2, 3] rfl) _ _ hG hS
set_option maxHeartbeats 4000000 in
set_option maxRecDepth 100000 in
theorem kX1_untilTogether {l : Launch} (hlf : l.stackTraces = false) {D : va_G} {cI cJ : ClassId} {N0 : Nat} {h r1 r2 r3 r4 : Nat} {tk co cn wk : Nat → Nat} {n st : Nat} {ho ct sp : Int32} {Z : va_W} {th : Int32} (hk : tOk tk co cn wk n st) (x : Nat) (y : Nat) (h1 : x < 12) (h2 : y < 12) : tcM l yX1_untilTogether wsX1_untilTogether { frames := 1, cells := 0, slots := 0, locals := 22 } [] 0 [.ref h, .int (nI (x)), .int (nI (y))] D cI cJ N0 (wM h r1 r2 r3 r4 cI th tk co cn wk n ho st ct sp Z) (some (.int (iM (meet cn wk x y)))) (wM h r1 r2 r3 r4 cI th tk co cn wk n ho st ct sp Z) 0 0 := by
  refine tcM.of (cc := cX1_untilTogether) (maxL := 4) (ret := (some .int)) (by decide) rfl (Nat.le_of_ble_eq_true rfl) ?_
  intro p e s m args below meth c C0 hr hlk ht hmn hG ls hl
  have hl : lv_has ls 4 [(0, .ref h), (1, .int (nI (x))), (2, .int (nI (y)))] := hl
  obtain ⟨hk1, hk2, hk3, hk4, hn12, hst⟩ := id hk
  have hG0 := hG
  have hS : va_S (tcA N0) s.heap s.heap [] := va_S.rf
  refine lv_iconst (v := nI 0) C0.1 C0.2.1 dX1_untilTogether_0 (by decide) ?_
  refine lv_istore_n (lv' := [(3, .int (nI (0))), (0, .ref h), (1, .int (nI (x))), (2, .int (nI (y)))]) C0.1 C0.2.1 dX1_untilTogether_1 rfl hl (by decide) rfl (fun ls hl => ?_)
  refine tc_nameQ (fun zQg zhQ => ?_)
  have cut_2 : ∀ (kf : Nat) (k : Nat) (hk6 : k ≤ 6) (hmt : meet cn wk x y = untl cn wk x y (6 - k) k) (hm : 6 + 1 ≤ k + kf), ∀ (ls : Array Slot), lv_has ls 4 [(3, .int (nI (k))), (0, .ref h), (1, .int (nI (x))), (2, .int (nI (y)))] → ∀ (H : Heap) (locs : List Loc), tcG D cI cJ N0 (wM h r1 r2 r3 r4 cI th tk co cn wk n ho st ct sp Z) s H → va_S (tcA N0) s.heap H locs → W p l e ({ frames := 1, cells := 0, slots := 0, locals := 22 } : Room) s m args below meth c H locs (0) (0) zQg (F0 m 2 ls []) := by
    intro kf
    induction kf with
    | zero => intro k hk6 hmt hm; exact absurd hm (by omega)
    | succ kf ih_2 =>
      intro k hk6 hmt hm ls hl H locs hG hS
      refine lv_iload_n C0.1 C0.2.1 dX1_untilTogether_2 rfl (lv_at hl 0 rfl) ?_
      refine lv_bipush (v := nI 6) C0.1 C0.2.1 dX1_untilTogether_3 (by decide) ?_
      refine tn_icmp_ge (tgt := 31) C0.1 C0.2.1 dX1_untilTogether_5 (by decide) (by omega) (by omega) (fun c_5 => ?_) (fun c_5 => ?_)
      · refine lv_iconst (v := iM 0) C0.1 C0.2.1 dX1_untilTogether_31 (by decide) ?_
        subst zhQ
        exact tc_iret C0 hr hlk hG hS rfl (by rw [hmt, show k = 6 by omega]; rfl) (Nat.le_of_ble_eq_true rfl) (Nat.le_of_ble_eq_true rfl) dX1_untilTogether_32
      · refine lv_aload_n C0.1 C0.2.1 dX1_untilTogether_8 rfl (lv_at hl 1 rfl) ?_
        refine lv_iload_n C0.1 C0.2.1 dX1_untilTogether_9 rfl (lv_at hl 2 rfl) ?_
        refine lv_iload_n C0.1 C0.2.1 dX1_untilTogether_10 rfl (lv_at hl 0 rfl) ?_
        refine tc_callV (q0 := 0) C0 hG hS rfl rfl (kX1_cornerIn hlf hk  (x) (k) (by omega) (by omega)) (cwV 2 C0.2.2.2.2 gX1_untilTogether_X1_cornerIn rfl rfl rfl (by decide +kernel) ⟨(Nat.le_of_ble_eq_true rfl), (Nat.le_of_ble_eq_true rfl)⟩) rfl hl rfl (Nat.le_of_ble_eq_true rfl) dX1_untilTogether_11 ⟨(Nat.le_of_ble_eq_true rfl), (Nat.le_of_ble_eq_true rfl)⟩ (fun H locs hG hS => ?_)
        have b_11 := cnr_lt cn wk k x
        refine lv_aload_n C0.1 C0.2.1 dX1_untilTogether_14 rfl (lv_at hl 1 rfl) ?_
        refine lv_iload_n C0.1 C0.2.1 dX1_untilTogether_15 rfl (lv_at hl 3 rfl) ?_
        refine lv_iload_n C0.1 C0.2.1 dX1_untilTogether_16 rfl (lv_at hl 0 rfl) ?_
        refine tc_callV (q0 := 0) C0 hG hS rfl rfl (kX1_cornerIn hlf hk  (y) (k) (by omega) (by omega)) (cwV 2 C0.2.2.2.2 gX1_untilTogether_X1_cornerIn rfl rfl rfl (by decide +kernel) ⟨(Nat.le_of_ble_eq_true rfl), (Nat.le_of_ble_eq_true rfl)⟩) rfl hl rfl (Nat.le_of_ble_eq_true rfl) dX1_untilTogether_17 ⟨(Nat.le_of_ble_eq_true rfl), (Nat.le_of_ble_eq_true rfl)⟩ (fun H locs hG hS => ?_)
        have b_17 := cnr_lt cn wk k y
        refine tn_icmp_ne (tgt := 25) C0.1 C0.2.1 dX1_untilTogether_20 (by decide) (by omega) (by omega) (fun c_20 => ?_) (fun c_20 => ?_)
        · refine tn_iinc (lv' := [(3, .int (nI (k + 1))), (0, .ref h), (1, .int (nI (x))), (2, .int (nI (y)))]) C0.1 C0.2.1 dX1_untilTogether_25 hl (k := 0) rfl (by decide) rfl (fun ls hl => ?_)
          refine lv_goto (tgt := 2) C0.1 C0.2.1 dX1_untilTogether_28 (by decide) ?_
          exact ih_2 (k + 1) (by omega) (hmt.trans (untl_n (by omega) c_20)) (by omega) ls (lv_sub hl [0, 1, 2, 3] rfl) _ _ hG hS
        · refine lv_iload_n C0.1 C0.2.1 dX1_untilTogether_23 rfl (lv_at hl 0 rfl) ?_
          subst zhQ
          exact tc_iret C0 hr hlk hG hS rfl (by rw [hmt, untl_y (by omega) c_20, iM_s]) (Nat.le_of_ble_eq_true rfl) (Nat.le_of_ble_eq_true rfl) dX1_untilTogether_24
  exact cut_2 (6 + 1) (0) (by omega) rfl (by omega) ls (lv_sub hl [0, 1, 2, 3] rfl) _ _ hG hS
set_option maxHeartbeats 4000000 in
set_option maxRecDepth 100000 in
theorem kX1_hourOfMost {l : Launch} (hlf : l.stackTraces = false) {D : va_G} {cI cJ : ClassId} {N0 : Nat} {h r1 r2 r3 r4 : Nat} {tk co cn wk : Nat → Nat} {n st : Nat} {ho ct sp : Int32} {Z : va_W} {th : Int32} (hk : tOk tk co cn wk n st)   : tcM l yX1_hourOfMost wsX1_hourOfMost { frames := 3, cells := 0, slots := 0, locals := 71 } [] 0 [.ref h] D cI cJ N0 (wM h r1 r2 r3 r4 cI th tk co cn wk n ho st ct sp Z) (some (.int (nI (bestHr tk co cn wk n)))) (wM h r1 r2 r3 r4 cI th tk co cn wk n ho st ct sp Z) 0 0 := by
  refine tcM.of (cc := cX1_hourOfMost) (maxL := 3) (ret := (some .int)) (by decide) rfl (Nat.le_of_ble_eq_true rfl) ?_
  intro p e s m args below meth c C0 hr hlk ht hmn hG ls hl
  have hl : lv_has ls 3 [(0, .ref h)] := hl
  obtain ⟨hk1, hk2, hk3, hk4, hn12, hst⟩ := id hk
  have hG0 := hG
  have hS : va_S (tcA N0) s.heap s.heap [] := va_S.rf
  refine lv_iconst (v := nI 1) C0.1 C0.2.1 dX1_hourOfMost_0 (by decide) ?_
  refine lv_istore_n (lv' := [(1, .int (nI (1))), (0, .ref h)]) C0.1 C0.2.1 dX1_hourOfMost_1 rfl hl (by decide) rfl (fun ls hl => ?_)
  refine lv_iconst (v := nI 2) C0.1 C0.2.1 dX1_hourOfMost_2 (by decide) ?_
  refine lv_istore_n (lv' := [(2, .int (nI (2))), (1, .int (nI (1))), (0, .ref h)]) C0.1 C0.2.1 dX1_hourOfMost_3 rfl hl (by decide) rfl (fun ls hl => ?_)
  refine tc_nameQ (fun zQg zhQ => ?_)
  have cut_4 : ∀ (kf : Nat) (s1 : Nat) (k : Nat) (hk7 : k ≤ 7) (hkk : 2 ≤ k) (hs : (tw tk co cn wk s1 n, s1) = hb (fun h => tw tk co cn wk h n) (k - 2)) (hs1 : s1 ≤ 6) (hm : 7 + 1 ≤ k + kf), ∀ (ls : Array Slot), lv_has ls 3 [(2, .int (nI (k))), (1, .int (nI (s1))), (0, .ref h)] → ∀ (H : Heap) (locs : List Loc), tcG D cI cJ N0 (wM h r1 r2 r3 r4 cI th tk co cn wk n ho st ct sp Z) s H → va_S (tcA N0) s.heap H locs → W p l e ({ frames := 3, cells := 0, slots := 0, locals := 71 } : Room) s m args below meth c H locs (0) (0) zQg (F0 m 4 ls []) := by
    intro kf
    induction kf with
    | zero => intro s1 k hk7 hkk hs hs1 hm; exact absurd hm (by omega)
    | succ kf ih_4 =>
      intro s1 k hk7 hkk hs hs1 hm ls hl H locs hG hS
      refine lv_iload_n C0.1 C0.2.1 dX1_hourOfMost_4 rfl (lv_at hl 0 rfl) ?_
      refine lv_bipush (v := nI 6) C0.1 C0.2.1 dX1_hourOfMost_5 (by decide) ?_
      refine tn_icmp_gt (tgt := 33) C0.1 C0.2.1 dX1_hourOfMost_7 (by decide) (by omega) (by omega) (fun c_7 => ?_) (fun c_7 => ?_)
      · refine lv_iload_n C0.1 C0.2.1 dX1_hourOfMost_33 rfl (lv_at hl 1 rfl) ?_
        subst zhQ
        exact tc_iret C0 hr hlk hG hS rfl (by have hz : k = 7 := (by omega); subst hz; have hs' : (tw tk co cn wk s1 n, s1) = hb (fun h => tw tk co cn wk h n) 5 := hs; unfold bestHr; rw [← hs']) (Nat.le_of_ble_eq_true rfl) (Nat.le_of_ble_eq_true rfl) dX1_hourOfMost_34
      · refine lv_aload_n C0.1 C0.2.1 dX1_hourOfMost_10 rfl (lv_at hl 2 rfl) ?_
        refine lv_iload_n C0.1 C0.2.1 dX1_hourOfMost_11 rfl (lv_at hl 0 rfl) ?_
        refine lv_iconst (v := iM 0) C0.1 C0.2.1 dX1_hourOfMost_12 (by decide) ?_
        refine tc_callV (q0 := 0) C0 hG hS rfl rfl (kX1_town hlf hk  (k) (0) (by omega) (by omega)) (cwV 2 C0.2.2.2.2 gX1_hourOfMost_X1_town rfl rfl rfl (by decide +kernel) ⟨(Nat.le_of_ble_eq_true rfl), (Nat.le_of_ble_eq_true rfl)⟩) rfl hl rfl (Nat.le_of_ble_eq_true rfl) dX1_hourOfMost_13 ⟨(Nat.le_of_ble_eq_true rfl), (Nat.le_of_ble_eq_true rfl)⟩ (fun H locs hG hS => ?_)
        have b_13 := twm_le tk co cn wk k 0 hk.2.2.2.2.1
        refine lv_aload_n C0.1 C0.2.1 dX1_hourOfMost_16 rfl (lv_at hl 2 rfl) ?_
        refine lv_iload_n C0.1 C0.2.1 dX1_hourOfMost_17 rfl (lv_at hl 1 rfl) ?_
        refine lv_iconst (v := iM 0) C0.1 C0.2.1 dX1_hourOfMost_18 (by decide) ?_
        refine tc_callV (q0 := 0) C0 hG hS rfl rfl (kX1_town hlf hk  (s1) (0) (by omega) (by omega)) (cwV 2 C0.2.2.2.2 gX1_hourOfMost_X1_town rfl rfl rfl (by decide +kernel) ⟨(Nat.le_of_ble_eq_true rfl), (Nat.le_of_ble_eq_true rfl)⟩) rfl hl rfl (Nat.le_of_ble_eq_true rfl) dX1_hourOfMost_19 ⟨(Nat.le_of_ble_eq_true rfl), (Nat.le_of_ble_eq_true rfl)⟩ (fun H locs hG hS => ?_)
        have b_19 := twm_le tk co cn wk s1 0 hk.2.2.2.2.1
        refine tn_icmp_le (tgt := 27) C0.1 C0.2.1 dX1_hourOfMost_22 (by decide) (by omega) (by omega) (fun c_22 => ?_) (fun c_22 => ?_)
        · refine tn_iinc (lv' := [(2, .int (nI (k + 1))), (1, .int (nI (s1))), (0, .ref h)]) C0.1 C0.2.1 dX1_hourOfMost_27 hl (k := 0) rfl (by decide) rfl (fun ls hl => ?_)
          refine lv_goto (tgt := 4) C0.1 C0.2.1 dX1_hourOfMost_30 (by decide) ?_
          exact ih_4 (s1) (k + 1) (by omega) (by omega) (by rw [twm_0, twm_0] at c_22; first | exact hb_n' hkk hs c_22 | exact hb_y' hkk hs c_22) (by omega) (by omega) ls (lv_sub hl [0, 1, 2] rfl) _ _ hG hS
        · refine lv_iload_n C0.1 C0.2.1 dX1_hourOfMost_25 rfl (lv_at hl 0 rfl) ?_
          refine lv_istore_n (lv' := [(1, .int (nI (k))), (2, .int (nI (k))), (0, .ref h)]) C0.1 C0.2.1 dX1_hourOfMost_26 rfl hl (by decide) rfl (fun ls hl => ?_)
          refine tn_iinc (lv' := [(2, .int (nI (k + 1))), (1, .int (nI (k))), (0, .ref h)]) C0.1 C0.2.1 dX1_hourOfMost_27 hl (k := 1) rfl (by decide) rfl (fun ls hl => ?_)
          refine lv_goto (tgt := 4) C0.1 C0.2.1 dX1_hourOfMost_30 (by decide) ?_
          exact ih_4 (k) (k + 1) (by omega) (by omega) (by rw [twm_0, twm_0] at c_22; first | exact hb_n' hkk hs c_22 | exact hb_y' hkk hs c_22) (by omega) (by omega) ls (lv_sub hl [0, 1, 2] rfl) _ _ hG hS
  exact cut_4 (7 + 1) (1) (2) (by omega) (by omega) rfl (by omega) (by omega) ls (lv_sub hl [0, 1, 2] rfl) _ _ hG hS
set_option maxHeartbeats 4000000 in
set_option maxRecDepth 100000 in
theorem kX1_bestOf_cn {l : Launch} (hlf : l.stackTraces = false) {D : va_G} {cI cJ : ClassId} {N0 : Nat} {h r1 r2 r3 r4 : Nat} {tk co cn wk : Nat → Nat} {n st : Nat} {ho ct sp : Int32} {Z : va_W} {th : Int32} (hk : tOk tk co cn wk n st) (x : Nat) (y : Nat) (h1 : x < n) (h2 : y = 6) : tcM l yX1_bestOf wsX1_bestOf { frames := 4, cells := 0, slots := 0, locals := 91 } [] 0 [.ref h, .ref r3, .int (nI (x)), .int (nI (y))] D cI cJ N0 (wM h r1 r2 r3 r4 cI th tk co cn wk n ho st ct sp Z) (some (.int (nI (bestCn tk co cn x n)))) (wM h r1 r2 r3 r4 cI th tk co cn wk n ho st ct sp Z) 0 0 := by
  refine tcM.of (cc := cX1_bestOf) (maxL := 9) (ret := (some .int)) (by decide) rfl (Nat.le_of_ble_eq_true rfl) ?_
  intro p e s m args below meth c C0 hr hlk ht hmn hG ls hl
  have hl : lv_has ls 9 [(0, .ref h), (1, .ref r3), (2, .int (nI (x))), (3, .int (nI (y)))] := hl
  obtain ⟨hk1, hk2, hk3, hk4, hn12, hst⟩ := id hk
  have hG0 := hG
  have hS : va_S (tcA N0) s.heap s.heap [] := va_S.rf
  refine lv_aload_n C0.1 C0.2.1 dX1_bestOf_0 rfl (lv_at hl 1 rfl) ?_
  refine lv_iload_n C0.1 C0.2.1 dX1_bestOf_1 rfl (lv_at hl 2 rfl) ?_
  refine tc_ald (q0 := 3) C0 hG rfl (by omega) dX1_bestOf_2 ?_
  have b_2 := hk3 (x)
  refine lv_istore (lv' := [(4, .int (nI (cn (x)))), (0, .ref h), (1, .ref r3), (2, .int (nI (x))), (3, .int (nI (y)))]) C0.1 C0.2.1 dX1_bestOf_3 hl (by decide) rfl (fun ls hl => ?_)
  refine lv_iconst (v := nI 0) C0.1 C0.2.1 dX1_bestOf_5 (by decide) ?_
  refine lv_istore (lv' := [(5, .int (nI (0))), (4, .int (nI (cn (x)))), (0, .ref h), (1, .ref r3), (2, .int (nI (x))), (3, .int (nI (y)))]) C0.1 C0.2.1 dX1_bestOf_6 hl (by decide) rfl (fun ls hl => ?_)
  refine lv_iconst (v := iM 0) C0.1 C0.2.1 dX1_bestOf_8 (by decide) ?_
  refine lv_istore (lv' := [(6, .int (iM (0))), (5, .int (nI (0))), (4, .int (nI (cn (x)))), (0, .ref h), (1, .ref r3), (2, .int (nI (x))), (3, .int (nI (y)))]) C0.1 C0.2.1 dX1_bestOf_9 hl (by decide) rfl (fun ls hl => ?_)
  refine lv_iconst (v := nI 0) C0.1 C0.2.1 dX1_bestOf_11 (by decide) ?_
  refine lv_istore (lv' := [(7, .int (nI (0))), (6, .int (iM (0))), (5, .int (nI (0))), (4, .int (nI (cn (x)))), (0, .ref h), (1, .ref r3), (2, .int (nI (x))), (3, .int (nI (y)))]) C0.1 C0.2.1 dX1_bestOf_12 hl (by decide) rfl (fun ls hl => ?_)
  refine tc_nameQ (fun zQg zhQ => ?_)
  have cut_14 : ∀ (kf : Nat) (s1 : Nat) (s2 : Nat) (v : Nat) (vz : Nat) (hv : v ≤ y) (hs2 : s2 ≤ 1873) (hs : (s2, s1) = am (fun v => tw tk co (va_up cn x v) wk 0 n) v) (hm : y + 1 ≤ v + kf), ∀ (ls : Array Slot), lv_has ls 9 [(7, .int (nI (v))), (6, .int (iM (s2))), (5, .int (nI (s1))), (4, .int (nI (cn (x)))), (0, .ref h), (1, .ref r3), (2, .int (nI (x))), (3, .int (nI (y)))] → ∀ (H : Heap) (locs : List Loc), tcG D cI cJ N0 (wM h r1 r2 r3 r4 cI th tk co (va_up cn x vz) wk n ho st ct sp Z) s H → va_S (tcA N0) s.heap H locs → W p l e ({ frames := 4, cells := 0, slots := 0, locals := 91 } : Room) s m args below meth c H locs (0) (0) zQg (F0 m 14 ls []) := by
    intro kf
    induction kf with
    | zero => intro s1 s2 v vz hv hs2 hs hm; exact absurd hm (by omega)
    | succ kf ih_14 =>
      intro s1 s2 v vz hv hs2 hs hm ls hl H locs hG hS
      refine lv_iload C0.1 C0.2.1 dX1_bestOf_14 (lv_at hl 0 rfl) ?_
      refine lv_iload_n C0.1 C0.2.1 dX1_bestOf_16 rfl (lv_at hl 7 rfl) ?_
      refine tn_icmp_ge (tgt := 55) C0.1 C0.2.1 dX1_bestOf_17 (by decide) (by omega) (by omega) (fun c_17 => ?_) (fun c_17 => ?_)
      · refine lv_aload_n C0.1 C0.2.1 dX1_bestOf_55 rfl (lv_at hl 5 rfl) ?_
        refine lv_iload_n C0.1 C0.2.1 dX1_bestOf_56 rfl (lv_at hl 6 rfl) ?_
        refine lv_iload C0.1 C0.2.1 dX1_bestOf_57 (lv_at hl 3 rfl) ?_
        refine tc_ast (q0 := 3) C0 hG0 hG hS rfl (by omega) dX1_bestOf_59 (fun H locs hG hS => ?_)
        have hG : tcG D cI cJ N0 (wM h r1 r2 r3 r4 cI th tk co (va_up (va_up cn x vz) (x) (cn (x))) wk n ho st ct sp Z) s H := hG
        refine lv_iload C0.1 C0.2.1 dX1_bestOf_60 (lv_at hl 2 rfl) ?_
        subst zhQ
        exact tc_iret C0 hr hlk (tcG.eq (by rw [tup_up, tup_self]) hG) hS rfl (by have hz : v = 6 := (by omega); subst hz; rw [← bestCn_tw hk h1]; rw [← hs]) (Nat.le_of_ble_eq_true rfl) (Nat.le_of_ble_eq_true rfl) dX1_bestOf_62
      · have hk_v := hk.cn (up_lt (x := v) hk3 (by omega) x)
        refine lv_aload_n C0.1 C0.2.1 dX1_bestOf_20 rfl (lv_at hl 5 rfl) ?_
        refine lv_iload_n C0.1 C0.2.1 dX1_bestOf_21 rfl (lv_at hl 6 rfl) ?_
        refine lv_iload C0.1 C0.2.1 dX1_bestOf_22 (lv_at hl 0 rfl) ?_
        refine tc_ast (q0 := 3) C0 hG0 hG hS rfl (by omega) dX1_bestOf_24 (fun H locs hG hS => ?_)
        have hG : tcG D cI cJ N0 (wM h r1 r2 r3 r4 cI th tk co (va_up (va_up cn x vz) (x) (v)) wk n ho st ct sp Z) s H := hG
        rw [tup_up] at hG
        refine lv_aload_n C0.1 C0.2.1 dX1_bestOf_25 rfl (lv_at hl 4 rfl) ?_
        refine tc_callV (q0 := 0) C0 hG hS rfl rfl (kX1_here hlf hk_v   ) (cwV 0 C0.2.2.2.2 gX1_bestOf_X1_here rfl rfl rfl (by decide +kernel) ⟨(Nat.le_of_ble_eq_true rfl), (Nat.le_of_ble_eq_true rfl)⟩) rfl hl rfl (Nat.le_of_ble_eq_true rfl) dX1_bestOf_26 ⟨(Nat.le_of_ble_eq_true rfl), (Nat.le_of_ble_eq_true rfl)⟩ (fun H locs hG hS => ?_)
        have b_26 := tw_le tk co (va_up cn x v) wk 0 hk_v.2.2.2.2.1
        refine lv_istore (lv' := [(8, .int (nI (tw tk co (va_up cn x v) wk 0 n))), (7, .int (nI (v))), (6, .int (iM (s2))), (5, .int (nI (s1))), (4, .int (nI (cn (x)))), (0, .ref h), (1, .ref r3), (2, .int (nI (x))), (3, .int (nI (y)))]) C0.1 C0.2.1 dX1_bestOf_29 hl (by decide) rfl (fun ls hl => ?_)
        refine lv_iload C0.1 C0.2.1 dX1_bestOf_31 (lv_at hl 0 rfl) ?_
        refine lv_iload C0.1 C0.2.1 dX1_bestOf_33 (lv_at hl 2 rfl) ?_
        refine tm_icmp_gt (tgt := 41) C0.1 C0.2.1 dX1_bestOf_35 (by decide) (by omega) (by omega) (fun c_35 => ?_) (fun c_35 => ?_)
        · refine lv_iload C0.1 C0.2.1 dX1_bestOf_41 (lv_at hl 0 rfl) ?_
          refine tc_top (iM_s (tw tk co (va_up cn x v) wk 0 n)).symm ?_
          refine lv_istore (lv' := [(6, .int (iM (tw tk co (va_up cn x v) wk 0 n + 1))), (8, .int (nI (tw tk co (va_up cn x v) wk 0 n))), (7, .int (nI (v))), (5, .int (nI (s1))), (4, .int (nI (cn (x)))), (0, .ref h), (1, .ref r3), (2, .int (nI (x))), (3, .int (nI (y)))]) C0.1 C0.2.1 dX1_bestOf_43 hl (by decide) rfl (fun ls hl => ?_)
          refine lv_iload C0.1 C0.2.1 dX1_bestOf_45 (lv_at hl 2 rfl) ?_
          refine lv_istore (lv' := [(5, .int (nI (v))), (6, .int (iM (tw tk co (va_up cn x v) wk 0 n + 1))), (8, .int (nI (tw tk co (va_up cn x v) wk 0 n))), (7, .int (nI (v))), (4, .int (nI (cn (x)))), (0, .ref h), (1, .ref r3), (2, .int (nI (x))), (3, .int (nI (y)))]) C0.1 C0.2.1 dX1_bestOf_47 hl (by decide) rfl (fun ls hl => ?_)
          refine tn_iinc (lv' := [(7, .int (nI (v + 1))), (5, .int (nI (v))), (6, .int (iM (tw tk co (va_up cn x v) wk 0 n + 1))), (8, .int (nI (tw tk co (va_up cn x v) wk 0 n))), (4, .int (nI (cn (x)))), (0, .ref h), (1, .ref r3), (2, .int (nI (x))), (3, .int (nI (y)))]) C0.1 C0.2.1 dX1_bestOf_49 hl (k := 3) rfl (by decide) rfl (fun ls hl => ?_)
          refine lv_goto (tgt := 14) C0.1 C0.2.1 dX1_bestOf_52 (by decide) ?_
          exact ih_14 (v) (tw tk co (va_up cn x v) wk 0 n + 1) (v + 1) (v) (by omega) (by omega) (by first | exact am_n' hs c_35 | exact am_y' hs c_35) (by omega) ls (lv_sub hl [0, 2, 1, 4, 5, 6, 7, 8] rfl) _ _ hG hS
        · refine lv_goto (tgt := 49) C0.1 C0.2.1 dX1_bestOf_38 (by decide) ?_
          refine tn_iinc (lv' := [(7, .int (nI (v + 1))), (8, .int (nI (tw tk co (va_up cn x v) wk 0 n))), (6, .int (iM (s2))), (5, .int (nI (s1))), (4, .int (nI (cn (x)))), (0, .ref h), (1, .ref r3), (2, .int (nI (x))), (3, .int (nI (y)))]) C0.1 C0.2.1 dX1_bestOf_49 hl (k := 1) rfl (by decide) rfl (fun ls hl => ?_)
          refine lv_goto (tgt := 14) C0.1 C0.2.1 dX1_bestOf_52 (by decide) ?_
          exact ih_14 (s1) (s2) (v + 1) (v) (by omega) (by omega) (by first | exact am_n' hs c_35 | exact am_y' hs c_35) (by omega) ls (lv_sub hl [0, 2, 3, 4, 5, 6, 7, 8] rfl) _ _ hG hS
  exact cut_14 (y + 1) (0) (0) (0) (cn x) (by omega) (by omega) rfl (by omega) ls (lv_sub hl [0, 1, 2, 3, 4, 5, 6, 7] rfl) _ _ (tcG.eq (by rw [tup_self]) hG) hS
set_option maxHeartbeats 4000000 in
set_option maxRecDepth 100000 in
theorem kX1_bestOf_tk {l : Launch} (hlf : l.stackTraces = false) {D : va_G} {cI cJ : ClassId} {N0 : Nat} {h r1 r2 r3 r4 : Nat} {tk co cn wk : Nat → Nat} {n st : Nat} {ho ct sp : Int32} {Z : va_W} {th : Int32} (hk : tOk tk co cn wk n st) (x : Nat) (y : Nat) (h1 : x < n) (h2 : y = 100) : tcM l yX1_bestOf wsX1_bestOf { frames := 4, cells := 0, slots := 0, locals := 91 } [] 0 [.ref h, .ref r1, .int (nI (x)), .int (nI (y))] D cI cJ N0 (wM h r1 r2 r3 r4 cI th tk co cn wk n ho st ct sp Z) (some (.int (nI (bestTk tk co cn x n)))) (wM h r1 r2 r3 r4 cI th tk co cn wk n ho st ct sp Z) 0 0 := by
  refine tcM.of (cc := cX1_bestOf) (maxL := 9) (ret := (some .int)) (by decide) rfl (Nat.le_of_ble_eq_true rfl) ?_
  intro p e s m args below meth c C0 hr hlk ht hmn hG ls hl
  have hl : lv_has ls 9 [(0, .ref h), (1, .ref r1), (2, .int (nI (x))), (3, .int (nI (y)))] := hl
  obtain ⟨hk1, hk2, hk3, hk4, hn12, hst⟩ := id hk
  have hG0 := hG
  have hS : va_S (tcA N0) s.heap s.heap [] := va_S.rf
  refine lv_aload_n C0.1 C0.2.1 dX1_bestOf_0 rfl (lv_at hl 1 rfl) ?_
  refine lv_iload_n C0.1 C0.2.1 dX1_bestOf_1 rfl (lv_at hl 2 rfl) ?_
  refine tc_ald (q0 := 1) C0 hG rfl (by omega) dX1_bestOf_2 ?_
  have b_2 := hk1 (x)
  refine lv_istore (lv' := [(4, .int (nI (tk (x)))), (0, .ref h), (1, .ref r1), (2, .int (nI (x))), (3, .int (nI (y)))]) C0.1 C0.2.1 dX1_bestOf_3 hl (by decide) rfl (fun ls hl => ?_)
  refine lv_iconst (v := nI 0) C0.1 C0.2.1 dX1_bestOf_5 (by decide) ?_
  refine lv_istore (lv' := [(5, .int (nI (0))), (4, .int (nI (tk (x)))), (0, .ref h), (1, .ref r1), (2, .int (nI (x))), (3, .int (nI (y)))]) C0.1 C0.2.1 dX1_bestOf_6 hl (by decide) rfl (fun ls hl => ?_)
  refine lv_iconst (v := iM 0) C0.1 C0.2.1 dX1_bestOf_8 (by decide) ?_
  refine lv_istore (lv' := [(6, .int (iM (0))), (5, .int (nI (0))), (4, .int (nI (tk (x)))), (0, .ref h), (1, .ref r1), (2, .int (nI (x))), (3, .int (nI (y)))]) C0.1 C0.2.1 dX1_bestOf_9 hl (by decide) rfl (fun ls hl => ?_)
  refine lv_iconst (v := nI 0) C0.1 C0.2.1 dX1_bestOf_11 (by decide) ?_
  refine lv_istore (lv' := [(7, .int (nI (0))), (6, .int (iM (0))), (5, .int (nI (0))), (4, .int (nI (tk (x)))), (0, .ref h), (1, .ref r1), (2, .int (nI (x))), (3, .int (nI (y)))]) C0.1 C0.2.1 dX1_bestOf_12 hl (by decide) rfl (fun ls hl => ?_)
  refine tc_nameQ (fun zQg zhQ => ?_)
  have cut_14 : ∀ (kf : Nat) (s1 : Nat) (s2 : Nat) (v : Nat) (vz : Nat) (hv : v ≤ y) (hs2 : s2 ≤ 1873) (hs : (s2, s1) = am (fun v => tw (va_up tk x v) co cn wk 0 n) v) (hm : y + 1 ≤ v + kf), ∀ (ls : Array Slot), lv_has ls 9 [(7, .int (nI (v))), (6, .int (iM (s2))), (5, .int (nI (s1))), (4, .int (nI (tk (x)))), (0, .ref h), (1, .ref r1), (2, .int (nI (x))), (3, .int (nI (y)))] → ∀ (H : Heap) (locs : List Loc), tcG D cI cJ N0 (wM h r1 r2 r3 r4 cI th (va_up tk x vz) co cn wk n ho st ct sp Z) s H → va_S (tcA N0) s.heap H locs → W p l e ({ frames := 4, cells := 0, slots := 0, locals := 91 } : Room) s m args below meth c H locs (0) (0) zQg (F0 m 14 ls []) := by
    intro kf
    induction kf with
    | zero => intro s1 s2 v vz hv hs2 hs hm; exact absurd hm (by omega)
    | succ kf ih_14 =>
      intro s1 s2 v vz hv hs2 hs hm ls hl H locs hG hS
      refine lv_iload C0.1 C0.2.1 dX1_bestOf_14 (lv_at hl 0 rfl) ?_
      refine lv_iload_n C0.1 C0.2.1 dX1_bestOf_16 rfl (lv_at hl 7 rfl) ?_
      refine tn_icmp_ge (tgt := 55) C0.1 C0.2.1 dX1_bestOf_17 (by decide) (by omega) (by omega) (fun c_17 => ?_) (fun c_17 => ?_)
      · refine lv_aload_n C0.1 C0.2.1 dX1_bestOf_55 rfl (lv_at hl 5 rfl) ?_
        refine lv_iload_n C0.1 C0.2.1 dX1_bestOf_56 rfl (lv_at hl 6 rfl) ?_
        refine lv_iload C0.1 C0.2.1 dX1_bestOf_57 (lv_at hl 3 rfl) ?_
        refine tc_ast (q0 := 1) C0 hG0 hG hS rfl (by omega) dX1_bestOf_59 (fun H locs hG hS => ?_)
        have hG : tcG D cI cJ N0 (wM h r1 r2 r3 r4 cI th (va_up (va_up tk x vz) (x) (tk (x))) co cn wk n ho st ct sp Z) s H := hG
        refine lv_iload C0.1 C0.2.1 dX1_bestOf_60 (lv_at hl 2 rfl) ?_
        subst zhQ
        exact tc_iret C0 hr hlk (tcG.eq (by rw [tup_up, tup_self]) hG) hS rfl (by have hz : v = 100 := (by omega); subst hz; rw [← bestTk_tw hk h1]; rw [← hs]) (Nat.le_of_ble_eq_true rfl) (Nat.le_of_ble_eq_true rfl) dX1_bestOf_62
      · have hk_v := hk.tk (up_lt (x := v) hk1 (by omega) x)
        refine lv_aload_n C0.1 C0.2.1 dX1_bestOf_20 rfl (lv_at hl 5 rfl) ?_
        refine lv_iload_n C0.1 C0.2.1 dX1_bestOf_21 rfl (lv_at hl 6 rfl) ?_
        refine lv_iload C0.1 C0.2.1 dX1_bestOf_22 (lv_at hl 0 rfl) ?_
        refine tc_ast (q0 := 1) C0 hG0 hG hS rfl (by omega) dX1_bestOf_24 (fun H locs hG hS => ?_)
        have hG : tcG D cI cJ N0 (wM h r1 r2 r3 r4 cI th (va_up (va_up tk x vz) (x) (v)) co cn wk n ho st ct sp Z) s H := hG
        rw [tup_up] at hG
        refine lv_aload_n C0.1 C0.2.1 dX1_bestOf_25 rfl (lv_at hl 4 rfl) ?_
        refine tc_callV (q0 := 0) C0 hG hS rfl rfl (kX1_here hlf hk_v   ) (cwV 0 C0.2.2.2.2 gX1_bestOf_X1_here rfl rfl rfl (by decide +kernel) ⟨(Nat.le_of_ble_eq_true rfl), (Nat.le_of_ble_eq_true rfl)⟩) rfl hl rfl (Nat.le_of_ble_eq_true rfl) dX1_bestOf_26 ⟨(Nat.le_of_ble_eq_true rfl), (Nat.le_of_ble_eq_true rfl)⟩ (fun H locs hG hS => ?_)
        have b_26 := tw_le (va_up tk x v) co cn wk 0 hk_v.2.2.2.2.1
        refine lv_istore (lv' := [(8, .int (nI (tw (va_up tk x v) co cn wk 0 n))), (7, .int (nI (v))), (6, .int (iM (s2))), (5, .int (nI (s1))), (4, .int (nI (tk (x)))), (0, .ref h), (1, .ref r1), (2, .int (nI (x))), (3, .int (nI (y)))]) C0.1 C0.2.1 dX1_bestOf_29 hl (by decide) rfl (fun ls hl => ?_)
        refine lv_iload C0.1 C0.2.1 dX1_bestOf_31 (lv_at hl 0 rfl) ?_
        refine lv_iload C0.1 C0.2.1 dX1_bestOf_33 (lv_at hl 2 rfl) ?_
        refine tm_icmp_gt (tgt := 41) C0.1 C0.2.1 dX1_bestOf_35 (by decide) (by omega) (by omega) (fun c_35 => ?_) (fun c_35 => ?_)
        · refine lv_iload C0.1 C0.2.1 dX1_bestOf_41 (lv_at hl 0 rfl) ?_
          refine tc_top (iM_s (tw (va_up tk x v) co cn wk 0 n)).symm ?_
          refine lv_istore (lv' := [(6, .int (iM (tw (va_up tk x v) co cn wk 0 n + 1))), (8, .int (nI (tw (va_up tk x v) co cn wk 0 n))), (7, .int (nI (v))), (5, .int (nI (s1))), (4, .int (nI (tk (x)))), (0, .ref h), (1, .ref r1), (2, .int (nI (x))), (3, .int (nI (y)))]) C0.1 C0.2.1 dX1_bestOf_43 hl (by decide) rfl (fun ls hl => ?_)
          refine lv_iload C0.1 C0.2.1 dX1_bestOf_45 (lv_at hl 2 rfl) ?_
          refine lv_istore (lv' := [(5, .int (nI (v))), (6, .int (iM (tw (va_up tk x v) co cn wk 0 n + 1))), (8, .int (nI (tw (va_up tk x v) co cn wk 0 n))), (7, .int (nI (v))), (4, .int (nI (tk (x)))), (0, .ref h), (1, .ref r1), (2, .int (nI (x))), (3, .int (nI (y)))]) C0.1 C0.2.1 dX1_bestOf_47 hl (by decide) rfl (fun ls hl => ?_)
          refine tn_iinc (lv' := [(7, .int (nI (v + 1))), (5, .int (nI (v))), (6, .int (iM (tw (va_up tk x v) co cn wk 0 n + 1))), (8, .int (nI (tw (va_up tk x v) co cn wk 0 n))), (4, .int (nI (tk (x)))), (0, .ref h), (1, .ref r1), (2, .int (nI (x))), (3, .int (nI (y)))]) C0.1 C0.2.1 dX1_bestOf_49 hl (k := 3) rfl (by decide) rfl (fun ls hl => ?_)
          refine lv_goto (tgt := 14) C0.1 C0.2.1 dX1_bestOf_52 (by decide) ?_
          exact ih_14 (v) (tw (va_up tk x v) co cn wk 0 n + 1) (v + 1) (v) (by omega) (by omega) (by first | exact am_n' hs c_35 | exact am_y' hs c_35) (by omega) ls (lv_sub hl [0, 2, 1, 4, 5, 6, 7, 8] rfl) _ _ hG hS
        · refine lv_goto (tgt := 49) C0.1 C0.2.1 dX1_bestOf_38 (by decide) ?_
          refine tn_iinc (lv' := [(7, .int (nI (v + 1))), (8, .int (nI (tw (va_up tk x v) co cn wk 0 n))), (6, .int (iM (s2))), (5, .int (nI (s1))), (4, .int (nI (tk (x)))), (0, .ref h), (1, .ref r1), (2, .int (nI (x))), (3, .int (nI (y)))]) C0.1 C0.2.1 dX1_bestOf_49 hl (k := 1) rfl (by decide) rfl (fun ls hl => ?_)
          refine lv_goto (tgt := 14) C0.1 C0.2.1 dX1_bestOf_52 (by decide) ?_
          exact ih_14 (s1) (s2) (v + 1) (v) (by omega) (by omega) (by first | exact am_n' hs c_35 | exact am_y' hs c_35) (by omega) ls (lv_sub hl [0, 2, 3, 4, 5, 6, 7, 8] rfl) _ _ hG hS
  exact cut_14 (y + 1) (0) (0) (0) (tk x) (by omega) (by omega) rfl (by omega) ls (lv_sub hl [0, 1, 2, 3, 4, 5, 6, 7] rfl) _ _ (tcG.eq (by rw [tup_self]) hG) hS
set_option maxHeartbeats 4000000 in
set_option maxRecDepth 100000 in
theorem kX1_swapOfMost {l : Launch} (hlf : l.stackTraces = false) {D : va_G} {cI cJ : ClassId} {N0 : Nat} {h r1 r2 r3 r4 : Nat} {tk co cn wk : Nat → Nat} {n st : Nat} {ho ct sp : Int32} {Z : va_W} {th : Int32} (hk : tOk tk co cn wk n st)   : tcM l yX1_swapOfMost wsX1_swapOfMost { frames := 4, cells := 0, slots := 0, locals := 91 } [] 0 [.ref h] D cI cJ N0 (wM h r1 r2 r3 r4 cI th tk co cn wk n ho st ct sp Z) (some (.int (iM (bestSw tk co cn wk n)))) (wM h r1 r2 r3 r4 cI th tk co cn wk n ho st ct sp Z) 0 0 := by
  refine tcM.of (cc := cX1_swapOfMost) (maxL := 6) (ret := (some .int)) (by decide) rfl (Nat.le_of_ble_eq_true rfl) ?_
  intro p e s m args below meth c C0 hr hlk ht hmn hG ls hl
  have hl : lv_has ls 6 [(0, .ref h)] := hl
  obtain ⟨hk1, hk2, hk3, hk4, hn12, hst⟩ := id hk
  have hG0 := hG
  have hS : va_S (tcA N0) s.heap s.heap [] := va_S.rf
  have hF : ∀ w ∈ wsX10, w ∈ wsX1_swapOfMost := by decide +kernel
  have w_people : Cond.fieldLink RX1 29 "TicketCoincidencesModel" "people" "I" ∈ wsX1_swapOfMost := by decide +kernel
  have w_ticket : Cond.fieldLink RX1 9 "TicketCoincidencesModel" "ticket" "[I" ∈ wsX1_swapOfMost := by decide +kernel
  refine lv_iconst (v := iM 0) C0.1 C0.2.1 dX1_swapOfMost_0 (by decide) ?_
  refine lv_istore_n (lv' := [(1, .int (iM (0))), (0, .ref h)]) C0.1 C0.2.1 dX1_swapOfMost_1 rfl hl (by decide) rfl (fun ls hl => ?_)
  refine lv_aload_n C0.1 C0.2.1 dX1_swapOfMost_2 rfl (lv_at hl 1 rfl) ?_
  refine tc_callV (q0 := 0) C0 hG hS rfl rfl (kX1_here hlf hk   ) (cwV 0 C0.2.2.2.2 gX1_swapOfMost_X1_here rfl rfl rfl (by decide +kernel) ⟨(Nat.le_of_ble_eq_true rfl), (Nat.le_of_ble_eq_true rfl)⟩) rfl hl rfl (Nat.le_of_ble_eq_true rfl) dX1_swapOfMost_3 ⟨(Nat.le_of_ble_eq_true rfl), (Nat.le_of_ble_eq_true rfl)⟩ (fun H locs hG hS => ?_)
  have b_3 := tw_le tk co cn wk 0 hk.2.2.2.2.1
  refine tc_top (iM_s (tw tk co cn wk 0 n)).symm ?_
  refine lv_istore_n (lv' := [(2, .int (iM (tw tk co cn wk 0 n + 1))), (1, .int (iM (0))), (0, .ref h)]) C0.1 C0.2.1 dX1_swapOfMost_6 rfl hl (by decide) rfl (fun ls hl => ?_)
  refine lv_iconst (v := nI 0) C0.1 C0.2.1 dX1_swapOfMost_7 (by decide) ?_
  refine lv_istore_n (lv' := [(3, .int (nI (0))), (2, .int (iM (tw tk co cn wk 0 n + 1))), (1, .int (iM (0))), (0, .ref h)]) C0.1 C0.2.1 dX1_swapOfMost_8 rfl hl (by decide) rfl (fun ls hl => ?_)
  refine tc_nameQ (fun zQg zhQ => ?_)
  have cut_9 : ∀ (kf : Nat) (s1 : Nat) (s2 : Nat) (a : Nat) (ha : a ≤ n) (hs2 : s2 ≤ 1873) (hs : (s2, s1) = lkf (swt tk co cn wk n) n (tw tk co cn wk 0 n + 1, 0) a) (hm : n + 1 ≤ a + kf), ∀ (ls : Array Slot), lv_has ls 6 [(3, .int (nI (a))), (2, .int (iM (s2))), (1, .int (iM (s1))), (0, .ref h)] → ∀ (H : Heap) (locs : List Loc), tcG D cI cJ N0 (wM h r1 r2 r3 r4 cI th tk co cn wk n ho st ct sp Z) s H → va_S (tcA N0) s.heap H locs → W p l e ({ frames := 4, cells := 0, slots := 0, locals := 91 } : Room) s m args below meth c H locs (0) (0) zQg (F0 m 9 ls []) := by
    intro kf
    induction kf with
    | zero => intro s1 s2 a ha hs2 hs hm; exact absurd hm (by omega)
    | succ kf ih_9 =>
      intro s1 s2 a ha hs2 hs hm ls hl H locs hG hS
      refine lv_iload_n C0.1 C0.2.1 dX1_swapOfMost_9 rfl (lv_at hl 0 rfl) ?_
      refine lv_aload_n C0.1 C0.2.1 dX1_swapOfMost_10 rfl (lv_at hl 3 rfl) ?_
      refine tgX1_people C0 hF hG w_people dX1_swapOfMost_11 ?_
      refine tn_icmp_ge (tgt := 89) C0.1 C0.2.1 dX1_swapOfMost_14 (by decide) (by omega) (by omega) (fun c_14 => ?_) (fun c_14 => ?_)
      · refine lv_iload_n C0.1 C0.2.1 dX1_swapOfMost_89 rfl (lv_at hl 2 rfl) ?_
        subst zhQ
        exact tc_iret C0 hr hlk hG hS rfl (by have hz : a = n := (by omega); rw [hz] at hs; unfold bestSw; rw [← hs]) (Nat.le_of_ble_eq_true rfl) (Nat.le_of_ble_eq_true rfl) dX1_swapOfMost_90
      · refine lv_iload_n C0.1 C0.2.1 dX1_swapOfMost_17 rfl (lv_at hl 0 rfl) ?_
        refine lv_iconst (v := nI 1) C0.1 C0.2.1 dX1_swapOfMost_18 (by decide) ?_
        refine tn_iadd C0.1 C0.2.1 dX1_swapOfMost_19 ?_
        refine lv_istore (lv' := [(4, .int (nI (a + 1))), (3, .int (nI (a))), (2, .int (iM (s2))), (1, .int (iM (s1))), (0, .ref h)]) C0.1 C0.2.1 dX1_swapOfMost_20 hl (by decide) rfl (fun ls hl => ?_)
        have cut_22 : ∀ (kf : Nat) (t1 : Nat) (t2 : Nat) (b : Nat) (hb : b ≤ n) (hab : a < b) (ht2 : t2 ≤ 1873) (hts : (t2, t1) = lkr (swt tk co cn wk n) a b (s2, s1)) (hm : n + 1 ≤ b + kf), ∀ (ls : Array Slot), lv_has ls 6 [(4, .int (nI (b))), (3, .int (nI (a))), (2, .int (iM (t2))), (1, .int (iM (t1))), (0, .ref h)] → ∀ (H : Heap) (locs : List Loc), tcG D cI cJ N0 (wM h r1 r2 r3 r4 cI th tk co cn wk n ho st ct sp Z) s H → va_S (tcA N0) s.heap H locs → W p l e ({ frames := 4, cells := 0, slots := 0, locals := 91 } : Room) s m args below meth c H locs (0) (0) zQg (F0 m 22 ls []) := by
          intro kf
          induction kf with
          | zero => intro t1 t2 b hb hab ht2 hts hm; exact absurd hm (by omega)
          | succ kf ih_22 =>
            intro t1 t2 b hb hab ht2 hts hm ls hl H locs hG hS
            refine lv_iload C0.1 C0.2.1 dX1_swapOfMost_22 (lv_at hl 0 rfl) ?_
            refine lv_aload_n C0.1 C0.2.1 dX1_swapOfMost_24 rfl (lv_at hl 4 rfl) ?_
            refine tgX1_people C0 hF hG w_people dX1_swapOfMost_25 ?_
            refine tn_icmp_ge (tgt := 83) C0.1 C0.2.1 dX1_swapOfMost_28 (by decide) (by omega) (by omega) (fun c_28 => ?_) (fun c_28 => ?_)
            · refine tn_iinc (lv' := [(3, .int (nI (a + 1))), (4, .int (nI (b))), (2, .int (iM (t2))), (1, .int (iM (t1))), (0, .ref h)]) C0.1 C0.2.1 dX1_swapOfMost_83 hl (k := 1) rfl (by decide) rfl (fun ls hl => ?_)
              refine lv_goto (tgt := 9) C0.1 C0.2.1 dX1_swapOfMost_86 (by decide) ?_
              exact ih_9 (t1) (t2) (a + 1) (by omega) (by omega) (by have hz : b = n := (by omega); rw [hz] at hts; rw [lkf_s, ← hs]; exact hts) (by omega) ls (lv_sub hl [0, 2, 3, 4] rfl) _ _ hG hS
            · refine lv_aload_n C0.1 C0.2.1 dX1_swapOfMost_31 rfl (lv_at hl 4 rfl) ?_
              refine tgX1_ticket C0 hF hG w_ticket dX1_swapOfMost_32 ?_
              refine lv_iload_n C0.1 C0.2.1 dX1_swapOfMost_35 rfl (lv_at hl 1 rfl) ?_
              refine lv_iload C0.1 C0.2.1 dX1_swapOfMost_36 (lv_at hl 0 rfl) ?_
              refine tc_callSv C0 hG hS (kX1_swap hlf (q0 := 1) (f := tk)  (r1) (a) (b) (by omega) (by omega) rfl) (va_cwS 3 C0.2.2.2.2 gX1_swapOfMost_X1_swap rfl rfl rfl (by decide +kernel) ⟨(Nat.le_of_ble_eq_true rfl), (Nat.le_of_ble_eq_true rfl)⟩) rfl hl rfl (Nat.le_of_ble_eq_true rfl) dX1_swapOfMost_38 ⟨(Nat.le_of_ble_eq_true rfl), (Nat.le_of_ble_eq_true rfl)⟩ (fun H locs hG hS => ?_)
              have hG : tcG D cI cJ N0 (wM h r1 r2 r3 r4 cI th (swp tk a b) co cn wk n ho st ct sp Z) s H := hG
              have hk_s := hk.tk (swp_lt hk1 a b)
              refine lv_aload_n C0.1 C0.2.1 dX1_swapOfMost_41 rfl (lv_at hl 4 rfl) ?_
              refine tc_callV (q0 := 0) C0 hG hS rfl rfl (kX1_here hlf hk_s   ) (cwV 0 C0.2.2.2.2 gX1_swapOfMost_X1_here rfl rfl rfl (by decide +kernel) ⟨(Nat.le_of_ble_eq_true rfl), (Nat.le_of_ble_eq_true rfl)⟩) rfl hl rfl (Nat.le_of_ble_eq_true rfl) dX1_swapOfMost_42 ⟨(Nat.le_of_ble_eq_true rfl), (Nat.le_of_ble_eq_true rfl)⟩ (fun H locs hG hS => ?_)
              have b_42 := tw_le (swp tk a b) co cn wk 0 hk_s.2.2.2.2.1
              have b_sw : swt tk co cn wk n a b ≤ 1872 := b_42
              refine lv_istore (lv' := [(5, .int (nI (tw (swp tk a b) co cn wk 0 n))), (4, .int (nI (b))), (3, .int (nI (a))), (2, .int (iM (t2))), (1, .int (iM (t1))), (0, .ref h)]) C0.1 C0.2.1 dX1_swapOfMost_45 hl (by decide) rfl (fun ls hl => ?_)
              refine lv_aload_n C0.1 C0.2.1 dX1_swapOfMost_47 rfl (lv_at hl 5 rfl) ?_
              refine tgX1_ticket C0 hF hG w_ticket dX1_swapOfMost_48 ?_
              refine lv_iload_n C0.1 C0.2.1 dX1_swapOfMost_51 rfl (lv_at hl 2 rfl) ?_
              refine lv_iload C0.1 C0.2.1 dX1_swapOfMost_52 (lv_at hl 1 rfl) ?_
              refine tc_callSv C0 hG hS (kX1_swap hlf (q0 := 1) (f := swp tk a b)  (r1) (a) (b) (by omega) (by omega) rfl) (va_cwS 3 C0.2.2.2.2 gX1_swapOfMost_X1_swap rfl rfl rfl (by decide +kernel) ⟨(Nat.le_of_ble_eq_true rfl), (Nat.le_of_ble_eq_true rfl)⟩) rfl hl rfl (Nat.le_of_ble_eq_true rfl) dX1_swapOfMost_54 ⟨(Nat.le_of_ble_eq_true rfl), (Nat.le_of_ble_eq_true rfl)⟩ (fun H locs hG hS => ?_)
              have hG : tcG D cI cJ N0 (wM h r1 r2 r3 r4 cI th (swp (swp tk a b) a b) co cn wk n ho st ct sp Z) s H := hG
              rw [swp_swp] at hG
              refine lv_iload C0.1 C0.2.1 dX1_swapOfMost_57 (lv_at hl 0 rfl) ?_
              refine lv_iload_n C0.1 C0.2.1 dX1_swapOfMost_59 rfl (lv_at hl 3 rfl) ?_
              refine tm_icmp_gt (tgt := 66) C0.1 C0.2.1 dX1_swapOfMost_60 (by decide) (by omega) (by omega) (fun c_60 => ?_) (fun c_60 => ?_)
              · refine lv_iload C0.1 C0.2.1 dX1_swapOfMost_66 (lv_at hl 0 rfl) ?_
                refine tc_top (iM_s (tw (swp tk a b) co cn wk 0 n)).symm ?_
                refine lv_istore_n (lv' := [(2, .int (iM (tw (swp tk a b) co cn wk 0 n + 1))), (5, .int (nI (tw (swp tk a b) co cn wk 0 n))), (4, .int (nI (b))), (3, .int (nI (a))), (1, .int (iM (t1))), (0, .ref h)]) C0.1 C0.2.1 dX1_swapOfMost_68 rfl hl (by decide) rfl (fun ls hl => ?_)
                refine lv_bipush (v := nI 100) C0.1 C0.2.1 dX1_swapOfMost_69 (by decide) ?_
                refine lv_iload_n C0.1 C0.2.1 dX1_swapOfMost_71 rfl (lv_at hl 3 rfl) ?_
                refine tn_imul C0.1 C0.2.1 dX1_swapOfMost_72 ?_
                refine lv_iload C0.1 C0.2.1 dX1_swapOfMost_73 (lv_at hl 2 rfl) ?_
                refine tn_iadd C0.1 C0.2.1 dX1_swapOfMost_75 ?_
                refine tc_top (iM_s (100 * a + b)).symm ?_
                refine lv_istore_n (lv' := [(1, .int (iM (100 * a + b + 1))), (2, .int (iM (tw (swp tk a b) co cn wk 0 n + 1))), (5, .int (nI (tw (swp tk a b) co cn wk 0 n))), (4, .int (nI (b))), (3, .int (nI (a))), (0, .ref h)]) C0.1 C0.2.1 dX1_swapOfMost_76 rfl hl (by decide) rfl (fun ls hl => ?_)
                refine tn_iinc (lv' := [(4, .int (nI (b + 1))), (1, .int (iM (100 * a + b + 1))), (2, .int (iM (tw (swp tk a b) co cn wk 0 n + 1))), (5, .int (nI (tw (swp tk a b) co cn wk 0 n))), (3, .int (nI (a))), (0, .ref h)]) C0.1 C0.2.1 dX1_swapOfMost_77 hl (k := 3) rfl (by decide) rfl (fun ls hl => ?_)
                refine lv_goto (tgt := 22) C0.1 C0.2.1 dX1_swapOfMost_80 (by decide) ?_
                exact ih_22 (100 * a + b + 1) (tw (swp tk a b) co cn wk 0 n + 1) (b + 1) (by omega) (by omega) (by omega) (by first | exact lkr_n' hts c_60 | exact lkr_y' hab hts c_60) (by omega) ls (lv_sub hl [0, 4, 2, 1, 5] rfl) _ _ hG hS
              · refine lv_goto (tgt := 77) C0.1 C0.2.1 dX1_swapOfMost_63 (by decide) ?_
                refine tn_iinc (lv' := [(4, .int (nI (b + 1))), (5, .int (nI (tw (swp tk a b) co cn wk 0 n))), (3, .int (nI (a))), (2, .int (iM (t2))), (1, .int (iM (t1))), (0, .ref h)]) C0.1 C0.2.1 dX1_swapOfMost_77 hl (k := 1) rfl (by decide) rfl (fun ls hl => ?_)
                refine lv_goto (tgt := 22) C0.1 C0.2.1 dX1_swapOfMost_80 (by decide) ?_
                exact ih_22 (t1) (t2) (b + 1) (by omega) (by omega) (by omega) (by first | exact lkr_n' hts c_60 | exact lkr_y' hab hts c_60) (by omega) ls (lv_sub hl [0, 2, 3, 4, 5] rfl) _ _ hG hS
        exact cut_22 (n + 1) (s1) (s2) (a + 1) (by omega) (by omega) (by omega) (lkr_lo (Nat.le_refl _)).symm (by omega) ls (lv_sub hl [0, 1, 2, 3, 4] rfl) _ _ hG hS
  exact cut_9 (n + 1) (0) (tw tk co cn wk 0 n + 1) (0) (by omega) (by omega) rfl (by omega) ls (lv_sub hl [0, 1, 2, 3] rfl) _ _ hG hS
