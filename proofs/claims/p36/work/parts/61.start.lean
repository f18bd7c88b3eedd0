/-! the law from its entry -/
section TCI
variable {p : Program} {l : Launch} {e : Env} {R : Room} {s : State} {m : MethodId} {args : Array Value} {below : List Frame} {meth : Method} {c : Code} {H : Heap} {locs : List Loc} {cells slots : Nat} {Q : State → Prop}
variable {cc : ByteArray} {pc : Nat} {ls : Array Slot} {rest st0 : List Value} {D : va_G} {cI cJ : ClassId} {N0 : Nat} {ws ws0 : va_W} {mc ms nL : Nat} {own : String} {Ts : List Cond}
theorem tc_callI {P : va_W → Prop} {b index maxL : Nat} {y : MethodName} {bytes : ByteArray} {wsY : List Cond} {rm : Room} {lv : List (Nat × Value)}
    (C0 : CallFix p m c cc nL s args Ts own) (hG : tcG D cI cJ N0 ws s H) (hS : va_S (tcA N0) s.heap H locs) (hM : Met l y wsY rm (tc_P [.ref b] D cI cJ N0 ws) (tc_Qi D N0 P) mc ms (tcA N0)) (cw : CallB R s args own index y bytes maxL none wsY rm mc ms 0 ∧ y.name = "<init>" ∧ (Cond.instanceMethod y).before args s = true) (hl : lv_has ls nL lv) (hst : st0 = .ref b :: rest) (hcat : (rest.map fun v => v.category).sum ≤ 8) (hdg : decode cc pc = .ok (.invokespecial index, 3)) (hf : cells + mc ≤ R.cells ∧ slots + ms ≤ R.slots)
    (kk : ∀ (ws' : va_W) (H1 : Heap) (locs1 : List Loc), P ws' → tcG D cI cJ N0 ws' s H1 → va_S (tcA N0) s.heap H1 locs1 → W p l e R s m args below meth c H1 locs1 (cells + mc) (slots + ms) Q (F0 m (pc + 3) ls rest)) : W p l e R s m args below meth c H locs cells slots Q (F0 m pc ls st0) := by
  subst hst
  intro T hT X
  obtain ⟨v, st₀, t, T', L, h0, X', hL, e1, e2, ⟨hv, ⟨ws', hp', hP, hD⟩, hF⟩, st⟩ := va_runI (As := []) (rest := rest) (g := F0 m pc ls (.ref b :: rest)) C0 hM cw ⟨tc_blind, fun U hU hW => tc_pre hG hU hW⟩ rfl rfl hl.1 rfl (tc_cat hcat) hdg hf T hT X
  cases hv
  obtain ⟨k1, k2⟩ := tc_keepG h0 e1 hG hS hL hF hP hD
  obtain ⟨t2, a1, b1⟩ := kk ws' T'.heap (locs ++ L) hp' k1 k2 T' rfl X'
  exact ⟨t2, st t2 a1, b1⟩
end TCI
theorem tc_str {b : Nat} {s : State} (hts : ∀ w ∈ lw_tbl, w.before #[Value.ref b] s = true) (hgv : ∀ w ∈ flatC (Jvm.Cond.and given_1 narrow_1), w.before #[Value.ref b] s = true) {k : Nat} {tx : String} (h1 : Cond.stringRef RX0 k tx ∈ lw_tbl) (h2 : Cond.exactly (.string RX0 k) "java/lang/String" ∈ flatC (Jvm.Cond.and given_1 narrow_1)) : ∃ sa : Nat, vk_R RX0 k tx sa s := by
  obtain ⟨a, c, cell, kC, e1, -⟩ := Cond.exactly_spec (hgv _ h2)
  exact ⟨a, vk_R.of (hts _ h1) e1⟩
theorem tc_all12 {P : Nat × String → Prop} (h0 : P (117, "hours are 0 to 60")) (h1 : P (159, "there is no such stranger")) (h2 : P (162, "both are the same")) (h3 : P (164, "it costs too much")) (h4 : P (53, "no such ticket, colour, corner or walk")) (h5 : P (60, "there are 12 strangers")) (h6 : P (67, "a walk is 0 to 5")) (h7 : P (69, "a corner is 0 to 5")) (h8 : P (71, "this one stands there")) (h9 : P (84, "they do not stand at one corner")) (h10 : P (94, "a ticket is 0 to 99")) (h11 : P (96, "hours are 1 to 60")) : ∀ q ∈ tcStr, P q := by
  intro q hq
  simp only [tcStr, List.mem_cons, List.not_mem_nil, or_false] at hq
  rcases hq with rfl | rfl | rfl | rfl | rfl | rfl | rfl | rfl | rfl | rfl | rfl | rfl
  · exact h0
  · exact h1
  · exact h2
  · exact h3
  · exact h4
  · exact h5
  · exact h6
  · exact h7
  · exact h8
  · exact h9
  · exact h10
  · exact h11
theorem tc_env {b : Nat} {s : State} (hts : ∀ w ∈ lw_tbl, w.before #[Value.ref b] s = true) (hgv : ∀ w ∈ flatC (Jvm.Cond.and given_1 narrow_1), w.before #[Value.ref b] s = true) : tcEx s.heap.size s s.heap := by
  have hA : ∀ a : Nat, a < s.heap.size → ¬ tcA s.heap.size a := fun a h q => absurd h (Nat.not_lt.mpr q)
  refine ⟨vx_Zqof (hts _ (by decide +kernel)) (hts (.initialized Bundle.tN) (by decide +kernel)) (hgv _ (by decide +kernel)) hA, vx_Zqof (hts _ (by decide +kernel)) (hts (.initialized Bundle.tN) (by decide +kernel)) (hgv _ (by decide +kernel)) hA, ?_, ?_, ?_, ?_, ?_⟩
  · exact tc_all12 (tc_str hts hgv (by decide +kernel) (by decide +kernel)) (tc_str hts hgv (by decide +kernel) (by decide +kernel)) (tc_str hts hgv (by decide +kernel) (by decide +kernel)) (tc_str hts hgv (by decide +kernel) (by decide +kernel)) (tc_str hts hgv (by decide +kernel) (by decide +kernel)) (tc_str hts hgv (by decide +kernel) (by decide +kernel)) (tc_str hts hgv (by decide +kernel) (by decide +kernel)) (tc_str hts hgv (by decide +kernel) (by decide +kernel)) (tc_str hts hgv (by decide +kernel) (by decide +kernel)) (tc_str hts hgv (by decide +kernel) (by decide +kernel)) (tc_str hts hgv (by decide +kernel) (by decide +kernel)) (tc_str hts hgv (by decide +kernel) (by decide +kernel))
  · intro x hx
    exact va_Nw.of rfl (hts _ ((show ∀ x ∈ tcDc, Cond.declares x ∈ lw_tbl by decide +kernel) x hx))
  · intro x hx
    exact va_Nw.of rfl (hts _ ((show ∀ x ∈ tcCs, Cond.castable x x ∈ lw_tbl by decide +kernel) x hx))
  · exact hts (.arrayOver (.array .int)) (by decide +kernel)
  · exact va_Nw.of rfl (hts (.methodLinkNest RL 79 yX1_init RL) (by decide +kernel))

set_option maxHeartbeats 4000000 in
set_option maxRecDepth 100000 in
theorem whole_start {p : Program} {e : Env} {s : State} {m : MethodId} {below : List Frame} {meth : Method} {c : Code} (l : Launch) (hflags : l.flags = flags0) {b L : Nat} {xs : Nat → Int32} (hL : L ≤ 260) (C0 : lw_At p s m meth c b L xs) : W p l e room_1 s m #[Value.ref b] below meth c s.heap [] 0 0 (lw_Z below #[Value.ref b] s) (entryFrame m ([Value.ref b] : List Value).toArray 25) := by
  obtain ⟨hx, hb, hr, hml, hown, hts, hX, hbl, hlk, hgv0⟩ := C0
  have hgv := flat_of_before _ hgv0
  have hlf : l.stackTraces = false := by unfold Launch.stackTraces; rw [hflags]; decide
  have C1 : CallFix p m c cL_law 25 s #[Value.ref b] wsL_law RL := ⟨hx, hb, hml, hown, fun w hw => hts w (wsL_law_in w hw)⟩
  obtain ⟨c0, iS0, hKn0⟩ := u_known (C := RX0) (T := TX0) (N := 9) (n := 9) hts inX0 (hts (.instantiable RX0 9) (by decide +kernel))
  obtain ⟨c1, iS1, hKn1⟩ := u_known (C := RX1) (T := TX1) (N := 5) (n := 5) hts inX1 (hts (.instantiable RX1 5) (by decide +kernel))
  obtain ⟨D, hKc⟩ : ∃ D : va_G, ∀ (k : Nat) (q : vw_C), vwCl[k]? = some q → u_Kn s q.1 q.2.1 q.2.2 (D.1 k) (D.2 k) := by
    refine ⟨(fun k => if k = 0 then c0 else c1, fun k => if k = 0 then iS0 else iS1), ?_⟩
    intro k q hq
    match k, hq with
    | 0, hq => cases hq; exact hKn0
    | 1, hq => cases hq; exact hKn1
    | k + 2, hq => simp [vwCl] at hq
  obtain ⟨cI, kI, pI, f1, f2, f3⟩ := Cond.arrayClass_spec (hts (.arrayClass .int) (by decide +kernel))
  obtain ⟨comp, cJ, kJ, g1, g2, g3, g4, g5⟩ := arrayOverA_spec (show (Cond.arrayOver (.array .int)).before #[Value.ref b] s = true from hts _ (by decide +kernel))
  have hK : va_K D vwCl (tcTy cI cJ) s := by
    refine ⟨hKc, fun k q hq => ?_⟩
    match k, hq with
    | 0, hq => cases hq; exact ⟨fun n z => ⟨fun k h => (by cases h), kI, f2, pI, f3⟩, f1⟩
    | 1, hq => cases hq; exact ⟨fun n z => ⟨fun k h => (by cases h), kJ, g3, comp, g4⟩, g5⟩
    | k + 2, hq => simp [tcTy] at hq
  have hG : tcG D cI cJ s.heap.size [] s s.heap := ⟨fun k q h => by simp at h, hK, ⟨fun i j p q h => by simp at h, fun k q h => by simp at h⟩, Nat.le_refl _, tc_env hts hgv⟩
  have hG0 := hG
  have hS : va_S (tcA s.heap.size) s.heap s.heap [] := va_S.rf
  have hl := lv_entry ([.ref b]) (n := 25) (Nat.le_of_ble_eq_true rfl)
  rw [lg_entry_eq]
  generalize (lg_sl ([.ref b]) ++ List.replicate (25 - (lg_sl ([.ref b])).length) Slot.unset).toArray = ls at hl ⊢
  have hl : lv_has ls 25 [(0, .ref b)] := hl
  refine va_new (ci := 0) (fs := [.null, .null, .null, .null, .int 0, .int 0, .int 0, .int 0, .int 0]) (C := RX0) (T := TX0) (N := 9) hx hb hts inX0 tyX0 tyX0_ok hown (hts (.classLink RL 26 RX0) (by decide +kernel)) (hts (.instantiable RX0 9) (by decide +kernel)) (hts (.initialized RX0) (by decide +kernel)) hG.2.1 hG.1 hG.2.2.1 hS (fun q h => h) rfl (fun j hj => by rcases (show j = 0 ∨ j = 1 ∨ j = 2 ∨ j = 3 ∨ j = 4 ∨ j = 5 ∨ j = 6 ∨ j = 7 ∨ j = 8 by omega) with rfl | rfl | rfl | rfl | rfl | rfl | rfl | rfl | rfl <;> rfl) (Nat.le_of_ble_eq_true rfl) (Nat.le_of_ble_eq_true rfl) dL_law_0 (fun h H hP hD hS => ?_)
  have hG : tcG D cI cJ s.heap.size [(h, .inr (0, [.null, .null, .null, .null, .int 0, .int 0, .int 0, .int 0, .int 0]))] s H := hG0.put hP hD hS
  refine lv_dup hx hb dL_law_3 rfl ?_
  refine tc_callI (rest := [.ref h]) C1 hG hS (kX0_init h) (cwI 0 C1.2.2.2.2 gL_law_X0_init rfl rfl rfl (hts (.initialized RX0) (by decide +kernel)) (hts (.methodLink RL 84 yX0_init) (by decide +kernel)) (hts (.instanceMethod yX0_init) (by decide +kernel)) rfl (by decide +kernel) ⟨(Nat.le_of_ble_eq_true rfl), (Nat.le_of_ble_eq_true rfl)⟩) hl rfl (Nat.le_of_ble_eq_true rfl) dL_law_4 ⟨(Nat.le_of_ble_eq_true rfl), (Nat.le_of_ble_eq_true rfl)⟩ (fun ws' H locs hw hG hS => ?_)
  obtain ⟨r1, r2, r3, r4, rfl⟩ := hw
  refine lv_astore_n (lv' := [(1, .ref h), (0, .ref b)]) hx hb dL_law_7 rfl hl (by decide) rfl (fun ls hl => ?_)
  refine lv_aload_n hx hb dL_law_8 rfl (lv_at hl 0 rfl) ?_
  refine lv_aload_n hx hb dL_law_9 rfl (lv_at hl 1 rfl) ?_
  refine tcs_callS (b := b) (L := L) (xs := xs) C1 hX hbl hG (Nat.le_refl _) hS (kL_build hlf hL) (va_cwS 2 C1.2.2.2.2 gL_law_L_build rfl rfl rfl (by decide +kernel) ⟨(Nat.le_of_ble_eq_true rfl), (Nat.le_of_ble_eq_true rfl)⟩) rfl hl rfl (Nat.le_of_ble_eq_true rfl) dL_law_10 ⟨(Nat.le_of_ble_eq_true rfl), (Nat.le_of_ble_eq_true rfl)⟩ (fun v9 ws9 H locs hP9 hG hS => ?_)
  obtain ⟨g, ra, rw, tk, co, cn, wk, n, f, rfl, hn0, hk, hy, rfl⟩ := hP9
  refine W.eq (g2 := F0 m 13 ls [.ref g]) rfl ?_
  refine lv_astore_n (lv' := [(2, .ref g), (1, .ref h), (0, .ref b)]) hx hb dL_law_13 rfl hl (by decide) rfl (fun ls hl => ?_)
  refine lv_aload_n hx hb dL_law_14 rfl (lv_at hl 0 rfl) ?_
  refine lv_ifnonnull (tgt := 20) hx hb dL_law_15 (by decide) ?_
  refine lv_iconst (v := nI 0) hx hb dL_law_20 (by decide) ?_
  refine lv_istore_n (lv' := [(3, .int (nI 0)), (2, .ref g), (1, .ref h), (0, .ref b)]) hx hb dL_law_21 rfl hl (by decide) rfl (fun ls hl => ?_)
  refine W.widen (k := 0 + (40 + 4 * 0)) (n := 0 + (300 + 24 * 0)) (Nat.le_of_ble_eq_true rfl) (Nat.le_of_ble_eq_true rfl) ?_
  exact law_loop hlf hr hlk C1 hX hbl hL hG0 10 0 (by omega) (by omega) tk co cn wk n 20 0 0 0 ra rw f hk hy hn0 (by omega) ls (lv_sub hl [3, 2, 1, 0] rfl) _ _ hG hS
