/-! rows and facts for the law's own walk -/
section TCL
variable {p : Program} {l : Launch} {e : Env} {R : Room} {s : State} {m : MethodId} {args : Array Value} {below : List Frame} {meth : Method} {c : Code} {H : Heap} {locs : List Loc} {cells slots : Nat} {Q : State → Prop}
variable {cc : ByteArray} {pc : Nat} {ls : Array Slot} {rest st0 : List Value}
theorem tmz_if_ne (hx : p.tables.exec = Jvm.exec) (hb : c.code = cc) {a : Nat} {off : Int} {tgt : Nat} (hdg : decode cc pc = .ok (.ifCond .ne off, 3)) (ht : (pc : Int) + off = (tgt : Int)) (ha : a < 2 ^ 31) (kt : ¬ a = 1 → W p l e R s m args below meth c H locs cells slots Q (F0 m tgt ls rest)) (kf : a = 1 → W p l e R s m args below meth c H locs cells slots Q (F0 m (pc + 3) ls rest)) : W p l e R s m args below meth c H locs cells slots Q (F0 m pc ls (.int (iM a) :: rest)) := by
  have h0 : (0 : Int32).toInt = 0 := by decide
  exact lv_if_ne hx hb hdg ht (fun h => kt (fun z => h (by rw [z]; rfl))) (fun h => kf ((iM_eq (b := 1) ha (by decide)).mp h))
theorem tmz_if_le (hx : p.tables.exec = Jvm.exec) (hb : c.code = cc) {a : Nat} {off : Int} {tgt : Nat} (hdg : decode cc pc = .ok (.ifCond .le off, 3)) (ht : (pc : Int) + off = (tgt : Int)) (ha : a < 2 ^ 31) (kt : a ≤ 1 → W p l e R s m args below meth c H locs cells slots Q (F0 m tgt ls rest)) (kf : 1 < a → W p l e R s m args below meth c H locs cells slots Q (F0 m (pc + 3) ls rest)) : W p l e R s m args below meth c H locs cells slots Q (F0 m pc ls (.int (iM a) :: rest)) := by
  have h0 : (0 : Int32).toInt = 0 := by decide
  exact lv_if_le hx hb hdg ht (fun h => kt (by rw [Int32.le_iff_toInt_le, iM_toInt ha, h0] at h; omega)) (fun h => kf (by rw [Int32.le_iff_toInt_le, iM_toInt ha, h0] at h; omega))
theorem tn_if_lt (hx : p.tables.exec = Jvm.exec) (hb : c.code = cc) {a : Nat} {off : Int} {tgt : Nat} (hdg : decode cc pc = .ok (.ifCond .lt off, 3)) (ht : (pc : Int) + off = (tgt : Int)) (ha : a < 2 ^ 31) (kf : W p l e R s m args below meth c H locs cells slots Q (F0 m (pc + 3) ls rest)) : W p l e R s m args below meth c H locs cells slots Q (F0 m pc ls (.int (nI a) :: rest)) := lv_if_lt hx hb hdg ht (fun h => absurd h (nI_pos ha)) (fun _ => kf)
theorem tmn_icmp_gt (hx : p.tables.exec = Jvm.exec) (hb : c.code = cc) {a b : Nat} {off : Int} {tgt : Nat} (hdg : decode cc pc = .ok (.if_icmp .gt off, 3)) (ht : (pc : Int) + off = (tgt : Int)) (ha : a < 2 ^ 31) (h2 : b < 2 ^ 31) (kt : b + 1 < a → W p l e R s m args below meth c H locs cells slots Q (F0 m tgt ls rest)) (kf : a ≤ b + 1 → W p l e R s m args below meth c H locs cells slots Q (F0 m (pc + 3) ls rest)) : W p l e R s m args below meth c H locs cells slots Q (F0 m pc ls (.int (nI b) :: .int (iM a) :: rest)) :=
  lv_icmp_gt hx hb hdg ht (fun h => kt (by rw [Int32.lt_iff_toInt_lt, iM_toInt ha, nI_toInt h2] at h; omega)) (fun h => kf (by rw [Int32.lt_iff_toInt_lt, iM_toInt ha, nI_toInt h2] at h; omega))
theorem nI_iM {a b : Nat} (ha : a < 2 ^ 31) (h2 : b < 2 ^ 31) : nI a = iM b ↔ a + 1 = b := by
  constructor
  · intro h
    have := congrArg Int32.toInt h
    rw [nI_toInt ha, iM_toInt h2] at this; omega
  · intro h; rw [← h, iM_s]
theorem tnm_icmp_ne (hx : p.tables.exec = Jvm.exec) (hb : c.code = cc) {a b : Nat} {off : Int} {tgt : Nat} (hdg : decode cc pc = .ok (.if_icmp .ne off, 3)) (ht : (pc : Int) + off = (tgt : Int)) (ha : a < 2 ^ 31) (h2 : b < 2 ^ 31) (kt : ¬ a + 1 = b → W p l e R s m args below meth c H locs cells slots Q (F0 m tgt ls rest)) (kf : a + 1 = b → W p l e R s m args below meth c H locs cells slots Q (F0 m (pc + 3) ls rest)) : W p l e R s m args below meth c H locs cells slots Q (F0 m pc ls (.int (iM b) :: .int (nI a) :: rest)) :=
  lv_icmp_ne hx hb hdg ht (fun h => kt (fun z => h ((nI_iM ha h2).mpr z))) (fun h => kf ((nI_iM ha h2).mp h))
end TCL
theorem ho_ne {ho : Int32} {j : Nat} (h1 : 1 ≤ j) (h2 : j ≤ 60) : ¬ ho + nI j = ho := by
  intro h
  have h3 : nI j = 0 := by
    have := congrArg (fun z => z - ho) h
    simpa [Int32.add_comm ho, Int32.add_sub_cancel, Int32.sub_self] using this
  exact nI_ne0 (by omega) (by omega) h3
theorem sp_eq {st st' sq d : Nat} (h : st' + d = st) (hs : st ≤ 100) : nI st - nI st' = nI (sq + d) - nI sq := by
  rw [pk_sub (a := st) (b := st') (by omega), pk_sub (a := sq + d) (b := sq) (by omega)]
  congr 1; omega
theorem add_back {x : Int32} {a : Nat} : x + nI a - x = nI a := by rw [Int32.add_comm, Int32.add_sub_cancel]
theorem sub_back {a b : Int32} : a = b + (a - b) := by rw [Int32.add_comm, Int32.sub_add_cancel]
theorem more_1 {a b : Nat} (h : a < b) (hb : b < 2 ^ 31) : ¬ nI b - nI a < nI 1 := by
  rw [pk_sub (a := b) (b := a) (by omega)]
  intro q
  have := (nI_ltI (a := b - a) (b := 1) (by omega) (by decide)).mp q
  omega
theorem cnr_step {cn cn0 wk : Nat → Nat} {n h : Nat} (hc : ∀ i, i < n → cn i = cnr cn0 wk h i) : ∀ i, i < n → pcn cn wk n i = cnr cn0 wk (h + 1) i := by
  intro i hi
  unfold pcn; rw [if_pos hi, cnr_1, hc i hi]
  unfold cnr; rw [Nat.mod_add_mod, Nat.mul_add, Nat.mul_one, Nat.add_assoc]
theorem b2n_d (p : Prop) [Decidable p] : b2n (decide p) = if p then 1 else 0 := by by_cases h : p <;> simp [h, b2n]
