/-! the class.s constructor -/
def tc_Qi (D : va_G) (N0 : Nat) (P : va_W → Prop) : Array Value → State → Outcome → State → Prop := fun _ st o t => o = .returned none ∧ (∃ ws', P ws' ∧ va_P D vwCl ws' t.heap ∧ va_D (tcA N0) ws') ∧ va_F (tcA N0) st t
set_option maxHeartbeats 4000000 in
set_option maxRecDepth 100000 in
theorem kX0_init {l : Launch} {D : va_G} {cI cJ : ClassId} {N0 : Nat} (h : Nat) : Met l yX0_init wsX0_init { frames := 1, cells := 4, slots := 48, locals := 12 } (tc_P [.ref h] D cI cJ N0 ([(h, .inr (0, [.null, .null, .null, .null, .int 0, .int 0, .int 0, .int 0, .int 0]))])) (tc_Qi D N0 (fun ws' => ∃ r1 r2 r3 r4 : Nat, ws' = wT h r1 r2 r3 r4 cI (fun _ => 0) (fun _ => 0) (fun _ => 0) (fun _ => 0) 0 0 20 0 0 [])) 4 48 (tcA N0) := by
  refine Met.ofW (cc := cX0_init) (maxL := 1) (ret := none) (by decide) rfl ?_
  intro p e s m args below meth c s₁ B hml hv
  obtain ⟨rfl, hG⟩ := hv
  have hts := atoms_spec (ws := wsX0_init) B.pre
  have hown : s.vm.findClass RX0 = some m.cls := findClass_of_methodNamed B.named
  have hin : meth.name = "<init>" := (name_of_methodNamed B.named B.method).1
  have C0 : CallFix p m c cX0_init 1 s _ wsX0_init RX0 := ⟨B.exec, B.bytes, hml, hown, hts⟩
  have hr := B.returns
  have hlk := B.notSynchronized
  have hl := lv_entry ([.ref h]) (n := 1) (Nat.le_of_ble_eq_true rfl)
  rw [lg_entry_eq]
  generalize (lg_sl ([.ref h]) ++ List.replicate (1 - (lg_sl ([.ref h])).length) Slot.unset).toArray = ls at hl ⊢
  have hl : lv_has ls 1 [(0, .ref h)] := hl
  have hG0 := hG
  have hS : va_S (tcA N0) s.heap s.heap [] := va_S.rf
  have hF : ∀ w ∈ wsX00, w ∈ wsX0_init := by decide +kernel
  refine lv_aload_n C0.1 C0.2.1 dX0_init_0 rfl (lv_at hl 0 rfl) ?_
  refine W.objInit C0.1 C0.2.1 hown (hts (.methodLink RX0 1 objectInit) (by decide +kernel)) (hts (.instanceMethod objectInit) (by decide +kernel)) (hts (.code objectInit ⟨#[0xb1]⟩ 1 none) (by decide +kernel)) rfl (by rw [hml]; exact hl.1) rfl dX0_init_1 (Nat.le_of_ble_eq_true rfl) (Nat.le_of_ble_eq_true rfl) ?_
  refine W.eq (g2 := F0 m 4 ls []) rfl ?_
  refine lv_aload_n C0.1 C0.2.1 dX0_init_4 rfl (lv_at hl 0 rfl) ?_
  refine lv_bipush (v := nI 12) C0.1 C0.2.1 dX0_init_5 (by decide) ?_
  refine tc_newa C0 (by decide +kernel) hG0 hG hS (by decide) ⟨(Nat.le_of_ble_eq_true rfl), (Nat.le_of_ble_eq_true rfl)⟩ dX0_init_7 (fun qa1 H locs hG hS => ?_)
  have hG : tcG D cI cJ N0 ([(h, .inr (0, [.null, .null, .null, .null, .int 0, .int 0, .int 0, .int 0, .int 0])), (qa1, .inl (cI, 12, .inl (fun _ => 0)))]) s H := hG
  refine va_putF (D := D) (ci := 0) (v := .ref qa1) (ty := .array .int) (C := RX0) (T := TX0) (N := 9) C0.1 C0.2.1 hts hF tyX0 tyX0_ok nmX0 hown hG.2.1 hG.1 hG.2.2.1 hS 0 rfl rfl 0 (by decide) (hts (.fieldLink RX0 9 "TicketCoincidences" "tickets" "[I") (by decide +kernel)) (fun _ h9 => h9) rfl hin rfl (by decide +kernel) rfl rfl (Nat.le_of_ble_eq_true rfl) dX0_init_9 (fun H locs hP hD hS => ?_)
  have hG : tcG D cI cJ N0 ([(h, .inr (0, [.ref qa1, .null, .null, .null, .int 0, .int 0, .int 0, .int 0, .int 0])), (qa1, .inl (cI, 12, .inl (fun _ => 0)))]) s H := hG0.put hP hD hS
  refine lv_aload_n C0.1 C0.2.1 dX0_init_12 rfl (lv_at hl 0 rfl) ?_
  refine lv_bipush (v := nI 12) C0.1 C0.2.1 dX0_init_13 (by decide) ?_
  refine tc_newa C0 (by decide +kernel) hG0 hG hS (by decide) ⟨(Nat.le_of_ble_eq_true rfl), (Nat.le_of_ble_eq_true rfl)⟩ dX0_init_15 (fun qa2 H locs hG hS => ?_)
  have hG : tcG D cI cJ N0 ([(h, .inr (0, [.ref qa1, .null, .null, .null, .int 0, .int 0, .int 0, .int 0, .int 0])), (qa1, .inl (cI, 12, .inl (fun _ => 0))), (qa2, .inl (cI, 12, .inl (fun _ => 0)))]) s H := hG
  refine va_putF (D := D) (ci := 0) (v := .ref qa2) (ty := .array .int) (C := RX0) (T := TX0) (N := 9) C0.1 C0.2.1 hts hF tyX0 tyX0_ok nmX0 hown hG.2.1 hG.1 hG.2.2.1 hS 0 rfl rfl 1 (by decide) (hts (.fieldLink RX0 13 "TicketCoincidences" "colours" "[I") (by decide +kernel)) (fun _ h9 => h9) rfl hin rfl (by decide +kernel) rfl rfl (Nat.le_of_ble_eq_true rfl) dX0_init_17 (fun H locs hP hD hS => ?_)
  have hG : tcG D cI cJ N0 ([(h, .inr (0, [.ref qa1, .ref qa2, .null, .null, .int 0, .int 0, .int 0, .int 0, .int 0])), (qa1, .inl (cI, 12, .inl (fun _ => 0))), (qa2, .inl (cI, 12, .inl (fun _ => 0)))]) s H := hG0.put hP hD hS
  refine lv_aload_n C0.1 C0.2.1 dX0_init_20 rfl (lv_at hl 0 rfl) ?_
  refine lv_bipush (v := nI 12) C0.1 C0.2.1 dX0_init_21 (by decide) ?_
  refine tc_newa C0 (by decide +kernel) hG0 hG hS (by decide) ⟨(Nat.le_of_ble_eq_true rfl), (Nat.le_of_ble_eq_true rfl)⟩ dX0_init_23 (fun qa3 H locs hG hS => ?_)
  have hG : tcG D cI cJ N0 ([(h, .inr (0, [.ref qa1, .ref qa2, .null, .null, .int 0, .int 0, .int 0, .int 0, .int 0])), (qa1, .inl (cI, 12, .inl (fun _ => 0))), (qa2, .inl (cI, 12, .inl (fun _ => 0))), (qa3, .inl (cI, 12, .inl (fun _ => 0)))]) s H := hG
  refine va_putF (D := D) (ci := 0) (v := .ref qa3) (ty := .array .int) (C := RX0) (T := TX0) (N := 9) C0.1 C0.2.1 hts hF tyX0 tyX0_ok nmX0 hown hG.2.1 hG.1 hG.2.2.1 hS 0 rfl rfl 2 (by decide) (hts (.fieldLink RX0 16 "TicketCoincidences" "corners" "[I") (by decide +kernel)) (fun _ h9 => h9) rfl hin rfl (by decide +kernel) rfl rfl (Nat.le_of_ble_eq_true rfl) dX0_init_25 (fun H locs hP hD hS => ?_)
  have hG : tcG D cI cJ N0 ([(h, .inr (0, [.ref qa1, .ref qa2, .ref qa3, .null, .int 0, .int 0, .int 0, .int 0, .int 0])), (qa1, .inl (cI, 12, .inl (fun _ => 0))), (qa2, .inl (cI, 12, .inl (fun _ => 0))), (qa3, .inl (cI, 12, .inl (fun _ => 0)))]) s H := hG0.put hP hD hS
  refine lv_aload_n C0.1 C0.2.1 dX0_init_28 rfl (lv_at hl 0 rfl) ?_
  refine lv_bipush (v := nI 12) C0.1 C0.2.1 dX0_init_29 (by decide) ?_
  refine tc_newa C0 (by decide +kernel) hG0 hG hS (by decide) ⟨(Nat.le_of_ble_eq_true rfl), (Nat.le_of_ble_eq_true rfl)⟩ dX0_init_31 (fun qa4 H locs hG hS => ?_)
  have hG : tcG D cI cJ N0 ([(h, .inr (0, [.ref qa1, .ref qa2, .ref qa3, .null, .int 0, .int 0, .int 0, .int 0, .int 0])), (qa1, .inl (cI, 12, .inl (fun _ => 0))), (qa2, .inl (cI, 12, .inl (fun _ => 0))), (qa3, .inl (cI, 12, .inl (fun _ => 0))), (qa4, .inl (cI, 12, .inl (fun _ => 0)))]) s H := hG
  refine va_putF (D := D) (ci := 0) (v := .ref qa4) (ty := .array .int) (C := RX0) (T := TX0) (N := 9) C0.1 C0.2.1 hts hF tyX0 tyX0_ok nmX0 hown hG.2.1 hG.1 hG.2.2.1 hS 0 rfl rfl 3 (by decide) (hts (.fieldLink RX0 19 "TicketCoincidences" "walks" "[I") (by decide +kernel)) (fun _ h9 => h9) rfl hin rfl (by decide +kernel) rfl rfl (Nat.le_of_ble_eq_true rfl) dX0_init_33 (fun H locs hP hD hS => ?_)
  have hG : tcG D cI cJ N0 ([(h, .inr (0, [.ref qa1, .ref qa2, .ref qa3, .ref qa4, .int 0, .int 0, .int 0, .int 0, .int 0])), (qa1, .inl (cI, 12, .inl (fun _ => 0))), (qa2, .inl (cI, 12, .inl (fun _ => 0))), (qa3, .inl (cI, 12, .inl (fun _ => 0))), (qa4, .inl (cI, 12, .inl (fun _ => 0)))]) s H := hG0.put hP hD hS
  refine lv_aload_n C0.1 C0.2.1 dX0_init_36 rfl (lv_at hl 0 rfl) ?_
  refine lv_iconst (v := nI 0) C0.1 C0.2.1 dX0_init_37 (by decide) ?_
  refine va_put (D := D) (ci := 0) (v := .int (nI 0)) (ty := .int) (C := RX0) (T := TX0) (N := 9) C0.1 C0.2.1 hts hF tyX0 tyX0_ok nmX0 hown hG.2.1 hG.1 hG.2.2.1 hS 0 rfl rfl 4 (by decide) (hts (.fieldLink RX0 22 "TicketCoincidences" "people" "I") (by decide +kernel)) (fun _ h9 => h9) rfl (by decide +kernel) rfl rfl (Nat.le_of_ble_eq_true rfl) dX0_init_38 (fun H locs hP hD hS => ?_)
  have hG : tcG D cI cJ N0 ([(h, .inr (0, [.ref qa1, .ref qa2, .ref qa3, .ref qa4, .int (nI 0), .int 0, .int 0, .int 0, .int 0])), (qa1, .inl (cI, 12, .inl (fun _ => 0))), (qa2, .inl (cI, 12, .inl (fun _ => 0))), (qa3, .inl (cI, 12, .inl (fun _ => 0))), (qa4, .inl (cI, 12, .inl (fun _ => 0)))]) s H := hG0.put hP hD hS
  refine lv_aload_n C0.1 C0.2.1 dX0_init_41 rfl (lv_at hl 0 rfl) ?_
  refine lv_iconst (v := nI 0) C0.1 C0.2.1 dX0_init_42 (by decide) ?_
  refine va_put (D := D) (ci := 0) (v := .int (nI 0)) (ty := .int) (C := RX0) (T := TX0) (N := 9) C0.1 C0.2.1 hts hF tyX0 tyX0_ok nmX0 hown hG.2.1 hG.1 hG.2.2.1 hS 0 rfl rfl 5 (by decide) (hts (.fieldLink RX0 26 "TicketCoincidences" "hourNow" "I") (by decide +kernel)) (fun _ h9 => h9) rfl (by decide +kernel) rfl rfl (Nat.le_of_ble_eq_true rfl) dX0_init_43 (fun H locs hP hD hS => ?_)
  have hG : tcG D cI cJ N0 ([(h, .inr (0, [.ref qa1, .ref qa2, .ref qa3, .ref qa4, .int (nI 0), .int (nI 0), .int 0, .int 0, .int 0])), (qa1, .inl (cI, 12, .inl (fun _ => 0))), (qa2, .inl (cI, 12, .inl (fun _ => 0))), (qa3, .inl (cI, 12, .inl (fun _ => 0))), (qa4, .inl (cI, 12, .inl (fun _ => 0)))]) s H := hG0.put hP hD hS
  refine lv_aload_n C0.1 C0.2.1 dX0_init_46 rfl (lv_at hl 0 rfl) ?_
  refine lv_bipush (v := nI 20) C0.1 C0.2.1 dX0_init_47 (by decide) ?_
  refine va_put (D := D) (ci := 0) (v := .int (nI 20)) (ty := .int) (C := RX0) (T := TX0) (N := 9) C0.1 C0.2.1 hts hF tyX0 tyX0_ok nmX0 hown hG.2.1 hG.1 hG.2.2.1 hS 0 rfl rfl 6 (by decide) (hts (.fieldLink RX0 29 "TicketCoincidences" "inStore" "I") (by decide +kernel)) (fun _ h9 => h9) rfl (by decide +kernel) rfl rfl (Nat.le_of_ble_eq_true rfl) dX0_init_49 (fun H locs hP hD hS => ?_)
  have hG : tcG D cI cJ N0 ([(h, .inr (0, [.ref qa1, .ref qa2, .ref qa3, .ref qa4, .int (nI 0), .int (nI 0), .int (nI 20), .int 0, .int 0])), (qa1, .inl (cI, 12, .inl (fun _ => 0))), (qa2, .inl (cI, 12, .inl (fun _ => 0))), (qa3, .inl (cI, 12, .inl (fun _ => 0))), (qa4, .inl (cI, 12, .inl (fun _ => 0)))]) s H := hG0.put hP hD hS
  refine lv_aload_n C0.1 C0.2.1 dX0_init_52 rfl (lv_at hl 0 rfl) ?_
  refine lv_iconst (v := nI 0) C0.1 C0.2.1 dX0_init_53 (by decide) ?_
  refine va_put (D := D) (ci := 0) (v := .int (nI 0)) (ty := .int) (C := RX0) (T := TX0) (N := 9) C0.1 C0.2.1 hts hF tyX0 tyX0_ok nmX0 hown hG.2.1 hG.1 hG.2.2.1 hS 0 rfl rfl 7 (by decide) (hts (.fieldLink RX0 32 "TicketCoincidences" "countedInAll" "I") (by decide +kernel)) (fun _ h9 => h9) rfl (by decide +kernel) rfl rfl (Nat.le_of_ble_eq_true rfl) dX0_init_54 (fun H locs hP hD hS => ?_)
  have hG : tcG D cI cJ N0 ([(h, .inr (0, [.ref qa1, .ref qa2, .ref qa3, .ref qa4, .int (nI 0), .int (nI 0), .int (nI 20), .int (nI 0), .int 0])), (qa1, .inl (cI, 12, .inl (fun _ => 0))), (qa2, .inl (cI, 12, .inl (fun _ => 0))), (qa3, .inl (cI, 12, .inl (fun _ => 0))), (qa4, .inl (cI, 12, .inl (fun _ => 0)))]) s H := hG0.put hP hD hS
  refine lv_aload_n C0.1 C0.2.1 dX0_init_57 rfl (lv_at hl 0 rfl) ?_
  refine lv_iconst (v := nI 0) C0.1 C0.2.1 dX0_init_58 (by decide) ?_
  refine va_put (D := D) (ci := 0) (v := .int (nI 0)) (ty := .int) (C := RX0) (T := TX0) (N := 9) C0.1 C0.2.1 hts hF tyX0 tyX0_ok nmX0 hown hG.2.1 hG.1 hG.2.2.1 hS 0 rfl rfl 8 (by decide) (hts (.fieldLink RX0 35 "TicketCoincidences" "spentInAll" "I") (by decide +kernel)) (fun _ h9 => h9) rfl (by decide +kernel) rfl rfl (Nat.le_of_ble_eq_true rfl) dX0_init_59 (fun H locs hP hD hS => ?_)
  have hG : tcG D cI cJ N0 ([(h, .inr (0, [.ref qa1, .ref qa2, .ref qa3, .ref qa4, .int (nI 0), .int (nI 0), .int (nI 20), .int (nI 0), .int (nI 0)])), (qa1, .inl (cI, 12, .inl (fun _ => 0))), (qa2, .inl (cI, 12, .inl (fun _ => 0))), (qa3, .inl (cI, 12, .inl (fun _ => 0))), (qa4, .inl (cI, 12, .inl (fun _ => 0)))]) s H := hG0.put hP hD hS
  refine W.widen (k := 4) (n := 48) (by decide) (by decide) ?_
  exact W.vret C0.1 C0.2.1 hr (fun t htt _ => ⟨rfl, ⟨_, ⟨qa1, qa2, qa3, qa4, rfl⟩, by rw [htt]; exact hG.1, hG.2.2.1⟩, hS.F htt⟩) hS.2.2 dX0_init_62 hlk
