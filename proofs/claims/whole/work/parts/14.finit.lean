theorem fa_Net_init_0 : Cond.methodLink RX1 1 objectInit ∈ wsX1_init := by decide +kernel
theorem fa_Net_init_1 : Cond.instanceMethod objectInit ∈ wsX1_init := by decide +kernel
theorem fa_Net_init_2 : Cond.code objectInit ⟨#[0xb1]⟩ 1 none ∈ wsX1_init := by decide +kernel
theorem fa_Net_init_3 : ∀ w ∈ wsX10, w ∈ wsX1_init := by decide +kernel
theorem fa_Net_init_4 : Cond.fieldLink RX1 7 "FlowProofs$Net" "nodes" "I" ∈ wsX1_init := by decide +kernel
theorem fa_Net_init_5 : Cond.arrayClass .int ∈ wsX1_init := by decide +kernel
theorem fa_Net_init_6 : Cond.fieldLink RX1 13 "FlowProofs$Net" "from" "[I" ∈ wsX1_init := by decide +kernel
theorem fa_Net_init_7 : Cond.fieldLink RX1 17 "FlowProofs$Net" "to" "[I" ∈ wsX1_init := by decide +kernel
theorem fa_Net_init_8 : Cond.fieldLink RX1 20 "FlowProofs$Net" "capacity" "[I" ∈ wsX1_init := by decide +kernel
theorem fa_Net_init_9 : Cond.fieldLink RX1 23 "FlowProofs$Net" "unitCost" "[I" ∈ wsX1_init := by decide +kernel
theorem fa_Net_init_10 : Cond.fieldLink RX1 26 "FlowProofs$Net" "flow" "[I" ∈ wsX1_init := by decide +kernel
set_option maxHeartbeats 4000000 in
set_option maxRecDepth 100000 in
theorem k_Net_init (l : Launch) (dC : Nat → ClassId) (dI : Nat → Nat → Nat) (cI cJ cZ : ClassId) (h N M : Nat) (sz : Nat) (hM : M ≤ 40) : Met l yX1_init wsX1_init ({ frames := 1, cells := 5, slots := 200, locals := 12 }) (va_Pc [.ref h, .int (nI N), .int (nI M)] (fun U => U.heap.size = sz ∧ va_P (dC, dI) vwCl [(h, .inr (1, [.int 0, .null, .null, .null, .null, .null, .int 0]))] U.heap ∧ va_K (dC, dI) vwCl [(cI, .int), (cJ, .long), (cZ, .boolean)] U ∧ va_D (fun _ => True) [(h, .inr (1, [.int 0, .null, .null, .null, .null, .null, .int 0]))])) (va_Qv (fun (u : Nat × Nat × Nat × Nat × Nat) => True) (fun (u : Nat × Nat × Nat × Nat × Nat) (t : State) => va_P (dC, dI) vwCl [(h, .inr (1, [.int (nI N), .ref u.1, .ref u.2.1, .ref u.2.2.1, .ref u.2.2.2.1, .ref u.2.2.2.2, .int 0])), (u.1, .inl (cI, M, .inl (fun _ => 0))), (u.2.1, .inl (cI, M, .inl (fun _ => 0))), (u.2.2.1, .inl (cI, M, .inl (fun _ => 0))), (u.2.2.2.1, .inl (cI, M, .inl (fun _ => 0))), (u.2.2.2.2, .inl (cI, M, .inl (fun _ => 0)))] t.heap ∧ va_K (dC, dI) vwCl [(cI, .int), (cJ, .long), (cZ, .boolean)] t ∧ va_D (va_A [(h, .inr (1, [.int 0, .null, .null, .null, .null, .null, .int 0]))] sz) [(h, .inr (1, [.int (nI N), .ref u.1, .ref u.2.1, .ref u.2.2.1, .ref u.2.2.2.1, .ref u.2.2.2.2, .int 0])), (u.1, .inl (cI, M, .inl (fun _ => 0))), (u.2.1, .inl (cI, M, .inl (fun _ => 0))), (u.2.2.1, .inl (cI, M, .inl (fun _ => 0))), (u.2.2.2.1, .inl (cI, M, .inl (fun _ => 0))), (u.2.2.2.2, .inl (cI, M, .inl (fun _ => 0)))]) (va_A [(h, .inr (1, [.int 0, .null, .null, .null, .null, .null, .int 0]))] sz)) 5 200 (va_A [(h, .inr (1, [.int 0, .null, .null, .null, .null, .null, .int 0]))] sz) := by
  refine Met.ofW (cc := cX1_init) (maxL := 3) (ret := none) (by decide) rfl ?_
  intro p e s m args below meth c s₁ B hml hv
  obtain ⟨rfl, hsz, hP, hK, hD0⟩ := hv
  have hx := B.exec
  have hb := B.bytes
  have hr := B.returns
  have hts := atoms_spec (ws := wsX1_init) B.pre
  have hown : s.vm.findClass RX1 = some m.cls := findClass_of_methodNamed B.named
  have hlocks := B.notSynchronized
  have hin : meth.name = "<init>" := (name_of_methodNamed B.named B.method).1
  subst hsz
  have hD := hD0.self (sz := s.heap.size)
  generalize hAe : va_A [(h, .inr (1, [.int 0, .null, .null, .null, .null, .null, .int 0]))] s.heap.size = A at hD ⊢
  have hA : ∀ q : Nat, s.heap.size ≤ q → A q := fun q h => by rw [← hAe]; exact Or.inr h
  have hS : va_S A s.heap s.heap [] := va_S.rf
  have hP : va_P (dC, dI) vwCl [(h, .inr (1, [.int 0, .null, .null, .null, .null, .null, .int 0]))] s.heap := hP
  have hl := lv_entry ([.ref h, .int (nI N), .int (nI M)]) (n := 3) (Nat.le_of_ble_eq_true rfl)
  rw [lg_entry_eq]
  generalize (lg_sl ([.ref h, .int (nI N), .int (nI M)]) ++ List.replicate (3 - (lg_sl ([.ref h, .int (nI N), .int (nI M)])).length) Slot.unset).toArray = ls at hl ⊢
  have hl : lv_has ls 3 [(0, .ref h), (1, .int (nI N)), (2, .int (nI M))] := hl
  refine lv_aload_n hx hb dX1_init_0 rfl (lv_at hl 0 rfl) ?_
  refine W.objInit hx hb hown (hts _ fa_Net_init_0) (hts _ fa_Net_init_1) (hts _ fa_Net_init_2) rfl (by rw [hml]; exact hl.1) rfl dX1_init_1 (Nat.le_of_ble_eq_true rfl) (Nat.le_of_ble_eq_true rfl) ?_
  refine W.eq (g2 := F0 m 4 ls []) rfl ?_
  refine lv_aload_n hx hb dX1_init_4 rfl (lv_at hl 0 rfl) ?_
  refine lv_iload_n hx hb dX1_init_5 rfl (lv_at hl 1 rfl) ?_
  refine va_putF (D := (dC, dI)) (ci := 1) (v := .int (nI N)) (ty := .int) (C := RX1) (T := TX1) (N := 7) hx hb hts fa_Net_init_3 tyX1 tyX1_ok nmX1 hown hK hP hD hS 0 rfl rfl 0 (by decide) (hts _ fa_Net_init_4) (fun _ h9 => h9) rfl hin rfl (by decide +kernel) rfl rfl (Nat.le_of_ble_eq_true rfl) dX1_init_6 (fun H locs hP hD hS => ?_)
  have hP : va_P (dC, dI) vwCl [(h, .inr (1, [.int (nI N), .null, .null, .null, .null, .null, .int 0]))] H := hP
  have hD : va_D A [(h, .inr (1, [.int (nI N), .null, .null, .null, .null, .null, .int 0]))] := hD
  refine lv_aload_n hx hb dX1_init_9 rfl (lv_at hl 0 rfl) ?_
  refine lv_iload_n hx hb dX1_init_10 rfl (lv_at hl 2 rfl) ?_
  refine va_newa (D := (dC, dI)) (atype := .int) (ty := .int) (a0 := (M, .inl (fun _ => 0))) hx hb (hts _ fa_Net_init_5) rfl hK hP hD hS hA (fun _ => rfl) (nI_pos (by omega)) (nI_clamp (n := M) (by omega)) (show M * 4 ≤ 536870912 by omega) (show 0 + 1 ≤ 5 by omega) (show 0 + M ≤ 200 by omega) dX1_init_11 (fun a2 cA H hK2 hP hD hS => ?_)
  have ecA : cI = cA := Option.some.inj (((hK2.2 0 _ rfl).2).symm.trans ((hK2.2 3 _ rfl).2))
  subst ecA
  have hP : va_P (dC, dI) vwCl [(h, .inr (1, [.int (nI N), .null, .null, .null, .null, .null, .int 0])), (a2, .inl (cI, M, .inl (fun _ => 0)))] H := hP
  have hD : va_D A [(h, .inr (1, [.int (nI N), .null, .null, .null, .null, .null, .int 0])), (a2, .inl (cI, M, .inl (fun _ => 0)))] := hD
  refine va_putF (D := (dC, dI)) (ci := 1) (v := .ref a2) (ty := .array .int) (C := RX1) (T := TX1) (N := 7) hx hb hts fa_Net_init_3 tyX1 tyX1_ok nmX1 hown hK hP hD hS 0 rfl rfl 1 (by decide) (hts _ fa_Net_init_6) (fun _ h9 => h9) rfl hin rfl (by decide +kernel) rfl rfl (Nat.le_of_ble_eq_true rfl) dX1_init_13 (fun H locs hP hD hS => ?_)
  have hP : va_P (dC, dI) vwCl [(h, .inr (1, [.int (nI N), .ref a2, .null, .null, .null, .null, .int 0])), (a2, .inl (cI, M, .inl (fun _ => 0)))] H := hP
  have hD : va_D A [(h, .inr (1, [.int (nI N), .ref a2, .null, .null, .null, .null, .int 0])), (a2, .inl (cI, M, .inl (fun _ => 0)))] := hD
  refine lv_aload_n hx hb dX1_init_16 rfl (lv_at hl 0 rfl) ?_
  refine lv_iload_n hx hb dX1_init_17 rfl (lv_at hl 2 rfl) ?_
  refine va_newa (D := (dC, dI)) (atype := .int) (ty := .int) (a0 := (M, .inl (fun _ => 0))) hx hb (hts _ fa_Net_init_5) rfl hK hP hD hS hA (fun _ => rfl) (nI_pos (by omega)) (nI_clamp (n := M) (by omega)) (show M * 4 ≤ 536870912 by omega) (show (0 + 1) + 1 ≤ 5 by omega) (show (0 + M) + M ≤ 200 by omega) dX1_init_18 (fun a3 cA H hK2 hP hD hS => ?_)
  have ecA : cI = cA := Option.some.inj (((hK2.2 0 _ rfl).2).symm.trans ((hK2.2 3 _ rfl).2))
  subst ecA
  have hP : va_P (dC, dI) vwCl [(h, .inr (1, [.int (nI N), .ref a2, .null, .null, .null, .null, .int 0])), (a2, .inl (cI, M, .inl (fun _ => 0))), (a3, .inl (cI, M, .inl (fun _ => 0)))] H := hP
  have hD : va_D A [(h, .inr (1, [.int (nI N), .ref a2, .null, .null, .null, .null, .int 0])), (a2, .inl (cI, M, .inl (fun _ => 0))), (a3, .inl (cI, M, .inl (fun _ => 0)))] := hD
  refine va_putF (D := (dC, dI)) (ci := 1) (v := .ref a3) (ty := .array .int) (C := RX1) (T := TX1) (N := 7) hx hb hts fa_Net_init_3 tyX1 tyX1_ok nmX1 hown hK hP hD hS 0 rfl rfl 2 (by decide) (hts _ fa_Net_init_7) (fun _ h9 => h9) rfl hin rfl (by decide +kernel) rfl rfl (Nat.le_of_ble_eq_true rfl) dX1_init_20 (fun H locs hP hD hS => ?_)
  have hP : va_P (dC, dI) vwCl [(h, .inr (1, [.int (nI N), .ref a2, .ref a3, .null, .null, .null, .int 0])), (a2, .inl (cI, M, .inl (fun _ => 0))), (a3, .inl (cI, M, .inl (fun _ => 0)))] H := hP
  have hD : va_D A [(h, .inr (1, [.int (nI N), .ref a2, .ref a3, .null, .null, .null, .int 0])), (a2, .inl (cI, M, .inl (fun _ => 0))), (a3, .inl (cI, M, .inl (fun _ => 0)))] := hD
  refine lv_aload_n hx hb dX1_init_23 rfl (lv_at hl 0 rfl) ?_
  refine lv_iload_n hx hb dX1_init_24 rfl (lv_at hl 2 rfl) ?_
  refine va_newa (D := (dC, dI)) (atype := .int) (ty := .int) (a0 := (M, .inl (fun _ => 0))) hx hb (hts _ fa_Net_init_5) rfl hK hP hD hS hA (fun _ => rfl) (nI_pos (by omega)) (nI_clamp (n := M) (by omega)) (show M * 4 ≤ 536870912 by omega) (show ((0 + 1) + 1) + 1 ≤ 5 by omega) (show ((0 + M) + M) + M ≤ 200 by omega) dX1_init_25 (fun a4 cA H hK2 hP hD hS => ?_)
  have ecA : cI = cA := Option.some.inj (((hK2.2 0 _ rfl).2).symm.trans ((hK2.2 3 _ rfl).2))
  subst ecA
  have hP : va_P (dC, dI) vwCl [(h, .inr (1, [.int (nI N), .ref a2, .ref a3, .null, .null, .null, .int 0])), (a2, .inl (cI, M, .inl (fun _ => 0))), (a3, .inl (cI, M, .inl (fun _ => 0))), (a4, .inl (cI, M, .inl (fun _ => 0)))] H := hP
  have hD : va_D A [(h, .inr (1, [.int (nI N), .ref a2, .ref a3, .null, .null, .null, .int 0])), (a2, .inl (cI, M, .inl (fun _ => 0))), (a3, .inl (cI, M, .inl (fun _ => 0))), (a4, .inl (cI, M, .inl (fun _ => 0)))] := hD
  refine va_putF (D := (dC, dI)) (ci := 1) (v := .ref a4) (ty := .array .int) (C := RX1) (T := TX1) (N := 7) hx hb hts fa_Net_init_3 tyX1 tyX1_ok nmX1 hown hK hP hD hS 0 rfl rfl 3 (by decide) (hts _ fa_Net_init_8) (fun _ h9 => h9) rfl hin rfl (by decide +kernel) rfl rfl (Nat.le_of_ble_eq_true rfl) dX1_init_27 (fun H locs hP hD hS => ?_)
  have hP : va_P (dC, dI) vwCl [(h, .inr (1, [.int (nI N), .ref a2, .ref a3, .ref a4, .null, .null, .int 0])), (a2, .inl (cI, M, .inl (fun _ => 0))), (a3, .inl (cI, M, .inl (fun _ => 0))), (a4, .inl (cI, M, .inl (fun _ => 0)))] H := hP
  have hD : va_D A [(h, .inr (1, [.int (nI N), .ref a2, .ref a3, .ref a4, .null, .null, .int 0])), (a2, .inl (cI, M, .inl (fun _ => 0))), (a3, .inl (cI, M, .inl (fun _ => 0))), (a4, .inl (cI, M, .inl (fun _ => 0)))] := hD
  refine lv_aload_n hx hb dX1_init_30 rfl (lv_at hl 0 rfl) ?_
  refine lv_iload_n hx hb dX1_init_31 rfl (lv_at hl 2 rfl) ?_
  refine va_newa (D := (dC, dI)) (atype := .int) (ty := .int) (a0 := (M, .inl (fun _ => 0))) hx hb (hts _ fa_Net_init_5) rfl hK hP hD hS hA (fun _ => rfl) (nI_pos (by omega)) (nI_clamp (n := M) (by omega)) (show M * 4 ≤ 536870912 by omega) (show (((0 + 1) + 1) + 1) + 1 ≤ 5 by omega) (show (((0 + M) + M) + M) + M ≤ 200 by omega) dX1_init_32 (fun a5 cA H hK2 hP hD hS => ?_)
  have ecA : cI = cA := Option.some.inj (((hK2.2 0 _ rfl).2).symm.trans ((hK2.2 3 _ rfl).2))
  subst ecA
  have hP : va_P (dC, dI) vwCl [(h, .inr (1, [.int (nI N), .ref a2, .ref a3, .ref a4, .null, .null, .int 0])), (a2, .inl (cI, M, .inl (fun _ => 0))), (a3, .inl (cI, M, .inl (fun _ => 0))), (a4, .inl (cI, M, .inl (fun _ => 0))), (a5, .inl (cI, M, .inl (fun _ => 0)))] H := hP
  have hD : va_D A [(h, .inr (1, [.int (nI N), .ref a2, .ref a3, .ref a4, .null, .null, .int 0])), (a2, .inl (cI, M, .inl (fun _ => 0))), (a3, .inl (cI, M, .inl (fun _ => 0))), (a4, .inl (cI, M, .inl (fun _ => 0))), (a5, .inl (cI, M, .inl (fun _ => 0)))] := hD
  refine va_putF (D := (dC, dI)) (ci := 1) (v := .ref a5) (ty := .array .int) (C := RX1) (T := TX1) (N := 7) hx hb hts fa_Net_init_3 tyX1 tyX1_ok nmX1 hown hK hP hD hS 0 rfl rfl 4 (by decide) (hts _ fa_Net_init_9) (fun _ h9 => h9) rfl hin rfl (by decide +kernel) rfl rfl (Nat.le_of_ble_eq_true rfl) dX1_init_34 (fun H locs hP hD hS => ?_)
  have hP : va_P (dC, dI) vwCl [(h, .inr (1, [.int (nI N), .ref a2, .ref a3, .ref a4, .ref a5, .null, .int 0])), (a2, .inl (cI, M, .inl (fun _ => 0))), (a3, .inl (cI, M, .inl (fun _ => 0))), (a4, .inl (cI, M, .inl (fun _ => 0))), (a5, .inl (cI, M, .inl (fun _ => 0)))] H := hP
  have hD : va_D A [(h, .inr (1, [.int (nI N), .ref a2, .ref a3, .ref a4, .ref a5, .null, .int 0])), (a2, .inl (cI, M, .inl (fun _ => 0))), (a3, .inl (cI, M, .inl (fun _ => 0))), (a4, .inl (cI, M, .inl (fun _ => 0))), (a5, .inl (cI, M, .inl (fun _ => 0)))] := hD
  refine lv_aload_n hx hb dX1_init_37 rfl (lv_at hl 0 rfl) ?_
  refine lv_iload_n hx hb dX1_init_38 rfl (lv_at hl 2 rfl) ?_
  refine va_newa (D := (dC, dI)) (atype := .int) (ty := .int) (a0 := (M, .inl (fun _ => 0))) hx hb (hts _ fa_Net_init_5) rfl hK hP hD hS hA (fun _ => rfl) (nI_pos (by omega)) (nI_clamp (n := M) (by omega)) (show M * 4 ≤ 536870912 by omega) (show ((((0 + 1) + 1) + 1) + 1) + 1 ≤ 5 by omega) (show ((((0 + M) + M) + M) + M) + M ≤ 200 by omega) dX1_init_39 (fun a6 cA H hK2 hP hD hS => ?_)
  have ecA : cI = cA := Option.some.inj (((hK2.2 0 _ rfl).2).symm.trans ((hK2.2 3 _ rfl).2))
  subst ecA
  have hP : va_P (dC, dI) vwCl [(h, .inr (1, [.int (nI N), .ref a2, .ref a3, .ref a4, .ref a5, .null, .int 0])), (a2, .inl (cI, M, .inl (fun _ => 0))), (a3, .inl (cI, M, .inl (fun _ => 0))), (a4, .inl (cI, M, .inl (fun _ => 0))), (a5, .inl (cI, M, .inl (fun _ => 0))), (a6, .inl (cI, M, .inl (fun _ => 0)))] H := hP
  have hD : va_D A [(h, .inr (1, [.int (nI N), .ref a2, .ref a3, .ref a4, .ref a5, .null, .int 0])), (a2, .inl (cI, M, .inl (fun _ => 0))), (a3, .inl (cI, M, .inl (fun _ => 0))), (a4, .inl (cI, M, .inl (fun _ => 0))), (a5, .inl (cI, M, .inl (fun _ => 0))), (a6, .inl (cI, M, .inl (fun _ => 0)))] := hD
  refine va_putF (D := (dC, dI)) (ci := 1) (v := .ref a6) (ty := .array .int) (C := RX1) (T := TX1) (N := 7) hx hb hts fa_Net_init_3 tyX1 tyX1_ok nmX1 hown hK hP hD hS 0 rfl rfl 5 (by decide) (hts _ fa_Net_init_10) (fun _ h9 => h9) rfl hin rfl (by decide +kernel) rfl rfl (Nat.le_of_ble_eq_true rfl) dX1_init_41 (fun H locs hP hD hS => ?_)
  have hP : va_P (dC, dI) vwCl [(h, .inr (1, [.int (nI N), .ref a2, .ref a3, .ref a4, .ref a5, .ref a6, .int 0])), (a2, .inl (cI, M, .inl (fun _ => 0))), (a3, .inl (cI, M, .inl (fun _ => 0))), (a4, .inl (cI, M, .inl (fun _ => 0))), (a5, .inl (cI, M, .inl (fun _ => 0))), (a6, .inl (cI, M, .inl (fun _ => 0)))] H := hP
  have hD : va_D A [(h, .inr (1, [.int (nI N), .ref a2, .ref a3, .ref a4, .ref a5, .ref a6, .int 0])), (a2, .inl (cI, M, .inl (fun _ => 0))), (a3, .inl (cI, M, .inl (fun _ => 0))), (a4, .inl (cI, M, .inl (fun _ => 0))), (a5, .inl (cI, M, .inl (fun _ => 0))), (a6, .inl (cI, M, .inl (fun _ => 0)))] := hD
  have hP9 := hP.sub (ws' := [(h, .inr (1, [.int (nI N), .ref a2, .ref a3, .ref a4, .ref a5, .ref a6, .int 0])), (a2, .inl (cI, M, .inl (fun _ => 0))), (a3, .inl (cI, M, .inl (fun _ => 0))), (a4, .inl (cI, M, .inl (fun _ => 0))), (a5, .inl (cI, M, .inl (fun _ => 0))), (a6, .inl (cI, M, .inl (fun _ => 0)))]) [0, 1, 2, 3, 4, 5] rfl
  have hD9 := hD.sub (ws' := [(h, .inr (1, [.int (nI N), .ref a2, .ref a3, .ref a4, .ref a5, .ref a6, .int 0])), (a2, .inl (cI, M, .inl (fun _ => 0))), (a3, .inl (cI, M, .inl (fun _ => 0))), (a4, .inl (cI, M, .inl (fun _ => 0))), (a5, .inl (cI, M, .inl (fun _ => 0))), (a6, .inl (cI, M, .inl (fun _ => 0)))]) [0, 1, 2, 3, 4, 5] (by decide) rfl
  refine W.widen (k := 5) (n := 200) (by omega) (by omega) ?_
  exact W.vret hx hb hr (fun t ht hW => ⟨⟨(a2, a3, a4, a5, a6), rfl, trivial, by rw [ht]; exact hP9, va_K.moved hW.alike hK, hD9⟩, hS.F ht⟩) hS.2.2 dX1_init_44

theorem fa_Dist_init_0 : Cond.methodLink RX0 3 objectInit ∈ wsX0_init := by decide +kernel
theorem fa_Dist_init_1 : Cond.instanceMethod objectInit ∈ wsX0_init := by decide +kernel
theorem fa_Dist_init_2 : Cond.code objectInit ⟨#[0xb1]⟩ 1 none ∈ wsX0_init := by decide +kernel
theorem fa_Dist_init_3 : ∀ w ∈ wsX00, w ∈ wsX0_init := by decide +kernel
theorem fa_Dist_init_4 : Cond.fieldLink RX0 9 "FlowProofs$Distances" "net" "LFlowProofs$Net;" ∈ wsX0_init := by decide +kernel
theorem fa_Dist_init_5 : ∀ w ∈ wsX10, w ∈ wsX0_init := by decide +kernel
theorem fa_Dist_init_6 : Cond.fieldLink RX0 15 "FlowProofs$Net" "nodes" "I" ∈ wsX0_init := by decide +kernel
theorem fa_Dist_init_7 : Cond.arrayClass .int ∈ wsX0_init := by decide +kernel
theorem fa_Dist_init_8 : Cond.fieldLink RX0 21 "FlowProofs$Distances" "least" "[I" ∈ wsX0_init := by decide +kernel
theorem fa_Dist_init_9 : Cond.fieldLink RX0 25 "FlowProofs$Distances" "fewest" "[I" ∈ wsX0_init := by decide +kernel
set_option maxHeartbeats 4000000 in
set_option maxRecDepth 100000 in
theorem k_Dist_init (l : Launch) (dC : Nat → ClassId) (dI : Nat → Nat → Nat) (cI cJ cZ : ClassId) (h hn N : Nat) (x1 x2 x3 x4 x5 x6 : Value) (sz : Nat) (hN : N ≤ 12) : Met l yX0_init wsX0_init ({ frames := 1, cells := 2, slots := 24, locals := 12 }) (va_Pc [.ref h, .ref hn] (fun U => U.heap.size = sz ∧ va_P (dC, dI) vwCl [(h, .inr (0, [.null, .null, .null])), (hn, .inr (1, [.int (nI N), x1, x2, x3, x4, x5, x6]))] U.heap ∧ va_K (dC, dI) vwCl [(cI, .int), (cJ, .long), (cZ, .boolean)] U ∧ va_D (fun _ => True) [(h, .inr (0, [.null, .null, .null])), (hn, .inr (1, [.int (nI N), x1, x2, x3, x4, x5, x6]))])) (va_Qv (fun (u : Nat × Nat) => True) (fun (u : Nat × Nat) (t : State) => va_P (dC, dI) vwCl [(h, .inr (0, [.ref u.1, .ref u.2, .ref hn])), (hn, .inr (1, [.int (nI N), x1, x2, x3, x4, x5, x6])), (u.1, .inl (cI, N, .inl (fun _ => 0))), (u.2, .inl (cI, N, .inl (fun _ => 0)))] t.heap ∧ va_K (dC, dI) vwCl [(cI, .int), (cJ, .long), (cZ, .boolean)] t ∧ va_D (va_A [(h, .inr (0, [.null, .null, .null])), (hn, .inr (1, [.int (nI N), x1, x2, x3, x4, x5, x6]))] sz) [(h, .inr (0, [.ref u.1, .ref u.2, .ref hn])), (hn, .inr (1, [.int (nI N), x1, x2, x3, x4, x5, x6])), (u.1, .inl (cI, N, .inl (fun _ => 0))), (u.2, .inl (cI, N, .inl (fun _ => 0)))]) (va_A [(h, .inr (0, [.null, .null, .null])), (hn, .inr (1, [.int (nI N), x1, x2, x3, x4, x5, x6]))] sz)) 2 24 (va_A [(h, .inr (0, [.null, .null, .null])), (hn, .inr (1, [.int (nI N), x1, x2, x3, x4, x5, x6]))] sz) := by
  refine Met.ofW (cc := cX0_init) (maxL := 2) (ret := none) (by decide) rfl ?_
  intro p e s m args below meth c s₁ B hml hv
  obtain ⟨rfl, hsz, hP, hK, hD0⟩ := hv
  have hx := B.exec
  have hb := B.bytes
  have hr := B.returns
  have hts := atoms_spec (ws := wsX0_init) B.pre
  have hown : s.vm.findClass RX0 = some m.cls := findClass_of_methodNamed B.named
  have hlocks := B.notSynchronized
  have hin : meth.name = "<init>" := (name_of_methodNamed B.named B.method).1
  subst hsz
  have hD := hD0.self (sz := s.heap.size)
  generalize hAe : va_A [(h, .inr (0, [.null, .null, .null])), (hn, .inr (1, [.int (nI N), x1, x2, x3, x4, x5, x6]))] s.heap.size = A at hD ⊢
  have hA : ∀ q : Nat, s.heap.size ≤ q → A q := fun q h => by rw [← hAe]; exact Or.inr h
  have hS : va_S A s.heap s.heap [] := va_S.rf
  have hP : va_P (dC, dI) vwCl [(h, .inr (0, [.null, .null, .null])), (hn, .inr (1, [.int (nI N), x1, x2, x3, x4, x5, x6]))] s.heap := hP
  have hl := lv_entry ([.ref h, .ref hn]) (n := 2) (Nat.le_of_ble_eq_true rfl)
  rw [lg_entry_eq]
  generalize (lg_sl ([.ref h, .ref hn]) ++ List.replicate (2 - (lg_sl ([.ref h, .ref hn])).length) Slot.unset).toArray = ls at hl ⊢
  have hl : lv_has ls 2 [(0, .ref h), (1, .ref hn)] := hl
  refine lv_aload_n hx hb dX0_init_0 rfl (lv_at hl 0 rfl) ?_
  refine W.objInit hx hb hown (hts _ fa_Dist_init_0) (hts _ fa_Dist_init_1) (hts _ fa_Dist_init_2) rfl (by rw [hml]; exact hl.1) rfl dX0_init_1 (Nat.le_of_ble_eq_true rfl) (Nat.le_of_ble_eq_true rfl) ?_
  refine W.eq (g2 := F0 m 4 ls []) rfl ?_
  refine lv_aload_n hx hb dX0_init_4 rfl (lv_at hl 0 rfl) ?_
  refine lv_aload_n hx hb dX0_init_5 rfl (lv_at hl 1 rfl) ?_
  refine va_putF (D := (dC, dI)) (ci := 0) (v := .ref hn) (ty := .object "FlowProofs$Net") (C := RX0) (T := TX0) (N := 3) hx hb hts fa_Dist_init_3 tyX0 tyX0_ok nmX0 hown hK hP hD hS 0 rfl rfl 2 (by decide) (hts _ fa_Dist_init_4) (fun _ h9 => h9) rfl hin rfl (by decide +kernel) rfl rfl (Nat.le_of_ble_eq_true rfl) dX0_init_6 (fun H locs hP hD hS => ?_)
  have hP : va_P (dC, dI) vwCl [(h, .inr (0, [.null, .null, .ref hn])), (hn, .inr (1, [.int (nI N), x1, x2, x3, x4, x5, x6]))] H := hP
  have hD : va_D A [(h, .inr (0, [.null, .null, .ref hn])), (hn, .inr (1, [.int (nI N), x1, x2, x3, x4, x5, x6]))] := hD
  refine lv_aload_n hx hb dX0_init_9 rfl (lv_at hl 0 rfl) ?_
  refine lv_aload_n hx hb dX0_init_10 rfl (lv_at hl 1 rfl) ?_
  refine va_get (D := (dC, dI)) (ci := 1) (v := .int (nI N)) (C := RX1) (T := TX1) (N := 7) hx hb hts fa_Dist_init_5 hown hK hP 1 rfl rfl 0 (by decide) (hts _ fa_Dist_init_6) (fun _ h9 => h9) rfl dX0_init_11 ?_
  refine va_newa (D := (dC, dI)) (atype := .int) (ty := .int) (a0 := (N, .inl (fun _ => 0))) hx hb (hts _ fa_Dist_init_7) rfl hK hP hD hS hA (fun _ => rfl) (nI_pos (by omega)) (nI_clamp (n := N) (by omega)) (show N * 4 ≤ 536870912 by omega) (show 0 + 1 ≤ 2 by omega) (show 0 + N ≤ 24 by omega) dX0_init_14 (fun a1 cA H hK2 hP hD hS => ?_)
  have ecA : cI = cA := Option.some.inj (((hK2.2 0 _ rfl).2).symm.trans ((hK2.2 3 _ rfl).2))
  subst ecA
  have hP : va_P (dC, dI) vwCl [(h, .inr (0, [.null, .null, .ref hn])), (hn, .inr (1, [.int (nI N), x1, x2, x3, x4, x5, x6])), (a1, .inl (cI, N, .inl (fun _ => 0)))] H := hP
  have hD : va_D A [(h, .inr (0, [.null, .null, .ref hn])), (hn, .inr (1, [.int (nI N), x1, x2, x3, x4, x5, x6])), (a1, .inl (cI, N, .inl (fun _ => 0)))] := hD
  refine va_putF (D := (dC, dI)) (ci := 0) (v := .ref a1) (ty := .array .int) (C := RX0) (T := TX0) (N := 3) hx hb hts fa_Dist_init_3 tyX0 tyX0_ok nmX0 hown hK hP hD hS 0 rfl rfl 0 (by decide) (hts _ fa_Dist_init_8) (fun _ h9 => h9) rfl hin rfl (by decide +kernel) rfl rfl (Nat.le_of_ble_eq_true rfl) dX0_init_16 (fun H locs hP hD hS => ?_)
  have hP : va_P (dC, dI) vwCl [(h, .inr (0, [.ref a1, .null, .ref hn])), (hn, .inr (1, [.int (nI N), x1, x2, x3, x4, x5, x6])), (a1, .inl (cI, N, .inl (fun _ => 0)))] H := hP
  have hD : va_D A [(h, .inr (0, [.ref a1, .null, .ref hn])), (hn, .inr (1, [.int (nI N), x1, x2, x3, x4, x5, x6])), (a1, .inl (cI, N, .inl (fun _ => 0)))] := hD
  refine lv_aload_n hx hb dX0_init_19 rfl (lv_at hl 0 rfl) ?_
  refine lv_aload_n hx hb dX0_init_20 rfl (lv_at hl 1 rfl) ?_
  refine va_get (D := (dC, dI)) (ci := 1) (v := .int (nI N)) (C := RX1) (T := TX1) (N := 7) hx hb hts fa_Dist_init_5 hown hK hP 1 rfl rfl 0 (by decide) (hts _ fa_Dist_init_6) (fun _ h9 => h9) rfl dX0_init_21 ?_
  refine va_newa (D := (dC, dI)) (atype := .int) (ty := .int) (a0 := (N, .inl (fun _ => 0))) hx hb (hts _ fa_Dist_init_7) rfl hK hP hD hS hA (fun _ => rfl) (nI_pos (by omega)) (nI_clamp (n := N) (by omega)) (show N * 4 ≤ 536870912 by omega) (show (0 + 1) + 1 ≤ 2 by omega) (show (0 + N) + N ≤ 24 by omega) dX0_init_24 (fun a2 cA H hK2 hP hD hS => ?_)
  have ecA : cI = cA := Option.some.inj (((hK2.2 0 _ rfl).2).symm.trans ((hK2.2 3 _ rfl).2))
  subst ecA
  have hP : va_P (dC, dI) vwCl [(h, .inr (0, [.ref a1, .null, .ref hn])), (hn, .inr (1, [.int (nI N), x1, x2, x3, x4, x5, x6])), (a1, .inl (cI, N, .inl (fun _ => 0))), (a2, .inl (cI, N, .inl (fun _ => 0)))] H := hP
  have hD : va_D A [(h, .inr (0, [.ref a1, .null, .ref hn])), (hn, .inr (1, [.int (nI N), x1, x2, x3, x4, x5, x6])), (a1, .inl (cI, N, .inl (fun _ => 0))), (a2, .inl (cI, N, .inl (fun _ => 0)))] := hD
  refine va_putF (D := (dC, dI)) (ci := 0) (v := .ref a2) (ty := .array .int) (C := RX0) (T := TX0) (N := 3) hx hb hts fa_Dist_init_3 tyX0 tyX0_ok nmX0 hown hK hP hD hS 0 rfl rfl 1 (by decide) (hts _ fa_Dist_init_9) (fun _ h9 => h9) rfl hin rfl (by decide +kernel) rfl rfl (Nat.le_of_ble_eq_true rfl) dX0_init_26 (fun H locs hP hD hS => ?_)
  have hP : va_P (dC, dI) vwCl [(h, .inr (0, [.ref a1, .ref a2, .ref hn])), (hn, .inr (1, [.int (nI N), x1, x2, x3, x4, x5, x6])), (a1, .inl (cI, N, .inl (fun _ => 0))), (a2, .inl (cI, N, .inl (fun _ => 0)))] H := hP
  have hD : va_D A [(h, .inr (0, [.ref a1, .ref a2, .ref hn])), (hn, .inr (1, [.int (nI N), x1, x2, x3, x4, x5, x6])), (a1, .inl (cI, N, .inl (fun _ => 0))), (a2, .inl (cI, N, .inl (fun _ => 0)))] := hD
  have hP9 := hP.sub (ws' := [(h, .inr (0, [.ref a1, .ref a2, .ref hn])), (hn, .inr (1, [.int (nI N), x1, x2, x3, x4, x5, x6])), (a1, .inl (cI, N, .inl (fun _ => 0))), (a2, .inl (cI, N, .inl (fun _ => 0)))]) [0, 1, 2, 3] rfl
  have hD9 := hD.sub (ws' := [(h, .inr (0, [.ref a1, .ref a2, .ref hn])), (hn, .inr (1, [.int (nI N), x1, x2, x3, x4, x5, x6])), (a1, .inl (cI, N, .inl (fun _ => 0))), (a2, .inl (cI, N, .inl (fun _ => 0)))]) [0, 1, 2, 3] (by decide) rfl
  refine W.widen (k := 2) (n := 24) (by omega) (by omega) ?_
  exact W.vret hx hb hr (fun t ht hW => ⟨⟨(a1, a2), rfl, trivial, by rw [ht]; exact hP9, va_K.moved hW.alike hK, hD9⟩, hS.F ht⟩) hS.2.2 dX0_init_29

theorem fa_FlowProofs_init_0 : Cond.methodLink RX2 3 objectInit ∈ wsX2_init := by decide +kernel
theorem fa_FlowProofs_init_1 : Cond.instanceMethod objectInit ∈ wsX2_init := by decide +kernel
theorem fa_FlowProofs_init_2 : Cond.code objectInit ⟨#[0xb1]⟩ 1 none ∈ wsX2_init := by decide +kernel
theorem fa_FlowProofs_init_3 : ∀ w ∈ wsX20, w ∈ wsX2_init := by decide +kernel
theorem fa_FlowProofs_init_4 : Cond.fieldLink RX2 11 "FlowProofs" "source" "I" ∈ wsX2_init := by decide +kernel
theorem fa_FlowProofs_init_5 : Cond.fieldLink RX2 15 "FlowProofs" "sink" "I" ∈ wsX2_init := by decide +kernel
theorem fa_FlowProofs_init_6 : ∀ w ∈ wsX10, w ∈ wsX2_init := by decide +kernel
theorem fa_FlowProofs_init_7 : Cond.classLink RX2 22 RX1 ∈ wsX2_init := by decide +kernel
theorem fa_FlowProofs_init_8 : Cond.instantiable RX1 7 ∈ wsX2_init := by decide +kernel
theorem fa_FlowProofs_init_9 : Cond.initialized RX1 ∈ wsX2_init := by decide +kernel
theorem fa_FlowProofs_init_10 : Cond.methodLink RX2 24 yX1_init ∈ wsX2_init := by decide +kernel
theorem fa_FlowProofs_init_11 : Cond.instanceMethod yX1_init ∈ wsX2_init := by decide +kernel
theorem fa_FlowProofs_init_12 : Cond.fieldLink RX2 27 "FlowProofs" "net" "LFlowProofs$Net;" ∈ wsX2_init := by decide +kernel
theorem fa_FlowProofs_init_13 : ∀ w ∈ wsX00, w ∈ wsX2_init := by decide +kernel
theorem fa_FlowProofs_init_14 : Cond.classLink RX2 31 RX0 ∈ wsX2_init := by decide +kernel
theorem fa_FlowProofs_init_15 : Cond.instantiable RX0 3 ∈ wsX2_init := by decide +kernel
theorem fa_FlowProofs_init_16 : Cond.initialized RX0 ∈ wsX2_init := by decide +kernel
theorem fa_FlowProofs_init_17 : Cond.methodLink RX2 33 yX0_init ∈ wsX2_init := by decide +kernel
theorem fa_FlowProofs_init_18 : Cond.instanceMethod yX0_init ∈ wsX2_init := by decide +kernel
theorem fa_FlowProofs_init_19 : Cond.fieldLink RX2 36 "FlowProofs" "fromSource" "LFlowProofs$Distances;" ∈ wsX2_init := by decide +kernel
theorem fa_FlowProofs_init_20 : Cond.fieldLink RX2 40 "FlowProofs" "toSink" "LFlowProofs$Distances;" ∈ wsX2_init := by decide +kernel
theorem fa_FlowProofs_init_21 : Cond.arrayClass .int ∈ wsX2_init := by decide +kernel
theorem fa_FlowProofs_init_22 : Cond.fieldLink RX2 43 "FlowProofs" "way" "[I" ∈ wsX2_init := by decide +kernel
set_option maxHeartbeats 4000000 in
set_option maxRecDepth 100000 in
theorem k_FlowProofs_init (l : Launch) (dC : Nat → ClassId) (dI : Nat → Nat → Nat) (cI cJ cZ : ClassId) (h N M : Nat) (n0 m0 : Int32) (sz : Nat) (hM : M ≤ 40) (hN : N ≤ 12) (eN : (if 2 < (if n0 < 12 then n0 else 12) then (if n0 < 12 then n0 else 12) else 2) = nI N) (eM : (if 1 < (if m0 < 40 then m0 else 40) then (if m0 < 40 then m0 else 40) else 1) = nI M) : Met l yX2_init wsX2_init ({ frames := 2, cells := 13, slots := 273, locals := 43 }) (va_Pc [.ref h, .int n0, .int m0] (fun U => U.heap.size = sz ∧ va_P (dC, dI) vwCl [(h, .inr (2, [.null, .null, .null, .null, .int 0, .int 0, .int 0, .int 0, .int 0, .int 0, .int 0]))] U.heap ∧ va_K (dC, dI) vwCl [(cI, .int), (cJ, .long), (cZ, .boolean)] U ∧ va_D (fun _ => True) [(h, .inr (2, [.null, .null, .null, .null, .int 0, .int 0, .int 0, .int 0, .int 0, .int 0, .int 0]))])) (va_Qv (fun (u : Nat → Nat) => True) (fun (u : Nat → Nat) (t : State) => va_P (dC, dI) vwCl [(h, .inr (2, [.ref (u 1), .ref (u 7), .ref (u 10), .ref (u 13), .int 0, .int (-1), .int (-1), .int 0, .int 0, .int 0, .int 0])), (u 1, .inr (1, [.int (nI N), .ref (u 2), .ref (u 3), .ref (u 4), .ref (u 5), .ref (u 6), .int 0])), (u 2, .inl (cI, M, .inl (fun _ => 0))), (u 3, .inl (cI, M, .inl (fun _ => 0))), (u 4, .inl (cI, M, .inl (fun _ => 0))), (u 5, .inl (cI, M, .inl (fun _ => 0))), (u 6, .inl (cI, M, .inl (fun _ => 0))), (u 7, .inr (0, [.ref (u 8), .ref (u 9), .ref (u 1)])), (u 8, .inl (cI, N, .inl (fun _ => 0))), (u 9, .inl (cI, N, .inl (fun _ => 0))), (u 10, .inr (0, [.ref (u 11), .ref (u 12), .ref (u 1)])), (u 11, .inl (cI, N, .inl (fun _ => 0))), (u 12, .inl (cI, N, .inl (fun _ => 0))), (u 13, .inl (cI, N, .inl (fun _ => 0)))] t.heap ∧ va_K (dC, dI) vwCl [(cI, .int), (cJ, .long), (cZ, .boolean)] t ∧ va_D (va_A [(h, .inr (2, [.null, .null, .null, .null, .int 0, .int 0, .int 0, .int 0, .int 0, .int 0, .int 0]))] sz) [(h, .inr (2, [.ref (u 1), .ref (u 7), .ref (u 10), .ref (u 13), .int 0, .int (-1), .int (-1), .int 0, .int 0, .int 0, .int 0])), (u 1, .inr (1, [.int (nI N), .ref (u 2), .ref (u 3), .ref (u 4), .ref (u 5), .ref (u 6), .int 0])), (u 2, .inl (cI, M, .inl (fun _ => 0))), (u 3, .inl (cI, M, .inl (fun _ => 0))), (u 4, .inl (cI, M, .inl (fun _ => 0))), (u 5, .inl (cI, M, .inl (fun _ => 0))), (u 6, .inl (cI, M, .inl (fun _ => 0))), (u 7, .inr (0, [.ref (u 8), .ref (u 9), .ref (u 1)])), (u 8, .inl (cI, N, .inl (fun _ => 0))), (u 9, .inl (cI, N, .inl (fun _ => 0))), (u 10, .inr (0, [.ref (u 11), .ref (u 12), .ref (u 1)])), (u 11, .inl (cI, N, .inl (fun _ => 0))), (u 12, .inl (cI, N, .inl (fun _ => 0))), (u 13, .inl (cI, N, .inl (fun _ => 0)))]) (va_A [(h, .inr (2, [.null, .null, .null, .null, .int 0, .int 0, .int 0, .int 0, .int 0, .int 0, .int 0]))] sz)) 13 273 (va_A [(h, .inr (2, [.null, .null, .null, .null, .int 0, .int 0, .int 0, .int 0, .int 0, .int 0, .int 0]))] sz) := by
  refine Met.ofW (cc := cX2_init) (maxL := 4) (ret := none) (by decide) rfl ?_
  intro p e s m args below meth c s₁ B hml hv
  obtain ⟨rfl, hsz, hP, hK, hD0⟩ := hv
  have hx := B.exec
  have hb := B.bytes
  have hr := B.returns
  have hts := atoms_spec (ws := wsX2_init) B.pre
  have hown : s.vm.findClass RX2 = some m.cls := findClass_of_methodNamed B.named
  have hlocks := B.notSynchronized
  have hin : meth.name = "<init>" := (name_of_methodNamed B.named B.method).1
  subst hsz
  have hD := hD0.self (sz := s.heap.size)
  generalize hAe : va_A [(h, .inr (2, [.null, .null, .null, .null, .int 0, .int 0, .int 0, .int 0, .int 0, .int 0, .int 0]))] s.heap.size = A at hD ⊢
  have hA : ∀ q : Nat, s.heap.size ≤ q → A q := fun q h => by rw [← hAe]; exact Or.inr h
  have hS : va_S A s.heap s.heap [] := va_S.rf
  have hP : va_P (dC, dI) vwCl [(h, .inr (2, [.null, .null, .null, .null, .int 0, .int 0, .int 0, .int 0, .int 0, .int 0, .int 0]))] s.heap := hP
  have hl := lv_entry ([.ref h, .int n0, .int m0]) (n := 4) (Nat.le_of_ble_eq_true rfl)
  rw [lg_entry_eq]
  generalize (lg_sl ([.ref h, .int n0, .int m0]) ++ List.replicate (4 - (lg_sl ([.ref h, .int n0, .int m0])).length) Slot.unset).toArray = ls at hl ⊢
  have hl : lv_has ls 4 [(0, .ref h), (1, .int n0), (2, .int m0)] := hl
  refine lv_aload_n hx hb dX2_init_0 rfl (lv_at hl 0 rfl) ?_
  refine W.objInit hx hb hown (hts _ fa_FlowProofs_init_0) (hts _ fa_FlowProofs_init_1) (hts _ fa_FlowProofs_init_2) rfl (by rw [hml]; exact hl.1) rfl dX2_init_1 (Nat.le_of_ble_eq_true rfl) (Nat.le_of_ble_eq_true rfl) ?_
  refine W.eq (g2 := F0 m 4 ls []) rfl ?_
  refine lv_aload_n hx hb dX2_init_4 rfl (lv_at hl 0 rfl) ?_
  refine lv_iconst (v := (-1)) hx hb dX2_init_5 (by decide) ?_
  refine va_put (D := (dC, dI)) (ci := 2) (v := .int (-1)) (ty := .int) (C := RX2) (T := TX2) (N := 11) hx hb hts fa_FlowProofs_init_3 tyX2 tyX2_ok nmX2 hown hK hP hD hS 0 rfl rfl 5 (by decide) (hts _ fa_FlowProofs_init_4) (fun _ h9 => h9) rfl (by decide +kernel) rfl rfl (Nat.le_of_ble_eq_true rfl) dX2_init_6 (fun H locs hP hD hS => ?_)
  have hP : va_P (dC, dI) vwCl [(h, .inr (2, [.null, .null, .null, .null, .int 0, .int (-1), .int 0, .int 0, .int 0, .int 0, .int 0]))] H := hP
  have hD : va_D A [(h, .inr (2, [.null, .null, .null, .null, .int 0, .int (-1), .int 0, .int 0, .int 0, .int 0, .int 0]))] := hD
  refine lv_aload_n hx hb dX2_init_9 rfl (lv_at hl 0 rfl) ?_
  refine lv_iconst (v := (-1)) hx hb dX2_init_10 (by decide) ?_
  refine va_put (D := (dC, dI)) (ci := 2) (v := .int (-1)) (ty := .int) (C := RX2) (T := TX2) (N := 11) hx hb hts fa_FlowProofs_init_3 tyX2 tyX2_ok nmX2 hown hK hP hD hS 0 rfl rfl 6 (by decide) (hts _ fa_FlowProofs_init_5) (fun _ h9 => h9) rfl (by decide +kernel) rfl rfl (Nat.le_of_ble_eq_true rfl) dX2_init_11 (fun H locs hP hD hS => ?_)
  have hP : va_P (dC, dI) vwCl [(h, .inr (2, [.null, .null, .null, .null, .int 0, .int (-1), .int (-1), .int 0, .int 0, .int 0, .int 0]))] H := hP
  have hD : va_D A [(h, .inr (2, [.null, .null, .null, .null, .int 0, .int (-1), .int (-1), .int 0, .int 0, .int 0, .int 0]))] := hD
  refine lv_iload_n hx hb dX2_init_14 rfl (lv_at hl 1 rfl) ?_
  refine lv_iconst (v := 2) hx hb dX2_init_15 (by decide) ?_
  refine lv_bipush (v := 12) hx hb dX2_init_16 (by decide) ?_
  have hPc := hP.sub (ws' := []) [] rfl
  refine vp_callSi (W.runS (As := [.int n0, .int 2, .int 12]) (rest := []) ⟨hx, hb, hml, hown, hts⟩ (k_within l dC dI cI cJ cZ n0 2 12) (va_cwS 3 hts gX2_init_X2_within rfl rfl rfl (by decide +kernel) ⟨Nat.le_of_ble_eq_true rfl, Nat.le_of_ble_eq_true rfl⟩) ⟨fun a U g mk q => by obtain ⟨q0, qP, qK⟩ := q; exact ⟨q0, qP, va_K.moved (u := U) (U := U.calling g mk a) (Vm.Alike.refl U.vm) qK⟩, fun U hU hW => ⟨rfl, by rw [hU]; exact hPc, va_K.moved hW.alike hK⟩⟩ rfl rfl hl.1 rfl (lv_room (Nat.le_of_ble_eq_true rfl)) dX2_init_18 ⟨Nat.le_of_ble_eq_true rfl, Nat.le_of_ble_eq_true rfl⟩) (fun r_18 hw_18 => ?_)
  subst hw_18
  refine tp_i (y := nI N) eN ?_
  refine lv_istore_n (lv' := [(3, .int (nI N)), (0, .ref h), (1, .int n0), (2, .int m0)]) hx hb dX2_init_21 rfl hl (by decide) rfl (fun ls hl => ?_)
  refine lv_aload_n hx hb dX2_init_22 rfl (lv_at hl 1 rfl) ?_
  refine va_new (ci := 1) (fs := [.int 0, .null, .null, .null, .null, .null, .int 0]) (C := RX1) (T := TX1) (N := 7) hx hb hts fa_FlowProofs_init_6 tyX1 tyX1_ok hown (hts _ fa_FlowProofs_init_7) (hts _ fa_FlowProofs_init_8) (hts _ fa_FlowProofs_init_9) hK hP hD hS hA rfl (fun j hj => by rcases (show j = 0 ∨ j = 1 ∨ j = 2 ∨ j = 3 ∨ j = 4 ∨ j = 5 ∨ j = 6 by omega) with rfl | rfl | rfl | rfl | rfl | rfl | rfl <;> rfl) (show 0 + 1 ≤ 13 by omega) (show 0 + 7 ≤ 273 by omega) dX2_init_23 (fun h1 H hP hD hS => ?_)
  have hP : va_P (dC, dI) vwCl [(h, .inr (2, [.null, .null, .null, .null, .int 0, .int (-1), .int (-1), .int 0, .int 0, .int 0, .int 0])), (h1, .inr (1, [.int 0, .null, .null, .null, .null, .null, .int 0]))] H := hP
  have hD : va_D A [(h, .inr (2, [.null, .null, .null, .null, .int 0, .int (-1), .int (-1), .int 0, .int 0, .int 0, .int 0])), (h1, .inr (1, [.int 0, .null, .null, .null, .null, .null, .int 0]))] := hD
  refine lv_dup hx hb dX2_init_26 rfl ?_
  refine lv_iload_n hx hb dX2_init_27 rfl (lv_at hl 0 rfl) ?_
  refine lv_iload_n hx hb dX2_init_28 rfl (lv_at hl 3 rfl) ?_
  refine lv_iconst (v := 1) hx hb dX2_init_29 (by decide) ?_
  refine lv_bipush (v := 40) hx hb dX2_init_30 (by decide) ?_
  have hPc := hP.sub (ws' := []) [] rfl
  refine vp_callSi (W.runS (As := [.int m0, .int 1, .int 40]) (rest := [.int (nI N), .ref h1, .ref h1, .ref h]) ⟨hx, hb, hml, hown, hts⟩ (k_within l dC dI cI cJ cZ m0 1 40) (va_cwS 3 hts gX2_init_X2_within rfl rfl rfl (by decide +kernel) ⟨Nat.le_of_ble_eq_true rfl, Nat.le_of_ble_eq_true rfl⟩) ⟨fun a U g mk q => by obtain ⟨q0, qP, qK⟩ := q; exact ⟨q0, qP, va_K.moved (u := U) (U := U.calling g mk a) (Vm.Alike.refl U.vm) qK⟩, fun U hU hW => ⟨rfl, by rw [hU]; exact hPc, va_K.moved hW.alike hK⟩⟩ rfl rfl hl.1 rfl (lv_room (Nat.le_of_ble_eq_true rfl)) dX2_init_32 ⟨(show (0 + 1) + 0 ≤ 13 by omega), (show (0 + 7) + 0 ≤ 273 by omega)⟩) (fun r_32 hw_32 => ?_)
  subst hw_32
  refine tp_i (y := nI M) eM ?_
  have hPc := hP.sub (ws' := [(h1, .inr (1, [.int 0, .null, .null, .null, .null, .null, .int 0]))]) [1] rfl
  have hDc := hD.sub (ws' := [(h1, .inr (1, [.int 0, .null, .null, .null, .null, .null, .int 0]))]) [1] (by decide) rfl
  have hFc := va_free (wc := [(h1, .inr (1, [.int 0, .null, .null, .null, .null, .null, .int 0]))]) hD hS hA [1] rfl
  refine va_callv (va_runI (As := [.int (nI N), .int (nI M)]) (rest := [.ref h1, .ref h]) ⟨hx, hb, hml, hown, hts⟩ (k_Net_init l dC dI cI cJ cZ h1 N M H.size hM) (cwI 2 hts gX2_init_X1_init rfl rfl rfl (hts _ fa_FlowProofs_init_9) (hts _ fa_FlowProofs_init_10) (hts _ fa_FlowProofs_init_11) rfl (by decide +kernel) ⟨Nat.le_of_ble_eq_true rfl, Nat.le_of_ble_eq_true rfl⟩) ⟨fun a U g mk q => by obtain ⟨q0, q1, qP, qK, qD⟩ := q; exact ⟨q0, q1, qP, va_K.moved (u := U) (U := U.calling g mk a) (Vm.Alike.refl U.vm) qK, qD⟩, fun U hU hW => ⟨rfl, by rw [hU], by rw [hU]; exact hPc, va_K.moved hW.alike hK, hDc.weaken (fun _ _ _ _ => trivial)⟩⟩ rfl rfl hl.1 rfl (lv_room (Nat.le_of_ble_eq_true rfl)) dX2_init_35 ⟨(show (0 + 1) + 5 ≤ 13 by omega), (show (0 + 7) + 200 ≤ 273 by omega)⟩) hS (fun q _ h => hFc q h) hFc (fun v1 t H1 locs ht hvm hw_35 hB hz1 hk1 hS => ?_)
  obtain ⟨hP1, hK1, hD1⟩ := hB
  rw [ht] at hP1
  obtain ⟨hP, hD⟩ := va_join (wr := [(h, .inr (2, [.null, .null, .null, .null, .int 0, .int (-1), .int (-1), .int 0, .int 0, .int 0, .int 0]))]) (w1 := [(h1, .inr (1, [.int (nI N), .ref v1.1, .ref v1.2.1, .ref v1.2.2.1, .ref v1.2.2.2.1, .ref v1.2.2.2.2, .int 0])), (v1.1, .inl (cI, M, .inl (fun _ => 0))), (v1.2.1, .inl (cI, M, .inl (fun _ => 0))), (v1.2.2.1, .inl (cI, M, .inl (fun _ => 0))), (v1.2.2.2.1, .inl (cI, M, .inl (fun _ => 0))), (v1.2.2.2.2, .inl (cI, M, .inl (fun _ => 0)))]) hP hD [1] [0] rfl rfl (by decide) (by decide) hk1 hFc hP1 hD1
  generalize H1 = H at hP hS ⊢
  have hP := hP.sub (ws' := [(h, .inr (2, [.null, .null, .null, .null, .int 0, .int (-1), .int (-1), .int 0, .int 0, .int 0, .int 0])), (h1, .inr (1, [.int (nI N), .ref v1.1, .ref v1.2.1, .ref v1.2.2.1, .ref v1.2.2.2.1, .ref v1.2.2.2.2, .int 0])), (v1.1, .inl (cI, M, .inl (fun _ => 0))), (v1.2.1, .inl (cI, M, .inl (fun _ => 0))), (v1.2.2.1, .inl (cI, M, .inl (fun _ => 0))), (v1.2.2.2.1, .inl (cI, M, .inl (fun _ => 0))), (v1.2.2.2.2, .inl (cI, M, .inl (fun _ => 0)))]) [0, 1, 2, 3, 4, 5, 6] rfl
  have hD := hD.sub (ws' := [(h, .inr (2, [.null, .null, .null, .null, .int 0, .int (-1), .int (-1), .int 0, .int 0, .int 0, .int 0])), (h1, .inr (1, [.int (nI N), .ref v1.1, .ref v1.2.1, .ref v1.2.2.1, .ref v1.2.2.2.1, .ref v1.2.2.2.2, .int 0])), (v1.1, .inl (cI, M, .inl (fun _ => 0))), (v1.2.1, .inl (cI, M, .inl (fun _ => 0))), (v1.2.2.1, .inl (cI, M, .inl (fun _ => 0))), (v1.2.2.2.1, .inl (cI, M, .inl (fun _ => 0))), (v1.2.2.2.2, .inl (cI, M, .inl (fun _ => 0)))]) [0, 1, 2, 3, 4, 5, 6] (by decide) rfl
  refine va_putF (D := (dC, dI)) (ci := 2) (v := .ref h1) (ty := .object "FlowProofs$Net") (C := RX2) (T := TX2) (N := 11) hx hb hts fa_FlowProofs_init_3 tyX2 tyX2_ok nmX2 hown hK hP hD hS 0 rfl rfl 0 (by decide) (hts _ fa_FlowProofs_init_12) (fun _ h9 => h9) rfl hin rfl (by decide +kernel) rfl rfl (Nat.le_of_ble_eq_true rfl) dX2_init_38 (fun H locs hP hD hS => ?_)
  have hP : va_P (dC, dI) vwCl [(h, .inr (2, [.ref h1, .null, .null, .null, .int 0, .int (-1), .int (-1), .int 0, .int 0, .int 0, .int 0])), (h1, .inr (1, [.int (nI N), .ref v1.1, .ref v1.2.1, .ref v1.2.2.1, .ref v1.2.2.2.1, .ref v1.2.2.2.2, .int 0])), (v1.1, .inl (cI, M, .inl (fun _ => 0))), (v1.2.1, .inl (cI, M, .inl (fun _ => 0))), (v1.2.2.1, .inl (cI, M, .inl (fun _ => 0))), (v1.2.2.2.1, .inl (cI, M, .inl (fun _ => 0))), (v1.2.2.2.2, .inl (cI, M, .inl (fun _ => 0)))] H := hP
  have hD : va_D A [(h, .inr (2, [.ref h1, .null, .null, .null, .int 0, .int (-1), .int (-1), .int 0, .int 0, .int 0, .int 0])), (h1, .inr (1, [.int (nI N), .ref v1.1, .ref v1.2.1, .ref v1.2.2.1, .ref v1.2.2.2.1, .ref v1.2.2.2.2, .int 0])), (v1.1, .inl (cI, M, .inl (fun _ => 0))), (v1.2.1, .inl (cI, M, .inl (fun _ => 0))), (v1.2.2.1, .inl (cI, M, .inl (fun _ => 0))), (v1.2.2.2.1, .inl (cI, M, .inl (fun _ => 0))), (v1.2.2.2.2, .inl (cI, M, .inl (fun _ => 0)))] := hD
  refine lv_aload_n hx hb dX2_init_41 rfl (lv_at hl 1 rfl) ?_
  refine va_new (ci := 0) (fs := [.null, .null, .null]) (C := RX0) (T := TX0) (N := 3) hx hb hts fa_FlowProofs_init_13 tyX0 tyX0_ok hown (hts _ fa_FlowProofs_init_14) (hts _ fa_FlowProofs_init_15) (hts _ fa_FlowProofs_init_16) hK hP hD hS hA rfl (fun j hj => by rcases (show j = 0 ∨ j = 1 ∨ j = 2 by omega) with rfl | rfl | rfl <;> rfl) (show ((0 + 1) + 5) + 1 ≤ 13 by omega) (show ((0 + 7) + 200) + 3 ≤ 273 by omega) dX2_init_42 (fun h7 H hP hD hS => ?_)
  have hP : va_P (dC, dI) vwCl [(h, .inr (2, [.ref h1, .null, .null, .null, .int 0, .int (-1), .int (-1), .int 0, .int 0, .int 0, .int 0])), (h1, .inr (1, [.int (nI N), .ref v1.1, .ref v1.2.1, .ref v1.2.2.1, .ref v1.2.2.2.1, .ref v1.2.2.2.2, .int 0])), (v1.1, .inl (cI, M, .inl (fun _ => 0))), (v1.2.1, .inl (cI, M, .inl (fun _ => 0))), (v1.2.2.1, .inl (cI, M, .inl (fun _ => 0))), (v1.2.2.2.1, .inl (cI, M, .inl (fun _ => 0))), (v1.2.2.2.2, .inl (cI, M, .inl (fun _ => 0))), (h7, .inr (0, [.null, .null, .null]))] H := hP
  have hD : va_D A [(h, .inr (2, [.ref h1, .null, .null, .null, .int 0, .int (-1), .int (-1), .int 0, .int 0, .int 0, .int 0])), (h1, .inr (1, [.int (nI N), .ref v1.1, .ref v1.2.1, .ref v1.2.2.1, .ref v1.2.2.2.1, .ref v1.2.2.2.2, .int 0])), (v1.1, .inl (cI, M, .inl (fun _ => 0))), (v1.2.1, .inl (cI, M, .inl (fun _ => 0))), (v1.2.2.1, .inl (cI, M, .inl (fun _ => 0))), (v1.2.2.2.1, .inl (cI, M, .inl (fun _ => 0))), (v1.2.2.2.2, .inl (cI, M, .inl (fun _ => 0))), (h7, .inr (0, [.null, .null, .null]))] := hD
  refine lv_dup hx hb dX2_init_45 rfl ?_
  refine lv_aload_n hx hb dX2_init_46 rfl (lv_at hl 1 rfl) ?_
  refine va_get (D := (dC, dI)) (ci := 2) (v := .ref h1) (C := RX2) (T := TX2) (N := 11) hx hb hts fa_FlowProofs_init_3 hown hK hP 0 rfl rfl 0 (by decide) (hts _ fa_FlowProofs_init_12) (fun _ h9 => h9) rfl dX2_init_47 ?_
  have hPc := hP.sub (ws' := [(h7, .inr (0, [.null, .null, .null])), (h1, .inr (1, [.int (nI N), .ref v1.1, .ref v1.2.1, .ref v1.2.2.1, .ref v1.2.2.2.1, .ref v1.2.2.2.2, .int 0]))]) [7, 1] rfl
  have hDc := hD.sub (ws' := [(h7, .inr (0, [.null, .null, .null])), (h1, .inr (1, [.int (nI N), .ref v1.1, .ref v1.2.1, .ref v1.2.2.1, .ref v1.2.2.2.1, .ref v1.2.2.2.2, .int 0]))]) [7, 1] (by decide) rfl
  have hFc := va_free (wc := [(h7, .inr (0, [.null, .null, .null])), (h1, .inr (1, [.int (nI N), .ref v1.1, .ref v1.2.1, .ref v1.2.2.1, .ref v1.2.2.2.1, .ref v1.2.2.2.2, .int 0]))]) hD hS hA [7, 1] rfl
  refine va_callv (va_runI (As := [.ref h1]) (rest := [.ref h7, .ref h]) ⟨hx, hb, hml, hown, hts⟩ (k_Dist_init l dC dI cI cJ cZ h7 h1 N (.ref v1.1) (.ref v1.2.1) (.ref v1.2.2.1) (.ref v1.2.2.2.1) (.ref v1.2.2.2.2) (.int 0) H.size hN) (cwI 1 hts gX2_init_X0_init rfl rfl rfl (hts _ fa_FlowProofs_init_16) (hts _ fa_FlowProofs_init_17) (hts _ fa_FlowProofs_init_18) rfl (by decide +kernel) ⟨Nat.le_of_ble_eq_true rfl, Nat.le_of_ble_eq_true rfl⟩) ⟨fun a U g mk q => by obtain ⟨q0, q1, qP, qK, qD⟩ := q; exact ⟨q0, q1, qP, va_K.moved (u := U) (U := U.calling g mk a) (Vm.Alike.refl U.vm) qK, qD⟩, fun U hU hW => ⟨rfl, by rw [hU], by rw [hU]; exact hPc, va_K.moved hW.alike hK, hDc.weaken (fun _ _ _ _ => trivial)⟩⟩ rfl rfl hl.1 rfl (lv_room (Nat.le_of_ble_eq_true rfl)) dX2_init_50 ⟨(show (((0 + 1) + 5) + 1) + 2 ≤ 13 by omega), (show (((0 + 7) + 200) + 3) + 24 ≤ 273 by omega)⟩) hS (fun q _ h => hFc q h) hFc (fun v7 t H1 locs ht hvm hw_50 hB hz1 hk1 hS => ?_)
  obtain ⟨hP1, hK1, hD1⟩ := hB
  rw [ht] at hP1
  obtain ⟨hP, hD⟩ := va_join (wr := [(h, .inr (2, [.ref h1, .null, .null, .null, .int 0, .int (-1), .int (-1), .int 0, .int 0, .int 0, .int 0])), (v1.1, .inl (cI, M, .inl (fun _ => 0))), (v1.2.1, .inl (cI, M, .inl (fun _ => 0))), (v1.2.2.1, .inl (cI, M, .inl (fun _ => 0))), (v1.2.2.2.1, .inl (cI, M, .inl (fun _ => 0))), (v1.2.2.2.2, .inl (cI, M, .inl (fun _ => 0)))]) (w1 := [(h7, .inr (0, [.ref v7.1, .ref v7.2, .ref h1])), (h1, .inr (1, [.int (nI N), .ref v1.1, .ref v1.2.1, .ref v1.2.2.1, .ref v1.2.2.2.1, .ref v1.2.2.2.2, .int 0])), (v7.1, .inl (cI, N, .inl (fun _ => 0))), (v7.2, .inl (cI, N, .inl (fun _ => 0)))]) hP hD [7, 1] [0, 2, 3, 4, 5, 6] rfl rfl (by decide) (by decide) hk1 hFc hP1 hD1
  generalize H1 = H at hP hS ⊢
  have hP := hP.sub (ws' := [(h, .inr (2, [.ref h1, .null, .null, .null, .int 0, .int (-1), .int (-1), .int 0, .int 0, .int 0, .int 0])), (h1, .inr (1, [.int (nI N), .ref v1.1, .ref v1.2.1, .ref v1.2.2.1, .ref v1.2.2.2.1, .ref v1.2.2.2.2, .int 0])), (v1.1, .inl (cI, M, .inl (fun _ => 0))), (v1.2.1, .inl (cI, M, .inl (fun _ => 0))), (v1.2.2.1, .inl (cI, M, .inl (fun _ => 0))), (v1.2.2.2.1, .inl (cI, M, .inl (fun _ => 0))), (v1.2.2.2.2, .inl (cI, M, .inl (fun _ => 0))), (h7, .inr (0, [.ref v7.1, .ref v7.2, .ref h1])), (v7.1, .inl (cI, N, .inl (fun _ => 0))), (v7.2, .inl (cI, N, .inl (fun _ => 0)))]) [0, 7, 1, 2, 3, 4, 5, 6, 8, 9] rfl
  have hD := hD.sub (ws' := [(h, .inr (2, [.ref h1, .null, .null, .null, .int 0, .int (-1), .int (-1), .int 0, .int 0, .int 0, .int 0])), (h1, .inr (1, [.int (nI N), .ref v1.1, .ref v1.2.1, .ref v1.2.2.1, .ref v1.2.2.2.1, .ref v1.2.2.2.2, .int 0])), (v1.1, .inl (cI, M, .inl (fun _ => 0))), (v1.2.1, .inl (cI, M, .inl (fun _ => 0))), (v1.2.2.1, .inl (cI, M, .inl (fun _ => 0))), (v1.2.2.2.1, .inl (cI, M, .inl (fun _ => 0))), (v1.2.2.2.2, .inl (cI, M, .inl (fun _ => 0))), (h7, .inr (0, [.ref v7.1, .ref v7.2, .ref h1])), (v7.1, .inl (cI, N, .inl (fun _ => 0))), (v7.2, .inl (cI, N, .inl (fun _ => 0)))]) [0, 7, 1, 2, 3, 4, 5, 6, 8, 9] (by decide) rfl
  refine va_putF (D := (dC, dI)) (ci := 2) (v := .ref h7) (ty := .object "FlowProofs$Distances") (C := RX2) (T := TX2) (N := 11) hx hb hts fa_FlowProofs_init_3 tyX2 tyX2_ok nmX2 hown hK hP hD hS 0 rfl rfl 1 (by decide) (hts _ fa_FlowProofs_init_19) (fun _ h9 => h9) rfl hin rfl (by decide +kernel) rfl rfl (Nat.le_of_ble_eq_true rfl) dX2_init_53 (fun H locs hP hD hS => ?_)
  have hP : va_P (dC, dI) vwCl [(h, .inr (2, [.ref h1, .ref h7, .null, .null, .int 0, .int (-1), .int (-1), .int 0, .int 0, .int 0, .int 0])), (h1, .inr (1, [.int (nI N), .ref v1.1, .ref v1.2.1, .ref v1.2.2.1, .ref v1.2.2.2.1, .ref v1.2.2.2.2, .int 0])), (v1.1, .inl (cI, M, .inl (fun _ => 0))), (v1.2.1, .inl (cI, M, .inl (fun _ => 0))), (v1.2.2.1, .inl (cI, M, .inl (fun _ => 0))), (v1.2.2.2.1, .inl (cI, M, .inl (fun _ => 0))), (v1.2.2.2.2, .inl (cI, M, .inl (fun _ => 0))), (h7, .inr (0, [.ref v7.1, .ref v7.2, .ref h1])), (v7.1, .inl (cI, N, .inl (fun _ => 0))), (v7.2, .inl (cI, N, .inl (fun _ => 0)))] H := hP
  have hD : va_D A [(h, .inr (2, [.ref h1, .ref h7, .null, .null, .int 0, .int (-1), .int (-1), .int 0, .int 0, .int 0, .int 0])), (h1, .inr (1, [.int (nI N), .ref v1.1, .ref v1.2.1, .ref v1.2.2.1, .ref v1.2.2.2.1, .ref v1.2.2.2.2, .int 0])), (v1.1, .inl (cI, M, .inl (fun _ => 0))), (v1.2.1, .inl (cI, M, .inl (fun _ => 0))), (v1.2.2.1, .inl (cI, M, .inl (fun _ => 0))), (v1.2.2.2.1, .inl (cI, M, .inl (fun _ => 0))), (v1.2.2.2.2, .inl (cI, M, .inl (fun _ => 0))), (h7, .inr (0, [.ref v7.1, .ref v7.2, .ref h1])), (v7.1, .inl (cI, N, .inl (fun _ => 0))), (v7.2, .inl (cI, N, .inl (fun _ => 0)))] := hD
  refine lv_aload_n hx hb dX2_init_56 rfl (lv_at hl 1 rfl) ?_
  refine va_new (ci := 0) (fs := [.null, .null, .null]) (C := RX0) (T := TX0) (N := 3) hx hb hts fa_FlowProofs_init_13 tyX0 tyX0_ok hown (hts _ fa_FlowProofs_init_14) (hts _ fa_FlowProofs_init_15) (hts _ fa_FlowProofs_init_16) hK hP hD hS hA rfl (fun j hj => by rcases (show j = 0 ∨ j = 1 ∨ j = 2 by omega) with rfl | rfl | rfl <;> rfl) (show ((((0 + 1) + 5) + 1) + 2) + 1 ≤ 13 by omega) (show ((((0 + 7) + 200) + 3) + 24) + 3 ≤ 273 by omega) dX2_init_57 (fun h10 H hP hD hS => ?_)
  have hP : va_P (dC, dI) vwCl [(h, .inr (2, [.ref h1, .ref h7, .null, .null, .int 0, .int (-1), .int (-1), .int 0, .int 0, .int 0, .int 0])), (h1, .inr (1, [.int (nI N), .ref v1.1, .ref v1.2.1, .ref v1.2.2.1, .ref v1.2.2.2.1, .ref v1.2.2.2.2, .int 0])), (v1.1, .inl (cI, M, .inl (fun _ => 0))), (v1.2.1, .inl (cI, M, .inl (fun _ => 0))), (v1.2.2.1, .inl (cI, M, .inl (fun _ => 0))), (v1.2.2.2.1, .inl (cI, M, .inl (fun _ => 0))), (v1.2.2.2.2, .inl (cI, M, .inl (fun _ => 0))), (h7, .inr (0, [.ref v7.1, .ref v7.2, .ref h1])), (v7.1, .inl (cI, N, .inl (fun _ => 0))), (v7.2, .inl (cI, N, .inl (fun _ => 0))), (h10, .inr (0, [.null, .null, .null]))] H := hP
  have hD : va_D A [(h, .inr (2, [.ref h1, .ref h7, .null, .null, .int 0, .int (-1), .int (-1), .int 0, .int 0, .int 0, .int 0])), (h1, .inr (1, [.int (nI N), .ref v1.1, .ref v1.2.1, .ref v1.2.2.1, .ref v1.2.2.2.1, .ref v1.2.2.2.2, .int 0])), (v1.1, .inl (cI, M, .inl (fun _ => 0))), (v1.2.1, .inl (cI, M, .inl (fun _ => 0))), (v1.2.2.1, .inl (cI, M, .inl (fun _ => 0))), (v1.2.2.2.1, .inl (cI, M, .inl (fun _ => 0))), (v1.2.2.2.2, .inl (cI, M, .inl (fun _ => 0))), (h7, .inr (0, [.ref v7.1, .ref v7.2, .ref h1])), (v7.1, .inl (cI, N, .inl (fun _ => 0))), (v7.2, .inl (cI, N, .inl (fun _ => 0))), (h10, .inr (0, [.null, .null, .null]))] := hD
  refine lv_dup hx hb dX2_init_60 rfl ?_
  refine lv_aload_n hx hb dX2_init_61 rfl (lv_at hl 1 rfl) ?_
  refine va_get (D := (dC, dI)) (ci := 2) (v := .ref h1) (C := RX2) (T := TX2) (N := 11) hx hb hts fa_FlowProofs_init_3 hown hK hP 0 rfl rfl 0 (by decide) (hts _ fa_FlowProofs_init_12) (fun _ h9 => h9) rfl dX2_init_62 ?_
  have hPc := hP.sub (ws' := [(h10, .inr (0, [.null, .null, .null])), (h1, .inr (1, [.int (nI N), .ref v1.1, .ref v1.2.1, .ref v1.2.2.1, .ref v1.2.2.2.1, .ref v1.2.2.2.2, .int 0]))]) [10, 1] rfl
  have hDc := hD.sub (ws' := [(h10, .inr (0, [.null, .null, .null])), (h1, .inr (1, [.int (nI N), .ref v1.1, .ref v1.2.1, .ref v1.2.2.1, .ref v1.2.2.2.1, .ref v1.2.2.2.2, .int 0]))]) [10, 1] (by decide) rfl
  have hFc := va_free (wc := [(h10, .inr (0, [.null, .null, .null])), (h1, .inr (1, [.int (nI N), .ref v1.1, .ref v1.2.1, .ref v1.2.2.1, .ref v1.2.2.2.1, .ref v1.2.2.2.2, .int 0]))]) hD hS hA [10, 1] rfl
  refine va_callv (va_runI (As := [.ref h1]) (rest := [.ref h10, .ref h]) ⟨hx, hb, hml, hown, hts⟩ (k_Dist_init l dC dI cI cJ cZ h10 h1 N (.ref v1.1) (.ref v1.2.1) (.ref v1.2.2.1) (.ref v1.2.2.2.1) (.ref v1.2.2.2.2) (.int 0) H.size hN) (cwI 1 hts gX2_init_X0_init rfl rfl rfl (hts _ fa_FlowProofs_init_16) (hts _ fa_FlowProofs_init_17) (hts _ fa_FlowProofs_init_18) rfl (by decide +kernel) ⟨Nat.le_of_ble_eq_true rfl, Nat.le_of_ble_eq_true rfl⟩) ⟨fun a U g mk q => by obtain ⟨q0, q1, qP, qK, qD⟩ := q; exact ⟨q0, q1, qP, va_K.moved (u := U) (U := U.calling g mk a) (Vm.Alike.refl U.vm) qK, qD⟩, fun U hU hW => ⟨rfl, by rw [hU], by rw [hU]; exact hPc, va_K.moved hW.alike hK, hDc.weaken (fun _ _ _ _ => trivial)⟩⟩ rfl rfl hl.1 rfl (lv_room (Nat.le_of_ble_eq_true rfl)) dX2_init_65 ⟨(show (((((0 + 1) + 5) + 1) + 2) + 1) + 2 ≤ 13 by omega), (show (((((0 + 7) + 200) + 3) + 24) + 3) + 24 ≤ 273 by omega)⟩) hS (fun q _ h => hFc q h) hFc (fun v10 t H1 locs ht hvm hw_65 hB hz1 hk1 hS => ?_)
  obtain ⟨hP1, hK1, hD1⟩ := hB
  rw [ht] at hP1
  obtain ⟨hP, hD⟩ := va_join (wr := [(h, .inr (2, [.ref h1, .ref h7, .null, .null, .int 0, .int (-1), .int (-1), .int 0, .int 0, .int 0, .int 0])), (v1.1, .inl (cI, M, .inl (fun _ => 0))), (v1.2.1, .inl (cI, M, .inl (fun _ => 0))), (v1.2.2.1, .inl (cI, M, .inl (fun _ => 0))), (v1.2.2.2.1, .inl (cI, M, .inl (fun _ => 0))), (v1.2.2.2.2, .inl (cI, M, .inl (fun _ => 0))), (h7, .inr (0, [.ref v7.1, .ref v7.2, .ref h1])), (v7.1, .inl (cI, N, .inl (fun _ => 0))), (v7.2, .inl (cI, N, .inl (fun _ => 0)))]) (w1 := [(h10, .inr (0, [.ref v10.1, .ref v10.2, .ref h1])), (h1, .inr (1, [.int (nI N), .ref v1.1, .ref v1.2.1, .ref v1.2.2.1, .ref v1.2.2.2.1, .ref v1.2.2.2.2, .int 0])), (v10.1, .inl (cI, N, .inl (fun _ => 0))), (v10.2, .inl (cI, N, .inl (fun _ => 0)))]) hP hD [10, 1] [0, 2, 3, 4, 5, 6, 7, 8, 9] rfl rfl (by decide) (by decide) hk1 hFc hP1 hD1
  generalize H1 = H at hP hS ⊢
  have hP := hP.sub (ws' := [(h, .inr (2, [.ref h1, .ref h7, .null, .null, .int 0, .int (-1), .int (-1), .int 0, .int 0, .int 0, .int 0])), (h1, .inr (1, [.int (nI N), .ref v1.1, .ref v1.2.1, .ref v1.2.2.1, .ref v1.2.2.2.1, .ref v1.2.2.2.2, .int 0])), (v1.1, .inl (cI, M, .inl (fun _ => 0))), (v1.2.1, .inl (cI, M, .inl (fun _ => 0))), (v1.2.2.1, .inl (cI, M, .inl (fun _ => 0))), (v1.2.2.2.1, .inl (cI, M, .inl (fun _ => 0))), (v1.2.2.2.2, .inl (cI, M, .inl (fun _ => 0))), (h7, .inr (0, [.ref v7.1, .ref v7.2, .ref h1])), (v7.1, .inl (cI, N, .inl (fun _ => 0))), (v7.2, .inl (cI, N, .inl (fun _ => 0))), (h10, .inr (0, [.ref v10.1, .ref v10.2, .ref h1])), (v10.1, .inl (cI, N, .inl (fun _ => 0))), (v10.2, .inl (cI, N, .inl (fun _ => 0)))]) [0, 10, 1, 2, 3, 4, 5, 6, 7, 8, 9, 11, 12] rfl
  have hD := hD.sub (ws' := [(h, .inr (2, [.ref h1, .ref h7, .null, .null, .int 0, .int (-1), .int (-1), .int 0, .int 0, .int 0, .int 0])), (h1, .inr (1, [.int (nI N), .ref v1.1, .ref v1.2.1, .ref v1.2.2.1, .ref v1.2.2.2.1, .ref v1.2.2.2.2, .int 0])), (v1.1, .inl (cI, M, .inl (fun _ => 0))), (v1.2.1, .inl (cI, M, .inl (fun _ => 0))), (v1.2.2.1, .inl (cI, M, .inl (fun _ => 0))), (v1.2.2.2.1, .inl (cI, M, .inl (fun _ => 0))), (v1.2.2.2.2, .inl (cI, M, .inl (fun _ => 0))), (h7, .inr (0, [.ref v7.1, .ref v7.2, .ref h1])), (v7.1, .inl (cI, N, .inl (fun _ => 0))), (v7.2, .inl (cI, N, .inl (fun _ => 0))), (h10, .inr (0, [.ref v10.1, .ref v10.2, .ref h1])), (v10.1, .inl (cI, N, .inl (fun _ => 0))), (v10.2, .inl (cI, N, .inl (fun _ => 0)))]) [0, 10, 1, 2, 3, 4, 5, 6, 7, 8, 9, 11, 12] (by decide) rfl
  refine va_putF (D := (dC, dI)) (ci := 2) (v := .ref h10) (ty := .object "FlowProofs$Distances") (C := RX2) (T := TX2) (N := 11) hx hb hts fa_FlowProofs_init_3 tyX2 tyX2_ok nmX2 hown hK hP hD hS 0 rfl rfl 2 (by decide) (hts _ fa_FlowProofs_init_20) (fun _ h9 => h9) rfl hin rfl (by decide +kernel) rfl rfl (Nat.le_of_ble_eq_true rfl) dX2_init_68 (fun H locs hP hD hS => ?_)
  have hP : va_P (dC, dI) vwCl [(h, .inr (2, [.ref h1, .ref h7, .ref h10, .null, .int 0, .int (-1), .int (-1), .int 0, .int 0, .int 0, .int 0])), (h1, .inr (1, [.int (nI N), .ref v1.1, .ref v1.2.1, .ref v1.2.2.1, .ref v1.2.2.2.1, .ref v1.2.2.2.2, .int 0])), (v1.1, .inl (cI, M, .inl (fun _ => 0))), (v1.2.1, .inl (cI, M, .inl (fun _ => 0))), (v1.2.2.1, .inl (cI, M, .inl (fun _ => 0))), (v1.2.2.2.1, .inl (cI, M, .inl (fun _ => 0))), (v1.2.2.2.2, .inl (cI, M, .inl (fun _ => 0))), (h7, .inr (0, [.ref v7.1, .ref v7.2, .ref h1])), (v7.1, .inl (cI, N, .inl (fun _ => 0))), (v7.2, .inl (cI, N, .inl (fun _ => 0))), (h10, .inr (0, [.ref v10.1, .ref v10.2, .ref h1])), (v10.1, .inl (cI, N, .inl (fun _ => 0))), (v10.2, .inl (cI, N, .inl (fun _ => 0)))] H := hP
  have hD : va_D A [(h, .inr (2, [.ref h1, .ref h7, .ref h10, .null, .int 0, .int (-1), .int (-1), .int 0, .int 0, .int 0, .int 0])), (h1, .inr (1, [.int (nI N), .ref v1.1, .ref v1.2.1, .ref v1.2.2.1, .ref v1.2.2.2.1, .ref v1.2.2.2.2, .int 0])), (v1.1, .inl (cI, M, .inl (fun _ => 0))), (v1.2.1, .inl (cI, M, .inl (fun _ => 0))), (v1.2.2.1, .inl (cI, M, .inl (fun _ => 0))), (v1.2.2.2.1, .inl (cI, M, .inl (fun _ => 0))), (v1.2.2.2.2, .inl (cI, M, .inl (fun _ => 0))), (h7, .inr (0, [.ref v7.1, .ref v7.2, .ref h1])), (v7.1, .inl (cI, N, .inl (fun _ => 0))), (v7.2, .inl (cI, N, .inl (fun _ => 0))), (h10, .inr (0, [.ref v10.1, .ref v10.2, .ref h1])), (v10.1, .inl (cI, N, .inl (fun _ => 0))), (v10.2, .inl (cI, N, .inl (fun _ => 0)))] := hD
  refine lv_aload_n hx hb dX2_init_71 rfl (lv_at hl 1 rfl) ?_
  refine lv_iload_n hx hb dX2_init_72 rfl (lv_at hl 0 rfl) ?_
  refine va_newa (D := (dC, dI)) (atype := .int) (ty := .int) (a0 := (N, .inl (fun _ => 0))) hx hb (hts _ fa_FlowProofs_init_21) rfl hK hP hD hS hA (fun _ => rfl) (nI_pos (by omega)) (nI_clamp (n := N) (by omega)) (show N * 4 ≤ 536870912 by omega) (show ((((((0 + 1) + 5) + 1) + 2) + 1) + 2) + 1 ≤ 13 by omega) (show ((((((0 + 7) + 200) + 3) + 24) + 3) + 24) + N ≤ 273 by omega) dX2_init_73 (fun a13 cA H hK2 hP hD hS => ?_)
  have ecA : cI = cA := Option.some.inj (((hK2.2 0 _ rfl).2).symm.trans ((hK2.2 3 _ rfl).2))
  subst ecA
  have hP : va_P (dC, dI) vwCl [(h, .inr (2, [.ref h1, .ref h7, .ref h10, .null, .int 0, .int (-1), .int (-1), .int 0, .int 0, .int 0, .int 0])), (h1, .inr (1, [.int (nI N), .ref v1.1, .ref v1.2.1, .ref v1.2.2.1, .ref v1.2.2.2.1, .ref v1.2.2.2.2, .int 0])), (v1.1, .inl (cI, M, .inl (fun _ => 0))), (v1.2.1, .inl (cI, M, .inl (fun _ => 0))), (v1.2.2.1, .inl (cI, M, .inl (fun _ => 0))), (v1.2.2.2.1, .inl (cI, M, .inl (fun _ => 0))), (v1.2.2.2.2, .inl (cI, M, .inl (fun _ => 0))), (h7, .inr (0, [.ref v7.1, .ref v7.2, .ref h1])), (v7.1, .inl (cI, N, .inl (fun _ => 0))), (v7.2, .inl (cI, N, .inl (fun _ => 0))), (h10, .inr (0, [.ref v10.1, .ref v10.2, .ref h1])), (v10.1, .inl (cI, N, .inl (fun _ => 0))), (v10.2, .inl (cI, N, .inl (fun _ => 0))), (a13, .inl (cI, N, .inl (fun _ => 0)))] H := hP
  have hD : va_D A [(h, .inr (2, [.ref h1, .ref h7, .ref h10, .null, .int 0, .int (-1), .int (-1), .int 0, .int 0, .int 0, .int 0])), (h1, .inr (1, [.int (nI N), .ref v1.1, .ref v1.2.1, .ref v1.2.2.1, .ref v1.2.2.2.1, .ref v1.2.2.2.2, .int 0])), (v1.1, .inl (cI, M, .inl (fun _ => 0))), (v1.2.1, .inl (cI, M, .inl (fun _ => 0))), (v1.2.2.1, .inl (cI, M, .inl (fun _ => 0))), (v1.2.2.2.1, .inl (cI, M, .inl (fun _ => 0))), (v1.2.2.2.2, .inl (cI, M, .inl (fun _ => 0))), (h7, .inr (0, [.ref v7.1, .ref v7.2, .ref h1])), (v7.1, .inl (cI, N, .inl (fun _ => 0))), (v7.2, .inl (cI, N, .inl (fun _ => 0))), (h10, .inr (0, [.ref v10.1, .ref v10.2, .ref h1])), (v10.1, .inl (cI, N, .inl (fun _ => 0))), (v10.2, .inl (cI, N, .inl (fun _ => 0))), (a13, .inl (cI, N, .inl (fun _ => 0)))] := hD
  refine va_putF (D := (dC, dI)) (ci := 2) (v := .ref a13) (ty := .array .int) (C := RX2) (T := TX2) (N := 11) hx hb hts fa_FlowProofs_init_3 tyX2 tyX2_ok nmX2 hown hK hP hD hS 0 rfl rfl 3 (by decide) (hts _ fa_FlowProofs_init_22) (fun _ h9 => h9) rfl hin rfl (by decide +kernel) rfl rfl (Nat.le_of_ble_eq_true rfl) dX2_init_75 (fun H locs hP hD hS => ?_)
  have hP : va_P (dC, dI) vwCl [(h, .inr (2, [.ref h1, .ref h7, .ref h10, .ref a13, .int 0, .int (-1), .int (-1), .int 0, .int 0, .int 0, .int 0])), (h1, .inr (1, [.int (nI N), .ref v1.1, .ref v1.2.1, .ref v1.2.2.1, .ref v1.2.2.2.1, .ref v1.2.2.2.2, .int 0])), (v1.1, .inl (cI, M, .inl (fun _ => 0))), (v1.2.1, .inl (cI, M, .inl (fun _ => 0))), (v1.2.2.1, .inl (cI, M, .inl (fun _ => 0))), (v1.2.2.2.1, .inl (cI, M, .inl (fun _ => 0))), (v1.2.2.2.2, .inl (cI, M, .inl (fun _ => 0))), (h7, .inr (0, [.ref v7.1, .ref v7.2, .ref h1])), (v7.1, .inl (cI, N, .inl (fun _ => 0))), (v7.2, .inl (cI, N, .inl (fun _ => 0))), (h10, .inr (0, [.ref v10.1, .ref v10.2, .ref h1])), (v10.1, .inl (cI, N, .inl (fun _ => 0))), (v10.2, .inl (cI, N, .inl (fun _ => 0))), (a13, .inl (cI, N, .inl (fun _ => 0)))] H := hP
  have hD : va_D A [(h, .inr (2, [.ref h1, .ref h7, .ref h10, .ref a13, .int 0, .int (-1), .int (-1), .int 0, .int 0, .int 0, .int 0])), (h1, .inr (1, [.int (nI N), .ref v1.1, .ref v1.2.1, .ref v1.2.2.1, .ref v1.2.2.2.1, .ref v1.2.2.2.2, .int 0])), (v1.1, .inl (cI, M, .inl (fun _ => 0))), (v1.2.1, .inl (cI, M, .inl (fun _ => 0))), (v1.2.2.1, .inl (cI, M, .inl (fun _ => 0))), (v1.2.2.2.1, .inl (cI, M, .inl (fun _ => 0))), (v1.2.2.2.2, .inl (cI, M, .inl (fun _ => 0))), (h7, .inr (0, [.ref v7.1, .ref v7.2, .ref h1])), (v7.1, .inl (cI, N, .inl (fun _ => 0))), (v7.2, .inl (cI, N, .inl (fun _ => 0))), (h10, .inr (0, [.ref v10.1, .ref v10.2, .ref h1])), (v10.1, .inl (cI, N, .inl (fun _ => 0))), (v10.2, .inl (cI, N, .inl (fun _ => 0))), (a13, .inl (cI, N, .inl (fun _ => 0)))] := hD
  have hP9 := hP.sub (ws' := [(h, .inr (2, [.ref h1, .ref h7, .ref h10, .ref a13, .int 0, .int (-1), .int (-1), .int 0, .int 0, .int 0, .int 0])), (h1, .inr (1, [.int (nI N), .ref v1.1, .ref v1.2.1, .ref v1.2.2.1, .ref v1.2.2.2.1, .ref v1.2.2.2.2, .int 0])), (v1.1, .inl (cI, M, .inl (fun _ => 0))), (v1.2.1, .inl (cI, M, .inl (fun _ => 0))), (v1.2.2.1, .inl (cI, M, .inl (fun _ => 0))), (v1.2.2.2.1, .inl (cI, M, .inl (fun _ => 0))), (v1.2.2.2.2, .inl (cI, M, .inl (fun _ => 0))), (h7, .inr (0, [.ref v7.1, .ref v7.2, .ref h1])), (v7.1, .inl (cI, N, .inl (fun _ => 0))), (v7.2, .inl (cI, N, .inl (fun _ => 0))), (h10, .inr (0, [.ref v10.1, .ref v10.2, .ref h1])), (v10.1, .inl (cI, N, .inl (fun _ => 0))), (v10.2, .inl (cI, N, .inl (fun _ => 0))), (a13, .inl (cI, N, .inl (fun _ => 0)))]) [0, 1, 2, 3, 4, 5, 6, 7, 8, 9, 10, 11, 12, 13] rfl
  have hD9 := hD.sub (ws' := [(h, .inr (2, [.ref h1, .ref h7, .ref h10, .ref a13, .int 0, .int (-1), .int (-1), .int 0, .int 0, .int 0, .int 0])), (h1, .inr (1, [.int (nI N), .ref v1.1, .ref v1.2.1, .ref v1.2.2.1, .ref v1.2.2.2.1, .ref v1.2.2.2.2, .int 0])), (v1.1, .inl (cI, M, .inl (fun _ => 0))), (v1.2.1, .inl (cI, M, .inl (fun _ => 0))), (v1.2.2.1, .inl (cI, M, .inl (fun _ => 0))), (v1.2.2.2.1, .inl (cI, M, .inl (fun _ => 0))), (v1.2.2.2.2, .inl (cI, M, .inl (fun _ => 0))), (h7, .inr (0, [.ref v7.1, .ref v7.2, .ref h1])), (v7.1, .inl (cI, N, .inl (fun _ => 0))), (v7.2, .inl (cI, N, .inl (fun _ => 0))), (h10, .inr (0, [.ref v10.1, .ref v10.2, .ref h1])), (v10.1, .inl (cI, N, .inl (fun _ => 0))), (v10.2, .inl (cI, N, .inl (fun _ => 0))), (a13, .inl (cI, N, .inl (fun _ => 0)))]) [0, 1, 2, 3, 4, 5, 6, 7, 8, 9, 10, 11, 12, 13] (by decide) rfl
  refine W.widen (k := 13) (n := 273) (by omega) (by omega) ?_
  exact W.vret hx hb hr (fun t ht hW => ⟨⟨(fun k => ([h, h1, v1.1, v1.2.1, v1.2.2.1, v1.2.2.2.1, v1.2.2.2.2, h7, v7.1, v7.2, h10, v10.1, v10.2, a13] : List Nat).getD k 0), rfl, trivial, by rw [ht]; exact hP9, va_K.moved hW.alike hK, hD9⟩, hS.F ht⟩) hS.2.2 dX2_init_78
