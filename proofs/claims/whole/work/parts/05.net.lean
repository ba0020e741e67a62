set_option maxHeartbeats 4000000 in
set_option maxRecDepth 100000 in
theorem k_isBack (l : Launch) (dC : Nat → ClassId) (dI : Nat → Nat → Nat) (cI cJ cZ : ClassId) (a : Nat) (ha : a < 2 ^ 31) : Met l yX1_isBack wsX1_isBack ({ frames := 0, cells := 0, slots := 0, locals := 0 }) (va_Pc [.int (nI a)] (fun U => va_P (dC, dI) vwCl [] U.heap ∧ va_K (dC, dI) vwCl [(cI, .int), (cJ, .long), (cZ, .boolean)] U)) (vp_Si (fun r => r = (if a % 2 = 0 then (0 : Int32) else 1))) 0 0 (fun _ => False) := by
  refine Met.ofW (cc := cX1_isBack) (maxL := 1) (ret := (some .boolean)) (by decide) rfl ?_
  intro p e s m args below meth c s₁ B hml hv
  obtain ⟨rfl, hP, hK⟩ := hv
  have hx := B.exec
  have hb := B.bytes
  have hr := B.returns
  have hts := atoms_spec (ws := wsX1_isBack) B.pre
  have hown : s.vm.findClass RX1 = some m.cls := findClass_of_methodNamed B.named
  have hlocks := B.notSynchronized
  have hP : va_P (dC, dI) vwCl [] s.heap := hP
  have hl := lv_entry ([.int (nI a)]) (n := 1) (Nat.le_of_ble_eq_true rfl)
  rw [lg_entry_eq]
  generalize (lg_sl ([.int (nI a)]) ++ List.replicate (1 - (lg_sl ([.int (nI a)])).length) Slot.unset).toArray = ls at hl ⊢
  have hl : lv_has ls 1 [(0, .int (nI a))] := hl
  refine lv_iload_n hx hb dX1_isBack_0 rfl (lv_at hl 0 rfl) ?_
  refine lv_iconst (v := 1) hx hb dX1_isBack_1 (by decide) ?_
  refine lv_iand hx hb dX1_isBack_2 ?_
  refine tp_i (y := nI (a % 2)) (and1 ha) ?_
  refine lv_if_eq (tgt := 10) hx hb dX1_isBack_3 (by decide) (fun c_3 => ?_) (fun c_3 => ?_)
  · refine lv_iconst (v := 0) hx hb dX1_isBack_10 (by decide) ?_
    exact W.zret (v := 0) hx hb hr rfl (fun t ht _ => ⟨0, rfl, (by rw [if_pos ((nI_par0 a).mp c_3)]), ht⟩) (fun _ h => by cases h) dX1_isBack_11
  · refine lv_iconst (v := 1) hx hb dX1_isBack_6 (by decide) ?_
    refine lv_goto (tgt := 11) hx hb dX1_isBack_7 (by decide) ?_
    exact W.zret (v := 1) hx hb hr rfl (fun t ht _ => ⟨1, rfl, (by rw [if_neg (fun h => c_3 ((nI_par0 a).mpr h))]), ht⟩) (fun _ h => by cases h) dX1_isBack_11

theorem fa_begin_0 : ∀ w ∈ wsX10, w ∈ wsX1_begin := by decide +kernel
theorem fa_begin_1 : Cond.fieldLink RX1 13 "FlowProofs$Net" "from" "[I" ∈ wsX1_begin := by decide +kernel
theorem fa_begin_2 : Cond.fieldLink RX1 17 "FlowProofs$Net" "to" "[I" ∈ wsX1_begin := by decide +kernel
set_option maxHeartbeats 4000000 in
set_option maxRecDepth 100000 in
theorem k_begin (l : Launch) (dC : Nat → ClassId) (dI : Nat → Nat → Nat) (cI cJ cZ : ClassId) (q : Nat → Nat) (N M E : Nat) (fr to cap uc fl : Nat → Int32) (a : Nat) (ha : a / 2 < M) (hM : M < 1000) : Met l yX1_begin wsX1_begin ({ frames := 1, cells := 0, slots := 0, locals := 20 }) (va_Pc [.ref (q 1), .int (nI a)] (fun U => va_P (dC, dI) vwCl [(q 1, .inr (1, [.int (nI N), .ref (q 2), .ref (q 3), .ref (q 4), .ref (q 5), .ref (q 6), .int (nI E)])), (q 2, .inl (cI, M, .inl fr)), (q 3, .inl (cI, M, .inl to)), (q 4, .inl (cI, M, .inl cap)), (q 5, .inl (cI, M, .inl uc)), (q 6, .inl (cI, M, .inl fl))] U.heap ∧ va_K (dC, dI) vwCl [(cI, .int), (cJ, .long), (cZ, .boolean)] U)) (vp_Si (fun r => r = fp_bg fr to a)) 0 0 (fun _ => False) := by
  refine Met.ofW (cc := cX1_begin) (maxL := 2) (ret := (some .int)) (by decide) rfl ?_
  intro p e s m args below meth c s₁ B hml hv
  obtain ⟨rfl, hP, hK⟩ := hv
  have hx := B.exec
  have hb := B.bytes
  have hr := B.returns
  have hts := atoms_spec (ws := wsX1_begin) B.pre
  have hown : s.vm.findClass RX1 = some m.cls := findClass_of_methodNamed B.named
  have hlocks := B.notSynchronized
  have hP : va_P (dC, dI) vwCl [(q 1, .inr (1, [.int (nI N), .ref (q 2), .ref (q 3), .ref (q 4), .ref (q 5), .ref (q 6), .int (nI E)])), (q 2, .inl (cI, M, .inl fr)), (q 3, .inl (cI, M, .inl to)), (q 4, .inl (cI, M, .inl cap)), (q 5, .inl (cI, M, .inl uc)), (q 6, .inl (cI, M, .inl fl))] s.heap := hP
  have hl := lv_entry ([.ref (q 1), .int (nI a)]) (n := 2) (Nat.le_of_ble_eq_true rfl)
  rw [lg_entry_eq]
  generalize (lg_sl ([.ref (q 1), .int (nI a)]) ++ List.replicate (2 - (lg_sl ([.ref (q 1), .int (nI a)])).length) Slot.unset).toArray = ls at hl ⊢
  have hl : lv_has ls 2 [(0, .ref (q 1)), (1, .int (nI a))] := hl
  refine lv_iload_n hx hb dX1_begin_0 rfl (lv_at hl 1 rfl) ?_
  have hPc := hP.sub (ws' := []) [] rfl
  refine vp_callSi (W.runS (As := [.int (nI a)]) (rest := []) ⟨hx, hb, hml, hown, hts⟩ (k_isBack l dC dI cI cJ cZ a (by omega)) (va_cwS 1 hts gX1_begin_X1_isBack rfl rfl rfl (by decide +kernel) ⟨Nat.le_of_ble_eq_true rfl, Nat.le_of_ble_eq_true rfl⟩) ⟨fun a U g mk q => by obtain ⟨q0, qP, qK⟩ := q; exact ⟨q0, qP, va_K.moved (u := U) (U := U.calling g mk a) (Vm.Alike.refl U.vm) qK⟩, fun U hU hW => ⟨rfl, by rw [hU]; exact hPc, va_K.moved hW.alike hK⟩⟩ rfl rfl hl.1 rfl (lv_room (Nat.le_of_ble_eq_true rfl)) dX1_begin_1 ⟨Nat.le_of_ble_eq_true rfl, Nat.le_of_ble_eq_true rfl⟩) (fun r_1 hw_1 => ?_)
  subst hw_1
  refine lv_if_eq (tgt := 18) hx hb dX1_begin_4 (by decide) (fun c_4 => ?_) (fun c_4 => ?_)
  · refine lv_aload_n hx hb dX1_begin_18 rfl (lv_at hl 0 rfl) ?_
    refine va_get (D := (dC, dI)) (ci := 1) (v := .ref (q 2)) (C := RX1) (T := TX1) (N := 7) hx hb hts fa_begin_0 hown hK hP 0 rfl rfl 1 (by decide) (hts _ fa_begin_1) (fun _ h9 => h9) rfl dX1_begin_19 ?_
    refine lv_iload_n hx hb dX1_begin_22 rfl (lv_at hl 1 rfl) ?_
    refine lv_iconst (v := 1) hx hb dX1_begin_23 (by decide) ?_
    refine lv_ishr hx hb dX1_begin_24 ?_
    refine tp_i (y := nI (a / 2)) (sh1 (by omega)) ?_
    refine va_iald (D := (dC, dI)) hx hb hK hP 1 0 rfl rfl (by first | assumption | exact vp_in_nI (by omega) (by omega)) dX1_begin_25 ?_
    refine tp_i (y := fr (a / 2)) (by rw [nI_clamp (n := a / 2) (by omega)]) ?_
    exact W.iret (v := (fr (a / 2))) hx hb hr (fun t ht _ => ⟨(fr (a / 2)), rfl, (by unfold fp_bg; first | rw [if_pos ((isb0 a).mp c_4)] | rw [if_neg (fun h => c_4 ((isb0 a).mpr h))]), ht⟩) (fun _ h => by cases h) dX1_begin_26
  · refine lv_aload_n hx hb dX1_begin_7 rfl (lv_at hl 0 rfl) ?_
    refine va_get (D := (dC, dI)) (ci := 1) (v := .ref (q 3)) (C := RX1) (T := TX1) (N := 7) hx hb hts fa_begin_0 hown hK hP 0 rfl rfl 2 (by decide) (hts _ fa_begin_2) (fun _ h9 => h9) rfl dX1_begin_8 ?_
    refine lv_iload_n hx hb dX1_begin_11 rfl (lv_at hl 1 rfl) ?_
    refine lv_iconst (v := 1) hx hb dX1_begin_12 (by decide) ?_
    refine lv_ishr hx hb dX1_begin_13 ?_
    refine tp_i (y := nI (a / 2)) (sh1 (by omega)) ?_
    refine va_iald (D := (dC, dI)) hx hb hK hP 2 0 rfl rfl (by first | assumption | exact vp_in_nI (by omega) (by omega)) dX1_begin_14 ?_
    refine tp_i (y := to (a / 2)) (by rw [nI_clamp (n := a / 2) (by omega)]) ?_
    refine lv_goto (tgt := 26) hx hb dX1_begin_15 (by decide) ?_
    exact W.iret (v := (to (a / 2))) hx hb hr (fun t ht _ => ⟨(to (a / 2)), rfl, (by unfold fp_bg; first | rw [if_pos ((isb0 a).mp c_4)] | rw [if_neg (fun h => c_4 ((isb0 a).mpr h))]), ht⟩) (fun _ h => by cases h) dX1_begin_26

theorem fa_end_0 : ∀ w ∈ wsX10, w ∈ wsX1_end := by decide +kernel
theorem fa_end_1 : Cond.fieldLink RX1 17 "FlowProofs$Net" "to" "[I" ∈ wsX1_end := by decide +kernel
theorem fa_end_2 : Cond.fieldLink RX1 13 "FlowProofs$Net" "from" "[I" ∈ wsX1_end := by decide +kernel
set_option maxHeartbeats 4000000 in
set_option maxRecDepth 100000 in
theorem k_end (l : Launch) (dC : Nat → ClassId) (dI : Nat → Nat → Nat) (cI cJ cZ : ClassId) (q : Nat → Nat) (N M E : Nat) (fr to cap uc fl : Nat → Int32) (a : Nat) (ha : a / 2 < M) (hM : M < 1000) : Met l yX1_end wsX1_end ({ frames := 1, cells := 0, slots := 0, locals := 20 }) (va_Pc [.ref (q 1), .int (nI a)] (fun U => va_P (dC, dI) vwCl [(q 1, .inr (1, [.int (nI N), .ref (q 2), .ref (q 3), .ref (q 4), .ref (q 5), .ref (q 6), .int (nI E)])), (q 2, .inl (cI, M, .inl fr)), (q 3, .inl (cI, M, .inl to)), (q 4, .inl (cI, M, .inl cap)), (q 5, .inl (cI, M, .inl uc)), (q 6, .inl (cI, M, .inl fl))] U.heap ∧ va_K (dC, dI) vwCl [(cI, .int), (cJ, .long), (cZ, .boolean)] U)) (vp_Si (fun r => r = fp_en fr to a)) 0 0 (fun _ => False) := by
  refine Met.ofW (cc := cX1_end) (maxL := 2) (ret := (some .int)) (by decide) rfl ?_
  intro p e s m args below meth c s₁ B hml hv
  obtain ⟨rfl, hP, hK⟩ := hv
  have hx := B.exec
  have hb := B.bytes
  have hr := B.returns
  have hts := atoms_spec (ws := wsX1_end) B.pre
  have hown : s.vm.findClass RX1 = some m.cls := findClass_of_methodNamed B.named
  have hlocks := B.notSynchronized
  have hP : va_P (dC, dI) vwCl [(q 1, .inr (1, [.int (nI N), .ref (q 2), .ref (q 3), .ref (q 4), .ref (q 5), .ref (q 6), .int (nI E)])), (q 2, .inl (cI, M, .inl fr)), (q 3, .inl (cI, M, .inl to)), (q 4, .inl (cI, M, .inl cap)), (q 5, .inl (cI, M, .inl uc)), (q 6, .inl (cI, M, .inl fl))] s.heap := hP
  have hl := lv_entry ([.ref (q 1), .int (nI a)]) (n := 2) (Nat.le_of_ble_eq_true rfl)
  rw [lg_entry_eq]
  generalize (lg_sl ([.ref (q 1), .int (nI a)]) ++ List.replicate (2 - (lg_sl ([.ref (q 1), .int (nI a)])).length) Slot.unset).toArray = ls at hl ⊢
  have hl : lv_has ls 2 [(0, .ref (q 1)), (1, .int (nI a))] := hl
  refine lv_iload_n hx hb dX1_end_0 rfl (lv_at hl 1 rfl) ?_
  have hPc := hP.sub (ws' := []) [] rfl
  refine vp_callSi (W.runS (As := [.int (nI a)]) (rest := []) ⟨hx, hb, hml, hown, hts⟩ (k_isBack l dC dI cI cJ cZ a (by omega)) (va_cwS 1 hts gX1_end_X1_isBack rfl rfl rfl (by decide +kernel) ⟨Nat.le_of_ble_eq_true rfl, Nat.le_of_ble_eq_true rfl⟩) ⟨fun a U g mk q => by obtain ⟨q0, qP, qK⟩ := q; exact ⟨q0, qP, va_K.moved (u := U) (U := U.calling g mk a) (Vm.Alike.refl U.vm) qK⟩, fun U hU hW => ⟨rfl, by rw [hU]; exact hPc, va_K.moved hW.alike hK⟩⟩ rfl rfl hl.1 rfl (lv_room (Nat.le_of_ble_eq_true rfl)) dX1_end_1 ⟨Nat.le_of_ble_eq_true rfl, Nat.le_of_ble_eq_true rfl⟩) (fun r_1 hw_1 => ?_)
  subst hw_1
  refine lv_if_eq (tgt := 18) hx hb dX1_end_4 (by decide) (fun c_4 => ?_) (fun c_4 => ?_)
  · refine lv_aload_n hx hb dX1_end_18 rfl (lv_at hl 0 rfl) ?_
    refine va_get (D := (dC, dI)) (ci := 1) (v := .ref (q 3)) (C := RX1) (T := TX1) (N := 7) hx hb hts fa_end_0 hown hK hP 0 rfl rfl 2 (by decide) (hts _ fa_end_1) (fun _ h9 => h9) rfl dX1_end_19 ?_
    refine lv_iload_n hx hb dX1_end_22 rfl (lv_at hl 1 rfl) ?_
    refine lv_iconst (v := 1) hx hb dX1_end_23 (by decide) ?_
    refine lv_ishr hx hb dX1_end_24 ?_
    refine tp_i (y := nI (a / 2)) (sh1 (by omega)) ?_
    refine va_iald (D := (dC, dI)) hx hb hK hP 2 0 rfl rfl (by first | assumption | exact vp_in_nI (by omega) (by omega)) dX1_end_25 ?_
    refine tp_i (y := to (a / 2)) (by rw [nI_clamp (n := a / 2) (by omega)]) ?_
    exact W.iret (v := (to (a / 2))) hx hb hr (fun t ht _ => ⟨(to (a / 2)), rfl, (by unfold fp_en; first | rw [if_pos ((isb0 a).mp c_4)] | rw [if_neg (fun h => c_4 ((isb0 a).mpr h))]), ht⟩) (fun _ h => by cases h) dX1_end_26
  · refine lv_aload_n hx hb dX1_end_7 rfl (lv_at hl 0 rfl) ?_
    refine va_get (D := (dC, dI)) (ci := 1) (v := .ref (q 2)) (C := RX1) (T := TX1) (N := 7) hx hb hts fa_end_0 hown hK hP 0 rfl rfl 1 (by decide) (hts _ fa_end_2) (fun _ h9 => h9) rfl dX1_end_8 ?_
    refine lv_iload_n hx hb dX1_end_11 rfl (lv_at hl 1 rfl) ?_
    refine lv_iconst (v := 1) hx hb dX1_end_12 (by decide) ?_
    refine lv_ishr hx hb dX1_end_13 ?_
    refine tp_i (y := nI (a / 2)) (sh1 (by omega)) ?_
    refine va_iald (D := (dC, dI)) hx hb hK hP 1 0 rfl rfl (by first | assumption | exact vp_in_nI (by omega) (by omega)) dX1_end_14 ?_
    refine tp_i (y := fr (a / 2)) (by rw [nI_clamp (n := a / 2) (by omega)]) ?_
    refine lv_goto (tgt := 26) hx hb dX1_end_15 (by decide) ?_
    exact W.iret (v := (fr (a / 2))) hx hb hr (fun t ht _ => ⟨(fr (a / 2)), rfl, (by unfold fp_en; first | rw [if_pos ((isb0 a).mp c_4)] | rw [if_neg (fun h => c_4 ((isb0 a).mpr h))]), ht⟩) (fun _ h => by cases h) dX1_end_26

theorem fa_price_0 : ∀ w ∈ wsX10, w ∈ wsX1_price := by decide +kernel
theorem fa_price_1 : Cond.fieldLink RX1 23 "FlowProofs$Net" "unitCost" "[I" ∈ wsX1_price := by decide +kernel
set_option maxHeartbeats 4000000 in
set_option maxRecDepth 100000 in
theorem k_price (l : Launch) (dC : Nat → ClassId) (dI : Nat → Nat → Nat) (cI cJ cZ : ClassId) (q : Nat → Nat) (N M E : Nat) (fr to cap uc fl : Nat → Int32) (a : Nat) (ha : a / 2 < M) (hM : M < 1000) : Met l yX1_price wsX1_price ({ frames := 1, cells := 0, slots := 0, locals := 20 }) (va_Pc [.ref (q 1), .int (nI a)] (fun U => va_P (dC, dI) vwCl [(q 1, .inr (1, [.int (nI N), .ref (q 2), .ref (q 3), .ref (q 4), .ref (q 5), .ref (q 6), .int (nI E)])), (q 2, .inl (cI, M, .inl fr)), (q 3, .inl (cI, M, .inl to)), (q 4, .inl (cI, M, .inl cap)), (q 5, .inl (cI, M, .inl uc)), (q 6, .inl (cI, M, .inl fl))] U.heap ∧ va_K (dC, dI) vwCl [(cI, .int), (cJ, .long), (cZ, .boolean)] U)) (vp_Si (fun r => r = fp_pr uc a)) 0 0 (fun _ => False) := by
  refine Met.ofW (cc := cX1_price) (maxL := 2) (ret := (some .int)) (by decide) rfl ?_
  intro p e s m args below meth c s₁ B hml hv
  obtain ⟨rfl, hP, hK⟩ := hv
  have hx := B.exec
  have hb := B.bytes
  have hr := B.returns
  have hts := atoms_spec (ws := wsX1_price) B.pre
  have hown : s.vm.findClass RX1 = some m.cls := findClass_of_methodNamed B.named
  have hlocks := B.notSynchronized
  have hP : va_P (dC, dI) vwCl [(q 1, .inr (1, [.int (nI N), .ref (q 2), .ref (q 3), .ref (q 4), .ref (q 5), .ref (q 6), .int (nI E)])), (q 2, .inl (cI, M, .inl fr)), (q 3, .inl (cI, M, .inl to)), (q 4, .inl (cI, M, .inl cap)), (q 5, .inl (cI, M, .inl uc)), (q 6, .inl (cI, M, .inl fl))] s.heap := hP
  have hl := lv_entry ([.ref (q 1), .int (nI a)]) (n := 2) (Nat.le_of_ble_eq_true rfl)
  rw [lg_entry_eq]
  generalize (lg_sl ([.ref (q 1), .int (nI a)]) ++ List.replicate (2 - (lg_sl ([.ref (q 1), .int (nI a)])).length) Slot.unset).toArray = ls at hl ⊢
  have hl : lv_has ls 2 [(0, .ref (q 1)), (1, .int (nI a))] := hl
  refine lv_iload_n hx hb dX1_price_0 rfl (lv_at hl 1 rfl) ?_
  have hPc := hP.sub (ws' := []) [] rfl
  refine vp_callSi (W.runS (As := [.int (nI a)]) (rest := []) ⟨hx, hb, hml, hown, hts⟩ (k_isBack l dC dI cI cJ cZ a (by omega)) (va_cwS 1 hts gX1_price_X1_isBack rfl rfl rfl (by decide +kernel) ⟨Nat.le_of_ble_eq_true rfl, Nat.le_of_ble_eq_true rfl⟩) ⟨fun a U g mk q => by obtain ⟨q0, qP, qK⟩ := q; exact ⟨q0, qP, va_K.moved (u := U) (U := U.calling g mk a) (Vm.Alike.refl U.vm) qK⟩, fun U hU hW => ⟨rfl, by rw [hU]; exact hPc, va_K.moved hW.alike hK⟩⟩ rfl rfl hl.1 rfl (lv_room (Nat.le_of_ble_eq_true rfl)) dX1_price_1 ⟨Nat.le_of_ble_eq_true rfl, Nat.le_of_ble_eq_true rfl⟩) (fun r_1 hw_1 => ?_)
  subst hw_1
  refine lv_if_eq (tgt := 19) hx hb dX1_price_4 (by decide) (fun c_4 => ?_) (fun c_4 => ?_)
  · refine lv_aload_n hx hb dX1_price_19 rfl (lv_at hl 0 rfl) ?_
    refine va_get (D := (dC, dI)) (ci := 1) (v := .ref (q 5)) (C := RX1) (T := TX1) (N := 7) hx hb hts fa_price_0 hown hK hP 0 rfl rfl 4 (by decide) (hts _ fa_price_1) (fun _ h9 => h9) rfl dX1_price_20 ?_
    refine lv_iload_n hx hb dX1_price_23 rfl (lv_at hl 1 rfl) ?_
    refine lv_iconst (v := 1) hx hb dX1_price_24 (by decide) ?_
    refine lv_ishr hx hb dX1_price_25 ?_
    refine tp_i (y := nI (a / 2)) (sh1 (by omega)) ?_
    refine va_iald (D := (dC, dI)) hx hb hK hP 4 0 rfl rfl (by first | assumption | exact vp_in_nI (by omega) (by omega)) dX1_price_26 ?_
    refine tp_i (y := uc (a / 2)) (by rw [nI_clamp (n := a / 2) (by omega)]) ?_
    exact W.iret (v := (uc (a / 2))) hx hb hr (fun t ht _ => ⟨(uc (a / 2)), rfl, (by unfold fp_pr; first | rw [if_pos ((isb0 a).mp c_4)] | rw [if_neg (fun h => c_4 ((isb0 a).mpr h))]), ht⟩) (fun _ h => by cases h) dX1_price_27
  · refine lv_aload_n hx hb dX1_price_7 rfl (lv_at hl 0 rfl) ?_
    refine va_get (D := (dC, dI)) (ci := 1) (v := .ref (q 5)) (C := RX1) (T := TX1) (N := 7) hx hb hts fa_price_0 hown hK hP 0 rfl rfl 4 (by decide) (hts _ fa_price_1) (fun _ h9 => h9) rfl dX1_price_8 ?_
    refine lv_iload_n hx hb dX1_price_11 rfl (lv_at hl 1 rfl) ?_
    refine lv_iconst (v := 1) hx hb dX1_price_12 (by decide) ?_
    refine lv_ishr hx hb dX1_price_13 ?_
    refine tp_i (y := nI (a / 2)) (sh1 (by omega)) ?_
    refine va_iald (D := (dC, dI)) hx hb hK hP 4 0 rfl rfl (by first | assumption | exact vp_in_nI (by omega) (by omega)) dX1_price_14 ?_
    refine tp_i (y := uc (a / 2)) (by rw [nI_clamp (n := a / 2) (by omega)]) ?_
    refine lv_ineg hx hb dX1_price_15 ?_
    refine lv_goto (tgt := 27) hx hb dX1_price_16 (by decide) ?_
    exact W.iret (v := (-(uc (a / 2)))) hx hb hr (fun t ht _ => ⟨(-(uc (a / 2))), rfl, (by unfold fp_pr; first | rw [if_pos ((isb0 a).mp c_4)] | rw [if_neg (fun h => c_4 ((isb0 a).mpr h))]), ht⟩) (fun _ h => by cases h) dX1_price_27

theorem fa_left_0 : ∀ w ∈ wsX10, w ∈ wsX1_left := by decide +kernel
theorem fa_left_1 : Cond.fieldLink RX1 20 "FlowProofs$Net" "capacity" "[I" ∈ wsX1_left := by decide +kernel
theorem fa_left_2 : Cond.fieldLink RX1 26 "FlowProofs$Net" "flow" "[I" ∈ wsX1_left := by decide +kernel
set_option maxHeartbeats 4000000 in
set_option maxRecDepth 100000 in
theorem k_left (l : Launch) (dC : Nat → ClassId) (dI : Nat → Nat → Nat) (cI cJ cZ : ClassId) (q : Nat → Nat) (N M E : Nat) (fr to cap uc fl : Nat → Int32) (a : Nat) (ha : a / 2 < M) (hM : M < 1000) : Met l yX1_left wsX1_left ({ frames := 1, cells := 0, slots := 0, locals := 20 }) (va_Pc [.ref (q 1), .int (nI a)] (fun U => va_P (dC, dI) vwCl [(q 1, .inr (1, [.int (nI N), .ref (q 2), .ref (q 3), .ref (q 4), .ref (q 5), .ref (q 6), .int (nI E)])), (q 2, .inl (cI, M, .inl fr)), (q 3, .inl (cI, M, .inl to)), (q 4, .inl (cI, M, .inl cap)), (q 5, .inl (cI, M, .inl uc)), (q 6, .inl (cI, M, .inl fl))] U.heap ∧ va_K (dC, dI) vwCl [(cI, .int), (cJ, .long), (cZ, .boolean)] U)) (vp_Si (fun r => r = fp_lf cap fl a)) 0 0 (fun _ => False) := by
  refine Met.ofW (cc := cX1_left) (maxL := 3) (ret := (some .int)) (by decide) rfl ?_
  intro p e s m args below meth c s₁ B hml hv
  obtain ⟨rfl, hP, hK⟩ := hv
  have hx := B.exec
  have hb := B.bytes
  have hr := B.returns
  have hts := atoms_spec (ws := wsX1_left) B.pre
  have hown : s.vm.findClass RX1 = some m.cls := findClass_of_methodNamed B.named
  have hlocks := B.notSynchronized
  have hP : va_P (dC, dI) vwCl [(q 1, .inr (1, [.int (nI N), .ref (q 2), .ref (q 3), .ref (q 4), .ref (q 5), .ref (q 6), .int (nI E)])), (q 2, .inl (cI, M, .inl fr)), (q 3, .inl (cI, M, .inl to)), (q 4, .inl (cI, M, .inl cap)), (q 5, .inl (cI, M, .inl uc)), (q 6, .inl (cI, M, .inl fl))] s.heap := hP
  have hl := lv_entry ([.ref (q 1), .int (nI a)]) (n := 3) (Nat.le_of_ble_eq_true rfl)
  rw [lg_entry_eq]
  generalize (lg_sl ([.ref (q 1), .int (nI a)]) ++ List.replicate (3 - (lg_sl ([.ref (q 1), .int (nI a)])).length) Slot.unset).toArray = ls at hl ⊢
  have hl : lv_has ls 3 [(0, .ref (q 1)), (1, .int (nI a))] := hl
  refine lv_iload_n hx hb dX1_left_0 rfl (lv_at hl 1 rfl) ?_
  refine lv_iconst (v := 1) hx hb dX1_left_1 (by decide) ?_
  refine lv_ishr hx hb dX1_left_2 ?_
  refine tp_i (y := nI (a / 2)) (sh1 (by omega)) ?_
  refine lv_istore_n (lv' := [(2, .int (nI (a / 2))), (0, .ref (q 1)), (1, .int (nI a))]) hx hb dX1_left_3 rfl hl (by decide) rfl (fun ls hl => ?_)
  refine lv_iload_n hx hb dX1_left_4 rfl (lv_at hl 2 rfl) ?_
  have hPc := hP.sub (ws' := []) [] rfl
  refine vp_callSi (W.runS (As := [.int (nI a)]) (rest := []) ⟨hx, hb, hml, hown, hts⟩ (k_isBack l dC dI cI cJ cZ a (by omega)) (va_cwS 1 hts gX1_left_X1_isBack rfl rfl rfl (by decide +kernel) ⟨Nat.le_of_ble_eq_true rfl, Nat.le_of_ble_eq_true rfl⟩) ⟨fun a U g mk q => by obtain ⟨q0, qP, qK⟩ := q; exact ⟨q0, qP, va_K.moved (u := U) (U := U.calling g mk a) (Vm.Alike.refl U.vm) qK⟩, fun U hU hW => ⟨rfl, by rw [hU]; exact hPc, va_K.moved hW.alike hK⟩⟩ rfl rfl hl.1 rfl (lv_room (Nat.le_of_ble_eq_true rfl)) dX1_left_5 ⟨Nat.le_of_ble_eq_true rfl, Nat.le_of_ble_eq_true rfl⟩) (fun r_5 hw_5 => ?_)
  subst hw_5
  refine lv_if_eq (tgt := 20) hx hb dX1_left_8 (by decide) (fun c_8 => ?_) (fun c_8 => ?_)
  · refine lv_aload_n hx hb dX1_left_20 rfl (lv_at hl 1 rfl) ?_
    refine va_get (D := (dC, dI)) (ci := 1) (v := .ref (q 4)) (C := RX1) (T := TX1) (N := 7) hx hb hts fa_left_0 hown hK hP 0 rfl rfl 3 (by decide) (hts _ fa_left_1) (fun _ h9 => h9) rfl dX1_left_21 ?_
    refine lv_iload_n hx hb dX1_left_24 rfl (lv_at hl 0 rfl) ?_
    refine va_iald (D := (dC, dI)) hx hb hK hP 3 0 rfl rfl (by first | assumption | exact vp_in_nI (by omega) (by omega)) dX1_left_25 ?_
    refine tp_i (y := cap (a / 2)) (by rw [nI_clamp (n := a / 2) (by omega)]) ?_
    refine lv_aload_n hx hb dX1_left_26 rfl (lv_at hl 1 rfl) ?_
    refine va_get (D := (dC, dI)) (ci := 1) (v := .ref (q 6)) (C := RX1) (T := TX1) (N := 7) hx hb hts fa_left_0 hown hK hP 0 rfl rfl 5 (by decide) (hts _ fa_left_2) (fun _ h9 => h9) rfl dX1_left_27 ?_
    refine lv_iload_n hx hb dX1_left_30 rfl (lv_at hl 0 rfl) ?_
    refine va_iald (D := (dC, dI)) hx hb hK hP 5 0 rfl rfl (by first | assumption | exact vp_in_nI (by omega) (by omega)) dX1_left_31 ?_
    refine tp_i (y := fl (a / 2)) (by rw [nI_clamp (n := a / 2) (by omega)]) ?_
    refine lv_isub hx hb dX1_left_32 ?_
    exact W.iret (v := ((cap (a / 2)) - (fl (a / 2)))) hx hb hr (fun t ht _ => ⟨((cap (a / 2)) - (fl (a / 2))), rfl, (by unfold fp_lf; first | rw [if_pos ((isb0 a).mp c_8)] | rw [if_neg (fun h => c_8 ((isb0 a).mpr h))]), ht⟩) (fun _ h => by cases h) dX1_left_33
  · refine lv_aload_n hx hb dX1_left_11 rfl (lv_at hl 1 rfl) ?_
    refine va_get (D := (dC, dI)) (ci := 1) (v := .ref (q 6)) (C := RX1) (T := TX1) (N := 7) hx hb hts fa_left_0 hown hK hP 0 rfl rfl 5 (by decide) (hts _ fa_left_2) (fun _ h9 => h9) rfl dX1_left_12 ?_
    refine lv_iload_n hx hb dX1_left_15 rfl (lv_at hl 0 rfl) ?_
    refine va_iald (D := (dC, dI)) hx hb hK hP 5 0 rfl rfl (by first | assumption | exact vp_in_nI (by omega) (by omega)) dX1_left_16 ?_
    refine tp_i (y := fl (a / 2)) (by rw [nI_clamp (n := a / 2) (by omega)]) ?_
    refine lv_goto (tgt := 33) hx hb dX1_left_17 (by decide) ?_
    exact W.iret (v := (fl (a / 2))) hx hb hr (fun t ht _ => ⟨(fl (a / 2)), rfl, (by unfold fp_lf; first | rw [if_pos ((isb0 a).mp c_8)] | rw [if_neg (fun h => c_8 ((isb0 a).mpr h))]), ht⟩) (fun _ h => by cases h) dX1_left_33

theorem fa_hasNode_0 : ∀ w ∈ wsX10, w ∈ wsX1_hasNode := by decide +kernel
theorem fa_hasNode_1 : Cond.fieldLink RX1 7 "FlowProofs$Net" "nodes" "I" ∈ wsX1_hasNode := by decide +kernel
set_option maxHeartbeats 4000000 in
set_option maxRecDepth 100000 in
theorem k_hasNode (l : Launch) (dC : Nat → ClassId) (dI : Nat → Nat → Nat) (cI cJ cZ : ClassId) (q : Nat → Nat) (N M E : Nat) (fr to cap uc fl : Nat → Int32) (x : Int32)  : Met l yX1_hasNode wsX1_hasNode ({ frames := 0, cells := 0, slots := 0, locals := 0 }) (va_Pc [.ref (q 1), .int x] (fun U => va_P (dC, dI) vwCl [(q 1, .inr (1, [.int (nI N), .ref (q 2), .ref (q 3), .ref (q 4), .ref (q 5), .ref (q 6), .int (nI E)])), (q 2, .inl (cI, M, .inl fr)), (q 3, .inl (cI, M, .inl to)), (q 4, .inl (cI, M, .inl cap)), (q 5, .inl (cI, M, .inl uc)), (q 6, .inl (cI, M, .inl fl))] U.heap ∧ va_K (dC, dI) vwCl [(cI, .int), (cJ, .long), (cZ, .boolean)] U)) (vp_Si (fun r => r = (if ¬ x < 0 ∧ x < nI N then (1 : Int32) else 0))) 0 0 (fun _ => False) := by
  refine Met.ofW (cc := cX1_hasNode) (maxL := 2) (ret := (some .boolean)) (by decide) rfl ?_
  intro p e s m args below meth c s₁ B hml hv
  obtain ⟨rfl, hP, hK⟩ := hv
  have hx := B.exec
  have hb := B.bytes
  have hr := B.returns
  have hts := atoms_spec (ws := wsX1_hasNode) B.pre
  have hown : s.vm.findClass RX1 = some m.cls := findClass_of_methodNamed B.named
  have hlocks := B.notSynchronized
  have hP : va_P (dC, dI) vwCl [(q 1, .inr (1, [.int (nI N), .ref (q 2), .ref (q 3), .ref (q 4), .ref (q 5), .ref (q 6), .int (nI E)])), (q 2, .inl (cI, M, .inl fr)), (q 3, .inl (cI, M, .inl to)), (q 4, .inl (cI, M, .inl cap)), (q 5, .inl (cI, M, .inl uc)), (q 6, .inl (cI, M, .inl fl))] s.heap := hP
  have hl := lv_entry ([.ref (q 1), .int x]) (n := 2) (Nat.le_of_ble_eq_true rfl)
  rw [lg_entry_eq]
  generalize (lg_sl ([.ref (q 1), .int x]) ++ List.replicate (2 - (lg_sl ([.ref (q 1), .int x])).length) Slot.unset).toArray = ls at hl ⊢
  have hl : lv_has ls 2 [(0, .ref (q 1)), (1, .int x)] := hl
  refine lv_iload_n hx hb dX1_hasNode_0 rfl (lv_at hl 1 rfl) ?_
  refine lv_if_lt (tgt := 16) hx hb dX1_hasNode_1 (by decide) (fun c_1 => ?_) (fun c_1 => ?_)
  · refine lv_iconst (v := 0) hx hb dX1_hasNode_16 (by decide) ?_
    exact W.zret (v := 0) hx hb hr rfl (fun t ht _ => ⟨0, rfl, (by first | rw [if_pos ⟨by assumption, Int32.not_le.mp (by assumption)⟩] | rw [if_neg (fun h => absurd h.2 (Int32.not_lt.mpr (by assumption)))] | rw [if_neg (fun h => h.1 (by assumption))]), ht⟩) (fun _ h => by cases h) dX1_hasNode_17
  · refine lv_iload_n hx hb dX1_hasNode_4 rfl (lv_at hl 1 rfl) ?_
    refine lv_aload_n hx hb dX1_hasNode_5 rfl (lv_at hl 0 rfl) ?_
    refine va_get (D := (dC, dI)) (ci := 1) (v := .int (nI N)) (C := RX1) (T := TX1) (N := 7) hx hb hts fa_hasNode_0 hown hK hP 0 rfl rfl 0 (by decide) (hts _ fa_hasNode_1) (fun _ h9 => h9) rfl dX1_hasNode_6 ?_
    refine lv_icmp_ge (tgt := 16) hx hb dX1_hasNode_9 (by decide) (fun c_9 => ?_) (fun c_9 => ?_)
    · refine lv_iconst (v := 0) hx hb dX1_hasNode_16 (by decide) ?_
      exact W.zret (v := 0) hx hb hr rfl (fun t ht _ => ⟨0, rfl, (by first | rw [if_pos ⟨by assumption, Int32.not_le.mp (by assumption)⟩] | rw [if_neg (fun h => absurd h.2 (Int32.not_lt.mpr (by assumption)))] | rw [if_neg (fun h => h.1 (by assumption))]), ht⟩) (fun _ h => by cases h) dX1_hasNode_17
    · refine lv_iconst (v := 1) hx hb dX1_hasNode_12 (by decide) ?_
      refine lv_goto (tgt := 17) hx hb dX1_hasNode_13 (by decide) ?_
      exact W.zret (v := 1) hx hb hr rfl (fun t ht _ => ⟨1, rfl, (by first | rw [if_pos ⟨by assumption, Int32.not_le.mp (by assumption)⟩] | rw [if_neg (fun h => absurd h.2 (Int32.not_lt.mpr (by assumption)))] | rw [if_neg (fun h => h.1 (by assumption))]), ht⟩) (fun _ h => by cases h) dX1_hasNode_17

theorem fa_hasEdge_0 : ∀ w ∈ wsX10, w ∈ wsX1_hasEdge := by decide +kernel
theorem fa_hasEdge_1 : Cond.fieldLink RX1 29 "FlowProofs$Net" "edges" "I" ∈ wsX1_hasEdge := by decide +kernel
set_option maxHeartbeats 4000000 in
set_option maxRecDepth 100000 in
theorem k_hasEdge (l : Launch) (dC : Nat → ClassId) (dI : Nat → Nat → Nat) (cI cJ cZ : ClassId) (q : Nat → Nat) (N M E : Nat) (fr to cap uc fl : Nat → Int32) (x : Int32)  : Met l yX1_hasEdge wsX1_hasEdge ({ frames := 0, cells := 0, slots := 0, locals := 0 }) (va_Pc [.ref (q 1), .int x] (fun U => va_P (dC, dI) vwCl [(q 1, .inr (1, [.int (nI N), .ref (q 2), .ref (q 3), .ref (q 4), .ref (q 5), .ref (q 6), .int (nI E)])), (q 2, .inl (cI, M, .inl fr)), (q 3, .inl (cI, M, .inl to)), (q 4, .inl (cI, M, .inl cap)), (q 5, .inl (cI, M, .inl uc)), (q 6, .inl (cI, M, .inl fl))] U.heap ∧ va_K (dC, dI) vwCl [(cI, .int), (cJ, .long), (cZ, .boolean)] U)) (vp_Si (fun r => r = (if ¬ x < 0 ∧ x < nI E then (1 : Int32) else 0))) 0 0 (fun _ => False) := by
  refine Met.ofW (cc := cX1_hasEdge) (maxL := 2) (ret := (some .boolean)) (by decide) rfl ?_
  intro p e s m args below meth c s₁ B hml hv
  obtain ⟨rfl, hP, hK⟩ := hv
  have hx := B.exec
  have hb := B.bytes
  have hr := B.returns
  have hts := atoms_spec (ws := wsX1_hasEdge) B.pre
  have hown : s.vm.findClass RX1 = some m.cls := findClass_of_methodNamed B.named
  have hlocks := B.notSynchronized
  have hP : va_P (dC, dI) vwCl [(q 1, .inr (1, [.int (nI N), .ref (q 2), .ref (q 3), .ref (q 4), .ref (q 5), .ref (q 6), .int (nI E)])), (q 2, .inl (cI, M, .inl fr)), (q 3, .inl (cI, M, .inl to)), (q 4, .inl (cI, M, .inl cap)), (q 5, .inl (cI, M, .inl uc)), (q 6, .inl (cI, M, .inl fl))] s.heap := hP
  have hl := lv_entry ([.ref (q 1), .int x]) (n := 2) (Nat.le_of_ble_eq_true rfl)
  rw [lg_entry_eq]
  generalize (lg_sl ([.ref (q 1), .int x]) ++ List.replicate (2 - (lg_sl ([.ref (q 1), .int x])).length) Slot.unset).toArray = ls at hl ⊢
  have hl : lv_has ls 2 [(0, .ref (q 1)), (1, .int x)] := hl
  refine lv_iload_n hx hb dX1_hasEdge_0 rfl (lv_at hl 1 rfl) ?_
  refine lv_if_lt (tgt := 16) hx hb dX1_hasEdge_1 (by decide) (fun c_1 => ?_) (fun c_1 => ?_)
  · refine lv_iconst (v := 0) hx hb dX1_hasEdge_16 (by decide) ?_
    exact W.zret (v := 0) hx hb hr rfl (fun t ht _ => ⟨0, rfl, (by first | rw [if_pos ⟨by assumption, Int32.not_le.mp (by assumption)⟩] | rw [if_neg (fun h => absurd h.2 (Int32.not_lt.mpr (by assumption)))] | rw [if_neg (fun h => h.1 (by assumption))]), ht⟩) (fun _ h => by cases h) dX1_hasEdge_17
  · refine lv_iload_n hx hb dX1_hasEdge_4 rfl (lv_at hl 1 rfl) ?_
    refine lv_aload_n hx hb dX1_hasEdge_5 rfl (lv_at hl 0 rfl) ?_
    refine va_get (D := (dC, dI)) (ci := 1) (v := .int (nI E)) (C := RX1) (T := TX1) (N := 7) hx hb hts fa_hasEdge_0 hown hK hP 0 rfl rfl 6 (by decide) (hts _ fa_hasEdge_1) (fun _ h9 => h9) rfl dX1_hasEdge_6 ?_
    refine lv_icmp_ge (tgt := 16) hx hb dX1_hasEdge_9 (by decide) (fun c_9 => ?_) (fun c_9 => ?_)
    · refine lv_iconst (v := 0) hx hb dX1_hasEdge_16 (by decide) ?_
      exact W.zret (v := 0) hx hb hr rfl (fun t ht _ => ⟨0, rfl, (by first | rw [if_pos ⟨by assumption, Int32.not_le.mp (by assumption)⟩] | rw [if_neg (fun h => absurd h.2 (Int32.not_lt.mpr (by assumption)))] | rw [if_neg (fun h => h.1 (by assumption))]), ht⟩) (fun _ h => by cases h) dX1_hasEdge_17
    · refine lv_iconst (v := 1) hx hb dX1_hasEdge_12 (by decide) ?_
      refine lv_goto (tgt := 17) hx hb dX1_hasEdge_13 (by decide) ?_
      exact W.zret (v := 1) hx hb hr rfl (fun t ht _ => ⟨1, rfl, (by first | rw [if_pos ⟨by assumption, Int32.not_le.mp (by assumption)⟩] | rw [if_neg (fun h => absurd h.2 (Int32.not_lt.mpr (by assumption)))] | rw [if_neg (fun h => h.1 (by assumption))]), ht⟩) (fun _ h => by cases h) dX1_hasEdge_17

theorem fa_isFull_0 : ∀ w ∈ wsX10, w ∈ wsX1_isFull := by decide +kernel
theorem fa_isFull_1 : Cond.fieldLink RX1 29 "FlowProofs$Net" "edges" "I" ∈ wsX1_isFull := by decide +kernel
theorem fa_isFull_2 : Cond.fieldLink RX1 13 "FlowProofs$Net" "from" "[I" ∈ wsX1_isFull := by decide +kernel
set_option maxHeartbeats 4000000 in
set_option maxRecDepth 100000 in
theorem k_isFull (l : Launch) (dC : Nat → ClassId) (dI : Nat → Nat → Nat) (cI cJ cZ : ClassId) (q : Nat → Nat) (N M E : Nat) (fr to cap uc fl : Nat → Int32) (hE : E < 1000) (hM : M < 1000) : Met l yX1_isFull wsX1_isFull ({ frames := 0, cells := 0, slots := 0, locals := 0 }) (va_Pc [.ref (q 1)] (fun U => va_P (dC, dI) vwCl [(q 1, .inr (1, [.int (nI N), .ref (q 2), .ref (q 3), .ref (q 4), .ref (q 5), .ref (q 6), .int (nI E)])), (q 2, .inl (cI, M, .inl fr)), (q 3, .inl (cI, M, .inl to)), (q 4, .inl (cI, M, .inl cap)), (q 5, .inl (cI, M, .inl uc)), (q 6, .inl (cI, M, .inl fl))] U.heap ∧ va_K (dC, dI) vwCl [(cI, .int), (cJ, .long), (cZ, .boolean)] U)) (vp_Si (fun r => r = (if M ≤ E then (1 : Int32) else 0))) 0 0 (fun _ => False) := by
  refine Met.ofW (cc := cX1_isFull) (maxL := 1) (ret := (some .boolean)) (by decide) rfl ?_
  intro p e s m args below meth c s₁ B hml hv
  obtain ⟨rfl, hP, hK⟩ := hv
  have hx := B.exec
  have hb := B.bytes
  have hr := B.returns
  have hts := atoms_spec (ws := wsX1_isFull) B.pre
  have hown : s.vm.findClass RX1 = some m.cls := findClass_of_methodNamed B.named
  have hlocks := B.notSynchronized
  have hP : va_P (dC, dI) vwCl [(q 1, .inr (1, [.int (nI N), .ref (q 2), .ref (q 3), .ref (q 4), .ref (q 5), .ref (q 6), .int (nI E)])), (q 2, .inl (cI, M, .inl fr)), (q 3, .inl (cI, M, .inl to)), (q 4, .inl (cI, M, .inl cap)), (q 5, .inl (cI, M, .inl uc)), (q 6, .inl (cI, M, .inl fl))] s.heap := hP
  have hl := lv_entry ([.ref (q 1)]) (n := 1) (Nat.le_of_ble_eq_true rfl)
  rw [lg_entry_eq]
  generalize (lg_sl ([.ref (q 1)]) ++ List.replicate (1 - (lg_sl ([.ref (q 1)])).length) Slot.unset).toArray = ls at hl ⊢
  have hl : lv_has ls 1 [(0, .ref (q 1))] := hl
  refine lv_aload_n hx hb dX1_isFull_0 rfl (lv_at hl 0 rfl) ?_
  refine va_get (D := (dC, dI)) (ci := 1) (v := .int (nI E)) (C := RX1) (T := TX1) (N := 7) hx hb hts fa_isFull_0 hown hK hP 0 rfl rfl 6 (by decide) (hts _ fa_isFull_1) (fun _ h9 => h9) rfl dX1_isFull_1 ?_
  refine lv_aload_n hx hb dX1_isFull_4 rfl (lv_at hl 0 rfl) ?_
  refine va_get (D := (dC, dI)) (ci := 1) (v := .ref (q 2)) (C := RX1) (T := TX1) (N := 7) hx hb hts fa_isFull_0 hown hK hP 0 rfl rfl 1 (by decide) (hts _ fa_isFull_2) (fun _ h9 => h9) rfl dX1_isFull_5 ?_
  refine va_alen (D := (dC, dI)) (v := nI M) hx hb hK hP 1 0 rfl rfl rfl dX1_isFull_8 ?_
  refine lv_icmp_lt (tgt := 16) hx hb dX1_isFull_9 (by decide) (fun c_9 => ?_) (fun c_9 => ?_)
  · refine lv_iconst (v := 0) hx hb dX1_isFull_16 (by decide) ?_
    exact W.zret (v := 0) hx hb hr rfl (fun t ht _ => ⟨0, rfl, (by first | rw [if_pos (by rw [← nI_leI (by omega) (by omega)]; first | assumption | exact Int32.not_lt.mp (by assumption))] | rw [if_neg (fun h => by rw [← nI_leI (by omega) (by omega)] at h; first | contradiction | exact absurd h (Int32.not_le.mpr (by assumption)))]), ht⟩) (fun _ h => by cases h) dX1_isFull_17
  · refine lv_iconst (v := 1) hx hb dX1_isFull_12 (by decide) ?_
    refine lv_goto (tgt := 17) hx hb dX1_isFull_13 (by decide) ?_
    exact W.zret (v := 1) hx hb hr rfl (fun t ht _ => ⟨1, rfl, (by first | rw [if_pos (by rw [← nI_leI (by omega) (by omega)]; first | assumption | exact Int32.not_lt.mp (by assumption))] | rw [if_neg (fun h => by rw [← nI_leI (by omega) (by omega)] at h; first | contradiction | exact absurd h (Int32.not_le.mpr (by assumption)))]), ht⟩) (fun _ h => by cases h) dX1_isFull_17

theorem fa_arcs_0 : ∀ w ∈ wsX10, w ∈ wsX1_arcs := by decide +kernel
theorem fa_arcs_1 : Cond.fieldLink RX1 29 "FlowProofs$Net" "edges" "I" ∈ wsX1_arcs := by decide +kernel
set_option maxHeartbeats 4000000 in
set_option maxRecDepth 100000 in
theorem k_arcs (l : Launch) (dC : Nat → ClassId) (dI : Nat → Nat → Nat) (cI cJ cZ : ClassId) (q : Nat → Nat) (N M E : Nat) (fr to cap uc fl : Nat → Int32)  : Met l yX1_arcs wsX1_arcs ({ frames := 0, cells := 0, slots := 0, locals := 0 }) (va_Pc [.ref (q 1)] (fun U => va_P (dC, dI) vwCl [(q 1, .inr (1, [.int (nI N), .ref (q 2), .ref (q 3), .ref (q 4), .ref (q 5), .ref (q 6), .int (nI E)])), (q 2, .inl (cI, M, .inl fr)), (q 3, .inl (cI, M, .inl to)), (q 4, .inl (cI, M, .inl cap)), (q 5, .inl (cI, M, .inl uc)), (q 6, .inl (cI, M, .inl fl))] U.heap ∧ va_K (dC, dI) vwCl [(cI, .int), (cJ, .long), (cZ, .boolean)] U)) (vp_Si (fun r => r = nI (2 * E))) 0 0 (fun _ => False) := by
  refine Met.ofW (cc := cX1_arcs) (maxL := 1) (ret := (some .int)) (by decide) rfl ?_
  intro p e s m args below meth c s₁ B hml hv
  obtain ⟨rfl, hP, hK⟩ := hv
  have hx := B.exec
  have hb := B.bytes
  have hr := B.returns
  have hts := atoms_spec (ws := wsX1_arcs) B.pre
  have hown : s.vm.findClass RX1 = some m.cls := findClass_of_methodNamed B.named
  have hlocks := B.notSynchronized
  have hP : va_P (dC, dI) vwCl [(q 1, .inr (1, [.int (nI N), .ref (q 2), .ref (q 3), .ref (q 4), .ref (q 5), .ref (q 6), .int (nI E)])), (q 2, .inl (cI, M, .inl fr)), (q 3, .inl (cI, M, .inl to)), (q 4, .inl (cI, M, .inl cap)), (q 5, .inl (cI, M, .inl uc)), (q 6, .inl (cI, M, .inl fl))] s.heap := hP
  have hl := lv_entry ([.ref (q 1)]) (n := 1) (Nat.le_of_ble_eq_true rfl)
  rw [lg_entry_eq]
  generalize (lg_sl ([.ref (q 1)]) ++ List.replicate (1 - (lg_sl ([.ref (q 1)])).length) Slot.unset).toArray = ls at hl ⊢
  have hl : lv_has ls 1 [(0, .ref (q 1))] := hl
  refine lv_iconst (v := 2) hx hb dX1_arcs_0 (by decide) ?_
  refine lv_aload_n hx hb dX1_arcs_1 rfl (lv_at hl 0 rfl) ?_
  refine va_get (D := (dC, dI)) (ci := 1) (v := .int (nI E)) (C := RX1) (T := TX1) (N := 7) hx hb hts fa_arcs_0 hown hK hP 0 rfl rfl 6 (by decide) (hts _ fa_arcs_1) (fun _ h9 => h9) rfl dX1_arcs_2 ?_
  refine lv_imul hx hb dX1_arcs_5 ?_
  exact W.iret (v := (2 * (nI E))) hx hb hr (fun t ht _ => ⟨(2 * (nI E)), rfl, (pk_mul 2 E), ht⟩) (fun _ h => by cases h) dX1_arcs_6

theorem fa_capacityInAll_0 : ∀ w ∈ wsX10, w ∈ wsX1_capacityInAll := by decide +kernel
theorem fa_capacityInAll_1 : Cond.fieldLink RX1 29 "FlowProofs$Net" "edges" "I" ∈ wsX1_capacityInAll := by decide +kernel
theorem fa_capacityInAll_2 : Cond.fieldLink RX1 20 "FlowProofs$Net" "capacity" "[I" ∈ wsX1_capacityInAll := by decide +kernel
set_option maxHeartbeats 4000000 in
set_option maxRecDepth 100000 in
theorem k_capacityInAll (l : Launch) (dC : Nat → ClassId) (dI : Nat → Nat → Nat) (cI cJ cZ : ClassId) (q : Nat → Nat) (N M E : Nat) (fr to cap uc fl : Nat → Int32) (hE : E ≤ M) (hM : M < 1000) : Met l yX1_capacityInAll wsX1_capacityInAll ({ frames := 0, cells := 0, slots := 0, locals := 0 }) (va_Pc [.ref (q 1)] (fun U => va_P (dC, dI) vwCl [(q 1, .inr (1, [.int (nI N), .ref (q 2), .ref (q 3), .ref (q 4), .ref (q 5), .ref (q 6), .int (nI E)])), (q 2, .inl (cI, M, .inl fr)), (q 3, .inl (cI, M, .inl to)), (q 4, .inl (cI, M, .inl cap)), (q 5, .inl (cI, M, .inl uc)), (q 6, .inl (cI, M, .inl fl))] U.heap ∧ va_K (dC, dI) vwCl [(cI, .int), (cJ, .long), (cZ, .boolean)] U)) (vp_Sl (fun r => r = fp_sum (fun e => (cap e).toInt64) E)) 0 0 (fun _ => False) := by
  refine Met.ofW (cc := cX1_capacityInAll) (maxL := 4) (ret := (some .long)) (by decide) rfl ?_
  intro p e s m args below meth c s₁ B hml hv
  obtain ⟨rfl, hP, hK⟩ := hv
  have hx := B.exec
  have hb := B.bytes
  have hr := B.returns
  have hts := atoms_spec (ws := wsX1_capacityInAll) B.pre
  have hown : s.vm.findClass RX1 = some m.cls := findClass_of_methodNamed B.named
  have hlocks := B.notSynchronized
  have hP : va_P (dC, dI) vwCl [(q 1, .inr (1, [.int (nI N), .ref (q 2), .ref (q 3), .ref (q 4), .ref (q 5), .ref (q 6), .int (nI E)])), (q 2, .inl (cI, M, .inl fr)), (q 3, .inl (cI, M, .inl to)), (q 4, .inl (cI, M, .inl cap)), (q 5, .inl (cI, M, .inl uc)), (q 6, .inl (cI, M, .inl fl))] s.heap := hP
  have hl := lv_entry ([.ref (q 1)]) (n := 4) (Nat.le_of_ble_eq_true rfl)
  rw [lg_entry_eq]
  generalize (lg_sl ([.ref (q 1)]) ++ List.replicate (4 - (lg_sl ([.ref (q 1)])).length) Slot.unset).toArray = ls at hl ⊢
  have hl : lv_has ls 4 [(0, .ref (q 1))] := hl
  refine lv_lconst (v := 0) hx hb dX1_capacityInAll_0 (by decide) ?_
  refine lv_lstore_n (lv' := [(1, .long 0), (0, .ref (q 1))]) hx hb dX1_capacityInAll_1 rfl hl (by decide) rfl (fun ls hl => ?_)
  refine lv_iconst (v := 0) hx hb dX1_capacityInAll_2 (by decide) ?_
  refine tp_i (y := nI 0) nI_0.symm ?_
  refine lv_istore_n (lv' := [(3, .int (nI 0)), (1, .long 0), (0, .ref (q 1))]) hx hb dX1_capacityInAll_3 rfl hl (by decide) rfl (fun ls hl => ?_)
  have lo_a : ∀ (nf : Nat) (i : Nat) (sm : Int64) (hi : i ≤ E) (hsm : sm = fp_sum (fun e => (cap e).toInt64) i) (hfu : E - i < nf) (ls : Array Slot) (hl : lv_has ls 4 [(0, .ref (q 1)), (1, .long sm), (3, .int (nI i))]), W p l e (headSpec wsX1_capacityInAll ({ frames := 0, cells := 0, slots := 0, locals := 0 })).room s m ([.ref (q 1)] : List Value).toArray below meth c s.heap [] 0 0 (MQ below (vp_Sl (fun r => r = fp_sum (fun e => (cap e).toInt64) E)) ([.ref (q 1)] : List Value).toArray s 0 0 (fun _ => False)) (F0 m 4 ls [])
    := by
    intro nf
    induction nf with
    | zero => intro i sm hi hsm hfu ls hl; exact absurd hfu (Nat.not_lt_zero _)
    | succ nf ih_a =>
      intro i sm hi hsm hfu ls hl
      refine lv_iload_n hx hb dX1_capacityInAll_4 rfl (lv_at hl 2 rfl) ?_
      refine lv_aload_n hx hb dX1_capacityInAll_5 rfl (lv_at hl 0 rfl) ?_
      refine va_get (D := (dC, dI)) (ci := 1) (v := .int (nI E)) (C := RX1) (T := TX1) (N := 7) hx hb hts fa_capacityInAll_0 hown hK hP 0 rfl rfl 6 (by decide) (hts _ fa_capacityInAll_1) (fun _ h9 => h9) rfl dX1_capacityInAll_6 ?_
      refine lv_icmp_ge (tgt := 28) hx hb dX1_capacityInAll_9 (by decide) (fun c_9 => ?_) (fun c_9 => ?_)
      · have hge := ix_ge (by omega) (by omega) c_9
        obtain rfl : i = E := by omega
        refine lv_lload_n hx hb dX1_capacityInAll_28 rfl (lv_at hl 1 rfl) ?_
        exact W.lret (v := sm) hx hb hr (fun t ht _ => ⟨sm, rfl, hsm, ht⟩) (fun _ h => by cases h) dX1_capacityInAll_29
      · have hlt := ix_lt (by omega) (by omega) c_9
        refine lv_lload_n hx hb dX1_capacityInAll_12 rfl (lv_at hl 1 rfl) ?_
        refine lv_aload_n hx hb dX1_capacityInAll_13 rfl (lv_at hl 0 rfl) ?_
        refine va_get (D := (dC, dI)) (ci := 1) (v := .ref (q 4)) (C := RX1) (T := TX1) (N := 7) hx hb hts fa_capacityInAll_0 hown hK hP 0 rfl rfl 3 (by decide) (hts _ fa_capacityInAll_2) (fun _ h9 => h9) rfl dX1_capacityInAll_14 ?_
        refine lv_iload_n hx hb dX1_capacityInAll_17 rfl (lv_at hl 2 rfl) ?_
        refine va_iald (D := (dC, dI)) hx hb hK hP 3 0 rfl rfl (by first | assumption | exact vp_in_nI (by omega) (by omega)) dX1_capacityInAll_18 ?_
        refine tp_i (y := cap i) (by rw [nI_clamp (n := i) (by omega)]) ?_
        refine lv_i2l hx hb dX1_capacityInAll_19 rfl ?_
        refine lv_ladd hx hb dX1_capacityInAll_20 ?_
        refine lv_lstore_n (lv' := [(1, .long (sm + ((cap i).toInt64))), (0, .ref (q 1)), (3, .int (nI i))]) hx hb dX1_capacityInAll_21 rfl hl (by decide) rfl (fun ls hl => ?_)
        refine lv_iinc (v := nI (i + 1)) (lv' := [(3, .int (nI (i + 1))), (1, .long (sm + ((cap i).toInt64))), (0, .ref (q 1))]) hx hb dX1_capacityInAll_22 hl (k := 2) rfl (by first | exact nI_1 _ | exact nI_add _ _) (by decide) rfl (fun ls hl => ?_)
        refine lv_goto (tgt := 4) hx hb dX1_capacityInAll_25 (by decide) ?_
        exact ih_a (i + 1) (sm + ((cap i).toInt64)) (by first | assumption | omega | rfl) (by first | rfl | (rw [hsm]; rfl)) (by omega) _ (lv_sub hl [2, 1, 0] rfl)
  exact lo_a (E - 0 + 1) 0 0 (by first | assumption | omega | rfl) rfl (by omega) _ (lv_sub hl [2, 1, 0] rfl)

theorem fa_costOfFlow_0 : ∀ w ∈ wsX10, w ∈ wsX1_costOfFlow := by decide +kernel
theorem fa_costOfFlow_1 : Cond.fieldLink RX1 29 "FlowProofs$Net" "edges" "I" ∈ wsX1_costOfFlow := by decide +kernel
theorem fa_costOfFlow_2 : Cond.fieldLink RX1 26 "FlowProofs$Net" "flow" "[I" ∈ wsX1_costOfFlow := by decide +kernel
theorem fa_costOfFlow_3 : Cond.fieldLink RX1 23 "FlowProofs$Net" "unitCost" "[I" ∈ wsX1_costOfFlow := by decide +kernel
set_option maxHeartbeats 4000000 in
set_option maxRecDepth 100000 in
theorem k_costOfFlow (l : Launch) (dC : Nat → ClassId) (dI : Nat → Nat → Nat) (cI cJ cZ : ClassId) (q : Nat → Nat) (N M E : Nat) (fr to cap uc fl : Nat → Int32) (hE : E ≤ M) (hM : M < 1000) : Met l yX1_costOfFlow wsX1_costOfFlow ({ frames := 0, cells := 0, slots := 0, locals := 0 }) (va_Pc [.ref (q 1)] (fun U => va_P (dC, dI) vwCl [(q 1, .inr (1, [.int (nI N), .ref (q 2), .ref (q 3), .ref (q 4), .ref (q 5), .ref (q 6), .int (nI E)])), (q 2, .inl (cI, M, .inl fr)), (q 3, .inl (cI, M, .inl to)), (q 4, .inl (cI, M, .inl cap)), (q 5, .inl (cI, M, .inl uc)), (q 6, .inl (cI, M, .inl fl))] U.heap ∧ va_K (dC, dI) vwCl [(cI, .int), (cJ, .long), (cZ, .boolean)] U)) (vp_Sl (fun r => r = fp_sum (fun e => (fl e).toInt64 * (uc e).toInt64) E)) 0 0 (fun _ => False) := by
  refine Met.ofW (cc := cX1_costOfFlow) (maxL := 4) (ret := (some .long)) (by decide) rfl ?_
  intro p e s m args below meth c s₁ B hml hv
  obtain ⟨rfl, hP, hK⟩ := hv
  have hx := B.exec
  have hb := B.bytes
  have hr := B.returns
  have hts := atoms_spec (ws := wsX1_costOfFlow) B.pre
  have hown : s.vm.findClass RX1 = some m.cls := findClass_of_methodNamed B.named
  have hlocks := B.notSynchronized
  have hP : va_P (dC, dI) vwCl [(q 1, .inr (1, [.int (nI N), .ref (q 2), .ref (q 3), .ref (q 4), .ref (q 5), .ref (q 6), .int (nI E)])), (q 2, .inl (cI, M, .inl fr)), (q 3, .inl (cI, M, .inl to)), (q 4, .inl (cI, M, .inl cap)), (q 5, .inl (cI, M, .inl uc)), (q 6, .inl (cI, M, .inl fl))] s.heap := hP
  have hl := lv_entry ([.ref (q 1)]) (n := 4) (Nat.le_of_ble_eq_true rfl)
  rw [lg_entry_eq]
  generalize (lg_sl ([.ref (q 1)]) ++ List.replicate (4 - (lg_sl ([.ref (q 1)])).length) Slot.unset).toArray = ls at hl ⊢
  have hl : lv_has ls 4 [(0, .ref (q 1))] := hl
  refine lv_lconst (v := 0) hx hb dX1_costOfFlow_0 (by decide) ?_
  refine lv_lstore_n (lv' := [(1, .long 0), (0, .ref (q 1))]) hx hb dX1_costOfFlow_1 rfl hl (by decide) rfl (fun ls hl => ?_)
  refine lv_iconst (v := 0) hx hb dX1_costOfFlow_2 (by decide) ?_
  refine tp_i (y := nI 0) nI_0.symm ?_
  refine lv_istore_n (lv' := [(3, .int (nI 0)), (1, .long 0), (0, .ref (q 1))]) hx hb dX1_costOfFlow_3 rfl hl (by decide) rfl (fun ls hl => ?_)
  have lo_a : ∀ (nf : Nat) (i : Nat) (sm : Int64) (hi : i ≤ E) (hsm : sm = fp_sum (fun e => (fl e).toInt64 * (uc e).toInt64) i) (hfu : E - i < nf) (ls : Array Slot) (hl : lv_has ls 4 [(0, .ref (q 1)), (1, .long sm), (3, .int (nI i))]), W p l e (headSpec wsX1_costOfFlow ({ frames := 0, cells := 0, slots := 0, locals := 0 })).room s m ([.ref (q 1)] : List Value).toArray below meth c s.heap [] 0 0 (MQ below (vp_Sl (fun r => r = fp_sum (fun e => (fl e).toInt64 * (uc e).toInt64) E)) ([.ref (q 1)] : List Value).toArray s 0 0 (fun _ => False)) (F0 m 4 ls [])
    := by
    intro nf
    induction nf with
    | zero => intro i sm hi hsm hfu ls hl; exact absurd hfu (Nat.not_lt_zero _)
    | succ nf ih_a =>
      intro i sm hi hsm hfu ls hl
      refine lv_iload_n hx hb dX1_costOfFlow_4 rfl (lv_at hl 2 rfl) ?_
      refine lv_aload_n hx hb dX1_costOfFlow_5 rfl (lv_at hl 0 rfl) ?_
      refine va_get (D := (dC, dI)) (ci := 1) (v := .int (nI E)) (C := RX1) (T := TX1) (N := 7) hx hb hts fa_costOfFlow_0 hown hK hP 0 rfl rfl 6 (by decide) (hts _ fa_costOfFlow_1) (fun _ h9 => h9) rfl dX1_costOfFlow_6 ?_
      refine lv_icmp_ge (tgt := 36) hx hb dX1_costOfFlow_9 (by decide) (fun c_9 => ?_) (fun c_9 => ?_)
      · have hge := ix_ge (by omega) (by omega) c_9
        obtain rfl : i = E := by omega
        refine lv_lload_n hx hb dX1_costOfFlow_36 rfl (lv_at hl 1 rfl) ?_
        exact W.lret (v := sm) hx hb hr (fun t ht _ => ⟨sm, rfl, hsm, ht⟩) (fun _ h => by cases h) dX1_costOfFlow_37
      · have hlt := ix_lt (by omega) (by omega) c_9
        refine lv_lload_n hx hb dX1_costOfFlow_12 rfl (lv_at hl 1 rfl) ?_
        refine lv_aload_n hx hb dX1_costOfFlow_13 rfl (lv_at hl 0 rfl) ?_
        refine va_get (D := (dC, dI)) (ci := 1) (v := .ref (q 6)) (C := RX1) (T := TX1) (N := 7) hx hb hts fa_costOfFlow_0 hown hK hP 0 rfl rfl 5 (by decide) (hts _ fa_costOfFlow_2) (fun _ h9 => h9) rfl dX1_costOfFlow_14 ?_
        refine lv_iload_n hx hb dX1_costOfFlow_17 rfl (lv_at hl 2 rfl) ?_
        refine va_iald (D := (dC, dI)) hx hb hK hP 5 0 rfl rfl (by first | assumption | exact vp_in_nI (by omega) (by omega)) dX1_costOfFlow_18 ?_
        refine tp_i (y := fl i) (by rw [nI_clamp (n := i) (by omega)]) ?_
        refine lv_i2l hx hb dX1_costOfFlow_19 rfl ?_
        refine lv_aload_n hx hb dX1_costOfFlow_20 rfl (lv_at hl 0 rfl) ?_
        refine va_get (D := (dC, dI)) (ci := 1) (v := .ref (q 5)) (C := RX1) (T := TX1) (N := 7) hx hb hts fa_costOfFlow_0 hown hK hP 0 rfl rfl 4 (by decide) (hts _ fa_costOfFlow_3) (fun _ h9 => h9) rfl dX1_costOfFlow_21 ?_
        refine lv_iload_n hx hb dX1_costOfFlow_24 rfl (lv_at hl 2 rfl) ?_
        refine va_iald (D := (dC, dI)) hx hb hK hP 4 0 rfl rfl (by first | assumption | exact vp_in_nI (by omega) (by omega)) dX1_costOfFlow_25 ?_
        refine tp_i (y := uc i) (by rw [nI_clamp (n := i) (by omega)]) ?_
        refine lv_i2l hx hb dX1_costOfFlow_26 rfl ?_
        refine lv_lmul hx hb dX1_costOfFlow_27 ?_
        refine lv_ladd hx hb dX1_costOfFlow_28 ?_
        refine lv_lstore_n (lv' := [(1, .long (sm + (((fl i).toInt64) * ((uc i).toInt64)))), (0, .ref (q 1)), (3, .int (nI i))]) hx hb dX1_costOfFlow_29 rfl hl (by decide) rfl (fun ls hl => ?_)
        refine lv_iinc (v := nI (i + 1)) (lv' := [(3, .int (nI (i + 1))), (1, .long (sm + (((fl i).toInt64) * ((uc i).toInt64)))), (0, .ref (q 1))]) hx hb dX1_costOfFlow_30 hl (k := 2) rfl (by first | exact nI_1 _ | exact nI_add _ _) (by decide) rfl (fun ls hl => ?_)
        refine lv_goto (tgt := 4) hx hb dX1_costOfFlow_33 (by decide) ?_
        exact ih_a (i + 1) (sm + (((fl i).toInt64) * ((uc i).toInt64))) (by first | assumption | omega | rfl) (by first | rfl | (rw [hsm]; rfl)) (by omega) _ (lv_sub hl [2, 1, 0] rfl)
  exact lo_a (E - 0 + 1) 0 0 (by first | assumption | omega | rfl) rfl (by omega) _ (lv_sub hl [2, 1, 0] rfl)

theorem fa_surplus_0 : ∀ w ∈ wsX10, w ∈ wsX1_surplus := by decide +kernel
theorem fa_surplus_1 : Cond.fieldLink RX1 29 "FlowProofs$Net" "edges" "I" ∈ wsX1_surplus := by decide +kernel
theorem fa_surplus_2 : Cond.fieldLink RX1 17 "FlowProofs$Net" "to" "[I" ∈ wsX1_surplus := by decide +kernel
theorem fa_surplus_3 : Cond.fieldLink RX1 13 "FlowProofs$Net" "from" "[I" ∈ wsX1_surplus := by decide +kernel
theorem fa_surplus_4 : Cond.fieldLink RX1 26 "FlowProofs$Net" "flow" "[I" ∈ wsX1_surplus := by decide +kernel
set_option maxHeartbeats 4000000 in
set_option maxRecDepth 100000 in
theorem k_surplus (l : Launch) (dC : Nat → ClassId) (dI : Nat → Nat → Nat) (cI cJ cZ : ClassId) (q : Nat → Nat) (N M E : Nat) (fr to cap uc fl : Nat → Int32) (x : Int32) (hE : E ≤ M) (hM : M < 1000) : Met l yX1_surplus wsX1_surplus ({ frames := 0, cells := 0, slots := 0, locals := 0 }) (va_Pc [.ref (q 1), .int x] (fun U => va_P (dC, dI) vwCl [(q 1, .inr (1, [.int (nI N), .ref (q 2), .ref (q 3), .ref (q 4), .ref (q 5), .ref (q 6), .int (nI E)])), (q 2, .inl (cI, M, .inl fr)), (q 3, .inl (cI, M, .inl to)), (q 4, .inl (cI, M, .inl cap)), (q 5, .inl (cI, M, .inl uc)), (q 6, .inl (cI, M, .inl fl))] U.heap ∧ va_K (dC, dI) vwCl [(cI, .int), (cJ, .long), (cZ, .boolean)] U)) (vp_Sl (fun r => r = fp_sur fr to fl x E)) 0 0 (fun _ => False) := by
  refine Met.ofW (cc := cX1_surplus) (maxL := 5) (ret := (some .long)) (by decide) rfl ?_
  intro p e s m args below meth c s₁ B hml hv
  obtain ⟨rfl, hP, hK⟩ := hv
  have hx := B.exec
  have hb := B.bytes
  have hr := B.returns
  have hts := atoms_spec (ws := wsX1_surplus) B.pre
  have hown : s.vm.findClass RX1 = some m.cls := findClass_of_methodNamed B.named
  have hlocks := B.notSynchronized
  have hP : va_P (dC, dI) vwCl [(q 1, .inr (1, [.int (nI N), .ref (q 2), .ref (q 3), .ref (q 4), .ref (q 5), .ref (q 6), .int (nI E)])), (q 2, .inl (cI, M, .inl fr)), (q 3, .inl (cI, M, .inl to)), (q 4, .inl (cI, M, .inl cap)), (q 5, .inl (cI, M, .inl uc)), (q 6, .inl (cI, M, .inl fl))] s.heap := hP
  have hl := lv_entry ([.ref (q 1), .int x]) (n := 5) (Nat.le_of_ble_eq_true rfl)
  rw [lg_entry_eq]
  generalize (lg_sl ([.ref (q 1), .int x]) ++ List.replicate (5 - (lg_sl ([.ref (q 1), .int x])).length) Slot.unset).toArray = ls at hl ⊢
  have hl : lv_has ls 5 [(0, .ref (q 1)), (1, .int x)] := hl
  refine lv_lconst (v := 0) hx hb dX1_surplus_0 (by decide) ?_
  refine lv_lstore_n (lv' := [(2, .long 0), (0, .ref (q 1)), (1, .int x)]) hx hb dX1_surplus_1 rfl hl (by decide) rfl (fun ls hl => ?_)
  refine lv_iconst (v := 0) hx hb dX1_surplus_2 (by decide) ?_
  refine tp_i (y := nI 0) nI_0.symm ?_
  refine lv_istore (lv' := [(4, .int (nI 0)), (2, .long 0), (0, .ref (q 1)), (1, .int x)]) hx hb dX1_surplus_3 hl (by decide) rfl (fun ls hl => ?_)
  have lo_a : ∀ (nf : Nat) (i : Nat) (sm : Int64) (hi : i ≤ E) (hsm : sm = fp_sur fr to fl x i) (hfu : E - i < nf) (ls : Array Slot) (hl : lv_has ls 5 [(0, .ref (q 1)), (1, .int x), (2, .long sm), (4, .int (nI i))]), W p l e (headSpec wsX1_surplus ({ frames := 0, cells := 0, slots := 0, locals := 0 })).room s m ([.ref (q 1), .int x] : List Value).toArray below meth c s.heap [] 0 0 (MQ below (vp_Sl (fun r => r = fp_sur fr to fl x E)) ([.ref (q 1), .int x] : List Value).toArray s 0 0 (fun _ => False)) (F0 m 5 ls [])
    := by
    intro nf
    induction nf with
    | zero => intro i sm hi hsm hfu ls hl; exact absurd hfu (Nat.not_lt_zero _)
    | succ nf ih_a =>
      intro i sm hi hsm hfu ls hl
      refine lv_iload hx hb dX1_surplus_5 (lv_at hl 3 rfl) ?_
      refine lv_aload_n hx hb dX1_surplus_7 rfl (lv_at hl 0 rfl) ?_
      refine va_get (D := (dC, dI)) (ci := 1) (v := .int (nI E)) (C := RX1) (T := TX1) (N := 7) hx hb hts fa_surplus_0 hown hK hP 0 rfl rfl 6 (by decide) (hts _ fa_surplus_1) (fun _ h9 => h9) rfl dX1_surplus_8 ?_
      refine lv_icmp_ge (tgt := 64) hx hb dX1_surplus_11 (by decide) (fun c_11 => ?_) (fun c_11 => ?_)
      · have hge := ix_ge (by omega) (by omega) c_11
        obtain rfl : i = E := by omega
        refine lv_lload_n hx hb dX1_surplus_64 rfl (lv_at hl 2 rfl) ?_
        exact W.lret (v := sm) hx hb hr (fun t ht _ => ⟨sm, rfl, hsm, ht⟩) (fun _ h => by cases h) dX1_surplus_65
      · have hlt := ix_lt (by omega) (by omega) c_11
        refine lv_aload_n hx hb dX1_surplus_14 rfl (lv_at hl 0 rfl) ?_
        refine va_get (D := (dC, dI)) (ci := 1) (v := .ref (q 3)) (C := RX1) (T := TX1) (N := 7) hx hb hts fa_surplus_0 hown hK hP 0 rfl rfl 2 (by decide) (hts _ fa_surplus_2) (fun _ h9 => h9) rfl dX1_surplus_15 ?_
        refine lv_iload hx hb dX1_surplus_18 (lv_at hl 3 rfl) ?_
        refine va_iald (D := (dC, dI)) hx hb hK hP 2 0 rfl rfl (by first | assumption | exact vp_in_nI (by omega) (by omega)) dX1_surplus_20 ?_
        refine tp_i (y := to i) (by rw [nI_clamp (n := i) (by omega)]) ?_
        refine lv_iload_n hx hb dX1_surplus_21 rfl (lv_at hl 1 rfl) ?_
        refine lv_icmp_ne (tgt := 36) hx hb dX1_surplus_22 (by decide) (fun c_22 => ?_) (fun c_22 => ?_)
        · refine lv_aload_n hx hb dX1_surplus_36 rfl (lv_at hl 0 rfl) ?_
          refine va_get (D := (dC, dI)) (ci := 1) (v := .ref (q 2)) (C := RX1) (T := TX1) (N := 7) hx hb hts fa_surplus_0 hown hK hP 0 rfl rfl 1 (by decide) (hts _ fa_surplus_3) (fun _ h9 => h9) rfl dX1_surplus_37 ?_
          refine lv_iload hx hb dX1_surplus_40 (lv_at hl 3 rfl) ?_
          refine va_iald (D := (dC, dI)) hx hb hK hP 1 0 rfl rfl (by first | assumption | exact vp_in_nI (by omega) (by omega)) dX1_surplus_42 ?_
          refine tp_i (y := fr i) (by rw [nI_clamp (n := i) (by omega)]) ?_
          refine lv_iload_n hx hb dX1_surplus_43 rfl (lv_at hl 1 rfl) ?_
          refine lv_icmp_ne (tgt := 58) hx hb dX1_surplus_44 (by decide) (fun c_44 => ?_) (fun c_44 => ?_)
          · refine lv_iinc (v := nI (i + 1)) (lv' := [(4, .int (nI (i + 1))), (0, .ref (q 1)), (1, .int x), (2, .long sm)]) hx hb dX1_surplus_58 hl (k := 3) rfl (by first | exact nI_1 _ | exact nI_add _ _) (by decide) rfl (fun ls hl => ?_)
            refine lv_goto (tgt := 5) hx hb dX1_surplus_61 (by decide) ?_
            exact ih_a (i + 1) sm (by first | assumption | omega | rfl) (by rw [hsm]; simp only [fp_sur, *, if_true, if_false, ite_true, ite_false]) (by omega) _ (lv_sub hl [1, 2, 3, 0] rfl)
          · refine lv_lload_n hx hb dX1_surplus_47 rfl (lv_at hl 2 rfl) ?_
            refine lv_aload_n hx hb dX1_surplus_48 rfl (lv_at hl 0 rfl) ?_
            refine va_get (D := (dC, dI)) (ci := 1) (v := .ref (q 6)) (C := RX1) (T := TX1) (N := 7) hx hb hts fa_surplus_0 hown hK hP 0 rfl rfl 5 (by decide) (hts _ fa_surplus_4) (fun _ h9 => h9) rfl dX1_surplus_49 ?_
            refine lv_iload hx hb dX1_surplus_52 (lv_at hl 3 rfl) ?_
            refine va_iald (D := (dC, dI)) hx hb hK hP 5 0 rfl rfl (by first | assumption | exact vp_in_nI (by omega) (by omega)) dX1_surplus_54 ?_
            refine tp_i (y := fl i) (by rw [nI_clamp (n := i) (by omega)]) ?_
            refine lv_i2l hx hb dX1_surplus_55 rfl ?_
            refine lv_lsub hx hb dX1_surplus_56 ?_
            refine lv_lstore_n (lv' := [(2, .long (sm - ((fl i).toInt64))), (0, .ref (q 1)), (1, .int x), (4, .int (nI i))]) hx hb dX1_surplus_57 rfl hl (by decide) rfl (fun ls hl => ?_)
            refine lv_iinc (v := nI (i + 1)) (lv' := [(4, .int (nI (i + 1))), (2, .long (sm - ((fl i).toInt64))), (0, .ref (q 1)), (1, .int x)]) hx hb dX1_surplus_58 hl (k := 3) rfl (by first | exact nI_1 _ | exact nI_add _ _) (by decide) rfl (fun ls hl => ?_)
            refine lv_goto (tgt := 5) hx hb dX1_surplus_61 (by decide) ?_
            exact ih_a (i + 1) (sm - ((fl i).toInt64)) (by first | assumption | omega | rfl) (by rw [hsm]; simp only [fp_sur, *, if_true, if_false, ite_true, ite_false]) (by omega) _ (lv_sub hl [2, 3, 1, 0] rfl)
        · refine lv_lload_n hx hb dX1_surplus_25 rfl (lv_at hl 2 rfl) ?_
          refine lv_aload_n hx hb dX1_surplus_26 rfl (lv_at hl 0 rfl) ?_
          refine va_get (D := (dC, dI)) (ci := 1) (v := .ref (q 6)) (C := RX1) (T := TX1) (N := 7) hx hb hts fa_surplus_0 hown hK hP 0 rfl rfl 5 (by decide) (hts _ fa_surplus_4) (fun _ h9 => h9) rfl dX1_surplus_27 ?_
          refine lv_iload hx hb dX1_surplus_30 (lv_at hl 3 rfl) ?_
          refine va_iald (D := (dC, dI)) hx hb hK hP 5 0 rfl rfl (by first | assumption | exact vp_in_nI (by omega) (by omega)) dX1_surplus_32 ?_
          refine tp_i (y := fl i) (by rw [nI_clamp (n := i) (by omega)]) ?_
          refine lv_i2l hx hb dX1_surplus_33 rfl ?_
          refine lv_ladd hx hb dX1_surplus_34 ?_
          refine lv_lstore_n (lv' := [(2, .long (sm + ((fl i).toInt64))), (0, .ref (q 1)), (1, .int x), (4, .int (nI i))]) hx hb dX1_surplus_35 rfl hl (by decide) rfl (fun ls hl => ?_)
          refine lv_aload_n hx hb dX1_surplus_36 rfl (lv_at hl 1 rfl) ?_
          refine va_get (D := (dC, dI)) (ci := 1) (v := .ref (q 2)) (C := RX1) (T := TX1) (N := 7) hx hb hts fa_surplus_0 hown hK hP 0 rfl rfl 1 (by decide) (hts _ fa_surplus_3) (fun _ h9 => h9) rfl dX1_surplus_37 ?_
          refine lv_iload hx hb dX1_surplus_40 (lv_at hl 3 rfl) ?_
          refine va_iald (D := (dC, dI)) hx hb hK hP 1 0 rfl rfl (by first | assumption | exact vp_in_nI (by omega) (by omega)) dX1_surplus_42 ?_
          refine tp_i (y := fr i) (by rw [nI_clamp (n := i) (by omega)]) ?_
          refine lv_iload_n hx hb dX1_surplus_43 rfl (lv_at hl 2 rfl) ?_
          refine lv_icmp_ne (tgt := 58) hx hb dX1_surplus_44 (by decide) (fun c_44 => ?_) (fun c_44 => ?_)
          · refine lv_iinc (v := nI (i + 1)) (lv' := [(4, .int (nI (i + 1))), (2, .long (sm + ((fl i).toInt64))), (0, .ref (q 1)), (1, .int x)]) hx hb dX1_surplus_58 hl (k := 3) rfl (by first | exact nI_1 _ | exact nI_add _ _) (by decide) rfl (fun ls hl => ?_)
            refine lv_goto (tgt := 5) hx hb dX1_surplus_61 (by decide) ?_
            exact ih_a (i + 1) (sm + ((fl i).toInt64)) (by first | assumption | omega | rfl) (by rw [hsm]; simp only [fp_sur, *, if_true, if_false, ite_true, ite_false]) (by omega) _ (lv_sub hl [2, 3, 1, 0] rfl)
          · refine lv_lload_n hx hb dX1_surplus_47 rfl (lv_at hl 0 rfl) ?_
            refine lv_aload_n hx hb dX1_surplus_48 rfl (lv_at hl 1 rfl) ?_
            refine va_get (D := (dC, dI)) (ci := 1) (v := .ref (q 6)) (C := RX1) (T := TX1) (N := 7) hx hb hts fa_surplus_0 hown hK hP 0 rfl rfl 5 (by decide) (hts _ fa_surplus_4) (fun _ h9 => h9) rfl dX1_surplus_49 ?_
            refine lv_iload hx hb dX1_surplus_52 (lv_at hl 3 rfl) ?_
            refine va_iald (D := (dC, dI)) hx hb hK hP 5 0 rfl rfl (by first | assumption | exact vp_in_nI (by omega) (by omega)) dX1_surplus_54 ?_
            refine tp_i (y := fl i) (by rw [nI_clamp (n := i) (by omega)]) ?_
            refine lv_i2l hx hb dX1_surplus_55 rfl ?_
            refine lv_lsub hx hb dX1_surplus_56 ?_
            refine lv_lstore_n (lv' := [(2, .long ((sm + ((fl i).toInt64)) - ((fl i).toInt64))), (0, .ref (q 1)), (1, .int x), (4, .int (nI i))]) hx hb dX1_surplus_57 rfl hl (by decide) rfl (fun ls hl => ?_)
            refine lv_iinc (v := nI (i + 1)) (lv' := [(4, .int (nI (i + 1))), (2, .long ((sm + ((fl i).toInt64)) - ((fl i).toInt64))), (0, .ref (q 1)), (1, .int x)]) hx hb dX1_surplus_58 hl (k := 3) rfl (by first | exact nI_1 _ | exact nI_add _ _) (by decide) rfl (fun ls hl => ?_)
            refine lv_goto (tgt := 5) hx hb dX1_surplus_61 (by decide) ?_
            exact ih_a (i + 1) ((sm + ((fl i).toInt64)) - ((fl i).toInt64)) (by first | assumption | omega | rfl) (by rw [hsm]; simp only [fp_sur, *, if_true, if_false, ite_true, ite_false]) (by omega) _ (lv_sub hl [2, 3, 1, 0] rfl)
  exact lo_a (E - 0 + 1) 0 0 (by first | assumption | omega | rfl) rfl (by omega) _ (lv_sub hl [2, 3, 1, 0] rfl)

set_option maxHeartbeats 4000000 in
set_option maxRecDepth 100000 in
theorem k_fill (l : Launch) (dC : Nat → ClassId) (dI : Nat → Nat → Nat) (cI cJ cZ : ClassId) (b n : Nat) (f : Nat → Int32) (v : Int32) (sz : Nat) (hn : n < 1000) : Met l yJ7_fill_53178 wsJ7_fill_53178 ({ frames := 0, cells := 0, slots := 0, locals := 0 }) (va_Pc [.ref b, .int v] (fun U => U.heap.size = sz ∧ va_P (dC, dI) vwCl [(b, .inl (cI, n, .inl f))] U.heap ∧ va_K (dC, dI) vwCl [(cI, .int), (cJ, .long), (cZ, .boolean)] U ∧ va_D (fun _ => True) [(b, .inl (cI, n, .inl f))])) (va_Qv (fun (u_ : Unit) => True) (fun (u_ : Unit) (t : State) => va_P (dC, dI) vwCl [(b, .inl (cI, n, .inl (fun _ => v)))] t.heap ∧ va_K (dC, dI) vwCl [(cI, .int), (cJ, .long), (cZ, .boolean)] t ∧ va_D (va_A [(b, .inl (cI, n, .inl f))] sz) [(b, .inl (cI, n, .inl (fun _ => v)))]) (va_A [(b, .inl (cI, n, .inl f))] sz)) 0 0 (va_A [(b, .inl (cI, n, .inl f))] sz) := by
  refine Met.ofW (cc := cJ7_fill_53178) (maxL := 4) (ret := none) (by decide) rfl ?_
  intro p e s m args below meth c s₁ B hml hv
  obtain ⟨rfl, hsz, hP, hK, hD0⟩ := hv
  have hx := B.exec
  have hb := B.bytes
  have hr := B.returns
  have hts := atoms_spec (ws := wsJ7_fill_53178) B.pre
  have hown : s.vm.findClass RJ7 = some m.cls := findClass_of_methodNamed B.named
  have hlocks := B.notSynchronized
  subst hsz
  have hD := hD0.self (sz := s.heap.size)
  generalize hAe : va_A [(b, .inl (cI, n, .inl f))] s.heap.size = A at hD ⊢
  have hA : ∀ q : Nat, s.heap.size ≤ q → A q := fun q h => by rw [← hAe]; exact Or.inr h
  have hS : va_S A s.heap s.heap [] := va_S.rf
  have hP : va_P (dC, dI) vwCl [(b, .inl (cI, n, .inl f))] s.heap := hP
  have hl := lv_entry ([.ref b, .int v]) (n := 4) (Nat.le_of_ble_eq_true rfl)
  rw [lg_entry_eq]
  generalize (lg_sl ([.ref b, .int v]) ++ List.replicate (4 - (lg_sl ([.ref b, .int v])).length) Slot.unset).toArray = ls at hl ⊢
  have hl : lv_has ls 4 [(0, .ref b), (1, .int v)] := hl
  refine lv_iconst (v := 0) hx hb dJ7_fill_53178_0 (by decide) ?_
  refine tp_i (y := nI 0) nI_0.symm ?_
  refine lv_istore_n (lv' := [(2, .int (nI 0)), (0, .ref b), (1, .int v)]) hx hb dJ7_fill_53178_1 rfl hl (by decide) rfl (fun ls hl => ?_)
  refine lv_aload_n hx hb dJ7_fill_53178_2 rfl (lv_at hl 1 rfl) ?_
  refine va_alen (D := (dC, dI)) (v := nI n) hx hb hK hP 0 0 rfl rfl rfl dJ7_fill_53178_3 ?_
  refine lv_istore_n (lv' := [(3, .int (nI n)), (2, .int (nI 0)), (0, .ref b), (1, .int v)]) hx hb dJ7_fill_53178_4 rfl hl (by decide) rfl (fun ls hl => ?_)
  have lo_a : ∀ (nf : Nat) (i : Nat) (g : Nat → Int32) (hi : i ≤ n) (hg : ∀ j, j < i → g j = v) (hfu : n - i < nf) (H : Heap) (locs : List Loc) (hP : va_P (dC, dI) vwCl [(b, .inl (cI, n, .inl g))] H) (hD : va_D A [(b, .inl (cI, n, .inl g))]) (hS : va_S A s.heap H locs) (ls : Array Slot) (hl : lv_has ls 4 [(0, .ref b), (1, .int v), (2, .int (nI i)), (3, .int (nI n))]), W p l e (headSpec wsJ7_fill_53178 ({ frames := 0, cells := 0, slots := 0, locals := 0 })).room s m ([.ref b, .int v] : List Value).toArray below meth c H locs 0 0 (MQ below (va_Qv (fun (u_ : Unit) => True) (fun (u_ : Unit) (t : State) => va_P (dC, dI) vwCl [(b, .inl (cI, n, .inl (fun _ => v)))] t.heap ∧ va_K (dC, dI) vwCl [(cI, .int), (cJ, .long), (cZ, .boolean)] t ∧ va_D A [(b, .inl (cI, n, .inl (fun _ => v)))]) A) ([.ref b, .int v] : List Value).toArray s 0 0 A) (F0 m 5 ls [])
    := by
    intro nf
    induction nf with
    | zero => intro i g hi hg hfu H locs hP hD hS ls hl; exact absurd hfu (Nat.not_lt_zero _)
    | succ nf ih_a =>
      intro i g hi hg hfu H locs hP hD hS ls hl
      refine lv_iload_n hx hb dJ7_fill_53178_5 rfl (lv_at hl 2 rfl) ?_
      refine lv_iload_n hx hb dJ7_fill_53178_6 rfl (lv_at hl 3 rfl) ?_
      refine lv_icmp_ge (tgt := 20) hx hb dJ7_fill_53178_7 (by decide) (fun c_7 => ?_) (fun c_7 => ?_)
      · have hge := ix_ge (by omega) (by omega) c_7
        have hP := va_P_conI hP 0 (g := fun _ => v) rfl (fun j hj => hg j (by omega))
        have hD := va_D_con hD 0 (e1 := .inl (cI, n, .inl (fun _ => v))) rfl
        have hP9 := hP.sub (ws' := [(b, .inl (cI, n, .inl (fun _ => v)))]) [0] rfl
        have hD9 := hD.sub (ws' := [(b, .inl (cI, n, .inl (fun _ => v)))]) [0] (by decide) rfl
        exact W.vret hx hb hr (fun t ht hW => ⟨⟨(), rfl, trivial, by rw [ht]; exact hP9, va_K.moved hW.alike hK, hD9⟩, hS.F ht⟩) hS.2.2 dJ7_fill_53178_20
      · have hlt := ix_lt (by omega) (by omega) c_7
        refine lv_aload_n hx hb dJ7_fill_53178_10 rfl (lv_at hl 0 rfl) ?_
        refine lv_iload_n hx hb dJ7_fill_53178_11 rfl (lv_at hl 2 rfl) ?_
        refine lv_iload_n hx hb dJ7_fill_53178_12 rfl (lv_at hl 1 rfl) ?_
        refine va_iast (D := (dC, dI)) hx hb hK hP hD hS 0 0 rfl rfl (by first | assumption | exact vp_in_nI (by omega) (by omega)) dJ7_fill_53178_13 (fun H locs hP hD hS => ?_)
        have hP : va_P (dC, dI) vwCl [(b, .inl (cI, n, .inl (upd g ((nI i).toNatClampNeg) v)))] H := hP
        have hD : va_D A [(b, .inl (cI, n, .inl (upd g ((nI i).toNatClampNeg) v)))] := hD
        rw [nI_clamp (n := i) (by omega)] at hP hD
        have hP : va_P (dC, dI) vwCl [(b, .inl (cI, n, .inl (upd g i v)))] H := hP
        have hD : va_D A [(b, .inl (cI, n, .inl (upd g i v)))] := hD
        refine lv_iinc (v := nI (i + 1)) (lv' := [(2, .int (nI (i + 1))), (0, .ref b), (1, .int v), (3, .int (nI n))]) hx hb dJ7_fill_53178_14 hl (k := 2) rfl (by first | exact nI_1 _ | exact nI_add _ _) (by decide) rfl (fun ls hl => ?_)
        refine lv_goto (tgt := 5) hx hb dJ7_fill_53178_17 (by decide) ?_
        exact ih_a (i + 1) (upd g i v) (by first | assumption | omega | rfl) (fun j hj => by unfold upd; split <;> first | rfl | exact hg j (by omega)) (by omega) _ _ hP hD hS _ (lv_sub hl [1, 2, 0, 3] rfl)
  exact lo_a (n - 0 + 1) 0 f (by first | assumption | omega | rfl) (fun j hj => absurd hj (Nat.not_lt_zero _)) (by omega) _ _ hP hD hS _ (lv_sub hl [2, 3, 1, 0] rfl)

theorem fa_clearFlow_0 : ∀ w ∈ wsX10, w ∈ wsX1_clearFlow := by decide +kernel
theorem fa_clearFlow_1 : Cond.fieldLink RX1 26 "FlowProofs$Net" "flow" "[I" ∈ wsX1_clearFlow := by decide +kernel
set_option maxHeartbeats 4000000 in
set_option maxRecDepth 100000 in
theorem k_clearFlow (l : Launch) (dC : Nat → ClassId) (dI : Nat → Nat → Nat) (cI cJ cZ : ClassId) (q : Nat → Nat) (N M E : Nat) (fr to cap uc fl : Nat → Int32) (sz : Nat) (hM : M < 1000) : Met l yX1_clearFlow wsX1_clearFlow ({ frames := 1, cells := 0, slots := 0, locals := 23 }) (va_Pc [.ref (q 1)] (fun U => U.heap.size = sz ∧ va_P (dC, dI) vwCl [(q 1, .inr (1, [.int (nI N), .ref (q 2), .ref (q 3), .ref (q 4), .ref (q 5), .ref (q 6), .int (nI E)])), (q 2, .inl (cI, M, .inl fr)), (q 3, .inl (cI, M, .inl to)), (q 4, .inl (cI, M, .inl cap)), (q 5, .inl (cI, M, .inl uc)), (q 6, .inl (cI, M, .inl fl))] U.heap ∧ va_K (dC, dI) vwCl [(cI, .int), (cJ, .long), (cZ, .boolean)] U ∧ va_D (fun _ => True) [(q 1, .inr (1, [.int (nI N), .ref (q 2), .ref (q 3), .ref (q 4), .ref (q 5), .ref (q 6), .int (nI E)])), (q 2, .inl (cI, M, .inl fr)), (q 3, .inl (cI, M, .inl to)), (q 4, .inl (cI, M, .inl cap)), (q 5, .inl (cI, M, .inl uc)), (q 6, .inl (cI, M, .inl fl))])) (va_Qv (fun (u_ : Unit) => True) (fun (u_ : Unit) (t : State) => va_P (dC, dI) vwCl [(q 1, .inr (1, [.int (nI N), .ref (q 2), .ref (q 3), .ref (q 4), .ref (q 5), .ref (q 6), .int (nI E)])), (q 2, .inl (cI, M, .inl fr)), (q 3, .inl (cI, M, .inl to)), (q 4, .inl (cI, M, .inl cap)), (q 5, .inl (cI, M, .inl uc)), (q 6, .inl (cI, M, .inl (fun _ => 0)))] t.heap ∧ va_K (dC, dI) vwCl [(cI, .int), (cJ, .long), (cZ, .boolean)] t ∧ va_D (va_A [(q 1, .inr (1, [.int (nI N), .ref (q 2), .ref (q 3), .ref (q 4), .ref (q 5), .ref (q 6), .int (nI E)])), (q 2, .inl (cI, M, .inl fr)), (q 3, .inl (cI, M, .inl to)), (q 4, .inl (cI, M, .inl cap)), (q 5, .inl (cI, M, .inl uc)), (q 6, .inl (cI, M, .inl fl))] sz) [(q 1, .inr (1, [.int (nI N), .ref (q 2), .ref (q 3), .ref (q 4), .ref (q 5), .ref (q 6), .int (nI E)])), (q 2, .inl (cI, M, .inl fr)), (q 3, .inl (cI, M, .inl to)), (q 4, .inl (cI, M, .inl cap)), (q 5, .inl (cI, M, .inl uc)), (q 6, .inl (cI, M, .inl (fun _ => 0)))]) (va_A [(q 1, .inr (1, [.int (nI N), .ref (q 2), .ref (q 3), .ref (q 4), .ref (q 5), .ref (q 6), .int (nI E)])), (q 2, .inl (cI, M, .inl fr)), (q 3, .inl (cI, M, .inl to)), (q 4, .inl (cI, M, .inl cap)), (q 5, .inl (cI, M, .inl uc)), (q 6, .inl (cI, M, .inl fl))] sz)) 0 0 (va_A [(q 1, .inr (1, [.int (nI N), .ref (q 2), .ref (q 3), .ref (q 4), .ref (q 5), .ref (q 6), .int (nI E)])), (q 2, .inl (cI, M, .inl fr)), (q 3, .inl (cI, M, .inl to)), (q 4, .inl (cI, M, .inl cap)), (q 5, .inl (cI, M, .inl uc)), (q 6, .inl (cI, M, .inl fl))] sz) := by
  refine Met.ofW (cc := cX1_clearFlow) (maxL := 1) (ret := none) (by decide) rfl ?_
  intro p e s m args below meth c s₁ B hml hv
  obtain ⟨rfl, hsz, hP, hK, hD0⟩ := hv
  have hx := B.exec
  have hb := B.bytes
  have hr := B.returns
  have hts := atoms_spec (ws := wsX1_clearFlow) B.pre
  have hown : s.vm.findClass RX1 = some m.cls := findClass_of_methodNamed B.named
  have hlocks := B.notSynchronized
  subst hsz
  have hD := hD0.self (sz := s.heap.size)
  generalize hAe : va_A [(q 1, .inr (1, [.int (nI N), .ref (q 2), .ref (q 3), .ref (q 4), .ref (q 5), .ref (q 6), .int (nI E)])), (q 2, .inl (cI, M, .inl fr)), (q 3, .inl (cI, M, .inl to)), (q 4, .inl (cI, M, .inl cap)), (q 5, .inl (cI, M, .inl uc)), (q 6, .inl (cI, M, .inl fl))] s.heap.size = A at hD ⊢
  have hA : ∀ q : Nat, s.heap.size ≤ q → A q := fun q h => by rw [← hAe]; exact Or.inr h
  have hS : va_S A s.heap s.heap [] := va_S.rf
  have hP : va_P (dC, dI) vwCl [(q 1, .inr (1, [.int (nI N), .ref (q 2), .ref (q 3), .ref (q 4), .ref (q 5), .ref (q 6), .int (nI E)])), (q 2, .inl (cI, M, .inl fr)), (q 3, .inl (cI, M, .inl to)), (q 4, .inl (cI, M, .inl cap)), (q 5, .inl (cI, M, .inl uc)), (q 6, .inl (cI, M, .inl fl))] s.heap := hP
  have hl := lv_entry ([.ref (q 1)]) (n := 1) (Nat.le_of_ble_eq_true rfl)
  rw [lg_entry_eq]
  generalize (lg_sl ([.ref (q 1)]) ++ List.replicate (1 - (lg_sl ([.ref (q 1)])).length) Slot.unset).toArray = ls at hl ⊢
  have hl : lv_has ls 1 [(0, .ref (q 1))] := hl
  refine lv_aload_n hx hb dX1_clearFlow_0 rfl (lv_at hl 0 rfl) ?_
  refine va_get (D := (dC, dI)) (ci := 1) (v := .ref (q 6)) (C := RX1) (T := TX1) (N := 7) hx hb hts fa_clearFlow_0 hown hK hP 0 rfl rfl 5 (by decide) (hts _ fa_clearFlow_1) (fun _ h9 => h9) rfl dX1_clearFlow_1 ?_
  refine lv_iconst (v := 0) hx hb dX1_clearFlow_4 (by decide) ?_
  have hPc := hP.sub (ws' := [(q 6, .inl (cI, M, .inl fl))]) [5] rfl
  have hDc := hD.sub (ws' := [(q 6, .inl (cI, M, .inl fl))]) [5] (by decide) rfl
  have hFc := va_free (wc := [(q 6, .inl (cI, M, .inl fl))]) hD hS hA [5] rfl
  refine va_callv (va_runS (As := [.ref (q 6), .int 0]) (rest := []) ⟨hx, hb, hml, hown, hts⟩ (k_fill l dC dI cI cJ cZ (q 6) M fl 0 s.heap.size (by omega)) (va_cwS 2 hts gX1_clearFlow_J7_fill_53178 rfl rfl rfl (by decide +kernel) ⟨Nat.le_of_ble_eq_true rfl, Nat.le_of_ble_eq_true rfl⟩) ⟨fun a U g mk q => by obtain ⟨q0, q1, qP, qK, qD⟩ := q; exact ⟨q0, q1, qP, va_K.moved (u := U) (U := U.calling g mk a) (Vm.Alike.refl U.vm) qK, qD⟩, fun U hU hW => ⟨rfl, by rw [hU], by rw [hU]; exact hPc, va_K.moved hW.alike hK, hDc.weaken (fun _ _ _ _ => trivial)⟩⟩ rfl rfl hl.1 rfl (lv_room (Nat.le_of_ble_eq_true rfl)) dX1_clearFlow_5 ⟨Nat.le_of_ble_eq_true rfl, Nat.le_of_ble_eq_true rfl⟩) hS (fun q _ h => hFc q h) hFc (fun u t H1 locs ht hvm hw_5 hB hz1 hk1 hS => ?_)
  obtain ⟨hP1, hK1, hD1⟩ := hB
  rw [ht] at hP1
  obtain ⟨hP, hD⟩ := va_join (wr := [(q 1, .inr (1, [.int (nI N), .ref (q 2), .ref (q 3), .ref (q 4), .ref (q 5), .ref (q 6), .int (nI E)])), (q 2, .inl (cI, M, .inl fr)), (q 3, .inl (cI, M, .inl to)), (q 4, .inl (cI, M, .inl cap)), (q 5, .inl (cI, M, .inl uc))]) (w1 := [(q 6, .inl (cI, M, .inl (fun _ => 0)))]) hP hD [5] [0, 1, 2, 3, 4] rfl rfl (by decide) (by decide) hk1 hFc hP1 hD1
  generalize H1 = H at hP hS ⊢
  have hP := hP.sub (ws' := [(q 1, .inr (1, [.int (nI N), .ref (q 2), .ref (q 3), .ref (q 4), .ref (q 5), .ref (q 6), .int (nI E)])), (q 2, .inl (cI, M, .inl fr)), (q 3, .inl (cI, M, .inl to)), (q 4, .inl (cI, M, .inl cap)), (q 5, .inl (cI, M, .inl uc)), (q 6, .inl (cI, M, .inl (fun _ => 0)))]) [0, 1, 2, 3, 4, 5] rfl
  have hD := hD.sub (ws' := [(q 1, .inr (1, [.int (nI N), .ref (q 2), .ref (q 3), .ref (q 4), .ref (q 5), .ref (q 6), .int (nI E)])), (q 2, .inl (cI, M, .inl fr)), (q 3, .inl (cI, M, .inl to)), (q 4, .inl (cI, M, .inl cap)), (q 5, .inl (cI, M, .inl uc)), (q 6, .inl (cI, M, .inl (fun _ => 0)))]) [0, 1, 2, 3, 4, 5] (by decide) rfl
  have hP9 := hP.sub (ws' := [(q 1, .inr (1, [.int (nI N), .ref (q 2), .ref (q 3), .ref (q 4), .ref (q 5), .ref (q 6), .int (nI E)])), (q 2, .inl (cI, M, .inl fr)), (q 3, .inl (cI, M, .inl to)), (q 4, .inl (cI, M, .inl cap)), (q 5, .inl (cI, M, .inl uc)), (q 6, .inl (cI, M, .inl (fun _ => 0)))]) [0, 1, 2, 3, 4, 5] rfl
  have hD9 := hD.sub (ws' := [(q 1, .inr (1, [.int (nI N), .ref (q 2), .ref (q 3), .ref (q 4), .ref (q 5), .ref (q 6), .int (nI E)])), (q 2, .inl (cI, M, .inl fr)), (q 3, .inl (cI, M, .inl to)), (q 4, .inl (cI, M, .inl cap)), (q 5, .inl (cI, M, .inl uc)), (q 6, .inl (cI, M, .inl (fun _ => 0)))]) [0, 1, 2, 3, 4, 5] (by decide) rfl
  exact W.vret hx hb hr (fun t ht hW => ⟨⟨(), rfl, trivial, by rw [ht]; exact hP9, va_K.moved hW.alike hK, hD9⟩, hS.F ht⟩) hS.2.2 dX1_clearFlow_8

theorem fa_add_0 : ∀ w ∈ wsX10, w ∈ wsX1_add := by decide +kernel
theorem fa_add_1 : Cond.fieldLink RX1 29 "FlowProofs$Net" "edges" "I" ∈ wsX1_add := by decide +kernel
theorem fa_add_2 : Cond.fieldLink RX1 13 "FlowProofs$Net" "from" "[I" ∈ wsX1_add := by decide +kernel
theorem fa_add_3 : Cond.fieldLink RX1 17 "FlowProofs$Net" "to" "[I" ∈ wsX1_add := by decide +kernel
theorem fa_add_4 : Cond.fieldLink RX1 20 "FlowProofs$Net" "capacity" "[I" ∈ wsX1_add := by decide +kernel
theorem fa_add_5 : Cond.fieldLink RX1 23 "FlowProofs$Net" "unitCost" "[I" ∈ wsX1_add := by decide +kernel
set_option maxHeartbeats 4000000 in
set_option maxRecDepth 100000 in
theorem k_add (l : Launch) (dC : Nat → ClassId) (dI : Nat → Nat → Nat) (cI cJ cZ : ClassId) (q : Nat → Nat) (N M E : Nat) (fr to cap uc fl : Nat → Int32) (u v cp cs : Int32) (sz : Nat) (hE : E < M) (hM : M < 1000) : Met l yX1_add wsX1_add ({ frames := 0, cells := 0, slots := 0, locals := 0 }) (va_Pc [.ref (q 1), .int u, .int v, .int cp, .int cs] (fun U => U.heap.size = sz ∧ va_P (dC, dI) vwCl [(q 1, .inr (1, [.int (nI N), .ref (q 2), .ref (q 3), .ref (q 4), .ref (q 5), .ref (q 6), .int (nI E)])), (q 2, .inl (cI, M, .inl fr)), (q 3, .inl (cI, M, .inl to)), (q 4, .inl (cI, M, .inl cap)), (q 5, .inl (cI, M, .inl uc)), (q 6, .inl (cI, M, .inl fl))] U.heap ∧ va_K (dC, dI) vwCl [(cI, .int), (cJ, .long), (cZ, .boolean)] U ∧ va_D (fun _ => True) [(q 1, .inr (1, [.int (nI N), .ref (q 2), .ref (q 3), .ref (q 4), .ref (q 5), .ref (q 6), .int (nI E)])), (q 2, .inl (cI, M, .inl fr)), (q 3, .inl (cI, M, .inl to)), (q 4, .inl (cI, M, .inl cap)), (q 5, .inl (cI, M, .inl uc)), (q 6, .inl (cI, M, .inl fl))])) (va_Qi (fun (r : Int32) (u_ : Unit) => r = nI E) (fun (u_ : Unit) (t : State) => va_P (dC, dI) vwCl [(q 1, .inr (1, [.int (nI N), .ref (q 2), .ref (q 3), .ref (q 4), .ref (q 5), .ref (q 6), .int (nI (E + 1))])), (q 2, .inl (cI, M, .inl (upd fr E u))), (q 3, .inl (cI, M, .inl (upd to E v))), (q 4, .inl (cI, M, .inl (upd cap E cp))), (q 5, .inl (cI, M, .inl (upd uc E cs))), (q 6, .inl (cI, M, .inl fl))] t.heap ∧ va_K (dC, dI) vwCl [(cI, .int), (cJ, .long), (cZ, .boolean)] t ∧ va_D (va_A [(q 1, .inr (1, [.int (nI N), .ref (q 2), .ref (q 3), .ref (q 4), .ref (q 5), .ref (q 6), .int (nI E)])), (q 2, .inl (cI, M, .inl fr)), (q 3, .inl (cI, M, .inl to)), (q 4, .inl (cI, M, .inl cap)), (q 5, .inl (cI, M, .inl uc)), (q 6, .inl (cI, M, .inl fl))] sz) [(q 1, .inr (1, [.int (nI N), .ref (q 2), .ref (q 3), .ref (q 4), .ref (q 5), .ref (q 6), .int (nI (E + 1))])), (q 2, .inl (cI, M, .inl (upd fr E u))), (q 3, .inl (cI, M, .inl (upd to E v))), (q 4, .inl (cI, M, .inl (upd cap E cp))), (q 5, .inl (cI, M, .inl (upd uc E cs))), (q 6, .inl (cI, M, .inl fl))]) (va_A [(q 1, .inr (1, [.int (nI N), .ref (q 2), .ref (q 3), .ref (q 4), .ref (q 5), .ref (q 6), .int (nI E)])), (q 2, .inl (cI, M, .inl fr)), (q 3, .inl (cI, M, .inl to)), (q 4, .inl (cI, M, .inl cap)), (q 5, .inl (cI, M, .inl uc)), (q 6, .inl (cI, M, .inl fl))] sz)) 0 0 (va_A [(q 1, .inr (1, [.int (nI N), .ref (q 2), .ref (q 3), .ref (q 4), .ref (q 5), .ref (q 6), .int (nI E)])), (q 2, .inl (cI, M, .inl fr)), (q 3, .inl (cI, M, .inl to)), (q 4, .inl (cI, M, .inl cap)), (q 5, .inl (cI, M, .inl uc)), (q 6, .inl (cI, M, .inl fl))] sz) := by
  refine Met.ofW (cc := cX1_add) (maxL := 6) (ret := (some .int)) (by decide) rfl ?_
  intro p e s m args below meth c s₁ B hml hv
  obtain ⟨rfl, hsz, hP, hK, hD0⟩ := hv
  have hx := B.exec
  have hb := B.bytes
  have hr := B.returns
  have hts := atoms_spec (ws := wsX1_add) B.pre
  have hown : s.vm.findClass RX1 = some m.cls := findClass_of_methodNamed B.named
  have hlocks := B.notSynchronized
  subst hsz
  have hD := hD0.self (sz := s.heap.size)
  generalize hAe : va_A [(q 1, .inr (1, [.int (nI N), .ref (q 2), .ref (q 3), .ref (q 4), .ref (q 5), .ref (q 6), .int (nI E)])), (q 2, .inl (cI, M, .inl fr)), (q 3, .inl (cI, M, .inl to)), (q 4, .inl (cI, M, .inl cap)), (q 5, .inl (cI, M, .inl uc)), (q 6, .inl (cI, M, .inl fl))] s.heap.size = A at hD ⊢
  have hA : ∀ q : Nat, s.heap.size ≤ q → A q := fun q h => by rw [← hAe]; exact Or.inr h
  have hS : va_S A s.heap s.heap [] := va_S.rf
  have hP : va_P (dC, dI) vwCl [(q 1, .inr (1, [.int (nI N), .ref (q 2), .ref (q 3), .ref (q 4), .ref (q 5), .ref (q 6), .int (nI E)])), (q 2, .inl (cI, M, .inl fr)), (q 3, .inl (cI, M, .inl to)), (q 4, .inl (cI, M, .inl cap)), (q 5, .inl (cI, M, .inl uc)), (q 6, .inl (cI, M, .inl fl))] s.heap := hP
  have hl := lv_entry ([.ref (q 1), .int u, .int v, .int cp, .int cs]) (n := 6) (Nat.le_of_ble_eq_true rfl)
  rw [lg_entry_eq]
  generalize (lg_sl ([.ref (q 1), .int u, .int v, .int cp, .int cs]) ++ List.replicate (6 - (lg_sl ([.ref (q 1), .int u, .int v, .int cp, .int cs])).length) Slot.unset).toArray = ls at hl ⊢
  have hl : lv_has ls 6 [(0, .ref (q 1)), (1, .int u), (2, .int v), (3, .int cp), (4, .int cs)] := hl
  refine lv_aload_n hx hb dX1_add_0 rfl (lv_at hl 0 rfl) ?_
  refine va_get (D := (dC, dI)) (ci := 1) (v := .int (nI E)) (C := RX1) (T := TX1) (N := 7) hx hb hts fa_add_0 hown hK hP 0 rfl rfl 6 (by decide) (hts _ fa_add_1) (fun _ h9 => h9) rfl dX1_add_1 ?_
  refine lv_istore (lv' := [(5, .int (nI E)), (0, .ref (q 1)), (1, .int u), (2, .int v), (3, .int cp), (4, .int cs)]) hx hb dX1_add_4 hl (by decide) rfl (fun ls hl => ?_)
  refine lv_aload_n hx hb dX1_add_6 rfl (lv_at hl 1 rfl) ?_
  refine va_get (D := (dC, dI)) (ci := 1) (v := .ref (q 2)) (C := RX1) (T := TX1) (N := 7) hx hb hts fa_add_0 hown hK hP 0 rfl rfl 1 (by decide) (hts _ fa_add_2) (fun _ h9 => h9) rfl dX1_add_7 ?_
  refine lv_iload hx hb dX1_add_10 (lv_at hl 0 rfl) ?_
  refine lv_iload_n hx hb dX1_add_12 rfl (lv_at hl 2 rfl) ?_
  refine va_iast (D := (dC, dI)) hx hb hK hP hD hS 1 0 rfl rfl (by first | assumption | exact vp_in_nI (by omega) (by omega)) dX1_add_13 (fun H locs hP hD hS => ?_)
  have hP : va_P (dC, dI) vwCl [(q 1, .inr (1, [.int (nI N), .ref (q 2), .ref (q 3), .ref (q 4), .ref (q 5), .ref (q 6), .int (nI E)])), (q 2, .inl (cI, M, .inl (upd fr ((nI E).toNatClampNeg) u))), (q 3, .inl (cI, M, .inl to)), (q 4, .inl (cI, M, .inl cap)), (q 5, .inl (cI, M, .inl uc)), (q 6, .inl (cI, M, .inl fl))] H := hP
  have hD : va_D A [(q 1, .inr (1, [.int (nI N), .ref (q 2), .ref (q 3), .ref (q 4), .ref (q 5), .ref (q 6), .int (nI E)])), (q 2, .inl (cI, M, .inl (upd fr ((nI E).toNatClampNeg) u))), (q 3, .inl (cI, M, .inl to)), (q 4, .inl (cI, M, .inl cap)), (q 5, .inl (cI, M, .inl uc)), (q 6, .inl (cI, M, .inl fl))] := hD
  rw [nI_clamp (n := E) (by omega)] at hP hD
  have hP : va_P (dC, dI) vwCl [(q 1, .inr (1, [.int (nI N), .ref (q 2), .ref (q 3), .ref (q 4), .ref (q 5), .ref (q 6), .int (nI E)])), (q 2, .inl (cI, M, .inl (upd fr E u))), (q 3, .inl (cI, M, .inl to)), (q 4, .inl (cI, M, .inl cap)), (q 5, .inl (cI, M, .inl uc)), (q 6, .inl (cI, M, .inl fl))] H := hP
  have hD : va_D A [(q 1, .inr (1, [.int (nI N), .ref (q 2), .ref (q 3), .ref (q 4), .ref (q 5), .ref (q 6), .int (nI E)])), (q 2, .inl (cI, M, .inl (upd fr E u))), (q 3, .inl (cI, M, .inl to)), (q 4, .inl (cI, M, .inl cap)), (q 5, .inl (cI, M, .inl uc)), (q 6, .inl (cI, M, .inl fl))] := hD
  refine lv_aload_n hx hb dX1_add_14 rfl (lv_at hl 1 rfl) ?_
  refine va_get (D := (dC, dI)) (ci := 1) (v := .ref (q 3)) (C := RX1) (T := TX1) (N := 7) hx hb hts fa_add_0 hown hK hP 0 rfl rfl 2 (by decide) (hts _ fa_add_3) (fun _ h9 => h9) rfl dX1_add_15 ?_
  refine lv_iload hx hb dX1_add_18 (lv_at hl 0 rfl) ?_
  refine lv_iload_n hx hb dX1_add_20 rfl (lv_at hl 3 rfl) ?_
  refine va_iast (D := (dC, dI)) hx hb hK hP hD hS 2 0 rfl rfl (by first | assumption | exact vp_in_nI (by omega) (by omega)) dX1_add_21 (fun H locs hP hD hS => ?_)
  have hP : va_P (dC, dI) vwCl [(q 1, .inr (1, [.int (nI N), .ref (q 2), .ref (q 3), .ref (q 4), .ref (q 5), .ref (q 6), .int (nI E)])), (q 2, .inl (cI, M, .inl (upd fr E u))), (q 3, .inl (cI, M, .inl (upd to ((nI E).toNatClampNeg) v))), (q 4, .inl (cI, M, .inl cap)), (q 5, .inl (cI, M, .inl uc)), (q 6, .inl (cI, M, .inl fl))] H := hP
  have hD : va_D A [(q 1, .inr (1, [.int (nI N), .ref (q 2), .ref (q 3), .ref (q 4), .ref (q 5), .ref (q 6), .int (nI E)])), (q 2, .inl (cI, M, .inl (upd fr E u))), (q 3, .inl (cI, M, .inl (upd to ((nI E).toNatClampNeg) v))), (q 4, .inl (cI, M, .inl cap)), (q 5, .inl (cI, M, .inl uc)), (q 6, .inl (cI, M, .inl fl))] := hD
  rw [nI_clamp (n := E) (by omega)] at hP hD
  have hP : va_P (dC, dI) vwCl [(q 1, .inr (1, [.int (nI N), .ref (q 2), .ref (q 3), .ref (q 4), .ref (q 5), .ref (q 6), .int (nI E)])), (q 2, .inl (cI, M, .inl (upd fr E u))), (q 3, .inl (cI, M, .inl (upd to E v))), (q 4, .inl (cI, M, .inl cap)), (q 5, .inl (cI, M, .inl uc)), (q 6, .inl (cI, M, .inl fl))] H := hP
  have hD : va_D A [(q 1, .inr (1, [.int (nI N), .ref (q 2), .ref (q 3), .ref (q 4), .ref (q 5), .ref (q 6), .int (nI E)])), (q 2, .inl (cI, M, .inl (upd fr E u))), (q 3, .inl (cI, M, .inl (upd to E v))), (q 4, .inl (cI, M, .inl cap)), (q 5, .inl (cI, M, .inl uc)), (q 6, .inl (cI, M, .inl fl))] := hD
  refine lv_aload_n hx hb dX1_add_22 rfl (lv_at hl 1 rfl) ?_
  refine va_get (D := (dC, dI)) (ci := 1) (v := .ref (q 4)) (C := RX1) (T := TX1) (N := 7) hx hb hts fa_add_0 hown hK hP 0 rfl rfl 3 (by decide) (hts _ fa_add_4) (fun _ h9 => h9) rfl dX1_add_23 ?_
  refine lv_iload hx hb dX1_add_26 (lv_at hl 0 rfl) ?_
  refine lv_iload_n hx hb dX1_add_28 rfl (lv_at hl 4 rfl) ?_
  refine va_iast (D := (dC, dI)) hx hb hK hP hD hS 3 0 rfl rfl (by first | assumption | exact vp_in_nI (by omega) (by omega)) dX1_add_29 (fun H locs hP hD hS => ?_)
  have hP : va_P (dC, dI) vwCl [(q 1, .inr (1, [.int (nI N), .ref (q 2), .ref (q 3), .ref (q 4), .ref (q 5), .ref (q 6), .int (nI E)])), (q 2, .inl (cI, M, .inl (upd fr E u))), (q 3, .inl (cI, M, .inl (upd to E v))), (q 4, .inl (cI, M, .inl (upd cap ((nI E).toNatClampNeg) cp))), (q 5, .inl (cI, M, .inl uc)), (q 6, .inl (cI, M, .inl fl))] H := hP
  have hD : va_D A [(q 1, .inr (1, [.int (nI N), .ref (q 2), .ref (q 3), .ref (q 4), .ref (q 5), .ref (q 6), .int (nI E)])), (q 2, .inl (cI, M, .inl (upd fr E u))), (q 3, .inl (cI, M, .inl (upd to E v))), (q 4, .inl (cI, M, .inl (upd cap ((nI E).toNatClampNeg) cp))), (q 5, .inl (cI, M, .inl uc)), (q 6, .inl (cI, M, .inl fl))] := hD
  rw [nI_clamp (n := E) (by omega)] at hP hD
  have hP : va_P (dC, dI) vwCl [(q 1, .inr (1, [.int (nI N), .ref (q 2), .ref (q 3), .ref (q 4), .ref (q 5), .ref (q 6), .int (nI E)])), (q 2, .inl (cI, M, .inl (upd fr E u))), (q 3, .inl (cI, M, .inl (upd to E v))), (q 4, .inl (cI, M, .inl (upd cap E cp))), (q 5, .inl (cI, M, .inl uc)), (q 6, .inl (cI, M, .inl fl))] H := hP
  have hD : va_D A [(q 1, .inr (1, [.int (nI N), .ref (q 2), .ref (q 3), .ref (q 4), .ref (q 5), .ref (q 6), .int (nI E)])), (q 2, .inl (cI, M, .inl (upd fr E u))), (q 3, .inl (cI, M, .inl (upd to E v))), (q 4, .inl (cI, M, .inl (upd cap E cp))), (q 5, .inl (cI, M, .inl uc)), (q 6, .inl (cI, M, .inl fl))] := hD
  refine lv_aload_n hx hb dX1_add_30 rfl (lv_at hl 1 rfl) ?_
  refine va_get (D := (dC, dI)) (ci := 1) (v := .ref (q 5)) (C := RX1) (T := TX1) (N := 7) hx hb hts fa_add_0 hown hK hP 0 rfl rfl 4 (by decide) (hts _ fa_add_5) (fun _ h9 => h9) rfl dX1_add_31 ?_
  refine lv_iload hx hb dX1_add_34 (lv_at hl 0 rfl) ?_
  refine lv_iload hx hb dX1_add_36 (lv_at hl 5 rfl) ?_
  refine va_iast (D := (dC, dI)) hx hb hK hP hD hS 4 0 rfl rfl (by first | assumption | exact vp_in_nI (by omega) (by omega)) dX1_add_38 (fun H locs hP hD hS => ?_)
  have hP : va_P (dC, dI) vwCl [(q 1, .inr (1, [.int (nI N), .ref (q 2), .ref (q 3), .ref (q 4), .ref (q 5), .ref (q 6), .int (nI E)])), (q 2, .inl (cI, M, .inl (upd fr E u))), (q 3, .inl (cI, M, .inl (upd to E v))), (q 4, .inl (cI, M, .inl (upd cap E cp))), (q 5, .inl (cI, M, .inl (upd uc ((nI E).toNatClampNeg) cs))), (q 6, .inl (cI, M, .inl fl))] H := hP
  have hD : va_D A [(q 1, .inr (1, [.int (nI N), .ref (q 2), .ref (q 3), .ref (q 4), .ref (q 5), .ref (q 6), .int (nI E)])), (q 2, .inl (cI, M, .inl (upd fr E u))), (q 3, .inl (cI, M, .inl (upd to E v))), (q 4, .inl (cI, M, .inl (upd cap E cp))), (q 5, .inl (cI, M, .inl (upd uc ((nI E).toNatClampNeg) cs))), (q 6, .inl (cI, M, .inl fl))] := hD
  rw [nI_clamp (n := E) (by omega)] at hP hD
  have hP : va_P (dC, dI) vwCl [(q 1, .inr (1, [.int (nI N), .ref (q 2), .ref (q 3), .ref (q 4), .ref (q 5), .ref (q 6), .int (nI E)])), (q 2, .inl (cI, M, .inl (upd fr E u))), (q 3, .inl (cI, M, .inl (upd to E v))), (q 4, .inl (cI, M, .inl (upd cap E cp))), (q 5, .inl (cI, M, .inl (upd uc E cs))), (q 6, .inl (cI, M, .inl fl))] H := hP
  have hD : va_D A [(q 1, .inr (1, [.int (nI N), .ref (q 2), .ref (q 3), .ref (q 4), .ref (q 5), .ref (q 6), .int (nI E)])), (q 2, .inl (cI, M, .inl (upd fr E u))), (q 3, .inl (cI, M, .inl (upd to E v))), (q 4, .inl (cI, M, .inl (upd cap E cp))), (q 5, .inl (cI, M, .inl (upd uc E cs))), (q 6, .inl (cI, M, .inl fl))] := hD
  refine lv_aload_n hx hb dX1_add_39 rfl (lv_at hl 1 rfl) ?_
  refine lv_dup hx hb dX1_add_40 rfl ?_
  refine va_get (D := (dC, dI)) (ci := 1) (v := .int (nI E)) (C := RX1) (T := TX1) (N := 7) hx hb hts fa_add_0 hown hK hP 0 rfl rfl 6 (by decide) (hts _ fa_add_1) (fun _ h9 => h9) rfl dX1_add_41 ?_
  refine lv_iconst (v := 1) hx hb dX1_add_44 (by decide) ?_
  refine lv_iadd hx hb dX1_add_45 ?_
  refine tp_i (y := nI (E + 1)) (nI_1 E) ?_
  refine va_put (D := (dC, dI)) (ci := 1) (v := .int (nI (E + 1))) (ty := .int) (C := RX1) (T := TX1) (N := 7) hx hb hts fa_add_0 tyX1 tyX1_ok nmX1 hown hK hP hD hS 0 rfl rfl 6 (by decide) (hts _ fa_add_1) (fun _ h9 => h9) rfl (by decide +kernel) rfl rfl (Nat.le_of_ble_eq_true rfl) dX1_add_46 (fun H locs hP hD hS => ?_)
  have hP : va_P (dC, dI) vwCl [(q 1, .inr (1, [.int (nI N), .ref (q 2), .ref (q 3), .ref (q 4), .ref (q 5), .ref (q 6), .int (nI (E + 1))])), (q 2, .inl (cI, M, .inl (upd fr E u))), (q 3, .inl (cI, M, .inl (upd to E v))), (q 4, .inl (cI, M, .inl (upd cap E cp))), (q 5, .inl (cI, M, .inl (upd uc E cs))), (q 6, .inl (cI, M, .inl fl))] H := hP
  have hD : va_D A [(q 1, .inr (1, [.int (nI N), .ref (q 2), .ref (q 3), .ref (q 4), .ref (q 5), .ref (q 6), .int (nI (E + 1))])), (q 2, .inl (cI, M, .inl (upd fr E u))), (q 3, .inl (cI, M, .inl (upd to E v))), (q 4, .inl (cI, M, .inl (upd cap E cp))), (q 5, .inl (cI, M, .inl (upd uc E cs))), (q 6, .inl (cI, M, .inl fl))] := hD
  refine lv_iload hx hb dX1_add_49 (lv_at hl 0 rfl) ?_
  have hP9 := hP.sub (ws' := [(q 1, .inr (1, [.int (nI N), .ref (q 2), .ref (q 3), .ref (q 4), .ref (q 5), .ref (q 6), .int (nI (E + 1))])), (q 2, .inl (cI, M, .inl (upd fr E u))), (q 3, .inl (cI, M, .inl (upd to E v))), (q 4, .inl (cI, M, .inl (upd cap E cp))), (q 5, .inl (cI, M, .inl (upd uc E cs))), (q 6, .inl (cI, M, .inl fl))]) [0, 1, 2, 3, 4, 5] rfl
  have hD9 := hD.sub (ws' := [(q 1, .inr (1, [.int (nI N), .ref (q 2), .ref (q 3), .ref (q 4), .ref (q 5), .ref (q 6), .int (nI (E + 1))])), (q 2, .inl (cI, M, .inl (upd fr E u))), (q 3, .inl (cI, M, .inl (upd to E v))), (q 4, .inl (cI, M, .inl (upd cap E cp))), (q 5, .inl (cI, M, .inl (upd uc E cs))), (q 6, .inl (cI, M, .inl fl))]) [0, 1, 2, 3, 4, 5] (by decide) rfl
  exact W.iret (v := (nI E)) hx hb hr (fun t ht hW => ⟨⟨(nI E), (), rfl, rfl, by rw [ht]; exact hP9, va_K.moved hW.alike hK, hD9⟩, hS.F ht⟩) hS.2.2 dX1_add_51

theorem fa_send_0 : ∀ w ∈ wsX10, w ∈ wsX1_send := by decide +kernel
theorem fa_send_1 : Cond.fieldLink RX1 26 "FlowProofs$Net" "flow" "[I" ∈ wsX1_send := by decide +kernel
set_option maxHeartbeats 4000000 in
set_option maxRecDepth 100000 in
theorem k_send (l : Launch) (dC : Nat → ClassId) (dI : Nat → Nat → Nat) (cI cJ cZ : ClassId) (q : Nat → Nat) (N M E : Nat) (fr to cap uc fl : Nat → Int32) (a : Nat) (x : Int32) (sz : Nat) (ha : a / 2 < M) (hM : M < 1000) : Met l yX1_send wsX1_send ({ frames := 1, cells := 0, slots := 0, locals := 20 }) (va_Pc [.ref (q 1), .int (nI a), .int x] (fun U => U.heap.size = sz ∧ va_P (dC, dI) vwCl [(q 1, .inr (1, [.int (nI N), .ref (q 2), .ref (q 3), .ref (q 4), .ref (q 5), .ref (q 6), .int (nI E)])), (q 2, .inl (cI, M, .inl fr)), (q 3, .inl (cI, M, .inl to)), (q 4, .inl (cI, M, .inl cap)), (q 5, .inl (cI, M, .inl uc)), (q 6, .inl (cI, M, .inl fl))] U.heap ∧ va_K (dC, dI) vwCl [(cI, .int), (cJ, .long), (cZ, .boolean)] U ∧ va_D (fun _ => True) [(q 1, .inr (1, [.int (nI N), .ref (q 2), .ref (q 3), .ref (q 4), .ref (q 5), .ref (q 6), .int (nI E)])), (q 2, .inl (cI, M, .inl fr)), (q 3, .inl (cI, M, .inl to)), (q 4, .inl (cI, M, .inl cap)), (q 5, .inl (cI, M, .inl uc)), (q 6, .inl (cI, M, .inl fl))])) (va_Qv (fun (u_ : Unit) => True) (fun (u_ : Unit) (t : State) => va_P (dC, dI) vwCl [(q 1, .inr (1, [.int (nI N), .ref (q 2), .ref (q 3), .ref (q 4), .ref (q 5), .ref (q 6), .int (nI E)])), (q 2, .inl (cI, M, .inl fr)), (q 3, .inl (cI, M, .inl to)), (q 4, .inl (cI, M, .inl cap)), (q 5, .inl (cI, M, .inl uc)), (q 6, .inl (cI, M, .inl (fp_send fl a x)))] t.heap ∧ va_K (dC, dI) vwCl [(cI, .int), (cJ, .long), (cZ, .boolean)] t ∧ va_D (va_A [(q 1, .inr (1, [.int (nI N), .ref (q 2), .ref (q 3), .ref (q 4), .ref (q 5), .ref (q 6), .int (nI E)])), (q 2, .inl (cI, M, .inl fr)), (q 3, .inl (cI, M, .inl to)), (q 4, .inl (cI, M, .inl cap)), (q 5, .inl (cI, M, .inl uc)), (q 6, .inl (cI, M, .inl fl))] sz) [(q 1, .inr (1, [.int (nI N), .ref (q 2), .ref (q 3), .ref (q 4), .ref (q 5), .ref (q 6), .int (nI E)])), (q 2, .inl (cI, M, .inl fr)), (q 3, .inl (cI, M, .inl to)), (q 4, .inl (cI, M, .inl cap)), (q 5, .inl (cI, M, .inl uc)), (q 6, .inl (cI, M, .inl (fp_send fl a x)))]) (va_A [(q 1, .inr (1, [.int (nI N), .ref (q 2), .ref (q 3), .ref (q 4), .ref (q 5), .ref (q 6), .int (nI E)])), (q 2, .inl (cI, M, .inl fr)), (q 3, .inl (cI, M, .inl to)), (q 4, .inl (cI, M, .inl cap)), (q 5, .inl (cI, M, .inl uc)), (q 6, .inl (cI, M, .inl fl))] sz)) 0 0 (va_A [(q 1, .inr (1, [.int (nI N), .ref (q 2), .ref (q 3), .ref (q 4), .ref (q 5), .ref (q 6), .int (nI E)])), (q 2, .inl (cI, M, .inl fr)), (q 3, .inl (cI, M, .inl to)), (q 4, .inl (cI, M, .inl cap)), (q 5, .inl (cI, M, .inl uc)), (q 6, .inl (cI, M, .inl fl))] sz) := by
  refine Met.ofW (cc := cX1_send) (maxL := 3) (ret := none) (by decide) rfl ?_
  intro p e s m args below meth c s₁ B hml hv
  obtain ⟨rfl, hsz, hP, hK, hD0⟩ := hv
  have hx := B.exec
  have hb := B.bytes
  have hr := B.returns
  have hts := atoms_spec (ws := wsX1_send) B.pre
  have hown : s.vm.findClass RX1 = some m.cls := findClass_of_methodNamed B.named
  have hlocks := B.notSynchronized
  subst hsz
  have hD := hD0.self (sz := s.heap.size)
  generalize hAe : va_A [(q 1, .inr (1, [.int (nI N), .ref (q 2), .ref (q 3), .ref (q 4), .ref (q 5), .ref (q 6), .int (nI E)])), (q 2, .inl (cI, M, .inl fr)), (q 3, .inl (cI, M, .inl to)), (q 4, .inl (cI, M, .inl cap)), (q 5, .inl (cI, M, .inl uc)), (q 6, .inl (cI, M, .inl fl))] s.heap.size = A at hD ⊢
  have hA : ∀ q : Nat, s.heap.size ≤ q → A q := fun q h => by rw [← hAe]; exact Or.inr h
  have hS : va_S A s.heap s.heap [] := va_S.rf
  have hP : va_P (dC, dI) vwCl [(q 1, .inr (1, [.int (nI N), .ref (q 2), .ref (q 3), .ref (q 4), .ref (q 5), .ref (q 6), .int (nI E)])), (q 2, .inl (cI, M, .inl fr)), (q 3, .inl (cI, M, .inl to)), (q 4, .inl (cI, M, .inl cap)), (q 5, .inl (cI, M, .inl uc)), (q 6, .inl (cI, M, .inl fl))] s.heap := hP
  have hl := lv_entry ([.ref (q 1), .int (nI a), .int x]) (n := 3) (Nat.le_of_ble_eq_true rfl)
  rw [lg_entry_eq]
  generalize (lg_sl ([.ref (q 1), .int (nI a), .int x]) ++ List.replicate (3 - (lg_sl ([.ref (q 1), .int (nI a), .int x])).length) Slot.unset).toArray = ls at hl ⊢
  have hl : lv_has ls 3 [(0, .ref (q 1)), (1, .int (nI a)), (2, .int x)] := hl
  refine lv_aload_n hx hb dX1_send_0 rfl (lv_at hl 0 rfl) ?_
  refine va_get (D := (dC, dI)) (ci := 1) (v := .ref (q 6)) (C := RX1) (T := TX1) (N := 7) hx hb hts fa_send_0 hown hK hP 0 rfl rfl 5 (by decide) (hts _ fa_send_1) (fun _ h9 => h9) rfl dX1_send_1 ?_
  refine lv_iload_n hx hb dX1_send_4 rfl (lv_at hl 1 rfl) ?_
  refine lv_iconst (v := 1) hx hb dX1_send_5 (by decide) ?_
  refine lv_ishr hx hb dX1_send_6 ?_
  refine tp_i (y := nI (a / 2)) (sh1 (by omega)) ?_
  refine lv_dup2_11 hx hb dX1_send_7 rfl rfl ?_
  refine va_iald (D := (dC, dI)) hx hb hK hP 5 0 rfl rfl (by first | assumption | exact vp_in_nI (by omega) (by omega)) dX1_send_8 ?_
  refine tp_i (y := fl (a / 2)) (by rw [nI_clamp (n := a / 2) (by omega)]) ?_
  refine lv_iload_n hx hb dX1_send_9 rfl (lv_at hl 1 rfl) ?_
  have hPc := hP.sub (ws' := []) [] rfl
  refine vp_callSi (W.runS (As := [.int (nI a)]) (rest := [.int (fl (a / 2)), .int (nI (a / 2)), .ref (q 6)]) ⟨hx, hb, hml, hown, hts⟩ (k_isBack l dC dI cI cJ cZ a (by omega)) (va_cwS 1 hts gX1_send_X1_isBack rfl rfl rfl (by decide +kernel) ⟨Nat.le_of_ble_eq_true rfl, Nat.le_of_ble_eq_true rfl⟩) ⟨fun a U g mk q => by obtain ⟨q0, qP, qK⟩ := q; exact ⟨q0, qP, va_K.moved (u := U) (U := U.calling g mk a) (Vm.Alike.refl U.vm) qK⟩, fun U hU hW => ⟨rfl, by rw [hU]; exact hPc, va_K.moved hW.alike hK⟩⟩ rfl rfl hl.1 rfl (lv_room (Nat.le_of_ble_eq_true rfl)) dX1_send_10 ⟨Nat.le_of_ble_eq_true rfl, Nat.le_of_ble_eq_true rfl⟩) (fun r_10 hw_10 => ?_)
  subst hw_10
  refine lv_if_eq (tgt := 21) hx hb dX1_send_13 (by decide) (fun c_13 => ?_) (fun c_13 => ?_)
  · refine lv_iload_n hx hb dX1_send_21 rfl (lv_at hl 2 rfl) ?_
    refine lv_iadd hx hb dX1_send_22 ?_
    refine va_iast (D := (dC, dI)) hx hb hK hP hD hS 5 0 rfl rfl (by first | assumption | exact vp_in_nI (by omega) (by omega)) dX1_send_23 (fun H locs hP hD hS => ?_)
    have hP : va_P (dC, dI) vwCl [(q 1, .inr (1, [.int (nI N), .ref (q 2), .ref (q 3), .ref (q 4), .ref (q 5), .ref (q 6), .int (nI E)])), (q 2, .inl (cI, M, .inl fr)), (q 3, .inl (cI, M, .inl to)), (q 4, .inl (cI, M, .inl cap)), (q 5, .inl (cI, M, .inl uc)), (q 6, .inl (cI, M, .inl (upd fl ((nI (a / 2)).toNatClampNeg) ((fl (a / 2)) + x))))] H := hP
    have hD : va_D A [(q 1, .inr (1, [.int (nI N), .ref (q 2), .ref (q 3), .ref (q 4), .ref (q 5), .ref (q 6), .int (nI E)])), (q 2, .inl (cI, M, .inl fr)), (q 3, .inl (cI, M, .inl to)), (q 4, .inl (cI, M, .inl cap)), (q 5, .inl (cI, M, .inl uc)), (q 6, .inl (cI, M, .inl (upd fl ((nI (a / 2)).toNatClampNeg) ((fl (a / 2)) + x))))] := hD
    rw [nI_clamp (n := a / 2) (by omega)] at hP hD
    have hP : va_P (dC, dI) vwCl [(q 1, .inr (1, [.int (nI N), .ref (q 2), .ref (q 3), .ref (q 4), .ref (q 5), .ref (q 6), .int (nI E)])), (q 2, .inl (cI, M, .inl fr)), (q 3, .inl (cI, M, .inl to)), (q 4, .inl (cI, M, .inl cap)), (q 5, .inl (cI, M, .inl uc)), (q 6, .inl (cI, M, .inl (upd fl (a / 2) ((fl (a / 2)) + x))))] H := hP
    have hD : va_D A [(q 1, .inr (1, [.int (nI N), .ref (q 2), .ref (q 3), .ref (q 4), .ref (q 5), .ref (q 6), .int (nI E)])), (q 2, .inl (cI, M, .inl fr)), (q 3, .inl (cI, M, .inl to)), (q 4, .inl (cI, M, .inl cap)), (q 5, .inl (cI, M, .inl uc)), (q 6, .inl (cI, M, .inl (upd fl (a / 2) ((fl (a / 2)) + x))))] := hD
    rw [fp_send_0 ((isb0 a).mp c_13)] at hP hD
    have hP9 := hP.sub (ws' := [(q 1, .inr (1, [.int (nI N), .ref (q 2), .ref (q 3), .ref (q 4), .ref (q 5), .ref (q 6), .int (nI E)])), (q 2, .inl (cI, M, .inl fr)), (q 3, .inl (cI, M, .inl to)), (q 4, .inl (cI, M, .inl cap)), (q 5, .inl (cI, M, .inl uc)), (q 6, .inl (cI, M, .inl (fp_send fl a x)))]) [0, 1, 2, 3, 4, 5] rfl
    have hD9 := hD.sub (ws' := [(q 1, .inr (1, [.int (nI N), .ref (q 2), .ref (q 3), .ref (q 4), .ref (q 5), .ref (q 6), .int (nI E)])), (q 2, .inl (cI, M, .inl fr)), (q 3, .inl (cI, M, .inl to)), (q 4, .inl (cI, M, .inl cap)), (q 5, .inl (cI, M, .inl uc)), (q 6, .inl (cI, M, .inl (fp_send fl a x)))]) [0, 1, 2, 3, 4, 5] (by decide) rfl
    exact W.vret hx hb hr (fun t ht hW => ⟨⟨(), rfl, trivial, by rw [ht]; exact hP9, va_K.moved hW.alike hK, hD9⟩, hS.F ht⟩) hS.2.2 dX1_send_24
  · refine lv_iload_n hx hb dX1_send_16 rfl (lv_at hl 2 rfl) ?_
    refine lv_ineg hx hb dX1_send_17 ?_
    refine lv_goto (tgt := 22) hx hb dX1_send_18 (by decide) ?_
    refine lv_iadd hx hb dX1_send_22 ?_
    refine va_iast (D := (dC, dI)) hx hb hK hP hD hS 5 0 rfl rfl (by first | assumption | exact vp_in_nI (by omega) (by omega)) dX1_send_23 (fun H locs hP hD hS => ?_)
    have hP : va_P (dC, dI) vwCl [(q 1, .inr (1, [.int (nI N), .ref (q 2), .ref (q 3), .ref (q 4), .ref (q 5), .ref (q 6), .int (nI E)])), (q 2, .inl (cI, M, .inl fr)), (q 3, .inl (cI, M, .inl to)), (q 4, .inl (cI, M, .inl cap)), (q 5, .inl (cI, M, .inl uc)), (q 6, .inl (cI, M, .inl (upd fl ((nI (a / 2)).toNatClampNeg) ((fl (a / 2)) + (-x)))))] H := hP
    have hD : va_D A [(q 1, .inr (1, [.int (nI N), .ref (q 2), .ref (q 3), .ref (q 4), .ref (q 5), .ref (q 6), .int (nI E)])), (q 2, .inl (cI, M, .inl fr)), (q 3, .inl (cI, M, .inl to)), (q 4, .inl (cI, M, .inl cap)), (q 5, .inl (cI, M, .inl uc)), (q 6, .inl (cI, M, .inl (upd fl ((nI (a / 2)).toNatClampNeg) ((fl (a / 2)) + (-x)))))] := hD
    rw [nI_clamp (n := a / 2) (by omega)] at hP hD
    have hP : va_P (dC, dI) vwCl [(q 1, .inr (1, [.int (nI N), .ref (q 2), .ref (q 3), .ref (q 4), .ref (q 5), .ref (q 6), .int (nI E)])), (q 2, .inl (cI, M, .inl fr)), (q 3, .inl (cI, M, .inl to)), (q 4, .inl (cI, M, .inl cap)), (q 5, .inl (cI, M, .inl uc)), (q 6, .inl (cI, M, .inl (upd fl (a / 2) ((fl (a / 2)) + (-x)))))] H := hP
    have hD : va_D A [(q 1, .inr (1, [.int (nI N), .ref (q 2), .ref (q 3), .ref (q 4), .ref (q 5), .ref (q 6), .int (nI E)])), (q 2, .inl (cI, M, .inl fr)), (q 3, .inl (cI, M, .inl to)), (q 4, .inl (cI, M, .inl cap)), (q 5, .inl (cI, M, .inl uc)), (q 6, .inl (cI, M, .inl (upd fl (a / 2) ((fl (a / 2)) + (-x)))))] := hD
    rw [fp_send_1 (fun h => c_13 ((isb0 a).mpr h))] at hP hD
    have hP9 := hP.sub (ws' := [(q 1, .inr (1, [.int (nI N), .ref (q 2), .ref (q 3), .ref (q 4), .ref (q 5), .ref (q 6), .int (nI E)])), (q 2, .inl (cI, M, .inl fr)), (q 3, .inl (cI, M, .inl to)), (q 4, .inl (cI, M, .inl cap)), (q 5, .inl (cI, M, .inl uc)), (q 6, .inl (cI, M, .inl (fp_send fl a x)))]) [0, 1, 2, 3, 4, 5] rfl
    have hD9 := hD.sub (ws' := [(q 1, .inr (1, [.int (nI N), .ref (q 2), .ref (q 3), .ref (q 4), .ref (q 5), .ref (q 6), .int (nI E)])), (q 2, .inl (cI, M, .inl fr)), (q 3, .inl (cI, M, .inl to)), (q 4, .inl (cI, M, .inl cap)), (q 5, .inl (cI, M, .inl uc)), (q 6, .inl (cI, M, .inl (fp_send fl a x)))]) [0, 1, 2, 3, 4, 5] (by decide) rfl
    exact W.vret hx hb hr (fun t ht hW => ⟨⟨(), rfl, trivial, by rw [ht]; exact hP9, va_K.moved hW.alike hK, hD9⟩, hS.F ht⟩) hS.2.2 dX1_send_24
