theorem fa_m_begin_0 : ∀ w ∈ wsX30, w ∈ wsX3_begin := by decide +kernel
theorem fa_m_begin_1 : Cond.fieldLink RX3 13 "FlowProofsModel" "tos" "[I" ∈ wsX3_begin := by decide +kernel
theorem fa_m_begin_2 : Cond.fieldLink RX3 7 "FlowProofsModel" "froms" "[I" ∈ wsX3_begin := by decide +kernel
set_option maxHeartbeats 4000000 in
set_option maxRecDepth 100000 in
theorem k_m_begin (l : Launch) (dC : Nat → ClassId) (dI : Nat → Nat → Nat) (cI cJ cZ : ClassId) (q : Nat → Nat) (N M E : Nat) (fr to cap uc fl : Nat → Int32) (ct : Nat → Int64) (ta hw wy : Nat → Int32) (ac : Int64) (he src snk sol rd fw : Int32) (a : Nat) (ha : a / 2 < 40) : Met l yX3_begin wsX3_begin ({ frames := 0, cells := 0, slots := 0, locals := 0 }) (va_Pc [.ref (q 0), .int (nI a)] (fun U => va_P (dC, dI) vwCl [(q 0, .inr (3, [.int (nI N), .int (nI M), .int (nI E), .ref (q 1), .ref (q 2), .ref (q 3), .ref (q 4), .ref (q 5), .long ac, .int he, .int src, .int snk, .int sol, .int rd, .int fw, .ref (q 6), .ref (q 7), .ref (q 8), .ref (q 9)])), (q 1, .inl (cI, 40, .inl fr)), (q 2, .inl (cI, 40, .inl to)), (q 3, .inl (cI, 40, .inl cap)), (q 4, .inl (cI, 40, .inl uc)), (q 5, .inl (cI, 40, .inl fl))] U.heap ∧ va_K (dC, dI) vwCl [(cI, .int), (cJ, .long), (cZ, .boolean)] U)) (vp_Si (fun r => r = fp_bg fr to a)) 0 0 (fun _ => False) := by
  refine Met.ofW (cc := cX3_begin) (maxL := 2) (ret := (some .int)) (by decide) rfl ?_
  intro p e s m args below meth c s₁ B hml hv
  obtain ⟨rfl, hP, hK⟩ := hv
  have hx := B.exec
  have hb := B.bytes
  have hr := B.returns
  have hts := atoms_spec (ws := wsX3_begin) B.pre
  have hown : s.vm.findClass RX3 = some m.cls := findClass_of_methodNamed B.named
  have hlocks := B.notSynchronized
  have hP : va_P (dC, dI) vwCl [(q 0, .inr (3, [.int (nI N), .int (nI M), .int (nI E), .ref (q 1), .ref (q 2), .ref (q 3), .ref (q 4), .ref (q 5), .long ac, .int he, .int src, .int snk, .int sol, .int rd, .int fw, .ref (q 6), .ref (q 7), .ref (q 8), .ref (q 9)])), (q 1, .inl (cI, 40, .inl fr)), (q 2, .inl (cI, 40, .inl to)), (q 3, .inl (cI, 40, .inl cap)), (q 4, .inl (cI, 40, .inl uc)), (q 5, .inl (cI, 40, .inl fl))] s.heap := hP
  have hl := lv_entry ([.ref (q 0), .int (nI a)]) (n := 2) (Nat.le_of_ble_eq_true rfl)
  rw [lg_entry_eq]
  generalize (lg_sl ([.ref (q 0), .int (nI a)]) ++ List.replicate (2 - (lg_sl ([.ref (q 0), .int (nI a)])).length) Slot.unset).toArray = ls at hl ⊢
  have hl : lv_has ls 2 [(0, .ref (q 0)), (1, .int (nI a))] := hl
  refine lv_iload_n hx hb dX3_begin_0 rfl (lv_at hl 1 rfl) ?_
  refine lv_iconst (v := 2) hx hb dX3_begin_1 (by decide) ?_
  refine lv_irem hx hb dX3_begin_2 (by decide) ?_
  refine tp_i (y := nI (a % 2)) (rm2 (by omega)) ?_
  refine lv_if_ne (tgt := 17) hx hb dX3_begin_3 (by decide) (fun c_3 => ?_) (fun c_3 => ?_)
  · refine lv_aload_n hx hb dX3_begin_17 rfl (lv_at hl 0 rfl) ?_
    refine va_get (D := (dC, dI)) (ci := 3) (v := .ref (q 2)) (C := RX3) (T := TX3) (N := 19) hx hb hts fa_m_begin_0 hown hK hP 0 rfl rfl 4 (by decide) (hts _ fa_m_begin_1) (fun _ h9 => h9) rfl dX3_begin_18 ?_
    refine lv_iload_n hx hb dX3_begin_21 rfl (lv_at hl 1 rfl) ?_
    refine lv_iconst (v := 2) hx hb dX3_begin_22 (by decide) ?_
    refine lv_idiv hx hb dX3_begin_23 (by decide) ?_
    refine tp_i (y := nI (a / 2)) (dv2 (by omega)) ?_
    refine va_iald (D := (dC, dI)) hx hb hK hP 2 0 rfl rfl (by first | assumption | exact vp_in_nI (by omega) (by omega)) dX3_begin_24 ?_
    refine tp_i (y := to (a / 2)) (by rw [nI_clamp (n := a / 2) (by omega)]) ?_
    exact W.iret (v := (to (a / 2))) hx hb hr (fun t ht _ => ⟨(to (a / 2)), rfl, (by unfold fp_bg; first | rw [if_pos ((nI_par0 a).mp c_3)] | rw [if_neg (fun h => c_3 ((nI_par0 a).mpr h))]), ht⟩) (fun _ h => by cases h) dX3_begin_25
  · refine lv_aload_n hx hb dX3_begin_6 rfl (lv_at hl 0 rfl) ?_
    refine va_get (D := (dC, dI)) (ci := 3) (v := .ref (q 1)) (C := RX3) (T := TX3) (N := 19) hx hb hts fa_m_begin_0 hown hK hP 0 rfl rfl 3 (by decide) (hts _ fa_m_begin_2) (fun _ h9 => h9) rfl dX3_begin_7 ?_
    refine lv_iload_n hx hb dX3_begin_10 rfl (lv_at hl 1 rfl) ?_
    refine lv_iconst (v := 2) hx hb dX3_begin_11 (by decide) ?_
    refine lv_idiv hx hb dX3_begin_12 (by decide) ?_
    refine tp_i (y := nI (a / 2)) (dv2 (by omega)) ?_
    refine va_iald (D := (dC, dI)) hx hb hK hP 1 0 rfl rfl (by first | assumption | exact vp_in_nI (by omega) (by omega)) dX3_begin_13 ?_
    refine tp_i (y := fr (a / 2)) (by rw [nI_clamp (n := a / 2) (by omega)]) ?_
    refine lv_goto (tgt := 25) hx hb dX3_begin_14 (by decide) ?_
    exact W.iret (v := (fr (a / 2))) hx hb hr (fun t ht _ => ⟨(fr (a / 2)), rfl, (by unfold fp_bg; first | rw [if_pos ((nI_par0 a).mp c_3)] | rw [if_neg (fun h => c_3 ((nI_par0 a).mpr h))]), ht⟩) (fun _ h => by cases h) dX3_begin_25

theorem fa_m_end_0 : ∀ w ∈ wsX30, w ∈ wsX3_end := by decide +kernel
theorem fa_m_end_1 : Cond.fieldLink RX3 7 "FlowProofsModel" "froms" "[I" ∈ wsX3_end := by decide +kernel
theorem fa_m_end_2 : Cond.fieldLink RX3 13 "FlowProofsModel" "tos" "[I" ∈ wsX3_end := by decide +kernel
set_option maxHeartbeats 4000000 in
set_option maxRecDepth 100000 in
theorem k_m_end (l : Launch) (dC : Nat → ClassId) (dI : Nat → Nat → Nat) (cI cJ cZ : ClassId) (q : Nat → Nat) (N M E : Nat) (fr to cap uc fl : Nat → Int32) (ct : Nat → Int64) (ta hw wy : Nat → Int32) (ac : Int64) (he src snk sol rd fw : Int32) (a : Nat) (ha : a / 2 < 40) : Met l yX3_end wsX3_end ({ frames := 0, cells := 0, slots := 0, locals := 0 }) (va_Pc [.ref (q 0), .int (nI a)] (fun U => va_P (dC, dI) vwCl [(q 0, .inr (3, [.int (nI N), .int (nI M), .int (nI E), .ref (q 1), .ref (q 2), .ref (q 3), .ref (q 4), .ref (q 5), .long ac, .int he, .int src, .int snk, .int sol, .int rd, .int fw, .ref (q 6), .ref (q 7), .ref (q 8), .ref (q 9)])), (q 1, .inl (cI, 40, .inl fr)), (q 2, .inl (cI, 40, .inl to)), (q 3, .inl (cI, 40, .inl cap)), (q 4, .inl (cI, 40, .inl uc)), (q 5, .inl (cI, 40, .inl fl))] U.heap ∧ va_K (dC, dI) vwCl [(cI, .int), (cJ, .long), (cZ, .boolean)] U)) (vp_Si (fun r => r = fp_en fr to a)) 0 0 (fun _ => False) := by
  refine Met.ofW (cc := cX3_end) (maxL := 2) (ret := (some .int)) (by decide) rfl ?_
  intro p e s m args below meth c s₁ B hml hv
  obtain ⟨rfl, hP, hK⟩ := hv
  have hx := B.exec
  have hb := B.bytes
  have hr := B.returns
  have hts := atoms_spec (ws := wsX3_end) B.pre
  have hown : s.vm.findClass RX3 = some m.cls := findClass_of_methodNamed B.named
  have hlocks := B.notSynchronized
  have hP : va_P (dC, dI) vwCl [(q 0, .inr (3, [.int (nI N), .int (nI M), .int (nI E), .ref (q 1), .ref (q 2), .ref (q 3), .ref (q 4), .ref (q 5), .long ac, .int he, .int src, .int snk, .int sol, .int rd, .int fw, .ref (q 6), .ref (q 7), .ref (q 8), .ref (q 9)])), (q 1, .inl (cI, 40, .inl fr)), (q 2, .inl (cI, 40, .inl to)), (q 3, .inl (cI, 40, .inl cap)), (q 4, .inl (cI, 40, .inl uc)), (q 5, .inl (cI, 40, .inl fl))] s.heap := hP
  have hl := lv_entry ([.ref (q 0), .int (nI a)]) (n := 2) (Nat.le_of_ble_eq_true rfl)
  rw [lg_entry_eq]
  generalize (lg_sl ([.ref (q 0), .int (nI a)]) ++ List.replicate (2 - (lg_sl ([.ref (q 0), .int (nI a)])).length) Slot.unset).toArray = ls at hl ⊢
  have hl : lv_has ls 2 [(0, .ref (q 0)), (1, .int (nI a))] := hl
  refine lv_iload_n hx hb dX3_end_0 rfl (lv_at hl 1 rfl) ?_
  refine lv_iconst (v := 2) hx hb dX3_end_1 (by decide) ?_
  refine lv_irem hx hb dX3_end_2 (by decide) ?_
  refine tp_i (y := nI (a % 2)) (rm2 (by omega)) ?_
  refine lv_if_ne (tgt := 17) hx hb dX3_end_3 (by decide) (fun c_3 => ?_) (fun c_3 => ?_)
  · refine lv_aload_n hx hb dX3_end_17 rfl (lv_at hl 0 rfl) ?_
    refine va_get (D := (dC, dI)) (ci := 3) (v := .ref (q 1)) (C := RX3) (T := TX3) (N := 19) hx hb hts fa_m_end_0 hown hK hP 0 rfl rfl 3 (by decide) (hts _ fa_m_end_1) (fun _ h9 => h9) rfl dX3_end_18 ?_
    refine lv_iload_n hx hb dX3_end_21 rfl (lv_at hl 1 rfl) ?_
    refine lv_iconst (v := 2) hx hb dX3_end_22 (by decide) ?_
    refine lv_idiv hx hb dX3_end_23 (by decide) ?_
    refine tp_i (y := nI (a / 2)) (dv2 (by omega)) ?_
    refine va_iald (D := (dC, dI)) hx hb hK hP 1 0 rfl rfl (by first | assumption | exact vp_in_nI (by omega) (by omega)) dX3_end_24 ?_
    refine tp_i (y := fr (a / 2)) (by rw [nI_clamp (n := a / 2) (by omega)]) ?_
    exact W.iret (v := (fr (a / 2))) hx hb hr (fun t ht _ => ⟨(fr (a / 2)), rfl, (by unfold fp_en; first | rw [if_pos ((nI_par0 a).mp c_3)] | rw [if_neg (fun h => c_3 ((nI_par0 a).mpr h))]), ht⟩) (fun _ h => by cases h) dX3_end_25
  · refine lv_aload_n hx hb dX3_end_6 rfl (lv_at hl 0 rfl) ?_
    refine va_get (D := (dC, dI)) (ci := 3) (v := .ref (q 2)) (C := RX3) (T := TX3) (N := 19) hx hb hts fa_m_end_0 hown hK hP 0 rfl rfl 4 (by decide) (hts _ fa_m_end_2) (fun _ h9 => h9) rfl dX3_end_7 ?_
    refine lv_iload_n hx hb dX3_end_10 rfl (lv_at hl 1 rfl) ?_
    refine lv_iconst (v := 2) hx hb dX3_end_11 (by decide) ?_
    refine lv_idiv hx hb dX3_end_12 (by decide) ?_
    refine tp_i (y := nI (a / 2)) (dv2 (by omega)) ?_
    refine va_iald (D := (dC, dI)) hx hb hK hP 2 0 rfl rfl (by first | assumption | exact vp_in_nI (by omega) (by omega)) dX3_end_13 ?_
    refine tp_i (y := to (a / 2)) (by rw [nI_clamp (n := a / 2) (by omega)]) ?_
    refine lv_goto (tgt := 25) hx hb dX3_end_14 (by decide) ?_
    exact W.iret (v := (to (a / 2))) hx hb hr (fun t ht _ => ⟨(to (a / 2)), rfl, (by unfold fp_en; first | rw [if_pos ((nI_par0 a).mp c_3)] | rw [if_neg (fun h => c_3 ((nI_par0 a).mpr h))]), ht⟩) (fun _ h => by cases h) dX3_end_25

theorem fa_m_costOf_0 : ∀ w ∈ wsX30, w ∈ wsX3_costOf := by decide +kernel
theorem fa_m_costOf_1 : Cond.fieldLink RX3 19 "FlowProofsModel" "costs" "[I" ∈ wsX3_costOf := by decide +kernel
set_option maxHeartbeats 4000000 in
set_option maxRecDepth 100000 in
theorem k_m_costOf (l : Launch) (dC : Nat → ClassId) (dI : Nat → Nat → Nat) (cI cJ cZ : ClassId) (q : Nat → Nat) (N M E : Nat) (fr to cap uc fl : Nat → Int32) (ct : Nat → Int64) (ta hw wy : Nat → Int32) (ac : Int64) (he src snk sol rd fw : Int32) (a : Nat) (ha : a / 2 < 40) : Met l yX3_costOf wsX3_costOf ({ frames := 0, cells := 0, slots := 0, locals := 0 }) (va_Pc [.ref (q 0), .int (nI a)] (fun U => va_P (dC, dI) vwCl [(q 0, .inr (3, [.int (nI N), .int (nI M), .int (nI E), .ref (q 1), .ref (q 2), .ref (q 3), .ref (q 4), .ref (q 5), .long ac, .int he, .int src, .int snk, .int sol, .int rd, .int fw, .ref (q 6), .ref (q 7), .ref (q 8), .ref (q 9)])), (q 1, .inl (cI, 40, .inl fr)), (q 2, .inl (cI, 40, .inl to)), (q 3, .inl (cI, 40, .inl cap)), (q 4, .inl (cI, 40, .inl uc)), (q 5, .inl (cI, 40, .inl fl))] U.heap ∧ va_K (dC, dI) vwCl [(cI, .int), (cJ, .long), (cZ, .boolean)] U)) (vp_Si (fun r => r = fp_pr uc a)) 0 0 (fun _ => False) := by
  refine Met.ofW (cc := cX3_costOf) (maxL := 2) (ret := (some .int)) (by decide) rfl ?_
  intro p e s m args below meth c s₁ B hml hv
  obtain ⟨rfl, hP, hK⟩ := hv
  have hx := B.exec
  have hb := B.bytes
  have hr := B.returns
  have hts := atoms_spec (ws := wsX3_costOf) B.pre
  have hown : s.vm.findClass RX3 = some m.cls := findClass_of_methodNamed B.named
  have hlocks := B.notSynchronized
  have hP : va_P (dC, dI) vwCl [(q 0, .inr (3, [.int (nI N), .int (nI M), .int (nI E), .ref (q 1), .ref (q 2), .ref (q 3), .ref (q 4), .ref (q 5), .long ac, .int he, .int src, .int snk, .int sol, .int rd, .int fw, .ref (q 6), .ref (q 7), .ref (q 8), .ref (q 9)])), (q 1, .inl (cI, 40, .inl fr)), (q 2, .inl (cI, 40, .inl to)), (q 3, .inl (cI, 40, .inl cap)), (q 4, .inl (cI, 40, .inl uc)), (q 5, .inl (cI, 40, .inl fl))] s.heap := hP
  have hl := lv_entry ([.ref (q 0), .int (nI a)]) (n := 2) (Nat.le_of_ble_eq_true rfl)
  rw [lg_entry_eq]
  generalize (lg_sl ([.ref (q 0), .int (nI a)]) ++ List.replicate (2 - (lg_sl ([.ref (q 0), .int (nI a)])).length) Slot.unset).toArray = ls at hl ⊢
  have hl : lv_has ls 2 [(0, .ref (q 0)), (1, .int (nI a))] := hl
  refine lv_iload_n hx hb dX3_costOf_0 rfl (lv_at hl 1 rfl) ?_
  refine lv_iconst (v := 2) hx hb dX3_costOf_1 (by decide) ?_
  refine lv_irem hx hb dX3_costOf_2 (by decide) ?_
  refine tp_i (y := nI (a % 2)) (rm2 (by omega)) ?_
  refine lv_if_ne (tgt := 17) hx hb dX3_costOf_3 (by decide) (fun c_3 => ?_) (fun c_3 => ?_)
  · refine lv_aload_n hx hb dX3_costOf_17 rfl (lv_at hl 0 rfl) ?_
    refine va_get (D := (dC, dI)) (ci := 3) (v := .ref (q 4)) (C := RX3) (T := TX3) (N := 19) hx hb hts fa_m_costOf_0 hown hK hP 0 rfl rfl 6 (by decide) (hts _ fa_m_costOf_1) (fun _ h9 => h9) rfl dX3_costOf_18 ?_
    refine lv_iload_n hx hb dX3_costOf_21 rfl (lv_at hl 1 rfl) ?_
    refine lv_iconst (v := 2) hx hb dX3_costOf_22 (by decide) ?_
    refine lv_idiv hx hb dX3_costOf_23 (by decide) ?_
    refine tp_i (y := nI (a / 2)) (dv2 (by omega)) ?_
    refine va_iald (D := (dC, dI)) hx hb hK hP 4 0 rfl rfl (by first | assumption | exact vp_in_nI (by omega) (by omega)) dX3_costOf_24 ?_
    refine tp_i (y := uc (a / 2)) (by rw [nI_clamp (n := a / 2) (by omega)]) ?_
    refine lv_ineg hx hb dX3_costOf_25 ?_
    exact W.iret (v := (-(uc (a / 2)))) hx hb hr (fun t ht _ => ⟨(-(uc (a / 2))), rfl, (by unfold fp_pr; first | rw [if_pos ((nI_par0 a).mp c_3)] | rw [if_neg (fun h => c_3 ((nI_par0 a).mpr h))]), ht⟩) (fun _ h => by cases h) dX3_costOf_26
  · refine lv_aload_n hx hb dX3_costOf_6 rfl (lv_at hl 0 rfl) ?_
    refine va_get (D := (dC, dI)) (ci := 3) (v := .ref (q 4)) (C := RX3) (T := TX3) (N := 19) hx hb hts fa_m_costOf_0 hown hK hP 0 rfl rfl 6 (by decide) (hts _ fa_m_costOf_1) (fun _ h9 => h9) rfl dX3_costOf_7 ?_
    refine lv_iload_n hx hb dX3_costOf_10 rfl (lv_at hl 1 rfl) ?_
    refine lv_iconst (v := 2) hx hb dX3_costOf_11 (by decide) ?_
    refine lv_idiv hx hb dX3_costOf_12 (by decide) ?_
    refine tp_i (y := nI (a / 2)) (dv2 (by omega)) ?_
    refine va_iald (D := (dC, dI)) hx hb hK hP 4 0 rfl rfl (by first | assumption | exact vp_in_nI (by omega) (by omega)) dX3_costOf_13 ?_
    refine tp_i (y := uc (a / 2)) (by rw [nI_clamp (n := a / 2) (by omega)]) ?_
    refine lv_goto (tgt := 26) hx hb dX3_costOf_14 (by decide) ?_
    exact W.iret (v := (uc (a / 2))) hx hb hr (fun t ht _ => ⟨(uc (a / 2)), rfl, (by unfold fp_pr; first | rw [if_pos ((nI_par0 a).mp c_3)] | rw [if_neg (fun h => c_3 ((nI_par0 a).mpr h))]), ht⟩) (fun _ h => by cases h) dX3_costOf_26

theorem fa_m_left_0 : ∀ w ∈ wsX30, w ∈ wsX3_left := by decide +kernel
theorem fa_m_left_1 : Cond.fieldLink RX3 22 "FlowProofsModel" "flows" "[I" ∈ wsX3_left := by decide +kernel
theorem fa_m_left_2 : Cond.fieldLink RX3 16 "FlowProofsModel" "capacities" "[I" ∈ wsX3_left := by decide +kernel
set_option maxHeartbeats 4000000 in
set_option maxRecDepth 100000 in
theorem k_m_left (l : Launch) (dC : Nat → ClassId) (dI : Nat → Nat → Nat) (cI cJ cZ : ClassId) (q : Nat → Nat) (N M E : Nat) (fr to cap uc fl : Nat → Int32) (ct : Nat → Int64) (ta hw wy : Nat → Int32) (ac : Int64) (he src snk sol rd fw : Int32) (a : Nat) (ha : a / 2 < 40) : Met l yX3_left wsX3_left ({ frames := 0, cells := 0, slots := 0, locals := 0 }) (va_Pc [.ref (q 0), .int (nI a)] (fun U => va_P (dC, dI) vwCl [(q 0, .inr (3, [.int (nI N), .int (nI M), .int (nI E), .ref (q 1), .ref (q 2), .ref (q 3), .ref (q 4), .ref (q 5), .long ac, .int he, .int src, .int snk, .int sol, .int rd, .int fw, .ref (q 6), .ref (q 7), .ref (q 8), .ref (q 9)])), (q 1, .inl (cI, 40, .inl fr)), (q 2, .inl (cI, 40, .inl to)), (q 3, .inl (cI, 40, .inl cap)), (q 4, .inl (cI, 40, .inl uc)), (q 5, .inl (cI, 40, .inl fl))] U.heap ∧ va_K (dC, dI) vwCl [(cI, .int), (cJ, .long), (cZ, .boolean)] U)) (vp_Si (fun r => r = fp_lf cap fl a)) 0 0 (fun _ => False) := by
  refine Met.ofW (cc := cX3_left) (maxL := 3) (ret := (some .int)) (by decide) rfl ?_
  intro p e s m args below meth c s₁ B hml hv
  obtain ⟨rfl, hP, hK⟩ := hv
  have hx := B.exec
  have hb := B.bytes
  have hr := B.returns
  have hts := atoms_spec (ws := wsX3_left) B.pre
  have hown : s.vm.findClass RX3 = some m.cls := findClass_of_methodNamed B.named
  have hlocks := B.notSynchronized
  have hP : va_P (dC, dI) vwCl [(q 0, .inr (3, [.int (nI N), .int (nI M), .int (nI E), .ref (q 1), .ref (q 2), .ref (q 3), .ref (q 4), .ref (q 5), .long ac, .int he, .int src, .int snk, .int sol, .int rd, .int fw, .ref (q 6), .ref (q 7), .ref (q 8), .ref (q 9)])), (q 1, .inl (cI, 40, .inl fr)), (q 2, .inl (cI, 40, .inl to)), (q 3, .inl (cI, 40, .inl cap)), (q 4, .inl (cI, 40, .inl uc)), (q 5, .inl (cI, 40, .inl fl))] s.heap := hP
  have hl := lv_entry ([.ref (q 0), .int (nI a)]) (n := 3) (Nat.le_of_ble_eq_true rfl)
  rw [lg_entry_eq]
  generalize (lg_sl ([.ref (q 0), .int (nI a)]) ++ List.replicate (3 - (lg_sl ([.ref (q 0), .int (nI a)])).length) Slot.unset).toArray = ls at hl ⊢
  have hl : lv_has ls 3 [(0, .ref (q 0)), (1, .int (nI a))] := hl
  refine lv_iload_n hx hb dX3_left_0 rfl (lv_at hl 1 rfl) ?_
  refine lv_iconst (v := 2) hx hb dX3_left_1 (by decide) ?_
  refine lv_idiv hx hb dX3_left_2 (by decide) ?_
  refine tp_i (y := nI (a / 2)) (dv2 (by omega)) ?_
  refine lv_istore_n (lv' := [(2, .int (nI (a / 2))), (0, .ref (q 0)), (1, .int (nI a))]) hx hb dX3_left_3 rfl hl (by decide) rfl (fun ls hl => ?_)
  refine lv_iload_n hx hb dX3_left_4 rfl (lv_at hl 2 rfl) ?_
  refine lv_iconst (v := 2) hx hb dX3_left_5 (by decide) ?_
  refine lv_irem hx hb dX3_left_6 (by decide) ?_
  refine tp_i (y := nI (a % 2)) (rm2 (by omega)) ?_
  refine lv_if_ne (tgt := 26) hx hb dX3_left_7 (by decide) (fun c_7 => ?_) (fun c_7 => ?_)
  · refine lv_aload_n hx hb dX3_left_26 rfl (lv_at hl 1 rfl) ?_
    refine va_get (D := (dC, dI)) (ci := 3) (v := .ref (q 5)) (C := RX3) (T := TX3) (N := 19) hx hb hts fa_m_left_0 hown hK hP 0 rfl rfl 7 (by decide) (hts _ fa_m_left_1) (fun _ h9 => h9) rfl dX3_left_27 ?_
    refine lv_iload_n hx hb dX3_left_30 rfl (lv_at hl 0 rfl) ?_
    refine va_iald (D := (dC, dI)) hx hb hK hP 5 0 rfl rfl (by first | assumption | exact vp_in_nI (by omega) (by omega)) dX3_left_31 ?_
    refine tp_i (y := fl (a / 2)) (by rw [nI_clamp (n := a / 2) (by omega)]) ?_
    exact W.iret (v := (fl (a / 2))) hx hb hr (fun t ht _ => ⟨(fl (a / 2)), rfl, (by unfold fp_lf; first | rw [if_pos ((nI_par0 a).mp c_7)] | rw [if_neg (fun h => c_7 ((nI_par0 a).mpr h))]), ht⟩) (fun _ h => by cases h) dX3_left_32
  · refine lv_aload_n hx hb dX3_left_10 rfl (lv_at hl 1 rfl) ?_
    refine va_get (D := (dC, dI)) (ci := 3) (v := .ref (q 3)) (C := RX3) (T := TX3) (N := 19) hx hb hts fa_m_left_0 hown hK hP 0 rfl rfl 5 (by decide) (hts _ fa_m_left_2) (fun _ h9 => h9) rfl dX3_left_11 ?_
    refine lv_iload_n hx hb dX3_left_14 rfl (lv_at hl 0 rfl) ?_
    refine va_iald (D := (dC, dI)) hx hb hK hP 3 0 rfl rfl (by first | assumption | exact vp_in_nI (by omega) (by omega)) dX3_left_15 ?_
    refine tp_i (y := cap (a / 2)) (by rw [nI_clamp (n := a / 2) (by omega)]) ?_
    refine lv_aload_n hx hb dX3_left_16 rfl (lv_at hl 1 rfl) ?_
    refine va_get (D := (dC, dI)) (ci := 3) (v := .ref (q 5)) (C := RX3) (T := TX3) (N := 19) hx hb hts fa_m_left_0 hown hK hP 0 rfl rfl 7 (by decide) (hts _ fa_m_left_1) (fun _ h9 => h9) rfl dX3_left_17 ?_
    refine lv_iload_n hx hb dX3_left_20 rfl (lv_at hl 0 rfl) ?_
    refine va_iald (D := (dC, dI)) hx hb hK hP 5 0 rfl rfl (by first | assumption | exact vp_in_nI (by omega) (by omega)) dX3_left_21 ?_
    refine tp_i (y := fl (a / 2)) (by rw [nI_clamp (n := a / 2) (by omega)]) ?_
    refine lv_isub hx hb dX3_left_22 ?_
    refine lv_goto (tgt := 32) hx hb dX3_left_23 (by decide) ?_
    exact W.iret (v := ((cap (a / 2)) - (fl (a / 2)))) hx hb hr (fun t ht _ => ⟨((cap (a / 2)) - (fl (a / 2))), rfl, (by unfold fp_lf; first | rw [if_pos ((nI_par0 a).mp c_7)] | rw [if_neg (fun h => c_7 ((nI_par0 a).mpr h))]), ht⟩) (fun _ h => by cases h) dX3_left_32

theorem fa_m_isNode_0 : ∀ w ∈ wsX30, w ∈ wsX3_isNode := by decide +kernel
theorem fa_m_isNode_1 : Cond.fieldLink RX3 39 "FlowProofsModel" "nodes" "I" ∈ wsX3_isNode := by decide +kernel
set_option maxHeartbeats 4000000 in
set_option maxRecDepth 100000 in
theorem k_m_isNode (l : Launch) (dC : Nat → ClassId) (dI : Nat → Nat → Nat) (cI cJ cZ : ClassId) (q : Nat → Nat) (N M E : Nat) (fr to cap uc fl : Nat → Int32) (ct : Nat → Int64) (ta hw wy : Nat → Int32) (ac : Int64) (he src snk sol rd fw : Int32) (x : Int32)  : Met l yX3_isNode wsX3_isNode ({ frames := 0, cells := 0, slots := 0, locals := 0 }) (va_Pc [.ref (q 0), .int x] (fun U => va_P (dC, dI) vwCl [(q 0, .inr (3, [.int (nI N), .int (nI M), .int (nI E), .ref (q 1), .ref (q 2), .ref (q 3), .ref (q 4), .ref (q 5), .long ac, .int he, .int src, .int snk, .int sol, .int rd, .int fw, .ref (q 6), .ref (q 7), .ref (q 8), .ref (q 9)]))] U.heap ∧ va_K (dC, dI) vwCl [(cI, .int), (cJ, .long), (cZ, .boolean)] U)) (vp_Si (fun r => r = (if ¬ x < 0 ∧ x < nI N then (1 : Int32) else 0))) 0 0 (fun _ => False) := by
  refine Met.ofW (cc := cX3_isNode) (maxL := 2) (ret := (some .boolean)) (by decide) rfl ?_
  intro p e s m args below meth c s₁ B hml hv
  obtain ⟨rfl, hP, hK⟩ := hv
  have hx := B.exec
  have hb := B.bytes
  have hr := B.returns
  have hts := atoms_spec (ws := wsX3_isNode) B.pre
  have hown : s.vm.findClass RX3 = some m.cls := findClass_of_methodNamed B.named
  have hlocks := B.notSynchronized
  have hP : va_P (dC, dI) vwCl [(q 0, .inr (3, [.int (nI N), .int (nI M), .int (nI E), .ref (q 1), .ref (q 2), .ref (q 3), .ref (q 4), .ref (q 5), .long ac, .int he, .int src, .int snk, .int sol, .int rd, .int fw, .ref (q 6), .ref (q 7), .ref (q 8), .ref (q 9)]))] s.heap := hP
  have hl := lv_entry ([.ref (q 0), .int x]) (n := 2) (Nat.le_of_ble_eq_true rfl)
  rw [lg_entry_eq]
  generalize (lg_sl ([.ref (q 0), .int x]) ++ List.replicate (2 - (lg_sl ([.ref (q 0), .int x])).length) Slot.unset).toArray = ls at hl ⊢
  have hl : lv_has ls 2 [(0, .ref (q 0)), (1, .int x)] := hl
  refine lv_iload_n hx hb dX3_isNode_0 rfl (lv_at hl 1 rfl) ?_
  refine lv_if_lt (tgt := 16) hx hb dX3_isNode_1 (by decide) (fun c_1 => ?_) (fun c_1 => ?_)
  · refine lv_iconst (v := 0) hx hb dX3_isNode_16 (by decide) ?_
    exact W.zret (v := 0) hx hb hr rfl (fun t ht _ => ⟨0, rfl, (by first | rw [if_pos ⟨by assumption, Int32.not_le.mp (by assumption)⟩] | rw [if_neg (fun h => absurd h.2 (Int32.not_lt.mpr (by assumption)))] | rw [if_neg (fun h => h.1 (by assumption))]), ht⟩) (fun _ h => by cases h) dX3_isNode_17
  · refine lv_iload_n hx hb dX3_isNode_4 rfl (lv_at hl 1 rfl) ?_
    refine lv_aload_n hx hb dX3_isNode_5 rfl (lv_at hl 0 rfl) ?_
    refine va_get (D := (dC, dI)) (ci := 3) (v := .int (nI N)) (C := RX3) (T := TX3) (N := 19) hx hb hts fa_m_isNode_0 hown hK hP 0 rfl rfl 0 (by decide) (hts _ fa_m_isNode_1) (fun _ h9 => h9) rfl dX3_isNode_6 ?_
    refine lv_icmp_ge (tgt := 16) hx hb dX3_isNode_9 (by decide) (fun c_9 => ?_) (fun c_9 => ?_)
    · refine lv_iconst (v := 0) hx hb dX3_isNode_16 (by decide) ?_
      exact W.zret (v := 0) hx hb hr rfl (fun t ht _ => ⟨0, rfl, (by first | rw [if_pos ⟨by assumption, Int32.not_le.mp (by assumption)⟩] | rw [if_neg (fun h => absurd h.2 (Int32.not_lt.mpr (by assumption)))] | rw [if_neg (fun h => h.1 (by assumption))]), ht⟩) (fun _ h => by cases h) dX3_isNode_17
    · refine lv_iconst (v := 1) hx hb dX3_isNode_12 (by decide) ?_
      refine lv_goto (tgt := 17) hx hb dX3_isNode_13 (by decide) ?_
      exact W.zret (v := 1) hx hb hr rfl (fun t ht _ => ⟨1, rfl, (by first | rw [if_pos ⟨by assumption, Int32.not_le.mp (by assumption)⟩] | rw [if_neg (fun h => absurd h.2 (Int32.not_lt.mpr (by assumption)))] | rw [if_neg (fun h => h.1 (by assumption))]), ht⟩) (fun _ h => by cases h) dX3_isNode_17

theorem fa_m_value_0 : ∀ w ∈ wsX30, w ∈ wsX3_value := by decide +kernel
theorem fa_m_value_1 : Cond.fieldLink RX3 46 "FlowProofsModel" "isSolved" "Z" ∈ wsX3_value := by decide +kernel
theorem fa_m_value_2 : Cond.fieldLink RX3 53 "FlowProofsModel" "flowing" "I" ∈ wsX3_value := by decide +kernel
set_option maxHeartbeats 4000000 in
set_option maxRecDepth 100000 in
theorem k_m_value (l : Launch) (dC : Nat → ClassId) (dI : Nat → Nat → Nat) (cI cJ cZ : ClassId) (q : Nat → Nat) (N M E : Nat) (fr to cap uc fl : Nat → Int32) (ct : Nat → Int64) (ta hw wy : Nat → Int32) (ac : Int64) (he src snk sol rd fw : Int32)  : Met l yX3_value wsX3_value ({ frames := 0, cells := 0, slots := 0, locals := 0 }) (va_Pc [.ref (q 0)] (fun U => va_P (dC, dI) vwCl [(q 0, .inr (3, [.int (nI N), .int (nI M), .int (nI E), .ref (q 1), .ref (q 2), .ref (q 3), .ref (q 4), .ref (q 5), .long ac, .int he, .int src, .int snk, .int sol, .int rd, .int fw, .ref (q 6), .ref (q 7), .ref (q 8), .ref (q 9)]))] U.heap ∧ va_K (dC, dI) vwCl [(cI, .int), (cJ, .long), (cZ, .boolean)] U)) (vp_Si (fun r => (sol = 0 ∧ r = -1) ∨ (¬ sol = 0 ∧ r = fw))) 0 0 (fun _ => False) := by
  refine Met.ofW (cc := cX3_value) (maxL := 1) (ret := (some .int)) (by decide) rfl ?_
  intro p e s m args below meth c s₁ B hml hv
  obtain ⟨rfl, hP, hK⟩ := hv
  have hx := B.exec
  have hb := B.bytes
  have hr := B.returns
  have hts := atoms_spec (ws := wsX3_value) B.pre
  have hown : s.vm.findClass RX3 = some m.cls := findClass_of_methodNamed B.named
  have hlocks := B.notSynchronized
  have hP : va_P (dC, dI) vwCl [(q 0, .inr (3, [.int (nI N), .int (nI M), .int (nI E), .ref (q 1), .ref (q 2), .ref (q 3), .ref (q 4), .ref (q 5), .long ac, .int he, .int src, .int snk, .int sol, .int rd, .int fw, .ref (q 6), .ref (q 7), .ref (q 8), .ref (q 9)]))] s.heap := hP
  have hl := lv_entry ([.ref (q 0)]) (n := 1) (Nat.le_of_ble_eq_true rfl)
  rw [lg_entry_eq]
  generalize (lg_sl ([.ref (q 0)]) ++ List.replicate (1 - (lg_sl ([.ref (q 0)])).length) Slot.unset).toArray = ls at hl ⊢
  have hl : lv_has ls 1 [(0, .ref (q 0))] := hl
  refine lv_aload_n hx hb dX3_value_0 rfl (lv_at hl 0 rfl) ?_
  refine va_get (D := (dC, dI)) (ci := 3) (v := .int sol) (C := RX3) (T := TX3) (N := 19) hx hb hts fa_m_value_0 hown hK hP 0 rfl rfl 12 (by decide) (hts _ fa_m_value_1) (fun _ h9 => h9) rfl dX3_value_1 ?_
  refine lv_if_eq (tgt := 14) hx hb dX3_value_4 (by decide) (fun c_4 => ?_) (fun c_4 => ?_)
  · refine lv_iconst (v := (-1)) hx hb dX3_value_14 (by decide) ?_
    exact W.iret (v := (-1)) hx hb hr (fun t ht _ => ⟨(-1), rfl, (by first | exact Or.inl ⟨c_4, rfl⟩ | exact Or.inr ⟨c_4, rfl⟩), ht⟩) (fun _ h => by cases h) dX3_value_15
  · refine lv_aload_n hx hb dX3_value_7 rfl (lv_at hl 0 rfl) ?_
    refine va_get (D := (dC, dI)) (ci := 3) (v := .int fw) (C := RX3) (T := TX3) (N := 19) hx hb hts fa_m_value_0 hown hK hP 0 rfl rfl 14 (by decide) (hts _ fa_m_value_2) (fun _ h9 => h9) rfl dX3_value_8 ?_
    refine lv_goto (tgt := 15) hx hb dX3_value_11 (by decide) ?_
    exact W.iret (v := fw) hx hb hr (fun t ht _ => ⟨fw, rfl, (by first | exact Or.inl ⟨c_4, rfl⟩ | exact Or.inr ⟨c_4, rfl⟩), ht⟩) (fun _ h => by cases h) dX3_value_15

theorem fa_m_cost_0 : ∀ w ∈ wsX30, w ∈ wsX3_cost := by decide +kernel
theorem fa_m_cost_1 : Cond.fieldLink RX3 56 "FlowProofsModel" "edges" "I" ∈ wsX3_cost := by decide +kernel
theorem fa_m_cost_2 : Cond.fieldLink RX3 46 "FlowProofsModel" "isSolved" "Z" ∈ wsX3_cost := by decide +kernel
theorem fa_m_cost_3 : Cond.fieldLink RX3 22 "FlowProofsModel" "flows" "[I" ∈ wsX3_cost := by decide +kernel
theorem fa_m_cost_4 : Cond.fieldLink RX3 19 "FlowProofsModel" "costs" "[I" ∈ wsX3_cost := by decide +kernel
set_option maxHeartbeats 4000000 in
set_option maxRecDepth 100000 in
theorem k_m_cost (l : Launch) (dC : Nat → ClassId) (dI : Nat → Nat → Nat) (cI cJ cZ : ClassId) (q : Nat → Nat) (N M E : Nat) (fr to cap uc fl : Nat → Int32) (ct : Nat → Int64) (ta hw wy : Nat → Int32) (ac : Int64) (he src snk sol rd fw : Int32) (hE : E ≤ M) (hM : M ≤ 40) (hN : N ≤ 12) : Met l yX3_cost wsX3_cost ({ frames := 0, cells := 0, slots := 0, locals := 0 }) (va_Pc [.ref (q 0)] (fun U => va_P (dC, dI) vwCl [(q 0, .inr (3, [.int (nI N), .int (nI M), .int (nI E), .ref (q 1), .ref (q 2), .ref (q 3), .ref (q 4), .ref (q 5), .long ac, .int he, .int src, .int snk, .int sol, .int rd, .int fw, .ref (q 6), .ref (q 7), .ref (q 8), .ref (q 9)])), (q 1, .inl (cI, 40, .inl fr)), (q 2, .inl (cI, 40, .inl to)), (q 3, .inl (cI, 40, .inl cap)), (q 4, .inl (cI, 40, .inl uc)), (q 5, .inl (cI, 40, .inl fl))] U.heap ∧ va_K (dC, dI) vwCl [(cI, .int), (cJ, .long), (cZ, .boolean)] U)) (vp_Sl (fun r => (sol = 0 ∧ r = 0) ∨ (¬ sol = 0 ∧ r = fp_sum (fun e => (fl e).toInt64 * (uc e).toInt64) E))) 0 0 (fun _ => False) := by
  refine Met.ofW (cc := cX3_cost) (maxL := 4) (ret := (some .long)) (by decide) rfl ?_
  intro p e s m args below meth c s₁ B hml hv
  obtain ⟨rfl, hP, hK⟩ := hv
  have hx := B.exec
  have hb := B.bytes
  have hr := B.returns
  have hts := atoms_spec (ws := wsX3_cost) B.pre
  have hown : s.vm.findClass RX3 = some m.cls := findClass_of_methodNamed B.named
  have hlocks := B.notSynchronized
  have hP : va_P (dC, dI) vwCl [(q 0, .inr (3, [.int (nI N), .int (nI M), .int (nI E), .ref (q 1), .ref (q 2), .ref (q 3), .ref (q 4), .ref (q 5), .long ac, .int he, .int src, .int snk, .int sol, .int rd, .int fw, .ref (q 6), .ref (q 7), .ref (q 8), .ref (q 9)])), (q 1, .inl (cI, 40, .inl fr)), (q 2, .inl (cI, 40, .inl to)), (q 3, .inl (cI, 40, .inl cap)), (q 4, .inl (cI, 40, .inl uc)), (q 5, .inl (cI, 40, .inl fl))] s.heap := hP
  have hl := lv_entry ([.ref (q 0)]) (n := 4) (Nat.le_of_ble_eq_true rfl)
  rw [lg_entry_eq]
  generalize (lg_sl ([.ref (q 0)]) ++ List.replicate (4 - (lg_sl ([.ref (q 0)])).length) Slot.unset).toArray = ls at hl ⊢
  have hl : lv_has ls 4 [(0, .ref (q 0))] := hl
  refine lv_lconst (v := 0) hx hb dX3_cost_0 (by decide) ?_
  refine lv_lstore_n (lv' := [(1, .long 0), (0, .ref (q 0))]) hx hb dX3_cost_1 rfl hl (by decide) rfl (fun ls hl => ?_)
  refine lv_iconst (v := 0) hx hb dX3_cost_2 (by decide) ?_
  refine tp_i (y := nI 0) nI_0.symm ?_
  refine lv_istore_n (lv' := [(3, .int (nI 0)), (1, .long 0), (0, .ref (q 0))]) hx hb dX3_cost_3 rfl hl (by decide) rfl (fun ls hl => ?_)
  have lo_a : ∀ (nf : Nat) (i : Nat) (sm : Int64) (hi : i ≤ E) (hsm : sm = fp_sum (fun e => (fl e).toInt64 * (uc e).toInt64) i) (hz : sol = 0 → sm = 0) (hfu : E - i < nf) (ls : Array Slot) (hl : lv_has ls 4 [(0, .ref (q 0)), (1, .long sm), (3, .int (nI i))]), W p l e (headSpec wsX3_cost ({ frames := 0, cells := 0, slots := 0, locals := 0 })).room s m ([.ref (q 0)] : List Value).toArray below meth c s.heap [] 0 0 (MQ below (vp_Sl (fun r => (sol = 0 ∧ r = 0) ∨ (¬ sol = 0 ∧ r = fp_sum (fun e => (fl e).toInt64 * (uc e).toInt64) E))) ([.ref (q 0)] : List Value).toArray s 0 0 (fun _ => False)) (F0 m 4 ls [])
    := by
    intro nf
    induction nf with
    | zero => intro i sm hi hsm hz hfu ls hl; exact absurd hfu (Nat.not_lt_zero _)
    | succ nf ih_a =>
      intro i sm hi hsm hz hfu ls hl
      refine lv_iload_n hx hb dX3_cost_4 rfl (lv_at hl 2 rfl) ?_
      refine lv_aload_n hx hb dX3_cost_5 rfl (lv_at hl 0 rfl) ?_
      refine va_get (D := (dC, dI)) (ci := 3) (v := .int (nI E)) (C := RX3) (T := TX3) (N := 19) hx hb hts fa_m_cost_0 hown hK hP 0 rfl rfl 2 (by decide) (hts _ fa_m_cost_1) (fun _ h9 => h9) rfl dX3_cost_6 ?_
      refine lv_icmp_ge (tgt := 43) hx hb dX3_cost_9 (by decide) (fun c_9 => ?_) (fun c_9 => ?_)
      · have hge := ix_ge (by omega) (by omega) c_9
        refine lv_lload_n hx hb dX3_cost_43 rfl (lv_at hl 1 rfl) ?_
        exact W.lret (v := sm) hx hb hr (fun t ht _ => ⟨sm, rfl, (by first | exact Or.inl ⟨c_16, hz c_16⟩ | exact (Decidable.em (sol = 0)).elim (fun h => Or.inl ⟨h, hz h⟩) (fun h => Or.inr ⟨h, by rw [hsm, show i = E by omega]⟩)), ht⟩) (fun _ h => by cases h) dX3_cost_44
      · have hlt := ix_lt (by omega) (by omega) c_9
        refine lv_aload_n hx hb dX3_cost_12 rfl (lv_at hl 0 rfl) ?_
        refine va_get (D := (dC, dI)) (ci := 3) (v := .int sol) (C := RX3) (T := TX3) (N := 19) hx hb hts fa_m_cost_0 hown hK hP 0 rfl rfl 12 (by decide) (hts _ fa_m_cost_2) (fun _ h9 => h9) rfl dX3_cost_13 ?_
        refine lv_if_eq (tgt := 43) hx hb dX3_cost_16 (by decide) (fun c_16 => ?_) (fun c_16 => ?_)
        · refine lv_lload_n hx hb dX3_cost_43 rfl (lv_at hl 1 rfl) ?_
          exact W.lret (v := sm) hx hb hr (fun t ht _ => ⟨sm, rfl, (by first | exact Or.inl ⟨c_16, hz c_16⟩ | exact (Decidable.em (sol = 0)).elim (fun h => Or.inl ⟨h, hz h⟩) (fun h => Or.inr ⟨h, by rw [hsm, show i = E by omega]⟩)), ht⟩) (fun _ h => by cases h) dX3_cost_44
        · refine lv_lload_n hx hb dX3_cost_19 rfl (lv_at hl 1 rfl) ?_
          refine lv_aload_n hx hb dX3_cost_20 rfl (lv_at hl 0 rfl) ?_
          refine va_get (D := (dC, dI)) (ci := 3) (v := .ref (q 5)) (C := RX3) (T := TX3) (N := 19) hx hb hts fa_m_cost_0 hown hK hP 0 rfl rfl 7 (by decide) (hts _ fa_m_cost_3) (fun _ h9 => h9) rfl dX3_cost_21 ?_
          refine lv_iload_n hx hb dX3_cost_24 rfl (lv_at hl 2 rfl) ?_
          refine va_iald (D := (dC, dI)) hx hb hK hP 5 0 rfl rfl (by first | assumption | exact vp_in_nI (by omega) (by omega)) dX3_cost_25 ?_
          refine tp_i (y := fl i) (by rw [nI_clamp (n := i) (by omega)]) ?_
          refine lv_i2l hx hb dX3_cost_26 rfl ?_
          refine lv_aload_n hx hb dX3_cost_27 rfl (lv_at hl 0 rfl) ?_
          refine va_get (D := (dC, dI)) (ci := 3) (v := .ref (q 4)) (C := RX3) (T := TX3) (N := 19) hx hb hts fa_m_cost_0 hown hK hP 0 rfl rfl 6 (by decide) (hts _ fa_m_cost_4) (fun _ h9 => h9) rfl dX3_cost_28 ?_
          refine lv_iload_n hx hb dX3_cost_31 rfl (lv_at hl 2 rfl) ?_
          refine va_iald (D := (dC, dI)) hx hb hK hP 4 0 rfl rfl (by first | assumption | exact vp_in_nI (by omega) (by omega)) dX3_cost_32 ?_
          refine tp_i (y := uc i) (by rw [nI_clamp (n := i) (by omega)]) ?_
          refine lv_i2l hx hb dX3_cost_33 rfl ?_
          refine lv_lmul hx hb dX3_cost_34 ?_
          refine lv_ladd hx hb dX3_cost_35 ?_
          refine lv_lstore_n (lv' := [(1, .long (sm + (((fl i).toInt64) * ((uc i).toInt64)))), (0, .ref (q 0)), (3, .int (nI i))]) hx hb dX3_cost_36 rfl hl (by decide) rfl (fun ls hl => ?_)
          refine lv_iinc (v := nI (i + 1)) (lv' := [(3, .int (nI (i + 1))), (1, .long (sm + (((fl i).toInt64) * ((uc i).toInt64)))), (0, .ref (q 0))]) hx hb dX3_cost_37 hl (k := 2) rfl (by first | exact nI_1 _ | exact nI_add _ _) (by decide) rfl (fun ls hl => ?_)
          refine lv_goto (tgt := 4) hx hb dX3_cost_40 (by decide) ?_
          exact ih_a (i + 1) (sm + (((fl i).toInt64) * ((uc i).toInt64))) (by first | assumption | omega | rfl) (by rw [hsm]; rfl) (fun h => absurd h c_16) (by omega) _ (lv_sub hl [2, 1, 0] rfl)
  exact lo_a (E - 0 + 1) 0 0 (by first | assumption | omega | rfl) rfl (fun _ => rfl) (by omega) _ (lv_sub hl [2, 1, 0] rfl)

theorem fa_m_flow_0 : ∀ w ∈ wsX30, w ∈ wsX3_flow := by decide +kernel
theorem fa_m_flow_1 : Cond.fieldLink RX3 56 "FlowProofsModel" "edges" "I" ∈ wsX3_flow := by decide +kernel
theorem fa_m_flow_2 : Cond.fieldLink RX3 22 "FlowProofsModel" "flows" "[I" ∈ wsX3_flow := by decide +kernel
set_option maxHeartbeats 4000000 in
set_option maxRecDepth 100000 in
theorem k_m_flow (l : Launch) (dC : Nat → ClassId) (dI : Nat → Nat → Nat) (cI cJ cZ : ClassId) (q : Nat → Nat) (N M E : Nat) (fr to cap uc fl : Nat → Int32) (ct : Nat → Int64) (ta hw wy : Nat → Int32) (ac : Int64) (he src snk sol rd fw : Int32) (x : Int32) (hE : E ≤ M) (hM : M ≤ 40) (hN : N ≤ 12) : Met l yX3_flow wsX3_flow ({ frames := 0, cells := 0, slots := 0, locals := 0 }) (va_Pc [.ref (q 0), .int x] (fun U => va_P (dC, dI) vwCl [(q 0, .inr (3, [.int (nI N), .int (nI M), .int (nI E), .ref (q 1), .ref (q 2), .ref (q 3), .ref (q 4), .ref (q 5), .long ac, .int he, .int src, .int snk, .int sol, .int rd, .int fw, .ref (q 6), .ref (q 7), .ref (q 8), .ref (q 9)])), (q 1, .inl (cI, 40, .inl fr)), (q 2, .inl (cI, 40, .inl to)), (q 3, .inl (cI, 40, .inl cap)), (q 4, .inl (cI, 40, .inl uc)), (q 5, .inl (cI, 40, .inl fl))] U.heap ∧ va_K (dC, dI) vwCl [(cI, .int), (cJ, .long), (cZ, .boolean)] U)) (vp_Si (fun r => (¬ vp_in x E ∧ r = -1) ∨ (vp_in x E ∧ r = fl x.toNatClampNeg))) 0 0 (fun _ => False) := by
  refine Met.ofW (cc := cX3_flow) (maxL := 2) (ret := (some .int)) (by decide) rfl ?_
  intro p e s m args below meth c s₁ B hml hv
  obtain ⟨rfl, hP, hK⟩ := hv
  have hx := B.exec
  have hb := B.bytes
  have hr := B.returns
  have hts := atoms_spec (ws := wsX3_flow) B.pre
  have hown : s.vm.findClass RX3 = some m.cls := findClass_of_methodNamed B.named
  have hlocks := B.notSynchronized
  have hP : va_P (dC, dI) vwCl [(q 0, .inr (3, [.int (nI N), .int (nI M), .int (nI E), .ref (q 1), .ref (q 2), .ref (q 3), .ref (q 4), .ref (q 5), .long ac, .int he, .int src, .int snk, .int sol, .int rd, .int fw, .ref (q 6), .ref (q 7), .ref (q 8), .ref (q 9)])), (q 1, .inl (cI, 40, .inl fr)), (q 2, .inl (cI, 40, .inl to)), (q 3, .inl (cI, 40, .inl cap)), (q 4, .inl (cI, 40, .inl uc)), (q 5, .inl (cI, 40, .inl fl))] s.heap := hP
  have hl := lv_entry ([.ref (q 0), .int x]) (n := 2) (Nat.le_of_ble_eq_true rfl)
  rw [lg_entry_eq]
  generalize (lg_sl ([.ref (q 0), .int x]) ++ List.replicate (2 - (lg_sl ([.ref (q 0), .int x])).length) Slot.unset).toArray = ls at hl ⊢
  have hl : lv_has ls 2 [(0, .ref (q 0)), (1, .int x)] := hl
  refine lv_iload_n hx hb dX3_flow_0 rfl (lv_at hl 1 rfl) ?_
  refine lv_if_lt (tgt := 21) hx hb dX3_flow_1 (by decide) (fun c_1 => ?_) (fun c_1 => ?_)
  · refine lv_iconst (v := (-1)) hx hb dX3_flow_21 (by decide) ?_
    exact W.iret (v := (-1)) hx hb hr (fun t ht _ => ⟨(-1), rfl, (by first | exact Or.inr ⟨hxE, rfl⟩ | exact Or.inl ⟨hn_o1 c_1, rfl⟩ | exact Or.inl ⟨hn_o2 (by omega) c_9, rfl⟩), ht⟩) (fun _ h => by cases h) dX3_flow_22
  · refine lv_iload_n hx hb dX3_flow_4 rfl (lv_at hl 1 rfl) ?_
    refine lv_aload_n hx hb dX3_flow_5 rfl (lv_at hl 0 rfl) ?_
    refine va_get (D := (dC, dI)) (ci := 3) (v := .int (nI E)) (C := RX3) (T := TX3) (N := 19) hx hb hts fa_m_flow_0 hown hK hP 0 rfl rfl 2 (by decide) (hts _ fa_m_flow_1) (fun _ h9 => h9) rfl dX3_flow_6 ?_
    refine lv_icmp_ge (tgt := 21) hx hb dX3_flow_9 (by decide) (fun c_9 => ?_) (fun c_9 => ?_)
    · refine lv_iconst (v := (-1)) hx hb dX3_flow_21 (by decide) ?_
      exact W.iret (v := (-1)) hx hb hr (fun t ht _ => ⟨(-1), rfl, (by first | exact Or.inr ⟨hxE, rfl⟩ | exact Or.inl ⟨hn_o1 c_1, rfl⟩ | exact Or.inl ⟨hn_o2 (by omega) c_9, rfl⟩), ht⟩) (fun _ h => by cases h) dX3_flow_22
    · have hxE := hn_in (x := x) (N := E) (by omega) (by rw [if_pos ⟨c_1, Int32.not_le.mp c_9⟩]; decide)
      have hxM : vp_in x 40 := by rw [vp_in_iff] at hxE ⊢; omega
      refine lv_aload_n hx hb dX3_flow_12 rfl (lv_at hl 0 rfl) ?_
      refine va_get (D := (dC, dI)) (ci := 3) (v := .ref (q 5)) (C := RX3) (T := TX3) (N := 19) hx hb hts fa_m_flow_0 hown hK hP 0 rfl rfl 7 (by decide) (hts _ fa_m_flow_2) (fun _ h9 => h9) rfl dX3_flow_13 ?_
      refine lv_iload_n hx hb dX3_flow_16 rfl (lv_at hl 1 rfl) ?_
      refine va_iald (D := (dC, dI)) hx hb hK hP 5 0 rfl rfl (by first | assumption | exact vp_in_nI (by omega) (by omega)) dX3_flow_17 ?_
      refine lv_goto (tgt := 22) hx hb dX3_flow_18 (by decide) ?_
      exact W.iret (v := (fl x.toNatClampNeg)) hx hb hr (fun t ht _ => ⟨(fl x.toNatClampNeg), rfl, (by first | exact Or.inr ⟨hxE, rfl⟩ | exact Or.inl ⟨hn_o1 c_1, rfl⟩ | exact Or.inl ⟨hn_o2 (by omega) c_9, rfl⟩), ht⟩) (fun _ h => by cases h) dX3_flow_22

theorem fa_m_count_0 : ∀ w ∈ wsX30, w ∈ wsX3_count := by decide +kernel
theorem fa_m_count_1 : Cond.fieldLink RX3 53 "FlowProofsModel" "flowing" "I" ∈ wsX3_count := by decide +kernel
theorem fa_m_count_2 : Cond.fieldLink RX3 50 "FlowProofsModel" "rounds" "I" ∈ wsX3_count := by decide +kernel
theorem fa_m_count_3 : Cond.fieldLink RX3 56 "FlowProofsModel" "edges" "I" ∈ wsX3_count := by decide +kernel
theorem fa_m_count_4 : Cond.fieldLink RX3 39 "FlowProofsModel" "nodes" "I" ∈ wsX3_count := by decide +kernel
set_option maxHeartbeats 4000000 in
set_option maxRecDepth 100000 in
theorem k_m_count (l : Launch) (dC : Nat → ClassId) (dI : Nat → Nat → Nat) (cI cJ cZ : ClassId) (q : Nat → Nat) (N M E : Nat) (fr to cap uc fl : Nat → Int32) (ct : Nat → Int64) (ta hw wy : Nat → Int32) (ac : Int64) (he src snk sol rd fw : Int32) (x : Int32)  : Met l yX3_count wsX3_count ({ frames := 0, cells := 0, slots := 0, locals := 0 }) (va_Pc [.ref (q 0), .int x] (fun U => va_P (dC, dI) vwCl [(q 0, .inr (3, [.int (nI N), .int (nI M), .int (nI E), .ref (q 1), .ref (q 2), .ref (q 3), .ref (q 4), .ref (q 5), .long ac, .int he, .int src, .int snk, .int sol, .int rd, .int fw, .ref (q 6), .ref (q 7), .ref (q 8), .ref (q 9)]))] U.heap ∧ va_K (dC, dI) vwCl [(cI, .int), (cJ, .long), (cZ, .boolean)] U)) (vp_Si (fun r => r = (if x = 0 then nI N else if x = 1 then nI E else if x = 2 then rd else if x = 3 then fw else -1))) 0 0 (fun _ => False) := by
  refine Met.ofW (cc := cX3_count) (maxL := 2) (ret := (some .int)) (by decide) rfl ?_
  intro p e s m args below meth c s₁ B hml hv
  obtain ⟨rfl, hP, hK⟩ := hv
  have hx := B.exec
  have hb := B.bytes
  have hr := B.returns
  have hts := atoms_spec (ws := wsX3_count) B.pre
  have hown : s.vm.findClass RX3 = some m.cls := findClass_of_methodNamed B.named
  have hlocks := B.notSynchronized
  have hP : va_P (dC, dI) vwCl [(q 0, .inr (3, [.int (nI N), .int (nI M), .int (nI E), .ref (q 1), .ref (q 2), .ref (q 3), .ref (q 4), .ref (q 5), .long ac, .int he, .int src, .int snk, .int sol, .int rd, .int fw, .ref (q 6), .ref (q 7), .ref (q 8), .ref (q 9)]))] s.heap := hP
  have hl := lv_entry ([.ref (q 0), .int x]) (n := 2) (Nat.le_of_ble_eq_true rfl)
  rw [lg_entry_eq]
  generalize (lg_sl ([.ref (q 0), .int x]) ++ List.replicate (2 - (lg_sl ([.ref (q 0), .int x])).length) Slot.unset).toArray = ls at hl ⊢
  have hl : lv_has ls 2 [(0, .ref (q 0)), (1, .int x)] := hl
  refine lv_iload_n hx hb dX3_count_0 rfl (lv_at hl 1 rfl) ?_
  refine lv_if_ne (tgt := 11) hx hb dX3_count_1 (by decide) (fun c_1 => ?_) (fun c_1 => ?_)
  · refine lv_iload_n hx hb dX3_count_11 rfl (lv_at hl 1 rfl) ?_
    refine lv_iconst (v := 1) hx hb dX3_count_12 (by decide) ?_
    refine lv_icmp_ne (tgt := 23) hx hb dX3_count_13 (by decide) (fun c_13 => ?_) (fun c_13 => ?_)
    · refine lv_iload_n hx hb dX3_count_23 rfl (lv_at hl 1 rfl) ?_
      refine lv_iconst (v := 2) hx hb dX3_count_24 (by decide) ?_
      refine lv_icmp_ne (tgt := 35) hx hb dX3_count_25 (by decide) (fun c_25 => ?_) (fun c_25 => ?_)
      · refine lv_iload_n hx hb dX3_count_35 rfl (lv_at hl 1 rfl) ?_
        refine lv_iconst (v := 3) hx hb dX3_count_36 (by decide) ?_
        refine lv_icmp_ne (tgt := 47) hx hb dX3_count_37 (by decide) (fun c_37 => ?_) (fun c_37 => ?_)
        · refine lv_iconst (v := (-1)) hx hb dX3_count_47 (by decide) ?_
          exact W.iret (v := (-1)) hx hb hr (fun t ht _ => ⟨(-1), rfl, (by first | rw [if_pos c_1] | rw [if_neg c_1, if_pos c_13] | rw [if_neg c_1, if_neg c_13, if_pos c_25] | rw [if_neg c_1, if_neg c_13, if_neg c_25, if_pos c_37] | rw [if_neg c_1, if_neg c_13, if_neg c_25, if_neg c_37]), ht⟩) (fun _ h => by cases h) dX3_count_48
        · refine lv_aload_n hx hb dX3_count_40 rfl (lv_at hl 0 rfl) ?_
          refine va_get (D := (dC, dI)) (ci := 3) (v := .int fw) (C := RX3) (T := TX3) (N := 19) hx hb hts fa_m_count_0 hown hK hP 0 rfl rfl 14 (by decide) (hts _ fa_m_count_1) (fun _ h9 => h9) rfl dX3_count_41 ?_
          refine lv_goto (tgt := 48) hx hb dX3_count_44 (by decide) ?_
          exact W.iret (v := fw) hx hb hr (fun t ht _ => ⟨fw, rfl, (by first | rw [if_pos c_1] | rw [if_neg c_1, if_pos c_13] | rw [if_neg c_1, if_neg c_13, if_pos c_25] | rw [if_neg c_1, if_neg c_13, if_neg c_25, if_pos c_37] | rw [if_neg c_1, if_neg c_13, if_neg c_25, if_neg c_37]), ht⟩) (fun _ h => by cases h) dX3_count_48
      · refine lv_aload_n hx hb dX3_count_28 rfl (lv_at hl 0 rfl) ?_
        refine va_get (D := (dC, dI)) (ci := 3) (v := .int rd) (C := RX3) (T := TX3) (N := 19) hx hb hts fa_m_count_0 hown hK hP 0 rfl rfl 13 (by decide) (hts _ fa_m_count_2) (fun _ h9 => h9) rfl dX3_count_29 ?_
        refine lv_goto (tgt := 48) hx hb dX3_count_32 (by decide) ?_
        exact W.iret (v := rd) hx hb hr (fun t ht _ => ⟨rd, rfl, (by first | rw [if_pos c_1] | rw [if_neg c_1, if_pos c_13] | rw [if_neg c_1, if_neg c_13, if_pos c_25] | rw [if_neg c_1, if_neg c_13, if_neg c_25, if_pos c_37] | rw [if_neg c_1, if_neg c_13, if_neg c_25, if_neg c_37]), ht⟩) (fun _ h => by cases h) dX3_count_48
    · refine lv_aload_n hx hb dX3_count_16 rfl (lv_at hl 0 rfl) ?_
      refine va_get (D := (dC, dI)) (ci := 3) (v := .int (nI E)) (C := RX3) (T := TX3) (N := 19) hx hb hts fa_m_count_0 hown hK hP 0 rfl rfl 2 (by decide) (hts _ fa_m_count_3) (fun _ h9 => h9) rfl dX3_count_17 ?_
      refine lv_goto (tgt := 48) hx hb dX3_count_20 (by decide) ?_
      exact W.iret (v := (nI E)) hx hb hr (fun t ht _ => ⟨(nI E), rfl, (by first | rw [if_pos c_1] | rw [if_neg c_1, if_pos c_13] | rw [if_neg c_1, if_neg c_13, if_pos c_25] | rw [if_neg c_1, if_neg c_13, if_neg c_25, if_pos c_37] | rw [if_neg c_1, if_neg c_13, if_neg c_25, if_neg c_37]), ht⟩) (fun _ h => by cases h) dX3_count_48
  · refine lv_aload_n hx hb dX3_count_4 rfl (lv_at hl 0 rfl) ?_
    refine va_get (D := (dC, dI)) (ci := 3) (v := .int (nI N)) (C := RX3) (T := TX3) (N := 19) hx hb hts fa_m_count_0 hown hK hP 0 rfl rfl 0 (by decide) (hts _ fa_m_count_4) (fun _ h9 => h9) rfl dX3_count_5 ?_
    refine lv_goto (tgt := 48) hx hb dX3_count_8 (by decide) ?_
    exact W.iret (v := (nI N)) hx hb hr (fun t ht _ => ⟨(nI N), rfl, (by first | rw [if_pos c_1] | rw [if_neg c_1, if_pos c_13] | rw [if_neg c_1, if_neg c_13, if_pos c_25] | rw [if_neg c_1, if_neg c_13, if_neg c_25, if_pos c_37] | rw [if_neg c_1, if_neg c_13, if_neg c_25, if_neg c_37]), ht⟩) (fun _ h => by cases h) dX3_count_48

theorem fa_m_gone_0 : ∀ w ∈ wsX30, w ∈ wsX3_gone := by decide +kernel
theorem fa_m_gone_1 : Cond.fieldLink RX3 46 "FlowProofsModel" "isSolved" "Z" ∈ wsX3_gone := by decide +kernel
theorem fa_m_gone_2 : Cond.fieldLink RX3 50 "FlowProofsModel" "rounds" "I" ∈ wsX3_gone := by decide +kernel
theorem fa_m_gone_3 : Cond.fieldLink RX3 53 "FlowProofsModel" "flowing" "I" ∈ wsX3_gone := by decide +kernel
theorem fa_m_gone_4 : Cond.fieldLink RX3 56 "FlowProofsModel" "edges" "I" ∈ wsX3_gone := by decide +kernel
theorem fa_m_gone_5 : Cond.fieldLink RX3 22 "FlowProofsModel" "flows" "[I" ∈ wsX3_gone := by decide +kernel
set_option maxHeartbeats 4000000 in
set_option maxRecDepth 100000 in
theorem k_m_gone (l : Launch) (dC : Nat → ClassId) (dI : Nat → Nat → Nat) (cI cJ cZ : ClassId) (q : Nat → Nat) (N M E : Nat) (fr to cap uc fl : Nat → Int32) (ct : Nat → Int64) (ta hw wy : Nat → Int32) (ac : Int64) (he src snk sol rd fw : Int32) (sz : Nat) (hE : E ≤ M) (hM : M ≤ 40) (hN : N ≤ 12) (hz : ∀ j, E ≤ j → fl j = 0) : Met l yX3_gone wsX3_gone ({ frames := 0, cells := 0, slots := 0, locals := 0 }) (va_Pc [.ref (q 0)] (fun U => U.heap.size = sz ∧ va_P (dC, dI) vwCl [(q 0, .inr (3, [.int (nI N), .int (nI M), .int (nI E), .ref (q 1), .ref (q 2), .ref (q 3), .ref (q 4), .ref (q 5), .long ac, .int he, .int src, .int snk, .int sol, .int rd, .int fw, .ref (q 6), .ref (q 7), .ref (q 8), .ref (q 9)])), (q 5, .inl (cI, 40, .inl fl))] U.heap ∧ va_K (dC, dI) vwCl [(cI, .int), (cJ, .long), (cZ, .boolean)] U ∧ va_D (fun _ => True) [(q 0, .inr (3, [.int (nI N), .int (nI M), .int (nI E), .ref (q 1), .ref (q 2), .ref (q 3), .ref (q 4), .ref (q 5), .long ac, .int he, .int src, .int snk, .int sol, .int rd, .int fw, .ref (q 6), .ref (q 7), .ref (q 8), .ref (q 9)])), (q 5, .inl (cI, 40, .inl fl))])) (va_Qv (fun (u_ : Unit) => True) (fun (u_ : Unit) (t : State) => va_P (dC, dI) vwCl [(q 0, .inr (3, [.int (nI N), .int (nI M), .int (nI E), .ref (q 1), .ref (q 2), .ref (q 3), .ref (q 4), .ref (q 5), .long ac, .int he, .int src, .int snk, .int 0, .int 0, .int 0, .ref (q 6), .ref (q 7), .ref (q 8), .ref (q 9)])), (q 5, .inl (cI, 40, .inl (fun _ => 0)))] t.heap ∧ va_K (dC, dI) vwCl [(cI, .int), (cJ, .long), (cZ, .boolean)] t ∧ va_D (va_A [(q 0, .inr (3, [.int (nI N), .int (nI M), .int (nI E), .ref (q 1), .ref (q 2), .ref (q 3), .ref (q 4), .ref (q 5), .long ac, .int he, .int src, .int snk, .int sol, .int rd, .int fw, .ref (q 6), .ref (q 7), .ref (q 8), .ref (q 9)])), (q 5, .inl (cI, 40, .inl fl))] sz) [(q 0, .inr (3, [.int (nI N), .int (nI M), .int (nI E), .ref (q 1), .ref (q 2), .ref (q 3), .ref (q 4), .ref (q 5), .long ac, .int he, .int src, .int snk, .int 0, .int 0, .int 0, .ref (q 6), .ref (q 7), .ref (q 8), .ref (q 9)])), (q 5, .inl (cI, 40, .inl (fun _ => 0)))]) (va_A [(q 0, .inr (3, [.int (nI N), .int (nI M), .int (nI E), .ref (q 1), .ref (q 2), .ref (q 3), .ref (q 4), .ref (q 5), .long ac, .int he, .int src, .int snk, .int sol, .int rd, .int fw, .ref (q 6), .ref (q 7), .ref (q 8), .ref (q 9)])), (q 5, .inl (cI, 40, .inl fl))] sz)) 0 0 (va_A [(q 0, .inr (3, [.int (nI N), .int (nI M), .int (nI E), .ref (q 1), .ref (q 2), .ref (q 3), .ref (q 4), .ref (q 5), .long ac, .int he, .int src, .int snk, .int sol, .int rd, .int fw, .ref (q 6), .ref (q 7), .ref (q 8), .ref (q 9)])), (q 5, .inl (cI, 40, .inl fl))] sz) := by
  refine Met.ofW (cc := cX3_gone) (maxL := 2) (ret := none) (by decide) rfl ?_
  intro p e s m args below meth c s₁ B hml hv
  obtain ⟨rfl, hsz, hP, hK, hD0⟩ := hv
  have hx := B.exec
  have hb := B.bytes
  have hr := B.returns
  have hts := atoms_spec (ws := wsX3_gone) B.pre
  have hown : s.vm.findClass RX3 = some m.cls := findClass_of_methodNamed B.named
  have hlocks := B.notSynchronized
  subst hsz
  have hD := hD0.self (sz := s.heap.size)
  generalize hAe : va_A [(q 0, .inr (3, [.int (nI N), .int (nI M), .int (nI E), .ref (q 1), .ref (q 2), .ref (q 3), .ref (q 4), .ref (q 5), .long ac, .int he, .int src, .int snk, .int sol, .int rd, .int fw, .ref (q 6), .ref (q 7), .ref (q 8), .ref (q 9)])), (q 5, .inl (cI, 40, .inl fl))] s.heap.size = A at hD ⊢
  have hA : ∀ q : Nat, s.heap.size ≤ q → A q := fun q h => by rw [← hAe]; exact Or.inr h
  have hS : va_S A s.heap s.heap [] := va_S.rf
  have hP : va_P (dC, dI) vwCl [(q 0, .inr (3, [.int (nI N), .int (nI M), .int (nI E), .ref (q 1), .ref (q 2), .ref (q 3), .ref (q 4), .ref (q 5), .long ac, .int he, .int src, .int snk, .int sol, .int rd, .int fw, .ref (q 6), .ref (q 7), .ref (q 8), .ref (q 9)])), (q 5, .inl (cI, 40, .inl fl))] s.heap := hP
  have hl := lv_entry ([.ref (q 0)]) (n := 2) (Nat.le_of_ble_eq_true rfl)
  rw [lg_entry_eq]
  generalize (lg_sl ([.ref (q 0)]) ++ List.replicate (2 - (lg_sl ([.ref (q 0)])).length) Slot.unset).toArray = ls at hl ⊢
  have hl : lv_has ls 2 [(0, .ref (q 0))] := hl
  refine lv_aload_n hx hb dX3_gone_0 rfl (lv_at hl 0 rfl) ?_
  refine lv_iconst (v := 0) hx hb dX3_gone_1 (by decide) ?_
  refine va_put (D := (dC, dI)) (ci := 3) (v := .int 0) (ty := .boolean) (C := RX3) (T := TX3) (N := 19) hx hb hts fa_m_gone_0 tyX3 tyX3_ok nmX3 hown hK hP hD hS 0 rfl rfl 12 (by decide) (hts _ fa_m_gone_1) (fun _ h9 => h9) rfl (by decide +kernel) rfl rfl (Nat.le_of_ble_eq_true rfl) dX3_gone_2 (fun H locs hP hD hS => ?_)
  have hP : va_P (dC, dI) vwCl [(q 0, .inr (3, [.int (nI N), .int (nI M), .int (nI E), .ref (q 1), .ref (q 2), .ref (q 3), .ref (q 4), .ref (q 5), .long ac, .int he, .int src, .int snk, .int 0, .int rd, .int fw, .ref (q 6), .ref (q 7), .ref (q 8), .ref (q 9)])), (q 5, .inl (cI, 40, .inl fl))] H := hP
  have hD : va_D A [(q 0, .inr (3, [.int (nI N), .int (nI M), .int (nI E), .ref (q 1), .ref (q 2), .ref (q 3), .ref (q 4), .ref (q 5), .long ac, .int he, .int src, .int snk, .int 0, .int rd, .int fw, .ref (q 6), .ref (q 7), .ref (q 8), .ref (q 9)])), (q 5, .inl (cI, 40, .inl fl))] := hD
  refine lv_aload_n hx hb dX3_gone_5 rfl (lv_at hl 0 rfl) ?_
  refine lv_iconst (v := 0) hx hb dX3_gone_6 (by decide) ?_
  refine va_put (D := (dC, dI)) (ci := 3) (v := .int 0) (ty := .int) (C := RX3) (T := TX3) (N := 19) hx hb hts fa_m_gone_0 tyX3 tyX3_ok nmX3 hown hK hP hD hS 0 rfl rfl 13 (by decide) (hts _ fa_m_gone_2) (fun _ h9 => h9) rfl (by decide +kernel) rfl rfl (Nat.le_of_ble_eq_true rfl) dX3_gone_7 (fun H locs hP hD hS => ?_)
  have hP : va_P (dC, dI) vwCl [(q 0, .inr (3, [.int (nI N), .int (nI M), .int (nI E), .ref (q 1), .ref (q 2), .ref (q 3), .ref (q 4), .ref (q 5), .long ac, .int he, .int src, .int snk, .int 0, .int 0, .int fw, .ref (q 6), .ref (q 7), .ref (q 8), .ref (q 9)])), (q 5, .inl (cI, 40, .inl fl))] H := hP
  have hD : va_D A [(q 0, .inr (3, [.int (nI N), .int (nI M), .int (nI E), .ref (q 1), .ref (q 2), .ref (q 3), .ref (q 4), .ref (q 5), .long ac, .int he, .int src, .int snk, .int 0, .int 0, .int fw, .ref (q 6), .ref (q 7), .ref (q 8), .ref (q 9)])), (q 5, .inl (cI, 40, .inl fl))] := hD
  refine lv_aload_n hx hb dX3_gone_10 rfl (lv_at hl 0 rfl) ?_
  refine lv_iconst (v := 0) hx hb dX3_gone_11 (by decide) ?_
  refine va_put (D := (dC, dI)) (ci := 3) (v := .int 0) (ty := .int) (C := RX3) (T := TX3) (N := 19) hx hb hts fa_m_gone_0 tyX3 tyX3_ok nmX3 hown hK hP hD hS 0 rfl rfl 14 (by decide) (hts _ fa_m_gone_3) (fun _ h9 => h9) rfl (by decide +kernel) rfl rfl (Nat.le_of_ble_eq_true rfl) dX3_gone_12 (fun H locs hP hD hS => ?_)
  have hP : va_P (dC, dI) vwCl [(q 0, .inr (3, [.int (nI N), .int (nI M), .int (nI E), .ref (q 1), .ref (q 2), .ref (q 3), .ref (q 4), .ref (q 5), .long ac, .int he, .int src, .int snk, .int 0, .int 0, .int 0, .ref (q 6), .ref (q 7), .ref (q 8), .ref (q 9)])), (q 5, .inl (cI, 40, .inl fl))] H := hP
  have hD : va_D A [(q 0, .inr (3, [.int (nI N), .int (nI M), .int (nI E), .ref (q 1), .ref (q 2), .ref (q 3), .ref (q 4), .ref (q 5), .long ac, .int he, .int src, .int snk, .int 0, .int 0, .int 0, .ref (q 6), .ref (q 7), .ref (q 8), .ref (q 9)])), (q 5, .inl (cI, 40, .inl fl))] := hD
  refine lv_iconst (v := 0) hx hb dX3_gone_15 (by decide) ?_
  refine tp_i (y := nI 0) nI_0.symm ?_
  refine lv_istore_n (lv' := [(1, .int (nI 0)), (0, .ref (q 0))]) hx hb dX3_gone_16 rfl hl (by decide) rfl (fun ls hl => ?_)
  have lo_a : ∀ (nf : Nat) (i : Nat) (g : Nat → Int32) (hi : i ≤ E) (hg : ∀ j, j < i ∨ E ≤ j → g j = 0) (hfu : E - i < nf) (H : Heap) (locs : List Loc) (hP : va_P (dC, dI) vwCl [(q 0, .inr (3, [.int (nI N), .int (nI M), .int (nI E), .ref (q 1), .ref (q 2), .ref (q 3), .ref (q 4), .ref (q 5), .long ac, .int he, .int src, .int snk, .int 0, .int 0, .int 0, .ref (q 6), .ref (q 7), .ref (q 8), .ref (q 9)])), (q 5, .inl (cI, 40, .inl g))] H) (hD : va_D A [(q 0, .inr (3, [.int (nI N), .int (nI M), .int (nI E), .ref (q 1), .ref (q 2), .ref (q 3), .ref (q 4), .ref (q 5), .long ac, .int he, .int src, .int snk, .int 0, .int 0, .int 0, .ref (q 6), .ref (q 7), .ref (q 8), .ref (q 9)])), (q 5, .inl (cI, 40, .inl g))]) (hS : va_S A s.heap H locs) (ls : Array Slot) (hl : lv_has ls 2 [(0, .ref (q 0)), (1, .int (nI i))]), W p l e (headSpec wsX3_gone ({ frames := 0, cells := 0, slots := 0, locals := 0 })).room s m ([.ref (q 0)] : List Value).toArray below meth c H locs 0 0 (MQ below (va_Qv (fun (u_ : Unit) => True) (fun (u_ : Unit) (t : State) => va_P (dC, dI) vwCl [(q 0, .inr (3, [.int (nI N), .int (nI M), .int (nI E), .ref (q 1), .ref (q 2), .ref (q 3), .ref (q 4), .ref (q 5), .long ac, .int he, .int src, .int snk, .int 0, .int 0, .int 0, .ref (q 6), .ref (q 7), .ref (q 8), .ref (q 9)])), (q 5, .inl (cI, 40, .inl (fun _ => 0)))] t.heap ∧ va_K (dC, dI) vwCl [(cI, .int), (cJ, .long), (cZ, .boolean)] t ∧ va_D A [(q 0, .inr (3, [.int (nI N), .int (nI M), .int (nI E), .ref (q 1), .ref (q 2), .ref (q 3), .ref (q 4), .ref (q 5), .long ac, .int he, .int src, .int snk, .int 0, .int 0, .int 0, .ref (q 6), .ref (q 7), .ref (q 8), .ref (q 9)])), (q 5, .inl (cI, 40, .inl (fun _ => 0)))]) A) ([.ref (q 0)] : List Value).toArray s 0 0 A) (F0 m 17 ls [])
    := by
    intro nf
    induction nf with
    | zero => intro i g hi hg hfu H locs hP hD hS ls hl; exact absurd hfu (Nat.not_lt_zero _)
    | succ nf ih_a =>
      intro i g hi hg hfu H locs hP hD hS ls hl
      refine lv_iload_n hx hb dX3_gone_17 rfl (lv_at hl 1 rfl) ?_
      refine lv_aload_n hx hb dX3_gone_18 rfl (lv_at hl 0 rfl) ?_
      refine va_get (D := (dC, dI)) (ci := 3) (v := .int (nI E)) (C := RX3) (T := TX3) (N := 19) hx hb hts fa_m_gone_0 hown hK hP 0 rfl rfl 2 (by decide) (hts _ fa_m_gone_4) (fun _ h9 => h9) rfl dX3_gone_19 ?_
      refine lv_icmp_ge (tgt := 38) hx hb dX3_gone_22 (by decide) (fun c_22 => ?_) (fun c_22 => ?_)
      · have hge := ix_ge (by omega) (by omega) c_22
        have hP := va_P_conI hP 1 (g := fun _ => 0) rfl (fun j hj => hg j (by omega))
        have hD := va_D_con hD 1 (e1 := .inl (cI, 40, .inl (fun _ => 0))) rfl
        have hP9 := hP.sub (ws' := [(q 0, .inr (3, [.int (nI N), .int (nI M), .int (nI E), .ref (q 1), .ref (q 2), .ref (q 3), .ref (q 4), .ref (q 5), .long ac, .int he, .int src, .int snk, .int 0, .int 0, .int 0, .ref (q 6), .ref (q 7), .ref (q 8), .ref (q 9)])), (q 5, .inl (cI, 40, .inl (fun _ => 0)))]) [0, 1] rfl
        have hD9 := hD.sub (ws' := [(q 0, .inr (3, [.int (nI N), .int (nI M), .int (nI E), .ref (q 1), .ref (q 2), .ref (q 3), .ref (q 4), .ref (q 5), .long ac, .int he, .int src, .int snk, .int 0, .int 0, .int 0, .ref (q 6), .ref (q 7), .ref (q 8), .ref (q 9)])), (q 5, .inl (cI, 40, .inl (fun _ => 0)))]) [0, 1] (by decide) rfl
        exact W.vret hx hb hr (fun t ht hW => ⟨⟨(), rfl, trivial, by rw [ht]; exact hP9, va_K.moved hW.alike hK, hD9⟩, hS.F ht⟩) hS.2.2 dX3_gone_38
      · have hlt := ix_lt (by omega) (by omega) c_22
        refine lv_aload_n hx hb dX3_gone_25 rfl (lv_at hl 0 rfl) ?_
        refine va_get (D := (dC, dI)) (ci := 3) (v := .ref (q 5)) (C := RX3) (T := TX3) (N := 19) hx hb hts fa_m_gone_0 hown hK hP 0 rfl rfl 7 (by decide) (hts _ fa_m_gone_5) (fun _ h9 => h9) rfl dX3_gone_26 ?_
        refine lv_iload_n hx hb dX3_gone_29 rfl (lv_at hl 1 rfl) ?_
        refine lv_iconst (v := 0) hx hb dX3_gone_30 (by decide) ?_
        refine va_iast (D := (dC, dI)) hx hb hK hP hD hS 1 0 rfl rfl (by first | assumption | exact vp_in_nI (by omega) (by omega)) dX3_gone_31 (fun H locs hP hD hS => ?_)
        have hP : va_P (dC, dI) vwCl [(q 0, .inr (3, [.int (nI N), .int (nI M), .int (nI E), .ref (q 1), .ref (q 2), .ref (q 3), .ref (q 4), .ref (q 5), .long ac, .int he, .int src, .int snk, .int 0, .int 0, .int 0, .ref (q 6), .ref (q 7), .ref (q 8), .ref (q 9)])), (q 5, .inl (cI, 40, .inl (upd g ((nI i).toNatClampNeg) 0)))] H := hP
        have hD : va_D A [(q 0, .inr (3, [.int (nI N), .int (nI M), .int (nI E), .ref (q 1), .ref (q 2), .ref (q 3), .ref (q 4), .ref (q 5), .long ac, .int he, .int src, .int snk, .int 0, .int 0, .int 0, .ref (q 6), .ref (q 7), .ref (q 8), .ref (q 9)])), (q 5, .inl (cI, 40, .inl (upd g ((nI i).toNatClampNeg) 0)))] := hD
        rw [nI_clamp (n := i) (by omega)] at hP hD
        have hP : va_P (dC, dI) vwCl [(q 0, .inr (3, [.int (nI N), .int (nI M), .int (nI E), .ref (q 1), .ref (q 2), .ref (q 3), .ref (q 4), .ref (q 5), .long ac, .int he, .int src, .int snk, .int 0, .int 0, .int 0, .ref (q 6), .ref (q 7), .ref (q 8), .ref (q 9)])), (q 5, .inl (cI, 40, .inl (upd g i 0)))] H := hP
        have hD : va_D A [(q 0, .inr (3, [.int (nI N), .int (nI M), .int (nI E), .ref (q 1), .ref (q 2), .ref (q 3), .ref (q 4), .ref (q 5), .long ac, .int he, .int src, .int snk, .int 0, .int 0, .int 0, .ref (q 6), .ref (q 7), .ref (q 8), .ref (q 9)])), (q 5, .inl (cI, 40, .inl (upd g i 0)))] := hD
        refine lv_iinc (v := nI (i + 1)) (lv' := [(1, .int (nI (i + 1))), (0, .ref (q 0))]) hx hb dX3_gone_32 hl (k := 1) rfl (by first | exact nI_1 _ | exact nI_add _ _) (by decide) rfl (fun ls hl => ?_)
        refine lv_goto (tgt := 17) hx hb dX3_gone_35 (by decide) ?_
        exact ih_a (i + 1) (upd g i 0) (by first | assumption | omega | rfl) (fun j hj => by unfold upd; split <;> first | rfl | exact hg j (by omega)) (by omega) _ _ hP hD hS _ (lv_sub hl [1, 0] rfl)
  exact lo_a (E - 0 + 1) 0 fl (by first | assumption | omega | rfl) (fun j hj => hz j (by omega)) (by omega) _ _ hP hD hS _ (lv_sub hl [1, 0] rfl)

theorem fa_m_edge_bad_0 : Cond.constant RX3 63 (1000000) ∈ wsX3_edge := by decide +kernel
theorem fa_m_edge_bad_1 : ∀ w ∈ wsX30, w ∈ wsX3_edge := by decide +kernel
theorem fa_m_edge_bad_2 : Cond.fieldLink RX3 56 "FlowProofsModel" "edges" "I" ∈ wsX3_edge := by decide +kernel
theorem fa_m_edge_bad_3 : Cond.fieldLink RX3 43 "FlowProofsModel" "most" "I" ∈ wsX3_edge := by decide +kernel
theorem fa_m_edge_bad_4 : Cond.fieldLink RX3 64 "FlowProofsModel" "allCapacities" "J" ∈ wsX3_edge := by decide +kernel
theorem fa_m_edge_bad_5 : Cond.constantLong RX3 68 (1073741824) ∈ wsX3_edge := by decide +kernel
set_option maxHeartbeats 4000000 in
set_option maxRecDepth 100000 in
theorem k_m_edge_bad (l : Launch) (dC : Nat → ClassId) (dI : Nat → Nat → Nat) (cI cJ cZ : ClassId) (q : Nat → Nat) (N M E : Nat) (fr to cap uc fl : Nat → Int32) (ct : Nat → Int64) (ta hw wy : Nat → Int32) (ac : Int64) (he src snk sol rd fw : Int32) (a b cp cs : Int32) (hE : E ≤ M) (hM : M ≤ 40) (hN : N ≤ 12) (hac : ac = fp_sum (fun e => (cap e).toInt64) E) (hng : ¬ fq_eg N M E cap a b cp cs) : Met l yX3_edge wsX3_edge ({ frames := 1, cells := 0, slots := 0, locals := 21 }) (va_Pc [.ref (q 0), .int a, .int b, .int cp, .int cs] (fun U => va_P (dC, dI) vwCl [(q 0, .inr (3, [.int (nI N), .int (nI M), .int (nI E), .ref (q 1), .ref (q 2), .ref (q 3), .ref (q 4), .ref (q 5), .long ac, .int he, .int src, .int snk, .int sol, .int rd, .int fw, .ref (q 6), .ref (q 7), .ref (q 8), .ref (q 9)]))] U.heap ∧ va_K (dC, dI) vwCl [(cI, .int), (cJ, .long), (cZ, .boolean)] U)) (vp_Si (fun r => r = -1)) 0 0 (fun _ => False) := by
  refine Met.ofW (cc := cX3_edge) (maxL := 6) (ret := (some .int)) (by decide) rfl ?_
  intro p e s m args below meth c s₁ B hml hv
  obtain ⟨rfl, hP, hK⟩ := hv
  have hx := B.exec
  have hb := B.bytes
  have hr := B.returns
  have hts := atoms_spec (ws := wsX3_edge) B.pre
  have hown : s.vm.findClass RX3 = some m.cls := findClass_of_methodNamed B.named
  have hlocks := B.notSynchronized
  have hP : va_P (dC, dI) vwCl [(q 0, .inr (3, [.int (nI N), .int (nI M), .int (nI E), .ref (q 1), .ref (q 2), .ref (q 3), .ref (q 4), .ref (q 5), .long ac, .int he, .int src, .int snk, .int sol, .int rd, .int fw, .ref (q 6), .ref (q 7), .ref (q 8), .ref (q 9)]))] s.heap := hP
  have hl := lv_entry ([.ref (q 0), .int a, .int b, .int cp, .int cs]) (n := 6) (Nat.le_of_ble_eq_true rfl)
  rw [lg_entry_eq]
  generalize (lg_sl ([.ref (q 0), .int a, .int b, .int cp, .int cs]) ++ List.replicate (6 - (lg_sl ([.ref (q 0), .int a, .int b, .int cp, .int cs])).length) Slot.unset).toArray = ls at hl ⊢
  have hl : lv_has ls 6 [(0, .ref (q 0)), (1, .int a), (2, .int b), (3, .int cp), (4, .int cs)] := hl
  refine lv_aload_n hx hb dX3_edge_0 rfl (lv_at hl 0 rfl) ?_
  refine lv_iload_n hx hb dX3_edge_1 rfl (lv_at hl 1 rfl) ?_
  have hPc := hP.sub (ws' := [(q 0, .inr (3, [.int (nI N), .int (nI M), .int (nI E), .ref (q 1), .ref (q 2), .ref (q 3), .ref (q 4), .ref (q 5), .long ac, .int he, .int src, .int snk, .int sol, .int rd, .int fw, .ref (q 6), .ref (q 7), .ref (q 8), .ref (q 9)]))]) [0] rfl
  refine vp_callSi (W.runV (As := [.int a]) (rest := []) ⟨hx, hb, hml, hown, hts⟩ (k_m_isNode l dC dI cI cJ cZ q N M E fr to cap uc fl ct ta hw wy ac he src snk sol rd fw a) (cwV 1 hts gX3_edge_X3_isNode rfl rfl rfl (by decide +kernel) ⟨Nat.le_of_ble_eq_true rfl, Nat.le_of_ble_eq_true rfl⟩) ⟨fun a U g mk q => by obtain ⟨q0, qP, qK⟩ := q; exact ⟨q0, qP, va_K.moved (u := U) (U := U.calling g mk a) (Vm.Alike.refl U.vm) qK⟩, va_recv hK hP (ci := 3) (q0 := 0) rfl rfl, fun U hU hW => ⟨rfl, by rw [hU]; exact hPc, va_K.moved hW.alike hK⟩⟩ rfl rfl hl.1 rfl (lv_room (Nat.le_of_ble_eq_true rfl)) dX3_edge_2 ⟨Nat.le_of_ble_eq_true rfl, Nat.le_of_ble_eq_true rfl⟩) (fun r_2 hw_2 => ?_)
  subst hw_2
  refine lv_if_eq (tgt := 51) hx hb dX3_edge_5 (by decide) (fun c_5 => ?_) (fun c_5 => ?_)
  · refine lv_iconst (v := 0) hx hb dX3_edge_51 (by decide) ?_
    refine lv_istore (lv' := [(5, .int 0), (0, .ref (q 0)), (1, .int a), (2, .int b), (3, .int cp), (4, .int cs)]) hx hb dX3_edge_52 hl (by decide) rfl (fun ls hl => ?_)
    refine lv_iload hx hb dX3_edge_54 (lv_at hl 0 rfl) ?_
    refine lv_if_eq (tgt := 84) hx hb dX3_edge_56 (by decide) (fun c_56 => ?_) (fun c_56 => ?_)
    · refine lv_iconst (v := (-1)) hx hb dX3_edge_84 (by decide) ?_
      exact W.iret (v := (-1)) hx hb hr (fun t ht _ => ⟨(-1), rfl, rfl, ht⟩) (fun _ h => by cases h) dX3_edge_85
    · exact absurd c_56 (by decide)
  · refine lv_aload_n hx hb dX3_edge_8 rfl (lv_at hl 0 rfl) ?_
    refine lv_iload_n hx hb dX3_edge_9 rfl (lv_at hl 2 rfl) ?_
    have hPc := hP.sub (ws' := [(q 0, .inr (3, [.int (nI N), .int (nI M), .int (nI E), .ref (q 1), .ref (q 2), .ref (q 3), .ref (q 4), .ref (q 5), .long ac, .int he, .int src, .int snk, .int sol, .int rd, .int fw, .ref (q 6), .ref (q 7), .ref (q 8), .ref (q 9)]))]) [0] rfl
    refine vp_callSi (W.runV (As := [.int b]) (rest := []) ⟨hx, hb, hml, hown, hts⟩ (k_m_isNode l dC dI cI cJ cZ q N M E fr to cap uc fl ct ta hw wy ac he src snk sol rd fw b) (cwV 1 hts gX3_edge_X3_isNode rfl rfl rfl (by decide +kernel) ⟨Nat.le_of_ble_eq_true rfl, Nat.le_of_ble_eq_true rfl⟩) ⟨fun a U g mk q => by obtain ⟨q0, qP, qK⟩ := q; exact ⟨q0, qP, va_K.moved (u := U) (U := U.calling g mk a) (Vm.Alike.refl U.vm) qK⟩, va_recv hK hP (ci := 3) (q0 := 0) rfl rfl, fun U hU hW => ⟨rfl, by rw [hU]; exact hPc, va_K.moved hW.alike hK⟩⟩ rfl rfl hl.1 rfl (lv_room (Nat.le_of_ble_eq_true rfl)) dX3_edge_10 ⟨Nat.le_of_ble_eq_true rfl, Nat.le_of_ble_eq_true rfl⟩) (fun r_10 hw_10 => ?_)
    subst hw_10
    refine lv_if_eq (tgt := 51) hx hb dX3_edge_13 (by decide) (fun c_13 => ?_) (fun c_13 => ?_)
    · refine lv_iconst (v := 0) hx hb dX3_edge_51 (by decide) ?_
      refine lv_istore (lv' := [(5, .int 0), (0, .ref (q 0)), (1, .int a), (2, .int b), (3, .int cp), (4, .int cs)]) hx hb dX3_edge_52 hl (by decide) rfl (fun ls hl => ?_)
      refine lv_iload hx hb dX3_edge_54 (lv_at hl 0 rfl) ?_
      refine lv_if_eq (tgt := 84) hx hb dX3_edge_56 (by decide) (fun c_56 => ?_) (fun c_56 => ?_)
      · refine lv_iconst (v := (-1)) hx hb dX3_edge_84 (by decide) ?_
        exact W.iret (v := (-1)) hx hb hr (fun t ht _ => ⟨(-1), rfl, rfl, ht⟩) (fun _ h => by cases h) dX3_edge_85
      · exact absurd c_56 (by decide)
    · refine lv_iload_n hx hb dX3_edge_16 rfl (lv_at hl 1 rfl) ?_
      refine lv_iload_n hx hb dX3_edge_17 rfl (lv_at hl 2 rfl) ?_
      refine lv_icmp_eq (tgt := 51) hx hb dX3_edge_18 (by decide) (fun c_18 => ?_) (fun c_18 => ?_)
      · refine lv_iconst (v := 0) hx hb dX3_edge_51 (by decide) ?_
        refine lv_istore (lv' := [(5, .int 0), (0, .ref (q 0)), (1, .int a), (2, .int b), (3, .int cp), (4, .int cs)]) hx hb dX3_edge_52 hl (by decide) rfl (fun ls hl => ?_)
        refine lv_iload hx hb dX3_edge_54 (lv_at hl 0 rfl) ?_
        refine lv_if_eq (tgt := 84) hx hb dX3_edge_56 (by decide) (fun c_56 => ?_) (fun c_56 => ?_)
        · refine lv_iconst (v := (-1)) hx hb dX3_edge_84 (by decide) ?_
          exact W.iret (v := (-1)) hx hb hr (fun t ht _ => ⟨(-1), rfl, rfl, ht⟩) (fun _ h => by cases h) dX3_edge_85
        · exact absurd c_56 (by decide)
      · refine lv_iload_n hx hb dX3_edge_21 rfl (lv_at hl 3 rfl) ?_
        refine lv_if_lt (tgt := 51) hx hb dX3_edge_22 (by decide) (fun c_22 => ?_) (fun c_22 => ?_)
        · refine lv_iconst (v := 0) hx hb dX3_edge_51 (by decide) ?_
          refine lv_istore (lv' := [(5, .int 0), (0, .ref (q 0)), (1, .int a), (2, .int b), (3, .int cp), (4, .int cs)]) hx hb dX3_edge_52 hl (by decide) rfl (fun ls hl => ?_)
          refine lv_iload hx hb dX3_edge_54 (lv_at hl 0 rfl) ?_
          refine lv_if_eq (tgt := 84) hx hb dX3_edge_56 (by decide) (fun c_56 => ?_) (fun c_56 => ?_)
          · refine lv_iconst (v := (-1)) hx hb dX3_edge_84 (by decide) ?_
            exact W.iret (v := (-1)) hx hb hr (fun t ht _ => ⟨(-1), rfl, rfl, ht⟩) (fun _ h => by cases h) dX3_edge_85
          · exact absurd c_56 (by decide)
        · refine lv_iload_n hx hb dX3_edge_25 rfl (lv_at hl 3 rfl) ?_
          refine lv_ldc (v := 1000000) hx hb hown (hts _ fa_m_edge_bad_0) dX3_edge_26 ?_
          refine lv_icmp_gt (tgt := 51) hx hb dX3_edge_28 (by decide) (fun c_28 => ?_) (fun c_28 => ?_)
          · refine lv_iconst (v := 0) hx hb dX3_edge_51 (by decide) ?_
            refine lv_istore (lv' := [(5, .int 0), (0, .ref (q 0)), (1, .int a), (2, .int b), (3, .int cp), (4, .int cs)]) hx hb dX3_edge_52 hl (by decide) rfl (fun ls hl => ?_)
            refine lv_iload hx hb dX3_edge_54 (lv_at hl 0 rfl) ?_
            refine lv_if_eq (tgt := 84) hx hb dX3_edge_56 (by decide) (fun c_56 => ?_) (fun c_56 => ?_)
            · refine lv_iconst (v := (-1)) hx hb dX3_edge_84 (by decide) ?_
              exact W.iret (v := (-1)) hx hb hr (fun t ht _ => ⟨(-1), rfl, rfl, ht⟩) (fun _ h => by cases h) dX3_edge_85
            · exact absurd c_56 (by decide)
          · refine lv_iload hx hb dX3_edge_31 (lv_at hl 4 rfl) ?_
            refine lv_sipush (v := (-10000)) hx hb dX3_edge_33 (by decide) ?_
            refine lv_icmp_lt (tgt := 51) hx hb dX3_edge_36 (by decide) (fun c_36 => ?_) (fun c_36 => ?_)
            · refine lv_iconst (v := 0) hx hb dX3_edge_51 (by decide) ?_
              refine lv_istore (lv' := [(5, .int 0), (0, .ref (q 0)), (1, .int a), (2, .int b), (3, .int cp), (4, .int cs)]) hx hb dX3_edge_52 hl (by decide) rfl (fun ls hl => ?_)
              refine lv_iload hx hb dX3_edge_54 (lv_at hl 0 rfl) ?_
              refine lv_if_eq (tgt := 84) hx hb dX3_edge_56 (by decide) (fun c_56 => ?_) (fun c_56 => ?_)
              · refine lv_iconst (v := (-1)) hx hb dX3_edge_84 (by decide) ?_
                exact W.iret (v := (-1)) hx hb hr (fun t ht _ => ⟨(-1), rfl, rfl, ht⟩) (fun _ h => by cases h) dX3_edge_85
              · exact absurd c_56 (by decide)
            · refine lv_iload hx hb dX3_edge_39 (lv_at hl 4 rfl) ?_
              refine lv_sipush (v := 10000) hx hb dX3_edge_41 (by decide) ?_
              refine lv_icmp_gt (tgt := 51) hx hb dX3_edge_44 (by decide) (fun c_44 => ?_) (fun c_44 => ?_)
              · refine lv_iconst (v := 0) hx hb dX3_edge_51 (by decide) ?_
                refine lv_istore (lv' := [(5, .int 0), (0, .ref (q 0)), (1, .int a), (2, .int b), (3, .int cp), (4, .int cs)]) hx hb dX3_edge_52 hl (by decide) rfl (fun ls hl => ?_)
                refine lv_iload hx hb dX3_edge_54 (lv_at hl 0 rfl) ?_
                refine lv_if_eq (tgt := 84) hx hb dX3_edge_56 (by decide) (fun c_56 => ?_) (fun c_56 => ?_)
                · refine lv_iconst (v := (-1)) hx hb dX3_edge_84 (by decide) ?_
                  exact W.iret (v := (-1)) hx hb hr (fun t ht _ => ⟨(-1), rfl, rfl, ht⟩) (fun _ h => by cases h) dX3_edge_85
                · exact absurd c_56 (by decide)
              · refine lv_iconst (v := 1) hx hb dX3_edge_47 (by decide) ?_
                refine lv_goto (tgt := 52) hx hb dX3_edge_48 (by decide) ?_
                refine lv_istore (lv' := [(5, .int 1), (0, .ref (q 0)), (1, .int a), (2, .int b), (3, .int cp), (4, .int cs)]) hx hb dX3_edge_52 hl (by decide) rfl (fun ls hl => ?_)
                refine lv_iload hx hb dX3_edge_54 (lv_at hl 0 rfl) ?_
                refine lv_if_eq (tgt := 84) hx hb dX3_edge_56 (by decide) (fun c_56 => ?_) (fun c_56 => ?_)
                · exact absurd c_56 (by decide)
                · refine lv_aload_n hx hb dX3_edge_59 rfl (lv_at hl 1 rfl) ?_
                  refine va_get (D := (dC, dI)) (ci := 3) (v := .int (nI E)) (C := RX3) (T := TX3) (N := 19) hx hb hts fa_m_edge_bad_1 hown hK hP 0 rfl rfl 2 (by decide) (hts _ fa_m_edge_bad_2) (fun _ h9 => h9) rfl dX3_edge_60 ?_
                  refine lv_aload_n hx hb dX3_edge_63 rfl (lv_at hl 1 rfl) ?_
                  refine va_get (D := (dC, dI)) (ci := 3) (v := .int (nI M)) (C := RX3) (T := TX3) (N := 19) hx hb hts fa_m_edge_bad_1 hown hK hP 0 rfl rfl 1 (by decide) (hts _ fa_m_edge_bad_3) (fun _ h9 => h9) rfl dX3_edge_64 ?_
                  refine lv_icmp_eq (tgt := 84) hx hb dX3_edge_67 (by decide) (fun c_67 => ?_) (fun c_67 => ?_)
                  · refine lv_iconst (v := (-1)) hx hb dX3_edge_84 (by decide) ?_
                    exact W.iret (v := (-1)) hx hb hr (fun t ht _ => ⟨(-1), rfl, rfl, ht⟩) (fun _ h => by cases h) dX3_edge_85
                  · refine lv_aload_n hx hb dX3_edge_70 rfl (lv_at hl 1 rfl) ?_
                    refine va_get (D := (dC, dI)) (ci := 3) (v := .long ac) (C := RX3) (T := TX3) (N := 19) hx hb hts fa_m_edge_bad_1 hown hK hP 0 rfl rfl 8 (by decide) (hts _ fa_m_edge_bad_4) (fun _ h9 => h9) rfl dX3_edge_71 ?_
                    refine lv_iload_n hx hb dX3_edge_74 rfl (lv_at hl 4 rfl) ?_
                    refine lv_i2l hx hb dX3_edge_75 rfl ?_
                    refine lv_ladd hx hb dX3_edge_76 ?_
                    refine lv_ldc2 (v := 1073741824) hx hb hown (hts _ fa_m_edge_bad_5) dX3_edge_77 ?_
                    refine W.lcmp hx hb dX3_edge_80 ?_
                    refine lv_if_le (tgt := 86) hx hb dX3_edge_81 (by decide) (fun c_81 => ?_) (fun c_81 => ?_)
                    · exact absurd ⟨hn_in (by omega) (by assumption), hn_in (by omega) (by assumption), c_18, c_22, Int32.not_lt.mp c_28, c_36, Int32.not_lt.mp c_44, (by rw [nI_eq (by omega) (by omega)] at c_67; omega), (by rw [← hac]; exact (lg_cmp_le _ _).mp c_81)⟩ hng
                    · refine lv_iconst (v := (-1)) hx hb dX3_edge_84 (by decide) ?_
                      exact W.iret (v := (-1)) hx hb hr (fun t ht _ => ⟨(-1), rfl, rfl, ht⟩) (fun _ h => by cases h) dX3_edge_85

theorem fa_m_edge_ok_0 : Cond.constant RX3 63 (1000000) ∈ wsX3_edge := by decide +kernel
theorem fa_m_edge_ok_1 : ∀ w ∈ wsX30, w ∈ wsX3_edge := by decide +kernel
theorem fa_m_edge_ok_2 : Cond.fieldLink RX3 56 "FlowProofsModel" "edges" "I" ∈ wsX3_edge := by decide +kernel
theorem fa_m_edge_ok_3 : Cond.fieldLink RX3 43 "FlowProofsModel" "most" "I" ∈ wsX3_edge := by decide +kernel
theorem fa_m_edge_ok_4 : Cond.fieldLink RX3 64 "FlowProofsModel" "allCapacities" "J" ∈ wsX3_edge := by decide +kernel
theorem fa_m_edge_ok_5 : Cond.constantLong RX3 68 (1073741824) ∈ wsX3_edge := by decide +kernel
theorem fa_m_edge_ok_6 : Cond.fieldLink RX3 7 "FlowProofsModel" "froms" "[I" ∈ wsX3_edge := by decide +kernel
theorem fa_m_edge_ok_7 : Cond.fieldLink RX3 13 "FlowProofsModel" "tos" "[I" ∈ wsX3_edge := by decide +kernel
theorem fa_m_edge_ok_8 : Cond.fieldLink RX3 16 "FlowProofsModel" "capacities" "[I" ∈ wsX3_edge := by decide +kernel
theorem fa_m_edge_ok_9 : Cond.fieldLink RX3 19 "FlowProofsModel" "costs" "[I" ∈ wsX3_edge := by decide +kernel
set_option maxHeartbeats 4000000 in
set_option maxRecDepth 100000 in
theorem k_m_edge_ok (l : Launch) (dC : Nat → ClassId) (dI : Nat → Nat → Nat) (cI cJ cZ : ClassId) (q : Nat → Nat) (N M E : Nat) (fr to cap uc fl : Nat → Int32) (ct : Nat → Int64) (ta hw wy : Nat → Int32) (ac : Int64) (he src snk sol rd fw : Int32) (a b cp cs : Int32) (sz : Nat) (hE : E ≤ M) (hM : M ≤ 40) (hN : N ≤ 12) (hac : ac = fp_sum (fun e => (cap e).toInt64) E) (hz : ∀ j, E ≤ j → fl j = 0) (hg : fq_eg N M E cap a b cp cs) : Met l yX3_edge wsX3_edge ({ frames := 1, cells := 0, slots := 0, locals := 21 }) (va_Pc [.ref (q 0), .int a, .int b, .int cp, .int cs] (fun U => U.heap.size = sz ∧ va_P (dC, dI) vwCl [(q 0, .inr (3, [.int (nI N), .int (nI M), .int (nI E), .ref (q 1), .ref (q 2), .ref (q 3), .ref (q 4), .ref (q 5), .long ac, .int he, .int src, .int snk, .int sol, .int rd, .int fw, .ref (q 6), .ref (q 7), .ref (q 8), .ref (q 9)])), (q 1, .inl (cI, 40, .inl fr)), (q 2, .inl (cI, 40, .inl to)), (q 3, .inl (cI, 40, .inl cap)), (q 4, .inl (cI, 40, .inl uc)), (q 5, .inl (cI, 40, .inl fl))] U.heap ∧ va_K (dC, dI) vwCl [(cI, .int), (cJ, .long), (cZ, .boolean)] U ∧ va_D (fun _ => True) [(q 0, .inr (3, [.int (nI N), .int (nI M), .int (nI E), .ref (q 1), .ref (q 2), .ref (q 3), .ref (q 4), .ref (q 5), .long ac, .int he, .int src, .int snk, .int sol, .int rd, .int fw, .ref (q 6), .ref (q 7), .ref (q 8), .ref (q 9)])), (q 1, .inl (cI, 40, .inl fr)), (q 2, .inl (cI, 40, .inl to)), (q 3, .inl (cI, 40, .inl cap)), (q 4, .inl (cI, 40, .inl uc)), (q 5, .inl (cI, 40, .inl fl))])) (va_Qi (fun (r : Int32) (u_ : Unit) => r = nI E) (fun (u_ : Unit) (t : State) => va_P (dC, dI) vwCl [(q 0, .inr (3, [.int (nI N), .int (nI M), .int (nI (E + 1)), .ref (q 1), .ref (q 2), .ref (q 3), .ref (q 4), .ref (q 5), .long (ac + cp.toInt64), .int he, .int src, .int snk, .int 0, .int 0, .int 0, .ref (q 6), .ref (q 7), .ref (q 8), .ref (q 9)])), (q 1, .inl (cI, 40, .inl (upd fr E a))), (q 2, .inl (cI, 40, .inl (upd to E b))), (q 3, .inl (cI, 40, .inl (upd cap E cp))), (q 4, .inl (cI, 40, .inl (upd uc E cs))), (q 5, .inl (cI, 40, .inl (fun _ => 0)))] t.heap ∧ va_K (dC, dI) vwCl [(cI, .int), (cJ, .long), (cZ, .boolean)] t ∧ va_D (va_A [(q 0, .inr (3, [.int (nI N), .int (nI M), .int (nI E), .ref (q 1), .ref (q 2), .ref (q 3), .ref (q 4), .ref (q 5), .long ac, .int he, .int src, .int snk, .int sol, .int rd, .int fw, .ref (q 6), .ref (q 7), .ref (q 8), .ref (q 9)])), (q 1, .inl (cI, 40, .inl fr)), (q 2, .inl (cI, 40, .inl to)), (q 3, .inl (cI, 40, .inl cap)), (q 4, .inl (cI, 40, .inl uc)), (q 5, .inl (cI, 40, .inl fl))] sz) [(q 0, .inr (3, [.int (nI N), .int (nI M), .int (nI (E + 1)), .ref (q 1), .ref (q 2), .ref (q 3), .ref (q 4), .ref (q 5), .long (ac + cp.toInt64), .int he, .int src, .int snk, .int 0, .int 0, .int 0, .ref (q 6), .ref (q 7), .ref (q 8), .ref (q 9)])), (q 1, .inl (cI, 40, .inl (upd fr E a))), (q 2, .inl (cI, 40, .inl (upd to E b))), (q 3, .inl (cI, 40, .inl (upd cap E cp))), (q 4, .inl (cI, 40, .inl (upd uc E cs))), (q 5, .inl (cI, 40, .inl (fun _ => 0)))]) (va_A [(q 0, .inr (3, [.int (nI N), .int (nI M), .int (nI E), .ref (q 1), .ref (q 2), .ref (q 3), .ref (q 4), .ref (q 5), .long ac, .int he, .int src, .int snk, .int sol, .int rd, .int fw, .ref (q 6), .ref (q 7), .ref (q 8), .ref (q 9)])), (q 1, .inl (cI, 40, .inl fr)), (q 2, .inl (cI, 40, .inl to)), (q 3, .inl (cI, 40, .inl cap)), (q 4, .inl (cI, 40, .inl uc)), (q 5, .inl (cI, 40, .inl fl))] sz)) 0 0 (va_A [(q 0, .inr (3, [.int (nI N), .int (nI M), .int (nI E), .ref (q 1), .ref (q 2), .ref (q 3), .ref (q 4), .ref (q 5), .long ac, .int he, .int src, .int snk, .int sol, .int rd, .int fw, .ref (q 6), .ref (q 7), .ref (q 8), .ref (q 9)])), (q 1, .inl (cI, 40, .inl fr)), (q 2, .inl (cI, 40, .inl to)), (q 3, .inl (cI, 40, .inl cap)), (q 4, .inl (cI, 40, .inl uc)), (q 5, .inl (cI, 40, .inl fl))] sz) := by
  refine Met.ofW (cc := cX3_edge) (maxL := 6) (ret := (some .int)) (by decide) rfl ?_
  intro p e s m args below meth c s₁ B hml hv
  obtain ⟨rfl, hsz, hP, hK, hD0⟩ := hv
  have hx := B.exec
  have hb := B.bytes
  have hr := B.returns
  have hts := atoms_spec (ws := wsX3_edge) B.pre
  have hown : s.vm.findClass RX3 = some m.cls := findClass_of_methodNamed B.named
  have hlocks := B.notSynchronized
  subst hsz
  have hD := hD0.self (sz := s.heap.size)
  generalize hAe : va_A [(q 0, .inr (3, [.int (nI N), .int (nI M), .int (nI E), .ref (q 1), .ref (q 2), .ref (q 3), .ref (q 4), .ref (q 5), .long ac, .int he, .int src, .int snk, .int sol, .int rd, .int fw, .ref (q 6), .ref (q 7), .ref (q 8), .ref (q 9)])), (q 1, .inl (cI, 40, .inl fr)), (q 2, .inl (cI, 40, .inl to)), (q 3, .inl (cI, 40, .inl cap)), (q 4, .inl (cI, 40, .inl uc)), (q 5, .inl (cI, 40, .inl fl))] s.heap.size = A at hD ⊢
  have hA : ∀ q : Nat, s.heap.size ≤ q → A q := fun q h => by rw [← hAe]; exact Or.inr h
  have hS : va_S A s.heap s.heap [] := va_S.rf
  have hP : va_P (dC, dI) vwCl [(q 0, .inr (3, [.int (nI N), .int (nI M), .int (nI E), .ref (q 1), .ref (q 2), .ref (q 3), .ref (q 4), .ref (q 5), .long ac, .int he, .int src, .int snk, .int sol, .int rd, .int fw, .ref (q 6), .ref (q 7), .ref (q 8), .ref (q 9)])), (q 1, .inl (cI, 40, .inl fr)), (q 2, .inl (cI, 40, .inl to)), (q 3, .inl (cI, 40, .inl cap)), (q 4, .inl (cI, 40, .inl uc)), (q 5, .inl (cI, 40, .inl fl))] s.heap := hP
  have hl := lv_entry ([.ref (q 0), .int a, .int b, .int cp, .int cs]) (n := 6) (Nat.le_of_ble_eq_true rfl)
  rw [lg_entry_eq]
  generalize (lg_sl ([.ref (q 0), .int a, .int b, .int cp, .int cs]) ++ List.replicate (6 - (lg_sl ([.ref (q 0), .int a, .int b, .int cp, .int cs])).length) Slot.unset).toArray = ls at hl ⊢
  have hl : lv_has ls 6 [(0, .ref (q 0)), (1, .int a), (2, .int b), (3, .int cp), (4, .int cs)] := hl
  have hEM : E < M := hg.2.2.2.2.2.2.2.1
  refine lv_aload_n hx hb dX3_edge_0 rfl (lv_at hl 0 rfl) ?_
  refine lv_iload_n hx hb dX3_edge_1 rfl (lv_at hl 1 rfl) ?_
  have hPc := hP.sub (ws' := [(q 0, .inr (3, [.int (nI N), .int (nI M), .int (nI E), .ref (q 1), .ref (q 2), .ref (q 3), .ref (q 4), .ref (q 5), .long ac, .int he, .int src, .int snk, .int sol, .int rd, .int fw, .ref (q 6), .ref (q 7), .ref (q 8), .ref (q 9)]))]) [0] rfl
  refine vp_callSi (W.runV (As := [.int a]) (rest := []) ⟨hx, hb, hml, hown, hts⟩ (k_m_isNode l dC dI cI cJ cZ q N M E fr to cap uc fl ct ta hw wy ac he src snk sol rd fw a) (cwV 1 hts gX3_edge_X3_isNode rfl rfl rfl (by decide +kernel) ⟨Nat.le_of_ble_eq_true rfl, Nat.le_of_ble_eq_true rfl⟩) ⟨fun a U g mk q => by obtain ⟨q0, qP, qK⟩ := q; exact ⟨q0, qP, va_K.moved (u := U) (U := U.calling g mk a) (Vm.Alike.refl U.vm) qK⟩, va_recv hK hP (ci := 3) (q0 := 0) rfl rfl, fun U hU hW => ⟨rfl, by rw [hU]; exact hPc, va_K.moved hW.alike hK⟩⟩ rfl rfl hl.1 rfl (lv_room (Nat.le_of_ble_eq_true rfl)) dX3_edge_2 ⟨Nat.le_of_ble_eq_true rfl, Nat.le_of_ble_eq_true rfl⟩) (fun r_2 hw_2 => ?_)
  subst hw_2
  refine lv_if_eq (tgt := 51) hx hb dX3_edge_5 (by decide) (fun c_5 => ?_) (fun c_5 => ?_)
  · exact absurd c_5 (hn_c (by omega) hg.1)
  · refine lv_aload_n hx hb dX3_edge_8 rfl (lv_at hl 0 rfl) ?_
    refine lv_iload_n hx hb dX3_edge_9 rfl (lv_at hl 2 rfl) ?_
    have hPc := hP.sub (ws' := [(q 0, .inr (3, [.int (nI N), .int (nI M), .int (nI E), .ref (q 1), .ref (q 2), .ref (q 3), .ref (q 4), .ref (q 5), .long ac, .int he, .int src, .int snk, .int sol, .int rd, .int fw, .ref (q 6), .ref (q 7), .ref (q 8), .ref (q 9)]))]) [0] rfl
    refine vp_callSi (W.runV (As := [.int b]) (rest := []) ⟨hx, hb, hml, hown, hts⟩ (k_m_isNode l dC dI cI cJ cZ q N M E fr to cap uc fl ct ta hw wy ac he src snk sol rd fw b) (cwV 1 hts gX3_edge_X3_isNode rfl rfl rfl (by decide +kernel) ⟨Nat.le_of_ble_eq_true rfl, Nat.le_of_ble_eq_true rfl⟩) ⟨fun a U g mk q => by obtain ⟨q0, qP, qK⟩ := q; exact ⟨q0, qP, va_K.moved (u := U) (U := U.calling g mk a) (Vm.Alike.refl U.vm) qK⟩, va_recv hK hP (ci := 3) (q0 := 0) rfl rfl, fun U hU hW => ⟨rfl, by rw [hU]; exact hPc, va_K.moved hW.alike hK⟩⟩ rfl rfl hl.1 rfl (lv_room (Nat.le_of_ble_eq_true rfl)) dX3_edge_10 ⟨Nat.le_of_ble_eq_true rfl, Nat.le_of_ble_eq_true rfl⟩) (fun r_10 hw_10 => ?_)
    subst hw_10
    refine lv_if_eq (tgt := 51) hx hb dX3_edge_13 (by decide) (fun c_13 => ?_) (fun c_13 => ?_)
    · exact absurd c_13 (hn_c (by omega) hg.2.1)
    · refine lv_iload_n hx hb dX3_edge_16 rfl (lv_at hl 1 rfl) ?_
      refine lv_iload_n hx hb dX3_edge_17 rfl (lv_at hl 2 rfl) ?_
      refine lv_icmp_eq (tgt := 51) hx hb dX3_edge_18 (by decide) (fun c_18 => ?_) (fun c_18 => ?_)
      · exact absurd c_18 hg.2.2.1
      · refine lv_iload_n hx hb dX3_edge_21 rfl (lv_at hl 3 rfl) ?_
        refine lv_if_lt (tgt := 51) hx hb dX3_edge_22 (by decide) (fun c_22 => ?_) (fun c_22 => ?_)
        · exact absurd c_22 hg.2.2.2.1
        · refine lv_iload_n hx hb dX3_edge_25 rfl (lv_at hl 3 rfl) ?_
          refine lv_ldc (v := 1000000) hx hb hown (hts _ fa_m_edge_ok_0) dX3_edge_26 ?_
          refine lv_icmp_gt (tgt := 51) hx hb dX3_edge_28 (by decide) (fun c_28 => ?_) (fun c_28 => ?_)
          · exact absurd c_28 (Int32.not_lt.mpr hg.2.2.2.2.1)
          · refine lv_iload hx hb dX3_edge_31 (lv_at hl 4 rfl) ?_
            refine lv_sipush (v := (-10000)) hx hb dX3_edge_33 (by decide) ?_
            refine lv_icmp_lt (tgt := 51) hx hb dX3_edge_36 (by decide) (fun c_36 => ?_) (fun c_36 => ?_)
            · exact absurd c_36 hg.2.2.2.2.2.1
            · refine lv_iload hx hb dX3_edge_39 (lv_at hl 4 rfl) ?_
              refine lv_sipush (v := 10000) hx hb dX3_edge_41 (by decide) ?_
              refine lv_icmp_gt (tgt := 51) hx hb dX3_edge_44 (by decide) (fun c_44 => ?_) (fun c_44 => ?_)
              · exact absurd c_44 (Int32.not_lt.mpr hg.2.2.2.2.2.2.1)
              · refine lv_iconst (v := 1) hx hb dX3_edge_47 (by decide) ?_
                refine lv_goto (tgt := 52) hx hb dX3_edge_48 (by decide) ?_
                refine lv_istore (lv' := [(5, .int 1), (0, .ref (q 0)), (1, .int a), (2, .int b), (3, .int cp), (4, .int cs)]) hx hb dX3_edge_52 hl (by decide) rfl (fun ls hl => ?_)
                refine lv_iload hx hb dX3_edge_54 (lv_at hl 0 rfl) ?_
                refine lv_if_eq (tgt := 84) hx hb dX3_edge_56 (by decide) (fun c_56 => ?_) (fun c_56 => ?_)
                · exact absurd c_56 (by decide)
                · refine lv_aload_n hx hb dX3_edge_59 rfl (lv_at hl 1 rfl) ?_
                  refine va_get (D := (dC, dI)) (ci := 3) (v := .int (nI E)) (C := RX3) (T := TX3) (N := 19) hx hb hts fa_m_edge_ok_1 hown hK hP 0 rfl rfl 2 (by decide) (hts _ fa_m_edge_ok_2) (fun _ h9 => h9) rfl dX3_edge_60 ?_
                  refine lv_aload_n hx hb dX3_edge_63 rfl (lv_at hl 1 rfl) ?_
                  refine va_get (D := (dC, dI)) (ci := 3) (v := .int (nI M)) (C := RX3) (T := TX3) (N := 19) hx hb hts fa_m_edge_ok_1 hown hK hP 0 rfl rfl 1 (by decide) (hts _ fa_m_edge_ok_3) (fun _ h9 => h9) rfl dX3_edge_64 ?_
                  refine lv_icmp_eq (tgt := 84) hx hb dX3_edge_67 (by decide) (fun c_67 => ?_) (fun c_67 => ?_)
                  · exact absurd c_67 (by rw [nI_eq (by omega) (by omega)]; omega)
                  · refine lv_aload_n hx hb dX3_edge_70 rfl (lv_at hl 1 rfl) ?_
                    refine va_get (D := (dC, dI)) (ci := 3) (v := .long ac) (C := RX3) (T := TX3) (N := 19) hx hb hts fa_m_edge_ok_1 hown hK hP 0 rfl rfl 8 (by decide) (hts _ fa_m_edge_ok_4) (fun _ h9 => h9) rfl dX3_edge_71 ?_
                    refine lv_iload_n hx hb dX3_edge_74 rfl (lv_at hl 4 rfl) ?_
                    refine lv_i2l hx hb dX3_edge_75 rfl ?_
                    refine lv_ladd hx hb dX3_edge_76 ?_
                    refine lv_ldc2 (v := 1073741824) hx hb hown (hts _ fa_m_edge_ok_5) dX3_edge_77 ?_
                    refine W.lcmp hx hb dX3_edge_80 ?_
                    refine lv_if_le (tgt := 86) hx hb dX3_edge_81 (by decide) (fun c_81 => ?_) (fun c_81 => ?_)
                    · refine lv_aload_n hx hb dX3_edge_86 rfl (lv_at hl 1 rfl) ?_
                      refine va_get (D := (dC, dI)) (ci := 3) (v := .ref (q 1)) (C := RX3) (T := TX3) (N := 19) hx hb hts fa_m_edge_ok_1 hown hK hP 0 rfl rfl 3 (by decide) (hts _ fa_m_edge_ok_6) (fun _ h9 => h9) rfl dX3_edge_87 ?_
                      refine lv_aload_n hx hb dX3_edge_90 rfl (lv_at hl 1 rfl) ?_
                      refine va_get (D := (dC, dI)) (ci := 3) (v := .int (nI E)) (C := RX3) (T := TX3) (N := 19) hx hb hts fa_m_edge_ok_1 hown hK hP 0 rfl rfl 2 (by decide) (hts _ fa_m_edge_ok_2) (fun _ h9 => h9) rfl dX3_edge_91 ?_
                      refine lv_iload_n hx hb dX3_edge_94 rfl (lv_at hl 2 rfl) ?_
                      refine va_iast (D := (dC, dI)) hx hb hK hP hD hS 1 0 rfl rfl (by first | assumption | exact vp_in_nI (by omega) (by omega)) dX3_edge_95 (fun H locs hP hD hS => ?_)
                      have hP : va_P (dC, dI) vwCl [(q 0, .inr (3, [.int (nI N), .int (nI M), .int (nI E), .ref (q 1), .ref (q 2), .ref (q 3), .ref (q 4), .ref (q 5), .long ac, .int he, .int src, .int snk, .int sol, .int rd, .int fw, .ref (q 6), .ref (q 7), .ref (q 8), .ref (q 9)])), (q 1, .inl (cI, 40, .inl (upd fr ((nI E).toNatClampNeg) a))), (q 2, .inl (cI, 40, .inl to)), (q 3, .inl (cI, 40, .inl cap)), (q 4, .inl (cI, 40, .inl uc)), (q 5, .inl (cI, 40, .inl fl))] H := hP
                      have hD : va_D A [(q 0, .inr (3, [.int (nI N), .int (nI M), .int (nI E), .ref (q 1), .ref (q 2), .ref (q 3), .ref (q 4), .ref (q 5), .long ac, .int he, .int src, .int snk, .int sol, .int rd, .int fw, .ref (q 6), .ref (q 7), .ref (q 8), .ref (q 9)])), (q 1, .inl (cI, 40, .inl (upd fr ((nI E).toNatClampNeg) a))), (q 2, .inl (cI, 40, .inl to)), (q 3, .inl (cI, 40, .inl cap)), (q 4, .inl (cI, 40, .inl uc)), (q 5, .inl (cI, 40, .inl fl))] := hD
                      rw [nI_clamp (n := E) (by omega)] at hP hD
                      have hP : va_P (dC, dI) vwCl [(q 0, .inr (3, [.int (nI N), .int (nI M), .int (nI E), .ref (q 1), .ref (q 2), .ref (q 3), .ref (q 4), .ref (q 5), .long ac, .int he, .int src, .int snk, .int sol, .int rd, .int fw, .ref (q 6), .ref (q 7), .ref (q 8), .ref (q 9)])), (q 1, .inl (cI, 40, .inl (upd fr E a))), (q 2, .inl (cI, 40, .inl to)), (q 3, .inl (cI, 40, .inl cap)), (q 4, .inl (cI, 40, .inl uc)), (q 5, .inl (cI, 40, .inl fl))] H := hP
                      have hD : va_D A [(q 0, .inr (3, [.int (nI N), .int (nI M), .int (nI E), .ref (q 1), .ref (q 2), .ref (q 3), .ref (q 4), .ref (q 5), .long ac, .int he, .int src, .int snk, .int sol, .int rd, .int fw, .ref (q 6), .ref (q 7), .ref (q 8), .ref (q 9)])), (q 1, .inl (cI, 40, .inl (upd fr E a))), (q 2, .inl (cI, 40, .inl to)), (q 3, .inl (cI, 40, .inl cap)), (q 4, .inl (cI, 40, .inl uc)), (q 5, .inl (cI, 40, .inl fl))] := hD
                      refine lv_aload_n hx hb dX3_edge_96 rfl (lv_at hl 1 rfl) ?_
                      refine va_get (D := (dC, dI)) (ci := 3) (v := .ref (q 2)) (C := RX3) (T := TX3) (N := 19) hx hb hts fa_m_edge_ok_1 hown hK hP 0 rfl rfl 4 (by decide) (hts _ fa_m_edge_ok_7) (fun _ h9 => h9) rfl dX3_edge_97 ?_
                      refine lv_aload_n hx hb dX3_edge_100 rfl (lv_at hl 1 rfl) ?_
                      refine va_get (D := (dC, dI)) (ci := 3) (v := .int (nI E)) (C := RX3) (T := TX3) (N := 19) hx hb hts fa_m_edge_ok_1 hown hK hP 0 rfl rfl 2 (by decide) (hts _ fa_m_edge_ok_2) (fun _ h9 => h9) rfl dX3_edge_101 ?_
                      refine lv_iload_n hx hb dX3_edge_104 rfl (lv_at hl 3 rfl) ?_
                      refine va_iast (D := (dC, dI)) hx hb hK hP hD hS 2 0 rfl rfl (by first | assumption | exact vp_in_nI (by omega) (by omega)) dX3_edge_105 (fun H locs hP hD hS => ?_)
                      have hP : va_P (dC, dI) vwCl [(q 0, .inr (3, [.int (nI N), .int (nI M), .int (nI E), .ref (q 1), .ref (q 2), .ref (q 3), .ref (q 4), .ref (q 5), .long ac, .int he, .int src, .int snk, .int sol, .int rd, .int fw, .ref (q 6), .ref (q 7), .ref (q 8), .ref (q 9)])), (q 1, .inl (cI, 40, .inl (upd fr E a))), (q 2, .inl (cI, 40, .inl (upd to ((nI E).toNatClampNeg) b))), (q 3, .inl (cI, 40, .inl cap)), (q 4, .inl (cI, 40, .inl uc)), (q 5, .inl (cI, 40, .inl fl))] H := hP
                      have hD : va_D A [(q 0, .inr (3, [.int (nI N), .int (nI M), .int (nI E), .ref (q 1), .ref (q 2), .ref (q 3), .ref (q 4), .ref (q 5), .long ac, .int he, .int src, .int snk, .int sol, .int rd, .int fw, .ref (q 6), .ref (q 7), .ref (q 8), .ref (q 9)])), (q 1, .inl (cI, 40, .inl (upd fr E a))), (q 2, .inl (cI, 40, .inl (upd to ((nI E).toNatClampNeg) b))), (q 3, .inl (cI, 40, .inl cap)), (q 4, .inl (cI, 40, .inl uc)), (q 5, .inl (cI, 40, .inl fl))] := hD
                      rw [nI_clamp (n := E) (by omega)] at hP hD
                      have hP : va_P (dC, dI) vwCl [(q 0, .inr (3, [.int (nI N), .int (nI M), .int (nI E), .ref (q 1), .ref (q 2), .ref (q 3), .ref (q 4), .ref (q 5), .long ac, .int he, .int src, .int snk, .int sol, .int rd, .int fw, .ref (q 6), .ref (q 7), .ref (q 8), .ref (q 9)])), (q 1, .inl (cI, 40, .inl (upd fr E a))), (q 2, .inl (cI, 40, .inl (upd to E b))), (q 3, .inl (cI, 40, .inl cap)), (q 4, .inl (cI, 40, .inl uc)), (q 5, .inl (cI, 40, .inl fl))] H := hP
                      have hD : va_D A [(q 0, .inr (3, [.int (nI N), .int (nI M), .int (nI E), .ref (q 1), .ref (q 2), .ref (q 3), .ref (q 4), .ref (q 5), .long ac, .int he, .int src, .int snk, .int sol, .int rd, .int fw, .ref (q 6), .ref (q 7), .ref (q 8), .ref (q 9)])), (q 1, .inl (cI, 40, .inl (upd fr E a))), (q 2, .inl (cI, 40, .inl (upd to E b))), (q 3, .inl (cI, 40, .inl cap)), (q 4, .inl (cI, 40, .inl uc)), (q 5, .inl (cI, 40, .inl fl))] := hD
                      refine lv_aload_n hx hb dX3_edge_106 rfl (lv_at hl 1 rfl) ?_
                      refine va_get (D := (dC, dI)) (ci := 3) (v := .ref (q 3)) (C := RX3) (T := TX3) (N := 19) hx hb hts fa_m_edge_ok_1 hown hK hP 0 rfl rfl 5 (by decide) (hts _ fa_m_edge_ok_8) (fun _ h9 => h9) rfl dX3_edge_107 ?_
                      refine lv_aload_n hx hb dX3_edge_110 rfl (lv_at hl 1 rfl) ?_
                      refine va_get (D := (dC, dI)) (ci := 3) (v := .int (nI E)) (C := RX3) (T := TX3) (N := 19) hx hb hts fa_m_edge_ok_1 hown hK hP 0 rfl rfl 2 (by decide) (hts _ fa_m_edge_ok_2) (fun _ h9 => h9) rfl dX3_edge_111 ?_
                      refine lv_iload_n hx hb dX3_edge_114 rfl (lv_at hl 4 rfl) ?_
                      refine va_iast (D := (dC, dI)) hx hb hK hP hD hS 3 0 rfl rfl (by first | assumption | exact vp_in_nI (by omega) (by omega)) dX3_edge_115 (fun H locs hP hD hS => ?_)
                      have hP : va_P (dC, dI) vwCl [(q 0, .inr (3, [.int (nI N), .int (nI M), .int (nI E), .ref (q 1), .ref (q 2), .ref (q 3), .ref (q 4), .ref (q 5), .long ac, .int he, .int src, .int snk, .int sol, .int rd, .int fw, .ref (q 6), .ref (q 7), .ref (q 8), .ref (q 9)])), (q 1, .inl (cI, 40, .inl (upd fr E a))), (q 2, .inl (cI, 40, .inl (upd to E b))), (q 3, .inl (cI, 40, .inl (upd cap ((nI E).toNatClampNeg) cp))), (q 4, .inl (cI, 40, .inl uc)), (q 5, .inl (cI, 40, .inl fl))] H := hP
                      have hD : va_D A [(q 0, .inr (3, [.int (nI N), .int (nI M), .int (nI E), .ref (q 1), .ref (q 2), .ref (q 3), .ref (q 4), .ref (q 5), .long ac, .int he, .int src, .int snk, .int sol, .int rd, .int fw, .ref (q 6), .ref (q 7), .ref (q 8), .ref (q 9)])), (q 1, .inl (cI, 40, .inl (upd fr E a))), (q 2, .inl (cI, 40, .inl (upd to E b))), (q 3, .inl (cI, 40, .inl (upd cap ((nI E).toNatClampNeg) cp))), (q 4, .inl (cI, 40, .inl uc)), (q 5, .inl (cI, 40, .inl fl))] := hD
                      rw [nI_clamp (n := E) (by omega)] at hP hD
                      have hP : va_P (dC, dI) vwCl [(q 0, .inr (3, [.int (nI N), .int (nI M), .int (nI E), .ref (q 1), .ref (q 2), .ref (q 3), .ref (q 4), .ref (q 5), .long ac, .int he, .int src, .int snk, .int sol, .int rd, .int fw, .ref (q 6), .ref (q 7), .ref (q 8), .ref (q 9)])), (q 1, .inl (cI, 40, .inl (upd fr E a))), (q 2, .inl (cI, 40, .inl (upd to E b))), (q 3, .inl (cI, 40, .inl (upd cap E cp))), (q 4, .inl (cI, 40, .inl uc)), (q 5, .inl (cI, 40, .inl fl))] H := hP
                      have hD : va_D A [(q 0, .inr (3, [.int (nI N), .int (nI M), .int (nI E), .ref (q 1), .ref (q 2), .ref (q 3), .ref (q 4), .ref (q 5), .long ac, .int he, .int src, .int snk, .int sol, .int rd, .int fw, .ref (q 6), .ref (q 7), .ref (q 8), .ref (q 9)])), (q 1, .inl (cI, 40, .inl (upd fr E a))), (q 2, .inl (cI, 40, .inl (upd to E b))), (q 3, .inl (cI, 40, .inl (upd cap E cp))), (q 4, .inl (cI, 40, .inl uc)), (q 5, .inl (cI, 40, .inl fl))] := hD
                      refine lv_aload_n hx hb dX3_edge_116 rfl (lv_at hl 1 rfl) ?_
                      refine va_get (D := (dC, dI)) (ci := 3) (v := .ref (q 4)) (C := RX3) (T := TX3) (N := 19) hx hb hts fa_m_edge_ok_1 hown hK hP 0 rfl rfl 6 (by decide) (hts _ fa_m_edge_ok_9) (fun _ h9 => h9) rfl dX3_edge_117 ?_
                      refine lv_aload_n hx hb dX3_edge_120 rfl (lv_at hl 1 rfl) ?_
                      refine va_get (D := (dC, dI)) (ci := 3) (v := .int (nI E)) (C := RX3) (T := TX3) (N := 19) hx hb hts fa_m_edge_ok_1 hown hK hP 0 rfl rfl 2 (by decide) (hts _ fa_m_edge_ok_2) (fun _ h9 => h9) rfl dX3_edge_121 ?_
                      refine lv_iload hx hb dX3_edge_124 (lv_at hl 5 rfl) ?_
                      refine va_iast (D := (dC, dI)) hx hb hK hP hD hS 4 0 rfl rfl (by first | assumption | exact vp_in_nI (by omega) (by omega)) dX3_edge_126 (fun H locs hP hD hS => ?_)
                      have hP : va_P (dC, dI) vwCl [(q 0, .inr (3, [.int (nI N), .int (nI M), .int (nI E), .ref (q 1), .ref (q 2), .ref (q 3), .ref (q 4), .ref (q 5), .long ac, .int he, .int src, .int snk, .int sol, .int rd, .int fw, .ref (q 6), .ref (q 7), .ref (q 8), .ref (q 9)])), (q 1, .inl (cI, 40, .inl (upd fr E a))), (q 2, .inl (cI, 40, .inl (upd to E b))), (q 3, .inl (cI, 40, .inl (upd cap E cp))), (q 4, .inl (cI, 40, .inl (upd uc ((nI E).toNatClampNeg) cs))), (q 5, .inl (cI, 40, .inl fl))] H := hP
                      have hD : va_D A [(q 0, .inr (3, [.int (nI N), .int (nI M), .int (nI E), .ref (q 1), .ref (q 2), .ref (q 3), .ref (q 4), .ref (q 5), .long ac, .int he, .int src, .int snk, .int sol, .int rd, .int fw, .ref (q 6), .ref (q 7), .ref (q 8), .ref (q 9)])), (q 1, .inl (cI, 40, .inl (upd fr E a))), (q 2, .inl (cI, 40, .inl (upd to E b))), (q 3, .inl (cI, 40, .inl (upd cap E cp))), (q 4, .inl (cI, 40, .inl (upd uc ((nI E).toNatClampNeg) cs))), (q 5, .inl (cI, 40, .inl fl))] := hD
                      rw [nI_clamp (n := E) (by omega)] at hP hD
                      have hP : va_P (dC, dI) vwCl [(q 0, .inr (3, [.int (nI N), .int (nI M), .int (nI E), .ref (q 1), .ref (q 2), .ref (q 3), .ref (q 4), .ref (q 5), .long ac, .int he, .int src, .int snk, .int sol, .int rd, .int fw, .ref (q 6), .ref (q 7), .ref (q 8), .ref (q 9)])), (q 1, .inl (cI, 40, .inl (upd fr E a))), (q 2, .inl (cI, 40, .inl (upd to E b))), (q 3, .inl (cI, 40, .inl (upd cap E cp))), (q 4, .inl (cI, 40, .inl (upd uc E cs))), (q 5, .inl (cI, 40, .inl fl))] H := hP
                      have hD : va_D A [(q 0, .inr (3, [.int (nI N), .int (nI M), .int (nI E), .ref (q 1), .ref (q 2), .ref (q 3), .ref (q 4), .ref (q 5), .long ac, .int he, .int src, .int snk, .int sol, .int rd, .int fw, .ref (q 6), .ref (q 7), .ref (q 8), .ref (q 9)])), (q 1, .inl (cI, 40, .inl (upd fr E a))), (q 2, .inl (cI, 40, .inl (upd to E b))), (q 3, .inl (cI, 40, .inl (upd cap E cp))), (q 4, .inl (cI, 40, .inl (upd uc E cs))), (q 5, .inl (cI, 40, .inl fl))] := hD
                      refine lv_aload_n hx hb dX3_edge_127 rfl (lv_at hl 1 rfl) ?_
                      refine lv_dup hx hb dX3_edge_128 rfl ?_
                      refine va_get (D := (dC, dI)) (ci := 3) (v := .long ac) (C := RX3) (T := TX3) (N := 19) hx hb hts fa_m_edge_ok_1 hown hK hP 0 rfl rfl 8 (by decide) (hts _ fa_m_edge_ok_4) (fun _ h9 => h9) rfl dX3_edge_129 ?_
                      refine lv_iload_n hx hb dX3_edge_132 rfl (lv_at hl 4 rfl) ?_
                      refine lv_i2l hx hb dX3_edge_133 rfl ?_
                      refine lv_ladd hx hb dX3_edge_134 ?_
                      refine va_put (D := (dC, dI)) (ci := 3) (v := .long (ac + cp.toInt64)) (ty := .long) (C := RX3) (T := TX3) (N := 19) hx hb hts fa_m_edge_ok_1 tyX3 tyX3_ok nmX3 hown hK hP hD hS 0 rfl rfl 8 (by decide) (hts _ fa_m_edge_ok_4) (fun _ h9 => h9) rfl (by decide +kernel) rfl rfl (Nat.le_of_ble_eq_true rfl) dX3_edge_135 (fun H locs hP hD hS => ?_)
                      have hP : va_P (dC, dI) vwCl [(q 0, .inr (3, [.int (nI N), .int (nI M), .int (nI E), .ref (q 1), .ref (q 2), .ref (q 3), .ref (q 4), .ref (q 5), .long (ac + cp.toInt64), .int he, .int src, .int snk, .int sol, .int rd, .int fw, .ref (q 6), .ref (q 7), .ref (q 8), .ref (q 9)])), (q 1, .inl (cI, 40, .inl (upd fr E a))), (q 2, .inl (cI, 40, .inl (upd to E b))), (q 3, .inl (cI, 40, .inl (upd cap E cp))), (q 4, .inl (cI, 40, .inl (upd uc E cs))), (q 5, .inl (cI, 40, .inl fl))] H := hP
                      have hD : va_D A [(q 0, .inr (3, [.int (nI N), .int (nI M), .int (nI E), .ref (q 1), .ref (q 2), .ref (q 3), .ref (q 4), .ref (q 5), .long (ac + cp.toInt64), .int he, .int src, .int snk, .int sol, .int rd, .int fw, .ref (q 6), .ref (q 7), .ref (q 8), .ref (q 9)])), (q 1, .inl (cI, 40, .inl (upd fr E a))), (q 2, .inl (cI, 40, .inl (upd to E b))), (q 3, .inl (cI, 40, .inl (upd cap E cp))), (q 4, .inl (cI, 40, .inl (upd uc E cs))), (q 5, .inl (cI, 40, .inl fl))] := hD
                      refine lv_aload_n hx hb dX3_edge_138 rfl (lv_at hl 1 rfl) ?_
                      refine lv_dup hx hb dX3_edge_139 rfl ?_
                      refine va_get (D := (dC, dI)) (ci := 3) (v := .int (nI E)) (C := RX3) (T := TX3) (N := 19) hx hb hts fa_m_edge_ok_1 hown hK hP 0 rfl rfl 2 (by decide) (hts _ fa_m_edge_ok_2) (fun _ h9 => h9) rfl dX3_edge_140 ?_
                      refine lv_iconst (v := 1) hx hb dX3_edge_143 (by decide) ?_
                      refine lv_iadd hx hb dX3_edge_144 ?_
                      refine tp_i (y := nI (E + 1)) (nI_1 E) ?_
                      refine va_put (D := (dC, dI)) (ci := 3) (v := .int (nI (E + 1))) (ty := .int) (C := RX3) (T := TX3) (N := 19) hx hb hts fa_m_edge_ok_1 tyX3 tyX3_ok nmX3 hown hK hP hD hS 0 rfl rfl 2 (by decide) (hts _ fa_m_edge_ok_2) (fun _ h9 => h9) rfl (by decide +kernel) rfl rfl (Nat.le_of_ble_eq_true rfl) dX3_edge_145 (fun H locs hP hD hS => ?_)
                      have hP : va_P (dC, dI) vwCl [(q 0, .inr (3, [.int (nI N), .int (nI M), .int (nI (E + 1)), .ref (q 1), .ref (q 2), .ref (q 3), .ref (q 4), .ref (q 5), .long (ac + cp.toInt64), .int he, .int src, .int snk, .int sol, .int rd, .int fw, .ref (q 6), .ref (q 7), .ref (q 8), .ref (q 9)])), (q 1, .inl (cI, 40, .inl (upd fr E a))), (q 2, .inl (cI, 40, .inl (upd to E b))), (q 3, .inl (cI, 40, .inl (upd cap E cp))), (q 4, .inl (cI, 40, .inl (upd uc E cs))), (q 5, .inl (cI, 40, .inl fl))] H := hP
                      have hD : va_D A [(q 0, .inr (3, [.int (nI N), .int (nI M), .int (nI (E + 1)), .ref (q 1), .ref (q 2), .ref (q 3), .ref (q 4), .ref (q 5), .long (ac + cp.toInt64), .int he, .int src, .int snk, .int sol, .int rd, .int fw, .ref (q 6), .ref (q 7), .ref (q 8), .ref (q 9)])), (q 1, .inl (cI, 40, .inl (upd fr E a))), (q 2, .inl (cI, 40, .inl (upd to E b))), (q 3, .inl (cI, 40, .inl (upd cap E cp))), (q 4, .inl (cI, 40, .inl (upd uc E cs))), (q 5, .inl (cI, 40, .inl fl))] := hD
                      refine lv_aload_n hx hb dX3_edge_148 rfl (lv_at hl 1 rfl) ?_
                      have hPc := hP.sub (ws' := [(q 0, .inr (3, [.int (nI N), .int (nI M), .int (nI (E + 1)), .ref (q 1), .ref (q 2), .ref (q 3), .ref (q 4), .ref (q 5), .long (ac + cp.toInt64), .int he, .int src, .int snk, .int sol, .int rd, .int fw, .ref (q 6), .ref (q 7), .ref (q 8), .ref (q 9)])), (q 5, .inl (cI, 40, .inl fl))]) [0, 5] rfl
                      have hDc := hD.sub (ws' := [(q 0, .inr (3, [.int (nI N), .int (nI M), .int (nI (E + 1)), .ref (q 1), .ref (q 2), .ref (q 3), .ref (q 4), .ref (q 5), .long (ac + cp.toInt64), .int he, .int src, .int snk, .int sol, .int rd, .int fw, .ref (q 6), .ref (q 7), .ref (q 8), .ref (q 9)])), (q 5, .inl (cI, 40, .inl fl))]) [0, 5] (by decide) rfl
                      have hFc := va_free (wc := [(q 0, .inr (3, [.int (nI N), .int (nI M), .int (nI (E + 1)), .ref (q 1), .ref (q 2), .ref (q 3), .ref (q 4), .ref (q 5), .long (ac + cp.toInt64), .int he, .int src, .int snk, .int sol, .int rd, .int fw, .ref (q 6), .ref (q 7), .ref (q 8), .ref (q 9)])), (q 5, .inl (cI, 40, .inl fl))]) hD hS hA [0, 5] rfl
                      refine va_callv (va_runV (As := []) (rest := []) ⟨hx, hb, hml, hown, hts⟩ (k_m_gone l dC dI cI cJ cZ q N M (E + 1) fr to cap uc fl ct ta hw wy (ac + cp.toInt64) he src snk sol rd fw H.size (by omega) hM hN (fun j hj => hz j (by omega))) (cwV 0 hts gX3_edge_X3_gone rfl rfl rfl (by decide +kernel) ⟨Nat.le_of_ble_eq_true rfl, Nat.le_of_ble_eq_true rfl⟩) ⟨fun a U g mk q => by obtain ⟨q0, q1, qP, qK, qD⟩ := q; exact ⟨q0, q1, qP, va_K.moved (u := U) (U := U.calling g mk a) (Vm.Alike.refl U.vm) qK, qD⟩, va_recv hK hP (ci := 3) (q0 := 0) rfl rfl, fun U hU hW => ⟨rfl, by rw [hU], by rw [hU]; exact hPc, va_K.moved hW.alike hK, hDc.weaken (fun _ _ _ _ => trivial)⟩⟩ rfl rfl hl.1 rfl (lv_room (Nat.le_of_ble_eq_true rfl)) dX3_edge_149 ⟨Nat.le_of_ble_eq_true rfl, Nat.le_of_ble_eq_true rfl⟩) hS (fun q _ h => hFc q h) hFc (fun u t H1 locs ht hvm hw_149 hB hz1 hk1 hS => ?_)
                      obtain ⟨hP1, hK1, hD1⟩ := hB
                      rw [ht] at hP1
                      obtain ⟨hP, hD⟩ := va_join (wr := [(q 1, .inl (cI, 40, .inl (upd fr E a))), (q 2, .inl (cI, 40, .inl (upd to E b))), (q 3, .inl (cI, 40, .inl (upd cap E cp))), (q 4, .inl (cI, 40, .inl (upd uc E cs)))]) (w1 := [(q 0, .inr (3, [.int (nI N), .int (nI M), .int (nI (E + 1)), .ref (q 1), .ref (q 2), .ref (q 3), .ref (q 4), .ref (q 5), .long (ac + cp.toInt64), .int he, .int src, .int snk, .int 0, .int 0, .int 0, .ref (q 6), .ref (q 7), .ref (q 8), .ref (q 9)])), (q 5, .inl (cI, 40, .inl (fun _ => 0)))]) hP hD [0, 5] [1, 2, 3, 4] rfl rfl (by decide) (by decide) hk1 hFc hP1 hD1
                      generalize H1 = H at hP hS ⊢
                      have hP := hP.sub (ws' := [(q 0, .inr (3, [.int (nI N), .int (nI M), .int (nI (E + 1)), .ref (q 1), .ref (q 2), .ref (q 3), .ref (q 4), .ref (q 5), .long (ac + cp.toInt64), .int he, .int src, .int snk, .int 0, .int 0, .int 0, .ref (q 6), .ref (q 7), .ref (q 8), .ref (q 9)])), (q 1, .inl (cI, 40, .inl (upd fr E a))), (q 2, .inl (cI, 40, .inl (upd to E b))), (q 3, .inl (cI, 40, .inl (upd cap E cp))), (q 4, .inl (cI, 40, .inl (upd uc E cs))), (q 5, .inl (cI, 40, .inl (fun _ => 0)))]) [4, 0, 1, 2, 3, 5] rfl
                      have hD := hD.sub (ws' := [(q 0, .inr (3, [.int (nI N), .int (nI M), .int (nI (E + 1)), .ref (q 1), .ref (q 2), .ref (q 3), .ref (q 4), .ref (q 5), .long (ac + cp.toInt64), .int he, .int src, .int snk, .int 0, .int 0, .int 0, .ref (q 6), .ref (q 7), .ref (q 8), .ref (q 9)])), (q 1, .inl (cI, 40, .inl (upd fr E a))), (q 2, .inl (cI, 40, .inl (upd to E b))), (q 3, .inl (cI, 40, .inl (upd cap E cp))), (q 4, .inl (cI, 40, .inl (upd uc E cs))), (q 5, .inl (cI, 40, .inl (fun _ => 0)))]) [4, 0, 1, 2, 3, 5] (by decide) rfl
                      refine lv_aload_n hx hb dX3_edge_152 rfl (lv_at hl 1 rfl) ?_
                      refine va_get (D := (dC, dI)) (ci := 3) (v := .int (nI (E + 1))) (C := RX3) (T := TX3) (N := 19) hx hb hts fa_m_edge_ok_1 hown hK hP 0 rfl rfl 2 (by decide) (hts _ fa_m_edge_ok_2) (fun _ h9 => h9) rfl dX3_edge_153 ?_
                      refine lv_iconst (v := 1) hx hb dX3_edge_156 (by decide) ?_
                      refine lv_isub hx hb dX3_edge_157 ?_
                      refine tp_i (y := nI E) (nI_pred E) ?_
                      have hP9 := hP.sub (ws' := [(q 0, .inr (3, [.int (nI N), .int (nI M), .int (nI (E + 1)), .ref (q 1), .ref (q 2), .ref (q 3), .ref (q 4), .ref (q 5), .long (ac + cp.toInt64), .int he, .int src, .int snk, .int 0, .int 0, .int 0, .ref (q 6), .ref (q 7), .ref (q 8), .ref (q 9)])), (q 1, .inl (cI, 40, .inl (upd fr E a))), (q 2, .inl (cI, 40, .inl (upd to E b))), (q 3, .inl (cI, 40, .inl (upd cap E cp))), (q 4, .inl (cI, 40, .inl (upd uc E cs))), (q 5, .inl (cI, 40, .inl (fun _ => 0)))]) [0, 1, 2, 3, 4, 5] rfl
                      have hD9 := hD.sub (ws' := [(q 0, .inr (3, [.int (nI N), .int (nI M), .int (nI (E + 1)), .ref (q 1), .ref (q 2), .ref (q 3), .ref (q 4), .ref (q 5), .long (ac + cp.toInt64), .int he, .int src, .int snk, .int 0, .int 0, .int 0, .ref (q 6), .ref (q 7), .ref (q 8), .ref (q 9)])), (q 1, .inl (cI, 40, .inl (upd fr E a))), (q 2, .inl (cI, 40, .inl (upd to E b))), (q 3, .inl (cI, 40, .inl (upd cap E cp))), (q 4, .inl (cI, 40, .inl (upd uc E cs))), (q 5, .inl (cI, 40, .inl (fun _ => 0)))]) [0, 1, 2, 3, 4, 5] (by decide) rfl
                      exact W.iret (v := (nI E)) hx hb hr (fun t ht hW => ⟨⟨(nI E), (), rfl, rfl, by rw [ht]; exact hP9, va_K.moved hW.alike hK, hD9⟩, hS.F ht⟩) hS.2.2 dX3_edge_158
                    · exact absurd ((lg_cmp_le _ _).mpr (by rw [hac]; exact hg.2.2.2.2.2.2.2.2)) c_81

set_option maxHeartbeats 4000000 in
set_option maxRecDepth 100000 in
theorem k_m_ends_bad (l : Launch) (dC : Nat → ClassId) (dI : Nat → Nat → Nat) (cI cJ cZ : ClassId) (q : Nat → Nat) (N M E : Nat) (fr to cap uc fl : Nat → Int32) (ct : Nat → Int64) (ta hw wy : Nat → Int32) (ac : Int64) (he src snk sol rd fw : Int32) (a b : Int32) (hE : E ≤ M) (hM : M ≤ 40) (hN : N ≤ 12) (hng : ¬ fq_nf N a b) : Met l yX3_ends wsX3_ends ({ frames := 1, cells := 0, slots := 0, locals := 21 }) (va_Pc [.ref (q 0), .int a, .int b] (fun U => va_P (dC, dI) vwCl [(q 0, .inr (3, [.int (nI N), .int (nI M), .int (nI E), .ref (q 1), .ref (q 2), .ref (q 3), .ref (q 4), .ref (q 5), .long ac, .int he, .int src, .int snk, .int sol, .int rd, .int fw, .ref (q 6), .ref (q 7), .ref (q 8), .ref (q 9)]))] U.heap ∧ va_K (dC, dI) vwCl [(cI, .int), (cJ, .long), (cZ, .boolean)] U)) (vp_Si (fun r => r = 0)) 0 0 (fun _ => False) := by
  refine Met.ofW (cc := cX3_ends) (maxL := 3) (ret := (some .boolean)) (by decide) rfl ?_
  intro p e s m args below meth c s₁ B hml hv
  obtain ⟨rfl, hP, hK⟩ := hv
  have hx := B.exec
  have hb := B.bytes
  have hr := B.returns
  have hts := atoms_spec (ws := wsX3_ends) B.pre
  have hown : s.vm.findClass RX3 = some m.cls := findClass_of_methodNamed B.named
  have hlocks := B.notSynchronized
  have hP : va_P (dC, dI) vwCl [(q 0, .inr (3, [.int (nI N), .int (nI M), .int (nI E), .ref (q 1), .ref (q 2), .ref (q 3), .ref (q 4), .ref (q 5), .long ac, .int he, .int src, .int snk, .int sol, .int rd, .int fw, .ref (q 6), .ref (q 7), .ref (q 8), .ref (q 9)]))] s.heap := hP
  have hl := lv_entry ([.ref (q 0), .int a, .int b]) (n := 3) (Nat.le_of_ble_eq_true rfl)
  rw [lg_entry_eq]
  generalize (lg_sl ([.ref (q 0), .int a, .int b]) ++ List.replicate (3 - (lg_sl ([.ref (q 0), .int a, .int b])).length) Slot.unset).toArray = ls at hl ⊢
  have hl : lv_has ls 3 [(0, .ref (q 0)), (1, .int a), (2, .int b)] := hl
  refine lv_aload_n hx hb dX3_ends_0 rfl (lv_at hl 0 rfl) ?_
  refine lv_iload_n hx hb dX3_ends_1 rfl (lv_at hl 1 rfl) ?_
  have hPc := hP.sub (ws' := [(q 0, .inr (3, [.int (nI N), .int (nI M), .int (nI E), .ref (q 1), .ref (q 2), .ref (q 3), .ref (q 4), .ref (q 5), .long ac, .int he, .int src, .int snk, .int sol, .int rd, .int fw, .ref (q 6), .ref (q 7), .ref (q 8), .ref (q 9)]))]) [0] rfl
  refine vp_callSi (W.runV (As := [.int a]) (rest := []) ⟨hx, hb, hml, hown, hts⟩ (k_m_isNode l dC dI cI cJ cZ q N M E fr to cap uc fl ct ta hw wy ac he src snk sol rd fw a) (cwV 1 hts gX3_ends_X3_isNode rfl rfl rfl (by decide +kernel) ⟨Nat.le_of_ble_eq_true rfl, Nat.le_of_ble_eq_true rfl⟩) ⟨fun a U g mk q => by obtain ⟨q0, qP, qK⟩ := q; exact ⟨q0, qP, va_K.moved (u := U) (U := U.calling g mk a) (Vm.Alike.refl U.vm) qK⟩, va_recv hK hP (ci := 3) (q0 := 0) rfl rfl, fun U hU hW => ⟨rfl, by rw [hU]; exact hPc, va_K.moved hW.alike hK⟩⟩ rfl rfl hl.1 rfl (lv_room (Nat.le_of_ble_eq_true rfl)) dX3_ends_2 ⟨Nat.le_of_ble_eq_true rfl, Nat.le_of_ble_eq_true rfl⟩) (fun r_2 hw_2 => ?_)
  subst hw_2
  refine lv_if_eq (tgt := 21) hx hb dX3_ends_5 (by decide) (fun c_5 => ?_) (fun c_5 => ?_)
  · refine lv_iconst (v := 0) hx hb dX3_ends_21 (by decide) ?_
    exact W.zret (v := 0) hx hb hr rfl (fun t ht _ => ⟨0, rfl, rfl, ht⟩) (fun _ h => by cases h) dX3_ends_22
  · refine lv_aload_n hx hb dX3_ends_8 rfl (lv_at hl 0 rfl) ?_
    refine lv_iload_n hx hb dX3_ends_9 rfl (lv_at hl 2 rfl) ?_
    have hPc := hP.sub (ws' := [(q 0, .inr (3, [.int (nI N), .int (nI M), .int (nI E), .ref (q 1), .ref (q 2), .ref (q 3), .ref (q 4), .ref (q 5), .long ac, .int he, .int src, .int snk, .int sol, .int rd, .int fw, .ref (q 6), .ref (q 7), .ref (q 8), .ref (q 9)]))]) [0] rfl
    refine vp_callSi (W.runV (As := [.int b]) (rest := []) ⟨hx, hb, hml, hown, hts⟩ (k_m_isNode l dC dI cI cJ cZ q N M E fr to cap uc fl ct ta hw wy ac he src snk sol rd fw b) (cwV 1 hts gX3_ends_X3_isNode rfl rfl rfl (by decide +kernel) ⟨Nat.le_of_ble_eq_true rfl, Nat.le_of_ble_eq_true rfl⟩) ⟨fun a U g mk q => by obtain ⟨q0, qP, qK⟩ := q; exact ⟨q0, qP, va_K.moved (u := U) (U := U.calling g mk a) (Vm.Alike.refl U.vm) qK⟩, va_recv hK hP (ci := 3) (q0 := 0) rfl rfl, fun U hU hW => ⟨rfl, by rw [hU]; exact hPc, va_K.moved hW.alike hK⟩⟩ rfl rfl hl.1 rfl (lv_room (Nat.le_of_ble_eq_true rfl)) dX3_ends_10 ⟨Nat.le_of_ble_eq_true rfl, Nat.le_of_ble_eq_true rfl⟩) (fun r_10 hw_10 => ?_)
    subst hw_10
    refine lv_if_eq (tgt := 21) hx hb dX3_ends_13 (by decide) (fun c_13 => ?_) (fun c_13 => ?_)
    · refine lv_iconst (v := 0) hx hb dX3_ends_21 (by decide) ?_
      exact W.zret (v := 0) hx hb hr rfl (fun t ht _ => ⟨0, rfl, rfl, ht⟩) (fun _ h => by cases h) dX3_ends_22
    · refine lv_iload_n hx hb dX3_ends_16 rfl (lv_at hl 1 rfl) ?_
      refine lv_iload_n hx hb dX3_ends_17 rfl (lv_at hl 2 rfl) ?_
      refine lv_icmp_ne (tgt := 23) hx hb dX3_ends_18 (by decide) (fun c_18 => ?_) (fun c_18 => ?_)
      · exact absurd ⟨hn_in (by omega) c_5, hn_in (by omega) c_13, c_18⟩ hng
      · refine lv_iconst (v := 0) hx hb dX3_ends_21 (by decide) ?_
        exact W.zret (v := 0) hx hb hr rfl (fun t ht _ => ⟨0, rfl, rfl, ht⟩) (fun _ h => by cases h) dX3_ends_22

theorem fa_m_ends_ok_0 : ∀ w ∈ wsX30, w ∈ wsX3_ends := by decide +kernel
theorem fa_m_ends_ok_1 : Cond.fieldLink RX3 73 "FlowProofsModel" "source" "I" ∈ wsX3_ends := by decide +kernel
theorem fa_m_ends_ok_2 : Cond.fieldLink RX3 76 "FlowProofsModel" "sink" "I" ∈ wsX3_ends := by decide +kernel
theorem fa_m_ends_ok_3 : Cond.fieldLink RX3 79 "FlowProofsModel" "hasEnds" "Z" ∈ wsX3_ends := by decide +kernel
set_option maxHeartbeats 4000000 in
set_option maxRecDepth 100000 in
theorem k_m_ends_ok (l : Launch) (dC : Nat → ClassId) (dI : Nat → Nat → Nat) (cI cJ cZ : ClassId) (q : Nat → Nat) (N M E : Nat) (fr to cap uc fl : Nat → Int32) (ct : Nat → Int64) (ta hw wy : Nat → Int32) (ac : Int64) (he src snk sol rd fw : Int32) (a b : Int32) (sz : Nat) (hE : E ≤ M) (hM : M ≤ 40) (hN : N ≤ 12) (hz : ∀ j, E ≤ j → fl j = 0) (hg : fq_nf N a b) : Met l yX3_ends wsX3_ends ({ frames := 1, cells := 0, slots := 0, locals := 21 }) (va_Pc [.ref (q 0), .int a, .int b] (fun U => U.heap.size = sz ∧ va_P (dC, dI) vwCl [(q 0, .inr (3, [.int (nI N), .int (nI M), .int (nI E), .ref (q 1), .ref (q 2), .ref (q 3), .ref (q 4), .ref (q 5), .long ac, .int he, .int src, .int snk, .int sol, .int rd, .int fw, .ref (q 6), .ref (q 7), .ref (q 8), .ref (q 9)])), (q 5, .inl (cI, 40, .inl fl))] U.heap ∧ va_K (dC, dI) vwCl [(cI, .int), (cJ, .long), (cZ, .boolean)] U ∧ va_D (fun _ => True) [(q 0, .inr (3, [.int (nI N), .int (nI M), .int (nI E), .ref (q 1), .ref (q 2), .ref (q 3), .ref (q 4), .ref (q 5), .long ac, .int he, .int src, .int snk, .int sol, .int rd, .int fw, .ref (q 6), .ref (q 7), .ref (q 8), .ref (q 9)])), (q 5, .inl (cI, 40, .inl fl))])) (va_Qi (fun (r : Int32) (u_ : Unit) => r = 1) (fun (u_ : Unit) (t : State) => va_P (dC, dI) vwCl [(q 0, .inr (3, [.int (nI N), .int (nI M), .int (nI E), .ref (q 1), .ref (q 2), .ref (q 3), .ref (q 4), .ref (q 5), .long ac, .int 1, .int a, .int b, .int 0, .int 0, .int 0, .ref (q 6), .ref (q 7), .ref (q 8), .ref (q 9)])), (q 5, .inl (cI, 40, .inl (fun _ => 0)))] t.heap ∧ va_K (dC, dI) vwCl [(cI, .int), (cJ, .long), (cZ, .boolean)] t ∧ va_D (va_A [(q 0, .inr (3, [.int (nI N), .int (nI M), .int (nI E), .ref (q 1), .ref (q 2), .ref (q 3), .ref (q 4), .ref (q 5), .long ac, .int he, .int src, .int snk, .int sol, .int rd, .int fw, .ref (q 6), .ref (q 7), .ref (q 8), .ref (q 9)])), (q 5, .inl (cI, 40, .inl fl))] sz) [(q 0, .inr (3, [.int (nI N), .int (nI M), .int (nI E), .ref (q 1), .ref (q 2), .ref (q 3), .ref (q 4), .ref (q 5), .long ac, .int 1, .int a, .int b, .int 0, .int 0, .int 0, .ref (q 6), .ref (q 7), .ref (q 8), .ref (q 9)])), (q 5, .inl (cI, 40, .inl (fun _ => 0)))]) (va_A [(q 0, .inr (3, [.int (nI N), .int (nI M), .int (nI E), .ref (q 1), .ref (q 2), .ref (q 3), .ref (q 4), .ref (q 5), .long ac, .int he, .int src, .int snk, .int sol, .int rd, .int fw, .ref (q 6), .ref (q 7), .ref (q 8), .ref (q 9)])), (q 5, .inl (cI, 40, .inl fl))] sz)) 0 0 (va_A [(q 0, .inr (3, [.int (nI N), .int (nI M), .int (nI E), .ref (q 1), .ref (q 2), .ref (q 3), .ref (q 4), .ref (q 5), .long ac, .int he, .int src, .int snk, .int sol, .int rd, .int fw, .ref (q 6), .ref (q 7), .ref (q 8), .ref (q 9)])), (q 5, .inl (cI, 40, .inl fl))] sz) := by
  refine Met.ofW (cc := cX3_ends) (maxL := 3) (ret := (some .boolean)) (by decide) rfl ?_
  intro p e s m args below meth c s₁ B hml hv
  obtain ⟨rfl, hsz, hP, hK, hD0⟩ := hv
  have hx := B.exec
  have hb := B.bytes
  have hr := B.returns
  have hts := atoms_spec (ws := wsX3_ends) B.pre
  have hown : s.vm.findClass RX3 = some m.cls := findClass_of_methodNamed B.named
  have hlocks := B.notSynchronized
  subst hsz
  have hD := hD0.self (sz := s.heap.size)
  generalize hAe : va_A [(q 0, .inr (3, [.int (nI N), .int (nI M), .int (nI E), .ref (q 1), .ref (q 2), .ref (q 3), .ref (q 4), .ref (q 5), .long ac, .int he, .int src, .int snk, .int sol, .int rd, .int fw, .ref (q 6), .ref (q 7), .ref (q 8), .ref (q 9)])), (q 5, .inl (cI, 40, .inl fl))] s.heap.size = A at hD ⊢
  have hA : ∀ q : Nat, s.heap.size ≤ q → A q := fun q h => by rw [← hAe]; exact Or.inr h
  have hS : va_S A s.heap s.heap [] := va_S.rf
  have hP : va_P (dC, dI) vwCl [(q 0, .inr (3, [.int (nI N), .int (nI M), .int (nI E), .ref (q 1), .ref (q 2), .ref (q 3), .ref (q 4), .ref (q 5), .long ac, .int he, .int src, .int snk, .int sol, .int rd, .int fw, .ref (q 6), .ref (q 7), .ref (q 8), .ref (q 9)])), (q 5, .inl (cI, 40, .inl fl))] s.heap := hP
  have hl := lv_entry ([.ref (q 0), .int a, .int b]) (n := 3) (Nat.le_of_ble_eq_true rfl)
  rw [lg_entry_eq]
  generalize (lg_sl ([.ref (q 0), .int a, .int b]) ++ List.replicate (3 - (lg_sl ([.ref (q 0), .int a, .int b])).length) Slot.unset).toArray = ls at hl ⊢
  have hl : lv_has ls 3 [(0, .ref (q 0)), (1, .int a), (2, .int b)] := hl
  refine lv_aload_n hx hb dX3_ends_0 rfl (lv_at hl 0 rfl) ?_
  refine lv_iload_n hx hb dX3_ends_1 rfl (lv_at hl 1 rfl) ?_
  have hPc := hP.sub (ws' := [(q 0, .inr (3, [.int (nI N), .int (nI M), .int (nI E), .ref (q 1), .ref (q 2), .ref (q 3), .ref (q 4), .ref (q 5), .long ac, .int he, .int src, .int snk, .int sol, .int rd, .int fw, .ref (q 6), .ref (q 7), .ref (q 8), .ref (q 9)]))]) [0] rfl
  refine vp_callSi (W.runV (As := [.int a]) (rest := []) ⟨hx, hb, hml, hown, hts⟩ (k_m_isNode l dC dI cI cJ cZ q N M E fr to cap uc fl ct ta hw wy ac he src snk sol rd fw a) (cwV 1 hts gX3_ends_X3_isNode rfl rfl rfl (by decide +kernel) ⟨Nat.le_of_ble_eq_true rfl, Nat.le_of_ble_eq_true rfl⟩) ⟨fun a U g mk q => by obtain ⟨q0, qP, qK⟩ := q; exact ⟨q0, qP, va_K.moved (u := U) (U := U.calling g mk a) (Vm.Alike.refl U.vm) qK⟩, va_recv hK hP (ci := 3) (q0 := 0) rfl rfl, fun U hU hW => ⟨rfl, by rw [hU]; exact hPc, va_K.moved hW.alike hK⟩⟩ rfl rfl hl.1 rfl (lv_room (Nat.le_of_ble_eq_true rfl)) dX3_ends_2 ⟨Nat.le_of_ble_eq_true rfl, Nat.le_of_ble_eq_true rfl⟩) (fun r_2 hw_2 => ?_)
  subst hw_2
  refine lv_if_eq (tgt := 21) hx hb dX3_ends_5 (by decide) (fun c_5 => ?_) (fun c_5 => ?_)
  · exact absurd c_5 (hn_c (by omega) hg.1)
  · refine lv_aload_n hx hb dX3_ends_8 rfl (lv_at hl 0 rfl) ?_
    refine lv_iload_n hx hb dX3_ends_9 rfl (lv_at hl 2 rfl) ?_
    have hPc := hP.sub (ws' := [(q 0, .inr (3, [.int (nI N), .int (nI M), .int (nI E), .ref (q 1), .ref (q 2), .ref (q 3), .ref (q 4), .ref (q 5), .long ac, .int he, .int src, .int snk, .int sol, .int rd, .int fw, .ref (q 6), .ref (q 7), .ref (q 8), .ref (q 9)]))]) [0] rfl
    refine vp_callSi (W.runV (As := [.int b]) (rest := []) ⟨hx, hb, hml, hown, hts⟩ (k_m_isNode l dC dI cI cJ cZ q N M E fr to cap uc fl ct ta hw wy ac he src snk sol rd fw b) (cwV 1 hts gX3_ends_X3_isNode rfl rfl rfl (by decide +kernel) ⟨Nat.le_of_ble_eq_true rfl, Nat.le_of_ble_eq_true rfl⟩) ⟨fun a U g mk q => by obtain ⟨q0, qP, qK⟩ := q; exact ⟨q0, qP, va_K.moved (u := U) (U := U.calling g mk a) (Vm.Alike.refl U.vm) qK⟩, va_recv hK hP (ci := 3) (q0 := 0) rfl rfl, fun U hU hW => ⟨rfl, by rw [hU]; exact hPc, va_K.moved hW.alike hK⟩⟩ rfl rfl hl.1 rfl (lv_room (Nat.le_of_ble_eq_true rfl)) dX3_ends_10 ⟨Nat.le_of_ble_eq_true rfl, Nat.le_of_ble_eq_true rfl⟩) (fun r_10 hw_10 => ?_)
    subst hw_10
    refine lv_if_eq (tgt := 21) hx hb dX3_ends_13 (by decide) (fun c_13 => ?_) (fun c_13 => ?_)
    · exact absurd c_13 (hn_c (by omega) hg.2.1)
    · refine lv_iload_n hx hb dX3_ends_16 rfl (lv_at hl 1 rfl) ?_
      refine lv_iload_n hx hb dX3_ends_17 rfl (lv_at hl 2 rfl) ?_
      refine lv_icmp_ne (tgt := 23) hx hb dX3_ends_18 (by decide) (fun c_18 => ?_) (fun c_18 => ?_)
      · refine lv_aload_n hx hb dX3_ends_23 rfl (lv_at hl 0 rfl) ?_
        refine lv_iload_n hx hb dX3_ends_24 rfl (lv_at hl 1 rfl) ?_
        refine va_put (D := (dC, dI)) (ci := 3) (v := .int a) (ty := .int) (C := RX3) (T := TX3) (N := 19) hx hb hts fa_m_ends_ok_0 tyX3 tyX3_ok nmX3 hown hK hP hD hS 0 rfl rfl 10 (by decide) (hts _ fa_m_ends_ok_1) (fun _ h9 => h9) rfl (by decide +kernel) rfl rfl (Nat.le_of_ble_eq_true rfl) dX3_ends_25 (fun H locs hP hD hS => ?_)
        have hP : va_P (dC, dI) vwCl [(q 0, .inr (3, [.int (nI N), .int (nI M), .int (nI E), .ref (q 1), .ref (q 2), .ref (q 3), .ref (q 4), .ref (q 5), .long ac, .int he, .int a, .int snk, .int sol, .int rd, .int fw, .ref (q 6), .ref (q 7), .ref (q 8), .ref (q 9)])), (q 5, .inl (cI, 40, .inl fl))] H := hP
        have hD : va_D A [(q 0, .inr (3, [.int (nI N), .int (nI M), .int (nI E), .ref (q 1), .ref (q 2), .ref (q 3), .ref (q 4), .ref (q 5), .long ac, .int he, .int a, .int snk, .int sol, .int rd, .int fw, .ref (q 6), .ref (q 7), .ref (q 8), .ref (q 9)])), (q 5, .inl (cI, 40, .inl fl))] := hD
        refine lv_aload_n hx hb dX3_ends_28 rfl (lv_at hl 0 rfl) ?_
        refine lv_iload_n hx hb dX3_ends_29 rfl (lv_at hl 2 rfl) ?_
        refine va_put (D := (dC, dI)) (ci := 3) (v := .int b) (ty := .int) (C := RX3) (T := TX3) (N := 19) hx hb hts fa_m_ends_ok_0 tyX3 tyX3_ok nmX3 hown hK hP hD hS 0 rfl rfl 11 (by decide) (hts _ fa_m_ends_ok_2) (fun _ h9 => h9) rfl (by decide +kernel) rfl rfl (Nat.le_of_ble_eq_true rfl) dX3_ends_30 (fun H locs hP hD hS => ?_)
        have hP : va_P (dC, dI) vwCl [(q 0, .inr (3, [.int (nI N), .int (nI M), .int (nI E), .ref (q 1), .ref (q 2), .ref (q 3), .ref (q 4), .ref (q 5), .long ac, .int he, .int a, .int b, .int sol, .int rd, .int fw, .ref (q 6), .ref (q 7), .ref (q 8), .ref (q 9)])), (q 5, .inl (cI, 40, .inl fl))] H := hP
        have hD : va_D A [(q 0, .inr (3, [.int (nI N), .int (nI M), .int (nI E), .ref (q 1), .ref (q 2), .ref (q 3), .ref (q 4), .ref (q 5), .long ac, .int he, .int a, .int b, .int sol, .int rd, .int fw, .ref (q 6), .ref (q 7), .ref (q 8), .ref (q 9)])), (q 5, .inl (cI, 40, .inl fl))] := hD
        refine lv_aload_n hx hb dX3_ends_33 rfl (lv_at hl 0 rfl) ?_
        refine lv_iconst (v := 1) hx hb dX3_ends_34 (by decide) ?_
        refine va_put (D := (dC, dI)) (ci := 3) (v := .int 1) (ty := .boolean) (C := RX3) (T := TX3) (N := 19) hx hb hts fa_m_ends_ok_0 tyX3 tyX3_ok nmX3 hown hK hP hD hS 0 rfl rfl 9 (by decide) (hts _ fa_m_ends_ok_3) (fun _ h9 => h9) rfl (by decide +kernel) rfl rfl (Nat.le_of_ble_eq_true rfl) dX3_ends_35 (fun H locs hP hD hS => ?_)
        have hP : va_P (dC, dI) vwCl [(q 0, .inr (3, [.int (nI N), .int (nI M), .int (nI E), .ref (q 1), .ref (q 2), .ref (q 3), .ref (q 4), .ref (q 5), .long ac, .int 1, .int a, .int b, .int sol, .int rd, .int fw, .ref (q 6), .ref (q 7), .ref (q 8), .ref (q 9)])), (q 5, .inl (cI, 40, .inl fl))] H := hP
        have hD : va_D A [(q 0, .inr (3, [.int (nI N), .int (nI M), .int (nI E), .ref (q 1), .ref (q 2), .ref (q 3), .ref (q 4), .ref (q 5), .long ac, .int 1, .int a, .int b, .int sol, .int rd, .int fw, .ref (q 6), .ref (q 7), .ref (q 8), .ref (q 9)])), (q 5, .inl (cI, 40, .inl fl))] := hD
        refine lv_aload_n hx hb dX3_ends_38 rfl (lv_at hl 0 rfl) ?_
        have hPc := hP.sub (ws' := [(q 0, .inr (3, [.int (nI N), .int (nI M), .int (nI E), .ref (q 1), .ref (q 2), .ref (q 3), .ref (q 4), .ref (q 5), .long ac, .int 1, .int a, .int b, .int sol, .int rd, .int fw, .ref (q 6), .ref (q 7), .ref (q 8), .ref (q 9)])), (q 5, .inl (cI, 40, .inl fl))]) [0, 1] rfl
        have hDc := hD.sub (ws' := [(q 0, .inr (3, [.int (nI N), .int (nI M), .int (nI E), .ref (q 1), .ref (q 2), .ref (q 3), .ref (q 4), .ref (q 5), .long ac, .int 1, .int a, .int b, .int sol, .int rd, .int fw, .ref (q 6), .ref (q 7), .ref (q 8), .ref (q 9)])), (q 5, .inl (cI, 40, .inl fl))]) [0, 1] (by decide) rfl
        have hFc := va_free (wc := [(q 0, .inr (3, [.int (nI N), .int (nI M), .int (nI E), .ref (q 1), .ref (q 2), .ref (q 3), .ref (q 4), .ref (q 5), .long ac, .int 1, .int a, .int b, .int sol, .int rd, .int fw, .ref (q 6), .ref (q 7), .ref (q 8), .ref (q 9)])), (q 5, .inl (cI, 40, .inl fl))]) hD hS hA [0, 1] rfl
        refine va_callv (va_runV (As := []) (rest := []) ⟨hx, hb, hml, hown, hts⟩ (k_m_gone l dC dI cI cJ cZ q N M E fr to cap uc fl ct ta hw wy ac 1 a b sol rd fw H.size (by omega) hM hN hz) (cwV 0 hts gX3_ends_X3_gone rfl rfl rfl (by decide +kernel) ⟨Nat.le_of_ble_eq_true rfl, Nat.le_of_ble_eq_true rfl⟩) ⟨fun a U g mk q => by obtain ⟨q0, q1, qP, qK, qD⟩ := q; exact ⟨q0, q1, qP, va_K.moved (u := U) (U := U.calling g mk a) (Vm.Alike.refl U.vm) qK, qD⟩, va_recv hK hP (ci := 3) (q0 := 0) rfl rfl, fun U hU hW => ⟨rfl, by rw [hU], by rw [hU]; exact hPc, va_K.moved hW.alike hK, hDc.weaken (fun _ _ _ _ => trivial)⟩⟩ rfl rfl hl.1 rfl (lv_room (Nat.le_of_ble_eq_true rfl)) dX3_ends_39 ⟨Nat.le_of_ble_eq_true rfl, Nat.le_of_ble_eq_true rfl⟩) hS (fun q _ h => hFc q h) hFc (fun u t H1 locs ht hvm hw_39 hB hz1 hk1 hS => ?_)
        obtain ⟨hP1, hK1, hD1⟩ := hB
        rw [ht] at hP1
        obtain ⟨hP, hD⟩ := va_join (wr := []) (w1 := [(q 0, .inr (3, [.int (nI N), .int (nI M), .int (nI E), .ref (q 1), .ref (q 2), .ref (q 3), .ref (q 4), .ref (q 5), .long ac, .int 1, .int a, .int b, .int 0, .int 0, .int 0, .ref (q 6), .ref (q 7), .ref (q 8), .ref (q 9)])), (q 5, .inl (cI, 40, .inl (fun _ => 0)))]) hP hD [0, 1] [] rfl rfl (by decide) (by decide) hk1 hFc hP1 hD1
        generalize H1 = H at hP hS ⊢
        have hP := hP.sub (ws' := [(q 0, .inr (3, [.int (nI N), .int (nI M), .int (nI E), .ref (q 1), .ref (q 2), .ref (q 3), .ref (q 4), .ref (q 5), .long ac, .int 1, .int a, .int b, .int 0, .int 0, .int 0, .ref (q 6), .ref (q 7), .ref (q 8), .ref (q 9)])), (q 5, .inl (cI, 40, .inl (fun _ => 0)))]) [0, 1] rfl
        have hD := hD.sub (ws' := [(q 0, .inr (3, [.int (nI N), .int (nI M), .int (nI E), .ref (q 1), .ref (q 2), .ref (q 3), .ref (q 4), .ref (q 5), .long ac, .int 1, .int a, .int b, .int 0, .int 0, .int 0, .ref (q 6), .ref (q 7), .ref (q 8), .ref (q 9)])), (q 5, .inl (cI, 40, .inl (fun _ => 0)))]) [0, 1] (by decide) rfl
        refine lv_iconst (v := 1) hx hb dX3_ends_42 (by decide) ?_
        have hP9 := hP.sub (ws' := [(q 0, .inr (3, [.int (nI N), .int (nI M), .int (nI E), .ref (q 1), .ref (q 2), .ref (q 3), .ref (q 4), .ref (q 5), .long ac, .int 1, .int a, .int b, .int 0, .int 0, .int 0, .ref (q 6), .ref (q 7), .ref (q 8), .ref (q 9)])), (q 5, .inl (cI, 40, .inl (fun _ => 0)))]) [0, 1] rfl
        have hD9 := hD.sub (ws' := [(q 0, .inr (3, [.int (nI N), .int (nI M), .int (nI E), .ref (q 1), .ref (q 2), .ref (q 3), .ref (q 4), .ref (q 5), .long ac, .int 1, .int a, .int b, .int 0, .int 0, .int 0, .ref (q 6), .ref (q 7), .ref (q 8), .ref (q 9)])), (q 5, .inl (cI, 40, .inl (fun _ => 0)))]) [0, 1] (by decide) rfl
        exact W.zret (v := 1) hx hb hr rfl (fun t ht hW => ⟨⟨1, (), rfl, rfl, by rw [ht]; exact hP9, va_K.moved hW.alike hK, hD9⟩, hS.F ht⟩) hS.2.2 dX3_ends_43
      · exact absurd c_18 hg.2.2
