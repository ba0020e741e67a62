theorem fa_value_0 : ∀ w ∈ wsX20, w ∈ wsX2_value := by decide +kernel
theorem fa_value_1 : Cond.fieldLink RX2 76 "FlowProofs" "solved" "Z" ∈ wsX2_value := by decide +kernel
theorem fa_value_2 : Cond.fieldLink RX2 89 "FlowProofs" "flowing" "I" ∈ wsX2_value := by decide +kernel
set_option maxHeartbeats 4000000 in
set_option maxRecDepth 100000 in
theorem k_value (l : Launch) (dC : Nat → ClassId) (dI : Nat → Nat → Nat) (cI cJ cZ : ClassId) (q : Nat → Nat) (N M E : Nat) (fr to cap uc fl le fe lt ft wy : Nat → Int32) (wl src snk cir sol rd fw : Int32)  : Met l yX2_value wsX2_value ({ frames := 0, cells := 0, slots := 0, locals := 0 }) (va_Pc [.ref (q 0)] (fun U => va_P (dC, dI) vwCl [(q 0, .inr (2, [.ref (q 1), .ref (q 7), .ref (q 10), .ref (q 13), .int wl, .int src, .int snk, .int cir, .int sol, .int rd, .int fw]))] U.heap ∧ va_K (dC, dI) vwCl [(cI, .int), (cJ, .long), (cZ, .boolean)] U)) (vp_Si (fun r => (sol = 0 ∧ r = -1) ∨ (¬ sol = 0 ∧ r = fw))) 0 0 (fun _ => False) := by
  refine Met.ofW (cc := cX2_value) (maxL := 1) (ret := (some .int)) (by decide) rfl ?_
  intro p e s m args below meth c s₁ B hml hv
  obtain ⟨rfl, hP, hK⟩ := hv
  have hx := B.exec
  have hb := B.bytes
  have hr := B.returns
  have hts := atoms_spec (ws := wsX2_value) B.pre
  have hown : s.vm.findClass RX2 = some m.cls := findClass_of_methodNamed B.named
  have hlocks := B.notSynchronized
  have hP : va_P (dC, dI) vwCl [(q 0, .inr (2, [.ref (q 1), .ref (q 7), .ref (q 10), .ref (q 13), .int wl, .int src, .int snk, .int cir, .int sol, .int rd, .int fw]))] s.heap := hP
  have hl := lv_entry ([.ref (q 0)]) (n := 1) (Nat.le_of_ble_eq_true rfl)
  rw [lg_entry_eq]
  generalize (lg_sl ([.ref (q 0)]) ++ List.replicate (1 - (lg_sl ([.ref (q 0)])).length) Slot.unset).toArray = ls at hl ⊢
  have hl : lv_has ls 1 [(0, .ref (q 0))] := hl
  refine lv_aload_n hx hb dX2_value_0 rfl (lv_at hl 0 rfl) ?_
  refine va_get (D := (dC, dI)) (ci := 2) (v := .int sol) (C := RX2) (T := TX2) (N := 11) hx hb hts fa_value_0 hown hK hP 0 rfl rfl 8 (by decide) (hts _ fa_value_1) (fun _ h9 => h9) rfl dX2_value_1 ?_
  refine lv_if_eq (tgt := 14) hx hb dX2_value_4 (by decide) (fun c_4 => ?_) (fun c_4 => ?_)
  · refine lv_iconst (v := (-1)) hx hb dX2_value_14 (by decide) ?_
    exact W.iret (v := (-1)) hx hb hr (fun t ht _ => ⟨(-1), rfl, (by first | exact Or.inl ⟨c_4, rfl⟩ | exact Or.inr ⟨c_4, rfl⟩), ht⟩) (fun _ h => by cases h) dX2_value_15
  · refine lv_aload_n hx hb dX2_value_7 rfl (lv_at hl 0 rfl) ?_
    refine va_get (D := (dC, dI)) (ci := 2) (v := .int fw) (C := RX2) (T := TX2) (N := 11) hx hb hts fa_value_0 hown hK hP 0 rfl rfl 10 (by decide) (hts _ fa_value_2) (fun _ h9 => h9) rfl dX2_value_8 ?_
    refine lv_goto (tgt := 15) hx hb dX2_value_11 (by decide) ?_
    exact W.iret (v := fw) hx hb hr (fun t ht _ => ⟨fw, rfl, (by first | exact Or.inl ⟨c_4, rfl⟩ | exact Or.inr ⟨c_4, rfl⟩), ht⟩) (fun _ h => by cases h) dX2_value_15

theorem fa_cost_0 : ∀ w ∈ wsX20, w ∈ wsX2_cost := by decide +kernel
theorem fa_cost_1 : Cond.fieldLink RX2 76 "FlowProofs" "solved" "Z" ∈ wsX2_cost := by decide +kernel
theorem fa_cost_2 : Cond.fieldLink RX2 27 "FlowProofs" "net" "LFlowProofs$Net;" ∈ wsX2_cost := by decide +kernel
set_option maxHeartbeats 4000000 in
set_option maxRecDepth 100000 in
theorem k_cost (l : Launch) (dC : Nat → ClassId) (dI : Nat → Nat → Nat) (cI cJ cZ : ClassId) (q : Nat → Nat) (N M E : Nat) (fr to cap uc fl le fe lt ft wy : Nat → Int32) (wl src snk cir sol rd fw : Int32) (hE : E ≤ M) (hM : M < 1000) : Met l yX2_cost wsX2_cost ({ frames := 1, cells := 0, slots := 0, locals := 23 }) (va_Pc [.ref (q 0)] (fun U => va_P (dC, dI) vwCl [(q 0, .inr (2, [.ref (q 1), .ref (q 7), .ref (q 10), .ref (q 13), .int wl, .int src, .int snk, .int cir, .int sol, .int rd, .int fw])), (q 1, .inr (1, [.int (nI N), .ref (q 2), .ref (q 3), .ref (q 4), .ref (q 5), .ref (q 6), .int (nI E)])), (q 2, .inl (cI, M, .inl fr)), (q 3, .inl (cI, M, .inl to)), (q 4, .inl (cI, M, .inl cap)), (q 5, .inl (cI, M, .inl uc)), (q 6, .inl (cI, M, .inl fl))] U.heap ∧ va_K (dC, dI) vwCl [(cI, .int), (cJ, .long), (cZ, .boolean)] U)) (vp_Sl (fun r => (sol = 0 ∧ r = 0) ∨ (¬ sol = 0 ∧ r = fp_sum (fun e => (fl e).toInt64 * (uc e).toInt64) E))) 0 0 (fun _ => False) := by
  refine Met.ofW (cc := cX2_cost) (maxL := 1) (ret := (some .long)) (by decide) rfl ?_
  intro p e s m args below meth c s₁ B hml hv
  obtain ⟨rfl, hP, hK⟩ := hv
  have hx := B.exec
  have hb := B.bytes
  have hr := B.returns
  have hts := atoms_spec (ws := wsX2_cost) B.pre
  have hown : s.vm.findClass RX2 = some m.cls := findClass_of_methodNamed B.named
  have hlocks := B.notSynchronized
  have hP : va_P (dC, dI) vwCl [(q 0, .inr (2, [.ref (q 1), .ref (q 7), .ref (q 10), .ref (q 13), .int wl, .int src, .int snk, .int cir, .int sol, .int rd, .int fw])), (q 1, .inr (1, [.int (nI N), .ref (q 2), .ref (q 3), .ref (q 4), .ref (q 5), .ref (q 6), .int (nI E)])), (q 2, .inl (cI, M, .inl fr)), (q 3, .inl (cI, M, .inl to)), (q 4, .inl (cI, M, .inl cap)), (q 5, .inl (cI, M, .inl uc)), (q 6, .inl (cI, M, .inl fl))] s.heap := hP
  have hl := lv_entry ([.ref (q 0)]) (n := 1) (Nat.le_of_ble_eq_true rfl)
  rw [lg_entry_eq]
  generalize (lg_sl ([.ref (q 0)]) ++ List.replicate (1 - (lg_sl ([.ref (q 0)])).length) Slot.unset).toArray = ls at hl ⊢
  have hl : lv_has ls 1 [(0, .ref (q 0))] := hl
  refine lv_aload_n hx hb dX2_cost_0 rfl (lv_at hl 0 rfl) ?_
  refine va_get (D := (dC, dI)) (ci := 2) (v := .int sol) (C := RX2) (T := TX2) (N := 11) hx hb hts fa_cost_0 hown hK hP 0 rfl rfl 8 (by decide) (hts _ fa_cost_1) (fun _ h9 => h9) rfl dX2_cost_1 ?_
  refine lv_if_eq (tgt := 17) hx hb dX2_cost_4 (by decide) (fun c_4 => ?_) (fun c_4 => ?_)
  · refine lv_lconst (v := 0) hx hb dX2_cost_17 (by decide) ?_
    exact W.lret (v := 0) hx hb hr (fun t ht _ => ⟨0, rfl, (by first | exact Or.inl ⟨c_4, rfl⟩ | exact Or.inr ⟨c_4, rfl⟩), ht⟩) (fun _ h => by cases h) dX2_cost_18
  · refine lv_aload_n hx hb dX2_cost_7 rfl (lv_at hl 0 rfl) ?_
    refine va_get (D := (dC, dI)) (ci := 2) (v := .ref (q 1)) (C := RX2) (T := TX2) (N := 11) hx hb hts fa_cost_0 hown hK hP 0 rfl rfl 0 (by decide) (hts _ fa_cost_2) (fun _ h9 => h9) rfl dX2_cost_8 ?_
    have hPc := hP.sub (ws' := [(q 1, .inr (1, [.int (nI N), .ref (q 2), .ref (q 3), .ref (q 4), .ref (q 5), .ref (q 6), .int (nI E)])), (q 2, .inl (cI, M, .inl fr)), (q 3, .inl (cI, M, .inl to)), (q 4, .inl (cI, M, .inl cap)), (q 5, .inl (cI, M, .inl uc)), (q 6, .inl (cI, M, .inl fl))]) [1, 2, 3, 4, 5, 6] rfl
    refine vp_callSl (W.runV (As := []) (rest := []) ⟨hx, hb, hml, hown, hts⟩ (k_costOfFlow l dC dI cI cJ cZ q N M E fr to cap uc fl hE hM) (cwV 0 hts gX2_cost_X1_costOfFlow rfl rfl rfl (by decide +kernel) ⟨Nat.le_of_ble_eq_true rfl, Nat.le_of_ble_eq_true rfl⟩) ⟨fun a U g mk q => by obtain ⟨q0, qP, qK⟩ := q; exact ⟨q0, qP, va_K.moved (u := U) (U := U.calling g mk a) (Vm.Alike.refl U.vm) qK⟩, va_recv hK hP (ci := 1) (q0 := 1) rfl rfl, fun U hU hW => ⟨rfl, by rw [hU]; exact hPc, va_K.moved hW.alike hK⟩⟩ rfl rfl hl.1 rfl (lv_room (Nat.le_of_ble_eq_true rfl)) dX2_cost_11 ⟨Nat.le_of_ble_eq_true rfl, Nat.le_of_ble_eq_true rfl⟩) (fun r_11 hw_11 => ?_)
    subst hw_11
    refine lv_goto (tgt := 18) hx hb dX2_cost_14 (by decide) ?_
    exact W.lret (v := (fp_sum (fun e => (fl e).toInt64 * (uc e).toInt64) E)) hx hb hr (fun t ht _ => ⟨(fp_sum (fun e => (fl e).toInt64 * (uc e).toInt64) E), rfl, (by first | exact Or.inl ⟨c_4, rfl⟩ | exact Or.inr ⟨c_4, rfl⟩), ht⟩) (fun _ h => by cases h) dX2_cost_18

theorem fa_flow_0 : ∀ w ∈ wsX20, w ∈ wsX2_flow := by decide +kernel
theorem fa_flow_1 : Cond.fieldLink RX2 27 "FlowProofs" "net" "LFlowProofs$Net;" ∈ wsX2_flow := by decide +kernel
theorem fa_flow_2 : ∀ w ∈ wsX10, w ∈ wsX2_flow := by decide +kernel
theorem fa_flow_3 : Cond.fieldLink RX2 98 "FlowProofs$Net" "flow" "[I" ∈ wsX2_flow := by decide +kernel
set_option maxHeartbeats 4000000 in
set_option maxRecDepth 100000 in
theorem k_flow (l : Launch) (dC : Nat → ClassId) (dI : Nat → Nat → Nat) (cI cJ cZ : ClassId) (q : Nat → Nat) (N M E : Nat) (fr to cap uc fl le fe lt ft wy : Nat → Int32) (wl src snk cir sol rd fw : Int32) (x : Int32) (hE : E ≤ M) (hM : M < 1000) : Met l yX2_flow wsX2_flow ({ frames := 1, cells := 0, slots := 0, locals := 21 }) (va_Pc [.ref (q 0), .int x] (fun U => va_P (dC, dI) vwCl [(q 0, .inr (2, [.ref (q 1), .ref (q 7), .ref (q 10), .ref (q 13), .int wl, .int src, .int snk, .int cir, .int sol, .int rd, .int fw])), (q 1, .inr (1, [.int (nI N), .ref (q 2), .ref (q 3), .ref (q 4), .ref (q 5), .ref (q 6), .int (nI E)])), (q 2, .inl (cI, M, .inl fr)), (q 3, .inl (cI, M, .inl to)), (q 4, .inl (cI, M, .inl cap)), (q 5, .inl (cI, M, .inl uc)), (q 6, .inl (cI, M, .inl fl))] U.heap ∧ va_K (dC, dI) vwCl [(cI, .int), (cJ, .long), (cZ, .boolean)] U)) (vp_Si (fun r => (¬ vp_in x E ∧ r = -1) ∨ (vp_in x E ∧ r = fl x.toNatClampNeg))) 0 0 (fun _ => False) := by
  refine Met.ofW (cc := cX2_flow) (maxL := 2) (ret := (some .int)) (by decide) rfl ?_
  intro p e s m args below meth c s₁ B hml hv
  obtain ⟨rfl, hP, hK⟩ := hv
  have hx := B.exec
  have hb := B.bytes
  have hr := B.returns
  have hts := atoms_spec (ws := wsX2_flow) B.pre
  have hown : s.vm.findClass RX2 = some m.cls := findClass_of_methodNamed B.named
  have hlocks := B.notSynchronized
  have hP : va_P (dC, dI) vwCl [(q 0, .inr (2, [.ref (q 1), .ref (q 7), .ref (q 10), .ref (q 13), .int wl, .int src, .int snk, .int cir, .int sol, .int rd, .int fw])), (q 1, .inr (1, [.int (nI N), .ref (q 2), .ref (q 3), .ref (q 4), .ref (q 5), .ref (q 6), .int (nI E)])), (q 2, .inl (cI, M, .inl fr)), (q 3, .inl (cI, M, .inl to)), (q 4, .inl (cI, M, .inl cap)), (q 5, .inl (cI, M, .inl uc)), (q 6, .inl (cI, M, .inl fl))] s.heap := hP
  have hl := lv_entry ([.ref (q 0), .int x]) (n := 2) (Nat.le_of_ble_eq_true rfl)
  rw [lg_entry_eq]
  generalize (lg_sl ([.ref (q 0), .int x]) ++ List.replicate (2 - (lg_sl ([.ref (q 0), .int x])).length) Slot.unset).toArray = ls at hl ⊢
  have hl : lv_has ls 2 [(0, .ref (q 0)), (1, .int x)] := hl
  refine lv_aload_n hx hb dX2_flow_0 rfl (lv_at hl 0 rfl) ?_
  refine va_get (D := (dC, dI)) (ci := 2) (v := .ref (q 1)) (C := RX2) (T := TX2) (N := 11) hx hb hts fa_flow_0 hown hK hP 0 rfl rfl 0 (by decide) (hts _ fa_flow_1) (fun _ h9 => h9) rfl dX2_flow_1 ?_
  refine lv_iload_n hx hb dX2_flow_4 rfl (lv_at hl 1 rfl) ?_
  have hPc := hP.sub (ws' := [(q 1, .inr (1, [.int (nI N), .ref (q 2), .ref (q 3), .ref (q 4), .ref (q 5), .ref (q 6), .int (nI E)])), (q 2, .inl (cI, M, .inl fr)), (q 3, .inl (cI, M, .inl to)), (q 4, .inl (cI, M, .inl cap)), (q 5, .inl (cI, M, .inl uc)), (q 6, .inl (cI, M, .inl fl))]) [1, 2, 3, 4, 5, 6] rfl
  refine vp_callSi (W.runV (As := [.int x]) (rest := []) ⟨hx, hb, hml, hown, hts⟩ (k_hasEdge l dC dI cI cJ cZ q N M E fr to cap uc fl x) (cwV 1 hts gX2_flow_X1_hasEdge rfl rfl rfl (by decide +kernel) ⟨Nat.le_of_ble_eq_true rfl, Nat.le_of_ble_eq_true rfl⟩) ⟨fun a U g mk q => by obtain ⟨q0, qP, qK⟩ := q; exact ⟨q0, qP, va_K.moved (u := U) (U := U.calling g mk a) (Vm.Alike.refl U.vm) qK⟩, va_recv hK hP (ci := 1) (q0 := 1) rfl rfl, fun U hU hW => ⟨rfl, by rw [hU]; exact hPc, va_K.moved hW.alike hK⟩⟩ rfl rfl hl.1 rfl (lv_room (Nat.le_of_ble_eq_true rfl)) dX2_flow_5 ⟨Nat.le_of_ble_eq_true rfl, Nat.le_of_ble_eq_true rfl⟩) (fun r_5 hw_5 => ?_)
  subst hw_5
  refine lv_if_eq (tgt := 23) hx hb dX2_flow_8 (by decide) (fun c_8 => ?_) (fun c_8 => ?_)
  · refine lv_iconst (v := (-1)) hx hb dX2_flow_23 (by decide) ?_
    exact W.iret (v := (-1)) hx hb hr (fun t ht _ => ⟨(-1), rfl, (by first | exact Or.inl ⟨hn_out (by omega) c_8, rfl⟩ | exact Or.inr ⟨hxE, rfl⟩), ht⟩) (fun _ h => by cases h) dX2_flow_24
  · have hxE := hn_in (N := E) (by omega) c_8
    have hxM : vp_in x M := by rw [vp_in_iff] at hxE ⊢; omega
    refine lv_aload_n hx hb dX2_flow_11 rfl (lv_at hl 0 rfl) ?_
    refine va_get (D := (dC, dI)) (ci := 2) (v := .ref (q 1)) (C := RX2) (T := TX2) (N := 11) hx hb hts fa_flow_0 hown hK hP 0 rfl rfl 0 (by decide) (hts _ fa_flow_1) (fun _ h9 => h9) rfl dX2_flow_12 ?_
    refine va_get (D := (dC, dI)) (ci := 1) (v := .ref (q 6)) (C := RX1) (T := TX1) (N := 7) hx hb hts fa_flow_2 hown hK hP 1 rfl rfl 5 (by decide) (hts _ fa_flow_3) (fun _ h9 => h9) rfl dX2_flow_15 ?_
    refine lv_iload_n hx hb dX2_flow_18 rfl (lv_at hl 1 rfl) ?_
    refine va_iald (D := (dC, dI)) hx hb hK hP 6 0 rfl rfl (by first | assumption | exact vp_in_nI (by omega) (by omega)) dX2_flow_19 ?_
    refine lv_goto (tgt := 24) hx hb dX2_flow_20 (by decide) ?_
    exact W.iret (v := (fl x.toNatClampNeg)) hx hb hr (fun t ht _ => ⟨(fl x.toNatClampNeg), rfl, (by first | exact Or.inl ⟨hn_out (by omega) c_8, rfl⟩ | exact Or.inr ⟨hxE, rfl⟩), ht⟩) (fun _ h => by cases h) dX2_flow_24

theorem fa_potential_0 : ∀ w ∈ wsX20, w ∈ wsX2_potential := by decide +kernel
theorem fa_potential_1 : Cond.fieldLink RX2 76 "FlowProofs" "solved" "Z" ∈ wsX2_potential := by decide +kernel
theorem fa_potential_2 : Cond.fieldLink RX2 27 "FlowProofs" "net" "LFlowProofs$Net;" ∈ wsX2_potential := by decide +kernel
theorem fa_potential_3 : Cond.fieldLink RX2 36 "FlowProofs" "fromSource" "LFlowProofs$Distances;" ∈ wsX2_potential := by decide +kernel
theorem fa_potential_4 : ∀ w ∈ wsX00, w ∈ wsX2_potential := by decide +kernel
theorem fa_potential_5 : Cond.fieldLink RX2 101 "FlowProofs$Distances" "least" "[I" ∈ wsX2_potential := by decide +kernel
set_option maxHeartbeats 4000000 in
set_option maxRecDepth 100000 in
theorem k_potential (l : Launch) (dC : Nat → ClassId) (dI : Nat → Nat → Nat) (cI cJ cZ : ClassId) (q : Nat → Nat) (N M E : Nat) (fr to cap uc fl le fe lt ft wy : Nat → Int32) (wl src snk cir sol rd fw : Int32) (x : Int32) (hN : N < 1000) : Met l yX2_potential wsX2_potential ({ frames := 1, cells := 0, slots := 0, locals := 21 }) (va_Pc [.ref (q 0), .int x] (fun U => va_P (dC, dI) vwCl [(q 0, .inr (2, [.ref (q 1), .ref (q 7), .ref (q 10), .ref (q 13), .int wl, .int src, .int snk, .int cir, .int sol, .int rd, .int fw])), (q 1, .inr (1, [.int (nI N), .ref (q 2), .ref (q 3), .ref (q 4), .ref (q 5), .ref (q 6), .int (nI E)])), (q 2, .inl (cI, M, .inl fr)), (q 3, .inl (cI, M, .inl to)), (q 4, .inl (cI, M, .inl cap)), (q 5, .inl (cI, M, .inl uc)), (q 6, .inl (cI, M, .inl fl)), (q 7, .inr (0, [.ref (q 8), .ref (q 9), .ref (q 1)])), (q 8, .inl (cI, N, .inl le)), (q 9, .inl (cI, N, .inl fe))] U.heap ∧ va_K (dC, dI) vwCl [(cI, .int), (cJ, .long), (cZ, .boolean)] U)) (vp_Si (fun r => ((sol = 0 ∨ ¬ vp_in x N) ∧ r = -1) ∨ (¬ sol = 0 ∧ vp_in x N ∧ r = le x.toNatClampNeg))) 0 0 (fun _ => False) := by
  refine Met.ofW (cc := cX2_potential) (maxL := 2) (ret := (some .int)) (by decide) rfl ?_
  intro p e s m args below meth c s₁ B hml hv
  obtain ⟨rfl, hP, hK⟩ := hv
  have hx := B.exec
  have hb := B.bytes
  have hr := B.returns
  have hts := atoms_spec (ws := wsX2_potential) B.pre
  have hown : s.vm.findClass RX2 = some m.cls := findClass_of_methodNamed B.named
  have hlocks := B.notSynchronized
  have hP : va_P (dC, dI) vwCl [(q 0, .inr (2, [.ref (q 1), .ref (q 7), .ref (q 10), .ref (q 13), .int wl, .int src, .int snk, .int cir, .int sol, .int rd, .int fw])), (q 1, .inr (1, [.int (nI N), .ref (q 2), .ref (q 3), .ref (q 4), .ref (q 5), .ref (q 6), .int (nI E)])), (q 2, .inl (cI, M, .inl fr)), (q 3, .inl (cI, M, .inl to)), (q 4, .inl (cI, M, .inl cap)), (q 5, .inl (cI, M, .inl uc)), (q 6, .inl (cI, M, .inl fl)), (q 7, .inr (0, [.ref (q 8), .ref (q 9), .ref (q 1)])), (q 8, .inl (cI, N, .inl le)), (q 9, .inl (cI, N, .inl fe))] s.heap := hP
  have hl := lv_entry ([.ref (q 0), .int x]) (n := 2) (Nat.le_of_ble_eq_true rfl)
  rw [lg_entry_eq]
  generalize (lg_sl ([.ref (q 0), .int x]) ++ List.replicate (2 - (lg_sl ([.ref (q 0), .int x])).length) Slot.unset).toArray = ls at hl ⊢
  have hl : lv_has ls 2 [(0, .ref (q 0)), (1, .int x)] := hl
  refine lv_aload_n hx hb dX2_potential_0 rfl (lv_at hl 0 rfl) ?_
  refine va_get (D := (dC, dI)) (ci := 2) (v := .int sol) (C := RX2) (T := TX2) (N := 11) hx hb hts fa_potential_0 hown hK hP 0 rfl rfl 8 (by decide) (hts _ fa_potential_1) (fun _ h9 => h9) rfl dX2_potential_1 ?_
  refine lv_if_eq (tgt := 30) hx hb dX2_potential_4 (by decide) (fun c_4 => ?_) (fun c_4 => ?_)
  · refine lv_iconst (v := (-1)) hx hb dX2_potential_30 (by decide) ?_
    exact W.iret (v := (-1)) hx hb hr (fun t ht _ => ⟨(-1), rfl, (by first | exact Or.inl ⟨Or.inl c_4, rfl⟩ | exact Or.inl ⟨Or.inr (hn_out hN c_15), rfl⟩ | exact Or.inr ⟨c_4, hxN, rfl⟩), ht⟩) (fun _ h => by cases h) dX2_potential_31
  · refine lv_aload_n hx hb dX2_potential_7 rfl (lv_at hl 0 rfl) ?_
    refine va_get (D := (dC, dI)) (ci := 2) (v := .ref (q 1)) (C := RX2) (T := TX2) (N := 11) hx hb hts fa_potential_0 hown hK hP 0 rfl rfl 0 (by decide) (hts _ fa_potential_2) (fun _ h9 => h9) rfl dX2_potential_8 ?_
    refine lv_iload_n hx hb dX2_potential_11 rfl (lv_at hl 1 rfl) ?_
    have hPc := hP.sub (ws' := [(q 1, .inr (1, [.int (nI N), .ref (q 2), .ref (q 3), .ref (q 4), .ref (q 5), .ref (q 6), .int (nI E)])), (q 2, .inl (cI, M, .inl fr)), (q 3, .inl (cI, M, .inl to)), (q 4, .inl (cI, M, .inl cap)), (q 5, .inl (cI, M, .inl uc)), (q 6, .inl (cI, M, .inl fl))]) [1, 2, 3, 4, 5, 6] rfl
    refine vp_callSi (W.runV (As := [.int x]) (rest := []) ⟨hx, hb, hml, hown, hts⟩ (k_hasNode l dC dI cI cJ cZ q N M E fr to cap uc fl x) (cwV 1 hts gX2_potential_X1_hasNode rfl rfl rfl (by decide +kernel) ⟨Nat.le_of_ble_eq_true rfl, Nat.le_of_ble_eq_true rfl⟩) ⟨fun a U g mk q => by obtain ⟨q0, qP, qK⟩ := q; exact ⟨q0, qP, va_K.moved (u := U) (U := U.calling g mk a) (Vm.Alike.refl U.vm) qK⟩, va_recv hK hP (ci := 1) (q0 := 1) rfl rfl, fun U hU hW => ⟨rfl, by rw [hU]; exact hPc, va_K.moved hW.alike hK⟩⟩ rfl rfl hl.1 rfl (lv_room (Nat.le_of_ble_eq_true rfl)) dX2_potential_12 ⟨Nat.le_of_ble_eq_true rfl, Nat.le_of_ble_eq_true rfl⟩) (fun r_12 hw_12 => ?_)
    subst hw_12
    refine lv_if_eq (tgt := 30) hx hb dX2_potential_15 (by decide) (fun c_15 => ?_) (fun c_15 => ?_)
    · refine lv_iconst (v := (-1)) hx hb dX2_potential_30 (by decide) ?_
      exact W.iret (v := (-1)) hx hb hr (fun t ht _ => ⟨(-1), rfl, (by first | exact Or.inl ⟨Or.inl c_4, rfl⟩ | exact Or.inl ⟨Or.inr (hn_out hN c_15), rfl⟩ | exact Or.inr ⟨c_4, hxN, rfl⟩), ht⟩) (fun _ h => by cases h) dX2_potential_31
    · have hxN := hn_in hN c_15
      refine lv_aload_n hx hb dX2_potential_18 rfl (lv_at hl 0 rfl) ?_
      refine va_get (D := (dC, dI)) (ci := 2) (v := .ref (q 7)) (C := RX2) (T := TX2) (N := 11) hx hb hts fa_potential_0 hown hK hP 0 rfl rfl 1 (by decide) (hts _ fa_potential_3) (fun _ h9 => h9) rfl dX2_potential_19 ?_
      refine va_get (D := (dC, dI)) (ci := 0) (v := .ref (q 8)) (C := RX0) (T := TX0) (N := 3) hx hb hts fa_potential_4 hown hK hP 7 rfl rfl 0 (by decide) (hts _ fa_potential_5) (fun _ h9 => h9) rfl dX2_potential_22 ?_
      refine lv_iload_n hx hb dX2_potential_25 rfl (lv_at hl 1 rfl) ?_
      refine va_iald (D := (dC, dI)) hx hb hK hP 8 0 rfl rfl (by first | assumption | exact vp_in_nI (by omega) (by omega)) dX2_potential_26 ?_
      refine lv_goto (tgt := 31) hx hb dX2_potential_27 (by decide) ?_
      exact W.iret (v := (le x.toNatClampNeg)) hx hb hr (fun t ht _ => ⟨(le x.toNatClampNeg), rfl, (by first | exact Or.inl ⟨Or.inl c_4, rfl⟩ | exact Or.inl ⟨Or.inr (hn_out hN c_15), rfl⟩ | exact Or.inr ⟨c_4, hxN, rfl⟩), ht⟩) (fun _ h => by cases h) dX2_potential_31

theorem fa_inCut_0 : ∀ w ∈ wsX20, w ∈ wsX2_inCut := by decide +kernel
theorem fa_inCut_1 : Cond.fieldLink RX2 76 "FlowProofs" "solved" "Z" ∈ wsX2_inCut := by decide +kernel
theorem fa_inCut_2 : Cond.fieldLink RX2 27 "FlowProofs" "net" "LFlowProofs$Net;" ∈ wsX2_inCut := by decide +kernel
theorem fa_inCut_3 : Cond.fieldLink RX2 36 "FlowProofs" "fromSource" "LFlowProofs$Distances;" ∈ wsX2_inCut := by decide +kernel
set_option maxHeartbeats 4000000 in
set_option maxRecDepth 100000 in
theorem k_inCut (l : Launch) (dC : Nat → ClassId) (dI : Nat → Nat → Nat) (cI cJ cZ : ClassId) (q : Nat → Nat) (N M E : Nat) (fr to cap uc fl le fe lt ft wy : Nat → Int32) (wl src snk cir sol rd fw : Int32) (x : Int32) (hN : N < 1000) : Met l yX2_inCut wsX2_inCut ({ frames := 1, cells := 0, slots := 0, locals := 21 }) (va_Pc [.ref (q 0), .int x] (fun U => va_P (dC, dI) vwCl [(q 0, .inr (2, [.ref (q 1), .ref (q 7), .ref (q 10), .ref (q 13), .int wl, .int src, .int snk, .int cir, .int sol, .int rd, .int fw])), (q 1, .inr (1, [.int (nI N), .ref (q 2), .ref (q 3), .ref (q 4), .ref (q 5), .ref (q 6), .int (nI E)])), (q 2, .inl (cI, M, .inl fr)), (q 3, .inl (cI, M, .inl to)), (q 4, .inl (cI, M, .inl cap)), (q 5, .inl (cI, M, .inl uc)), (q 6, .inl (cI, M, .inl fl)), (q 7, .inr (0, [.ref (q 8), .ref (q 9), .ref (q 1)])), (q 8, .inl (cI, N, .inl le)), (q 9, .inl (cI, N, .inl fe))] U.heap ∧ va_K (dC, dI) vwCl [(cI, .int), (cJ, .long), (cZ, .boolean)] U)) (vp_Si (fun r => fq_b (¬ sol = 0 ∧ vp_in x N ∧ ¬ le x.toNatClampNeg = 2147483647) r)) 0 0 (fun _ => False) := by
  refine Met.ofW (cc := cX2_inCut) (maxL := 2) (ret := (some .boolean)) (by decide) rfl ?_
  intro p e s m args below meth c s₁ B hml hv
  obtain ⟨rfl, hP, hK⟩ := hv
  have hx := B.exec
  have hb := B.bytes
  have hr := B.returns
  have hts := atoms_spec (ws := wsX2_inCut) B.pre
  have hown : s.vm.findClass RX2 = some m.cls := findClass_of_methodNamed B.named
  have hlocks := B.notSynchronized
  have hP : va_P (dC, dI) vwCl [(q 0, .inr (2, [.ref (q 1), .ref (q 7), .ref (q 10), .ref (q 13), .int wl, .int src, .int snk, .int cir, .int sol, .int rd, .int fw])), (q 1, .inr (1, [.int (nI N), .ref (q 2), .ref (q 3), .ref (q 4), .ref (q 5), .ref (q 6), .int (nI E)])), (q 2, .inl (cI, M, .inl fr)), (q 3, .inl (cI, M, .inl to)), (q 4, .inl (cI, M, .inl cap)), (q 5, .inl (cI, M, .inl uc)), (q 6, .inl (cI, M, .inl fl)), (q 7, .inr (0, [.ref (q 8), .ref (q 9), .ref (q 1)])), (q 8, .inl (cI, N, .inl le)), (q 9, .inl (cI, N, .inl fe))] s.heap := hP
  have hl := lv_entry ([.ref (q 0), .int x]) (n := 2) (Nat.le_of_ble_eq_true rfl)
  rw [lg_entry_eq]
  generalize (lg_sl ([.ref (q 0), .int x]) ++ List.replicate (2 - (lg_sl ([.ref (q 0), .int x])).length) Slot.unset).toArray = ls at hl ⊢
  have hl : lv_has ls 2 [(0, .ref (q 0)), (1, .int x)] := hl
  refine lv_aload_n hx hb dX2_inCut_0 rfl (lv_at hl 0 rfl) ?_
  refine va_get (D := (dC, dI)) (ci := 2) (v := .int sol) (C := RX2) (T := TX2) (N := 11) hx hb hts fa_inCut_0 hown hK hP 0 rfl rfl 8 (by decide) (hts _ fa_inCut_1) (fun _ h9 => h9) rfl dX2_inCut_1 ?_
  refine lv_if_eq (tgt := 33) hx hb dX2_inCut_4 (by decide) (fun c_4 => ?_) (fun c_4 => ?_)
  · refine lv_iconst (v := 0) hx hb dX2_inCut_33 (by decide) ?_
    exact W.zret (v := 0) hx hb hr rfl (fun t ht _ => ⟨0, rfl, (by first | exact Or.inr ⟨rfl, fun h => h.1 c_4⟩ | exact Or.inr ⟨rfl, fun h => hn_out hN c_15 h.2.1⟩ | exact Or.inr ⟨rfl, fun h => h.2.2 (rch0 c_26)⟩ | exact Or.inl ⟨rfl, c_4, hxN, rch1 c_26⟩), ht⟩) (fun _ h => by cases h) dX2_inCut_34
  · refine lv_aload_n hx hb dX2_inCut_7 rfl (lv_at hl 0 rfl) ?_
    refine va_get (D := (dC, dI)) (ci := 2) (v := .ref (q 1)) (C := RX2) (T := TX2) (N := 11) hx hb hts fa_inCut_0 hown hK hP 0 rfl rfl 0 (by decide) (hts _ fa_inCut_2) (fun _ h9 => h9) rfl dX2_inCut_8 ?_
    refine lv_iload_n hx hb dX2_inCut_11 rfl (lv_at hl 1 rfl) ?_
    have hPc := hP.sub (ws' := [(q 1, .inr (1, [.int (nI N), .ref (q 2), .ref (q 3), .ref (q 4), .ref (q 5), .ref (q 6), .int (nI E)])), (q 2, .inl (cI, M, .inl fr)), (q 3, .inl (cI, M, .inl to)), (q 4, .inl (cI, M, .inl cap)), (q 5, .inl (cI, M, .inl uc)), (q 6, .inl (cI, M, .inl fl))]) [1, 2, 3, 4, 5, 6] rfl
    refine vp_callSi (W.runV (As := [.int x]) (rest := []) ⟨hx, hb, hml, hown, hts⟩ (k_hasNode l dC dI cI cJ cZ q N M E fr to cap uc fl x) (cwV 1 hts gX2_inCut_X1_hasNode rfl rfl rfl (by decide +kernel) ⟨Nat.le_of_ble_eq_true rfl, Nat.le_of_ble_eq_true rfl⟩) ⟨fun a U g mk q => by obtain ⟨q0, qP, qK⟩ := q; exact ⟨q0, qP, va_K.moved (u := U) (U := U.calling g mk a) (Vm.Alike.refl U.vm) qK⟩, va_recv hK hP (ci := 1) (q0 := 1) rfl rfl, fun U hU hW => ⟨rfl, by rw [hU]; exact hPc, va_K.moved hW.alike hK⟩⟩ rfl rfl hl.1 rfl (lv_room (Nat.le_of_ble_eq_true rfl)) dX2_inCut_12 ⟨Nat.le_of_ble_eq_true rfl, Nat.le_of_ble_eq_true rfl⟩) (fun r_12 hw_12 => ?_)
    subst hw_12
    refine lv_if_eq (tgt := 33) hx hb dX2_inCut_15 (by decide) (fun c_15 => ?_) (fun c_15 => ?_)
    · refine lv_iconst (v := 0) hx hb dX2_inCut_33 (by decide) ?_
      exact W.zret (v := 0) hx hb hr rfl (fun t ht _ => ⟨0, rfl, (by first | exact Or.inr ⟨rfl, fun h => h.1 c_4⟩ | exact Or.inr ⟨rfl, fun h => hn_out hN c_15 h.2.1⟩ | exact Or.inr ⟨rfl, fun h => h.2.2 (rch0 c_26)⟩ | exact Or.inl ⟨rfl, c_4, hxN, rch1 c_26⟩), ht⟩) (fun _ h => by cases h) dX2_inCut_34
    · have hxN := hn_in hN c_15
      refine lv_aload_n hx hb dX2_inCut_18 rfl (lv_at hl 0 rfl) ?_
      refine va_get (D := (dC, dI)) (ci := 2) (v := .ref (q 7)) (C := RX2) (T := TX2) (N := 11) hx hb hts fa_inCut_0 hown hK hP 0 rfl rfl 1 (by decide) (hts _ fa_inCut_3) (fun _ h9 => h9) rfl dX2_inCut_19 ?_
      refine lv_iload_n hx hb dX2_inCut_22 rfl (lv_at hl 1 rfl) ?_
      have hPc := hP.sub (ws' := [(q 7, .inr (0, [.ref (q 8), .ref (q 9), .ref (q 1)])), (q 8, .inl (cI, N, .inl le)), (q 9, .inl (cI, N, .inl fe))]) [7, 8, 9] rfl
      refine vp_callSi (W.runV (As := [.int x]) (rest := []) ⟨hx, hb, hml, hown, hts⟩ (k_reaches l dC dI cI cJ cZ (q 7) (q 8) (q 9) q N le fe x (by assumption)) (cwV 1 hts gX2_inCut_X0_reaches rfl rfl rfl (by decide +kernel) ⟨Nat.le_of_ble_eq_true rfl, Nat.le_of_ble_eq_true rfl⟩) ⟨fun a U g mk q => by obtain ⟨q0, qP, qK⟩ := q; exact ⟨q0, qP, va_K.moved (u := U) (U := U.calling g mk a) (Vm.Alike.refl U.vm) qK⟩, va_recv hK hP (ci := 0) (q0 := 7) rfl rfl, fun U hU hW => ⟨rfl, by rw [hU]; exact hPc, va_K.moved hW.alike hK⟩⟩ rfl rfl hl.1 rfl (lv_room (Nat.le_of_ble_eq_true rfl)) dX2_inCut_23 ⟨Nat.le_of_ble_eq_true rfl, Nat.le_of_ble_eq_true rfl⟩) (fun r_23 hw_23 => ?_)
      subst hw_23
      refine lv_if_eq (tgt := 33) hx hb dX2_inCut_26 (by decide) (fun c_26 => ?_) (fun c_26 => ?_)
      · refine lv_iconst (v := 0) hx hb dX2_inCut_33 (by decide) ?_
        exact W.zret (v := 0) hx hb hr rfl (fun t ht _ => ⟨0, rfl, (by first | exact Or.inr ⟨rfl, fun h => h.1 c_4⟩ | exact Or.inr ⟨rfl, fun h => hn_out hN c_15 h.2.1⟩ | exact Or.inr ⟨rfl, fun h => h.2.2 (rch0 c_26)⟩ | exact Or.inl ⟨rfl, c_4, hxN, rch1 c_26⟩), ht⟩) (fun _ h => by cases h) dX2_inCut_34
      · refine lv_iconst (v := 1) hx hb dX2_inCut_29 (by decide) ?_
        refine lv_goto (tgt := 34) hx hb dX2_inCut_30 (by decide) ?_
        exact W.zret (v := 1) hx hb hr rfl (fun t ht _ => ⟨1, rfl, (by first | exact Or.inr ⟨rfl, fun h => h.1 c_4⟩ | exact Or.inr ⟨rfl, fun h => hn_out hN c_15 h.2.1⟩ | exact Or.inr ⟨rfl, fun h => h.2.2 (rch0 c_26)⟩ | exact Or.inl ⟨rfl, c_4, hxN, rch1 c_26⟩), ht⟩) (fun _ h => by cases h) dX2_inCut_34

theorem fa_count_0 : ∀ w ∈ wsX20, w ∈ wsX2_count := by decide +kernel
theorem fa_count_1 : Cond.fieldLink RX2 27 "FlowProofs" "net" "LFlowProofs$Net;" ∈ wsX2_count := by decide +kernel
theorem fa_count_2 : ∀ w ∈ wsX10, w ∈ wsX2_count := by decide +kernel
theorem fa_count_3 : Cond.fieldLink RX2 119 "FlowProofs$Net" "nodes" "I" ∈ wsX2_count := by decide +kernel
theorem fa_count_4 : Cond.fieldLink RX2 122 "FlowProofs$Net" "edges" "I" ∈ wsX2_count := by decide +kernel
theorem fa_count_5 : Cond.fieldLink RX2 125 "FlowProofs" "roundsDone" "I" ∈ wsX2_count := by decide +kernel
theorem fa_count_6 : Cond.fieldLink RX2 89 "FlowProofs" "flowing" "I" ∈ wsX2_count := by decide +kernel
set_option maxHeartbeats 4000000 in
set_option maxRecDepth 100000 in
theorem k_count (l : Launch) (dC : Nat → ClassId) (dI : Nat → Nat → Nat) (cI cJ cZ : ClassId) (q : Nat → Nat) (N M E : Nat) (fr to cap uc fl le fe lt ft wy : Nat → Int32) (wl src snk cir sol rd fw : Int32) (x : Int32)  : Met l yX2_count wsX2_count ({ frames := 0, cells := 0, slots := 0, locals := 0 }) (va_Pc [.ref (q 0), .int x] (fun U => va_P (dC, dI) vwCl [(q 0, .inr (2, [.ref (q 1), .ref (q 7), .ref (q 10), .ref (q 13), .int wl, .int src, .int snk, .int cir, .int sol, .int rd, .int fw])), (q 1, .inr (1, [.int (nI N), .ref (q 2), .ref (q 3), .ref (q 4), .ref (q 5), .ref (q 6), .int (nI E)])), (q 2, .inl (cI, M, .inl fr)), (q 3, .inl (cI, M, .inl to)), (q 4, .inl (cI, M, .inl cap)), (q 5, .inl (cI, M, .inl uc)), (q 6, .inl (cI, M, .inl fl))] U.heap ∧ va_K (dC, dI) vwCl [(cI, .int), (cJ, .long), (cZ, .boolean)] U)) (vp_Si (fun r => r = (if x = 0 then nI N else if x = 1 then nI E else if x = 2 then rd else if x = 3 then fw else -1))) 0 0 (fun _ => False) := by
  refine Met.ofW (cc := cX2_count) (maxL := 2) (ret := (some .int)) (by decide) rfl ?_
  intro p e s m args below meth c s₁ B hml hv
  obtain ⟨rfl, hP, hK⟩ := hv
  have hx := B.exec
  have hb := B.bytes
  have hr := B.returns
  have hts := atoms_spec (ws := wsX2_count) B.pre
  have hown : s.vm.findClass RX2 = some m.cls := findClass_of_methodNamed B.named
  have hlocks := B.notSynchronized
  have hP : va_P (dC, dI) vwCl [(q 0, .inr (2, [.ref (q 1), .ref (q 7), .ref (q 10), .ref (q 13), .int wl, .int src, .int snk, .int cir, .int sol, .int rd, .int fw])), (q 1, .inr (1, [.int (nI N), .ref (q 2), .ref (q 3), .ref (q 4), .ref (q 5), .ref (q 6), .int (nI E)])), (q 2, .inl (cI, M, .inl fr)), (q 3, .inl (cI, M, .inl to)), (q 4, .inl (cI, M, .inl cap)), (q 5, .inl (cI, M, .inl uc)), (q 6, .inl (cI, M, .inl fl))] s.heap := hP
  have hl := lv_entry ([.ref (q 0), .int x]) (n := 2) (Nat.le_of_ble_eq_true rfl)
  rw [lg_entry_eq]
  generalize (lg_sl ([.ref (q 0), .int x]) ++ List.replicate (2 - (lg_sl ([.ref (q 0), .int x])).length) Slot.unset).toArray = ls at hl ⊢
  have hl : lv_has ls 2 [(0, .ref (q 0)), (1, .int x)] := hl
  refine lv_iload_n hx hb dX2_count_0 rfl (lv_at hl 1 rfl) ?_
  by_cases t0 : x = 0
  · have tt : x.toInt = 0 := by rw [t0]; rfl
    refine lv_tableIn (off := 31) (tgt := 32) hx hb dX2_count_1 (by rw [tt]; decide) (by rw [tt]; decide) (by rw [tt]; rfl) (by decide) ?_
    refine lv_aload_n hx hb dX2_count_32 rfl (lv_at hl 0 rfl) ?_
    refine va_get (D := (dC, dI)) (ci := 2) (v := .ref (q 1)) (C := RX2) (T := TX2) (N := 11) hx hb hts fa_count_0 hown hK hP 0 rfl rfl 0 (by decide) (hts _ fa_count_1) (fun _ h9 => h9) rfl dX2_count_33 ?_
    refine va_get (D := (dC, dI)) (ci := 1) (v := .int (nI N)) (C := RX1) (T := TX1) (N := 7) hx hb hts fa_count_2 hown hK hP 1 rfl rfl 0 (by decide) (hts _ fa_count_3) (fun _ h9 => h9) rfl dX2_count_36 ?_
    exact W.iret (v := (nI N)) hx hb hr (fun t ht _ => ⟨(nI N), rfl, (by first | rw [if_pos t0] | rw [if_neg t0, if_pos t1] | rw [if_neg t0, if_neg t1, if_pos t2] | rw [if_neg t0, if_neg t1, if_neg t2, if_pos t3] | rw [if_neg t0, if_neg t1, if_neg t2, if_neg t3]), ht⟩) (fun _ h => by cases h) dX2_count_39
  by_cases t1 : x = 1
  · have tt : x.toInt = 1 := by rw [t1]; rfl
    refine lv_tableIn (off := 39) (tgt := 40) hx hb dX2_count_1 (by rw [tt]; decide) (by rw [tt]; decide) (by rw [tt]; rfl) (by decide) ?_
    refine lv_aload_n hx hb dX2_count_40 rfl (lv_at hl 0 rfl) ?_
    refine va_get (D := (dC, dI)) (ci := 2) (v := .ref (q 1)) (C := RX2) (T := TX2) (N := 11) hx hb hts fa_count_0 hown hK hP 0 rfl rfl 0 (by decide) (hts _ fa_count_1) (fun _ h9 => h9) rfl dX2_count_41 ?_
    refine va_get (D := (dC, dI)) (ci := 1) (v := .int (nI E)) (C := RX1) (T := TX1) (N := 7) hx hb hts fa_count_2 hown hK hP 1 rfl rfl 6 (by decide) (hts _ fa_count_4) (fun _ h9 => h9) rfl dX2_count_44 ?_
    exact W.iret (v := (nI E)) hx hb hr (fun t ht _ => ⟨(nI E), rfl, (by first | rw [if_pos t0] | rw [if_neg t0, if_pos t1] | rw [if_neg t0, if_neg t1, if_pos t2] | rw [if_neg t0, if_neg t1, if_neg t2, if_pos t3] | rw [if_neg t0, if_neg t1, if_neg t2, if_neg t3]), ht⟩) (fun _ h => by cases h) dX2_count_47
  by_cases t2 : x = 2
  · have tt : x.toInt = 2 := by rw [t2]; rfl
    refine lv_tableIn (off := 47) (tgt := 48) hx hb dX2_count_1 (by rw [tt]; decide) (by rw [tt]; decide) (by rw [tt]; rfl) (by decide) ?_
    refine lv_aload_n hx hb dX2_count_48 rfl (lv_at hl 0 rfl) ?_
    refine va_get (D := (dC, dI)) (ci := 2) (v := .int rd) (C := RX2) (T := TX2) (N := 11) hx hb hts fa_count_0 hown hK hP 0 rfl rfl 9 (by decide) (hts _ fa_count_5) (fun _ h9 => h9) rfl dX2_count_49 ?_
    exact W.iret (v := rd) hx hb hr (fun t ht _ => ⟨rd, rfl, (by first | rw [if_pos t0] | rw [if_neg t0, if_pos t1] | rw [if_neg t0, if_neg t1, if_pos t2] | rw [if_neg t0, if_neg t1, if_neg t2, if_pos t3] | rw [if_neg t0, if_neg t1, if_neg t2, if_neg t3]), ht⟩) (fun _ h => by cases h) dX2_count_52
  by_cases t3 : x = 3
  · have tt : x.toInt = 3 := by rw [t3]; rfl
    refine lv_tableIn (off := 52) (tgt := 53) hx hb dX2_count_1 (by rw [tt]; decide) (by rw [tt]; decide) (by rw [tt]; rfl) (by decide) ?_
    refine lv_aload_n hx hb dX2_count_53 rfl (lv_at hl 0 rfl) ?_
    refine va_get (D := (dC, dI)) (ci := 2) (v := .int fw) (C := RX2) (T := TX2) (N := 11) hx hb hts fa_count_0 hown hK hP 0 rfl rfl 10 (by decide) (hts _ fa_count_6) (fun _ h9 => h9) rfl dX2_count_54 ?_
    exact W.iret (v := fw) hx hb hr (fun t ht _ => ⟨fw, rfl, (by first | rw [if_pos t0] | rw [if_neg t0, if_pos t1] | rw [if_neg t0, if_neg t1, if_pos t2] | rw [if_neg t0, if_neg t1, if_neg t2, if_pos t3] | rw [if_neg t0, if_neg t1, if_neg t2, if_neg t3]), ht⟩) (fun _ h => by cases h) dX2_count_57
  refine lv_tableOut (tgt := 58) hx hb dX2_count_1 (sw4 t0 t1 t2 t3) (by decide) ?_
  refine lv_iconst (v := (-1)) hx hb dX2_count_58 (by decide) ?_
  exact W.iret (v := (-1)) hx hb hr (fun t ht _ => ⟨(-1), rfl, (by first | rw [if_pos t0] | rw [if_neg t0, if_pos t1] | rw [if_neg t0, if_neg t1, if_pos t2] | rw [if_neg t0, if_neg t1, if_neg t2, if_pos t3] | rw [if_neg t0, if_neg t1, if_neg t2, if_neg t3]), ht⟩) (fun _ h => by cases h) dX2_count_59

theorem fa_flowsFit_0 : ∀ w ∈ wsX20, w ∈ wsX2_flowsFit := by decide +kernel
theorem fa_flowsFit_1 : Cond.fieldLink RX2 27 "FlowProofs" "net" "LFlowProofs$Net;" ∈ wsX2_flowsFit := by decide +kernel
theorem fa_flowsFit_2 : ∀ w ∈ wsX10, w ∈ wsX2_flowsFit := by decide +kernel
theorem fa_flowsFit_3 : Cond.fieldLink RX2 122 "FlowProofs$Net" "edges" "I" ∈ wsX2_flowsFit := by decide +kernel
theorem fa_flowsFit_4 : Cond.fieldLink RX2 98 "FlowProofs$Net" "flow" "[I" ∈ wsX2_flowsFit := by decide +kernel
theorem fa_flowsFit_5 : Cond.fieldLink RX2 166 "FlowProofs$Net" "capacity" "[I" ∈ wsX2_flowsFit := by decide +kernel
set_option maxHeartbeats 4000000 in
set_option maxRecDepth 100000 in
theorem k_flowsFit (l : Launch) (dC : Nat → ClassId) (dI : Nat → Nat → Nat) (cI cJ cZ : ClassId) (q : Nat → Nat) (N M E : Nat) (fr to cap uc fl le fe lt ft wy : Nat → Int32) (wl src snk cir sol rd fw : Int32) (hE : E ≤ M) (hM : M < 1000) : Met l yX2_flowsFit wsX2_flowsFit ({ frames := 0, cells := 0, slots := 0, locals := 0 }) (va_Pc [.ref (q 0)] (fun U => va_P (dC, dI) vwCl [(q 0, .inr (2, [.ref (q 1), .ref (q 7), .ref (q 10), .ref (q 13), .int wl, .int src, .int snk, .int cir, .int sol, .int rd, .int fw])), (q 1, .inr (1, [.int (nI N), .ref (q 2), .ref (q 3), .ref (q 4), .ref (q 5), .ref (q 6), .int (nI E)])), (q 2, .inl (cI, M, .inl fr)), (q 3, .inl (cI, M, .inl to)), (q 4, .inl (cI, M, .inl cap)), (q 5, .inl (cI, M, .inl uc)), (q 6, .inl (cI, M, .inl fl))] U.heap ∧ va_K (dC, dI) vwCl [(cI, .int), (cJ, .long), (cZ, .boolean)] U)) (vp_Si (fun r => fq_b (fq_fit cap fl E) r)) 0 0 (fun _ => False) := by
  refine Met.ofW (cc := cX2_flowsFit) (maxL := 2) (ret := (some .boolean)) (by decide) rfl ?_
  intro p e s m args below meth c s₁ B hml hv
  obtain ⟨rfl, hP, hK⟩ := hv
  have hx := B.exec
  have hb := B.bytes
  have hr := B.returns
  have hts := atoms_spec (ws := wsX2_flowsFit) B.pre
  have hown : s.vm.findClass RX2 = some m.cls := findClass_of_methodNamed B.named
  have hlocks := B.notSynchronized
  have hP : va_P (dC, dI) vwCl [(q 0, .inr (2, [.ref (q 1), .ref (q 7), .ref (q 10), .ref (q 13), .int wl, .int src, .int snk, .int cir, .int sol, .int rd, .int fw])), (q 1, .inr (1, [.int (nI N), .ref (q 2), .ref (q 3), .ref (q 4), .ref (q 5), .ref (q 6), .int (nI E)])), (q 2, .inl (cI, M, .inl fr)), (q 3, .inl (cI, M, .inl to)), (q 4, .inl (cI, M, .inl cap)), (q 5, .inl (cI, M, .inl uc)), (q 6, .inl (cI, M, .inl fl))] s.heap := hP
  have hl := lv_entry ([.ref (q 0)]) (n := 2) (Nat.le_of_ble_eq_true rfl)
  rw [lg_entry_eq]
  generalize (lg_sl ([.ref (q 0)]) ++ List.replicate (2 - (lg_sl ([.ref (q 0)])).length) Slot.unset).toArray = ls at hl ⊢
  have hl : lv_has ls 2 [(0, .ref (q 0))] := hl
  refine lv_iconst (v := 0) hx hb dX2_flowsFit_0 (by decide) ?_
  refine tp_i (y := nI 0) nI_0.symm ?_
  refine lv_istore_n (lv' := [(1, .int (nI 0)), (0, .ref (q 0))]) hx hb dX2_flowsFit_1 rfl hl (by decide) rfl (fun ls hl => ?_)
  have lo_a : ∀ (nf : Nat) (i : Nat) (hi : i ≤ E) (hall : ∀ e, e < i → ¬ fl e < 0 ∧ fl e ≤ cap e) (hfu : E - i < nf) (ls : Array Slot) (hl : lv_has ls 2 [(0, .ref (q 0)), (1, .int (nI i))]), W p l e (headSpec wsX2_flowsFit ({ frames := 0, cells := 0, slots := 0, locals := 0 })).room s m ([.ref (q 0)] : List Value).toArray below meth c s.heap [] 0 0 (MQ below (vp_Si (fun r => fq_b (fq_fit cap fl E) r)) ([.ref (q 0)] : List Value).toArray s 0 0 (fun _ => False)) (F0 m 2 ls [])
    := by
    intro nf
    induction nf with
    | zero => intro i hi hall hfu ls hl; exact absurd hfu (Nat.not_lt_zero _)
    | succ nf ih_a =>
      intro i hi hall hfu ls hl
      refine lv_iload_n hx hb dX2_flowsFit_2 rfl (lv_at hl 1 rfl) ?_
      refine lv_aload_n hx hb dX2_flowsFit_3 rfl (lv_at hl 0 rfl) ?_
      refine va_get (D := (dC, dI)) (ci := 2) (v := .ref (q 1)) (C := RX2) (T := TX2) (N := 11) hx hb hts fa_flowsFit_0 hown hK hP 0 rfl rfl 0 (by decide) (hts _ fa_flowsFit_1) (fun _ h9 => h9) rfl dX2_flowsFit_4 ?_
      refine va_get (D := (dC, dI)) (ci := 1) (v := .int (nI E)) (C := RX1) (T := TX1) (N := 7) hx hb hts fa_flowsFit_2 hown hK hP 1 rfl rfl 6 (by decide) (hts _ fa_flowsFit_3) (fun _ h9 => h9) rfl dX2_flowsFit_7 ?_
      refine lv_icmp_ge (tgt := 54) hx hb dX2_flowsFit_10 (by decide) (fun c_10 => ?_) (fun c_10 => ?_)
      · have hge := ix_ge (by omega) (by omega) c_10
        refine lv_iconst (v := 1) hx hb dX2_flowsFit_54 (by decide) ?_
        exact W.zret (v := 1) hx hb hr rfl (fun t ht _ => ⟨1, rfl, (Or.inl ⟨rfl, fun e he => hall e (by omega)⟩), ht⟩) (fun _ h => by cases h) dX2_flowsFit_55
      · have hlt := ix_lt (by omega) (by omega) c_10
        refine lv_aload_n hx hb dX2_flowsFit_13 rfl (lv_at hl 0 rfl) ?_
        refine va_get (D := (dC, dI)) (ci := 2) (v := .ref (q 1)) (C := RX2) (T := TX2) (N := 11) hx hb hts fa_flowsFit_0 hown hK hP 0 rfl rfl 0 (by decide) (hts _ fa_flowsFit_1) (fun _ h9 => h9) rfl dX2_flowsFit_14 ?_
        refine va_get (D := (dC, dI)) (ci := 1) (v := .ref (q 6)) (C := RX1) (T := TX1) (N := 7) hx hb hts fa_flowsFit_2 hown hK hP 1 rfl rfl 5 (by decide) (hts _ fa_flowsFit_4) (fun _ h9 => h9) rfl dX2_flowsFit_17 ?_
        refine lv_iload_n hx hb dX2_flowsFit_20 rfl (lv_at hl 1 rfl) ?_
        refine va_iald (D := (dC, dI)) hx hb hK hP 6 0 rfl rfl (by first | assumption | exact vp_in_nI (by omega) (by omega)) dX2_flowsFit_21 ?_
        refine tp_i (y := fl i) (by rw [nI_clamp (n := i) (by omega)]) ?_
        refine lv_if_lt (tgt := 46) hx hb dX2_flowsFit_22 (by decide) (fun c_22 => ?_) (fun c_22 => ?_)
        · refine lv_iconst (v := 0) hx hb dX2_flowsFit_46 (by decide) ?_
          exact W.zret (v := 0) hx hb hr rfl (fun t ht _ => ⟨0, rfl, (Or.inr ⟨rfl, fun h => by first | exact (h i hlt).1 c_22 | exact c_43 (h i hlt).2⟩), ht⟩) (fun _ h => by cases h) dX2_flowsFit_47
        · refine lv_aload_n hx hb dX2_flowsFit_25 rfl (lv_at hl 0 rfl) ?_
          refine va_get (D := (dC, dI)) (ci := 2) (v := .ref (q 1)) (C := RX2) (T := TX2) (N := 11) hx hb hts fa_flowsFit_0 hown hK hP 0 rfl rfl 0 (by decide) (hts _ fa_flowsFit_1) (fun _ h9 => h9) rfl dX2_flowsFit_26 ?_
          refine va_get (D := (dC, dI)) (ci := 1) (v := .ref (q 6)) (C := RX1) (T := TX1) (N := 7) hx hb hts fa_flowsFit_2 hown hK hP 1 rfl rfl 5 (by decide) (hts _ fa_flowsFit_4) (fun _ h9 => h9) rfl dX2_flowsFit_29 ?_
          refine lv_iload_n hx hb dX2_flowsFit_32 rfl (lv_at hl 1 rfl) ?_
          refine va_iald (D := (dC, dI)) hx hb hK hP 6 0 rfl rfl (by first | assumption | exact vp_in_nI (by omega) (by omega)) dX2_flowsFit_33 ?_
          refine tp_i (y := fl i) (by rw [nI_clamp (n := i) (by omega)]) ?_
          refine lv_aload_n hx hb dX2_flowsFit_34 rfl (lv_at hl 0 rfl) ?_
          refine va_get (D := (dC, dI)) (ci := 2) (v := .ref (q 1)) (C := RX2) (T := TX2) (N := 11) hx hb hts fa_flowsFit_0 hown hK hP 0 rfl rfl 0 (by decide) (hts _ fa_flowsFit_1) (fun _ h9 => h9) rfl dX2_flowsFit_35 ?_
          refine va_get (D := (dC, dI)) (ci := 1) (v := .ref (q 4)) (C := RX1) (T := TX1) (N := 7) hx hb hts fa_flowsFit_2 hown hK hP 1 rfl rfl 3 (by decide) (hts _ fa_flowsFit_5) (fun _ h9 => h9) rfl dX2_flowsFit_38 ?_
          refine lv_iload_n hx hb dX2_flowsFit_41 rfl (lv_at hl 1 rfl) ?_
          refine va_iald (D := (dC, dI)) hx hb hK hP 4 0 rfl rfl (by first | assumption | exact vp_in_nI (by omega) (by omega)) dX2_flowsFit_42 ?_
          refine tp_i (y := cap i) (by rw [nI_clamp (n := i) (by omega)]) ?_
          refine lv_icmp_le (tgt := 48) hx hb dX2_flowsFit_43 (by decide) (fun c_43 => ?_) (fun c_43 => ?_)
          · refine lv_iinc (v := nI (i + 1)) (lv' := [(1, .int (nI (i + 1))), (0, .ref (q 0))]) hx hb dX2_flowsFit_48 hl (k := 1) rfl (by first | exact nI_1 _ | exact nI_add _ _) (by decide) rfl (fun ls hl => ?_)
            refine lv_goto (tgt := 2) hx hb dX2_flowsFit_51 (by decide) ?_
            exact ih_a (i + 1) (by first | assumption | omega | rfl) (lt_s hall ⟨c_22, c_43⟩) (by omega) _ (lv_sub hl [1, 0] rfl)
          · refine lv_iconst (v := 0) hx hb dX2_flowsFit_46 (by decide) ?_
            exact W.zret (v := 0) hx hb hr rfl (fun t ht _ => ⟨0, rfl, (Or.inr ⟨rfl, fun h => by first | exact (h i hlt).1 c_22 | exact c_43 (h i hlt).2⟩), ht⟩) (fun _ h => by cases h) dX2_flowsFit_47
  exact lo_a (E - 0 + 1) 0 (by first | assumption | omega | rfl) (fun e he => absurd he (Nat.not_lt_zero _)) (by omega) _ (lv_sub hl [1, 0] rfl)

theorem fa_nodesPassOn_0 : ∀ w ∈ wsX20, w ∈ wsX2_nodesPassOn := by decide +kernel
theorem fa_nodesPassOn_1 : Cond.fieldLink RX2 27 "FlowProofs" "net" "LFlowProofs$Net;" ∈ wsX2_nodesPassOn := by decide +kernel
theorem fa_nodesPassOn_2 : ∀ w ∈ wsX10, w ∈ wsX2_nodesPassOn := by decide +kernel
theorem fa_nodesPassOn_3 : Cond.fieldLink RX2 119 "FlowProofs$Net" "nodes" "I" ∈ wsX2_nodesPassOn := by decide +kernel
theorem fa_nodesPassOn_4 : Cond.fieldLink RX2 11 "FlowProofs" "source" "I" ∈ wsX2_nodesPassOn := by decide +kernel
theorem fa_nodesPassOn_5 : Cond.fieldLink RX2 15 "FlowProofs" "sink" "I" ∈ wsX2_nodesPassOn := by decide +kernel
set_option maxHeartbeats 4000000 in
set_option maxRecDepth 100000 in
theorem k_nodesPassOn (l : Launch) (dC : Nat → ClassId) (dI : Nat → Nat → Nat) (cI cJ cZ : ClassId) (q : Nat → Nat) (N M E : Nat) (fr to cap uc fl le fe lt ft wy : Nat → Int32) (wl src snk cir sol rd fw : Int32) (hE : E ≤ M) (hM : M < 1000) (hN : N < 1000) : Met l yX2_nodesPassOn wsX2_nodesPassOn ({ frames := 1, cells := 0, slots := 0, locals := 24 }) (va_Pc [.ref (q 0)] (fun U => va_P (dC, dI) vwCl [(q 0, .inr (2, [.ref (q 1), .ref (q 7), .ref (q 10), .ref (q 13), .int wl, .int src, .int snk, .int cir, .int sol, .int rd, .int fw])), (q 1, .inr (1, [.int (nI N), .ref (q 2), .ref (q 3), .ref (q 4), .ref (q 5), .ref (q 6), .int (nI E)])), (q 2, .inl (cI, M, .inl fr)), (q 3, .inl (cI, M, .inl to)), (q 4, .inl (cI, M, .inl cap)), (q 5, .inl (cI, M, .inl uc)), (q 6, .inl (cI, M, .inl fl))] U.heap ∧ va_K (dC, dI) vwCl [(cI, .int), (cJ, .long), (cZ, .boolean)] U)) (vp_Si (fun r => fq_b (fq_pas fr to fl N E src snk) r)) 0 0 (fun _ => False) := by
  refine Met.ofW (cc := cX2_nodesPassOn) (maxL := 2) (ret := (some .boolean)) (by decide) rfl ?_
  intro p e s m args below meth c s₁ B hml hv
  obtain ⟨rfl, hP, hK⟩ := hv
  have hx := B.exec
  have hb := B.bytes
  have hr := B.returns
  have hts := atoms_spec (ws := wsX2_nodesPassOn) B.pre
  have hown : s.vm.findClass RX2 = some m.cls := findClass_of_methodNamed B.named
  have hlocks := B.notSynchronized
  have hP : va_P (dC, dI) vwCl [(q 0, .inr (2, [.ref (q 1), .ref (q 7), .ref (q 10), .ref (q 13), .int wl, .int src, .int snk, .int cir, .int sol, .int rd, .int fw])), (q 1, .inr (1, [.int (nI N), .ref (q 2), .ref (q 3), .ref (q 4), .ref (q 5), .ref (q 6), .int (nI E)])), (q 2, .inl (cI, M, .inl fr)), (q 3, .inl (cI, M, .inl to)), (q 4, .inl (cI, M, .inl cap)), (q 5, .inl (cI, M, .inl uc)), (q 6, .inl (cI, M, .inl fl))] s.heap := hP
  have hl := lv_entry ([.ref (q 0)]) (n := 2) (Nat.le_of_ble_eq_true rfl)
  rw [lg_entry_eq]
  generalize (lg_sl ([.ref (q 0)]) ++ List.replicate (2 - (lg_sl ([.ref (q 0)])).length) Slot.unset).toArray = ls at hl ⊢
  have hl : lv_has ls 2 [(0, .ref (q 0))] := hl
  refine lv_iconst (v := 0) hx hb dX2_nodesPassOn_0 (by decide) ?_
  refine tp_i (y := nI 0) nI_0.symm ?_
  refine lv_istore_n (lv' := [(1, .int (nI 0)), (0, .ref (q 0))]) hx hb dX2_nodesPassOn_1 rfl hl (by decide) rfl (fun ls hl => ?_)
  have lo_a : ∀ (nf : Nat) (i : Nat) (hi : i ≤ N) (hall : ∀ v, v < i → nI v = src ∨ nI v = snk ∨ fp_sur fr to fl (nI v) E = 0) (hfu : N - i < nf) (ls : Array Slot) (hl : lv_has ls 2 [(0, .ref (q 0)), (1, .int (nI i))]), W p l e (headSpec wsX2_nodesPassOn ({ frames := 1, cells := 0, slots := 0, locals := 24 })).room s m ([.ref (q 0)] : List Value).toArray below meth c s.heap [] 0 0 (MQ below (vp_Si (fun r => fq_b (fq_pas fr to fl N E src snk) r)) ([.ref (q 0)] : List Value).toArray s 0 0 (fun _ => False)) (F0 m 2 ls [])
    := by
    intro nf
    induction nf with
    | zero => intro i hi hall hfu ls hl; exact absurd hfu (Nat.not_lt_zero _)
    | succ nf ih_a =>
      intro i hi hall hfu ls hl
      refine lv_iload_n hx hb dX2_nodesPassOn_2 rfl (lv_at hl 1 rfl) ?_
      refine lv_aload_n hx hb dX2_nodesPassOn_3 rfl (lv_at hl 0 rfl) ?_
      refine va_get (D := (dC, dI)) (ci := 2) (v := .ref (q 1)) (C := RX2) (T := TX2) (N := 11) hx hb hts fa_nodesPassOn_0 hown hK hP 0 rfl rfl 0 (by decide) (hts _ fa_nodesPassOn_1) (fun _ h9 => h9) rfl dX2_nodesPassOn_4 ?_
      refine va_get (D := (dC, dI)) (ci := 1) (v := .int (nI N)) (C := RX1) (T := TX1) (N := 7) hx hb hts fa_nodesPassOn_2 hown hK hP 1 rfl rfl 0 (by decide) (hts _ fa_nodesPassOn_3) (fun _ h9 => h9) rfl dX2_nodesPassOn_7 ?_
      refine lv_icmp_ge (tgt := 50) hx hb dX2_nodesPassOn_10 (by decide) (fun c_10 => ?_) (fun c_10 => ?_)
      · have hge := ix_ge (by omega) (by omega) c_10
        refine lv_iconst (v := 1) hx hb dX2_nodesPassOn_50 (by decide) ?_
        exact W.zret (v := 1) hx hb hr rfl (fun t ht _ => ⟨1, rfl, (Or.inl ⟨rfl, fun e he => hall e (by omega)⟩), ht⟩) (fun _ h => by cases h) dX2_nodesPassOn_51
      · have hlt := ix_lt (by omega) (by omega) c_10
        refine lv_iload_n hx hb dX2_nodesPassOn_13 rfl (lv_at hl 1 rfl) ?_
        refine lv_aload_n hx hb dX2_nodesPassOn_14 rfl (lv_at hl 0 rfl) ?_
        refine va_get (D := (dC, dI)) (ci := 2) (v := .int src) (C := RX2) (T := TX2) (N := 11) hx hb hts fa_nodesPassOn_0 hown hK hP 0 rfl rfl 5 (by decide) (hts _ fa_nodesPassOn_4) (fun _ h9 => h9) rfl dX2_nodesPassOn_15 ?_
        refine lv_icmp_eq (tgt := 44) hx hb dX2_nodesPassOn_18 (by decide) (fun c_18 => ?_) (fun c_18 => ?_)
        · refine lv_iinc (v := nI (i + 1)) (lv' := [(1, .int (nI (i + 1))), (0, .ref (q 0))]) hx hb dX2_nodesPassOn_44 hl (k := 1) rfl (by first | exact nI_1 _ | exact nI_add _ _) (by decide) rfl (fun ls hl => ?_)
          refine lv_goto (tgt := 2) hx hb dX2_nodesPassOn_47 (by decide) ?_
          exact ih_a (i + 1) (by first | assumption | omega | rfl) (lt_s hall (by first | exact Or.inl c_18 | exact Or.inr (Or.inl c_26) | exact Or.inr (Or.inr ((lg_cmp_eq _ _).mp c_39)))) (by omega) _ (lv_sub hl [1, 0] rfl)
        · refine lv_iload_n hx hb dX2_nodesPassOn_21 rfl (lv_at hl 1 rfl) ?_
          refine lv_aload_n hx hb dX2_nodesPassOn_22 rfl (lv_at hl 0 rfl) ?_
          refine va_get (D := (dC, dI)) (ci := 2) (v := .int snk) (C := RX2) (T := TX2) (N := 11) hx hb hts fa_nodesPassOn_0 hown hK hP 0 rfl rfl 6 (by decide) (hts _ fa_nodesPassOn_5) (fun _ h9 => h9) rfl dX2_nodesPassOn_23 ?_
          refine lv_icmp_eq (tgt := 44) hx hb dX2_nodesPassOn_26 (by decide) (fun c_26 => ?_) (fun c_26 => ?_)
          · refine lv_iinc (v := nI (i + 1)) (lv' := [(1, .int (nI (i + 1))), (0, .ref (q 0))]) hx hb dX2_nodesPassOn_44 hl (k := 1) rfl (by first | exact nI_1 _ | exact nI_add _ _) (by decide) rfl (fun ls hl => ?_)
            refine lv_goto (tgt := 2) hx hb dX2_nodesPassOn_47 (by decide) ?_
            exact ih_a (i + 1) (by first | assumption | omega | rfl) (lt_s hall (by first | exact Or.inl c_18 | exact Or.inr (Or.inl c_26) | exact Or.inr (Or.inr ((lg_cmp_eq _ _).mp c_39)))) (by omega) _ (lv_sub hl [1, 0] rfl)
          · refine lv_aload_n hx hb dX2_nodesPassOn_29 rfl (lv_at hl 0 rfl) ?_
            refine va_get (D := (dC, dI)) (ci := 2) (v := .ref (q 1)) (C := RX2) (T := TX2) (N := 11) hx hb hts fa_nodesPassOn_0 hown hK hP 0 rfl rfl 0 (by decide) (hts _ fa_nodesPassOn_1) (fun _ h9 => h9) rfl dX2_nodesPassOn_30 ?_
            refine lv_iload_n hx hb dX2_nodesPassOn_33 rfl (lv_at hl 1 rfl) ?_
            have hPc := hP.sub (ws' := [(q 1, .inr (1, [.int (nI N), .ref (q 2), .ref (q 3), .ref (q 4), .ref (q 5), .ref (q 6), .int (nI E)])), (q 2, .inl (cI, M, .inl fr)), (q 3, .inl (cI, M, .inl to)), (q 4, .inl (cI, M, .inl cap)), (q 5, .inl (cI, M, .inl uc)), (q 6, .inl (cI, M, .inl fl))]) [1, 2, 3, 4, 5, 6] rfl
            refine vp_callSl (W.runV (As := [.int (nI i)]) (rest := []) ⟨hx, hb, hml, hown, hts⟩ (k_surplus l dC dI cI cJ cZ q N M E fr to cap uc fl (nI i) hE hM) (cwV 1 hts gX2_nodesPassOn_X1_surplus rfl rfl rfl (by decide +kernel) ⟨Nat.le_of_ble_eq_true rfl, Nat.le_of_ble_eq_true rfl⟩) ⟨fun a U g mk q => by obtain ⟨q0, qP, qK⟩ := q; exact ⟨q0, qP, va_K.moved (u := U) (U := U.calling g mk a) (Vm.Alike.refl U.vm) qK⟩, va_recv hK hP (ci := 1) (q0 := 1) rfl rfl, fun U hU hW => ⟨rfl, by rw [hU]; exact hPc, va_K.moved hW.alike hK⟩⟩ rfl rfl hl.1 rfl (lv_room (Nat.le_of_ble_eq_true rfl)) dX2_nodesPassOn_34 ⟨Nat.le_of_ble_eq_true rfl, Nat.le_of_ble_eq_true rfl⟩) (fun r_34 hw_34 => ?_)
            subst hw_34
            refine lv_lconst (v := 0) hx hb dX2_nodesPassOn_37 (by decide) ?_
            refine W.lcmp hx hb dX2_nodesPassOn_38 ?_
            refine lv_if_eq (tgt := 44) hx hb dX2_nodesPassOn_39 (by decide) (fun c_39 => ?_) (fun c_39 => ?_)
            · refine lv_iinc (v := nI (i + 1)) (lv' := [(1, .int (nI (i + 1))), (0, .ref (q 0))]) hx hb dX2_nodesPassOn_44 hl (k := 1) rfl (by first | exact nI_1 _ | exact nI_add _ _) (by decide) rfl (fun ls hl => ?_)
              refine lv_goto (tgt := 2) hx hb dX2_nodesPassOn_47 (by decide) ?_
              exact ih_a (i + 1) (by first | assumption | omega | rfl) (lt_s hall (by first | exact Or.inl c_18 | exact Or.inr (Or.inl c_26) | exact Or.inr (Or.inr ((lg_cmp_eq _ _).mp c_39)))) (by omega) _ (lv_sub hl [1, 0] rfl)
            · refine lv_iconst (v := 0) hx hb dX2_nodesPassOn_42 (by decide) ?_
              exact W.zret (v := 0) hx hb hr rfl (fun t ht _ => ⟨0, rfl, (Or.inr ⟨rfl, fun h => by rcases h i hlt with h | h | h; exact c_18 h; exact c_26 h; exact c_39 ((lg_cmp_eq _ _).mpr h)⟩), ht⟩) (fun _ h => by cases h) dX2_nodesPassOn_43
  exact lo_a (N - 0 + 1) 0 (by first | assumption | omega | rfl) (fun e he => absurd he (Nat.not_lt_zero _)) (by omega) _ (lv_sub hl [1, 0] rfl)

theorem fa_cutIsTight_0 : ∀ w ∈ wsX20, w ∈ wsX2_cutIsTight := by decide +kernel
theorem fa_cutIsTight_1 : Cond.fieldLink RX2 27 "FlowProofs" "net" "LFlowProofs$Net;" ∈ wsX2_cutIsTight := by decide +kernel
theorem fa_cutIsTight_2 : ∀ w ∈ wsX10, w ∈ wsX2_cutIsTight := by decide +kernel
theorem fa_cutIsTight_3 : Cond.fieldLink RX2 122 "FlowProofs$Net" "edges" "I" ∈ wsX2_cutIsTight := by decide +kernel
theorem fa_cutIsTight_4 : Cond.fieldLink RX2 89 "FlowProofs" "flowing" "I" ∈ wsX2_cutIsTight := by decide +kernel
theorem fa_cutIsTight_5 : Cond.fieldLink RX2 36 "FlowProofs" "fromSource" "LFlowProofs$Distances;" ∈ wsX2_cutIsTight := by decide +kernel
theorem fa_cutIsTight_6 : Cond.fieldLink RX2 173 "FlowProofs$Net" "from" "[I" ∈ wsX2_cutIsTight := by decide +kernel
theorem fa_cutIsTight_7 : Cond.fieldLink RX2 176 "FlowProofs$Net" "to" "[I" ∈ wsX2_cutIsTight := by decide +kernel
theorem fa_cutIsTight_8 : Cond.fieldLink RX2 98 "FlowProofs$Net" "flow" "[I" ∈ wsX2_cutIsTight := by decide +kernel
theorem fa_cutIsTight_9 : Cond.fieldLink RX2 166 "FlowProofs$Net" "capacity" "[I" ∈ wsX2_cutIsTight := by decide +kernel
set_option maxHeartbeats 4000000 in
set_option maxRecDepth 100000 in
theorem k_cutIsTight (l : Launch) (dC : Nat → ClassId) (dI : Nat → Nat → Nat) (cI cJ cZ : ClassId) (q : Nat → Nat) (N M E : Nat) (fr to cap uc fl le fe lt ft wy : Nat → Int32) (wl src snk cir sol rd fw : Int32) (hE : E ≤ M) (hM : M < 1000) (hN : N < 1000) (hfr : ∀ e, e < E → vp_in (fr e) N) (hto : ∀ e, e < E → vp_in (to e) N) : Met l yX2_cutIsTight wsX2_cutIsTight ({ frames := 1, cells := 0, slots := 0, locals := 21 }) (va_Pc [.ref (q 0)] (fun U => va_P (dC, dI) vwCl [(q 0, .inr (2, [.ref (q 1), .ref (q 7), .ref (q 10), .ref (q 13), .int wl, .int src, .int snk, .int cir, .int sol, .int rd, .int fw])), (q 1, .inr (1, [.int (nI N), .ref (q 2), .ref (q 3), .ref (q 4), .ref (q 5), .ref (q 6), .int (nI E)])), (q 2, .inl (cI, M, .inl fr)), (q 3, .inl (cI, M, .inl to)), (q 4, .inl (cI, M, .inl cap)), (q 5, .inl (cI, M, .inl uc)), (q 6, .inl (cI, M, .inl fl)), (q 7, .inr (0, [.ref (q 8), .ref (q 9), .ref (q 1)])), (q 8, .inl (cI, N, .inl le)), (q 9, .inl (cI, N, .inl fe))] U.heap ∧ va_K (dC, dI) vwCl [(cI, .int), (cJ, .long), (cZ, .boolean)] U)) (vp_Si (fun r => fq_b (fq_cut fr to cap fl le E fw) r)) 0 0 (fun _ => False) := by
  refine Met.ofW (cc := cX2_cutIsTight) (maxL := 6) (ret := (some .boolean)) (by decide) rfl ?_
  intro p e s m args below meth c s₁ B hml hv
  obtain ⟨rfl, hP, hK⟩ := hv
  have hx := B.exec
  have hb := B.bytes
  have hr := B.returns
  have hts := atoms_spec (ws := wsX2_cutIsTight) B.pre
  have hown : s.vm.findClass RX2 = some m.cls := findClass_of_methodNamed B.named
  have hlocks := B.notSynchronized
  have hP : va_P (dC, dI) vwCl [(q 0, .inr (2, [.ref (q 1), .ref (q 7), .ref (q 10), .ref (q 13), .int wl, .int src, .int snk, .int cir, .int sol, .int rd, .int fw])), (q 1, .inr (1, [.int (nI N), .ref (q 2), .ref (q 3), .ref (q 4), .ref (q 5), .ref (q 6), .int (nI E)])), (q 2, .inl (cI, M, .inl fr)), (q 3, .inl (cI, M, .inl to)), (q 4, .inl (cI, M, .inl cap)), (q 5, .inl (cI, M, .inl uc)), (q 6, .inl (cI, M, .inl fl)), (q 7, .inr (0, [.ref (q 8), .ref (q 9), .ref (q 1)])), (q 8, .inl (cI, N, .inl le)), (q 9, .inl (cI, N, .inl fe))] s.heap := hP
  have hl := lv_entry ([.ref (q 0)]) (n := 6) (Nat.le_of_ble_eq_true rfl)
  rw [lg_entry_eq]
  generalize (lg_sl ([.ref (q 0)]) ++ List.replicate (6 - (lg_sl ([.ref (q 0)])).length) Slot.unset).toArray = ls at hl ⊢
  have hl : lv_has ls 6 [(0, .ref (q 0))] := hl
  refine lv_lconst (v := 0) hx hb dX2_cutIsTight_0 (by decide) ?_
  refine lv_lstore_n (lv' := [(1, .long 0), (0, .ref (q 0))]) hx hb dX2_cutIsTight_1 rfl hl (by decide) rfl (fun ls hl => ?_)
  refine lv_iconst (v := 0) hx hb dX2_cutIsTight_2 (by decide) ?_
  refine tp_i (y := nI 0) nI_0.symm ?_
  refine lv_istore_n (lv' := [(3, .int (nI 0)), (1, .long 0), (0, .ref (q 0))]) hx hb dX2_cutIsTight_3 rfl hl (by decide) rfl (fun ls hl => ?_)
  have lo_a : ∀ (nf : Nat) (i : Nat) (sm : Int64) (hi : i ≤ E) (hall : ∀ e, e < i → fq_cue fr to cap fl le e) (hsm : sm = fq_cap fr to cap le i) (hfu : E - i < nf) (ls : Array Slot) (hl : lv_has ls 6 [(0, .ref (q 0)), (1, .long sm), (3, .int (nI i))]), W p l e (headSpec wsX2_cutIsTight ({ frames := 1, cells := 0, slots := 0, locals := 21 })).room s m ([.ref (q 0)] : List Value).toArray below meth c s.heap [] 0 0 (MQ below (vp_Si (fun r => fq_b (fq_cut fr to cap fl le E fw) r)) ([.ref (q 0)] : List Value).toArray s 0 0 (fun _ => False)) (F0 m 4 ls [])
    := by
    intro nf
    induction nf with
    | zero => intro i sm hi hall hsm hfu ls hl; exact absurd hfu (Nat.not_lt_zero _)
    | succ nf ih_a =>
      intro i sm hi hall hsm hfu ls hl
      refine lv_iload_n hx hb dX2_cutIsTight_4 rfl (lv_at hl 2 rfl) ?_
      refine lv_aload_n hx hb dX2_cutIsTight_5 rfl (lv_at hl 0 rfl) ?_
      refine va_get (D := (dC, dI)) (ci := 2) (v := .ref (q 1)) (C := RX2) (T := TX2) (N := 11) hx hb hts fa_cutIsTight_0 hown hK hP 0 rfl rfl 0 (by decide) (hts _ fa_cutIsTight_1) (fun _ h9 => h9) rfl dX2_cutIsTight_6 ?_
      refine va_get (D := (dC, dI)) (ci := 1) (v := .int (nI E)) (C := RX1) (T := TX1) (N := 7) hx hb hts fa_cutIsTight_2 hown hK hP 1 rfl rfl 6 (by decide) (hts _ fa_cutIsTight_3) (fun _ h9 => h9) rfl dX2_cutIsTight_9 ?_
      refine lv_icmp_ge (tgt := 127) hx hb dX2_cutIsTight_12 (by decide) (fun c_12 => ?_) (fun c_12 => ?_)
      · have hge := ix_ge (by omega) (by omega) c_12
        obtain rfl : E = i := by omega
        refine lv_lload_n hx hb dX2_cutIsTight_127 rfl (lv_at hl 1 rfl) ?_
        refine lv_aload_n hx hb dX2_cutIsTight_128 rfl (lv_at hl 0 rfl) ?_
        refine va_get (D := (dC, dI)) (ci := 2) (v := .int fw) (C := RX2) (T := TX2) (N := 11) hx hb hts fa_cutIsTight_0 hown hK hP 0 rfl rfl 10 (by decide) (hts _ fa_cutIsTight_4) (fun _ h9 => h9) rfl dX2_cutIsTight_129 ?_
        refine lv_i2l hx hb dX2_cutIsTight_132 rfl ?_
        refine W.lcmp hx hb dX2_cutIsTight_133 ?_
        refine lv_if_ne (tgt := 141) hx hb dX2_cutIsTight_134 (by decide) (fun c_134 => ?_) (fun c_134 => ?_)
        · refine lv_iconst (v := 0) hx hb dX2_cutIsTight_141 (by decide) ?_
          exact W.zret (v := 0) hx hb hr rfl (fun t ht _ => ⟨0, rfl, (by first | exact Or.inr ⟨rfl, fun h => c_134 ((lg_cmp_eq _ _).mpr (hsm.trans h.2))⟩ | exact Or.inl ⟨rfl, hall, hsm.symm.trans ((lg_cmp_eq _ _).mp c_134)⟩), ht⟩) (fun _ h => by cases h) dX2_cutIsTight_142
        · refine lv_iconst (v := 1) hx hb dX2_cutIsTight_137 (by decide) ?_
          refine lv_goto (tgt := 142) hx hb dX2_cutIsTight_138 (by decide) ?_
          exact W.zret (v := 1) hx hb hr rfl (fun t ht _ => ⟨1, rfl, (by first | exact Or.inr ⟨rfl, fun h => c_134 ((lg_cmp_eq _ _).mpr (hsm.trans h.2))⟩ | exact Or.inl ⟨rfl, hall, hsm.symm.trans ((lg_cmp_eq _ _).mp c_134)⟩), ht⟩) (fun _ h => by cases h) dX2_cutIsTight_142
      · have hlt := ix_lt (by omega) (by omega) c_12
        have hbi := hfr i hlt
        have hei := hto i hlt
        refine lv_aload_n hx hb dX2_cutIsTight_15 rfl (lv_at hl 0 rfl) ?_
        refine va_get (D := (dC, dI)) (ci := 2) (v := .ref (q 7)) (C := RX2) (T := TX2) (N := 11) hx hb hts fa_cutIsTight_0 hown hK hP 0 rfl rfl 1 (by decide) (hts _ fa_cutIsTight_5) (fun _ h9 => h9) rfl dX2_cutIsTight_16 ?_
        refine lv_aload_n hx hb dX2_cutIsTight_19 rfl (lv_at hl 0 rfl) ?_
        refine va_get (D := (dC, dI)) (ci := 2) (v := .ref (q 1)) (C := RX2) (T := TX2) (N := 11) hx hb hts fa_cutIsTight_0 hown hK hP 0 rfl rfl 0 (by decide) (hts _ fa_cutIsTight_1) (fun _ h9 => h9) rfl dX2_cutIsTight_20 ?_
        refine va_get (D := (dC, dI)) (ci := 1) (v := .ref (q 2)) (C := RX1) (T := TX1) (N := 7) hx hb hts fa_cutIsTight_2 hown hK hP 1 rfl rfl 1 (by decide) (hts _ fa_cutIsTight_6) (fun _ h9 => h9) rfl dX2_cutIsTight_23 ?_
        refine lv_iload_n hx hb dX2_cutIsTight_26 rfl (lv_at hl 2 rfl) ?_
        refine va_iald (D := (dC, dI)) hx hb hK hP 2 0 rfl rfl (by first | assumption | exact vp_in_nI (by omega) (by omega)) dX2_cutIsTight_27 ?_
        refine tp_i (y := fr i) (by rw [nI_clamp (n := i) (by omega)]) ?_
        have hPc := hP.sub (ws' := [(q 7, .inr (0, [.ref (q 8), .ref (q 9), .ref (q 1)])), (q 8, .inl (cI, N, .inl le)), (q 9, .inl (cI, N, .inl fe))]) [7, 8, 9] rfl
        refine vp_callSi (W.runV (As := [.int (fr i)]) (rest := []) ⟨hx, hb, hml, hown, hts⟩ (k_reaches l dC dI cI cJ cZ (q 7) (q 8) (q 9) q N le fe (fr i) (by assumption)) (cwV 1 hts gX2_cutIsTight_X0_reaches rfl rfl rfl (by decide +kernel) ⟨Nat.le_of_ble_eq_true rfl, Nat.le_of_ble_eq_true rfl⟩) ⟨fun a U g mk q => by obtain ⟨q0, qP, qK⟩ := q; exact ⟨q0, qP, va_K.moved (u := U) (U := U.calling g mk a) (Vm.Alike.refl U.vm) qK⟩, va_recv hK hP (ci := 0) (q0 := 7) rfl rfl, fun U hU hW => ⟨rfl, by rw [hU]; exact hPc, va_K.moved hW.alike hK⟩⟩ rfl rfl hl.1 rfl (lv_room (Nat.le_of_ble_eq_true rfl)) dX2_cutIsTight_28 ⟨Nat.le_of_ble_eq_true rfl, Nat.le_of_ble_eq_true rfl⟩) (fun r_28 hw_28 => ?_)
        subst hw_28
        refine lv_istore (lv' := [(4, .int (if le ((fr i).toNatClampNeg) = 2147483647 then 0 else 1)), (0, .ref (q 0)), (1, .long sm), (3, .int (nI i))]) hx hb dX2_cutIsTight_31 hl (by decide) rfl (fun ls hl => ?_)
        refine lv_aload_n hx hb dX2_cutIsTight_33 rfl (lv_at hl 1 rfl) ?_
        refine va_get (D := (dC, dI)) (ci := 2) (v := .ref (q 7)) (C := RX2) (T := TX2) (N := 11) hx hb hts fa_cutIsTight_0 hown hK hP 0 rfl rfl 1 (by decide) (hts _ fa_cutIsTight_5) (fun _ h9 => h9) rfl dX2_cutIsTight_34 ?_
        refine lv_aload_n hx hb dX2_cutIsTight_37 rfl (lv_at hl 1 rfl) ?_
        refine va_get (D := (dC, dI)) (ci := 2) (v := .ref (q 1)) (C := RX2) (T := TX2) (N := 11) hx hb hts fa_cutIsTight_0 hown hK hP 0 rfl rfl 0 (by decide) (hts _ fa_cutIsTight_1) (fun _ h9 => h9) rfl dX2_cutIsTight_38 ?_
        refine va_get (D := (dC, dI)) (ci := 1) (v := .ref (q 3)) (C := RX1) (T := TX1) (N := 7) hx hb hts fa_cutIsTight_2 hown hK hP 1 rfl rfl 2 (by decide) (hts _ fa_cutIsTight_7) (fun _ h9 => h9) rfl dX2_cutIsTight_41 ?_
        refine lv_iload_n hx hb dX2_cutIsTight_44 rfl (lv_at hl 3 rfl) ?_
        refine va_iald (D := (dC, dI)) hx hb hK hP 3 0 rfl rfl (by first | assumption | exact vp_in_nI (by omega) (by omega)) dX2_cutIsTight_45 ?_
        refine tp_i (y := to i) (by rw [nI_clamp (n := i) (by omega)]) ?_
        have hPc := hP.sub (ws' := [(q 7, .inr (0, [.ref (q 8), .ref (q 9), .ref (q 1)])), (q 8, .inl (cI, N, .inl le)), (q 9, .inl (cI, N, .inl fe))]) [7, 8, 9] rfl
        refine vp_callSi (W.runV (As := [.int (to i)]) (rest := []) ⟨hx, hb, hml, hown, hts⟩ (k_reaches l dC dI cI cJ cZ (q 7) (q 8) (q 9) q N le fe (to i) (by assumption)) (cwV 1 hts gX2_cutIsTight_X0_reaches rfl rfl rfl (by decide +kernel) ⟨Nat.le_of_ble_eq_true rfl, Nat.le_of_ble_eq_true rfl⟩) ⟨fun a U g mk q => by obtain ⟨q0, qP, qK⟩ := q; exact ⟨q0, qP, va_K.moved (u := U) (U := U.calling g mk a) (Vm.Alike.refl U.vm) qK⟩, va_recv hK hP (ci := 0) (q0 := 7) rfl rfl, fun U hU hW => ⟨rfl, by rw [hU]; exact hPc, va_K.moved hW.alike hK⟩⟩ rfl rfl hl.1 rfl (lv_room (Nat.le_of_ble_eq_true rfl)) dX2_cutIsTight_46 ⟨Nat.le_of_ble_eq_true rfl, Nat.le_of_ble_eq_true rfl⟩) (fun r_46 hw_46 => ?_)
        subst hw_46
        refine lv_istore (lv' := [(5, .int (if le ((to i).toNatClampNeg) = 2147483647 then 0 else 1)), (4, .int (if le ((fr i).toNatClampNeg) = 2147483647 then 0 else 1)), (0, .ref (q 0)), (1, .long sm), (3, .int (nI i))]) hx hb dX2_cutIsTight_49 hl (by decide) rfl (fun ls hl => ?_)
        refine lv_iload hx hb dX2_cutIsTight_51 (lv_at hl 1 rfl) ?_
        refine lv_if_eq (tgt := 97) hx hb dX2_cutIsTight_53 (by decide) (fun c_53 => ?_) (fun c_53 => ?_)
        · have f53 := rch0 c_53
          refine lv_iload hx hb dX2_cutIsTight_97 (lv_at hl 1 rfl) ?_
          refine lv_if_ne (tgt := 121) hx hb dX2_cutIsTight_99 (by decide) (fun c_99 => ?_) (fun c_99 => ?_)
          · have f99 := rch1 c_99
            refine lv_iinc (v := nI (i + 1)) (lv' := [(3, .int (nI (i + 1))), (5, .int (if le ((to i).toNatClampNeg) = 2147483647 then 0 else 1)), (4, .int (if le ((fr i).toNatClampNeg) = 2147483647 then 0 else 1)), (0, .ref (q 0)), (1, .long sm)]) hx hb dX2_cutIsTight_121 hl (k := 4) rfl (by first | exact nI_1 _ | exact nI_add _ _) (by decide) rfl (fun ls hl => ?_)
            refine lv_goto (tgt := 4) hx hb dX2_cutIsTight_124 (by decide) ?_
            exact ih_a (i + 1) sm (by first | assumption | omega | rfl) (lt_s hall ⟨fun a b => by first | exact c_79 | exact absurd f53 a | exact absurd b f58 | exact absurd b f104 | exact absurd f99 a | exact absurd f99 f53 | exact absurd f53 f99, fun a b => by first | exact c_116 | exact absurd a f53 | exact absurd f104 b | exact absurd a f99 | exact absurd f53 f99 | exact absurd f99 f53⟩) (by first | exact absurd f53 f99 | exact absurd f99 f53 | (rw [fq_cap, if_pos ⟨f53, f58⟩, hsm]; done) | (rw [fq_cap, if_neg (fun h => h.1 f53), hsm]; done) | (rw [fq_cap, if_neg (fun h => f58 h.2), hsm]; done)) (by omega) _ (lv_sub hl [3, 4, 0] rfl)
          · have f99 := rch0 c_99
            refine lv_iload hx hb dX2_cutIsTight_102 (lv_at hl 0 rfl) ?_
            refine lv_if_eq (tgt := 121) hx hb dX2_cutIsTight_104 (by decide) (fun c_104 => ?_) (fun c_104 => ?_)
            · have f104 := rch0 c_104
              refine lv_iinc (v := nI (i + 1)) (lv' := [(3, .int (nI (i + 1))), (5, .int (if le ((to i).toNatClampNeg) = 2147483647 then 0 else 1)), (4, .int (if le ((fr i).toNatClampNeg) = 2147483647 then 0 else 1)), (0, .ref (q 0)), (1, .long sm)]) hx hb dX2_cutIsTight_121 hl (k := 4) rfl (by first | exact nI_1 _ | exact nI_add _ _) (by decide) rfl (fun ls hl => ?_)
              refine lv_goto (tgt := 4) hx hb dX2_cutIsTight_124 (by decide) ?_
              exact ih_a (i + 1) sm (by first | assumption | omega | rfl) (lt_s hall ⟨fun a b => by first | exact c_79 | exact absurd f53 a | exact absurd b f58 | exact absurd b f104 | exact absurd f99 a | exact absurd f99 f53 | exact absurd f53 f99, fun a b => by first | exact c_116 | exact absurd a f53 | exact absurd f104 b | exact absurd a f99 | exact absurd f53 f99 | exact absurd f99 f53⟩) (by first | exact absurd f53 f99 | exact absurd f99 f53 | (rw [fq_cap, if_pos ⟨f53, f58⟩, hsm]; done) | (rw [fq_cap, if_neg (fun h => h.1 f53), hsm]; done) | (rw [fq_cap, if_neg (fun h => f58 h.2), hsm]; done)) (by omega) _ (lv_sub hl [3, 4, 0] rfl)
            · have f104 := rch1 c_104
              refine lv_aload_n hx hb dX2_cutIsTight_107 rfl (lv_at hl 2 rfl) ?_
              refine va_get (D := (dC, dI)) (ci := 2) (v := .ref (q 1)) (C := RX2) (T := TX2) (N := 11) hx hb hts fa_cutIsTight_0 hown hK hP 0 rfl rfl 0 (by decide) (hts _ fa_cutIsTight_1) (fun _ h9 => h9) rfl dX2_cutIsTight_108 ?_
              refine va_get (D := (dC, dI)) (ci := 1) (v := .ref (q 6)) (C := RX1) (T := TX1) (N := 7) hx hb hts fa_cutIsTight_2 hown hK hP 1 rfl rfl 5 (by decide) (hts _ fa_cutIsTight_8) (fun _ h9 => h9) rfl dX2_cutIsTight_111 ?_
              refine lv_iload_n hx hb dX2_cutIsTight_114 rfl (lv_at hl 4 rfl) ?_
              refine va_iald (D := (dC, dI)) hx hb hK hP 6 0 rfl rfl (by first | assumption | exact vp_in_nI (by omega) (by omega)) dX2_cutIsTight_115 ?_
              refine tp_i (y := fl i) (by rw [nI_clamp (n := i) (by omega)]) ?_
              refine lv_if_eq (tgt := 121) hx hb dX2_cutIsTight_116 (by decide) (fun c_116 => ?_) (fun c_116 => ?_)
              · refine lv_iinc (v := nI (i + 1)) (lv' := [(3, .int (nI (i + 1))), (5, .int (if le ((to i).toNatClampNeg) = 2147483647 then 0 else 1)), (4, .int (if le ((fr i).toNatClampNeg) = 2147483647 then 0 else 1)), (0, .ref (q 0)), (1, .long sm)]) hx hb dX2_cutIsTight_121 hl (k := 4) rfl (by first | exact nI_1 _ | exact nI_add _ _) (by decide) rfl (fun ls hl => ?_)
                refine lv_goto (tgt := 4) hx hb dX2_cutIsTight_124 (by decide) ?_
                exact ih_a (i + 1) sm (by first | assumption | omega | rfl) (lt_s hall ⟨fun a b => by first | exact c_79 | exact absurd f53 a | exact absurd b f58 | exact absurd b f104 | exact absurd f99 a | exact absurd f99 f53 | exact absurd f53 f99, fun a b => by first | exact c_116 | exact absurd a f53 | exact absurd f104 b | exact absurd a f99 | exact absurd f53 f99 | exact absurd f99 f53⟩) (by first | exact absurd f53 f99 | exact absurd f99 f53 | (rw [fq_cap, if_pos ⟨f53, f58⟩, hsm]; done) | (rw [fq_cap, if_neg (fun h => h.1 f53), hsm]; done) | (rw [fq_cap, if_neg (fun h => f58 h.2), hsm]; done)) (by omega) _ (lv_sub hl [3, 4, 0] rfl)
              · refine lv_iconst (v := 0) hx hb dX2_cutIsTight_119 (by decide) ?_
                exact W.zret (v := 0) hx hb hr rfl (fun t ht _ => ⟨0, rfl, (by first | exact absurd f53 f99 | exact absurd f99 f53 | exact Or.inr ⟨rfl, fun h => c_116 ((h.1 i hlt).2 f53 f104)⟩), ht⟩) (fun _ h => by cases h) dX2_cutIsTight_120
        · have f53 := rch1 c_53
          refine lv_iload hx hb dX2_cutIsTight_56 (lv_at hl 0 rfl) ?_
          refine lv_if_ne (tgt := 97) hx hb dX2_cutIsTight_58 (by decide) (fun c_58 => ?_) (fun c_58 => ?_)
          · have f58 := rch1 c_58
            refine lv_iload hx hb dX2_cutIsTight_97 (lv_at hl 1 rfl) ?_
            refine lv_if_ne (tgt := 121) hx hb dX2_cutIsTight_99 (by decide) (fun c_99 => ?_) (fun c_99 => ?_)
            · have f99 := rch1 c_99
              refine lv_iinc (v := nI (i + 1)) (lv' := [(3, .int (nI (i + 1))), (5, .int (if le ((to i).toNatClampNeg) = 2147483647 then 0 else 1)), (4, .int (if le ((fr i).toNatClampNeg) = 2147483647 then 0 else 1)), (0, .ref (q 0)), (1, .long sm)]) hx hb dX2_cutIsTight_121 hl (k := 4) rfl (by first | exact nI_1 _ | exact nI_add _ _) (by decide) rfl (fun ls hl => ?_)
              refine lv_goto (tgt := 4) hx hb dX2_cutIsTight_124 (by decide) ?_
              exact ih_a (i + 1) sm (by first | assumption | omega | rfl) (lt_s hall ⟨fun a b => by first | exact c_79 | exact absurd f53 a | exact absurd b f58 | exact absurd b f104 | exact absurd f99 a | exact absurd f99 f53 | exact absurd f53 f99, fun a b => by first | exact c_116 | exact absurd a f53 | exact absurd f104 b | exact absurd a f99 | exact absurd f53 f99 | exact absurd f99 f53⟩) (by first | exact absurd f53 f99 | exact absurd f99 f53 | (rw [fq_cap, if_pos ⟨f53, f58⟩, hsm]; done) | (rw [fq_cap, if_neg (fun h => h.1 f53), hsm]; done) | (rw [fq_cap, if_neg (fun h => f58 h.2), hsm]; done)) (by omega) _ (lv_sub hl [3, 4, 0] rfl)
            · have f99 := rch0 c_99
              refine lv_iload hx hb dX2_cutIsTight_102 (lv_at hl 0 rfl) ?_
              refine lv_if_eq (tgt := 121) hx hb dX2_cutIsTight_104 (by decide) (fun c_104 => ?_) (fun c_104 => ?_)
              · have f104 := rch0 c_104
                refine lv_iinc (v := nI (i + 1)) (lv' := [(3, .int (nI (i + 1))), (5, .int (if le ((to i).toNatClampNeg) = 2147483647 then 0 else 1)), (4, .int (if le ((fr i).toNatClampNeg) = 2147483647 then 0 else 1)), (0, .ref (q 0)), (1, .long sm)]) hx hb dX2_cutIsTight_121 hl (k := 4) rfl (by first | exact nI_1 _ | exact nI_add _ _) (by decide) rfl (fun ls hl => ?_)
                refine lv_goto (tgt := 4) hx hb dX2_cutIsTight_124 (by decide) ?_
                exact ih_a (i + 1) sm (by first | assumption | omega | rfl) (lt_s hall ⟨fun a b => by first | exact c_79 | exact absurd f53 a | exact absurd b f58 | exact absurd b f104 | exact absurd f99 a | exact absurd f99 f53 | exact absurd f53 f99, fun a b => by first | exact c_116 | exact absurd a f53 | exact absurd f104 b | exact absurd a f99 | exact absurd f53 f99 | exact absurd f99 f53⟩) (by first | exact absurd f53 f99 | exact absurd f99 f53 | (rw [fq_cap, if_pos ⟨f53, f58⟩, hsm]; done) | (rw [fq_cap, if_neg (fun h => h.1 f53), hsm]; done) | (rw [fq_cap, if_neg (fun h => f58 h.2), hsm]; done)) (by omega) _ (lv_sub hl [3, 4, 0] rfl)
              · have f104 := rch1 c_104
                refine lv_aload_n hx hb dX2_cutIsTight_107 rfl (lv_at hl 2 rfl) ?_
                refine va_get (D := (dC, dI)) (ci := 2) (v := .ref (q 1)) (C := RX2) (T := TX2) (N := 11) hx hb hts fa_cutIsTight_0 hown hK hP 0 rfl rfl 0 (by decide) (hts _ fa_cutIsTight_1) (fun _ h9 => h9) rfl dX2_cutIsTight_108 ?_
                refine va_get (D := (dC, dI)) (ci := 1) (v := .ref (q 6)) (C := RX1) (T := TX1) (N := 7) hx hb hts fa_cutIsTight_2 hown hK hP 1 rfl rfl 5 (by decide) (hts _ fa_cutIsTight_8) (fun _ h9 => h9) rfl dX2_cutIsTight_111 ?_
                refine lv_iload_n hx hb dX2_cutIsTight_114 rfl (lv_at hl 4 rfl) ?_
                refine va_iald (D := (dC, dI)) hx hb hK hP 6 0 rfl rfl (by first | assumption | exact vp_in_nI (by omega) (by omega)) dX2_cutIsTight_115 ?_
                refine tp_i (y := fl i) (by rw [nI_clamp (n := i) (by omega)]) ?_
                refine lv_if_eq (tgt := 121) hx hb dX2_cutIsTight_116 (by decide) (fun c_116 => ?_) (fun c_116 => ?_)
                · refine lv_iinc (v := nI (i + 1)) (lv' := [(3, .int (nI (i + 1))), (5, .int (if le ((to i).toNatClampNeg) = 2147483647 then 0 else 1)), (4, .int (if le ((fr i).toNatClampNeg) = 2147483647 then 0 else 1)), (0, .ref (q 0)), (1, .long sm)]) hx hb dX2_cutIsTight_121 hl (k := 4) rfl (by first | exact nI_1 _ | exact nI_add _ _) (by decide) rfl (fun ls hl => ?_)
                  refine lv_goto (tgt := 4) hx hb dX2_cutIsTight_124 (by decide) ?_
                  exact ih_a (i + 1) sm (by first | assumption | omega | rfl) (lt_s hall ⟨fun a b => by first | exact c_79 | exact absurd f53 a | exact absurd b f58 | exact absurd b f104 | exact absurd f99 a | exact absurd f99 f53 | exact absurd f53 f99, fun a b => by first | exact c_116 | exact absurd a f53 | exact absurd f104 b | exact absurd a f99 | exact absurd f53 f99 | exact absurd f99 f53⟩) (by first | exact absurd f53 f99 | exact absurd f99 f53 | (rw [fq_cap, if_pos ⟨f53, f58⟩, hsm]; done) | (rw [fq_cap, if_neg (fun h => h.1 f53), hsm]; done) | (rw [fq_cap, if_neg (fun h => f58 h.2), hsm]; done)) (by omega) _ (lv_sub hl [3, 4, 0] rfl)
                · refine lv_iconst (v := 0) hx hb dX2_cutIsTight_119 (by decide) ?_
                  exact W.zret (v := 0) hx hb hr rfl (fun t ht _ => ⟨0, rfl, (by first | exact absurd f53 f99 | exact absurd f99 f53 | exact Or.inr ⟨rfl, fun h => c_116 ((h.1 i hlt).2 f53 f104)⟩), ht⟩) (fun _ h => by cases h) dX2_cutIsTight_120
          · have f58 := rch0 c_58
            refine lv_aload_n hx hb dX2_cutIsTight_61 rfl (lv_at hl 2 rfl) ?_
            refine va_get (D := (dC, dI)) (ci := 2) (v := .ref (q 1)) (C := RX2) (T := TX2) (N := 11) hx hb hts fa_cutIsTight_0 hown hK hP 0 rfl rfl 0 (by decide) (hts _ fa_cutIsTight_1) (fun _ h9 => h9) rfl dX2_cutIsTight_62 ?_
            refine va_get (D := (dC, dI)) (ci := 1) (v := .ref (q 6)) (C := RX1) (T := TX1) (N := 7) hx hb hts fa_cutIsTight_2 hown hK hP 1 rfl rfl 5 (by decide) (hts _ fa_cutIsTight_8) (fun _ h9 => h9) rfl dX2_cutIsTight_65 ?_
            refine lv_iload_n hx hb dX2_cutIsTight_68 rfl (lv_at hl 4 rfl) ?_
            refine va_iald (D := (dC, dI)) hx hb hK hP 6 0 rfl rfl (by first | assumption | exact vp_in_nI (by omega) (by omega)) dX2_cutIsTight_69 ?_
            refine tp_i (y := fl i) (by rw [nI_clamp (n := i) (by omega)]) ?_
            refine lv_aload_n hx hb dX2_cutIsTight_70 rfl (lv_at hl 2 rfl) ?_
            refine va_get (D := (dC, dI)) (ci := 2) (v := .ref (q 1)) (C := RX2) (T := TX2) (N := 11) hx hb hts fa_cutIsTight_0 hown hK hP 0 rfl rfl 0 (by decide) (hts _ fa_cutIsTight_1) (fun _ h9 => h9) rfl dX2_cutIsTight_71 ?_
            refine va_get (D := (dC, dI)) (ci := 1) (v := .ref (q 4)) (C := RX1) (T := TX1) (N := 7) hx hb hts fa_cutIsTight_2 hown hK hP 1 rfl rfl 3 (by decide) (hts _ fa_cutIsTight_9) (fun _ h9 => h9) rfl dX2_cutIsTight_74 ?_
            refine lv_iload_n hx hb dX2_cutIsTight_77 rfl (lv_at hl 4 rfl) ?_
            refine va_iald (D := (dC, dI)) hx hb hK hP 4 0 rfl rfl (by first | assumption | exact vp_in_nI (by omega) (by omega)) dX2_cutIsTight_78 ?_
            refine tp_i (y := cap i) (by rw [nI_clamp (n := i) (by omega)]) ?_
            refine lv_icmp_eq (tgt := 84) hx hb dX2_cutIsTight_79 (by decide) (fun c_79 => ?_) (fun c_79 => ?_)
            · refine lv_lload_n hx hb dX2_cutIsTight_84 rfl (lv_at hl 3 rfl) ?_
              refine lv_aload_n hx hb dX2_cutIsTight_85 rfl (lv_at hl 2 rfl) ?_
              refine va_get (D := (dC, dI)) (ci := 2) (v := .ref (q 1)) (C := RX2) (T := TX2) (N := 11) hx hb hts fa_cutIsTight_0 hown hK hP 0 rfl rfl 0 (by decide) (hts _ fa_cutIsTight_1) (fun _ h9 => h9) rfl dX2_cutIsTight_86 ?_
              refine va_get (D := (dC, dI)) (ci := 1) (v := .ref (q 4)) (C := RX1) (T := TX1) (N := 7) hx hb hts fa_cutIsTight_2 hown hK hP 1 rfl rfl 3 (by decide) (hts _ fa_cutIsTight_9) (fun _ h9 => h9) rfl dX2_cutIsTight_89 ?_
              refine lv_iload_n hx hb dX2_cutIsTight_92 rfl (lv_at hl 4 rfl) ?_
              refine va_iald (D := (dC, dI)) hx hb hK hP 4 0 rfl rfl (by first | assumption | exact vp_in_nI (by omega) (by omega)) dX2_cutIsTight_93 ?_
              refine tp_i (y := cap i) (by rw [nI_clamp (n := i) (by omega)]) ?_
              refine lv_i2l hx hb dX2_cutIsTight_94 rfl ?_
              refine lv_ladd hx hb dX2_cutIsTight_95 ?_
              refine lv_lstore_n (lv' := [(1, .long (sm + ((cap i).toInt64))), (5, .int (if le ((to i).toNatClampNeg) = 2147483647 then 0 else 1)), (4, .int (if le ((fr i).toNatClampNeg) = 2147483647 then 0 else 1)), (0, .ref (q 0)), (3, .int (nI i))]) hx hb dX2_cutIsTight_96 rfl hl (by decide) rfl (fun ls hl => ?_)
              refine lv_iload hx hb dX2_cutIsTight_97 (lv_at hl 2 rfl) ?_
              refine lv_if_ne (tgt := 121) hx hb dX2_cutIsTight_99 (by decide) (fun c_99 => ?_) (fun c_99 => ?_)
              · have f99 := rch1 c_99
                refine lv_iinc (v := nI (i + 1)) (lv' := [(3, .int (nI (i + 1))), (1, .long (sm + ((cap i).toInt64))), (5, .int (if le ((to i).toNatClampNeg) = 2147483647 then 0 else 1)), (4, .int (if le ((fr i).toNatClampNeg) = 2147483647 then 0 else 1)), (0, .ref (q 0))]) hx hb dX2_cutIsTight_121 hl (k := 4) rfl (by first | exact nI_1 _ | exact nI_add _ _) (by decide) rfl (fun ls hl => ?_)
                refine lv_goto (tgt := 4) hx hb dX2_cutIsTight_124 (by decide) ?_
                exact ih_a (i + 1) (sm + ((cap i).toInt64)) (by first | assumption | omega | rfl) (lt_s hall ⟨fun a b => by first | exact c_79 | exact absurd f53 a | exact absurd b f58 | exact absurd b f104 | exact absurd f99 a | exact absurd f99 f53 | exact absurd f53 f99, fun a b => by first | exact c_116 | exact absurd a f53 | exact absurd f104 b | exact absurd a f99 | exact absurd f53 f99 | exact absurd f99 f53⟩) (by first | exact absurd f53 f99 | exact absurd f99 f53 | (rw [fq_cap, if_pos ⟨f53, f58⟩, hsm]; done) | (rw [fq_cap, if_neg (fun h => h.1 f53), hsm]; done) | (rw [fq_cap, if_neg (fun h => f58 h.2), hsm]; done)) (by omega) _ (lv_sub hl [4, 1, 0] rfl)
              · have f99 := rch0 c_99
                refine lv_iload hx hb dX2_cutIsTight_102 (lv_at hl 1 rfl) ?_
                refine lv_if_eq (tgt := 121) hx hb dX2_cutIsTight_104 (by decide) (fun c_104 => ?_) (fun c_104 => ?_)
                · have f104 := rch0 c_104
                  refine lv_iinc (v := nI (i + 1)) (lv' := [(3, .int (nI (i + 1))), (1, .long (sm + ((cap i).toInt64))), (5, .int (if le ((to i).toNatClampNeg) = 2147483647 then 0 else 1)), (4, .int (if le ((fr i).toNatClampNeg) = 2147483647 then 0 else 1)), (0, .ref (q 0))]) hx hb dX2_cutIsTight_121 hl (k := 4) rfl (by first | exact nI_1 _ | exact nI_add _ _) (by decide) rfl (fun ls hl => ?_)
                  refine lv_goto (tgt := 4) hx hb dX2_cutIsTight_124 (by decide) ?_
                  exact ih_a (i + 1) (sm + ((cap i).toInt64)) (by first | assumption | omega | rfl) (lt_s hall ⟨fun a b => by first | exact c_79 | exact absurd f53 a | exact absurd b f58 | exact absurd b f104 | exact absurd f99 a | exact absurd f99 f53 | exact absurd f53 f99, fun a b => by first | exact c_116 | exact absurd a f53 | exact absurd f104 b | exact absurd a f99 | exact absurd f53 f99 | exact absurd f99 f53⟩) (by first | exact absurd f53 f99 | exact absurd f99 f53 | (rw [fq_cap, if_pos ⟨f53, f58⟩, hsm]; done) | (rw [fq_cap, if_neg (fun h => h.1 f53), hsm]; done) | (rw [fq_cap, if_neg (fun h => f58 h.2), hsm]; done)) (by omega) _ (lv_sub hl [4, 1, 0] rfl)
                · have f104 := rch1 c_104
                  refine lv_aload_n hx hb dX2_cutIsTight_107 rfl (lv_at hl 3 rfl) ?_
                  refine va_get (D := (dC, dI)) (ci := 2) (v := .ref (q 1)) (C := RX2) (T := TX2) (N := 11) hx hb hts fa_cutIsTight_0 hown hK hP 0 rfl rfl 0 (by decide) (hts _ fa_cutIsTight_1) (fun _ h9 => h9) rfl dX2_cutIsTight_108 ?_
                  refine va_get (D := (dC, dI)) (ci := 1) (v := .ref (q 6)) (C := RX1) (T := TX1) (N := 7) hx hb hts fa_cutIsTight_2 hown hK hP 1 rfl rfl 5 (by decide) (hts _ fa_cutIsTight_8) (fun _ h9 => h9) rfl dX2_cutIsTight_111 ?_
                  refine lv_iload_n hx hb dX2_cutIsTight_114 rfl (lv_at hl 4 rfl) ?_
                  refine va_iald (D := (dC, dI)) hx hb hK hP 6 0 rfl rfl (by first | assumption | exact vp_in_nI (by omega) (by omega)) dX2_cutIsTight_115 ?_
                  refine tp_i (y := fl i) (by rw [nI_clamp (n := i) (by omega)]) ?_
                  refine lv_if_eq (tgt := 121) hx hb dX2_cutIsTight_116 (by decide) (fun c_116 => ?_) (fun c_116 => ?_)
                  · refine lv_iinc (v := nI (i + 1)) (lv' := [(3, .int (nI (i + 1))), (1, .long (sm + ((cap i).toInt64))), (5, .int (if le ((to i).toNatClampNeg) = 2147483647 then 0 else 1)), (4, .int (if le ((fr i).toNatClampNeg) = 2147483647 then 0 else 1)), (0, .ref (q 0))]) hx hb dX2_cutIsTight_121 hl (k := 4) rfl (by first | exact nI_1 _ | exact nI_add _ _) (by decide) rfl (fun ls hl => ?_)
                    refine lv_goto (tgt := 4) hx hb dX2_cutIsTight_124 (by decide) ?_
                    exact ih_a (i + 1) (sm + ((cap i).toInt64)) (by first | assumption | omega | rfl) (lt_s hall ⟨fun a b => by first | exact c_79 | exact absurd f53 a | exact absurd b f58 | exact absurd b f104 | exact absurd f99 a | exact absurd f99 f53 | exact absurd f53 f99, fun a b => by first | exact c_116 | exact absurd a f53 | exact absurd f104 b | exact absurd a f99 | exact absurd f53 f99 | exact absurd f99 f53⟩) (by first | exact absurd f53 f99 | exact absurd f99 f53 | (rw [fq_cap, if_pos ⟨f53, f58⟩, hsm]; done) | (rw [fq_cap, if_neg (fun h => h.1 f53), hsm]; done) | (rw [fq_cap, if_neg (fun h => f58 h.2), hsm]; done)) (by omega) _ (lv_sub hl [4, 1, 0] rfl)
                  · refine lv_iconst (v := 0) hx hb dX2_cutIsTight_119 (by decide) ?_
                    exact W.zret (v := 0) hx hb hr rfl (fun t ht _ => ⟨0, rfl, (by first | exact absurd f53 f99 | exact absurd f99 f53 | exact Or.inr ⟨rfl, fun h => c_116 ((h.1 i hlt).2 f53 f104)⟩), ht⟩) (fun _ h => by cases h) dX2_cutIsTight_120
            · refine lv_iconst (v := 0) hx hb dX2_cutIsTight_82 (by decide) ?_
              exact W.zret (v := 0) hx hb hr rfl (fun t ht _ => ⟨0, rfl, (Or.inr ⟨rfl, fun h => c_79 ((h.1 i hlt).1 f53 f58)⟩), ht⟩) (fun _ h => by cases h) dX2_cutIsTight_83
  exact lo_a (E - 0 + 1) 0 0 (by first | assumption | omega | rfl) (fun e he => absurd he (Nat.not_lt_zero _)) rfl (by omega) _ (lv_sub hl [2, 1, 0] rfl)

theorem fa_potentialsHold_0 : ∀ w ∈ wsX20, w ∈ wsX2_potentialsHold := by decide +kernel
theorem fa_potentialsHold_1 : Cond.fieldLink RX2 27 "FlowProofs" "net" "LFlowProofs$Net;" ∈ wsX2_potentialsHold := by decide +kernel
theorem fa_potentialsHold_2 : Cond.fieldLink RX2 36 "FlowProofs" "fromSource" "LFlowProofs$Distances;" ∈ wsX2_potentialsHold := by decide +kernel
theorem fa_potentialsHold_3 : ∀ w ∈ wsX00, w ∈ wsX2_potentialsHold := by decide +kernel
theorem fa_potentialsHold_4 : Cond.fieldLink RX2 101 "FlowProofs$Distances" "least" "[I" ∈ wsX2_potentialsHold := by decide +kernel
set_option maxHeartbeats 4000000 in
set_option maxRecDepth 100000 in
theorem k_potentialsHold (l : Launch) (dC : Nat → ClassId) (dI : Nat → Nat → Nat) (cI cJ cZ : ClassId) (q : Nat → Nat) (N M E : Nat) (fr to cap uc fl le fe lt ft wy : Nat → Int32) (wl src snk cir sol rd fw : Int32) (hE : E ≤ M) (hM : M < 1000) (hN : N < 1000) (hfr : ∀ e, e < E → vp_in (fr e) N) (hto : ∀ e, e < E → vp_in (to e) N) : Met l yX2_potentialsHold wsX2_potentialsHold ({ frames := 2, cells := 0, slots := 0, locals := 42 }) (va_Pc [.ref (q 0)] (fun U => va_P (dC, dI) vwCl [(q 0, .inr (2, [.ref (q 1), .ref (q 7), .ref (q 10), .ref (q 13), .int wl, .int src, .int snk, .int cir, .int sol, .int rd, .int fw])), (q 1, .inr (1, [.int (nI N), .ref (q 2), .ref (q 3), .ref (q 4), .ref (q 5), .ref (q 6), .int (nI E)])), (q 2, .inl (cI, M, .inl fr)), (q 3, .inl (cI, M, .inl to)), (q 4, .inl (cI, M, .inl cap)), (q 5, .inl (cI, M, .inl uc)), (q 6, .inl (cI, M, .inl fl)), (q 7, .inr (0, [.ref (q 8), .ref (q 9), .ref (q 1)])), (q 8, .inl (cI, N, .inl le)), (q 9, .inl (cI, N, .inl fe))] U.heap ∧ va_K (dC, dI) vwCl [(cI, .int), (cJ, .long), (cZ, .boolean)] U)) (vp_Si (fun r => fq_b (fq_pot fr to cap uc fl le E) r)) 0 0 (fun _ => False) := by
  refine Met.ofW (cc := cX2_potentialsHold) (maxL := 4) (ret := (some .boolean)) (by decide) rfl ?_
  intro p e s m args below meth c s₁ B hml hv
  obtain ⟨rfl, hP, hK⟩ := hv
  have hx := B.exec
  have hb := B.bytes
  have hr := B.returns
  have hts := atoms_spec (ws := wsX2_potentialsHold) B.pre
  have hown : s.vm.findClass RX2 = some m.cls := findClass_of_methodNamed B.named
  have hlocks := B.notSynchronized
  have hP : va_P (dC, dI) vwCl [(q 0, .inr (2, [.ref (q 1), .ref (q 7), .ref (q 10), .ref (q 13), .int wl, .int src, .int snk, .int cir, .int sol, .int rd, .int fw])), (q 1, .inr (1, [.int (nI N), .ref (q 2), .ref (q 3), .ref (q 4), .ref (q 5), .ref (q 6), .int (nI E)])), (q 2, .inl (cI, M, .inl fr)), (q 3, .inl (cI, M, .inl to)), (q 4, .inl (cI, M, .inl cap)), (q 5, .inl (cI, M, .inl uc)), (q 6, .inl (cI, M, .inl fl)), (q 7, .inr (0, [.ref (q 8), .ref (q 9), .ref (q 1)])), (q 8, .inl (cI, N, .inl le)), (q 9, .inl (cI, N, .inl fe))] s.heap := hP
  have hl := lv_entry ([.ref (q 0)]) (n := 4) (Nat.le_of_ble_eq_true rfl)
  rw [lg_entry_eq]
  generalize (lg_sl ([.ref (q 0)]) ++ List.replicate (4 - (lg_sl ([.ref (q 0)])).length) Slot.unset).toArray = ls at hl ⊢
  have hl : lv_has ls 4 [(0, .ref (q 0))] := hl
  refine lv_iconst (v := 0) hx hb dX2_potentialsHold_0 (by decide) ?_
  refine tp_i (y := nI 0) nI_0.symm ?_
  refine lv_istore_n (lv' := [(1, .int (nI 0)), (0, .ref (q 0))]) hx hb dX2_potentialsHold_1 rfl hl (by decide) rfl (fun ls hl => ?_)
  have lo_a : ∀ (nf : Nat) (i : Nat) (hi : i ≤ 2 * E) (hall : ∀ a, a < i → fq_poa fr to cap uc fl le a) (hfu : 2 * E - i < nf) (ls : Array Slot) (hl : lv_has ls 4 [(0, .ref (q 0)), (1, .int (nI i))]), W p l e (headSpec wsX2_potentialsHold ({ frames := 2, cells := 0, slots := 0, locals := 42 })).room s m ([.ref (q 0)] : List Value).toArray below meth c s.heap [] 0 0 (MQ below (vp_Si (fun r => fq_b (fq_pot fr to cap uc fl le E) r)) ([.ref (q 0)] : List Value).toArray s 0 0 (fun _ => False)) (F0 m 2 ls [])
    := by
    intro nf
    induction nf with
    | zero => intro i hi hall hfu ls hl; exact absurd hfu (Nat.not_lt_zero _)
    | succ nf ih_a =>
      intro i hi hall hfu ls hl
      refine lv_iload_n hx hb dX2_potentialsHold_2 rfl (lv_at hl 1 rfl) ?_
      refine lv_aload_n hx hb dX2_potentialsHold_3 rfl (lv_at hl 0 rfl) ?_
      refine va_get (D := (dC, dI)) (ci := 2) (v := .ref (q 1)) (C := RX2) (T := TX2) (N := 11) hx hb hts fa_potentialsHold_0 hown hK hP 0 rfl rfl 0 (by decide) (hts _ fa_potentialsHold_1) (fun _ h9 => h9) rfl dX2_potentialsHold_4 ?_
      have hPc := hP.sub (ws' := [(q 1, .inr (1, [.int (nI N), .ref (q 2), .ref (q 3), .ref (q 4), .ref (q 5), .ref (q 6), .int (nI E)])), (q 2, .inl (cI, M, .inl fr)), (q 3, .inl (cI, M, .inl to)), (q 4, .inl (cI, M, .inl cap)), (q 5, .inl (cI, M, .inl uc)), (q 6, .inl (cI, M, .inl fl))]) [1, 2, 3, 4, 5, 6] rfl
      refine vp_callSi (W.runV (As := []) (rest := [.int (nI i)]) ⟨hx, hb, hml, hown, hts⟩ (k_arcs l dC dI cI cJ cZ q N M E fr to cap uc fl) (cwV 0 hts gX2_potentialsHold_X1_arcs rfl rfl rfl (by decide +kernel) ⟨Nat.le_of_ble_eq_true rfl, Nat.le_of_ble_eq_true rfl⟩) ⟨fun a U g mk q => by obtain ⟨q0, qP, qK⟩ := q; exact ⟨q0, qP, va_K.moved (u := U) (U := U.calling g mk a) (Vm.Alike.refl U.vm) qK⟩, va_recv hK hP (ci := 1) (q0 := 1) rfl rfl, fun U hU hW => ⟨rfl, by rw [hU]; exact hPc, va_K.moved hW.alike hK⟩⟩ rfl rfl hl.1 rfl (lv_room (Nat.le_of_ble_eq_true rfl)) dX2_potentialsHold_7 ⟨Nat.le_of_ble_eq_true rfl, Nat.le_of_ble_eq_true rfl⟩) (fun r_7 hw_7 => ?_)
      subst hw_7
      refine lv_icmp_ge (tgt := 105) hx hb dX2_potentialsHold_10 (by decide) (fun c_10 => ?_) (fun c_10 => ?_)
      · have hge := ix_ge (by omega) (by omega) c_10
        refine lv_iconst (v := 1) hx hb dX2_potentialsHold_105 (by decide) ?_
        exact W.zret (v := 1) hx hb hr rfl (fun t ht _ => ⟨1, rfl, (Or.inl ⟨rfl, fun e he => hall e (by omega)⟩), ht⟩) (fun _ h => by cases h) dX2_potentialsHold_106
      · have hlt := ix_lt (by omega) (by omega) c_10
        have hbi := bg_in hfr hto hlt
        have hei := en_in hfr hto hlt
        refine lv_aload_n hx hb dX2_potentialsHold_13 rfl (lv_at hl 0 rfl) ?_
        refine va_get (D := (dC, dI)) (ci := 2) (v := .ref (q 1)) (C := RX2) (T := TX2) (N := 11) hx hb hts fa_potentialsHold_0 hown hK hP 0 rfl rfl 0 (by decide) (hts _ fa_potentialsHold_1) (fun _ h9 => h9) rfl dX2_potentialsHold_14 ?_
        refine lv_iload_n hx hb dX2_potentialsHold_17 rfl (lv_at hl 1 rfl) ?_
        have hPc := hP.sub (ws' := [(q 1, .inr (1, [.int (nI N), .ref (q 2), .ref (q 3), .ref (q 4), .ref (q 5), .ref (q 6), .int (nI E)])), (q 2, .inl (cI, M, .inl fr)), (q 3, .inl (cI, M, .inl to)), (q 4, .inl (cI, M, .inl cap)), (q 5, .inl (cI, M, .inl uc)), (q 6, .inl (cI, M, .inl fl))]) [1, 2, 3, 4, 5, 6] rfl
        refine vp_callSi (W.runV (As := [.int (nI i)]) (rest := []) ⟨hx, hb, hml, hown, hts⟩ (k_begin l dC dI cI cJ cZ q N M E fr to cap uc fl i (by omega) hM) (cwV 1 hts gX2_potentialsHold_X1_begin rfl rfl rfl (by decide +kernel) ⟨Nat.le_of_ble_eq_true rfl, Nat.le_of_ble_eq_true rfl⟩) ⟨fun a U g mk q => by obtain ⟨q0, qP, qK⟩ := q; exact ⟨q0, qP, va_K.moved (u := U) (U := U.calling g mk a) (Vm.Alike.refl U.vm) qK⟩, va_recv hK hP (ci := 1) (q0 := 1) rfl rfl, fun U hU hW => ⟨rfl, by rw [hU]; exact hPc, va_K.moved hW.alike hK⟩⟩ rfl rfl hl.1 rfl (lv_room (Nat.le_of_ble_eq_true rfl)) dX2_potentialsHold_18 ⟨Nat.le_of_ble_eq_true rfl, Nat.le_of_ble_eq_true rfl⟩) (fun r_18 hw_18 => ?_)
        subst hw_18
        refine lv_istore_n (lv' := [(2, .int (fp_bg fr to i)), (0, .ref (q 0)), (1, .int (nI i))]) hx hb dX2_potentialsHold_21 rfl hl (by decide) rfl (fun ls hl => ?_)
        refine lv_aload_n hx hb dX2_potentialsHold_22 rfl (lv_at hl 1 rfl) ?_
        refine va_get (D := (dC, dI)) (ci := 2) (v := .ref (q 1)) (C := RX2) (T := TX2) (N := 11) hx hb hts fa_potentialsHold_0 hown hK hP 0 rfl rfl 0 (by decide) (hts _ fa_potentialsHold_1) (fun _ h9 => h9) rfl dX2_potentialsHold_23 ?_
        refine lv_iload_n hx hb dX2_potentialsHold_26 rfl (lv_at hl 2 rfl) ?_
        have hPc := hP.sub (ws' := [(q 1, .inr (1, [.int (nI N), .ref (q 2), .ref (q 3), .ref (q 4), .ref (q 5), .ref (q 6), .int (nI E)])), (q 2, .inl (cI, M, .inl fr)), (q 3, .inl (cI, M, .inl to)), (q 4, .inl (cI, M, .inl cap)), (q 5, .inl (cI, M, .inl uc)), (q 6, .inl (cI, M, .inl fl))]) [1, 2, 3, 4, 5, 6] rfl
        refine vp_callSi (W.runV (As := [.int (nI i)]) (rest := []) ⟨hx, hb, hml, hown, hts⟩ (k_end l dC dI cI cJ cZ q N M E fr to cap uc fl i (by omega) hM) (cwV 1 hts gX2_potentialsHold_X1_end rfl rfl rfl (by decide +kernel) ⟨Nat.le_of_ble_eq_true rfl, Nat.le_of_ble_eq_true rfl⟩) ⟨fun a U g mk q => by obtain ⟨q0, qP, qK⟩ := q; exact ⟨q0, qP, va_K.moved (u := U) (U := U.calling g mk a) (Vm.Alike.refl U.vm) qK⟩, va_recv hK hP (ci := 1) (q0 := 1) rfl rfl, fun U hU hW => ⟨rfl, by rw [hU]; exact hPc, va_K.moved hW.alike hK⟩⟩ rfl rfl hl.1 rfl (lv_room (Nat.le_of_ble_eq_true rfl)) dX2_potentialsHold_27 ⟨Nat.le_of_ble_eq_true rfl, Nat.le_of_ble_eq_true rfl⟩) (fun r_27 hw_27 => ?_)
        subst hw_27
        refine lv_istore_n (lv' := [(3, .int (fp_en fr to i)), (2, .int (fp_bg fr to i)), (0, .ref (q 0)), (1, .int (nI i))]) hx hb dX2_potentialsHold_30 rfl hl (by decide) rfl (fun ls hl => ?_)
        refine lv_aload_n hx hb dX2_potentialsHold_31 rfl (lv_at hl 2 rfl) ?_
        refine va_get (D := (dC, dI)) (ci := 2) (v := .ref (q 1)) (C := RX2) (T := TX2) (N := 11) hx hb hts fa_potentialsHold_0 hown hK hP 0 rfl rfl 0 (by decide) (hts _ fa_potentialsHold_1) (fun _ h9 => h9) rfl dX2_potentialsHold_32 ?_
        refine lv_iload_n hx hb dX2_potentialsHold_35 rfl (lv_at hl 3 rfl) ?_
        have hPc := hP.sub (ws' := [(q 1, .inr (1, [.int (nI N), .ref (q 2), .ref (q 3), .ref (q 4), .ref (q 5), .ref (q 6), .int (nI E)])), (q 2, .inl (cI, M, .inl fr)), (q 3, .inl (cI, M, .inl to)), (q 4, .inl (cI, M, .inl cap)), (q 5, .inl (cI, M, .inl uc)), (q 6, .inl (cI, M, .inl fl))]) [1, 2, 3, 4, 5, 6] rfl
        refine vp_callSi (W.runV (As := [.int (nI i)]) (rest := []) ⟨hx, hb, hml, hown, hts⟩ (k_left l dC dI cI cJ cZ q N M E fr to cap uc fl i (by omega) hM) (cwV 1 hts gX2_potentialsHold_X1_left rfl rfl rfl (by decide +kernel) ⟨Nat.le_of_ble_eq_true rfl, Nat.le_of_ble_eq_true rfl⟩) ⟨fun a U g mk q => by obtain ⟨q0, qP, qK⟩ := q; exact ⟨q0, qP, va_K.moved (u := U) (U := U.calling g mk a) (Vm.Alike.refl U.vm) qK⟩, va_recv hK hP (ci := 1) (q0 := 1) rfl rfl, fun U hU hW => ⟨rfl, by rw [hU]; exact hPc, va_K.moved hW.alike hK⟩⟩ rfl rfl hl.1 rfl (lv_room (Nat.le_of_ble_eq_true rfl)) dX2_potentialsHold_36 ⟨Nat.le_of_ble_eq_true rfl, Nat.le_of_ble_eq_true rfl⟩) (fun r_36 hw_36 => ?_)
        subst hw_36
        refine lv_if_le (tgt := 99) hx hb dX2_potentialsHold_39 (by decide) (fun c_39 => ?_) (fun c_39 => ?_)
        · refine lv_iinc (v := nI (i + 1)) (lv' := [(1, .int (nI (i + 1))), (3, .int (fp_en fr to i)), (2, .int (fp_bg fr to i)), (0, .ref (q 0))]) hx hb dX2_potentialsHold_99 hl (k := 3) rfl (by first | exact nI_1 _ | exact nI_add _ _) (by decide) rfl (fun ls hl => ?_)
          refine lv_goto (tgt := 2) hx hb dX2_potentialsHold_102 (by decide) ?_
          exact ih_a (i + 1) (by first | assumption | omega | rfl) (lt_s hall (fun h1 h2 h3 => by first | exact c_94 | exact absurd h1 (Int32.not_lt.mpr c_39) | exact absurd (rch0 c_50) h2 | exact absurd (rch0 c_61) h3)) (by omega) _ (lv_sub hl [3, 0] rfl)
        · refine lv_aload_n hx hb dX2_potentialsHold_42 rfl (lv_at hl 2 rfl) ?_
          refine va_get (D := (dC, dI)) (ci := 2) (v := .ref (q 7)) (C := RX2) (T := TX2) (N := 11) hx hb hts fa_potentialsHold_0 hown hK hP 0 rfl rfl 1 (by decide) (hts _ fa_potentialsHold_2) (fun _ h9 => h9) rfl dX2_potentialsHold_43 ?_
          refine lv_iload_n hx hb dX2_potentialsHold_46 rfl (lv_at hl 1 rfl) ?_
          have hPc := hP.sub (ws' := [(q 7, .inr (0, [.ref (q 8), .ref (q 9), .ref (q 1)])), (q 8, .inl (cI, N, .inl le)), (q 9, .inl (cI, N, .inl fe))]) [7, 8, 9] rfl
          refine vp_callSi (W.runV (As := [.int (fp_bg fr to i)]) (rest := []) ⟨hx, hb, hml, hown, hts⟩ (k_reaches l dC dI cI cJ cZ (q 7) (q 8) (q 9) q N le fe (fp_bg fr to i) (by assumption)) (cwV 1 hts gX2_potentialsHold_X0_reaches rfl rfl rfl (by decide +kernel) ⟨Nat.le_of_ble_eq_true rfl, Nat.le_of_ble_eq_true rfl⟩) ⟨fun a U g mk q => by obtain ⟨q0, qP, qK⟩ := q; exact ⟨q0, qP, va_K.moved (u := U) (U := U.calling g mk a) (Vm.Alike.refl U.vm) qK⟩, va_recv hK hP (ci := 0) (q0 := 7) rfl rfl, fun U hU hW => ⟨rfl, by rw [hU]; exact hPc, va_K.moved hW.alike hK⟩⟩ rfl rfl hl.1 rfl (lv_room (Nat.le_of_ble_eq_true rfl)) dX2_potentialsHold_47 ⟨Nat.le_of_ble_eq_true rfl, Nat.le_of_ble_eq_true rfl⟩) (fun r_47 hw_47 => ?_)
          subst hw_47
          refine lv_if_eq (tgt := 99) hx hb dX2_potentialsHold_50 (by decide) (fun c_50 => ?_) (fun c_50 => ?_)
          · refine lv_iinc (v := nI (i + 1)) (lv' := [(1, .int (nI (i + 1))), (3, .int (fp_en fr to i)), (2, .int (fp_bg fr to i)), (0, .ref (q 0))]) hx hb dX2_potentialsHold_99 hl (k := 3) rfl (by first | exact nI_1 _ | exact nI_add _ _) (by decide) rfl (fun ls hl => ?_)
            refine lv_goto (tgt := 2) hx hb dX2_potentialsHold_102 (by decide) ?_
            exact ih_a (i + 1) (by first | assumption | omega | rfl) (lt_s hall (fun h1 h2 h3 => by first | exact c_94 | exact absurd h1 (Int32.not_lt.mpr c_39) | exact absurd (rch0 c_50) h2 | exact absurd (rch0 c_61) h3)) (by omega) _ (lv_sub hl [3, 0] rfl)
          · refine lv_aload_n hx hb dX2_potentialsHold_53 rfl (lv_at hl 2 rfl) ?_
            refine va_get (D := (dC, dI)) (ci := 2) (v := .ref (q 7)) (C := RX2) (T := TX2) (N := 11) hx hb hts fa_potentialsHold_0 hown hK hP 0 rfl rfl 1 (by decide) (hts _ fa_potentialsHold_2) (fun _ h9 => h9) rfl dX2_potentialsHold_54 ?_
            refine lv_iload_n hx hb dX2_potentialsHold_57 rfl (lv_at hl 0 rfl) ?_
            have hPc := hP.sub (ws' := [(q 7, .inr (0, [.ref (q 8), .ref (q 9), .ref (q 1)])), (q 8, .inl (cI, N, .inl le)), (q 9, .inl (cI, N, .inl fe))]) [7, 8, 9] rfl
            refine vp_callSi (W.runV (As := [.int (fp_en fr to i)]) (rest := []) ⟨hx, hb, hml, hown, hts⟩ (k_reaches l dC dI cI cJ cZ (q 7) (q 8) (q 9) q N le fe (fp_en fr to i) (by assumption)) (cwV 1 hts gX2_potentialsHold_X0_reaches rfl rfl rfl (by decide +kernel) ⟨Nat.le_of_ble_eq_true rfl, Nat.le_of_ble_eq_true rfl⟩) ⟨fun a U g mk q => by obtain ⟨q0, qP, qK⟩ := q; exact ⟨q0, qP, va_K.moved (u := U) (U := U.calling g mk a) (Vm.Alike.refl U.vm) qK⟩, va_recv hK hP (ci := 0) (q0 := 7) rfl rfl, fun U hU hW => ⟨rfl, by rw [hU]; exact hPc, va_K.moved hW.alike hK⟩⟩ rfl rfl hl.1 rfl (lv_room (Nat.le_of_ble_eq_true rfl)) dX2_potentialsHold_58 ⟨Nat.le_of_ble_eq_true rfl, Nat.le_of_ble_eq_true rfl⟩) (fun r_58 hw_58 => ?_)
            subst hw_58
            refine lv_if_ne (tgt := 67) hx hb dX2_potentialsHold_61 (by decide) (fun c_61 => ?_) (fun c_61 => ?_)
            · refine lv_aload_n hx hb dX2_potentialsHold_67 rfl (lv_at hl 2 rfl) ?_
              refine va_get (D := (dC, dI)) (ci := 2) (v := .ref (q 7)) (C := RX2) (T := TX2) (N := 11) hx hb hts fa_potentialsHold_0 hown hK hP 0 rfl rfl 1 (by decide) (hts _ fa_potentialsHold_2) (fun _ h9 => h9) rfl dX2_potentialsHold_68 ?_
              refine va_get (D := (dC, dI)) (ci := 0) (v := .ref (q 8)) (C := RX0) (T := TX0) (N := 3) hx hb hts fa_potentialsHold_3 hown hK hP 7 rfl rfl 0 (by decide) (hts _ fa_potentialsHold_4) (fun _ h9 => h9) rfl dX2_potentialsHold_71 ?_
              refine lv_iload_n hx hb dX2_potentialsHold_74 rfl (lv_at hl 1 rfl) ?_
              refine va_iald (D := (dC, dI)) hx hb hK hP 8 0 rfl rfl (by first | assumption | exact vp_in_nI (by omega) (by omega)) dX2_potentialsHold_75 ?_
              refine lv_aload_n hx hb dX2_potentialsHold_76 rfl (lv_at hl 2 rfl) ?_
              refine va_get (D := (dC, dI)) (ci := 2) (v := .ref (q 1)) (C := RX2) (T := TX2) (N := 11) hx hb hts fa_potentialsHold_0 hown hK hP 0 rfl rfl 0 (by decide) (hts _ fa_potentialsHold_1) (fun _ h9 => h9) rfl dX2_potentialsHold_77 ?_
              refine lv_iload_n hx hb dX2_potentialsHold_80 rfl (lv_at hl 3 rfl) ?_
              have hPc := hP.sub (ws' := [(q 1, .inr (1, [.int (nI N), .ref (q 2), .ref (q 3), .ref (q 4), .ref (q 5), .ref (q 6), .int (nI E)])), (q 2, .inl (cI, M, .inl fr)), (q 3, .inl (cI, M, .inl to)), (q 4, .inl (cI, M, .inl cap)), (q 5, .inl (cI, M, .inl uc)), (q 6, .inl (cI, M, .inl fl))]) [1, 2, 3, 4, 5, 6] rfl
              refine vp_callSi (W.runV (As := [.int (nI i)]) (rest := [.int (le (fp_bg fr to i).toNatClampNeg)]) ⟨hx, hb, hml, hown, hts⟩ (k_price l dC dI cI cJ cZ q N M E fr to cap uc fl i (by omega) hM) (cwV 1 hts gX2_potentialsHold_X1_price rfl rfl rfl (by decide +kernel) ⟨Nat.le_of_ble_eq_true rfl, Nat.le_of_ble_eq_true rfl⟩) ⟨fun a U g mk q => by obtain ⟨q0, qP, qK⟩ := q; exact ⟨q0, qP, va_K.moved (u := U) (U := U.calling g mk a) (Vm.Alike.refl U.vm) qK⟩, va_recv hK hP (ci := 1) (q0 := 1) rfl rfl, fun U hU hW => ⟨rfl, by rw [hU]; exact hPc, va_K.moved hW.alike hK⟩⟩ rfl rfl hl.1 rfl (lv_room (Nat.le_of_ble_eq_true rfl)) dX2_potentialsHold_81 ⟨Nat.le_of_ble_eq_true rfl, Nat.le_of_ble_eq_true rfl⟩) (fun r_81 hw_81 => ?_)
              subst hw_81
              refine lv_iadd hx hb dX2_potentialsHold_84 ?_
              refine lv_aload_n hx hb dX2_potentialsHold_85 rfl (lv_at hl 2 rfl) ?_
              refine va_get (D := (dC, dI)) (ci := 2) (v := .ref (q 7)) (C := RX2) (T := TX2) (N := 11) hx hb hts fa_potentialsHold_0 hown hK hP 0 rfl rfl 1 (by decide) (hts _ fa_potentialsHold_2) (fun _ h9 => h9) rfl dX2_potentialsHold_86 ?_
              refine va_get (D := (dC, dI)) (ci := 0) (v := .ref (q 8)) (C := RX0) (T := TX0) (N := 3) hx hb hts fa_potentialsHold_3 hown hK hP 7 rfl rfl 0 (by decide) (hts _ fa_potentialsHold_4) (fun _ h9 => h9) rfl dX2_potentialsHold_89 ?_
              refine lv_iload_n hx hb dX2_potentialsHold_92 rfl (lv_at hl 0 rfl) ?_
              refine va_iald (D := (dC, dI)) hx hb hK hP 8 0 rfl rfl (by first | assumption | exact vp_in_nI (by omega) (by omega)) dX2_potentialsHold_93 ?_
              refine lv_icmp_ge (tgt := 99) hx hb dX2_potentialsHold_94 (by decide) (fun c_94 => ?_) (fun c_94 => ?_)
              · refine lv_iinc (v := nI (i + 1)) (lv' := [(1, .int (nI (i + 1))), (3, .int (fp_en fr to i)), (2, .int (fp_bg fr to i)), (0, .ref (q 0))]) hx hb dX2_potentialsHold_99 hl (k := 3) rfl (by first | exact nI_1 _ | exact nI_add _ _) (by decide) rfl (fun ls hl => ?_)
                refine lv_goto (tgt := 2) hx hb dX2_potentialsHold_102 (by decide) ?_
                exact ih_a (i + 1) (by first | assumption | omega | rfl) (lt_s hall (fun h1 h2 h3 => by first | exact c_94 | exact absurd h1 (Int32.not_lt.mpr c_39) | exact absurd (rch0 c_50) h2 | exact absurd (rch0 c_61) h3)) (by omega) _ (lv_sub hl [3, 0] rfl)
              · refine lv_iconst (v := 0) hx hb dX2_potentialsHold_97 (by decide) ?_
                exact W.zret (v := 0) hx hb hr rfl (fun t ht _ => ⟨0, rfl, (Or.inr ⟨rfl, fun h => c_94 (h i hlt (Int32.not_le.mp c_39) (rch1 c_50) (rch1 c_61))⟩), ht⟩) (fun _ h => by cases h) dX2_potentialsHold_98
            · refine lv_goto (tgt := 99) hx hb dX2_potentialsHold_64 (by decide) ?_
              refine lv_iinc (v := nI (i + 1)) (lv' := [(1, .int (nI (i + 1))), (3, .int (fp_en fr to i)), (2, .int (fp_bg fr to i)), (0, .ref (q 0))]) hx hb dX2_potentialsHold_99 hl (k := 3) rfl (by first | exact nI_1 _ | exact nI_add _ _) (by decide) rfl (fun ls hl => ?_)
              refine lv_goto (tgt := 2) hx hb dX2_potentialsHold_102 (by decide) ?_
              exact ih_a (i + 1) (by first | assumption | omega | rfl) (lt_s hall (fun h1 h2 h3 => by first | exact c_94 | exact absurd h1 (Int32.not_lt.mpr c_39) | exact absurd (rch0 c_50) h2 | exact absurd (rch0 c_61) h3)) (by omega) _ (lv_sub hl [3, 0] rfl)
  exact lo_a (2 * E - 0 + 1) 0 (by first | assumption | omega | rfl) (fun e he => absurd he (Nat.not_lt_zero _)) (by omega) _ (lv_sub hl [1, 0] rfl)

theorem fa_check_0 : ∀ w ∈ wsX20, w ∈ wsX2_check := by decide +kernel
theorem fa_check_1 : Cond.fieldLink RX2 76 "FlowProofs" "solved" "Z" ∈ wsX2_check := by decide +kernel
set_option maxHeartbeats 4000000 in
set_option maxRecDepth 100000 in
theorem k_check (l : Launch) (dC : Nat → ClassId) (dI : Nat → Nat → Nat) (cI cJ cZ : ClassId) (q : Nat → Nat) (N M E : Nat) (fr to cap uc fl le fe lt ft wy : Nat → Int32) (wl src snk cir sol rd fw : Int32) (hE : E ≤ M) (hM : M < 1000) (hN : N < 1000) (hfr : ∀ e, e < E → vp_in (fr e) N) (hto : ∀ e, e < E → vp_in (to e) N) : Met l yX2_check wsX2_check ({ frames := 3, cells := 0, slots := 0, locals := 65 }) (va_Pc [.ref (q 0)] (fun U => va_P (dC, dI) vwCl [(q 0, .inr (2, [.ref (q 1), .ref (q 7), .ref (q 10), .ref (q 13), .int wl, .int src, .int snk, .int cir, .int sol, .int rd, .int fw])), (q 1, .inr (1, [.int (nI N), .ref (q 2), .ref (q 3), .ref (q 4), .ref (q 5), .ref (q 6), .int (nI E)])), (q 2, .inl (cI, M, .inl fr)), (q 3, .inl (cI, M, .inl to)), (q 4, .inl (cI, M, .inl cap)), (q 5, .inl (cI, M, .inl uc)), (q 6, .inl (cI, M, .inl fl)), (q 7, .inr (0, [.ref (q 8), .ref (q 9), .ref (q 1)])), (q 8, .inl (cI, N, .inl le)), (q 9, .inl (cI, N, .inl fe))] U.heap ∧ va_K (dC, dI) vwCl [(cI, .int), (cJ, .long), (cZ, .boolean)] U)) (vp_Si (fun r => fq_b (fq_ck fr to cap uc fl le N E src snk sol fw) r)) 0 0 (fun _ => False) := by
  refine Met.ofW (cc := cX2_check) (maxL := 1) (ret := (some .boolean)) (by decide) rfl ?_
  intro p e s m args below meth c s₁ B hml hv
  obtain ⟨rfl, hP, hK⟩ := hv
  have hx := B.exec
  have hb := B.bytes
  have hr := B.returns
  have hts := atoms_spec (ws := wsX2_check) B.pre
  have hown : s.vm.findClass RX2 = some m.cls := findClass_of_methodNamed B.named
  have hlocks := B.notSynchronized
  have hP : va_P (dC, dI) vwCl [(q 0, .inr (2, [.ref (q 1), .ref (q 7), .ref (q 10), .ref (q 13), .int wl, .int src, .int snk, .int cir, .int sol, .int rd, .int fw])), (q 1, .inr (1, [.int (nI N), .ref (q 2), .ref (q 3), .ref (q 4), .ref (q 5), .ref (q 6), .int (nI E)])), (q 2, .inl (cI, M, .inl fr)), (q 3, .inl (cI, M, .inl to)), (q 4, .inl (cI, M, .inl cap)), (q 5, .inl (cI, M, .inl uc)), (q 6, .inl (cI, M, .inl fl)), (q 7, .inr (0, [.ref (q 8), .ref (q 9), .ref (q 1)])), (q 8, .inl (cI, N, .inl le)), (q 9, .inl (cI, N, .inl fe))] s.heap := hP
  have hl := lv_entry ([.ref (q 0)]) (n := 1) (Nat.le_of_ble_eq_true rfl)
  rw [lg_entry_eq]
  generalize (lg_sl ([.ref (q 0)]) ++ List.replicate (1 - (lg_sl ([.ref (q 0)])).length) Slot.unset).toArray = ls at hl ⊢
  have hl : lv_has ls 1 [(0, .ref (q 0))] := hl
  refine lv_aload_n hx hb dX2_check_0 rfl (lv_at hl 0 rfl) ?_
  refine va_get (D := (dC, dI)) (ci := 2) (v := .int sol) (C := RX2) (T := TX2) (N := 11) hx hb hts fa_check_0 hown hK hP 0 rfl rfl 8 (by decide) (hts _ fa_check_1) (fun _ h9 => h9) rfl dX2_check_1 ?_
  refine lv_if_eq (tgt := 39) hx hb dX2_check_4 (by decide) (fun c_4 => ?_) (fun c_4 => ?_)
  · refine lv_iconst (v := 0) hx hb dX2_check_39 (by decide) ?_
    exact W.zret (v := 0) hx hb hr rfl (fun t ht _ => ⟨0, rfl, (by first | exact Or.inr ⟨rfl, fun h => h.1 c_4⟩ | exact Or.inr ⟨rfl, fun h => fq_b0 hw_8 c_11 h.2.1⟩ | exact Or.inr ⟨rfl, fun h => fq_b0 hw_15 c_18 h.2.2.1⟩ | exact Or.inr ⟨rfl, fun h => fq_b0 hw_22 c_25 h.2.2.2.1⟩ | exact Or.inr ⟨rfl, fun h => fq_b0 hw_29 c_32 h.2.2.2.2⟩ | exact Or.inl ⟨rfl, c_4, fq_b1 hw_8 c_11, fq_b1 hw_15 c_18, fq_b1 hw_22 c_25, fq_b1 hw_29 c_32⟩), ht⟩) (fun _ h => by cases h) dX2_check_40
  · refine lv_aload_n hx hb dX2_check_7 rfl (lv_at hl 0 rfl) ?_
    have hPc := hP.sub (ws' := [(q 0, .inr (2, [.ref (q 1), .ref (q 7), .ref (q 10), .ref (q 13), .int wl, .int src, .int snk, .int cir, .int sol, .int rd, .int fw])), (q 1, .inr (1, [.int (nI N), .ref (q 2), .ref (q 3), .ref (q 4), .ref (q 5), .ref (q 6), .int (nI E)])), (q 2, .inl (cI, M, .inl fr)), (q 3, .inl (cI, M, .inl to)), (q 4, .inl (cI, M, .inl cap)), (q 5, .inl (cI, M, .inl uc)), (q 6, .inl (cI, M, .inl fl))]) [0, 1, 2, 3, 4, 5, 6] rfl
    refine vp_callSi (W.runV (As := []) (rest := []) ⟨hx, hb, hml, hown, hts⟩ (k_flowsFit l dC dI cI cJ cZ q N M E fr to cap uc fl le fe lt ft wy wl src snk cir sol rd fw hE hM) (cwV 0 hts gX2_check_X2_flowsFit rfl rfl rfl (by decide +kernel) ⟨Nat.le_of_ble_eq_true rfl, Nat.le_of_ble_eq_true rfl⟩) ⟨fun a U g mk q => by obtain ⟨q0, qP, qK⟩ := q; exact ⟨q0, qP, va_K.moved (u := U) (U := U.calling g mk a) (Vm.Alike.refl U.vm) qK⟩, va_recv hK hP (ci := 2) (q0 := 0) rfl rfl, fun U hU hW => ⟨rfl, by rw [hU]; exact hPc, va_K.moved hW.alike hK⟩⟩ rfl rfl hl.1 rfl (lv_room (Nat.le_of_ble_eq_true rfl)) dX2_check_8 ⟨Nat.le_of_ble_eq_true rfl, Nat.le_of_ble_eq_true rfl⟩) (fun r_8 hw_8 => ?_)
    refine lv_if_eq (tgt := 39) hx hb dX2_check_11 (by decide) (fun c_11 => ?_) (fun c_11 => ?_)
    · refine lv_iconst (v := 0) hx hb dX2_check_39 (by decide) ?_
      exact W.zret (v := 0) hx hb hr rfl (fun t ht _ => ⟨0, rfl, (by first | exact Or.inr ⟨rfl, fun h => h.1 c_4⟩ | exact Or.inr ⟨rfl, fun h => fq_b0 hw_8 c_11 h.2.1⟩ | exact Or.inr ⟨rfl, fun h => fq_b0 hw_15 c_18 h.2.2.1⟩ | exact Or.inr ⟨rfl, fun h => fq_b0 hw_22 c_25 h.2.2.2.1⟩ | exact Or.inr ⟨rfl, fun h => fq_b0 hw_29 c_32 h.2.2.2.2⟩ | exact Or.inl ⟨rfl, c_4, fq_b1 hw_8 c_11, fq_b1 hw_15 c_18, fq_b1 hw_22 c_25, fq_b1 hw_29 c_32⟩), ht⟩) (fun _ h => by cases h) dX2_check_40
    · refine lv_aload_n hx hb dX2_check_14 rfl (lv_at hl 0 rfl) ?_
      have hPc := hP.sub (ws' := [(q 0, .inr (2, [.ref (q 1), .ref (q 7), .ref (q 10), .ref (q 13), .int wl, .int src, .int snk, .int cir, .int sol, .int rd, .int fw])), (q 1, .inr (1, [.int (nI N), .ref (q 2), .ref (q 3), .ref (q 4), .ref (q 5), .ref (q 6), .int (nI E)])), (q 2, .inl (cI, M, .inl fr)), (q 3, .inl (cI, M, .inl to)), (q 4, .inl (cI, M, .inl cap)), (q 5, .inl (cI, M, .inl uc)), (q 6, .inl (cI, M, .inl fl))]) [0, 1, 2, 3, 4, 5, 6] rfl
      refine vp_callSi (W.runV (As := []) (rest := []) ⟨hx, hb, hml, hown, hts⟩ (k_nodesPassOn l dC dI cI cJ cZ q N M E fr to cap uc fl le fe lt ft wy wl src snk cir sol rd fw hE hM hN) (cwV 0 hts gX2_check_X2_nodesPassOn rfl rfl rfl (by decide +kernel) ⟨Nat.le_of_ble_eq_true rfl, Nat.le_of_ble_eq_true rfl⟩) ⟨fun a U g mk q => by obtain ⟨q0, qP, qK⟩ := q; exact ⟨q0, qP, va_K.moved (u := U) (U := U.calling g mk a) (Vm.Alike.refl U.vm) qK⟩, va_recv hK hP (ci := 2) (q0 := 0) rfl rfl, fun U hU hW => ⟨rfl, by rw [hU]; exact hPc, va_K.moved hW.alike hK⟩⟩ rfl rfl hl.1 rfl (lv_room (Nat.le_of_ble_eq_true rfl)) dX2_check_15 ⟨Nat.le_of_ble_eq_true rfl, Nat.le_of_ble_eq_true rfl⟩) (fun r_15 hw_15 => ?_)
      refine lv_if_eq (tgt := 39) hx hb dX2_check_18 (by decide) (fun c_18 => ?_) (fun c_18 => ?_)
      · refine lv_iconst (v := 0) hx hb dX2_check_39 (by decide) ?_
        exact W.zret (v := 0) hx hb hr rfl (fun t ht _ => ⟨0, rfl, (by first | exact Or.inr ⟨rfl, fun h => h.1 c_4⟩ | exact Or.inr ⟨rfl, fun h => fq_b0 hw_8 c_11 h.2.1⟩ | exact Or.inr ⟨rfl, fun h => fq_b0 hw_15 c_18 h.2.2.1⟩ | exact Or.inr ⟨rfl, fun h => fq_b0 hw_22 c_25 h.2.2.2.1⟩ | exact Or.inr ⟨rfl, fun h => fq_b0 hw_29 c_32 h.2.2.2.2⟩ | exact Or.inl ⟨rfl, c_4, fq_b1 hw_8 c_11, fq_b1 hw_15 c_18, fq_b1 hw_22 c_25, fq_b1 hw_29 c_32⟩), ht⟩) (fun _ h => by cases h) dX2_check_40
      · refine lv_aload_n hx hb dX2_check_21 rfl (lv_at hl 0 rfl) ?_
        have hPc := hP.sub (ws' := [(q 0, .inr (2, [.ref (q 1), .ref (q 7), .ref (q 10), .ref (q 13), .int wl, .int src, .int snk, .int cir, .int sol, .int rd, .int fw])), (q 1, .inr (1, [.int (nI N), .ref (q 2), .ref (q 3), .ref (q 4), .ref (q 5), .ref (q 6), .int (nI E)])), (q 2, .inl (cI, M, .inl fr)), (q 3, .inl (cI, M, .inl to)), (q 4, .inl (cI, M, .inl cap)), (q 5, .inl (cI, M, .inl uc)), (q 6, .inl (cI, M, .inl fl)), (q 7, .inr (0, [.ref (q 8), .ref (q 9), .ref (q 1)])), (q 8, .inl (cI, N, .inl le)), (q 9, .inl (cI, N, .inl fe))]) [0, 1, 2, 3, 4, 5, 6, 7, 8, 9] rfl
        refine vp_callSi (W.runV (As := []) (rest := []) ⟨hx, hb, hml, hown, hts⟩ (k_cutIsTight l dC dI cI cJ cZ q N M E fr to cap uc fl le fe lt ft wy wl src snk cir sol rd fw hE hM hN hfr hto) (cwV 0 hts gX2_check_X2_cutIsTight rfl rfl rfl (by decide +kernel) ⟨Nat.le_of_ble_eq_true rfl, Nat.le_of_ble_eq_true rfl⟩) ⟨fun a U g mk q => by obtain ⟨q0, qP, qK⟩ := q; exact ⟨q0, qP, va_K.moved (u := U) (U := U.calling g mk a) (Vm.Alike.refl U.vm) qK⟩, va_recv hK hP (ci := 2) (q0 := 0) rfl rfl, fun U hU hW => ⟨rfl, by rw [hU]; exact hPc, va_K.moved hW.alike hK⟩⟩ rfl rfl hl.1 rfl (lv_room (Nat.le_of_ble_eq_true rfl)) dX2_check_22 ⟨Nat.le_of_ble_eq_true rfl, Nat.le_of_ble_eq_true rfl⟩) (fun r_22 hw_22 => ?_)
        refine lv_if_eq (tgt := 39) hx hb dX2_check_25 (by decide) (fun c_25 => ?_) (fun c_25 => ?_)
        · refine lv_iconst (v := 0) hx hb dX2_check_39 (by decide) ?_
          exact W.zret (v := 0) hx hb hr rfl (fun t ht _ => ⟨0, rfl, (by first | exact Or.inr ⟨rfl, fun h => h.1 c_4⟩ | exact Or.inr ⟨rfl, fun h => fq_b0 hw_8 c_11 h.2.1⟩ | exact Or.inr ⟨rfl, fun h => fq_b0 hw_15 c_18 h.2.2.1⟩ | exact Or.inr ⟨rfl, fun h => fq_b0 hw_22 c_25 h.2.2.2.1⟩ | exact Or.inr ⟨rfl, fun h => fq_b0 hw_29 c_32 h.2.2.2.2⟩ | exact Or.inl ⟨rfl, c_4, fq_b1 hw_8 c_11, fq_b1 hw_15 c_18, fq_b1 hw_22 c_25, fq_b1 hw_29 c_32⟩), ht⟩) (fun _ h => by cases h) dX2_check_40
        · refine lv_aload_n hx hb dX2_check_28 rfl (lv_at hl 0 rfl) ?_
          have hPc := hP.sub (ws' := [(q 0, .inr (2, [.ref (q 1), .ref (q 7), .ref (q 10), .ref (q 13), .int wl, .int src, .int snk, .int cir, .int sol, .int rd, .int fw])), (q 1, .inr (1, [.int (nI N), .ref (q 2), .ref (q 3), .ref (q 4), .ref (q 5), .ref (q 6), .int (nI E)])), (q 2, .inl (cI, M, .inl fr)), (q 3, .inl (cI, M, .inl to)), (q 4, .inl (cI, M, .inl cap)), (q 5, .inl (cI, M, .inl uc)), (q 6, .inl (cI, M, .inl fl)), (q 7, .inr (0, [.ref (q 8), .ref (q 9), .ref (q 1)])), (q 8, .inl (cI, N, .inl le)), (q 9, .inl (cI, N, .inl fe))]) [0, 1, 2, 3, 4, 5, 6, 7, 8, 9] rfl
          refine vp_callSi (W.runV (As := []) (rest := []) ⟨hx, hb, hml, hown, hts⟩ (k_potentialsHold l dC dI cI cJ cZ q N M E fr to cap uc fl le fe lt ft wy wl src snk cir sol rd fw hE hM hN hfr hto) (cwV 0 hts gX2_check_X2_potentialsHold rfl rfl rfl (by decide +kernel) ⟨Nat.le_of_ble_eq_true rfl, Nat.le_of_ble_eq_true rfl⟩) ⟨fun a U g mk q => by obtain ⟨q0, qP, qK⟩ := q; exact ⟨q0, qP, va_K.moved (u := U) (U := U.calling g mk a) (Vm.Alike.refl U.vm) qK⟩, va_recv hK hP (ci := 2) (q0 := 0) rfl rfl, fun U hU hW => ⟨rfl, by rw [hU]; exact hPc, va_K.moved hW.alike hK⟩⟩ rfl rfl hl.1 rfl (lv_room (Nat.le_of_ble_eq_true rfl)) dX2_check_29 ⟨Nat.le_of_ble_eq_true rfl, Nat.le_of_ble_eq_true rfl⟩) (fun r_29 hw_29 => ?_)
          refine lv_if_eq (tgt := 39) hx hb dX2_check_32 (by decide) (fun c_32 => ?_) (fun c_32 => ?_)
          · refine lv_iconst (v := 0) hx hb dX2_check_39 (by decide) ?_
            exact W.zret (v := 0) hx hb hr rfl (fun t ht _ => ⟨0, rfl, (by first | exact Or.inr ⟨rfl, fun h => h.1 c_4⟩ | exact Or.inr ⟨rfl, fun h => fq_b0 hw_8 c_11 h.2.1⟩ | exact Or.inr ⟨rfl, fun h => fq_b0 hw_15 c_18 h.2.2.1⟩ | exact Or.inr ⟨rfl, fun h => fq_b0 hw_22 c_25 h.2.2.2.1⟩ | exact Or.inr ⟨rfl, fun h => fq_b0 hw_29 c_32 h.2.2.2.2⟩ | exact Or.inl ⟨rfl, c_4, fq_b1 hw_8 c_11, fq_b1 hw_15 c_18, fq_b1 hw_22 c_25, fq_b1 hw_29 c_32⟩), ht⟩) (fun _ h => by cases h) dX2_check_40
          · refine lv_iconst (v := 1) hx hb dX2_check_35 (by decide) ?_
            refine lv_goto (tgt := 40) hx hb dX2_check_36 (by decide) ?_
            exact W.zret (v := 1) hx hb hr rfl (fun t ht _ => ⟨1, rfl, (by first | exact Or.inr ⟨rfl, fun h => h.1 c_4⟩ | exact Or.inr ⟨rfl, fun h => fq_b0 hw_8 c_11 h.2.1⟩ | exact Or.inr ⟨rfl, fun h => fq_b0 hw_15 c_18 h.2.2.1⟩ | exact Or.inr ⟨rfl, fun h => fq_b0 hw_22 c_25 h.2.2.2.1⟩ | exact Or.inr ⟨rfl, fun h => fq_b0 hw_29 c_32 h.2.2.2.2⟩ | exact Or.inl ⟨rfl, c_4, fq_b1 hw_8 c_11, fq_b1 hw_15 c_18, fq_b1 hw_22 c_25, fq_b1 hw_29 c_32⟩), ht⟩) (fun _ h => by cases h) dX2_check_40
